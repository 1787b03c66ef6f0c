/-- the plain form's step, number by number -/
theorem kst_at {f : Nat → Int32} {n m : Nat} (hn : f 3 = nI n) (h30 : n ≤ 30) (hm : m = if n = 30 then 29 else n) : kstF f 3 = nI (m + 1) ∧ (∀ k, k < 470 → k ≠ 3 → kstF f k = f k) ∧ (∀ i k, i < m → k < 355 → kstF f (470 + 355 * i + k) = f (470 + 355 * (if n = 30 then i + 1 else i) + k)) ∧ ∀ k, k < 355 → kstF f (470 + 355 * m + k) = f (110 + k) := by
  have hm30 : m < 30 := by subst hm; split <;> omega
  have nz : ¬ n = 30 → ¬ f 3 = 30 := fun c q => c ((nI_eq (b := 30) (by omega) (by decide)).mp (hn.symm.trans q))
  have e3 : kst0 f 3 = nI m := by
    unfold kst0
    by_cases c : n = 30
    · rw [if_pos (by rw [hn, c]; rfl), ud_eq, hm, if_pos c]; rfl
    · rw [if_neg (nz c), hn, hm, if_neg c]
  have elo : ∀ k, k < 470 → k ≠ 3 → kst0 f k = f k := fun k hk h3 => by
    unfold kst0
    split
    · rw [ud_ne h3]; unfold mv; rw [if_neg (by omega)]
    · rfl
  have ehi : ∀ i k, i < m → k < 355 → kst0 f (470 + 355 * i + k) = f (470 + 355 * (if n = 30 then i + 1 else i) + k) := fun i k hi hk => by
    unfold kst0
    by_cases c : n = 30
    · rw [if_pos (by rw [hn, c]; rfl), if_pos c, ud_ne (by omega)]
      unfold mv
      rw [hm, if_pos c] at hi
      rw [if_pos (by omega), show 825 + (470 + 355 * i + k - 470) = 470 + 355 * (i + 1) + k by omega]
    · rw [if_neg (nz c), if_neg c]
  unfold kstF
  rw [e3, nI_clamp (by omega)]
  refine ⟨by rw [ud_eq, nI_1], fun k hk h3 => ?_, fun i k hi hk => ?_, fun k hk => ?_⟩
  · rw [ud_ne h3]; unfold mv; rw [if_neg (by omega), elo k hk h3]
  · rw [ud_ne (by omega)]; unfold mv; rw [if_neg (by omega), ehi i k hi hk]
  · rw [ud_ne (by omega)]; unfold mv; rw [if_pos (by omega), show 110 + (470 + 355 * m + k - (470 + 355 * m)) = 110 + k by omega, elo _ (by omega) (by omega)]
theorem okf_kst {f : Nat → Int32} (o : okf f) : okf (kstF f) := by
  obtain ⟨oh, o2, o3, o4⟩ := o
  have hn : f 3 = nI (f 3).toNatClampNeg := nI_of_toInt oh.2.2.2.1.1
  have cn := ci oh.2.2.2.1.1
  have h30 := oh.2.2.2.1.2
  generalize hnn : (f 3).toNatClampNeg = n at *
  obtain ⟨k1, k2, k3, k4⟩ := kst_at hn (by omega) rfl
  generalize hm : (if n = 30 then 29 else n) = m at *
  have hm30 : m < 30 := by rw [← hm]; split <;> omega
  refine ⟨?_, ?_, ?_, ?_⟩
  · obtain ⟨q0, q1, q2, q3, q4, q5, q6, q7⟩ := oh
    have c5 := ci q5.1
    unfold okh
    rw [k1, k2 0 (by decide) (by decide), k2 1 (by decide) (by decide), k2 2 (by decide) (by decide), k2 4 (by decide) (by decide), k2 5 (by decide) (by decide), nI_toInt (by omega)]
    refine ⟨q0, q1, q2, ⟨by omega, by omega⟩, q4, q5, fun e he => ?_, fun k hk => ?_⟩
    · rw [k2 _ (by omega) (by omega), k2 _ (by omega) (by omega), k2 _ (by omega) (by omega)]; exact q6 e he
    · rw [k2 _ (by omega) (by omega), k2 _ (by omega) (by omega)]; exact q7 k hk
  · rw [k2 0 (by decide) (by decide)]
    exact okr_congr (r := row f 110) (fun k hk => k2 _ (by omega) (by omega)) o2
  · intro i hi
    rw [k1, nI_clamp (by omega)] at hi
    rw [k2 0 (by decide) (by decide), show row (kstF f) 110 22 = row f 110 22 from k2 _ (by decide) (by decide), show row (kstF f) 110 263 = row f 110 263 from k2 _ (by decide) (by decide)]
    by_cases him : i = m
    · rw [him, show row (kstF f) (470 + 355 * m) 22 = row f 110 22 from k4 22 (by decide), show row (kstF f) (470 + 355 * m) 263 = row f 110 263 from k4 263 (by decide)]
      exact ⟨okr_congr (r := row f 110) (fun k hk => k4 k hk) o2, by omega, by omega⟩
    · have hin : (if n = 30 then i + 1 else i) < n := by by_cases c : n = 30 <;> simp only [c, if_true, if_false] at hm ⊢ <;> omega
      obtain ⟨a1, a2, a3⟩ := o3 _ hin
      rw [show row (kstF f) (470 + 355 * i) 22 = row f (470 + 355 * (if n = 30 then i + 1 else i)) 22 from k3 i 22 (by omega) (by decide), show row (kstF f) (470 + 355 * i) 263 = row f (470 + 355 * (if n = 30 then i + 1 else i)) 263 from k3 i 263 (by omega) (by decide)]
      exact ⟨okr_congr (r := row f (470 + 355 * (if n = 30 then i + 1 else i))) (fun k hk => k3 i k (by omega) hk) a1, a2, a3⟩
  · intro i j hij hj
    rw [k1, nI_clamp (by omega)] at hj
    rw [show row (kstF f) (470 + 355 * i) 22 = row f (470 + 355 * (if n = 30 then i + 1 else i)) 22 from k3 i 22 (by omega) (by decide), show row (kstF f) (470 + 355 * i) 263 = row f (470 + 355 * (if n = 30 then i + 1 else i)) 263 from k3 i 263 (by omega) (by decide)]
    have hin : (if n = 30 then i + 1 else i) < n := by by_cases c : n = 30 <;> simp only [c, if_true, if_false] at hm ⊢ <;> omega
    by_cases hjm : j = m
    · rw [hjm, show row (kstF f) (470 + 355 * m) 22 = row f 110 22 from k4 22 (by decide), show row (kstF f) (470 + 355 * m) 263 = row f 110 263 from k4 263 (by decide)]
      exact (o3 _ hin).2
    · rw [show row (kstF f) (470 + 355 * j) 22 = row f (470 + 355 * (if n = 30 then j + 1 else j)) 22 from k3 j 22 (by omega) (by decide), show row (kstF f) (470 + 355 * j) 263 = row f (470 + 355 * (if n = 30 then j + 1 else j)) 263 from k3 j 263 (by omega) (by decide)]
      refine o4 _ _ ?_ ?_ <;> by_cases c : n = 30 <;> simp only [c, if_true, if_false] at hm ⊢ <;> omega
theorem scR_of_eq {I I' : gI} {x z sp de : Nat} {r : Nat → Int32} (h : scEq I' x I z) (hs : I' sp = I sp) (hd : I' de = I de) (q : scR I z sp de r) : scR I' x sp de r := by
  obtain ⟨q1, q2, q3, q4, q5, q6, q7, q8⟩ := q
  obtain ⟨h1, h2, h3, h4, h5, h6⟩ := h
  unfold scR
  rw [h4, h5, h6, hs, hd]
  exact ⟨fun j hj => by rw [h1 j hj]; exact q1 j hj, fun j hj => by rw [h2 j hj]; exact q2 j hj, fun j hj => by rw [h3 j hj]; exact q3 j hj, q4, q5, q6, q7, q8⟩
def stp (I : gI) (R : gR) (f : Nat → Int32) : Prop := ∃ π, pmR R π ∧ CR I 3 (fun i => 9 + 4 * π i) f
theorem k_X1_keepStep2 {G : gG} {I : gI} {R : gR} {L : gL} {Q : gQ} (hR : g_Fx R) (p0 : ∃ f, okf f ∧ stp I R f) (hq : ∀ I1 : gI, ∀ R1 : gR, (g_Fx R1 ∧ (∀ f, okf f → stp I R f → stp I1 R1 (kstF f)) ∧ (∀ a, a ≠ 3 → (a < 9 ∨ 128 < a) → I1 a = I a) ∧ ∀ j, j ≠ 2 → I1 3 j = I 3 j) → Q none SH I1 R1 L) : Mt G mX1_keepStep 4 0 0 [.ref 3] SH I R L Q := by
  obtain ⟨f0, o0, π, hπ, c0, -, -⟩ := p0
  have hn0 : f0 3 = nI (f0 3).toNatClampNeg := nI_of_toInt o0.1.2.2.2.1.1
  have cn0 := ci o0.1.2.2.2.1.1
  have h300 := o0.1.2.2.2.1.2
  refine k_X1_keepStep (n := (f0 3).toNatClampNeg) hR hπ (c0.2.2.2.1.trans hn0) (by omega) ?_
  intro I1 R1 m ρ g1 g2 g3 g4 g5 g6 g7 g8
  have hm30 : m < 30 := by rw [g3]; split <;> omega
  have hρ := (g2.1 m hm30).1
  have gx : ∀ a, a ≠ 3 → (a < 9 ∨ 128 < a) → I1 a = I a := fun a h1 h2 => g8 a h1 (by omega)
  refine hq I1 R1 ⟨g1, fun f o hs => ?_, gx, g6⟩
  obtain ⟨π', hπ', c1, c2, c3'⟩ := hs
  have oh := o.1
  have ef : f 3 = f0 3 := c1.2.2.2.1.symm.trans c0.2.2.2.1
  have hn : f 3 = nI (f0 3).toNatClampNeg := ef.trans hn0
  generalize hnn : (f0 3).toNatClampNeg = n at *
  have hnf : (f 3).toNatClampNeg = n := by rw [hn, nI_clamp (by omega)]
  have c3 : ∀ i, i < n → scR I (9 + 4 * π i) 132 133 (row f (470 + 355 * i)) := fun i hi => by
    have a1 := (hπ.1 i (by omega)).2
    have a2 := (hπ'.1 i (by omega)).2
    rw [a1] at a2
    have := c3' i (by rw [hnf]; exact hi)
    have e : 9 + 4 * π i = 9 + 4 * π' i := by simpa using a2
    rw [e]
    exact this
  obtain ⟨k1, k2, k3, k4⟩ := kst_at hn (by omega) g3
  refine ⟨ρ, g2, ?_, ?_, fun i hi => ?_⟩
  · obtain ⟨e0, e1, e2, e3, e4, e5, e6, e7, e8⟩ := c1
    have d4 := ci oh.2.2.2.2.1.1
    have d5 := ci oh.2.2.2.2.2.1.1
    have b4 := oh.2.2.2.2.1.2
    have b5 := oh.2.2.2.2.2.1.2
    unfold coR
    rw [g5, g6 6 (by decide), g6 9 (by decide), g6 10 (by decide), g6 12 (by decide), g6 14 (by decide), g6 11 (by decide), k1, k2 0 (by decide) (by decide), k2 1 (by decide) (by decide), k2 2 (by decide) (by decide), k2 4 (by decide) (by decide), k2 5 (by decide) (by decide), gx (3 + 126) (by decide) (by decide), gx (3 + 127) (by decide) (by decide), gx (3 + 128) (by decide) (by decide), gx (3 + 131) (by decide) (by decide), fitF_congr (fun k hk hk2 => k2 k (by omega) (by omega)) _ (by omega)]
    refine ⟨e0, e1, e2, rfl, e4, e5, fun e he => ?_, e7, fun e he => ?_⟩
    · rw [k2 _ (by omega) (by omega), k2 _ (by omega) (by omega), k2 _ (by omega) (by omega)]; exact e6 e he
    · rw [tolF_congr (fun k hk hk2 => k2 k (by omega) (by omega)) _ (by omega)]; exact e8 e he
  · exact scR_congr (r := row f 110) (fun k hk => k2 _ (by omega) (by omega)) o.2.1.2.2.2.1 o.2.1.2.2.2.2.1 (gx _ (by decide) (by decide)) (gx _ (by decide) (by decide)) (gx _ (by decide) (by decide)) (gx _ (by decide) (by decide)) (fun j _ => by rw [gx _ (by decide) (by decide)]) (fun j _ => by rw [gx _ (by decide) (by decide)]) c2
  · rw [k1, nI_clamp (by omega)] at hi
    by_cases him : i = m
    · rw [him]
      have q := scR_of_eq g7 (gx 132 (by decide) (by decide)) (gx 133 (by decide) (by decide)) c2
      exact scR_congr (r := row f 110) (fun k hk => k4 k hk) o.2.1.2.2.2.1 o.2.1.2.2.2.2.1 rfl rfl rfl rfl (fun _ _ => rfl) (fun _ _ => rfl) q
    · have hin : (if n = 30 then i + 1 else i) < n := by by_cases c : n = 30 <;> simp only [c, if_true, if_false] at g3 ⊢ <;> omega
      have hpi : ρ i = π (if n = 30 then i + 1 else i) := by
        rw [g4]
        by_cases c : n = 30
        · rw [if_pos c, if_pos c]; unfold rot; rw [if_pos (by omega)]
        · rw [if_neg c, if_neg c]
      have hne : ρ i ≠ ρ m := fun q => him (g2.2 i m (by omega) hm30 q)
      have q := c3 _ hin
      have ho := (o.2.2.1 _ (by rw [hnf]; exact hin)).1
      have hri := (g2.1 i (by omega)).1
      show scR I1 (9 + 4 * ρ i) _ _ _
      simp only [← hpi] at q
      exact scR_congr (r := row f (470 + 355 * (if n = 30 then i + 1 else i))) (fun k hk => k3 i k (by omega) hk) ho.2.2.2.1 ho.2.2.2.2.1 (g8 _ (by omega) (by omega)) (g8 _ (by omega) (by omega)) (g8 _ (by omega) (by omega)) (g8 _ (by omega) (by omega)) (fun j _ => by rw [gx _ (by decide) (by decide)]) (fun j _ => by rw [gx _ (by decide) (by decide)]) q
