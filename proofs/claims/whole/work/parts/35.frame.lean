/-! what is left as it was -/
theorem fitF_congr {f f' : Nat → Int32} (h : ∀ k, 40 ≤ k → k < 64 → f' k = f k) : ∀ n, n ≤ 12 → fitF f' n = fitF f n
  | 0, _ => rfl
  | n + 1, hn => by simp only [fitF]; rw [fitF_congr h n (by omega), h _ (by omega) (by omega), h _ (by omega) (by omega)]
theorem tolF_congr {f f' : Nat → Int32} {e : Nat} (h : ∀ k, 64 ≤ k → k < 104 → f' k = f k) : ∀ n, n ≤ 20 → tolF f' e n = tolF f e n
  | 0, _ => rfl
  | n + 1, hn => by simp only [tolF]; rw [tolF_congr h n (by omega), h _ (by omega) (by omega), h _ (by omega) (by omega)]
theorem okh_congr {f f' : Nat → Int32} (h : ∀ k, k < 110 → f' k = f k) (o : okh f) : okh f' := by
  obtain ⟨o0, o1, o2, o3, o4, o5, o6, o7⟩ := o
  have c5 := ci o5.1
  unfold okh
  rw [h 0 (by decide), h 1 (by decide), h 2 (by decide), h 3 (by decide), h 4 (by decide), h 5 (by decide)]
  refine ⟨o0, o1, o2, o3, o4, o5, fun e he => ?_, fun k hk => ?_⟩
  · rw [h _ (by omega), h _ (by omega), h _ (by omega)]; exact o6 e he
  · rw [h _ (by omega), h _ (by omega)]; exact o7 k hk
theorem coR_congr {I I' : gI} {c : Nat} {f f' : Nat → Int32} (h : ∀ k, k < 110 → f' k = f k) (o : okh f) (hc : I' c = I c) (h1 : I' (c + 126) = I (c + 126)) (h2 : I' (c + 127) = I (c + 127)) (h3 : I' (c + 128) = I (c + 128)) (h4 : I' (c + 131) = I (c + 131)) (r : coR I c f) : coR I' c f' := by
  obtain ⟨c0, c1, c2, c3, c4, c5, c6, c7, c8⟩ := r
  have d4 := ci o.2.2.2.2.1.1
  have d5 := ci o.2.2.2.2.2.1.1
  have e4 := o.2.2.2.2.1.2
  have e5 := o.2.2.2.2.2.1.2
  unfold coR
  rw [hc, h1, h2, h3, h4, h 0 (by decide), h 1 (by decide), h 2 (by decide), h 3 (by decide), h 4 (by decide), h 5 (by decide), fitF_congr (fun k _ hk => h k (by omega)) _ (by omega)]
  refine ⟨c0, c1, c2, c3, c4, c5, fun e he => ?_, c7, fun e he => ?_⟩
  · rw [h _ (by omega), h _ (by omega), h _ (by omega)]; exact c6 e he
  · rw [tolF_congr (fun k _ hk => h k (by omega)) _ (by omega)]; exact c8 e he
/-- a scene, its cells and its part of the rows as they were -/
theorem scR_congr {I I' : gI} {x sp de : Nat} {r r' : Nat → Int32} (hr : ∀ k, k < 355 → r' k = r k) (o4 : 0 ≤ (r 22).toInt ∧ (r 22).toInt ≤ 60) (o5 : 0 ≤ (r 263).toInt ∧ (r 263).toInt ≤ 30) (h0 : I' x = I x) (h1 : I' (x + 1) = I (x + 1)) (h2 : I' (x + 2) = I (x + 2)) (h3 : I' (x + 3) = I (x + 3)) (hs : ∀ j, j < 4 * (r 22).toNatClampNeg → I' sp j = I sp j) (hd : ∀ j, j < 3 * (r 263).toNatClampNeg → I' de j = I de j) (h : scR I x sp de r) : scR I' x sp de r' := by
  obtain ⟨q1, q2, q3, q4, q5, q6, q7, q8⟩ := h
  have c4 := ci o4.1
  have c5 := ci o5.1
  unfold scR
  rw [h0, h1, h2, h3, hr 22 (by decide), hr 263 (by decide), hr 354 (by decide)]
  refine ⟨fun j hj => ?_, fun j hj => ?_, fun j hj => ?_, q4, q5, q6, fun j hj => ?_, fun j hj => ?_⟩
  · rw [hr _ (by omega)]; exact q1 j hj
  · rw [hr _ (by omega)]; exact q2 j hj
  · rw [hr _ (by omega)]; exact q3 j hj
  · rw [hr _ (by omega), hs j hj]; exact q7 j hj
  · rw [hr _ (by omega), hd j hj]; exact q8 j hj
/-- a court, untouched -/
theorem CR_congr {I I' : gI} {c : Nat} {p : Nat → Nat} {f : Nat → Int32} (h : ∀ a, c ≤ a → a ≤ c + 131 → I' a = I a) (hp : ∀ i, i < 30 → c ≤ p i ∧ p i + 3 ≤ c + 131) (o : okf f) (r : CR I c p f) : CR I' c p f := by
  obtain ⟨r1, r2, r3⟩ := r
  have o3 := ci o.1.2.2.2.1.1
  have o3' := o.1.2.2.2.1.2
  refine ⟨coR_congr (fun _ _ => rfl) o.1 (h _ (by omega) (by omega)) (h _ (by omega) (by omega)) (h _ (by omega) (by omega)) (h _ (by omega) (by omega)) (h _ (by omega) (by omega)) r1, ?_, fun i hi => ?_⟩
  · exact scR_congr (fun _ _ => rfl) o.2.1.2.2.2.1 o.2.1.2.2.2.2.1 (h _ (by omega) (by omega)) (h _ (by omega) (by omega)) (h _ (by omega) (by omega)) (h _ (by omega) (by omega)) (fun j _ => by rw [h _ (by omega) (by omega)]) (fun j _ => by rw [h _ (by omega) (by omega)]) r2
  · have hpi := hp i (by omega)
    have ho := (o.2.2.1 i hi).1
    exact scR_congr (fun _ _ => rfl) ho.2.2.2.1 ho.2.2.2.2.1 (h _ (by omega) (by omega)) (h _ (by omega) (by omega)) (h _ (by omega) (by omega)) (h _ (by omega) (by omega)) (fun j _ => by rw [h _ (by omega) (by omega)]) (fun j _ => by rw [h _ (by omega) (by omega)]) (r3 i hi)
/-- the scene that is, changed alone -/
theorem CR_now {I I' : gI} {p : Nat → Nat} {f f' : Nat → Int32} (r : CR I 3 p f) (o : okf f) (hp : ∀ i, i < 30 → 9 ≤ p i ∧ p i + 3 ≤ 128) (hf1 : ∀ k, k < 110 → f' k = f k) (hf2 : ∀ k, 470 ≤ k → f' k = f k) (h3 : I' 3 = I 3) (h1 : I' 129 = I 129) (h2 : I' 130 = I 130) (h4 : I' 131 = I 131) (h5 : I' 134 = I 134) (hst : ∀ a, 9 ≤ a → a ≤ 128 → I' a = I a) (hs : ∀ j, j < 4 * (row f 110 22).toNatClampNeg → I' 132 j = I 132 j) (hd : ∀ j, j < 3 * (row f 110 263).toNatClampNeg → I' 133 j = I 133 j) (hsc : scR I' 4 132 133 (row f' 110)) : CR I' 3 p f' := by
  obtain ⟨r1, r2, r3⟩ := r
  have o3 := ci o.1.2.2.2.1.1
  have o3' := o.1.2.2.2.1.2
  refine ⟨coR_congr hf1 o.1 h3 h1 h2 h4 h5 r1, hsc, fun i hi => ?_⟩
  rw [hf1 3 (by decide)] at hi
  have hpi := hp i (by omega)
  obtain ⟨ho, hl1, hl2⟩ := o.2.2.1 i hi
  have k1 := ci ho.2.2.2.1.1
  have k2 := ci ho.2.2.2.2.1.1
  have k3 := ci o.2.1.2.2.2.1.1
  have k4 := ci o.2.1.2.2.2.2.1.1
  exact scR_congr (r := row f (470 + 355 * i)) (r' := row f' (470 + 355 * i)) (fun k _ => hf2 _ (by omega)) ho.2.2.2.1 ho.2.2.2.2.1 (hst _ (by omega) (by omega)) (hst _ (by omega) (by omega)) (hst _ (by omega) (by omega)) (hst _ (by omega) (by omega)) (fun j hj => hs j (by omega)) (fun j hj => hd j (by omega)) (r3 i hi)
theorem okr_congr {E : Nat} {r r' : Nat → Int32} (h : ∀ k, k < 355 → r' k = r k) (o : okr E r) : okr E r' := by
  obtain ⟨q1, q2, q3, q4, q5, q6, q7⟩ := o
  unfold okr
  rw [h 22 (by decide), h 263 (by decide), h 354 (by decide)]
  refine ⟨fun j hj => ?_, fun e he => ?_, fun e he => ?_, q4, q5, q6, fun e h1 h2 => ?_⟩
  · rw [h _ (by omega)]; exact q1 j hj
  · rw [h _ (by omega)]; exact q2 e he
  · rw [h _ (by omega)]; exact q3 e he
  · rw [h _ (by omega), h _ (by omega)]; exact q7 e h1 h2
theorem okf_now {f f' : Nat → Int32} (o : okf f) (hf1 : ∀ k, k < 110 → f' k = f k) (hf2 : ∀ k, 470 ≤ k → f' k = f k) (hr : okr (f 0).toNatClampNeg (row f' 110)) (hs : (row f 110 22).toInt ≤ (row f' 110 22).toInt) (hd : (row f 110 263).toInt ≤ (row f' 110 263).toInt) : okf f' := by
  obtain ⟨o1, o2, o3, o4⟩ := o
  have er : ∀ i k, row f' (470 + 355 * i) k = row f (470 + 355 * i) k := fun i k => hf2 _ (by omega)
  refine ⟨okh_congr hf1 o1, ?_⟩
  unfold okst
  rw [hf1 0 (by decide), hf1 3 (by decide)]
  refine ⟨hr, fun i hi => ?_, fun i j hij hj => ?_⟩
  · obtain ⟨a1, a2, a3⟩ := o3 i hi
    rw [er, er]
    exact ⟨okr_congr (fun k _ => er i k) a1, by omega, by omega⟩
  · rw [er, er, er, er]; exact o4 i j hij hj
/-- cells that no step touches -/
def kp (I I' : gI) : Prop := (∀ a, 136 ≤ a → a ≤ 163 → I' a = I a) ∧ (∀ a, 174 ≤ a → a ≤ 305 → I' a = I a) ∧ I' 307 = I 307 ∧ (∀ a, 312 ≤ a → a ≤ 320 → I' a = I a) ∧ I' 0 6 = I 0 6 ∧ I' 0 7 = I 0 7 ∧ I' 0 8 = I 0 8 ∧ I' 310 3 = I 310 3 ∧ I' 310 4 = I 310 4 ∧ I' 310 5 = I 310 5
theorem lwR_congr {I I' : gI} {t : Nat} (ht : t < 4) (h1 : ∀ a, 136 ≤ a → a ≤ 163 → I' a = I a) (h2 : ∀ a, 314 ≤ a → a ≤ 320 → I' a = I a) (h : lwR I t) : lwR I' t := by
  have e1 : ∀ k, k ≤ 6 → I' (136 + 7 * t + k) = I (136 + 7 * t + k) := fun k hk => h1 _ (by omega) (by omega)
  have e0 := e1 0 (by decide)
  rw [Nat.add_zero] at e0
  have ek : ∀ w, tkl I' (136 + 7 * t) w = tkl I (136 + 7 * t) w := fun w => tkl_congr (e1 1 (by decide)) (e1 2 (by decide)) (e1 3 (by decide))
  have em : ∀ n, tkM I' n = tkM I n := fun n => by unfold tkM; rw [h2 319 (by decide) (by decide), h2 320 (by decide) (by decide)]
  unfold lwR
  simp only [e0, e1 2 (by decide), e1 3 (by decide), e1 4 (by decide), e1 5 (by decide), e1 6 (by decide), ek, em, h2 314 (by decide) (by decide), h2 315 (by decide) (by decide), h2 316 (by decide) (by decide), h2 317 (by decide) (by decide), h2 318 (by decide) (by decide), h2 319 (by decide) (by decide)]
  exact h
theorem tpR_congr {I I' : gI} (h : kp I I') (h3 : I' 313 = I 313) (r : tpR I) : tpR I' := by
  obtain ⟨-, -, k1, -, k2, k3, k4, k5, k6, k7⟩ := h
  unfold tpR
  rw [k1, k2, k3, k4, k5, k6, k7, h3]
  exact r
theorem p9 {R : gR} {π : Nat → Nat} (h : pmR R π) : ∀ i, i < 30 → 9 ≤ 9 + 4 * π i ∧ 9 + 4 * π i + 3 ≤ 128 := fun i hi => by have := (h.1 i hi).1; omega
theorem Rel0_up {I I' : gI} {R R' : gR} {ρ : Nat → Nat} (h : Rel0 I R) (k : kp I I') (hF : g_Fx R') (hp : pmR R' ρ) (hc : CR I' 3 (fun i => 9 + 4 * ρ i) (I' 311)) (ho : okf (I' 311)) (ht : I' 311 1 = I 311 1) : Rel0 I' R' := by
  obtain ⟨h1, ⟨π, h2, h3⟩, h4, h5, h6, h7, h8, h9⟩ := h
  have e312 : I' 312 = I 312 := k.2.2.2.1 _ (by decide) (by decide)
  have o1 := h5.1.2.1
  have c1 := ci o1.1
  refine ⟨hF, ⟨ρ, hp, hc⟩, ?_, ho, by rw [e312]; exact h6, by rw [e312, ht]; exact h7, fun t ht' => ?_, tpR_congr k (k.2.2.2.1 _ (by decide) (by decide)) h9⟩
  · rw [e312]
    exact CR_congr (fun a h1 h2 => k.2.1 a (by omega) (by omega)) (fun i hi => by omega) h6 h4
  · rw [ht] at ht'
    exact lwR_congr (by omega) k.1 (fun a h1 h2 => k.2.2.2.1 a (by omega) (by omega)) (h8 t ht')
/-- nothing but scratch was touched -/
theorem Rel0_same {I I' : gI} {R R' : gR} (h : Rel0 I R) (k : kp I I') (hF : g_Fx R') (hR : R' 8 = R 8) (hc : ∀ a, 3 ≤ a → a ≤ 134 → I' a = I a) (hf : I' 311 = I 311) : Rel0 I' R' := by
  obtain ⟨h1, ⟨π, h2, h3⟩, h4, h5, -⟩ := id h
  refine Rel0_up (ρ := π) h k hF ⟨fun i hi => by rw [hR]; exact h2.1 i hi, h2.2⟩ ?_ (by rw [hf]; exact h5) (by rw [hf])
  rw [hf]
  exact CR_congr (fun a h1 h2 => hc a (by omega) (by omega)) (fun i hi => by have := (h2.1 i hi).1; omega) h5 h3
