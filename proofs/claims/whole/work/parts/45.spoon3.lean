theorem stepC_scr {I I1 : gI} {R : gR} {θ : thy} {f : Nat → Int32} (hF : g_Fx R) (h : CI I R θ f) (hx : ∀ a, a ≠ 164 → a ≠ 165 → I1 a = I a) : stepC I I1 R θ f f :=
  ⟨hF, CI_off h (fun a h1 h2 => hx a (by omega) (by omega)), ⟨fun a h1 h2 h3 => hx a h2 h3, fun j _ => by rw [hx 0 (by decide) (by decide)], hx 1 (by decide) (by decide)⟩, Or.inr ⟨rfl, hx⟩⟩
theorem stepC_rfl {I : gI} {R : gR} {θ : thy} {f : Nat → Int32} (hF : g_Fx R) (h : CI I R θ f) : stepC I I R θ f f := stepC_scr hF h (fun _ _ _ => rfl)
/-- what the class's court is as numbers -/
theorem CI_dy {I : gI} {R : gR} {θ : thy} {f : Nat → Int32} (h : CI I R θ f) : eqD (dyC I 4) (dyF f) ∧ okD (dyC I 4) ∧ okT θ := by
  obtain ⟨o, ⟨π, g2, g3⟩, k, e⟩ := h
  have hD := scR_dy g3.2.1
  exact ⟨hD, okD_eq hD.symm ((okr_okD o.2.1).ok (by decide)), okT_eq e k.1⟩
theorem c_spoon {G : gG} {I : gI} {R : gR} {L : gL} {Q : gQ} {a b : Int32} {θ : thy} {f : Nat → Int32} (hF : g_Fx R) (h : CI I R θ f) (hq0 : ∀ I1, ¬ spA θ f a b → stepC I I1 R θ f f → Q (some (.int (-1))) SH I1 R L) (hq1 : ∀ g I1 R1, spA θ f a b → g.toInt = spG θ f a b → stepC I I1 R1 θ f (spF f a b g) → Q (some (.int g)) SH I1 R1 L) : Mt G mX6_spoon 30 0 0 [.ref 0, .int a, .int b] SH I R L Q := by
  obtain ⟨hD, oD, hθ⟩ := CI_dy h
  obtain ⟨o, s, k, e⟩ := id h
  obtain ⟨π, g2, g3⟩ := id s
  have c0 : I 3 6 = f 0 := g3.1.1
  have s4 : I 4 3 = f 132 := g3.2.1.2.2.2.1
  have o0 : 0 ≤ f 0 ∧ f 0 ≤ 9 := ⟨ti_le.mpr o.1.1.1, ti_le.mpr o.1.1.2⟩
  have z60 : (60 : Int32).toInt = 60 := rfl
  have z1 : (1 : Int32).toInt = 1 := rfl
  refine e_X6_spoon hF ?_
  rw [c0, s4]
  refine ⟨fun d1 => hq0 I (fun q => d1 ⟨q.1, q.2.1, by have := q.2.1; grind⟩) (stepC_rfl hF h), fun d1 => ⟨fun d2 => hq0 I (fun q => d2 q.2.2.1) (stepC_rfl hF h), fun d2 => ⟨fun d3 => ?_, fun d3 => hq0 I (fun q => d3 (ti_lt.mpr (by rw [z60]; exact q.2.2.2.1))) (stepC_rfl hF h)⟩⟩⟩
  rw [ti_lt, z60] at d3
  have hv : vp_in a 9 := vi9.mpr (by grind)
  have hb : vp_in b 2 := vi2.mpr (by grind)
  have hbt : 0 ≤ b.toInt ∧ b.toInt ≤ 1 := by rcases d2 with rfl | rfl <;> decide
  have hca : a.toNatClampNeg < 9 := by obtain ⟨i, hi, ei⟩ := vp_in_of hv (by decide); rw [ei, nI_clamp (by omega)]; exact hi
  have hsp : spn (thC I) (dyC I 4) a.toNatClampNeg b.toInt = spG θ f a b := spn_eq e hD k.1 oD hca hbt.1 hbt.2
  refine ⟨hv, hb, k, oD, ?_⟩
  rintro r I6 ⟨hr, hx⟩
  rw [hsp] at hr
  refine ⟨fun d4 => ?_, fun d4 => hq0 I6 (fun q => d4 (ti_le.mpr (by rw [z1]; have := q.2.2.2.2; omega))) (stepC_scr hF h hx)⟩
  rw [ti_le, z1] at d4
  rintro _ rfl
  have hA : spA θ f a b := ⟨d1.1, d1.2.1, d2, d3, by omega⟩
  have s' : stp (up I6 0 9 (-1)) R f := stp_off s o (fun x h1 h2 => by rw [up_off _ (by omega), hx x (by omega) (by omega)])
  refine ⟨⟨f, o, s'⟩, ?_⟩
  rintro I9 R10 ⟨k1, k2, k3, k4⟩
  refine ⟨hv, ?_⟩
  rintro _ rfl
  obtain ⟨i, κ, j, n, hi, hi0, ei, hk, ek, hn, en, hj, ej, hw, ⟨g0, g1, gg⟩, -⟩ := sp_facts o hθ hA hr
  obtain ⟨er, elo, ehi⟩ := spF_row (g := r) o hi ei hj ej hn en
  have ok := okf_kst o
  have kk := kst_k o
  have ca : a.toNatClampNeg = i := by rw [ei, nI_clamp (by omega)]
  have e9 : ∀ x, x ≠ 3 → x ≠ 0 → (x < 9 ∨ 128 < x) → x ≠ 164 → x ≠ 165 → I9 x = I x := fun x h1 h2 h3 h4 h5 => by rw [k3 x h1 h3, up_off _ h2, hx x h4 h5]
  have e43 : I9 4 3 = nI n := by rw [e9 4 (by decide) (by decide) (by decide) (by decide) (by decide), s4, en]
  have e6 : I9 6 i = f (114 + i) := by
    rw [e9 6 (by decide) (by decide) (by decide) (by decide) (by decide)]
    have := g3.2.1.2.1 i hi
    rw [show row f 110 (4 + i) = f (114 + i) from by unfold row; congr 1; omega] at this
    exact this
  have i0 : 4 * nI n = nI (4 * n) := by rw [show (4 : Int32) = nI 4 from rfl]; exact (Int32.ofNat_mul 4 n).symm
  have i1 : nI (4 * n) + 1 = nI (4 * n + 1) := nI_add _ 1
  have i2 : nI (4 * n) + 2 = nI (4 * n + 2) := nI_add _ 2
  have i3 : nI (4 * n) + 3 = nI (4 * n + 3) := nI_add _ 3
  have eW : wSp I9 a b r = up (up (up (up I9 132 (4 * n) a) 132 (4 * n + 1) (f (114 + i))) 132 (4 * n + 2) b) 132 (4 * n + 3) r := by
    unfold wSp
    simp only [e43]
    rw [if_neg (nI_pos (by omega)), if_neg (show ¬ (60 : Int32) ≤ nI n from nI_ge (b := 60) hn (by decide)), i0, i1, i2, i3, nI_clamp (by omega), nI_clamp (by omega), nI_clamp (by omega), nI_clamp (by omega), ca, up_nc (by decide), e6]
  rw [eW]
  generalize hWd : up (up (up (up I9 132 (4 * n) a) 132 (4 * n + 1) (f (114 + i))) 132 (4 * n + 2) b) 132 (4 * n + 3) r = W
  have w0 : ∀ x, x ≠ 132 → W x = I9 x := fun x hx => by rw [← hWd, up_off _ hx, up_off _ hx, up_off _ hx, up_off _ hx]
  have w1 : ∀ m, W 132 m = if m = 4 * n + 3 then r else if m = 4 * n + 2 then b else if m = 4 * n + 1 then f (114 + i) else if m = 4 * n then a else I9 132 m := fun m => by rw [← hWd]; simp only [up]; simp
  have w6 : W (4 + 2) a.toNatClampNeg = f (114 + i) := by rw [w0 _ (by decide), ca]; exact e6
  have hr0 : 0 < r := ti_lt.mpr g0
  refine ⟨hv, fun _ _ => by rw [w6, ej]; exact vp_in_nI hj (by decide), ?_⟩
  rintro _ rfl
  have eE : eatI W 4 a b r = up (up (up W 5 j (W 5 j - r)) 7 i (W 7 i + r)) 4 3 (nI (n + 1)) := by
    unfold eatI
    rw [w6, if_neg hw, if_neg (fun q => absurd hr0 (by rw [ti_lt]; rw [ti_le] at q; omega)), ej, nI_clamp (by omega), ca]
    simp only [up_nc (show (4 + 3 : Nat) ≠ 4 + 1 by decide), up_nc (show (4 : Nat) ≠ 4 + 1 by decide), up_nc (show (4 : Nat) ≠ 4 + 3 by decide)]
    rw [show W 4 3 = nI n by rw [w0 4 (by decide), e43], nI_1]
  rw [eE]
  generalize hJd : up (up (up W 5 j (W 5 j - r)) 7 i (W 7 i + r)) 4 3 (nI (n + 1)) = J
  have j0 : ∀ x, x ≠ 4 → x ≠ 5 → x ≠ 7 → J x = W x := fun x h1 h2 h3 => by rw [← hJd, up_off _ h1, up_off _ h3, up_off _ h2]
  have j4 : ∀ m, J 4 m = if m = 3 then nI (n + 1) else I9 4 m := fun m => by rw [← hJd, ← w0 4 (by decide)]; simp only [up]; simp
  have j5 : ∀ m, J 5 m = if m = j then I9 5 m - r else I9 5 m := fun m => by rw [← hJd, ← w0 5 (by decide)]; simp only [up]; simp; by_cases h : m = j <;> simp [h]
  have j7 : ∀ m, J 7 m = if m = i then I9 7 m + r else I9 7 m := fun m => by rw [← hJd, ← w0 7 (by decide)]; simp only [up]; simp; by_cases h : m = i <;> simp [h]
  have hxx : ∀ x, x ≠ 0 → x ≠ 3 → x ≠ 4 → x ≠ 5 → x ≠ 7 → x ≠ 132 → (x < 9 ∨ 128 < x) → x ≠ 164 → x ≠ 165 → J x = I x := fun x h0 h1 h2 h3 h4 h5 h6 h7 h8 => by rw [j0 x h2 h3 h4, w0 x h5, e9 x h1 h0 h6 h7 h8]
  have hJ0 : J 0 = up I6 0 9 (-1) 0 := by rw [j0 0 (by decide) (by decide) (by decide), w0 0 (by decide), k3 0 (by decide) (by decide)]
  have e10 : J 3 10 = I 3 10 := by rw [j0 3 (by decide) (by decide) (by decide), w0 3 (by decide), k4 10 (by decide), up_nc (by decide), hx 3 (by decide) (by decide)]
  refine hq1 r _ R10 hA hr ⟨k1, ⟨(sp_ok o hθ hA hr).1, ?_, okI_of e10 (fun x hx' => hxx x (by omega) (by omega) (by omega) (by omega) (by omega) (by omega) (by omega) (by omega) (by omega)) k, by rw [thC_of2 e10 (fun x hx' => hxx x (by omega) (by omega) (by omega) (by omega) (by omega) (by omega) (by omega) (by omega) (by omega))]; exact e⟩, ⟨fun x h1 h2 h3 => hxx x (by omega) (by omega) (by omega) (by omega) (by omega) (by omega) (by omega) h2 h3, fun m hm => by rw [hJ0, up_ni hm, hx 0 (by decide) (by decide)], hxx 1 (by decide) (by decide) (by decide) (by decide) (by decide) (by decide) (by decide) (by decide) (by decide)⟩, Or.inl (by rw [hJ0, up_eq])⟩
  have sk := k2 f o s'
  have k22 : row (kstF f) 110 22 = nI n := by show kstF f 132 = _; rw [kk _ (by decide) (by decide), en]
  have w5 := ci ok.2.1.2.2.2.2.1.1
  have w5' := ok.2.1.2.2.2.2.1.2
  have jj : ∀ x, x ≠ 4 → x ≠ 5 → x ≠ 7 → x ≠ 132 → J x = I9 x := fun x h1 h2 h3 h4 => by rw [j0 x h1 h2 h3, w0 x h4]
  have j132 : ∀ m, J 132 m = W 132 m := fun m => by rw [j0 132 (by decide) (by decide) (by decide)]
  refine stp_now sk ok elo ehi (jj _ (by decide) (by decide) (by decide) (by decide)) (jj _ (by decide) (by decide) (by decide) (by decide)) (jj _ (by decide) (by decide) (by decide) (by decide)) (jj _ (by decide) (by decide) (by decide) (by decide)) (jj _ (by decide) (by decide) (by decide) (by decide)) (fun x h1 h2 => jj _ (by omega) (by omega) (by omega) (by omega)) (fun m hm => ?_) (fun _ _ => by rw [jj 133 (by decide) (by decide) (by decide) (by decide)]) ?_
  · rw [k22, nI_clamp (by omega)] at hm
    rw [j132, w1, if_neg (by omega), if_neg (by omega), if_neg (by omega), if_neg (by omega)]
  rintro ⟨q1, q2, q3, q4, q5, q6, q7, q8⟩
  rw [k22, nI_clamp (by omega)] at q7
  have off : ∀ m, m ≠ 22 → (m < 23 ∨ 263 ≤ m) → m ≠ 13 + i → m ≠ j → row (spF f a b r) 110 m = row (kstF f) 110 m := fun m h1 h2 h3 h4 => by
    rw [er, if_neg h1, if_neg (by omega), if_neg (by omega), if_neg (by omega), if_neg (by omega), if_neg h3, if_neg h4]
  have e22 : row (spF f a b r) 110 22 = nI (n + 1) := by rw [er, if_pos rfl]
  unfold scR
  rw [e22, off 263 (by omega) (by omega) (by omega) (by omega), off 354 (by omega) (by omega) (by omega) (by omega), nI_clamp (by omega), jj 133 (by decide) (by decide) (by decide) (by decide), jj (4 + 2) (by decide) (by decide) (by decide) (by decide)]
  refine ⟨fun m hm => ?_, fun m hm => by rw [off _ (by omega) (by omega) (by omega) (by omega)]; exact q2 m hm, fun m hm => ?_, by rw [j4, if_pos rfl], by rw [j4, if_neg (by decide)]; exact q5, by rw [j4, if_neg (by decide)]; exact q6, fun m hm => ?_, fun m hm => by rw [off _ (by omega) (by omega) (by omega) (by omega)]; exact q8 m hm⟩
  · show J 5 m = _
    rw [j5, er, q1 m hm, if_neg (show ¬ m = 22 by omega), if_neg (show ¬ m = 23 + (4 * n + 3) by omega), if_neg (show ¬ m = 23 + (4 * n + 2) by omega), if_neg (show ¬ m = 23 + (4 * n + 1) by omega), if_neg (show ¬ m = 23 + 4 * n by omega), if_neg (show ¬ m = 13 + i by omega)]
  · show J 7 m = _
    rw [j7]
    by_cases hmi : m = i
    · rw [if_pos hmi, er, if_neg (by omega), if_neg (by omega), if_neg (by omega), if_neg (by omega), if_neg (by omega), if_pos (by omega), q3 m hm]
    · rw [if_neg hmi, off _ (by omega) (by omega) (by omega) (by omega)]; exact q3 m hm
  · rw [j132, w1, er, if_neg (show ¬ 23 + m = 22 by omega)]
    simp only [Nat.add_left_cancel_iff]
    by_cases h3 : m = 4 * n + 3
    · simp only [if_pos h3]
    simp only [if_neg h3]
    by_cases h2 : m = 4 * n + 2
    · simp only [if_pos h2]
    simp only [if_neg h2]
    by_cases h1 : m = 4 * n + 1
    · simp only [if_pos h1]
    simp only [if_neg h1]
    by_cases h0 : m = 4 * n
    · simp only [if_pos h0]
    simp only [if_neg h0]
    rw [if_neg (by omega), if_neg (by omega)]
    exact q7 m (by omega)
