theorem layI_off {I : gI} {a : Nat} (h1 : a ≠ 333) (h2 : a ≠ 334) (h3 : a ≠ 310) : layI I a = I a := by
  unfold layI
  rw [up_off _ h3, cpy_off h2, cpy_off h1]
theorem layI_310 {I : gI} {j : Nat} (h : j ≠ 41) : layI I 310 j = I 310 j := by
  unfold layI
  rw [up_ni h, cpy_off (by decide), cpy_off (by decide)]
theorem stepM_scr {I I1 : gI} {θ : thy} (h : MI I θ) (e : I1 311 = I 311) (fr : frM I I1) : stepM I I1 θ (I 311) := MI_keep h h.1 e (fun _ _ _ => rfl) fr
theorem stepM_rfl {I : gI} {θ : thy} (h : MI I θ) : stepM I I θ (I 311) := stepM_scr h rfl (frM_rfl I)
/-- the plain form's world, laid out -/
theorem MI_lay {I : gI} {θ : thy} (h : MI I θ) : okN (layI I) ∧ okD (dyM (layI I)) ∧ okT θ ∧ eqT (thM (layI I)) θ ∧ eqD (dyM (layI I)) (dyF (I 311)) := by
  have e := thM_congr (I := I) (I1 := layI I) (layI_off (by decide) (by decide) (by decide)) (layI_off (by decide) (by decide) (by decide)) (layI_off (by decide) (by decide) (by decide)) (layI_off (by decide) (by decide) (by decide)) (layI_off (by decide) (by decide) (by decide)) (layI_off (by decide) (by decide) (by decide))
  refine ⟨e.2.2 h.2.1, okD_eq (lay_dy I).symm ((okr_okD h.1.2.1).ok (by decide)), okT_eq h.2.2 h.2.1.1, by rw [e.2.1]; exact h.2.2, lay_dy I⟩
theorem frM_lay (I : gI) : frM I (layI I) := ⟨fun a h1 h2 h3 h4 h5 => layI_off h4 h5 h2, fun j hj => layI_310 hj⟩
theorem m_spoon {G : gG} {I : gI} {R : gR} {L : gL} {Q : gQ} {a b : Int32} {θ : thy} (hF : g_Fx R) (h : MI I θ) (hq0 : ∀ I1 L1, ¬ spA θ (I 311) a b → stepM I I1 θ (I 311) → Q (some (.int (-1))) SH I1 R L1) (hq1 : ∀ g I1 L1, spA θ (I 311) a b → g.toInt = spG θ (I 311) a b → stepM I I1 θ (spF (I 311) a b g) → Q (some (.int g)) SH I1 R L1) : Mt G mX7_spoon 30 0 0 [.ref 310, .int a, .int b] SH I R L Q := by
  obtain ⟨lN, lD, hθ, lT, lE⟩ := MI_lay h
  have o := h.1
  have o0 : 0 ≤ I 311 0 ∧ I 311 0 ≤ 9 := ⟨ti_le.mpr o.1.1.1, ti_le.mpr o.1.1.2⟩
  have z60 : (60 : Int32).toInt = 60 := rfl
  have o60 := o.2.1.2.2.2.1
  refine e_X7_spoon hF ⟨fun d1 => hq0 I L (fun q => d1 (by have := q.1; have := q.2.1; grind)) (stepM_rfl h), fun d1 => ⟨fun d2 => hq0 I L (fun q => d2 q.2.2.1) (stepM_rfl h), fun d2 => ⟨fun d3 => ?_, fun d3 => hq0 I L (fun q => by have := q.2.2.2.1; rw [d3, z60] at this; omega) (stepM_rfl h)⟩⟩⟩
  rintro _ rfl
  have d3' : (I 311 132).toInt < 60 := by
    have h1 : (I 311 132).toInt ≤ 60 := o60.2
    have h2 : ¬ (I 311 132).toInt = 60 := fun q => d3 (ti_eq.mpr (by rw [z60]; exact q))
    omega
  have hv : vp_in a 9 := vi9.mpr (by grind)
  have hb : vp_in b 2 := vi2.mpr (by grind)
  have hbt : 0 ≤ b.toInt ∧ b.toInt ≤ 1 := by rcases d2 with rfl | rfl <;> decide
  have hca : a.toNatClampNeg < 9 := by obtain ⟨i, hi, ei⟩ := vp_in_of hv (by decide); rw [ei, nI_clamp (by omega)]; exact hi
  have hsp : spn (thM (layI I)) (dyM (layI I)) a.toNatClampNeg b.toInt = spG θ (I 311) a b := spn_eq lT lE lN.1 lD hca hbt.1 hbt.2
  refine ⟨hv, hb, lN, lD, ?_⟩
  rintro r I7 L8 ⟨hr, hx, -⟩
  rw [hsp] at hr
  have f7 : frM I I7 := frM_tr (frM_lay I) ⟨fun x h1 h2 h3 h4 h5 => hx x h3, fun m hm => by rw [hx 310 (by decide)]⟩
  have e7 : I7 311 = I 311 := by rw [hx 311 (by decide), layI_off (by decide) (by decide) (by decide)]
  have hrn := spn_rng (e := a.toNatClampNeg) hθ ((okr_okD o.2.1).ok (by decide)) hca hbt.1 hbt.2
  have hrn' : 0 ≤ spG θ (I 311) a b := hrn.1
  refine ⟨fun d4 => ?_, fun d4 => hq0 I7 L8 (fun q => by have := q.2.2.2.2; rw [← hr, d4] at this; exact absurd this (by decide)) (stepM_scr h e7 f7)⟩
  have hr0 : 0 < r.toInt := by
    have : ¬ r.toInt = 0 := fun q => d4 (ti_eq.mpr q)
    omega
  have hA : spA θ (I 311) a b := ⟨d1.1, by grind, d2, d3', by omega⟩
  obtain ⟨i, κ, j, n, hi, hi0, ei, hk, ek, hn, en, hj, ej, hw, ⟨g0, g1, gg⟩, -⟩ := sp_facts o hθ hA hr
  have kk := kst_k o
  rw [e7]
  refine ⟨o.1.2.2.2.1, ?_⟩
  rintro _ rfl
  have ca : a.toNatClampNeg = i := by rw [ei, nI_clamp (by omega)]
  have a1 : 114 + a = nI (114 + i) := by rw [ei]; exact nI_add 114 i
  have a2 : 123 + a = nI (123 + i) := by rw [ei]; exact nI_add 123 i
  rw [a1, nI_clamp (by omega)]
  refine ⟨vp_in_nI (by omega) (by decide), ?_⟩
  rintro _ rfl
  rw [sa_eq, kk (114 + i) (by omega) (by omega)]
  have a3 : 110 + 2 * I 311 (114 + i) + b = nI (110 + j) := by rw [Int32.add_assoc, ej]; exact nI_add 110 j
  rw [a3, nI_clamp (by omega)]
  refine ⟨vp_in_nI (by omega) (by decide), vp_in_nI (by omega) (by decide), ?_⟩
  rintro _ rfl
  rw [a2, nI_clamp (by omega)]
  refine ⟨vp_in_nI (by omega) (by decide), vp_in_nI (by omega) (by decide), ?_⟩
  rintro _ rfl
  rintro _ rfl
  have a4 : (133 : Int32) + 4 * (up (up (sa I7 311 (kstF (I 311))) 311 (110 + j) (kstF (I 311) (110 + j) - r)) 311 (123 + i) (up (sa I7 311 (kstF (I 311))) 311 (110 + j) (kstF (I 311) (110 + j) - r) 311 (123 + i) + r)) 311 132 = nI (133 + 4 * n) := by
    rw [up_ni (by omega), up_ni (by omega), sa_eq, kk 132 (by decide) (by decide), en, show (4 : Int32) * nI n = nI (4 * n) from by rw [show (4 : Int32) = nI 4 from rfl]; exact (Int32.ofNat_mul 4 n).symm]
    exact nI_add 133 (4 * n)
  rw [a4, show nI (133 + 4 * n) + 1 = nI (133 + (4 * n + 1)) from nI_add _ 1, show nI (133 + 4 * n) + 2 = nI (133 + (4 * n + 2)) from nI_add _ 2, show nI (133 + 4 * n) + 3 = nI (133 + (4 * n + 3)) from nI_add _ 3, nI_clamp (by omega), nI_clamp (by omega), nI_clamp (by omega), nI_clamp (by omega)]
  refine ⟨vp_in_nI (by omega) (by decide), ?_⟩
  rintro _ rfl
  refine ⟨vp_in_nI (by omega) (by decide), ?_⟩
  rintro _ rfl
  refine ⟨vp_in_nI (by omega) (by decide), ?_⟩
  rintro _ rfl
  refine ⟨vp_in_nI (by omega) (by decide), ?_⟩
  rintro _ rfl
  rintro _ rfl
  simp only [up_sa, sa_eq, sa_sa]
  have sok := sp_ok o hθ hA hr
  have ej' : (2 * I 311 (114 + i) + b).toNatClampNeg = j := by rw [ej, nI_clamp (by omega)]
  have en' : (I 311 132).toNatClampNeg = n := by rw [en, nI_clamp (by omega)]
  refine hq1 r _ L8 hA hr (MI_keep h sok.1 ((sa_eq _ _ _).trans ?_) sok.2 (frM_tr f7 ⟨fun x x1 _ _ _ _ => sa_off x1, fun j _ => by rw [sa_off (by decide)]⟩))
  funext k
  unfold spF
  rw [ca, ej', en']
  simp only [upd]
  by_cases h1 : k = 132
  · rw [if_pos h1, if_pos h1, if_neg (by omega), if_neg (by omega), if_neg (by omega), if_neg (by omega), if_neg (by omega), if_neg (by omega)]
  rw [if_neg h1, if_neg h1]
  by_cases h2 : k = 133 + (4 * n + 3)
  · rw [if_pos h2, if_pos h2]
  rw [if_neg h2, if_neg h2]
  by_cases h3 : k = 133 + (4 * n + 2)
  · rw [if_pos h3, if_pos h3]
  rw [if_neg h3, if_neg h3]
  by_cases h4 : k = 133 + (4 * n + 1)
  · rw [if_pos h4, if_pos h4]
  rw [if_neg h4, if_neg h4]
  by_cases h5 : k = 133 + 4 * n
  · rw [if_pos h5, if_pos h5]
  rw [if_neg h5, if_neg h5]
  by_cases h6 : k = 123 + i
  · rw [if_pos h6, if_pos h6, if_neg (by omega), h6]
  rw [if_neg h6, if_neg h6]
  by_cases h7 : k = 110 + j
  · rw [if_pos h7, if_pos h7, h7]
  rw [if_neg h7, if_neg h7]
