/-! deeds, one by one -/
theorem stepC_tr {I I1 I2 : gI} {R1 R2 : gR} {θ : thy} {f f1 f2 : Nat → Int32} (h : stepC I I1 R1 θ f f1) (g : stepC I1 I2 R2 θ f1 f2) : stepC I I2 R2 θ f f2 := by
  obtain ⟨h1, h2, h3, h4⟩ := h
  obtain ⟨g1, g2, g3, g4⟩ := g
  refine ⟨g1, g2, frC_tr h3 g3, ?_⟩
  rcases g4 with g4 | ⟨g4, g5⟩
  · exact Or.inl g4
  · rcases h4 with h4 | ⟨h4, h5⟩
    · exact Or.inl (by rw [g5 0 (by decide) (by decide)]; exact h4)
    · exact Or.inr ⟨g4.trans h4, fun a a1 a2 => (g5 a a1 a2).trans (h5 a a1 a2)⟩
theorem stepM_tr {I I1 I2 : gI} {θ : thy} {f1 f2 : Nat → Int32} (h : stepM I I1 θ f1) (g : stepM I1 I2 θ f2) : stepM I I2 θ f2 := ⟨g.1, frM_tr h.2.1 g.2.1, g.2.2⟩
/-- the class's deed, then the plain form's: all is as it should be again -/
theorem Rel_CI {I : gI} {R : gR} (h : Rel I R) : CI I R (thM I) (I 311) := by
  obtain ⟨h0, -⟩ := h
  obtain ⟨x1, x2, x3⟩ := lw_eq h0
  obtain ⟨h1, h2, h3, h4, -⟩ := h0
  exact ⟨h4, h2, x2, x1⟩
theorem Rel_MI {I I1 : gI} {R R1 : gR} {f' : Nat → Int32} (h : Rel I R) (s : stepC I I1 R1 (thM I) (I 311) f') : MI I1 (thM I) ∧ I1 311 = I 311 := by
  obtain ⟨h0, -⟩ := h
  obtain ⟨x1, x2, x3⟩ := lw_eq h0
  obtain ⟨-, -, s3, -⟩ := s
  have e : I1 311 = I 311 := s3.1 _ (by decide) (by decide) (by decide)
  have t := thM_congr (I := I) (I1 := I1) e (s3.1 _ (by decide) (by decide) (by decide)) (s3.1 _ (by decide) (by decide) (by decide)) (s3.1 _ (by decide) (by decide) (by decide)) (s3.1 _ (by decide) (by decide) (by decide)) (s3.1 _ (by decide) (by decide) (by decide))
  exact ⟨⟨by rw [e]; exact h0.2.2.2.1, t.2.2 x3, by rw [t.2.1]; exact eqT.rfl' _⟩, e⟩
theorem Rel_deed {I I1 I2 : gI} {R R1 : gR} {f' : Nat → Int32} (h : Rel I R) (s : stepC I I1 R1 (thM I) (I 311) f') (t : stepM I1 I2 (thM I) f') (h1 : f' 1 = I 311 1) : Rel I2 R1 := by
  obtain ⟨h0, hs⟩ := h
  obtain ⟨s1, ⟨s2, s3, s4, s5⟩, s6, s7⟩ := s
  obtain ⟨t1, t2, t3⟩ := t
  have off : ∀ a, 135 ≤ a → a ≠ 164 → a ≠ 165 → a ≠ 311 → a ≠ 310 → a ≠ 331 → a ≠ 333 → a ≠ 334 → I2 a = I a := fun a k1 k2 k3 k4 k5 k6 k7 k8 => (t2.1 a k4 k5 k6 k7 k8).trans (s6.1 a k1 k2 k3)
  have lo : ∀ a, a < 300 → I2 a = I1 a := fun a k => t2.1 a (by omega) (by omega) (by omega) (by omega) (by omega)
  have k : kp I I2 := kp_of (fun a a1 a2 a3 a4 a5 a6 a7 a8 a9 => off a (by omega) (by omega) (by omega) a8 a2 (by omega) (by omega) (by omega)) (by rw [lo 0 (by decide)]; exact s6.2.1 6 (by decide)) (by rw [lo 0 (by decide)]; exact s6.2.1 7 (by decide)) (by rw [lo 0 (by decide)]; exact s6.2.1 8 (by decide)) (by rw [t2.2 3 (by decide), s6.1 310 (by decide) (by decide) (by decide)]) (by rw [t2.2 4 (by decide), s6.1 310 (by decide) (by decide) (by decide)]) (by rw [t2.2 5 (by decide), s6.1 310 (by decide) (by decide) (by decide)])
  obtain ⟨ρ, p1, p2⟩ := s3
  refine ⟨Rel0_up (ρ := ρ) h0 k s1 p1 ?_ (by rw [t1]; exact s2) (by rw [t1]; exact h1), ?_⟩
  · rw [t1]
    exact CR_congr (fun a a1 a2 => lo a (by omega)) (fun i hi => by have := (p1.1 i hi).1; omega) s2 p2
  · rcases s7 with s7 | ⟨s7, s8⟩
    · exact sgt_no (by rw [lo 0 (by decide)]; exact s7)
    · have e : ∀ a, a < 164 → I2 a = I a := fun a ha => (lo a (by omega)).trans (s8 a (by omega) (by omega))
      exact sgt_keep hs (by rw [e 0 (by decide)]) (by rw [e 1 (by decide)]) (by rw [e 1 (by decide)]) (off 173 (by decide) (by decide) (by decide) (by decide) (by decide) (by decide) (by decide) (by decide)) (thC_of (fun a ha => e a (by omega))) (e 5 (by decide)) (e 6 (by decide)) (e 7 (by decide)) (by rw [e 4 (by decide)]) (by rw [e 4 (by decide)]) (by rw [e 3 (by decide)])
theorem p_sit {G : gG} {I : gI} {R : gR} {L : gL} {Q : gQ} {a b : Int32} (h : Rel I R) (hq : ∀ v I1 R1 L1, prom G mX7_sit [.ref 310, .int a, .int b] (some (.int v)) I1 R1 L1 → Q (some (.int v)) SH I1 R1 L1) : Mt G mX6_sit 30 0 0 [.ref 0, .int a, .int b] SH I R L Q := by
  have hF := h.1.1
  have hC := Rel_CI h
  refine c_sit hF hC (fun n => hq _ _ _ _ (fun Q2 h2 => ?_)) (fun I1 R1 n s => hq _ _ _ _ (fun Q2 h2 => ?_))
  · have s := stepC_rfl hF hC
    obtain ⟨hM, e⟩ := Rel_MI h s
    exact m_sit hF hM (fun _ => h2 _ _ _ h) (fun I1 n' _ => absurd n' n)
  · obtain ⟨hM, e⟩ := Rel_MI h s
    refine m_sit s.1 hM (fun n' => absurd n (by rw [← e]; exact n')) (fun I2 _ t => h2 _ _ _ (Rel_deed h s (by rw [← e]; exact t) ?_))
    exact (sit_ok hC.1 n).2 1 (by decide) (by decide)
theorem p_spoon {G : gG} {I : gI} {R : gR} {L : gL} {Q : gQ} {a b : Int32} (h : Rel I R) (hq : ∀ v I1 R1 L1, prom G mX7_spoon [.ref 310, .int a, .int b] (some (.int v)) I1 R1 L1 → Q (some (.int v)) SH I1 R1 L1) : Mt G mX6_spoon 30 0 0 [.ref 0, .int a, .int b] SH I R L Q := by
  have hF := h.1.1
  have hC := Rel_CI h
  have hθ := (CI_dy hC).2.2
  refine c_spoon hF hC (fun I1 n s => hq _ _ _ _ (fun Q2 h2 => ?_)) (fun g I1 R1 n hg s => hq _ _ _ _ (fun Q2 h2 => ?_))
  · obtain ⟨hM, e⟩ := Rel_MI h s
    exact m_spoon hF hM (fun I2 L2 _ t => h2 _ _ _ (Rel_deed h s (by rw [← e]; exact t) rfl)) (fun _ _ _ n' _ _ => absurd (by rw [← e]; exact n') n)
  · obtain ⟨hM, e⟩ := Rel_MI h s
    refine m_spoon s.1 hM (fun _ _ n' _ => absurd n (by rw [← e]; exact n')) (fun g' I2 L2 _ hg' t => ?_)
    have eg : g' = g := ti_eq.mpr (by rw [hg, hg', e])
    rw [eg] at t ⊢
    exact h2 _ _ _ (Rel_deed h s (by rw [← e]; exact t) ((sp_ok hC.1 hθ n hg).2 1 (by decide) (by decide)))
theorem p_judge {G : gG} {I : gI} {R : gR} {L : gL} {Q : gQ} {a : Int32} (h : Rel I R) (hq : ∀ v I1 R1 L1, prom G mX7_judge [.ref 310, .int a] (some (.int v)) I1 R1 L1 → Q (some (.int v)) SH I1 R1 L1) : Mt G mX6_judge 30 0 0 [.ref 0, .int a] SH I R L Q := by
  have hF := h.1.1
  have hC := Rel_CI h
  refine c_judge hF hC (fun n => hq _ _ _ _ (fun Q2 h2 => ?_)) (fun I1 R1 n s => hq _ _ _ _ (fun Q2 h2 => ?_))
  · have s := stepC_rfl hF hC
    obtain ⟨hM, e⟩ := Rel_MI h s
    exact m_judge hF hM (fun _ => h2 _ _ _ h) (fun I1 _ n' _ => absurd n' n)
  · obtain ⟨hM, e⟩ := Rel_MI h s
    refine m_judge s.1 hM (fun n' => absurd n (by rw [← e]; exact n')) (fun I2 _ _ t => ?_)
    rw [e]
    rw [e] at t
    exact h2 _ _ _ (Rel_deed h s t ((jd_ok hC.1 n).2 1 (by decide) (by decide)))
theorem p_flies {G : gG} {I : gI} {R : gR} {L : gL} {Q : gQ} {a : Int32} (h : Rel I R) (hq : ∀ v I1 R1 L1, prom G mX7_flies [.ref 310, .int a] (some (.int v)) I1 R1 L1 → Q (some (.int v)) SH I1 R1 L1) : Mt G mX6_flies 30 0 0 [.ref 0, .int a] SH I R L Q := by
  have hF := h.1.1
  have hC := Rel_CI h
  refine c_flies hF hC (fun n => hq _ _ _ _ (fun Q2 h2 => ?_)) (fun I1 R1 n s => hq _ _ _ _ (fun Q2 h2 => ?_))
  · have s := stepC_rfl hF hC
    obtain ⟨hM, e⟩ := Rel_MI h s
    exact m_flies hF hM (fun _ => h2 _ _ _ h) (fun I1 n' _ => absurd n' n)
  · obtain ⟨hM, e⟩ := Rel_MI h s
    refine m_flies s.1 hM (fun n' => absurd n n') (fun I2 _ t => ?_)
    rw [e]
    rw [e] at t
    exact h2 _ _ _ (Rel_deed h s t ((fl_fin hC.1).2 1 (by decide) (by decide)))
