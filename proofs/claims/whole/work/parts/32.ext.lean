/-! what is eaten, held, guilty looks at nine eaters and four pots alone -/
def eqT (θ θ' : thy) : Prop := (∀ e, e < 9 → θ.1 e = θ'.1 e) ∧ (∀ e, e < 9 → θ.2.1 e = θ'.2.1 e) ∧ ∀ w, w < 3 → θ.2.2 w = θ'.2.2 w
def eqD (δ δ' : dyn) : Prop := (∀ j, j < 4 → δ.1 j = δ'.1 j) ∧ (∀ e, e < 9 → δ.2.1 e = δ'.2.1 e) ∧ (∀ e, e < 9 → δ.2.2.1 e = δ'.2.2.1 e) ∧ δ.2.2.2 = δ'.2.2.2
theorem eqD.symm {δ δ' : dyn} (h : eqD δ δ') : eqD δ' δ := ⟨fun j hj => (h.1 j hj).symm, fun j hj => (h.2.1 j hj).symm, fun j hj => (h.2.2.1 j hj).symm, h.2.2.2.symm⟩
theorem eqT.symm {θ θ' : thy} (h : eqT θ θ') : eqT θ' θ := ⟨fun j hj => (h.1 j hj).symm, fun j hj => (h.2.1 j hj).symm, fun j hj => (h.2.2 j hj).symm⟩
theorem eqD.trans {δ δ' δ'' : dyn} (h : eqD δ δ') (g : eqD δ' δ'') : eqD δ δ'' := ⟨fun j hj => (h.1 j hj).trans (g.1 j hj), fun j hj => (h.2.1 j hj).trans (g.2.1 j hj), fun j hj => (h.2.2.1 j hj).trans (g.2.2.1 j hj), h.2.2.2.trans g.2.2.2⟩
theorem eqT.trans {δ δ' δ'' : thy} (h : eqT δ δ') (g : eqT δ' δ'') : eqT δ δ'' := ⟨fun j hj => (h.1 j hj).trans (g.1 j hj), fun j hj => (h.2.1 j hj).trans (g.2.1 j hj), fun j hj => (h.2.2 j hj).trans (g.2.2 j hj)⟩
theorem eqD.rfl' (δ : dyn) : eqD δ δ := ⟨fun _ _ => rfl, fun _ _ => rfl, fun _ _ => rfl, rfl⟩
theorem eqT.rfl' (δ : thy) : eqT δ δ := ⟨fun _ _ => rfl, fun _ _ => rfl, fun _ _ => rfl⟩
theorem okD_eq {δ δ' : dyn} (h : eqD δ δ') (o : okD δ) : okD δ' := ⟨fun j hj => by rw [← h.1 j hj]; exact o.1 j hj, fun j hj => by rw [← h.2.1 j hj]; exact o.2.1 j hj, fun j hj => by rw [← h.2.2.1 j hj]; exact o.2.2.1 j hj, by rw [← h.2.2.2]; exact o.2.2.2⟩
theorem okDn_eq {n : Nat} {δ δ' : dyn} (h : eqD δ δ') (o : okDn n δ) : okDn n δ' := ⟨fun j hj => by rw [← h.1 j hj]; exact o.1 j hj, fun j hj => by rw [← h.2.1 j hj]; exact o.2.1 j hj, fun j hj => by rw [← h.2.2.1 j hj]; exact o.2.2.1 j hj, by rw [← h.2.2.2]; exact o.2.2.2⟩
theorem okT_eq {θ θ' : thy} (h : eqT θ θ') (o : okT θ) : okT θ' := ⟨fun j hj => by rw [← h.1 j hj]; exact o.1 j hj, fun j hj => by rw [← h.2.1 j hj]; exact o.2.1 j hj, fun w ts hw e => o.2.2 w ts hw (by rw [h.2.2 w hw]; exact e)⟩
theorem hld_eq {θ θ' : thy} {δ δ' : dyn} {e : Nat} (hT : eqT θ θ') (hD : eqD δ δ') (o : okT θ) (he : e < 9) : hld θ δ e = hld θ' δ' e := by
  have h0 : hl0 θ δ e = hl0 θ' δ' e := by
    unfold hl0
    rw [← hT.2.2 1 (by decide)]
    split
    · rw [hT.2.1 e he]
    · rename_i ts hts
      have ok := o.2.2 1 ts (by decide) hts
      congr 1
      refine vl_congr (fun t ht h401 => ?_)
      have h1 := ty_name ok.1 t ht h401
      have h2 : t.2 < 4 := by have := ok.2 t ht h401; simpa using this
      rcases (show t.2.toNat = 0 ∨ t.2.toNat = 1 ∨ t.2.toNat = 2 ∨ t.2.toNat = 3 by omega) with h | h | h | h <;> rw [h] <;> simp [nmv, hT.1 e he, hT.2.1 e he, hD.2.2.1 e he]
  unfold hld
  rw [h0, hD.2.2.1 e he]
theorem lft_eq {δ δ' : dyn} {e : Nat} {k : Int} (hD : eqD δ δ') (o : okD δ) (he : e < 9) (hw : ¬ δ.2.1 e = 2) (h0 : 0 ≤ k) (h1 : k ≤ 1) : lft δ e k = lft δ' e k := by
  unfold lft
  rw [← hD.2.1 e he]
  have := o.2.1 e he
  exact hD.1 _ (by omega)
theorem bit_eq {θ θ' : thy} {δ δ' : dyn} {e : Nat} {k : Int} (hT : eqT θ θ') (hD : eqD δ δ') (o : okT θ) (oD : okD δ) (he : e < 9) (hw : ¬ δ.2.1 e = 2) (h0 : 0 ≤ k) (h1 : k ≤ 1) : bit θ δ e k = bit θ' δ' e k := by
  unfold bit
  rw [← hT.2.2 0 (by decide)]
  split
  · rw [hT.1 e he]
  · rename_i ts hts
    have ok := o.2.2 0 ts (by decide) hts
    congr 1
    refine vl_congr (fun t ht h401 => ?_)
    have h1' := ty_name ok.1 t ht h401
    unfold nmv
    rw [hT.1 e he, hT.2.1 e he, hD.2.2.1 e he, lft_eq hD oD he hw h0 h1, hD.2.2.2, hD.2.1 e he]
theorem spn_eq {θ θ' : thy} {δ δ' : dyn} {e : Nat} {k : Int} (hT : eqT θ θ') (hD : eqD δ δ') (o : okT θ) (oD : okD δ) (he : e < 9) (h0 : 0 ≤ k) (h1 : k ≤ 1) : spn θ δ e k = spn θ' δ' e k := by
  unfold spn
  rw [← hD.2.1 e he]
  split
  · rfl
  · rename_i hw
    rw [bit_eq hT hD o oD he hw h0 h1, lft_eq hD oD he hw h0 h1, hld_eq hT hD o he]
theorem tlt_eq {δ δ' : dyn} (hD : eqD δ δ') : tlt δ = tlt δ' := by
  unfold tlt; rw [hD.1 0 (by decide), hD.1 1 (by decide), hD.1 2 (by decide), hD.1 3 (by decide)]
theorem gui_eq {θ θ' : thy} {δ δ' : dyn} {s d : Int} (hT : eqT θ θ') (hD : eqD δ δ') (o : okT θ) (h0 : 0 ≤ s) (h1 : s ≤ 1) : gui θ δ s d = gui θ' δ' s d := by
  unfold gui
  rw [← hT.2.2 2 (by decide)]
  split
  · rw [tlt_eq hD]
  · rename_i ts hts
    congr 2
    refine vl_congr (fun t ht h401 => ?_)
    unfold nmg
    rw [tlt_eq hD, hD.1 _ (show (2 * s).toNat < 4 by omega), hD.1 _ (show (2 * s + 1).toNat < 4 by omega)]
theorem eaD_eq {δ δ' : dyn} {e : Nat} {k g : Int} (hD : eqD δ δ') (he : e < 9) : eqD (eaD δ e k g) (eaD δ' e k g) := by
  unfold eaD
  split
  · refine ⟨fun j hj => ?_, hD.2.1, fun i hi => ?_, ?_⟩
    · show (if j = (2 * δ.2.1 e + k).toNat then δ.1 j - g else δ.1 j) = if j = (2 * δ'.2.1 e + k).toNat then δ'.1 j - g else δ'.1 j
      rw [hD.1 j hj, hD.2.1 e he]
    · show (if i = e then δ.2.2.1 i + g else δ.2.2.1 i) = if i = e then δ'.2.2.1 i + g else δ'.2.2.1 i
      rw [hD.2.2.1 i hi]
    · show δ.2.2.2 + 1 = δ'.2.2.2 + 1
      rw [hD.2.2.2]
  · exact hD
