/-! an acquittal that was sought -/
/-- spoons one after the other (2 * eater + kind): the scene behind them, the honey -/
def rnA (θ : thy) : List Int → dyn → Int → Option (dyn × Int)
  | [], δ, h => some (δ, h)
  | c :: cs, δ, h => if 0 < spn θ δ (c / 2).toNat (c % 2) then rnA θ cs (eaD δ (c / 2).toNat (c % 2) (spn θ δ (c / 2).toNat (c % 2))) (if c % 2 = 0 then h + spn θ δ (c / 2).toNat (c % 2) else h) else none
def cds (E : Int) (l : List Int) : Prop := ∀ c ∈ l, 0 ≤ c ∧ c < 2 * E
def gdA (θ : thy) (δ : dyn) (E s d : Int) (l : List Int) (h : Int) : Prop := cds E l ∧ ∃ δ', rnA θ l δ 0 = some (δ', h) ∧ gui θ δ' s d = false
def lxl : List Int → List Int → Prop
  | [], _ => True
  | _ :: _, [] => False
  | a :: r, b :: r' => a < b ∨ (a = b ∧ lxl r r')
/-- the best of all of n spoons -/
def bsA (θ : thy) (δ : dyn) (E s d : Int) (n : Nat) (h : Int) (l : List Int) : Prop := l.length = n ∧ gdA θ δ E s d l h ∧ ∀ l' h', l'.length = n → gdA θ δ E s d l' h' → h < h' ∨ (h = h' ∧ lxl l l')
/-- what is found: n -1: none of at most four -/
def aqA (θ : thy) (δ : dyn) (E s d : Int) (n h : Int) (f : Nat → Int) : Prop :=
  (n = -1 ∧ ∀ l' h', l'.length ≤ 4 → ¬ gdA θ δ E s d l' h') ∨
  (0 ≤ n ∧ n ≤ 4 ∧ bsA θ δ E s d n.toNat h ((List.range n.toNat).map f) ∧ ∀ l' h', l'.length < n.toNat → ¬ gdA θ δ E s d l' h')
def sgt (I : gI) : Prop := I 0 9 = -1 ∨ (((I 0 9).toInt = 0 ∨ (I 0 9).toInt = 1) ∧ aqA (thC I) (dyC I 4) (I 3 6).toInt (I 0 9).toInt (I 4 4).toInt (I 1 8).toInt (I 1 9).toInt (fun k => (I 173 k).toInt))
def Rel (I : gI) (R : gR) : Prop := Rel0 I R ∧ sgt I
theorem rnA_eq {θ θ' : thy} {E s d : Int} (hT : eqT θ θ') (o : okT θ) (hE : E ≤ 9) (hs : 0 ≤ s ∧ s ≤ 1) : ∀ (l : List Int) {δ δ' : dyn} {h : Int} {n : Nat}, l.length + n ≤ 10 → cds E l → eqD δ δ' → okDn n δ → (∀ δ1 h1, rnA θ l δ h = some (δ1, h1) → ∃ δ2, rnA θ' l δ' h = some (δ2, h1) ∧ gui θ' δ2 s d = gui θ δ1 s d)
  | [], δ, δ', h, n, _, _, hD, _ => by
    intro δ1 h1 e
    simp only [rnA, Option.some.injEq, Prod.mk.injEq] at e ⊢
    obtain ⟨rfl, rfl⟩ := e
    exact ⟨δ', ⟨rfl, rfl⟩, (gui_eq hT hD o hs.1 hs.2).symm⟩
  | c :: cs, δ, δ', h, n, hn, hc, hD, oD => by
    intro δ1 h1 e
    have hc0 := hc c (by simp)
    have he : (c / 2).toNat < 9 := by omega
    have hsp : spn θ δ (c / 2).toNat (c % 2) = spn θ' δ' (c / 2).toNat (c % 2) := spn_eq hT hD o (oD.ok (by simp at hn; omega)) he (by omega) (by omega)
    simp only [rnA] at e ⊢
    rw [← hsp]
    split at e
    · rename_i hp
      rw [if_pos hp]
      refine rnA_eq hT o hE hs cs (n := n + 1) (by simp at hn; omega) (fun c' h' => hc c' (by simp [h'])) (eaD_eq hD he) (eaD_ok o oD (by simp at hn; omega) he (by omega) (by omega)) δ1 h1 e
    · cases e
theorem gdA_eq {θ θ' : thy} {δ δ' : dyn} {E s d : Int} {l : List Int} {h : Int} (hT : eqT θ θ') (hD : eqD δ δ') (o : okT θ) (oD : okDn 0 δ) (hE : E ≤ 9) (hs : 0 ≤ s ∧ s ≤ 1) (hl : l.length ≤ 4) (g : gdA θ δ E s d l h) : gdA θ' δ' E s d l h := by
  obtain ⟨hc, δ1, h1, h2⟩ := g
  obtain ⟨δ2, h3, h4⟩ := rnA_eq (d := d) hT o hE hs l (n := 0) (by omega) hc hD oD δ1 h h1
  exact ⟨hc, δ2, h3, h4.trans h2⟩
theorem aqA_eq {θ θ' : thy} {δ δ' : dyn} {E s d n h : Int} {f : Nat → Int} (hT : eqT θ θ') (hD : eqD δ δ') (o : okT θ) (oD : okDn 0 δ) (hE : E ≤ 9) (hs : 0 ≤ s ∧ s ≤ 1) (g : aqA θ δ E s d n h f) : aqA θ' δ' E s d n h f := by
  have o' := okT_eq hT o
  have oD' := okDn_eq hD oD
  have hb : ∀ l h, l.length ≤ 4 → (gdA θ' δ' E s d l h → gdA θ δ E s d l h) := fun l h hl => gdA_eq hT.symm hD.symm o' oD' hE hs hl
  rcases g with ⟨g1, g2⟩ | ⟨g0, g1, ⟨g2, g3, g4⟩, g5⟩
  · exact Or.inl ⟨g1, fun l' h' hl q => g2 l' h' hl (hb _ _ hl q)⟩
  · refine Or.inr ⟨g0, g1, ⟨g2, gdA_eq hT hD o oD hE hs (by omega) g3, fun l' h' hl q => g4 l' h' hl (hb _ _ (by omega) q)⟩, fun l' h' hl q => g5 l' h' hl (hb _ _ (by omega) q)⟩
theorem lxl_anti : ∀ {l l' : List Int}, l.length = l'.length → lxl l l' → lxl l' l → l = l'
  | [], [], _, _, _ => rfl
  | a :: r, b :: r', hl, h1, h2 => by
    simp only [lxl] at h1 h2
    have e : a = b := by omega
    subst e
    rw [lxl_anti (l := r) (l' := r') (by simpa using hl) (by rcases h1 with h | h; omega; exact h.2) (by rcases h2 with h | h; omega; exact h.2)]
  | [], _ :: _, hl, _, _ => by simp at hl
  | _ :: _, [], hl, _, _ => by simp at hl
theorem aqA_uni {θ : thy} {δ : dyn} {E s d n h n' h' : Int} {f f' : Nat → Int} (g : aqA θ δ E s d n h f) (g' : aqA θ δ E s d n' h' f') : n = n' ∧ (0 ≤ n → h = h' ∧ ∀ k, k < n.toNat → f k = f' k) := by
  rcases g with ⟨g1, g2⟩ | ⟨g0, g1, ⟨g2, g3, g4⟩, g5⟩ <;> rcases g' with ⟨k1, k2⟩ | ⟨k0, k1, ⟨k2, k3, k4⟩, k5⟩
  · exact ⟨g1.trans k1.symm, fun h => by omega⟩
  · exact absurd k3 (g2 _ _ (by omega))
  · exact absurd g3 (k2 _ _ (by omega))
  · have en : n = n' := by
      have : ¬ n.toNat < n'.toNat := fun q => k5 _ _ (by omega) g3
      have : ¬ n'.toNat < n.toNat := fun q => g5 _ _ (by omega) k3
      omega
    subst en
    refine ⟨rfl, fun _ => ?_⟩
    have a := g4 _ _ k2 k3
    have b := k4 _ _ g2 g3
    have eh : h = h' := by omega
    have el := lxl_anti (g2.trans k2.symm) (by rcases a with a | a; omega; exact a.2) (by rcases b with b | b; omega; exact b.2)
    refine ⟨eh, fun k hk => ?_⟩
    have := congrArg (fun l => l[k]?) el
    simpa [hk] using this
/-- what an acquittal looks at is as it was -/
theorem sgt_keep {I I' : gI} (h : sgt I) (h0 : I' 0 9 = I 0 9) (h1 : I' 1 8 = I 1 8) (h2 : I' 1 9 = I 1 9) (h3 : I' 173 = I 173) (hT : thC I' = thC I) (h5 : I' 5 = I 5) (h6 : I' 6 = I 6) (h7 : I' 7 = I 7) (h8 : I' 4 3 = I 4 3) (h9 : I' 4 4 = I 4 4) (hA : I' 3 6 = I 3 6) : sgt I' := by
  unfold sgt
  have hD : dyC I' 4 = dyC I 4 := by unfold dyC; rw [h5, h6, h7, h8]
  rw [h0, h1, h2, h3, hT, hD, h9, hA]
  exact h
theorem sgt_no {I : gI} (h : I 0 9 = -1) : sgt I := Or.inl h
