/-! spoons for an acquittal, in their order -/
/-- l comes ahead of all that begin with q -/
def plt : List Int → List Int → Prop
  | a :: r, b :: q => a < b ∨ (a = b ∧ plt r q)
  | [], _ => False
  | _ :: _, [] => False
theorem plt_nil (l : List Int) : ¬ plt l [] := by cases l <;> simp [plt]
theorem plt_snoc : ∀ (q l : List Int) (k : Int), plt l (q ++ [k]) ↔ plt l q ∨ ∃ x r, l = q ++ x :: r ∧ x < k
  | [], [], k => by simp [plt]
  | [], a :: r, k => by
    simp only [List.nil_append, plt]
    constructor
    · rintro (h | ⟨_, h⟩)
      · exact Or.inr ⟨a, r, rfl, h⟩
      · exact absurd h (plt_nil r)
    · rintro (h | ⟨x, r', e, hx⟩)
      · exact absurd h (by simp)
      · cases e; exact Or.inl hx
  | b :: q, [], k => by simp [plt]
  | b :: q, a :: r, k => by
    simp only [List.cons_append, plt]
    rw [plt_snoc q r k]
    constructor
    · rintro (h | ⟨rfl, h | ⟨x, r', rfl, hx⟩⟩)
      · exact Or.inl (Or.inl h)
      · exact Or.inl (Or.inr ⟨rfl, h⟩)
      · exact Or.inr ⟨x, r', rfl, hx⟩
    · rintro ((h | ⟨rfl, h⟩) | ⟨x, r', e, hx⟩)
      · exact Or.inl h
      · exact Or.inr ⟨rfl, Or.inl h⟩
      · cases e; exact Or.inr ⟨rfl, Or.inr ⟨x, r', rfl, hx⟩⟩
theorem plt_app : ∀ {l q : List Int} (s : List Int), plt l q → plt l (q ++ s)
  | [], _, _, h => by simp [plt] at h
  | _ :: _, [], _, h => by simp [plt] at h
  | a :: r, b :: q, s, h => by
    simp only [List.cons_append, plt] at h ⊢
    rcases h with h | ⟨h1, h2⟩
    · exact Or.inl h
    · exact Or.inr ⟨h1, plt_app s h2⟩
theorem plt_lxl : ∀ {l q : List Int} (r : List Int), plt l q → lxl l (q ++ r)
  | [], _, _, h => by simp [plt] at h
  | _ :: _, [], _, h => by simp [plt] at h
  | a :: r, b :: q, s, h => by
    simp only [List.cons_append, plt] at h
    simp only [List.cons_append, lxl]
    rcases h with h | ⟨h1, h2⟩
    · exact Or.inl h
    · exact Or.inr ⟨h1, plt_lxl s h2⟩
theorem lxl_trans : ∀ {l l' l'' : List Int}, lxl l l' → lxl l' l'' → lxl l l''
  | [], _, _, _, _ => by simp [lxl]
  | _ :: _, [], _, h, _ => by simp [lxl] at h
  | _ :: _, _ :: _, [], _, h => by simp [lxl] at h
  | a :: r, b :: r', c :: r'', h, g => by
    simp only [lxl] at h g ⊢
    rcases h with h | ⟨h1, h2⟩
    · rcases g with g | ⟨g1, _⟩
      · exact Or.inl (by omega)
      · exact Or.inl (by omega)
    · rcases g with g | ⟨g1, g2⟩
      · exact Or.inl (by omega)
      · exact Or.inr ⟨by omega, lxl_trans h2 g2⟩
theorem lxl_rfl : ∀ (l : List Int), lxl l l
  | [] => by simp [lxl]
  | a :: r => by simp only [lxl]; exact Or.inr ⟨trivial, lxl_rfl r⟩
theorem swap_lxl {a b : Int} (h : b < a) : ∀ (p r : List Int), lxl (p ++ b :: a :: r) (p ++ a :: b :: r)
  | [], r => by simp only [List.nil_append, lxl]; exact Or.inl h
  | x :: p, r => by simp only [List.cons_append, lxl]; exact Or.inr ⟨trivial, swap_lxl h p r⟩
theorem swap_plt {a b : Int} (h : b < a) : ∀ (p r : List Int), plt (p ++ b :: a :: r) (p ++ [a])
  | [], r => by simp only [List.nil_append, plt]; exact Or.inl h
  | x :: p, r => by simp only [List.cons_append, plt]; exact Or.inr ⟨trivial, swap_plt h p r⟩
/-! spoons one behind the other -/
theorem rnA_app (θ : thy) : ∀ (p r : List Int) (δ : dyn) (h : Int), rnA θ (p ++ r) δ h = (rnA θ p δ h).bind (fun x => rnA θ r x.1 x.2)
  | [], _, _, _ => rfl
  | c :: p, r, δ, h => by
    simp only [List.cons_append, rnA]
    split
    · exact rnA_app θ p r _ _
    · rfl
theorem rnA_mono (θ : thy) : ∀ (r : List Int) {δ δ' : dyn} {h h' : Int}, rnA θ r δ h = some (δ', h') → h ≤ h'
  | [], _, _, _, _, e => by simp only [rnA, Option.some.injEq, Prod.mk.injEq] at e; omega
  | c :: r, δ, δ', h, h', e => by
    simp only [rnA] at e
    split at e
    · rename_i hp
      have := rnA_mono θ r e
      split at this <;> omega
    · cases e
/-- eaten in the one order or in the other -/
theorem eaD_comm {δ : dyn} {a c : Nat} {ka kc ga gc : Int} (ha : 0 < ga) (hc : 0 < gc) : eaD (eaD δ a ka ga) c kc gc = eaD (eaD δ c kc gc) a ka ga := by
  unfold eaD
  simp only [if_pos ha, if_pos hc]
  refine Prod.ext ?_ (Prod.ext rfl (Prod.ext ?_ ?_))
  · funext j
    simp only []
    split <;> split <;> omega
  · funext j
    simp only []
    split <;> split <;> omega
  · rfl
theorem rnA_swap {θ : thy} {δ : dyn} {h : Int} {a c : Int} {r : List Int} (h1 : 0 < spn θ δ (a / 2).toNat (a % 2)) (h2 : 0 < spn θ (eaD δ (a / 2).toNat (a % 2) (spn θ δ (a / 2).toNat (a % 2))) (c / 2).toNat (c % 2)) (e1 : spn θ δ (c / 2).toNat (c % 2) = spn θ (eaD δ (a / 2).toNat (a % 2) (spn θ δ (a / 2).toNat (a % 2))) (c / 2).toNat (c % 2)) (e2 : spn θ (eaD δ (c / 2).toNat (c % 2) (spn θ δ (c / 2).toNat (c % 2))) (a / 2).toNat (a % 2) = spn θ δ (a / 2).toNat (a % 2)) : rnA θ (a :: c :: r) δ h = rnA θ (c :: a :: r) δ h := by
  have L1 : rnA θ (a :: c :: r) δ h = rnA θ r (eaD (eaD δ (a / 2).toNat (a % 2) (spn θ δ (a / 2).toNat (a % 2))) (c / 2).toNat (c % 2) (spn θ δ (c / 2).toNat (c % 2))) (if c % 2 = 0 then (if a % 2 = 0 then h + spn θ δ (a / 2).toNat (a % 2) else h) + spn θ δ (c / 2).toNat (c % 2) else (if a % 2 = 0 then h + spn θ δ (a / 2).toNat (a % 2) else h)) := by
    simp only [rnA]
    rw [if_pos h1, if_pos h2, ← e1]
  rw [← e1] at h2
  have L2 : rnA θ (c :: a :: r) δ h = rnA θ r (eaD (eaD δ (c / 2).toNat (c % 2) (spn θ δ (c / 2).toNat (c % 2))) (a / 2).toNat (a % 2) (spn θ δ (a / 2).toNat (a % 2))) (if a % 2 = 0 then (if c % 2 = 0 then h + spn θ δ (c / 2).toNat (c % 2) else h) + spn θ δ (a / 2).toNat (a % 2) else (if c % 2 = 0 then h + spn θ δ (c / 2).toNat (c % 2) else h)) := by
    simp only [rnA]
    rw [if_pos h2, e2, if_pos h1]
  rw [L1, L2, eaD_comm h1 h2]
  congr 1
  by_cases c1 : a % 2 = 0 <;> by_cases c2 : c % 2 = 0 <;> simp only [c1, c2, if_true, if_false] <;> omega
/-! the best so far -/
abbrev aS : Type := Option (Int × List Int)
def ivA (θ : thy) (δ : dyn) (E s d : Int) (g : Nat) (S : aS) (q : List Int) : Prop := match S with
  | none => ∀ l h, l.length = g → gdA θ δ E s d l h → ¬ plt l q
  | some (h, l) => l.length = g ∧ gdA θ δ E s d l h ∧ plt l q ∧ ∀ l' h', l'.length = g → gdA θ δ E s d l' h' → plt l' q → h < h' ∨ (h = h' ∧ lxl l l')
section IVA
variable {θ : thy} {δ : dyn} {E s d : Int} {g : Nat} {S : aS} {q q2 : List Int}
/-- what comes anew is no better -/
theorem iv_skip (v : ivA θ δ E s d g S q) (h0 : ∀ l, plt l q → plt l q2) (h1 : ∀ l' h', l'.length = g → gdA θ δ E s d l' h' → plt l' q2 → ¬ plt l' q → ∃ h l, S = some (h, l) ∧ (h < h' ∨ (h = h' ∧ lxl l l'))) : ivA θ δ E s d g S q2 := by
  match S, v, h1 with
  | none, v, h1 =>
    intro l h hl hg hp
    by_cases c : plt l q
    · exact v l h hl hg c
    · obtain ⟨_, _, e, _⟩ := h1 l h hl hg hp c
      cases e
  | some (h, l), v, h1 =>
    obtain ⟨v1, v2, v3, v4⟩ := v
    refine ⟨v1, v2, h0 l v3, fun l' h' hl hg hp => ?_⟩
    by_cases c : plt l' q
    · exact v4 l' h' hl hg c
    · obtain ⟨a, b, e, w⟩ := h1 l' h' hl hg hp c
      cases e
      exact w
theorem iv_eq (v : ivA θ δ E s d g S q) (h : ∀ l h', l.length = g → gdA θ δ E s d l h' → (plt l q ↔ plt l q2)) : ivA θ δ E s d g S q2 := by
  match S, v with
  | none, v => exact fun l h' hl hg hp => v l h' hl hg ((h l h' hl hg).mpr hp)
  | some (a, b), v =>
    obtain ⟨v1, v2, v3, v4⟩ := v
    exact ⟨v1, v2, (h b a v1 v2).mp v3, fun l' h' hl hg hp => v4 l' h' hl hg ((h l' h' hl hg).mpr hp)⟩
end IVA
/-- who begins so -/
theorem plt_new {q l : List Int} {k : Int} (h : plt l (q ++ [k + 1])) (n : ¬ plt l (q ++ [k])) : ∃ r, l = q ++ k :: r := by
  rcases (plt_snoc q l (k + 1)).mp h with h | ⟨x, r, rfl, hx⟩
  · exact absurd ((plt_snoc q l k).mpr (Or.inl h)) n
  · have : ¬ x < k := fun z => n ((plt_snoc q _ k).mpr (Or.inr ⟨x, r, rfl, z⟩))
    exact ⟨r, by rw [show x = k by omega]⟩
theorem plt_up {q l : List Int} {k : Int} (h : plt l (q ++ [k])) : plt l (q ++ [k + 1]) := by
  rcases (plt_snoc q l k).mp h with h | ⟨x, r, e, hx⟩
  · exact (plt_snoc q l (k + 1)).mpr (Or.inl h)
  · exact (plt_snoc q l (k + 1)).mpr (Or.inr ⟨x, r, e, by omega⟩)
theorem plt_zero {q l : List Int} {E : Int} (hc : cds E l) : plt l q ↔ plt l (q ++ [0]) := by
  rw [plt_snoc]
  constructor
  · exact Or.inl
  · rintro (h | ⟨x, r, rfl, hx⟩)
    · exact h
    · have := (hc x (by simp)).1
      omega
theorem plt_full {q l : List Int} {E k : Int} (hc : cds E l) (hl : q.length + 1 < l.length) : plt l (q ++ [k] ++ [2 * E]) ↔ plt l (q ++ [k + 1]) := by
  rw [plt_snoc]
  constructor
  · rintro (h | ⟨x, r, e, hx⟩)
    · exact plt_up h
    · exact (plt_snoc q l (k + 1)).mpr (Or.inr ⟨k, x :: r, by rw [e]; simp, by omega⟩)
  · intro h
    by_cases c : plt l (q ++ [k])
    · exact Or.inl c
    · obtain ⟨r, e⟩ := plt_new h c
      cases r with
      | nil => rw [e] at hl; simp at hl
      | cons x r => exact Or.inr ⟨x, r, by rw [e]; simp, (hc x (by rw [e]; simp)).2⟩
theorem plt_all {l : List Int} {E : Int} (hc : cds E l) (hl : 1 ≤ l.length) : plt l [2 * E] := by
  cases l with
  | nil => simp at hl
  | cons a r => simp only [plt]; exact Or.inl (hc a (by simp)).2
