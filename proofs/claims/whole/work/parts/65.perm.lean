/-! orders by number -/
def fa : Nat → Nat
  | 0 => 1
  | n + 1 => (n + 1) * fa n
theorem fa_pos : ∀ n, 0 < fa n
  | 0 => by decide
  | n + 1 => Nat.mul_pos (Nat.succ_pos n) (fa_pos n)
def rm (c : Nat → Nat) (q : Nat) : Nat → Nat := fun i => if i < q then c i else c (i + 1)
def nthF : Nat → (Nat → Nat) → Nat → List Nat
  | 0, _, _ => []
  | m + 1, c, j => c (j / fa m) :: nthF m (rm c (j / fa m)) (j % fa m)
theorem nthF_len : ∀ (m : Nat) (c : Nat → Nat) (j : Nat), (nthF m c j).length = m
  | 0, _, _ => rfl
  | m + 1, c, j => by simp [nthF, nthF_len m]
theorem nthF_at {m : Nat} {c : Nat → Nat} {q j : Nat} (hj : j < fa m) : nthF (m + 1) c (q * fa m + j) = c q :: nthF m (rm c q) j := by
  have e1 : (q * fa m + j) / fa m = q := by rw [Nat.mul_comm, Nat.mul_add_div (fa_pos m), Nat.div_eq_of_lt hj, Nat.add_zero]
  have e2 : (q * fa m + j) % fa m = j := by rw [Nat.mul_comm, Nat.mul_add_mod, Nat.mod_eq_of_lt hj]
  simp only [nthF, e1, e2]
/-- c tells those of whom P is so, by number -/
def sq (P : Nat → Prop) (c : Nat → Nat) (m : Nat) : Prop := (∀ i j, i < j → j < m → c i < c j) ∧ (∀ i, i < m → P (c i)) ∧ ∀ e, P e → ∃ i, i < m ∧ c i = e
theorem sq_rm {P : Nat → Prop} {c : Nat → Nat} {m q : Nat} (h : sq P c (m + 1)) (hq : q ≤ m) : sq (fun e => P e ∧ e ≠ c q) (rm c q) m := by
  obtain ⟨h1, h2, h3⟩ := h
  refine ⟨fun i j hij hj => ?_, fun i hi => ?_, fun e he => ?_⟩
  · unfold rm
    split <;> split
    · exact h1 i j hij (by omega)
    · exact h1 i (j + 1) (by omega) (by omega)
    · omega
    · exact h1 (i + 1) (j + 1) (by omega) (by omega)
  · unfold rm
    split
    · exact ⟨h2 i (by omega), fun q' => by have := h1 i q (by omega) (by omega); omega⟩
    · exact ⟨h2 (i + 1) (by omega), fun q' => by have := h1 q (i + 1) (by omega) (by omega); omega⟩
  · obtain ⟨i, hi, e1⟩ := h3 e he.1
    have hiq : i ≠ q := fun q' => he.2 (by rw [← e1, q'])
    rcases Nat.lt_or_ge i q with k | k
    · exact ⟨i, by omega, by unfold rm; rw [if_pos k]; exact e1⟩
    · exact ⟨i - 1, by omega, by unfold rm; rw [if_neg (by omega), show i - 1 + 1 = i by omega]; exact e1⟩
theorem sq_congr {P P' : Nat → Prop} {c : Nat → Nat} {m : Nat} (h : sq P c m) (hp : ∀ e, P e ↔ P' e) : sq P' c m := ⟨h.1, fun i hi => (hp _).mp (h.2.1 i hi), fun e he => h.2.2 e ((hp e).mpr he)⟩
/-- the best so far -/
abbrev cst : Type := Int × List Nat
def up1 (T : List Nat → Int) (st : cst) (p : List Nat) : cst := if (T p).natAbs < st.1.natAbs then (T p, p) else st
def foS (T : List Nat → Int) (f : Nat → List Nat) : Nat → cst → cst
  | 0, st => st
  | j + 1, st => up1 T (foS T f j st) (f j)
theorem foS_add (T : List Nat → Int) (f : Nat → List Nat) (a : Nat) (st : cst) : ∀ b, foS T f (a + b) st = foS T (fun j => f (a + j)) b (foS T f a st)
  | 0 => rfl
  | b + 1 => by
    show up1 T (foS T f (a + b) st) (f (a + b)) = up1 T (foS T (fun j => f (a + j)) b (foS T f a st)) (f (a + b))
    rw [foS_add T f a st b]
theorem foS_congr (T : List Nat → Int) {f g : Nat → List Nat} (st : cst) : ∀ n, (∀ j, j < n → f j = g j) → foS T f n st = foS T g n st
  | 0, _ => rfl
  | n + 1, h => by
    show up1 T (foS T f n st) (f n) = up1 T (foS T g n st) (g n)
    rw [foS_congr T st n (fun j hj => h j (by omega)), h n (by omega)]
theorem up1_b {T : List Nat → Int} {st : cst} {p : List Nat} {B : Nat} (h : st.1.natAbs ≤ B) : (up1 T st p).1.natAbs ≤ B := by
  unfold up1
  split
  · show (T p).natAbs ≤ B; omega
  · exact h
theorem foS_b {T : List Nat → Int} {f : Nat → List Nat} {st : cst} {B : Nat} (h : st.1.natAbs ≤ B) : ∀ n, (foS T f n st).1.natAbs ≤ B
  | 0 => h
  | n + 1 => up1_b (foS_b h n)
/-- one after the other, who can't eats nothing -/
def rnC (θ : thy) (κ : Int) : List Nat → dyn → dyn
  | [], δ => δ
  | e :: p, δ => rnC θ κ p (eaD δ e κ (spn θ δ e κ))
theorem rnC_snoc (θ : thy) (κ : Int) (e : Nat) : ∀ (p : List Nat) (δ : dyn), rnC θ κ (p ++ [e]) δ = eaD (rnC θ κ p δ) e κ (spn θ (rnC θ κ p δ) e κ)
  | [], _ => rfl
  | _ :: p, δ => rnC_snoc θ κ e p _
theorem rnC_ok {θ : thy} {κ : Int} (o : okT θ) (h0 : 0 ≤ κ) (h1 : κ ≤ 1) : ∀ (p : List Nat) {δ : dyn} {n : Nat}, (∀ e ∈ p, e < 9) → n + p.length ≤ 10 → okDn n δ → okDn (n + p.length) (rnC θ κ p δ)
  | [], _, _, _, _, oD => oD
  | e :: p, δ, n, hp, hn, oD => by
    simp only [List.length_cons] at hn ⊢
    have := rnC_ok o h0 h1 p (n := n + 1) (fun x hx => hp x (by simp [hx])) (by omega) (eaD_ok o oD (by omega) (hp e (by simp)) h0 h1)
    rw [show n + (p.length + 1) = n + 1 + p.length by omega]
    exact this
theorem rnC_eq {θ θ' : thy} {κ : Int} (hT : eqT θ θ') (o : okT θ) (h0 : 0 ≤ κ) (h1 : κ ≤ 1) : ∀ (p : List Nat) {δ δ' : dyn} {n : Nat}, (∀ e ∈ p, e < 9) → n + p.length ≤ 10 → eqD δ δ' → okDn n δ → eqD (rnC θ κ p δ) (rnC θ' κ p δ')
  | [], _, _, _, _, _, hD, _ => hD
  | e :: p, δ, δ', n, hp, hn, hD, oD => by
    simp only [List.length_cons] at hn
    have he := hp e (by simp)
    have hs : spn θ δ e κ = spn θ' δ' e κ := spn_eq hT hD o (oD.ok (by omega)) he h0 h1
    simp only [rnC]
    rw [← hs]
    exact rnC_eq hT o h0 h1 p (n := n + 1) (fun x hx => hp x (by simp [hx])) (by omega) (eaD_eq hD he) (eaD_ok o oD (by omega) he h0 h1)
theorem tlt_b {δ : dyn} (h : okD δ) : -1998 ≤ tlt δ ∧ tlt δ ≤ 1998 := by
  have h0 := h.1 0 (by decide)
  have h1 := h.1 1 (by decide)
  have h2 := h.1 2 (by decide)
  have h3 := h.1 3 (by decide)
  unfold tlt; omega
/-- given back, it is as it was -/
theorem giv_back {X J : gI} {x : Nat} {e k g : Int32} (h0 : J x = eatI X x e k g x) (h1 : J (x + 1) = eatI X x e k g (x + 1)) (h2 : J (x + 2) = eatI X x e k g (x + 2)) (h3 : J (x + 3) = eatI X x e k g (x + 3)) : givI J x e k g x = X x ∧ givI J x e k g (x + 1) = X (x + 1) ∧ givI J x e k g (x + 2) = X (x + 2) ∧ givI J x e k g (x + 3) = X (x + 3) ∧ ∀ c, c ≠ x → c ≠ x + 1 → c ≠ x + 3 → givI J x e k g c = J c := by
  have e2 : eatI X x e k g (x + 2) = X (x + 2) := by
    unfold eatI
    split
    · rfl
    · split
      · rfl
      · simp only []
        rw [up_off _ (by omega), up_off _ (by omega), up_off _ (by omega)]
  have j2 : J (x + 2) = X (x + 2) := h2.trans e2
  have sc : ∀ a b : Int32, a - b + b = a := fun a b => by grind
  have sc2 : ∀ a b : Int32, a + b - b = a := fun a b => by grind
  by_cases c1 : X (x + 2) e.toNatClampNeg = 2
  · have ee : eatI X x e k g = X := by unfold eatI; rw [if_pos c1]
    have eg : givI J x e k g = J := by unfold givI; rw [j2, if_pos c1]
    rw [eg, h0, h1, h2, h3, ee]
    exact ⟨rfl, rfl, rfl, rfl, fun _ _ _ _ => rfl⟩
  by_cases c2 : g ≤ 0
  · have ee : eatI X x e k g = X := by unfold eatI; rw [if_neg c1, if_pos c2]
    have eg : givI J x e k g = J := by unfold givI; rw [j2, if_neg c1, if_pos c2]
    rw [eg, h0, h1, h2, h3, ee]
    exact ⟨rfl, rfl, rfl, rfl, fun _ _ _ _ => rfl⟩
  generalize hj : (2 * X (x + 2) e.toNatClampNeg + k).toNatClampNeg = j
  generalize hi : e.toNatClampNeg = i at *
  have ee : eatI X x e k g = up (up (up X (x + 1) j (X (x + 1) j - g)) (x + 3) i (X (x + 3) i + g)) x 3 (X x 3 + 1) := by
    unfold eatI
    rw [hi, if_neg c1, if_neg c2, hj]
    simp only [up_nc (show x + 3 ≠ x + 1 by omega), up_nc (show x ≠ x + 1 by omega), up_nc (show x ≠ x + 3 by omega)]
  have eg : givI J x e k g = up (up (up J (x + 1) j (J (x + 1) j + g)) (x + 3) i (J (x + 3) i - g)) x 3 (J x 3 - 1) := by
    unfold givI
    rw [hi, j2, if_neg c1, if_neg c2, hj]
    simp only [up_nc (show x + 3 ≠ x + 1 by omega), up_nc (show x ≠ x + 1 by omega), up_nc (show x ≠ x + 3 by omega)]
  rw [ee] at h0 h1 h3
  rw [eg]
  have k0 : ∀ m, J x m = if m = 3 then X x 3 + 1 else X x m := fun m => by
    rw [h0]
    by_cases c : m = 3
    · rw [c, up_eq, if_pos rfl]
    · rw [up_ni c, if_neg c, up_nc (by omega), up_nc (by omega)]
  have k1 : ∀ m, J (x + 1) m = if m = j then X (x + 1) j - g else X (x + 1) m := fun m => by
    rw [h1, up_nc (by omega), up_nc (by omega)]
    by_cases c : m = j
    · rw [c, up_eq, if_pos rfl]
    · rw [up_ni c, if_neg c]
  have k3 : ∀ m, J (x + 3) m = if m = i then X (x + 3) i + g else X (x + 3) m := fun m => by
    rw [h3, up_nc (by omega)]
    by_cases c : m = i
    · rw [c, up_eq, if_pos rfl]
    · rw [up_ni c, if_neg c, up_nc (by omega)]
  refine ⟨?_, ?_, ?_, ?_, fun c c1 c2 c3 => by rw [up_off _ c1, up_off _ c3, up_off _ c2]⟩
  · funext m
    by_cases c : m = 3
    · rw [c, up_eq, k0, if_pos rfl, sc2]
    · rw [up_ni c, up_nc (by omega), up_nc (by omega), k0, if_neg c]
  · funext m
    rw [up_nc (by omega), up_nc (by omega)]
    by_cases c : m = j
    · rw [c, up_eq, k1, if_pos rfl, sc]
    · rw [up_ni c, k1, if_neg c]
  · rw [up_off _ (by omega), up_off _ (by omega), up_off _ (by omega)]; exact j2
  · funext m
    rw [up_nc (by omega)]
    by_cases c : m = i
    · rw [c, up_eq, k3, if_pos rfl, sc2]
    · rw [up_ni c, up_nc (by omega), k3, if_neg c]
