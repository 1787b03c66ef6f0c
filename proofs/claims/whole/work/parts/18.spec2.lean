/-! what is eaten, held, guilty: numbers alone -/
abbrev dyn : Type := (Nat → Int) × (Nat → Int) × (Nat → Int) × Int
abbrev thy : Type := (Nat → Int) × (Nat → Int) × (Nat → Option (List tok))
def clp (lo hi v : Int) : Int := if v < lo then lo else if hi < v then hi else v
def vl (nm : Nat → Int) (ts : List tok) : Int := (ev nm ts []).headD 0
def lft (δ : dyn) (e : Nat) (k : Int) : Int := δ.1 (2 * δ.2.1 e + k).toNat
def nmv (θ : thy) (δ : dyn) (e : Nat) (k : Int) (n : Nat) : Int :=
  if n = 0 then e else if n = 1 then θ.1 e else if n = 2 then θ.2.1 e else if n = 3 then δ.2.2.1 e else if n = 4 then k else if n = 5 then lft δ e k else if n = 6 then δ.2.2.2 else δ.2.1 e
def hl0 (θ : thy) (δ : dyn) (e : Nat) : Int := match θ.2.2 1 with
  | none => 20 * θ.2.1 e
  | some ts => clp 0 9999 (vl (nmv θ δ e 0) ts)
def hld (θ : thy) (δ : dyn) (e : Nat) : Int := if δ.2.2.1 e < hl0 θ δ e then hl0 θ δ e - δ.2.2.1 e else 0
def bit (θ : thy) (δ : dyn) (e : Nat) (k : Int) : Int := match θ.2.2 0 with
  | none => θ.1 e + 1
  | some ts => clp 0 99 (vl (nmv θ δ e k) ts)
def spn (θ : thy) (δ : dyn) (e : Nat) (k : Int) : Int := if δ.2.1 e = 2 then 0 else min (bit θ δ e k) (min (lft δ e k) (hld θ δ e))
def tlt (δ : dyn) : Int := δ.1 0 + δ.1 1 - δ.1 2 - δ.1 3
def nmg (δ : dyn) (s d : Int) (n : Nat) : Int :=
  if n = 7 then s else if n = 8 then tlt δ else if n = 9 then δ.1 (2 * s).toNat else if n = 10 then δ.1 (2 * s + 1).toNat else d
def gui (θ : thy) (δ : dyn) (s d : Int) : Bool := match θ.2.2 2 with
  | none => if s = 0 then decide (tlt δ < 0) else decide (0 < tlt δ)
  | some ts => decide (0 < vl (nmg δ s d) ts)
/-- names of a law -/
def nok (w : Nat) (t : tok) : Prop := t.1 = 401 → if w = 0 then t.2 < 8 else if w = 1 then t.2 < 4 else 6 < t.2
def okl (w : Nat) (ts : List tok) : Prop := tyc ts [] = some [decide (w = 2)] ∧ ∀ t ∈ ts, nok w t
def okT (θ : thy) : Prop := (∀ e, e < 9 → 0 ≤ θ.1 e ∧ θ.1 e ≤ 9) ∧ (∀ e, e < 9 → 0 ≤ θ.2.1 e ∧ θ.2.1 e ≤ 9) ∧ ∀ w ts, w < 3 → θ.2.2 w = some ts → okl w ts
def okD (δ : dyn) : Prop := (∀ j, j < 4 → 0 ≤ δ.1 j ∧ δ.1 j ≤ 999) ∧ (∀ e, e < 9 → δ.2.1 e = 0 ∨ δ.2.1 e = 1 ∨ δ.2.1 e = 2) ∧ (∀ e, e < 9 → 0 ≤ δ.2.2.1 e ∧ δ.2.2.1 e ≤ 7000) ∧ 0 ≤ δ.2.2.2 ∧ δ.2.2.2 ≤ 70
theorem ev1_congr {nm nm' : Nat → Int} {t : tok} (h : t.1 = 401 → nm t.2.toNat = nm' t.2.toNat) (st : List Int) : ev1 nm t st = ev1 nm' t st := by
  unfold ev1
  by_cases c : t.1 = 400
  · simp [c]
  by_cases c1 : t.1 = 401
  · simp [c1, h c1]
  · simp [c, c1]
theorem ev_congr {nm nm' : Nat → Int} : ∀ {ts : List tok} {st : List Int}, (∀ t ∈ ts, t.1 = 401 → nm t.2.toNat = nm' t.2.toNat) → ev nm ts st = ev nm' ts st
  | [], _, _ => rfl
  | t :: r, st, h => by
    simp only [ev]
    rw [ev1_congr (h t (by simp)) st]
    exact ev_congr (fun t' h' => h t' (by simp [h']))
theorem vl_congr {nm nm' : Nat → Int} {ts : List tok} (h : ∀ t ∈ ts, t.1 = 401 → nm t.2.toNat = nm' t.2.toNat) : vl nm ts = vl nm' ts := by
  unfold vl; rw [ev_congr h]
theorem ev_ok {nm : Nat → Int} : ∀ {ts : List tok} {bs bs' : List Bool} {st : List Int}, tyc ts bs = some bs' → oks bs st → (∀ t ∈ ts, okn nm t) → oks bs' (ev nm ts st)
  | [], bs, bs', st, h, ho, _ => by cases h; exact ho
  | t :: r, bs, bs', st, h, ho, hn => by
    simp only [tyc] at h
    cases h1 : ty1 t bs with
    | none => rw [h1] at h; cases h
    | some b1 =>
      rw [h1] at h
      exact ev_ok (ts := r) h (ev1_ok h1 ho (hn t (by simp))) (fun t' h' => hn t' (by simp [h']))
theorem vl_ok {nm : Nat → Int} {ts : List tok} {b : Bool} (h : tyc ts [] = some [b]) (hn : ∀ t ∈ ts, okn nm t) : okv b (vl nm ts) := by
  have h1 := ev_ok h (st := []) trivial hn
  unfold vl
  match hh : ev nm ts [], h1 with
  | [z], h1 => exact h1.1
/-- every token of a law that is as it should be tells a name 0 .. 11 -/
theorem ty_name : ∀ {ts : List tok} {bs bs' : List Bool}, tyc ts bs = some bs' → ∀ t ∈ ts, t.1 = 401 → 0 ≤ t.2 ∧ t.2 < 12
  | [], _, _, _ => fun t h => by simp at h
  | u :: r, bs, bs', h => by
    simp only [tyc] at h
    cases h1 : ty1 u bs with
    | none => rw [h1] at h; cases h
    | some b1 =>
      rw [h1] at h
      intro t ht he
      rcases List.mem_cons.mp ht with rfl | ht
      · unfold ty1 at h1
        rw [if_neg (by omega), if_pos he] at h1
        split at h1
        · rename_i q; exact ⟨q.1, q.2.1⟩
        · cases h1
      · exact ty_name (ts := r) h t ht he
/-- the class's own -/
def dyC (I : gI) (x : Nat) : dyn := (fun j => (I (x + 1) j).toInt, fun e => (I (x + 2) e).toInt, fun e => (I (x + 3) e).toInt, (I x 3).toInt)
def lwC (I : gI) (w : Nat) : Option (List tok) := if I 3 10 < 0 ∨ 4 ≤ I 3 10 then none else if I (136 + 7 * (I 3 10).toNatClampNeg + 2) w = -1 then none else some (tkl I (136 + 7 * (I 3 10).toNatClampNeg) w)
def thC (I : gI) : thy := (fun e => (I 129 e).toInt, fun e => (I 130 e).toInt, lwC I)
/-- places of the laws in the code -/
def okP (I : gI) : Prop := ∀ w, w < 3 → 0 ≤ I 3 10 → I 3 10 < 4 → ¬ I (136 + 7 * (I 3 10).toNatClampNeg + 2) w = -1 → 0 ≤ (I (136 + 7 * (I 3 10).toNatClampNeg + 2) w).toInt ∧ (I (136 + 7 * (I 3 10).toNatClampNeg + 2) w).toInt ≤ (I (136 + 7 * (I 3 10).toNatClampNeg + 3) w).toInt ∧ (I (136 + 7 * (I 3 10).toNatClampNeg + 3) w).toInt ≤ 300
def okI (I : gI) : Prop := okT (thC I) ∧ okP I
