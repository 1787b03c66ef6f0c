/-! tokens of a law, read from the left onto a stack -/
abbrev tok : Type := Int × Int
def c6 (v : Int) : Int := if v ≤ 1000000 then (if -1000000 ≤ v then v else -1000000) else 1000000
def wk (o x y : Int) : Int :=
  if o = 35 then (if x = y then 0 else 1) else if o = 42 then c6 (x * y) else if o = 43 then c6 (x + y) else if o = 45 then c6 (x - y)
  else if o = 47 then (if y = 0 then 0 else x.tdiv y) else if o = 60 then (if y ≤ x then 0 else 1) else if o = 61 then (if x = y then 1 else 0) else if o = 62 then (if x ≤ y then 0 else 1)
  else if o = 300 then (if y < x then 0 else 1) else if o = 301 then (if x < y then 0 else 1) else if o = 406 then x * y else if x + y ≤ 0 then 0 else 1
def isAr (o : Int) : Bool := o == 42 || o == 43 || o == 45 || o == 47
def isCm (o : Int) : Bool := o == 35 || o == 60 || o == 61 || o == 62 || o == 300 || o == 301
def isLo (o : Int) : Bool := o == 406 || o == 407
def ev1 (nm : Nat → Int) (t : tok) (st : List Int) : List Int :=
  if t.1 = 400 then t.2 :: st else if t.1 = 401 then nm t.2.toNat :: st
  else match st with
    | [] => []
    | x :: r => if t.1 = 402 then -x :: r else if t.1 = 405 then (1 - x) :: r else match r with
      | [] => [x]
      | z :: r2 => wk t.1 z x :: r2
def ev (nm : Nat → Int) : List tok → List Int → List Int
  | [], st => st
  | t :: r, st => ev nm r (ev1 nm t st)
/-- what is on the stack: true: whether something is so (0, 1) -/
def ty1 (t : tok) (bs : List Bool) : Option (List Bool) :=
  if t.1 = 400 then (if 0 ≤ t.2 ∧ t.2 ≤ 9999 ∧ bs.length < 60 then some (false :: bs) else none)
  else if t.1 = 401 then (if 0 ≤ t.2 ∧ t.2 < 12 ∧ bs.length < 60 then some (false :: bs) else none)
  else match bs with
    | [] => none
    | x :: r => if t.1 = 402 then (if x = false then some (x :: r) else none) else if t.1 = 405 then (if x = true then some (x :: r) else none) else match r with
      | [] => none
      | z :: r2 => if isAr t.1 = true then (if x = false ∧ z = false then some (false :: r2) else none) else if isCm t.1 = true then (if x = false ∧ z = false then some (true :: r2) else none)
        else if isLo t.1 = true then (if x = true ∧ z = true then some (true :: r2) else none) else none
def tyc : List tok → List Bool → Option (List Bool)
  | [], bs => some bs
  | t :: r, bs => (ty1 t bs).bind (tyc r)
def okv (b : Bool) (v : Int) : Prop := -1000000 ≤ v ∧ v ≤ 1000000 ∧ (b = true → v = 0 ∨ v = 1)
def oks : List Bool → List Int → Prop
  | [], [] => True
  | b :: bs, v :: vs => okv b v ∧ oks bs vs
  | _, _ => False
theorem oks_len : ∀ {bs : List Bool} {vs : List Int}, oks bs vs → bs.length = vs.length
  | [], [], _ => rfl
  | _ :: bs, _ :: vs, h => by simp [oks_len (bs := bs) (vs := vs) h.2]
  | [], _ :: _, h => h.elim
  | _ :: _, [], h => h.elim
theorem c6_ok (v : Int) : -1000000 ≤ c6 v ∧ c6 v ≤ 1000000 := by unfold c6; grind
theorem tdiv_le (x y : Int) (h1 : -1000000 ≤ x) (h2 : x ≤ 1000000) : -1000000 ≤ x.tdiv y ∧ x.tdiv y ≤ 1000000 := by
  have h := Int.natAbs_tdiv_le_natAbs x y
  omega
theorem wk_ar {o x y : Int} (ho : isAr o = true) (h1 : -1000000 ≤ x) (h2 : x ≤ 1000000) : okv false (wk o x y) := by
  have h := tdiv_le x y h1 h2
  have hc := c6_ok
  simp only [isAr, Bool.or_eq_true, beq_iff_eq] at ho
  refine ⟨?_, ?_, fun h => by cases h⟩ <;> unfold wk <;> grind
theorem wk_cm {o x y : Int} (ho : isCm o = true) : okv true (wk o x y) := by
  simp only [isCm, Bool.or_eq_true, beq_iff_eq] at ho
  have h : wk o x y = 0 ∨ wk o x y = 1 := by
    rcases ho with ((((rfl | rfl) | rfl) | rfl) | rfl) | rfl <;> simp [wk] <;> grind
  refine ⟨by omega, by omega, fun _ => h⟩
theorem wk_lo {o x y : Int} (ho : isLo o = true) (h1 : x = 0 ∨ x = 1) (h2 : y = 0 ∨ y = 1) : okv true (wk o x y) := by
  simp only [isLo, Bool.or_eq_true, beq_iff_eq] at ho
  have h : wk o x y = 0 ∨ wk o x y = 1 := by
    rcases ho with rfl | rfl <;> rcases h1 with rfl | rfl <;> rcases h2 with rfl | rfl <;> decide
  refine ⟨by omega, by omega, fun _ => h⟩
/-- a name that is told -/
def okn (nm : Nat → Int) (t : tok) : Prop := t.1 = 401 → -1000000 ≤ nm t.2.toNat ∧ nm t.2.toNat ≤ 1000000
theorem ev1_ok {nm : Nat → Int} {t : tok} {bs bs' : List Bool} {st : List Int} (h : ty1 t bs = some bs') (ho : oks bs st) (hn : okn nm t) : oks bs' (ev1 nm t st) := by
  unfold ty1 at h
  unfold ev1
  by_cases c0 : t.1 = 400
  · rw [if_pos c0] at h ⊢
    split at h
    · rename_i hh
      cases h
      exact ⟨⟨by omega, by omega, fun h => by cases h⟩, ho⟩
    · cases h
  rw [if_neg c0] at h ⊢
  by_cases c1 : t.1 = 401
  · rw [if_pos c1] at h ⊢
    have := hn c1
    split at h
    · cases h
      exact ⟨⟨this.1, this.2, fun h => by cases h⟩, ho⟩
    · cases h
  rw [if_neg c1] at h ⊢
  match bs, st, ho, h with
  | [], _, _, h => cases h
  | x :: r, [], ho, _ => exact ho.elim
  | x :: r, v :: vs, ho, h =>
    obtain ⟨⟨a1, a2, a3⟩, ho⟩ := ho
    simp only at h ⊢
    by_cases c2 : t.1 = 402
    · rw [if_pos c2] at h ⊢
      split at h
      · rename_i hx
        cases h
        exact ⟨⟨by omega, by omega, fun q => by rw [hx] at q; cases q⟩, ho⟩
      · cases h
    rw [if_neg c2] at h ⊢
    by_cases c3 : t.1 = 405
    · rw [if_pos c3] at h ⊢
      split at h
      · rename_i hx
        cases h
        have := a3 hx
        exact ⟨⟨by omega, by omega, fun _ => by omega⟩, ho⟩
      · cases h
    rw [if_neg c3] at h ⊢
    match r, vs, ho, h with
    | [], _, _, h => cases h
    | z :: r2, [], ho, _ => exact ho.elim
    | z :: r2, w :: vs2, ho, h =>
      obtain ⟨⟨b1, b2, b3⟩, ho⟩ := ho
      simp only at h ⊢
      split at h
      · rename_i hA
        split at h
        · cases h
          exact ⟨wk_ar hA b1 b2, ho⟩
        · cases h
      · split at h
        · rename_i hA
          split at h
          · cases h
            exact ⟨wk_cm hA, ho⟩
          · cases h
        · split at h
          · rename_i hA
            split at h
            · rename_i hx
              cases h
              exact ⟨wk_lo hA (b3 hx.2) (a3 hx.1), ho⟩
            · cases h
          · cases h
theorem ty1_len {t : tok} {bs bs' : List Bool} (h : ty1 t bs = some bs') (hb : bs.length ≤ 60) : bs'.length ≤ 60 := by
  unfold ty1 at h
  grind
/-- a stack in a row of numbers: its top last -/
def stk (f : Nat → Int) : List Int → Prop
  | [] => True
  | v :: r => f r.length = v ∧ stk f r
theorem stk_of {f g : Nat → Int} : ∀ {st : List Int}, (∀ j, j < st.length → g j = f j) → stk f st → stk g st
  | [], _, _ => trivial
  | v :: r, h, hs => ⟨(h r.length (by simp)).trans hs.1, stk_of (fun j hj => h j (by simp; omega)) hs.2⟩
theorem stk_at {f : Nat → Int} {v : Int} {r : List Int} (h : stk f (v :: r)) : f r.length = v := h.1
/-- a token by the class's code -/
def tkO (t : Int) : Int := if t = 9 then 407 else if t = 10 then 406 else if t = 24 then 60 else if t = 25 then 62 else if t = 26 then 61 else if t = 27 then 35 else if t = 28 then 43 else if t = 29 then 45 else if t = 30 then 42 else if t = 31 then 47 else if t = 35 then 300 else if t = 36 then 301 else 0
def tkC (c : Int) : tok := if c < 10000 then (400, c) else if 10012 ≤ c ∧ c < 10024 then (401, c - 10012) else if c = 10040 then (402, 0) else if c = 10011 then (405, 0) else (tkO (c - 10000), 0)
