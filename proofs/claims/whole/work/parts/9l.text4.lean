/-! what a law's orders do to a stack -/
def shW : List Nat → List Bool
  | [] => []
  | x :: W => if unN x = true then shW W else (if x = 9 ∨ x = 10 then true else false) :: shW W
theorem shW_app : ∀ A B : List Nat, shW (A ++ B) = shW A ++ shW B
  | [], _ => rfl
  | x :: A, B => by
    show shW (x :: (A ++ B)) = _
    rw [shW, shW, shW_app A B]
    split <;> rfl
theorem shW_len : ∀ W : List Nat, (shW W).length + opN W = W.length
  | [] => rfl
  | x :: W => by
    have ih := shW_len W
    rw [shW]
    by_cases h : unN x = true
    · have e : opN (x :: W) = opN W + 1 := by simp [opN, h]
      rw [if_pos h, e, List.length_cons]; omega
    · have e : opN (x :: W) = opN W := by simp [opN, h]
      rw [if_neg h, e, List.length_cons, List.length_cons]; omega
def tyN (o : List Nat) : List tok := o.map (fun c : Nat => tkC (c : Int))
theorem tyN_app (a b : List Nat) : tyN (a ++ b) = tyN a ++ tyN b := by simp [tyN]
theorem tyc_app : ∀ (a b : List tok) (bs : List Bool), tyc (a ++ b) bs = (tyc a bs).bind (tyc b)
  | [], _, _ => rfl
  | t :: a, b, bs => by
    show (ty1 t bs).bind (tyc (a ++ b)) = ((ty1 t bs).bind (tyc a)).bind (tyc b)
    cases h : ty1 t bs with
    | none => rfl
    | some bs1 => exact tyc_app a b bs1
theorem ty_A {x : Nat} (h : inA x) (h2 : x ≠ 32) (S : List Bool) : ty1 (tkC ((10000 + x : Nat) : Int)) (false :: shW (x :: []) ++ S) = some (false :: S) := by
  have : x = 28 ∨ x = 29 ∨ x = 30 ∨ x = 31 ∨ x = 40 := by unfold inA at h; omega
  rcases this with rfl | rfl | rfl | rfl | rfl <;> rfl
theorem ty_C {x : Nat} (h : inC x) (S : List Bool) : ty1 (tkC ((10000 + x : Nat) : Int)) (false :: shW (x :: []) ++ S) = some (true :: S) := by
  have : x = 24 ∨ x = 25 ∨ x = 26 ∨ x = 27 ∨ x = 35 ∨ x = 36 := by unfold inC at h; omega
  rcases this with rfl | rfl | rfl | rfl | rfl | rfl <;> rfl
theorem ty_L {x : Nat} (h : inL x) (S : List Bool) : ty1 (tkC ((10000 + x : Nat) : Int)) (true :: shW (x :: []) ++ S) = some (true :: S) := by
  have : x = 9 ∨ x = 10 ∨ x = 11 := by unfold inL at h; omega
  rcases this with rfl | rfl | rfl <;> rfl
theorem ty_PA : ∀ (P : List Nat) (S : List Bool), (∀ x ∈ P, inA x ∧ x ≠ 32) → tyc (tyN (cd P)) (false :: shW P ++ S) = some (false :: S)
  | [], S, _ => rfl
  | x :: P, S, h => by
    have hx := h x (by simp)
    have ih := ty_PA P S (fun y hy => h y (by simp [hy]))
    show (ty1 (tkC ((10000 + x : Nat) : Int)) _).bind (tyc (tyN (cd P))) = _
    have e := ty_A hx.1 hx.2 (shW P ++ S)
    rw [show false :: shW (x :: P) ++ S = false :: shW (x :: []) ++ (shW P ++ S) by
      rw [show x :: P = [x] ++ P from rfl, shW_app]; simp, e]
    exact ih
theorem ty_PL : ∀ (P : List Nat) (S : List Bool), (∀ x ∈ P, inL x) → tyc (tyN (cd P)) (true :: shW P ++ S) = some (true :: S)
  | [], S, _ => rfl
  | x :: P, S, h => by
    have hx := h x (by simp)
    have ih := ty_PL P S (fun y hy => h y (by simp [hy]))
    show (ty1 (tkC ((10000 + x : Nat) : Int)) _).bind (tyc (tyN (cd P))) = _
    have e := ty_L hx (shW P ++ S)
    rw [show true :: shW (x :: P) ++ S = true :: shW (x :: []) ++ (shW P ++ S) by
      rw [show x :: P = [x] ++ P from rfl, shW_app]; simp, e]
    exact ih
def opx (x : Nat) : Prop := (inA x ∧ x ≠ 32) ∨ inC x ∨ inL x
/-- an order of a law of that verb -/
def okc (vb c : Nat) : Prop := c ≤ 9999 ∨ (10012 ≤ c ∧ c < 10024 ∧ mayN vb (c - 10012)) ∨ ∃ x, c = 10000 + x ∧ opx x
theorem cd_okc {vb : Nat} {P : List Nat} (h : ∀ x ∈ P, opx x) : ∀ c ∈ cd P, okc vb c := fun c hc => by
  obtain ⟨x, hx, rfl⟩ := List.mem_map.mp hc
  exact Or.inr (Or.inr ⟨x, rfl, h x hx⟩)
def tyI (vb : Nat) (s : lst) : Prop := okLS vb s ∧ tyc (tyN s.2.2.2.1) [] = some ((if s.2.2.2.2 = true then [] else [false]) ++ shW (wt s)) ∧ ∀ c ∈ s.2.2.2.1, okc vb c
theorem mem_pp {b x : Nat} {W : List Nat} (h : x ∈ ppN b W) : x ∈ W ∧ b ≤ bdN x := by
  induction W with
  | nil => simp [ppN] at h
  | cons y W ih =>
    unfold ppN at h ih
    rw [List.takeWhile_cons] at h
    by_cases c : b ≤ bdN y
    · simp only [c, decide_true, if_true] at h
      rcases List.mem_cons.mp h with q | q
      · subst q; exact ⟨by simp, c⟩
      · have := ih q; exact ⟨by simp [this.1], this.2⟩
    · simp [c] at h
theorem br_n32 {A : List Nat} (hA : ∀ x ∈ A, inA x) (hb : brN A = 0) : ∀ x ∈ A, inA x ∧ x ≠ 32 := fun x hx => ⟨hA x hx, fun e => by subst e; exact absurd hx (List.count_eq_zero.mp hb)⟩
theorem ty_push {c : Nat} {vb : Nat} (h : c ≤ 9999 ∨ (10012 ≤ c ∧ c < 10024 ∧ mayN vb (c - 10012))) {S : List Bool} (hS : S.length < 60) : tyc (tyN [c]) S = some (false :: S) := by
  show (ty1 (tkC (c : Int)) S).bind some = _
  have : ty1 (tkC (c : Int)) S = some (false :: S) := by
    rcases h with h | ⟨h1, h2, -⟩
    · have e : tkC (c : Int) = (400, (c : Int)) := by unfold tkC; rw [if_pos (by omega)]
      rw [e]; unfold ty1
      rw [if_pos rfl, if_pos (show 0 ≤ (c : Int) ∧ (c : Int) ≤ 9999 ∧ S.length < 60 by omega)]
    · have e : tkC (c : Int) = (401, (c : Int) - 10012) := by unfold tkC; rw [if_neg (by omega), if_pos (by omega)]
      rw [e]; unfold ty1
      rw [if_neg (show ¬ (401 : Int) = 400 by decide), if_pos rfl, if_pos (show 0 ≤ (c : Int) - 10012 ∧ (c : Int) - 10012 < 12 ∧ S.length < 60 by omega)]
  rw [this]; rfl
theorem mem_app {vb : Nat} {o p : List Nat} (h : ∀ c ∈ o, okc vb c) (g : ∀ c ∈ p, okc vb c) : ∀ c ∈ o ++ p, okc vb c := fun c hc => by
  rcases List.mem_append.mp hc with q | q
  · exact h c q
  · exact g c q
theorem tyI_step {vb tk v : Nat} {s s' : lst} (h : tyI vb s) (g : SL vb tk v s s') : tyI vb s' := by
  obtain ⟨hok, hty, ho⟩ := h
  refine ⟨okLS_step hok g, ?_⟩
  obtain ⟨hA, hC, hL, hv, hW, hop⟩ := hok
  have hlen : ∀ W, W = wt s → (shW W).length < 60 := fun W e => by
    have h1 := okW_len _ hW
    have h2 := shW_len (wt s)
    have h3 := hb2_6 (wt s)
    rw [e]; omega
  rcases g with ⟨A, C, L, o, e1, e2, rfl, rfl⟩ | ⟨A, C, L, o, e1, e2, e3, rfl, rfl⟩ | ⟨A, C, L, o, e1, e2, rfl, rfl⟩ | ⟨A, C, L, o, e1, e2, rfl, rfl⟩ | ⟨L, o, e1, e2, e3, rfl, rfl⟩ | ⟨A, C, L, o, e1, e2, rfl, rfl⟩ | ⟨A, L, o, e1, e2, e3, rfl, rfl⟩ | ⟨A, c, L, o, e1, e3, rfl, rfl⟩ | ⟨P, A, C, L, o, e1, e2, rfl, rfl⟩
  · simp only [if_true, List.nil_append] at hty
    refine ⟨?_, mem_app ho (fun c hc => by simp at hc; subst hc; exact Or.inl e2)⟩
    show tyc (tyN (o ++ [v])) [] = some ([false] ++ shW (A ++ C ++ L))
    rw [tyN_app, tyc_app, hty, Option.bind_some, ty_push (vb := vb) (Or.inl e2) (hlen _ rfl)]
    rfl
  · simp only [if_true, List.nil_append] at hty
    have hc : 10012 ≤ 10000 + tk ∧ 10000 + tk < 10024 ∧ mayN vb (10000 + tk - 10012) := ⟨by omega, by omega, by rw [show 10000 + tk - 10012 = tk - 12 by omega]; exact e3⟩
    refine ⟨?_, mem_app ho (fun c hc2 => by simp at hc2; subst hc2; exact Or.inr (Or.inl hc))⟩
    show tyc (tyN (o ++ [10000 + tk])) [] = some ([false] ++ shW (A ++ C ++ L))
    rw [tyN_app, tyc_app, hty, Option.bind_some, ty_push (vb := vb) (Or.inr hc) (hlen _ rfl)]
    rfl
  · exact ⟨hty, ho⟩
  · exact ⟨hty, ho⟩
  · exact ⟨hty, ho⟩
  · have b5 : 5 ≤ bdN tk := bdA (by unfold inA; omega) (by omega)
    have hp : ∀ x ∈ ppN (bdN tk) A, inA x ∧ x ≠ 32 := fun x hx => ⟨hA x (mem_pp hx).1, fun e => by have h3 := (mem_pp hx).2; rw [e] at h3; have : bdN 32 = 0 := rfl; omega⟩
    refine ⟨?_, mem_app ho (cd_okc fun x hx => Or.inl (hp x hx))⟩
    have hty2 : tyc (tyN o) [] = some (false :: shW (ppN (bdN tk) A) ++ shW (rsN (bdN tk) A ++ C ++ L)) := by
      have : tyc (tyN o) [] = some ([false] ++ shW (A ++ C ++ L)) := hty
      rw [this]
      conv => lhs; rw [← pp_rs (bdN tk) A]
      simp [shW_app]
    show tyc (tyN (o ++ cd (ppN (bdN tk) A))) [] = some ([] ++ shW (tk :: rsN (bdN tk) A ++ C ++ L))
    rw [tyN_app, tyc_app, hty2]
    show tyc (tyN (cd (ppN (bdN tk) A))) (false :: shW (ppN (bdN tk) A) ++ shW (rsN (bdN tk) A ++ C ++ L)) = _
    rw [ty_PA _ _ hp]
    have hun : unN tk = false := by unfold unN; simp; omega
    rw [show tk :: rsN (bdN tk) A ++ C ++ L = tk :: (rsN (bdN tk) A ++ C ++ L) from rfl, shW, hun]
    rw [if_neg (by decide), if_neg (by omega)]; rfl
  · have hp := br_n32 hA e3
    refine ⟨?_, mem_app ho (cd_okc fun x hx => Or.inl (hp x hx))⟩
    have hty2 : tyc (tyN o) [] = some (false :: shW A ++ shW L) := by
      have : tyc (tyN o) [] = some ([false] ++ shW (A ++ [] ++ L)) := hty
      rw [this]; simp [shW_app]
    show tyc (tyN (o ++ cd A)) [] = some ([] ++ shW ([tk] ++ L))
    rw [tyN_app, tyc_app, hty2]
    show tyc (tyN (cd A)) (false :: shW A ++ shW L) = _
    rw [ty_PA _ _ hp]
    rw [show [tk] ++ L = tk :: L from rfl, shW, (bdC e1).2]
    rw [if_neg (by decide), if_neg (by unfold inC at e1; omega)]; rfl
  · have hp := br_n32 hA e3
    have hc : inC c := by
      rcases hC with q | ⟨c', q1, q2, -⟩
      · cases q
      · cases q2; exact q1
    have hpL : ∀ x ∈ ppN (bdN tk) L, inL x := fun x hx => hL x (mem_pp hx).1
    refine ⟨?_, mem_app ho (cd_okc fun x hx => ?_)⟩
    · have hty2 : tyc (tyN o) [] = some (false :: shW A ++ (shW [c] ++ (shW (ppN (bdN tk) L) ++ shW (rsN (bdN tk) L)))) := by
        have : tyc (tyN o) [] = some ([false] ++ shW (A ++ [c] ++ L)) := hty
        have eL : shW L = shW (ppN (bdN tk) L) ++ shW (rsN (bdN tk) L) := by rw [← shW_app, pp_rs]
        rw [this, shW_app, shW_app, eL]; simp
      show tyc (tyN (o ++ cd (A ++ [c] ++ ppN (bdN tk) L))) [] = some ([] ++ shW (tk :: rsN (bdN tk) L))
      rw [show cd (A ++ [c] ++ ppN (bdN tk) L) = cd A ++ (cd [c] ++ cd (ppN (bdN tk) L)) by simp [cd], tyN_app, tyc_app, hty2]
      rw [Option.bind_some, tyN_app, tyc_app, ty_PA _ _ hp, Option.bind_some, tyN_app, tyc_app]
      have e := ty_C hc (shW (ppN (bdN tk) L) ++ shW (rsN (bdN tk) L))
      have e' : tyc (tyN (cd [c])) (false :: (shW [c] ++ (shW (ppN (bdN tk) L) ++ shW (rsN (bdN tk) L)))) = some (true :: (shW (ppN (bdN tk) L) ++ shW (rsN (bdN tk) L))) := by
        show (ty1 (tkC ((10000 + c : Nat) : Int)) _).bind some = _
        rw [show false :: (shW [c] ++ (shW (ppN (bdN tk) L) ++ shW (rsN (bdN tk) L))) = false :: shW [c] ++ (shW (ppN (bdN tk) L) ++ shW (rsN (bdN tk) L)) from rfl, e]; rfl
      rw [e']
      show tyc (tyN (cd (ppN (bdN tk) L))) (true :: shW (ppN (bdN tk) L) ++ shW (rsN (bdN tk) L)) = _
      rw [ty_PL _ _ hpL]
      have hun : unN tk = false := by rcases e1 with rfl | rfl <;> rfl
      rw [shW, hun]
      rw [if_neg (by decide), if_pos e1]; rfl
    · rcases List.mem_append.mp hx with q | q
      · rcases List.mem_append.mp q with q | q
        · exact Or.inl (hp x q)
        · simp at q; subst q; exact Or.inr (Or.inl hc)
      · exact Or.inr (Or.inr (hpL x q))
  · have hp : ∀ x ∈ P, inA x ∧ x ≠ 32 := br_n32 (fun x hx => hA x (by simp [hx])) e2
    refine ⟨?_, mem_app ho (cd_okc fun x hx => Or.inl (hp x hx))⟩
    have hty2 : tyc (tyN o) [] = some (false :: shW P ++ shW (A ++ C ++ L)) := by
      have : tyc (tyN o) [] = some ([false] ++ shW (P ++ 32 :: A ++ C ++ L)) := hty
      rw [this, show P ++ 32 :: A ++ C ++ L = P ++ (32 :: (A ++ C ++ L)) by simp, shW_app]
      rfl
    show tyc (tyN (o ++ cd P)) [] = some ([false] ++ shW (A ++ C ++ L))
    rw [tyN_app, tyc_app, hty2]
    show tyc (tyN (cd P)) (false :: shW P ++ shW (A ++ C ++ L)) = _
    rw [ty_PA _ _ hp]; rfl
/-- a law's orders, all in all -/
theorem ty_law {T : Nat → Nat} {n vb : Nat} : ∀ (m pl tk v a : Nat) (s : lst) (pl' tk' v' a' : Nat) (code : List Nat), tyI vb s → RLw T n vb m pl tk v a s (.inr (pl', tk', v', a', code)) → tyc (tyN code) [] = some [decide (vb = 2)] ∧ ∀ c ∈ code, okc vb c
  | 0, pl, tk, v, a, s, pl', tk', v', a', code, h, hr => by
    rcases hr with ⟨k, -, e⟩ | ⟨⟨e34, hb, hcv, hw⟩, pl2, tk2, v2, a2, -, e⟩
    · cases e
    · cases e
      obtain ⟨⟨hA, hC, hL, hv, hW, hop⟩, hty, ho⟩ := h
      obtain ⟨A, C, L, o, w⟩ := s
      simp only at hb hcv hw hA hC hL hv ho hty
      subst hw
      have hp := br_n32 hA hb
      show tyc (tyN (o ++ cd (A ++ C ++ L))) [] = _ ∧ ∀ c ∈ o ++ cd (A ++ C ++ L), okc vb c
      by_cases v2 : vb = 2
      · obtain ⟨c, hc, rfl⟩ : ∃ c, inC c ∧ C = [c] := by
          rcases hC with q | ⟨c, q1, q2, -⟩
          · exact absurd q (hcv.mpr v2)
          · exact ⟨c, q1, q2⟩
        refine ⟨?_, mem_app ho (cd_okc fun x hx => ?_)⟩
        · have hty2 : tyc (tyN o) [] = some (false :: shW A ++ (shW [c] ++ (shW L ++ []))) := by
            have : tyc (tyN o) [] = some ([false] ++ shW (A ++ [c] ++ L)) := hty
            rw [this, shW_app, shW_app]; simp
          rw [show cd (A ++ [c] ++ L) = cd A ++ (cd [c] ++ cd L) by simp [cd], tyN_app, tyc_app, hty2]
          rw [Option.bind_some, tyN_app, tyc_app, ty_PA _ _ hp, Option.bind_some, tyN_app, tyc_app]
          have e := ty_C hc (shW L ++ [])
          have e' : tyc (tyN (cd [c])) (false :: (shW [c] ++ (shW L ++ []))) = some (true :: (shW L ++ [])) := by
            show (ty1 (tkC ((10000 + c : Nat) : Int)) _).bind some = _
            rw [show false :: (shW [c] ++ (shW L ++ [])) = false :: shW [c] ++ (shW L ++ []) from rfl, e]; rfl
          rw [e']
          show tyc (tyN (cd L)) (true :: shW L ++ []) = _
          rw [ty_PL _ _ hL]
          simp [v2]
        · rcases List.mem_append.mp hx with q | q
          · rcases List.mem_append.mp q with q | q
            · exact Or.inl (hp x q)
            · simp at q; subst q; exact Or.inr (Or.inl hc)
          · exact Or.inr (Or.inr (hL x q))
      · have hC0 : C = [] := Decidable.byContradiction fun q => v2 (hcv.mp q)
        have hL0 := hv v2
        subst hC0; subst hL0
        refine ⟨?_, mem_app ho (cd_okc fun x hx => Or.inl (hp x (by simpa using hx)))⟩
        have hty2 : tyc (tyN o) [] = some (false :: shW A ++ []) := by
          have : tyc (tyN o) [] = some ([false] ++ shW (A ++ [] ++ [])) := hty
          rw [this]; simp
        rw [tyN_app, tyc_app, hty2, show cd (A ++ [] ++ []) = cd A by simp]
        show tyc (tyN (cd A)) (false :: shW A ++ []) = _
        rw [ty_PA _ _ hp]
        simp [v2]
  | m + 1, pl, tk, v, a, s, pl', tk', v', a', code, h, hr => by
    obtain ⟨s', pl1, tk1, v1, a1, hS, -, hr'⟩ := hr
    exact ty_law m pl1 tk1 v1 a1 s' pl' tk' v' a' code (tyI_step h hS) hr'
