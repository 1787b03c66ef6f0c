/-! what holds between the class's cells and the plain form's row of numbers -/
def row (f : Nat → Int32) (b : Nat) : Nat → Int32 := fun k => f (b + k)
/-- a scene x, its spoons in sp, its dents in de, is a row of numbers -/
def scR (I : gI) (x sp de : Nat) (r : Nat → Int32) : Prop := (∀ j, j < 4 → I (x + 1) j = r j) ∧ (∀ e, e < 9 → I (x + 2) e = r (4 + e)) ∧ (∀ e, e < 9 → I (x + 3) e = r (13 + e)) ∧ I x 3 = r 22 ∧ I x 4 = r 263 ∧ I x 5 = r 354 ∧ (∀ j, j < 4 * (r 22).toNatClampNeg → I sp j = r (23 + j)) ∧ ∀ j, j < 3 * (r 263).toNatClampNeg → I de j = r (264 + j)
/-- a row that can be -/
def okr (E : Nat) (r : Nat → Int32) : Prop := (∀ j, j < 4 → 0 ≤ (r j).toInt ∧ (r j).toInt ≤ 999) ∧ (∀ e, e < 9 → (r (4 + e)).toInt = 0 ∨ (r (4 + e)).toInt = 1 ∨ (r (4 + e)).toInt = 2) ∧ (∀ e, e < 9 → 0 ≤ (r (13 + e)).toInt ∧ (r (13 + e)).toInt ≤ 99 * (r 22).toInt) ∧ (0 ≤ (r 22).toInt ∧ (r 22).toInt ≤ 60) ∧ (0 ≤ (r 263).toInt ∧ (r 263).toInt ≤ 30) ∧ (0 ≤ (r 354).toInt ∧ (r 354).toInt < 50000) ∧ ∀ e, E ≤ e → e < 9 → (r (4 + e)).toInt = 2 ∧ (r (13 + e)).toInt = 0
def okh (f : Nat → Int32) : Prop := (0 ≤ (f 0).toInt ∧ (f 0).toInt ≤ 9) ∧ (0 ≤ (f 1).toInt ∧ (f 1).toInt ≤ 4) ∧ (f 2 = -1 ∨ (0 ≤ (f 2).toInt ∧ (f 2).toInt < (f 1).toInt)) ∧ (0 ≤ (f 3).toInt ∧ (f 3).toInt ≤ 30) ∧ (0 ≤ (f 4).toInt ∧ (f 4).toInt ≤ 12) ∧ (0 ≤ (f 5).toInt ∧ (f 5).toInt ≤ 20) ∧ (∀ e, e < 9 → (0 ≤ (f (10 + 3 * e)).toInt ∧ (f (10 + 3 * e)).toInt ≤ 9) ∧ (0 ≤ (f (10 + 3 * e + 1)).toInt ∧ (f (10 + 3 * e + 1)).toInt ≤ 9) ∧ (0 ≤ (f (10 + 3 * e + 2)).toInt ∧ (f (10 + 3 * e + 2)).toInt ≤ 99)) ∧ ∀ k, k < (f 5).toNatClampNeg → (0 ≤ (f (64 + 2 * k)).toInt ∧ (f (64 + 2 * k)).toInt ≤ 8) ∧ (1 ≤ (f (64 + 2 * k + 1)).toInt ∧ (f (64 + 2 * k + 1)).toInt ≤ 999)
/-- the steps that are kept: rows that can be, with ever more spoons and dents -/
def okst (f : Nat → Int32) : Prop := okr (f 0).toNatClampNeg (row f 110) ∧ (∀ i, i < (f 3).toNatClampNeg → okr (f 0).toNatClampNeg (row f (470 + 355 * i)) ∧ (row f (470 + 355 * i) 22).toInt ≤ (row f 110 22).toInt ∧ (row f (470 + 355 * i) 263).toInt ≤ (row f 110 263).toInt) ∧ ∀ i j, i < j → j < (f 3).toNatClampNeg → (row f (470 + 355 * i) 22).toInt ≤ (row f (470 + 355 * j) 22).toInt ∧ (row f (470 + 355 * i) 263).toInt ≤ (row f (470 + 355 * j) 263).toInt
def okf (f : Nat → Int32) : Prop := okh f ∧ okst f
/-- how a scale hangs -/
def hng (w : Int32) : Int32 := if w = 0 then 0 else if 0 < w then 1 else -1
/-- pennies that a weighing leaves -/
def msk (l h : Int32) (b : Int32) : Nat → Int32
  | 0 => b
  | p + 1 => if hng (l + nI p) = h then msk l h b p else msk l h b p &&& ((1 <<< (nI p &&& 31)) ^^^ (-1))
def fitF (f : Nat → Int32) : Nat → Int32
  | 0 => 1023
  | k + 1 => msk (f (40 + 2 * k)) (f (40 + 2 * k + 1)) (fitF f k) 10
/-- what was told of an eater -/
def tolF (f : Nat → Int32) (e : Nat) : Nat → Int32
  | 0 => 0
  | k + 1 => if f (64 + 2 * k) = nI e then tolF f e k + f (64 + 2 * k + 1) else tolF f e k
/-- a court's own numbers -/
def coR (I : gI) (c : Nat) (f : Nat → Int32) : Prop := I c 6 = f 0 ∧ I c 9 = f 1 ∧ I c 10 = f 2 ∧ I c 2 = f 3 ∧ I c 12 = f 4 ∧ I c 14 = f 5 ∧ (∀ e, e < 9 → I (c + 126) e = f (10 + 3 * e) ∧ I (c + 127) e = f (10 + 3 * e + 1) ∧ I (c + 128) e = f (10 + 3 * e + 2)) ∧ I c 11 = fitF f (f 4).toNatClampNeg ∧ ∀ e, e < 9 → I (c + 131) e = tolF f e (f 5).toNatClampNeg
def stR (I : gI) (c : Nat) (p : Nat → Nat) (f : Nat → Int32) : Prop := ∀ i, i < (f 3).toNatClampNeg → scR I (p i) (c + 129) (c + 130) (row f (470 + 355 * i))
def CR (I : gI) (c : Nat) (p : Nat → Nat) (f : Nat → Int32) : Prop := coR I c f ∧ scR I (c + 1) (c + 129) (c + 130) (row f 110) ∧ stR I c p f
/-- a text as the class and as the plain form have it -/
def lwR (I : gI) (t : Nat) : Prop := (I (136 + 7 * t) 7 = I 314 t ∧ 0 ≤ (I 314 t).toInt ∧ (I 314 t).toInt ≤ 24) ∧
  (∀ k, k < (I 314 t).toNatClampNeg → I (136 + 7 * t + 4) k = I 315 (24 * t + k) ∧ (0 ≤ (I 315 (24 * t + k)).toInt ∧ (I 315 (24 * t + k)).toInt ≤ 6) ∧ (3 ≤ (I 315 (24 * t + k)).toInt → I (136 + 7 * t + 5) k = I 317 (24 * t + k)) ∧ ((I 315 (24 * t + k)).toInt = 3 ∨ (I 315 (24 * t + k)).toInt = 4 → I (136 + 7 * t + 6) k = I 318 (24 * t + k))) ∧
  ∀ w, w < 3 → (I (136 + 7 * t + 2) w = -1 ∧ ordF (I 315) (I 316) (nI w) t (I 314 t).toNatClampNeg = -1) ∨
    (¬ I (136 + 7 * t + 2) w = -1 ∧ ¬ ordF (I 315) (I 316) (nI w) t (I 314 t).toNatClampNeg = -1 ∧
      (0 ≤ (I (136 + 7 * t + 2) w).toInt ∧ (I (136 + 7 * t + 2) w).toInt ≤ (I (136 + 7 * t + 3) w).toInt ∧ (I (136 + 7 * t + 3) w).toInt ≤ 300) ∧
      (400 * (t : Int) ≤ (ordF (I 315) (I 316) (nI w) t (I 314 t).toNatClampNeg).toInt ∧ ∃ n, (ordF (I 315) (I 316) (nI w) t (I 314 t).toNatClampNeg).toNatClampNeg + n < 400 * t + 400 ∧ n < 400 ∧ endM (I 319) (ordF (I 315) (I 316) (nI w) t (I 314 t).toNatClampNeg).toNatClampNeg n) ∧
      tkl I (136 + 7 * t) w = tkM I (ordF (I 315) (I 316) (nI w) t (I 314 t).toNatClampNeg).toNatClampNeg ∧ okl w (tkl I (136 + 7 * t) w))
/-- the tape and the latest fault -/
def tpR (I : gI) : Prop := I 0 6 = I 310 3 ∧ (0 ≤ (I 310 3).toInt ∧ (I 310 3).toInt ≤ 300) ∧ (∀ j, j < (I 310 3).toNatClampNeg → (0 ≤ (I 307 j).toInt ∧ (I 307 j).toInt ≤ 255) ∧ I 313 j = (I 307 j).toInt8.toInt32) ∧ I 0 7 = I 310 4 ∧ I 0 8 = I 310 5
/-- all but what is kept of an acquittal -/
def Rel0 (I : gI) (R : gR) : Prop := g_Fx R ∧ (∃ π, pmR R π ∧ CR I 3 (fun i => 9 + 4 * π i) (I 311)) ∧ CR I 174 (fun i => 180 + 4 * i) (I 312) ∧ okf (I 311) ∧ okf (I 312) ∧ (I 312 1).toInt ≤ (I 311 1).toInt ∧ (∀ t, t < (I 311 1).toNatClampNeg → lwR I t) ∧ tpR I
/-! who is asked by the ruling text -/
theorem lw_eq {I : gI} {R : gR} (h : Rel0 I R) : eqT (thC I) (thM I) ∧ okI I ∧ okN I := by
  obtain ⟨-, ⟨π, -, ⟨hco, -⟩⟩, -, ⟨⟨o0, o1, o2, o3, o4, o5, o6, o7⟩, -⟩, -, -, hlw, -⟩ := h
  obtain ⟨c0, c1, c2, c3, c4, c5, c6, c7, c8⟩ := hco
  have hx : eqT (thC I) (thM I) ∧ okT (thC I) ∧ okP I ∧ okR I ∧ okE I := by
    have hT1 : ∀ e, e < 9 → (thC I).1 e = (thM I).1 e := fun e he => by show (I 129 e).toInt = _; rw [show I 129 e = _ from (c6 e he).1]; rfl
    have hT2 : ∀ e, e < 9 → (thC I).2.1 e = (thM I).2.1 e := fun e he => by show (I 130 e).toInt = _; rw [show I 130 e = _ from (c6 e he).2.1]; rfl
    rcases o2 with h2 | ⟨h2, h3⟩
    · have e10 : I 3 10 = -1 := c2.trans h2
      have lC : ∀ w, lwC I w = none := fun w => by unfold lwC; rw [e10, if_pos (by decide)]
      have oV : ∀ w, ordV I w = -1 := fun w => by unfold ordV; rw [if_pos h2]
      have lM : ∀ w, lwM I w = none := fun w => by unfold lwM; rw [oV, if_pos rfl]
      refine ⟨⟨hT1, hT2, fun w _ => (lC w).trans (lM w).symm⟩, ⟨fun e he => ?_, fun e he => ?_, fun w ts _ h => ?_⟩, fun w _ h => ?_, Or.inl h2, fun w _ h => absurd (oV _) h⟩
      · rw [hT1 e he]; exact (o6 e he).1
      · rw [hT2 e he]; exact (o6 e he).2.1
      · exact absurd ((lC w).symm.trans h) (by simp)
      · rw [e10] at h; exact absurd h (by decide)
    · have hn2 : ¬ I 311 2 = -1 := fun q => by rw [q] at h2; exact absurd h2 (by decide)
      have ct := ci h2
      have e10 : I 3 10 = I 311 2 := c2
      have z0 : (0 : Int32).toInt = 0 := rfl
      have z4 : (4 : Int32).toInt = 4 := rfl
      have hlt : (I 311 2).toNatClampNeg < (I 311 1).toNatClampNeg := by have := ci o1.1; omega
      obtain ⟨⟨a1, a2, a3⟩, b, d⟩ := hlw _ hlt
      have hC : ∀ w, lwC I w = if I (136 + 7 * (I 311 2).toNatClampNeg + 2) w = -1 then none else some (tkl I (136 + 7 * (I 311 2).toNatClampNeg) w) := fun w => by
        unfold lwC
        rw [e10, if_neg (by rw [ti_lt, ti_le, z0, z4]; omega)]
      have oV : ∀ w, ordV I (nI w) = ordF (I 315) (I 316) (nI w) (I 311 2).toNatClampNeg (I 314 (I 311 2).toNatClampNeg).toNatClampNeg := fun w => by unfold ordV; rw [if_neg hn2]
      have hw3 : ∀ w, w < 3 → lwC I w = lwM I w := fun w hw => by
        rw [hC]
        unfold lwM
        rw [oV]
        rcases d w hw with ⟨d1, d2⟩ | ⟨d1, d2, d3, d4, d5, d6⟩
        · rw [if_pos d1, if_pos d2]
        · rw [if_neg d1, if_neg d2, d5]
      refine ⟨⟨hT1, hT2, hw3⟩, ⟨fun e he => ?_, fun e he => ?_, fun w ts hw h => ?_⟩, fun w hw h4 h5 h6 => ?_, Or.inr ⟨h2, by omega, a2, a3⟩, fun w hw h => ?_⟩
      · rw [hT1 e he]; exact (o6 e he).1
      · rw [hT2 e he]; exact (o6 e he).2.1
      · have h' : lwC I w = some ts := h
        rw [hC] at h'
        rcases d w hw with ⟨d1, d2⟩ | ⟨d1, d2, d3, d4, d5, d6⟩
        · rw [if_pos d1] at h'; cases h'
        · rw [if_neg d1] at h'
          cases h'
          exact d6
      · rw [e10] at h6 ⊢
        rcases d w hw with ⟨d1, d2⟩ | ⟨d1, d2, d3, d4, d5, d6⟩
        · exact absurd d1 h6
        · exact d3
      · rw [oV] at h ⊢
        rcases d w hw with ⟨d1, d2⟩ | ⟨d1, d2, d3, d4, d5, d6⟩
        · exact absurd d2 h
        · obtain ⟨q1, n, q2, q3, q4⟩ := d4
          have := ci o1.1
          exact ⟨by omega, n, by omega, q3, q4⟩
  obtain ⟨x1, x2, x3, x4, x5⟩ := hx
  exact ⟨x1, ⟨x2, x3⟩, okT_eq x1 x2, x4, x5⟩
/-- the scene that is, as numbers -/
def dyF (f : Nat → Int32) : dyn := (fun j => (f (110 + j)).toInt, fun e => (f (114 + e)).toInt, fun e => (f (123 + e)).toInt, (f 132).toInt)
theorem okr_okD {E : Nat} {f : Nat → Int32} (h : okr E (row f 110)) : okDn 0 (dyF f) := by
  obtain ⟨h1, h2, h3, h4, -⟩ := h
  have e22 : (row f 110 22) = f 132 := rfl
  refine ⟨h1, fun e he => ?_, fun e he => ?_, ?_, ?_⟩
  · have := h2 e he
    rw [show row f 110 (4 + e) = f (114 + e) from by unfold row; congr 1; omega] at this
    exact this
  · have := h3 e he
    rw [show row f 110 (13 + e) = f (123 + e) from by unfold row; congr 1; omega] at this
    show 0 ≤ (f (123 + e)).toInt ∧ (f (123 + e)).toInt ≤ 99 * (60 + ((0 : Nat) : Int))
    omega
  · exact h4.1
  · show (f 132).toInt ≤ 60 + ((0 : Nat) : Int)
    have := h4.2
    rw [e22] at this
    omega
theorem scR_dy {I : gI} {x sp de : Nat} {f : Nat → Int32} (h : scR I x sp de (row f 110)) : eqD (dyC I x) (dyF f) := by
  obtain ⟨h1, h2, h3, h4, -⟩ := h
  refine ⟨fun j hj => ?_, fun e he => ?_, fun e he => ?_, ?_⟩
  · show (I (x + 1) j).toInt = _; rw [h1 j hj]; rfl
  · show (I (x + 2) e).toInt = _; rw [h2 e he]; show (f (110 + (4 + e))).toInt = (f (114 + e)).toInt; congr 2; omega
  · show (I (x + 3) e).toInt = _; rw [h3 e he]; show (f (110 + (13 + e))).toInt = (f (123 + e)).toInt; congr 2; omega
  · show (I x 3).toInt = _; rw [h4]; rfl
theorem lay_dy (I : gI) : eqD (dyM (layI I)) (dyF (I 311)) := by
  refine ⟨fun j hj => ?_, fun e he => ?_, fun e he => ?_, ?_⟩
  · show (layI I 333 j).toInt = (I 311 (110 + j)).toInt
    unfold layI
    rw [up_nc (by decide), cpy_off (by decide), cpy_at, if_pos (by omega)]; rfl
  · show (layI I 311 (114 + e)).toInt = (I 311 (114 + e)).toInt
    unfold layI
    rw [up_nc (by decide), cpy_off (by decide), cpy_off (by decide)]
  · show (layI I 334 e).toInt = (I 311 (123 + e)).toInt
    unfold layI
    rw [up_nc (by decide), cpy_at, if_pos (by omega), cpy_off (by decide)]; rfl
  · show (layI I 310 41).toInt = (I 311 132).toInt
    unfold layI
    rw [up_eq]
