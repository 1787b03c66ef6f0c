/-! THE TEXT, read: what both readers do, without a machine. T: the bytes of the tape, n: how many there are. -/
def byB (c : Nat) : Prop := c = 32 ∨ c = 10
def byL (c : Nat) : Prop := (97 ≤ c ∧ c ≤ 122) ∨ (65 ≤ c ∧ c ≤ 90)
def byD (c : Nat) : Prop := 48 ≤ c ∧ c ≤ 57
/-- from p to q all are so, and q is the end or isn't so -/
def rnP (P : Nat → Prop) (T : Nat → Nat) (n p q : Nat) : Prop := p ≤ q ∧ q ≤ n ∧ (∀ j, p ≤ j → j < q → P (T j)) ∧ (q < n → ¬ P (T q))
theorem rnP_det {P : Nat → Prop} {T : Nat → Nat} {n p q r : Nat} (h : rnP P T n p q) (g : rnP P T n p r) : q = r := by
  obtain ⟨h1, h2, h3, h4⟩ := h
  obtain ⟨g1, g2, g3, g4⟩ := g
  rcases Nat.lt_trichotomy q r with c | c | c
  · exact absurd (g3 q h1 c) (h4 (by omega))
  · exact c
  · exact absurd (h3 r g1 c) (g4 (by omega))
theorem rnP_end {P : Nat → Prop} {T : Nat → Nat} {n p : Nat} (hp : p ≤ n) (h : p < n → ¬ P (T p)) : rnP P T n p p := ⟨Nat.le_refl _, hp, fun j a b => by omega, h⟩
theorem rnP_go {P : Nat → Prop} {T : Nat → Nat} {n p q : Nat} (h : P (T p)) (g : rnP P T n (p + 1) q) : rnP P T n p q := by
  obtain ⟨g1, g2, g3, g4⟩ := g
  refine ⟨by omega, g2, fun j a b => ?_, g4⟩
  rcases Nat.eq_or_lt_of_le a with e | e
  · exact e ▸ h
  · exact g3 j e b
/-- where a run stands in its midst -/
theorem rnP_mid {P : Nat → Prop} {T : Nat → Nat} {n p q k : Nat} (g : rnP P T n p q) (h1 : p ≤ k) (h2 : k ≤ q) : rnP P T n k q := ⟨h2, g.2.1, fun j a b => g.2.2.1 j (by omega) b, g.2.2.2⟩
theorem rnP_lt {P : Nat → Prop} {T : Nat → Nat} {n p q : Nat} (g : rnP P T n p q) (hp : p < n) (h : P (T p)) : p < q := by
  rcases Nat.eq_or_lt_of_le g.1 with e | e
  · subst e; exact absurd h (g.2.2.2 hp)
  · exact e
/-- at a place in a run: it goes on or it is over -/
theorem rnP_at {P : Nat → Prop} {T : Nat → Nat} {n p q : Nat} (g : rnP P T n p q) : (p < n ∧ P (T p) ∧ p < q) ∨ ((p = n ∨ ¬ P (T p)) ∧ p = q) := by
  obtain ⟨g1, g2, g3, g4⟩ := g
  rcases Nat.eq_or_lt_of_le g1 with e | e
  · subst e
    rcases Nat.eq_or_lt_of_le g2 with e2 | e2
    · exact Or.inr ⟨Or.inl e2, rfl⟩
    · exact Or.inr ⟨Or.inr (g4 e2), rfl⟩
  · exact Or.inl ⟨by omega, g3 p (Nat.le_refl _) e, e⟩
/-- the bytes from p to q -/
def sgm (T : Nat → Nat) (p q : Nat) : List Nat := (List.range' p (q - p)).map T
theorem sgm_nil (T : Nat → Nat) (p : Nat) : sgm T p p = [] := by simp [sgm]
theorem sgm_cons {T : Nat → Nat} {p q : Nat} (h : p < q) : sgm T p q = T p :: sgm T (p + 1) q := by
  unfold sgm
  rw [show q - p = (q - (p + 1)) + 1 by omega, List.range'_succ]
  rfl
theorem sgm_snoc {T : Nat → Nat} {p q : Nat} (h : p ≤ q) : sgm T p (q + 1) = sgm T p q ++ [T q] := by
  unfold sgm
  rw [show q + 1 - p = (q - p) + 1 by omega, List.range'_concat]
  simp
  congr 1
  omega
theorem sgm_len (T : Nat → Nat) (p q : Nat) : (sgm T p q).length = q - p := by simp [sgm]
/-! words -/
def wds : List (List Nat) := [[101, 97, 116, 115], [104, 111, 108, 100, 115], [103, 117, 105, 108, 116, 121], [115, 105, 116], [115, 112, 111, 111, 110], [106, 117, 100, 103, 101], [102, 108, 105, 101, 115], [97, 116], [111, 102], [111, 114], [97, 110, 100], [110, 111, 116], [101, 97, 116, 101, 114], [104, 117, 110, 103, 101, 114], [115, 116, 111, 109, 97, 99, 104, 115], [101, 97, 116, 101, 110], [107, 105, 110, 100], [108, 101, 102, 116], [115, 112, 111, 111, 110, 115], [115, 105, 100, 101], [116, 105, 108, 116], [104, 111, 110, 101, 121], [115, 97, 108, 116], [100, 101, 110, 116, 115]]
def wix (s : List Nat) : List (List Nat) → Nat → Nat
  | [], _ => 39
  | w :: r, k => if s = w then k else wix s r (k + 1)
/-- the class's way through its words -/
def wst (r : Option (List Nat)) (c : Nat) : Option (List Nat) := match r with
  | some (x :: r') => if x = c then some r' else none
  | _ => none
def wa (s : List Nat) : List Nat → Nat → Option (List Nat) → Nat
  | [], _, _ => 39
  | c :: cs, w, r => if c = 32 then (if r = some [] then w else wa s cs (w + 1) (some s)) else wa s cs w (wst r c)
theorem wa_none (s : List Nat) : ∀ (u cs : List Nat) (w : Nat), (∀ c ∈ u, c ≠ 32) → wa s (u ++ 32 :: cs) w none = wa s cs (w + 1) (some s)
  | [], cs, w, _ => by simp [wa]
  | c :: u, cs, w, h => by
    have hc : c ≠ 32 := h c (by simp)
    show wa s (c :: (u ++ 32 :: cs)) w none = _
    rw [wa, if_neg hc]
    exact wa_none s u cs w (fun x hx => h x (by simp [hx]))
theorem wa_some (s : List Nat) : ∀ (u cs r : List Nat) (w : Nat), (∀ c ∈ u, c ≠ 32) → wa s (u ++ 32 :: cs) w (some r) = if r = u then w else wa s cs (w + 1) (some s)
  | [], cs, r, w, _ => by simp [wa]
  | c :: u, cs, r, w, h => by
    have hc : c ≠ 32 := h c (by simp)
    have hu : ∀ c ∈ u, c ≠ 32 := fun x hx => h x (by simp [hx])
    show wa s (c :: (u ++ 32 :: cs)) w (some r) = _
    rw [wa, if_neg hc]
    cases r with
    | nil => rw [if_neg (by simp)]; exact wa_none s u cs w hu
    | cons x r =>
      by_cases hx : x = c
      · rw [show wst (some (x :: r)) c = some r from if_pos hx, wa_some s u cs r w hu]
        simp only [hx, List.cons.injEq, true_and]
      · rw [show wst (some (x :: r)) c = none from if_neg hx, wa_none s u cs w hu, if_neg (by simp [hx])]
theorem wa_all (s : List Nat) : ∀ (ws : List (List Nat)) (k : Nat), (∀ u ∈ ws, ∀ c ∈ u, c ≠ 32) → wa s (ws.flatMap (· ++ [32])) k (some s) = wix s ws k
  | [], k, _ => rfl
  | u :: ws, k, h => by
    rw [List.flatMap_cons, List.append_assoc]
    show wa s (u ++ 32 :: ws.flatMap (· ++ [32])) k (some s) = _
    rw [wa_some s u _ s k (h u (by simp)), wa_all s ws (k + 1) (fun v hv => h v (by simp [hv]))]
    rfl
/-- the plain form's number for a word -/
def hwR : List Nat → Nat
  | [] => 0
  | c :: s => 64 * hwR s + (c - 64)
theorem hwR_inj : ∀ s t : List Nat, (∀ c ∈ s, 65 ≤ c ∧ c < 128) → (∀ c ∈ t, 65 ≤ c ∧ c < 128) → hwR s = hwR t → s = t
  | [], [], _, _, _ => rfl
  | [], d :: t, _, h2, e => by have := h2 d (by simp); simp only [hwR] at e; omega
  | c :: s, [], h1, _, e => by have := h1 c (by simp); simp only [hwR] at e; omega
  | c :: s, d :: t, h1, h2, e => by
    have a := h1 c (by simp)
    have b := h2 d (by simp)
    simp only [hwR] at e
    have e1 : hwR s = hwR t := by omega
    rw [hwR_inj s t (fun x hx => h1 x (by simp [hx])) (fun x hx => h2 x (by simp [hx])) e1, show c = d by omega]
def hwS (s : List Nat) : Nat := hwR s.reverse
theorem hwS_snoc (s : List Nat) (c : Nat) : hwS (s ++ [c]) = 64 * hwS s + (c - 64) := by simp [hwS, hwR]
theorem hwS_eq {s t : List Nat} (h1 : ∀ c ∈ s, 65 ≤ c ∧ c < 128) (h2 : ∀ c ∈ t, 65 ≤ c ∧ c < 128) : s = t ↔ hwS s = hwS t := by
  refine ⟨fun e => by rw [e], fun e => ?_⟩
  have := hwR_inj s.reverse t.reverse (fun c hc => h1 c (by simpa using hc)) (fun c hc => h2 c (by simpa using hc)) e
  simpa using this
theorem hwR_lt : ∀ s : List Nat, (∀ c ∈ s, c < 128) → hwR s < 64 ^ s.length
  | [], _ => by simp [hwR]
  | c :: s, h => by
    have := hwR_lt s (fun x hx => h x (by simp [hx]))
    have := h c (by simp)
    simp only [hwR, List.length_cons, Nat.pow_succ]
    omega
theorem wds_ok : ∀ u ∈ wds, (∀ c ∈ u, 65 ≤ c ∧ c < 128) ∧ u.length ≤ 8 := by decide
/-- the numbers of the words -/
def whs : List Nat := [9837875, 683591987, 42776055097, 211572, 868416494, 718686693, 649238899, 2164, 3046, 3058, 138148, 191476, 629623154, 43851086194, 227925014493747, 629623150, 11443108, 11688372, 55578655667, 13539621, 13802292, 683600249, 13507380, 613870899]
def hix (a : Nat) : List Nat → Nat → Nat
  | [], _ => 39
  | w :: r, k => if a = w then k else hix a r (k + 1)
theorem hix_map {s : List Nat} (h : ∀ c ∈ s, 65 ≤ c ∧ c < 128) : ∀ (ws : List (List Nat)) (k : Nat), (∀ u ∈ ws, ∀ c ∈ u, 65 ≤ c ∧ c < 128) → hix (hwS s) (ws.map hwS) k = wix s ws k
  | [], k, _ => rfl
  | u :: ws, k, g => by
    simp only [List.map_cons, hix, wix]
    rw [hix_map h ws (k + 1) (fun v hv => g v (by simp [hv]))]
    by_cases e : s = u
    · rw [if_pos e, if_pos (by rw [e])]
    · rw [if_neg e, if_neg (fun q => e ((hwS_eq h (g u (by simp))).mpr q))]
theorem hix_wds {s : List Nat} (h : ∀ c ∈ s, 65 ≤ c ∧ c < 128) : hix (hwS s) whs 0 = wix s wds 0 := by
  rw [← hix_map h wds 0 (fun u hu => (wds_ok u hu).1)]
  rfl
theorem wix_long {s : List Nat} (h : 8 < s.length) : ∀ (ws : List (List Nat)) (k : Nat), (∀ u ∈ ws, u.length ≤ 8) → wix s ws k = 39
  | [], k, _ => rfl
  | u :: ws, k, g => by
    rw [wix, if_neg (fun e => by have := g u (by simp); rw [e] at h; omega)]
    exact wix_long h ws (k + 1) (fun v hv => g v (by simp [hv]))
theorem wix_rng (s : List Nat) : ∀ (ws : List (List Nat)) (k : Nat), wix s ws k = 39 ∨ (k ≤ wix s ws k ∧ wix s ws k < k + ws.length)
  | [], k => Or.inl rfl
  | u :: ws, k => by
    rw [wix]
    split
    · right; simp
    · rcases wix_rng s ws (k + 1) with h | h
      · exact Or.inl h
      · right; simp; omega
theorem wix_24 (s : List Nat) : wix s wds 0 = 39 ∨ wix s wds 0 < 24 := by
  rcases wix_rng s wds 0 with h | h
  · exact Or.inl h
  · exact Or.inr (by have : wds.length = 24 := rfl; omega)
/-! numbers -/
def nv (T : Nat → Nat) (p : Nat) : Nat → Nat
  | 0 => 0
  | k + 1 => min 10000 (nv T p k * 10 + (T (p + k) - 48))
def mv9 (T : Nat → Nat) (p : Nat) : Nat → Nat
  | 0 => 0
  | k + 1 => if 99999 < mv9 T p k then mv9 T p k else 10 * mv9 T p k + (T (p + k) - 48)
theorem nv_mv (T : Nat → Nat) (p : Nat) : ∀ k, nv T p k = min 10000 (mv9 T p k)
  | 0 => by simp [nv, mv9]
  | k + 1 => by
    rw [nv, mv9, nv_mv T p k]
    split <;> omega
theorem nv_le (T : Nat → Nat) (p k : Nat) : nv T p k ≤ 10000 := by
  cases k with
  | zero => simp [nv]
  | succ k => rw [nv]; omega
theorem mv9_le (T : Nat → Nat) (p : Nat) : ∀ k, (∀ j, j < k → T (p + j) ≤ 57) → mv9 T p k ≤ 999999
  | 0, _ => by simp [mv9]
  | k + 1, h => by
    have := mv9_le T p k (fun j hj => h j (by omega))
    have := h k (by omega)
    rw [mv9]
    split <;> omega
/-! signs -/
def sgn (c : Nat) : Nat := if c = 60 then 24 else if c = 62 then 25 else if c = 61 then 26 else if c = 35 then 27 else if c = 43 then 28 else if c = 45 then 29 else if c = 42 then 30 else if c = 47 then 31 else if c = 40 then 32 else if c = 41 then 33 else if c = 59 then 34 else 39
def sg2 (T : Nat → Nat) (n p : Nat) : Prop := (T p = 60 ∨ T p = 62) ∧ p + 1 < n ∧ T (p + 1) = 61
/-- the token behind p: it stands at pl, is tk, with v if it's a number, and ends at a -/
def Lx (T : Nat → Nat) (n p pl tk v a : Nat) : Prop := rnP byB T n p pl ∧
  ((pl = n ∧ tk = 38 ∧ a = pl) ∨
   (pl < n ∧ byL (T pl) ∧ rnP byL T n pl a ∧ tk = wix (sgm T pl a) wds 0) ∨
   (pl < n ∧ byD (T pl) ∧ rnP byD T n pl a ∧ tk = 37 ∧ v = nv T pl (a - pl)) ∨
   (pl < n ∧ ¬ byL (T pl) ∧ ¬ byD (T pl) ∧ sg2 T n pl ∧ tk = (if T pl = 60 then 35 else 36) ∧ a = pl + 2) ∨
   (pl < n ∧ ¬ byL (T pl) ∧ ¬ byD (T pl) ∧ ¬ sg2 T n pl ∧ tk = sgn (T pl) ∧ a = pl + 1))
theorem byL_D {c : Nat} (h : byL c) : ¬ byD c := by unfold byL at h; unfold byD; omega
theorem Lx_det {T : Nat → Nat} {n p pl tk v a pl' tk' v' a' : Nat} (h : Lx T n p pl tk v a) (g : Lx T n p pl' tk' v' a') : pl' = pl ∧ tk' = tk ∧ a' = a ∧ (tk = 37 → v' = v) := by
  obtain ⟨h0, h⟩ := h
  obtain ⟨g0, g⟩ := g
  have e := rnP_det g0 h0
  subst e
  have w39 : ∀ s, wix s wds 0 ≠ 37 := fun s => by rcases wix_24 s with q | q <;> omega
  have s37 : ∀ c, sgn c ≠ 37 := fun c => by unfold sgn; repeat' split <;> first | omega | skip
  rcases h with ⟨h1, h2, h3⟩ | ⟨h1, h2, h3, h4⟩ | ⟨h1, h2, h3, h4, h5⟩ | ⟨h1, h2, h3, h4, h5, h6⟩ | ⟨h1, h2, h3, h4, h5, h6⟩ <;> rcases g with ⟨g1, g2, g3⟩ | ⟨g1, g2, g3, g4⟩ | ⟨g1, g2, g3, g4, g5⟩ | ⟨g1, g2, g3, g4, g5, g6⟩ | ⟨g1, g2, g3, g4, g5, g6⟩ <;> first
    | exact ⟨rfl, by omega, by omega, by omega⟩
    | (exfalso; omega)
    | (exfalso; exact byL_D h2 g2)
    | (exfalso; exact byL_D g2 h2)
    | (exfalso; exact g2 h2)
    | (exfalso; exact h2 g2)
    | (exfalso; exact g3 h2)
    | (exfalso; exact h3 g2)
    | (exfalso; exact g4 h4)
    | (exfalso; exact h4 g4)
    | (have e := rnP_det g3 h3; subst e; exact ⟨rfl, by omega, rfl, by omega⟩)
    | (have e := rnP_det g3 h3; subst e; exact ⟨rfl, by rw [g4, h4], rfl, fun q => absurd (h4.symm.trans q) (w39 _)⟩)
    | exact ⟨rfl, by rw [g5, h5], by omega, fun q => absurd (h5.symm.trans q) (by split <;> omega)⟩
    | exact ⟨rfl, by rw [g5, h5], by omega, fun q => absurd (h5.symm.trans q) (s37 _)⟩
theorem Lx_adv {T : Nat → Nat} {n p pl tk v a : Nat} (h : Lx T n p pl tk v a) : p ≤ pl ∧ pl ≤ a ∧ a ≤ n ∧ pl ≤ n ∧ (tk ≠ 38 → pl < a) ∧ tk ≤ 39 ∧ (tk = 37 → v ≤ 10000) ∧ (tk = 38 ↔ pl = n) := by
  obtain ⟨⟨p1, p2, -, -⟩, h⟩ := h
  have s37 : ∀ c, sgn c ≤ 39 ∧ sgn c ≠ 38 ∧ sgn c ≠ 37 := fun c => by unfold sgn; repeat' split <;> first | omega | skip
  rcases h with ⟨h1, h2, h3⟩ | ⟨h1, h2, h3, h4⟩ | ⟨h1, h2, h3, h4, h5⟩ | ⟨h1, h2, h3, h4, h5, h6⟩ | ⟨h1, h2, h3, h4, h5, h6⟩
  · subst h2; subst h3; exact ⟨p1, by omega, by omega, by omega, by omega, by omega, by omega, by omega⟩
  · have := rnP_lt h3 h1 h2
    have := h3.2.1
    rcases wix_24 (sgm T pl a) with q | q <;> exact ⟨p1, by omega, by omega, by omega, by omega, by omega, by omega, by omega⟩
  · have := rnP_lt h3 h1 h2
    have := h3.2.1
    have := nv_le T pl (a - pl)
    exact ⟨p1, by omega, by omega, by omega, by omega, by omega, by omega, by omega⟩
  · have := h4.2.1
    exact ⟨p1, by omega, by omega, by omega, by omega, by split at h5 <;> omega, by split at h5 <;> omega, by split at h5 <;> omega⟩
  · have := s37 (T pl)
    exact ⟨p1, by omega, by omega, by omega, by omega, by omega, by omega, by omega⟩
/-! THE TEXT's laws: what waits (A: signs of sums and what is open in them, C: how is compared, L: not, and, or), and what is out already -/
def bdN (x : Nat) : Nat := if x = 32 then 0 else if x = 9 then 1 else if x = 10 then 2 else if x = 11 then 3 else if x = 28 then 5 else if x = 29 then 5 else if x = 30 then 6 else if x = 31 then 6 else if x = 40 then 7 else 4
def unN (x : Nat) : Bool := x == 32 || x == 11 || x == 40
def opN (W : List Nat) : Nat := W.countP unN
def brN (W : List Nat) : Nat := W.count 32
def ppN (b : Nat) (W : List Nat) : List Nat := W.takeWhile (fun x => decide (b ≤ bdN x))
def rsN (b : Nat) (W : List Nat) : List Nat := W.dropWhile (fun x => decide (b ≤ bdN x))
theorem pp_rs (b : Nat) (W : List Nat) : ppN b W ++ rsN b W = W := List.takeWhile_append_dropWhile
def inA (x : Nat) : Prop := (28 ≤ x ∧ x ≤ 32) ∨ x = 40
def inC (x : Nat) : Prop := (24 ≤ x ∧ x ≤ 27) ∨ x = 35 ∨ x = 36
def inL (x : Nat) : Prop := 9 ≤ x ∧ x ≤ 11
def mayN (vb k : Nat) : Prop := (vb = 0 ∧ k < 8) ∨ (vb = 1 ∧ k < 4) ∨ (vb = 2 ∧ 7 ≤ k)
def cd (P : List Nat) : List Nat := P.map (10000 + ·)
/-- (A, C, L, what is out, whether a ONE is due) -/
abbrev lst : Type := List Nat × List Nat × List Nat × List Nat × Bool
def wt (s : lst) : List Nat := s.1 ++ s.2.1 ++ s.2.2.1
/-- a step that can be -/
def SL (vb tk v : Nat) (s : lst) (s' : lst) : Prop :=
  (∃ A C L o, tk = 37 ∧ v ≤ 9999 ∧ s = (A, C, L, o, true) ∧ s' = (A, C, L, o ++ [v], false)) ∨
  (∃ A C L o, 12 ≤ tk ∧ tk < 24 ∧ mayN vb (tk - 12) ∧ s = (A, C, L, o, true) ∧ s' = (A, C, L, o ++ [10000 + tk], false)) ∨
  (∃ A C L o, tk = 32 ∧ opN (A ++ C ++ L) < 8 ∧ s = (A, C, L, o, true) ∧ s' = (32 :: A, C, L, o, true)) ∨
  (∃ A C L o, tk = 29 ∧ opN (A ++ C ++ L) < 8 ∧ s = (A, C, L, o, true) ∧ s' = (40 :: A, C, L, o, true)) ∨
  (∃ L o, tk = 11 ∧ vb = 2 ∧ opN L < 8 ∧ s = ([], [], L, o, true) ∧ s' = ([], [], 11 :: L, o, true)) ∨
  (∃ A C L o, 28 ≤ tk ∧ tk ≤ 31 ∧ s = (A, C, L, o, false) ∧ s' = (tk :: rsN (bdN tk) A, C, L, o ++ cd (ppN (bdN tk) A), true)) ∨
  (∃ A L o, inC tk ∧ vb = 2 ∧ brN A = 0 ∧ s = (A, [], L, o, false) ∧ s' = ([], [tk], L, o ++ cd A, true)) ∨
  (∃ A c L o, (tk = 9 ∨ tk = 10) ∧ brN A = 0 ∧ s = (A, [c], L, o, false) ∧ s' = ([], [], tk :: rsN (bdN tk) L, o ++ cd (A ++ [c] ++ ppN (bdN tk) L), true)) ∨
  (∃ P A C L o, tk = 33 ∧ brN P = 0 ∧ s = (P ++ 32 :: A, C, L, o, false) ∧ s' = (A, C, L, o ++ cd P, false))
theorem SL_num {vb tk v : Nat} {A : List Nat} {C : List Nat} {L : List Nat} {o : List Nat} (h0 : tk = 37) (h1 : v ≤ 9999) : SL vb tk v (A, C, L, o, true) (A, C, L, o ++ [v], false) := Or.inl ⟨_, _, _, _, h0, h1, rfl, rfl⟩
theorem SL_nam {vb tk v : Nat} {A : List Nat} {C : List Nat} {L : List Nat} {o : List Nat} (h0 : 12 ≤ tk) (h1 : tk < 24) (h2 : mayN vb (tk - 12)) : SL vb tk v (A, C, L, o, true) (A, C, L, o ++ [10000 + tk], false) := Or.inr (Or.inl ⟨_, _, _, _, h0, h1, h2, rfl, rfl⟩)
theorem SL_opn {vb tk v : Nat} {A : List Nat} {C : List Nat} {L : List Nat} {o : List Nat} (h0 : tk = 32) (h1 : opN (A ++ C ++ L) < 8) : SL vb tk v (A, C, L, o, true) (32 :: A, C, L, o, true) := Or.inr (Or.inr (Or.inl ⟨_, _, _, _, h0, h1, rfl, rfl⟩))
theorem SL_neg {vb tk v : Nat} {A : List Nat} {C : List Nat} {L : List Nat} {o : List Nat} (h0 : tk = 29) (h1 : opN (A ++ C ++ L) < 8) : SL vb tk v (A, C, L, o, true) (40 :: A, C, L, o, true) := Or.inr (Or.inr (Or.inr (Or.inl ⟨_, _, _, _, h0, h1, rfl, rfl⟩)))
theorem SL_nay {vb tk v : Nat} {L : List Nat} {o : List Nat} (h0 : tk = 11) (h1 : vb = 2) (h2 : opN L < 8) : SL vb tk v ([], [], L, o, true) ([], [], 11 :: L, o, true) := Or.inr (Or.inr (Or.inr (Or.inr (Or.inl ⟨_, _, h0, h1, h2, rfl, rfl⟩))))
theorem SL_ari {vb tk v : Nat} {A : List Nat} {C : List Nat} {L : List Nat} {o : List Nat} (h0 : 28 ≤ tk) (h1 : tk ≤ 31) : SL vb tk v (A, C, L, o, false) (tk :: rsN (bdN tk) A, C, L, o ++ cd (ppN (bdN tk) A), true) := Or.inr (Or.inr (Or.inr (Or.inr (Or.inr (Or.inl ⟨_, _, _, _, h0, h1, rfl, rfl⟩)))))
theorem SL_cmp {vb tk v : Nat} {A : List Nat} {L : List Nat} {o : List Nat} (h0 : inC tk) (h1 : vb = 2) (h2 : brN A = 0) : SL vb tk v (A, [], L, o, false) ([], [tk], L, o ++ cd A, true) := Or.inr (Or.inr (Or.inr (Or.inr (Or.inr (Or.inr (Or.inl ⟨_, _, _, h0, h1, h2, rfl, rfl⟩))))))
theorem SL_lgc {vb tk v : Nat} {A : List Nat} {c : Nat} {L : List Nat} {o : List Nat} (h0 : tk = 9 ∨ tk = 10) (h1 : brN A = 0) : SL vb tk v (A, [c], L, o, false) ([], [], tk :: rsN (bdN tk) L, o ++ cd (A ++ [c] ++ ppN (bdN tk) L), true) := Or.inr (Or.inr (Or.inr (Or.inr (Or.inr (Or.inr (Or.inr (Or.inl ⟨_, _, _, _, h0, h1, rfl, rfl⟩)))))))
theorem SL_cls {vb tk v : Nat} {P : List Nat} {A : List Nat} {C : List Nat} {L : List Nat} {o : List Nat} (h0 : tk = 33) (h1 : brN P = 0) : SL vb tk v (P ++ 32 :: A, C, L, o, false) (A, C, L, o ++ cd P, false) := Or.inr (Or.inr (Or.inr (Or.inr (Or.inr (Or.inr (Or.inr (Or.inr ⟨_, _, _, _, _, h0, h1, rfl, rfl⟩)))))))
/-- a fault -/
def FL (vb tk v : Nat) (s : lst) (k : Nat) : Prop :=
  (∃ A C L o, tk = 37 ∧ 9999 < v ∧ s = (A, C, L, o, true) ∧ k = 2) ∨
  (∃ A C L o, 12 ≤ tk ∧ tk < 24 ∧ ¬ mayN vb (tk - 12) ∧ s = (A, C, L, o, true) ∧ k = 5) ∨
  (∃ A C L o, (tk = 32 ∨ tk = 29 ∨ (tk = 11 ∧ vb = 2 ∧ A = [] ∧ C = [])) ∧ 8 ≤ opN (A ++ C ++ L) ∧ s = (A, C, L, o, true) ∧ k = 3) ∨
  (∃ A C L o, tk ≠ 37 ∧ ¬ (12 ≤ tk ∧ tk < 24) ∧ tk ≠ 32 ∧ tk ≠ 29 ∧ ¬ (tk = 11 ∧ vb = 2 ∧ A = [] ∧ C = []) ∧ s = (A, C, L, o, true) ∧ k = 1) ∨
  (∃ A C L o, ¬ (28 ≤ tk ∧ tk ≤ 31) ∧ ¬ (inC tk ∧ vb = 2 ∧ brN A = 0 ∧ C = []) ∧ (¬ ((tk = 9 ∨ tk = 10) ∧ brN A = 0 ∧ C ≠ [])) ∧ ¬ (tk = 33 ∧ brN A ≠ 0) ∧ ¬ (tk = 34 ∧ brN A = 0 ∧ (C ≠ [] ↔ vb = 2)) ∧ s = (A, C, L, o, false) ∧ k = 1)
theorem FL_num {vb tk v : Nat} {A : List Nat} {C : List Nat} {L : List Nat} {o : List Nat} (h0 : tk = 37) (h1 : 9999 < v) : FL vb tk v (A, C, L, o, true) 2 := Or.inl ⟨_, _, _, _, h0, h1, rfl, rfl⟩
theorem FL_nam {vb tk v : Nat} {A : List Nat} {C : List Nat} {L : List Nat} {o : List Nat} (h0 : 12 ≤ tk) (h1 : tk < 24) (h2 : ¬ mayN vb (tk - 12)) : FL vb tk v (A, C, L, o, true) 5 := Or.inr (Or.inl ⟨_, _, _, _, h0, h1, h2, rfl, rfl⟩)
theorem FL_deep {vb tk v : Nat} {A : List Nat} {C : List Nat} {L : List Nat} {o : List Nat} (h0 : tk = 32 ∨ tk = 29 ∨ (tk = 11 ∧ vb = 2 ∧ A = [] ∧ C = [])) (h1 : 8 ≤ opN (A ++ C ++ L)) : FL vb tk v (A, C, L, o, true) 3 := Or.inr (Or.inr (Or.inl ⟨_, _, _, _, h0, h1, rfl, rfl⟩))
theorem FL_one {vb tk v : Nat} {A : List Nat} {C : List Nat} {L : List Nat} {o : List Nat} (h0 : tk ≠ 37) (h1 : ¬ (12 ≤ tk ∧ tk < 24)) (h2 : tk ≠ 32) (h3 : tk ≠ 29) (h4 : ¬ (tk = 11 ∧ vb = 2 ∧ A = [] ∧ C = [])) : FL vb tk v (A, C, L, o, true) 1 := Or.inr (Or.inr (Or.inr (Or.inl ⟨_, _, _, _, h0, h1, h2, h3, h4, rfl, rfl⟩)))
theorem FL_btw {vb tk v : Nat} {A : List Nat} {C : List Nat} {L : List Nat} {o : List Nat} (h0 : ¬ (28 ≤ tk ∧ tk ≤ 31)) (h1 : ¬ (inC tk ∧ vb = 2 ∧ brN A = 0 ∧ C = [])) (h2 : ¬ ((tk = 9 ∨ tk = 10) ∧ brN A = 0 ∧ C ≠ [])) (h3 : ¬ (tk = 33 ∧ brN A ≠ 0)) (h4 : ¬ (tk = 34 ∧ brN A = 0 ∧ (C ≠ [] ↔ vb = 2))) : FL vb tk v (A, C, L, o, false) 1 := Or.inr (Or.inr (Or.inr (Or.inr ⟨_, _, _, _, h0, h1, h2, h3, h4, rfl, rfl⟩)))
/-- where the end of a law is -/
def EL (vb tk : Nat) (s : lst) : Prop := tk = 34 ∧ brN s.1 = 0 ∧ (s.2.1 ≠ [] ↔ vb = 2) ∧ s.2.2.2.2 = false
/-- from a token and what waits, in so many steps, to a fault and its place, or to the next token and what is out -/
def RLw (T : Nat → Nat) (n vb : Nat) : Nat → Nat → Nat → Nat → Nat → lst → Nat × Nat ⊕ Nat × Nat × Nat × Nat × List Nat → Prop
  | 0, pl, tk, v, a, s, r => (∃ k, FL vb tk v s k ∧ r = .inl (k, pl)) ∨ (EL vb tk s ∧ ∃ pl' tk' v' a', Lx T n a pl' tk' v' a' ∧ r = .inr (pl', tk', v', a', s.2.2.2.1 ++ cd (wt s)))
  | m + 1, _, tk, v, a, s, r => ∃ s' pl' tk' v' a', SL vb tk v s s' ∧ Lx T n a pl' tk' v' a' ∧ RLw T n vb m pl' tk' v' a' s' r
/-! what can wait -/
def hbN : List Nat → Nat
  | [] => 0
  | x :: _ => bdN x
def okW : List Nat → Prop
  | [] => True
  | x :: W => okW W ∧ (unN x = true ∨ hbN W < bdN x)
def hb2 : List Nat → Nat
  | [] => 0
  | x :: _ => if unN x = true then 0 else bdN x
theorem bdN_6 {x : Nat} (h : unN x = false) : bdN x ≤ 6 := by
  unfold unN at h
  simp at h
  unfold bdN
  repeat' split <;> first | omega | skip
theorem hb2_6 : ∀ W : List Nat, hb2 W ≤ 6
  | [] => by simp [hb2]
  | x :: W => by
    by_cases h : unN x = true
    · simp [hb2, h]
    · simp only [hb2, h]
      exact bdN_6 (by simpa using h)
theorem okW_len : ∀ W : List Nat, okW W → W.length ≤ 7 * opN W + hb2 W ∧ W.length ≤ 7 * opN W + 6 ∧ W.length - opN W ≤ 6 * opN W + hb2 W
  | [], _ => by simp [opN]
  | x :: W, h => by
    obtain ⟨h1, h2⟩ := h
    have ih := okW_len W h1
    have h6 := hb2_6 W
    have hle : opN W ≤ W.length := List.countP_le_length
    by_cases hx : unN x = true
    · have e : opN (x :: W) = opN W + 1 := by simp [opN, hx]
      have e2 : hb2 (x :: W) = 0 := by simp [hb2, hx]
      rw [e, e2, List.length_cons]
      omega
    · have e : opN (x :: W) = opN W := by simp [opN, hx]
      have e2 : hb2 (x :: W) = bdN x := by simp [hb2, hx]
      have h3 : hb2 W < bdN x := by
        rcases h2 with h2 | h2
        · exact absurd h2 hx
        · cases W with
          | nil => exact Nat.lt_of_le_of_lt (Nat.zero_le _) h2
          | cons y W =>
            have : hb2 (y :: W) ≤ hbN (y :: W) := by simp only [hb2, hbN]; split <;> omega
            omega
      have := bdN_6 (by simpa using hx)
      rw [e, e2, List.length_cons]
      omega
theorem okW_tail : ∀ (P W : List Nat), okW (P ++ W) → okW W
  | [], _, h => h
  | _ :: P, W, h => okW_tail P W h.1
theorem okW_rs (b : Nat) : ∀ W : List Nat, okW W → okW (rsN b W) ∧ (0 < b → hbN (rsN b W) < b)
  | [], _ => ⟨trivial, fun h => h⟩
  | x :: W, h => by
    unfold rsN
    rw [List.dropWhile_cons]
    by_cases hx : b ≤ bdN x
    · simp only [hx, decide_true, if_true]
      exact okW_rs b W h.1
    · simp only [hx, decide_false]
      exact ⟨h, fun _ => by show bdN x < b; omega⟩
theorem rs_app {b : Nat} : ∀ {A W : List Nat}, (∀ x ∈ A, b ≤ bdN x) → rsN b (A ++ W) = rsN b W ∧ ppN b (A ++ W) = A ++ ppN b W
  | [], W, _ => ⟨rfl, rfl⟩
  | x :: A, W, h => by
    have ih := rs_app (A := A) (W := W) (fun y hy => h y (by simp [hy]))
    have hx := h x (by simp)
    unfold rsN ppN at ih ⊢
    simp only [List.cons_append, List.dropWhile_cons, List.takeWhile_cons, hx, decide_true, if_true]
    exact ⟨ih.1, by rw [ih.2]⟩
/-- what stands below isn't reached -/
theorem rs_low {b : Nat} : ∀ {A W : List Nat}, (∀ x ∈ W, bdN x < b) → rsN b (A ++ W) = rsN b A ++ W ∧ ppN b (A ++ W) = ppN b A
  | [], W, h => by
    cases W with
    | nil => exact ⟨rfl, rfl⟩
    | cons y W =>
      have hy : ¬ b ≤ bdN y := by have := h y (by simp); omega
      unfold rsN ppN
      simp [hy]
  | x :: A, W, h => by
    have ih := rs_low (A := A) (W := W) h
    unfold rsN ppN at ih ⊢
    by_cases hx : b ≤ bdN x
    · simp only [List.cons_append, List.dropWhile_cons, List.takeWhile_cons, hx, decide_true, if_true]
      exact ⟨ih.1, by rw [ih.2]⟩
    · simp [List.cons_append, hx]
/-- what can wait, all in all -/
def okLS (vb : Nat) (s : lst) : Prop := (∀ x ∈ s.1, inA x) ∧ ((s.2.1 = []) ∨ ∃ c, inC c ∧ s.2.1 = [c] ∧ vb = 2) ∧ (∀ x ∈ s.2.2.1, inL x) ∧ (vb ≠ 2 → s.2.2.1 = []) ∧ okW (wt s) ∧ opN (wt s) ≤ 8
theorem bdA {x : Nat} (h : inA x) (hx : x ≠ 32) : 5 ≤ bdN x := by
  unfold inA at h
  have : x = 28 ∨ x = 29 ∨ x = 30 ∨ x = 31 ∨ x = 40 := by omega
  rcases this with rfl | rfl | rfl | rfl | rfl <;> decide
theorem bdC {x : Nat} (h : inC x) : bdN x = 4 ∧ unN x = false := by
  unfold inC at h
  have : x = 24 ∨ x = 25 ∨ x = 26 ∨ x = 27 ∨ x = 35 ∨ x = 36 := by omega
  rcases this with rfl | rfl | rfl | rfl | rfl | rfl <;> decide
theorem bdLx {x : Nat} (h : inL x) : bdN x ≤ 3 ∧ 1 ≤ bdN x := by
  unfold inL at h
  have : x = 9 ∨ x = 10 ∨ x = 11 := by omega
  rcases this with rfl | rfl | rfl <;> decide
theorem br0 {A : List Nat} (h : ∀ x ∈ A, inA x) (hb : brN A = 0) : ∀ x ∈ A, 5 ≤ bdN x := fun x hx => bdA (h x hx) (fun e => by subst e; exact absurd hx (List.count_eq_zero.mp hb))
theorem okLS_low {vb : Nat} {s : lst} (h : okLS vb s) : ∀ x ∈ s.2.1 ++ s.2.2.1, bdN x < 5 := by
  intro x hx
  rcases List.mem_append.mp hx with q | q
  · rcases h.2.1 with e | ⟨c, hc, e, -⟩
    · rw [e] at q; cases q
    · rw [e] at q; simp at q; subst q; have := (bdC hc).1; omega
  · have := bdLx (h.2.2.1 x q); omega
theorem opN_app (A B : List Nat) : opN (A ++ B) = opN A + opN B := by simp [opN]
theorem opN_rs (b : Nat) (W : List Nat) : opN (rsN b W) ≤ opN W := by
  have : opN (ppN b W ++ rsN b W) = opN W := by rw [pp_rs]
  rw [opN_app] at this; omega
theorem mem_rs {b x : Nat} {W : List Nat} (h : x ∈ rsN b W) : x ∈ W := by
  rw [← pp_rs b W]; exact List.mem_append.mpr (Or.inr h)
theorem okLS_step {vb tk v : Nat} {s s' : lst} (h : okLS vb s) (g : SL vb tk v s s') : okLS vb s' := by
  obtain ⟨hA, hC, hL, hv, hW, ho⟩ := h
  rcases g with ⟨A, C, L, o, -, -, rfl, rfl⟩ | ⟨A, C, L, o, -, -, -, rfl, rfl⟩ | ⟨A, C, L, o, e1, e2, rfl, rfl⟩ | ⟨A, C, L, o, e1, e2, rfl, rfl⟩ | ⟨L, o, e1, e2, e3, rfl, rfl⟩ | ⟨A, C, L, o, e1, e2, rfl, rfl⟩ | ⟨A, L, o, e1, e2, e3, rfl, rfl⟩ | ⟨A, c, L, o, e1, e3, rfl, rfl⟩ | ⟨P, A, C, L, o, e1, e2, rfl, rfl⟩
  · exact ⟨hA, hC, hL, hv, hW, ho⟩
  · exact ⟨hA, hC, hL, hv, hW, ho⟩
  · skip
    refine ⟨fun x hx => ?_, hC, hL, hv, ⟨hW, Or.inl (by decide)⟩, ?_⟩
    · rcases List.mem_cons.mp hx with q | q
      · subst q; unfold inA; omega
      · exact hA x q
    · show opN (32 :: (A ++ C ++ L)) ≤ 8
      have : opN (32 :: (A ++ C ++ L)) = opN (A ++ C ++ L) + 1 := by simp [opN, unN]
      omega
  · skip
    refine ⟨fun x hx => ?_, hC, hL, hv, ⟨hW, Or.inl (by decide)⟩, ?_⟩
    · rcases List.mem_cons.mp hx with q | q
      · subst q; unfold inA; omega
      · exact hA x q
    · show opN (40 :: (A ++ C ++ L)) ≤ 8
      have : opN (40 :: (A ++ C ++ L)) = opN (A ++ C ++ L) + 1 := by simp [opN, unN]
      omega
  · skip
    refine ⟨hA, hC, fun x hx => ?_, fun q => absurd e2 q, ⟨hW, Or.inl (by decide)⟩, ?_⟩
    · rcases List.mem_cons.mp hx with q | q
      · subst q; unfold inL; omega
      · exact hL x q
    · show opN (11 :: L) ≤ 8
      have : opN (11 :: L) = opN L + 1 := by simp [opN, unN]
      omega
  · skip
    have b5 : 5 ≤ bdN tk := bdA (by unfold inA; omega) (by omega)
    have low := okLS_low (vb := vb) (s := (A, C, L, o, false)) ⟨hA, hC, hL, hv, hW, ho⟩
    have e := rs_low (b := bdN tk) (A := A) (W := C ++ L) (fun x hx => Nat.lt_of_lt_of_le (low x hx) b5)
    have r := okW_rs (bdN tk) _ (show okW (A ++ (C ++ L)) by have := hW; unfold wt at this; rwa [List.append_assoc] at this)
    rw [e.1] at r
    refine ⟨fun x hx => ?_, hC, hL, hv, ?_, ?_⟩
    · rcases List.mem_cons.mp hx with q | q
      · subst q; unfold inA; omega
      · exact hA x (mem_rs q)
    · show okW (tk :: rsN (bdN tk) A ++ C ++ L)
      rw [List.append_assoc, List.cons_append]
      exact ⟨r.1, Or.inr (r.2 (by omega))⟩
    · have h1 := opN_rs (bdN tk) A
      have h2 : unN tk = false := by unfold unN; simp; omega
      have h3 : opN (A ++ C ++ L) ≤ 8 := ho
      show opN (tk :: rsN (bdN tk) A ++ C ++ L) ≤ 8
      have h4 : opN (tk :: rsN (bdN tk) A ++ C ++ L) = opN (rsN (bdN tk) A) + opN C + opN L := by simp [opN, h2]; omega
      rw [opN_app, opN_app] at h3
      omega
  · skip
    have b4 := bdC e1
    have hw : okW (A ++ L) := by have := hW; unfold wt at this; simpa using this
    have e := rs_app (b := 4) (A := A) (W := L) (fun x hx => by have := br0 hA e3 x hx; omega)
    have e5 := rs_low (b := 4) (A := []) (W := L) (fun x hx => by have := bdLx (hL x hx); omega)
    have r := okW_rs 4 _ hw
    rw [e.1, show rsN 4 L = L from e5.1] at r
    refine ⟨fun x hx => absurd hx (by simp), Or.inr ⟨tk, e1, rfl, e2⟩, hL, hv, ⟨r.1, Or.inr (by rw [b4.1]; exact r.2 (by omega))⟩, ?_⟩
    have h3 : opN (A ++ [] ++ L) ≤ 8 := ho
    show opN (tk :: L) ≤ 8
    rw [opN_app] at h3
    have : opN (tk :: L) = opN L := by simp [opN, b4.2]
    omega
  · skip
    obtain ⟨c', hc', ec, e2⟩ : ∃ c', inC c' ∧ [c] = [c'] ∧ vb = 2 := by
      rcases hC with q | q
      · cases q
      · exact q
    cases ec
    have b4 := bdC hc'
    have hb : bdN tk ≤ 2 ∧ 1 ≤ bdN tk ∧ unN tk = false := by rcases e1 with rfl | rfl <;> decide
    have hw : okW ((A ++ [c]) ++ L) := hW
    have e := rs_app (b := bdN tk) (A := A ++ [c]) (W := L) (fun x hx => by
      rcases List.mem_append.mp hx with q | q
      · have := br0 hA e3 x q; omega
      · simp at q; subst q; omega)
    have r := okW_rs (bdN tk) _ hw
    rw [e.1] at r
    refine ⟨fun x hx => absurd hx (by simp), Or.inl rfl, fun x hx => ?_, fun q => absurd e2 q, ⟨r.1, Or.inr (r.2 (by omega))⟩, ?_⟩
    · rcases List.mem_cons.mp hx with q | q
      · subst q; unfold inL; omega
      · exact hL x (mem_rs q)
    · have h1 := opN_rs (bdN tk) L
      have h3 : opN (A ++ [c] ++ L) ≤ 8 := ho
      rw [opN_app] at h3
      show opN (tk :: rsN (bdN tk) L) ≤ 8
      have : opN (tk :: rsN (bdN tk) L) = opN (rsN (bdN tk) L) := by simp [opN, hb.2.2]
      omega
  · skip
    refine ⟨fun x hx => hA x (by simp [hx]), hC, hL, hv, ?_, ?_⟩
    · have hw : okW ((P ++ [32]) ++ (A ++ C ++ L)) := by have := hW; unfold wt at this; simpa using this
      exact okW_tail _ _ hw
    · have h3 : opN ((P ++ 32 :: A) ++ C ++ L) ≤ 8 := ho
      show opN (A ++ C ++ L) ≤ 8
      rw [show (P ++ 32 :: A) ++ C ++ L = (P ++ [32]) ++ (A ++ C ++ L) by simp, opN_app] at h3
      omega
/-- one step, one more at most -/
theorem SL_len {vb tk v : Nat} {s s' : lst} (g : SL vb tk v s s') : s'.2.2.2.1.length + (wt s').length ≤ s.2.2.2.1.length + (wt s).length + 1 := by
  rcases g with ⟨A, C, L, o, -, -, rfl, rfl⟩ | ⟨A, C, L, o, -, -, -, rfl, rfl⟩ | ⟨A, C, L, o, e1, e2, rfl, rfl⟩ | ⟨A, C, L, o, e1, e2, rfl, rfl⟩ | ⟨L, o, e1, e2, e3, rfl, rfl⟩ | ⟨A, C, L, o, e1, e2, rfl, rfl⟩ | ⟨A, L, o, e1, e2, e3, rfl, rfl⟩ | ⟨A, c, L, o, e1, e3, rfl, rfl⟩ | ⟨P, A, C, L, o, e1, e2, rfl, rfl⟩
  case inr.inr.inr.inr.inr.inl =>
    have := congrArg List.length (pp_rs (bdN tk) A)
    simp [wt, cd] at this ⊢; omega
  case inr.inr.inr.inr.inr.inr.inr.inl =>
    have := congrArg List.length (pp_rs (bdN tk) L)
    simp [wt, cd] at this ⊢; omega
  all_goals (simp [wt, cd] <;> omega)
