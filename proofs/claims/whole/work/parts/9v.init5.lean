def rowP (f : Nat → Option Nat) : List (Option Nat) → Nat → Prop
  | [], _ => True
  | none :: l, i => rowP f l (i + 1)
  | some x :: l, i => f i = some x ∧ rowP f l (i + 1)
theorem rowP_get {f : Nat → Option Nat} : ∀ (l : List (Option Nat)) (o k : Nat) (v : Nat), rowP f l o → l.getD k none = some v → f (o + k) = some v
  | [], o, k, v, _, h => by simp at h
  | none :: l, o, 0, v, _, h => by simp at h
  | none :: l, o, k + 1, v, hp, h => by
    have := rowP_get l (o + 1) k v hp (by simpa using h)
    rwa [show o + 1 + k = o + (k + 1) by omega] at this
  | some x :: l, o, 0, v, hp, h => by
    have e : x = v := by simpa using h
    subst e; exact hp.1
  | some x :: l, o, k + 1, v, hp, h => by
    have := rowP_get l (o + 1) k v hp.2 (by simpa using h)
    rwa [show o + 1 + k = o + (k + 1) by omega] at this
theorem rowP_0 {f : Nat → Option Nat} {l : List (Option Nat)} {k v : Nat} (h : rowP f l 0) (g : l.getD k none = some v) : f k = some v := by
  have := rowP_get l 0 k v h g
  rwa [Nat.zero_add] at this
def rtC (c a k : Nat) : Option Nat := if a = c then [some (c + 1), some (c + 5), none, some (c + 126), some (c + 127), some (c + 128), none, some (c + 129), some (c + 130), none, none, none, none, some (c + 131)].getD k none else if a = c + 1 then [some (c + 2), some (c + 3), some (c + 4)].getD k none else if a = c + 5 then (if k < 30 then some (c + 6 + 4 * k) else none) else if c + 6 ≤ a ∧ a < c + 126 ∧ (a - (c + 6)) % 4 = 0 then [some (a + 1), some (a + 2), some (a + 3)].getD k none else none
theorem rtC_ok {c : Nat} {I : gI} {R : gR} (h : coF c I R) {a k v : Nat} (g : rtC c a k = some v) : R a k = some v := by
  obtain ⟨-, -, -, ⟨r0, r1, r3, r4, r5, r7, r8, r13⟩, ⟨s0, s1, s2⟩, hs⟩ := h
  unfold rtC at g
  split at g
  · rename_i e; subst e
    exact rowP_0 (by simp only [rowP]; exact ⟨r0, r1, r3, r4, r5, r7, r8, r13, trivial⟩) g
  · split at g
    · rename_i e; subst e
      exact rowP_0 (by simp only [rowP]; exact ⟨s0, s1, s2, trivial⟩) g
    · split at g
      · rename_i e; subst e
        split at g
        · rename_i hk
          rw [← g]; exact (hs k hk).1
        · cases g
      · split at g
        · rename_i e
          obtain ⟨i, rfl⟩ : ∃ i, a = c + 6 + 4 * i := ⟨(a - (c + 6)) / 4, by omega⟩
          have hi := hs i (by omega)
          exact rowP_0 (by simp only [rowP]; exact ⟨hi.2.1, hi.2.2.1, hi.2.2.2, trivial⟩) g
        · cases g
def rtM : List (Option Nat) := [some 311, some 312, some 313, none, none, none, some 314, some 315, some 316, some 317, some 318, some 319, some 320, none, none, none, none, none, none, none, none, none, some 321, some 322, none, some 323, some 324, none, none, none, some 325, some 326, some 327, some 328, none, some 329, some 330, some 331, some 332, some 333, some 334, none, some 335, some 336, some 337, some 338, some 339, none]
def rtAll (a k : Nat) : Option Nat := if a = 0 then [some 1, some 2, some 3, some 174, some 306, some 309].getD k none else if a = 1 then [some 2, some 3, some 166, some 170, some 171, some 172, none, some 173].getD k none else if a = 2 then [some 3, some 135, some 164, some 165].getD k none else if a < 135 then rtC 3 a k else if a = 135 then (if k < 4 then some (136 + 7 * k) else none) else if a < 164 then (if (a - 136) % 7 = 0 then [some (a + 1), none, some (a + 2), some (a + 3), some (a + 4), some (a + 5), some (a + 6)].getD k none else none) else if a = 166 then [some 167, some 168, some 169].getD k none else if a < 174 then none else if a < 306 then rtC 174 a k else if a = 306 then [some 307, none, none, none, none, none, none, none, none, some 308].getD k none else if a = 310 then rtM.getD k none else none
set_option maxRecDepth 100000 in
theorem rt_all : (List.range 340).all (fun a => (List.range 48).all (fun k => RF a k == none || RF a k == rtAll a k)) = true := by decide +kernel
set_option maxRecDepth 100000 in
theorem rt_wide : RFL.length = 340 ∧ RFL.all (fun l => decide (l.length ≤ 48)) = true := by decide +kernel
theorem rt_RF {a k v : Nat} (h : RF a k = some v) : rtAll a k = some v := by
  have ha : a < 340 := by
    refine Nat.lt_of_not_le fun q => ?_
    unfold RF at h
    rw [List.getD_eq_getElem?_getD (l := RFL), List.getElem?_eq_none (by rw [rt_wide.1]; exact q)] at h
    simp at h
  have hk : k < 48 := by
    refine Nat.lt_of_not_le fun q => ?_
    have hl : (RFL.getD a []).length ≤ 48 := by
      have := List.all_eq_true.mp rt_wide.2 (RFL.getD a []) (by
        rw [List.getD_eq_getElem?_getD, List.getElem?_eq_getElem (by rw [rt_wide.1]; exact ha)]
        exact List.getElem_mem _)
      simpa using this
    unfold RF at h
    rw [List.getD_eq_getElem?_getD (l := RFL.getD a []), List.getElem?_eq_none (by omega)] at h
    simp at h
  have := List.all_eq_true.mp (List.all_eq_true.mp rt_all a (List.mem_range.mpr ha)) k (List.mem_range.mpr hk)
  simp only [Bool.or_eq_true, beq_iff_eq] at this
  rcases this with q | q
  · rw [q] at h; cases h
  · rw [← q]; exact h
theorem gFx_of {I : gI} {R : gR} (h : spmF 0 I R) (hm : rowP (R 310) rtM 0) : g_Fx R := by
  intro a k v hv
  have g := rt_RF hv
  clear hv
  obtain ⟨-, ⟨⟨hc, b0, b1, b2, b3, hl⟩, ⟨t0, t1, t2, t3, t4, t5, t7⟩, u0, u1, u2⟩, hc2, ⟨x0, x1, x2, x3, x4, x5⟩, y0, y9⟩ := h
  unfold rtAll at g
  split at g
  · rename_i e; subst e
    exact rowP_0 (by simp only [rowP]; exact ⟨x0, x1, x2, x3, x4, x5, trivial⟩) g
  split at g
  · rename_i e; subst e
    exact rowP_0 (by simp only [rowP]; exact ⟨t0, t1, t2, t3, t4, t5, t7, trivial⟩) g
  split at g
  · rename_i e; subst e
    exact rowP_0 (by simp only [rowP]; exact ⟨b0, b1, b2, b3, trivial⟩) g
  split at g
  · exact rtC_ok hc g
  split at g
  · rename_i e; subst e
    split at g
    · rename_i hk
      rw [← g]; exact (hl k hk).1
    · cases g
  split at g
  · split at g
    · rename_i e1 e2 e3 e4 e5 e6 e7
      obtain ⟨i, rfl⟩ : ∃ i, a = 136 + 7 * i := ⟨(a - 136) / 7, by omega⟩
      obtain ⟨l0, l2, l3, l4, l5, l6⟩ := (hl i (by omega)).2
      exact rowP_0 (by simp only [rowP]; exact ⟨l0, l2, l3, l4, l5, l6, trivial⟩) g
    · cases g
  split at g
  · rename_i e; subst e
    exact rowP_0 (by simp only [rowP]; exact ⟨u0, u1, u2, trivial⟩) g
  split at g
  · cases g
  split at g
  · exact rtC_ok hc2 g
  split at g
  · rename_i e; subst e
    exact rowP_0 (by simp only [rowP]; exact ⟨y0, y9, trivial⟩) g
  split at g
  · rename_i e; subst e
    exact rowP_0 hm g
  · cases g
