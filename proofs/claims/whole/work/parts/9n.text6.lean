/-- the plain form holds these clauses as text t -/
def mrpT (I : gI) (t : Nat) (cl : List cls) : Prop := I 314 t = nI cl.length ∧ (∀ (k : Nat) (c : cls), cl[k]? = some c → I 315 (24 * t + k) = nI c.1 ∧ c.1 ≤ 6 ∧ I 316 (24 * t + k) = nI (400 * t + (otM (cl.take k)).length) ∧ (3 ≤ c.1 → I 317 (24 * t + k) = c.2.1) ∧ (c.1 = 3 ∨ c.1 = 4 → I 318 (24 * t + k) = c.2.2.1)) ∧ ∀ k, k < (otM cl).length → I 319 (400 * t + k) = nI ((otM cl).getD k (0, 0)).1 ∧ I 320 (400 * t + k) = nI ((otM cl).getD k (0, 0)).2
theorem ordF_none {cw ca : Nat → Int32} {w : Int32} {t : Nat} : ∀ n, (∀ k, k < n → ¬ cw (24 * t + k) = w) → ordF cw ca w t n = -1
  | 0, _ => rfl
  | n + 1, h => by rw [ordF, if_neg (h n (by omega)), ordF_none n (fun k hk => h k (by omega))]
theorem ordF_at {cw ca : Nat → Int32} {w : Int32} {t i : Nat} (hi : cw (24 * t + i) = w) : ∀ n, i < n → (∀ k, k < n → cw (24 * t + k) = w → k = i) → ordF cw ca w t n = ca (24 * t + i)
  | 0, h, _ => by omega
  | n + 1, h, hu => by
    by_cases c : n = i
    · subst c; rw [ordF, if_pos hi]
    · rw [ordF, if_neg (fun q => c (hu n (by omega) q)), ordF_at hi n (by omega) (fun k hk => hu k (by omega))]
theorem lwR_new {I : gI} {t : Nat} {cl : List cls} (ht : t < 4) (h : rpL I (136 + 7 * t) cl) (g : mrpT I t cl) (ho : okCl cl) (hl : cl.length ≤ 24) (h3 : (catN cl).length ≤ 300) (h4 : (otM cl).length ≤ 300) : lwR I t := by
  obtain ⟨a1, a2, a3, a4, a5⟩ := h
  obtain ⟨b1, b2, b3⟩ := g
  have e14 : (I 314 t).toNatClampNeg = cl.length := by rw [b1, nI_clamp (by omega)]
  have ti14 : (I 314 t).toInt = cl.length := by rw [b1]; exact nI_toInt (by omega)
  unfold lwR
  rw [e14]
  refine ⟨⟨a1.trans b1.symm, by omega, by omega⟩, fun k hk => ?_, fun w hw => ?_⟩
  · obtain ⟨c, hc⟩ : ∃ c, cl[k]? = some c := ⟨cl[k], List.getElem?_eq_getElem hk⟩
    obtain ⟨p1, p2, p3, p4⟩ := a4 k c hc
    obtain ⟨q1, q2, q3, q4, q5⟩ := b2 k c hc
    have tc : (I 315 (24 * t + k)).toInt = c.1 := by rw [q1]; exact nI_toInt (by omega)
    rw [tc]
    refine ⟨p1.trans q1.symm, by omega, fun q => (p3 (by omega)).trans (q4 (by omega)).symm, fun q => (p4 (by omega)).trans (q5 (by omega)).symm⟩
  · rcases a5 w hw with ⟨r1, r2⟩ | ⟨i, c, r1, r2, r3, r4⟩
    · refine Or.inl ⟨r1, ordF_none _ (fun k hk q => ?_)⟩
      obtain ⟨c, hc⟩ : ∃ c, cl[k]? = some c := ⟨cl[k], List.getElem?_eq_getElem hk⟩
      have q1 := (b2 k c hc).1
      have q2 := (b2 k c hc).2.1
      rw [q1] at q
      exact r2 ⟨c, List.mem_of_getElem? hc, (nI_eq (by omega) (by omega)).mp q⟩
    · have hi := (List.getElem?_eq_some_iff.mp r1).1
      have hv : (I 315 (24 * t + i)) = nI w := by rw [(b2 i c r1).1, r2]
      have eo : ordF (I 315) (I 316) (nI w) t cl.length = nI (400 * t + (otM (cl.take i)).length) := by
        rw [ordF_at hv cl.length hi (fun k hk q => ?_)]
        · exact (b2 i c r1).2.2.1
        · obtain ⟨d, hd⟩ : ∃ d, cl[k]? = some d := ⟨cl[k], List.getElem?_eq_getElem hk⟩
          have q1 := (b2 k d hd).1
          have q2 := (b2 k d hd).2.1
          rw [q1] at q
          have : d.1 = w := (nI_eq (by omega) (by omega)).mp q
          exact ho.2 k i d c hd r1 (by omega) (by omega)
      have fc := flat_at (fun c : cls => c.2.2.2) cl i c r1 0
      have fo := flat_at (fun c : cls => c.2.2.2.map tkc ++ [(408, 0)]) cl i c r1 (0, 0)
      obtain ⟨f1, f2, f3⟩ := fc
      obtain ⟨o1, o2, o3⟩ := fo
      have lc : (catN cl).length = (catN (cl.take i)).length + (c.2.2.2.length + (catN (cl.drop (i + 1))).length) := by
        have := congrArg List.length f1
        rw [List.length_append, List.length_append] at this; exact this
      have lc2 : (catN (cl.take (i + 1))).length = (catN (cl.take i)).length + c.2.2.2.length := by
        have := congrArg List.length f2
        rw [List.length_append] at this; exact this
      have lo : (otM cl).length = (otM (cl.take i)).length + (c.2.2.2.length + 1 + (otM (cl.drop (i + 1))).length) := by
        have := congrArg List.length o1
        rw [List.length_append, List.length_append, List.length_append, List.length_map, List.length_singleton] at this; exact this
      obtain ⟨ty, okx⟩ := ho.1 i c r1 (by omega)
      have hE : ∀ j, j < c.2.2.2.length + 1 → I 319 (400 * t + (otM (cl.take i)).length + j) = nI ((c.2.2.2.map tkc ++ [(408, 0)]).getD j (0, 0)).1 ∧ I 320 (400 * t + (otM (cl.take i)).length + j) = nI ((c.2.2.2.map tkc ++ [(408, 0)]).getD j (0, 0)).2 := by
        intro j hj
        have := b3 ((otM (cl.take i)).length + j) (by omega)
        rw [Nat.add_assoc, this.1, this.2]
        have e : (otM cl).getD ((otM (cl.take i)).length + j) (0, 0) = (c.2.2.2.map tkc ++ [(408, 0)]).getD j (0, 0) := o3 j (by simp; omega)
        rw [e]; exact ⟨rfl, rfl⟩
      have gl : ∀ j, j < c.2.2.2.length → (c.2.2.2.map tkc ++ [(408, 0)]).getD j (0, 0) = (c.2.2.2.map tkc).getD j (0, 0) := fun j hj => by
        rw [List.getD_eq_getElem?_getD, List.getD_eq_getElem?_getD, List.getElem?_append_left (by simpa using hj)]
      have hend : endM (I 319) (400 * t + (otM (cl.take i)).length) c.2.2.2.length := by
        refine ⟨?_, fun j hj => ?_⟩
        · rw [(hE _ (by omega)).1]
          rw [List.getD_eq_getElem?_getD, List.getElem?_append_right (by simp)]
          simp; rfl
        · rw [(hE j (by omega)).1, gl j hj]
          have hm : c.2.2.2[j]? = some c.2.2.2[j] := List.getElem?_eq_getElem hj
          have e : (c.2.2.2.map tkc).getD j (0, 0) = tkc c.2.2.2[j] := by
            rw [List.getD_eq_getElem?_getD, List.getElem?_map, hm]; rfl
          rw [e]
          have := tkM1_c (okx _ (List.getElem_mem hj))
          exact fun q => this.2.2.1 ((nI_eq (b := 408) (by omega) (by decide)).mp q)
      have ts : ∀ x, x < 2 ^ 31 → (nI x).toInt = x := fun x hx => nI_toInt hx
      have hA : tksC (I (136 + 7 * t + 1)) (catN (cl.take i)).length c.2.2.2.length = tyN c.2.2.2 := by
        refine tksC_eq c.2.2.2 _ (fun j hj => ?_) (fun x hx => (tkM1_c (okx x hx)).2.2.2)
        rw [a3 _ (by omega)]
        have e : (catN cl).getD ((catN (cl.take i)).length + j) 0 = c.2.2.2.getD j 0 := f3 j hj
        rw [e]
      have hB : tkM I (400 * t + (otM (cl.take i)).length) = tyN c.2.2.2 := by
        unfold tkM
        rw [lenF_eq hend (by omega)]
        refine tksM_eq (vb := c.1) c.2.2.2 _ (fun j hj => ?_) okx
        rw [(hE j (by omega)).1, (hE j (by omega)).2, gl j hj]
        exact ⟨rfl, rfl⟩
      have hkl : tkl I (136 + 7 * t) w = tyN c.2.2.2 := by
        unfold tkl
        rw [r3, r4, nI_clamp (by omega), nI_clamp (by omega), lc2, Nat.add_sub_cancel_left]
        exact hA
      refine Or.inr ⟨?_, ?_, ⟨?_, ?_, ?_⟩, ⟨?_, c.2.2.2.length, ?_, ?_, ?_⟩, ?_, ?_⟩
      · rw [r3]; exact nI_m1 (by omega)
      · rw [eo]; exact nI_m1 (by omega)
      · rw [r3, ts _ (by omega)]; omega
      · rw [r3, r4, ts _ (by omega), ts _ (by omega)]; omega
      · rw [r4, ts _ (by omega)]; omega
      · rw [eo, ts _ (by omega)]; omega
      · rw [eo, nI_clamp (by omega)]; omega
      · omega
      · rw [eo, nI_clamp (by omega)]; exact hend
      · rw [eo, nI_clamp (by omega), hkl, hB]
      · rw [hkl]
        refine ⟨by rw [ty, r2], fun x hx => ?_⟩
        obtain ⟨y, hy, rfl⟩ := List.mem_map.mp hx
        have hoy := okx y hy
        intro h401
        rcases hoy with q | ⟨q1, q2, q3⟩ | ⟨z, rfl, hz⟩
        · exfalso
          have : tkC (y : Int) = (400, (y : Int)) := by unfold tkC; rw [if_pos (by omega)]
          rw [this] at h401; exact absurd h401 (by show ¬ (400 : Int) = 401; decide)
        · have : tkC (y : Int) = (401, (y : Int) - 10012) := by unfold tkC; rw [if_neg (by omega), if_pos (by omega)]
          rw [this]
          rw [r2] at q3
          unfold mayN at q3
          show if w = 0 then (y : Int) - 10012 < 8 else if w = 1 then (y : Int) - 10012 < 4 else 6 < (y : Int) - 10012
          have : w = 0 ∨ w = 1 ∨ w = 2 := by omega
          rcases this with rfl | rfl | rfl
          · rw [if_pos rfl]; omega
          · rw [if_neg (by decide), if_pos rfl]; omega
          · rw [if_neg (by decide), if_neg (by decide)]; omega
        · exfalso
          have : z = 28 ∨ z = 29 ∨ z = 30 ∨ z = 31 ∨ z = 40 ∨ z = 24 ∨ z = 25 ∨ z = 26 ∨ z = 27 ∨ z = 35 ∨ z = 36 ∨ z = 9 ∨ z = 10 ∨ z = 11 := by
            unfold opx inA inC inL at hz; omega
          rcases this with rfl | rfl | rfl | rfl | rfl | rfl | rfl | rfl | rfl | rfl | rfl | rfl | rfl | rfl <;> exact absurd h401 (by decide)
