/-- as frX, but for what is compared -/
def frV (I I' : gI) : Prop := (∀ c, c ≠ 310 → c ≠ 321 → c ≠ 322 → c ≠ 323 → c ≠ 324 → c ≠ 329 → c ≠ 330 → I' c = I c) ∧ ∀ j, (j ≤ 13 ∨ j = 18 ∨ j = 19 ∨ j = 28 ∨ j = 29) → I' 310 j = I 310 j
theorem frV.refl (I : gI) : frV I I := ⟨fun _ _ _ _ _ _ _ _ => rfl, fun _ _ => rfl⟩
theorem frV.trans {I J K : gI} (h : frV I J) (g : frV J K) : frV I K := ⟨fun c a b d e f i k => (g.1 c a b d e f i k).trans (h.1 c a b d e f i k), fun j a => (g.2 j a).trans (h.2 j a)⟩
theorem frX.v {I J : gI} (h : frX I J) : frV I J := ⟨fun c a b _ e f i k => h.1 c a b e f i k, h.2⟩
theorem frV_up {I J : gI} {c j : Nat} {x : Int32} (h : frV I J) (hc : (c = 310 ∧ ¬ (j ≤ 13 ∨ j = 18 ∨ j = 19 ∨ j = 28 ∨ j = 29)) ∨ c = 321 ∨ c = 322 ∨ c = 323 ∨ c = 324 ∨ c = 329 ∨ c = 330) : frV I (up J c j x) := by
  refine ⟨fun a b d e f g i k => ?_, fun k hk => ?_⟩
  · rw [up_off a (by omega)]; exact h.1 a b d e f g i k
  · rw [up_ne (by rintro ⟨q1, q2⟩; subst q2; omega)]; exact h.2 k hk
theorem tpM_v {I J : gI} {T : Nat → Nat} {n : Nat} (h : tpM I T n) (g : frV I J) : tpM J T n := ⟨h.1, fun j hj => by rw [g.1 313 (by decide) (by decide) (by decide) (by decide) (by decide) (by decide) (by decide)]; exact h.2 j hj⟩
theorem op_fm : ∀ A : List Nat, (∀ x ∈ A, inA x) → (fmA A).length = opN A
  | [], _ => rfl
  | x :: A, h => by
    have ih := op_fm A (fun y hy => h y (by simp [hy]))
    have hx := h x (by simp)
    by_cases c : x = 32
    · subst c; simp [fmA, opN, unN] at ih ⊢; exact ih
    · by_cases c2 : x = 40
      · subst c2; simp [fmA, opN, unN] at ih ⊢; exact ih
      · have hun : unN x = false := by unfold inA at hx; unfold unN; simp; omega
        have e : opN (x :: A) = opN A := by simp [opN, hun]
        rw [e]; simp [fmA, c, c2]; exact ih
theorem fm_br : ∀ A : List Nat, brN A ≠ 0 → fmA A ≠ []
  | [], h => absurd rfl h
  | x :: A, h => by
    by_cases c : x = 32
    · subst c; simp [fmA]
    · have := fm_br A (by unfold brN at h ⊢; rwa [List.count_cons_of_ne c] at h)
      by_cases c2 : x = 40
      · subst c2; simp [fmA]
      · simpa [fmA, c, c2] using this
theorem fm_br0 {A : List Nat} (hA : ∀ x ∈ A, inA x) (hW : okW A) (h40 : ∀ y B, A = y :: B → y ≠ 40) (hb : brN A = 0) : fmA A = [] := by
  rcases fm_head A hA hW h40 with q | ⟨F, q⟩
  · exact q
  · exfalso
    have key : ∀ A : List Nat, brN A = 0 → 6 ∉ fmA A := by
      intro A
      induction A with
      | nil => intro _ h; simp [fmA] at h
      | cons x A ih =>
        intro h
        have hx : x ≠ 32 := by rintro rfl; unfold brN at h; rw [List.count_cons_self] at h; omega
        have := ih (by unfold brN at h ⊢; rwa [List.count_cons_of_ne hx] at h)
        by_cases c2 : x = 40
        · subst c2; simpa [fmA] using this
        · simpa [fmA, hx, c2] using this
    exact key A hb (by rw [q]; simp)
/-- what works does to the signs of a sum -/
theorem worksA {G : gG} {I : gI} {R : gR} {L : gL} {Q : gQ} {vb : Nat} {pre o : List (Nat × Nat)} {A C Lg : List Nat} {ask : Bool} (hR : g_Fx R) (h : mV I vb pre A C Lg o ask) (hA : ∀ x ∈ A, inA x) (hW : okW A) (h40 : ∀ y B, A = y :: B → y ≠ 40) (hop : opN (A ++ C ++ Lg) ≤ 8) (hAl : (wtA (bsF vb ask C Lg).length A ++ wtL Lg).length < 80) (hlen : (pre ++ o).length + 80 ≤ 400) (hM : ∀ w ∈ wtL Lg, w.2 < (bsF vb ask C Lg).length)
    (hq : ∀ I', mV I' vb pre (rsN 5 A) C Lg (o ++ (cd (ppN 5 A)).map tkc) ask → frN I I' → Q none SH I' R L) : Mt G mX7_works 2 0 0 [.ref 310, .int 3] SH I R L Q := by
  have hl1 := fm_len A
  have hl2 := cnt_op Lg
  have hl3 := bs_len vb ask C Lg
  have hl4 : opN (A ++ C ++ Lg) = opN A + opN C + opN Lg := by rw [opN_app, opN_app]
  have hb : (bsF vb ask C Lg).length ≤ 10 := by rw [hl3]; split <;> omega
  have w := wp_A (β := 5) (b := (bsF vb ask C Lg).length) (by omega) (wtL Lg) A hA hW h40 hM
  have eF : (fmA A ++ bsF vb ask C Lg).length = (bsF vb ask C Lg).length + (fmA A).length := by rw [List.length_append]; omega
  refine k_X7_works (r := 3) hR h.1 (by omega) (wt_rng2 hA hop) (by omega) (by omega) (by omega) (fun I' g1 g2 => hq I' (mV_x h g2.x ?_ (fun c e => ⟨e, rfl⟩)) g2)
  rw [eF, show (3 : Nat) = 5 - 2 from rfl, w.1, w.2.1] at g1
  have e4 : opN (rsN 5 A ++ C ++ Lg) = opN (A ++ C ++ Lg) := by rw [hl4, opN_app, opN_app, w.2.2.2.2.1]
  rw [w.2.2.1, e4, cd_ar _ w.2.2.2.2.2, ← List.append_assoc pre o]
  simpa [List.map_map, Function.comp_def] using g1
theorem rs5 {A : List Nat} (hA : ∀ x ∈ A, inA x) (hb : brN A = 0) : rsN 5 A = [] ∧ ppN 5 A = A := by
  have := rs_app (b := 5) (A := A) (W := []) (br0 hA hb)
  rw [List.append_nil] at this
  exact ⟨this.1, by rw [this.2]; simp [ppN]⟩
theorem rs5b {P A : List Nat} (hA : ∀ x ∈ P ++ 32 :: A, inA x) (hb : brN P = 0) : rsN 5 (P ++ 32 :: A) = 32 :: A ∧ ppN 5 (P ++ 32 :: A) = P := by
  have := rs_app (b := 5) (A := P) (W := 32 :: A) (br0 (fun x hx => hA x (by simp [hx])) hb)
  have e1 : rsN 5 (32 :: A) = 32 :: A := by simp [rsN, bdN]
  have e2 : ppN 5 (32 :: A) = [] := by simp [ppN, bdN]
  rw [e1, e2, List.append_nil] at this
  exact this
/-- the frame on top where a sum goes on -/
theorem goOn {G : gG} {I : gI} {R : gR} {L : gL} {Q : gQ} {n pl tk v a f : Nat} {F : List Nat} {Wt out : List (Nat × Nat)} {op : Nat} (hR : g_Fx R) (h : mK I (f :: F) Wt out op) (hF : F.length < 40) (hx : lxM I n pl tk v a) (htk : ¬ (28 ≤ tk ∧ tk ≤ 31)) (htk2 : tk < 40)
    (k : Go G mX7_goesOn 5 0 0 65 [some (.ref 310), some (.int (nI f)), none] [] SH I R L Q) : Mt G mX7_goesOn 5 0 0 [.ref 310] SH I R L Q := by
  obtain ⟨x13, x14, x15, xt⟩ := hx
  have ti := tkR_i xt
  have ef : I 321 (I 310 21 - 1).toNatClampNeg = nI f := by rw [h.1.1, List.length_cons, nI_pred, nI_clamp (by clear ti; omega)]; exact h.1.2.1
  refine e_X7_goesOn hR ⟨by rw [h.1.1, List.length_cons, nI_pred]; exact vp_in_nI hF (by decide), ?_⟩
  rintro _ rfl
  rw [ef]
  have no : ∀ z : Int32, (z = 43 ∨ z = 45 ∨ z = 42 ∨ z = 47) → I 310 16 = 3 → I 310 17 ≠ z := by
    intro z hz h3 e
    rcases Nat.lt_or_ge tk 24 with q | q
    · rw [(ti.2.1 q).1] at h3; exact absurd h3 (by decide)
    · rcases Nat.lt_or_ge tk 37 with q2 | q2
      · have t3 := (ti.2.2.1 q (by clear ti; omega)).2
        rw [e] at t3
        have key : ∀ t, t < 37 → 24 ≤ t → ¬ (28 ≤ t ∧ t ≤ 31) → nI (chO t) ≠ 43 ∧ nI (chO t) ≠ 45 ∧ nI (chO t) ≠ 42 ∧ nI (chO t) ≠ 47 := by decide +kernel
        have kk := key tk q2 q htk
        rw [← t3] at kk
        rcases hz with hz | hz | hz | hz
        · exact kk.1 hz
        · exact kk.2.1 hz
        · exact kk.2.2.1 hz
        · exact kk.2.2.2 hz
      · have : tk = 37 ∨ tk = 38 ∨ tk = 39 := by clear ti; omega
        rcases this with q3 | q3 | q3
        · rw [(ti.1 q3).1] at h3; exact absurd h3 (by decide)
        · rw [ti.2.2.2.1 q3] at h3; exact absurd h3 (by decide)
        · rcases ti.2.2.2.2 q3 with q4 | ⟨q4, q5⟩
          · rw [q4] at h3; exact absurd h3 (by decide)
          · rw [q5] at e
            rcases hz with hz | hz | hz | hz <;> · rw [hz] at e; exact absurd e (by decide)
  refine ⟨fun _ => k, fun c => ⟨fun c1 => absurd c1 (no 43 (Or.inl rfl) c), fun _ => ⟨fun c1 => absurd c1 (no 45 (Or.inr (Or.inl rfl)) c), fun _ => ⟨fun c1 => absurd c1 (no 42 (Or.inr (Or.inr (Or.inl rfl))) c), fun _ => ⟨fun _ => k, fun c1 => absurd c1 (no 47 (Or.inr (Or.inr (Or.inr rfl))) c)⟩⟩⟩⟩⟩
