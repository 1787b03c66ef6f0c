/-! how the plain form sees what waits -/
def fmA : List Nat → List Nat
  | [] => []
  | x :: A => if x = 32 then 6 :: fmA A else if x = 40 then 7 :: fmA A else fmA A
def wtA (b : Nat) : List Nat → List (Nat × Nat)
  | [] => []
  | x :: A => if x = 32 ∨ x = 40 then wtA b A else (chO x, b + (fmA A).length) :: wtA b A
def lgO (x : Nat) : Nat := if x = 9 then 407 else 406
def wtL : List Nat → List (Nat × Nat)
  | [] => []
  | x :: L => if x = 11 then wtL L else (lgO x, 1) :: wtL L
theorem wtA_le (b : Nat) : ∀ A : List Nat, ∀ w ∈ wtA b A, w.2 ≤ b + (fmA A).length ∧ b ≤ w.2
  | [], w, h => by simp [wtA] at h
  | x :: A, w, h => by
    by_cases c : x = 32 ∨ x = 40
    · rw [wtA, if_pos c] at h
      have := wtA_le b A w h
      have : (fmA (x :: A)).length = (fmA A).length + 1 := by
        rcases c with c | c <;> simp [fmA, c]
      omega
    · rw [wtA, if_neg c] at h
      have e : fmA (x :: A) = fmA A := by
        have : x ≠ 32 ∧ x ≠ 40 := by omega
        simp [fmA, this.1, this.2]
      rw [e]
      rcases List.mem_cons.mp h with q | q
      · subst q; exact ⟨Nat.le_refl _, by simp⟩
      · exact wtA_le b A w q
theorem tw_none {p : Nat × Nat → Bool} : ∀ l : List (Nat × Nat), (∀ x ∈ l, p x = false) → l.takeWhile p = [] ∧ l.dropWhile p = l
  | [], _ => ⟨rfl, rfl⟩
  | x :: l, h => by
    have hx := h x (by simp)
    simp [hx]
theorem rk_ch {x : Nat} (h1 : 28 ≤ x) (h2 : x ≤ 31) : rkO (chO x) + 2 = bdN x ∧ chO x < 500 := by
  have : x = 28 ∨ x = 29 ∨ x = 30 ∨ x = 31 := by omega
  rcases this with rfl | rfl | rfl | rfl <;> decide
/-- what the plain form works off is what the class lets go -/
theorem wp_A {β b : Nat} (hβ : 5 ≤ β) (M : List (Nat × Nat)) : ∀ A : List Nat, (∀ x ∈ A, inA x) → okW A → (∀ y A', A = y :: A' → y ≠ 40) → (∀ w ∈ M, w.2 < b) →
    (wtA b A ++ M).takeWhile (wpP (β - 2) (b + (fmA A).length)) = (ppN β A).map (fun x => (chO x, b + (fmA A).length)) ∧ (wtA b A ++ M).dropWhile (wpP (β - 2) (b + (fmA A).length)) = wtA b (rsN β A) ++ M ∧ fmA (rsN β A) = fmA A ∧ fmA (ppN β A) = [] ∧ opN (rsN β A) = opN A ∧ ∀ x ∈ ppN β A, 28 ≤ x ∧ x ≤ 31
  | [], _, _, _, hM => by
    have h : ∀ w ∈ wtA b [] ++ M, wpP (β - 2) (b + (fmA []).length) w = false := fun w hw => by
      have hw : w ∈ M := by simpa [wtA] using hw
      have := hM w hw
      simp [wpP, fmA]; omega
    have := tw_none _ h
    exact ⟨by rw [this.1]; rfl, by rw [this.2]; rfl, rfl, rfl, rfl, fun x hx => by simp [ppN] at hx⟩
  | x :: A, hA, hW, h40, hM => by
    have hx := hA x (by simp)
    have hx40 := h40 x A rfl
    by_cases c : x = 32
    · subst c
      have h : ∀ w ∈ wtA b (32 :: A) ++ M, wpP (β - 2) (b + (fmA (32 :: A)).length) w = false := fun w hw => by
        have e : (fmA (32 :: A)).length = (fmA A).length + 1 := by simp [fmA]
        rw [e]
        rcases List.mem_append.mp hw with q | q
        · rw [wtA, if_pos (Or.inl rfl)] at q
          have := wtA_le b A w q
          simp [wpP]; omega
        · have := hM w q
          simp [wpP]; omega
      have := tw_none _ h
      have e1 : ppN β (32 :: A) = [] := by unfold ppN; rw [List.takeWhile_cons]; simp [bdN]; omega
      have e2 : rsN β (32 :: A) = 32 :: A := by unfold rsN; rw [List.dropWhile_cons]; simp [bdN]; omega
      rw [e1, e2]
      exact ⟨this.1, this.2, rfl, rfl, rfl, fun x hx => by simp at hx⟩
    · have hr : 28 ≤ x ∧ x ≤ 31 := by unfold inA at hx; omega
      have hrk := rk_ch hr.1 hr.2
      have eF : fmA (x :: A) = fmA A := by simp [fmA, c, hx40]
      have eW : wtA b (x :: A) = (chO x, b + (fmA A).length) :: wtA b A := by rw [wtA, if_neg (by omega)]
      have hun : unN x = false := by unfold unN; simp; omega
      have h40' : ∀ y A', A = y :: A' → y ≠ 40 := fun y A' e q => by
        subst e; subst q
        have := hW.2
        rw [hun] at this
        have b6 := bdN_6 hun
        rcases this with q | q
        · cases q
        · have : hbN (40 :: A') = 7 := rfl
          omega
      have ih := wp_A hβ M A (fun y hy => hA y (by simp [hy])) hW.1 h40' hM
      rw [eF, eW]
      by_cases cb : β ≤ bdN x
      · have hp : wpP (β - 2) (b + (fmA A).length) (chO x, b + (fmA A).length) = true := by simp [wpP]; omega
        have e1 : ppN β (x :: A) = x :: ppN β A := by simp [ppN, cb]
        have e2 : rsN β (x :: A) = rsN β A := by simp [rsN, cb]
        rw [e1, e2, List.cons_append, List.takeWhile_cons, List.dropWhile_cons, hp]
        simp only [if_true, List.map_cons]
        refine ⟨by rw [ih.1], ih.2.1, ih.2.2.1, ?_, ?_, ?_⟩
        · simp [fmA, c, hx40, ih.2.2.2.1]
        · rw [ih.2.2.2.2.1]; simp [opN, hun]
        · intro z hz
          rcases List.mem_cons.mp hz with q | q
          · subst q; exact hr
          · exact ih.2.2.2.2.2 z q
      · have hp : wpP (β - 2) (b + (fmA A).length) (chO x, b + (fmA A).length) = false := by simp [wpP]; omega
        have e1 : ppN β (x :: A) = [] := by simp [ppN, cb]
        have e2 : rsN β (x :: A) = x :: A := by simp [rsN, cb]
        rw [e1, e2, eF, eW, List.cons_append, List.takeWhile_cons, List.dropWhile_cons, hp]
        exact ⟨rfl, rfl, rfl, rfl, rfl, fun z hz => by simp at hz⟩
/-- nots stand above and, or -/
theorem L_spl : ∀ L : List Nat, (∀ x ∈ L, inL x) → okW L → ∃ k L', L = List.replicate k 11 ++ L' ∧ (∀ x ∈ L', x = 9 ∨ x = 10)
  | [], _, _ => ⟨0, [], rfl, fun x hx => by simp at hx⟩
  | x :: L, h, hW => by
    obtain ⟨k, L', e, h'⟩ := L_spl L (fun y hy => h y (by simp [hy])) hW.1
    have hx := h x (by simp)
    by_cases c : x = 11
    · exact ⟨k + 1, L', by rw [c, e]; simp [List.replicate_succ], h'⟩
    · have hx2 : x = 9 ∨ x = 10 := by unfold inL at hx; omega
      cases k with
      | zero =>
        refine ⟨0, x :: L', by rw [e]; rfl, fun y hy => ?_⟩
        rcases List.mem_cons.mp hy with q | q
        · rw [q]; exact hx2
        · exact h' y q
      | succ k =>
        exfalso
        have h2 := hW.2
        rw [e] at h2
        have hb : hbN (List.replicate (k + 1) 11 ++ L') = 3 := by simp [List.replicate_succ, hbN, bdN]
        rw [hb] at h2
        rcases hx2 with rfl | rfl
        · rcases h2 with q | q
          · cases q
          · exact absurd q (by decide)
        · rcases h2 with q | q
          · cases q
          · exact absurd q (by decide)
theorem wtL_11 (k : Nat) (L : List Nat) : wtL (List.replicate k 11 ++ L) = wtL L := by
  induction k with
  | zero => rfl
  | succ k ih => simp [List.replicate_succ, wtL, ih]
theorem wp_L {t : Nat} (ht : t = 9 ∨ t = 10) : ∀ L : List Nat, (∀ x ∈ L, x = 9 ∨ x = 10) →
    (wtL L).takeWhile (wpP (rkO (lgO t)) 1) = (ppN (bdN t) L).map (fun x => (lgO x, 1)) ∧ (wtL L).dropWhile (wpP (rkO (lgO t)) 1) = wtL (rsN (bdN t) L)
  | [], _ => ⟨rfl, rfl⟩
  | x :: L, h => by
    have hx := h x (by simp)
    have ih := wp_L ht L (fun y hy => h y (by simp [hy]))
    have e : wtL (x :: L) = (lgO x, 1) :: wtL L := by rw [wtL, if_neg (by omega)]
    have hp : wpP (rkO (lgO t)) 1 (lgO x, 1) = decide (bdN t ≤ bdN x) := by
      rcases ht with rfl | rfl <;> rcases hx with rfl | rfl <;> decide
    rw [e, List.takeWhile_cons, List.dropWhile_cons, hp]
    unfold ppN rsN
    rw [List.takeWhile_cons, List.dropWhile_cons]
    by_cases c : bdN t ≤ bdN x
    · simp only [c, decide_true, if_true, List.map_cons]
      exact ⟨by rw [ih.1]; rfl, ih.2⟩
    · simp [c, e]
