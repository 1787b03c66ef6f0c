theorem mul_bd {x y : Int} (h1 : -1000000 ≤ x) (h2 : x ≤ 1000000) (h3 : -1000000 ≤ y) (h4 : y ≤ 1000000) : -1000000000000 ≤ x * y ∧ x * y ≤ 1000000000000 := by
  have h : (x * y).natAbs ≤ 1000000 * 1000000 := by
    rw [Int.natAbs_mul]; exact Nat.mul_le_mul (by omega) (by omega)
  omega
theorem l_m : (1000000 : Int64).toInt = 1000000 := rfl
theorem l_n : (-1000000 : Int64).toInt = -1000000 := rfl
theorem l_0 : (0 : Int64).toInt = 0 := rfl
theorem l_1 : (1 : Int64).toInt = 1 := rfl
theorem bdL_c6 (v : Int64) : (bdL v).toInt = c6 v.toInt := by
  unfold bdL c6
  simp only [tl_le, l_m, l_n]
  split
  · split <;> rfl
  · rfl
theorem i_35 : (35 : Int32).toInt = 35 := rfl
theorem i_42 : (42 : Int32).toInt = 42 := rfl
theorem i_43 : (43 : Int32).toInt = 43 := rfl
theorem i_45 : (45 : Int32).toInt = 45 := rfl
theorem i_47 : (47 : Int32).toInt = 47 := rfl
theorem i_60 : (60 : Int32).toInt = 60 := rfl
theorem i_61 : (61 : Int32).toInt = 61 := rfl
theorem i_62 : (62 : Int32).toInt = 62 := rfl
theorem i_300 : (300 : Int32).toInt = 300 := rfl
theorem i_301 : (301 : Int32).toInt = 301 := rfl
theorem i_406 : (406 : Int32).toInt = 406 := rfl
theorem wkL_wk {o : Int32} {x y : Int64} (h1 : -1000000 ≤ x.toInt) (h2 : x.toInt ≤ 1000000) (h3 : -1000000 ≤ y.toInt) (h4 : y.toInt ≤ 1000000) : (wkL o x y).toInt = wk o.toInt x.toInt y.toInt := by
  have hm := mul_bd h1 h2 h3 h4
  have ea : (x + y).toInt = x.toInt + y.toInt := tl_add (by omega) (by omega)
  have es : (x - y).toInt = x.toInt - y.toInt := tl_sub (by omega) (by omega)
  have em : (x * y).toInt = x.toInt * y.toInt := tl_mul (by omega) (by omega)
  have ed : (x / y).toInt = x.toInt.tdiv y.toInt := Int64.toInt_div_of_ne_left x y (fun e => by rw [e] at h1; exact absurd h1 (by decide))
  unfold wkL wk
  simp only [ti_eq, tl_le, tl_lt, tl_eq, i_35, i_42, i_43, i_45, i_47, i_60, i_61, i_62, i_300, i_301, i_406, ea, l_0]
  by_cases c1 : o.toInt = 35
  · simp only [c1]; simp; split <;> simp
  by_cases c2 : o.toInt = 42
  · simp [c2, bdL_c6, em]
  by_cases c3 : o.toInt = 43
  · simp [c3, bdL_c6, ea]
  by_cases c4 : o.toInt = 45
  · simp [c4, bdL_c6, es]
  by_cases c5 : o.toInt = 47
  · by_cases c : y.toInt = 0
    · simp [c5, c]
    · simp [c5, c, ed]
  by_cases c6 : o.toInt = 60
  · simp only [c6]; simp; split <;> simp
  by_cases c7 : o.toInt = 61
  · simp only [c7]; simp; split <;> simp
  by_cases c8 : o.toInt = 62
  · simp only [c8]; simp; split <;> simp
  by_cases c9 : o.toInt = 300
  · simp only [c9]; simp; split <;> simp
  by_cases c10 : o.toInt = 301
  · simp only [c10]; simp; split <;> simp
  by_cases c11 : o.toInt = 406
  · simp [c11, em]
  simp only [c1, c2, c3, c4, c5, c6, c7, c8, c9, c10, c11, if_false]
  split <;> rfl
theorem toI64 (a : Int32) : a.toInt64.toInt = a.toInt := Int32.toInt_toInt64 a
theorem toI32 {v : Int64} (h1 : -2147483648 ≤ v.toInt) (h2 : v.toInt < 2147483648) : v.toInt32.toInt = v.toInt := by
  rw [Int64.toInt_toInt32]; exact bm_id h1 h2
theorem clI_c6 (v : Int64) : (clI v).toInt = c6 v.toInt := by
  unfold clI c6
  simp only [tl_le, l_m, l_n]
  split
  · split
    · rename_i h1 h2
      exact toI32 (by omega) (by omega)
    · rfl
  · rfl
def isTk (t : Int) : Prop := t = 9 ∨ t = 10 ∨ t = 24 ∨ t = 25 ∨ t = 26 ∨ t = 27 ∨ t = 28 ∨ t = 29 ∨ t = 30 ∨ t = 31 ∨ t = 35 ∨ t = 36
theorem cmbI_wk {t a b : Int32} (ht : isTk t.toInt) (h1 : -1000000 ≤ a.toInt) (h2 : a.toInt ≤ 1000000) (h3 : -1000000 ≤ b.toInt) (h4 : b.toInt ≤ 1000000) (hl : t.toInt = 9 ∨ t.toInt = 10 → (a.toInt = 0 ∨ a.toInt = 1) ∧ (b.toInt = 0 ∨ b.toInt = 1)) : (cmbI t a b).toInt = wk (tkO t.toInt) a.toInt b.toInt := by
  have hm := mul_bd h1 h2 h3 h4
  have ea : (a + b).toInt = a.toInt + b.toInt := ti_add (by omega) (by omega)
  have es : (a - b).toInt = a.toInt - b.toInt := ti_sub (by omega) (by omega)
  have em : (a.toInt64 * b.toInt64).toInt = a.toInt * b.toInt := by rw [tl_mul, toI64, toI64] <;> rw [toI64, toI64] <;> omega
  have ed : (a / b).toInt = a.toInt.tdiv b.toInt := Int32.toInt_div_of_ne_left a b (fun e => by rw [e] at h1; exact absurd h1 (by decide))
  have k : ∀ (x : Int32) (z : Int), x.toInt = z → ∀ y : Int32, y.toInt = z → x = y := fun x z hx y hy => ti_eq.mpr (hx.trans hy.symm)
  rcases ht with h | h | h | h | h | h | h | h | h | h | h | h
  · obtain ⟨ha, hb⟩ := hl (Or.inl h)
    rw [k t 9 h 9 rfl]
    rcases ha with ha | ha <;> rcases hb with hb | hb <;> (first | rw [k a 0 ha 0 rfl] | rw [k a 1 ha 1 rfl]) <;> (first | rw [k b 0 hb 0 rfl] | rw [k b 1 hb 1 rfl]) <;> decide
  · obtain ⟨ha, hb⟩ := hl (Or.inr h)
    rw [k t 10 h 10 rfl]
    rcases ha with ha | ha <;> rcases hb with hb | hb <;> (first | rw [k a 0 ha 0 rfl] | rw [k a 1 ha 1 rfl]) <;> (first | rw [k b 0 hb 0 rfl] | rw [k b 1 hb 1 rfl]) <;> decide
  · rw [k t 24 h 24 rfl]; simp [cmbI, wk, tkO, ti_le]; split <;> simp
  · rw [k t 25 h 25 rfl]; simp [cmbI, wk, tkO, ti_le]; split <;> simp
  · rw [k t 26 h 26 rfl]; simp [cmbI, wk, tkO, ti_eq]; split <;> simp
  · rw [k t 27 h 27 rfl]; simp [cmbI, wk, tkO, ti_eq]; split <;> simp
  · rw [k t 28 h 28 rfl]; simp [cmbI, wk, tkO, clI_c6, toI64, ea]
  · rw [k t 29 h 29 rfl]; simp [cmbI, wk, tkO, clI_c6, toI64, es]
  · rw [k t 30 h 30 rfl]; simp [cmbI, wk, tkO, clI_c6, em]
  · rw [k t 31 h 31 rfl]
    by_cases c : b = 0
    · simp [cmbI, wk, tkO, c]
    · have c' : ¬ b.toInt = 0 := fun q => c (ti_eq.mpr q)
      simp [cmbI, wk, tkO, c, c', ed]
  · rw [k t 35 h 35 rfl]; simp [cmbI, wk, tkO, ti_lt]; split <;> simp
  · rw [k t 36 h 36 rfl]; simp [cmbI, wk, tkO, ti_lt]; split <;> simp
