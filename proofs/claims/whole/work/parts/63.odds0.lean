/-! flies, counted two ways -/
def sumR (g : Nat → Nat) : Nat → Nat
  | 0 => 0
  | m + 1 => sumR g m + g m
theorem sumR_add (g : Nat → Nat) (a : Nat) : ∀ b, sumR g (a + b) = sumR g a + sumR (fun i => g (a + i)) b
  | 0 => rfl
  | b + 1 => by
    show sumR g (a + b) + g (a + b) = _
    rw [sumR_add g a b]
    show _ = sumR g a + (sumR (fun i => g (a + i)) b + g (a + b))
    omega
theorem sumR_congr {g h : Nat → Nat} : ∀ n, (∀ i, i < n → g i = h i) → sumR g n = sumR h n
  | 0, _ => rfl
  | n + 1, k => by
    show sumR g n + g n = sumR h n + h n
    rw [sumR_congr n (fun i hi => k i (by omega)), k n (by omega)]
def bn (b : Bool) : Nat := if b = true then 1 else 0
/-- how often a digit stands among the first n -/
def cnD (w p : Nat) : Nat → Nat
  | 0 => 0
  | k + 1 => cnD w p k + (if w / 4 ^ k % 4 = p then 1 else 0)
theorem dig {q n w k : Nat} (hk : k < n) : (q * 4 ^ n + w) / 4 ^ k % 4 = w / 4 ^ k % 4 := by
  have e : 4 ^ n = 4 ^ k * (4 * 4 ^ (n - k - 1)) := by
    rw [← Nat.mul_assoc, ← Nat.pow_succ, ← Nat.pow_add]; congr 1; omega
  have e2 : q * 4 ^ n = 4 ^ k * (4 * (q * 4 ^ (n - k - 1))) := by
    rw [e, Nat.mul_left_comm, ← Nat.mul_assoc q 4, Nat.mul_comm q 4, Nat.mul_assoc 4]
  rw [e2, Nat.mul_add_div (Nat.pow_pos (by decide)), Nat.mul_add_mod]
theorem dig_top {q n w : Nat} (hq : q < 4) (hw : w < 4 ^ n) : (q * 4 ^ n + w) / 4 ^ n % 4 = q := by
  rw [Nat.mul_comm, Nat.mul_add_div (Nat.pow_pos (by decide)), Nat.div_eq_of_lt hw, Nat.add_zero, Nat.mod_eq_of_lt hq]
theorem cnD_lo {q n w p : Nat} : ∀ k, k ≤ n → cnD (q * 4 ^ n + w) p k = cnD w p k
  | 0, _ => rfl
  | k + 1, hk => by
    simp only [cnD]
    rw [cnD_lo k (by omega), dig (by omega)]
theorem cnD_le (w p : Nat) : ∀ k, cnD w p k ≤ k
  | 0 => Nat.le_refl _
  | k + 1 => by have := cnD_le w p k; simp only [cnD]; split <;> omega
def Sg (F : Nat → Nat → Nat → Nat → Bool) (n : Nat) : Nat := sumR (fun w => bn (F (cnD w 0 n) (cnD w 1 n) (cnD w 2 n) (cnD w 3 n))) (4 ^ n)
theorem Sg_s (F : Nat → Nat → Nat → Nat → Bool) (n : Nat) : Sg F (n + 1) = Sg (fun a b c d => F (a + 1) b c d) n + Sg (fun a b c d => F a (b + 1) c d) n + Sg (fun a b c d => F a b (c + 1) d) n + Sg (fun a b c d => F a b c (d + 1)) n := by
  unfold Sg
  generalize hg : (fun w => bn (F (cnD w 0 (n + 1)) (cnD w 1 (n + 1)) (cnD w 2 (n + 1)) (cnD w 3 (n + 1)))) = g
  have e4 : 4 ^ (n + 1) = 4 ^ n + (4 ^ n + (4 ^ n + 4 ^ n)) := by rw [Nat.pow_succ]; omega
  rw [e4, sumR_add, sumR_add, sumR_add]
  have key : ∀ q w, q < 4 → w < 4 ^ n → g (q * 4 ^ n + w) = bn (F (cnD w 0 n + (if q = 0 then 1 else 0)) (cnD w 1 n + (if q = 1 then 1 else 0)) (cnD w 2 n + (if q = 2 then 1 else 0)) (cnD w 3 n + (if q = 3 then 1 else 0))) := fun q w hq hw => by
    rw [← hg]
    simp only [cnD]
    rw [cnD_lo n (Nat.le_refl n), cnD_lo n (Nat.le_refl n), cnD_lo n (Nat.le_refl n), cnD_lo n (Nat.le_refl n), dig_top hq hw]
  have k0 : sumR g (4 ^ n) = sumR (fun w => bn (F (cnD w 0 n + 1) (cnD w 1 n) (cnD w 2 n) (cnD w 3 n))) (4 ^ n) := sumR_congr _ (fun w hw => by have := key 0 w (by decide) hw; rw [Nat.zero_mul, Nat.zero_add] at this; exact this)
  have k1 : sumR (fun i => g (4 ^ n + i)) (4 ^ n) = sumR (fun w => bn (F (cnD w 0 n) (cnD w 1 n + 1) (cnD w 2 n) (cnD w 3 n))) (4 ^ n) := sumR_congr _ (fun w hw => by have := key 1 w (by decide) hw; rw [Nat.one_mul] at this; exact this)
  have k2 : sumR (fun i => g (4 ^ n + (4 ^ n + i))) (4 ^ n) = sumR (fun w => bn (F (cnD w 0 n) (cnD w 1 n) (cnD w 2 n + 1) (cnD w 3 n))) (4 ^ n) := sumR_congr _ (fun w hw => by have := key 2 w (by decide) hw; rw [show 2 * 4 ^ n + w = 4 ^ n + (4 ^ n + w) by omega] at this; exact this)
  have k3 : sumR (fun i => g (4 ^ n + (4 ^ n + (4 ^ n + i)))) (4 ^ n) = sumR (fun w => bn (F (cnD w 0 n) (cnD w 1 n) (cnD w 2 n) (cnD w 3 n + 1))) (4 ^ n) := sumR_congr _ (fun w hw => by have := key 3 w (by decide) hw; rw [show 3 * 4 ^ n + w = 4 ^ n + (4 ^ n + (4 ^ n + w)) by omega] at this; exact this)
  rw [k0, k1, k2, k3]
  simp only [Nat.add_assoc]
def chN : Nat → Nat → Nat
  | _, 0 => 1
  | 0, _ + 1 => 0
  | n + 1, k + 1 => chN n k + chN n (k + 1)
def Tc (F : Nat → Nat → Nat → Nat → Bool) (n a b c : Nat) : Nat := chN n a * chN (n - a) b * chN (n - a - b) c * bn (F a b c (n - a - b - c))
def Tb (F : Nat → Nat → Nat → Nat → Bool) (n a b : Nat) : Nat := sumR (Tc F n a b) (n - a - b + 1)
def Ta (F : Nat → Nat → Nat → Nat → Bool) (n a : Nat) : Nat := sumR (Tb F n a) (n - a + 1)
def Tg (F : Nat → Nat → Nat → Nat → Bool) (n : Nat) : Nat := sumR (Ta F n) (n + 1)
theorem Tg_0 (F : Nat → Nat → Nat → Nat → Bool) : Tg F 0 = Sg F 0 := by
  simp [Tg, Ta, Tb, Tc, Sg, sumR, chN, cnD]
theorem Tg_1 (F : Nat → Nat → Nat → Nat → Bool) : Tg F 1 = Tg (fun a b c d => F (a + 1) b c d) 0 + Tg (fun a b c d => F a (b + 1) c d) 0 + Tg (fun a b c d => F a b (c + 1) d) 0 + Tg (fun a b c d => F a b c (d + 1)) 0 := by
  simp [Tg, Ta, Tb, Tc, sumR, chN]; omega
theorem Tg_2 (F : Nat → Nat → Nat → Nat → Bool) : Tg F 2 = Tg (fun a b c d => F (a + 1) b c d) 1 + Tg (fun a b c d => F a (b + 1) c d) 1 + Tg (fun a b c d => F a b (c + 1) d) 1 + Tg (fun a b c d => F a b c (d + 1)) 1 := by
  simp [Tg, Ta, Tb, Tc, sumR, chN]; omega
theorem Tg_3 (F : Nat → Nat → Nat → Nat → Bool) : Tg F 3 = Tg (fun a b c d => F (a + 1) b c d) 2 + Tg (fun a b c d => F a (b + 1) c d) 2 + Tg (fun a b c d => F a b (c + 1) d) 2 + Tg (fun a b c d => F a b c (d + 1)) 2 := by
  simp [Tg, Ta, Tb, Tc, sumR, chN]; omega
theorem Tg_4 (F : Nat → Nat → Nat → Nat → Bool) : Tg F 4 = Tg (fun a b c d => F (a + 1) b c d) 3 + Tg (fun a b c d => F a (b + 1) c d) 3 + Tg (fun a b c d => F a b (c + 1) d) 3 + Tg (fun a b c d => F a b c (d + 1)) 3 := by
  simp [Tg, Ta, Tb, Tc, sumR, chN]; omega
theorem Tg_5 (F : Nat → Nat → Nat → Nat → Bool) : Tg F 5 = Tg (fun a b c d => F (a + 1) b c d) 4 + Tg (fun a b c d => F a (b + 1) c d) 4 + Tg (fun a b c d => F a b (c + 1) d) 4 + Tg (fun a b c d => F a b c (d + 1)) 4 := by
  simp [Tg, Ta, Tb, Tc, sumR, chN]; omega
theorem Tg_6 (F : Nat → Nat → Nat → Nat → Bool) : Tg F 6 = Tg (fun a b c d => F (a + 1) b c d) 5 + Tg (fun a b c d => F a (b + 1) c d) 5 + Tg (fun a b c d => F a b (c + 1) d) 5 + Tg (fun a b c d => F a b c (d + 1)) 5 := by
  simp [Tg, Ta, Tb, Tc, sumR, chN]; omega
theorem Tg_S : ∀ n, n ≤ 6 → ∀ F, Tg F n = Sg F n
  | 0, _, F => Tg_0 F
  | 1, _, F => by rw [Tg_1, Sg_s, Tg_S 0 (by decide), Tg_S 0 (by decide), Tg_S 0 (by decide), Tg_S 0 (by decide)]
  | 2, _, F => by rw [Tg_2, Sg_s, Tg_S 1 (by decide), Tg_S 1 (by decide), Tg_S 1 (by decide), Tg_S 1 (by decide)]
  | 3, _, F => by rw [Tg_3, Sg_s, Tg_S 2 (by decide), Tg_S 2 (by decide), Tg_S 2 (by decide), Tg_S 2 (by decide)]
  | 4, _, F => by rw [Tg_4, Sg_s, Tg_S 3 (by decide), Tg_S 3 (by decide), Tg_S 3 (by decide), Tg_S 3 (by decide)]
  | 5, _, F => by rw [Tg_5, Sg_s, Tg_S 4 (by decide), Tg_S 4 (by decide), Tg_S 4 (by decide), Tg_S 4 (by decide)]
  | 6, _, F => by rw [Tg_6, Sg_s, Tg_S 5 (by decide), Tg_S 5 (by decide), Tg_S 5 (by decide), Tg_S 5 (by decide)]
  | n + 7, h, _ => by omega
/-- halved as long as it goes -/
def hv : Nat → Nat → Nat → Nat × Nat
  | 0, w, a => (w, a)
  | m + 1, w, a => if w % 2 = 0 then hv m (w / 2) (a / 2) else (w, a)
theorem hv_gcd : ∀ m w, hv m w (2 ^ m) = (w / Nat.gcd (2 ^ m) w, 2 ^ m / Nat.gcd (2 ^ m) w)
  | 0, w => by simp [hv]
  | m + 1, w => by
    simp only [hv]
    by_cases c : w % 2 = 0
    · rw [if_pos c]
      have e : w = 2 * (w / 2) := by omega
      have e2 : 2 ^ (m + 1) / 2 = 2 ^ m := by rw [Nat.pow_succ]; omega
      have e3 : 2 ^ (m + 1) = 2 * 2 ^ m := by rw [Nat.pow_succ]; omega
      rw [e2, hv_gcd m (w / 2)]
      have g : Nat.gcd (2 ^ (m + 1)) w = 2 * Nat.gcd (2 ^ m) (w / 2) := by
        rw [e3]
        conv => lhs; rw [e]
        rw [Nat.gcd_mul_left]
      rw [g]
      have a1 : w / (2 * Nat.gcd (2 ^ m) (w / 2)) = w / 2 / Nat.gcd (2 ^ m) (w / 2) := (Nat.div_div_eq_div_mul _ _ _).symm
      have a2 : 2 ^ (m + 1) / (2 * Nat.gcd (2 ^ m) (w / 2)) = 2 ^ m / Nat.gcd (2 ^ m) (w / 2) := by rw [← Nat.div_div_eq_div_mul, e2]
      rw [a1, a2]
    · rw [if_neg c]
      have g : Nat.gcd (2 ^ (m + 1)) w = 1 := by
        have : Nat.Coprime 2 w := by
          show Nat.gcd 2 w = 1
          rw [Nat.gcd_rec, show w % 2 = 1 by omega]; decide
        exact Nat.Coprime.pow_left _ this
      rw [g, Nat.div_one, Nat.div_one]
