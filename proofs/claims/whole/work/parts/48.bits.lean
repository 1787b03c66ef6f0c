/-! bits and numbers -/
theorem nx_and (a b : Nat) : nI a &&& nI b = nI (a &&& b) := by
  apply Int32.toBitVec_inj.1
  show BitVec.ofNat 32 a &&& BitVec.ofNat 32 b = BitVec.ofNat 32 (a &&& b)
  apply BitVec.eq_of_getLsbD_eq
  intro i hi
  simp [hi]
theorem nx_or (a b : Nat) : nI a ||| nI b = nI (a ||| b) := by
  apply Int32.toBitVec_inj.1
  show BitVec.ofNat 32 a ||| BitVec.ofNat 32 b = BitVec.ofNat 32 (a ||| b)
  apply BitVec.eq_of_getLsbD_eq
  intro i hi
  simp [hi]
theorem s_l : ∀ n, n < 32 → ((nI n &&& 31).toBitVec.smod 32).toNat = n := by decide +kernel
theorem nI_shr {k e : Nat} (hk : k < 2 ^ 31) (he : e < 32) : nI k >>> (nI e &&& 31) = nI (k / 2 ^ e) := by
  apply Int32.toBitVec_inj.1
  rw [Int32.toBitVec_shiftRight]
  show ((nI k).toBitVec.sshiftRight ((nI e &&& 31).toBitVec.smod 32).toNat) = BitVec.ofNat 32 (k / 2 ^ e)
  rw [s_l e he]
  have hm : (nI k).toBitVec.msb = false := by
    rw [BitVec.msb_eq_false_iff_two_mul_lt]
    show 2 * (BitVec.ofNat 32 k).toNat < 2 ^ 32
    rw [BitVec.toNat_ofNat, Nat.mod_eq_of_lt (by omega)]
    omega
  rw [BitVec.sshiftRight_eq_of_msb_false hm]
  apply BitVec.eq_of_toNat_eq
  rw [BitVec.toNat_ushiftRight]
  show (BitVec.ofNat 32 k).toNat >>> e = _
  have h2 : k / 2 ^ e ≤ k := Nat.div_le_self _ _
  rw [BitVec.toNat_ofNat, BitVec.toNat_ofNat, Nat.mod_eq_of_lt (by omega), Nat.mod_eq_of_lt (by omega), Nat.shiftRight_eq_div_pow]
theorem nI_shl1 : ∀ e, e < 31 → (1 : Int32) <<< (nI e &&& 31) = nI (2 ^ e) := by decide +kernel
theorem nI_mul (a b : Nat) : nI a * nI b = nI (a * b) := (Int32.ofNat_mul a b).symm
theorem nI_sub {a b : Nat} (h : b ≤ a) (ha : a < 2 ^ 31) : nI a - nI b = nI (a - b) := by
  rw [ti_eq, ti_sub] <;> rw [nI_toInt ha, nI_toInt (by omega)]
  · rw [nI_toInt (by omega)]; omega
  · omega
  · omega
theorem nI_div {a b : Nat} (ha : a < 2 ^ 31) (hb : b < 2 ^ 31) : nI a / nI b = nI (a / b) := by
  have h2 : a / b ≤ a := Nat.div_le_self _ _
  rw [ti_eq, ti_div (fun q => by have := congrArg Int32.toInt q; rw [nI_toInt hb] at this; exact absurd this (by show ¬ ((b : Int) = -1); omega)), nI_toInt ha, nI_toInt hb, nI_toInt (by omega)]
  rfl
theorem nI_mod {a b : Nat} (ha : a < 2 ^ 31) (hb : b < 2 ^ 31) : nI a - nI a / nI b * nI b = nI (a % b) := by
  have h := Nat.div_add_mod a b
  have h3 : b * (a / b) = a / b * b := Nat.mul_comm _ _
  rw [nI_div ha hb, nI_mul, nI_sub (by omega) ha]
  congr 1
  omega
theorem nI_and3 (m : Nat) : nI m &&& 3 = nI (m % 4) := by
  have := Nat.and_two_pow_sub_one_eq_mod m 2
  rw [show (3 : Int32) = nI 3 from rfl, nx_and]
  congr 1
theorem nI_and1 (m : Nat) : nI m &&& 1 = nI (m % 2) := by
  have := Nat.and_two_pow_sub_one_eq_mod m 1
  rw [show (1 : Int32) = nI 1 from rfl, nx_and]
  congr 1
/-- whether a bit is set -/
theorem nI_tb {k e : Nat} (hk : k < 2 ^ 31) (he : e < 32) : (nI k >>> (nI e &&& 31)) &&& 1 = nI (k / 2 ^ e % 2) := by rw [nI_shr hk he, nI_and1]
