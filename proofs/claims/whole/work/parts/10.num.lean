/-! numbers -/
theorem cnt {P : Nat → Prop} : ∀ N, (∀ i, i < N → P (i + 1) → P i) → P N → P 0
  | 0, _, h => h
  | N + 1, hs, h => cnt N (fun i hi => hs i (Nat.lt_succ_of_lt hi)) (hs N (Nat.lt_succ_self N) h)
theorem ti_lt {x y : Int32} : x < y ↔ x.toInt < y.toInt := Int32.lt_iff_toInt_lt
theorem ti_le {x y : Int32} : x ≤ y ↔ x.toInt ≤ y.toInt := Int32.le_iff_toInt_le
theorem ti_eq {x y : Int32} : x = y ↔ x.toInt = y.toInt := Int32.toInt_inj.symm
theorem ti_rng (x : Int32) : -2147483648 ≤ x.toInt ∧ x.toInt < 2147483648 := ⟨x.le_toInt, x.toInt_lt⟩
theorem bm_id {z : Int} (h1 : -2147483648 ≤ z) (h2 : z < 2147483648) : z.bmod 4294967296 = z := by
  rw [Int.bmod_def]; omega
theorem ti_add {x y : Int32} (h1 : -2147483648 ≤ x.toInt + y.toInt) (h2 : x.toInt + y.toInt < 2147483648) : (x + y).toInt = x.toInt + y.toInt := by
  rw [Int32.toInt_add]; exact bm_id h1 h2
theorem ti_sub {x y : Int32} (h1 : -2147483648 ≤ x.toInt - y.toInt) (h2 : x.toInt - y.toInt < 2147483648) : (x - y).toInt = x.toInt - y.toInt := by
  rw [Int32.toInt_sub]; exact bm_id h1 h2
theorem ti_mul {x y : Int32} (h1 : -2147483648 ≤ x.toInt * y.toInt) (h2 : x.toInt * y.toInt < 2147483648) : (x * y).toInt = x.toInt * y.toInt := by
  rw [Int32.toInt_mul]; exact bm_id h1 h2
theorem ti_neg {x : Int32} (h1 : -2147483648 ≤ -x.toInt) (h2 : -x.toInt < 2147483648) : (-x).toInt = -x.toInt := by
  rw [Int32.toInt_neg]; exact bm_id h1 h2
theorem ti_div {x y : Int32} (h : ¬ y = -1) : (x / y).toInt = x.toInt.tdiv y.toInt := Int32.toInt_div_of_ne_right x y h
theorem tl_lt {x y : Int64} : x < y ↔ x.toInt < y.toInt := Int64.lt_iff_toInt_lt
theorem tl_le {x y : Int64} : x ≤ y ↔ x.toInt ≤ y.toInt := Int64.le_iff_toInt_le
theorem tl_eq {x y : Int64} : x = y ↔ x.toInt = y.toInt := Int64.toInt_inj.symm
theorem bl_id {z : Int} (h1 : -9223372036854775808 ≤ z) (h2 : z < 9223372036854775808) : z.bmod 18446744073709551616 = z := by
  rw [Int.bmod_def]; omega
theorem tl_add {x y : Int64} (h1 : -9223372036854775808 ≤ x.toInt + y.toInt) (h2 : x.toInt + y.toInt < 9223372036854775808) : (x + y).toInt = x.toInt + y.toInt := by
  rw [Int64.toInt_add]; exact bl_id h1 h2
theorem tl_sub {x y : Int64} (h1 : -9223372036854775808 ≤ x.toInt - y.toInt) (h2 : x.toInt - y.toInt < 9223372036854775808) : (x - y).toInt = x.toInt - y.toInt := by
  rw [Int64.toInt_sub]; exact bl_id h1 h2
theorem tl_mul {x y : Int64} (h1 : -9223372036854775808 ≤ x.toInt * y.toInt) (h2 : x.toInt * y.toInt < 9223372036854775808) : (x * y).toInt = x.toInt * y.toInt := by
  rw [Int64.toInt_mul]; exact bl_id h1 h2
theorem tl_neg {x : Int64} (h1 : -9223372036854775808 ≤ -x.toInt) (h2 : -x.toInt < 9223372036854775808) : (-x).toInt = -x.toInt := by
  rw [Int64.toInt_neg]; exact bl_id h1 h2
theorem tl_div {x y : Int64} (h : ¬ y = -1) : (x / y).toInt = x.toInt.tdiv y.toInt := Int64.toInt_div_of_ne_right x y h
theorem ci {x : Int32} (h : 0 ≤ x.toInt) : (x.toNatClampNeg : Int) = x.toInt := by
  show ((x.toInt.toNat : Nat) : Int) = x.toInt
  omega
theorem vi {x : Int32} {n : Nat} {k : Int32} (hk : k.toInt = n) : vp_in x n ↔ 0 ≤ x ∧ x < k := by
  rw [vp_in_iff, ti_le, ti_lt, hk]; rfl
theorem vi2 {x : Int32} : vp_in x 2 ↔ 0 ≤ x ∧ x < 2 := vi (by decide)
theorem vi3 {x : Int32} : vp_in x 3 ↔ 0 ≤ x ∧ x < 3 := vi (by decide)
theorem vi4 {x : Int32} : vp_in x 4 ↔ 0 ≤ x ∧ x < 4 := vi (by decide)
theorem vi6 {x : Int32} : vp_in x 6 ↔ 0 ≤ x ∧ x < 6 := vi (by decide)
theorem vi9 {x : Int32} : vp_in x 9 ↔ 0 ≤ x ∧ x < 9 := vi (by decide)
theorem vi12 {x : Int32} : vp_in x 12 ↔ 0 ≤ x ∧ x < 12 := vi (by decide)
theorem vi24 {x : Int32} : vp_in x 24 ↔ 0 ≤ x ∧ x < 24 := vi (by decide)
theorem vi30 {x : Int32} : vp_in x 30 ↔ 0 ≤ x ∧ x < 30 := vi (by decide)
theorem vi40 {x : Int32} : vp_in x 40 ↔ 0 ≤ x ∧ x < 40 := vi (by decide)
theorem vi41 {x : Int32} : vp_in x 41 ↔ 0 ≤ x ∧ x < 41 := vi (by decide)
theorem vi49 {x : Int32} : vp_in x 49 ↔ 0 ≤ x ∧ x < 49 := vi (by decide)
theorem vi64 {x : Int32} : vp_in x 64 ↔ 0 ≤ x ∧ x < 64 := vi (by decide)
theorem vi80 {x : Int32} : vp_in x 80 ↔ 0 ≤ x ∧ x < 80 := vi (by decide)
theorem vi90 {x : Int32} : vp_in x 90 ↔ 0 ≤ x ∧ x < 90 := vi (by decide)
theorem vi96 {x : Int32} : vp_in x 96 ↔ 0 ≤ x ∧ x < 96 := vi (by decide)
theorem vi200 {x : Int32} : vp_in x 200 ↔ 0 ≤ x ∧ x < 200 := vi (by decide)
theorem vi240 {x : Int32} : vp_in x 240 ↔ 0 ≤ x ∧ x < 240 := vi (by decide)
theorem vi300 {x : Int32} : vp_in x 300 ↔ 0 ≤ x ∧ x < 300 := vi (by decide)
theorem vi400 {x : Int32} : vp_in x 400 ↔ 0 ≤ x ∧ x < 400 := vi (by decide)
theorem vi1600 {x : Int32} : vp_in x 1600 ↔ 0 ≤ x ∧ x < 1600 := vi (by decide)
theorem vi11120 {x : Int32} : vp_in x 11120 ↔ 0 ≤ x ∧ x < 11120 := vi (by decide)
section GCALL
variable {G : gG} {μ : gm} {d pc : Nat} {ls : List (Option Value)} {st : List Value} {S : gS} {I : gI} {R : gR} {L : gL} {Q : gQ}
theorem go_callV0 {ν : gm} {n a ci idx dd : Nat} (as : List Value) (hd : decode μ.2.1 pc = .ok (.invokevirtual idx, 3)) (hY : g_YV ν n) (hl : Cond.methodLink μ.1.cls idx ν.1 ∈ g_t) (hs : S[a]? = some (0, ci)) (hc : ∃ r, g_cl[ci]? = some r ∧ r.1 = ν.1.cls) (hn : as.length = n) (hst : (st.map fun v => v.category).sum ≤ 8) (hdd : dd + 1 ≤ d) {st0 : List Value} (he : as.reverse ++ .ref a :: st = st0)
    (hM : Mt G ν dd 0 0 (.ref a :: as) S I R L (fun r S' I' R' L' => Go G μ d 0 0 (pc + 3) ls (r.toList ++ st) S' I' R' L' Q)) : Go G μ d 0 0 pc ls st0 S I R L Q := go_callV (rc := 0) (rs := 0) as hd hY hl hs hc hn hst hdd he hM
theorem go_callS0 {ν : gm} {n idx dd : Nat} (as : List Value) (hd : decode μ.2.1 pc = .ok (.invokestatic idx, 3)) (hY : g_YS ν n) (hl : Cond.methodLink μ.1.cls idx ν.1 ∈ g_t) (hn : as.length = n) (hst : (st.map fun v => v.category).sum ≤ 8) (hdd : dd + 1 ≤ d) {st0 : List Value} (he : as.reverse ++ st = st0)
    (hM : Mt G ν dd 0 0 as S I R L (fun r S' I' R' L' => Go G μ d 0 0 (pc + 3) ls (r.toList ++ st) S' I' R' L' Q)) : Go G μ d 0 0 pc ls st0 S I R L Q := go_callS (rc := 0) (rs := 0) as hd hY hl hn hst hdd he hM
end GCALL
