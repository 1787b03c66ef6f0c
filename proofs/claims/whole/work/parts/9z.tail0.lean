theorem flat_w {T : Cond} {args : Array Value} {s : State} (h : ∀ c ∈ flatC T, c.before args s = true) (i : Nat) {w : Cond} (e : (flatC T)[i]? = some w) : w.before args s = true := h w (List.mem_of_getElem? e)
/-- the ground stands at the law's entry -/
theorem g_make {s : State} {b L : Nat} {xs : Nat → Int32} (hts : ∀ w ∈ lw_tbl, w.before #[Value.ref b] s = true) (hX : va_X b L xs s s.heap) (hbl : b < s.heap.size) (hgv : (Jvm.Cond.and given_1 narrow_1).before #[Value.ref b] s = true) : ∃ G : gG, G.1 = s.heap ∧ G.2.2.2.1 0 = b ∧ G.2.2.2.2.1 = L ∧ g_K G s := by
  have fl := flat_of_before _ hgv
  have hg : ∀ w ∈ g_t, w.before #[Value.ref b] s = true := fun w hw => hts w (List.mem_filter.mp hw).1
  have hA : ∀ a : Nat, a < s.heap.size → ¬ (s.heap.size ≤ a) := fun a h => Nat.not_le.mpr h
  obtain ⟨c0, s0, k0⟩ := u_known (C := RX0) (T := TX0) (N := 4) (n := 4) hts inX0 (hg _ nw_X0)
  obtain ⟨c1, s1, k1⟩ := u_known (C := RX1) (T := TX1) (N := 15) (n := 15) hts inX1 (hg _ nw_X1)
  obtain ⟨c2, s2, k2⟩ := u_known (C := RX2) (T := TX2) (N := 8) (n := 8) hts inX2 (hg _ nw_X2)
  obtain ⟨c3, s3, k3⟩ := u_known (C := RX3) (T := TX3) (N := 15) (n := 15) hts inX3 (hg _ nw_X3)
  obtain ⟨c4, s4, k4⟩ := u_known (C := RX4) (T := TX4) (N := 6) (n := 6) hts inX4 (hg _ nw_X4)
  obtain ⟨c5, s5, k5⟩ := u_known (C := RX5) (T := TX5) (N := 12) (n := 12) hts inX5 (hg _ nw_X5)
  obtain ⟨c6, s6, k6⟩ := u_known (C := RX6) (T := TX6) (N := 10) (n := 10) hts inX6 (hg _ nw_X6)
  obtain ⟨c7, s7, k7⟩ := u_known (C := RX7) (T := TX7) (N := 48) (n := 48) hts inX7 (hg _ nw_X7)
  obtain ⟨a0, d0, e0, f0, g0, h0⟩ := Cond.arrayClass_spec (hg _ na_int)
  obtain ⟨a1, d1, e1, f1, g1, h1⟩ := Cond.arrayClass_spec (hg _ na_byte)
  obtain ⟨a2, d2, e2, f2, g2, h2⟩ := Cond.arrayClass_spec (hg _ na_long)
  have o3 : (Cond.arrayOver (.object "SpoonScales$Scene")).before #[Value.ref b] s = true := hts _ (List.mem_of_getElem? (i := 159) (by decide +kernel))
  have o4 : (Cond.arrayOver (.object "SpoonScales$Law")).before #[Value.ref b] s = true := hts _ (List.mem_of_getElem? (i := 227) (by decide +kernel))
  obtain ⟨e3, a3, d3, m3, -, g3, h3, f3⟩ := Cond.arrayOver_spec o3
  obtain ⟨e4, a4, d4, m4, -, g4, h4, f4⟩ := Cond.arrayOver_spec o4
  obtain ⟨t1, v1, T1⟩ := va_Tof (A := fun q => s.heap.size ≤ q) (tm := .static "SpoonScales" "NAMES_OF" "[I") (ty := .int) (N := 3) (f := fun j => .int (g_no.getD j 0)) (by decide) (flat_w fl 10 (by decide +kernel)) (va_eqt (flat_w fl 11 (by decide +kernel))) (fun j hj => va_eqt (flat_w fl (12 + j) ((by decide +kernel : ∀ j, j < 3 → (flatC (Jvm.Cond.and given_1 narrow_1))[12 + j]? = some (Cond.eq (.elem (.static "SpoonScales" "NAMES_OF" "[I") (.int (Int32.ofNat j))) (.int (g_no.getD j 0)))) j hj))) hA
  obtain ⟨t2, v2, T2⟩ := va_Tof (A := fun q => s.heap.size ≤ q) (tm := .static "SpoonScales" "CHOOSE" "[I") (ty := .int) (N := 49) (f := fun j => .int (g_ch.getD j 0)) (by decide) (flat_w fl 16 (by decide +kernel)) (va_eqt (flat_w fl 17 (by decide +kernel))) (fun j hj => va_eqt (flat_w fl (18 + j) ((by decide +kernel : ∀ j, j < 49 → (flatC (Jvm.Cond.and given_1 narrow_1))[18 + j]? = some (Cond.eq (.elem (.static "SpoonScales" "CHOOSE" "[I") (.int (Int32.ofNat j))) (.int (g_ch.getD j 0)))) j hj))) hA
  have Z1 := va_Zof (A := fun q => s.heap.size ≤ q) (hts (.laysStatic "SpoonScales" "NAMES_OF" "[I") (List.mem_of_getElem? (i := 718) (by decide +kernel))) (hg _ ni_X6) v1 hA
  have Z2 := va_Zof (A := fun q => s.heap.size ≤ q) (hts (.laysStatic "SpoonScales" "CHOOSE" "[I") (List.mem_of_getElem? (i := 926) (by decide +kernel))) (hg _ ni_X6) v2 hA
  have Z3 := va_Zof (A := fun q => s.heap.size ≤ q) (hts (.laysStatic "java/lang/String" "COMPACT_STRINGS" "Z") (List.mem_of_getElem? (i := 590) (by decide +kernel))) (hg _ ni_J0) (va_eqt (z := 1) (flat_w fl 4 (by decide +kernel))) hA
  have Z4 := va_Zqof (A := fun q => s.heap.size ≤ q) (hts (.laysStatic "jdk/internal/util/Preconditions" "SIOOBE_FORMATTER" "Ljava/util/function/BiFunction;") (List.mem_of_getElem? (i := 606) (by decide +kernel))) (hg _ ni_J3) (flat_w fl 5 (by decide +kernel)) hA
  obtain ⟨adK, adV, VS, VE⟩ := vk_Sof (A := fun q => s.heap.size ≤ q) (args := #[Value.ref b]) (s := s) (N := 2) (tm := fun i => .string "SpoonScales$Reader" (if i = 0 then 75 else 90)) (len := g_sn) (byt := g_sb) (by decide)
    (fun i hi => flat_w fl (if i = 0 then 83 else 216) ((by decide +kernel : ∀ i, i < 2 → (flatC (Jvm.Cond.and given_1 narrow_1))[if i = 0 then 83 else 216]? = some (Cond.exactly (.string "SpoonScales$Reader" (if i = 0 then 75 else 90)) "java/lang/String")) i hi))
    (fun i hi => flat_w fl (if i = 0 then 84 else 217) ((by decide +kernel : ∀ i, i < 2 → (flatC (Jvm.Cond.and given_1 narrow_1))[if i = 0 then 84 else 217]? = some (Cond.eq (.field (.string "SpoonScales$Reader" (if i = 0 then 75 else 90)) "java/lang/String" "coder" "B") (.int 0))) i hi))
    (fun i hi => flat_w fl (if i = 0 then 85 else 218) ((by decide +kernel : ∀ i, i < 2 → (flatC (Jvm.Cond.and given_1 narrow_1))[if i = 0 then 85 else 218]? = some (Cond.arrayOf (.field (.string "SpoonScales$Reader" (if i = 0 then 75 else 90)) "java/lang/String" "value" "[B") .byte)) i hi))
    (fun i hi => flat_w fl (if i = 0 then 86 else 219) ((by decide +kernel : ∀ i, i < 2 → (flatC (Jvm.Cond.and given_1 narrow_1))[if i = 0 then 86 else 219]? = some (Cond.eq (.length (.field (.string "SpoonScales$Reader" (if i = 0 then 75 else 90)) "java/lang/String" "value" "[B")) (.int (Int32.ofNat (g_sn.getD i 0))))) i hi))
    (fun i hi j hj => flat_w fl ((if i = 0 then 87 else 220) + j) ((by decide +kernel : ∀ i, i < 2 → ∀ j, j < g_sn.getD i 0 → (flatC (Jvm.Cond.and given_1 narrow_1))[(if i = 0 then 87 else 220) + j]? = some (Cond.eq (.elem (.field (.string "SpoonScales$Reader" (if i = 0 then 75 else 90)) "java/lang/String" "value" "[B") (.int (Int32.ofNat j))) (.int ((g_sb.getD i []).getD j 0)))) i hi j hj))
    (fun i j hi hj hij => by
      rcases (show (i = 0 ∧ j = 1) ∨ (i = 1 ∧ j = 0) by omega) with ⟨rfl, rfl⟩ | ⟨rfl, rfl⟩
      · exact Or.inl (flat_w fl 231 (by decide +kernel))
      · exact Or.inr (flat_w fl 231 (by decide +kernel))) hA
  have R1 : vk_R "SpoonScales$Reader" 75 g_s1 (adK 0) s := vk_R.of (A := #[Value.ref b]) (hts _ (List.mem_of_getElem? (i := 580) (by decide +kernel))) (VE 0 (by decide))
  have R2 : vk_R "SpoonScales$Reader" 90 g_s2 (adK 1) s := vk_R.of (A := #[Value.ref b]) (hts _ (List.mem_of_getElem? (i := 640) (by decide +kernel))) (VE 1 (by decide))
  have N1 : va_Nw (.fieldLinkNest "SpoonScales$Reader" 166 "SpoonScales" "NAMES_OF" "[I" "SpoonScales") s := va_Nw.of rfl (hts _ (List.mem_of_getElem? (i := 717) (by decide +kernel)))
  have aK : ∀ (t7 : Nat) (k : Nat) (q : vw_C), g_cl[k]? = some q → u_Kn s q.1 q.2.1 q.2.2 (if k = 0 then c0 else if k = 1 then c1 else if k = 2 then c2 else if k = 3 then c3 else if k = 4 then c4 else if k = 5 then c5 else if k = 6 then c6 else c7) (if k = 0 then s0 else if k = 1 then s1 else if k = 2 then s2 else if k = 3 then s3 else if k = 4 then s4 else if k = 5 then s5 else if k = 6 then s6 else s7) := by
    intro t7 k q hq
    match k, hq with
    | 0, hq => cases hq; exact k0
    | 1, hq => cases hq; exact k1
    | 2, hq => cases hq; exact k2
    | 3, hq => cases hq; exact k3
    | 4, hq => cases hq; exact k4
    | 5, hq => cases hq; exact k5
    | 6, hq => cases hq; exact k6
    | 7, hq => cases hq; exact k7
    | k + 8, hq => simp [g_cl] at hq
  have fin : ∀ t7 : Nat, (va_Z "jdk/internal/util/Preconditions" "SIOOBE_FORMATTER" "Ljava/util/function/BiFunction;" .null (fun q => s.heap.size ≤ q) s s.heap ∨ va_Z "jdk/internal/util/Preconditions" "SIOOBE_FORMATTER" "Ljava/util/function/BiFunction;" (.ref t7) (fun q => s.heap.size ≤ q) s s.heap) → ∃ G : gG, G.1 = s.heap ∧ G.2.2.2.1 0 = b ∧ G.2.2.2.2.1 = L ∧ g_K G s := by
    intro t7 hZ
    refine ⟨(s.heap, (fun k => if k = 0 then c0 else if k = 1 then c1 else if k = 2 then c2 else if k = 3 then c3 else if k = 4 then c4 else if k = 5 then c5 else if k = 6 then c6 else c7, fun k => if k = 0 then s0 else if k = 1 then s1 else if k = 2 then s2 else if k = 3 then s3 else if k = 4 then s4 else if k = 5 then s5 else if k = 6 then s6 else s7), (fun k => if k = 0 then a0 else if k = 1 then a1 else if k = 2 then a2 else if k = 3 then a3 else a4), (fun n => if n = 0 then b else if n = 1 then t1 else if n = 2 then t2 else if n = 3 then adK 0 else if n = 4 then adK 1 else if n = 5 then adV 0 else if n = 6 then adV 1 else t7), L, xs), rfl, rfl, rfl, ⟨aK t7, fun k q hq => ?_⟩, hX, hbl, Z1, T1, Z2, T2, R1, R2, ⟨fun i hi => ?_, fun i j hi hj hij => ?_⟩, Z3, N1, va_AO.of o3, va_AO.of o4, hZ⟩
    · match k, hq with
      | 0, hq => cases hq; exact ⟨fun n z => ⟨fun k h => (by cases h), d0, g0, e0, h0⟩, f0⟩
      | 1, hq => cases hq; exact ⟨fun n z => ⟨fun k h => (by cases h), d1, g1, e1, h1⟩, f1⟩
      | 2, hq => cases hq; exact ⟨fun n z => ⟨fun k h => (by cases h), d2, g2, e2, h2⟩, f2⟩
      | 3, hq => cases hq; exact ⟨fun n z => ⟨fun k h => (by cases h), d3, g3, e3, h3⟩, d3, e3, g3, h3, m3, f3⟩
      | 4, hq => cases hq; exact ⟨fun n z => ⟨fun k h => (by cases h), d4, g4, e4, h4⟩, d4, e4, g4, h4, m4, f4⟩
      | k + 5, hq => simp [g_tys] at hq
    · rcases (show i = 0 ∨ i = 1 by omega) with rfl | rfl
      · exact VS.1 0 (by decide)
      · exact VS.1 1 (by decide)
    · rcases (show i = 0 ∨ i = 1 by omega) with rfl | rfl <;> rcases (show j = 0 ∨ j = 1 by omega) with rfl | rfl
      · rfl
      · exact VS.2 0 1 (by decide) (by decide) hij
      · exact VS.2 1 0 (by decide) (by decide) hij
      · rfl
  rcases Z4 with z | ⟨t7, z⟩
  · exact fin 0 (Or.inl z)
  · exact fin t7 (Or.inr z)
