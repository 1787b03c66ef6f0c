/-! rows over the two text constants (3, 4) and their bytes (5, 6) -/
def g_tx5 (j : Nat) : Int32 := (g_sb.getD 0 []).getD j 0
def g_tx6 (j : Nat) : Int32 := (g_sb.getD 1 []).getD j 0
section JX
variable {G : gG} {μ : gm} {d pc : Nat} {ls : List (Option Value)} {st : List Value} {S : gS} {I : gI} {R : gR} {L : gL} {Q : gQ}
theorem g_txt {G : gG} {U : State} (h : g_X G U) : vk_S 2 g_sn g_sb (fun i => G.2.2.2.1 (i + 3)) (fun i => G.2.2.2.1 (i + 5)) (g_A G) U G.1 := h.2.2.2.2.2.2.2.2.1
theorem go_compact (hm : μ.1.cls = "java/lang/String") (hd : decode μ.2.1 pc = .ok (.getstatic 38, 3)) (kk : Go G μ d 0 0 (pc + 3) ls (.int 1 :: st) S I R L Q) : Go G μ d 0 0 pc ls st S I R L Q := by
  intro l p e RM s m args below meth c H locs cells slots mc ms lsA Z
  refine g_size Z.2.2.1.2.2 Z.2.2.2.1 Z.2.2.2.2.1 fun hz => ?_
  have hx := Z.1.2.2.2.2.2.2.2.2.1.2
  have hk := Z.1.2.2.2.2.2.2.2.2.2.2.1
  have hw : Cond.fieldLink μ.1.cls 38 "java/lang/String" "COMPACT_STRINGS" "Z" ∈ g_t := by rw [hm]; exact sJ0_38
  exact va_gets Z.1.1 Z.1.2.1 (hx.2.2.2.2.2.2.2.2.2.1.kept hk) (g_Sz Z hz) Z.1.2.2.2.2.2.1 (Z.1.2.2.2.2.2.2.1 _ hw) (fun _ h => h) hd (kk l p e RM s m args below meth c H locs cells slots mc ms lsA Z)
theorem go_fmt (hm : μ.1.cls = "java/lang/String") (hd : decode μ.2.1 pc = .ok (.getstatic 1053, 3)) (kk : ∀ v : Value, v = .null ∨ v = .float 7 → Go G μ d 0 0 (pc + 3) ls (v :: st) S I R L Q) : Go G μ d 0 0 pc ls st S I R L Q := by
  intro l p e RM s m args below meth c H locs cells slots mc ms lsA Z
  refine g_size Z.2.2.1.2.2 Z.2.2.2.1 Z.2.2.2.2.1 fun hz => ?_
  have hx := Z.1.2.2.2.2.2.2.2.2.1.2
  have hk := Z.1.2.2.2.2.2.2.2.2.2.2.1
  have hw : Cond.fieldLink μ.1.cls 1053 "jdk/internal/util/Preconditions" "SIOOBE_FORMATTER" "Ljava/util/function/BiFunction;" ∈ g_t := by rw [hm]; exact sJ0_1053
  rcases hx.2.2.2.2.2.2.2.2.2.2.2.2.2 with h | h
  · exact va_gets Z.1.1 Z.1.2.1 (h.kept hk) (g_Sz Z hz) Z.1.2.2.2.2.2.1 (Z.1.2.2.2.2.2.2.1 _ hw) (fun _ h => h) hd (kk .null (Or.inl rfl) l p e RM s m args below meth c H locs cells slots mc ms lsA Z)
  · exact va_gets Z.1.1 Z.1.2.1 (h.kept hk) (g_Sz Z hz) Z.1.2.2.2.2.2.1 (Z.1.2.2.2.2.2.2.1 _ hw) (fun _ h => h) hd (kk (.float 7) (Or.inr rfl) l p e RM s m args below meth c H locs cells slots mc ms lsA Z)
theorem go_ldcS75 (hm : μ.1.cls = "SpoonScales$Reader") (hd : decode μ.2.1 pc = .ok (.ldc 75, 2)) (kk : Go G μ d 0 0 (pc + 2) ls (.float 3 :: st) S I R L Q) : Go G μ d 0 0 pc ls st S I R L Q := by
  intro l p e RM s m args below meth c H locs cells slots mc ms lsA Z
  have hx := Z.1.2.2.2.2.2.2.2.2.1.2
  exact va_ldcS (own := "SpoonScales$Reader") Z.1.1 Z.1.2.1 (by have := Z.1.2.2.2.2.2.1; rw [hm] at this; exact this) hx.2.2.2.2.2.2.1 hd (kk l p e RM s m args below meth c H locs cells slots mc ms lsA Z)
theorem go_sval3 (hm : μ.1.cls = "java/lang/String") (hd : decode μ.2.1 pc = .ok (.getfield 9, 3)) (kk : Go G μ d 0 0 (pc + 3) ls (.float 5 :: st) S I R L Q) : Go G μ d 0 0 pc ls (.float 3 :: st) S I R L Q := by
  intro l p e RM s m args below meth c H locs cells slots mc ms lsA Z
  refine g_size Z.2.2.1.2.2 Z.2.2.2.1 Z.2.2.2.2.1 fun hz => ?_
  have hx := Z.1.2.2.2.2.2.2.2.2.1.2
  have hk := Z.1.2.2.2.2.2.2.2.2.2.2.1
  have hw : Cond.fieldLink μ.1.cls 9 "java/lang/String" "value" "[B" ∈ g_t := by rw [hm]; exact sJ0_9
  exact vk_getf Z.1.1 Z.1.2.1 (((g_txt hx).1 0 (by decide)).2.2.1.kept hk) (g_Sz Z hz) Z.1.2.2.2.2.2.1 (Z.1.2.2.2.2.2.2.1 _ hw) (fun _ h => h) hd (kk l p e RM s m args below meth c H locs cells slots mc ms lsA Z)
theorem go_scod3 (hm : μ.1.cls = "java/lang/String") (hd : decode μ.2.1 pc = .ok (.getfield 15, 3)) (kk : Go G μ d 0 0 (pc + 3) ls (.int 0 :: st) S I R L Q) : Go G μ d 0 0 pc ls (.float 3 :: st) S I R L Q := by
  intro l p e RM s m args below meth c H locs cells slots mc ms lsA Z
  refine g_size Z.2.2.1.2.2 Z.2.2.2.1 Z.2.2.2.2.1 fun hz => ?_
  have hx := Z.1.2.2.2.2.2.2.2.2.1.2
  have hk := Z.1.2.2.2.2.2.2.2.2.2.2.1
  have hw : Cond.fieldLink μ.1.cls 15 "java/lang/String" "coder" "B" ∈ g_t := by rw [hm]; exact sJ0_15
  exact vk_getf Z.1.1 Z.1.2.1 (((g_txt hx).1 0 (by decide)).2.1.kept hk) (g_Sz Z hz) Z.1.2.2.2.2.2.1 (Z.1.2.2.2.2.2.2.1 _ hw) (fun _ h => h) hd (kk l p e RM s m args below meth c H locs cells slots mc ms lsA Z)
theorem go_sbn5 (hd : decode μ.2.1 pc = .ok (.arraylength, 1)) (kk : Go G μ d 0 0 (pc + 1) ls (.int 129 :: st) S I R L Q) : Go G μ d 0 0 pc ls (.float 5 :: st) S I R L Q := by
  intro l p e RM s m args below meth c H locs cells slots mc ms lsA Z
  refine g_size Z.2.2.1.2.2 Z.2.2.2.1 Z.2.2.2.2.1 fun hz => ?_
  have hx := Z.1.2.2.2.2.2.2.2.2.1.2
  have hk := Z.1.2.2.2.2.2.2.2.2.2.2.1
  exact va_tlen (v := 129) Z.1.1 Z.1.2.1 (((g_txt hx).1 0 (by decide)).2.2.2.kept hk) (g_Sz Z hz) rfl hd (kk l p e RM s m args below meth c H locs cells slots mc ms lsA Z)
theorem go_sby5 {i : Int32} (hd : decode μ.2.1 pc = .ok (.baload, 1)) (hin : vp_in i 129) (kk : Go G μ d 0 0 (pc + 1) ls (.int (g_tx5 i.toNatClampNeg) :: st) S I R L Q) : Go G μ d 0 0 pc ls (.int i :: .float 5 :: st) S I R L Q := by
  intro l p e RM s m args below meth c H locs cells slots mc ms lsA Z
  refine g_size Z.2.2.1.2.2 Z.2.2.2.1 Z.2.2.2.2.1 fun hz => ?_
  have hx := Z.1.2.2.2.2.2.2.2.2.1.2
  have hk := Z.1.2.2.2.2.2.2.2.2.2.2.1
  exact va_tb Z.1.1 Z.1.2.1 (((g_txt hx).1 0 (by decide)).2.2.2.kept hk) (g_Sz Z hz) hin rfl hd (kk l p e RM s m args below meth c H locs cells slots mc ms lsA Z)
theorem go_callX3 {ν : gm} {n idx dd : Nat} (as : List Value) (hd : decode μ.2.1 pc = .ok (.invokevirtual idx, 3)) (hY : g_YV ν n) (hl : Cond.methodLink μ.1.cls idx ν.1 ∈ g_t) (hc : ν.1.cls = "java/lang/String") (hn : as.length = n) (hst : (st.map fun v => v.category).sum ≤ 8) (hdd : dd + 1 ≤ d) {st0 : List Value} (he : as.reverse ++ .float 3 :: st = st0)
    (hM : Mt G ν dd 0 0 (.float 3 :: as) S I R L (fun r S' I' R' L' => Go G μ d 0 0 (pc + 3) ls (r.toList ++ st) S' I' R' L' Q)) : Go G μ d 0 0 pc ls st0 S I R L Q := by
  subst he
  intro l p e RM s m args below meth c H locs cells slots mc ms lsA Z
  have hC := Z.1
  refine g_size Z.2.2.1.2.2 Z.2.2.2.1 Z.2.2.2.2.1 fun hz => ?_
  have hx := Z.1.2.2.2.2.2.2.2.2.1.2
  have hk := Z.1.2.2.2.2.2.2.2.2.2.2.1
  have hts := hC.2.2.2.2.2.2.1
  have hcm : (as.map (cv G)).reverse ++ (.ref (G.2.2.2.1 3) :: st.map (cv G)) = (as.reverse ++ .float 3 :: st).map (cv G) := by
    rw [List.map_append, List.map_reverse, List.map_cons]
    rfl
  rw [← hcm]
  have hrecv := vk_recv (i := 0) ((g_txt hx).kept hk) (by decide) (g_Sz Z hz)
  rw [← hc] at hrecv
  refine g_run (rc := 0) (rs := 0) Z hz (va_runV (nL := μ.2.2.1) (C := ν.1.cls) (b := G.2.2.2.1 3) (n := n) (rest := st.map (cv G)) ⟨hC.1, hC.2.1, hC.2.2.1, hC.2.2.2.2.2.1, hts⟩ (hM l) ⟨g_callB hC ⟨Z.2.1.1, Z.2.1.2.1⟩ hY.1 hl hdd, hts _ hY.2.1, hts _ hY.2.2⟩ ⟨g_blind, hrecv, fun U hU hW => ⟨rfl, by rw [hU]; exact hz, by rw [hU]; exact Z.2.2.2.1, by rw [hU]; exact ⟨Z.2.2.2.2.1.1, Z.2.2.2.2.1.2.1, fun _ h => by cases h⟩, g_K.warm hW hC.2.2.2.2.2.2.2.2.1⟩⟩ rfl (by simpa using hn) Z.2.2.2.2.2.1 rfl (lv_room (by rw [cv_cats]; exact hst)) hd ⟨by have := Z.2.2.1.1; have := Z.2.1.2.2.1; omega, by have := Z.2.2.1.2.1; have := Z.2.1.2.2.2; omega⟩)
theorem go_ldcS90 (hm : μ.1.cls = "SpoonScales$Reader") (hd : decode μ.2.1 pc = .ok (.ldc 90, 2)) (kk : Go G μ d 0 0 (pc + 2) ls (.float 4 :: st) S I R L Q) : Go G μ d 0 0 pc ls st S I R L Q := by
  intro l p e RM s m args below meth c H locs cells slots mc ms lsA Z
  have hx := Z.1.2.2.2.2.2.2.2.2.1.2
  exact va_ldcS (own := "SpoonScales$Reader") Z.1.1 Z.1.2.1 (by have := Z.1.2.2.2.2.2.1; rw [hm] at this; exact this) hx.2.2.2.2.2.2.2.1 hd (kk l p e RM s m args below meth c H locs cells slots mc ms lsA Z)
theorem go_sval4 (hm : μ.1.cls = "java/lang/String") (hd : decode μ.2.1 pc = .ok (.getfield 9, 3)) (kk : Go G μ d 0 0 (pc + 3) ls (.float 6 :: st) S I R L Q) : Go G μ d 0 0 pc ls (.float 4 :: st) S I R L Q := by
  intro l p e RM s m args below meth c H locs cells slots mc ms lsA Z
  refine g_size Z.2.2.1.2.2 Z.2.2.2.1 Z.2.2.2.2.1 fun hz => ?_
  have hx := Z.1.2.2.2.2.2.2.2.2.1.2
  have hk := Z.1.2.2.2.2.2.2.2.2.2.2.1
  have hw : Cond.fieldLink μ.1.cls 9 "java/lang/String" "value" "[B" ∈ g_t := by rw [hm]; exact sJ0_9
  exact vk_getf Z.1.1 Z.1.2.1 (((g_txt hx).1 1 (by decide)).2.2.1.kept hk) (g_Sz Z hz) Z.1.2.2.2.2.2.1 (Z.1.2.2.2.2.2.2.1 _ hw) (fun _ h => h) hd (kk l p e RM s m args below meth c H locs cells slots mc ms lsA Z)
theorem go_scod4 (hm : μ.1.cls = "java/lang/String") (hd : decode μ.2.1 pc = .ok (.getfield 15, 3)) (kk : Go G μ d 0 0 (pc + 3) ls (.int 0 :: st) S I R L Q) : Go G μ d 0 0 pc ls (.float 4 :: st) S I R L Q := by
  intro l p e RM s m args below meth c H locs cells slots mc ms lsA Z
  refine g_size Z.2.2.1.2.2 Z.2.2.2.1 Z.2.2.2.2.1 fun hz => ?_
  have hx := Z.1.2.2.2.2.2.2.2.2.1.2
  have hk := Z.1.2.2.2.2.2.2.2.2.2.2.1
  have hw : Cond.fieldLink μ.1.cls 15 "java/lang/String" "coder" "B" ∈ g_t := by rw [hm]; exact sJ0_15
  exact vk_getf Z.1.1 Z.1.2.1 (((g_txt hx).1 1 (by decide)).2.1.kept hk) (g_Sz Z hz) Z.1.2.2.2.2.2.1 (Z.1.2.2.2.2.2.2.1 _ hw) (fun _ h => h) hd (kk l p e RM s m args below meth c H locs cells slots mc ms lsA Z)
theorem go_sbn6 (hd : decode μ.2.1 pc = .ok (.arraylength, 1)) (kk : Go G μ d 0 0 (pc + 1) ls (.int 11 :: st) S I R L Q) : Go G μ d 0 0 pc ls (.float 6 :: st) S I R L Q := by
  intro l p e RM s m args below meth c H locs cells slots mc ms lsA Z
  refine g_size Z.2.2.1.2.2 Z.2.2.2.1 Z.2.2.2.2.1 fun hz => ?_
  have hx := Z.1.2.2.2.2.2.2.2.2.1.2
  have hk := Z.1.2.2.2.2.2.2.2.2.2.2.1
  exact va_tlen (v := 11) Z.1.1 Z.1.2.1 (((g_txt hx).1 1 (by decide)).2.2.2.kept hk) (g_Sz Z hz) rfl hd (kk l p e RM s m args below meth c H locs cells slots mc ms lsA Z)
theorem go_sby6 {i : Int32} (hd : decode μ.2.1 pc = .ok (.baload, 1)) (hin : vp_in i 11) (kk : Go G μ d 0 0 (pc + 1) ls (.int (g_tx6 i.toNatClampNeg) :: st) S I R L Q) : Go G μ d 0 0 pc ls (.int i :: .float 6 :: st) S I R L Q := by
  intro l p e RM s m args below meth c H locs cells slots mc ms lsA Z
  refine g_size Z.2.2.1.2.2 Z.2.2.2.1 Z.2.2.2.2.1 fun hz => ?_
  have hx := Z.1.2.2.2.2.2.2.2.2.1.2
  have hk := Z.1.2.2.2.2.2.2.2.2.2.2.1
  exact va_tb Z.1.1 Z.1.2.1 (((g_txt hx).1 1 (by decide)).2.2.2.kept hk) (g_Sz Z hz) hin rfl hd (kk l p e RM s m args below meth c H locs cells slots mc ms lsA Z)
theorem go_callX4 {ν : gm} {n idx dd : Nat} (as : List Value) (hd : decode μ.2.1 pc = .ok (.invokevirtual idx, 3)) (hY : g_YV ν n) (hl : Cond.methodLink μ.1.cls idx ν.1 ∈ g_t) (hc : ν.1.cls = "java/lang/String") (hn : as.length = n) (hst : (st.map fun v => v.category).sum ≤ 8) (hdd : dd + 1 ≤ d) {st0 : List Value} (he : as.reverse ++ .float 4 :: st = st0)
    (hM : Mt G ν dd 0 0 (.float 4 :: as) S I R L (fun r S' I' R' L' => Go G μ d 0 0 (pc + 3) ls (r.toList ++ st) S' I' R' L' Q)) : Go G μ d 0 0 pc ls st0 S I R L Q := by
  subst he
  intro l p e RM s m args below meth c H locs cells slots mc ms lsA Z
  have hC := Z.1
  refine g_size Z.2.2.1.2.2 Z.2.2.2.1 Z.2.2.2.2.1 fun hz => ?_
  have hx := Z.1.2.2.2.2.2.2.2.2.1.2
  have hk := Z.1.2.2.2.2.2.2.2.2.2.2.1
  have hts := hC.2.2.2.2.2.2.1
  have hcm : (as.map (cv G)).reverse ++ (.ref (G.2.2.2.1 4) :: st.map (cv G)) = (as.reverse ++ .float 4 :: st).map (cv G) := by
    rw [List.map_append, List.map_reverse, List.map_cons]
    rfl
  rw [← hcm]
  have hrecv := vk_recv (i := 1) ((g_txt hx).kept hk) (by decide) (g_Sz Z hz)
  rw [← hc] at hrecv
  refine g_run (rc := 0) (rs := 0) Z hz (va_runV (nL := μ.2.2.1) (C := ν.1.cls) (b := G.2.2.2.1 4) (n := n) (rest := st.map (cv G)) ⟨hC.1, hC.2.1, hC.2.2.1, hC.2.2.2.2.2.1, hts⟩ (hM l) ⟨g_callB hC ⟨Z.2.1.1, Z.2.1.2.1⟩ hY.1 hl hdd, hts _ hY.2.1, hts _ hY.2.2⟩ ⟨g_blind, hrecv, fun U hU hW => ⟨rfl, by rw [hU]; exact hz, by rw [hU]; exact Z.2.2.2.1, by rw [hU]; exact ⟨Z.2.2.2.2.1.1, Z.2.2.2.2.1.2.1, fun _ h => by cases h⟩, g_K.warm hW hC.2.2.2.2.2.2.2.2.1⟩⟩ rfl (by simpa using hn) Z.2.2.2.2.2.1 rfl (lv_room (by rw [cv_cats]; exact hst)) hd ⟨by have := Z.2.2.1.1; have := Z.2.1.2.2.1; omega, by have := Z.2.2.1.2.1; have := Z.2.1.2.2.2; omega⟩)
end JX
theorem k_J3_checkIndex {G : gG} {I : gI} {R : gR} {L : gL} {Q : gQ} {i n : Int32} {v : Value} (hv : v = .null ∨ v = .float 7) (h0 : ¬ i < 0) (h1 : i < n) (hq : Q (some (.int i)) SH I R L) : Mt G mJ3_checkIndex_8e157 1 0 0 [.int i, .int n, v] SH I R L Q := by
  have k : Go G mJ3_checkIndex_8e157 1 0 0 0 [some (.int i), some (.int n), some v] [] SH I R L Q := by
    refine go_iload_n dJ3_checkIndex_8e157_0 rfl ?_
    refine go_if_lt 9 dJ3_checkIndex_8e157_1 (by decide) (fun c => absurd c h0) (fun _ => ?_)
    refine go_iload_n dJ3_checkIndex_8e157_4 rfl ?_
    refine go_iload_n dJ3_checkIndex_8e157_5 rfl ?_
    refine go_icmp_lt 16 dJ3_checkIndex_8e157_6 (by decide) (fun _ => ?_) (fun c => absurd h1 c)
    refine go_iload_n dJ3_checkIndex_8e157_16 rfl ?_
    exact go_iret dJ3_checkIndex_8e157_17 rfl rfl hq
  rcases hv with rfl | rfl
  · exact go_start rfl (Nat.le_of_ble_eq_true rfl) rfl k
  · exact go_start rfl (Nat.le_of_ble_eq_true rfl) rfl k
theorem k_J0_checkIndex_df160 {G : gG} {I : gI} {R : gR} {L : gL} {Q : gQ} {i n : Int32} (hR : g_Fx R) (h0 : ¬ i < 0) (h1 : i < n) (hq : Q none SH I R L) : Mt G mJ0_checkIndex_df160 2 0 0 [.int i, .int n] SH I R L Q := by
  refine go_start rfl (Nat.le_of_ble_eq_true rfl) rfl ?_
  refine go_iload_n dJ0_checkIndex_df160_0 rfl ?_
  refine go_iload_n dJ0_checkIndex_df160_1 rfl ?_
  refine go_fmt rfl dJ0_checkIndex_df160_2 (fun v hv => ?_)
  refine go_callS0 (μ := mJ0_checkIndex_df160) [.int i, .int n, v] dJ0_checkIndex_df160_5 YJ3_checkIndex_8e157 lJ0_1059 rfl (Nat.le_of_ble_eq_true rfl) (dd := 1) (Nat.le_of_ble_eq_true rfl) rfl (k_J3_checkIndex hv h0 h1 ?_)
  refine go_pop dJ0_checkIndex_df160_8 rfl ?_
  exact go_vret dJ0_checkIndex_df160_9 rfl rfl hq
