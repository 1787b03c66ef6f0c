theorem law_body {G : gG} {I : gI} {R : gR} {L : gL} {Q : gQ} {i : Nat} {w : Int32} (h : Rel I R) (hi : i + 6 ≤ G.2.2.2.2.1) (hb : G.2.2.2.2.1 ≤ 3072) (next : ∀ I' R' L', Rel I' R' → Go G mL_law 40 0 0 1079 [some (.float 0), some (.ref 0), some (.ref 310), some (.int (nI i))] [] SH I' R' L' Q) : Go G mL_law 40 0 0 33 [some (.float 0), some (.ref 0), some (.ref 310), some (.int (nI i))] [.int (w &&& 31)] SH I R L Q := by
  rw [← nI_self w, nI_and31]
  have key : ∀ k, k < 32 → Go G mL_law 40 0 0 33 [some (.float 0), some (.ref 0), some (.ref 310), some (.int (nI i))] [.int (nI k)] SH I R L Q := by
    intro k hk
    have : k = 0 ∨ k = 1 ∨ k = 2 ∨ k = 3 ∨ k = 4 ∨ k = 5 ∨ k = 6 ∨ k = 7 ∨ k = 8 ∨ k = 9 ∨ k = 10 ∨ k = 11 ∨ k = 12 ∨ k = 13 ∨ k = 14 ∨ k = 15 ∨ k = 16 ∨ k = 17 ∨ k = 18 ∨ k = 19 ∨ k = 20 ∨ k = 21 ∨ k = 22 ∨ k = 23 ∨ k = 24 ∨ k = 25 ∨ k = 26 ∨ k = 27 ∨ k = 28 ∨ k = 29 ∨ k = 30 ∨ k = 31 := by omega
    rcases this with rfl | rfl | rfl | rfl | rfl | rfl | rfl | rfl | rfl | rfl | rfl | rfl | rfl | rfl | rfl | rfl | rfl | rfl | rfl | rfl | rfl | rfl | rfl | rfl | rfl | rfl | rfl | rfl | rfl | rfl | rfl | rfl
    · exact go_tsIn 176 dL_law_33 (by decide) (by decide) rfl (by decide) (law_0 h hi hb next)
    · exact go_tsIn 219 dL_law_33 (by decide) (by decide) rfl (by decide) (law_1 h hi hb next)
    · exact go_tsIn 262 dL_law_33 (by decide) (by decide) rfl (by decide) (law_2 h hi hb next)
    · exact go_tsIn 285 dL_law_33 (by decide) (by decide) rfl (by decide) (law_3 h hi hb next)
    · exact go_tsIn 318 dL_law_33 (by decide) (by decide) rfl (by decide) (law_4 h hi hb next)
    · exact go_tsIn 351 dL_law_33 (by decide) (by decide) rfl (by decide) (law_5 h hi hb next)
    · exact go_tsIn 374 dL_law_33 (by decide) (by decide) rfl (by decide) (law_6 h hi hb next)
    · exact go_tsIn 397 dL_law_33 (by decide) (by decide) rfl (by decide) (law_7 h hi hb next)
    · exact go_tsIn 460 dL_law_33 (by decide) (by decide) rfl (by decide) (law_8 h hi hb next)
    · exact go_tsIn 483 dL_law_33 (by decide) (by decide) rfl (by decide) (law_9 h hi hb next)
    · exact go_tsIn 496 dL_law_33 (by decide) (by decide) rfl (by decide) (law_10 h hi hb next)
    · exact go_tsIn 519 dL_law_33 (by decide) (by decide) rfl (by decide) (law_11 h hi hb next)
    · exact go_tsIn 542 dL_law_33 (by decide) (by decide) rfl (by decide) (law_12 h hi hb next)
    · exact go_tsIn 565 dL_law_33 (by decide) (by decide) rfl (by decide) (law_13 h hi hb next)
    · exact go_tsIn 578 dL_law_33 (by decide) (by decide) rfl (by decide) (law_14 h hi hb next)
    · exact go_tsIn 611 dL_law_33 (by decide) (by decide) rfl (by decide) (law_15 h hi hb next)
    · exact go_tsIn 644 dL_law_33 (by decide) (by decide) rfl (by decide) (law_16 h hi hb next)
    · exact go_tsIn 677 dL_law_33 (by decide) (by decide) rfl (by decide) (law_17 h hi hb next)
    · exact go_tsIn 720 dL_law_33 (by decide) (by decide) rfl (by decide) (law_18 h hi hb next)
    · exact go_tsIn 753 dL_law_33 (by decide) (by decide) rfl (by decide) (law_19 h hi hb next)
    · exact go_tsIn 806 dL_law_33 (by decide) (by decide) rfl (by decide) (law_20 h hi hb next)
    · exact go_tsIn 839 dL_law_33 (by decide) (by decide) rfl (by decide) (law_21 h hi hb next)
    · exact go_tsIn 852 dL_law_33 (by decide) (by decide) rfl (by decide) (law_22 h hi hb next)
    · exact go_tsIn 865 dL_law_33 (by decide) (by decide) rfl (by decide) (law_23 h hi hb next)
    · exact go_tsIn 888 dL_law_33 (by decide) (by decide) rfl (by decide) (law_24 h hi hb next)
    · exact go_tsIn 901 dL_law_33 (by decide) (by decide) rfl (by decide) (law_25 h hi hb next)
    · exact go_tsIn 961 dL_law_33 (by decide) (by decide) rfl (by decide) (law_26 h hi hb next)
    · exact go_tsIn 994 dL_law_33 (by decide) (by decide) rfl (by decide) (law_27 h hi hb next)
    · exact go_tsIn 1007 dL_law_33 (by decide) (by decide) rfl (by decide) (law_28 h hi hb next)
    · exact go_tsIn 1030 dL_law_33 (by decide) (by decide) rfl (by decide) (law_29 h hi hb next)
    · exact go_tsIn 1043 dL_law_33 (by decide) (by decide) rfl (by decide) (law_30 h hi hb next)
    · exact go_tsIn 1056 dL_law_33 (by decide) (by decide) rfl (by decide) (law_31 h hi hb next)
  exact key _ (Nat.mod_lt _ (by decide))
theorem law_loop {G : gG} {Q : gQ} (hb : G.2.2.2.2.1 ≤ 3072) (hq : ∀ I R L, Q (some (.int 1)) SH I R L) : ∀ (m i : Nat) (I : gI) (R : gR) (L : gL), i ≤ G.2.2.2.2.1 → G.2.2.2.2.1 < i + m → Rel I R → Go G mL_law 40 0 0 18 [some (.float 0), some (.ref 0), some (.ref 310), some (.int (nI i))] [] SH I R L Q := by
  have t6 : (6 : Int32).toInt = 6 := rfl
  have tn : (nI G.2.2.2.2.1).toInt = (G.2.2.2.2.1 : Int) := nI_toInt (by omega)
  have t1 : (nI G.2.2.2.2.1 - 6).toInt = (G.2.2.2.2.1 : Int) - 6 := by rw [ti_sub] <;> rw [tn, t6] <;> omega
  intro m
  induction m with
  | zero => intro i I R L h1 h2; omega
  | succ m ih =>
    intro i I R L h1 h2 h
    have ti : (nI i).toInt = (i : Int) := nI_toInt (by omega)
    refine go_iload_n dL_law_18 rfl ?_
    refine go_aloadX_n (x := 0) dL_law_19 rfl ?_
    refine go_slen dL_law_20 ?_
    refine go_bipush (v := 6) dL_law_21 (by decide) ?_
    refine go_isub dL_law_23 ?_
    refine go_icmp_gt 1085 dL_law_24 (by decide) (fun c => ?_) (fun c => ?_)
    · refine go_iconst (v := 1) dL_law_1085 (by decide) ?_
      exact go_zret dL_law_1086 rfl rfl rfl (hq _ _ _)
    · have c : ¬ nI G.2.2.2.2.1 - 6 < nI i := c
      rw [ti_lt, t1, ti] at c
      have hi : i + 6 ≤ G.2.2.2.2.1 := by omega
      refine go_aloadX_n (x := 0) dL_law_27 rfl ?_
      refine go_iload_n dL_law_28 rfl ?_
      refine go_sld dL_law_29 (vp_in_nI (by omega) (by omega)) ?_
      refine go_bipush (v := 31) dL_law_30 (by decide) ?_
      refine go_iand dL_law_32 ?_
      refine law_body h hi hb (fun I' R' L' h' => ?_)
      refine go_iinc dL_law_1079 rfl (Nat.le_of_ble_eq_true rfl) rfl ?_
      refine go_goto 18 dL_law_1082 (by decide) ?_
      rw [show nI i + Int32.ofInt 6 = nI (i + 6) from nI_add i 6]
      exact ih (i + 6) I' R' L' (by omega) (by omega) h'
