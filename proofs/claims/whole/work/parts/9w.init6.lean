theorem cpy_all (J : gI) : (∀ a, a ≠ 312 → cpy J 311 312 0 0 11120 a = J a) ∧ ∀ j, j < 11120 → cpy J 311 312 0 0 11120 312 j = J 311 j := ⟨fun a ha => cpy_off ha, fun j hj => by rw [cpy_at, if_pos (by omega)]; congr 1; omega⟩
def moS : gS := [(1, 11120), (1, 11120), (2, 300), (1, 4), (1, 96), (1, 96), (1, 96), (1, 96), (1, 1600), (1, 1600), (1, 40), (1, 41), (1, 80), (1, 80), (1, 24), (1, 24), (1, 24), (1, 24), (1, 400), (1, 400), (1, 12), (3, 200), (1, 4), (1, 9), (1, 6), (1, 6), (1, 6), (1, 4), (1, 4)]
set_option maxRecDepth 10000 in
theorem c_X7 {G : gG} {S : gS} {I : gI} {R : gR} {L : gL} {Q : gQ} (hS : S.length = 311) (hb : S[310]? = some (0, 7)) (hSe : S ++ moS = SH) (hz : ∀ j, I 310 j = 0) (hf : frs 311 I R L) (hX : spmF 0 I R)
    (hq : ∀ I' R', g_Fx R' → (∀ a, a < 310 → I' a = I a ∧ R' a = R a) → I' 310 3 = 0 → I' 310 4 = -1 → I' 310 5 = -1 → (∀ j, I' 311 j = if j = 2 then -1 else if j = 464 then 3 else if 114 ≤ j ∧ j < 123 then 2 else 0) → (∀ j, j < 11120 → I' 312 j = I' 311 j) → Q none SH I' R' L) : Mt G mX7_init 2 29 27516 [.ref 310] S I R L Q := by
  have hf0 := hf
  refine go_start rfl (Nat.le_of_ble_eq_true rfl) rfl ?_
  refine go_aload_n dX7_init_0 rfl ?_
  refine go_objInit dX7_init_1 lX7_1 ns_obj nc_obj (Nat.le_of_ble_eq_true rfl) (Nat.le_of_ble_eq_true rfl) ?_
  refine go_aload_n dX7_init_4 rfl ?_
  refine go_sipush (v := 11120) dX7_init_5 (by decide) ?_
  refine go_newI' (N := 11120) (q := 311) (rc := 28) (rs := 16396) dX7_init_8 na_int (by decide) rfl (by decide) hS hf ?_
  have hf := frs_s hf
  refine go_putF dX7_init_10 fX7_7 rfl (fun z => ⟨rfl, rfl⟩) rfl (fun r h => by cases h; rfl) (at_l hb) ?_
  have hf := frs_upR (c := 310) (i := 0) (x := some 311) hf (by omega)
  refine go_aload_n dX7_init_13 rfl ?_
  refine go_sipush (v := 11120) dX7_init_14 (by decide) ?_
  refine go_newI' (N := 11120) (q := 312) (rc := 27) (rs := 5276) dX7_init_17 na_int (by decide) rfl (by decide) (len_s hS) hf ?_
  have hf := frs_s hf
  refine go_putF dX7_init_19 fX7_13 rfl (fun z => ⟨rfl, rfl⟩) rfl (fun r h => by cases h; rfl) (at_l (at_l hb)) ?_
  have hf := frs_upR (c := 310) (i := 1) (x := some 312) hf (by omega)
  refine go_aload_n dX7_init_22 rfl ?_
  refine go_sipush (v := 300) dX7_init_23 (by decide) ?_
  refine go_newB' (N := 300) (q := 313) (rc := 26) (rs := 4976) dX7_init_26 na_byte (by decide) rfl (by decide) (len_s (len_s hS)) hf ?_
  have hf := frs_s hf
  refine go_putF dX7_init_28 fX7_16 rfl (fun z => ⟨rfl, rfl⟩) rfl (fun r h => by cases h; rfl) (at_l (at_l (at_l hb))) ?_
  have hf := frs_upR (c := 310) (i := 2) (x := some 313) hf (by omega)
  refine go_aload_n dX7_init_31 rfl ?_
  refine go_iconst (v := -1) dX7_init_32 (by decide) ?_
  refine go_putI dX7_init_33 fX7_20 rfl rfl rfl (at_l (at_l (at_l hb))) ?_
  have hf := frs_up (c := 310) (i := 4) (x := (-1)) hf (by omega)
  refine go_aload_n dX7_init_36 rfl ?_
  refine go_iconst (v := -1) dX7_init_37 (by decide) ?_
  refine go_putI dX7_init_38 fX7_24 rfl rfl rfl (at_l (at_l (at_l hb))) ?_
  have hf := frs_up (c := 310) (i := 5) (x := (-1)) hf (by omega)
  refine go_aload_n dX7_init_41 rfl ?_
  refine go_iconst (v := 4) dX7_init_42 (by decide) ?_
  refine go_newI' (N := 4) (q := 314) (rc := 25) (rs := 4972) dX7_init_43 na_int (by decide) rfl (by decide) (len_s (len_s (len_s hS))) hf ?_
  have hf := frs_s hf
  refine go_putF dX7_init_45 fX7_27 rfl (fun z => ⟨rfl, rfl⟩) rfl (fun r h => by cases h; rfl) (at_l (at_l (at_l (at_l hb)))) ?_
  have hf := frs_upR (c := 310) (i := 6) (x := some 314) hf (by omega)
  refine go_aload_n dX7_init_48 rfl ?_
  refine go_bipush (v := 96) dX7_init_49 (by decide) ?_
  refine go_newI' (N := 96) (q := 315) (rc := 24) (rs := 4876) dX7_init_51 na_int (by decide) rfl (by decide) (len_s (len_s (len_s (len_s hS)))) hf ?_
  have hf := frs_s hf
  refine go_putF dX7_init_53 fX7_30 rfl (fun z => ⟨rfl, rfl⟩) rfl (fun r h => by cases h; rfl) (at_l (at_l (at_l (at_l (at_l hb))))) ?_
  have hf := frs_upR (c := 310) (i := 7) (x := some 315) hf (by omega)
  refine go_aload_n dX7_init_56 rfl ?_
  refine go_bipush (v := 96) dX7_init_57 (by decide) ?_
  refine go_newI' (N := 96) (q := 316) (rc := 23) (rs := 4780) dX7_init_59 na_int (by decide) rfl (by decide) (len_s (len_s (len_s (len_s (len_s hS))))) hf ?_
  have hf := frs_s hf
  refine go_putF dX7_init_61 fX7_33 rfl (fun z => ⟨rfl, rfl⟩) rfl (fun r h => by cases h; rfl) (at_l (at_l (at_l (at_l (at_l (at_l hb)))))) ?_
  have hf := frs_upR (c := 310) (i := 8) (x := some 316) hf (by omega)
  refine go_aload_n dX7_init_64 rfl ?_
  refine go_bipush (v := 96) dX7_init_65 (by decide) ?_
  refine go_newI' (N := 96) (q := 317) (rc := 22) (rs := 4684) dX7_init_67 na_int (by decide) rfl (by decide) (len_s (len_s (len_s (len_s (len_s (len_s hS)))))) hf ?_
  have hf := frs_s hf
  refine go_putF dX7_init_69 fX7_36 rfl (fun z => ⟨rfl, rfl⟩) rfl (fun r h => by cases h; rfl) (at_l (at_l (at_l (at_l (at_l (at_l (at_l hb))))))) ?_
  have hf := frs_upR (c := 310) (i := 9) (x := some 317) hf (by omega)
  refine go_aload_n dX7_init_72 rfl ?_
  refine go_bipush (v := 96) dX7_init_73 (by decide) ?_
  refine go_newI' (N := 96) (q := 318) (rc := 21) (rs := 4588) dX7_init_75 na_int (by decide) rfl (by decide) (len_s (len_s (len_s (len_s (len_s (len_s (len_s hS))))))) hf ?_
  have hf := frs_s hf
  refine go_putF dX7_init_77 fX7_39 rfl (fun z => ⟨rfl, rfl⟩) rfl (fun r h => by cases h; rfl) (at_l (at_l (at_l (at_l (at_l (at_l (at_l (at_l hb)))))))) ?_
  have hf := frs_upR (c := 310) (i := 10) (x := some 318) hf (by omega)
  refine go_aload_n dX7_init_80 rfl ?_
  refine go_sipush (v := 1600) dX7_init_81 (by decide) ?_
  refine go_newI' (N := 1600) (q := 319) (rc := 20) (rs := 2988) dX7_init_84 na_int (by decide) rfl (by decide) (len_s (len_s (len_s (len_s (len_s (len_s (len_s (len_s hS)))))))) hf ?_
  have hf := frs_s hf
  refine go_putF dX7_init_86 fX7_42 rfl (fun z => ⟨rfl, rfl⟩) rfl (fun r h => by cases h; rfl) (at_l (at_l (at_l (at_l (at_l (at_l (at_l (at_l (at_l hb))))))))) ?_
  have hf := frs_upR (c := 310) (i := 11) (x := some 319) hf (by omega)
  refine go_aload_n dX7_init_89 rfl ?_
  refine go_sipush (v := 1600) dX7_init_90 (by decide) ?_
  refine go_newI' (N := 1600) (q := 320) (rc := 19) (rs := 1388) dX7_init_93 na_int (by decide) rfl (by decide) (len_s (len_s (len_s (len_s (len_s (len_s (len_s (len_s (len_s hS))))))))) hf ?_
  have hf := frs_s hf
  refine go_putF dX7_init_95 fX7_45 rfl (fun z => ⟨rfl, rfl⟩) rfl (fun r h => by cases h; rfl) (at_l (at_l (at_l (at_l (at_l (at_l (at_l (at_l (at_l (at_l hb)))))))))) ?_
  have hf := frs_upR (c := 310) (i := 12) (x := some 320) hf (by omega)
  refine go_aload_n dX7_init_98 rfl ?_
  refine go_bipush (v := 40) dX7_init_99 (by decide) ?_
  refine go_newI' (N := 40) (q := 321) (rc := 18) (rs := 1348) dX7_init_101 na_int (by decide) rfl (by decide) (len_s (len_s (len_s (len_s (len_s (len_s (len_s (len_s (len_s (len_s hS)))))))))) hf ?_
  have hf := frs_s hf
  refine go_putF dX7_init_103 fX7_48 rfl (fun z => ⟨rfl, rfl⟩) rfl (fun r h => by cases h; rfl) (at_l (at_l (at_l (at_l (at_l (at_l (at_l (at_l (at_l (at_l (at_l hb))))))))))) ?_
  have hf := frs_upR (c := 310) (i := 22) (x := some 321) hf (by omega)
  refine go_aload_n dX7_init_106 rfl ?_
  refine go_bipush (v := 41) dX7_init_107 (by decide) ?_
  refine go_newI' (N := 41) (q := 322) (rc := 17) (rs := 1307) dX7_init_109 na_int (by decide) rfl (by decide) (len_s (len_s (len_s (len_s (len_s (len_s (len_s (len_s (len_s (len_s (len_s hS))))))))))) hf ?_
  have hf := frs_s hf
  refine go_putF dX7_init_111 fX7_51 rfl (fun z => ⟨rfl, rfl⟩) rfl (fun r h => by cases h; rfl) (at_l (at_l (at_l (at_l (at_l (at_l (at_l (at_l (at_l (at_l (at_l (at_l hb)))))))))))) ?_
  have hf := frs_upR (c := 310) (i := 23) (x := some 322) hf (by omega)
  refine go_aload_n dX7_init_114 rfl ?_
  refine go_bipush (v := 80) dX7_init_115 (by decide) ?_
  refine go_newI' (N := 80) (q := 323) (rc := 16) (rs := 1227) dX7_init_117 na_int (by decide) rfl (by decide) (len_s (len_s (len_s (len_s (len_s (len_s (len_s (len_s (len_s (len_s (len_s (len_s hS)))))))))))) hf ?_
  have hf := frs_s hf
  refine go_putF dX7_init_119 fX7_54 rfl (fun z => ⟨rfl, rfl⟩) rfl (fun r h => by cases h; rfl) (at_l (at_l (at_l (at_l (at_l (at_l (at_l (at_l (at_l (at_l (at_l (at_l (at_l hb))))))))))))) ?_
  have hf := frs_upR (c := 310) (i := 25) (x := some 323) hf (by omega)
  refine go_aload_n dX7_init_122 rfl ?_
  refine go_bipush (v := 80) dX7_init_123 (by decide) ?_
  refine go_newI' (N := 80) (q := 324) (rc := 15) (rs := 1147) dX7_init_125 na_int (by decide) rfl (by decide) (len_s (len_s (len_s (len_s (len_s (len_s (len_s (len_s (len_s (len_s (len_s (len_s (len_s hS))))))))))))) hf ?_
  have hf := frs_s hf
  refine go_putF dX7_init_127 fX7_57 rfl (fun z => ⟨rfl, rfl⟩) rfl (fun r h => by cases h; rfl) (at_l (at_l (at_l (at_l (at_l (at_l (at_l (at_l (at_l (at_l (at_l (at_l (at_l (at_l hb)))))))))))))) ?_
  have hf := frs_upR (c := 310) (i := 26) (x := some 324) hf (by omega)
  refine go_aload_n dX7_init_130 rfl ?_
  refine go_bipush (v := 24) dX7_init_131 (by decide) ?_
  refine go_newI' (N := 24) (q := 325) (rc := 14) (rs := 1123) dX7_init_133 na_int (by decide) rfl (by decide) (len_s (len_s (len_s (len_s (len_s (len_s (len_s (len_s (len_s (len_s (len_s (len_s (len_s (len_s hS)))))))))))))) hf ?_
  have hf := frs_s hf
  refine go_putF dX7_init_135 fX7_60 rfl (fun z => ⟨rfl, rfl⟩) rfl (fun r h => by cases h; rfl) (at_l (at_l (at_l (at_l (at_l (at_l (at_l (at_l (at_l (at_l (at_l (at_l (at_l (at_l (at_l hb))))))))))))))) ?_
  have hf := frs_upR (c := 310) (i := 30) (x := some 325) hf (by omega)
  refine go_aload_n dX7_init_138 rfl ?_
  refine go_bipush (v := 24) dX7_init_139 (by decide) ?_
  refine go_newI' (N := 24) (q := 326) (rc := 13) (rs := 1099) dX7_init_141 na_int (by decide) rfl (by decide) (len_s (len_s (len_s (len_s (len_s (len_s (len_s (len_s (len_s (len_s (len_s (len_s (len_s (len_s (len_s hS))))))))))))))) hf ?_
  have hf := frs_s hf
  refine go_putF dX7_init_143 fX7_63 rfl (fun z => ⟨rfl, rfl⟩) rfl (fun r h => by cases h; rfl) (at_l (at_l (at_l (at_l (at_l (at_l (at_l (at_l (at_l (at_l (at_l (at_l (at_l (at_l (at_l (at_l hb)))))))))))))))) ?_
  have hf := frs_upR (c := 310) (i := 31) (x := some 326) hf (by omega)
  refine go_aload_n dX7_init_146 rfl ?_
  refine go_bipush (v := 24) dX7_init_147 (by decide) ?_
  refine go_newI' (N := 24) (q := 327) (rc := 12) (rs := 1075) dX7_init_149 na_int (by decide) rfl (by decide) (len_s (len_s (len_s (len_s (len_s (len_s (len_s (len_s (len_s (len_s (len_s (len_s (len_s (len_s (len_s (len_s hS)))))))))))))))) hf ?_
  have hf := frs_s hf
  refine go_putF dX7_init_151 fX7_66 rfl (fun z => ⟨rfl, rfl⟩) rfl (fun r h => by cases h; rfl) (at_l (at_l (at_l (at_l (at_l (at_l (at_l (at_l (at_l (at_l (at_l (at_l (at_l (at_l (at_l (at_l (at_l hb))))))))))))))))) ?_
  have hf := frs_upR (c := 310) (i := 32) (x := some 327) hf (by omega)
  refine go_aload_n dX7_init_154 rfl ?_
  refine go_bipush (v := 24) dX7_init_155 (by decide) ?_
  refine go_newI' (N := 24) (q := 328) (rc := 11) (rs := 1051) dX7_init_157 na_int (by decide) rfl (by decide) (len_s (len_s (len_s (len_s (len_s (len_s (len_s (len_s (len_s (len_s (len_s (len_s (len_s (len_s (len_s (len_s (len_s hS))))))))))))))))) hf ?_
  have hf := frs_s hf
  refine go_putF dX7_init_159 fX7_69 rfl (fun z => ⟨rfl, rfl⟩) rfl (fun r h => by cases h; rfl) (at_l (at_l (at_l (at_l (at_l (at_l (at_l (at_l (at_l (at_l (at_l (at_l (at_l (at_l (at_l (at_l (at_l (at_l hb)))))))))))))))))) ?_
  have hf := frs_upR (c := 310) (i := 33) (x := some 328) hf (by omega)
  refine go_aload_n dX7_init_162 rfl ?_
  refine go_sipush (v := 400) dX7_init_163 (by decide) ?_
  refine go_newI' (N := 400) (q := 329) (rc := 10) (rs := 651) dX7_init_166 na_int (by decide) rfl (by decide) (len_s (len_s (len_s (len_s (len_s (len_s (len_s (len_s (len_s (len_s (len_s (len_s (len_s (len_s (len_s (len_s (len_s (len_s hS)))))))))))))))))) hf ?_
  have hf := frs_s hf
  refine go_putF dX7_init_168 fX7_72 rfl (fun z => ⟨rfl, rfl⟩) rfl (fun r h => by cases h; rfl) (at_l (at_l (at_l (at_l (at_l (at_l (at_l (at_l (at_l (at_l (at_l (at_l (at_l (at_l (at_l (at_l (at_l (at_l (at_l hb))))))))))))))))))) ?_
  have hf := frs_upR (c := 310) (i := 35) (x := some 329) hf (by omega)
  refine go_aload_n dX7_init_171 rfl ?_
  refine go_sipush (v := 400) dX7_init_172 (by decide) ?_
  refine go_newI' (N := 400) (q := 330) (rc := 9) (rs := 251) dX7_init_175 na_int (by decide) rfl (by decide) (len_s (len_s (len_s (len_s (len_s (len_s (len_s (len_s (len_s (len_s (len_s (len_s (len_s (len_s (len_s (len_s (len_s (len_s (len_s hS))))))))))))))))))) hf ?_
  have hf := frs_s hf
  refine go_putF dX7_init_177 fX7_75 rfl (fun z => ⟨rfl, rfl⟩) rfl (fun r h => by cases h; rfl) (at_l (at_l (at_l (at_l (at_l (at_l (at_l (at_l (at_l (at_l (at_l (at_l (at_l (at_l (at_l (at_l (at_l (at_l (at_l (at_l hb)))))))))))))))))))) ?_
  have hf := frs_upR (c := 310) (i := 36) (x := some 330) hf (by omega)
  refine go_aload_n dX7_init_180 rfl ?_
  refine go_bipush (v := 12) dX7_init_181 (by decide) ?_
  refine go_newI' (N := 12) (q := 331) (rc := 8) (rs := 239) dX7_init_183 na_int (by decide) rfl (by decide) (len_s (len_s (len_s (len_s (len_s (len_s (len_s (len_s (len_s (len_s (len_s (len_s (len_s (len_s (len_s (len_s (len_s (len_s (len_s (len_s hS)))))))))))))))))))) hf ?_
  have hf := frs_s hf
  refine go_putF dX7_init_185 fX7_78 rfl (fun z => ⟨rfl, rfl⟩) rfl (fun r h => by cases h; rfl) (at_l (at_l (at_l (at_l (at_l (at_l (at_l (at_l (at_l (at_l (at_l (at_l (at_l (at_l (at_l (at_l (at_l (at_l (at_l (at_l (at_l hb))))))))))))))))))))) ?_
  have hf := frs_upR (c := 310) (i := 37) (x := some 331) hf (by omega)
  refine go_aload_n dX7_init_188 rfl ?_
  refine go_sipush (v := 200) dX7_init_189 (by decide) ?_
  refine go_newL' (N := 200) (q := 332) (rc := 7) (rs := 39) dX7_init_192 na_long (by decide) rfl (by decide) (len_s (len_s (len_s (len_s (len_s (len_s (len_s (len_s (len_s (len_s (len_s (len_s (len_s (len_s (len_s (len_s (len_s (len_s (len_s (len_s (len_s hS))))))))))))))))))))) hf ?_
  have hf := frs_s hf
  refine go_putF dX7_init_194 fX7_81 rfl (fun z => ⟨rfl, rfl⟩) rfl (fun r h => by cases h; rfl) (at_l (at_l (at_l (at_l (at_l (at_l (at_l (at_l (at_l (at_l (at_l (at_l (at_l (at_l (at_l (at_l (at_l (at_l (at_l (at_l (at_l (at_l hb)))))))))))))))))))))) ?_
  have hf := frs_upR (c := 310) (i := 38) (x := some 332) hf (by omega)
  refine go_aload_n dX7_init_197 rfl ?_
  refine go_iconst (v := 4) dX7_init_198 (by decide) ?_
  refine go_newI' (N := 4) (q := 333) (rc := 6) (rs := 35) dX7_init_199 na_int (by decide) rfl (by decide) (len_s (len_s (len_s (len_s (len_s (len_s (len_s (len_s (len_s (len_s (len_s (len_s (len_s (len_s (len_s (len_s (len_s (len_s (len_s (len_s (len_s (len_s hS)))))))))))))))))))))) hf ?_
  have hf := frs_s hf
  refine go_putF dX7_init_201 fX7_85 rfl (fun z => ⟨rfl, rfl⟩) rfl (fun r h => by cases h; rfl) (at_l (at_l (at_l (at_l (at_l (at_l (at_l (at_l (at_l (at_l (at_l (at_l (at_l (at_l (at_l (at_l (at_l (at_l (at_l (at_l (at_l (at_l (at_l hb))))))))))))))))))))))) ?_
  have hf := frs_upR (c := 310) (i := 39) (x := some 333) hf (by omega)
  refine go_aload_n dX7_init_204 rfl ?_
  refine go_bipush (v := 9) dX7_init_205 (by decide) ?_
  refine go_newI' (N := 9) (q := 334) (rc := 5) (rs := 26) dX7_init_207 na_int (by decide) rfl (by decide) (len_s (len_s (len_s (len_s (len_s (len_s (len_s (len_s (len_s (len_s (len_s (len_s (len_s (len_s (len_s (len_s (len_s (len_s (len_s (len_s (len_s (len_s (len_s hS))))))))))))))))))))))) hf ?_
  have hf := frs_s hf
  refine go_putF dX7_init_209 fX7_88 rfl (fun z => ⟨rfl, rfl⟩) rfl (fun r h => by cases h; rfl) (at_l (at_l (at_l (at_l (at_l (at_l (at_l (at_l (at_l (at_l (at_l (at_l (at_l (at_l (at_l (at_l (at_l (at_l (at_l (at_l (at_l (at_l (at_l (at_l hb)))))))))))))))))))))))) ?_
  have hf := frs_upR (c := 310) (i := 40) (x := some 334) hf (by omega)
  refine go_aload_n dX7_init_212 rfl ?_
  refine go_bipush (v := 6) dX7_init_213 (by decide) ?_
  refine go_newI' (N := 6) (q := 335) (rc := 4) (rs := 20) dX7_init_215 na_int (by decide) rfl (by decide) (len_s (len_s (len_s (len_s (len_s (len_s (len_s (len_s (len_s (len_s (len_s (len_s (len_s (len_s (len_s (len_s (len_s (len_s (len_s (len_s (len_s (len_s (len_s (len_s hS)))))))))))))))))))))))) hf ?_
  have hf := frs_s hf
  refine go_putF dX7_init_217 fX7_91 rfl (fun z => ⟨rfl, rfl⟩) rfl (fun r h => by cases h; rfl) (at_l (at_l (at_l (at_l (at_l (at_l (at_l (at_l (at_l (at_l (at_l (at_l (at_l (at_l (at_l (at_l (at_l (at_l (at_l (at_l (at_l (at_l (at_l (at_l (at_l hb))))))))))))))))))))))))) ?_
  have hf := frs_upR (c := 310) (i := 42) (x := some 335) hf (by omega)
  refine go_aload_n dX7_init_220 rfl ?_
  refine go_bipush (v := 6) dX7_init_221 (by decide) ?_
  refine go_newI' (N := 6) (q := 336) (rc := 3) (rs := 14) dX7_init_223 na_int (by decide) rfl (by decide) (len_s (len_s (len_s (len_s (len_s (len_s (len_s (len_s (len_s (len_s (len_s (len_s (len_s (len_s (len_s (len_s (len_s (len_s (len_s (len_s (len_s (len_s (len_s (len_s (len_s hS))))))))))))))))))))))))) hf ?_
  have hf := frs_s hf
  refine go_putF dX7_init_225 fX7_94 rfl (fun z => ⟨rfl, rfl⟩) rfl (fun r h => by cases h; rfl) (at_l (at_l (at_l (at_l (at_l (at_l (at_l (at_l (at_l (at_l (at_l (at_l (at_l (at_l (at_l (at_l (at_l (at_l (at_l (at_l (at_l (at_l (at_l (at_l (at_l (at_l hb)))))))))))))))))))))))))) ?_
  have hf := frs_upR (c := 310) (i := 43) (x := some 336) hf (by omega)
  refine go_aload_n dX7_init_228 rfl ?_
  refine go_bipush (v := 6) dX7_init_229 (by decide) ?_
  refine go_newI' (N := 6) (q := 337) (rc := 2) (rs := 8) dX7_init_231 na_int (by decide) rfl (by decide) (len_s (len_s (len_s (len_s (len_s (len_s (len_s (len_s (len_s (len_s (len_s (len_s (len_s (len_s (len_s (len_s (len_s (len_s (len_s (len_s (len_s (len_s (len_s (len_s (len_s (len_s hS)))))))))))))))))))))))))) hf ?_
  have hf := frs_s hf
  refine go_putF dX7_init_233 fX7_97 rfl (fun z => ⟨rfl, rfl⟩) rfl (fun r h => by cases h; rfl) (at_l (at_l (at_l (at_l (at_l (at_l (at_l (at_l (at_l (at_l (at_l (at_l (at_l (at_l (at_l (at_l (at_l (at_l (at_l (at_l (at_l (at_l (at_l (at_l (at_l (at_l (at_l hb))))))))))))))))))))))))))) ?_
  have hf := frs_upR (c := 310) (i := 44) (x := some 337) hf (by omega)
  refine go_aload_n dX7_init_236 rfl ?_
  refine go_iconst (v := 4) dX7_init_237 (by decide) ?_
  refine go_newI' (N := 4) (q := 338) (rc := 1) (rs := 4) dX7_init_238 na_int (by decide) rfl (by decide) (len_s (len_s (len_s (len_s (len_s (len_s (len_s (len_s (len_s (len_s (len_s (len_s (len_s (len_s (len_s (len_s (len_s (len_s (len_s (len_s (len_s (len_s (len_s (len_s (len_s (len_s (len_s hS))))))))))))))))))))))))))) hf ?_
  have hf := frs_s hf
  refine go_putF dX7_init_240 fX7_100 rfl (fun z => ⟨rfl, rfl⟩) rfl (fun r h => by cases h; rfl) (at_l (at_l (at_l (at_l (at_l (at_l (at_l (at_l (at_l (at_l (at_l (at_l (at_l (at_l (at_l (at_l (at_l (at_l (at_l (at_l (at_l (at_l (at_l (at_l (at_l (at_l (at_l (at_l hb)))))))))))))))))))))))))))) ?_
  have hf := frs_upR (c := 310) (i := 45) (x := some 338) hf (by omega)
  refine go_aload_n dX7_init_243 rfl ?_
  refine go_iconst (v := 4) dX7_init_244 (by decide) ?_
  refine go_newI' (N := 4) (q := 339) (rc := 0) (rs := 0) dX7_init_245 na_int (by decide) rfl (by decide) (len_s (len_s (len_s (len_s (len_s (len_s (len_s (len_s (len_s (len_s (len_s (len_s (len_s (len_s (len_s (len_s (len_s (len_s (len_s (len_s (len_s (len_s (len_s (len_s (len_s (len_s (len_s (len_s hS)))))))))))))))))))))))))))) hf ?_
  have hf := frs_s hf
  refine go_putF dX7_init_247 fX7_103 rfl (fun z => ⟨rfl, rfl⟩) rfl (fun r h => by cases h; rfl) (at_l (at_l (at_l (at_l (at_l (at_l (at_l (at_l (at_l (at_l (at_l (at_l (at_l (at_l (at_l (at_l (at_l (at_l (at_l (at_l (at_l (at_l (at_l (at_l (at_l (at_l (at_l (at_l (at_l hb))))))))))))))))))))))))))))) ?_
  have hf := frs_upR (c := 310) (i := 46) (x := some 339) hf (by omega)
  rw [show S ++ [(1, 11120)] ++ [(1, 11120)] ++ [(2, 300)] ++ [(1, 4)] ++ [(1, 96)] ++ [(1, 96)] ++ [(1, 96)] ++ [(1, 96)] ++ [(1, 1600)] ++ [(1, 1600)] ++ [(1, 40)] ++ [(1, 41)] ++ [(1, 80)] ++ [(1, 80)] ++ [(1, 24)] ++ [(1, 24)] ++ [(1, 24)] ++ [(1, 24)] ++ [(1, 400)] ++ [(1, 400)] ++ [(1, 12)] ++ [(3, 200)] ++ [(1, 4)] ++ [(1, 9)] ++ [(1, 6)] ++ [(1, 6)] ++ [(1, 6)] ++ [(1, 4)] ++ [(1, 4)] = SH by rw [← hSe]; simp [moS]]
  have hro : ∀ a, a ≠ 310 → upR (upR (upR (upR (upR (upR (upR (upR (upR (upR (upR (upR (upR (upR (upR (upR (upR (upR (upR (upR (upR (upR (upR (upR (upR (upR (upR (upR (upR R 310 0 (some 311)) 310 1 (some 312)) 310 2 (some 313)) 310 6 (some 314)) 310 7 (some 315)) 310 8 (some 316)) 310 9 (some 317)) 310 10 (some 318)) 310 11 (some 319)) 310 12 (some 320)) 310 22 (some 321)) 310 23 (some 322)) 310 25 (some 323)) 310 26 (some 324)) 310 30 (some 325)) 310 31 (some 326)) 310 32 (some 327)) 310 33 (some 328)) 310 35 (some 329)) 310 36 (some 330)) 310 37 (some 331)) 310 38 (some 332)) 310 39 (some 333)) 310 40 (some 334)) 310 42 (some 335)) 310 43 (some 336)) 310 44 (some 337)) 310 45 (some 338)) 310 46 (some 339) a = R a := fun a ha => by rw [upR_off a ha, upR_off a ha, upR_off a ha, upR_off a ha, upR_off a ha, upR_off a ha, upR_off a ha, upR_off a ha, upR_off a ha, upR_off a ha, upR_off a ha, upR_off a ha, upR_off a ha, upR_off a ha, upR_off a ha, upR_off a ha, upR_off a ha, upR_off a ha, upR_off a ha, upR_off a ha, upR_off a ha, upR_off a ha, upR_off a ha, upR_off a ha, upR_off a ha, upR_off a ha, upR_off a ha, upR_off a ha, upR_off a ha]
  have hrm : rowP (upR (upR (upR (upR (upR (upR (upR (upR (upR (upR (upR (upR (upR (upR (upR (upR (upR (upR (upR (upR (upR (upR (upR (upR (upR (upR (upR (upR (upR R 310 0 (some 311)) 310 1 (some 312)) 310 2 (some 313)) 310 6 (some 314)) 310 7 (some 315)) 310 8 (some 316)) 310 9 (some 317)) 310 10 (some 318)) 310 11 (some 319)) 310 12 (some 320)) 310 22 (some 321)) 310 23 (some 322)) 310 25 (some 323)) 310 26 (some 324)) 310 30 (some 325)) 310 31 (some 326)) 310 32 (some 327)) 310 33 (some 328)) 310 35 (some 329)) 310 36 (some 330)) 310 37 (some 331)) 310 38 (some 332)) 310 39 (some 333)) 310 40 (some 334)) 310 42 (some 335)) 310 43 (some 336)) 310 44 (some 337)) 310 45 (some 338)) 310 46 (some 339) 310) rtM 0 := by
    simp only [rowP, rtM]
    refine ⟨?_, ?_, ?_, ?_, ?_, ?_, ?_, ?_, ?_, ?_, ?_, ?_, ?_, ?_, ?_, ?_, ?_, ?_, ?_, ?_, ?_, ?_, ?_, ?_, ?_, ?_, ?_, ?_, ?_, trivial⟩ <;> simp [upR]
  generalize upR (upR (upR (upR (upR (upR (upR (upR (upR (upR (upR (upR (upR (upR (upR (upR (upR (upR (upR (upR (upR (upR (upR (upR (upR (upR (upR (upR (upR R 310 0 (some 311)) 310 1 (some 312)) 310 2 (some 313)) 310 6 (some 314)) 310 7 (some 315)) 310 8 (some 316)) 310 9 (some 317)) 310 10 (some 318)) 310 11 (some 319)) 310 12 (some 320)) 310 22 (some 321)) 310 23 (some 322)) 310 25 (some 323)) 310 26 (some 324)) 310 30 (some 325)) 310 31 (some 326)) 310 32 (some 327)) 310 33 (some 328)) 310 35 (some 329)) 310 36 (some 330)) 310 37 (some 331)) 310 38 (some 332)) 310 39 (some 333)) 310 40 (some 334)) 310 42 (some 335)) 310 43 (some 336)) 310 44 (some 337)) 310 45 (some 338)) 310 46 (some 339) = R' at hro hrm hf ⊢
  have hF : g_Fx R' := by
    refine gFx_of (I := I) ?_ hrm
    obtain ⟨h1, h2, h3, h4, h5⟩ := hX
    refine ⟨h1, trF_c h2 (fun _ _ _ => rfl) (fun a a1 a2 => hro a (by omega)), coF_c h3 (fun _ _ _ => rfl) (fun a a1 a2 => hro a (by omega)), ?_⟩
    rw [hro 0 (by decide), hro (0 + 306) (by decide)]
    exact ⟨h4, h5⟩
  have i3 : up (up I 310 4 (-1)) 310 5 (-1) 310 3 = 0 := by rw [up_ni (by decide), up_ni (by decide)]; exact hz 3
  have i4 : up (up I 310 4 (-1)) 310 5 (-1) 310 4 = -1 := by rw [up_ni (by decide), up_eq]
  have i5 : up (up I 310 4 (-1)) 310 5 (-1) 310 5 = -1 := up_eq _ _ _ _
  have io : ∀ a, a ≠ 310 → up (up I 310 4 (-1)) 310 5 (-1) a = I a := fun a ha => by rw [up_off a ha, up_off a ha]
  generalize up (up I 310 4 (-1)) 310 5 (-1) = I1 at *
  have z11 : ∀ j, I1 311 j = 0 := fun j => by rw [io 311 (by decide)]; exact (hf0 311 (by omega)).1 j
  refine go_aload_n dX7_init_250 rfl ?_
  refine go_getR dX7_init_251 fX7_7 rfl rfl (hF 310 0 311 rfl) ?_
  refine go_iconst (v := 2) dX7_init_254 (by decide) ?_
  refine go_iconst (v := -1) dX7_init_255 (by decide) ?_
  refine go_iast dX7_init_256 rfl (vp_in_nI (n := 2) (by decide) (by decide)) ?_
  refine go_aload_n dX7_init_257 rfl ?_
  refine go_getR dX7_init_258 fX7_7 rfl rfl (hF 310 0 311 rfl) ?_
  refine go_sipush (v := 464) dX7_init_261 (by decide) ?_
  refine go_iconst (v := 3) dX7_init_264 (by decide) ?_
  refine go_iast dX7_init_265 rfl (vp_in_nI (n := 464) (by decide) (by decide)) ?_
  refine go_iconst (v := 0) dX7_init_266 (by decide) ?_
  refine go_istore_n dX7_init_267 (Nat.le_of_ble_eq_true rfl) rfl ?_
  rw [show (2 : Int32).toNatClampNeg = 2 from rfl, show (464 : Int32).toNatClampNeg = 464 from rfl]
  have main : ∀ (m k : Nat) (J : gI), k + m = 9 → (∀ a, a ≠ 311 → J a = I1 a) → (∀ j, J 311 j = if j = 2 then -1 else if j = 464 then 3 else if 114 ≤ j ∧ j < 114 + k then 2 else 0) → Go G mX7_init 2 0 0 268 [some (.ref 310), some (.int (nI k))] [] SH J R' L Q := by
    intro m
    induction m with
    | zero =>
      intro k J hk j1 j2
      have ek : k = 9 := by omega
      subst ek
      refine go_iload_n dX7_init_268 rfl ?_
      refine go_bipush (v := 9) dX7_init_269 (by decide) ?_
      refine go_icmp_ge 290 dX7_init_271 (by decide) (fun c => ?_) (fun c => absurd (nI_le (a := 9) (by omega) (by omega)) c)
      refine go_aload_n dX7_init_290 rfl ?_
      refine go_iconst (v := 1) dX7_init_291 (by decide) ?_
      refine go_callV0 (μ := mX7_init) [.int 1] dX7_init_292 YX7_copies lX7_106 rfl ⟨_, rfl, rfl⟩ rfl (Nat.le_of_ble_eq_true rfl) (Nat.le_of_ble_eq_true rfl) rfl (k_X7_copies hF ?_)
      refine go_vret dX7_init_295 rfl rfl ?_
      rw [if_neg (by decide)]
      have cp := cpy_all J
      refine hq _ R' hF (fun a ha => ⟨?_, hro a (by omega)⟩) ?_ ?_ ?_ (fun j => ?_) (fun j hj => ?_)
      · rw [cp.1 a (by omega), j1 a (by omega), io a (by omega)]
      · rw [cp.1 310 (by decide), j1 310 (by decide)]; exact i3
      · rw [cp.1 310 (by decide), j1 310 (by decide)]; exact i4
      · rw [cp.1 310 (by decide), j1 310 (by decide)]; exact i5
      · rw [cp.1 311 (by decide), j2]
      · rw [cp.1 311 (by decide), cp.2 j hj]
    | succ m ih =>
      intro k J hk j1 j2
      refine go_iload_n dX7_init_268 rfl ?_
      refine go_bipush (v := 9) dX7_init_269 (by decide) ?_
      refine go_icmp_ge 290 dX7_init_271 (by decide) (fun c => absurd c (nI_ge (b := 9) (by omega) (by omega))) (fun c => ?_)
      refine go_aload_n dX7_init_274 rfl ?_
      refine go_getR dX7_init_275 fX7_7 rfl rfl (hF 310 0 311 rfl) ?_
      refine go_bipush (v := 114) dX7_init_278 (by decide) ?_
      refine go_iload_n dX7_init_280 rfl ?_
      refine go_iadd dX7_init_281 ?_
      refine go_iconst (v := 2) dX7_init_282 (by decide) ?_
      rw [show (114 : Int32) + nI k = nI (114 + k) from nI_add 114 k]
      refine go_iast dX7_init_283 rfl (vp_in_nI (by omega) (by decide)) ?_
      rw [nI_clamp (by omega)]
      refine go_iinc dX7_init_284 rfl (Nat.le_of_ble_eq_true rfl) rfl ?_
      refine go_goto 268 dX7_init_287 (by decide) ?_
      rw [show nI k + Int32.ofInt 1 = nI (k + 1) from nI_1 k]
      refine ih (k + 1) _ (by omega) (fun a ha => by rw [up_off a ha]; exact j1 a ha) (fun j => ?_)
      by_cases q : j = 114 + k
      · subst q
        rw [up_eq, if_neg (by omega), if_neg (by omega), if_pos (by omega)]
      · rw [up_ni q, j2]
        by_cases c2 : j = 2
        · rw [if_pos c2, if_pos c2]
        · rw [if_neg c2, if_neg c2]
          by_cases c4 : j = 464
          · rw [if_pos c4, if_pos c4]
          · rw [if_neg c4, if_neg c4]
            by_cases c5 : 114 ≤ j ∧ j < 114 + k
            · rw [if_pos c5, if_pos (by omega)]
            · rw [if_neg c5, if_neg (by omega)]
  refine main 9 0 _ (by omega) (fun a ha => by rw [up_off a ha, up_off a ha]) (fun j => ?_)
  by_cases c4 : j = 464
  · subst c4; rw [up_eq]; rfl
  · rw [up_ni c4]
    by_cases c2 : j = 2
    · subst c2; rw [up_eq]; rfl
    · rw [up_ni c2, z11, if_neg c2, if_neg c4, if_neg (by omega)]
