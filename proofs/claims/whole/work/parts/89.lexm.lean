theorem e_X7_nextToken {G : gG} {I : gI} {R : gR} {L : gL} {Q : gQ} (hR : g_Fx R) (h : Go G mX7_nextToken 3 0 0 0 [some (.ref 310), none, none, none, none] [] SH I R L Q) : Mt G mX7_nextToken 3 0 0 [.ref 310] SH I R L Q := by
  refine go_start rfl (Nat.le_of_ble_eq_true rfl) rfl ?_
  exact h
theorem b_X7_nextToken_0 {G : gG} {I : gI} {R : gR} {L : gL} {Q : gQ} (hR : g_Fx R) (h : ((I 310 13) ≤ (I 310 14) → Go G mX7_nextToken 3 0 0 52 [some (.ref 310), none, none, none, none] [] SH I R L Q) ∧ (¬ (I 310 13) ≤ (I 310 14) → vp_in (I 310 14) 300 ∧ (((I 313 (I 310 14).toNatClampNeg) = 32 → ∀ I_1 : gI, I_1 = up I 310 14 ((I 310 14) + 1) → Go G mX7_nextToken 3 0 0 0 [some (.ref 310), none, none, none, none] [] SH I_1 R L Q) ∧ (¬ (I 313 (I 310 14).toNatClampNeg) = 32 → vp_in (I 310 14) 300 ∧ ((¬ (I 313 (I 310 14).toNatClampNeg) = 10 → Go G mX7_nextToken 3 0 0 52 [some (.ref 310), none, none, none, none] [] SH I R L Q) ∧ ((I 313 (I 310 14).toNatClampNeg) = 10 → ∀ I_2 : gI, I_2 = up I 310 14 ((I 310 14) + 1) → Go G mX7_nextToken 3 0 0 0 [some (.ref 310), none, none, none, none] [] SH I_2 R L Q)))))) : Go G mX7_nextToken 3 0 0 0 [some (.ref 310), none, none, none, none] [] SH I R L Q := by
  refine go_aload_n dX7_nextToken_0 rfl ?_
  refine go_getI dX7_nextToken_1 fX7_173 rfl rfl ?_
  refine go_aload_n dX7_nextToken_4 rfl ?_
  refine go_getI dX7_nextToken_5 fX7_176 rfl rfl ?_
  refine go_icmp_ge 52 dX7_nextToken_8 (by decide) (fun c => ?_) (fun c => ?_)
  · have h := h.1 c
    exact h
  · have h := h.2 c
    refine go_aload_n dX7_nextToken_11 rfl ?_
    refine go_getR dX7_nextToken_12 fX7_16 rfl rfl (hR 310 2 313 rfl) ?_
    refine go_aload_n dX7_nextToken_15 rfl ?_
    refine go_getI dX7_nextToken_16 fX7_173 rfl rfl ?_
    obtain ⟨hi, h⟩ := h
    refine go_bald dX7_nextToken_19 rfl hi ?_
    refine go_bipush (v := 32) dX7_nextToken_20 (by decide) ?_
    refine go_icmp_eq 39 dX7_nextToken_22 (by decide) (fun c => ?_) (fun c => ?_)
    · have h := h.1 c
      refine go_aload_n dX7_nextToken_39 rfl ?_
      refine go_dup dX7_nextToken_40 rfl ?_
      refine go_getI dX7_nextToken_41 fX7_173 rfl rfl ?_
      refine go_iconst (v := 1) dX7_nextToken_44 (by decide) ?_
      refine go_iadd dX7_nextToken_45 ?_
      refine go_putI dX7_nextToken_46 fX7_173 rfl rfl rfl rfl ?_
      have h := h _ rfl
      refine go_goto 0 dX7_nextToken_49 (by decide) ?_
      exact h
    · have h := h.2 c
      refine go_aload_n dX7_nextToken_25 rfl ?_
      refine go_getR dX7_nextToken_26 fX7_16 rfl rfl (hR 310 2 313 rfl) ?_
      refine go_aload_n dX7_nextToken_29 rfl ?_
      refine go_getI dX7_nextToken_30 fX7_173 rfl rfl ?_
      obtain ⟨hi, h⟩ := h
      refine go_bald dX7_nextToken_33 rfl hi ?_
      refine go_bipush (v := 10) dX7_nextToken_34 (by decide) ?_
      refine go_icmp_ne 52 dX7_nextToken_36 (by decide) (fun c => ?_) (fun c => ?_)
      · have h := h.1 c
        exact h
      · have h := h.2 c
        refine go_aload_n dX7_nextToken_39 rfl ?_
        refine go_dup dX7_nextToken_40 rfl ?_
        refine go_getI dX7_nextToken_41 fX7_173 rfl rfl ?_
        refine go_iconst (v := 1) dX7_nextToken_44 (by decide) ?_
        refine go_iadd dX7_nextToken_45 ?_
        refine go_putI dX7_nextToken_46 fX7_173 rfl rfl rfl rfl ?_
        have h := h _ rfl
        refine go_goto 0 dX7_nextToken_49 (by decide) ?_
        exact h
theorem b_X7_nextToken_52 {G : gG} {I : gI} {R : gR} {L : gL} {Q : gQ} (hR : g_Fx R) (h : ∀ I_6 : gI, I_6 = up I 310 15 (I 310 14) → (¬ (I_6 310 14) = (I_6 310 13) → vp_in (I_6 310 14) 300 ∧ (∀ v1_7 : Int32, v1_7 = (I_6 313 (I_6 310 14).toNatClampNeg) → (¬ ((97 ≤ v1_7 ∧ v1_7 ≤ 122) ∨ (65 ≤ v1_7 ∧ v1_7 ≤ 90)) → (¬ ((48 : Int32) ≤ v1_7 ∧ v1_7 ≤ (57 : Int32)) → ∀ I_8 : gI, I_8 = up I_6 310 14 ((I_6 310 14) + 1) → ∀ I_9 : gI, I_9 = up I_8 310 17 v1_7 → ((59 : Int32) ≤ v1_7 ∧ v1_7 ≤ (62 : Int32) → Go G mX7_nextToken 3 0 0 365 [some (.ref 310), some (.int v1_7), none, none, none] [.ref 310] SH I_9 R L Q) ∧ (¬ ((59 : Int32) ≤ v1_7 ∧ v1_7 ≤ (62 : Int32)) → ((40 : Int32) ≤ v1_7 ∧ v1_7 ≤ (45 : Int32) → Go G mX7_nextToken 3 0 0 365 [some (.ref 310), some (.int v1_7), none, none, none] [.ref 310] SH I_9 R L Q) ∧ (¬ ((40 : Int32) ≤ v1_7 ∧ v1_7 ≤ (45 : Int32)) → (v1_7 = 47 → Go G mX7_nextToken 3 0 0 365 [some (.ref 310), some (.int v1_7), none, none, none] [.ref 310] SH I_9 R L Q) ∧ (¬ v1_7 = 47 → (¬ v1_7 = 35 → Go G mX7_nextToken 3 0 0 370 [some (.ref 310), some (.int v1_7), none, none, none] [.int 4, .ref 310] SH I_9 R L Q) ∧ (v1_7 = 35 → Go G mX7_nextToken 3 0 0 365 [some (.ref 310), some (.int v1_7), none, none, none] [.ref 310] SH I_9 R L Q))))) ∧ ((48 : Int32) ≤ v1_7 ∧ v1_7 ≤ (57 : Int32) → ∀ I_14 : gI, I_14 = up I_6 310 16 2 → ∀ I_15 : gI, I_15 = up I_14 310 17 0 → Go G mX7_nextToken 3 0 0 232 [some (.ref 310), none, none, none, none] [] SH I_15 R L Q)) ∧ ((97 ≤ v1_7 ∧ v1_7 ≤ 122) ∨ (65 ≤ v1_7 ∧ v1_7 ≤ 90) → Go G mX7_nextToken 3 0 0 99 [some (.ref 310), none, some (.long 0), none, some (.int 0)] [] SH I_6 R L Q))) ∧ ((I_6 310 14) = (I_6 310 13) → ∀ I_18 : gI, I_18 = up I_6 310 16 0 → Q none SH I_18 R L)) : Go G mX7_nextToken 3 0 0 52 [some (.ref 310), none, none, none, none] [] SH I R L Q := by
  refine go_aload_n dX7_nextToken_52 rfl ?_
  refine go_aload_n dX7_nextToken_53 rfl ?_
  refine go_getI dX7_nextToken_54 fX7_173 rfl rfl ?_
  refine go_putI dX7_nextToken_57 fX7_179 rfl rfl rfl rfl ?_
  have h := h _ rfl
  refine go_aload_n dX7_nextToken_60 rfl ?_
  refine go_getI dX7_nextToken_61 fX7_173 rfl rfl ?_
  refine go_aload_n dX7_nextToken_64 rfl ?_
  refine go_getI dX7_nextToken_65 fX7_176 rfl rfl ?_
  refine go_icmp_ne 77 dX7_nextToken_68 (by decide) (fun c => ?_) (fun c => ?_)
  · have h := h.1 c
    refine go_aload_n dX7_nextToken_77 rfl ?_
    refine go_getR dX7_nextToken_78 fX7_16 rfl rfl (hR 310 2 313 rfl) ?_
    refine go_aload_n dX7_nextToken_81 rfl ?_
    refine go_getI dX7_nextToken_82 fX7_173 rfl rfl ?_
    obtain ⟨hi, h⟩ := h
    refine go_bald dX7_nextToken_85 rfl hi ?_
    refine go_istore_n dX7_nextToken_86 (Nat.le_of_ble_eq_true rfl) rfl ?_
    have h := h _ rfl
    refine go_iload_n dX7_nextToken_87 rfl ?_
    refine go_callS0 (μ := mX7_nextToken) [.int _] dX7_nextToken_88 YX7_isLetter lX7_185 rfl (Nat.le_of_ble_eq_true rfl) (Nat.le_of_ble_eq_true rfl) rfl (k_X7_isLetter hR ?_)
    refine go_if_eq 211 dX7_nextToken_91 (by decide) (fun c => ?_) (fun c => ?_)
    · have h := h.1 (b0.mp c)
      refine go_iload_n dX7_nextToken_211 rfl ?_
      refine go_bipush (v := 48) dX7_nextToken_212 (by decide) ?_
      refine go_bipush (v := 57) dX7_nextToken_214 (by decide) ?_
      refine go_callS0 (μ := mX7_nextToken) [.int _, .int _, .int _] dX7_nextToken_216 YX7_in lX7_110 rfl (Nat.le_of_ble_eq_true rfl) (Nat.le_of_ble_eq_true rfl) rfl (k_X7_in hR ?_)
      refine go_if_eq 315 dX7_nextToken_219 (by decide) (fun c => ?_) (fun c => ?_)
      · have h := h.1 (b0.mp c)
        refine go_aload_n dX7_nextToken_315 rfl ?_
        refine go_dup dX7_nextToken_316 rfl ?_
        refine go_getI dX7_nextToken_317 fX7_173 rfl rfl ?_
        refine go_iconst (v := 1) dX7_nextToken_320 (by decide) ?_
        refine go_iadd dX7_nextToken_321 ?_
        refine go_putI dX7_nextToken_322 fX7_173 rfl rfl rfl rfl ?_
        have h := h _ rfl
        refine go_aload_n dX7_nextToken_325 rfl ?_
        refine go_iload_n dX7_nextToken_326 rfl ?_
        refine go_putI dX7_nextToken_327 fX7_194 rfl rfl rfl rfl ?_
        have h := h _ rfl
        refine go_aload_n dX7_nextToken_330 rfl ?_
        refine go_iload_n dX7_nextToken_331 rfl ?_
        refine go_bipush (v := 59) dX7_nextToken_332 (by decide) ?_
        refine go_bipush (v := 62) dX7_nextToken_334 (by decide) ?_
        refine go_callS0 (μ := mX7_nextToken) [.int _, .int _, .int _] dX7_nextToken_336 YX7_in lX7_110 rfl (Nat.le_of_ble_eq_true rfl) (Nat.le_of_ble_eq_true rfl) rfl (k_X7_in hR ?_)
        refine go_if_ne 365 dX7_nextToken_339 (by decide) (fun c => ?_) (fun c => ?_)
        · have h := h.1 (b1.mp c)
          exact h
        · have h := h.2 (b0.mp c)
          refine go_iload_n dX7_nextToken_342 rfl ?_
          refine go_bipush (v := 40) dX7_nextToken_343 (by decide) ?_
          refine go_bipush (v := 45) dX7_nextToken_345 (by decide) ?_
          refine go_callS0 (μ := mX7_nextToken) [.int _, .int _, .int _] dX7_nextToken_347 YX7_in lX7_110 rfl (Nat.le_of_ble_eq_true rfl) (Nat.le_of_ble_eq_true rfl) rfl (k_X7_in hR ?_)
          refine go_if_ne 365 dX7_nextToken_350 (by decide) (fun c => ?_) (fun c => ?_)
          · have h := h.1 (b1.mp c)
            exact h
          · have h := h.2 (b0.mp c)
            refine go_iload_n dX7_nextToken_353 rfl ?_
            refine go_bipush (v := 47) dX7_nextToken_354 (by decide) ?_
            refine go_icmp_eq 365 dX7_nextToken_356 (by decide) (fun c => ?_) (fun c => ?_)
            · have h := h.1 c
              exact h
            · have h := h.2 c
              refine go_iload_n dX7_nextToken_359 rfl ?_
              refine go_bipush (v := 35) dX7_nextToken_360 (by decide) ?_
              refine go_icmp_ne 369 dX7_nextToken_362 (by decide) (fun c => ?_) (fun c => ?_)
              · have h := h.1 c
                refine go_iconst (v := 4) dX7_nextToken_369 (by decide) ?_
                exact h
              · have h := h.2 c
                exact h
      · have h := h.2 (b1.mp c)
        refine go_aload_n dX7_nextToken_222 rfl ?_
        refine go_iconst (v := 2) dX7_nextToken_223 (by decide) ?_
        refine go_putI dX7_nextToken_224 fX7_182 rfl rfl rfl rfl ?_
        have h := h _ rfl
        refine go_aload_n dX7_nextToken_227 rfl ?_
        refine go_iconst (v := 0) dX7_nextToken_228 (by decide) ?_
        refine go_putI dX7_nextToken_229 fX7_194 rfl rfl rfl rfl ?_
        have h := h _ rfl
        refine go_drop 1 ?_
        exact h
    · have h := h.2 (b1.mp c)
      refine go_lconst (v := 0) dX7_nextToken_94 (by decide) ?_
      refine go_lstore_n dX7_nextToken_95 (Nat.le_of_ble_eq_true rfl) rfl ?_
      refine go_iconst (v := 0) dX7_nextToken_96 (by decide) ?_
      refine go_istore dX7_nextToken_97 (Nat.le_of_ble_eq_true rfl) rfl ?_
      refine go_drop 1 ?_
      exact h
  · have h := h.2 c
    refine go_aload_n dX7_nextToken_71 rfl ?_
    refine go_iconst (v := 0) dX7_nextToken_72 (by decide) ?_
    refine go_putI dX7_nextToken_73 fX7_182 rfl rfl rfl rfl ?_
    have h := h _ rfl
    exact go_vret dX7_nextToken_76 rfl rfl h
theorem b_X7_nextToken_365 {G : gG} {I : gI} {R : gR} {L : gL} {Q : gQ} {v1 : Int32} (hR : g_Fx R) (h : Go G mX7_nextToken 3 0 0 370 [some (.ref 310), some (.int v1), none, none, none] [.int 3, .ref 310] SH I R L Q) : Go G mX7_nextToken 3 0 0 365 [some (.ref 310), some (.int v1), none, none, none] [.ref 310] SH I R L Q := by
  refine go_iconst (v := 3) dX7_nextToken_365 (by decide) ?_
  refine go_goto 370 dX7_nextToken_366 (by decide) ?_
  exact h
theorem b_X7_nextToken_370 {G : gG} {I : gI} {R : gR} {L : gL} {Q : gQ} {v1 s1 : Int32} (hR : g_Fx R) (h : ∀ I_20 : gI, I_20 = up I 310 16 s1 → (v1 = 60 → Go G mX7_nextToken 3 0 0 385 [some (.ref 310), some (.int v1), none, none, none] [] SH I_20 R L Q) ∧ (¬ v1 = 60 → (¬ v1 = 62 → Q none SH I_20 R L) ∧ (v1 = 62 → Go G mX7_nextToken 3 0 0 385 [some (.ref 310), some (.int v1), none, none, none] [] SH I_20 R L Q))) : Go G mX7_nextToken 3 0 0 370 [some (.ref 310), some (.int v1), none, none, none] [.int s1, .ref 310] SH I R L Q := by
  refine go_putI dX7_nextToken_370 fX7_182 rfl rfl rfl rfl ?_
  have h := h _ rfl
  refine go_iload_n dX7_nextToken_373 rfl ?_
  refine go_bipush (v := 60) dX7_nextToken_374 (by decide) ?_
  refine go_icmp_eq 385 dX7_nextToken_376 (by decide) (fun c => ?_) (fun c => ?_)
  · have h := h.1 c
    exact h
  · have h := h.2 c
    refine go_iload_n dX7_nextToken_379 rfl ?_
    refine go_bipush (v := 62) dX7_nextToken_380 (by decide) ?_
    refine go_icmp_ne 439 dX7_nextToken_382 (by decide) (fun c => ?_) (fun c => ?_)
    · have h := h.1 c
      exact go_vret dX7_nextToken_439 rfl rfl h
    · have h := h.2 c
      exact h
theorem b_X7_nextToken_232 {G : gG} {I : gI} {R : gR} {L : gL} {Q : gQ} (hR : g_Fx R) (h : ((I 310 13) ≤ (I 310 14) → Q none SH I R L) ∧ (¬ (I 310 13) ≤ (I 310 14) → vp_in (I 310 14) 300 ∧ ((¬ ((48 : Int32) ≤ (I 313 (I 310 14).toNatClampNeg) ∧ (I 313 (I 310 14).toNatClampNeg) ≤ (57 : Int32)) → Q none SH I R L) ∧ ((48 : Int32) ≤ (I 313 (I 310 14).toNatClampNeg) ∧ (I 313 (I 310 14).toNatClampNeg) ≤ (57 : Int32) → ((I 310 17) ≤ 99999 → vp_in (I 310 14) 300 ∧ (∀ I_23 : gI, I_23 = up I 310 17 (((10 * (I 310 17)) + (I 313 (I 310 14).toNatClampNeg)) - 48) → ∀ I_24 : gI, I_24 = up I_23 310 14 ((I_23 310 14) + 1) → Go G mX7_nextToken 3 0 0 232 [some (.ref 310), none, none, none, none] [] SH I_24 R L Q)) ∧ (¬ (I 310 17) ≤ 99999 → ∀ I_25 : gI, I_25 = up I 310 17 (I 310 17) → ∀ I_26 : gI, I_26 = up I_25 310 14 ((I_25 310 14) + 1) → Go G mX7_nextToken 3 0 0 232 [some (.ref 310), none, none, none, none] [] SH I_26 R L Q))))) : Go G mX7_nextToken 3 0 0 232 [some (.ref 310), none, none, none, none] [] SH I R L Q := by
  refine go_aload_n dX7_nextToken_232 rfl ?_
  refine go_getI dX7_nextToken_233 fX7_173 rfl rfl ?_
  refine go_aload_n dX7_nextToken_236 rfl ?_
  refine go_getI dX7_nextToken_237 fX7_176 rfl rfl ?_
  refine go_icmp_ge 439 dX7_nextToken_240 (by decide) (fun c => ?_) (fun c => ?_)
  · have h := h.1 c
    exact go_vret dX7_nextToken_439 rfl rfl h
  · have h := h.2 c
    refine go_aload_n dX7_nextToken_243 rfl ?_
    refine go_getR dX7_nextToken_244 fX7_16 rfl rfl (hR 310 2 313 rfl) ?_
    refine go_aload_n dX7_nextToken_247 rfl ?_
    refine go_getI dX7_nextToken_248 fX7_173 rfl rfl ?_
    obtain ⟨hi, h⟩ := h
    refine go_bald dX7_nextToken_251 rfl hi ?_
    refine go_bipush (v := 48) dX7_nextToken_252 (by decide) ?_
    refine go_bipush (v := 57) dX7_nextToken_254 (by decide) ?_
    refine go_callS0 (μ := mX7_nextToken) [.int _, .int _, .int _] dX7_nextToken_256 YX7_in lX7_110 rfl (Nat.le_of_ble_eq_true rfl) (Nat.le_of_ble_eq_true rfl) rfl (k_X7_in hR ?_)
    refine go_if_eq 439 dX7_nextToken_259 (by decide) (fun c => ?_) (fun c => ?_)
    · have h := h.1 (b0.mp c)
      exact go_vret dX7_nextToken_439 rfl rfl h
    · have h := h.2 (b1.mp c)
      refine go_aload_n dX7_nextToken_262 rfl ?_
      refine go_aload_n dX7_nextToken_263 rfl ?_
      refine go_getI dX7_nextToken_264 fX7_194 rfl rfl ?_
      refine go_ldc kX7_197 dX7_nextToken_267 ?_
      refine go_icmp_le 279 dX7_nextToken_269 (by decide) (fun c => ?_) (fun c => ?_)
      · have h := h.1 c
        refine go_bipush (v := 10) dX7_nextToken_279 (by decide) ?_
        refine go_aload_n dX7_nextToken_281 rfl ?_
        refine go_getI dX7_nextToken_282 fX7_194 rfl rfl ?_
        refine go_imul dX7_nextToken_285 ?_
        refine go_aload_n dX7_nextToken_286 rfl ?_
        refine go_getR dX7_nextToken_287 fX7_16 rfl rfl (hR 310 2 313 rfl) ?_
        refine go_aload_n dX7_nextToken_290 rfl ?_
        refine go_getI dX7_nextToken_291 fX7_173 rfl rfl ?_
        obtain ⟨hi, h⟩ := h
        refine go_bald dX7_nextToken_294 rfl hi ?_
        refine go_iadd dX7_nextToken_295 ?_
        refine go_bipush (v := 48) dX7_nextToken_296 (by decide) ?_
        refine go_isub dX7_nextToken_298 ?_
        refine go_putI dX7_nextToken_299 fX7_194 rfl rfl rfl rfl ?_
        have h := h _ rfl
        refine go_aload_n dX7_nextToken_302 rfl ?_
        refine go_dup dX7_nextToken_303 rfl ?_
        refine go_getI dX7_nextToken_304 fX7_173 rfl rfl ?_
        refine go_iconst (v := 1) dX7_nextToken_307 (by decide) ?_
        refine go_iadd dX7_nextToken_308 ?_
        refine go_putI dX7_nextToken_309 fX7_173 rfl rfl rfl rfl ?_
        have h := h _ rfl
        refine go_goto 232 dX7_nextToken_312 (by decide) ?_
        exact h
      · have h := h.2 c
        refine go_aload_n dX7_nextToken_272 rfl ?_
        refine go_getI dX7_nextToken_273 fX7_194 rfl rfl ?_
        refine go_goto 299 dX7_nextToken_276 (by decide) ?_
        refine go_putI dX7_nextToken_299 fX7_194 rfl rfl rfl rfl ?_
        have h := h _ rfl
        refine go_aload_n dX7_nextToken_302 rfl ?_
        refine go_dup dX7_nextToken_303 rfl ?_
        refine go_getI dX7_nextToken_304 fX7_173 rfl rfl ?_
        refine go_iconst (v := 1) dX7_nextToken_307 (by decide) ?_
        refine go_iadd dX7_nextToken_308 ?_
        refine go_putI dX7_nextToken_309 fX7_173 rfl rfl rfl rfl ?_
        have h := h _ rfl
        refine go_goto 232 dX7_nextToken_312 (by decide) ?_
        exact h
theorem b_X7_nextToken_99 {G : gG} {I : gI} {R : gR} {L : gL} {Q : gQ} {v4 : Int32} {w2 : Int64} (hR : g_Fx R) (h : ((I 310 13) ≤ (I 310 14) → Go G mX7_nextToken 3 0 0 173 [some (.ref 310), none, some (.long w2), none, some (.int v4)] [] SH I R L Q) ∧ (¬ (I 310 13) ≤ (I 310 14) → vp_in (I 310 14) 300 ∧ ((¬ ((97 ≤ (I 313 (I 310 14).toNatClampNeg) ∧ (I 313 (I 310 14).toNatClampNeg) ≤ 122) ∨ (65 ≤ (I 313 (I 310 14).toNatClampNeg) ∧ (I 313 (I 310 14).toNatClampNeg) ≤ 90)) → Go G mX7_nextToken 3 0 0 173 [some (.ref 310), none, some (.long w2), none, some (.int v4)] [] SH I R L Q) ∧ ((97 ≤ (I 313 (I 310 14).toNatClampNeg) ∧ (I 313 (I 310 14).toNatClampNeg) ≤ 122) ∨ (65 ≤ (I 313 (I 310 14).toNatClampNeg) ∧ (I 313 (I 310 14).toNatClampNeg) ≤ 90) → (9 ≤ v4 → ∀ v4_30 : Int32, v4_30 = v4 + 1 → ∀ I_31 : gI, I_31 = up I 310 14 ((I 310 14) + 1) → Go G mX7_nextToken 3 0 0 99 [some (.ref 310), none, some (.long w2), none, some (.int v4_30)] [] SH I_31 R L Q) ∧ (¬ 9 ≤ v4 → vp_in (I 310 14) 300 ∧ (∀ v2_32 : Int64, v2_32 = (((64 * w2) + (Int32.toInt64 (I 313 (I 310 14).toNatClampNeg))) - 64) → ∀ v4_33 : Int32, v4_33 = v4 + 1 → ∀ I_34 : gI, I_34 = up I 310 14 ((I 310 14) + 1) → Go G mX7_nextToken 3 0 0 99 [some (.ref 310), none, some (.long v2_32), none, some (.int v4_33)] [] SH I_34 R L Q)))))) : Go G mX7_nextToken 3 0 0 99 [some (.ref 310), none, some (.long w2), none, some (.int v4)] [] SH I R L Q := by
  refine go_aload_n dX7_nextToken_99 rfl ?_
  refine go_getI dX7_nextToken_100 fX7_173 rfl rfl ?_
  refine go_aload_n dX7_nextToken_103 rfl ?_
  refine go_getI dX7_nextToken_104 fX7_176 rfl rfl ?_
  refine go_icmp_ge 173 dX7_nextToken_107 (by decide) (fun c => ?_) (fun c => ?_)
  · have h := h.1 c
    exact h
  · have h := h.2 c
    refine go_aload_n dX7_nextToken_110 rfl ?_
    refine go_getR dX7_nextToken_111 fX7_16 rfl rfl (hR 310 2 313 rfl) ?_
    refine go_aload_n dX7_nextToken_114 rfl ?_
    refine go_getI dX7_nextToken_115 fX7_173 rfl rfl ?_
    obtain ⟨hi, h⟩ := h
    refine go_bald dX7_nextToken_118 rfl hi ?_
    refine go_callS0 (μ := mX7_nextToken) [.int _] dX7_nextToken_119 YX7_isLetter lX7_185 rfl (Nat.le_of_ble_eq_true rfl) (Nat.le_of_ble_eq_true rfl) rfl (k_X7_isLetter hR ?_)
    refine go_if_eq 173 dX7_nextToken_122 (by decide) (fun c => ?_) (fun c => ?_)
    · have h := h.1 (b0.mp c)
      exact h
    · have h := h.2 (b1.mp c)
      refine go_iload dX7_nextToken_125 rfl ?_
      refine go_bipush (v := 9) dX7_nextToken_127 (by decide) ?_
      refine go_icmp_ge 155 dX7_nextToken_129 (by decide) (fun c => ?_) (fun c => ?_)
      · have h := h.1 c
        refine go_lload_n dX7_nextToken_155 rfl ?_
        refine go_lstore_n dX7_nextToken_156 (Nat.le_of_ble_eq_true rfl) rfl ?_
        refine go_iinc dX7_nextToken_157 rfl (Nat.le_of_ble_eq_true rfl) rfl ?_
        have h := h _ rfl
        refine go_aload_n dX7_nextToken_160 rfl ?_
        refine go_dup dX7_nextToken_161 rfl ?_
        refine go_getI dX7_nextToken_162 fX7_173 rfl rfl ?_
        refine go_iconst (v := 1) dX7_nextToken_165 (by decide) ?_
        refine go_iadd dX7_nextToken_166 ?_
        refine go_putI dX7_nextToken_167 fX7_173 rfl rfl rfl rfl ?_
        have h := h _ rfl
        refine go_goto 99 dX7_nextToken_170 (by decide) ?_
        exact h
      · have h := h.2 c
        refine go_ldc2 kX7_188 dX7_nextToken_132 ?_
        refine go_lload_n dX7_nextToken_135 rfl ?_
        refine go_lmul dX7_nextToken_136 ?_
        refine go_aload_n dX7_nextToken_137 rfl ?_
        refine go_getR dX7_nextToken_138 fX7_16 rfl rfl (hR 310 2 313 rfl) ?_
        refine go_aload_n dX7_nextToken_141 rfl ?_
        refine go_getI dX7_nextToken_142 fX7_173 rfl rfl ?_
        obtain ⟨hi, h⟩ := h
        refine go_bald dX7_nextToken_145 rfl hi ?_
        refine go_i2l dX7_nextToken_146 ?_
        refine go_ladd dX7_nextToken_147 ?_
        refine go_ldc2 kX7_188 dX7_nextToken_148 ?_
        refine go_lsub dX7_nextToken_151 ?_
        refine go_goto 156 dX7_nextToken_152 (by decide) ?_
        refine go_lstore_n dX7_nextToken_156 (Nat.le_of_ble_eq_true rfl) rfl ?_
        have h := h _ rfl
        refine go_iinc dX7_nextToken_157 rfl (Nat.le_of_ble_eq_true rfl) rfl ?_
        have h := h _ rfl
        refine go_aload_n dX7_nextToken_160 rfl ?_
        refine go_dup dX7_nextToken_161 rfl ?_
        refine go_getI dX7_nextToken_162 fX7_173 rfl rfl ?_
        refine go_iconst (v := 1) dX7_nextToken_165 (by decide) ?_
        refine go_iadd dX7_nextToken_166 ?_
        refine go_putI dX7_nextToken_167 fX7_173 rfl rfl rfl rfl ?_
        have h := h _ rfl
        refine go_goto 99 dX7_nextToken_170 (by decide) ?_
        exact h
theorem b_X7_nextToken_385 {G : gG} {I : gI} {R : gR} {L : gL} {Q : gQ} {v1 : Int32} (hR : g_Fx R) (h : ((I 310 13) ≤ (I 310 14) → Q none SH I R L) ∧ (¬ (I 310 13) ≤ (I 310 14) → vp_in (I 310 14) 300 ∧ ((¬ (I 313 (I 310 14).toNatClampNeg) = 61 → Q none SH I R L) ∧ ((I 313 (I 310 14).toNatClampNeg) = 61 → (¬ v1 = 60 → ∀ I_38 : gI, I_38 = up I 310 17 301 → ∀ I_39 : gI, I_39 = up I_38 310 14 ((I_38 310 14) + 1) → Q none SH I_39 R L) ∧ (v1 = 60 → ∀ I_40 : gI, I_40 = up I 310 17 300 → ∀ I_41 : gI, I_41 = up I_40 310 14 ((I_40 310 14) + 1) → Q none SH I_41 R L))))) : Go G mX7_nextToken 3 0 0 385 [some (.ref 310), some (.int v1), none, none, none] [] SH I R L Q := by
  refine go_aload_n dX7_nextToken_385 rfl ?_
  refine go_getI dX7_nextToken_386 fX7_173 rfl rfl ?_
  refine go_aload_n dX7_nextToken_389 rfl ?_
  refine go_getI dX7_nextToken_390 fX7_176 rfl rfl ?_
  refine go_icmp_ge 439 dX7_nextToken_393 (by decide) (fun c => ?_) (fun c => ?_)
  · have h := h.1 c
    exact go_vret dX7_nextToken_439 rfl rfl h
  · have h := h.2 c
    refine go_aload_n dX7_nextToken_396 rfl ?_
    refine go_getR dX7_nextToken_397 fX7_16 rfl rfl (hR 310 2 313 rfl) ?_
    refine go_aload_n dX7_nextToken_400 rfl ?_
    refine go_getI dX7_nextToken_401 fX7_173 rfl rfl ?_
    obtain ⟨hi, h⟩ := h
    refine go_bald dX7_nextToken_404 rfl hi ?_
    refine go_bipush (v := 61) dX7_nextToken_405 (by decide) ?_
    refine go_icmp_ne 439 dX7_nextToken_407 (by decide) (fun c => ?_) (fun c => ?_)
    · have h := h.1 c
      exact go_vret dX7_nextToken_439 rfl rfl h
    · have h := h.2 c
      refine go_aload_n dX7_nextToken_410 rfl ?_
      refine go_iload_n dX7_nextToken_411 rfl ?_
      refine go_bipush (v := 60) dX7_nextToken_412 (by decide) ?_
      refine go_icmp_ne 423 dX7_nextToken_414 (by decide) (fun c => ?_) (fun c => ?_)
      · have h := h.1 c
        refine go_sipush (v := 301) dX7_nextToken_423 (by decide) ?_
        refine go_putI dX7_nextToken_426 fX7_194 rfl rfl rfl rfl ?_
        have h := h _ rfl
        refine go_aload_n dX7_nextToken_429 rfl ?_
        refine go_dup dX7_nextToken_430 rfl ?_
        refine go_getI dX7_nextToken_431 fX7_173 rfl rfl ?_
        refine go_iconst (v := 1) dX7_nextToken_434 (by decide) ?_
        refine go_iadd dX7_nextToken_435 ?_
        refine go_putI dX7_nextToken_436 fX7_173 rfl rfl rfl rfl ?_
        have h := h _ rfl
        exact go_vret dX7_nextToken_439 rfl rfl h
      · have h := h.2 c
        refine go_sipush (v := 300) dX7_nextToken_417 (by decide) ?_
        refine go_goto 426 dX7_nextToken_420 (by decide) ?_
        refine go_putI dX7_nextToken_426 fX7_194 rfl rfl rfl rfl ?_
        have h := h _ rfl
        refine go_aload_n dX7_nextToken_429 rfl ?_
        refine go_dup dX7_nextToken_430 rfl ?_
        refine go_getI dX7_nextToken_431 fX7_173 rfl rfl ?_
        refine go_iconst (v := 1) dX7_nextToken_434 (by decide) ?_
        refine go_iadd dX7_nextToken_435 ?_
        refine go_putI dX7_nextToken_436 fX7_173 rfl rfl rfl rfl ?_
        have h := h _ rfl
        exact go_vret dX7_nextToken_439 rfl rfl h
theorem b_X7_nextToken_173 {G : gG} {I : gI} {R : gR} {L : gL} {Q : gQ} {v4 : Int32} {w2 : Int64} (hR : g_Fx R) (h : (v4 ≤ 8 → ∀ I_45 : gI, I_45 = up I 310 17 (wdI w2) → (0 ≤ (I_45 310 17) → ∀ I_46 : gI, I_46 = up I_45 310 16 1 → Q none SH I_46 R L) ∧ (¬ 0 ≤ (I_45 310 17) → ∀ I_47 : gI, I_47 = up I_45 310 16 4 → Q none SH I_47 R L)) ∧ (¬ v4 ≤ 8 → ∀ I_49 : gI, I_49 = up I 310 17 (-1) → (0 ≤ (I_49 310 17) → ∀ I_50 : gI, I_50 = up I_49 310 16 1 → Q none SH I_50 R L) ∧ (¬ 0 ≤ (I_49 310 17) → ∀ I_51 : gI, I_51 = up I_49 310 16 4 → Q none SH I_51 R L))) : Go G mX7_nextToken 3 0 0 173 [some (.ref 310), none, some (.long w2), none, some (.int v4)] [] SH I R L Q := by
  refine go_aload_n dX7_nextToken_173 rfl ?_
  refine go_iload dX7_nextToken_174 rfl ?_
  refine go_bipush (v := 8) dX7_nextToken_176 (by decide) ?_
  refine go_icmp_le 185 dX7_nextToken_178 (by decide) (fun c => ?_) (fun c => ?_)
  · have h := h.1 c
    refine go_lload_n dX7_nextToken_185 rfl ?_
    refine go_callS0 (μ := mX7_nextToken) [.long _] dX7_nextToken_186 YX7_wordOf lX7_190 rfl (Nat.le_of_ble_eq_true rfl) (Nat.le_of_ble_eq_true rfl) rfl (k_X7_wordOf hR ?_)
    refine go_putI dX7_nextToken_189 fX7_194 rfl rfl rfl rfl ?_
    have h := h _ rfl
    refine go_aload_n dX7_nextToken_192 rfl ?_
    refine go_aload_n dX7_nextToken_193 rfl ?_
    refine go_getI dX7_nextToken_194 fX7_194 rfl rfl ?_
    refine go_if_ge 204 dX7_nextToken_197 (by decide) (fun c => ?_) (fun c => ?_)
    · have h := h.1 c
      refine go_iconst (v := 1) dX7_nextToken_204 (by decide) ?_
      refine go_putI dX7_nextToken_205 fX7_182 rfl rfl rfl rfl ?_
      have h := h _ rfl
      refine go_goto 439 dX7_nextToken_208 (by decide) ?_
      exact go_vret dX7_nextToken_439 rfl rfl h
    · have h := h.2 c
      refine go_iconst (v := 4) dX7_nextToken_200 (by decide) ?_
      refine go_goto 205 dX7_nextToken_201 (by decide) ?_
      refine go_putI dX7_nextToken_205 fX7_182 rfl rfl rfl rfl ?_
      have h := h _ rfl
      refine go_goto 439 dX7_nextToken_208 (by decide) ?_
      exact go_vret dX7_nextToken_439 rfl rfl h
  · have h := h.2 c
    refine go_iconst (v := -1) dX7_nextToken_181 (by decide) ?_
    refine go_goto 189 dX7_nextToken_182 (by decide) ?_
    refine go_putI dX7_nextToken_189 fX7_194 rfl rfl rfl rfl ?_
    have h := h _ rfl
    refine go_aload_n dX7_nextToken_192 rfl ?_
    refine go_aload_n dX7_nextToken_193 rfl ?_
    refine go_getI dX7_nextToken_194 fX7_194 rfl rfl ?_
    refine go_if_ge 204 dX7_nextToken_197 (by decide) (fun c => ?_) (fun c => ?_)
    · have h := h.1 c
      refine go_iconst (v := 1) dX7_nextToken_204 (by decide) ?_
      refine go_putI dX7_nextToken_205 fX7_182 rfl rfl rfl rfl ?_
      have h := h _ rfl
      refine go_goto 439 dX7_nextToken_208 (by decide) ?_
      exact go_vret dX7_nextToken_439 rfl rfl h
    · have h := h.2 c
      refine go_iconst (v := 4) dX7_nextToken_200 (by decide) ?_
      refine go_goto 205 dX7_nextToken_201 (by decide) ?_
      refine go_putI dX7_nextToken_205 fX7_182 rfl rfl rfl rfl ?_
      have h := h _ rfl
      refine go_goto 439 dX7_nextToken_208 (by decide) ?_
      exact go_vret dX7_nextToken_439 rfl rfl h
/-! the plain form's tokens -/
def bM (c : Nat) : Int32 := (nI c).toInt8.toInt32
def tpM (I : gI) (T : Nat → Nat) (n : Nat) : Prop := n ≤ 300 ∧ ∀ j, j < n → I 313 j = bM (T j) ∧ T j ≤ 255
theorem bM_1 : ∀ c, c < 256 → (bM c = 32 ↔ c = 32) ∧ (bM c = 10 ↔ c = 10) ∧ (bM c = 61 ↔ c = 61) ∧ (bM c = 60 ↔ c = 60) ∧ (bM c = 62 ↔ c = 62) ∧ (bM c = 47 ↔ c = 47) ∧ (bM c = 35 ↔ c = 35) := by decide +kernel
theorem bM_2 : ∀ c, c < 256 → (((97 ≤ bM c ∧ bM c ≤ 122) ∨ (65 ≤ bM c ∧ bM c ≤ 90)) ↔ ((97 ≤ c ∧ c ≤ 122) ∨ (65 ≤ c ∧ c ≤ 90))) ∧ ((48 ≤ bM c ∧ bM c ≤ 57) ↔ (48 ≤ c ∧ c ≤ 57)) ∧ ((59 ≤ bM c ∧ bM c ≤ 62) ↔ (59 ≤ c ∧ c ≤ 62)) ∧ ((40 ≤ bM c ∧ bM c ≤ 45) ↔ (40 ≤ c ∧ c ≤ 45)) := by decide +kernel
theorem bM_3 : ∀ c, c < 128 → bM c = nI c := by decide +kernel
def chO (tk : Nat) : Nat := if tk = 24 then 60 else if tk = 25 then 62 else if tk = 26 then 61 else if tk = 27 then 35 else if tk = 28 then 43 else if tk = 29 then 45 else if tk = 30 then 42 else if tk = 31 then 47 else if tk = 32 then 40 else if tk = 33 then 41 else if tk = 34 then 59 else if tk = 35 then 300 else 301
/-- a token as the plain form has it -/
def tkR (tk v : Nat) (s t : Int32) : Prop := (tk = 38 ∧ s = 0) ∨ (tk < 24 ∧ s = 1 ∧ t = nI tk) ∨ (tk = 37 ∧ s = 2 ∧ ∃ u, t = nI u ∧ u ≤ 999999 ∧ v = min 10000 u) ∨ (24 ≤ tk ∧ tk ≤ 36 ∧ s = 3 ∧ t = nI (chO tk)) ∨ (tk = 39 ∧ (s = 4 ∨ (s = 3 ∧ t = 44)))
def mvT (I : gI) (pl a : Nat) (s t : Int32) : gI := up (up (up (up I 310 14 (nI a)) 310 15 (nI pl)) 310 16 s) 310 17 t
theorem mvT_a (I : gI) (pl a : Nat) (s t : Int32) : mvT I pl a s t = up (up (up (up I 310 14 (nI a)) 310 15 (nI pl)) 310 17 t) 310 16 s := by funext c k; simp only [up, mvT]; grind
theorem mvT_b (I : gI) (x y z : Int32) : up (up (up I 310 14 x) 310 15 y) 310 14 z = up (up I 310 14 z) 310 15 y := by funext c k; simp only [up]; grind
theorem mvT_c (I : gI) (pl b a : Nat) (s t z : Int32) : up (up (mvT I pl b s t) 310 17 z) 310 14 (nI a) = mvT I pl a s z := by funext c k; simp only [up, mvT]; grind
theorem mvT_d (I : gI) (pl : Nat) : mvT I pl pl 0 (I 310 17) = up (up (up I 310 14 (nI pl)) 310 15 (nI pl)) 310 16 0 := by funext c k; simp only [up, mvT]; grind
theorem mvT_e (I : gI) (pl a : Nat) (s t : Int32) : up (up (up (up (up I 310 14 (nI pl)) 310 15 (nI pl)) 310 14 (nI a)) 310 17 t) 310 16 s = mvT I pl a s t := by funext c k; simp only [up, mvT]; grind
theorem up_up (I : gI) (c i : Nat) (x z : Int32) : up (up I c i x) c i z = up I c i z := by funext a k; simp only [up]; grind
def sgS (c : Nat) : Prop := (59 ≤ c ∧ c ≤ 62) ∨ (40 ≤ c ∧ c ≤ 45) ∨ c = 47 ∨ c = 35
theorem casc {a b c d X3 X4 : Prop} (h3 : a ∨ b ∨ c ∨ d → X3) (h4 : ¬ (a ∨ b ∨ c ∨ d) → X4) : (a → X3) ∧ (¬ a → (b → X3) ∧ (¬ b → (c → X3) ∧ (¬ c → (¬ d → X4) ∧ (d → X3)))) :=
  ⟨fun q => h3 (Or.inl q), fun na => ⟨fun q => h3 (Or.inr (Or.inl q)), fun nb => ⟨fun q => h3 (Or.inr (Or.inr (Or.inl q))), fun nc => ⟨fun nd => h4 (fun q => q.elim na (fun q => q.elim nb (fun q => q.elim nc nd))), fun q => h3 (Or.inr (Or.inr (Or.inr q)))⟩⟩⟩⟩
theorem sg_t : ∀ c, c < 256 → (((59 ≤ c ∧ c ≤ 62) ∨ (40 ≤ c ∧ c ≤ 45) ∨ c = 47 ∨ c = 35) → (24 ≤ sgn c ∧ sgn c ≤ 34 ∧ bM c = nI (chO (sgn c))) ∨ (sgn c = 39 ∧ bM c = 44)) ∧ (¬ ((59 ≤ c ∧ c ≤ 62) ∨ (40 ≤ c ∧ c ≤ 45) ∨ c = 47 ∨ c = 35) → sgn c = 39) := by decide +kernel
def wdL (w : Int64) : List Nat → Nat → Int32
  | [], _ => -1
  | c :: r, k => if w = Int64.ofNat c then nI k else wdL w r (k + 1)
theorem wd_L (w : Int64) : wdI w = wdL w whs 0 := rfl
theorem lN_inj {a b : Nat} (ha : a < 2 ^ 63) (hb : b < 2 ^ 63) : Int64.ofNat a = Int64.ofNat b ↔ a = b := by
  refine ⟨fun h => ?_, fun h => by rw [h]⟩
  have := congrArg Int64.toInt h
  rw [Int64.toInt_ofNat_of_lt (by omega), Int64.toInt_ofNat_of_lt (by omega)] at this
  omega
theorem wdL_h {x : Nat} (hx : x < 2 ^ 63) : ∀ (ws : List Nat) (k : Nat), k + ws.length ≤ 39 → (∀ w ∈ ws, w < 2 ^ 63) → wdL (Int64.ofNat x) ws k = if hix x ws k = 39 then -1 else nI (hix x ws k)
  | [], k, _, _ => by simp [wdL, hix]
  | c :: ws, k, hk, h => by
    rw [List.length_cons] at hk
    rw [wdL, hix]
    by_cases e : x = c
    · rw [if_pos (by rw [e]), if_pos e, if_neg (by omega)]
    · rw [if_neg (fun q => e ((lN_inj hx (h c (by simp))).mp q)), if_neg e]
      exact wdL_h hx ws (k + 1) (by omega) (fun w hw => h w (by simp [hw]))
theorem wd_w {s : List Nat} (h : ∀ c ∈ s, 65 ≤ c ∧ c < 128) (hl : s.length ≤ 9) : wdI (Int64.ofNat (hwS s)) = if wix s wds 0 = 39 then -1 else nI (wix s wds 0) := by
  have hlt : hwS s < 2 ^ 63 := by
    have h1 : hwS s < 64 ^ s.reverse.length := hwR_lt s.reverse (fun c hc => (h c (by simpa using hc)).2)
    rw [List.length_reverse] at h1
    have h2 : 64 ^ s.length ≤ 64 ^ 9 := Nat.pow_le_pow_right (by decide) hl
    have h3 : (64 : Nat) ^ 9 < 2 ^ 63 := by decide
    omega
  rw [wd_L, wdL_h hlt whs 0 (by decide) (by decide), hix_wds h]
theorem sgm_le {T : Nat → Nat} {p q : Nat} {P : Nat → Prop} (h : ∀ j, p ≤ j → j < q → P (T j)) : ∀ c ∈ sgm T p q, P c := by
  intro c hc
  unfold sgm at hc
  obtain ⟨j, hj, rfl⟩ := List.mem_map.mp hc
  rw [List.mem_range'_1] at hj
  exact h j hj.1 (by omega)
theorem byL_r {c : Nat} (h : byL c) : 65 ≤ c ∧ c < 128 := by unfold byL at h; omega
theorem k_X7_nextToken {G : gG} {I : gI} {R : gR} {L : gL} {Q : gQ} {T : Nat → Nat} {n p pl tk v a : Nat} (hR : g_Fx R) (hT : tpM I T n) (h1 : I 310 13 = nI n) (h2 : I 310 14 = nI p) (hL : Lx T n p pl tk v a)
    (hq : ∀ s t, tkR tk v s t → Q none SH (mvT I pl a s t) R L) : Mt G mX7_nextToken 3 0 0 [.ref 310] SH I R L Q := by
  have h3 := hT.1
  obtain ⟨x1, x2, x3, x4, x5, x6, x7, x8⟩ := Lx_adv hL
  obtain ⟨hb, hL⟩ := hL
  refine e_X7_nextToken hR ?_
  have rest : Go G mX7_nextToken 3 0 0 52 [some (.ref 310), none, none, none, none] [] SH (up I 310 14 (nI pl)) R L Q := by
    refine b_X7_nextToken_52 hR ?_
    rw [up_eq]
    rintro _ rfl
    have z13 : up (up I 310 14 (nI pl)) 310 15 (nI pl) 310 13 = nI n := by rw [up_ni (by decide), up_ni (by decide), h1]
    have z14 : up (up I 310 14 (nI pl)) 310 15 (nI pl) 310 14 = nI pl := by rw [up_ni (by decide), up_eq]
    have zT : ∀ j, up (up I 310 14 (nI pl)) 310 15 (nI pl) 313 j = I 313 j := fun j => by rw [up_nc (by decide), up_nc (by decide)]
    rw [z13, z14, nI_clamp (by omega), zT, nI_eq (by omega) (by omega)]
    refine ⟨fun c => ⟨vp_in_nI (by omega) (by decide), ?_⟩, fun c => ?_⟩
    · have hlt : pl < n := by omega
      have hby := hT.2 pl hlt
      rw [hby.1]
      rintro _ rfl
      have m1 := bM_1 (T pl) (by omega)
      have m2 := bM_2 (T pl) (by omega)
      rw [m2.1, m2.2.1, m2.2.2.1, m2.2.2.2]
      -- a sign: its sort, and what stands behind it
      have sgo : (∀ s1 : Int32, (sgS (T pl) → s1 = 3) → (¬ sgS (T pl) → s1 = 4) → (T pl = 60 → Go G mX7_nextToken 3 0 0 385 [some (.ref 310), some (.int (bM (T pl))), none, none, none] [] SH (mvT I pl (pl + 1) s1 (bM (T pl))) R L Q) ∧ (¬ T pl = 60 → (¬ T pl = 62 → Q none SH (mvT I pl (pl + 1) s1 (bM (T pl))) R L) ∧ (T pl = 62 → Go G mX7_nextToken 3 0 0 385 [some (.ref 310), some (.int (bM (T pl))), none, none, none] [] SH (mvT I pl (pl + 1) s1 (bM (T pl))) R L Q))) →
          ∀ s1 : Int32, (sgS (T pl) → s1 = 3) → (¬ sgS (T pl) → s1 = 4) → Go G mX7_nextToken 3 0 0 370 [some (.ref 310), some (.int (bM (T pl))), none, none, none] [.int s1, .ref 310] SH (up (up (up (up I 310 14 (nI pl)) 310 15 (nI pl)) 310 14 (nI (pl + 1))) 310 17 (bM (T pl))) R L Q := by
        intro k s1 a1 a2
        refine b_X7_nextToken_370 hR ?_
        rintro _ rfl
        rw [m1.2.2.2.1, m1.2.2.2.2.1, mvT_e]
        exact k s1 a1 a2
      rcases hL with ⟨l1, -⟩ | ⟨-, lL, lr, ltk⟩ | ⟨-, lD, lr, ltk, lv⟩ | ⟨-, lL, lD, l2, ltk, la⟩ | ⟨-, lL, lD, l2, ltk, la⟩
      · omega
      · -- a word
        refine ⟨fun c2 => absurd lL c2, fun _ => ?_⟩
        have hlen : (sgm T pl a).length = a - pl := sgm_len T pl a
        have fin : Go G mX7_nextToken 3 0 0 173 [some (.ref 310), none, some (.long (Int64.ofNat (hwS (sgm T pl (pl + min (a - pl) 9))))), none, some (.int (nI (a - pl)))] [] SH (up (up I 310 14 (nI a)) 310 15 (nI pl)) R L Q := by
          refine b_X7_nextToken_173 hR ?_
          rw [show (nI (a - pl) ≤ 8) = (nI (a - pl) ≤ nI 8) from rfl, nleI (by omega) (by decide)]
          have w24 := wix_24 (sgm T pl a)
          have bad : wix (sgm T pl a) wds 0 = 39 → Q none SH (up (up (up (up I 310 14 (nI a)) 310 15 (nI pl)) 310 17 (-1)) 310 16 4) R L := fun e9 => by
            have := hq 4 (-1) (Or.inr (Or.inr (Or.inr (Or.inr ⟨by omega, Or.inl rfl⟩))))
            rwa [mvT_a] at this
          refine ⟨fun c8 => ?_, fun c8 => ?_⟩
          · rintro _ rfl
            rw [up_eq, show pl + min (a - pl) 9 = a by omega, wd_w (sgm_le (fun j q1 q2 => byL_r (lr.2.2.1 j q1 q2))) (by omega)]
            by_cases e9 : wix (sgm T pl a) wds 0 = 39
            · rw [if_pos e9]
              refine ⟨fun q => absurd q (by decide), fun _ => ?_⟩
              rintro _ rfl
              exact bad e9
            · rw [if_neg e9]
              refine ⟨fun _ => ?_, fun q => absurd (nI_le (a := 0) (by omega) (by omega)) q⟩
              rintro _ rfl
              have := hq 1 (nI tk) (Or.inr (Or.inl ⟨by omega, rfl, rfl⟩))
              rw [ltk] at this
              rwa [mvT_a] at this
          · rintro _ rfl
            rw [up_eq]
            refine ⟨fun q => absurd q (by decide), fun _ => ?_⟩
            rintro _ rfl
            exact bad (wix_long (by omega) wds 0 (fun u hu => (wds_ok u hu).2))
        have loop : ∀ (m k : Nat), pl + k + m = a → Go G mX7_nextToken 3 0 0 99 [some (.ref 310), none, some (.long (Int64.ofNat (hwS (sgm T pl (pl + min k 9))))), none, some (.int (nI k))] [] SH (up (up I 310 14 (nI (pl + k))) 310 15 (nI pl)) R L Q := by
          intro m
          induction m with
          | zero =>
            intro k hk
            refine b_X7_nextToken_99 hR ?_
            have y14 : up (up I 310 14 (nI (pl + k))) 310 15 (nI pl) 310 14 = nI (pl + k) := by rw [up_ni (by decide), up_eq]
            rw [show up (up I 310 14 (nI (pl + k))) 310 15 (nI pl) 310 13 = nI n by rw [up_ni (by decide), up_ni (by decide), h1], y14, nI_clamp (by omega)]
            have hka : k = a - pl := by omega
            subst hka
            rw [show pl + (a - pl) = a by omega]
            refine ⟨fun _ => fin, fun c => ⟨vp_in_nI (by
              rcases Nat.lt_or_ge a n with q | q
              · omega
              · exact absurd (nI_le q (by omega)) c) (by decide), fun _ => fin, fun c2 => ?_⟩⟩
            have han : a < n := by
              rcases Nat.lt_or_ge a n with q | q
              · exact q
              · exact absurd (nI_le q (by omega)) c
            have hba := hT.2 a han
            rw [up_nc (by decide), up_nc (by decide), hba.1, (bM_2 (T a) (by omega)).1] at c2
            exact absurd c2 (lr.2.2.2 han)
          | succ m ih =>
            intro k hk
            have hin := lr.2.2.1 (pl + k) (by omega) (by omega)
            have hba := hT.2 (pl + k) (by omega)
            refine b_X7_nextToken_99 hR ?_
            have y14 : up (up I 310 14 (nI (pl + k))) 310 15 (nI pl) 310 14 = nI (pl + k) := by rw [up_ni (by decide), up_eq]
            rw [show up (up I 310 14 (nI (pl + k))) 310 15 (nI pl) 310 13 = nI n by rw [up_ni (by decide), up_ni (by decide), h1], y14, nI_clamp (by omega), up_nc (by decide), up_nc (by decide), hba.1, (bM_2 (T (pl + k)) (by omega)).1]
            have hr := byL_r hin
            have eM : up (up (up I 310 14 (nI (pl + k))) 310 15 (nI pl)) 310 14 (nI (pl + (k + 1))) = up (up I 310 14 (nI (pl + (k + 1)))) 310 15 (nI pl) := mvT_b _ _ _ _
            refine ⟨fun c => absurd c (nI_ge (by omega) (by omega)), fun _ => ⟨vp_in_nI (by omega) (by decide), fun c => absurd hin c, fun _ => ⟨fun c9 => ?_, fun c9 => ⟨vp_in_nI (by omega) (by decide), ?_⟩⟩⟩⟩
            · rintro _ rfl _ rfl
              have h9 : 9 ≤ k := (nleI (a := 9) (by decide) (by omega)).mp c9
              rw [nI_1, nI_1, show pl + k + 1 = pl + (k + 1) by omega, eM, show min k 9 = min (k + 1) 9 by omega]
              exact ih (k + 1) (by omega)
            · rintro _ rfl _ rfl _ rfl
              have h9 : k < 9 := by
                rcases Nat.lt_or_ge k 9 with q | q
                · exact q
                · exact absurd (nI_le (a := 9) q (by omega)) c9
              rw [nI_1, nI_1, show pl + k + 1 = pl + (k + 1) by omega, eM]
              have := ih (k + 1) (by omega)
              rw [show pl + min (k + 1) 9 = pl + k + 1 by omega, sgm_snoc (by omega), hwS_snoc] at this
              rw [show min k 9 = k by omega]
              have e : (64 * Int64.ofNat (hwS (sgm T pl (pl + k))) + Int32.toInt64 (bM (T (pl + k))) - 64 : Int64) = Int64.ofNat (64 * hwS (sgm T pl (pl + k)) + (T (pl + k) - 64)) := by
                rw [bM_3 _ (by omega), nI_64 (by omega), show lN (T (pl + k)) = Int64.ofNat (T (pl + k)) from rfl, show (64 : Int64) * Int64.ofNat (hwS (sgm T pl (pl + k))) = Int64.ofNat (64 * hwS (sgm T pl (pl + k))) from (Int64.ofNat_mul 64 _).symm, ← Int64.ofNat_add, show 64 * hwS (sgm T pl (pl + k)) + T (pl + k) = (64 * hwS (sgm T pl (pl + k)) + (T (pl + k) - 64)) + 64 by omega, Int64.ofNat_add]
                exact Int64.add_sub_cancel _ _
              rw [e]
              exact this
        have := loop (a - pl) 0 (by omega)
        rw [show min 0 9 = 0 by omega, Nat.add_zero, sgm_nil] at this
        exact this
      · -- a number
        refine ⟨fun c2 => ⟨fun c3 => absurd lD c3, fun _ => ?_⟩, fun c2 => absurd lD (byL_D c2)⟩
        rintro _ rfl _ rfl
        have loop : ∀ (m k : Nat), pl + k + m = a → Go G mX7_nextToken 3 0 0 232 [some (.ref 310), none, none, none, none] [] SH (mvT I pl (pl + k) 2 (nI (mv9 T pl k))) R L Q := by
          intro m
          have q13 : ∀ k, mvT I pl (pl + k) 2 (nI (mv9 T pl k)) 310 13 = nI n := fun k => by unfold mvT; rw [up_ni (by decide), up_ni (by decide), up_ni (by decide), up_ni (by decide), h1]
          have q14 : ∀ k, mvT I pl (pl + k) 2 (nI (mv9 T pl k)) 310 14 = nI (pl + k) := fun k => by unfold mvT; rw [up_ni (by decide), up_ni (by decide), up_ni (by decide), up_eq]
          have q17 : ∀ k, mvT I pl (pl + k) 2 (nI (mv9 T pl k)) 310 17 = nI (mv9 T pl k) := fun k => by unfold mvT; rw [up_eq]
          have qT : ∀ k j, mvT I pl (pl + k) 2 (nI (mv9 T pl k)) 313 j = I 313 j := fun k j => by unfold mvT; rw [up_nc (by decide), up_nc (by decide), up_nc (by decide), up_nc (by decide)]
          have le9 : ∀ k, pl + k ≤ a → mv9 T pl k ≤ 999999 := fun k hk => mv9_le T pl k (fun j hj => (lr.2.2.1 (pl + j) (by omega) (by omega)).2)
          induction m with
          | zero =>
            intro k hk
            refine b_X7_nextToken_232 hR ?_
            have hfin : Q none SH (mvT I pl (pl + k) 2 (nI (mv9 T pl k))) R L := by
              rw [show pl + k = a by omega]
              exact hq 2 _ (Or.inr (Or.inr (Or.inl ⟨ltk, rfl, _, rfl, le9 k (by omega), by rw [lv, nv_mv, show a - pl = k by omega]⟩)))
            rw [q13, q14, nI_clamp (by omega), qT]
            refine ⟨fun _ => hfin, fun c => ?_⟩
            have han : a < n := by
              rcases Nat.lt_or_ge a n with q | q
              · exact q
              · exact absurd (nI_le (by omega) (by omega)) c
            refine ⟨vp_in_nI (by omega) (by decide), fun _ => hfin, fun c2 => ?_⟩
            have hba := hT.2 a han
            rw [show pl + k = a by omega, hba.1, (bM_2 (T a) (by omega)).2.1] at c2
            exact absurd c2 (lr.2.2.2 han)
          | succ m ih =>
            intro k hk
            have hin := lr.2.2.1 (pl + k) (by omega) (by omega)
            have hin2 : 48 ≤ T (pl + k) ∧ T (pl + k) ≤ 57 := hin
            have hba := hT.2 (pl + k) (by omega)
            have h9 := le9 k (by omega)
            refine b_X7_nextToken_232 hR ?_
            rw [q13, q14, nI_clamp (by omega), qT, hba.1, (bM_2 (T (pl + k)) (by omega)).2.1, q17, show nI (mv9 T pl k) ≤ 99999 ↔ mv9 T pl k ≤ 99999 from nleI (b := 99999) (by omega) (by decide)]
            have eM : ∀ z, up (up (mvT I pl (pl + k) 2 (nI (mv9 T pl k))) 310 17 z) 310 14 (nI (pl + (k + 1))) = mvT I pl (pl + (k + 1)) 2 z := fun z => mvT_c _ _ _ _ _ _ _
            have := ih (k + 1) (by omega)
            rw [mv9] at this
            refine ⟨fun c => absurd c (nI_ge (by omega) (by omega)), fun _ => ⟨vp_in_nI (by omega) (by decide), fun c => absurd hin c, fun _ => ⟨fun c9 => ⟨vp_in_nI (by omega) (by decide), ?_⟩, fun c9 => ?_⟩⟩⟩
            · rintro _ rfl _ rfl
              rw [up_ni (by decide), q14, nI_1, show pl + k + 1 = pl + (k + 1) by omega, eM]
              rw [if_neg (by omega)] at this
              rw [bM_3 _ (by omega), show (10 : Int32) = nI 10 from rfl, show (48 : Int32) = nI 48 from rfl, nI_mul, nI_add, nI_sub (by omega) (by omega), show 10 * mv9 T pl k + T (pl + k) - 48 = 10 * mv9 T pl k + (T (pl + k) - 48) by omega]
              exact this
            · rintro _ rfl _ rfl
              rw [up_ni (by decide), q14, nI_1, show pl + k + 1 = pl + (k + 1) by omega, eM]
              rw [if_pos (by omega)] at this
              exact this
        have := loop (a - pl) 0 (by omega)
        rwa [show mvT I pl (pl + 0) 2 (nI (mv9 T pl 0)) = up (up (up (up I 310 14 (nI pl)) 310 15 (nI pl)) 310 16 2) 310 17 0 from rfl] at this
      · refine ⟨fun _ => ⟨fun _ => ?_, fun c3 => absurd c3 lD⟩, fun c2 => absurd c2 lL⟩
        rintro _ rfl _ rfl
        rw [nI_1, m1.2.2.2.2.2.1, m1.2.2.2.2.2.2]
        have k := sgo (fun s1 hs1 hs4 => ?_)
        · exact casc (fun cS => b_X7_nextToken_365 hR (k 3 (fun _ => rfl) (fun q => absurd cS q))) (fun cS => k 4 (fun q => absurd q cS) (fun _ => rfl))
        have han := l2.2.1
        have hb2 := hT.2 (pl + 1) han
        have m61 := (bM_1 (T (pl + 1)) (by omega)).2.2.1
        have w14 : mvT I pl (pl + 1) s1 (bM (T pl)) 310 14 = nI (pl + 1) := by unfold mvT; rw [up_ni (by decide), up_ni (by decide), up_ni (by decide), up_eq]
        have w13 : mvT I pl (pl + 1) s1 (bM (T pl)) 310 13 = nI n := by unfold mvT; rw [up_ni (by decide), up_ni (by decide), up_ni (by decide), up_ni (by decide), h1]
        have wT : mvT I pl (pl + 1) s1 (bM (T pl)) 313 (pl + 1) = bM (T (pl + 1)) := by unfold mvT; rw [up_nc (by decide), up_nc (by decide), up_nc (by decide), up_nc (by decide), hb2.1]
        have g385 : Go G mX7_nextToken 3 0 0 385 [some (.ref 310), some (.int (bM (T pl))), none, none, none] [] SH (mvT I pl (pl + 1) s1 (bM (T pl))) R L Q := by
          refine b_X7_nextToken_385 hR ?_
          rw [w13, w14, nI_clamp (by omega), wT, m61, m1.2.2.2.1]
          refine ⟨fun c => absurd c (nI_ge (by omega) (by omega)), fun _ => ⟨vp_in_nI (by omega) (by decide), fun c => absurd l2.2.2 c, fun _ => ⟨fun c6 => ?_, fun c6 => ?_⟩⟩⟩
          · rintro _ rfl _ rfl
            rw [up_ni (by decide), w14, nI_1, mvT_c]
            rw [if_neg c6] at ltk
            have hs3 : s1 = 3 := hs1 (Or.inl (by rcases l2.1 with q | q <;> omega))
            rw [hs3, show pl + 1 + 1 = a by omega]
            exact hq 3 301 (Or.inr (Or.inr (Or.inr (Or.inl ⟨by omega, by omega, rfl, by rw [ltk]; rfl⟩))))
          · rintro _ rfl _ rfl
            rw [up_ni (by decide), w14, nI_1, mvT_c]
            rw [if_pos c6] at ltk
            have hs3 : s1 = 3 := hs1 (Or.inl (by rcases l2.1 with q | q <;> omega))
            rw [hs3, show pl + 1 + 1 = a by omega]
            exact hq 3 300 (Or.inr (Or.inr (Or.inr (Or.inl ⟨by omega, by omega, rfl, by rw [ltk]; rfl⟩))))
        refine ⟨fun _ => g385, fun c => ⟨fun c2 => absurd l2.1 (fun q => q.elim c c2), fun _ => g385⟩⟩
      · refine ⟨fun _ => ⟨fun _ => ?_, fun c3 => absurd c3 lD⟩, fun c2 => absurd c2 lL⟩
        rintro _ rfl _ rfl
        rw [nI_1, m1.2.2.2.2.2.1, m1.2.2.2.2.2.2]
        have k := sgo (fun s1 hs1 hs4 => ?_)
        · exact casc (fun cS => b_X7_nextToken_365 hR (k 3 (fun _ => rfl) (fun q => absurd cS q))) (fun cS => k 4 (fun q => absurd q cS) (fun _ => rfl))
        have hst := sg_t (T pl) (by omega)
        have hfin : Q none SH (mvT I pl (pl + 1) s1 (bM (T pl))) R L := by
          rw [← la]
          refine hq s1 _ ?_
          by_cases cS : sgS (T pl)
          · have e3 := hs1 cS
            rcases hst.1 cS with ⟨q1, q2, q3⟩ | ⟨q1, q2⟩
            · exact Or.inr (Or.inr (Or.inr (Or.inl ⟨by omega, by omega, e3, by rw [ltk]; exact q3⟩)))
            · exact Or.inr (Or.inr (Or.inr (Or.inr ⟨by omega, Or.inr ⟨e3, q2⟩⟩)))
          · have := hst.2 cS
            exact Or.inr (Or.inr (Or.inr (Or.inr ⟨by omega, Or.inl (hs4 cS)⟩)))
        have w14 : mvT I pl (pl + 1) s1 (bM (T pl)) 310 14 = nI (pl + 1) := by unfold mvT; rw [up_ni (by decide), up_ni (by decide), up_ni (by decide), up_eq]
        have w13 : mvT I pl (pl + 1) s1 (bM (T pl)) 310 13 = nI n := by unfold mvT; rw [up_ni (by decide), up_ni (by decide), up_ni (by decide), up_ni (by decide), h1]
        have g385 : T pl = 60 ∨ T pl = 62 → Go G mX7_nextToken 3 0 0 385 [some (.ref 310), some (.int (bM (T pl))), none, none, none] [] SH (mvT I pl (pl + 1) s1 (bM (T pl))) R L Q := by
          intro cT
          refine b_X7_nextToken_385 hR ?_
          rw [w13, w14, nI_clamp (by omega)]
          refine ⟨fun _ => hfin, fun c => ?_⟩
          have han : pl + 1 < n := by
            rcases Nat.lt_or_ge (pl + 1) n with q | q
            · exact q
            · exact absurd (nI_le q (by omega)) c
          have hb2 := hT.2 (pl + 1) han
          have wT : mvT I pl (pl + 1) s1 (bM (T pl)) 313 (pl + 1) = bM (T (pl + 1)) := by unfold mvT; rw [up_nc (by decide), up_nc (by decide), up_nc (by decide), up_nc (by decide), hb2.1]
          rw [wT, (bM_1 (T (pl + 1)) (by omega)).2.2.1]
          exact ⟨vp_in_nI (by omega) (by decide), fun _ => hfin, fun c2 => absurd ⟨cT, han, c2⟩ l2⟩
        exact ⟨fun c => g385 (Or.inl c), fun c => ⟨fun _ => hfin, fun c2 => g385 (Or.inr c2)⟩⟩
    · rintro _ rfl
      have ha : tk = 38 ∧ a = pl := by
        rcases hL with ⟨-, e1, e2⟩ | ⟨l1, -⟩ | ⟨l1, -⟩ | ⟨l1, -⟩ | ⟨l1, -⟩
        · exact ⟨e1, e2⟩
        all_goals omega
      have := hq 0 (I 310 17) (Or.inl ⟨ha.1, rfl⟩)
      rw [ha.2] at this
      rwa [mvT_d] at this
  have loop : ∀ (m q : Nat), q + m = pl → p ≤ q → Go G mX7_nextToken 3 0 0 0 [some (.ref 310), none, none, none, none] [] SH (up I 310 14 (nI q)) R L Q := by
    intro m
    induction m with
    | zero =>
      intro q hq2 hpq
      refine b_X7_nextToken_0 hR ?_
      have e : q = pl := by omega
      subst e
      rw [up_ni (by decide), h1, up_eq, nI_clamp (by omega), up_nc (by decide)]
      refine ⟨fun _ => rest, fun c => ?_⟩
      have hqn : q < n := by
        rcases Nat.lt_or_ge q n with h | h
        · exact h
        · exact absurd (nI_le h (by omega)) c
      have hba := hT.2 q hqn
      have m1 := bM_1 (T q) (by omega)
      have nb := hb.2.2.2 hqn
      rw [hba.1, m1.1, m1.2.1]
      exact ⟨vp_in_nI (by omega) (by decide), fun c => absurd (Or.inl c) nb, fun _ => ⟨vp_in_nI (by omega) (by decide), fun _ => rest, fun c => absurd (Or.inr c) nb⟩⟩
    | succ m ih =>
      intro q hq2 hpq
      have hba := hT.2 q (by omega)
      have m1 := bM_1 (T q) (by omega)
      have yb := hb.2.2.1 q hpq (by omega)
      have go : Go G mX7_nextToken 3 0 0 0 [some (.ref 310), none, none, none, none] [] SH (up (up I 310 14 (nI q)) 310 14 (nI q + 1)) R L Q := by
        have := ih (q + 1) (by omega) (by omega)
        rwa [nI_1, up_up]
      refine b_X7_nextToken_0 hR ?_
      rw [up_ni (by decide), h1, up_eq, nI_clamp (by omega), up_nc (by decide), hba.1, m1.1, m1.2.1]
      refine ⟨fun c => absurd c (nI_ge (by omega) (by omega)), fun _ => ⟨vp_in_nI (by omega) (by decide), fun c => ?_, fun c => ⟨vp_in_nI (by omega) (by decide), fun c2 => ?_, fun c2 => ?_⟩⟩⟩
      · rintro _ rfl; exact go
      · exact absurd yb (fun z => z.elim c c2)
      · rintro _ rfl; exact go
  have := loop (pl - p) p (by omega) (by omega)
  rwa [up_id h2] at this
