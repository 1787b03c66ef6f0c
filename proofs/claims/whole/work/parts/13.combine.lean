def clI (v : Int64) : Int32 := if v ≤ 1000000 then (if -1000000 ≤ v then v.toInt32 else -1000000) else 1000000
def cmbI (t a b : Int32) : Int32 :=
  if t = 9 then a ||| b else if t = 10 then a &&& b else if t = 24 then (if b ≤ a then 0 else 1) else if t = 25 then (if a ≤ b then 0 else 1) else if t = 35 then (if b < a then 0 else 1) else if t = 36 then (if a < b then 0 else 1)
  else if t = 26 then (if a = b then 1 else 0) else if t = 27 then (if a = b then 0 else 1) else if t = 31 then (if b = 0 then 0 else a / b) else if t = 28 then clI (a + b).toInt64 else if t = 29 then clI (a - b).toInt64 else clI (a.toInt64 * b.toInt64)
theorem e_X0_isValue {G : gG} {I : gI} {R : gR} {L : gL} {Q : gQ} {c : Int32} (hR : g_Fx R) (h : (c < 10000 → Q (some (.int 1)) SH I R L) ∧ (¬ c < 10000 → (c < 10012 → Q (some (.int 0)) SH I R L) ∧ (¬ c < 10012 → (10024 ≤ c → Q (some (.int 0)) SH I R L) ∧ (¬ 10024 ≤ c → Q (some (.int 1)) SH I R L)))) : Mt G mX0_isValue 1 0 0 [.int c] SH I R L Q := by
  refine go_start rfl (Nat.le_of_ble_eq_true rfl) rfl ?_
  refine go_iload_n dX0_isValue_0 rfl ?_
  refine go_sipush (v := 10000) dX0_isValue_1 (by decide) ?_
  refine go_icmp_lt 21 dX0_isValue_4 (by decide) (fun c => ?_) (fun c => ?_)
  · have h := h.1 c
    refine go_iconst (v := 1) dX0_isValue_21 (by decide) ?_
    refine go_goto 26 dX0_isValue_22 (by decide) ?_
    exact go_zret dX0_isValue_26 rfl rfl rfl h
  · have h := h.2 c
    refine go_iload_n dX0_isValue_7 rfl ?_
    refine go_sipush (v := 10012) dX0_isValue_8 (by decide) ?_
    refine go_icmp_lt 25 dX0_isValue_11 (by decide) (fun c => ?_) (fun c => ?_)
    · have h := h.1 c
      refine go_iconst (v := 0) dX0_isValue_25 (by decide) ?_
      exact go_zret dX0_isValue_26 rfl rfl rfl h
    · have h := h.2 c
      refine go_iload_n dX0_isValue_14 rfl ?_
      refine go_sipush (v := 10024) dX0_isValue_15 (by decide) ?_
      refine go_icmp_ge 25 dX0_isValue_18 (by decide) (fun c => ?_) (fun c => ?_)
      · have h := h.1 c
        refine go_iconst (v := 0) dX0_isValue_25 (by decide) ?_
        exact go_zret dX0_isValue_26 rfl rfl rfl h
      · have h := h.2 c
        refine go_iconst (v := 1) dX0_isValue_21 (by decide) ?_
        refine go_goto 26 dX0_isValue_22 (by decide) ?_
        exact go_zret dX0_isValue_26 rfl rfl rfl h
theorem k_X0_isValue {G : gG} {I : gI} {R : gR} {L : gL} {Q : gQ} {c : Int32} (hR : g_Fx R) (hq : Q (some (.int (if c < 10000 ∨ (10012 ≤ c ∧ c < 10024) then 1 else 0))) SH I R L) : Mt G mX0_isValue 1 0 0 [.int c] SH I R L Q := e_X0_isValue hR (by grind)
theorem e_X0_combine {G : gG} {I : gI} {R : gR} {L : gL} {Q : gQ} {t a b : Int32} (hR : g_Fx R) (h : (t = 9 → Q (some (.int (a ||| b))) SH I R L) ∧ (t = 10 → Q (some (.int (a &&& b))) SH I R L) ∧ (t = 24 → (b ≤ a → Q (some (.int 0)) SH I R L) ∧ (¬ b ≤ a → Q (some (.int 1)) SH I R L)) ∧ (t = 25 → (a ≤ b → Q (some (.int 0)) SH I R L) ∧ (¬ a ≤ b → Q (some (.int 1)) SH I R L)) ∧ (t = 35 → (b < a → Q (some (.int 0)) SH I R L) ∧ (¬ b < a → Q (some (.int 1)) SH I R L)) ∧ (t = 36 → (a < b → Q (some (.int 0)) SH I R L) ∧ (¬ a < b → Q (some (.int 1)) SH I R L)) ∧ (t = 26 → (¬ a = b → Q (some (.int 0)) SH I R L) ∧ (a = b → Q (some (.int 1)) SH I R L)) ∧ (t = 27 → (a = b → Q (some (.int 0)) SH I R L) ∧ (¬ a = b → Q (some (.int 1)) SH I R L)) ∧ (t = 31 → (¬ b = 0 → ¬ b = 0 ∧ (Q (some (.int (a / b))) SH I R L)) ∧ (b = 0 → Q (some (.int 0)) SH I R L)) ∧ (¬ t = 9 ∧ ¬ t = 10 ∧ ¬ t = 24 ∧ ¬ t = 25 ∧ ¬ t = 35 ∧ ¬ t = 36 ∧ ¬ t = 26 ∧ ¬ t = 27 ∧ ¬ t = 31 → ∀ v3_8 : Int64, v3_8 = ((Int32.toInt64 a) * (Int32.toInt64 b)) → (¬ t = 28 → (¬ t = 29 → (v3_8 ≤ 1000000 → ((-1000000) ≤ v3_8 → Q (some (.int (Int64.toInt32 v3_8))) SH I R L) ∧ (¬ (-1000000) ≤ v3_8 → Q (some (.int (-1000000))) SH I R L)) ∧ (¬ v3_8 ≤ 1000000 → Q (some (.int 1000000)) SH I R L)) ∧ (t = 29 → ∀ v3_11 : Int64, v3_11 = (Int32.toInt64 (a - b)) → (v3_11 ≤ 1000000 → ((-1000000) ≤ v3_11 → Q (some (.int (Int64.toInt32 v3_11))) SH I R L) ∧ (¬ (-1000000) ≤ v3_11 → Q (some (.int (-1000000))) SH I R L)) ∧ (¬ v3_11 ≤ 1000000 → Q (some (.int 1000000)) SH I R L))) ∧ (t = 28 → ∀ v3_15 : Int64, v3_15 = (Int32.toInt64 (a + b)) → (v3_15 ≤ 1000000 → ((-1000000) ≤ v3_15 → Q (some (.int (Int64.toInt32 v3_15))) SH I R L) ∧ (¬ (-1000000) ≤ v3_15 → Q (some (.int (-1000000))) SH I R L)) ∧ (¬ v3_15 ≤ 1000000 → Q (some (.int 1000000)) SH I R L)))) : Mt G mX0_combine 1 0 0 [.int t, .int a, .int b] SH I R L Q := by
  refine go_start rfl (Nat.le_of_ble_eq_true rfl) rfl ?_
  refine go_iload_n dX0_combine_0 rfl ?_
  by_cases c0 : t = 9
  · have h := h.1 c0
    refine go_tsIn 128 dX0_combine_1 (by rw [c0]; decide) (by rw [c0]; decide) (by rw [c0]; rfl) (by decide) ?_
    refine go_iload_n dX0_combine_128 rfl ?_
    refine go_iload_n dX0_combine_129 rfl ?_
    refine go_ior dX0_combine_130 ?_
    exact go_iret dX0_combine_131 rfl rfl h
  by_cases c1 : t = 10
  · have h := h.2.1 c1
    refine go_tsIn 132 dX0_combine_1 (by rw [c1]; decide) (by rw [c1]; decide) (by rw [c1]; rfl) (by decide) ?_
    refine go_iload_n dX0_combine_132 rfl ?_
    refine go_iload_n dX0_combine_133 rfl ?_
    refine go_iand dX0_combine_134 ?_
    exact go_iret dX0_combine_135 rfl rfl h
  by_cases c2 : t = 24
  · have h := h.2.2.1 c2
    refine go_tsIn 136 dX0_combine_1 (by rw [c2]; decide) (by rw [c2]; decide) (by rw [c2]; rfl) (by decide) ?_
    refine go_iload_n dX0_combine_136 rfl ?_
    refine go_iload_n dX0_combine_137 rfl ?_
    refine go_icmp_ge 145 dX0_combine_138 (by decide) (fun c => ?_) (fun c => ?_)
    · have h := h.1 c
      refine go_iconst (v := 0) dX0_combine_145 (by decide) ?_
      exact go_iret dX0_combine_146 rfl rfl h
    · have h := h.2 c
      refine go_iconst (v := 1) dX0_combine_141 (by decide) ?_
      refine go_goto 146 dX0_combine_142 (by decide) ?_
      exact go_iret dX0_combine_146 rfl rfl h
  by_cases c3 : t = 25
  · have h := h.2.2.2.1 c3
    refine go_tsIn 147 dX0_combine_1 (by rw [c3]; decide) (by rw [c3]; decide) (by rw [c3]; rfl) (by decide) ?_
    refine go_iload_n dX0_combine_147 rfl ?_
    refine go_iload_n dX0_combine_148 rfl ?_
    refine go_icmp_le 156 dX0_combine_149 (by decide) (fun c => ?_) (fun c => ?_)
    · have h := h.1 c
      refine go_iconst (v := 0) dX0_combine_156 (by decide) ?_
      exact go_iret dX0_combine_157 rfl rfl h
    · have h := h.2 c
      refine go_iconst (v := 1) dX0_combine_152 (by decide) ?_
      refine go_goto 157 dX0_combine_153 (by decide) ?_
      exact go_iret dX0_combine_157 rfl rfl h
  by_cases c4 : t = 35
  · have h := h.2.2.2.2.1 c4
    refine go_tsIn 158 dX0_combine_1 (by rw [c4]; decide) (by rw [c4]; decide) (by rw [c4]; rfl) (by decide) ?_
    refine go_iload_n dX0_combine_158 rfl ?_
    refine go_iload_n dX0_combine_159 rfl ?_
    refine go_icmp_gt 167 dX0_combine_160 (by decide) (fun c => ?_) (fun c => ?_)
    · have h := h.1 c
      refine go_iconst (v := 0) dX0_combine_167 (by decide) ?_
      exact go_iret dX0_combine_168 rfl rfl h
    · have h := h.2 c
      refine go_iconst (v := 1) dX0_combine_163 (by decide) ?_
      refine go_goto 168 dX0_combine_164 (by decide) ?_
      exact go_iret dX0_combine_168 rfl rfl h
  by_cases c5 : t = 36
  · have h := h.2.2.2.2.2.1 c5
    refine go_tsIn 169 dX0_combine_1 (by rw [c5]; decide) (by rw [c5]; decide) (by rw [c5]; rfl) (by decide) ?_
    refine go_iload_n dX0_combine_169 rfl ?_
    refine go_iload_n dX0_combine_170 rfl ?_
    refine go_icmp_lt 178 dX0_combine_171 (by decide) (fun c => ?_) (fun c => ?_)
    · have h := h.1 c
      refine go_iconst (v := 0) dX0_combine_178 (by decide) ?_
      exact go_iret dX0_combine_179 rfl rfl h
    · have h := h.2 c
      refine go_iconst (v := 1) dX0_combine_174 (by decide) ?_
      refine go_goto 179 dX0_combine_175 (by decide) ?_
      exact go_iret dX0_combine_179 rfl rfl h
  by_cases c6 : t = 26
  · have h := h.2.2.2.2.2.2.1 c6
    refine go_tsIn 180 dX0_combine_1 (by rw [c6]; decide) (by rw [c6]; decide) (by rw [c6]; rfl) (by decide) ?_
    refine go_iload_n dX0_combine_180 rfl ?_
    refine go_iload_n dX0_combine_181 rfl ?_
    refine go_icmp_ne 189 dX0_combine_182 (by decide) (fun c => ?_) (fun c => ?_)
    · have h := h.1 c
      refine go_iconst (v := 0) dX0_combine_189 (by decide) ?_
      exact go_iret dX0_combine_190 rfl rfl h
    · have h := h.2 c
      refine go_iconst (v := 1) dX0_combine_185 (by decide) ?_
      refine go_goto 190 dX0_combine_186 (by decide) ?_
      exact go_iret dX0_combine_190 rfl rfl h
  by_cases c7 : t = 27
  · have h := h.2.2.2.2.2.2.2.1 c7
    refine go_tsIn 191 dX0_combine_1 (by rw [c7]; decide) (by rw [c7]; decide) (by rw [c7]; rfl) (by decide) ?_
    refine go_iload_n dX0_combine_191 rfl ?_
    refine go_iload_n dX0_combine_192 rfl ?_
    refine go_icmp_eq 200 dX0_combine_193 (by decide) (fun c => ?_) (fun c => ?_)
    · have h := h.1 c
      refine go_iconst (v := 0) dX0_combine_200 (by decide) ?_
      exact go_iret dX0_combine_201 rfl rfl h
    · have h := h.2 c
      refine go_iconst (v := 1) dX0_combine_196 (by decide) ?_
      refine go_goto 201 dX0_combine_197 (by decide) ?_
      exact go_iret dX0_combine_201 rfl rfl h
  by_cases c8 : t = 31
  · have h := h.2.2.2.2.2.2.2.2.1 c8
    refine go_tsIn 202 dX0_combine_1 (by rw [c8]; decide) (by rw [c8]; decide) (by rw [c8]; rfl) (by decide) ?_
    refine go_iload_n dX0_combine_202 rfl ?_
    refine go_if_ne 210 dX0_combine_203 (by decide) (fun c => ?_) (fun c => ?_)
    · have h := h.1 c
      refine go_iload_n dX0_combine_210 rfl ?_
      refine go_iload_n dX0_combine_211 rfl ?_
      obtain ⟨hn, h⟩ := h
      refine go_idiv dX0_combine_212 hn ?_
      exact go_iret dX0_combine_213 rfl rfl h
    · have h := h.2 c
      refine go_iconst (v := 0) dX0_combine_206 (by decide) ?_
      refine go_goto 213 dX0_combine_207 (by decide) ?_
      exact go_iret dX0_combine_213 rfl rfl h
  have h := h.2.2.2.2.2.2.2.2.2 ⟨c0, c1, c2, c3, c4, c5, c6, c7, c8⟩
  have e0 : ¬ Int32.toInt t = 9 := fun q => c0 (Int32.toInt_inj.mp (q.trans (by decide)))
  have e1 : ¬ Int32.toInt t = 10 := fun q => c1 (Int32.toInt_inj.mp (q.trans (by decide)))
  have e2 : ¬ Int32.toInt t = 24 := fun q => c2 (Int32.toInt_inj.mp (q.trans (by decide)))
  have e3 : ¬ Int32.toInt t = 25 := fun q => c3 (Int32.toInt_inj.mp (q.trans (by decide)))
  have e4 : ¬ Int32.toInt t = 35 := fun q => c4 (Int32.toInt_inj.mp (q.trans (by decide)))
  have e5 : ¬ Int32.toInt t = 36 := fun q => c5 (Int32.toInt_inj.mp (q.trans (by decide)))
  have e6 : ¬ Int32.toInt t = 26 := fun q => c6 (Int32.toInt_inj.mp (q.trans (by decide)))
  have e7 : ¬ Int32.toInt t = 27 := fun q => c7 (Int32.toInt_inj.mp (q.trans (by decide)))
  have e8 : ¬ Int32.toInt t = 31 := fun q => c8 (Int32.toInt_inj.mp (q.trans (by decide)))
  by_cases co : Int32.toInt t < 9 ∨ 36 < Int32.toInt t
  · refine go_tsOut 214 dX0_combine_1 co (by decide) ?_
    refine go_iload_n dX0_combine_214 rfl ?_
    refine go_i2l dX0_combine_215 ?_
    refine go_iload_n dX0_combine_216 rfl ?_
    refine go_i2l dX0_combine_217 ?_
    refine go_lmul dX0_combine_218 ?_
    refine go_lstore_n dX0_combine_219 (Nat.le_of_ble_eq_true rfl) rfl ?_
    have h := h _ rfl
    refine go_iload_n dX0_combine_220 rfl ?_
    refine go_bipush (v := 28) dX0_combine_221 (by decide) ?_
    refine go_icmp_ne 234 dX0_combine_223 (by decide) (fun c => ?_) (fun c => ?_)
    · have h := h.1 c
      refine go_iload_n dX0_combine_234 rfl ?_
      refine go_bipush (v := 29) dX0_combine_235 (by decide) ?_
      refine go_icmp_ne 245 dX0_combine_237 (by decide) (fun c => ?_) (fun c => ?_)
      · have h := h.1 c
        refine go_lload_n dX0_combine_245 rfl ?_
        refine go_ldc2 kX0_111 dX0_combine_246 ?_
        refine go_lcmp dX0_combine_249 ?_
        refine go_if_le 256 dX0_combine_250 (by decide) (fun c => ?_) (fun c => ?_)
        · have h := h.1 (lc_le.mp c)
          refine go_lload_n dX0_combine_256 rfl ?_
          refine go_ldc2 kX0_114 dX0_combine_257 ?_
          refine go_lcmp dX0_combine_260 ?_
          refine go_if_ge 269 dX0_combine_261 (by decide) (fun c => ?_) (fun c => ?_)
          · have h := h.1 (lc_ge.mp c)
            refine go_lload_n dX0_combine_269 rfl ?_
            refine go_l2i dX0_combine_270 ?_
            exact go_iret dX0_combine_271 rfl rfl h
          · have h := h.2 (lc_ge_n.mp c)
            refine go_ldc kX0_116 dX0_combine_264 ?_
            refine go_goto 271 dX0_combine_266 (by decide) ?_
            exact go_iret dX0_combine_271 rfl rfl h
        · have h := h.2 (lc_le_n.mp c)
          refine go_ldc kX0_113 dX0_combine_253 ?_
          exact go_iret dX0_combine_255 rfl rfl h
      · have h := h.2 c
        refine go_iload_n dX0_combine_240 rfl ?_
        refine go_iload_n dX0_combine_241 rfl ?_
        refine go_isub dX0_combine_242 ?_
        refine go_i2l dX0_combine_243 ?_
        refine go_lstore_n dX0_combine_244 (Nat.le_of_ble_eq_true rfl) rfl ?_
        have h := h _ rfl
        refine go_lload_n dX0_combine_245 rfl ?_
        refine go_ldc2 kX0_111 dX0_combine_246 ?_
        refine go_lcmp dX0_combine_249 ?_
        refine go_if_le 256 dX0_combine_250 (by decide) (fun c => ?_) (fun c => ?_)
        · have h := h.1 (lc_le.mp c)
          refine go_lload_n dX0_combine_256 rfl ?_
          refine go_ldc2 kX0_114 dX0_combine_257 ?_
          refine go_lcmp dX0_combine_260 ?_
          refine go_if_ge 269 dX0_combine_261 (by decide) (fun c => ?_) (fun c => ?_)
          · have h := h.1 (lc_ge.mp c)
            refine go_lload_n dX0_combine_269 rfl ?_
            refine go_l2i dX0_combine_270 ?_
            exact go_iret dX0_combine_271 rfl rfl h
          · have h := h.2 (lc_ge_n.mp c)
            refine go_ldc kX0_116 dX0_combine_264 ?_
            refine go_goto 271 dX0_combine_266 (by decide) ?_
            exact go_iret dX0_combine_271 rfl rfl h
        · have h := h.2 (lc_le_n.mp c)
          refine go_ldc kX0_113 dX0_combine_253 ?_
          exact go_iret dX0_combine_255 rfl rfl h
    · have h := h.2 c
      refine go_iload_n dX0_combine_226 rfl ?_
      refine go_iload_n dX0_combine_227 rfl ?_
      refine go_iadd dX0_combine_228 ?_
      refine go_i2l dX0_combine_229 ?_
      refine go_lstore_n dX0_combine_230 (Nat.le_of_ble_eq_true rfl) rfl ?_
      have h := h _ rfl
      refine go_goto 245 dX0_combine_231 (by decide) ?_
      refine go_lload_n dX0_combine_245 rfl ?_
      refine go_ldc2 kX0_111 dX0_combine_246 ?_
      refine go_lcmp dX0_combine_249 ?_
      refine go_if_le 256 dX0_combine_250 (by decide) (fun c => ?_) (fun c => ?_)
      · have h := h.1 (lc_le.mp c)
        refine go_lload_n dX0_combine_256 rfl ?_
        refine go_ldc2 kX0_114 dX0_combine_257 ?_
        refine go_lcmp dX0_combine_260 ?_
        refine go_if_ge 269 dX0_combine_261 (by decide) (fun c => ?_) (fun c => ?_)
        · have h := h.1 (lc_ge.mp c)
          refine go_lload_n dX0_combine_269 rfl ?_
          refine go_l2i dX0_combine_270 ?_
          exact go_iret dX0_combine_271 rfl rfl h
        · have h := h.2 (lc_ge_n.mp c)
          refine go_ldc kX0_116 dX0_combine_264 ?_
          refine go_goto 271 dX0_combine_266 (by decide) ?_
          exact go_iret dX0_combine_271 rfl rfl h
      · have h := h.2 (lc_le_n.mp c)
        refine go_ldc kX0_113 dX0_combine_253 ?_
        exact go_iret dX0_combine_255 rfl rfl h
  by_cases cv11 : Int32.toInt t = 11
  · refine go_tsIn 214 dX0_combine_1 (by rw [cv11]; decide) (by rw [cv11]; decide) (by rw [cv11]; rfl) (by decide) ?_
    refine go_iload_n dX0_combine_214 rfl ?_
    refine go_i2l dX0_combine_215 ?_
    refine go_iload_n dX0_combine_216 rfl ?_
    refine go_i2l dX0_combine_217 ?_
    refine go_lmul dX0_combine_218 ?_
    refine go_lstore_n dX0_combine_219 (Nat.le_of_ble_eq_true rfl) rfl ?_
    have h := h _ rfl
    refine go_iload_n dX0_combine_220 rfl ?_
    refine go_bipush (v := 28) dX0_combine_221 (by decide) ?_
    refine go_icmp_ne 234 dX0_combine_223 (by decide) (fun c => ?_) (fun c => ?_)
    · have h := h.1 c
      refine go_iload_n dX0_combine_234 rfl ?_
      refine go_bipush (v := 29) dX0_combine_235 (by decide) ?_
      refine go_icmp_ne 245 dX0_combine_237 (by decide) (fun c => ?_) (fun c => ?_)
      · have h := h.1 c
        refine go_lload_n dX0_combine_245 rfl ?_
        refine go_ldc2 kX0_111 dX0_combine_246 ?_
        refine go_lcmp dX0_combine_249 ?_
        refine go_if_le 256 dX0_combine_250 (by decide) (fun c => ?_) (fun c => ?_)
        · have h := h.1 (lc_le.mp c)
          refine go_lload_n dX0_combine_256 rfl ?_
          refine go_ldc2 kX0_114 dX0_combine_257 ?_
          refine go_lcmp dX0_combine_260 ?_
          refine go_if_ge 269 dX0_combine_261 (by decide) (fun c => ?_) (fun c => ?_)
          · have h := h.1 (lc_ge.mp c)
            refine go_lload_n dX0_combine_269 rfl ?_
            refine go_l2i dX0_combine_270 ?_
            exact go_iret dX0_combine_271 rfl rfl h
          · have h := h.2 (lc_ge_n.mp c)
            refine go_ldc kX0_116 dX0_combine_264 ?_
            refine go_goto 271 dX0_combine_266 (by decide) ?_
            exact go_iret dX0_combine_271 rfl rfl h
        · have h := h.2 (lc_le_n.mp c)
          refine go_ldc kX0_113 dX0_combine_253 ?_
          exact go_iret dX0_combine_255 rfl rfl h
      · have h := h.2 c
        refine go_iload_n dX0_combine_240 rfl ?_
        refine go_iload_n dX0_combine_241 rfl ?_
        refine go_isub dX0_combine_242 ?_
        refine go_i2l dX0_combine_243 ?_
        refine go_lstore_n dX0_combine_244 (Nat.le_of_ble_eq_true rfl) rfl ?_
        have h := h _ rfl
        refine go_lload_n dX0_combine_245 rfl ?_
        refine go_ldc2 kX0_111 dX0_combine_246 ?_
        refine go_lcmp dX0_combine_249 ?_
        refine go_if_le 256 dX0_combine_250 (by decide) (fun c => ?_) (fun c => ?_)
        · have h := h.1 (lc_le.mp c)
          refine go_lload_n dX0_combine_256 rfl ?_
          refine go_ldc2 kX0_114 dX0_combine_257 ?_
          refine go_lcmp dX0_combine_260 ?_
          refine go_if_ge 269 dX0_combine_261 (by decide) (fun c => ?_) (fun c => ?_)
          · have h := h.1 (lc_ge.mp c)
            refine go_lload_n dX0_combine_269 rfl ?_
            refine go_l2i dX0_combine_270 ?_
            exact go_iret dX0_combine_271 rfl rfl h
          · have h := h.2 (lc_ge_n.mp c)
            refine go_ldc kX0_116 dX0_combine_264 ?_
            refine go_goto 271 dX0_combine_266 (by decide) ?_
            exact go_iret dX0_combine_271 rfl rfl h
        · have h := h.2 (lc_le_n.mp c)
          refine go_ldc kX0_113 dX0_combine_253 ?_
          exact go_iret dX0_combine_255 rfl rfl h
    · have h := h.2 c
      refine go_iload_n dX0_combine_226 rfl ?_
      refine go_iload_n dX0_combine_227 rfl ?_
      refine go_iadd dX0_combine_228 ?_
      refine go_i2l dX0_combine_229 ?_
      refine go_lstore_n dX0_combine_230 (Nat.le_of_ble_eq_true rfl) rfl ?_
      have h := h _ rfl
      refine go_goto 245 dX0_combine_231 (by decide) ?_
      refine go_lload_n dX0_combine_245 rfl ?_
      refine go_ldc2 kX0_111 dX0_combine_246 ?_
      refine go_lcmp dX0_combine_249 ?_
      refine go_if_le 256 dX0_combine_250 (by decide) (fun c => ?_) (fun c => ?_)
      · have h := h.1 (lc_le.mp c)
        refine go_lload_n dX0_combine_256 rfl ?_
        refine go_ldc2 kX0_114 dX0_combine_257 ?_
        refine go_lcmp dX0_combine_260 ?_
        refine go_if_ge 269 dX0_combine_261 (by decide) (fun c => ?_) (fun c => ?_)
        · have h := h.1 (lc_ge.mp c)
          refine go_lload_n dX0_combine_269 rfl ?_
          refine go_l2i dX0_combine_270 ?_
          exact go_iret dX0_combine_271 rfl rfl h
        · have h := h.2 (lc_ge_n.mp c)
          refine go_ldc kX0_116 dX0_combine_264 ?_
          refine go_goto 271 dX0_combine_266 (by decide) ?_
          exact go_iret dX0_combine_271 rfl rfl h
      · have h := h.2 (lc_le_n.mp c)
        refine go_ldc kX0_113 dX0_combine_253 ?_
        exact go_iret dX0_combine_255 rfl rfl h
  by_cases cv12 : Int32.toInt t = 12
  · refine go_tsIn 214 dX0_combine_1 (by rw [cv12]; decide) (by rw [cv12]; decide) (by rw [cv12]; rfl) (by decide) ?_
    refine go_iload_n dX0_combine_214 rfl ?_
    refine go_i2l dX0_combine_215 ?_
    refine go_iload_n dX0_combine_216 rfl ?_
    refine go_i2l dX0_combine_217 ?_
    refine go_lmul dX0_combine_218 ?_
    refine go_lstore_n dX0_combine_219 (Nat.le_of_ble_eq_true rfl) rfl ?_
    have h := h _ rfl
    refine go_iload_n dX0_combine_220 rfl ?_
    refine go_bipush (v := 28) dX0_combine_221 (by decide) ?_
    refine go_icmp_ne 234 dX0_combine_223 (by decide) (fun c => ?_) (fun c => ?_)
    · have h := h.1 c
      refine go_iload_n dX0_combine_234 rfl ?_
      refine go_bipush (v := 29) dX0_combine_235 (by decide) ?_
      refine go_icmp_ne 245 dX0_combine_237 (by decide) (fun c => ?_) (fun c => ?_)
      · have h := h.1 c
        refine go_lload_n dX0_combine_245 rfl ?_
        refine go_ldc2 kX0_111 dX0_combine_246 ?_
        refine go_lcmp dX0_combine_249 ?_
        refine go_if_le 256 dX0_combine_250 (by decide) (fun c => ?_) (fun c => ?_)
        · have h := h.1 (lc_le.mp c)
          refine go_lload_n dX0_combine_256 rfl ?_
          refine go_ldc2 kX0_114 dX0_combine_257 ?_
          refine go_lcmp dX0_combine_260 ?_
          refine go_if_ge 269 dX0_combine_261 (by decide) (fun c => ?_) (fun c => ?_)
          · have h := h.1 (lc_ge.mp c)
            refine go_lload_n dX0_combine_269 rfl ?_
            refine go_l2i dX0_combine_270 ?_
            exact go_iret dX0_combine_271 rfl rfl h
          · have h := h.2 (lc_ge_n.mp c)
            refine go_ldc kX0_116 dX0_combine_264 ?_
            refine go_goto 271 dX0_combine_266 (by decide) ?_
            exact go_iret dX0_combine_271 rfl rfl h
        · have h := h.2 (lc_le_n.mp c)
          refine go_ldc kX0_113 dX0_combine_253 ?_
          exact go_iret dX0_combine_255 rfl rfl h
      · have h := h.2 c
        refine go_iload_n dX0_combine_240 rfl ?_
        refine go_iload_n dX0_combine_241 rfl ?_
        refine go_isub dX0_combine_242 ?_
        refine go_i2l dX0_combine_243 ?_
        refine go_lstore_n dX0_combine_244 (Nat.le_of_ble_eq_true rfl) rfl ?_
        have h := h _ rfl
        refine go_lload_n dX0_combine_245 rfl ?_
        refine go_ldc2 kX0_111 dX0_combine_246 ?_
        refine go_lcmp dX0_combine_249 ?_
        refine go_if_le 256 dX0_combine_250 (by decide) (fun c => ?_) (fun c => ?_)
        · have h := h.1 (lc_le.mp c)
          refine go_lload_n dX0_combine_256 rfl ?_
          refine go_ldc2 kX0_114 dX0_combine_257 ?_
          refine go_lcmp dX0_combine_260 ?_
          refine go_if_ge 269 dX0_combine_261 (by decide) (fun c => ?_) (fun c => ?_)
          · have h := h.1 (lc_ge.mp c)
            refine go_lload_n dX0_combine_269 rfl ?_
            refine go_l2i dX0_combine_270 ?_
            exact go_iret dX0_combine_271 rfl rfl h
          · have h := h.2 (lc_ge_n.mp c)
            refine go_ldc kX0_116 dX0_combine_264 ?_
            refine go_goto 271 dX0_combine_266 (by decide) ?_
            exact go_iret dX0_combine_271 rfl rfl h
        · have h := h.2 (lc_le_n.mp c)
          refine go_ldc kX0_113 dX0_combine_253 ?_
          exact go_iret dX0_combine_255 rfl rfl h
    · have h := h.2 c
      refine go_iload_n dX0_combine_226 rfl ?_
      refine go_iload_n dX0_combine_227 rfl ?_
      refine go_iadd dX0_combine_228 ?_
      refine go_i2l dX0_combine_229 ?_
      refine go_lstore_n dX0_combine_230 (Nat.le_of_ble_eq_true rfl) rfl ?_
      have h := h _ rfl
      refine go_goto 245 dX0_combine_231 (by decide) ?_
      refine go_lload_n dX0_combine_245 rfl ?_
      refine go_ldc2 kX0_111 dX0_combine_246 ?_
      refine go_lcmp dX0_combine_249 ?_
      refine go_if_le 256 dX0_combine_250 (by decide) (fun c => ?_) (fun c => ?_)
      · have h := h.1 (lc_le.mp c)
        refine go_lload_n dX0_combine_256 rfl ?_
        refine go_ldc2 kX0_114 dX0_combine_257 ?_
        refine go_lcmp dX0_combine_260 ?_
        refine go_if_ge 269 dX0_combine_261 (by decide) (fun c => ?_) (fun c => ?_)
        · have h := h.1 (lc_ge.mp c)
          refine go_lload_n dX0_combine_269 rfl ?_
          refine go_l2i dX0_combine_270 ?_
          exact go_iret dX0_combine_271 rfl rfl h
        · have h := h.2 (lc_ge_n.mp c)
          refine go_ldc kX0_116 dX0_combine_264 ?_
          refine go_goto 271 dX0_combine_266 (by decide) ?_
          exact go_iret dX0_combine_271 rfl rfl h
      · have h := h.2 (lc_le_n.mp c)
        refine go_ldc kX0_113 dX0_combine_253 ?_
        exact go_iret dX0_combine_255 rfl rfl h
  by_cases cv13 : Int32.toInt t = 13
  · refine go_tsIn 214 dX0_combine_1 (by rw [cv13]; decide) (by rw [cv13]; decide) (by rw [cv13]; rfl) (by decide) ?_
    refine go_iload_n dX0_combine_214 rfl ?_
    refine go_i2l dX0_combine_215 ?_
    refine go_iload_n dX0_combine_216 rfl ?_
    refine go_i2l dX0_combine_217 ?_
    refine go_lmul dX0_combine_218 ?_
    refine go_lstore_n dX0_combine_219 (Nat.le_of_ble_eq_true rfl) rfl ?_
    have h := h _ rfl
    refine go_iload_n dX0_combine_220 rfl ?_
    refine go_bipush (v := 28) dX0_combine_221 (by decide) ?_
    refine go_icmp_ne 234 dX0_combine_223 (by decide) (fun c => ?_) (fun c => ?_)
    · have h := h.1 c
      refine go_iload_n dX0_combine_234 rfl ?_
      refine go_bipush (v := 29) dX0_combine_235 (by decide) ?_
      refine go_icmp_ne 245 dX0_combine_237 (by decide) (fun c => ?_) (fun c => ?_)
      · have h := h.1 c
        refine go_lload_n dX0_combine_245 rfl ?_
        refine go_ldc2 kX0_111 dX0_combine_246 ?_
        refine go_lcmp dX0_combine_249 ?_
        refine go_if_le 256 dX0_combine_250 (by decide) (fun c => ?_) (fun c => ?_)
        · have h := h.1 (lc_le.mp c)
          refine go_lload_n dX0_combine_256 rfl ?_
          refine go_ldc2 kX0_114 dX0_combine_257 ?_
          refine go_lcmp dX0_combine_260 ?_
          refine go_if_ge 269 dX0_combine_261 (by decide) (fun c => ?_) (fun c => ?_)
          · have h := h.1 (lc_ge.mp c)
            refine go_lload_n dX0_combine_269 rfl ?_
            refine go_l2i dX0_combine_270 ?_
            exact go_iret dX0_combine_271 rfl rfl h
          · have h := h.2 (lc_ge_n.mp c)
            refine go_ldc kX0_116 dX0_combine_264 ?_
            refine go_goto 271 dX0_combine_266 (by decide) ?_
            exact go_iret dX0_combine_271 rfl rfl h
        · have h := h.2 (lc_le_n.mp c)
          refine go_ldc kX0_113 dX0_combine_253 ?_
          exact go_iret dX0_combine_255 rfl rfl h
      · have h := h.2 c
        refine go_iload_n dX0_combine_240 rfl ?_
        refine go_iload_n dX0_combine_241 rfl ?_
        refine go_isub dX0_combine_242 ?_
        refine go_i2l dX0_combine_243 ?_
        refine go_lstore_n dX0_combine_244 (Nat.le_of_ble_eq_true rfl) rfl ?_
        have h := h _ rfl
        refine go_lload_n dX0_combine_245 rfl ?_
        refine go_ldc2 kX0_111 dX0_combine_246 ?_
        refine go_lcmp dX0_combine_249 ?_
        refine go_if_le 256 dX0_combine_250 (by decide) (fun c => ?_) (fun c => ?_)
        · have h := h.1 (lc_le.mp c)
          refine go_lload_n dX0_combine_256 rfl ?_
          refine go_ldc2 kX0_114 dX0_combine_257 ?_
          refine go_lcmp dX0_combine_260 ?_
          refine go_if_ge 269 dX0_combine_261 (by decide) (fun c => ?_) (fun c => ?_)
          · have h := h.1 (lc_ge.mp c)
            refine go_lload_n dX0_combine_269 rfl ?_
            refine go_l2i dX0_combine_270 ?_
            exact go_iret dX0_combine_271 rfl rfl h
          · have h := h.2 (lc_ge_n.mp c)
            refine go_ldc kX0_116 dX0_combine_264 ?_
            refine go_goto 271 dX0_combine_266 (by decide) ?_
            exact go_iret dX0_combine_271 rfl rfl h
        · have h := h.2 (lc_le_n.mp c)
          refine go_ldc kX0_113 dX0_combine_253 ?_
          exact go_iret dX0_combine_255 rfl rfl h
    · have h := h.2 c
      refine go_iload_n dX0_combine_226 rfl ?_
      refine go_iload_n dX0_combine_227 rfl ?_
      refine go_iadd dX0_combine_228 ?_
      refine go_i2l dX0_combine_229 ?_
      refine go_lstore_n dX0_combine_230 (Nat.le_of_ble_eq_true rfl) rfl ?_
      have h := h _ rfl
      refine go_goto 245 dX0_combine_231 (by decide) ?_
      refine go_lload_n dX0_combine_245 rfl ?_
      refine go_ldc2 kX0_111 dX0_combine_246 ?_
      refine go_lcmp dX0_combine_249 ?_
      refine go_if_le 256 dX0_combine_250 (by decide) (fun c => ?_) (fun c => ?_)
      · have h := h.1 (lc_le.mp c)
        refine go_lload_n dX0_combine_256 rfl ?_
        refine go_ldc2 kX0_114 dX0_combine_257 ?_
        refine go_lcmp dX0_combine_260 ?_
        refine go_if_ge 269 dX0_combine_261 (by decide) (fun c => ?_) (fun c => ?_)
        · have h := h.1 (lc_ge.mp c)
          refine go_lload_n dX0_combine_269 rfl ?_
          refine go_l2i dX0_combine_270 ?_
          exact go_iret dX0_combine_271 rfl rfl h
        · have h := h.2 (lc_ge_n.mp c)
          refine go_ldc kX0_116 dX0_combine_264 ?_
          refine go_goto 271 dX0_combine_266 (by decide) ?_
          exact go_iret dX0_combine_271 rfl rfl h
      · have h := h.2 (lc_le_n.mp c)
        refine go_ldc kX0_113 dX0_combine_253 ?_
        exact go_iret dX0_combine_255 rfl rfl h
  by_cases cv14 : Int32.toInt t = 14
  · refine go_tsIn 214 dX0_combine_1 (by rw [cv14]; decide) (by rw [cv14]; decide) (by rw [cv14]; rfl) (by decide) ?_
    refine go_iload_n dX0_combine_214 rfl ?_
    refine go_i2l dX0_combine_215 ?_
    refine go_iload_n dX0_combine_216 rfl ?_
    refine go_i2l dX0_combine_217 ?_
    refine go_lmul dX0_combine_218 ?_
    refine go_lstore_n dX0_combine_219 (Nat.le_of_ble_eq_true rfl) rfl ?_
    have h := h _ rfl
    refine go_iload_n dX0_combine_220 rfl ?_
    refine go_bipush (v := 28) dX0_combine_221 (by decide) ?_
    refine go_icmp_ne 234 dX0_combine_223 (by decide) (fun c => ?_) (fun c => ?_)
    · have h := h.1 c
      refine go_iload_n dX0_combine_234 rfl ?_
      refine go_bipush (v := 29) dX0_combine_235 (by decide) ?_
      refine go_icmp_ne 245 dX0_combine_237 (by decide) (fun c => ?_) (fun c => ?_)
      · have h := h.1 c
        refine go_lload_n dX0_combine_245 rfl ?_
        refine go_ldc2 kX0_111 dX0_combine_246 ?_
        refine go_lcmp dX0_combine_249 ?_
        refine go_if_le 256 dX0_combine_250 (by decide) (fun c => ?_) (fun c => ?_)
        · have h := h.1 (lc_le.mp c)
          refine go_lload_n dX0_combine_256 rfl ?_
          refine go_ldc2 kX0_114 dX0_combine_257 ?_
          refine go_lcmp dX0_combine_260 ?_
          refine go_if_ge 269 dX0_combine_261 (by decide) (fun c => ?_) (fun c => ?_)
          · have h := h.1 (lc_ge.mp c)
            refine go_lload_n dX0_combine_269 rfl ?_
            refine go_l2i dX0_combine_270 ?_
            exact go_iret dX0_combine_271 rfl rfl h
          · have h := h.2 (lc_ge_n.mp c)
            refine go_ldc kX0_116 dX0_combine_264 ?_
            refine go_goto 271 dX0_combine_266 (by decide) ?_
            exact go_iret dX0_combine_271 rfl rfl h
        · have h := h.2 (lc_le_n.mp c)
          refine go_ldc kX0_113 dX0_combine_253 ?_
          exact go_iret dX0_combine_255 rfl rfl h
      · have h := h.2 c
        refine go_iload_n dX0_combine_240 rfl ?_
        refine go_iload_n dX0_combine_241 rfl ?_
        refine go_isub dX0_combine_242 ?_
        refine go_i2l dX0_combine_243 ?_
        refine go_lstore_n dX0_combine_244 (Nat.le_of_ble_eq_true rfl) rfl ?_
        have h := h _ rfl
        refine go_lload_n dX0_combine_245 rfl ?_
        refine go_ldc2 kX0_111 dX0_combine_246 ?_
        refine go_lcmp dX0_combine_249 ?_
        refine go_if_le 256 dX0_combine_250 (by decide) (fun c => ?_) (fun c => ?_)
        · have h := h.1 (lc_le.mp c)
          refine go_lload_n dX0_combine_256 rfl ?_
          refine go_ldc2 kX0_114 dX0_combine_257 ?_
          refine go_lcmp dX0_combine_260 ?_
          refine go_if_ge 269 dX0_combine_261 (by decide) (fun c => ?_) (fun c => ?_)
          · have h := h.1 (lc_ge.mp c)
            refine go_lload_n dX0_combine_269 rfl ?_
            refine go_l2i dX0_combine_270 ?_
            exact go_iret dX0_combine_271 rfl rfl h
          · have h := h.2 (lc_ge_n.mp c)
            refine go_ldc kX0_116 dX0_combine_264 ?_
            refine go_goto 271 dX0_combine_266 (by decide) ?_
            exact go_iret dX0_combine_271 rfl rfl h
        · have h := h.2 (lc_le_n.mp c)
          refine go_ldc kX0_113 dX0_combine_253 ?_
          exact go_iret dX0_combine_255 rfl rfl h
    · have h := h.2 c
      refine go_iload_n dX0_combine_226 rfl ?_
      refine go_iload_n dX0_combine_227 rfl ?_
      refine go_iadd dX0_combine_228 ?_
      refine go_i2l dX0_combine_229 ?_
      refine go_lstore_n dX0_combine_230 (Nat.le_of_ble_eq_true rfl) rfl ?_
      have h := h _ rfl
      refine go_goto 245 dX0_combine_231 (by decide) ?_
      refine go_lload_n dX0_combine_245 rfl ?_
      refine go_ldc2 kX0_111 dX0_combine_246 ?_
      refine go_lcmp dX0_combine_249 ?_
      refine go_if_le 256 dX0_combine_250 (by decide) (fun c => ?_) (fun c => ?_)
      · have h := h.1 (lc_le.mp c)
        refine go_lload_n dX0_combine_256 rfl ?_
        refine go_ldc2 kX0_114 dX0_combine_257 ?_
        refine go_lcmp dX0_combine_260 ?_
        refine go_if_ge 269 dX0_combine_261 (by decide) (fun c => ?_) (fun c => ?_)
        · have h := h.1 (lc_ge.mp c)
          refine go_lload_n dX0_combine_269 rfl ?_
          refine go_l2i dX0_combine_270 ?_
          exact go_iret dX0_combine_271 rfl rfl h
        · have h := h.2 (lc_ge_n.mp c)
          refine go_ldc kX0_116 dX0_combine_264 ?_
          refine go_goto 271 dX0_combine_266 (by decide) ?_
          exact go_iret dX0_combine_271 rfl rfl h
      · have h := h.2 (lc_le_n.mp c)
        refine go_ldc kX0_113 dX0_combine_253 ?_
        exact go_iret dX0_combine_255 rfl rfl h
  by_cases cv15 : Int32.toInt t = 15
  · refine go_tsIn 214 dX0_combine_1 (by rw [cv15]; decide) (by rw [cv15]; decide) (by rw [cv15]; rfl) (by decide) ?_
    refine go_iload_n dX0_combine_214 rfl ?_
    refine go_i2l dX0_combine_215 ?_
    refine go_iload_n dX0_combine_216 rfl ?_
    refine go_i2l dX0_combine_217 ?_
    refine go_lmul dX0_combine_218 ?_
    refine go_lstore_n dX0_combine_219 (Nat.le_of_ble_eq_true rfl) rfl ?_
    have h := h _ rfl
    refine go_iload_n dX0_combine_220 rfl ?_
    refine go_bipush (v := 28) dX0_combine_221 (by decide) ?_
    refine go_icmp_ne 234 dX0_combine_223 (by decide) (fun c => ?_) (fun c => ?_)
    · have h := h.1 c
      refine go_iload_n dX0_combine_234 rfl ?_
      refine go_bipush (v := 29) dX0_combine_235 (by decide) ?_
      refine go_icmp_ne 245 dX0_combine_237 (by decide) (fun c => ?_) (fun c => ?_)
      · have h := h.1 c
        refine go_lload_n dX0_combine_245 rfl ?_
        refine go_ldc2 kX0_111 dX0_combine_246 ?_
        refine go_lcmp dX0_combine_249 ?_
        refine go_if_le 256 dX0_combine_250 (by decide) (fun c => ?_) (fun c => ?_)
        · have h := h.1 (lc_le.mp c)
          refine go_lload_n dX0_combine_256 rfl ?_
          refine go_ldc2 kX0_114 dX0_combine_257 ?_
          refine go_lcmp dX0_combine_260 ?_
          refine go_if_ge 269 dX0_combine_261 (by decide) (fun c => ?_) (fun c => ?_)
          · have h := h.1 (lc_ge.mp c)
            refine go_lload_n dX0_combine_269 rfl ?_
            refine go_l2i dX0_combine_270 ?_
            exact go_iret dX0_combine_271 rfl rfl h
          · have h := h.2 (lc_ge_n.mp c)
            refine go_ldc kX0_116 dX0_combine_264 ?_
            refine go_goto 271 dX0_combine_266 (by decide) ?_
            exact go_iret dX0_combine_271 rfl rfl h
        · have h := h.2 (lc_le_n.mp c)
          refine go_ldc kX0_113 dX0_combine_253 ?_
          exact go_iret dX0_combine_255 rfl rfl h
      · have h := h.2 c
        refine go_iload_n dX0_combine_240 rfl ?_
        refine go_iload_n dX0_combine_241 rfl ?_
        refine go_isub dX0_combine_242 ?_
        refine go_i2l dX0_combine_243 ?_
        refine go_lstore_n dX0_combine_244 (Nat.le_of_ble_eq_true rfl) rfl ?_
        have h := h _ rfl
        refine go_lload_n dX0_combine_245 rfl ?_
        refine go_ldc2 kX0_111 dX0_combine_246 ?_
        refine go_lcmp dX0_combine_249 ?_
        refine go_if_le 256 dX0_combine_250 (by decide) (fun c => ?_) (fun c => ?_)
        · have h := h.1 (lc_le.mp c)
          refine go_lload_n dX0_combine_256 rfl ?_
          refine go_ldc2 kX0_114 dX0_combine_257 ?_
          refine go_lcmp dX0_combine_260 ?_
          refine go_if_ge 269 dX0_combine_261 (by decide) (fun c => ?_) (fun c => ?_)
          · have h := h.1 (lc_ge.mp c)
            refine go_lload_n dX0_combine_269 rfl ?_
            refine go_l2i dX0_combine_270 ?_
            exact go_iret dX0_combine_271 rfl rfl h
          · have h := h.2 (lc_ge_n.mp c)
            refine go_ldc kX0_116 dX0_combine_264 ?_
            refine go_goto 271 dX0_combine_266 (by decide) ?_
            exact go_iret dX0_combine_271 rfl rfl h
        · have h := h.2 (lc_le_n.mp c)
          refine go_ldc kX0_113 dX0_combine_253 ?_
          exact go_iret dX0_combine_255 rfl rfl h
    · have h := h.2 c
      refine go_iload_n dX0_combine_226 rfl ?_
      refine go_iload_n dX0_combine_227 rfl ?_
      refine go_iadd dX0_combine_228 ?_
      refine go_i2l dX0_combine_229 ?_
      refine go_lstore_n dX0_combine_230 (Nat.le_of_ble_eq_true rfl) rfl ?_
      have h := h _ rfl
      refine go_goto 245 dX0_combine_231 (by decide) ?_
      refine go_lload_n dX0_combine_245 rfl ?_
      refine go_ldc2 kX0_111 dX0_combine_246 ?_
      refine go_lcmp dX0_combine_249 ?_
      refine go_if_le 256 dX0_combine_250 (by decide) (fun c => ?_) (fun c => ?_)
      · have h := h.1 (lc_le.mp c)
        refine go_lload_n dX0_combine_256 rfl ?_
        refine go_ldc2 kX0_114 dX0_combine_257 ?_
        refine go_lcmp dX0_combine_260 ?_
        refine go_if_ge 269 dX0_combine_261 (by decide) (fun c => ?_) (fun c => ?_)
        · have h := h.1 (lc_ge.mp c)
          refine go_lload_n dX0_combine_269 rfl ?_
          refine go_l2i dX0_combine_270 ?_
          exact go_iret dX0_combine_271 rfl rfl h
        · have h := h.2 (lc_ge_n.mp c)
          refine go_ldc kX0_116 dX0_combine_264 ?_
          refine go_goto 271 dX0_combine_266 (by decide) ?_
          exact go_iret dX0_combine_271 rfl rfl h
      · have h := h.2 (lc_le_n.mp c)
        refine go_ldc kX0_113 dX0_combine_253 ?_
        exact go_iret dX0_combine_255 rfl rfl h
  by_cases cv16 : Int32.toInt t = 16
  · refine go_tsIn 214 dX0_combine_1 (by rw [cv16]; decide) (by rw [cv16]; decide) (by rw [cv16]; rfl) (by decide) ?_
    refine go_iload_n dX0_combine_214 rfl ?_
    refine go_i2l dX0_combine_215 ?_
    refine go_iload_n dX0_combine_216 rfl ?_
    refine go_i2l dX0_combine_217 ?_
    refine go_lmul dX0_combine_218 ?_
    refine go_lstore_n dX0_combine_219 (Nat.le_of_ble_eq_true rfl) rfl ?_
    have h := h _ rfl
    refine go_iload_n dX0_combine_220 rfl ?_
    refine go_bipush (v := 28) dX0_combine_221 (by decide) ?_
    refine go_icmp_ne 234 dX0_combine_223 (by decide) (fun c => ?_) (fun c => ?_)
    · have h := h.1 c
      refine go_iload_n dX0_combine_234 rfl ?_
      refine go_bipush (v := 29) dX0_combine_235 (by decide) ?_
      refine go_icmp_ne 245 dX0_combine_237 (by decide) (fun c => ?_) (fun c => ?_)
      · have h := h.1 c
        refine go_lload_n dX0_combine_245 rfl ?_
        refine go_ldc2 kX0_111 dX0_combine_246 ?_
        refine go_lcmp dX0_combine_249 ?_
        refine go_if_le 256 dX0_combine_250 (by decide) (fun c => ?_) (fun c => ?_)
        · have h := h.1 (lc_le.mp c)
          refine go_lload_n dX0_combine_256 rfl ?_
          refine go_ldc2 kX0_114 dX0_combine_257 ?_
          refine go_lcmp dX0_combine_260 ?_
          refine go_if_ge 269 dX0_combine_261 (by decide) (fun c => ?_) (fun c => ?_)
          · have h := h.1 (lc_ge.mp c)
            refine go_lload_n dX0_combine_269 rfl ?_
            refine go_l2i dX0_combine_270 ?_
            exact go_iret dX0_combine_271 rfl rfl h
          · have h := h.2 (lc_ge_n.mp c)
            refine go_ldc kX0_116 dX0_combine_264 ?_
            refine go_goto 271 dX0_combine_266 (by decide) ?_
            exact go_iret dX0_combine_271 rfl rfl h
        · have h := h.2 (lc_le_n.mp c)
          refine go_ldc kX0_113 dX0_combine_253 ?_
          exact go_iret dX0_combine_255 rfl rfl h
      · have h := h.2 c
        refine go_iload_n dX0_combine_240 rfl ?_
        refine go_iload_n dX0_combine_241 rfl ?_
        refine go_isub dX0_combine_242 ?_
        refine go_i2l dX0_combine_243 ?_
        refine go_lstore_n dX0_combine_244 (Nat.le_of_ble_eq_true rfl) rfl ?_
        have h := h _ rfl
        refine go_lload_n dX0_combine_245 rfl ?_
        refine go_ldc2 kX0_111 dX0_combine_246 ?_
        refine go_lcmp dX0_combine_249 ?_
        refine go_if_le 256 dX0_combine_250 (by decide) (fun c => ?_) (fun c => ?_)
        · have h := h.1 (lc_le.mp c)
          refine go_lload_n dX0_combine_256 rfl ?_
          refine go_ldc2 kX0_114 dX0_combine_257 ?_
          refine go_lcmp dX0_combine_260 ?_
          refine go_if_ge 269 dX0_combine_261 (by decide) (fun c => ?_) (fun c => ?_)
          · have h := h.1 (lc_ge.mp c)
            refine go_lload_n dX0_combine_269 rfl ?_
            refine go_l2i dX0_combine_270 ?_
            exact go_iret dX0_combine_271 rfl rfl h
          · have h := h.2 (lc_ge_n.mp c)
            refine go_ldc kX0_116 dX0_combine_264 ?_
            refine go_goto 271 dX0_combine_266 (by decide) ?_
            exact go_iret dX0_combine_271 rfl rfl h
        · have h := h.2 (lc_le_n.mp c)
          refine go_ldc kX0_113 dX0_combine_253 ?_
          exact go_iret dX0_combine_255 rfl rfl h
    · have h := h.2 c
      refine go_iload_n dX0_combine_226 rfl ?_
      refine go_iload_n dX0_combine_227 rfl ?_
      refine go_iadd dX0_combine_228 ?_
      refine go_i2l dX0_combine_229 ?_
      refine go_lstore_n dX0_combine_230 (Nat.le_of_ble_eq_true rfl) rfl ?_
      have h := h _ rfl
      refine go_goto 245 dX0_combine_231 (by decide) ?_
      refine go_lload_n dX0_combine_245 rfl ?_
      refine go_ldc2 kX0_111 dX0_combine_246 ?_
      refine go_lcmp dX0_combine_249 ?_
      refine go_if_le 256 dX0_combine_250 (by decide) (fun c => ?_) (fun c => ?_)
      · have h := h.1 (lc_le.mp c)
        refine go_lload_n dX0_combine_256 rfl ?_
        refine go_ldc2 kX0_114 dX0_combine_257 ?_
        refine go_lcmp dX0_combine_260 ?_
        refine go_if_ge 269 dX0_combine_261 (by decide) (fun c => ?_) (fun c => ?_)
        · have h := h.1 (lc_ge.mp c)
          refine go_lload_n dX0_combine_269 rfl ?_
          refine go_l2i dX0_combine_270 ?_
          exact go_iret dX0_combine_271 rfl rfl h
        · have h := h.2 (lc_ge_n.mp c)
          refine go_ldc kX0_116 dX0_combine_264 ?_
          refine go_goto 271 dX0_combine_266 (by decide) ?_
          exact go_iret dX0_combine_271 rfl rfl h
      · have h := h.2 (lc_le_n.mp c)
        refine go_ldc kX0_113 dX0_combine_253 ?_
        exact go_iret dX0_combine_255 rfl rfl h
  by_cases cv17 : Int32.toInt t = 17
  · refine go_tsIn 214 dX0_combine_1 (by rw [cv17]; decide) (by rw [cv17]; decide) (by rw [cv17]; rfl) (by decide) ?_
    refine go_iload_n dX0_combine_214 rfl ?_
    refine go_i2l dX0_combine_215 ?_
    refine go_iload_n dX0_combine_216 rfl ?_
    refine go_i2l dX0_combine_217 ?_
    refine go_lmul dX0_combine_218 ?_
    refine go_lstore_n dX0_combine_219 (Nat.le_of_ble_eq_true rfl) rfl ?_
    have h := h _ rfl
    refine go_iload_n dX0_combine_220 rfl ?_
    refine go_bipush (v := 28) dX0_combine_221 (by decide) ?_
    refine go_icmp_ne 234 dX0_combine_223 (by decide) (fun c => ?_) (fun c => ?_)
    · have h := h.1 c
      refine go_iload_n dX0_combine_234 rfl ?_
      refine go_bipush (v := 29) dX0_combine_235 (by decide) ?_
      refine go_icmp_ne 245 dX0_combine_237 (by decide) (fun c => ?_) (fun c => ?_)
      · have h := h.1 c
        refine go_lload_n dX0_combine_245 rfl ?_
        refine go_ldc2 kX0_111 dX0_combine_246 ?_
        refine go_lcmp dX0_combine_249 ?_
        refine go_if_le 256 dX0_combine_250 (by decide) (fun c => ?_) (fun c => ?_)
        · have h := h.1 (lc_le.mp c)
          refine go_lload_n dX0_combine_256 rfl ?_
          refine go_ldc2 kX0_114 dX0_combine_257 ?_
          refine go_lcmp dX0_combine_260 ?_
          refine go_if_ge 269 dX0_combine_261 (by decide) (fun c => ?_) (fun c => ?_)
          · have h := h.1 (lc_ge.mp c)
            refine go_lload_n dX0_combine_269 rfl ?_
            refine go_l2i dX0_combine_270 ?_
            exact go_iret dX0_combine_271 rfl rfl h
          · have h := h.2 (lc_ge_n.mp c)
            refine go_ldc kX0_116 dX0_combine_264 ?_
            refine go_goto 271 dX0_combine_266 (by decide) ?_
            exact go_iret dX0_combine_271 rfl rfl h
        · have h := h.2 (lc_le_n.mp c)
          refine go_ldc kX0_113 dX0_combine_253 ?_
          exact go_iret dX0_combine_255 rfl rfl h
      · have h := h.2 c
        refine go_iload_n dX0_combine_240 rfl ?_
        refine go_iload_n dX0_combine_241 rfl ?_
        refine go_isub dX0_combine_242 ?_
        refine go_i2l dX0_combine_243 ?_
        refine go_lstore_n dX0_combine_244 (Nat.le_of_ble_eq_true rfl) rfl ?_
        have h := h _ rfl
        refine go_lload_n dX0_combine_245 rfl ?_
        refine go_ldc2 kX0_111 dX0_combine_246 ?_
        refine go_lcmp dX0_combine_249 ?_
        refine go_if_le 256 dX0_combine_250 (by decide) (fun c => ?_) (fun c => ?_)
        · have h := h.1 (lc_le.mp c)
          refine go_lload_n dX0_combine_256 rfl ?_
          refine go_ldc2 kX0_114 dX0_combine_257 ?_
          refine go_lcmp dX0_combine_260 ?_
          refine go_if_ge 269 dX0_combine_261 (by decide) (fun c => ?_) (fun c => ?_)
          · have h := h.1 (lc_ge.mp c)
            refine go_lload_n dX0_combine_269 rfl ?_
            refine go_l2i dX0_combine_270 ?_
            exact go_iret dX0_combine_271 rfl rfl h
          · have h := h.2 (lc_ge_n.mp c)
            refine go_ldc kX0_116 dX0_combine_264 ?_
            refine go_goto 271 dX0_combine_266 (by decide) ?_
            exact go_iret dX0_combine_271 rfl rfl h
        · have h := h.2 (lc_le_n.mp c)
          refine go_ldc kX0_113 dX0_combine_253 ?_
          exact go_iret dX0_combine_255 rfl rfl h
    · have h := h.2 c
      refine go_iload_n dX0_combine_226 rfl ?_
      refine go_iload_n dX0_combine_227 rfl ?_
      refine go_iadd dX0_combine_228 ?_
      refine go_i2l dX0_combine_229 ?_
      refine go_lstore_n dX0_combine_230 (Nat.le_of_ble_eq_true rfl) rfl ?_
      have h := h _ rfl
      refine go_goto 245 dX0_combine_231 (by decide) ?_
      refine go_lload_n dX0_combine_245 rfl ?_
      refine go_ldc2 kX0_111 dX0_combine_246 ?_
      refine go_lcmp dX0_combine_249 ?_
      refine go_if_le 256 dX0_combine_250 (by decide) (fun c => ?_) (fun c => ?_)
      · have h := h.1 (lc_le.mp c)
        refine go_lload_n dX0_combine_256 rfl ?_
        refine go_ldc2 kX0_114 dX0_combine_257 ?_
        refine go_lcmp dX0_combine_260 ?_
        refine go_if_ge 269 dX0_combine_261 (by decide) (fun c => ?_) (fun c => ?_)
        · have h := h.1 (lc_ge.mp c)
          refine go_lload_n dX0_combine_269 rfl ?_
          refine go_l2i dX0_combine_270 ?_
          exact go_iret dX0_combine_271 rfl rfl h
        · have h := h.2 (lc_ge_n.mp c)
          refine go_ldc kX0_116 dX0_combine_264 ?_
          refine go_goto 271 dX0_combine_266 (by decide) ?_
          exact go_iret dX0_combine_271 rfl rfl h
      · have h := h.2 (lc_le_n.mp c)
        refine go_ldc kX0_113 dX0_combine_253 ?_
        exact go_iret dX0_combine_255 rfl rfl h
  by_cases cv18 : Int32.toInt t = 18
  · refine go_tsIn 214 dX0_combine_1 (by rw [cv18]; decide) (by rw [cv18]; decide) (by rw [cv18]; rfl) (by decide) ?_
    refine go_iload_n dX0_combine_214 rfl ?_
    refine go_i2l dX0_combine_215 ?_
    refine go_iload_n dX0_combine_216 rfl ?_
    refine go_i2l dX0_combine_217 ?_
    refine go_lmul dX0_combine_218 ?_
    refine go_lstore_n dX0_combine_219 (Nat.le_of_ble_eq_true rfl) rfl ?_
    have h := h _ rfl
    refine go_iload_n dX0_combine_220 rfl ?_
    refine go_bipush (v := 28) dX0_combine_221 (by decide) ?_
    refine go_icmp_ne 234 dX0_combine_223 (by decide) (fun c => ?_) (fun c => ?_)
    · have h := h.1 c
      refine go_iload_n dX0_combine_234 rfl ?_
      refine go_bipush (v := 29) dX0_combine_235 (by decide) ?_
      refine go_icmp_ne 245 dX0_combine_237 (by decide) (fun c => ?_) (fun c => ?_)
      · have h := h.1 c
        refine go_lload_n dX0_combine_245 rfl ?_
        refine go_ldc2 kX0_111 dX0_combine_246 ?_
        refine go_lcmp dX0_combine_249 ?_
        refine go_if_le 256 dX0_combine_250 (by decide) (fun c => ?_) (fun c => ?_)
        · have h := h.1 (lc_le.mp c)
          refine go_lload_n dX0_combine_256 rfl ?_
          refine go_ldc2 kX0_114 dX0_combine_257 ?_
          refine go_lcmp dX0_combine_260 ?_
          refine go_if_ge 269 dX0_combine_261 (by decide) (fun c => ?_) (fun c => ?_)
          · have h := h.1 (lc_ge.mp c)
            refine go_lload_n dX0_combine_269 rfl ?_
            refine go_l2i dX0_combine_270 ?_
            exact go_iret dX0_combine_271 rfl rfl h
          · have h := h.2 (lc_ge_n.mp c)
            refine go_ldc kX0_116 dX0_combine_264 ?_
            refine go_goto 271 dX0_combine_266 (by decide) ?_
            exact go_iret dX0_combine_271 rfl rfl h
        · have h := h.2 (lc_le_n.mp c)
          refine go_ldc kX0_113 dX0_combine_253 ?_
          exact go_iret dX0_combine_255 rfl rfl h
      · have h := h.2 c
        refine go_iload_n dX0_combine_240 rfl ?_
        refine go_iload_n dX0_combine_241 rfl ?_
        refine go_isub dX0_combine_242 ?_
        refine go_i2l dX0_combine_243 ?_
        refine go_lstore_n dX0_combine_244 (Nat.le_of_ble_eq_true rfl) rfl ?_
        have h := h _ rfl
        refine go_lload_n dX0_combine_245 rfl ?_
        refine go_ldc2 kX0_111 dX0_combine_246 ?_
        refine go_lcmp dX0_combine_249 ?_
        refine go_if_le 256 dX0_combine_250 (by decide) (fun c => ?_) (fun c => ?_)
        · have h := h.1 (lc_le.mp c)
          refine go_lload_n dX0_combine_256 rfl ?_
          refine go_ldc2 kX0_114 dX0_combine_257 ?_
          refine go_lcmp dX0_combine_260 ?_
          refine go_if_ge 269 dX0_combine_261 (by decide) (fun c => ?_) (fun c => ?_)
          · have h := h.1 (lc_ge.mp c)
            refine go_lload_n dX0_combine_269 rfl ?_
            refine go_l2i dX0_combine_270 ?_
            exact go_iret dX0_combine_271 rfl rfl h
          · have h := h.2 (lc_ge_n.mp c)
            refine go_ldc kX0_116 dX0_combine_264 ?_
            refine go_goto 271 dX0_combine_266 (by decide) ?_
            exact go_iret dX0_combine_271 rfl rfl h
        · have h := h.2 (lc_le_n.mp c)
          refine go_ldc kX0_113 dX0_combine_253 ?_
          exact go_iret dX0_combine_255 rfl rfl h
    · have h := h.2 c
      refine go_iload_n dX0_combine_226 rfl ?_
      refine go_iload_n dX0_combine_227 rfl ?_
      refine go_iadd dX0_combine_228 ?_
      refine go_i2l dX0_combine_229 ?_
      refine go_lstore_n dX0_combine_230 (Nat.le_of_ble_eq_true rfl) rfl ?_
      have h := h _ rfl
      refine go_goto 245 dX0_combine_231 (by decide) ?_
      refine go_lload_n dX0_combine_245 rfl ?_
      refine go_ldc2 kX0_111 dX0_combine_246 ?_
      refine go_lcmp dX0_combine_249 ?_
      refine go_if_le 256 dX0_combine_250 (by decide) (fun c => ?_) (fun c => ?_)
      · have h := h.1 (lc_le.mp c)
        refine go_lload_n dX0_combine_256 rfl ?_
        refine go_ldc2 kX0_114 dX0_combine_257 ?_
        refine go_lcmp dX0_combine_260 ?_
        refine go_if_ge 269 dX0_combine_261 (by decide) (fun c => ?_) (fun c => ?_)
        · have h := h.1 (lc_ge.mp c)
          refine go_lload_n dX0_combine_269 rfl ?_
          refine go_l2i dX0_combine_270 ?_
          exact go_iret dX0_combine_271 rfl rfl h
        · have h := h.2 (lc_ge_n.mp c)
          refine go_ldc kX0_116 dX0_combine_264 ?_
          refine go_goto 271 dX0_combine_266 (by decide) ?_
          exact go_iret dX0_combine_271 rfl rfl h
      · have h := h.2 (lc_le_n.mp c)
        refine go_ldc kX0_113 dX0_combine_253 ?_
        exact go_iret dX0_combine_255 rfl rfl h
  by_cases cv19 : Int32.toInt t = 19
  · refine go_tsIn 214 dX0_combine_1 (by rw [cv19]; decide) (by rw [cv19]; decide) (by rw [cv19]; rfl) (by decide) ?_
    refine go_iload_n dX0_combine_214 rfl ?_
    refine go_i2l dX0_combine_215 ?_
    refine go_iload_n dX0_combine_216 rfl ?_
    refine go_i2l dX0_combine_217 ?_
    refine go_lmul dX0_combine_218 ?_
    refine go_lstore_n dX0_combine_219 (Nat.le_of_ble_eq_true rfl) rfl ?_
    have h := h _ rfl
    refine go_iload_n dX0_combine_220 rfl ?_
    refine go_bipush (v := 28) dX0_combine_221 (by decide) ?_
    refine go_icmp_ne 234 dX0_combine_223 (by decide) (fun c => ?_) (fun c => ?_)
    · have h := h.1 c
      refine go_iload_n dX0_combine_234 rfl ?_
      refine go_bipush (v := 29) dX0_combine_235 (by decide) ?_
      refine go_icmp_ne 245 dX0_combine_237 (by decide) (fun c => ?_) (fun c => ?_)
      · have h := h.1 c
        refine go_lload_n dX0_combine_245 rfl ?_
        refine go_ldc2 kX0_111 dX0_combine_246 ?_
        refine go_lcmp dX0_combine_249 ?_
        refine go_if_le 256 dX0_combine_250 (by decide) (fun c => ?_) (fun c => ?_)
        · have h := h.1 (lc_le.mp c)
          refine go_lload_n dX0_combine_256 rfl ?_
          refine go_ldc2 kX0_114 dX0_combine_257 ?_
          refine go_lcmp dX0_combine_260 ?_
          refine go_if_ge 269 dX0_combine_261 (by decide) (fun c => ?_) (fun c => ?_)
          · have h := h.1 (lc_ge.mp c)
            refine go_lload_n dX0_combine_269 rfl ?_
            refine go_l2i dX0_combine_270 ?_
            exact go_iret dX0_combine_271 rfl rfl h
          · have h := h.2 (lc_ge_n.mp c)
            refine go_ldc kX0_116 dX0_combine_264 ?_
            refine go_goto 271 dX0_combine_266 (by decide) ?_
            exact go_iret dX0_combine_271 rfl rfl h
        · have h := h.2 (lc_le_n.mp c)
          refine go_ldc kX0_113 dX0_combine_253 ?_
          exact go_iret dX0_combine_255 rfl rfl h
      · have h := h.2 c
        refine go_iload_n dX0_combine_240 rfl ?_
        refine go_iload_n dX0_combine_241 rfl ?_
        refine go_isub dX0_combine_242 ?_
        refine go_i2l dX0_combine_243 ?_
        refine go_lstore_n dX0_combine_244 (Nat.le_of_ble_eq_true rfl) rfl ?_
        have h := h _ rfl
        refine go_lload_n dX0_combine_245 rfl ?_
        refine go_ldc2 kX0_111 dX0_combine_246 ?_
        refine go_lcmp dX0_combine_249 ?_
        refine go_if_le 256 dX0_combine_250 (by decide) (fun c => ?_) (fun c => ?_)
        · have h := h.1 (lc_le.mp c)
          refine go_lload_n dX0_combine_256 rfl ?_
          refine go_ldc2 kX0_114 dX0_combine_257 ?_
          refine go_lcmp dX0_combine_260 ?_
          refine go_if_ge 269 dX0_combine_261 (by decide) (fun c => ?_) (fun c => ?_)
          · have h := h.1 (lc_ge.mp c)
            refine go_lload_n dX0_combine_269 rfl ?_
            refine go_l2i dX0_combine_270 ?_
            exact go_iret dX0_combine_271 rfl rfl h
          · have h := h.2 (lc_ge_n.mp c)
            refine go_ldc kX0_116 dX0_combine_264 ?_
            refine go_goto 271 dX0_combine_266 (by decide) ?_
            exact go_iret dX0_combine_271 rfl rfl h
        · have h := h.2 (lc_le_n.mp c)
          refine go_ldc kX0_113 dX0_combine_253 ?_
          exact go_iret dX0_combine_255 rfl rfl h
    · have h := h.2 c
      refine go_iload_n dX0_combine_226 rfl ?_
      refine go_iload_n dX0_combine_227 rfl ?_
      refine go_iadd dX0_combine_228 ?_
      refine go_i2l dX0_combine_229 ?_
      refine go_lstore_n dX0_combine_230 (Nat.le_of_ble_eq_true rfl) rfl ?_
      have h := h _ rfl
      refine go_goto 245 dX0_combine_231 (by decide) ?_
      refine go_lload_n dX0_combine_245 rfl ?_
      refine go_ldc2 kX0_111 dX0_combine_246 ?_
      refine go_lcmp dX0_combine_249 ?_
      refine go_if_le 256 dX0_combine_250 (by decide) (fun c => ?_) (fun c => ?_)
      · have h := h.1 (lc_le.mp c)
        refine go_lload_n dX0_combine_256 rfl ?_
        refine go_ldc2 kX0_114 dX0_combine_257 ?_
        refine go_lcmp dX0_combine_260 ?_
        refine go_if_ge 269 dX0_combine_261 (by decide) (fun c => ?_) (fun c => ?_)
        · have h := h.1 (lc_ge.mp c)
          refine go_lload_n dX0_combine_269 rfl ?_
          refine go_l2i dX0_combine_270 ?_
          exact go_iret dX0_combine_271 rfl rfl h
        · have h := h.2 (lc_ge_n.mp c)
          refine go_ldc kX0_116 dX0_combine_264 ?_
          refine go_goto 271 dX0_combine_266 (by decide) ?_
          exact go_iret dX0_combine_271 rfl rfl h
      · have h := h.2 (lc_le_n.mp c)
        refine go_ldc kX0_113 dX0_combine_253 ?_
        exact go_iret dX0_combine_255 rfl rfl h
  by_cases cv20 : Int32.toInt t = 20
  · refine go_tsIn 214 dX0_combine_1 (by rw [cv20]; decide) (by rw [cv20]; decide) (by rw [cv20]; rfl) (by decide) ?_
    refine go_iload_n dX0_combine_214 rfl ?_
    refine go_i2l dX0_combine_215 ?_
    refine go_iload_n dX0_combine_216 rfl ?_
    refine go_i2l dX0_combine_217 ?_
    refine go_lmul dX0_combine_218 ?_
    refine go_lstore_n dX0_combine_219 (Nat.le_of_ble_eq_true rfl) rfl ?_
    have h := h _ rfl
    refine go_iload_n dX0_combine_220 rfl ?_
    refine go_bipush (v := 28) dX0_combine_221 (by decide) ?_
    refine go_icmp_ne 234 dX0_combine_223 (by decide) (fun c => ?_) (fun c => ?_)
    · have h := h.1 c
      refine go_iload_n dX0_combine_234 rfl ?_
      refine go_bipush (v := 29) dX0_combine_235 (by decide) ?_
      refine go_icmp_ne 245 dX0_combine_237 (by decide) (fun c => ?_) (fun c => ?_)
      · have h := h.1 c
        refine go_lload_n dX0_combine_245 rfl ?_
        refine go_ldc2 kX0_111 dX0_combine_246 ?_
        refine go_lcmp dX0_combine_249 ?_
        refine go_if_le 256 dX0_combine_250 (by decide) (fun c => ?_) (fun c => ?_)
        · have h := h.1 (lc_le.mp c)
          refine go_lload_n dX0_combine_256 rfl ?_
          refine go_ldc2 kX0_114 dX0_combine_257 ?_
          refine go_lcmp dX0_combine_260 ?_
          refine go_if_ge 269 dX0_combine_261 (by decide) (fun c => ?_) (fun c => ?_)
          · have h := h.1 (lc_ge.mp c)
            refine go_lload_n dX0_combine_269 rfl ?_
            refine go_l2i dX0_combine_270 ?_
            exact go_iret dX0_combine_271 rfl rfl h
          · have h := h.2 (lc_ge_n.mp c)
            refine go_ldc kX0_116 dX0_combine_264 ?_
            refine go_goto 271 dX0_combine_266 (by decide) ?_
            exact go_iret dX0_combine_271 rfl rfl h
        · have h := h.2 (lc_le_n.mp c)
          refine go_ldc kX0_113 dX0_combine_253 ?_
          exact go_iret dX0_combine_255 rfl rfl h
      · have h := h.2 c
        refine go_iload_n dX0_combine_240 rfl ?_
        refine go_iload_n dX0_combine_241 rfl ?_
        refine go_isub dX0_combine_242 ?_
        refine go_i2l dX0_combine_243 ?_
        refine go_lstore_n dX0_combine_244 (Nat.le_of_ble_eq_true rfl) rfl ?_
        have h := h _ rfl
        refine go_lload_n dX0_combine_245 rfl ?_
        refine go_ldc2 kX0_111 dX0_combine_246 ?_
        refine go_lcmp dX0_combine_249 ?_
        refine go_if_le 256 dX0_combine_250 (by decide) (fun c => ?_) (fun c => ?_)
        · have h := h.1 (lc_le.mp c)
          refine go_lload_n dX0_combine_256 rfl ?_
          refine go_ldc2 kX0_114 dX0_combine_257 ?_
          refine go_lcmp dX0_combine_260 ?_
          refine go_if_ge 269 dX0_combine_261 (by decide) (fun c => ?_) (fun c => ?_)
          · have h := h.1 (lc_ge.mp c)
            refine go_lload_n dX0_combine_269 rfl ?_
            refine go_l2i dX0_combine_270 ?_
            exact go_iret dX0_combine_271 rfl rfl h
          · have h := h.2 (lc_ge_n.mp c)
            refine go_ldc kX0_116 dX0_combine_264 ?_
            refine go_goto 271 dX0_combine_266 (by decide) ?_
            exact go_iret dX0_combine_271 rfl rfl h
        · have h := h.2 (lc_le_n.mp c)
          refine go_ldc kX0_113 dX0_combine_253 ?_
          exact go_iret dX0_combine_255 rfl rfl h
    · have h := h.2 c
      refine go_iload_n dX0_combine_226 rfl ?_
      refine go_iload_n dX0_combine_227 rfl ?_
      refine go_iadd dX0_combine_228 ?_
      refine go_i2l dX0_combine_229 ?_
      refine go_lstore_n dX0_combine_230 (Nat.le_of_ble_eq_true rfl) rfl ?_
      have h := h _ rfl
      refine go_goto 245 dX0_combine_231 (by decide) ?_
      refine go_lload_n dX0_combine_245 rfl ?_
      refine go_ldc2 kX0_111 dX0_combine_246 ?_
      refine go_lcmp dX0_combine_249 ?_
      refine go_if_le 256 dX0_combine_250 (by decide) (fun c => ?_) (fun c => ?_)
      · have h := h.1 (lc_le.mp c)
        refine go_lload_n dX0_combine_256 rfl ?_
        refine go_ldc2 kX0_114 dX0_combine_257 ?_
        refine go_lcmp dX0_combine_260 ?_
        refine go_if_ge 269 dX0_combine_261 (by decide) (fun c => ?_) (fun c => ?_)
        · have h := h.1 (lc_ge.mp c)
          refine go_lload_n dX0_combine_269 rfl ?_
          refine go_l2i dX0_combine_270 ?_
          exact go_iret dX0_combine_271 rfl rfl h
        · have h := h.2 (lc_ge_n.mp c)
          refine go_ldc kX0_116 dX0_combine_264 ?_
          refine go_goto 271 dX0_combine_266 (by decide) ?_
          exact go_iret dX0_combine_271 rfl rfl h
      · have h := h.2 (lc_le_n.mp c)
        refine go_ldc kX0_113 dX0_combine_253 ?_
        exact go_iret dX0_combine_255 rfl rfl h
  by_cases cv21 : Int32.toInt t = 21
  · refine go_tsIn 214 dX0_combine_1 (by rw [cv21]; decide) (by rw [cv21]; decide) (by rw [cv21]; rfl) (by decide) ?_
    refine go_iload_n dX0_combine_214 rfl ?_
    refine go_i2l dX0_combine_215 ?_
    refine go_iload_n dX0_combine_216 rfl ?_
    refine go_i2l dX0_combine_217 ?_
    refine go_lmul dX0_combine_218 ?_
    refine go_lstore_n dX0_combine_219 (Nat.le_of_ble_eq_true rfl) rfl ?_
    have h := h _ rfl
    refine go_iload_n dX0_combine_220 rfl ?_
    refine go_bipush (v := 28) dX0_combine_221 (by decide) ?_
    refine go_icmp_ne 234 dX0_combine_223 (by decide) (fun c => ?_) (fun c => ?_)
    · have h := h.1 c
      refine go_iload_n dX0_combine_234 rfl ?_
      refine go_bipush (v := 29) dX0_combine_235 (by decide) ?_
      refine go_icmp_ne 245 dX0_combine_237 (by decide) (fun c => ?_) (fun c => ?_)
      · have h := h.1 c
        refine go_lload_n dX0_combine_245 rfl ?_
        refine go_ldc2 kX0_111 dX0_combine_246 ?_
        refine go_lcmp dX0_combine_249 ?_
        refine go_if_le 256 dX0_combine_250 (by decide) (fun c => ?_) (fun c => ?_)
        · have h := h.1 (lc_le.mp c)
          refine go_lload_n dX0_combine_256 rfl ?_
          refine go_ldc2 kX0_114 dX0_combine_257 ?_
          refine go_lcmp dX0_combine_260 ?_
          refine go_if_ge 269 dX0_combine_261 (by decide) (fun c => ?_) (fun c => ?_)
          · have h := h.1 (lc_ge.mp c)
            refine go_lload_n dX0_combine_269 rfl ?_
            refine go_l2i dX0_combine_270 ?_
            exact go_iret dX0_combine_271 rfl rfl h
          · have h := h.2 (lc_ge_n.mp c)
            refine go_ldc kX0_116 dX0_combine_264 ?_
            refine go_goto 271 dX0_combine_266 (by decide) ?_
            exact go_iret dX0_combine_271 rfl rfl h
        · have h := h.2 (lc_le_n.mp c)
          refine go_ldc kX0_113 dX0_combine_253 ?_
          exact go_iret dX0_combine_255 rfl rfl h
      · have h := h.2 c
        refine go_iload_n dX0_combine_240 rfl ?_
        refine go_iload_n dX0_combine_241 rfl ?_
        refine go_isub dX0_combine_242 ?_
        refine go_i2l dX0_combine_243 ?_
        refine go_lstore_n dX0_combine_244 (Nat.le_of_ble_eq_true rfl) rfl ?_
        have h := h _ rfl
        refine go_lload_n dX0_combine_245 rfl ?_
        refine go_ldc2 kX0_111 dX0_combine_246 ?_
        refine go_lcmp dX0_combine_249 ?_
        refine go_if_le 256 dX0_combine_250 (by decide) (fun c => ?_) (fun c => ?_)
        · have h := h.1 (lc_le.mp c)
          refine go_lload_n dX0_combine_256 rfl ?_
          refine go_ldc2 kX0_114 dX0_combine_257 ?_
          refine go_lcmp dX0_combine_260 ?_
          refine go_if_ge 269 dX0_combine_261 (by decide) (fun c => ?_) (fun c => ?_)
          · have h := h.1 (lc_ge.mp c)
            refine go_lload_n dX0_combine_269 rfl ?_
            refine go_l2i dX0_combine_270 ?_
            exact go_iret dX0_combine_271 rfl rfl h
          · have h := h.2 (lc_ge_n.mp c)
            refine go_ldc kX0_116 dX0_combine_264 ?_
            refine go_goto 271 dX0_combine_266 (by decide) ?_
            exact go_iret dX0_combine_271 rfl rfl h
        · have h := h.2 (lc_le_n.mp c)
          refine go_ldc kX0_113 dX0_combine_253 ?_
          exact go_iret dX0_combine_255 rfl rfl h
    · have h := h.2 c
      refine go_iload_n dX0_combine_226 rfl ?_
      refine go_iload_n dX0_combine_227 rfl ?_
      refine go_iadd dX0_combine_228 ?_
      refine go_i2l dX0_combine_229 ?_
      refine go_lstore_n dX0_combine_230 (Nat.le_of_ble_eq_true rfl) rfl ?_
      have h := h _ rfl
      refine go_goto 245 dX0_combine_231 (by decide) ?_
      refine go_lload_n dX0_combine_245 rfl ?_
      refine go_ldc2 kX0_111 dX0_combine_246 ?_
      refine go_lcmp dX0_combine_249 ?_
      refine go_if_le 256 dX0_combine_250 (by decide) (fun c => ?_) (fun c => ?_)
      · have h := h.1 (lc_le.mp c)
        refine go_lload_n dX0_combine_256 rfl ?_
        refine go_ldc2 kX0_114 dX0_combine_257 ?_
        refine go_lcmp dX0_combine_260 ?_
        refine go_if_ge 269 dX0_combine_261 (by decide) (fun c => ?_) (fun c => ?_)
        · have h := h.1 (lc_ge.mp c)
          refine go_lload_n dX0_combine_269 rfl ?_
          refine go_l2i dX0_combine_270 ?_
          exact go_iret dX0_combine_271 rfl rfl h
        · have h := h.2 (lc_ge_n.mp c)
          refine go_ldc kX0_116 dX0_combine_264 ?_
          refine go_goto 271 dX0_combine_266 (by decide) ?_
          exact go_iret dX0_combine_271 rfl rfl h
      · have h := h.2 (lc_le_n.mp c)
        refine go_ldc kX0_113 dX0_combine_253 ?_
        exact go_iret dX0_combine_255 rfl rfl h
  by_cases cv22 : Int32.toInt t = 22
  · refine go_tsIn 214 dX0_combine_1 (by rw [cv22]; decide) (by rw [cv22]; decide) (by rw [cv22]; rfl) (by decide) ?_
    refine go_iload_n dX0_combine_214 rfl ?_
    refine go_i2l dX0_combine_215 ?_
    refine go_iload_n dX0_combine_216 rfl ?_
    refine go_i2l dX0_combine_217 ?_
    refine go_lmul dX0_combine_218 ?_
    refine go_lstore_n dX0_combine_219 (Nat.le_of_ble_eq_true rfl) rfl ?_
    have h := h _ rfl
    refine go_iload_n dX0_combine_220 rfl ?_
    refine go_bipush (v := 28) dX0_combine_221 (by decide) ?_
    refine go_icmp_ne 234 dX0_combine_223 (by decide) (fun c => ?_) (fun c => ?_)
    · have h := h.1 c
      refine go_iload_n dX0_combine_234 rfl ?_
      refine go_bipush (v := 29) dX0_combine_235 (by decide) ?_
      refine go_icmp_ne 245 dX0_combine_237 (by decide) (fun c => ?_) (fun c => ?_)
      · have h := h.1 c
        refine go_lload_n dX0_combine_245 rfl ?_
        refine go_ldc2 kX0_111 dX0_combine_246 ?_
        refine go_lcmp dX0_combine_249 ?_
        refine go_if_le 256 dX0_combine_250 (by decide) (fun c => ?_) (fun c => ?_)
        · have h := h.1 (lc_le.mp c)
          refine go_lload_n dX0_combine_256 rfl ?_
          refine go_ldc2 kX0_114 dX0_combine_257 ?_
          refine go_lcmp dX0_combine_260 ?_
          refine go_if_ge 269 dX0_combine_261 (by decide) (fun c => ?_) (fun c => ?_)
          · have h := h.1 (lc_ge.mp c)
            refine go_lload_n dX0_combine_269 rfl ?_
            refine go_l2i dX0_combine_270 ?_
            exact go_iret dX0_combine_271 rfl rfl h
          · have h := h.2 (lc_ge_n.mp c)
            refine go_ldc kX0_116 dX0_combine_264 ?_
            refine go_goto 271 dX0_combine_266 (by decide) ?_
            exact go_iret dX0_combine_271 rfl rfl h
        · have h := h.2 (lc_le_n.mp c)
          refine go_ldc kX0_113 dX0_combine_253 ?_
          exact go_iret dX0_combine_255 rfl rfl h
      · have h := h.2 c
        refine go_iload_n dX0_combine_240 rfl ?_
        refine go_iload_n dX0_combine_241 rfl ?_
        refine go_isub dX0_combine_242 ?_
        refine go_i2l dX0_combine_243 ?_
        refine go_lstore_n dX0_combine_244 (Nat.le_of_ble_eq_true rfl) rfl ?_
        have h := h _ rfl
        refine go_lload_n dX0_combine_245 rfl ?_
        refine go_ldc2 kX0_111 dX0_combine_246 ?_
        refine go_lcmp dX0_combine_249 ?_
        refine go_if_le 256 dX0_combine_250 (by decide) (fun c => ?_) (fun c => ?_)
        · have h := h.1 (lc_le.mp c)
          refine go_lload_n dX0_combine_256 rfl ?_
          refine go_ldc2 kX0_114 dX0_combine_257 ?_
          refine go_lcmp dX0_combine_260 ?_
          refine go_if_ge 269 dX0_combine_261 (by decide) (fun c => ?_) (fun c => ?_)
          · have h := h.1 (lc_ge.mp c)
            refine go_lload_n dX0_combine_269 rfl ?_
            refine go_l2i dX0_combine_270 ?_
            exact go_iret dX0_combine_271 rfl rfl h
          · have h := h.2 (lc_ge_n.mp c)
            refine go_ldc kX0_116 dX0_combine_264 ?_
            refine go_goto 271 dX0_combine_266 (by decide) ?_
            exact go_iret dX0_combine_271 rfl rfl h
        · have h := h.2 (lc_le_n.mp c)
          refine go_ldc kX0_113 dX0_combine_253 ?_
          exact go_iret dX0_combine_255 rfl rfl h
    · have h := h.2 c
      refine go_iload_n dX0_combine_226 rfl ?_
      refine go_iload_n dX0_combine_227 rfl ?_
      refine go_iadd dX0_combine_228 ?_
      refine go_i2l dX0_combine_229 ?_
      refine go_lstore_n dX0_combine_230 (Nat.le_of_ble_eq_true rfl) rfl ?_
      have h := h _ rfl
      refine go_goto 245 dX0_combine_231 (by decide) ?_
      refine go_lload_n dX0_combine_245 rfl ?_
      refine go_ldc2 kX0_111 dX0_combine_246 ?_
      refine go_lcmp dX0_combine_249 ?_
      refine go_if_le 256 dX0_combine_250 (by decide) (fun c => ?_) (fun c => ?_)
      · have h := h.1 (lc_le.mp c)
        refine go_lload_n dX0_combine_256 rfl ?_
        refine go_ldc2 kX0_114 dX0_combine_257 ?_
        refine go_lcmp dX0_combine_260 ?_
        refine go_if_ge 269 dX0_combine_261 (by decide) (fun c => ?_) (fun c => ?_)
        · have h := h.1 (lc_ge.mp c)
          refine go_lload_n dX0_combine_269 rfl ?_
          refine go_l2i dX0_combine_270 ?_
          exact go_iret dX0_combine_271 rfl rfl h
        · have h := h.2 (lc_ge_n.mp c)
          refine go_ldc kX0_116 dX0_combine_264 ?_
          refine go_goto 271 dX0_combine_266 (by decide) ?_
          exact go_iret dX0_combine_271 rfl rfl h
      · have h := h.2 (lc_le_n.mp c)
        refine go_ldc kX0_113 dX0_combine_253 ?_
        exact go_iret dX0_combine_255 rfl rfl h
  by_cases cv23 : Int32.toInt t = 23
  · refine go_tsIn 214 dX0_combine_1 (by rw [cv23]; decide) (by rw [cv23]; decide) (by rw [cv23]; rfl) (by decide) ?_
    refine go_iload_n dX0_combine_214 rfl ?_
    refine go_i2l dX0_combine_215 ?_
    refine go_iload_n dX0_combine_216 rfl ?_
    refine go_i2l dX0_combine_217 ?_
    refine go_lmul dX0_combine_218 ?_
    refine go_lstore_n dX0_combine_219 (Nat.le_of_ble_eq_true rfl) rfl ?_
    have h := h _ rfl
    refine go_iload_n dX0_combine_220 rfl ?_
    refine go_bipush (v := 28) dX0_combine_221 (by decide) ?_
    refine go_icmp_ne 234 dX0_combine_223 (by decide) (fun c => ?_) (fun c => ?_)
    · have h := h.1 c
      refine go_iload_n dX0_combine_234 rfl ?_
      refine go_bipush (v := 29) dX0_combine_235 (by decide) ?_
      refine go_icmp_ne 245 dX0_combine_237 (by decide) (fun c => ?_) (fun c => ?_)
      · have h := h.1 c
        refine go_lload_n dX0_combine_245 rfl ?_
        refine go_ldc2 kX0_111 dX0_combine_246 ?_
        refine go_lcmp dX0_combine_249 ?_
        refine go_if_le 256 dX0_combine_250 (by decide) (fun c => ?_) (fun c => ?_)
        · have h := h.1 (lc_le.mp c)
          refine go_lload_n dX0_combine_256 rfl ?_
          refine go_ldc2 kX0_114 dX0_combine_257 ?_
          refine go_lcmp dX0_combine_260 ?_
          refine go_if_ge 269 dX0_combine_261 (by decide) (fun c => ?_) (fun c => ?_)
          · have h := h.1 (lc_ge.mp c)
            refine go_lload_n dX0_combine_269 rfl ?_
            refine go_l2i dX0_combine_270 ?_
            exact go_iret dX0_combine_271 rfl rfl h
          · have h := h.2 (lc_ge_n.mp c)
            refine go_ldc kX0_116 dX0_combine_264 ?_
            refine go_goto 271 dX0_combine_266 (by decide) ?_
            exact go_iret dX0_combine_271 rfl rfl h
        · have h := h.2 (lc_le_n.mp c)
          refine go_ldc kX0_113 dX0_combine_253 ?_
          exact go_iret dX0_combine_255 rfl rfl h
      · have h := h.2 c
        refine go_iload_n dX0_combine_240 rfl ?_
        refine go_iload_n dX0_combine_241 rfl ?_
        refine go_isub dX0_combine_242 ?_
        refine go_i2l dX0_combine_243 ?_
        refine go_lstore_n dX0_combine_244 (Nat.le_of_ble_eq_true rfl) rfl ?_
        have h := h _ rfl
        refine go_lload_n dX0_combine_245 rfl ?_
        refine go_ldc2 kX0_111 dX0_combine_246 ?_
        refine go_lcmp dX0_combine_249 ?_
        refine go_if_le 256 dX0_combine_250 (by decide) (fun c => ?_) (fun c => ?_)
        · have h := h.1 (lc_le.mp c)
          refine go_lload_n dX0_combine_256 rfl ?_
          refine go_ldc2 kX0_114 dX0_combine_257 ?_
          refine go_lcmp dX0_combine_260 ?_
          refine go_if_ge 269 dX0_combine_261 (by decide) (fun c => ?_) (fun c => ?_)
          · have h := h.1 (lc_ge.mp c)
            refine go_lload_n dX0_combine_269 rfl ?_
            refine go_l2i dX0_combine_270 ?_
            exact go_iret dX0_combine_271 rfl rfl h
          · have h := h.2 (lc_ge_n.mp c)
            refine go_ldc kX0_116 dX0_combine_264 ?_
            refine go_goto 271 dX0_combine_266 (by decide) ?_
            exact go_iret dX0_combine_271 rfl rfl h
        · have h := h.2 (lc_le_n.mp c)
          refine go_ldc kX0_113 dX0_combine_253 ?_
          exact go_iret dX0_combine_255 rfl rfl h
    · have h := h.2 c
      refine go_iload_n dX0_combine_226 rfl ?_
      refine go_iload_n dX0_combine_227 rfl ?_
      refine go_iadd dX0_combine_228 ?_
      refine go_i2l dX0_combine_229 ?_
      refine go_lstore_n dX0_combine_230 (Nat.le_of_ble_eq_true rfl) rfl ?_
      have h := h _ rfl
      refine go_goto 245 dX0_combine_231 (by decide) ?_
      refine go_lload_n dX0_combine_245 rfl ?_
      refine go_ldc2 kX0_111 dX0_combine_246 ?_
      refine go_lcmp dX0_combine_249 ?_
      refine go_if_le 256 dX0_combine_250 (by decide) (fun c => ?_) (fun c => ?_)
      · have h := h.1 (lc_le.mp c)
        refine go_lload_n dX0_combine_256 rfl ?_
        refine go_ldc2 kX0_114 dX0_combine_257 ?_
        refine go_lcmp dX0_combine_260 ?_
        refine go_if_ge 269 dX0_combine_261 (by decide) (fun c => ?_) (fun c => ?_)
        · have h := h.1 (lc_ge.mp c)
          refine go_lload_n dX0_combine_269 rfl ?_
          refine go_l2i dX0_combine_270 ?_
          exact go_iret dX0_combine_271 rfl rfl h
        · have h := h.2 (lc_ge_n.mp c)
          refine go_ldc kX0_116 dX0_combine_264 ?_
          refine go_goto 271 dX0_combine_266 (by decide) ?_
          exact go_iret dX0_combine_271 rfl rfl h
      · have h := h.2 (lc_le_n.mp c)
        refine go_ldc kX0_113 dX0_combine_253 ?_
        exact go_iret dX0_combine_255 rfl rfl h
  by_cases cv28 : Int32.toInt t = 28
  · refine go_tsIn 214 dX0_combine_1 (by rw [cv28]; decide) (by rw [cv28]; decide) (by rw [cv28]; rfl) (by decide) ?_
    refine go_iload_n dX0_combine_214 rfl ?_
    refine go_i2l dX0_combine_215 ?_
    refine go_iload_n dX0_combine_216 rfl ?_
    refine go_i2l dX0_combine_217 ?_
    refine go_lmul dX0_combine_218 ?_
    refine go_lstore_n dX0_combine_219 (Nat.le_of_ble_eq_true rfl) rfl ?_
    have h := h _ rfl
    refine go_iload_n dX0_combine_220 rfl ?_
    refine go_bipush (v := 28) dX0_combine_221 (by decide) ?_
    refine go_icmp_ne 234 dX0_combine_223 (by decide) (fun c => ?_) (fun c => ?_)
    · have h := h.1 c
      refine go_iload_n dX0_combine_234 rfl ?_
      refine go_bipush (v := 29) dX0_combine_235 (by decide) ?_
      refine go_icmp_ne 245 dX0_combine_237 (by decide) (fun c => ?_) (fun c => ?_)
      · have h := h.1 c
        refine go_lload_n dX0_combine_245 rfl ?_
        refine go_ldc2 kX0_111 dX0_combine_246 ?_
        refine go_lcmp dX0_combine_249 ?_
        refine go_if_le 256 dX0_combine_250 (by decide) (fun c => ?_) (fun c => ?_)
        · have h := h.1 (lc_le.mp c)
          refine go_lload_n dX0_combine_256 rfl ?_
          refine go_ldc2 kX0_114 dX0_combine_257 ?_
          refine go_lcmp dX0_combine_260 ?_
          refine go_if_ge 269 dX0_combine_261 (by decide) (fun c => ?_) (fun c => ?_)
          · have h := h.1 (lc_ge.mp c)
            refine go_lload_n dX0_combine_269 rfl ?_
            refine go_l2i dX0_combine_270 ?_
            exact go_iret dX0_combine_271 rfl rfl h
          · have h := h.2 (lc_ge_n.mp c)
            refine go_ldc kX0_116 dX0_combine_264 ?_
            refine go_goto 271 dX0_combine_266 (by decide) ?_
            exact go_iret dX0_combine_271 rfl rfl h
        · have h := h.2 (lc_le_n.mp c)
          refine go_ldc kX0_113 dX0_combine_253 ?_
          exact go_iret dX0_combine_255 rfl rfl h
      · have h := h.2 c
        refine go_iload_n dX0_combine_240 rfl ?_
        refine go_iload_n dX0_combine_241 rfl ?_
        refine go_isub dX0_combine_242 ?_
        refine go_i2l dX0_combine_243 ?_
        refine go_lstore_n dX0_combine_244 (Nat.le_of_ble_eq_true rfl) rfl ?_
        have h := h _ rfl
        refine go_lload_n dX0_combine_245 rfl ?_
        refine go_ldc2 kX0_111 dX0_combine_246 ?_
        refine go_lcmp dX0_combine_249 ?_
        refine go_if_le 256 dX0_combine_250 (by decide) (fun c => ?_) (fun c => ?_)
        · have h := h.1 (lc_le.mp c)
          refine go_lload_n dX0_combine_256 rfl ?_
          refine go_ldc2 kX0_114 dX0_combine_257 ?_
          refine go_lcmp dX0_combine_260 ?_
          refine go_if_ge 269 dX0_combine_261 (by decide) (fun c => ?_) (fun c => ?_)
          · have h := h.1 (lc_ge.mp c)
            refine go_lload_n dX0_combine_269 rfl ?_
            refine go_l2i dX0_combine_270 ?_
            exact go_iret dX0_combine_271 rfl rfl h
          · have h := h.2 (lc_ge_n.mp c)
            refine go_ldc kX0_116 dX0_combine_264 ?_
            refine go_goto 271 dX0_combine_266 (by decide) ?_
            exact go_iret dX0_combine_271 rfl rfl h
        · have h := h.2 (lc_le_n.mp c)
          refine go_ldc kX0_113 dX0_combine_253 ?_
          exact go_iret dX0_combine_255 rfl rfl h
    · have h := h.2 c
      refine go_iload_n dX0_combine_226 rfl ?_
      refine go_iload_n dX0_combine_227 rfl ?_
      refine go_iadd dX0_combine_228 ?_
      refine go_i2l dX0_combine_229 ?_
      refine go_lstore_n dX0_combine_230 (Nat.le_of_ble_eq_true rfl) rfl ?_
      have h := h _ rfl
      refine go_goto 245 dX0_combine_231 (by decide) ?_
      refine go_lload_n dX0_combine_245 rfl ?_
      refine go_ldc2 kX0_111 dX0_combine_246 ?_
      refine go_lcmp dX0_combine_249 ?_
      refine go_if_le 256 dX0_combine_250 (by decide) (fun c => ?_) (fun c => ?_)
      · have h := h.1 (lc_le.mp c)
        refine go_lload_n dX0_combine_256 rfl ?_
        refine go_ldc2 kX0_114 dX0_combine_257 ?_
        refine go_lcmp dX0_combine_260 ?_
        refine go_if_ge 269 dX0_combine_261 (by decide) (fun c => ?_) (fun c => ?_)
        · have h := h.1 (lc_ge.mp c)
          refine go_lload_n dX0_combine_269 rfl ?_
          refine go_l2i dX0_combine_270 ?_
          exact go_iret dX0_combine_271 rfl rfl h
        · have h := h.2 (lc_ge_n.mp c)
          refine go_ldc kX0_116 dX0_combine_264 ?_
          refine go_goto 271 dX0_combine_266 (by decide) ?_
          exact go_iret dX0_combine_271 rfl rfl h
      · have h := h.2 (lc_le_n.mp c)
        refine go_ldc kX0_113 dX0_combine_253 ?_
        exact go_iret dX0_combine_255 rfl rfl h
  by_cases cv29 : Int32.toInt t = 29
  · refine go_tsIn 214 dX0_combine_1 (by rw [cv29]; decide) (by rw [cv29]; decide) (by rw [cv29]; rfl) (by decide) ?_
    refine go_iload_n dX0_combine_214 rfl ?_
    refine go_i2l dX0_combine_215 ?_
    refine go_iload_n dX0_combine_216 rfl ?_
    refine go_i2l dX0_combine_217 ?_
    refine go_lmul dX0_combine_218 ?_
    refine go_lstore_n dX0_combine_219 (Nat.le_of_ble_eq_true rfl) rfl ?_
    have h := h _ rfl
    refine go_iload_n dX0_combine_220 rfl ?_
    refine go_bipush (v := 28) dX0_combine_221 (by decide) ?_
    refine go_icmp_ne 234 dX0_combine_223 (by decide) (fun c => ?_) (fun c => ?_)
    · have h := h.1 c
      refine go_iload_n dX0_combine_234 rfl ?_
      refine go_bipush (v := 29) dX0_combine_235 (by decide) ?_
      refine go_icmp_ne 245 dX0_combine_237 (by decide) (fun c => ?_) (fun c => ?_)
      · have h := h.1 c
        refine go_lload_n dX0_combine_245 rfl ?_
        refine go_ldc2 kX0_111 dX0_combine_246 ?_
        refine go_lcmp dX0_combine_249 ?_
        refine go_if_le 256 dX0_combine_250 (by decide) (fun c => ?_) (fun c => ?_)
        · have h := h.1 (lc_le.mp c)
          refine go_lload_n dX0_combine_256 rfl ?_
          refine go_ldc2 kX0_114 dX0_combine_257 ?_
          refine go_lcmp dX0_combine_260 ?_
          refine go_if_ge 269 dX0_combine_261 (by decide) (fun c => ?_) (fun c => ?_)
          · have h := h.1 (lc_ge.mp c)
            refine go_lload_n dX0_combine_269 rfl ?_
            refine go_l2i dX0_combine_270 ?_
            exact go_iret dX0_combine_271 rfl rfl h
          · have h := h.2 (lc_ge_n.mp c)
            refine go_ldc kX0_116 dX0_combine_264 ?_
            refine go_goto 271 dX0_combine_266 (by decide) ?_
            exact go_iret dX0_combine_271 rfl rfl h
        · have h := h.2 (lc_le_n.mp c)
          refine go_ldc kX0_113 dX0_combine_253 ?_
          exact go_iret dX0_combine_255 rfl rfl h
      · have h := h.2 c
        refine go_iload_n dX0_combine_240 rfl ?_
        refine go_iload_n dX0_combine_241 rfl ?_
        refine go_isub dX0_combine_242 ?_
        refine go_i2l dX0_combine_243 ?_
        refine go_lstore_n dX0_combine_244 (Nat.le_of_ble_eq_true rfl) rfl ?_
        have h := h _ rfl
        refine go_lload_n dX0_combine_245 rfl ?_
        refine go_ldc2 kX0_111 dX0_combine_246 ?_
        refine go_lcmp dX0_combine_249 ?_
        refine go_if_le 256 dX0_combine_250 (by decide) (fun c => ?_) (fun c => ?_)
        · have h := h.1 (lc_le.mp c)
          refine go_lload_n dX0_combine_256 rfl ?_
          refine go_ldc2 kX0_114 dX0_combine_257 ?_
          refine go_lcmp dX0_combine_260 ?_
          refine go_if_ge 269 dX0_combine_261 (by decide) (fun c => ?_) (fun c => ?_)
          · have h := h.1 (lc_ge.mp c)
            refine go_lload_n dX0_combine_269 rfl ?_
            refine go_l2i dX0_combine_270 ?_
            exact go_iret dX0_combine_271 rfl rfl h
          · have h := h.2 (lc_ge_n.mp c)
            refine go_ldc kX0_116 dX0_combine_264 ?_
            refine go_goto 271 dX0_combine_266 (by decide) ?_
            exact go_iret dX0_combine_271 rfl rfl h
        · have h := h.2 (lc_le_n.mp c)
          refine go_ldc kX0_113 dX0_combine_253 ?_
          exact go_iret dX0_combine_255 rfl rfl h
    · have h := h.2 c
      refine go_iload_n dX0_combine_226 rfl ?_
      refine go_iload_n dX0_combine_227 rfl ?_
      refine go_iadd dX0_combine_228 ?_
      refine go_i2l dX0_combine_229 ?_
      refine go_lstore_n dX0_combine_230 (Nat.le_of_ble_eq_true rfl) rfl ?_
      have h := h _ rfl
      refine go_goto 245 dX0_combine_231 (by decide) ?_
      refine go_lload_n dX0_combine_245 rfl ?_
      refine go_ldc2 kX0_111 dX0_combine_246 ?_
      refine go_lcmp dX0_combine_249 ?_
      refine go_if_le 256 dX0_combine_250 (by decide) (fun c => ?_) (fun c => ?_)
      · have h := h.1 (lc_le.mp c)
        refine go_lload_n dX0_combine_256 rfl ?_
        refine go_ldc2 kX0_114 dX0_combine_257 ?_
        refine go_lcmp dX0_combine_260 ?_
        refine go_if_ge 269 dX0_combine_261 (by decide) (fun c => ?_) (fun c => ?_)
        · have h := h.1 (lc_ge.mp c)
          refine go_lload_n dX0_combine_269 rfl ?_
          refine go_l2i dX0_combine_270 ?_
          exact go_iret dX0_combine_271 rfl rfl h
        · have h := h.2 (lc_ge_n.mp c)
          refine go_ldc kX0_116 dX0_combine_264 ?_
          refine go_goto 271 dX0_combine_266 (by decide) ?_
          exact go_iret dX0_combine_271 rfl rfl h
      · have h := h.2 (lc_le_n.mp c)
        refine go_ldc kX0_113 dX0_combine_253 ?_
        exact go_iret dX0_combine_255 rfl rfl h
  by_cases cv30 : Int32.toInt t = 30
  · refine go_tsIn 214 dX0_combine_1 (by rw [cv30]; decide) (by rw [cv30]; decide) (by rw [cv30]; rfl) (by decide) ?_
    refine go_iload_n dX0_combine_214 rfl ?_
    refine go_i2l dX0_combine_215 ?_
    refine go_iload_n dX0_combine_216 rfl ?_
    refine go_i2l dX0_combine_217 ?_
    refine go_lmul dX0_combine_218 ?_
    refine go_lstore_n dX0_combine_219 (Nat.le_of_ble_eq_true rfl) rfl ?_
    have h := h _ rfl
    refine go_iload_n dX0_combine_220 rfl ?_
    refine go_bipush (v := 28) dX0_combine_221 (by decide) ?_
    refine go_icmp_ne 234 dX0_combine_223 (by decide) (fun c => ?_) (fun c => ?_)
    · have h := h.1 c
      refine go_iload_n dX0_combine_234 rfl ?_
      refine go_bipush (v := 29) dX0_combine_235 (by decide) ?_
      refine go_icmp_ne 245 dX0_combine_237 (by decide) (fun c => ?_) (fun c => ?_)
      · have h := h.1 c
        refine go_lload_n dX0_combine_245 rfl ?_
        refine go_ldc2 kX0_111 dX0_combine_246 ?_
        refine go_lcmp dX0_combine_249 ?_
        refine go_if_le 256 dX0_combine_250 (by decide) (fun c => ?_) (fun c => ?_)
        · have h := h.1 (lc_le.mp c)
          refine go_lload_n dX0_combine_256 rfl ?_
          refine go_ldc2 kX0_114 dX0_combine_257 ?_
          refine go_lcmp dX0_combine_260 ?_
          refine go_if_ge 269 dX0_combine_261 (by decide) (fun c => ?_) (fun c => ?_)
          · have h := h.1 (lc_ge.mp c)
            refine go_lload_n dX0_combine_269 rfl ?_
            refine go_l2i dX0_combine_270 ?_
            exact go_iret dX0_combine_271 rfl rfl h
          · have h := h.2 (lc_ge_n.mp c)
            refine go_ldc kX0_116 dX0_combine_264 ?_
            refine go_goto 271 dX0_combine_266 (by decide) ?_
            exact go_iret dX0_combine_271 rfl rfl h
        · have h := h.2 (lc_le_n.mp c)
          refine go_ldc kX0_113 dX0_combine_253 ?_
          exact go_iret dX0_combine_255 rfl rfl h
      · have h := h.2 c
        refine go_iload_n dX0_combine_240 rfl ?_
        refine go_iload_n dX0_combine_241 rfl ?_
        refine go_isub dX0_combine_242 ?_
        refine go_i2l dX0_combine_243 ?_
        refine go_lstore_n dX0_combine_244 (Nat.le_of_ble_eq_true rfl) rfl ?_
        have h := h _ rfl
        refine go_lload_n dX0_combine_245 rfl ?_
        refine go_ldc2 kX0_111 dX0_combine_246 ?_
        refine go_lcmp dX0_combine_249 ?_
        refine go_if_le 256 dX0_combine_250 (by decide) (fun c => ?_) (fun c => ?_)
        · have h := h.1 (lc_le.mp c)
          refine go_lload_n dX0_combine_256 rfl ?_
          refine go_ldc2 kX0_114 dX0_combine_257 ?_
          refine go_lcmp dX0_combine_260 ?_
          refine go_if_ge 269 dX0_combine_261 (by decide) (fun c => ?_) (fun c => ?_)
          · have h := h.1 (lc_ge.mp c)
            refine go_lload_n dX0_combine_269 rfl ?_
            refine go_l2i dX0_combine_270 ?_
            exact go_iret dX0_combine_271 rfl rfl h
          · have h := h.2 (lc_ge_n.mp c)
            refine go_ldc kX0_116 dX0_combine_264 ?_
            refine go_goto 271 dX0_combine_266 (by decide) ?_
            exact go_iret dX0_combine_271 rfl rfl h
        · have h := h.2 (lc_le_n.mp c)
          refine go_ldc kX0_113 dX0_combine_253 ?_
          exact go_iret dX0_combine_255 rfl rfl h
    · have h := h.2 c
      refine go_iload_n dX0_combine_226 rfl ?_
      refine go_iload_n dX0_combine_227 rfl ?_
      refine go_iadd dX0_combine_228 ?_
      refine go_i2l dX0_combine_229 ?_
      refine go_lstore_n dX0_combine_230 (Nat.le_of_ble_eq_true rfl) rfl ?_
      have h := h _ rfl
      refine go_goto 245 dX0_combine_231 (by decide) ?_
      refine go_lload_n dX0_combine_245 rfl ?_
      refine go_ldc2 kX0_111 dX0_combine_246 ?_
      refine go_lcmp dX0_combine_249 ?_
      refine go_if_le 256 dX0_combine_250 (by decide) (fun c => ?_) (fun c => ?_)
      · have h := h.1 (lc_le.mp c)
        refine go_lload_n dX0_combine_256 rfl ?_
        refine go_ldc2 kX0_114 dX0_combine_257 ?_
        refine go_lcmp dX0_combine_260 ?_
        refine go_if_ge 269 dX0_combine_261 (by decide) (fun c => ?_) (fun c => ?_)
        · have h := h.1 (lc_ge.mp c)
          refine go_lload_n dX0_combine_269 rfl ?_
          refine go_l2i dX0_combine_270 ?_
          exact go_iret dX0_combine_271 rfl rfl h
        · have h := h.2 (lc_ge_n.mp c)
          refine go_ldc kX0_116 dX0_combine_264 ?_
          refine go_goto 271 dX0_combine_266 (by decide) ?_
          exact go_iret dX0_combine_271 rfl rfl h
      · have h := h.2 (lc_le_n.mp c)
        refine go_ldc kX0_113 dX0_combine_253 ?_
        exact go_iret dX0_combine_255 rfl rfl h
  by_cases cv32 : Int32.toInt t = 32
  · refine go_tsIn 214 dX0_combine_1 (by rw [cv32]; decide) (by rw [cv32]; decide) (by rw [cv32]; rfl) (by decide) ?_
    refine go_iload_n dX0_combine_214 rfl ?_
    refine go_i2l dX0_combine_215 ?_
    refine go_iload_n dX0_combine_216 rfl ?_
    refine go_i2l dX0_combine_217 ?_
    refine go_lmul dX0_combine_218 ?_
    refine go_lstore_n dX0_combine_219 (Nat.le_of_ble_eq_true rfl) rfl ?_
    have h := h _ rfl
    refine go_iload_n dX0_combine_220 rfl ?_
    refine go_bipush (v := 28) dX0_combine_221 (by decide) ?_
    refine go_icmp_ne 234 dX0_combine_223 (by decide) (fun c => ?_) (fun c => ?_)
    · have h := h.1 c
      refine go_iload_n dX0_combine_234 rfl ?_
      refine go_bipush (v := 29) dX0_combine_235 (by decide) ?_
      refine go_icmp_ne 245 dX0_combine_237 (by decide) (fun c => ?_) (fun c => ?_)
      · have h := h.1 c
        refine go_lload_n dX0_combine_245 rfl ?_
        refine go_ldc2 kX0_111 dX0_combine_246 ?_
        refine go_lcmp dX0_combine_249 ?_
        refine go_if_le 256 dX0_combine_250 (by decide) (fun c => ?_) (fun c => ?_)
        · have h := h.1 (lc_le.mp c)
          refine go_lload_n dX0_combine_256 rfl ?_
          refine go_ldc2 kX0_114 dX0_combine_257 ?_
          refine go_lcmp dX0_combine_260 ?_
          refine go_if_ge 269 dX0_combine_261 (by decide) (fun c => ?_) (fun c => ?_)
          · have h := h.1 (lc_ge.mp c)
            refine go_lload_n dX0_combine_269 rfl ?_
            refine go_l2i dX0_combine_270 ?_
            exact go_iret dX0_combine_271 rfl rfl h
          · have h := h.2 (lc_ge_n.mp c)
            refine go_ldc kX0_116 dX0_combine_264 ?_
            refine go_goto 271 dX0_combine_266 (by decide) ?_
            exact go_iret dX0_combine_271 rfl rfl h
        · have h := h.2 (lc_le_n.mp c)
          refine go_ldc kX0_113 dX0_combine_253 ?_
          exact go_iret dX0_combine_255 rfl rfl h
      · have h := h.2 c
        refine go_iload_n dX0_combine_240 rfl ?_
        refine go_iload_n dX0_combine_241 rfl ?_
        refine go_isub dX0_combine_242 ?_
        refine go_i2l dX0_combine_243 ?_
        refine go_lstore_n dX0_combine_244 (Nat.le_of_ble_eq_true rfl) rfl ?_
        have h := h _ rfl
        refine go_lload_n dX0_combine_245 rfl ?_
        refine go_ldc2 kX0_111 dX0_combine_246 ?_
        refine go_lcmp dX0_combine_249 ?_
        refine go_if_le 256 dX0_combine_250 (by decide) (fun c => ?_) (fun c => ?_)
        · have h := h.1 (lc_le.mp c)
          refine go_lload_n dX0_combine_256 rfl ?_
          refine go_ldc2 kX0_114 dX0_combine_257 ?_
          refine go_lcmp dX0_combine_260 ?_
          refine go_if_ge 269 dX0_combine_261 (by decide) (fun c => ?_) (fun c => ?_)
          · have h := h.1 (lc_ge.mp c)
            refine go_lload_n dX0_combine_269 rfl ?_
            refine go_l2i dX0_combine_270 ?_
            exact go_iret dX0_combine_271 rfl rfl h
          · have h := h.2 (lc_ge_n.mp c)
            refine go_ldc kX0_116 dX0_combine_264 ?_
            refine go_goto 271 dX0_combine_266 (by decide) ?_
            exact go_iret dX0_combine_271 rfl rfl h
        · have h := h.2 (lc_le_n.mp c)
          refine go_ldc kX0_113 dX0_combine_253 ?_
          exact go_iret dX0_combine_255 rfl rfl h
    · have h := h.2 c
      refine go_iload_n dX0_combine_226 rfl ?_
      refine go_iload_n dX0_combine_227 rfl ?_
      refine go_iadd dX0_combine_228 ?_
      refine go_i2l dX0_combine_229 ?_
      refine go_lstore_n dX0_combine_230 (Nat.le_of_ble_eq_true rfl) rfl ?_
      have h := h _ rfl
      refine go_goto 245 dX0_combine_231 (by decide) ?_
      refine go_lload_n dX0_combine_245 rfl ?_
      refine go_ldc2 kX0_111 dX0_combine_246 ?_
      refine go_lcmp dX0_combine_249 ?_
      refine go_if_le 256 dX0_combine_250 (by decide) (fun c => ?_) (fun c => ?_)
      · have h := h.1 (lc_le.mp c)
        refine go_lload_n dX0_combine_256 rfl ?_
        refine go_ldc2 kX0_114 dX0_combine_257 ?_
        refine go_lcmp dX0_combine_260 ?_
        refine go_if_ge 269 dX0_combine_261 (by decide) (fun c => ?_) (fun c => ?_)
        · have h := h.1 (lc_ge.mp c)
          refine go_lload_n dX0_combine_269 rfl ?_
          refine go_l2i dX0_combine_270 ?_
          exact go_iret dX0_combine_271 rfl rfl h
        · have h := h.2 (lc_ge_n.mp c)
          refine go_ldc kX0_116 dX0_combine_264 ?_
          refine go_goto 271 dX0_combine_266 (by decide) ?_
          exact go_iret dX0_combine_271 rfl rfl h
      · have h := h.2 (lc_le_n.mp c)
        refine go_ldc kX0_113 dX0_combine_253 ?_
        exact go_iret dX0_combine_255 rfl rfl h
  by_cases cv33 : Int32.toInt t = 33
  · refine go_tsIn 214 dX0_combine_1 (by rw [cv33]; decide) (by rw [cv33]; decide) (by rw [cv33]; rfl) (by decide) ?_
    refine go_iload_n dX0_combine_214 rfl ?_
    refine go_i2l dX0_combine_215 ?_
    refine go_iload_n dX0_combine_216 rfl ?_
    refine go_i2l dX0_combine_217 ?_
    refine go_lmul dX0_combine_218 ?_
    refine go_lstore_n dX0_combine_219 (Nat.le_of_ble_eq_true rfl) rfl ?_
    have h := h _ rfl
    refine go_iload_n dX0_combine_220 rfl ?_
    refine go_bipush (v := 28) dX0_combine_221 (by decide) ?_
    refine go_icmp_ne 234 dX0_combine_223 (by decide) (fun c => ?_) (fun c => ?_)
    · have h := h.1 c
      refine go_iload_n dX0_combine_234 rfl ?_
      refine go_bipush (v := 29) dX0_combine_235 (by decide) ?_
      refine go_icmp_ne 245 dX0_combine_237 (by decide) (fun c => ?_) (fun c => ?_)
      · have h := h.1 c
        refine go_lload_n dX0_combine_245 rfl ?_
        refine go_ldc2 kX0_111 dX0_combine_246 ?_
        refine go_lcmp dX0_combine_249 ?_
        refine go_if_le 256 dX0_combine_250 (by decide) (fun c => ?_) (fun c => ?_)
        · have h := h.1 (lc_le.mp c)
          refine go_lload_n dX0_combine_256 rfl ?_
          refine go_ldc2 kX0_114 dX0_combine_257 ?_
          refine go_lcmp dX0_combine_260 ?_
          refine go_if_ge 269 dX0_combine_261 (by decide) (fun c => ?_) (fun c => ?_)
          · have h := h.1 (lc_ge.mp c)
            refine go_lload_n dX0_combine_269 rfl ?_
            refine go_l2i dX0_combine_270 ?_
            exact go_iret dX0_combine_271 rfl rfl h
          · have h := h.2 (lc_ge_n.mp c)
            refine go_ldc kX0_116 dX0_combine_264 ?_
            refine go_goto 271 dX0_combine_266 (by decide) ?_
            exact go_iret dX0_combine_271 rfl rfl h
        · have h := h.2 (lc_le_n.mp c)
          refine go_ldc kX0_113 dX0_combine_253 ?_
          exact go_iret dX0_combine_255 rfl rfl h
      · have h := h.2 c
        refine go_iload_n dX0_combine_240 rfl ?_
        refine go_iload_n dX0_combine_241 rfl ?_
        refine go_isub dX0_combine_242 ?_
        refine go_i2l dX0_combine_243 ?_
        refine go_lstore_n dX0_combine_244 (Nat.le_of_ble_eq_true rfl) rfl ?_
        have h := h _ rfl
        refine go_lload_n dX0_combine_245 rfl ?_
        refine go_ldc2 kX0_111 dX0_combine_246 ?_
        refine go_lcmp dX0_combine_249 ?_
        refine go_if_le 256 dX0_combine_250 (by decide) (fun c => ?_) (fun c => ?_)
        · have h := h.1 (lc_le.mp c)
          refine go_lload_n dX0_combine_256 rfl ?_
          refine go_ldc2 kX0_114 dX0_combine_257 ?_
          refine go_lcmp dX0_combine_260 ?_
          refine go_if_ge 269 dX0_combine_261 (by decide) (fun c => ?_) (fun c => ?_)
          · have h := h.1 (lc_ge.mp c)
            refine go_lload_n dX0_combine_269 rfl ?_
            refine go_l2i dX0_combine_270 ?_
            exact go_iret dX0_combine_271 rfl rfl h
          · have h := h.2 (lc_ge_n.mp c)
            refine go_ldc kX0_116 dX0_combine_264 ?_
            refine go_goto 271 dX0_combine_266 (by decide) ?_
            exact go_iret dX0_combine_271 rfl rfl h
        · have h := h.2 (lc_le_n.mp c)
          refine go_ldc kX0_113 dX0_combine_253 ?_
          exact go_iret dX0_combine_255 rfl rfl h
    · have h := h.2 c
      refine go_iload_n dX0_combine_226 rfl ?_
      refine go_iload_n dX0_combine_227 rfl ?_
      refine go_iadd dX0_combine_228 ?_
      refine go_i2l dX0_combine_229 ?_
      refine go_lstore_n dX0_combine_230 (Nat.le_of_ble_eq_true rfl) rfl ?_
      have h := h _ rfl
      refine go_goto 245 dX0_combine_231 (by decide) ?_
      refine go_lload_n dX0_combine_245 rfl ?_
      refine go_ldc2 kX0_111 dX0_combine_246 ?_
      refine go_lcmp dX0_combine_249 ?_
      refine go_if_le 256 dX0_combine_250 (by decide) (fun c => ?_) (fun c => ?_)
      · have h := h.1 (lc_le.mp c)
        refine go_lload_n dX0_combine_256 rfl ?_
        refine go_ldc2 kX0_114 dX0_combine_257 ?_
        refine go_lcmp dX0_combine_260 ?_
        refine go_if_ge 269 dX0_combine_261 (by decide) (fun c => ?_) (fun c => ?_)
        · have h := h.1 (lc_ge.mp c)
          refine go_lload_n dX0_combine_269 rfl ?_
          refine go_l2i dX0_combine_270 ?_
          exact go_iret dX0_combine_271 rfl rfl h
        · have h := h.2 (lc_ge_n.mp c)
          refine go_ldc kX0_116 dX0_combine_264 ?_
          refine go_goto 271 dX0_combine_266 (by decide) ?_
          exact go_iret dX0_combine_271 rfl rfl h
      · have h := h.2 (lc_le_n.mp c)
        refine go_ldc kX0_113 dX0_combine_253 ?_
        exact go_iret dX0_combine_255 rfl rfl h
  by_cases cv34 : Int32.toInt t = 34
  · refine go_tsIn 214 dX0_combine_1 (by rw [cv34]; decide) (by rw [cv34]; decide) (by rw [cv34]; rfl) (by decide) ?_
    refine go_iload_n dX0_combine_214 rfl ?_
    refine go_i2l dX0_combine_215 ?_
    refine go_iload_n dX0_combine_216 rfl ?_
    refine go_i2l dX0_combine_217 ?_
    refine go_lmul dX0_combine_218 ?_
    refine go_lstore_n dX0_combine_219 (Nat.le_of_ble_eq_true rfl) rfl ?_
    have h := h _ rfl
    refine go_iload_n dX0_combine_220 rfl ?_
    refine go_bipush (v := 28) dX0_combine_221 (by decide) ?_
    refine go_icmp_ne 234 dX0_combine_223 (by decide) (fun c => ?_) (fun c => ?_)
    · have h := h.1 c
      refine go_iload_n dX0_combine_234 rfl ?_
      refine go_bipush (v := 29) dX0_combine_235 (by decide) ?_
      refine go_icmp_ne 245 dX0_combine_237 (by decide) (fun c => ?_) (fun c => ?_)
      · have h := h.1 c
        refine go_lload_n dX0_combine_245 rfl ?_
        refine go_ldc2 kX0_111 dX0_combine_246 ?_
        refine go_lcmp dX0_combine_249 ?_
        refine go_if_le 256 dX0_combine_250 (by decide) (fun c => ?_) (fun c => ?_)
        · have h := h.1 (lc_le.mp c)
          refine go_lload_n dX0_combine_256 rfl ?_
          refine go_ldc2 kX0_114 dX0_combine_257 ?_
          refine go_lcmp dX0_combine_260 ?_
          refine go_if_ge 269 dX0_combine_261 (by decide) (fun c => ?_) (fun c => ?_)
          · have h := h.1 (lc_ge.mp c)
            refine go_lload_n dX0_combine_269 rfl ?_
            refine go_l2i dX0_combine_270 ?_
            exact go_iret dX0_combine_271 rfl rfl h
          · have h := h.2 (lc_ge_n.mp c)
            refine go_ldc kX0_116 dX0_combine_264 ?_
            refine go_goto 271 dX0_combine_266 (by decide) ?_
            exact go_iret dX0_combine_271 rfl rfl h
        · have h := h.2 (lc_le_n.mp c)
          refine go_ldc kX0_113 dX0_combine_253 ?_
          exact go_iret dX0_combine_255 rfl rfl h
      · have h := h.2 c
        refine go_iload_n dX0_combine_240 rfl ?_
        refine go_iload_n dX0_combine_241 rfl ?_
        refine go_isub dX0_combine_242 ?_
        refine go_i2l dX0_combine_243 ?_
        refine go_lstore_n dX0_combine_244 (Nat.le_of_ble_eq_true rfl) rfl ?_
        have h := h _ rfl
        refine go_lload_n dX0_combine_245 rfl ?_
        refine go_ldc2 kX0_111 dX0_combine_246 ?_
        refine go_lcmp dX0_combine_249 ?_
        refine go_if_le 256 dX0_combine_250 (by decide) (fun c => ?_) (fun c => ?_)
        · have h := h.1 (lc_le.mp c)
          refine go_lload_n dX0_combine_256 rfl ?_
          refine go_ldc2 kX0_114 dX0_combine_257 ?_
          refine go_lcmp dX0_combine_260 ?_
          refine go_if_ge 269 dX0_combine_261 (by decide) (fun c => ?_) (fun c => ?_)
          · have h := h.1 (lc_ge.mp c)
            refine go_lload_n dX0_combine_269 rfl ?_
            refine go_l2i dX0_combine_270 ?_
            exact go_iret dX0_combine_271 rfl rfl h
          · have h := h.2 (lc_ge_n.mp c)
            refine go_ldc kX0_116 dX0_combine_264 ?_
            refine go_goto 271 dX0_combine_266 (by decide) ?_
            exact go_iret dX0_combine_271 rfl rfl h
        · have h := h.2 (lc_le_n.mp c)
          refine go_ldc kX0_113 dX0_combine_253 ?_
          exact go_iret dX0_combine_255 rfl rfl h
    · have h := h.2 c
      refine go_iload_n dX0_combine_226 rfl ?_
      refine go_iload_n dX0_combine_227 rfl ?_
      refine go_iadd dX0_combine_228 ?_
      refine go_i2l dX0_combine_229 ?_
      refine go_lstore_n dX0_combine_230 (Nat.le_of_ble_eq_true rfl) rfl ?_
      have h := h _ rfl
      refine go_goto 245 dX0_combine_231 (by decide) ?_
      refine go_lload_n dX0_combine_245 rfl ?_
      refine go_ldc2 kX0_111 dX0_combine_246 ?_
      refine go_lcmp dX0_combine_249 ?_
      refine go_if_le 256 dX0_combine_250 (by decide) (fun c => ?_) (fun c => ?_)
      · have h := h.1 (lc_le.mp c)
        refine go_lload_n dX0_combine_256 rfl ?_
        refine go_ldc2 kX0_114 dX0_combine_257 ?_
        refine go_lcmp dX0_combine_260 ?_
        refine go_if_ge 269 dX0_combine_261 (by decide) (fun c => ?_) (fun c => ?_)
        · have h := h.1 (lc_ge.mp c)
          refine go_lload_n dX0_combine_269 rfl ?_
          refine go_l2i dX0_combine_270 ?_
          exact go_iret dX0_combine_271 rfl rfl h
        · have h := h.2 (lc_ge_n.mp c)
          refine go_ldc kX0_116 dX0_combine_264 ?_
          refine go_goto 271 dX0_combine_266 (by decide) ?_
          exact go_iret dX0_combine_271 rfl rfl h
      · have h := h.2 (lc_le_n.mp c)
        refine go_ldc kX0_113 dX0_combine_253 ?_
        exact go_iret dX0_combine_255 rfl rfl h
  exact absurd co (by omega)
theorem k_X0_combine {G : gG} {I : gI} {R : gR} {L : gL} {Q : gQ} {t a b : Int32} (hR : g_Fx R) (hq : Q (some (.int (cmbI t a b))) SH I R L) : Mt G mX0_combine 1 0 0 [.int t, .int a, .int b] SH I R L Q := by
  refine e_X0_combine hR ?_
  refine ⟨fun c19 => ?_, fun c19 => ?_, fun c19 => ?_, fun c19 => ?_, fun c19 => ?_, fun c19 => ?_, fun c19 => ?_, fun c19 => ?_, fun c19 => ?_, fun c19 => ?_⟩
  · first | exact hq | (simp_all [cmbI, clI]; done) | (grind [cmbI, clI])
  · first | exact hq | (simp_all [cmbI, clI]; done) | (grind [cmbI, clI])
  · refine ⟨fun c1 => ?_, fun c1 => ?_⟩
    · first | exact hq | (simp_all [cmbI, clI]; done) | (grind [cmbI, clI])
    · first | exact hq | (simp_all [cmbI, clI]; done) | (grind [cmbI, clI])
  · refine ⟨fun c2 => ?_, fun c2 => ?_⟩
    · first | exact hq | (simp_all [cmbI, clI]; done) | (grind [cmbI, clI])
    · first | exact hq | (simp_all [cmbI, clI]; done) | (grind [cmbI, clI])
  · refine ⟨fun c3 => ?_, fun c3 => ?_⟩
    · first | exact hq | (simp_all [cmbI, clI]; done) | (grind [cmbI, clI])
    · first | exact hq | (simp_all [cmbI, clI]; done) | (grind [cmbI, clI])
  · refine ⟨fun c4 => ?_, fun c4 => ?_⟩
    · first | exact hq | (simp_all [cmbI, clI]; done) | (grind [cmbI, clI])
    · first | exact hq | (simp_all [cmbI, clI]; done) | (grind [cmbI, clI])
  · refine ⟨fun c5 => ?_, fun c5 => ?_⟩
    · first | exact hq | (simp_all [cmbI, clI]; done) | (grind [cmbI, clI])
    · first | exact hq | (simp_all [cmbI, clI]; done) | (grind [cmbI, clI])
  · refine ⟨fun c6 => ?_, fun c6 => ?_⟩
    · first | exact hq | (simp_all [cmbI, clI]; done) | (grind [cmbI, clI])
    · first | exact hq | (simp_all [cmbI, clI]; done) | (grind [cmbI, clI])
  · refine ⟨fun c7 => ?_, fun c7 => ?_⟩
    · refine ⟨?_, ?_⟩
      · first | assumption | grind [vi3, vi4, vi6, vi9, vi12, vi24, vi30, vi40, vi64, vi90, vi240, vi300, vi400] | (simp only [up_eq]; grind [vi3, vi4, vi6, vi9, vi12, vi24, vi30, vi40, vi64, vi90, vi240, vi300, vi400])
      first | exact hq | (simp_all [cmbI, clI]; done) | (grind [cmbI, clI])
    · first | exact hq | (simp_all [cmbI, clI]; done) | (grind [cmbI, clI])
  · rintro _ rfl
    refine ⟨fun c18 => ?_, fun c18 => ?_⟩
    · refine ⟨fun c14 => ?_, fun c14 => ?_⟩
      · refine ⟨fun c10 => ?_, fun c10 => ?_⟩
        · refine ⟨fun c9 => ?_, fun c9 => ?_⟩
          · first | exact hq | (simp_all [cmbI, clI]; done) | (grind [cmbI, clI])
          · first | exact hq | (simp_all [cmbI, clI]; done) | (grind [cmbI, clI])
        · first | exact hq | (simp_all [cmbI, clI]; done) | (grind [cmbI, clI])
      · rintro _ rfl
        refine ⟨fun c13 => ?_, fun c13 => ?_⟩
        · refine ⟨fun c12 => ?_, fun c12 => ?_⟩
          · first | exact hq | (simp_all [cmbI, clI]; done) | (grind [cmbI, clI])
          · first | exact hq | (simp_all [cmbI, clI]; done) | (grind [cmbI, clI])
        · first | exact hq | (simp_all [cmbI, clI]; done) | (grind [cmbI, clI])
    · rintro _ rfl
      refine ⟨fun c17 => ?_, fun c17 => ?_⟩
      · refine ⟨fun c16 => ?_, fun c16 => ?_⟩
        · first | exact hq | (simp_all [cmbI, clI]; done) | (grind [cmbI, clI])
        · first | exact hq | (simp_all [cmbI, clI]; done) | (grind [cmbI, clI])
      · first | exact hq | (simp_all [cmbI, clI]; done) | (grind [cmbI, clI])
