section GR
variable {G : gG} {μ : gm} {d rc rs pc : Nat} {ls : List (Option Value)} {st : List Value} {S : gS} {I : gI} {R : gR} {L : gL} {Q : gQ}
theorem go_iconst {n : Int} {v : Int32} (hd : decode μ.2.1 pc = .ok (.iconst n, 1)) (hv : Int32.ofInt n = v) (kk : Go G μ d rc rs (pc + 1) ls (.int v :: st) S I R L Q) : Go G μ d rc rs pc ls st S I R L Q := by
  intro l p e RM s m args below meth c H locs cells slots mc ms lsA Z
  exact lv_iconst Z.1.1 Z.1.2.1 hd hv (kk l p e RM s m args below meth c H locs cells slots mc ms lsA Z)
theorem go_bipush {n : Int} {v : Int32} (hd : decode μ.2.1 pc = .ok (.bipush n, 2)) (hv : (Int8.ofInt n).toInt32 = v) (kk : Go G μ d rc rs (pc + 2) ls (.int v :: st) S I R L Q) : Go G μ d rc rs pc ls st S I R L Q := by
  intro l p e RM s m args below meth c H locs cells slots mc ms lsA Z
  exact lv_bipush Z.1.1 Z.1.2.1 hd hv (kk l p e RM s m args below meth c H locs cells slots mc ms lsA Z)
theorem go_sipush {n : Int} {v : Int32} (hd : decode μ.2.1 pc = .ok (.sipush n, 3)) (hv : (Int16.ofInt n).toInt32 = v) (kk : Go G μ d rc rs (pc + 3) ls (.int v :: st) S I R L Q) : Go G μ d rc rs pc ls st S I R L Q := by
  intro l p e RM s m args below meth c H locs cells slots mc ms lsA Z
  exact lv_sipush Z.1.1 Z.1.2.1 hd hv (kk l p e RM s m args below meth c H locs cells slots mc ms lsA Z)
theorem go_lconst {n : Fin 2} {v : Int64} (hd : decode μ.2.1 pc = .ok (.lconst n, 1)) (hv : Int64.ofNat (n : Nat) = v) (kk : Go G μ d rc rs (pc + 1) ls (.long v :: st) S I R L Q) : Go G μ d rc rs pc ls st S I R L Q := by
  intro l p e RM s m args below meth c H locs cells slots mc ms lsA Z
  exact lv_lconst Z.1.1 Z.1.2.1 hd hv (kk l p e RM s m args below meth c H locs cells slots mc ms lsA Z)
theorem go_null  (hd : decode μ.2.1 pc = .ok (.aconst_null, 1))  (kk : Go G μ d rc rs (pc + 1) ls (.null :: st) S I R L Q) : Go G μ d rc rs pc ls st S I R L Q := by
  intro l p e RM s m args below meth c H locs cells slots mc ms lsA Z
  exact lv_null Z.1.1 Z.1.2.1 hd  (kk l p e RM s m args below meth c H locs cells slots mc ms lsA Z)
theorem go_iadd {x y : Int32} (hd : decode μ.2.1 pc = .ok (.iadd, 1))  (kk : Go G μ d rc rs (pc + 1) ls (.int (x + y) :: st) S I R L Q) : Go G μ d rc rs pc ls (.int y :: .int x :: st) S I R L Q := by
  intro l p e RM s m args below meth c H locs cells slots mc ms lsA Z
  exact lv_iadd Z.1.1 Z.1.2.1 hd  (kk l p e RM s m args below meth c H locs cells slots mc ms lsA Z)
theorem go_isub {x y : Int32} (hd : decode μ.2.1 pc = .ok (.isub, 1))  (kk : Go G μ d rc rs (pc + 1) ls (.int (x - y) :: st) S I R L Q) : Go G μ d rc rs pc ls (.int y :: .int x :: st) S I R L Q := by
  intro l p e RM s m args below meth c H locs cells slots mc ms lsA Z
  exact lv_isub Z.1.1 Z.1.2.1 hd  (kk l p e RM s m args below meth c H locs cells slots mc ms lsA Z)
theorem go_imul {x y : Int32} (hd : decode μ.2.1 pc = .ok (.imul, 1))  (kk : Go G μ d rc rs (pc + 1) ls (.int (x * y) :: st) S I R L Q) : Go G μ d rc rs pc ls (.int y :: .int x :: st) S I R L Q := by
  intro l p e RM s m args below meth c H locs cells slots mc ms lsA Z
  exact lv_imul Z.1.1 Z.1.2.1 hd  (kk l p e RM s m args below meth c H locs cells slots mc ms lsA Z)
theorem go_iand {x y : Int32} (hd : decode μ.2.1 pc = .ok (.iand, 1))  (kk : Go G μ d rc rs (pc + 1) ls (.int (x &&& y) :: st) S I R L Q) : Go G μ d rc rs pc ls (.int y :: .int x :: st) S I R L Q := by
  intro l p e RM s m args below meth c H locs cells slots mc ms lsA Z
  exact lv_iand Z.1.1 Z.1.2.1 hd  (kk l p e RM s m args below meth c H locs cells slots mc ms lsA Z)
theorem go_ior {x y : Int32} (hd : decode μ.2.1 pc = .ok (.ior, 1))  (kk : Go G μ d rc rs (pc + 1) ls (.int (x ||| y) :: st) S I R L Q) : Go G μ d rc rs pc ls (.int y :: .int x :: st) S I R L Q := by
  intro l p e RM s m args below meth c H locs cells slots mc ms lsA Z
  exact lv_ior Z.1.1 Z.1.2.1 hd  (kk l p e RM s m args below meth c H locs cells slots mc ms lsA Z)
theorem go_ixor {x y : Int32} (hd : decode μ.2.1 pc = .ok (.ixor, 1))  (kk : Go G μ d rc rs (pc + 1) ls (.int (x ^^^ y) :: st) S I R L Q) : Go G μ d rc rs pc ls (.int y :: .int x :: st) S I R L Q := by
  intro l p e RM s m args below meth c H locs cells slots mc ms lsA Z
  exact lv_ixor Z.1.1 Z.1.2.1 hd  (kk l p e RM s m args below meth c H locs cells slots mc ms lsA Z)
theorem go_ishl {x y : Int32} (hd : decode μ.2.1 pc = .ok (.ishl, 1))  (kk : Go G μ d rc rs (pc + 1) ls (.int (x <<< (y &&& 31)) :: st) S I R L Q) : Go G μ d rc rs pc ls (.int y :: .int x :: st) S I R L Q := by
  intro l p e RM s m args below meth c H locs cells slots mc ms lsA Z
  exact lv_ishl Z.1.1 Z.1.2.1 hd  (kk l p e RM s m args below meth c H locs cells slots mc ms lsA Z)
theorem go_ishr {x y : Int32} (hd : decode μ.2.1 pc = .ok (.ishr, 1))  (kk : Go G μ d rc rs (pc + 1) ls (.int (x >>> (y &&& 31)) :: st) S I R L Q) : Go G μ d rc rs pc ls (.int y :: .int x :: st) S I R L Q := by
  intro l p e RM s m args below meth c H locs cells slots mc ms lsA Z
  exact lv_ishr Z.1.1 Z.1.2.1 hd  (kk l p e RM s m args below meth c H locs cells slots mc ms lsA Z)
theorem go_idiv {x y : Int32} (hd : decode μ.2.1 pc = .ok (.idiv, 1)) (hn : ¬ y = 0) (kk : Go G μ d rc rs (pc + 1) ls (.int (x / y) :: st) S I R L Q) : Go G μ d rc rs pc ls (.int y :: .int x :: st) S I R L Q := by
  intro l p e RM s m args below meth c H locs cells slots mc ms lsA Z
  exact lv_idiv Z.1.1 Z.1.2.1 hd hn (kk l p e RM s m args below meth c H locs cells slots mc ms lsA Z)
theorem go_irem {x y : Int32} (hd : decode μ.2.1 pc = .ok (.irem, 1)) (hn : ¬ y = 0) (kk : Go G μ d rc rs (pc + 1) ls (.int (x - x / y * y) :: st) S I R L Q) : Go G μ d rc rs pc ls (.int y :: .int x :: st) S I R L Q := by
  intro l p e RM s m args below meth c H locs cells slots mc ms lsA Z
  exact lv_irem Z.1.1 Z.1.2.1 hd hn (kk l p e RM s m args below meth c H locs cells slots mc ms lsA Z)
theorem go_ineg {x : Int32} (hd : decode μ.2.1 pc = .ok (.ineg, 1))  (kk : Go G μ d rc rs (pc + 1) ls (.int (-x) :: st) S I R L Q) : Go G μ d rc rs pc ls (.int x :: st) S I R L Q := by
  intro l p e RM s m args below meth c H locs cells slots mc ms lsA Z
  exact lv_ineg Z.1.1 Z.1.2.1 hd  (kk l p e RM s m args below meth c H locs cells slots mc ms lsA Z)
theorem go_iushr {x y : Int32} (hd : decode μ.2.1 pc = .ok (.iushr, 1))  (kk : Go G μ d rc rs (pc + 1) ls (.int ((x.toUInt32 >>> (y.toUInt32 &&& Int32.toUInt32 31)).toInt32) :: st) S I R L Q) : Go G μ d rc rs pc ls (.int y :: .int x :: st) S I R L Q := by
  intro l p e RM s m args below meth c H locs cells slots mc ms lsA Z
  exact lv_iushr Z.1.1 Z.1.2.1 hd rfl (kk l p e RM s m args below meth c H locs cells slots mc ms lsA Z)
theorem go_i2b {x : Int32} (hd : decode μ.2.1 pc = .ok (.i2b, 1))  (kk : Go G μ d rc rs (pc + 1) ls (.int (x.toInt8.toInt32) :: st) S I R L Q) : Go G μ d rc rs pc ls (.int x :: st) S I R L Q := by
  intro l p e RM s m args below meth c H locs cells slots mc ms lsA Z
  exact lv_i2b Z.1.1 Z.1.2.1 hd rfl (kk l p e RM s m args below meth c H locs cells slots mc ms lsA Z)
theorem go_i2c {x : Int32} (hd : decode μ.2.1 pc = .ok (.i2c, 1))  (kk : Go G μ d rc rs (pc + 1) ls (.int ((x.toUInt32 % 65536).toInt32) :: st) S I R L Q) : Go G μ d rc rs pc ls (.int x :: st) S I R L Q := by
  intro l p e RM s m args below meth c H locs cells slots mc ms lsA Z
  exact lv_i2c Z.1.1 Z.1.2.1 hd rfl (kk l p e RM s m args below meth c H locs cells slots mc ms lsA Z)
theorem go_i2l {x : Int32} (hd : decode μ.2.1 pc = .ok (.i2l, 1))  (kk : Go G μ d rc rs (pc + 1) ls (.long (x.toInt64) :: st) S I R L Q) : Go G μ d rc rs pc ls (.int x :: st) S I R L Q := by
  intro l p e RM s m args below meth c H locs cells slots mc ms lsA Z
  exact lv_i2l Z.1.1 Z.1.2.1 hd rfl (kk l p e RM s m args below meth c H locs cells slots mc ms lsA Z)
theorem go_l2i {x : Int64} (hd : decode μ.2.1 pc = .ok (.l2i, 1))  (kk : Go G μ d rc rs (pc + 1) ls (.int (x.toInt32) :: st) S I R L Q) : Go G μ d rc rs pc ls (.long x :: st) S I R L Q := by
  intro l p e RM s m args below meth c H locs cells slots mc ms lsA Z
  exact lv_l2i Z.1.1 Z.1.2.1 hd rfl (kk l p e RM s m args below meth c H locs cells slots mc ms lsA Z)
theorem go_ladd {x y : Int64} (hd : decode μ.2.1 pc = .ok (.ladd, 1))  (kk : Go G μ d rc rs (pc + 1) ls (.long (x + y) :: st) S I R L Q) : Go G μ d rc rs pc ls (.long y :: .long x :: st) S I R L Q := by
  intro l p e RM s m args below meth c H locs cells slots mc ms lsA Z
  exact lv_ladd Z.1.1 Z.1.2.1 hd  (kk l p e RM s m args below meth c H locs cells slots mc ms lsA Z)
theorem go_lsub {x y : Int64} (hd : decode μ.2.1 pc = .ok (.lsub, 1))  (kk : Go G μ d rc rs (pc + 1) ls (.long (x - y) :: st) S I R L Q) : Go G μ d rc rs pc ls (.long y :: .long x :: st) S I R L Q := by
  intro l p e RM s m args below meth c H locs cells slots mc ms lsA Z
  exact lv_lsub Z.1.1 Z.1.2.1 hd  (kk l p e RM s m args below meth c H locs cells slots mc ms lsA Z)
theorem go_lmul {x y : Int64} (hd : decode μ.2.1 pc = .ok (.lmul, 1))  (kk : Go G μ d rc rs (pc + 1) ls (.long (x * y) :: st) S I R L Q) : Go G μ d rc rs pc ls (.long y :: .long x :: st) S I R L Q := by
  intro l p e RM s m args below meth c H locs cells slots mc ms lsA Z
  exact lv_lmul Z.1.1 Z.1.2.1 hd  (kk l p e RM s m args below meth c H locs cells slots mc ms lsA Z)
theorem go_ldiv {x y : Int64} (hd : decode μ.2.1 pc = .ok (.ldiv, 1)) (hn : ¬ y = 0) (kk : Go G μ d rc rs (pc + 1) ls (.long (x / y) :: st) S I R L Q) : Go G μ d rc rs pc ls (.long y :: .long x :: st) S I R L Q := by
  intro l p e RM s m args below meth c H locs cells slots mc ms lsA Z
  exact lv_ldiv Z.1.1 Z.1.2.1 hd hn (kk l p e RM s m args below meth c H locs cells slots mc ms lsA Z)
theorem go_lrem {x y : Int64} (hd : decode μ.2.1 pc = .ok (.lrem, 1)) (hn : ¬ y = 0) (kk : Go G μ d rc rs (pc + 1) ls (.long (x - x / y * y) :: st) S I R L Q) : Go G μ d rc rs pc ls (.long y :: .long x :: st) S I R L Q := by
  intro l p e RM s m args below meth c H locs cells slots mc ms lsA Z
  exact lv_lrem Z.1.1 Z.1.2.1 hd hn (kk l p e RM s m args below meth c H locs cells slots mc ms lsA Z)
theorem go_lneg {x : Int64} (hd : decode μ.2.1 pc = .ok (.lneg, 1))  (kk : Go G μ d rc rs (pc + 1) ls (.long (-x) :: st) S I R L Q) : Go G μ d rc rs pc ls (.long x :: st) S I R L Q := by
  intro l p e RM s m args below meth c H locs cells slots mc ms lsA Z
  exact lv_lneg Z.1.1 Z.1.2.1 hd  (kk l p e RM s m args below meth c H locs cells slots mc ms lsA Z)
theorem go_lcmp {x y : Int64} (hd : decode μ.2.1 pc = .ok (.lcmp, 1))  (kk : Go G μ d rc rs (pc + 1) ls (.int (lg_cmp x y) :: st) S I R L Q) : Go G μ d rc rs pc ls (.long y :: .long x :: st) S I R L Q := by
  intro l p e RM s m args below meth c H locs cells slots mc ms lsA Z
  exact W.lcmp Z.1.1 Z.1.2.1 hd  (kk l p e RM s m args below meth c H locs cells slots mc ms lsA Z)
theorem go_dup {v : Value} (hd : decode μ.2.1 pc = .ok (.dup, 1)) (hv : v.category = 1) (kk : Go G μ d rc rs (pc + 1) ls (v :: v :: st) S I R L Q) : Go G μ d rc rs pc ls (v :: st) S I R L Q := by
  intro l p e RM s m args below meth c H locs cells slots mc ms lsA Z
  exact lv_dup Z.1.1 Z.1.2.1 hd (by rw [cv_cat]; exact hv) (kk l p e RM s m args below meth c H locs cells slots mc ms lsA Z)
theorem go_dup2 {v w : Value} (hd : decode μ.2.1 pc = .ok (.dup2, 1)) (hv : v.category = 1) (hw : w.category = 1) (kk : Go G μ d rc rs (pc + 1) ls (v :: w :: v :: w :: st) S I R L Q) : Go G μ d rc rs pc ls (v :: w :: st) S I R L Q := by
  intro l p e RM s m args below meth c H locs cells slots mc ms lsA Z
  exact lv_dup2_11 Z.1.1 Z.1.2.1 hd (by rw [cv_cat]; exact hv) (by rw [cv_cat]; exact hw) (kk l p e RM s m args below meth c H locs cells slots mc ms lsA Z)
theorem go_pop {v : Value} (hd : decode μ.2.1 pc = .ok (.pop, 1)) (hv : v.category = 1) (kk : Go G μ d rc rs (pc + 1) ls st S I R L Q) : Go G μ d rc rs pc ls (v :: st) S I R L Q := by
  intro l p e RM s m args below meth c H locs cells slots mc ms lsA Z
  exact lv_pop Z.1.1 Z.1.2.1 hd (by rw [cv_cat]; exact hv) (kk l p e RM s m args below meth c H locs cells slots mc ms lsA Z)
theorem go_if_eq {x : Int32} {off : Int} (tgt : Nat) (hd : decode μ.2.1 pc = .ok (.ifCond .eq off, 3)) (ht : (pc : Int) + off = (tgt : Int)) (kt : x = 0 → Go G μ d rc rs tgt ls st S I R L Q) (kf : ¬ x = 0 → Go G μ d rc rs (pc + 3) ls st S I R L Q) : Go G μ d rc rs pc ls (.int x :: st) S I R L Q := by
  intro l p e RM s m args below meth c H locs cells slots mc ms lsA Z
  exact lv_if_eq Z.1.1 Z.1.2.1 hd ht (fun h => (kt h l p e RM s m args below meth c H locs cells slots mc ms lsA Z)) (fun h => (kf h l p e RM s m args below meth c H locs cells slots mc ms lsA Z))
theorem go_if_ne {x : Int32} {off : Int} (tgt : Nat) (hd : decode μ.2.1 pc = .ok (.ifCond .ne off, 3)) (ht : (pc : Int) + off = (tgt : Int)) (kt : ¬ x = 0 → Go G μ d rc rs tgt ls st S I R L Q) (kf : x = 0 → Go G μ d rc rs (pc + 3) ls st S I R L Q) : Go G μ d rc rs pc ls (.int x :: st) S I R L Q := by
  intro l p e RM s m args below meth c H locs cells slots mc ms lsA Z
  exact lv_if_ne Z.1.1 Z.1.2.1 hd ht (fun h => (kt h l p e RM s m args below meth c H locs cells slots mc ms lsA Z)) (fun h => (kf h l p e RM s m args below meth c H locs cells slots mc ms lsA Z))
theorem go_if_lt {x : Int32} {off : Int} (tgt : Nat) (hd : decode μ.2.1 pc = .ok (.ifCond .lt off, 3)) (ht : (pc : Int) + off = (tgt : Int)) (kt : x < 0 → Go G μ d rc rs tgt ls st S I R L Q) (kf : ¬ x < 0 → Go G μ d rc rs (pc + 3) ls st S I R L Q) : Go G μ d rc rs pc ls (.int x :: st) S I R L Q := by
  intro l p e RM s m args below meth c H locs cells slots mc ms lsA Z
  exact lv_if_lt Z.1.1 Z.1.2.1 hd ht (fun h => (kt h l p e RM s m args below meth c H locs cells slots mc ms lsA Z)) (fun h => (kf h l p e RM s m args below meth c H locs cells slots mc ms lsA Z))
theorem go_if_ge {x : Int32} {off : Int} (tgt : Nat) (hd : decode μ.2.1 pc = .ok (.ifCond .ge off, 3)) (ht : (pc : Int) + off = (tgt : Int)) (kt : 0 ≤ x → Go G μ d rc rs tgt ls st S I R L Q) (kf : ¬ 0 ≤ x → Go G μ d rc rs (pc + 3) ls st S I R L Q) : Go G μ d rc rs pc ls (.int x :: st) S I R L Q := by
  intro l p e RM s m args below meth c H locs cells slots mc ms lsA Z
  exact lv_if_ge Z.1.1 Z.1.2.1 hd ht (fun h => (kt h l p e RM s m args below meth c H locs cells slots mc ms lsA Z)) (fun h => (kf h l p e RM s m args below meth c H locs cells slots mc ms lsA Z))
theorem go_if_gt {x : Int32} {off : Int} (tgt : Nat) (hd : decode μ.2.1 pc = .ok (.ifCond .gt off, 3)) (ht : (pc : Int) + off = (tgt : Int)) (kt : 0 < x → Go G μ d rc rs tgt ls st S I R L Q) (kf : ¬ 0 < x → Go G μ d rc rs (pc + 3) ls st S I R L Q) : Go G μ d rc rs pc ls (.int x :: st) S I R L Q := by
  intro l p e RM s m args below meth c H locs cells slots mc ms lsA Z
  exact lv_if_gt Z.1.1 Z.1.2.1 hd ht (fun h => (kt h l p e RM s m args below meth c H locs cells slots mc ms lsA Z)) (fun h => (kf h l p e RM s m args below meth c H locs cells slots mc ms lsA Z))
theorem go_if_le {x : Int32} {off : Int} (tgt : Nat) (hd : decode μ.2.1 pc = .ok (.ifCond .le off, 3)) (ht : (pc : Int) + off = (tgt : Int)) (kt : x ≤ 0 → Go G μ d rc rs tgt ls st S I R L Q) (kf : ¬ x ≤ 0 → Go G μ d rc rs (pc + 3) ls st S I R L Q) : Go G μ d rc rs pc ls (.int x :: st) S I R L Q := by
  intro l p e RM s m args below meth c H locs cells slots mc ms lsA Z
  exact lv_if_le Z.1.1 Z.1.2.1 hd ht (fun h => (kt h l p e RM s m args below meth c H locs cells slots mc ms lsA Z)) (fun h => (kf h l p e RM s m args below meth c H locs cells slots mc ms lsA Z))
theorem go_icmp_eq {x y : Int32} {off : Int} (tgt : Nat) (hd : decode μ.2.1 pc = .ok (.if_icmp .eq off, 3)) (ht : (pc : Int) + off = (tgt : Int)) (kt : x = y → Go G μ d rc rs tgt ls st S I R L Q) (kf : ¬ x = y → Go G μ d rc rs (pc + 3) ls st S I R L Q) : Go G μ d rc rs pc ls (.int y :: .int x :: st) S I R L Q := by
  intro l p e RM s m args below meth c H locs cells slots mc ms lsA Z
  exact lv_icmp_eq Z.1.1 Z.1.2.1 hd ht (fun h => (kt h l p e RM s m args below meth c H locs cells slots mc ms lsA Z)) (fun h => (kf h l p e RM s m args below meth c H locs cells slots mc ms lsA Z))
theorem go_icmp_ne {x y : Int32} {off : Int} (tgt : Nat) (hd : decode μ.2.1 pc = .ok (.if_icmp .ne off, 3)) (ht : (pc : Int) + off = (tgt : Int)) (kt : ¬ x = y → Go G μ d rc rs tgt ls st S I R L Q) (kf : x = y → Go G μ d rc rs (pc + 3) ls st S I R L Q) : Go G μ d rc rs pc ls (.int y :: .int x :: st) S I R L Q := by
  intro l p e RM s m args below meth c H locs cells slots mc ms lsA Z
  exact lv_icmp_ne Z.1.1 Z.1.2.1 hd ht (fun h => (kt h l p e RM s m args below meth c H locs cells slots mc ms lsA Z)) (fun h => (kf h l p e RM s m args below meth c H locs cells slots mc ms lsA Z))
theorem go_icmp_lt {x y : Int32} {off : Int} (tgt : Nat) (hd : decode μ.2.1 pc = .ok (.if_icmp .lt off, 3)) (ht : (pc : Int) + off = (tgt : Int)) (kt : x < y → Go G μ d rc rs tgt ls st S I R L Q) (kf : ¬ x < y → Go G μ d rc rs (pc + 3) ls st S I R L Q) : Go G μ d rc rs pc ls (.int y :: .int x :: st) S I R L Q := by
  intro l p e RM s m args below meth c H locs cells slots mc ms lsA Z
  exact lv_icmp_lt Z.1.1 Z.1.2.1 hd ht (fun h => (kt h l p e RM s m args below meth c H locs cells slots mc ms lsA Z)) (fun h => (kf h l p e RM s m args below meth c H locs cells slots mc ms lsA Z))
theorem go_icmp_ge {x y : Int32} {off : Int} (tgt : Nat) (hd : decode μ.2.1 pc = .ok (.if_icmp .ge off, 3)) (ht : (pc : Int) + off = (tgt : Int)) (kt : y ≤ x → Go G μ d rc rs tgt ls st S I R L Q) (kf : ¬ y ≤ x → Go G μ d rc rs (pc + 3) ls st S I R L Q) : Go G μ d rc rs pc ls (.int y :: .int x :: st) S I R L Q := by
  intro l p e RM s m args below meth c H locs cells slots mc ms lsA Z
  exact lv_icmp_ge Z.1.1 Z.1.2.1 hd ht (fun h => (kt h l p e RM s m args below meth c H locs cells slots mc ms lsA Z)) (fun h => (kf h l p e RM s m args below meth c H locs cells slots mc ms lsA Z))
theorem go_icmp_gt {x y : Int32} {off : Int} (tgt : Nat) (hd : decode μ.2.1 pc = .ok (.if_icmp .gt off, 3)) (ht : (pc : Int) + off = (tgt : Int)) (kt : y < x → Go G μ d rc rs tgt ls st S I R L Q) (kf : ¬ y < x → Go G μ d rc rs (pc + 3) ls st S I R L Q) : Go G μ d rc rs pc ls (.int y :: .int x :: st) S I R L Q := by
  intro l p e RM s m args below meth c H locs cells slots mc ms lsA Z
  exact lv_icmp_gt Z.1.1 Z.1.2.1 hd ht (fun h => (kt h l p e RM s m args below meth c H locs cells slots mc ms lsA Z)) (fun h => (kf h l p e RM s m args below meth c H locs cells slots mc ms lsA Z))
theorem go_icmp_le {x y : Int32} {off : Int} (tgt : Nat) (hd : decode μ.2.1 pc = .ok (.if_icmp .le off, 3)) (ht : (pc : Int) + off = (tgt : Int)) (kt : x ≤ y → Go G μ d rc rs tgt ls st S I R L Q) (kf : ¬ x ≤ y → Go G μ d rc rs (pc + 3) ls st S I R L Q) : Go G μ d rc rs pc ls (.int y :: .int x :: st) S I R L Q := by
  intro l p e RM s m args below meth c H locs cells slots mc ms lsA Z
  exact lv_icmp_le Z.1.1 Z.1.2.1 hd ht (fun h => (kt h l p e RM s m args below meth c H locs cells slots mc ms lsA Z)) (fun h => (kf h l p e RM s m args below meth c H locs cells slots mc ms lsA Z))
theorem go_goto {off : Int} (tgt : Nat) (hd : decode μ.2.1 pc = .ok (.goto off, 3)) (ht : (pc : Int) + off = (tgt : Int)) (kk : Go G μ d rc rs tgt ls st S I R L Q) : Go G μ d rc rs pc ls st S I R L Q := by
  intro l p e RM s m args below meth c H locs cells slots mc ms lsA Z
  exact lv_goto Z.1.1 Z.1.2.1 hd ht (kk l p e RM s m args below meth c H locs cells slots mc ms lsA Z)
theorem go_ifnull_r {a : Nat} {off : Int} (hd : decode μ.2.1 pc = .ok (.ifnull off, 3)) (kk : Go G μ d rc rs (pc + 3) ls st S I R L Q) : Go G μ d rc rs pc ls (.ref a :: st) S I R L Q := by
  intro l p e RM s m args below meth c H locs cells slots mc ms lsA Z
  exact lv_ifnull Z.1.1 Z.1.2.1 hd (kk l p e RM s m args below meth c H locs cells slots mc ms lsA Z)
theorem go_ifnull_n {off : Int} (tgt : Nat) (hd : decode μ.2.1 pc = .ok (.ifnull off, 3)) (ht : (pc : Int) + off = (tgt : Int)) (kk : Go G μ d rc rs tgt ls st S I R L Q) : Go G μ d rc rs pc ls (.null :: st) S I R L Q := by
  intro l p e RM s m args below meth c H locs cells slots mc ms lsA Z
  exact lv_ifnullN Z.1.1 Z.1.2.1 hd ht (kk l p e RM s m args below meth c H locs cells slots mc ms lsA Z)
theorem go_ifnonnull_r {a : Nat} {off : Int} (tgt : Nat) (hd : decode μ.2.1 pc = .ok (.ifnonnull off, 3)) (ht : (pc : Int) + off = (tgt : Int)) (kk : Go G μ d rc rs tgt ls st S I R L Q) : Go G μ d rc rs pc ls (.ref a :: st) S I R L Q := by
  intro l p e RM s m args below meth c H locs cells slots mc ms lsA Z
  exact lv_ifnonnull Z.1.1 Z.1.2.1 hd ht (kk l p e RM s m args below meth c H locs cells slots mc ms lsA Z)
theorem go_ifnonnull_n {off : Int} (hd : decode μ.2.1 pc = .ok (.ifnonnull off, 3)) (kk : Go G μ d rc rs (pc + 3) ls st S I R L Q) : Go G μ d rc rs pc ls (.null :: st) S I R L Q := by
  intro l p e RM s m args below meth c H locs cells slots mc ms lsA Z
  exact lv_ifnonnullN Z.1.1 Z.1.2.1 hd (kk l p e RM s m args below meth c H locs cells slots mc ms lsA Z)
theorem go_tsOut {dflt lo hi : Int} {offs : Array Int} {len : Nat} {x : Int32} (tgt : Nat) (hd : decode μ.2.1 pc = .ok (.tableswitch dflt lo hi offs, len)) (h : x.toInt < lo ∨ hi < x.toInt) (ht : (pc : Int) + dflt = (tgt : Int)) (kk : Go G μ d rc rs tgt ls st S I R L Q) : Go G μ d rc rs pc ls (.int x :: st) S I R L Q := by
  intro l p e RM s m args below meth c H locs cells slots mc ms lsA Z
  exact lv_tableOut Z.1.1 Z.1.2.1 hd h ht (kk l p e RM s m args below meth c H locs cells slots mc ms lsA Z)
theorem go_tsIn {dflt lo hi : Int} {offs : Array Int} {len : Nat} {x : Int32} {off : Int} (tgt : Nat) (hd : decode μ.2.1 pc = .ok (.tableswitch dflt lo hi offs, len)) (h1 : ¬ x.toInt < lo) (h2 : ¬ hi < x.toInt) (ho : offs[(x.toInt - lo).toNat]? = some off) (ht : (pc : Int) + off = (tgt : Int)) (kk : Go G μ d rc rs tgt ls st S I R L Q) : Go G μ d rc rs pc ls (.int x :: st) S I R L Q := by
  intro l p e RM s m args below meth c H locs cells slots mc ms lsA Z
  exact lv_tableIn Z.1.1 Z.1.2.1 hd h1 h2 ho ht (kk l p e RM s m args below meth c H locs cells slots mc ms lsA Z)
theorem go_ls {dflt : Int} {ps : Array (Int × Int)} {len : Nat} {x : Int32} {off : Int} (tgt : Nat) (hd : decode μ.2.1 pc = .ok (.lookupswitch dflt ps, len)) (hp : (ps.toList.zip (ps.toList.drop 1)).all (fun (a, next) => a.1 < next.1) = true) (ho : Op.lookupswitch.offset ps.toList dflt x.toInt = off) (ht : (pc : Int) + off = (tgt : Int)) (kk : Go G μ d rc rs tgt ls st S I R L Q) : Go G μ d rc rs pc ls (.int x :: st) S I R L Q := by
  intro l p e RM s m args below meth c H locs cells slots mc ms lsA Z
  exact lv_lookup Z.1.1 Z.1.2.1 hd hp ho ht (kk l p e RM s m args below meth c H locs cells slots mc ms lsA Z)
theorem go_ldc {idx : Nat} {v : Int32} (hw : Cond.constant μ.1.cls idx v ∈ g_t) (hd : decode μ.2.1 pc = .ok (.ldc idx, 2)) (kk : Go G μ d rc rs (pc + 2) ls (.int v :: st) S I R L Q) : Go G μ d rc rs pc ls st S I R L Q := by
  intro l p e RM s m args below meth c H locs cells slots mc ms lsA Z
  exact lv_ldc Z.1.1 Z.1.2.1 Z.1.2.2.2.2.2.1 (Z.1.2.2.2.2.2.2.1 _ hw) hd (kk l p e RM s m args below meth c H locs cells slots mc ms lsA Z)
theorem go_ldcw {idx : Nat} {v : Int32} (hw : Cond.constant μ.1.cls idx v ∈ g_t) (hd : decode μ.2.1 pc = .ok (.ldc_w idx, 3)) (kk : Go G μ d rc rs (pc + 3) ls (.int v :: st) S I R L Q) : Go G μ d rc rs pc ls st S I R L Q := by
  intro l p e RM s m args below meth c H locs cells slots mc ms lsA Z
  exact lv_ldcw Z.1.1 Z.1.2.1 Z.1.2.2.2.2.2.1 (Z.1.2.2.2.2.2.2.1 _ hw) hd (kk l p e RM s m args below meth c H locs cells slots mc ms lsA Z)
theorem go_ldc2 {idx : Nat} {v : Int64} (hw : Cond.constantLong μ.1.cls idx v ∈ g_t) (hd : decode μ.2.1 pc = .ok (.ldc2_w idx, 3)) (kk : Go G μ d rc rs (pc + 3) ls (.long v :: st) S I R L Q) : Go G μ d rc rs pc ls st S I R L Q := by
  intro l p e RM s m args below meth c H locs cells slots mc ms lsA Z
  exact lv_ldc2 Z.1.1 Z.1.2.1 Z.1.2.2.2.2.2.1 (Z.1.2.2.2.2.2.2.1 _ hw) hd (kk l p e RM s m args below meth c H locs cells slots mc ms lsA Z)
theorem go_iload_n {k : Fin 4} {x : Int32} (hd : decode μ.2.1 pc = .ok (.iload_n k, 1)) (hx : ls[(k : Nat)]? = some (some (.int x))) (kk : Go G μ d rc rs (pc + 1) ls (.int x :: st) S I R L Q) : Go G μ d rc rs pc ls st S I R L Q := by
  intro l p e RM s m args below meth c H locs cells slots mc ms lsA Z
  exact lv_iload_n Z.1.1 Z.1.2.1 hd rfl (Z.2.2.2.2.2.2.2 _ _ hx) (kk l p e RM s m args below meth c H locs cells slots mc ms lsA Z)
theorem go_iload {i : Nat} {x : Int32} (hd : decode μ.2.1 pc = .ok (.iload i, 2)) (hx : ls[i]? = some (some (.int x))) (kk : Go G μ d rc rs (pc + 2) ls (.int x :: st) S I R L Q) : Go G μ d rc rs pc ls st S I R L Q := by
  intro l p e RM s m args below meth c H locs cells slots mc ms lsA Z
  exact lv_iload Z.1.1 Z.1.2.1 hd (Z.2.2.2.2.2.2.2 _ _ hx) (kk l p e RM s m args below meth c H locs cells slots mc ms lsA Z)
theorem go_lload_n {k : Fin 4} {x : Int64} (hd : decode μ.2.1 pc = .ok (.lload_n k, 1)) (hx : ls[(k : Nat)]? = some (some (.long x))) (kk : Go G μ d rc rs (pc + 1) ls (.long x :: st) S I R L Q) : Go G μ d rc rs pc ls st S I R L Q := by
  intro l p e RM s m args below meth c H locs cells slots mc ms lsA Z
  exact lv_lload_n Z.1.1 Z.1.2.1 hd rfl (Z.2.2.2.2.2.2.2 _ _ hx) (kk l p e RM s m args below meth c H locs cells slots mc ms lsA Z)
theorem go_lload {i : Nat} {x : Int64} (hd : decode μ.2.1 pc = .ok (.lload i, 2)) (hx : ls[i]? = some (some (.long x))) (kk : Go G μ d rc rs (pc + 2) ls (.long x :: st) S I R L Q) : Go G μ d rc rs pc ls st S I R L Q := by
  intro l p e RM s m args below meth c H locs cells slots mc ms lsA Z
  exact lv_lload Z.1.1 Z.1.2.1 hd (Z.2.2.2.2.2.2.2 _ _ hx) (kk l p e RM s m args below meth c H locs cells slots mc ms lsA Z)
theorem go_aload_n {k : Fin 4} {x : Nat} (hd : decode μ.2.1 pc = .ok (.aload_n k, 1)) (hx : ls[(k : Nat)]? = some (some (.ref x))) (kk : Go G μ d rc rs (pc + 1) ls (.ref x :: st) S I R L Q) : Go G μ d rc rs pc ls st S I R L Q := by
  intro l p e RM s m args below meth c H locs cells slots mc ms lsA Z
  exact lv_aload_n Z.1.1 Z.1.2.1 hd rfl (Z.2.2.2.2.2.2.2 _ _ hx) (kk l p e RM s m args below meth c H locs cells slots mc ms lsA Z)
theorem go_aload {i : Nat} {x : Nat} (hd : decode μ.2.1 pc = .ok (.aload i, 2)) (hx : ls[i]? = some (some (.ref x))) (kk : Go G μ d rc rs (pc + 2) ls (.ref x :: st) S I R L Q) : Go G μ d rc rs pc ls st S I R L Q := by
  intro l p e RM s m args below meth c H locs cells slots mc ms lsA Z
  exact lv_aload Z.1.1 Z.1.2.1 hd (Z.2.2.2.2.2.2.2 _ _ hx) (kk l p e RM s m args below meth c H locs cells slots mc ms lsA Z)
theorem go_aloadX_n {k : Fin 4} {x : UInt32} (hd : decode μ.2.1 pc = .ok (.aload_n k, 1)) (hx : ls[(k : Nat)]? = some (some (.float x))) (kk : Go G μ d rc rs (pc + 1) ls (.float x :: st) S I R L Q) : Go G μ d rc rs pc ls st S I R L Q := by
  intro l p e RM s m args below meth c H locs cells slots mc ms lsA Z
  exact lv_aload_n Z.1.1 Z.1.2.1 hd rfl (Z.2.2.2.2.2.2.2 _ _ hx) (kk l p e RM s m args below meth c H locs cells slots mc ms lsA Z)
theorem go_aloadX {i : Nat} {x : UInt32} (hd : decode μ.2.1 pc = .ok (.aload i, 2)) (hx : ls[i]? = some (some (.float x))) (kk : Go G μ d rc rs (pc + 2) ls (.float x :: st) S I R L Q) : Go G μ d rc rs pc ls st S I R L Q := by
  intro l p e RM s m args below meth c H locs cells slots mc ms lsA Z
  exact lv_aload Z.1.1 Z.1.2.1 hd (Z.2.2.2.2.2.2.2 _ _ hx) (kk l p e RM s m args below meth c H locs cells slots mc ms lsA Z)
theorem go_aloadN_n {k : Fin 4} (hd : decode μ.2.1 pc = .ok (.aload_n k, 1)) (hx : ls[(k : Nat)]? = some (some .null)) (kk : Go G μ d rc rs (pc + 1) ls (.null :: st) S I R L Q) : Go G μ d rc rs pc ls st S I R L Q := by
  intro l p e RM s m args below meth c H locs cells slots mc ms lsA Z
  exact lv_aload_nN Z.1.1 Z.1.2.1 hd rfl (Z.2.2.2.2.2.2.2 _ _ hx) (kk l p e RM s m args below meth c H locs cells slots mc ms lsA Z)
/-- the place ahead isn't the first half of a long -/
def g_ok (ls : List (Option Value)) : Nat → Bool
  | 0 => true
  | j + 1 => match ls[j]? with
    | some (some (.long _)) => false
    | some (some (.double _)) => false
    | _ => true
def g_pr (G : gG) (ls : List (Option Value)) : List (Nat × Value) := (List.range ls.length).filterMap (fun k => match ls[k]? with
  | some (some v) => some (k, cv G v)
  | _ => none)
theorem g_pr_mem {G : gG} {ls : List (Option Value)} {q : Nat × Value} : q ∈ g_pr G ls ↔ ∃ v, ls[q.1]? = some (some v) ∧ q.2 = cv G v := by
  obtain ⟨i, w⟩ := q
  simp only [g_pr, List.mem_filterMap, List.mem_range]
  constructor
  · rintro ⟨k, hk, h⟩
    split at h
    · rename_i v hv
      simp only [Option.some.injEq, Prod.mk.injEq] at h
      obtain ⟨rfl, rfl⟩ := h
      exact ⟨v, hv, rfl⟩
    · cases h
  · rintro ⟨v, hv, rfl⟩
    refine ⟨i, (List.getElem?_eq_some_iff.mp hv).1, ?_⟩
    simp [hv]
theorem g_L_has {G : gG} {lsA : Array Slot} {n : Nat} {ls : List (Option Value)} (h : g_L G lsA n ls) : lv_has lsA n (g_pr G ls) := by
  refine ⟨h.1, h.2.1, fun q hq => ?_⟩
  obtain ⟨v, hv, e⟩ := g_pr_mem.mp hq
  rw [e]
  exact h.2.2 _ _ hv
theorem g_L_st1 {G : gG} {lsA : Array Slot} {n i : Nat} {ls : List (Option Value)} {v : Value} (ho : g_ok ls i = true) (h : lv_has lsA n ((i, cv G v) :: (g_pr G ls).filter (fun q => !(q.1 == i) && !(q.1 + 1 == i && q.2.category == 2)))) : g_L G lsA n (ls.set i (some v)) := by
  refine ⟨h.1, h.2.1, fun k w hk => ?_⟩
  by_cases hki : k = i
  · subst hki
    have hl : k < (ls.set k (some v)).length := (List.getElem?_eq_some_iff.mp hk).1
    rw [List.length_set] at hl
    rw [List.getElem?_set_self hl] at hk
    cases hk
    exact h.2.2 (k, cv G v) List.mem_cons_self
  · rw [List.getElem?_set_ne (Ne.symm hki)] at hk
    refine h.2.2 (k, cv G w) (List.mem_cons_of_mem _ (List.mem_filter.mpr ⟨g_pr_mem.mpr ⟨w, hk, rfl⟩, ?_⟩))
    have h1 : ¬ (k + 1 = i ∧ (cv G w).category = 2) := by
      rintro ⟨e1, e2⟩
      subst e1
      rw [cv_cat] at e2
      simp only [g_ok, hk] at ho
      cases w <;> simp_all [Value.category]
    simp only [Bool.and_eq_true, Bool.not_eq_true', beq_eq_false_iff_ne, ne_eq, Bool.and_eq_false_iff]
    refine ⟨hki, ?_⟩
    by_cases e1 : k + 1 = i
    · exact Or.inr (fun e2 => h1 ⟨e1, e2⟩)
    · exact Or.inl e1
theorem g_L_st2 {G : gG} {lsA : Array Slot} {n i : Nat} {ls : List (Option Value)} {v : Value} (ho : g_ok ls i = true) (h : lv_has lsA n ((i, cv G v) :: (g_pr G ls).filter (fun q => !(q.1 == i) && (!(q.1 == i + 1) && !(q.1 + 1 == i && q.2.category == 2))))) : g_L G lsA n ((ls.set i (some v)).set (i + 1) none) := by
  refine ⟨h.1, h.2.1, fun k w hk => ?_⟩
  by_cases hk2 : k = i + 1
  · subst hk2
    rw [List.getElem?_set] at hk
    split at hk
    · split at hk <;> simp at hk
    · rename_i hne
      exact absurd rfl hne
  rw [List.getElem?_set_ne (Ne.symm hk2)] at hk
  by_cases hki : k = i
  · subst hki
    have hl : k < (ls.set k (some v)).length := (List.getElem?_eq_some_iff.mp hk).1
    rw [List.length_set] at hl
    rw [List.getElem?_set_self hl] at hk
    cases hk
    exact h.2.2 (k, cv G v) List.mem_cons_self
  · rw [List.getElem?_set_ne (Ne.symm hki)] at hk
    refine h.2.2 (k, cv G w) (List.mem_cons_of_mem _ (List.mem_filter.mpr ⟨g_pr_mem.mpr ⟨w, hk, rfl⟩, ?_⟩))
    have h1 : ¬ (k + 1 = i ∧ (cv G w).category = 2) := by
      rintro ⟨e1, e2⟩
      subst e1
      rw [cv_cat] at e2
      simp only [g_ok, hk] at ho
      cases w <;> simp_all [Value.category]
    simp only [Bool.and_eq_true, Bool.not_eq_true', beq_eq_false_iff_ne, ne_eq, Bool.and_eq_false_iff]
    refine ⟨hki, hk2, ?_⟩
    by_cases e1 : k + 1 = i
    · exact Or.inr (fun e2 => h1 ⟨e1, e2⟩)
    · exact Or.inl e1
theorem go_istore_n {k : Fin 4} {x : Int32} (hd : decode μ.2.1 pc = .ok (.istore_n k, 1)) (hn : k.val < μ.2.2.1) (hok : g_ok ls k.val = true) (kk : Go G μ d rc rs (pc + 1) (ls.set k.val (some (.int x))) st S I R L Q) : Go G μ d rc rs pc ls (.int x :: st) S I R L Q := by
  intro l p e RM s m args below meth c H locs cells slots mc ms lsA Z
  exact lv_istore_n Z.1.1 Z.1.2.1 hd rfl (g_L_has Z.2.2.2.2.2) hn rfl (fun ls2 h2 => (kk l p e RM s m args below meth c H locs cells slots mc ms ls2 ⟨Z.1, Z.2.1, Z.2.2.1, Z.2.2.2.1, Z.2.2.2.2.1, g_L_st1 hok h2⟩))
theorem go_istore {i : Nat} {x : Int32} (hd : decode μ.2.1 pc = .ok (.istore i, 2)) (hn : i < μ.2.2.1) (hok : g_ok ls i = true) (kk : Go G μ d rc rs (pc + 2) (ls.set i (some (.int x))) st S I R L Q) : Go G μ d rc rs pc ls (.int x :: st) S I R L Q := by
  intro l p e RM s m args below meth c H locs cells slots mc ms lsA Z
  exact lv_istore Z.1.1 Z.1.2.1 hd (g_L_has Z.2.2.2.2.2) hn rfl (fun ls2 h2 => (kk l p e RM s m args below meth c H locs cells slots mc ms ls2 ⟨Z.1, Z.2.1, Z.2.2.1, Z.2.2.2.1, Z.2.2.2.2.1, g_L_st1 hok h2⟩))
theorem go_lstore_n {k : Fin 4} {x : Int64} (hd : decode μ.2.1 pc = .ok (.lstore_n k, 1)) (hn : k.val + 1 < μ.2.2.1) (hok : g_ok ls k.val = true) (kk : Go G μ d rc rs (pc + 1) ((ls.set k.val (some (.long x))).set (k.val + 1) none) st S I R L Q) : Go G μ d rc rs pc ls (.long x :: st) S I R L Q := by
  intro l p e RM s m args below meth c H locs cells slots mc ms lsA Z
  exact lv_lstore_n Z.1.1 Z.1.2.1 hd rfl (g_L_has Z.2.2.2.2.2) hn rfl (fun ls2 h2 => (kk l p e RM s m args below meth c H locs cells slots mc ms ls2 ⟨Z.1, Z.2.1, Z.2.2.1, Z.2.2.2.1, Z.2.2.2.2.1, g_L_st2 hok h2⟩))
theorem go_lstore {i : Nat} {x : Int64} (hd : decode μ.2.1 pc = .ok (.lstore i, 2)) (hn : i + 1 < μ.2.2.1) (hok : g_ok ls i = true) (kk : Go G μ d rc rs (pc + 2) ((ls.set i (some (.long x))).set (i + 1) none) st S I R L Q) : Go G μ d rc rs pc ls (.long x :: st) S I R L Q := by
  intro l p e RM s m args below meth c H locs cells slots mc ms lsA Z
  exact lv_lstore Z.1.1 Z.1.2.1 hd (g_L_has Z.2.2.2.2.2) hn rfl (fun ls2 h2 => (kk l p e RM s m args below meth c H locs cells slots mc ms ls2 ⟨Z.1, Z.2.1, Z.2.2.1, Z.2.2.2.1, Z.2.2.2.2.1, g_L_st2 hok h2⟩))
theorem go_astore_n {k : Fin 4} {x : Nat} (hd : decode μ.2.1 pc = .ok (.astore_n k, 1)) (hn : k.val < μ.2.2.1) (hok : g_ok ls k.val = true) (kk : Go G μ d rc rs (pc + 1) (ls.set k.val (some (.ref x))) st S I R L Q) : Go G μ d rc rs pc ls (.ref x :: st) S I R L Q := by
  intro l p e RM s m args below meth c H locs cells slots mc ms lsA Z
  exact lv_astore_n Z.1.1 Z.1.2.1 hd rfl (g_L_has Z.2.2.2.2.2) hn rfl (fun ls2 h2 => (kk l p e RM s m args below meth c H locs cells slots mc ms ls2 ⟨Z.1, Z.2.1, Z.2.2.1, Z.2.2.2.1, Z.2.2.2.2.1, g_L_st1 hok h2⟩))
theorem go_astore {i : Nat} {x : Nat} (hd : decode μ.2.1 pc = .ok (.astore i, 2)) (hn : i < μ.2.2.1) (hok : g_ok ls i = true) (kk : Go G μ d rc rs (pc + 2) (ls.set i (some (.ref x))) st S I R L Q) : Go G μ d rc rs pc ls (.ref x :: st) S I R L Q := by
  intro l p e RM s m args below meth c H locs cells slots mc ms lsA Z
  exact lv_astore Z.1.1 Z.1.2.1 hd (g_L_has Z.2.2.2.2.2) hn rfl (fun ls2 h2 => (kk l p e RM s m args below meth c H locs cells slots mc ms ls2 ⟨Z.1, Z.2.1, Z.2.2.1, Z.2.2.2.1, Z.2.2.2.2.1, g_L_st1 hok h2⟩))
theorem go_astoreX_n {k : Fin 4} {x : UInt32} (hd : decode μ.2.1 pc = .ok (.astore_n k, 1)) (hn : k.val < μ.2.2.1) (hok : g_ok ls k.val = true) (kk : Go G μ d rc rs (pc + 1) (ls.set k.val (some (.float x))) st S I R L Q) : Go G μ d rc rs pc ls (.float x :: st) S I R L Q := by
  intro l p e RM s m args below meth c H locs cells slots mc ms lsA Z
  exact lv_astore_n Z.1.1 Z.1.2.1 hd rfl (g_L_has Z.2.2.2.2.2) hn rfl (fun ls2 h2 => (kk l p e RM s m args below meth c H locs cells slots mc ms ls2 ⟨Z.1, Z.2.1, Z.2.2.1, Z.2.2.2.1, Z.2.2.2.2.1, g_L_st1 hok h2⟩))
theorem go_astoreX {i : Nat} {x : UInt32} (hd : decode μ.2.1 pc = .ok (.astore i, 2)) (hn : i < μ.2.2.1) (hok : g_ok ls i = true) (kk : Go G μ d rc rs (pc + 2) (ls.set i (some (.float x))) st S I R L Q) : Go G μ d rc rs pc ls (.float x :: st) S I R L Q := by
  intro l p e RM s m args below meth c H locs cells slots mc ms lsA Z
  exact lv_astore Z.1.1 Z.1.2.1 hd (g_L_has Z.2.2.2.2.2) hn rfl (fun ls2 h2 => (kk l p e RM s m args below meth c H locs cells slots mc ms ls2 ⟨Z.1, Z.2.1, Z.2.2.1, Z.2.2.2.1, Z.2.2.2.2.1, g_L_st1 hok h2⟩))
theorem go_astoreN_n {k : Fin 4} (hd : decode μ.2.1 pc = .ok (.astore_n k, 1)) (hn : k.val < μ.2.2.1) (hok : g_ok ls k.val = true) (kk : Go G μ d rc rs (pc + 1) (ls.set k.val (some .null)) st S I R L Q) : Go G μ d rc rs pc ls (.null :: st) S I R L Q := by
  intro l p e RM s m args below meth c H locs cells slots mc ms lsA Z
  exact lv_astore_nN Z.1.1 Z.1.2.1 hd rfl (g_L_has Z.2.2.2.2.2) hn rfl (fun ls2 h2 => (kk l p e RM s m args below meth c H locs cells slots mc ms ls2 ⟨Z.1, Z.2.1, Z.2.2.1, Z.2.2.2.1, Z.2.2.2.2.1, g_L_st1 hok h2⟩))
theorem go_iinc {i : Nat} {n : Int} {x : Int32} (hd : decode μ.2.1 pc = .ok (.iinc i n, 3)) (hx : ls[i]? = some (some (.int x))) (hn : i < μ.2.2.1) (hok : g_ok ls i = true) (kk : Go G μ d rc rs (pc + 3) (ls.set i (some (.int (x + Int32.ofInt n)))) st S I R L Q) : Go G μ d rc rs pc ls st S I R L Q := by
  intro l p e RM s m args below meth c H locs cells slots mc ms lsA Z
  obtain ⟨j, hj⟩ := List.getElem?_of_mem (g_pr_mem (G := G) (q := (i, Value.int x)) |>.mpr ⟨.int x, hx, rfl⟩)
  exact lv_iinc Z.1.1 Z.1.2.1 hd (g_L_has Z.2.2.2.2.2) hj rfl hn rfl (fun ls2 h2 => (kk l p e RM s m args below meth c H locs cells slots mc ms ls2 ⟨Z.1, Z.2.1, Z.2.2.1, Z.2.2.2.1, Z.2.2.2.2.1, g_L_st1 (v := .int (x + Int32.ofInt n)) hok h2⟩))
theorem go_iret {v : Int32} (hd : decode μ.2.1 pc = .ok (.ireturn, 1)) (hr : μ.2.2.2 = some .int) (hc : rc = 0) (hq : Q (some (.int v)) S I R L) : Go G μ d rc rs pc ls [.int v] S I R L Q := by
  intro l p e RM s m args below meth c H locs cells slots mc ms lsA Z
  subst hc
  obtain ⟨hC, hR, ⟨h1, h2, h3⟩, hP, hS, hL⟩ := Z
  subst h1
  have hlocks := hC.2.2.2.2.1
  refine W.widen (k := cells + 0) (n := ms) (Nat.le_refl _) (by omega) ?_
  exact W.iret hC.1 hC.2.1 (hC.2.2.2.1.trans hr) (fun t ht hW => ⟨some (.int v), S, I, R, L, rfl, hq, by rw [ht]; exact hP, by rw [ht]; exact ⟨hS.1, hS.2.1, fun _ h => by cases h⟩, h3⟩) hS.2.2 hd
theorem go_lret {v : Int64} (hd : decode μ.2.1 pc = .ok (.lreturn, 1)) (hr : μ.2.2.2 = some .long) (hc : rc = 0) (hq : Q (some (.long v)) S I R L) : Go G μ d rc rs pc ls [.long v] S I R L Q := by
  intro l p e RM s m args below meth c H locs cells slots mc ms lsA Z
  subst hc
  obtain ⟨hC, hR, ⟨h1, h2, h3⟩, hP, hS, hL⟩ := Z
  subst h1
  have hlocks := hC.2.2.2.2.1
  refine W.widen (k := cells + 0) (n := ms) (Nat.le_refl _) (by omega) ?_
  exact W.lret hC.1 hC.2.1 (hC.2.2.2.1.trans hr) (fun t ht hW => ⟨some (.long v), S, I, R, L, rfl, hq, by rw [ht]; exact hP, by rw [ht]; exact ⟨hS.1, hS.2.1, fun _ h => by cases h⟩, h3⟩) hS.2.2 hd
theorem go_zret {v : Int32} (hd : decode μ.2.1 pc = .ok (.ireturn, 1)) {ty : FieldType} (hr : μ.2.2.2 = some ty) (hn : narrow ty (.int v) = .int v) (hc : rc = 0) (hq : Q (some (.int v)) S I R L) : Go G μ d rc rs pc ls [.int v] S I R L Q := by
  intro l p e RM s m args below meth c H locs cells slots mc ms lsA Z
  subst hc
  obtain ⟨hC, hR, ⟨h1, h2, h3⟩, hP, hS, hL⟩ := Z
  subst h1
  have hlocks := hC.2.2.2.2.1
  refine W.widen (k := cells + 0) (n := ms) (Nat.le_refl _) (by omega) ?_
  exact W.zret hC.1 hC.2.1 (hC.2.2.2.1.trans hr) hn (fun t ht hW => ⟨some (.int v), S, I, R, L, rfl, hq, by rw [ht]; exact hP, by rw [ht]; exact ⟨hS.1, hS.2.1, fun _ h => by cases h⟩, h3⟩) hS.2.2 hd
theorem go_vret (hd : decode μ.2.1 pc = .ok (.return_, 1)) (hr : μ.2.2.2 = none) (hc : rc = 0) (hq : Q none S I R L) : Go G μ d rc rs pc ls [] S I R L Q := by
  intro l p e RM s m args below meth c H locs cells slots mc ms lsA Z
  subst hc
  obtain ⟨hC, hR, ⟨h1, h2, h3⟩, hP, hS, hL⟩ := Z
  subst h1
  have hlocks := hC.2.2.2.2.1
  refine W.widen (k := cells + 0) (n := ms) (Nat.le_refl _) (by omega) ?_
  exact W.vret hC.1 hC.2.1 (hC.2.2.2.1.trans hr) (fun t ht hW => ⟨none, S, I, R, L, rfl, hq, by rw [ht]; exact hP, by rw [ht]; exact ⟨hS.1, hS.2.1, fun _ h => by cases h⟩, h3⟩) hS.2.2 hd
theorem go_aret {v : Value} (hv : v = .null ∨ ∃ a, v = .ref a) (hd : decode μ.2.1 pc = .ok (.areturn, 1)) {n : String} (hr : μ.2.2.2 = some (.object n)) (hc : rc = 0) (hq : Q (some v) S I R L) : Go G μ d rc rs pc ls [v] S I R L Q := by
  intro l p e RM s m args below meth c H locs cells slots mc ms lsA Z
  subst hc
  obtain ⟨hC, hR, ⟨h1, h2, h3⟩, hP, hS, hL⟩ := Z
  subst h1
  have hlocks := hC.2.2.2.2.1
  refine W.widen (k := cells + 0) (n := ms) (Nat.le_refl _) (by omega) ?_
  exact W.aret (v := cv G v) hC.1 hC.2.1 (hC.2.2.2.1.trans hr) (Or.inl ⟨n, rfl⟩) (by rcases hv with rfl | ⟨a, rfl⟩; exact Or.inl rfl; exact Or.inr ⟨_, rfl⟩) (fun t ht hW => ⟨some v, S, I, R, L, rfl, hq, by rw [ht]; exact hP, by rw [ht]; exact ⟨hS.1, hS.2.1, fun _ h => by cases h⟩, h3⟩) hS.2.2 hd
end GR
