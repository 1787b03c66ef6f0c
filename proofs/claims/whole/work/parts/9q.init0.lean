/-! constructors: cells that are not made yet are empty -/
def frs (n : Nat) (I : gI) (R : gR) (L : gL) : Prop := ∀ a, n ≤ a → (∀ j, I a j = 0) ∧ (∀ j, R a j = none) ∧ ∀ j, L a j = 0
theorem frs_m {n m : Nat} {I : gI} {R : gR} {L : gL} (h : frs n I R L) (hm : n ≤ m) : frs m I R L := fun a ha => h a (by omega)
theorem frs_s {n : Nat} {I : gI} {R : gR} {L : gL} (h : frs n I R L) : frs (n + 1) I R L := frs_m h (by omega)
theorem frs_up {n c i : Nat} {x : Int32} {I : gI} {R : gR} {L : gL} (h : frs n I R L) (hc : c < n) : frs n (up I c i x) R L := fun a ha => ⟨fun j => by rw [up_nc (by omega)]; exact (h a ha).1 j, (h a ha).2⟩
theorem frs_upR {n c i : Nat} {x : Option Nat} {I : gI} {R : gR} {L : gL} (h : frs n I R L) (hc : c < n) : frs n I (upR R c i x) L := fun a ha => ⟨(h a ha).1, fun j => by rw [upR_nc (by omega)]; exact (h a ha).2.1 j, (h a ha).2.2⟩
theorem at_l {S t : gS} {a : Nat} {x : Nat × Nat} (h : S[a]? = some x) : (S ++ t)[a]? = some x := by
  rw [List.getElem?_append_left (List.getElem?_eq_some_iff.mp h).1]; exact h
theorem at_n {S : gS} {q : Nat} {x : Nat × Nat} (h : S.length = q) : (S ++ [x])[q]? = some x := by subst h; simp
theorem len_s {S : gS} {q : Nat} {x : Nat × Nat} (h : S.length = q) : (S ++ [x]).length = q + 1 := by subst h; simp
theorem len_a {S t : gS} {q k : Nat} (h : S.length = q) (hk : t.length = k) : (S ++ t).length = q + k := by subst h; subst hk; simp
theorem at_a {S t : gS} {q k : Nat} {x : Nat × Nat} (h : S.length = q) (hk : t[k]? = some x) : (S ++ t)[q + k]? = some x := by
  subst h; rw [List.getElem?_append_right (by omega), Nat.add_sub_cancel_left]; exact hk
section
variable {G : gG} {μ : gm} {d rc rs pc : Nat} {ls : List (Option Value)} {st : List Value} {S : gS} {I : gI} {R : gR} {L : gL} {Q : gQ}
theorem go_newI' {n : Int32} {N q : Nat} (hd : decode μ.2.1 pc = .ok (.newarray .int, 2)) (hw : Cond.arrayClass .int ∈ g_t) (hn : ¬ n < 0) (hN : n.toNatClampNeg = N) (hb : N * 4 ≤ 536870912) (hS : S.length = q) (hf : frs q I R L) (kk : Go G μ d rc rs (pc + 2) ls (.ref q :: st) (S ++ [(1, N)]) I R L Q) : Go G μ d (rc + 1) (rs + N) pc ls (.int n :: st) S I R L Q := by
  subst hS; exact go_newI hd hw hn hN hb (hf _ (Nat.le_refl _)).1 kk
theorem go_newB' {n : Int32} {N q : Nat} (hd : decode μ.2.1 pc = .ok (.newarray .byte, 2)) (hw : Cond.arrayClass .byte ∈ g_t) (hn : ¬ n < 0) (hN : n.toNatClampNeg = N) (hb : N * 1 ≤ 536870912) (hS : S.length = q) (hf : frs q I R L) (kk : Go G μ d rc rs (pc + 2) ls (.ref q :: st) (S ++ [(2, N)]) I R L Q) : Go G μ d (rc + 1) (rs + N) pc ls (.int n :: st) S I R L Q := by
  subst hS; exact go_newB hd hw hn hN hb (hf _ (Nat.le_refl _)).1 kk
theorem go_newL' {n : Int32} {N q : Nat} (hd : decode μ.2.1 pc = .ok (.newarray .long, 2)) (hw : Cond.arrayClass .long ∈ g_t) (hn : ¬ n < 0) (hN : n.toNatClampNeg = N) (hb : N * 8 ≤ 536870912) (hS : S.length = q) (hf : frs q I R L) (kk : Go G μ d rc rs (pc + 2) ls (.ref q :: st) (S ++ [(3, N)]) I R L Q) : Go G μ d (rc + 1) (rs + N) pc ls (.int n :: st) S I R L Q := by
  subst hS; exact go_newL hd hw hn hN hb (hf _ (Nat.le_refl _)).2.2 kk
theorem go_newA' {κ idx q : Nat} {C : String} {n : Int32} {N : Nat} (hd : decode μ.2.1 pc = .ok (.anewarray idx, 3)) (hw : Cond.classLink μ.1.cls idx C ∈ g_t) (ht : ∀ G : gG, (g_tys G)[κ + 3]? = some (G.2.2.1 (κ + 3), .object C)) (hO : ∀ (G : gG) (U : State), g_X G U → va_AO C U) (hn : ¬ n < 0) (hN : n.toNatClampNeg = N) (hb : N * 4 ≤ 536870912) (hS : S.length = q) (hf : frs q I R L) (kk : Go G μ d rc rs (pc + 3) ls (.ref q :: st) (S ++ [(κ + 4, N)]) I R L Q) : Go G μ d (rc + 1) (rs + N) pc ls (.int n :: st) S I R L Q := by
  subst hS; exact go_newA hd hw ht hO hn hN hb (hf _ (Nat.le_refl _)).2.1 kk
theorem go_new' {ci idx N q : Nat} {C : String} (hd : decode μ.2.1 pc = .ok (.new idx, 3)) (hc : ∃ T, g_cl[ci]? = some (C, T, N)) (hw1 : Cond.classLink μ.1.cls idx C ∈ g_t) (hw2 : Cond.instantiable C N ∈ g_t) (hw3 : Cond.initialized C ∈ g_t) (hdef : ∀ j, j < N → defaultValue (g_ty ci j) = if g_rt (g_ty ci j) = true then .null else .int 0) (hS : S.length = q) (hf : frs q I R L) (kk : Go G μ d rc rs (pc + 3) ls (.ref q :: st) (S ++ [(0, ci)]) I R L Q) : Go G μ d (rc + 1) (rs + N) pc ls st S I R L Q := by
  subst hS; exact go_new hd hc hw1 hw2 hw3 (hf _ (Nat.le_refl _)).1 (hf _ (Nat.le_refl _)).2.1 hdef kk
end
/-- a Scene was made at b -/
def scN (b : Nat) (I I' : gI) (R R' : gR) : Prop := (∀ a, a ≠ b → a ≠ b + 2 → I' a = I a) ∧ (I' b 3 = 0 ∧ I' b 4 = 0 ∧ I' b 5 = 3) ∧ (∀ e, e < 9 → I' (b + 2) e = 2) ∧ (∀ a, a ≠ b → R' a = R a) ∧ R' b 0 = some (b + 1) ∧ R' b 1 = some (b + 2) ∧ R' b 2 = some (b + 3)
def scS : gS := [(1, 4), (1, 9), (1, 9)]
theorem c_X4 {G : gG} {S : gS} {I : gI} {R : gR} {L : gL} {Q : gQ} {b : Nat} (hS : S.length = b + 1) (hb : S[b]? = some (0, 4)) (hf : frs (b + 1) I R L) (hq : ∀ I' R', scN b I I' R R' → frs (b + 4) I' R' L → Q none (S ++ scS) I' R' L) : Mt G mX4_init 2 3 22 [.ref b] S I R L Q := by
  refine go_start rfl (Nat.le_of_ble_eq_true rfl) rfl ?_
  refine go_aload_n dX4_init_0 rfl ?_
  refine go_objInit dX4_init_1 lX4_3 ns_obj nc_obj (Nat.le_of_ble_eq_true rfl) (Nat.le_of_ble_eq_true rfl) ?_
  refine go_aload_n dX4_init_4 rfl ?_
  refine go_iconst (v := 4) dX4_init_5 (by decide) ?_
  refine go_newI' (N := 4) (q := (b + 1)) (rc := 2) (rs := 18) dX4_init_6 na_int (by decide) rfl (by decide) hS hf ?_
  have hf := frs_s hf
  refine go_putF dX4_init_8 fX4_9 rfl (fun z => ⟨rfl, rfl⟩) rfl (fun r h => by cases h; rfl) (at_l hb) ?_
  have hf := frs_upR (c := b) (i := 0) (x := some (b + 1)) hf (by omega)
  refine go_aload_n dX4_init_11 rfl ?_
  refine go_bipush (v := 9) dX4_init_12 (by decide) ?_
  refine go_newI' (N := 9) (q := (b + 2)) (rc := 1) (rs := 9) dX4_init_14 na_int (by decide) rfl (by decide) (len_s hS) hf ?_
  have hf := frs_s hf
  refine go_putF dX4_init_16 fX4_15 rfl (fun z => ⟨rfl, rfl⟩) rfl (fun r h => by cases h; rfl) (at_l (at_l hb)) ?_
  have hf := frs_upR (c := b) (i := 1) (x := some (b + 2)) hf (by omega)
  refine go_aload_n dX4_init_19 rfl ?_
  refine go_bipush (v := 9) dX4_init_20 (by decide) ?_
  refine go_newI' (N := 9) (q := (b + 3)) (rc := 0) (rs := 0) dX4_init_22 na_int (by decide) rfl (by decide) (len_s (len_s hS)) hf ?_
  have hf := frs_s hf
  refine go_putF dX4_init_24 fX4_18 rfl (fun z => ⟨rfl, rfl⟩) rfl (fun r h => by cases h; rfl) (at_l (at_l (at_l hb))) ?_
  have hf := frs_upR (c := b) (i := 2) (x := some (b + 3)) hf (by omega)
  refine go_iconst (v := 0) dX4_init_27 (by decide) ?_
  refine go_istore_n dX4_init_28 (Nat.le_of_ble_eq_true rfl) rfl ?_
  have r0 : upR (upR (upR R b 0 (some (b + 1))) b 1 (some (b + 2))) b 2 (some (b + 3)) b 0 = some (b + 1) := by rw [upR_ni (by decide), upR_ni (by decide), upR_eq]
  have r1 : upR (upR (upR R b 0 (some (b + 1))) b 1 (some (b + 2))) b 2 (some (b + 3)) b 1 = some (b + 2) := by rw [upR_ni (by decide), upR_eq]
  have r2 : upR (upR (upR R b 0 (some (b + 1))) b 1 (some (b + 2))) b 2 (some (b + 3)) b 2 = some (b + 3) := upR_eq _ _ _ _
  have ro : ∀ a, a ≠ b → upR (upR (upR R b 0 (some (b + 1))) b 1 (some (b + 2))) b 2 (some (b + 3)) a = R a := fun a ha => by rw [upR_off a ha, upR_off a ha, upR_off a ha]
  generalize hR' : upR (upR (upR R b 0 (some (b + 1))) b 1 (some (b + 2))) b 2 (some (b + 3)) = R' at *
  have main : ∀ (m k : Nat) (J : gI), k + m = 9 → (∀ a, a ≠ b + 2 → J a = I a) → (∀ e, e < k → J (b + 2) e = 2) → frs (b + 4) J R' L → Go G mX4_init 2 0 0 29 [some (.ref b), some (.int (nI k))] [] (S ++ [(1, 4)] ++ [(1, 9)] ++ [(1, 9)]) J R' L Q := by
    intro m
    induction m with
    | zero =>
      intro k J hk j1 j2 jf
      refine go_iload_n dX4_init_29 rfl ?_
      refine go_aload_n dX4_init_30 rfl ?_
      refine go_getR dX4_init_31 fX4_15 rfl (at_l (at_l (at_l hb))) r1 ?_
      refine go_alen (n := 9) 0 dX4_init_34 (at_l (at_n (len_s hS))) (by decide) (v := 9) rfl ?_
      refine go_icmp_ge 51 dX4_init_35 (by decide) (fun c => ?_) (fun c => absurd (nI_le (a := 9) (by omega) (by omega)) c)
      refine go_aload_n dX4_init_51 rfl ?_
      refine go_iconst (v := 0) dX4_init_52 (by decide) ?_
      refine go_putI dX4_init_53 fX4_21 rfl rfl rfl (at_l (at_l (at_l hb))) ?_
      have hf := frs_up (c := b) (i := 3) (x := 0) jf (by omega)
      refine go_aload_n dX4_init_56 rfl ?_
      refine go_iconst (v := 0) dX4_init_57 (by decide) ?_
      refine go_putI dX4_init_58 fX4_25 rfl rfl rfl (at_l (at_l (at_l hb))) ?_
      have hf := frs_up (c := b) (i := 4) (x := 0) hf (by omega)
      refine go_aload_n dX4_init_61 rfl ?_
      refine go_iconst (v := 3) dX4_init_62 (by decide) ?_
      refine go_putI dX4_init_63 fX4_28 rfl rfl rfl (at_l (at_l (at_l hb))) ?_
      have hf := frs_up (c := b) (i := 5) (x := 3) hf (by omega)
      refine go_vret dX4_init_66 rfl rfl ?_
      rw [List.append_assoc, List.append_assoc]
      refine hq _ R' ⟨fun a h1 h2 => ?_, ⟨?_, ?_, ?_⟩, fun e he => ?_, ro, r0, r1, r2⟩ hf
      · rw [up_off a h1, up_off a h1, up_off a h1]; exact j1 a h2
      · rw [up_ni (by decide), up_ni (by decide), up_eq]
      · rw [up_ni (by decide), up_eq]
      · rw [up_eq]
      · rw [up_nc (by omega), up_nc (by omega), up_nc (by omega)]; exact j2 e (by omega)
    | succ m ih =>
      intro k J hk j1 j2 jf
      refine go_iload_n dX4_init_29 rfl ?_
      refine go_aload_n dX4_init_30 rfl ?_
      refine go_getR dX4_init_31 fX4_15 rfl (at_l (at_l (at_l hb))) r1 ?_
      refine go_alen (n := 9) 0 dX4_init_34 (at_l (at_n (len_s hS))) (by decide) (v := 9) rfl ?_
      refine go_icmp_ge 51 dX4_init_35 (by decide) (fun c => absurd c (nI_ge (b := 9) (by omega) (by omega))) (fun c => ?_)
      refine go_aload_n dX4_init_38 rfl ?_
      refine go_getR dX4_init_39 fX4_15 rfl (at_l (at_l (at_l hb))) r1 ?_
      refine go_iload_n dX4_init_42 rfl ?_
      refine go_iconst (v := 2) dX4_init_43 (by decide) ?_
      refine go_iast dX4_init_44 (at_l (at_n (len_s hS))) (vp_in_nI (by omega) (by decide)) ?_
      rw [nI_clamp (by omega)]
      refine go_iinc dX4_init_45 rfl (Nat.le_of_ble_eq_true rfl) rfl ?_
      refine go_goto 29 dX4_init_48 (by decide) ?_
      rw [show nI k + Int32.ofInt 1 = nI (k + 1) from nI_1 k]
      refine ih (k + 1) _ (by omega) (fun a ha => by rw [up_off a ha]; exact j1 a ha) (fun e he => ?_) (frs_up jf (by omega))
      by_cases q : e = k
      · subst q; exact up_eq _ _ _ _
      · rw [up_ni q]; exact j2 e (by omega)
  exact main 9 0 I (by omega) (fun _ _ => rfl) (fun e he => by omega) hf
