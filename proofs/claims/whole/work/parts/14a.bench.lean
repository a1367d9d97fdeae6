/-! the benches' text -/
abbrev nS : Type := Nat × Nat × Nat × (Nat → Option Nat) × (Nat → Nat)
def nOk (S : nS) (b : Nat) : Bool := if b = 59 then decide (0 < S.2.1) else decide (S.1 < 4 ∧ S.2.1 < 4 ∧ (b = 46 ∨ (97 ≤ b ∧ b ≤ 104 ∧ yFind S.2.2.2.1 (b - 97) 0 S.2.2.1 = none)))
def nLe (b : Nat) : Option Nat := if b = 46 then none else some (b - 97)
def nAdd (S : nS) (b : Nat) : nS := if b = 59 then (S.1 + 1, 0, S.2.2.1, S.2.2.2.1, S.2.2.2.2) else (S.1, S.2.1 + 1, S.2.2.1 + 1, fun q => if q = S.2.2.1 then nLe b else S.2.2.2.1 q, fun q => if q = S.2.2.1 then S.1 else S.2.2.2.2 q)
def nRun (u : Nat → Nat) : Nat → nS
  | 0 => (0, 0, 0, fun _ => none, fun _ => 0)
  | i + 1 => nAdd (nRun u i) (u i)
def nFa (u : Nat → Nat) : Nat → Nat → Option Nat
  | _, 0 => none
  | i, m + 1 => if nOk (nRun u i) (u i) then nFa u (i + 1) m else some i
def nFault (u : Nat → Nat) (len : Nat) : Option Nat := match nFa u 0 len with
  | some i => some i
  | none => if 0 < len ∧ (nRun u len).2.1 = 0 then some len else none
def nSeats (u : Nat → Nat) (len : Nat) : Nat := if nFault u len = none then (nRun u len).2.2.1 else 0
theorem yFind_none {w : Nat → Option Nat} {k : Nat} : ∀ m p, yFind w k p m = none ↔ ∀ q, p ≤ q → q < p + m → ¬ w q = some k
  | 0, p => by simp [yFind]; intro q h1 h2; omega
  | m + 1, p => by
    unfold yFind
    by_cases hw : w p = some k
    · rw [if_pos hw]
      refine ⟨fun h => (by cases h), fun h => absurd hw (h p (by omega) (by omega))⟩
    · rw [if_neg hw, yFind_none m (p + 1)]
      refine ⟨fun h q h1 h2 => ?_, fun h q h1 h2 => h q (by omega) (by omega)⟩
      by_cases hq : q = p
      · rw [hq]; exact hw
      · exact h q (by omega) (by omega)
/-- what holds of the benches while they are read -/
def nInv (S : nS) : Prop := S.1 ≤ 4 ∧ S.2.1 ≤ 4 ∧ (S.1 = 4 → S.2.1 = 0) ∧ S.2.2.1 ≤ 4 * S.1 + S.2.1 ∧ (∀ q, q < S.2.2.1 → yIn 8 (S.2.2.2.1 q)) ∧ (∀ p q k, p < S.2.2.1 → q < S.2.2.1 → S.2.2.2.1 p = some k → S.2.2.2.1 q = some k → p = q) ∧ ∀ q, q < S.2.2.1 → S.2.2.2.2 q < 4
theorem nInv_add {S : nS} {b : Nat} (h : nInv S) (hok : nOk S b = true) : nInv (nAdd S b) := by
  obtain ⟨bn, row, n, le, be⟩ := S
  obtain ⟨h1, h2, h3, h4, h5, h6, h7⟩ := h
  dsimp only at h1 h2 h3 h4 h5 h6 h7
  unfold nOk at hok
  unfold nAdd
  by_cases hb : b = 59
  · rw [if_pos hb] at hok ⊢
    have hok := of_decide_eq_true hok
    dsimp only at hok
    refine ⟨?_, ?_, ?_, ?_, h5, h6, h7⟩ <;> dsimp only <;> omega
  · rw [if_neg hb] at hok ⊢
    have hok := of_decide_eq_true hok
    dsimp only at hok
    obtain ⟨o1, o2, o3⟩ := hok
    refine ⟨?_, ?_, ?_, ?_, ?_, ?_, ?_⟩ <;> dsimp only
    · omega
    · omega
    · omega
    · omega
    · intro q hq
      by_cases hqn : q = n
      · rw [if_pos hqn]
        intro k hk
        unfold nLe at hk
        split at hk
        · cases hk
        · cases hk; omega
      · rw [if_neg hqn]
        exact h5 q (by omega)
    · have hnew : ∀ q k, q < n → nLe b = some k → ¬ le q = some k := by
        intro q k hq hk hl
        unfold nLe at hk
        split at hk
        · cases hk
        · cases hk
          rcases o3 with o3 | o3
          · omega
          · exact (yFind_none n 0).mp o3.2.2 q (by omega) (by omega) hl
      intro p q k hp hq e1 e2
      by_cases hpn : p = n
      · by_cases hqn : q = n
        · omega
        · rw [if_pos hpn] at e1
          rw [if_neg hqn] at e2
          exact absurd e2 (hnew q k (by omega) e1)
      · by_cases hqn : q = n
        · rw [if_neg hpn] at e1
          rw [if_pos hqn] at e2
          exact absurd e1 (hnew p k (by omega) e2)
        · rw [if_neg hpn] at e1
          rw [if_neg hqn] at e2
          exact h6 p q k (by omega) (by omega) e1 e2
    · intro q hq
      by_cases hqn : q = n
      · rw [if_pos hqn]; omega
      · rw [if_neg hqn]; exact h7 q (by omega)
theorem nInv_0 {u : Nat → Nat} : nInv (nRun u 0) := by
  refine ⟨?_, ?_, ?_, ?_, ?_, ?_, ?_⟩ <;> simp [nRun]
set_option maxHeartbeats 4000000 in
set_option maxRecDepth 100000 in
theorem ct_seatTold {K : vc_K} {n k : Nat} {le : Nat → Option Nat} {σ : vc_S} {Q : Option Value → vc_S → Prop} (hn : σ.1 8 2 = nI n) (hn16 : n ≤ 16) (hle : ∀ p, p < n → σ.2 9 p = vE (le p) ∧ yIn 8 (le p)) (hk : k < 8) (h : Q (some (.int (vE (yFind le k 0 n)))) σ) : vc_C K 10 [.ref 8, .int (nI k)] σ Q := by
  have lp : ∀ m p, p + m = n → Q (some (.int (vE (yFind le k p m)))) σ → vc_G K 10 2 [some (.ref 8), some (.int (nI k)), some (.int (nI p))] [] σ Q := by
    intro m
    induction m with
    | zero =>
      intro p hp h
      refine g_10_2 ?_
      simp only [vc_wi, vc_li, vc_ll, vc_lr, vc_i1, vc_i2, vc_l1, vc_l2, vc_il, vc_r1, vc_ri, vc_rii, vc_rx, vc_cp, vc_s1, vc_s2, vc_fg, vc_cm, vc_ald, vc_bld, vc_ast, vc_bst, vc_len, vc_gf, vc_pf, vc_cpy, vc_ct, List.getElem?_cons_zero, List.getElem?_cons_succ, List.set_cons_zero, List.set_cons_succ, List.take_succ_cons, List.take_zero, List.drop_succ_cons, List.drop_zero, List.reverse_cons, List.reverse_nil, List.nil_append, List.cons_append, Option.toList_some, Option.toList_none, List.map_cons, List.map_nil, List.sum_cons, List.sum_nil, List.length_cons, List.length_nil, Value.category, Nat.reduceEqDiff, Nat.reduceLeDiff, Nat.reduceAdd, reduceIte, true_and, and_true, B_10_2, rt_10, cls_0, fld_0_0, fld_0_1, fld_0_2, fld_0_3, fld_0_4, fld_0_5, fld_0_6, fld_0_7, fld_0_8, fld_0_9, fld_0_10, fld_0_11, fld_0_12, fld_0_13, fld_0_14, fld_0_15, fld_0_16, fld_0_17, fld_0_18, cls_1, fld_1_0, fld_1_1, arr_2, cls_3, fld_3_0, fld_3_1, arr_4, cls_5, fld_5_0, fld_5_1, fld_5_2, fld_5_3, arr_6, arr_7, cls_8, fld_8_0, fld_8_1, fld_8_2, fld_8_3, arr_9, arr_10, cls_11, fld_11_0, fld_11_1, fld_11_2, fld_11_3, arr_12, arr_13, arr_14, cls_15, fld_15_0, fld_15_1, fld_15_2, fld_15_3, fld_15_4, arr_16, arr_17, arr_18, arr_19, lay_20, cls_21, fld_21_0, fld_21_1, fld_21_2, fld_21_3, arr_22, cls_23, fld_23_0, fld_23_1, fld_23_2, fld_23_3, arr_24, cls_25, fld_25_0, fld_25_1, fld_25_2, fld_25_3, arr_26, cls_27, fld_27_0, fld_27_1, fld_27_2, fld_27_3, arr_28, cls_47, fld_47_0, fld_47_1, fld_47_2, fld_47_3, arr_48, arr_49, arr_50, cls_51, fld_51_0, cls_52, fld_52_0, fld_52_1, arr_53, arr_54, arr_55, arr_56]
      try simp (disch := omega) only [vc_brT, vc_brF, vc_anT, vc_brt, vc_brf, vc_ant, vn_n0, vn_in, vn_cl, vn_lt, vn_le, vn_eq, vn_sub, vn_div, vn_rem, vn_mod, vn_m1, vn_m1n, vn_m1p, nI_add, pk_mul, vc_sa_1, vc_sa_2, vc_sg_1, vc_sg_2, Nat.reduceEqDiff, Nat.reduceLeDiff, Nat.reduceAdd, Nat.reduceMul, Nat.reduceSub, Nat.not_lt_zero, Nat.add_left_cancel_iff, reduceIte, true_and, and_true, not_false_eq_true, not_true_eq_false, true_or, or_true, Bool.false_eq_true, hn]
      refine g_10_28 ?_
      simp only [vc_wi, vc_li, vc_ll, vc_lr, vc_i1, vc_i2, vc_l1, vc_l2, vc_il, vc_r1, vc_ri, vc_rii, vc_rx, vc_cp, vc_s1, vc_s2, vc_fg, vc_cm, vc_ald, vc_bld, vc_ast, vc_bst, vc_len, vc_gf, vc_pf, vc_cpy, vc_ct, List.getElem?_cons_zero, List.getElem?_cons_succ, List.set_cons_zero, List.set_cons_succ, List.take_succ_cons, List.take_zero, List.drop_succ_cons, List.drop_zero, List.reverse_cons, List.reverse_nil, List.nil_append, List.cons_append, Option.toList_some, Option.toList_none, List.map_cons, List.map_nil, List.sum_cons, List.sum_nil, List.length_cons, List.length_nil, Value.category, Nat.reduceEqDiff, Nat.reduceLeDiff, Nat.reduceAdd, reduceIte, true_and, and_true, B_10_28, rt_10, cls_0, fld_0_0, fld_0_1, fld_0_2, fld_0_3, fld_0_4, fld_0_5, fld_0_6, fld_0_7, fld_0_8, fld_0_9, fld_0_10, fld_0_11, fld_0_12, fld_0_13, fld_0_14, fld_0_15, fld_0_16, fld_0_17, fld_0_18, cls_1, fld_1_0, fld_1_1, arr_2, cls_3, fld_3_0, fld_3_1, arr_4, cls_5, fld_5_0, fld_5_1, fld_5_2, fld_5_3, arr_6, arr_7, cls_8, fld_8_0, fld_8_1, fld_8_2, fld_8_3, arr_9, arr_10, cls_11, fld_11_0, fld_11_1, fld_11_2, fld_11_3, arr_12, arr_13, arr_14, cls_15, fld_15_0, fld_15_1, fld_15_2, fld_15_3, fld_15_4, arr_16, arr_17, arr_18, arr_19, lay_20, cls_21, fld_21_0, fld_21_1, fld_21_2, fld_21_3, arr_22, cls_23, fld_23_0, fld_23_1, fld_23_2, fld_23_3, arr_24, cls_25, fld_25_0, fld_25_1, fld_25_2, fld_25_3, arr_26, cls_27, fld_27_0, fld_27_1, fld_27_2, fld_27_3, arr_28, cls_47, fld_47_0, fld_47_1, fld_47_2, fld_47_3, arr_48, arr_49, arr_50, cls_51, fld_51_0, cls_52, fld_52_0, fld_52_1, arr_53, arr_54, arr_55, arr_56]
      try simp (disch := omega) only [vc_brT, vc_brF, vc_anT, vc_brt, vc_brf, vc_ant, vn_n0, vn_in, vn_cl, vn_lt, vn_le, vn_eq, vn_sub, vn_div, vn_rem, vn_mod, vn_m1, vn_m1n, vn_m1p, nI_add, pk_mul, vc_sa_1, vc_sa_2, vc_sg_1, vc_sg_2, Nat.reduceEqDiff, Nat.reduceLeDiff, Nat.reduceAdd, Nat.reduceMul, Nat.reduceSub, Nat.not_lt_zero, Nat.add_left_cancel_iff, reduceIte, true_and, and_true, not_false_eq_true, not_true_eq_false, true_or, or_true, Bool.false_eq_true]
      exact h
    | succ m ih =>
      intro p hp h
      obtain ⟨l1, l2⟩ := hle p (by omega)
      rw [yFind] at h
      have c22 : ¬ le p = some k → vc_G K 10 22 [some (.ref 8), some (.int (nI k)), some (.int (nI p))] [] σ Q := by
        intro hne
        refine g_10_22 ?_
        simp only [vc_wi, vc_li, vc_ll, vc_lr, vc_i1, vc_i2, vc_l1, vc_l2, vc_il, vc_r1, vc_ri, vc_rii, vc_rx, vc_cp, vc_s1, vc_s2, vc_fg, vc_cm, vc_ald, vc_bld, vc_ast, vc_bst, vc_len, vc_gf, vc_pf, vc_cpy, vc_ct, List.getElem?_cons_zero, List.getElem?_cons_succ, List.set_cons_zero, List.set_cons_succ, List.take_succ_cons, List.take_zero, List.drop_succ_cons, List.drop_zero, List.reverse_cons, List.reverse_nil, List.nil_append, List.cons_append, Option.toList_some, Option.toList_none, List.map_cons, List.map_nil, List.sum_cons, List.sum_nil, List.length_cons, List.length_nil, Value.category, Nat.reduceEqDiff, Nat.reduceLeDiff, Nat.reduceAdd, reduceIte, true_and, and_true, B_10_22, rt_10, cls_0, fld_0_0, fld_0_1, fld_0_2, fld_0_3, fld_0_4, fld_0_5, fld_0_6, fld_0_7, fld_0_8, fld_0_9, fld_0_10, fld_0_11, fld_0_12, fld_0_13, fld_0_14, fld_0_15, fld_0_16, fld_0_17, fld_0_18, cls_1, fld_1_0, fld_1_1, arr_2, cls_3, fld_3_0, fld_3_1, arr_4, cls_5, fld_5_0, fld_5_1, fld_5_2, fld_5_3, arr_6, arr_7, cls_8, fld_8_0, fld_8_1, fld_8_2, fld_8_3, arr_9, arr_10, cls_11, fld_11_0, fld_11_1, fld_11_2, fld_11_3, arr_12, arr_13, arr_14, cls_15, fld_15_0, fld_15_1, fld_15_2, fld_15_3, fld_15_4, arr_16, arr_17, arr_18, arr_19, lay_20, cls_21, fld_21_0, fld_21_1, fld_21_2, fld_21_3, arr_22, cls_23, fld_23_0, fld_23_1, fld_23_2, fld_23_3, arr_24, cls_25, fld_25_0, fld_25_1, fld_25_2, fld_25_3, arr_26, cls_27, fld_27_0, fld_27_1, fld_27_2, fld_27_3, arr_28, cls_47, fld_47_0, fld_47_1, fld_47_2, fld_47_3, arr_48, arr_49, arr_50, cls_51, fld_51_0, cls_52, fld_52_0, fld_52_1, arr_53, arr_54, arr_55, arr_56]
        try simp (disch := omega) only [vc_brT, vc_brF, vc_anT, vc_brt, vc_brf, vc_ant, vn_n0, vn_in, vn_cl, vn_lt, vn_le, vn_eq, vn_sub, vn_div, vn_rem, vn_mod, vn_m1, vn_m1n, vn_m1p, nI_add, pk_mul, vc_sa_1, vc_sa_2, vc_sg_1, vc_sg_2, Nat.reduceEqDiff, Nat.reduceLeDiff, Nat.reduceAdd, Nat.reduceMul, Nat.reduceSub, Nat.not_lt_zero, Nat.add_left_cancel_iff, reduceIte, true_and, and_true, not_false_eq_true, not_true_eq_false, true_or, or_true, Bool.false_eq_true]
        rw [if_neg hne] at h
        exact ih (p + 1) (by omega) h
      cases hl : le p with
      | none =>
        rw [hl, vE_n] at l1
        refine g_10_2 ?_
        simp only [vc_wi, vc_li, vc_ll, vc_lr, vc_i1, vc_i2, vc_l1, vc_l2, vc_il, vc_r1, vc_ri, vc_rii, vc_rx, vc_cp, vc_s1, vc_s2, vc_fg, vc_cm, vc_ald, vc_bld, vc_ast, vc_bst, vc_len, vc_gf, vc_pf, vc_cpy, vc_ct, List.getElem?_cons_zero, List.getElem?_cons_succ, List.set_cons_zero, List.set_cons_succ, List.take_succ_cons, List.take_zero, List.drop_succ_cons, List.drop_zero, List.reverse_cons, List.reverse_nil, List.nil_append, List.cons_append, Option.toList_some, Option.toList_none, List.map_cons, List.map_nil, List.sum_cons, List.sum_nil, List.length_cons, List.length_nil, Value.category, Nat.reduceEqDiff, Nat.reduceLeDiff, Nat.reduceAdd, reduceIte, true_and, and_true, B_10_2, rt_10, cls_0, fld_0_0, fld_0_1, fld_0_2, fld_0_3, fld_0_4, fld_0_5, fld_0_6, fld_0_7, fld_0_8, fld_0_9, fld_0_10, fld_0_11, fld_0_12, fld_0_13, fld_0_14, fld_0_15, fld_0_16, fld_0_17, fld_0_18, cls_1, fld_1_0, fld_1_1, arr_2, cls_3, fld_3_0, fld_3_1, arr_4, cls_5, fld_5_0, fld_5_1, fld_5_2, fld_5_3, arr_6, arr_7, cls_8, fld_8_0, fld_8_1, fld_8_2, fld_8_3, arr_9, arr_10, cls_11, fld_11_0, fld_11_1, fld_11_2, fld_11_3, arr_12, arr_13, arr_14, cls_15, fld_15_0, fld_15_1, fld_15_2, fld_15_3, fld_15_4, arr_16, arr_17, arr_18, arr_19, lay_20, cls_21, fld_21_0, fld_21_1, fld_21_2, fld_21_3, arr_22, cls_23, fld_23_0, fld_23_1, fld_23_2, fld_23_3, arr_24, cls_25, fld_25_0, fld_25_1, fld_25_2, fld_25_3, arr_26, cls_27, fld_27_0, fld_27_1, fld_27_2, fld_27_3, arr_28, cls_47, fld_47_0, fld_47_1, fld_47_2, fld_47_3, arr_48, arr_49, arr_50, cls_51, fld_51_0, cls_52, fld_52_0, fld_52_1, arr_53, arr_54, arr_55, arr_56]
        try simp (disch := omega) only [vc_brT, vc_brF, vc_anT, vc_brt, vc_brf, vc_ant, vn_n0, vn_in, vn_cl, vn_lt, vn_le, vn_eq, vn_sub, vn_div, vn_rem, vn_mod, vn_m1, vn_m1n, vn_m1p, nI_add, pk_mul, vc_sa_1, vc_sa_2, vc_sg_1, vc_sg_2, Nat.reduceEqDiff, Nat.reduceLeDiff, Nat.reduceAdd, Nat.reduceMul, Nat.reduceSub, Nat.not_lt_zero, Nat.add_left_cancel_iff, reduceIte, true_and, and_true, not_false_eq_true, not_true_eq_false, true_or, or_true, Bool.false_eq_true, hn, l1, vn_m1']
        exact c22 (by rw [hl]; intro q; cases q)
      | some j =>
        have hj := l2 j hl
        rw [hl, vE_s] at l1
        refine g_10_2 ?_
        simp only [vc_wi, vc_li, vc_ll, vc_lr, vc_i1, vc_i2, vc_l1, vc_l2, vc_il, vc_r1, vc_ri, vc_rii, vc_rx, vc_cp, vc_s1, vc_s2, vc_fg, vc_cm, vc_ald, vc_bld, vc_ast, vc_bst, vc_len, vc_gf, vc_pf, vc_cpy, vc_ct, List.getElem?_cons_zero, List.getElem?_cons_succ, List.set_cons_zero, List.set_cons_succ, List.take_succ_cons, List.take_zero, List.drop_succ_cons, List.drop_zero, List.reverse_cons, List.reverse_nil, List.nil_append, List.cons_append, Option.toList_some, Option.toList_none, List.map_cons, List.map_nil, List.sum_cons, List.sum_nil, List.length_cons, List.length_nil, Value.category, Nat.reduceEqDiff, Nat.reduceLeDiff, Nat.reduceAdd, reduceIte, true_and, and_true, B_10_2, rt_10, cls_0, fld_0_0, fld_0_1, fld_0_2, fld_0_3, fld_0_4, fld_0_5, fld_0_6, fld_0_7, fld_0_8, fld_0_9, fld_0_10, fld_0_11, fld_0_12, fld_0_13, fld_0_14, fld_0_15, fld_0_16, fld_0_17, fld_0_18, cls_1, fld_1_0, fld_1_1, arr_2, cls_3, fld_3_0, fld_3_1, arr_4, cls_5, fld_5_0, fld_5_1, fld_5_2, fld_5_3, arr_6, arr_7, cls_8, fld_8_0, fld_8_1, fld_8_2, fld_8_3, arr_9, arr_10, cls_11, fld_11_0, fld_11_1, fld_11_2, fld_11_3, arr_12, arr_13, arr_14, cls_15, fld_15_0, fld_15_1, fld_15_2, fld_15_3, fld_15_4, arr_16, arr_17, arr_18, arr_19, lay_20, cls_21, fld_21_0, fld_21_1, fld_21_2, fld_21_3, arr_22, cls_23, fld_23_0, fld_23_1, fld_23_2, fld_23_3, arr_24, cls_25, fld_25_0, fld_25_1, fld_25_2, fld_25_3, arr_26, cls_27, fld_27_0, fld_27_1, fld_27_2, fld_27_3, arr_28, cls_47, fld_47_0, fld_47_1, fld_47_2, fld_47_3, arr_48, arr_49, arr_50, cls_51, fld_51_0, cls_52, fld_52_0, fld_52_1, arr_53, arr_54, arr_55, arr_56]
        try simp (disch := omega) only [vc_brT, vc_brF, vc_anT, vc_brt, vc_brf, vc_ant, vn_n0, vn_in, vn_cl, vn_lt, vn_le, vn_eq, vn_sub, vn_div, vn_rem, vn_mod, vn_m1, vn_m1n, vn_m1p, nI_add, pk_mul, vc_sa_1, vc_sa_2, vc_sg_1, vc_sg_2, Nat.reduceEqDiff, Nat.reduceLeDiff, Nat.reduceAdd, Nat.reduceMul, Nat.reduceSub, Nat.not_lt_zero, Nat.add_left_cancel_iff, reduceIte, true_and, and_true, not_false_eq_true, not_true_eq_false, true_or, or_true, Bool.false_eq_true, hn, l1]
        refine vc_br_i (fun q => c22 (by rw [hl]; intro e; exact q (Option.some.inj e))) (fun q => ?_)
        rw [if_pos (by rw [hl]; congr 1; omega)] at h
        exact h
  refine vc_C_of (ls0 := [some (.ref 8), some (.int (nI k)), none]) hk_10 (Nat.le_of_ble_eq_true rfl) rfl ?_
  refine g_10_0 ?_
  simp only [vc_wi, vc_li, vc_ll, vc_lr, vc_i1, vc_i2, vc_l1, vc_l2, vc_il, vc_r1, vc_ri, vc_rii, vc_rx, vc_cp, vc_s1, vc_s2, vc_fg, vc_cm, vc_ald, vc_bld, vc_ast, vc_bst, vc_len, vc_gf, vc_pf, vc_cpy, vc_ct, List.getElem?_cons_zero, List.getElem?_cons_succ, List.set_cons_zero, List.set_cons_succ, List.take_succ_cons, List.take_zero, List.drop_succ_cons, List.drop_zero, List.reverse_cons, List.reverse_nil, List.nil_append, List.cons_append, Option.toList_some, Option.toList_none, List.map_cons, List.map_nil, List.sum_cons, List.sum_nil, List.length_cons, List.length_nil, Value.category, Nat.reduceEqDiff, Nat.reduceLeDiff, Nat.reduceAdd, reduceIte, true_and, and_true, B_10_0, rt_10, cls_0, fld_0_0, fld_0_1, fld_0_2, fld_0_3, fld_0_4, fld_0_5, fld_0_6, fld_0_7, fld_0_8, fld_0_9, fld_0_10, fld_0_11, fld_0_12, fld_0_13, fld_0_14, fld_0_15, fld_0_16, fld_0_17, fld_0_18, cls_1, fld_1_0, fld_1_1, arr_2, cls_3, fld_3_0, fld_3_1, arr_4, cls_5, fld_5_0, fld_5_1, fld_5_2, fld_5_3, arr_6, arr_7, cls_8, fld_8_0, fld_8_1, fld_8_2, fld_8_3, arr_9, arr_10, cls_11, fld_11_0, fld_11_1, fld_11_2, fld_11_3, arr_12, arr_13, arr_14, cls_15, fld_15_0, fld_15_1, fld_15_2, fld_15_3, fld_15_4, arr_16, arr_17, arr_18, arr_19, lay_20, cls_21, fld_21_0, fld_21_1, fld_21_2, fld_21_3, arr_22, cls_23, fld_23_0, fld_23_1, fld_23_2, fld_23_3, arr_24, cls_25, fld_25_0, fld_25_1, fld_25_2, fld_25_3, arr_26, cls_27, fld_27_0, fld_27_1, fld_27_2, fld_27_3, arr_28, cls_47, fld_47_0, fld_47_1, fld_47_2, fld_47_3, arr_48, arr_49, arr_50, cls_51, fld_51_0, cls_52, fld_52_0, fld_52_1, arr_53, arr_54, arr_55, arr_56]
  try simp (disch := omega) only [vc_brT, vc_brF, vc_anT, vc_brt, vc_brf, vc_ant, vn_n0, vn_in, vn_cl, vn_lt, vn_le, vn_eq, vn_sub, vn_div, vn_rem, vn_mod, vn_m1, vn_m1n, vn_m1p, nI_add, pk_mul, vc_sa_1, vc_sa_2, vc_sg_1, vc_sg_2, Nat.reduceEqDiff, Nat.reduceLeDiff, Nat.reduceAdd, Nat.reduceMul, Nat.reduceSub, Nat.not_lt_zero, Nat.add_left_cancel_iff, reduceIte, true_and, and_true, not_false_eq_true, not_true_eq_false, true_or, or_true, Bool.false_eq_true]
  exact lp n 0 (by omega) h
set_option maxHeartbeats 4000000 in
set_option maxRecDepth 100000 in
theorem ct_mayStand {K : vc_K} {n b : Nat} {le : Nat → Option Nat} {σ : vc_S} {Q : Option Value → vc_S → Prop} (hn : σ.1 8 2 = nI n) (hn16 : n < 16) (hle : ∀ p, p < n → σ.2 9 p = vE (le p) ∧ yIn 8 (le p)) (hb : b < 256) (h : Q (some (.int (nI (if b = 46 ∨ (97 ≤ b ∧ b ≤ 104 ∧ yFind le (b - 97) 0 n = none) then 1 else 0)))) σ) : vc_C K 9 [.ref 8, .int (nI b)] σ Q := by
  have c41 : (b = 46 ∨ (97 ≤ b ∧ b ≤ 104 ∧ yFind le (b - 97) 0 n = none)) → vc_G K 9 41 [some (.ref 8), some (.int (nI b))] [] σ Q := by
    intro hc
    refine g_9_41 ?_
    simp only [vc_wi, vc_li, vc_ll, vc_lr, vc_i1, vc_i2, vc_l1, vc_l2, vc_il, vc_r1, vc_ri, vc_rii, vc_rx, vc_cp, vc_s1, vc_s2, vc_fg, vc_cm, vc_ald, vc_bld, vc_ast, vc_bst, vc_len, vc_gf, vc_pf, vc_cpy, vc_ct, List.getElem?_cons_zero, List.getElem?_cons_succ, List.set_cons_zero, List.set_cons_succ, List.take_succ_cons, List.take_zero, List.drop_succ_cons, List.drop_zero, List.reverse_cons, List.reverse_nil, List.nil_append, List.cons_append, Option.toList_some, Option.toList_none, List.map_cons, List.map_nil, List.sum_cons, List.sum_nil, List.length_cons, List.length_nil, Value.category, Nat.reduceEqDiff, Nat.reduceLeDiff, Nat.reduceAdd, reduceIte, true_and, and_true, B_9_41, rt_9, cls_0, fld_0_0, fld_0_1, fld_0_2, fld_0_3, fld_0_4, fld_0_5, fld_0_6, fld_0_7, fld_0_8, fld_0_9, fld_0_10, fld_0_11, fld_0_12, fld_0_13, fld_0_14, fld_0_15, fld_0_16, fld_0_17, fld_0_18, cls_1, fld_1_0, fld_1_1, arr_2, cls_3, fld_3_0, fld_3_1, arr_4, cls_5, fld_5_0, fld_5_1, fld_5_2, fld_5_3, arr_6, arr_7, cls_8, fld_8_0, fld_8_1, fld_8_2, fld_8_3, arr_9, arr_10, cls_11, fld_11_0, fld_11_1, fld_11_2, fld_11_3, arr_12, arr_13, arr_14, cls_15, fld_15_0, fld_15_1, fld_15_2, fld_15_3, fld_15_4, arr_16, arr_17, arr_18, arr_19, lay_20, cls_21, fld_21_0, fld_21_1, fld_21_2, fld_21_3, arr_22, cls_23, fld_23_0, fld_23_1, fld_23_2, fld_23_3, arr_24, cls_25, fld_25_0, fld_25_1, fld_25_2, fld_25_3, arr_26, cls_27, fld_27_0, fld_27_1, fld_27_2, fld_27_3, arr_28, cls_47, fld_47_0, fld_47_1, fld_47_2, fld_47_3, arr_48, arr_49, arr_50, cls_51, fld_51_0, cls_52, fld_52_0, fld_52_1, arr_53, arr_54, arr_55, arr_56]
    try simp (disch := omega) only [vc_brT, vc_brF, vc_anT, vc_brt, vc_brf, vc_ant, vn_n0, vn_in, vn_cl, vn_lt, vn_le, vn_eq, vn_sub, vn_div, vn_rem, vn_mod, vn_m1, vn_m1n, vn_m1p, nI_add, pk_mul, vc_sa_1, vc_sa_2, vc_sg_1, vc_sg_2, Nat.reduceEqDiff, Nat.reduceLeDiff, Nat.reduceAdd, Nat.reduceMul, Nat.reduceSub, Nat.not_lt_zero, Nat.add_left_cancel_iff, reduceIte, true_and, and_true, not_false_eq_true, not_true_eq_false, true_or, or_true, Bool.false_eq_true]
    refine g_9_46 ?_
    simp only [vc_wi, vc_li, vc_ll, vc_lr, vc_i1, vc_i2, vc_l1, vc_l2, vc_il, vc_r1, vc_ri, vc_rii, vc_rx, vc_cp, vc_s1, vc_s2, vc_fg, vc_cm, vc_ald, vc_bld, vc_ast, vc_bst, vc_len, vc_gf, vc_pf, vc_cpy, vc_ct, List.getElem?_cons_zero, List.getElem?_cons_succ, List.set_cons_zero, List.set_cons_succ, List.take_succ_cons, List.take_zero, List.drop_succ_cons, List.drop_zero, List.reverse_cons, List.reverse_nil, List.nil_append, List.cons_append, Option.toList_some, Option.toList_none, List.map_cons, List.map_nil, List.sum_cons, List.sum_nil, List.length_cons, List.length_nil, Value.category, Nat.reduceEqDiff, Nat.reduceLeDiff, Nat.reduceAdd, reduceIte, true_and, and_true, B_9_46, rt_9, cls_0, fld_0_0, fld_0_1, fld_0_2, fld_0_3, fld_0_4, fld_0_5, fld_0_6, fld_0_7, fld_0_8, fld_0_9, fld_0_10, fld_0_11, fld_0_12, fld_0_13, fld_0_14, fld_0_15, fld_0_16, fld_0_17, fld_0_18, cls_1, fld_1_0, fld_1_1, arr_2, cls_3, fld_3_0, fld_3_1, arr_4, cls_5, fld_5_0, fld_5_1, fld_5_2, fld_5_3, arr_6, arr_7, cls_8, fld_8_0, fld_8_1, fld_8_2, fld_8_3, arr_9, arr_10, cls_11, fld_11_0, fld_11_1, fld_11_2, fld_11_3, arr_12, arr_13, arr_14, cls_15, fld_15_0, fld_15_1, fld_15_2, fld_15_3, fld_15_4, arr_16, arr_17, arr_18, arr_19, lay_20, cls_21, fld_21_0, fld_21_1, fld_21_2, fld_21_3, arr_22, cls_23, fld_23_0, fld_23_1, fld_23_2, fld_23_3, arr_24, cls_25, fld_25_0, fld_25_1, fld_25_2, fld_25_3, arr_26, cls_27, fld_27_0, fld_27_1, fld_27_2, fld_27_3, arr_28, cls_47, fld_47_0, fld_47_1, fld_47_2, fld_47_3, arr_48, arr_49, arr_50, cls_51, fld_51_0, cls_52, fld_52_0, fld_52_1, arr_53, arr_54, arr_55, arr_56]
    try simp (disch := omega) only [vc_brT, vc_brF, vc_anT, vc_brt, vc_brf, vc_ant, vn_n0, vn_in, vn_cl, vn_lt, vn_le, vn_eq, vn_sub, vn_div, vn_rem, vn_mod, vn_m1, vn_m1n, vn_m1p, nI_add, pk_mul, vc_sa_1, vc_sa_2, vc_sg_1, vc_sg_2, Nat.reduceEqDiff, Nat.reduceLeDiff, Nat.reduceAdd, Nat.reduceMul, Nat.reduceSub, Nat.not_lt_zero, Nat.add_left_cancel_iff, reduceIte, true_and, and_true, not_false_eq_true, not_true_eq_false, true_or, or_true, Bool.false_eq_true]
    rw [if_pos hc] at h
    exact h
  have c45 : ¬ (b = 46 ∨ (97 ≤ b ∧ b ≤ 104 ∧ yFind le (b - 97) 0 n = none)) → vc_G K 9 45 [some (.ref 8), some (.int (nI b))] [] σ Q := by
    intro hc
    refine g_9_45 ?_
    simp only [vc_wi, vc_li, vc_ll, vc_lr, vc_i1, vc_i2, vc_l1, vc_l2, vc_il, vc_r1, vc_ri, vc_rii, vc_rx, vc_cp, vc_s1, vc_s2, vc_fg, vc_cm, vc_ald, vc_bld, vc_ast, vc_bst, vc_len, vc_gf, vc_pf, vc_cpy, vc_ct, List.getElem?_cons_zero, List.getElem?_cons_succ, List.set_cons_zero, List.set_cons_succ, List.take_succ_cons, List.take_zero, List.drop_succ_cons, List.drop_zero, List.reverse_cons, List.reverse_nil, List.nil_append, List.cons_append, Option.toList_some, Option.toList_none, List.map_cons, List.map_nil, List.sum_cons, List.sum_nil, List.length_cons, List.length_nil, Value.category, Nat.reduceEqDiff, Nat.reduceLeDiff, Nat.reduceAdd, reduceIte, true_and, and_true, B_9_45, rt_9, cls_0, fld_0_0, fld_0_1, fld_0_2, fld_0_3, fld_0_4, fld_0_5, fld_0_6, fld_0_7, fld_0_8, fld_0_9, fld_0_10, fld_0_11, fld_0_12, fld_0_13, fld_0_14, fld_0_15, fld_0_16, fld_0_17, fld_0_18, cls_1, fld_1_0, fld_1_1, arr_2, cls_3, fld_3_0, fld_3_1, arr_4, cls_5, fld_5_0, fld_5_1, fld_5_2, fld_5_3, arr_6, arr_7, cls_8, fld_8_0, fld_8_1, fld_8_2, fld_8_3, arr_9, arr_10, cls_11, fld_11_0, fld_11_1, fld_11_2, fld_11_3, arr_12, arr_13, arr_14, cls_15, fld_15_0, fld_15_1, fld_15_2, fld_15_3, fld_15_4, arr_16, arr_17, arr_18, arr_19, lay_20, cls_21, fld_21_0, fld_21_1, fld_21_2, fld_21_3, arr_22, cls_23, fld_23_0, fld_23_1, fld_23_2, fld_23_3, arr_24, cls_25, fld_25_0, fld_25_1, fld_25_2, fld_25_3, arr_26, cls_27, fld_27_0, fld_27_1, fld_27_2, fld_27_3, arr_28, cls_47, fld_47_0, fld_47_1, fld_47_2, fld_47_3, arr_48, arr_49, arr_50, cls_51, fld_51_0, cls_52, fld_52_0, fld_52_1, arr_53, arr_54, arr_55, arr_56]
    try simp (disch := omega) only [vc_brT, vc_brF, vc_anT, vc_brt, vc_brf, vc_ant, vn_n0, vn_in, vn_cl, vn_lt, vn_le, vn_eq, vn_sub, vn_div, vn_rem, vn_mod, vn_m1, vn_m1n, vn_m1p, nI_add, pk_mul, vc_sa_1, vc_sa_2, vc_sg_1, vc_sg_2, Nat.reduceEqDiff, Nat.reduceLeDiff, Nat.reduceAdd, Nat.reduceMul, Nat.reduceSub, Nat.not_lt_zero, Nat.add_left_cancel_iff, reduceIte, true_and, and_true, not_false_eq_true, not_true_eq_false, true_or, or_true, Bool.false_eq_true]
    refine g_9_46 ?_
    simp only [vc_wi, vc_li, vc_ll, vc_lr, vc_i1, vc_i2, vc_l1, vc_l2, vc_il, vc_r1, vc_ri, vc_rii, vc_rx, vc_cp, vc_s1, vc_s2, vc_fg, vc_cm, vc_ald, vc_bld, vc_ast, vc_bst, vc_len, vc_gf, vc_pf, vc_cpy, vc_ct, List.getElem?_cons_zero, List.getElem?_cons_succ, List.set_cons_zero, List.set_cons_succ, List.take_succ_cons, List.take_zero, List.drop_succ_cons, List.drop_zero, List.reverse_cons, List.reverse_nil, List.nil_append, List.cons_append, Option.toList_some, Option.toList_none, List.map_cons, List.map_nil, List.sum_cons, List.sum_nil, List.length_cons, List.length_nil, Value.category, Nat.reduceEqDiff, Nat.reduceLeDiff, Nat.reduceAdd, reduceIte, true_and, and_true, B_9_46, rt_9, cls_0, fld_0_0, fld_0_1, fld_0_2, fld_0_3, fld_0_4, fld_0_5, fld_0_6, fld_0_7, fld_0_8, fld_0_9, fld_0_10, fld_0_11, fld_0_12, fld_0_13, fld_0_14, fld_0_15, fld_0_16, fld_0_17, fld_0_18, cls_1, fld_1_0, fld_1_1, arr_2, cls_3, fld_3_0, fld_3_1, arr_4, cls_5, fld_5_0, fld_5_1, fld_5_2, fld_5_3, arr_6, arr_7, cls_8, fld_8_0, fld_8_1, fld_8_2, fld_8_3, arr_9, arr_10, cls_11, fld_11_0, fld_11_1, fld_11_2, fld_11_3, arr_12, arr_13, arr_14, cls_15, fld_15_0, fld_15_1, fld_15_2, fld_15_3, fld_15_4, arr_16, arr_17, arr_18, arr_19, lay_20, cls_21, fld_21_0, fld_21_1, fld_21_2, fld_21_3, arr_22, cls_23, fld_23_0, fld_23_1, fld_23_2, fld_23_3, arr_24, cls_25, fld_25_0, fld_25_1, fld_25_2, fld_25_3, arr_26, cls_27, fld_27_0, fld_27_1, fld_27_2, fld_27_3, arr_28, cls_47, fld_47_0, fld_47_1, fld_47_2, fld_47_3, arr_48, arr_49, arr_50, cls_51, fld_51_0, cls_52, fld_52_0, fld_52_1, arr_53, arr_54, arr_55, arr_56]
    try simp (disch := omega) only [vc_brT, vc_brF, vc_anT, vc_brt, vc_brf, vc_ant, vn_n0, vn_in, vn_cl, vn_lt, vn_le, vn_eq, vn_sub, vn_div, vn_rem, vn_mod, vn_m1, vn_m1n, vn_m1p, nI_add, pk_mul, vc_sa_1, vc_sa_2, vc_sg_1, vc_sg_2, Nat.reduceEqDiff, Nat.reduceLeDiff, Nat.reduceAdd, Nat.reduceMul, Nat.reduceSub, Nat.not_lt_zero, Nat.add_left_cancel_iff, reduceIte, true_and, and_true, not_false_eq_true, not_true_eq_false, true_or, or_true, Bool.false_eq_true]
    rw [if_neg hc] at h
    exact h
  refine vc_C_of (ls0 := [some (.ref 8), some (.int (nI b))]) hk_9 (Nat.le_of_ble_eq_true rfl) rfl ?_
  refine g_9_0 ?_
  simp only [vc_wi, vc_li, vc_ll, vc_lr, vc_i1, vc_i2, vc_l1, vc_l2, vc_il, vc_r1, vc_ri, vc_rii, vc_rx, vc_cp, vc_s1, vc_s2, vc_fg, vc_cm, vc_ald, vc_bld, vc_ast, vc_bst, vc_len, vc_gf, vc_pf, vc_cpy, vc_ct, List.getElem?_cons_zero, List.getElem?_cons_succ, List.set_cons_zero, List.set_cons_succ, List.take_succ_cons, List.take_zero, List.drop_succ_cons, List.drop_zero, List.reverse_cons, List.reverse_nil, List.nil_append, List.cons_append, Option.toList_some, Option.toList_none, List.map_cons, List.map_nil, List.sum_cons, List.sum_nil, List.length_cons, List.length_nil, Value.category, Nat.reduceEqDiff, Nat.reduceLeDiff, Nat.reduceAdd, reduceIte, true_and, and_true, B_9_0, rt_9, cls_0, fld_0_0, fld_0_1, fld_0_2, fld_0_3, fld_0_4, fld_0_5, fld_0_6, fld_0_7, fld_0_8, fld_0_9, fld_0_10, fld_0_11, fld_0_12, fld_0_13, fld_0_14, fld_0_15, fld_0_16, fld_0_17, fld_0_18, cls_1, fld_1_0, fld_1_1, arr_2, cls_3, fld_3_0, fld_3_1, arr_4, cls_5, fld_5_0, fld_5_1, fld_5_2, fld_5_3, arr_6, arr_7, cls_8, fld_8_0, fld_8_1, fld_8_2, fld_8_3, arr_9, arr_10, cls_11, fld_11_0, fld_11_1, fld_11_2, fld_11_3, arr_12, arr_13, arr_14, cls_15, fld_15_0, fld_15_1, fld_15_2, fld_15_3, fld_15_4, arr_16, arr_17, arr_18, arr_19, lay_20, cls_21, fld_21_0, fld_21_1, fld_21_2, fld_21_3, arr_22, cls_23, fld_23_0, fld_23_1, fld_23_2, fld_23_3, arr_24, cls_25, fld_25_0, fld_25_1, fld_25_2, fld_25_3, arr_26, cls_27, fld_27_0, fld_27_1, fld_27_2, fld_27_3, arr_28, cls_47, fld_47_0, fld_47_1, fld_47_2, fld_47_3, arr_48, arr_49, arr_50, cls_51, fld_51_0, cls_52, fld_52_0, fld_52_1, arr_53, arr_54, arr_55, arr_56]
  try simp (disch := omega) only [vc_brT, vc_brF, vc_anT, vc_brt, vc_brf, vc_ant, vn_n0, vn_in, vn_cl, vn_lt, vn_le, vn_eq, vn_sub, vn_div, vn_rem, vn_mod, vn_m1, vn_m1n, vn_m1p, nI_add, pk_mul, vc_sa_1, vc_sa_2, vc_sg_1, vc_sg_2, Nat.reduceEqDiff, Nat.reduceLeDiff, Nat.reduceAdd, Nat.reduceMul, Nat.reduceSub, Nat.not_lt_zero, Nat.add_left_cancel_iff, reduceIte, true_and, and_true, not_false_eq_true, not_true_eq_false, true_or, or_true, Bool.false_eq_true, hn]
  refine g_9_11 ?_
  simp only [vc_wi, vc_li, vc_ll, vc_lr, vc_i1, vc_i2, vc_l1, vc_l2, vc_il, vc_r1, vc_ri, vc_rii, vc_rx, vc_cp, vc_s1, vc_s2, vc_fg, vc_cm, vc_ald, vc_bld, vc_ast, vc_bst, vc_len, vc_gf, vc_pf, vc_cpy, vc_ct, List.getElem?_cons_zero, List.getElem?_cons_succ, List.set_cons_zero, List.set_cons_succ, List.take_succ_cons, List.take_zero, List.drop_succ_cons, List.drop_zero, List.reverse_cons, List.reverse_nil, List.nil_append, List.cons_append, Option.toList_some, Option.toList_none, List.map_cons, List.map_nil, List.sum_cons, List.sum_nil, List.length_cons, List.length_nil, Value.category, Nat.reduceEqDiff, Nat.reduceLeDiff, Nat.reduceAdd, reduceIte, true_and, and_true, B_9_11, rt_9, cls_0, fld_0_0, fld_0_1, fld_0_2, fld_0_3, fld_0_4, fld_0_5, fld_0_6, fld_0_7, fld_0_8, fld_0_9, fld_0_10, fld_0_11, fld_0_12, fld_0_13, fld_0_14, fld_0_15, fld_0_16, fld_0_17, fld_0_18, cls_1, fld_1_0, fld_1_1, arr_2, cls_3, fld_3_0, fld_3_1, arr_4, cls_5, fld_5_0, fld_5_1, fld_5_2, fld_5_3, arr_6, arr_7, cls_8, fld_8_0, fld_8_1, fld_8_2, fld_8_3, arr_9, arr_10, cls_11, fld_11_0, fld_11_1, fld_11_2, fld_11_3, arr_12, arr_13, arr_14, cls_15, fld_15_0, fld_15_1, fld_15_2, fld_15_3, fld_15_4, arr_16, arr_17, arr_18, arr_19, lay_20, cls_21, fld_21_0, fld_21_1, fld_21_2, fld_21_3, arr_22, cls_23, fld_23_0, fld_23_1, fld_23_2, fld_23_3, arr_24, cls_25, fld_25_0, fld_25_1, fld_25_2, fld_25_3, arr_26, cls_27, fld_27_0, fld_27_1, fld_27_2, fld_27_3, arr_28, cls_47, fld_47_0, fld_47_1, fld_47_2, fld_47_3, arr_48, arr_49, arr_50, cls_51, fld_51_0, cls_52, fld_52_0, fld_52_1, arr_53, arr_54, arr_55, arr_56]
  try simp (disch := omega) only [vc_brT, vc_brF, vc_anT, vc_brt, vc_brf, vc_ant, vn_n0, vn_in, vn_cl, vn_lt, vn_le, vn_eq, vn_sub, vn_div, vn_rem, vn_mod, vn_m1, vn_m1n, vn_m1p, nI_add, pk_mul, vc_sa_1, vc_sa_2, vc_sg_1, vc_sg_2, Nat.reduceEqDiff, Nat.reduceLeDiff, Nat.reduceAdd, Nat.reduceMul, Nat.reduceSub, Nat.not_lt_zero, Nat.add_left_cancel_iff, reduceIte, true_and, and_true, not_false_eq_true, not_true_eq_false, true_or, or_true, Bool.false_eq_true]
  refine vc_br_i (fun q => c41 (Or.inl q)) (fun q => ?_)
  refine vc_br_i (fun q2 => c45 (by omega)) (fun q2 => vc_br_i (fun q3 => c45 (by omega)) (fun q3 => ?_))
  rw [vn_sub (by omega)]
  refine ct_seatTold hn (by omega) hle (by omega) ?_
  cases hy : yFind le (b - 97) 0 n with
  | none =>
    simp only [vc_wi, vc_li, vc_ll, vc_lr, vc_i1, vc_i2, vc_l1, vc_l2, vc_il, vc_r1, vc_ri, vc_rii, vc_rx, vc_cp, vc_s1, vc_s2, vc_fg, vc_cm, vc_ald, vc_bld, vc_ast, vc_bst, vc_len, vc_gf, vc_pf, vc_cpy, vc_ct, List.getElem?_cons_zero, List.getElem?_cons_succ, List.set_cons_zero, List.set_cons_succ, List.take_succ_cons, List.take_zero, List.drop_succ_cons, List.drop_zero, List.reverse_cons, List.reverse_nil, List.nil_append, List.cons_append, Option.toList_some, Option.toList_none, List.map_cons, List.map_nil, List.sum_cons, List.sum_nil, List.length_cons, List.length_nil, Value.category, Nat.reduceEqDiff, Nat.reduceLeDiff, Nat.reduceAdd, reduceIte, true_and, and_true, rt_9, cls_0, fld_0_0, fld_0_1, fld_0_2, fld_0_3, fld_0_4, fld_0_5, fld_0_6, fld_0_7, fld_0_8, fld_0_9, fld_0_10, fld_0_11, fld_0_12, fld_0_13, fld_0_14, fld_0_15, fld_0_16, fld_0_17, fld_0_18, cls_1, fld_1_0, fld_1_1, arr_2, cls_3, fld_3_0, fld_3_1, arr_4, cls_5, fld_5_0, fld_5_1, fld_5_2, fld_5_3, arr_6, arr_7, cls_8, fld_8_0, fld_8_1, fld_8_2, fld_8_3, arr_9, arr_10, cls_11, fld_11_0, fld_11_1, fld_11_2, fld_11_3, arr_12, arr_13, arr_14, cls_15, fld_15_0, fld_15_1, fld_15_2, fld_15_3, fld_15_4, arr_16, arr_17, arr_18, arr_19, lay_20, cls_21, fld_21_0, fld_21_1, fld_21_2, fld_21_3, arr_22, cls_23, fld_23_0, fld_23_1, fld_23_2, fld_23_3, arr_24, cls_25, fld_25_0, fld_25_1, fld_25_2, fld_25_3, arr_26, cls_27, fld_27_0, fld_27_1, fld_27_2, fld_27_3, arr_28, cls_47, fld_47_0, fld_47_1, fld_47_2, fld_47_3, arr_48, arr_49, arr_50, cls_51, fld_51_0, cls_52, fld_52_0, fld_52_1, arr_53, arr_54, arr_55, arr_56]
    try simp (disch := omega) only [vc_brT, vc_brF, vc_anT, vc_brt, vc_brf, vc_ant, vn_n0, vn_in, vn_cl, vn_lt, vn_le, vn_eq, vn_sub, vn_div, vn_rem, vn_mod, vn_m1, vn_m1n, vn_m1p, nI_add, pk_mul, vc_sa_1, vc_sa_2, vc_sg_1, vc_sg_2, Nat.reduceEqDiff, Nat.reduceLeDiff, Nat.reduceAdd, Nat.reduceMul, Nat.reduceSub, Nat.not_lt_zero, Nat.add_left_cancel_iff, reduceIte, true_and, and_true, not_false_eq_true, not_true_eq_false, true_or, or_true, Bool.false_eq_true, vE_n]
    exact c41 (Or.inr ⟨by omega, by omega, hy⟩)
  | some p =>
    have hp : p < n := by
      have : ∀ m p q, yFind le (b - 97) p m = some q → q < p + m := by
        intro m
        induction m with
        | zero => intro p q h; cases h
        | succ m ih =>
          intro p q h
          unfold yFind at h
          split at h
          · cases h; omega
          · have := ih (p + 1) q h; omega
      have := this _ _ _ hy
      omega
    simp only [vc_wi, vc_li, vc_ll, vc_lr, vc_i1, vc_i2, vc_l1, vc_l2, vc_il, vc_r1, vc_ri, vc_rii, vc_rx, vc_cp, vc_s1, vc_s2, vc_fg, vc_cm, vc_ald, vc_bld, vc_ast, vc_bst, vc_len, vc_gf, vc_pf, vc_cpy, vc_ct, List.getElem?_cons_zero, List.getElem?_cons_succ, List.set_cons_zero, List.set_cons_succ, List.take_succ_cons, List.take_zero, List.drop_succ_cons, List.drop_zero, List.reverse_cons, List.reverse_nil, List.nil_append, List.cons_append, Option.toList_some, Option.toList_none, List.map_cons, List.map_nil, List.sum_cons, List.sum_nil, List.length_cons, List.length_nil, Value.category, Nat.reduceEqDiff, Nat.reduceLeDiff, Nat.reduceAdd, reduceIte, true_and, and_true, rt_9, cls_0, fld_0_0, fld_0_1, fld_0_2, fld_0_3, fld_0_4, fld_0_5, fld_0_6, fld_0_7, fld_0_8, fld_0_9, fld_0_10, fld_0_11, fld_0_12, fld_0_13, fld_0_14, fld_0_15, fld_0_16, fld_0_17, fld_0_18, cls_1, fld_1_0, fld_1_1, arr_2, cls_3, fld_3_0, fld_3_1, arr_4, cls_5, fld_5_0, fld_5_1, fld_5_2, fld_5_3, arr_6, arr_7, cls_8, fld_8_0, fld_8_1, fld_8_2, fld_8_3, arr_9, arr_10, cls_11, fld_11_0, fld_11_1, fld_11_2, fld_11_3, arr_12, arr_13, arr_14, cls_15, fld_15_0, fld_15_1, fld_15_2, fld_15_3, fld_15_4, arr_16, arr_17, arr_18, arr_19, lay_20, cls_21, fld_21_0, fld_21_1, fld_21_2, fld_21_3, arr_22, cls_23, fld_23_0, fld_23_1, fld_23_2, fld_23_3, arr_24, cls_25, fld_25_0, fld_25_1, fld_25_2, fld_25_3, arr_26, cls_27, fld_27_0, fld_27_1, fld_27_2, fld_27_3, arr_28, cls_47, fld_47_0, fld_47_1, fld_47_2, fld_47_3, arr_48, arr_49, arr_50, cls_51, fld_51_0, cls_52, fld_52_0, fld_52_1, arr_53, arr_54, arr_55, arr_56]
    try simp (disch := omega) only [vc_brT, vc_brF, vc_anT, vc_brt, vc_brf, vc_ant, vn_n0, vn_in, vn_cl, vn_lt, vn_le, vn_eq, vn_sub, vn_div, vn_rem, vn_mod, vn_m1, vn_m1n, vn_m1p, nI_add, pk_mul, vc_sa_1, vc_sa_2, vc_sg_1, vc_sg_2, Nat.reduceEqDiff, Nat.reduceLeDiff, Nat.reduceAdd, Nat.reduceMul, Nat.reduceSub, Nat.not_lt_zero, Nat.add_left_cancel_iff, reduceIte, true_and, and_true, not_false_eq_true, not_true_eq_false, true_or, or_true, Bool.false_eq_true, vE_s]
    exact c45 (by rw [hy]; intro c; rcases c with c | c; · exact q c
                  · cases c.2.2)
