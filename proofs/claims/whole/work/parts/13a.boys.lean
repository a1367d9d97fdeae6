/-! the boys' text: bytes t, so many as len -/
def bSo (b : Nat) : Option Nat := if b = 99 then some 0 else if b = 100 then some 1 else if b = 98 then some 2 else none
/-- may a byte stand at i -/
def bFit (i b : Nat) : Bool := if i % 5 = 0 then (bSo b).isSome else if i % 5 = 4 then decide (b = 59) else decide (48 ≤ b ∧ b ≤ 57)
def bFa (t : Nat → Nat) : Nat → Nat → Option Nat
  | _, 0 => none
  | i, m + 1 => if bFit i (t i) then bFa t (i + 1) m else some i
def bFault (t : Nat → Nat) (len : Nat) : Option Nat := match bFa t 0 len with
  | some i => some i
  | none => if len = 0 ∨ len % 5 = 4 then none else some len
def bNum (t : Nat → Nat) (len : Nat) : Nat := if bFault t len = none then (len + 1) / 5 else 0
def bSort (t : Nat → Nat) (k : Nat) : Nat := (bSo (t (5 * k))).getD 0
def bFirst (t : Nat → Nat) (q : Nat) : Nat := t (5 * (q / 3) + 1 + q % 3) - 48
theorem bSo_le {b k : Nat} (h : bSo b = some k) : k ≤ 2 := by
  unfold bSo at h
  split at h
  · cases h; omega
  · split at h
    · cases h; omega
    · split at h
      · cases h; omega
      · cases h
theorem bSort_le (t : Nat → Nat) (k : Nat) : bSort t k ≤ 2 := by
  unfold bSort
  cases h : bSo (t (5 * k)) with
  | none => simp
  | some j => exact bSo_le h
theorem bFa_none {t : Nat → Nat} : ∀ m i, bFa t i m = none → ∀ j, i ≤ j → j < i + m → bFit j (t j) = true
  | 0, i, _, j, h1, h2 => by omega
  | m + 1, i, h, j, h1, h2 => by
    unfold bFa at h
    split at h
    · rename_i hf
      by_cases hj : j = i
      · subst hj; exact hf
      · exact bFa_none m (i + 1) h j (by omega) (by omega)
    · cases h
theorem bFa_some {t : Nat → Nat} : ∀ m i p, (∀ j, i ≤ j → j < p → bFit j (t j) = true) → i ≤ p → p < i + m → bFit p (t p) = false → bFa t i m = some p
  | 0, i, p, _, h1, h2, _ => by omega
  | m + 1, i, p, hj, h1, h2, hp => by
    unfold bFa
    by_cases he : i = p
    · subst he
      rw [hp]
      rfl
    · rw [hj i (by omega) (by omega)]
      exact bFa_some m (i + 1) p (fun j a b => hj j (by omega) b) (by omega) (by omega) hp
theorem bFa_no {t : Nat → Nat} : ∀ m i, (∀ j, i ≤ j → j < i + m → bFit j (t j) = true) → bFa t i m = none
  | 0, _, _ => rfl
  | m + 1, i, h => by
    unfold bFa
    rw [h i (by omega) (by omega)]
    exact bFa_no m (i + 1) (fun j a b => h j (by omega) (by omega))
theorem bFirst_le {t : Nat → Nat} {len q : Nat} (hn : bFault t len = none) (hq : q < 3 * bNum t len) : bFirst t q ≤ 9 := by
  unfold bNum at hq
  rw [if_pos hn] at hq
  have hfa : bFa t 0 len = none := by
    unfold bFault at hn
    split at hn
    · cases hn
    · assumption
  have := bFa_none len 0 hfa (5 * (q / 3) + 1 + q % 3) (by omega) (by omega)
  unfold bFit at this
  rw [if_neg (by omega), if_neg (by omega)] at this
  have := of_decide_eq_true this
  unfold bFirst
  omega
set_option maxHeartbeats 4000000 in
set_option maxRecDepth 100000 in
theorem ct_sortOf {K : vc_K} {b : Nat} {σ : vc_S} {Q : Option Value → vc_S → Prop} (hb : b < 256) (h : Q (some (.int (vE (bSo b)))) σ) : vc_C K 6 [.int (nI b)] σ Q := by
  have hi : (nI b).toInt = (b : Int) := nI_toInt (by omega)
  refine vc_C_of (ls0 := [some (.int (nI b))]) hk_6 (Nat.le_of_ble_eq_true rfl) rfl ?_
  refine g_6_0 ?_
  simp only [vc_wi, vc_li, vc_ll, vc_lr, vc_i1, vc_i2, vc_l1, vc_l2, vc_il, vc_r1, vc_ri, vc_rii, vc_rx, vc_cp, vc_s1, vc_s2, vc_fg, vc_cm, vc_ald, vc_bld, vc_ast, vc_bst, vc_len, vc_gf, vc_pf, vc_cpy, vc_ct, List.getElem?_cons_zero, List.getElem?_cons_succ, List.set_cons_zero, List.set_cons_succ, List.take_succ_cons, List.take_zero, List.drop_succ_cons, List.drop_zero, List.reverse_cons, List.reverse_nil, List.nil_append, List.cons_append, Option.toList_some, Option.toList_none, List.map_cons, List.map_nil, List.sum_cons, List.sum_nil, List.length_cons, List.length_nil, Value.category, Nat.reduceEqDiff, Nat.reduceLeDiff, Nat.reduceAdd, reduceIte, true_and, and_true, B_6_0, rt_6, vc_sw, vc_sl, hi, List.toList_toArray]
  have c34 : ¬ b = 99 → ¬ b = 100 → ¬ b = 98 → vc_G K 6 34 [some (.int (nI b))] [] σ Q := by
    intro h1 h2 h3
    refine g_6_34 ?_
    simp only [vc_wi, vc_li, vc_ll, vc_lr, vc_i1, vc_i2, vc_l1, vc_l2, vc_il, vc_r1, vc_ri, vc_rii, vc_rx, vc_cp, vc_s1, vc_s2, vc_fg, vc_cm, vc_ald, vc_bld, vc_ast, vc_bst, vc_len, vc_gf, vc_pf, vc_cpy, vc_ct, List.getElem?_cons_zero, List.getElem?_cons_succ, List.set_cons_zero, List.set_cons_succ, List.take_succ_cons, List.take_zero, List.drop_succ_cons, List.drop_zero, List.reverse_cons, List.reverse_nil, List.nil_append, List.cons_append, Option.toList_some, Option.toList_none, List.map_cons, List.map_nil, List.sum_cons, List.sum_nil, List.length_cons, List.length_nil, Value.category, Nat.reduceEqDiff, Nat.reduceLeDiff, Nat.reduceAdd, reduceIte, true_and, and_true, B_6_34, rt_6]
    try simp (disch := omega) only [vc_brT, vc_brF, vc_anT, vc_brt, vc_brf, vc_ant, vn_n0, vn_in, vn_cl, vn_lt, vn_le, vn_eq, vn_sub, vn_div, vn_rem, vn_mod, vn_m1, vn_m1n, vn_m1p, nI_add, pk_mul, vc_sa_1, vc_sa_2, vc_sg_1, vc_sg_2, Nat.reduceEqDiff, Nat.reduceLeDiff, Nat.reduceAdd, Nat.reduceMul, Nat.reduceSub, Nat.not_lt_zero, Nat.add_left_cancel_iff, reduceIte, true_and, and_true, not_false_eq_true, not_true_eq_false, true_or, or_true, Bool.false_eq_true]
    rw [bSo, if_neg h1, if_neg h2, if_neg h3] at h
    exact h
  refine vc_br_i (fun q => c34 (by omega) (by omega) (by omega)) (fun q => vc_br_i (fun q1 => ?_) (fun q1 => vc_br_i (fun q2 => ?_) (fun q2 => vc_br_i (fun q3 => ?_) (fun q3 => trivial))))
  · show vc_G K 6 32 _ _ _ _
    refine g_6_32 ?_
    simp only [vc_wi, vc_li, vc_ll, vc_lr, vc_i1, vc_i2, vc_l1, vc_l2, vc_il, vc_r1, vc_ri, vc_rii, vc_rx, vc_cp, vc_s1, vc_s2, vc_fg, vc_cm, vc_ald, vc_bld, vc_ast, vc_bst, vc_len, vc_gf, vc_pf, vc_cpy, vc_ct, List.getElem?_cons_zero, List.getElem?_cons_succ, List.set_cons_zero, List.set_cons_succ, List.take_succ_cons, List.take_zero, List.drop_succ_cons, List.drop_zero, List.reverse_cons, List.reverse_nil, List.nil_append, List.cons_append, Option.toList_some, Option.toList_none, List.map_cons, List.map_nil, List.sum_cons, List.sum_nil, List.length_cons, List.length_nil, Value.category, Nat.reduceEqDiff, Nat.reduceLeDiff, Nat.reduceAdd, reduceIte, true_and, and_true, B_6_32, rt_6]
    try simp (disch := omega) only [vc_brT, vc_brF, vc_anT, vc_brt, vc_brf, vc_ant, vn_n0, vn_in, vn_cl, vn_lt, vn_le, vn_eq, vn_sub, vn_div, vn_rem, vn_mod, vn_m1, vn_m1n, vn_m1p, nI_add, pk_mul, vc_sa_1, vc_sa_2, vc_sg_1, vc_sg_2, Nat.reduceEqDiff, Nat.reduceLeDiff, Nat.reduceAdd, Nat.reduceMul, Nat.reduceSub, Nat.not_lt_zero, Nat.add_left_cancel_iff, reduceIte, true_and, and_true, not_false_eq_true, not_true_eq_false, true_or, or_true, Bool.false_eq_true]
    rw [bSo, if_neg (by omega), if_neg (by omega), if_pos (by omega)] at h
    exact h
  · show vc_G K 6 28 _ _ _ _
    refine g_6_28 ?_
    simp only [vc_wi, vc_li, vc_ll, vc_lr, vc_i1, vc_i2, vc_l1, vc_l2, vc_il, vc_r1, vc_ri, vc_rii, vc_rx, vc_cp, vc_s1, vc_s2, vc_fg, vc_cm, vc_ald, vc_bld, vc_ast, vc_bst, vc_len, vc_gf, vc_pf, vc_cpy, vc_ct, List.getElem?_cons_zero, List.getElem?_cons_succ, List.set_cons_zero, List.set_cons_succ, List.take_succ_cons, List.take_zero, List.drop_succ_cons, List.drop_zero, List.reverse_cons, List.reverse_nil, List.nil_append, List.cons_append, Option.toList_some, Option.toList_none, List.map_cons, List.map_nil, List.sum_cons, List.sum_nil, List.length_cons, List.length_nil, Value.category, Nat.reduceEqDiff, Nat.reduceLeDiff, Nat.reduceAdd, reduceIte, true_and, and_true, B_6_28, rt_6]
    try simp (disch := omega) only [vc_brT, vc_brF, vc_anT, vc_brt, vc_brf, vc_ant, vn_n0, vn_in, vn_cl, vn_lt, vn_le, vn_eq, vn_sub, vn_div, vn_rem, vn_mod, vn_m1, vn_m1n, vn_m1p, nI_add, pk_mul, vc_sa_1, vc_sa_2, vc_sg_1, vc_sg_2, Nat.reduceEqDiff, Nat.reduceLeDiff, Nat.reduceAdd, Nat.reduceMul, Nat.reduceSub, Nat.not_lt_zero, Nat.add_left_cancel_iff, reduceIte, true_and, and_true, not_false_eq_true, not_true_eq_false, true_or, or_true, Bool.false_eq_true]
    rw [bSo, if_pos (by omega)] at h
    exact h
  · show vc_G K 6 30 _ _ _ _
    refine g_6_30 ?_
    simp only [vc_wi, vc_li, vc_ll, vc_lr, vc_i1, vc_i2, vc_l1, vc_l2, vc_il, vc_r1, vc_ri, vc_rii, vc_rx, vc_cp, vc_s1, vc_s2, vc_fg, vc_cm, vc_ald, vc_bld, vc_ast, vc_bst, vc_len, vc_gf, vc_pf, vc_cpy, vc_ct, List.getElem?_cons_zero, List.getElem?_cons_succ, List.set_cons_zero, List.set_cons_succ, List.take_succ_cons, List.take_zero, List.drop_succ_cons, List.drop_zero, List.reverse_cons, List.reverse_nil, List.nil_append, List.cons_append, Option.toList_some, Option.toList_none, List.map_cons, List.map_nil, List.sum_cons, List.sum_nil, List.length_cons, List.length_nil, Value.category, Nat.reduceEqDiff, Nat.reduceLeDiff, Nat.reduceAdd, reduceIte, true_and, and_true, B_6_30, rt_6]
    try simp (disch := omega) only [vc_brT, vc_brF, vc_anT, vc_brt, vc_brf, vc_ant, vn_n0, vn_in, vn_cl, vn_lt, vn_le, vn_eq, vn_sub, vn_div, vn_rem, vn_mod, vn_m1, vn_m1n, vn_m1p, nI_add, pk_mul, vc_sa_1, vc_sa_2, vc_sg_1, vc_sg_2, Nat.reduceEqDiff, Nat.reduceLeDiff, Nat.reduceAdd, Nat.reduceMul, Nat.reduceSub, Nat.not_lt_zero, Nat.add_left_cancel_iff, reduceIte, true_and, and_true, not_false_eq_true, not_true_eq_false, true_or, or_true, Bool.false_eq_true]
    rw [bSo, if_neg (by omega), if_pos (by omega)] at h
    exact h
set_option maxHeartbeats 4000000 in
set_option maxRecDepth 100000 in
theorem ct_fits {K : vc_K} {b p i : Nat} {σ : vc_S} {Q : Option Value → vc_S → Prop} (hb : b < 256) (hp : p = i % 5) (h : Q (some (.int (nI (if bFit i b then 1 else 0)))) σ) : vc_C K 5 [.int (nI b), .int (nI p)] σ Q := by
  have hp5 : p < 5 := by omega
  have c54 : ∀ z : Nat, z = (if bFit i b then 1 else 0) → vc_G K 5 54 [some (.int (nI b)), some (.int (nI p))] [.int (nI z)] σ Q := by
    intro z hz
    have hz1 : z ≤ 1 := by rw [hz]; split <;> omega
    refine g_5_54 ?_
    simp only [vc_wi, vc_li, vc_ll, vc_lr, vc_i1, vc_i2, vc_l1, vc_l2, vc_il, vc_r1, vc_ri, vc_rii, vc_rx, vc_cp, vc_s1, vc_s2, vc_fg, vc_cm, vc_ald, vc_bld, vc_ast, vc_bst, vc_len, vc_gf, vc_pf, vc_cpy, vc_ct, List.getElem?_cons_zero, List.getElem?_cons_succ, List.set_cons_zero, List.set_cons_succ, List.take_succ_cons, List.take_zero, List.drop_succ_cons, List.drop_zero, List.reverse_cons, List.reverse_nil, List.nil_append, List.cons_append, Option.toList_some, Option.toList_none, List.map_cons, List.map_nil, List.sum_cons, List.sum_nil, List.length_cons, List.length_nil, Value.category, Nat.reduceEqDiff, Nat.reduceLeDiff, Nat.reduceAdd, reduceIte, true_and, and_true, B_5_54, rt_5]
    try simp (disch := omega) only [vc_brT, vc_brF, vc_anT, vc_brt, vc_brf, vc_ant, vn_n0, vn_in, vn_cl, vn_lt, vn_le, vn_eq, vn_sub, vn_div, vn_rem, vn_mod, vn_m1, vn_m1n, vn_m1p, nI_add, pk_mul, vc_sa_1, vc_sa_2, vc_sg_1, vc_sg_2, Nat.reduceEqDiff, Nat.reduceLeDiff, Nat.reduceAdd, Nat.reduceMul, Nat.reduceSub, Nat.not_lt_zero, Nat.add_left_cancel_iff, reduceIte, true_and, and_true, not_false_eq_true, not_true_eq_false, true_or, or_true, Bool.false_eq_true]
    rw [← hz] at h
    exact h
  have c17 : ∀ z : Nat, z = (if bFit i b then 1 else 0) → vc_G K 5 17 [some (.int (nI b)), some (.int (nI p))] [.int (nI z)] σ Q := by
    intro z hz
    have hz1 : z ≤ 1 := by rw [hz]; split <;> omega
    refine g_5_17 ?_
    simp only [vc_wi, vc_li, vc_ll, vc_lr, vc_i1, vc_i2, vc_l1, vc_l2, vc_il, vc_r1, vc_ri, vc_rii, vc_rx, vc_cp, vc_s1, vc_s2, vc_fg, vc_cm, vc_ald, vc_bld, vc_ast, vc_bst, vc_len, vc_gf, vc_pf, vc_cpy, vc_ct, List.getElem?_cons_zero, List.getElem?_cons_succ, List.set_cons_zero, List.set_cons_succ, List.take_succ_cons, List.take_zero, List.drop_succ_cons, List.drop_zero, List.reverse_cons, List.reverse_nil, List.nil_append, List.cons_append, Option.toList_some, Option.toList_none, List.map_cons, List.map_nil, List.sum_cons, List.sum_nil, List.length_cons, List.length_nil, Value.category, Nat.reduceEqDiff, Nat.reduceLeDiff, Nat.reduceAdd, reduceIte, true_and, and_true, B_5_17, rt_5]
    try simp (disch := omega) only [vc_brT, vc_brF, vc_anT, vc_brt, vc_brf, vc_ant, vn_n0, vn_in, vn_cl, vn_lt, vn_le, vn_eq, vn_sub, vn_div, vn_rem, vn_mod, vn_m1, vn_m1n, vn_m1p, nI_add, pk_mul, vc_sa_1, vc_sa_2, vc_sg_1, vc_sg_2, Nat.reduceEqDiff, Nat.reduceLeDiff, Nat.reduceAdd, Nat.reduceMul, Nat.reduceSub, Nat.not_lt_zero, Nat.add_left_cancel_iff, reduceIte, true_and, and_true, not_false_eq_true, not_true_eq_false, true_or, or_true, Bool.false_eq_true]
    rw [← hz] at h
    exact h
  have c53 : bFit i b = false → vc_G K 5 53 [some (.int (nI b)), some (.int (nI p))] [] σ Q := by
    intro hz
    refine g_5_53 ?_
    simp only [vc_wi, vc_li, vc_ll, vc_lr, vc_i1, vc_i2, vc_l1, vc_l2, vc_il, vc_r1, vc_ri, vc_rii, vc_rx, vc_cp, vc_s1, vc_s2, vc_fg, vc_cm, vc_ald, vc_bld, vc_ast, vc_bst, vc_len, vc_gf, vc_pf, vc_cpy, vc_ct, List.getElem?_cons_zero, List.getElem?_cons_succ, List.set_cons_zero, List.set_cons_succ, List.take_succ_cons, List.take_zero, List.drop_succ_cons, List.drop_zero, List.reverse_cons, List.reverse_nil, List.nil_append, List.cons_append, Option.toList_some, Option.toList_none, List.map_cons, List.map_nil, List.sum_cons, List.sum_nil, List.length_cons, List.length_nil, Value.category, Nat.reduceEqDiff, Nat.reduceLeDiff, Nat.reduceAdd, reduceIte, true_and, and_true, B_5_53, rt_5]
    try simp (disch := omega) only [vc_brT, vc_brF, vc_anT, vc_brt, vc_brf, vc_ant, vn_n0, vn_in, vn_cl, vn_lt, vn_le, vn_eq, vn_sub, vn_div, vn_rem, vn_mod, vn_m1, vn_m1n, vn_m1p, nI_add, pk_mul, vc_sa_1, vc_sa_2, vc_sg_1, vc_sg_2, Nat.reduceEqDiff, Nat.reduceLeDiff, Nat.reduceAdd, Nat.reduceMul, Nat.reduceSub, Nat.not_lt_zero, Nat.add_left_cancel_iff, reduceIte, true_and, and_true, not_false_eq_true, not_true_eq_false, true_or, or_true, Bool.false_eq_true]
    exact c54 0 (by rw [hz]; rfl)
  refine vc_C_of (ls0 := [some (.int (nI b)), some (.int (nI p))]) hk_5 (Nat.le_of_ble_eq_true rfl) rfl ?_
  refine g_5_0 ?_
  simp only [vc_wi, vc_li, vc_ll, vc_lr, vc_i1, vc_i2, vc_l1, vc_l2, vc_il, vc_r1, vc_ri, vc_rii, vc_rx, vc_cp, vc_s1, vc_s2, vc_fg, vc_cm, vc_ald, vc_bld, vc_ast, vc_bst, vc_len, vc_gf, vc_pf, vc_cpy, vc_ct, List.getElem?_cons_zero, List.getElem?_cons_succ, List.set_cons_zero, List.set_cons_succ, List.take_succ_cons, List.take_zero, List.drop_succ_cons, List.drop_zero, List.reverse_cons, List.reverse_nil, List.nil_append, List.cons_append, Option.toList_some, Option.toList_none, List.map_cons, List.map_nil, List.sum_cons, List.sum_nil, List.length_cons, List.length_nil, Value.category, Nat.reduceEqDiff, Nat.reduceLeDiff, Nat.reduceAdd, reduceIte, true_and, and_true, B_5_0, rt_5]
  try simp (disch := omega) only [vc_brT, vc_brF, vc_anT, vc_brt, vc_brf, vc_ant, vn_n0, vn_in, vn_cl, vn_lt, vn_le, vn_eq, vn_sub, vn_div, vn_rem, vn_mod, vn_m1, vn_m1n, vn_m1p, nI_add, pk_mul, vc_sa_1, vc_sa_2, vc_sg_1, vc_sg_2, Nat.reduceEqDiff, Nat.reduceLeDiff, Nat.reduceAdd, Nat.reduceMul, Nat.reduceSub, Nat.not_lt_zero, Nat.add_left_cancel_iff, reduceIte, true_and, and_true, not_false_eq_true, not_true_eq_false, true_or, or_true, Bool.false_eq_true]
  refine vc_br_i (fun q => ?_) (fun q => ?_)
  · refine g_5_18 ?_
    simp only [vc_wi, vc_li, vc_ll, vc_lr, vc_i1, vc_i2, vc_l1, vc_l2, vc_il, vc_r1, vc_ri, vc_rii, vc_rx, vc_cp, vc_s1, vc_s2, vc_fg, vc_cm, vc_ald, vc_bld, vc_ast, vc_bst, vc_len, vc_gf, vc_pf, vc_cpy, vc_ct, List.getElem?_cons_zero, List.getElem?_cons_succ, List.set_cons_zero, List.set_cons_succ, List.take_succ_cons, List.take_zero, List.drop_succ_cons, List.drop_zero, List.reverse_cons, List.reverse_nil, List.nil_append, List.cons_append, Option.toList_some, Option.toList_none, List.map_cons, List.map_nil, List.sum_cons, List.sum_nil, List.length_cons, List.length_nil, Value.category, Nat.reduceEqDiff, Nat.reduceLeDiff, Nat.reduceAdd, reduceIte, true_and, and_true, B_5_18, rt_5]
    try simp (disch := omega) only [vc_brT, vc_brF, vc_anT, vc_brt, vc_brf, vc_ant, vn_n0, vn_in, vn_cl, vn_lt, vn_le, vn_eq, vn_sub, vn_div, vn_rem, vn_mod, vn_m1, vn_m1n, vn_m1p, nI_add, pk_mul, vc_sa_1, vc_sa_2, vc_sg_1, vc_sg_2, Nat.reduceEqDiff, Nat.reduceLeDiff, Nat.reduceAdd, Nat.reduceMul, Nat.reduceSub, Nat.not_lt_zero, Nat.add_left_cancel_iff, reduceIte, true_and, and_true, not_false_eq_true, not_true_eq_false, true_or, or_true, Bool.false_eq_true]
    refine vc_br_i (fun q2 => ?_) (fun q2 => ?_)
    · refine g_5_37 ?_
      simp only [vc_wi, vc_li, vc_ll, vc_lr, vc_i1, vc_i2, vc_l1, vc_l2, vc_il, vc_r1, vc_ri, vc_rii, vc_rx, vc_cp, vc_s1, vc_s2, vc_fg, vc_cm, vc_ald, vc_bld, vc_ast, vc_bst, vc_len, vc_gf, vc_pf, vc_cpy, vc_ct, List.getElem?_cons_zero, List.getElem?_cons_succ, List.set_cons_zero, List.set_cons_succ, List.take_succ_cons, List.take_zero, List.drop_succ_cons, List.drop_zero, List.reverse_cons, List.reverse_nil, List.nil_append, List.cons_append, Option.toList_some, Option.toList_none, List.map_cons, List.map_nil, List.sum_cons, List.sum_nil, List.length_cons, List.length_nil, Value.category, Nat.reduceEqDiff, Nat.reduceLeDiff, Nat.reduceAdd, reduceIte, true_and, and_true, B_5_37, rt_5]
      try simp (disch := omega) only [vc_brT, vc_brF, vc_anT, vc_brt, vc_brf, vc_ant, vn_n0, vn_in, vn_cl, vn_lt, vn_le, vn_eq, vn_sub, vn_div, vn_rem, vn_mod, vn_m1, vn_m1n, vn_m1p, nI_add, pk_mul, vc_sa_1, vc_sa_2, vc_sg_1, vc_sg_2, Nat.reduceEqDiff, Nat.reduceLeDiff, Nat.reduceAdd, Nat.reduceMul, Nat.reduceSub, Nat.not_lt_zero, Nat.add_left_cancel_iff, reduceIte, true_and, and_true, not_false_eq_true, not_true_eq_false, true_or, or_true, Bool.false_eq_true]
      refine vc_br_i (fun q3 => c53 ?_) (fun q3 => vc_br_i (fun q4 => c53 ?_) (fun q4 => c54 1 ?_))
      · unfold bFit
        rw [if_neg (by omega), if_neg (by omega)]
        simp; omega
      · unfold bFit
        rw [if_neg (by omega), if_neg (by omega)]
        simp; omega
      · have e : bFit i b = true := by
          unfold bFit
          rw [if_neg (by omega), if_neg (by omega)]
          exact decide_eq_true (by omega)
        rw [e]
        rfl
    · refine vc_br_i (fun q3 => ?_) (fun q3 => c54 1 ?_)
      · refine g_5_33 ?_
        simp only [vc_wi, vc_li, vc_ll, vc_lr, vc_i1, vc_i2, vc_l1, vc_l2, vc_il, vc_r1, vc_ri, vc_rii, vc_rx, vc_cp, vc_s1, vc_s2, vc_fg, vc_cm, vc_ald, vc_bld, vc_ast, vc_bst, vc_len, vc_gf, vc_pf, vc_cpy, vc_ct, List.getElem?_cons_zero, List.getElem?_cons_succ, List.set_cons_zero, List.set_cons_succ, List.take_succ_cons, List.take_zero, List.drop_succ_cons, List.drop_zero, List.reverse_cons, List.reverse_nil, List.nil_append, List.cons_append, Option.toList_some, Option.toList_none, List.map_cons, List.map_nil, List.sum_cons, List.sum_nil, List.length_cons, List.length_nil, Value.category, Nat.reduceEqDiff, Nat.reduceLeDiff, Nat.reduceAdd, reduceIte, true_and, and_true, B_5_33, rt_5]
        try simp (disch := omega) only [vc_brT, vc_brF, vc_anT, vc_brt, vc_brf, vc_ant, vn_n0, vn_in, vn_cl, vn_lt, vn_le, vn_eq, vn_sub, vn_div, vn_rem, vn_mod, vn_m1, vn_m1n, vn_m1p, nI_add, pk_mul, vc_sa_1, vc_sa_2, vc_sg_1, vc_sg_2, Nat.reduceEqDiff, Nat.reduceLeDiff, Nat.reduceAdd, Nat.reduceMul, Nat.reduceSub, Nat.not_lt_zero, Nat.add_left_cancel_iff, reduceIte, true_and, and_true, not_false_eq_true, not_true_eq_false, true_or, or_true, Bool.false_eq_true]
        have e : bFit i b = false := by
          unfold bFit
          rw [if_neg (by omega), if_pos (by omega)]
          exact decide_eq_false (by omega)
        exact c54 0 (by rw [e]; rfl)
      · have e : bFit i b = true := by
          unfold bFit
          rw [if_neg (by omega), if_pos (by omega)]
          exact decide_eq_true (by omega)
        rw [e]
        rfl
  · refine ct_sortOf hb ?_
    have e : bFit i b = (bSo b).isSome := by unfold bFit; rw [if_pos (by omega)]
    cases hs : bSo b with
    | none =>
      simp only [vc_wi, vc_li, vc_ll, vc_lr, vc_i1, vc_i2, vc_l1, vc_l2, vc_il, vc_r1, vc_ri, vc_rii, vc_rx, vc_cp, vc_s1, vc_s2, vc_fg, vc_cm, vc_ald, vc_bld, vc_ast, vc_bst, vc_len, vc_gf, vc_pf, vc_cpy, vc_ct, List.getElem?_cons_zero, List.getElem?_cons_succ, List.set_cons_zero, List.set_cons_succ, List.take_succ_cons, List.take_zero, List.drop_succ_cons, List.drop_zero, List.reverse_cons, List.reverse_nil, List.nil_append, List.cons_append, Option.toList_some, Option.toList_none, List.map_cons, List.map_nil, List.sum_cons, List.sum_nil, List.length_cons, List.length_nil, Value.category, Nat.reduceEqDiff, Nat.reduceLeDiff, Nat.reduceAdd, reduceIte, true_and, and_true, rt_5]
      try simp (disch := omega) only [vc_brT, vc_brF, vc_anT, vc_brt, vc_brf, vc_ant, vn_n0, vn_in, vn_cl, vn_lt, vn_le, vn_eq, vn_sub, vn_div, vn_rem, vn_mod, vn_m1, vn_m1n, vn_m1p, nI_add, pk_mul, vc_sa_1, vc_sa_2, vc_sg_1, vc_sg_2, Nat.reduceEqDiff, Nat.reduceLeDiff, Nat.reduceAdd, Nat.reduceMul, Nat.reduceSub, Nat.not_lt_zero, Nat.add_left_cancel_iff, reduceIte, true_and, and_true, not_false_eq_true, not_true_eq_false, true_or, or_true, Bool.false_eq_true, vE_n]
      refine g_5_16 ?_
      simp only [vc_wi, vc_li, vc_ll, vc_lr, vc_i1, vc_i2, vc_l1, vc_l2, vc_il, vc_r1, vc_ri, vc_rii, vc_rx, vc_cp, vc_s1, vc_s2, vc_fg, vc_cm, vc_ald, vc_bld, vc_ast, vc_bst, vc_len, vc_gf, vc_pf, vc_cpy, vc_ct, List.getElem?_cons_zero, List.getElem?_cons_succ, List.set_cons_zero, List.set_cons_succ, List.take_succ_cons, List.take_zero, List.drop_succ_cons, List.drop_zero, List.reverse_cons, List.reverse_nil, List.nil_append, List.cons_append, Option.toList_some, Option.toList_none, List.map_cons, List.map_nil, List.sum_cons, List.sum_nil, List.length_cons, List.length_nil, Value.category, Nat.reduceEqDiff, Nat.reduceLeDiff, Nat.reduceAdd, reduceIte, true_and, and_true, B_5_16, rt_5]
      try simp (disch := omega) only [vc_brT, vc_brF, vc_anT, vc_brt, vc_brf, vc_ant, vn_n0, vn_in, vn_cl, vn_lt, vn_le, vn_eq, vn_sub, vn_div, vn_rem, vn_mod, vn_m1, vn_m1n, vn_m1p, nI_add, pk_mul, vc_sa_1, vc_sa_2, vc_sg_1, vc_sg_2, Nat.reduceEqDiff, Nat.reduceLeDiff, Nat.reduceAdd, Nat.reduceMul, Nat.reduceSub, Nat.not_lt_zero, Nat.add_left_cancel_iff, reduceIte, true_and, and_true, not_false_eq_true, not_true_eq_false, true_or, or_true, Bool.false_eq_true]
      exact c17 0 (by rw [e, hs]; rfl)
    | some k =>
      have := bSo_le hs
      simp only [vc_wi, vc_li, vc_ll, vc_lr, vc_i1, vc_i2, vc_l1, vc_l2, vc_il, vc_r1, vc_ri, vc_rii, vc_rx, vc_cp, vc_s1, vc_s2, vc_fg, vc_cm, vc_ald, vc_bld, vc_ast, vc_bst, vc_len, vc_gf, vc_pf, vc_cpy, vc_ct, List.getElem?_cons_zero, List.getElem?_cons_succ, List.set_cons_zero, List.set_cons_succ, List.take_succ_cons, List.take_zero, List.drop_succ_cons, List.drop_zero, List.reverse_cons, List.reverse_nil, List.nil_append, List.cons_append, Option.toList_some, Option.toList_none, List.map_cons, List.map_nil, List.sum_cons, List.sum_nil, List.length_cons, List.length_nil, Value.category, Nat.reduceEqDiff, Nat.reduceLeDiff, Nat.reduceAdd, reduceIte, true_and, and_true, rt_5]
      try simp (disch := omega) only [vc_brT, vc_brF, vc_anT, vc_brt, vc_brf, vc_ant, vn_n0, vn_in, vn_cl, vn_lt, vn_le, vn_eq, vn_sub, vn_div, vn_rem, vn_mod, vn_m1, vn_m1n, vn_m1p, nI_add, pk_mul, vc_sa_1, vc_sa_2, vc_sg_1, vc_sg_2, Nat.reduceEqDiff, Nat.reduceLeDiff, Nat.reduceAdd, Nat.reduceMul, Nat.reduceSub, Nat.not_lt_zero, Nat.add_left_cancel_iff, reduceIte, true_and, and_true, not_false_eq_true, not_true_eq_false, true_or, or_true, Bool.false_eq_true, vE_s]
      exact c17 1 (by rw [e, hs]; rfl)
