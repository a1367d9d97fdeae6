set_option maxHeartbeats 4000000 in
set_option maxRecDepth 100000 in
/-- exchange(row, one, other): one and other change places, if both are there -/
theorem ct_exchange {K : vc_K} {o s rw a b : Nat} {be : Nat → Nat} {w : Nat → Option Nat} {σ : vc_S} {Q : Option Value → vc_S → Prop} (ho : o = 29 ∨ o = 38) (hA : yA o σ s be) (hw : yW o σ s (16 * rw) w) (hrw : rw ≤ 30) (ha : a < 16) (hb : b < 16)
    (h : ∀ τ, vc_fr [o + 1] σ τ → (∀ i, (i < 16 * rw ∨ 16 * rw + 16 ≤ i) → τ.2 (o + 1) i = σ.2 (o + 1) i) → yW o τ s (16 * rw) (ySwap s w a b) → Q none τ) : vc_C K 22 [.ref o, .int (nI rw), .int (nI a), .int (nI b)] σ Q := by
  have ly := yLy ho
  obtain ⟨h1, h2, h3⟩ := hA
  have e1 : rw * 16 + a = 16 * rw + a := by omega
  have e2 : rw * 16 + b = 16 * rw + b := by omega
  have c64 : ∀ ls, ¬ (a < s ∧ b < s) → vc_G K 22 64 ls [] σ Q := by
    intro ls hn
    refine g_22_64 ?_
    simp only [vc_wi, vc_li, vc_ll, vc_lr, vc_i1, vc_i2, vc_l1, vc_l2, vc_il, vc_r1, vc_ri, vc_rii, vc_rx, vc_cp, vc_s1, vc_s2, vc_fg, vc_cm, vc_ald, vc_bld, vc_ast, vc_bst, vc_len, vc_gf, vc_pf, vc_cpy, vc_ct, List.getElem?_cons_zero, List.getElem?_cons_succ, List.set_cons_zero, List.set_cons_succ, List.take_succ_cons, List.take_zero, List.drop_succ_cons, List.drop_zero, List.reverse_cons, List.reverse_nil, List.nil_append, List.cons_append, Option.toList_some, Option.toList_none, List.map_cons, List.map_nil, List.sum_cons, List.sum_nil, List.length_cons, List.length_nil, Value.category, Nat.reduceEqDiff, Nat.reduceLeDiff, Nat.reduceAdd, reduceIte, true_and, and_true, B_22_64, rt_22, ly]
    try simp (disch := omega) only [vc_brT, vc_brF, vc_anT, vc_brt, vc_brf, vc_ant, vn_n0, vn_in, vn_cl, vn_lt, vn_le, vn_eq, vn_sub, vn_div, vn_rem, vn_mod, vn_m1, vn_m1n, vn_m1p, nI_add, pk_mul, vc_sa_1, vc_sa_2, vc_sg_1, vc_sg_2, Nat.reduceEqDiff, Nat.reduceLeDiff, Nat.reduceAdd, Nat.reduceMul, Nat.reduceSub, Nat.not_lt_zero, Nat.add_left_cancel_iff, reduceIte, true_and, and_true, not_false_eq_true, not_true_eq_false, true_or, or_true, Bool.false_eq_true]
    refine h σ vc_fr.rf (fun _ _ => rfl) ?_
    rw [ySwap, if_neg hn]
    exact hw
  refine vc_C_of (ls0 := [some (.ref o), some (.int _), some (.int _), some (.int _), none]) hk_22 (Nat.le_of_ble_eq_true rfl) rfl ?_
  refine g_22_0 ?_
  simp only [vc_wi, vc_li, vc_ll, vc_lr, vc_i1, vc_i2, vc_l1, vc_l2, vc_il, vc_r1, vc_ri, vc_rii, vc_rx, vc_cp, vc_s1, vc_s2, vc_fg, vc_cm, vc_ald, vc_bld, vc_ast, vc_bst, vc_len, vc_gf, vc_pf, vc_cpy, vc_ct, List.getElem?_cons_zero, List.getElem?_cons_succ, List.set_cons_zero, List.set_cons_succ, List.take_succ_cons, List.take_zero, List.drop_succ_cons, List.drop_zero, List.reverse_cons, List.reverse_nil, List.nil_append, List.cons_append, Option.toList_some, Option.toList_none, List.map_cons, List.map_nil, List.sum_cons, List.sum_nil, List.length_cons, List.length_nil, Value.category, Nat.reduceEqDiff, Nat.reduceLeDiff, Nat.reduceAdd, reduceIte, true_and, and_true, B_22_0, rt_22, ly]
  try simp (disch := omega) only [vc_brT, vc_brF, vc_anT, vc_brt, vc_brf, vc_ant, vn_n0, vn_in, vn_cl, vn_lt, vn_le, vn_eq, vn_sub, vn_div, vn_rem, vn_mod, vn_m1, vn_m1n, vn_m1p, nI_add, pk_mul, vc_sa_1, vc_sa_2, vc_sg_1, vc_sg_2, Nat.reduceEqDiff, Nat.reduceLeDiff, Nat.reduceAdd, Nat.reduceMul, Nat.reduceSub, Nat.not_lt_zero, Nat.add_left_cancel_iff, reduceIte, true_and, and_true, not_false_eq_true, not_true_eq_false, true_or, or_true, Bool.false_eq_true, h1, e1, e2]
  refine vc_br_i (fun q => c64 _ (by omega)) (fun q => vc_br_i (fun q2 => c64 _ (by omega)) (fun q2 => ?_))
  refine g_22_64 ?_
  simp only [vc_wi, vc_li, vc_ll, vc_lr, vc_i1, vc_i2, vc_l1, vc_l2, vc_il, vc_r1, vc_ri, vc_rii, vc_rx, vc_cp, vc_s1, vc_s2, vc_fg, vc_cm, vc_ald, vc_bld, vc_ast, vc_bst, vc_len, vc_gf, vc_pf, vc_cpy, vc_ct, List.getElem?_cons_zero, List.getElem?_cons_succ, List.set_cons_zero, List.set_cons_succ, List.take_succ_cons, List.take_zero, List.drop_succ_cons, List.drop_zero, List.reverse_cons, List.reverse_nil, List.nil_append, List.cons_append, Option.toList_some, Option.toList_none, List.map_cons, List.map_nil, List.sum_cons, List.sum_nil, List.length_cons, List.length_nil, Value.category, Nat.reduceEqDiff, Nat.reduceLeDiff, Nat.reduceAdd, reduceIte, true_and, and_true, B_22_64, rt_22, ly]
  try simp (disch := omega) only [vc_brT, vc_brF, vc_anT, vc_brt, vc_brf, vc_ant, vn_n0, vn_in, vn_cl, vn_lt, vn_le, vn_eq, vn_sub, vn_div, vn_rem, vn_mod, vn_m1, vn_m1n, vn_m1p, nI_add, pk_mul, vc_sa_1, vc_sa_2, vc_sg_1, vc_sg_2, Nat.reduceEqDiff, Nat.reduceLeDiff, Nat.reduceAdd, Nat.reduceMul, Nat.reduceSub, Nat.not_lt_zero, Nat.add_left_cancel_iff, reduceIte, true_and, and_true, not_false_eq_true, not_true_eq_false, true_or, or_true, Bool.false_eq_true]
  refine h _ ((vc_fr.rf.sa (by simp)).sa (by simp)) (fun i hi => ?_) ?_
  · simp only [vc_sa_2, if_true, upd]
    rw [if_neg (by omega), if_neg (by omega)]
  · rw [ySwap, if_pos ⟨by omega, by omega⟩]
    intro p hp
    have wa := hw a (by omega)
    have wb := hw b (by omega)
    have wp := hw p hp
    simp only [vc_sa_2, if_true, upd, Nat.reduceAdd] at wa wb wp ⊢
    by_cases pa : p = a
    · subst pa
      by_cases pb : p = b
      · subst pb
        simp [wp]
      · rw [if_neg (by omega), if_pos rfl, if_pos rfl, wb]
    · by_cases pb : p = b
      · subst pb
        rw [if_pos rfl, if_neg pa, if_pos rfl, wa]
      · rw [if_neg (by omega), if_neg (by omega), if_neg pa, if_neg pb, wp]
