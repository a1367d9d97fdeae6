theorem lw_gt {L i : Nat} (hL : L ≤ 384) (hi : i ≤ 384) : (nI L - nI 6 < nI i) = (L < i + 6) := by
  refine propext ?_
  rw [Int32.lt_iff_toInt_lt, pk_sub_toInt (by omega) (by omega), nI_toInt (by omega)]
  omega
theorem vc_sl_all {pc : Nat} {x : Int} {G : Nat → Prop} : ∀ (L : List Int) (lo : Int), (∀ o ∈ L, G ((pc : Int) + o).toNat) → vc_sl pc x G lo L
  | [], _, _ => trivial
  | o :: L, lo, h => vc_br_i (fun _ => h o List.mem_cons_self) (fun _ => vc_sl_all L (lo + 1) (fun o2 h2 => h o2 (List.mem_cons_of_mem _ h2)))
theorem vc_sw_all {pc : Nat} {x : Int32} {d lo hi : Int} {offs : Array Int} {G : Nat → Prop} (h0 : G ((pc : Int) + d).toNat) (h : ∀ o ∈ offs.toList, G ((pc : Int) + o).toNat) : vc_sw pc x d lo hi offs G := vc_br_i (fun _ => h0) (fun _ => vc_sl_all _ _ h)
set_option maxHeartbeats 1000000 in
set_option maxRecDepth 100000 in
theorem lw_lp {K : vc_K} {Q : Option Value → vc_S → Prop} (hL : K.2.2.2.2.1 ≤ 384) (hQ : ∀ σ, Q (some (.int (nI 1))) σ) : ∀ (n i : Nat) (T : zT) (σ : vc_S), i ≤ 384 → K.2.2.2.2.1 < i + 6 * n + 6 → zOk T → xI σ T → mI σ T → vc_G K 216 18 [some (.ref 1000), some (.ref 0), some (.ref 57), some (.int (nI i))] [] σ Q := by
  intro n
  induction n with
  | zero =>
    intro i T σ hi hn hT hx hm
    refine g_216_18 ?_
    simp only [vc_wi, vc_li, vc_ll, vc_lr, vc_i1, vc_i2, vc_l1, vc_l2, vc_il, vc_r1, vc_ri, vc_rii, vc_rx, vc_cp, vc_s1, vc_s2, vc_fg, vc_cm, vc_ald, vc_bld, vc_ast, vc_bst, vc_len, vc_gf, vc_pf, vc_cpy, vc_ct, List.getElem?_cons_zero, List.getElem?_cons_succ, List.set_cons_zero, List.set_cons_succ, List.take_succ_cons, List.take_zero, List.drop_succ_cons, List.drop_zero, List.reverse_cons, List.reverse_nil, List.nil_append, List.cons_append, Option.toList_some, Option.toList_none, List.map_cons, List.map_nil, List.sum_cons, List.sum_nil, List.length_cons, List.length_nil, Value.category, Nat.reduceEqDiff, Nat.reduceLeDiff, Nat.reduceAdd, reduceIte, true_and, and_true, B_216_18, rt_216]
    refine vc_br_t (by rw [lw_gt hL hi]; omega) ?_
    refine g_216_1369 ?_
    simp only [vc_wi, vc_li, vc_ll, vc_lr, vc_i1, vc_i2, vc_l1, vc_l2, vc_il, vc_r1, vc_ri, vc_rii, vc_rx, vc_cp, vc_s1, vc_s2, vc_fg, vc_cm, vc_ald, vc_bld, vc_ast, vc_bst, vc_len, vc_gf, vc_pf, vc_cpy, vc_ct, List.getElem?_cons_zero, List.getElem?_cons_succ, List.set_cons_zero, List.set_cons_succ, List.take_succ_cons, List.take_zero, List.drop_succ_cons, List.drop_zero, List.reverse_cons, List.reverse_nil, List.nil_append, List.cons_append, Option.toList_some, Option.toList_none, List.map_cons, List.map_nil, List.sum_cons, List.sum_nil, List.length_cons, List.length_nil, Value.category, Nat.reduceEqDiff, Nat.reduceLeDiff, Nat.reduceAdd, reduceIte, true_and, and_true, B_216_1369, rt_216]
    try simp (disch := omega) only [vc_brT, vc_brF, vc_anT, vc_brt, vc_brf, vc_ant, vn_n0, vn_in, vn_cl, vn_lt, vn_le, vn_eq, vn_sub, vn_div, vn_rem, vn_mod, vn_m1, vn_m1n, vn_m1p, nI_add, pk_mul, vc_sa_1, vc_sa_2, vc_sg_1, vc_sg_2, Nat.reduceEqDiff, Nat.reduceLeDiff, Nat.reduceAdd, Nat.reduceMul, Nat.reduceSub, Nat.not_lt_zero, Nat.add_left_cancel_iff, reduceIte, true_and, and_true, not_false_eq_true, not_true_eq_false, true_or, or_true, Bool.false_eq_true]
    exact hQ σ
  | succ n ih =>
    intro i T σ hi hn hT hx hm
    refine g_216_18 ?_
    simp only [vc_wi, vc_li, vc_ll, vc_lr, vc_i1, vc_i2, vc_l1, vc_l2, vc_il, vc_r1, vc_ri, vc_rii, vc_rx, vc_cp, vc_s1, vc_s2, vc_fg, vc_cm, vc_ald, vc_bld, vc_ast, vc_bst, vc_len, vc_gf, vc_pf, vc_cpy, vc_ct, List.getElem?_cons_zero, List.getElem?_cons_succ, List.set_cons_zero, List.set_cons_succ, List.take_succ_cons, List.take_zero, List.drop_succ_cons, List.drop_zero, List.reverse_cons, List.reverse_nil, List.nil_append, List.cons_append, Option.toList_some, Option.toList_none, List.map_cons, List.map_nil, List.sum_cons, List.sum_nil, List.length_cons, List.length_nil, Value.category, Nat.reduceEqDiff, Nat.reduceLeDiff, Nat.reduceAdd, reduceIte, true_and, and_true, B_216_18, rt_216]
    refine vc_br_i (fun q => ?_) (fun q => ?_)
    · refine g_216_1369 ?_
      simp only [vc_wi, vc_li, vc_ll, vc_lr, vc_i1, vc_i2, vc_l1, vc_l2, vc_il, vc_r1, vc_ri, vc_rii, vc_rx, vc_cp, vc_s1, vc_s2, vc_fg, vc_cm, vc_ald, vc_bld, vc_ast, vc_bst, vc_len, vc_gf, vc_pf, vc_cpy, vc_ct, List.getElem?_cons_zero, List.getElem?_cons_succ, List.set_cons_zero, List.set_cons_succ, List.take_succ_cons, List.take_zero, List.drop_succ_cons, List.drop_zero, List.reverse_cons, List.reverse_nil, List.nil_append, List.cons_append, Option.toList_some, Option.toList_none, List.map_cons, List.map_nil, List.sum_cons, List.sum_nil, List.length_cons, List.length_nil, Value.category, Nat.reduceEqDiff, Nat.reduceLeDiff, Nat.reduceAdd, reduceIte, true_and, and_true, B_216_1369, rt_216]
      try simp (disch := omega) only [vc_brT, vc_brF, vc_anT, vc_brt, vc_brf, vc_ant, vn_n0, vn_in, vn_cl, vn_lt, vn_le, vn_eq, vn_sub, vn_div, vn_rem, vn_mod, vn_m1, vn_m1n, vn_m1p, nI_add, pk_mul, vc_sa_1, vc_sa_2, vc_sg_1, vc_sg_2, Nat.reduceEqDiff, Nat.reduceLeDiff, Nat.reduceAdd, Nat.reduceMul, Nat.reduceSub, Nat.not_lt_zero, Nat.add_left_cancel_iff, reduceIte, true_and, and_true, not_false_eq_true, not_true_eq_false, true_or, or_true, Bool.false_eq_true]
      exact hQ σ
    · rw [lw_gt hL hi] at q
      have h6 : i + 6 ≤ K.2.2.2.2.1 := by omega
      have nx : ∀ (T2 : zT) (σ2 : vc_S), zOk T2 → xI σ2 T2 → mI σ2 T2 → vc_G K 216 1363 [some (.ref 1000), some (.ref 0), some (.ref 57), some (.int (nI i))] [] σ2 Q := by
        intro T2 σ2 a b c
        refine g_216_1363 ?_
        simp only [vc_wi, vc_li, vc_ll, vc_lr, vc_i1, vc_i2, vc_l1, vc_l2, vc_il, vc_r1, vc_ri, vc_rii, vc_rx, vc_cp, vc_s1, vc_s2, vc_fg, vc_cm, vc_ald, vc_bld, vc_ast, vc_bst, vc_len, vc_gf, vc_pf, vc_cpy, vc_ct, List.getElem?_cons_zero, List.getElem?_cons_succ, List.set_cons_zero, List.set_cons_succ, List.take_succ_cons, List.take_zero, List.drop_succ_cons, List.drop_zero, List.reverse_cons, List.reverse_nil, List.nil_append, List.cons_append, Option.toList_some, Option.toList_none, List.map_cons, List.map_nil, List.sum_cons, List.sum_nil, List.length_cons, List.length_nil, Value.category, Nat.reduceEqDiff, Nat.reduceLeDiff, Nat.reduceAdd, reduceIte, true_and, and_true, B_216_1363, rt_216]
        try simp (disch := omega) only [vc_brT, vc_brF, vc_anT, vc_brt, vc_brf, vc_ant, vn_n0, vn_in, vn_cl, vn_lt, vn_le, vn_eq, vn_sub, vn_div, vn_rem, vn_mod, vn_m1, vn_m1n, vn_m1p, nI_add, pk_mul, vc_sa_1, vc_sa_2, vc_sg_1, vc_sg_2, Nat.reduceEqDiff, Nat.reduceLeDiff, Nat.reduceAdd, Nat.reduceMul, Nat.reduceSub, Nat.not_lt_zero, Nat.add_left_cancel_iff, reduceIte, true_and, and_true, not_false_eq_true, not_true_eq_false, true_or, or_true, Bool.false_eq_true]
        exact ih (i + 6) T2 σ2 (by omega) (by omega) a b c
      refine vc_an_i (vp_in_nI (by omega) (by omega)) ?_
      refine vc_sw_all (nx T σ hT hx hm) ?_
      show ∀ o ∈ ([171, 204, 227, 250, 273, 306, 339, 362, 405, 418, 441, 484, 527, 560, 583, 606, 619, 632, 645, 678, 711, 734, 757, 780, 833, 846, 859, 882, 915, 948, 992, 1035, 1078, 1101, 1154, 1197, 1260, 1293, 1316] : List Int), _
      simp only [List.forall_mem_cons, List.not_mem_nil, false_implies, implies_true, and_true]
      exact ⟨lw_type hL h6 hT hx hm nx, lw_wipe hL h6 hT hx hm nx, lw_undo hL h6 hT hx hm nx, lw_fault hL h6 hT hx hm nx, lw_boy hL h6 hT hx hm nx, lw_seat hL h6 hT hx hm nx, lw_masters hL h6 hT hx hm nx, lw_change hL h6 hT hx hm nx, lw_back hL h6 hT hx hm nx, lw_read hL h6 hT hx hm nx, lw_at hL h6 hT hx hm nx, lw_knows hL h6 hT hx hm nx, lw_sits hL h6 hT hx hm nx, lw_ghost hL h6 hT hx hm nx, lw_master hL h6 hT hx hm nx, lw_best hL h6 hT hx hm nx, lw_form hL h6 hT hx hm nx, lw_idle hL h6 hT hx hm nx, lw_sit hL h6 hT hx hm nx, lw_trade hL h6 hT hx hm nx, lw_rush hL h6 hT hx hm nx, lw_table hL h6 hT hx hm nx, lw_spare hL h6 hT hx hm nx, lw_seen hL h6 hT hx hm nx, lw_forget hL h6 hT hx hm nx, lw_never hL h6 hT hx hm nx, lw_sort hL h6 hT hx hm nx, lw_first hL h6 hT hx hm nx, lw_ask hL h6 hT hx hm nx, lw_luck hL h6 hT hx hm nx, lw_years hL h6 hT hx hm nx, lw_sheet hL h6 hT hx hm nx, lw_lose hL h6 hT hx hm nx, lw_put hL h6 hT hx hm nx, lw_get hL h6 hT hx hm nx, lw_copy hL h6 hT hx hm nx, lw_write hL h6 hT hx hm nx, lw_count hL h6 hT hx hm nx, lw_digest hL h6 hT hx hm nx⟩
