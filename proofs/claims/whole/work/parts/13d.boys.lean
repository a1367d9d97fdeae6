set_option maxHeartbeats 4000000 in
set_option maxRecDepth 100000 in
theorem mt_readsBoys {K : vc_K} {t : Nat → Nat} {len : Nat} {σ : vc_S} {Q : Option Value → vc_S → Prop} (ht : mTx σ t len)
    (h : ∀ τ : vc_S, mFr [2] [60, 61] σ τ → τ.1 57 2 = nI (bNum t len) → (∀ k, k < bNum t len → τ.2 60 k = nI (bSort t k)) → (∀ q, q < 3 * bNum t len → τ.2 61 q = nI (bFirst t q)) → Q (some (.int (vE (bFault t len)))) τ) : vc_C K 123 [.ref 57] σ Q := by
  have hl39 := ht.2.1
  have hfault : ∀ p, bFault t len = some p → bNum t len = 0 := fun p hp => by unfold bNum; rw [if_neg (by rw [hp]; intro q; cases q)]
  have lp : ∀ (m n : Nat) (τ : vc_S), n + m = 8 → 5 * n ≤ len → (0 < n ∨ 0 < len) → mFr [2] [60, 61] σ τ → τ.1 57 2 = nI 0 → (∀ j, j < 5 * n → bFit j (t j) = true) → (∀ k, k < n → τ.2 60 k = nI (bSort t k)) → (∀ q, q < 3 * n → τ.2 61 q = nI (bFirst t q)) → ∀ x3, vc_G K 123 9 [some (.ref 57), some (.int (nI n)), some (.int (nI (5 * n))), x3] [] τ Q := by
    intro m
    induction m with
    | zero => intro n τ hn h1; omega
    | succ m ih =>
      intro n τ hn h1 h0 hf a1 a2 a3 a4 x3
      have ht' := ht.m hf (by simp) (by simp)
      have c23 : vc_G K 123 23 [some (.ref 57), some (.int (nI n)), some (.int (nI (5 * n))), x3] [] τ Q := by
        refine g_123_23 ?_
        simp only [vc_wi, vc_li, vc_ll, vc_lr, vc_i1, vc_i2, vc_l1, vc_l2, vc_il, vc_r1, vc_ri, vc_rii, vc_rx, vc_cp, vc_s1, vc_s2, vc_fg, vc_cm, vc_ald, vc_bld, vc_ast, vc_bst, vc_len, vc_gf, vc_pf, vc_cpy, vc_ct, List.getElem?_cons_zero, List.getElem?_cons_succ, List.set_cons_zero, List.set_cons_succ, List.take_succ_cons, List.take_zero, List.drop_succ_cons, List.drop_zero, List.reverse_cons, List.reverse_nil, List.nil_append, List.cons_append, Option.toList_some, Option.toList_none, List.map_cons, List.map_nil, List.sum_cons, List.sum_nil, List.length_cons, List.length_nil, Value.category, Nat.reduceEqDiff, Nat.reduceLeDiff, Nat.reduceAdd, reduceIte, true_and, and_true, B_123_23, rt_123, cls_57, fld_57_0, fld_57_1, fld_57_2, fld_57_3, fld_57_4, fld_57_5, fld_57_6, fld_57_7, fld_57_8, fld_57_9, fld_57_10, fld_57_11, fld_57_12, fld_57_13, fld_57_14, fld_57_15, fld_57_16, fld_57_17, fld_57_18, fld_57_19, fld_57_20, fld_57_21, fld_57_22, fld_57_23, fld_57_24, fld_57_25, fld_57_26, fld_57_27, fld_57_28, fld_57_29, fld_57_30, fld_57_31, fld_57_32, fld_57_33, fld_57_34, fld_57_35, fld_57_36, fld_57_37, fld_57_38, fld_57_39, fld_57_40, fld_57_41, fld_57_42, fld_57_43, arr_58, arr_59, arr_60, arr_61, arr_62, arr_63, arr_64, arr_65, arr_66, arr_67, arr_68, arr_69, arr_70, arr_71, arr_72, arr_73, arr_74, arr_75, arr_76, arr_77, arr_78, arr_79, arr_80, arr_81, arr_82, arr_83, arr_84, arr_85, arr_86, arr_87, arr_88, arr_89, arr_90, arr_91, arr_92]
        try simp (disch := omega) only [vc_brT, vc_brF, vc_anT, vc_brt, vc_brf, vc_ant, vn_n0, vn_in, vn_cl, vn_lt, vn_le, vn_eq, vn_sub, vn_div, vn_rem, vn_mod, vn_m1, vn_m1n, vn_m1p, nI_add, pk_mul, vc_sa_1, vc_sa_2, vc_sg_1, vc_sg_2, Nat.reduceEqDiff, Nat.reduceLeDiff, Nat.reduceAdd, Nat.reduceMul, Nat.reduceSub, Nat.not_lt_zero, Nat.add_left_cancel_iff, reduceIte, true_and, and_true, not_false_eq_true, not_true_eq_false, true_or, or_true, Bool.false_eq_true]
        refine mt_readsBoy ht' (by omega) h1 ?_
        intro g υ f2 hg b1 b2 b3 b4 b5
        have hf2 : mFr [2] [60, 61] σ υ := hf.tr (f2.mono (by simp) (by simp))
        have ht2 := ht.m hf2 (by simp) (by simp)
        have hu2 : υ.1 57 2 = nI 0 := by rw [f2.2.1 2 (by simp)]; exact a1
        simp only [vc_wi, vc_li, vc_ll, vc_lr, vc_i1, vc_i2, vc_l1, vc_l2, vc_il, vc_r1, vc_ri, vc_rii, vc_rx, vc_cp, vc_s1, vc_s2, vc_fg, vc_cm, vc_ald, vc_bld, vc_ast, vc_bst, vc_len, vc_gf, vc_pf, vc_cpy, vc_ct, List.getElem?_cons_zero, List.getElem?_cons_succ, List.set_cons_zero, List.set_cons_succ, List.take_succ_cons, List.take_zero, List.drop_succ_cons, List.drop_zero, List.reverse_cons, List.reverse_nil, List.nil_append, List.cons_append, Option.toList_some, Option.toList_none, List.map_cons, List.map_nil, List.sum_cons, List.sum_nil, List.length_cons, List.length_nil, Value.category, Nat.reduceEqDiff, Nat.reduceLeDiff, Nat.reduceAdd, reduceIte, true_and, and_true, rt_123, cls_57, fld_57_0, fld_57_1, fld_57_2, fld_57_3, fld_57_4, fld_57_5, fld_57_6, fld_57_7, fld_57_8, fld_57_9, fld_57_10, fld_57_11, fld_57_12, fld_57_13, fld_57_14, fld_57_15, fld_57_16, fld_57_17, fld_57_18, fld_57_19, fld_57_20, fld_57_21, fld_57_22, fld_57_23, fld_57_24, fld_57_25, fld_57_26, fld_57_27, fld_57_28, fld_57_29, fld_57_30, fld_57_31, fld_57_32, fld_57_33, fld_57_34, fld_57_35, fld_57_36, fld_57_37, fld_57_38, fld_57_39, fld_57_40, fld_57_41, fld_57_42, fld_57_43, arr_58, arr_59, arr_60, arr_61, arr_62, arr_63, arr_64, arr_65, arr_66, arr_67, arr_68, arr_69, arr_70, arr_71, arr_72, arr_73, arr_74, arr_75, arr_76, arr_77, arr_78, arr_79, arr_80, arr_81, arr_82, arr_83, arr_84, arr_85, arr_86, arr_87, arr_88, arr_89, arr_90, arr_91, arr_92]
        try simp (disch := omega) only [vc_brT, vc_brF, vc_anT, vc_brt, vc_brf, vc_ant, vn_n0, vn_in, vn_cl, vn_lt, vn_le, vn_eq, vn_sub, vn_div, vn_rem, vn_mod, vn_m1, vn_m1n, vn_m1p, nI_add, pk_mul, vc_sa_1, vc_sa_2, vc_sg_1, vc_sg_2, Nat.reduceEqDiff, Nat.reduceLeDiff, Nat.reduceAdd, Nat.reduceMul, Nat.reduceSub, Nat.not_lt_zero, Nat.add_left_cancel_iff, reduceIte, true_and, and_true, not_false_eq_true, not_true_eq_false, true_or, or_true, Bool.false_eq_true]
        refine vc_br_i (fun q => ?_) (fun q => ?_)
        · have hg4 : g = 4 := by omega
          subst hg4
          obtain ⟨d1, d2⟩ := b5 rfl
          have hin : ∀ j, j < 5 * n + 4 → bFit j (t j) = true := by
            intro j hj
            by_cases hj5 : j < 5 * n
            · exact a2 j hj5
            · have := (b1 (j - 5 * n) (by omega)).2
              rw [show 5 * n + (j - 5 * n) = j by omega] at this
              exact this
          have hlen4 : 5 * n + 4 ≤ len := by have := (b1 3 (by omega)).1; omega
          have hS : ∀ k, k < n + 1 → υ.2 60 k = nI (bSort t k) := by
            intro k hk
            by_cases hkn : k = n
            · subst hkn; exact d1
            · rw [b3 k hkn]; exact a3 k (by omega)
          have hF : ∀ q, q < 3 * (n + 1) → υ.2 61 q = nI (bFirst t q) := by
            intro q hq
            by_cases hqn : q < 3 * n
            · rw [b4 q (by omega)]; exact a4 q hqn
            · have := d2 (q - 3 * n) (by omega)
              rw [show 3 * n + (q - 3 * n) = q by omega] at this
              exact this
          refine g_123_39 ?_
          simp only [vc_wi, vc_li, vc_ll, vc_lr, vc_i1, vc_i2, vc_l1, vc_l2, vc_il, vc_r1, vc_ri, vc_rii, vc_rx, vc_cp, vc_s1, vc_s2, vc_fg, vc_cm, vc_ald, vc_bld, vc_ast, vc_bst, vc_len, vc_gf, vc_pf, vc_cpy, vc_ct, List.getElem?_cons_zero, List.getElem?_cons_succ, List.set_cons_zero, List.set_cons_succ, List.take_succ_cons, List.take_zero, List.drop_succ_cons, List.drop_zero, List.reverse_cons, List.reverse_nil, List.nil_append, List.cons_append, Option.toList_some, Option.toList_none, List.map_cons, List.map_nil, List.sum_cons, List.sum_nil, List.length_cons, List.length_nil, Value.category, Nat.reduceEqDiff, Nat.reduceLeDiff, Nat.reduceAdd, reduceIte, true_and, and_true, B_123_39, rt_123, cls_57, fld_57_0, fld_57_1, fld_57_2, fld_57_3, fld_57_4, fld_57_5, fld_57_6, fld_57_7, fld_57_8, fld_57_9, fld_57_10, fld_57_11, fld_57_12, fld_57_13, fld_57_14, fld_57_15, fld_57_16, fld_57_17, fld_57_18, fld_57_19, fld_57_20, fld_57_21, fld_57_22, fld_57_23, fld_57_24, fld_57_25, fld_57_26, fld_57_27, fld_57_28, fld_57_29, fld_57_30, fld_57_31, fld_57_32, fld_57_33, fld_57_34, fld_57_35, fld_57_36, fld_57_37, fld_57_38, fld_57_39, fld_57_40, fld_57_41, fld_57_42, fld_57_43, arr_58, arr_59, arr_60, arr_61, arr_62, arr_63, arr_64, arr_65, arr_66, arr_67, arr_68, arr_69, arr_70, arr_71, arr_72, arr_73, arr_74, arr_75, arr_76, arr_77, arr_78, arr_79, arr_80, arr_81, arr_82, arr_83, arr_84, arr_85, arr_86, arr_87, arr_88, arr_89, arr_90, arr_91, arr_92]
          try simp (disch := omega) only [vc_brT, vc_brF, vc_anT, vc_brt, vc_brf, vc_ant, vn_n0, vn_in, vn_cl, vn_lt, vn_le, vn_eq, vn_sub, vn_div, vn_rem, vn_mod, vn_m1, vn_m1n, vn_m1p, nI_add, pk_mul, vc_sa_1, vc_sa_2, vc_sg_1, vc_sg_2, Nat.reduceEqDiff, Nat.reduceLeDiff, Nat.reduceAdd, Nat.reduceMul, Nat.reduceSub, Nat.not_lt_zero, Nat.add_left_cancel_iff, reduceIte, true_and, and_true, not_false_eq_true, not_true_eq_false, true_or, or_true, Bool.false_eq_true, ht2.1]
          refine vc_br_i (fun q => ?_) (fun q => ?_)
          · have hb := ht2.2.2 (5 * n + 4) (by omega)
            refine g_123_62 ?_
            simp only [vc_wi, vc_li, vc_ll, vc_lr, vc_i1, vc_i2, vc_l1, vc_l2, vc_il, vc_r1, vc_ri, vc_rii, vc_rx, vc_cp, vc_s1, vc_s2, vc_fg, vc_cm, vc_ald, vc_bld, vc_ast, vc_bst, vc_len, vc_gf, vc_pf, vc_cpy, vc_ct, List.getElem?_cons_zero, List.getElem?_cons_succ, List.set_cons_zero, List.set_cons_succ, List.take_succ_cons, List.take_zero, List.drop_succ_cons, List.drop_zero, List.reverse_cons, List.reverse_nil, List.nil_append, List.cons_append, Option.toList_some, Option.toList_none, List.map_cons, List.map_nil, List.sum_cons, List.sum_nil, List.length_cons, List.length_nil, Value.category, Nat.reduceEqDiff, Nat.reduceLeDiff, Nat.reduceAdd, reduceIte, true_and, and_true, B_123_62, rt_123, cls_57, fld_57_0, fld_57_1, fld_57_2, fld_57_3, fld_57_4, fld_57_5, fld_57_6, fld_57_7, fld_57_8, fld_57_9, fld_57_10, fld_57_11, fld_57_12, fld_57_13, fld_57_14, fld_57_15, fld_57_16, fld_57_17, fld_57_18, fld_57_19, fld_57_20, fld_57_21, fld_57_22, fld_57_23, fld_57_24, fld_57_25, fld_57_26, fld_57_27, fld_57_28, fld_57_29, fld_57_30, fld_57_31, fld_57_32, fld_57_33, fld_57_34, fld_57_35, fld_57_36, fld_57_37, fld_57_38, fld_57_39, fld_57_40, fld_57_41, fld_57_42, fld_57_43, arr_58, arr_59, arr_60, arr_61, arr_62, arr_63, arr_64, arr_65, arr_66, arr_67, arr_68, arr_69, arr_70, arr_71, arr_72, arr_73, arr_74, arr_75, arr_76, arr_77, arr_78, arr_79, arr_80, arr_81, arr_82, arr_83, arr_84, arr_85, arr_86, arr_87, arr_88, arr_89, arr_90, arr_91, arr_92]
            try simp (disch := omega) only [vc_brT, vc_brF, vc_anT, vc_brt, vc_brf, vc_ant, vn_n0, vn_in, vn_cl, vn_lt, vn_le, vn_eq, vn_sub, vn_div, vn_rem, vn_mod, vn_m1, vn_m1n, vn_m1p, nI_add, pk_mul, vc_sa_1, vc_sa_2, vc_sg_1, vc_sg_2, Nat.reduceEqDiff, Nat.reduceLeDiff, Nat.reduceAdd, Nat.reduceMul, Nat.reduceSub, Nat.not_lt_zero, Nat.add_left_cancel_iff, reduceIte, true_and, and_true, not_false_eq_true, not_true_eq_false, true_or, or_true, Bool.false_eq_true]
            refine mt_byteAt ht2 (by omega) ?_
            rw [if_pos (by omega), vE_s]
            have hb2 := hb.2
            simp only [vc_wi, vc_li, vc_ll, vc_lr, vc_i1, vc_i2, vc_l1, vc_l2, vc_il, vc_r1, vc_ri, vc_rii, vc_rx, vc_cp, vc_s1, vc_s2, vc_fg, vc_cm, vc_ald, vc_bld, vc_ast, vc_bst, vc_len, vc_gf, vc_pf, vc_cpy, vc_ct, List.getElem?_cons_zero, List.getElem?_cons_succ, List.set_cons_zero, List.set_cons_succ, List.take_succ_cons, List.take_zero, List.drop_succ_cons, List.drop_zero, List.reverse_cons, List.reverse_nil, List.nil_append, List.cons_append, Option.toList_some, Option.toList_none, List.map_cons, List.map_nil, List.sum_cons, List.sum_nil, List.length_cons, List.length_nil, Value.category, Nat.reduceEqDiff, Nat.reduceLeDiff, Nat.reduceAdd, reduceIte, true_and, and_true, rt_123, cls_57, fld_57_0, fld_57_1, fld_57_2, fld_57_3, fld_57_4, fld_57_5, fld_57_6, fld_57_7, fld_57_8, fld_57_9, fld_57_10, fld_57_11, fld_57_12, fld_57_13, fld_57_14, fld_57_15, fld_57_16, fld_57_17, fld_57_18, fld_57_19, fld_57_20, fld_57_21, fld_57_22, fld_57_23, fld_57_24, fld_57_25, fld_57_26, fld_57_27, fld_57_28, fld_57_29, fld_57_30, fld_57_31, fld_57_32, fld_57_33, fld_57_34, fld_57_35, fld_57_36, fld_57_37, fld_57_38, fld_57_39, fld_57_40, fld_57_41, fld_57_42, fld_57_43, arr_58, arr_59, arr_60, arr_61, arr_62, arr_63, arr_64, arr_65, arr_66, arr_67, arr_68, arr_69, arr_70, arr_71, arr_72, arr_73, arr_74, arr_75, arr_76, arr_77, arr_78, arr_79, arr_80, arr_81, arr_82, arr_83, arr_84, arr_85, arr_86, arr_87, arr_88, arr_89, arr_90, arr_91, arr_92]
            try simp (disch := omega) only [vc_brT, vc_brF, vc_anT, vc_brt, vc_brf, vc_ant, vn_n0, vn_in, vn_cl, vn_lt, vn_le, vn_eq, vn_sub, vn_div, vn_rem, vn_mod, vn_m1, vn_m1n, vn_m1p, nI_add, pk_mul, vc_sa_1, vc_sa_2, vc_sg_1, vc_sg_2, Nat.reduceEqDiff, Nat.reduceLeDiff, Nat.reduceAdd, Nat.reduceMul, Nat.reduceSub, Nat.not_lt_zero, Nat.add_left_cancel_iff, reduceIte, true_and, and_true, not_false_eq_true, not_true_eq_false, true_or, or_true, Bool.false_eq_true]
            refine vc_br_i (fun q2 => ?_) (fun q2 => ?_)
            · refine g_123_74 ?_
              simp only [vc_wi, vc_li, vc_ll, vc_lr, vc_i1, vc_i2, vc_l1, vc_l2, vc_il, vc_r1, vc_ri, vc_rii, vc_rx, vc_cp, vc_s1, vc_s2, vc_fg, vc_cm, vc_ald, vc_bld, vc_ast, vc_bst, vc_len, vc_gf, vc_pf, vc_cpy, vc_ct, List.getElem?_cons_zero, List.getElem?_cons_succ, List.set_cons_zero, List.set_cons_succ, List.take_succ_cons, List.take_zero, List.drop_succ_cons, List.drop_zero, List.reverse_cons, List.reverse_nil, List.nil_append, List.cons_append, Option.toList_some, Option.toList_none, List.map_cons, List.map_nil, List.sum_cons, List.sum_nil, List.length_cons, List.length_nil, Value.category, Nat.reduceEqDiff, Nat.reduceLeDiff, Nat.reduceAdd, reduceIte, true_and, and_true, B_123_74, rt_123, cls_57, fld_57_0, fld_57_1, fld_57_2, fld_57_3, fld_57_4, fld_57_5, fld_57_6, fld_57_7, fld_57_8, fld_57_9, fld_57_10, fld_57_11, fld_57_12, fld_57_13, fld_57_14, fld_57_15, fld_57_16, fld_57_17, fld_57_18, fld_57_19, fld_57_20, fld_57_21, fld_57_22, fld_57_23, fld_57_24, fld_57_25, fld_57_26, fld_57_27, fld_57_28, fld_57_29, fld_57_30, fld_57_31, fld_57_32, fld_57_33, fld_57_34, fld_57_35, fld_57_36, fld_57_37, fld_57_38, fld_57_39, fld_57_40, fld_57_41, fld_57_42, fld_57_43, arr_58, arr_59, arr_60, arr_61, arr_62, arr_63, arr_64, arr_65, arr_66, arr_67, arr_68, arr_69, arr_70, arr_71, arr_72, arr_73, arr_74, arr_75, arr_76, arr_77, arr_78, arr_79, arr_80, arr_81, arr_82, arr_83, arr_84, arr_85, arr_86, arr_87, arr_88, arr_89, arr_90, arr_91, arr_92]
              try simp (disch := omega) only [vc_brT, vc_brF, vc_anT, vc_brt, vc_brf, vc_ant, vn_n0, vn_in, vn_cl, vn_lt, vn_le, vn_eq, vn_sub, vn_div, vn_rem, vn_mod, vn_m1, vn_m1n, vn_m1p, nI_add, pk_mul, vc_sa_1, vc_sa_2, vc_sg_1, vc_sg_2, Nat.reduceEqDiff, Nat.reduceLeDiff, Nat.reduceAdd, Nat.reduceMul, Nat.reduceSub, Nat.not_lt_zero, Nat.add_left_cancel_iff, reduceIte, true_and, and_true, not_false_eq_true, not_true_eq_false, true_or, or_true, Bool.false_eq_true]
              rw [show 5 * n + 5 = 5 * (n + 1) by omega]
              refine ih (n + 1) υ (by omega) (by omega) (by omega) hf2 hu2 (fun j hj => ?_) hS hF _
              by_cases hj4 : j = 5 * n + 4
              · subst hj4
                unfold bFit
                rw [if_neg (by omega), if_pos (by omega)]
                exact decide_eq_true q2
              · exact hin j (by omega)
            · have hbf : bFault t len = some (5 * n + 4) := by
                unfold bFault
                rw [bFa_some len 0 (5 * n + 4) (fun j _ hj => hin j hj) (by omega) (by omega) (by
                  unfold bFit
                  rw [if_neg (by omega), if_pos (by omega)]
                  exact decide_eq_false q2)]
              have hb0 := hfault _ hbf
              have := h υ hf2 (by rw [hb0]; exact hu2) (fun k hk => by omega) (fun k hk => by omega)
              rw [hbf, vE_s] at this
              exact this
          · have hle : len = 5 * n + 4 := by omega
            have hbf : bFault t len = none := by
              unfold bFault
              rw [bFa_no len 0 (fun j _ hj => hin j (by omega))]
              simp only []
              rw [if_pos (by omega)]
            have hbn : bNum t len = n + 1 := by unfold bNum; rw [if_pos hbf]; omega
            have := h (vc_sg υ 57 2 (nI (n + 1))) (hf2.sg (by simp)) (by rw [hbn, vc_sg_1, if_pos rfl, if_pos rfl]) (by rw [hbn]; exact hS) (by rw [hbn]; exact hF)
            rw [hbf] at this
            exact this
        · have hb2 := b2 (by omega)
          have hle : 5 * n + g ≤ len := by
            by_cases hg0 : g = 0
            · omega
            · have := (b1 (g - 1) (by omega)).1; omega
          have hin : ∀ j, j < 5 * n + g → bFit j (t j) = true := by
            intro j hj
            by_cases hj5 : j < 5 * n
            · exact a2 j hj5
            · have := (b1 (j - 5 * n) (by omega)).2
              rw [show 5 * n + (j - 5 * n) = j by omega] at this
              exact this
          have hbf : bFault t len = some (5 * n + g) := by
            unfold bFault
            by_cases hpl : 5 * n + g < len
            · rw [bFa_some len 0 (5 * n + g) (fun j _ hj => hin j hj) (by omega) (by omega) (by
                cases hb : bFit (5 * n + g) (t (5 * n + g)) with
                | false => rfl
                | true => exact absurd ⟨hpl, hb⟩ hb2)]
            · have hel : 5 * n + g = len := by omega
              rw [bFa_no len 0 (fun j _ hj => hin j (by omega))]
              simp only []
              rw [if_neg (by omega), hel]
          have hb0 := hfault _ hbf
          have := h υ hf2 (by rw [hb0]; exact hu2) (fun k hk => by omega) (fun k hk => by omega)
          rw [hbf, vE_s] at this
          exact this
      refine g_123_9 ?_
      simp only [vc_wi, vc_li, vc_ll, vc_lr, vc_i1, vc_i2, vc_l1, vc_l2, vc_il, vc_r1, vc_ri, vc_rii, vc_rx, vc_cp, vc_s1, vc_s2, vc_fg, vc_cm, vc_ald, vc_bld, vc_ast, vc_bst, vc_len, vc_gf, vc_pf, vc_cpy, vc_ct, List.getElem?_cons_zero, List.getElem?_cons_succ, List.set_cons_zero, List.set_cons_succ, List.take_succ_cons, List.take_zero, List.drop_succ_cons, List.drop_zero, List.reverse_cons, List.reverse_nil, List.nil_append, List.cons_append, Option.toList_some, Option.toList_none, List.map_cons, List.map_nil, List.sum_cons, List.sum_nil, List.length_cons, List.length_nil, Value.category, Nat.reduceEqDiff, Nat.reduceLeDiff, Nat.reduceAdd, reduceIte, true_and, and_true, B_123_9, rt_123, cls_57, fld_57_0, fld_57_1, fld_57_2, fld_57_3, fld_57_4, fld_57_5, fld_57_6, fld_57_7, fld_57_8, fld_57_9, fld_57_10, fld_57_11, fld_57_12, fld_57_13, fld_57_14, fld_57_15, fld_57_16, fld_57_17, fld_57_18, fld_57_19, fld_57_20, fld_57_21, fld_57_22, fld_57_23, fld_57_24, fld_57_25, fld_57_26, fld_57_27, fld_57_28, fld_57_29, fld_57_30, fld_57_31, fld_57_32, fld_57_33, fld_57_34, fld_57_35, fld_57_36, fld_57_37, fld_57_38, fld_57_39, fld_57_40, fld_57_41, fld_57_42, fld_57_43, arr_58, arr_59, arr_60, arr_61, arr_62, arr_63, arr_64, arr_65, arr_66, arr_67, arr_68, arr_69, arr_70, arr_71, arr_72, arr_73, arr_74, arr_75, arr_76, arr_77, arr_78, arr_79, arr_80, arr_81, arr_82, arr_83, arr_84, arr_85, arr_86, arr_87, arr_88, arr_89, arr_90, arr_91, arr_92]
      try simp (disch := omega) only [vc_brT, vc_brF, vc_anT, vc_brt, vc_brf, vc_ant, vn_n0, vn_in, vn_cl, vn_lt, vn_le, vn_eq, vn_sub, vn_div, vn_rem, vn_mod, vn_m1, vn_m1n, vn_m1p, nI_add, pk_mul, vc_sa_1, vc_sa_2, vc_sg_1, vc_sg_2, Nat.reduceEqDiff, Nat.reduceLeDiff, Nat.reduceAdd, Nat.reduceMul, Nat.reduceSub, Nat.not_lt_zero, Nat.add_left_cancel_iff, reduceIte, true_and, and_true, not_false_eq_true, not_true_eq_false, true_or, or_true, Bool.false_eq_true, ht'.1]
      by_cases hl : 5 * n < len
      · rw [vc_brt hl]
        exact c23
      · rw [vc_brf hl]
        first | exact c23 | (refine vc_br_f (by omega) ?_; exact c23)
  refine vc_C_of (ls0 := [some (.ref 57), none, none, none]) hk_123 (Nat.le_of_ble_eq_true rfl) rfl ?_
  refine g_123_0 ?_
  simp only [vc_wi, vc_li, vc_ll, vc_lr, vc_i1, vc_i2, vc_l1, vc_l2, vc_il, vc_r1, vc_ri, vc_rii, vc_rx, vc_cp, vc_s1, vc_s2, vc_fg, vc_cm, vc_ald, vc_bld, vc_ast, vc_bst, vc_len, vc_gf, vc_pf, vc_cpy, vc_ct, List.getElem?_cons_zero, List.getElem?_cons_succ, List.set_cons_zero, List.set_cons_succ, List.take_succ_cons, List.take_zero, List.drop_succ_cons, List.drop_zero, List.reverse_cons, List.reverse_nil, List.nil_append, List.cons_append, Option.toList_some, Option.toList_none, List.map_cons, List.map_nil, List.sum_cons, List.sum_nil, List.length_cons, List.length_nil, Value.category, Nat.reduceEqDiff, Nat.reduceLeDiff, Nat.reduceAdd, reduceIte, true_and, and_true, B_123_0, rt_123, cls_57, fld_57_0, fld_57_1, fld_57_2, fld_57_3, fld_57_4, fld_57_5, fld_57_6, fld_57_7, fld_57_8, fld_57_9, fld_57_10, fld_57_11, fld_57_12, fld_57_13, fld_57_14, fld_57_15, fld_57_16, fld_57_17, fld_57_18, fld_57_19, fld_57_20, fld_57_21, fld_57_22, fld_57_23, fld_57_24, fld_57_25, fld_57_26, fld_57_27, fld_57_28, fld_57_29, fld_57_30, fld_57_31, fld_57_32, fld_57_33, fld_57_34, fld_57_35, fld_57_36, fld_57_37, fld_57_38, fld_57_39, fld_57_40, fld_57_41, fld_57_42, fld_57_43, arr_58, arr_59, arr_60, arr_61, arr_62, arr_63, arr_64, arr_65, arr_66, arr_67, arr_68, arr_69, arr_70, arr_71, arr_72, arr_73, arr_74, arr_75, arr_76, arr_77, arr_78, arr_79, arr_80, arr_81, arr_82, arr_83, arr_84, arr_85, arr_86, arr_87, arr_88, arr_89, arr_90, arr_91, arr_92]
  try simp (disch := omega) only [vc_brT, vc_brF, vc_anT, vc_brt, vc_brf, vc_ant, vn_n0, vn_in, vn_cl, vn_lt, vn_le, vn_eq, vn_sub, vn_div, vn_rem, vn_mod, vn_m1, vn_m1n, vn_m1p, nI_add, pk_mul, vc_sa_1, vc_sa_2, vc_sg_1, vc_sg_2, Nat.reduceEqDiff, Nat.reduceLeDiff, Nat.reduceAdd, Nat.reduceMul, Nat.reduceSub, Nat.not_lt_zero, Nat.add_left_cancel_iff, reduceIte, true_and, and_true, not_false_eq_true, not_true_eq_false, true_or, or_true, Bool.false_eq_true]
  by_cases hl0 : len = 0
  · have ht1 := ht.1
    refine g_123_9 ?_
    simp only [vc_wi, vc_li, vc_ll, vc_lr, vc_i1, vc_i2, vc_l1, vc_l2, vc_il, vc_r1, vc_ri, vc_rii, vc_rx, vc_cp, vc_s1, vc_s2, vc_fg, vc_cm, vc_ald, vc_bld, vc_ast, vc_bst, vc_len, vc_gf, vc_pf, vc_cpy, vc_ct, List.getElem?_cons_zero, List.getElem?_cons_succ, List.set_cons_zero, List.set_cons_succ, List.take_succ_cons, List.take_zero, List.drop_succ_cons, List.drop_zero, List.reverse_cons, List.reverse_nil, List.nil_append, List.cons_append, Option.toList_some, Option.toList_none, List.map_cons, List.map_nil, List.sum_cons, List.sum_nil, List.length_cons, List.length_nil, Value.category, Nat.reduceEqDiff, Nat.reduceLeDiff, Nat.reduceAdd, reduceIte, true_and, and_true, B_123_9, rt_123, cls_57, fld_57_0, fld_57_1, fld_57_2, fld_57_3, fld_57_4, fld_57_5, fld_57_6, fld_57_7, fld_57_8, fld_57_9, fld_57_10, fld_57_11, fld_57_12, fld_57_13, fld_57_14, fld_57_15, fld_57_16, fld_57_17, fld_57_18, fld_57_19, fld_57_20, fld_57_21, fld_57_22, fld_57_23, fld_57_24, fld_57_25, fld_57_26, fld_57_27, fld_57_28, fld_57_29, fld_57_30, fld_57_31, fld_57_32, fld_57_33, fld_57_34, fld_57_35, fld_57_36, fld_57_37, fld_57_38, fld_57_39, fld_57_40, fld_57_41, fld_57_42, fld_57_43, arr_58, arr_59, arr_60, arr_61, arr_62, arr_63, arr_64, arr_65, arr_66, arr_67, arr_68, arr_69, arr_70, arr_71, arr_72, arr_73, arr_74, arr_75, arr_76, arr_77, arr_78, arr_79, arr_80, arr_81, arr_82, arr_83, arr_84, arr_85, arr_86, arr_87, arr_88, arr_89, arr_90, arr_91, arr_92]
    try simp (disch := omega) only [vc_brT, vc_brF, vc_anT, vc_brt, vc_brf, vc_ant, vn_n0, vn_in, vn_cl, vn_lt, vn_le, vn_eq, vn_sub, vn_div, vn_rem, vn_mod, vn_m1, vn_m1n, vn_m1p, nI_add, pk_mul, vc_sa_1, vc_sa_2, vc_sg_1, vc_sg_2, Nat.reduceEqDiff, Nat.reduceLeDiff, Nat.reduceAdd, Nat.reduceMul, Nat.reduceSub, Nat.not_lt_zero, Nat.add_left_cancel_iff, reduceIte, true_and, and_true, not_false_eq_true, not_true_eq_false, true_or, or_true, Bool.false_eq_true, ht1]
    refine g_123_80 ?_
    simp only [vc_wi, vc_li, vc_ll, vc_lr, vc_i1, vc_i2, vc_l1, vc_l2, vc_il, vc_r1, vc_ri, vc_rii, vc_rx, vc_cp, vc_s1, vc_s2, vc_fg, vc_cm, vc_ald, vc_bld, vc_ast, vc_bst, vc_len, vc_gf, vc_pf, vc_cpy, vc_ct, List.getElem?_cons_zero, List.getElem?_cons_succ, List.set_cons_zero, List.set_cons_succ, List.take_succ_cons, List.take_zero, List.drop_succ_cons, List.drop_zero, List.reverse_cons, List.reverse_nil, List.nil_append, List.cons_append, Option.toList_some, Option.toList_none, List.map_cons, List.map_nil, List.sum_cons, List.sum_nil, List.length_cons, List.length_nil, Value.category, Nat.reduceEqDiff, Nat.reduceLeDiff, Nat.reduceAdd, reduceIte, true_and, and_true, B_123_80, rt_123, cls_57, fld_57_0, fld_57_1, fld_57_2, fld_57_3, fld_57_4, fld_57_5, fld_57_6, fld_57_7, fld_57_8, fld_57_9, fld_57_10, fld_57_11, fld_57_12, fld_57_13, fld_57_14, fld_57_15, fld_57_16, fld_57_17, fld_57_18, fld_57_19, fld_57_20, fld_57_21, fld_57_22, fld_57_23, fld_57_24, fld_57_25, fld_57_26, fld_57_27, fld_57_28, fld_57_29, fld_57_30, fld_57_31, fld_57_32, fld_57_33, fld_57_34, fld_57_35, fld_57_36, fld_57_37, fld_57_38, fld_57_39, fld_57_40, fld_57_41, fld_57_42, fld_57_43, arr_58, arr_59, arr_60, arr_61, arr_62, arr_63, arr_64, arr_65, arr_66, arr_67, arr_68, arr_69, arr_70, arr_71, arr_72, arr_73, arr_74, arr_75, arr_76, arr_77, arr_78, arr_79, arr_80, arr_81, arr_82, arr_83, arr_84, arr_85, arr_86, arr_87, arr_88, arr_89, arr_90, arr_91, arr_92]
    try simp (disch := omega) only [vc_brT, vc_brF, vc_anT, vc_brt, vc_brf, vc_ant, vn_n0, vn_in, vn_cl, vn_lt, vn_le, vn_eq, vn_sub, vn_div, vn_rem, vn_mod, vn_m1, vn_m1n, vn_m1p, nI_add, pk_mul, vc_sa_1, vc_sa_2, vc_sg_1, vc_sg_2, Nat.reduceEqDiff, Nat.reduceLeDiff, Nat.reduceAdd, Nat.reduceMul, Nat.reduceSub, Nat.not_lt_zero, Nat.add_left_cancel_iff, reduceIte, true_and, and_true, not_false_eq_true, not_true_eq_false, true_or, or_true, Bool.false_eq_true]
    have hbf : bFault t len = none := by
      unfold bFault
      rw [hl0]
      rfl
    have hbn : bNum t len = 0 := by unfold bNum; rw [if_pos hbf, hl0]
    have := h (vc_sg σ 57 2 (nI 0)) (mFr.rf.sg (by simp)) (by rw [hbn, vc_sg_1, if_pos rfl, if_pos rfl]) (fun k hk => by omega) (fun k hk => by omega)
    rw [hbf] at this
    exact this
  · exact lp 8 0 (vc_sg σ 57 2 (nI 0)) (by omega) (by omega) (by omega) (mFr.rf.sg (by simp)) (by rw [vc_sg_1, if_pos rfl, if_pos rfl]) (fun j hj => by omega) (fun k hk => by omega) (fun k hk => by omega) _
