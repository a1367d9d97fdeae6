/-! first and ask -/
theorem bt_zBt {c : Nat → Bool} {i : Nat} (hi : i < 32) : ∀ n, n ≤ 32 → bt (zBt c n) i = (decide (i < n) && c i)
  | 0, _ => by
    rw [show zBt c 0 = 0 from rfl, b_0, decide_eq_false (by omega)]
    rfl
  | n + 1, h => by
    have ih := bt_zBt (c := c) hi n (by omega)
    rw [zBt_s]
    by_cases e : i = n
    · subst e
      rw [decide_eq_false (by omega)] at ih
      cases hc : c i with
      | false => rw [if_neg (by simp), ih]; simp
      | true => rw [if_pos rfl, b_or, ih, vb_1 hi hi]; simp
    · have e2 : decide (i < n + 1) = decide (i < n) := by
        by_cases q : i < n
        · rw [decide_eq_true q, decide_eq_true (by omega)]
        · rw [decide_eq_false q, decide_eq_false (by omega)]
      rw [e2, ← ih]
      split
      · rw [b_or, vb_1 (by omega) hi, decide_eq_false e, Bool.or_false]
      · rfl
theorem zCn_le {c : Nat → Bool} {A : Nat → Nat} {y : Nat} : ∀ u, zCn c A y u ≤ u
  | 0 => Nat.le_refl _
  | u + 1 => by
    have := zCn_le (c := c) (A := A) (y := y) u
    unfold zCn
    split <;> omega
theorem zCn_mono {c : Nat → Bool} {A : Nat → Nat} {y u : Nat} : ∀ m, zCn c A y u ≤ zCn c A y (u + m)
  | 0 => Nat.le_refl _
  | m + 1 => by
    have := zCn_mono (c := c) (A := A) (y := y) (u := u) m
    show _ ≤ zCn c A y (u + m) + _
    omega
theorem zGr_le {c : Nat → Bool} {A : Nat → Nat} : ∀ u, zGr c A u ≤ u
  | 0 => Nat.le_refl _
  | u + 1 => by
    have := zGr_le (c := c) (A := A) u
    have := zCn_le (c := c) (A := A) (y := A u) (u + 1)
    unfold zGr
    split <;> omega
theorem zGr_s (c : Nat → Bool) (A : Nat → Nat) (u : Nat) : zGr c A (u + 1) = if c u then max (zGr c A u) (zCn c A (A u) (u + 1)) else zGr c A u := rfl
theorem mx_eq {a b : Nat} (ha : a < 2147483648) (hb : b < 2147483648) : (if nI a < nI b then nI b else nI a) = nI (max a b) := by
  by_cases h : a < b
  · rw [if_pos (by rw [vn_lt ha hb]; exact h), Nat.max_eq_right (by omega)]
  · rw [if_neg (by rw [vn_lt ha hb]; exact h), Nat.max_eq_left (by omega)]
theorem upd_k (f : Nat → Int32) (k : Nat) (v : Int32) : upd f k v k = v := by unfold upd; rw [if_pos rfl]
theorem zCn_gr {c : Nat → Bool} {A : Nat → Nat} {y : Nat} : ∀ u, zCn c A y u ≤ zGr c A u
  | 0 => Nat.le_refl _
  | u + 1 => by
    have ih := zCn_gr (c := c) (A := A) (y := y) u
    unfold zGr
    by_cases h : c u = true ∧ A u = y
    · rw [if_pos h.1, ← h.2]
      exact Nat.le_max_right _ _
    · have e : zCn c A y (u + 1) = zCn c A y u := by
        show _ + (if _ then _ else _) = _
        rw [if_neg h]
        rfl
      rw [e]
      split
      · exact Nat.le_trans ih (Nat.le_max_left _ _)
      · exact ih
/-- the greatest, as m finds it -/
def zMx (c : Nat → Bool) (A : Nat → Nat) (N : Nat) : Nat → Nat
  | 0 => 0
  | a + 1 => max (zMx c A N a) (if c a = true then zCn c A (A a) N else 0)
theorem zMx_ge {c : Nat → Bool} {A : Nat → Nat} {N a : Nat} (hc : c a = true) : ∀ m, a < m → zCn c A (A a) N ≤ zMx c A N m
  | 0, h => by omega
  | m + 1, h => by
    unfold zMx
    by_cases e : a = m
    · subst e
      rw [if_pos hc]
      exact Nat.le_max_right _ _
    · exact Nat.le_trans (zMx_ge hc m (by omega)) (Nat.le_max_left _ _)
theorem zMx_gr {c : Nat → Bool} {A : Nat → Nat} {N : Nat} : zMx c A N N = zGr c A N := by
  refine Nat.le_antisymm ?_ ?_
  · have : ∀ m, zMx c A N m ≤ zGr c A N := by
      intro m
      induction m with
      | zero => exact Nat.zero_le _
      | succ m ih =>
        unfold zMx
        refine Nat.max_le.mpr ⟨ih, ?_⟩
        split
        · exact zCn_gr N
        · exact Nat.zero_le _
    exact this N
  · have : ∀ u, u ≤ N → zGr c A u ≤ zMx c A N N := by
      intro u
      induction u with
      | zero => intro _; exact Nat.zero_le _
      | succ u ih =>
        intro hu
        unfold zGr
        split
        · rename_i hc
          refine Nat.max_le.mpr ⟨ih (by omega), ?_⟩
          have := zCn_mono (c := c) (A := A) (y := A u) (u := u + 1) (N - (u + 1))
          rw [show u + 1 + (N - (u + 1)) = N by omega] at this
          exact Nat.le_trans this (zMx_ge hc N (by omega))
        · exact ih (by omega)
    exact this N (Nat.le_refl _)
set_option maxHeartbeats 400000 in
set_option maxRecDepth 100000 in
theorem ct_greatestAlike {K : vc_K} {d : Nat} {bits : Int32} {c : Nat → Bool} {A : Nat → Nat} {σ : vc_S} {Q : Option Value → vc_S → Prop} (hd : d < 30) (hb : ∀ u, u < 10 → bt bits u = c u) (hA : ∀ u, u < 10 → σ.2 55 (30 * u + d) = nI (A u) ∧ A u ≤ 30) (h : ∀ τ, vc_fr [56] σ τ → Q (some (.int (nI (zGr c A 10)))) τ) : vc_C K 104 [.ref 0, .int (nI d), .int bits] σ Q := by
  have lp : ∀ (m u : Nat) (τ : vc_S) (x : Option Value), u + m = 10 → vc_fr [56] σ τ → (∀ y, y ≤ 30 → τ.2 56 y = nI (zCn c A y u)) → vc_G K 104 13 [some (.ref 0), some (.int (nI d)), some (.int bits), some (.int (nI (zGr c A u))), some (.int (nI u)), x] [] τ Q := by
    intro m
    induction m with
    | zero =>
      intro u τ x hu hf hz
      refine g_104_13 ?_
      simp only [vc_wi, vc_li, vc_ll, vc_lr, vc_i1, vc_i2, vc_l1, vc_l2, vc_il, vc_r1, vc_ri, vc_rii, vc_rx, vc_cp, vc_s1, vc_s2, vc_fg, vc_cm, vc_ald, vc_bld, vc_ast, vc_bst, vc_len, vc_gf, vc_pf, vc_cpy, vc_ct, List.getElem?_cons_zero, List.getElem?_cons_succ, List.set_cons_zero, List.set_cons_succ, List.take_succ_cons, List.take_zero, List.drop_succ_cons, List.drop_zero, List.reverse_cons, List.reverse_nil, List.nil_append, List.cons_append, Option.toList_some, Option.toList_none, List.map_cons, List.map_nil, List.sum_cons, List.sum_nil, List.length_cons, List.length_nil, Value.category, Nat.reduceEqDiff, Nat.reduceLeDiff, Nat.reduceAdd, reduceIte, true_and, and_true, B_104_13, rt_104, cls_0, fld_0_0, fld_0_1, fld_0_2, fld_0_3, fld_0_4, fld_0_5, fld_0_6, fld_0_7, fld_0_8, fld_0_9, fld_0_10, fld_0_11, fld_0_12, fld_0_13, fld_0_14, fld_0_15, fld_0_16, fld_0_17, fld_0_18, cls_1, fld_1_0, fld_1_1, arr_2, cls_3, fld_3_0, fld_3_1, arr_4, cls_5, fld_5_0, fld_5_1, fld_5_2, fld_5_3, arr_6, arr_7, cls_8, fld_8_0, fld_8_1, fld_8_2, fld_8_3, arr_9, arr_10, cls_11, fld_11_0, fld_11_1, fld_11_2, fld_11_3, arr_12, arr_13, arr_14, cls_15, fld_15_0, fld_15_1, fld_15_2, fld_15_3, fld_15_4, arr_16, arr_17, arr_18, arr_19, lay_20, cls_21, fld_21_0, fld_21_1, fld_21_2, fld_21_3, arr_22, cls_23, fld_23_0, fld_23_1, fld_23_2, fld_23_3, arr_24, cls_25, fld_25_0, fld_25_1, fld_25_2, fld_25_3, arr_26, cls_27, fld_27_0, fld_27_1, fld_27_2, fld_27_3, arr_28, cls_47, fld_47_0, fld_47_1, fld_47_2, fld_47_3, arr_48, arr_49, arr_50, cls_51, fld_51_0, cls_52, fld_52_0, fld_52_1, arr_53, arr_54, arr_55, arr_56]
      try simp (disch := omega) only [vc_brT, vc_brF, vc_anT, vc_brt, vc_brf, vc_ant, vn_n0, vn_in, vn_cl, vn_lt, vn_le, vn_eq, vn_sub, vn_div, vn_rem, vn_mod, vn_m1, vn_m1n, vn_m1p, nI_add, pk_mul, vc_sa_1, vc_sa_2, vc_sg_1, vc_sg_2, Nat.reduceEqDiff, Nat.reduceLeDiff, Nat.reduceAdd, Nat.reduceMul, Nat.reduceSub, Nat.not_lt_zero, Nat.add_left_cancel_iff, reduceIte, true_and, and_true, not_false_eq_true, not_true_eq_false, true_or, or_true, Bool.false_eq_true]
      refine g_104_82 ?_
      simp only [vc_wi, vc_li, vc_ll, vc_lr, vc_i1, vc_i2, vc_l1, vc_l2, vc_il, vc_r1, vc_ri, vc_rii, vc_rx, vc_cp, vc_s1, vc_s2, vc_fg, vc_cm, vc_ald, vc_bld, vc_ast, vc_bst, vc_len, vc_gf, vc_pf, vc_cpy, vc_ct, List.getElem?_cons_zero, List.getElem?_cons_succ, List.set_cons_zero, List.set_cons_succ, List.take_succ_cons, List.take_zero, List.drop_succ_cons, List.drop_zero, List.reverse_cons, List.reverse_nil, List.nil_append, List.cons_append, Option.toList_some, Option.toList_none, List.map_cons, List.map_nil, List.sum_cons, List.sum_nil, List.length_cons, List.length_nil, Value.category, Nat.reduceEqDiff, Nat.reduceLeDiff, Nat.reduceAdd, reduceIte, true_and, and_true, B_104_82, rt_104, cls_0, fld_0_0, fld_0_1, fld_0_2, fld_0_3, fld_0_4, fld_0_5, fld_0_6, fld_0_7, fld_0_8, fld_0_9, fld_0_10, fld_0_11, fld_0_12, fld_0_13, fld_0_14, fld_0_15, fld_0_16, fld_0_17, fld_0_18, cls_1, fld_1_0, fld_1_1, arr_2, cls_3, fld_3_0, fld_3_1, arr_4, cls_5, fld_5_0, fld_5_1, fld_5_2, fld_5_3, arr_6, arr_7, cls_8, fld_8_0, fld_8_1, fld_8_2, fld_8_3, arr_9, arr_10, cls_11, fld_11_0, fld_11_1, fld_11_2, fld_11_3, arr_12, arr_13, arr_14, cls_15, fld_15_0, fld_15_1, fld_15_2, fld_15_3, fld_15_4, arr_16, arr_17, arr_18, arr_19, lay_20, cls_21, fld_21_0, fld_21_1, fld_21_2, fld_21_3, arr_22, cls_23, fld_23_0, fld_23_1, fld_23_2, fld_23_3, arr_24, cls_25, fld_25_0, fld_25_1, fld_25_2, fld_25_3, arr_26, cls_27, fld_27_0, fld_27_1, fld_27_2, fld_27_3, arr_28, cls_47, fld_47_0, fld_47_1, fld_47_2, fld_47_3, arr_48, arr_49, arr_50, cls_51, fld_51_0, cls_52, fld_52_0, fld_52_1, arr_53, arr_54, arr_55, arr_56]
      try simp (disch := omega) only [vc_brT, vc_brF, vc_anT, vc_brt, vc_brf, vc_ant, vn_n0, vn_in, vn_cl, vn_lt, vn_le, vn_eq, vn_sub, vn_div, vn_rem, vn_mod, vn_m1, vn_m1n, vn_m1p, nI_add, pk_mul, vc_sa_1, vc_sa_2, vc_sg_1, vc_sg_2, Nat.reduceEqDiff, Nat.reduceLeDiff, Nat.reduceAdd, Nat.reduceMul, Nat.reduceSub, Nat.not_lt_zero, Nat.add_left_cancel_iff, reduceIte, true_and, and_true, not_false_eq_true, not_true_eq_false, true_or, or_true, Bool.false_eq_true]
      have := h τ hf
      rw [show u = 10 by omega]
      exact this
    | succ m ih =>
      intro u τ x hu hf hz
      obtain ⟨a1, a2⟩ := hA u (by omega)
      rw [← hf.2 55 (by simp)] at a1
      have e9 : u * 30 + d = 30 * u + d := by omega
      have hbu := hb u (by omega)
      refine g_104_13 ?_
      simp only [vc_wi, vc_li, vc_ll, vc_lr, vc_i1, vc_i2, vc_l1, vc_l2, vc_il, vc_r1, vc_ri, vc_rii, vc_rx, vc_cp, vc_s1, vc_s2, vc_fg, vc_cm, vc_ald, vc_bld, vc_ast, vc_bst, vc_len, vc_gf, vc_pf, vc_cpy, vc_ct, List.getElem?_cons_zero, List.getElem?_cons_succ, List.set_cons_zero, List.set_cons_succ, List.take_succ_cons, List.take_zero, List.drop_succ_cons, List.drop_zero, List.reverse_cons, List.reverse_nil, List.nil_append, List.cons_append, Option.toList_some, Option.toList_none, List.map_cons, List.map_nil, List.sum_cons, List.sum_nil, List.length_cons, List.length_nil, Value.category, Nat.reduceEqDiff, Nat.reduceLeDiff, Nat.reduceAdd, reduceIte, true_and, and_true, B_104_13, rt_104, cls_0, fld_0_0, fld_0_1, fld_0_2, fld_0_3, fld_0_4, fld_0_5, fld_0_6, fld_0_7, fld_0_8, fld_0_9, fld_0_10, fld_0_11, fld_0_12, fld_0_13, fld_0_14, fld_0_15, fld_0_16, fld_0_17, fld_0_18, cls_1, fld_1_0, fld_1_1, arr_2, cls_3, fld_3_0, fld_3_1, arr_4, cls_5, fld_5_0, fld_5_1, fld_5_2, fld_5_3, arr_6, arr_7, cls_8, fld_8_0, fld_8_1, fld_8_2, fld_8_3, arr_9, arr_10, cls_11, fld_11_0, fld_11_1, fld_11_2, fld_11_3, arr_12, arr_13, arr_14, cls_15, fld_15_0, fld_15_1, fld_15_2, fld_15_3, fld_15_4, arr_16, arr_17, arr_18, arr_19, lay_20, cls_21, fld_21_0, fld_21_1, fld_21_2, fld_21_3, arr_22, cls_23, fld_23_0, fld_23_1, fld_23_2, fld_23_3, arr_24, cls_25, fld_25_0, fld_25_1, fld_25_2, fld_25_3, arr_26, cls_27, fld_27_0, fld_27_1, fld_27_2, fld_27_3, arr_28, cls_47, fld_47_0, fld_47_1, fld_47_2, fld_47_3, arr_48, arr_49, arr_50, cls_51, fld_51_0, cls_52, fld_52_0, fld_52_1, arr_53, arr_54, arr_55, arr_56]
      try simp (disch := omega) only [vc_brT, vc_brF, vc_anT, vc_brt, vc_brf, vc_ant, vn_n0, vn_in, vn_cl, vn_lt, vn_le, vn_eq, vn_sub, vn_div, vn_rem, vn_mod, vn_m1, vn_m1n, vn_m1p, nI_add, pk_mul, vc_sa_1, vc_sa_2, vc_sg_1, vc_sg_2, Nat.reduceEqDiff, Nat.reduceLeDiff, Nat.reduceAdd, Nat.reduceMul, Nat.reduceSub, Nat.not_lt_zero, Nat.add_left_cancel_iff, reduceIte, true_and, and_true, not_false_eq_true, not_true_eq_false, true_or, or_true, Bool.false_eq_true, e9, a1, vb_no, hbu]
      have g1 := zGr_le (c := c) (A := A) u
      have g2 := zCn_le (c := c) (A := A) (y := A u) u
      refine vc_br_i (fun q => ?_) (fun q => ?_)
      · have := ih (u + 1) τ (some (.int (nI (A u)))) (by omega) hf (fun y hy => by
          rw [hz y hy]
          show _ = nI (_ + if _ then _ else _)
          rw [if_neg (fun c => by rw [q] at c; cases c.1)]
          rfl)
        rw [show zGr c A (u + 1) = zGr c A u by rw [zGr_s, q]; rfl] at this
        refine g_104_76 ?_
        simp only [vc_wi, vc_li, vc_ll, vc_lr, vc_i1, vc_i2, vc_l1, vc_l2, vc_il, vc_r1, vc_ri, vc_rii, vc_rx, vc_cp, vc_s1, vc_s2, vc_fg, vc_cm, vc_ald, vc_bld, vc_ast, vc_bst, vc_len, vc_gf, vc_pf, vc_cpy, vc_ct, List.getElem?_cons_zero, List.getElem?_cons_succ, List.set_cons_zero, List.set_cons_succ, List.take_succ_cons, List.take_zero, List.drop_succ_cons, List.drop_zero, List.reverse_cons, List.reverse_nil, List.nil_append, List.cons_append, Option.toList_some, Option.toList_none, List.map_cons, List.map_nil, List.sum_cons, List.sum_nil, List.length_cons, List.length_nil, Value.category, Nat.reduceEqDiff, Nat.reduceLeDiff, Nat.reduceAdd, reduceIte, true_and, and_true, B_104_76, rt_104, cls_0, fld_0_0, fld_0_1, fld_0_2, fld_0_3, fld_0_4, fld_0_5, fld_0_6, fld_0_7, fld_0_8, fld_0_9, fld_0_10, fld_0_11, fld_0_12, fld_0_13, fld_0_14, fld_0_15, fld_0_16, fld_0_17, fld_0_18, cls_1, fld_1_0, fld_1_1, arr_2, cls_3, fld_3_0, fld_3_1, arr_4, cls_5, fld_5_0, fld_5_1, fld_5_2, fld_5_3, arr_6, arr_7, cls_8, fld_8_0, fld_8_1, fld_8_2, fld_8_3, arr_9, arr_10, cls_11, fld_11_0, fld_11_1, fld_11_2, fld_11_3, arr_12, arr_13, arr_14, cls_15, fld_15_0, fld_15_1, fld_15_2, fld_15_3, fld_15_4, arr_16, arr_17, arr_18, arr_19, lay_20, cls_21, fld_21_0, fld_21_1, fld_21_2, fld_21_3, arr_22, cls_23, fld_23_0, fld_23_1, fld_23_2, fld_23_3, arr_24, cls_25, fld_25_0, fld_25_1, fld_25_2, fld_25_3, arr_26, cls_27, fld_27_0, fld_27_1, fld_27_2, fld_27_3, arr_28, cls_47, fld_47_0, fld_47_1, fld_47_2, fld_47_3, arr_48, arr_49, arr_50, cls_51, fld_51_0, cls_52, fld_52_0, fld_52_1, arr_53, arr_54, arr_55, arr_56]
        try simp (disch := omega) only [vc_brT, vc_brF, vc_anT, vc_brt, vc_brf, vc_ant, vn_n0, vn_in, vn_cl, vn_lt, vn_le, vn_eq, vn_sub, vn_div, vn_rem, vn_mod, vn_m1, vn_m1n, vn_m1p, nI_add, pk_mul, vc_sa_1, vc_sa_2, vc_sg_1, vc_sg_2, Nat.reduceEqDiff, Nat.reduceLeDiff, Nat.reduceAdd, Nat.reduceMul, Nat.reduceSub, Nat.not_lt_zero, Nat.add_left_cancel_iff, reduceIte, true_and, and_true, not_false_eq_true, not_true_eq_false, true_or, or_true, Bool.false_eq_true]
        exact this
      · have hc : c u = true := by simpa using q
        refine ct_within (by omega) ?_
        rw [show zlt (nI (A u)) (30 + 1) = true by rw [zlt_nI (by omega) (by omega)]; exact decide_eq_true (by omega)]
        have z1 := hz (A u) a2
        have e3 : zCn c A (A u) (u + 1) = zCn c A (A u) u + 1 := by
          show _ + (if _ then _ else _) = _
          rw [if_pos ⟨hc, rfl⟩]
        have := ih (u + 1) (vc_sa τ 56 (upd (τ.2 56) (A u) (nI (zCn c A (A u) u + 1)))) (some (.int (nI (A u)))) (by omega) (hf.sa (by simp)) (fun y hy => by
          rw [vc_sa_2, if_pos rfl]
          unfold upd
          by_cases ey : y = A u
          · rw [if_pos ey, ey, e3]
          · rw [if_neg ey, hz y hy]
            show _ = nI (_ + if _ then _ else _)
            rw [if_neg (fun c => ey c.2.symm)]
            rfl)
        rw [show zGr c A (u + 1) = max (zGr c A u) (zCn c A (A u) u + 1) by rw [zGr_s, if_pos hc, e3]] at this
        simp only [vc_wi, vc_li, vc_ll, vc_lr, vc_i1, vc_i2, vc_l1, vc_l2, vc_il, vc_r1, vc_ri, vc_rii, vc_rx, vc_cp, vc_s1, vc_s2, vc_fg, vc_cm, vc_ald, vc_bld, vc_ast, vc_bst, vc_len, vc_gf, vc_pf, vc_cpy, vc_ct, List.getElem?_cons_zero, List.getElem?_cons_succ, List.set_cons_zero, List.set_cons_succ, List.take_succ_cons, List.take_zero, List.drop_succ_cons, List.drop_zero, List.reverse_cons, List.reverse_nil, List.nil_append, List.cons_append, Option.toList_some, Option.toList_none, List.map_cons, List.map_nil, List.sum_cons, List.sum_nil, List.length_cons, List.length_nil, Value.category, Nat.reduceEqDiff, Nat.reduceLeDiff, Nat.reduceAdd, reduceIte, true_and, and_true, rt_104, cls_0, fld_0_0, fld_0_1, fld_0_2, fld_0_3, fld_0_4, fld_0_5, fld_0_6, fld_0_7, fld_0_8, fld_0_9, fld_0_10, fld_0_11, fld_0_12, fld_0_13, fld_0_14, fld_0_15, fld_0_16, fld_0_17, fld_0_18, cls_1, fld_1_0, fld_1_1, arr_2, cls_3, fld_3_0, fld_3_1, arr_4, cls_5, fld_5_0, fld_5_1, fld_5_2, fld_5_3, arr_6, arr_7, cls_8, fld_8_0, fld_8_1, fld_8_2, fld_8_3, arr_9, arr_10, cls_11, fld_11_0, fld_11_1, fld_11_2, fld_11_3, arr_12, arr_13, arr_14, cls_15, fld_15_0, fld_15_1, fld_15_2, fld_15_3, fld_15_4, arr_16, arr_17, arr_18, arr_19, lay_20, cls_21, fld_21_0, fld_21_1, fld_21_2, fld_21_3, arr_22, cls_23, fld_23_0, fld_23_1, fld_23_2, fld_23_3, arr_24, cls_25, fld_25_0, fld_25_1, fld_25_2, fld_25_3, arr_26, cls_27, fld_27_0, fld_27_1, fld_27_2, fld_27_3, arr_28, cls_47, fld_47_0, fld_47_1, fld_47_2, fld_47_3, arr_48, arr_49, arr_50, cls_51, fld_51_0, cls_52, fld_52_0, fld_52_1, arr_53, arr_54, arr_55, arr_56]
        try simp (disch := omega) only [vc_brT, vc_brF, vc_anT, vc_brt, vc_brf, vc_ant, vn_n0, vn_in, vn_cl, vn_lt, vn_le, vn_eq, vn_sub, vn_div, vn_rem, vn_mod, vn_m1, vn_m1n, vn_m1p, nI_add, pk_mul, vc_sa_1, vc_sa_2, vc_sg_1, vc_sg_2, Nat.reduceEqDiff, Nat.reduceLeDiff, Nat.reduceAdd, Nat.reduceMul, Nat.reduceSub, Nat.not_lt_zero, Nat.add_left_cancel_iff, reduceIte, true_and, and_true, not_false_eq_true, not_true_eq_false, true_or, or_true, Bool.false_eq_true, zb_t, z1]
        refine g_104_76 ?_
        simp only [vc_wi, vc_li, vc_ll, vc_lr, vc_i1, vc_i2, vc_l1, vc_l2, vc_il, vc_r1, vc_ri, vc_rii, vc_rx, vc_cp, vc_s1, vc_s2, vc_fg, vc_cm, vc_ald, vc_bld, vc_ast, vc_bst, vc_len, vc_gf, vc_pf, vc_cpy, vc_ct, List.getElem?_cons_zero, List.getElem?_cons_succ, List.set_cons_zero, List.set_cons_succ, List.take_succ_cons, List.take_zero, List.drop_succ_cons, List.drop_zero, List.reverse_cons, List.reverse_nil, List.nil_append, List.cons_append, Option.toList_some, Option.toList_none, List.map_cons, List.map_nil, List.sum_cons, List.sum_nil, List.length_cons, List.length_nil, Value.category, Nat.reduceEqDiff, Nat.reduceLeDiff, Nat.reduceAdd, reduceIte, true_and, and_true, B_104_76, rt_104, cls_0, fld_0_0, fld_0_1, fld_0_2, fld_0_3, fld_0_4, fld_0_5, fld_0_6, fld_0_7, fld_0_8, fld_0_9, fld_0_10, fld_0_11, fld_0_12, fld_0_13, fld_0_14, fld_0_15, fld_0_16, fld_0_17, fld_0_18, cls_1, fld_1_0, fld_1_1, arr_2, cls_3, fld_3_0, fld_3_1, arr_4, cls_5, fld_5_0, fld_5_1, fld_5_2, fld_5_3, arr_6, arr_7, cls_8, fld_8_0, fld_8_1, fld_8_2, fld_8_3, arr_9, arr_10, cls_11, fld_11_0, fld_11_1, fld_11_2, fld_11_3, arr_12, arr_13, arr_14, cls_15, fld_15_0, fld_15_1, fld_15_2, fld_15_3, fld_15_4, arr_16, arr_17, arr_18, arr_19, lay_20, cls_21, fld_21_0, fld_21_1, fld_21_2, fld_21_3, arr_22, cls_23, fld_23_0, fld_23_1, fld_23_2, fld_23_3, arr_24, cls_25, fld_25_0, fld_25_1, fld_25_2, fld_25_3, arr_26, cls_27, fld_27_0, fld_27_1, fld_27_2, fld_27_3, arr_28, cls_47, fld_47_0, fld_47_1, fld_47_2, fld_47_3, arr_48, arr_49, arr_50, cls_51, fld_51_0, cls_52, fld_52_0, fld_52_1, arr_53, arr_54, arr_55, arr_56]
        try simp (disch := omega) only [vc_brT, vc_brF, vc_anT, vc_brt, vc_brf, vc_ant, vn_n0, vn_in, vn_cl, vn_lt, vn_le, vn_eq, vn_sub, vn_div, vn_rem, vn_mod, vn_m1, vn_m1n, vn_m1p, nI_add, pk_mul, vc_sa_1, vc_sa_2, vc_sg_1, vc_sg_2, Nat.reduceEqDiff, Nat.reduceLeDiff, Nat.reduceAdd, Nat.reduceMul, Nat.reduceSub, Nat.not_lt_zero, Nat.add_left_cancel_iff, reduceIte, true_and, and_true, not_false_eq_true, not_true_eq_false, true_or, or_true, Bool.false_eq_true]
        rw [upd_k, mx_eq (by omega) (by omega)]
        exact this
  refine vc_C_of (ls0 := [some (.ref 0), some (.int (nI d)), some (.int bits), none, none, none]) hk_104 (Nat.le_of_ble_eq_true rfl) rfl ?_
  refine g_104_0 ?_
  simp only [vc_wi, vc_li, vc_ll, vc_lr, vc_i1, vc_i2, vc_l1, vc_l2, vc_il, vc_r1, vc_ri, vc_rii, vc_rx, vc_cp, vc_s1, vc_s2, vc_fg, vc_cm, vc_ald, vc_bld, vc_ast, vc_bst, vc_len, vc_gf, vc_pf, vc_cpy, vc_ct, List.getElem?_cons_zero, List.getElem?_cons_succ, List.set_cons_zero, List.set_cons_succ, List.take_succ_cons, List.take_zero, List.drop_succ_cons, List.drop_zero, List.reverse_cons, List.reverse_nil, List.nil_append, List.cons_append, Option.toList_some, Option.toList_none, List.map_cons, List.map_nil, List.sum_cons, List.sum_nil, List.length_cons, List.length_nil, Value.category, Nat.reduceEqDiff, Nat.reduceLeDiff, Nat.reduceAdd, reduceIte, true_and, and_true, B_104_0, rt_104, cls_0, fld_0_0, fld_0_1, fld_0_2, fld_0_3, fld_0_4, fld_0_5, fld_0_6, fld_0_7, fld_0_8, fld_0_9, fld_0_10, fld_0_11, fld_0_12, fld_0_13, fld_0_14, fld_0_15, fld_0_16, fld_0_17, fld_0_18, cls_1, fld_1_0, fld_1_1, arr_2, cls_3, fld_3_0, fld_3_1, arr_4, cls_5, fld_5_0, fld_5_1, fld_5_2, fld_5_3, arr_6, arr_7, cls_8, fld_8_0, fld_8_1, fld_8_2, fld_8_3, arr_9, arr_10, cls_11, fld_11_0, fld_11_1, fld_11_2, fld_11_3, arr_12, arr_13, arr_14, cls_15, fld_15_0, fld_15_1, fld_15_2, fld_15_3, fld_15_4, arr_16, arr_17, arr_18, arr_19, lay_20, cls_21, fld_21_0, fld_21_1, fld_21_2, fld_21_3, arr_22, cls_23, fld_23_0, fld_23_1, fld_23_2, fld_23_3, arr_24, cls_25, fld_25_0, fld_25_1, fld_25_2, fld_25_3, arr_26, cls_27, fld_27_0, fld_27_1, fld_27_2, fld_27_3, arr_28, cls_47, fld_47_0, fld_47_1, fld_47_2, fld_47_3, arr_48, arr_49, arr_50, cls_51, fld_51_0, cls_52, fld_52_0, fld_52_1, arr_53, arr_54, arr_55, arr_56]
  try simp (disch := omega) only [vc_brT, vc_brF, vc_anT, vc_brt, vc_brf, vc_ant, vn_n0, vn_in, vn_cl, vn_lt, vn_le, vn_eq, vn_sub, vn_div, vn_rem, vn_mod, vn_m1, vn_m1n, vn_m1p, nI_add, pk_mul, vc_sa_1, vc_sa_2, vc_sg_1, vc_sg_2, Nat.reduceEqDiff, Nat.reduceLeDiff, Nat.reduceAdd, Nat.reduceMul, Nat.reduceSub, Nat.not_lt_zero, Nat.add_left_cancel_iff, reduceIte, true_and, and_true, not_false_eq_true, not_true_eq_false, true_or, or_true, Bool.false_eq_true]
  refine ct_fill (n := 31) rfl (by omega) (by omega) ?_
  simp only [vc_wi, vc_li, vc_ll, vc_lr, vc_i1, vc_i2, vc_l1, vc_l2, vc_il, vc_r1, vc_ri, vc_rii, vc_rx, vc_cp, vc_s1, vc_s2, vc_fg, vc_cm, vc_ald, vc_bld, vc_ast, vc_bst, vc_len, vc_gf, vc_pf, vc_cpy, vc_ct, List.getElem?_cons_zero, List.getElem?_cons_succ, List.set_cons_zero, List.set_cons_succ, List.take_succ_cons, List.take_zero, List.drop_succ_cons, List.drop_zero, List.reverse_cons, List.reverse_nil, List.nil_append, List.cons_append, Option.toList_some, Option.toList_none, List.map_cons, List.map_nil, List.sum_cons, List.sum_nil, List.length_cons, List.length_nil, Value.category, Nat.reduceEqDiff, Nat.reduceLeDiff, Nat.reduceAdd, reduceIte, true_and, and_true, rt_104, cls_0, fld_0_0, fld_0_1, fld_0_2, fld_0_3, fld_0_4, fld_0_5, fld_0_6, fld_0_7, fld_0_8, fld_0_9, fld_0_10, fld_0_11, fld_0_12, fld_0_13, fld_0_14, fld_0_15, fld_0_16, fld_0_17, fld_0_18, cls_1, fld_1_0, fld_1_1, arr_2, cls_3, fld_3_0, fld_3_1, arr_4, cls_5, fld_5_0, fld_5_1, fld_5_2, fld_5_3, arr_6, arr_7, cls_8, fld_8_0, fld_8_1, fld_8_2, fld_8_3, arr_9, arr_10, cls_11, fld_11_0, fld_11_1, fld_11_2, fld_11_3, arr_12, arr_13, arr_14, cls_15, fld_15_0, fld_15_1, fld_15_2, fld_15_3, fld_15_4, arr_16, arr_17, arr_18, arr_19, lay_20, cls_21, fld_21_0, fld_21_1, fld_21_2, fld_21_3, arr_22, cls_23, fld_23_0, fld_23_1, fld_23_2, fld_23_3, arr_24, cls_25, fld_25_0, fld_25_1, fld_25_2, fld_25_3, arr_26, cls_27, fld_27_0, fld_27_1, fld_27_2, fld_27_3, arr_28, cls_47, fld_47_0, fld_47_1, fld_47_2, fld_47_3, arr_48, arr_49, arr_50, cls_51, fld_51_0, cls_52, fld_52_0, fld_52_1, arr_53, arr_54, arr_55, arr_56]
  try simp (disch := omega) only [vc_brT, vc_brF, vc_anT, vc_brt, vc_brf, vc_ant, vn_n0, vn_in, vn_cl, vn_lt, vn_le, vn_eq, vn_sub, vn_div, vn_rem, vn_mod, vn_m1, vn_m1n, vn_m1p, nI_add, pk_mul, vc_sa_1, vc_sa_2, vc_sg_1, vc_sg_2, Nat.reduceEqDiff, Nat.reduceLeDiff, Nat.reduceAdd, Nat.reduceMul, Nat.reduceSub, Nat.not_lt_zero, Nat.add_left_cancel_iff, reduceIte, true_and, and_true, not_false_eq_true, not_true_eq_false, true_or, or_true, Bool.false_eq_true]
  refine lp 10 0 _ _ (by omega) (vc_fr.rf.sa (by simp)) (fun y hy => ?_)
  rw [vc_sa_2, if_pos rfl, if_pos (by omega)]
  rfl
set_option maxHeartbeats 400000 in
set_option maxRecDepth 100000 in
theorem ct_dayToAsk {K : vc_K} {bits : Int32} {c : Nat → Bool} {A : Nat → Nat → Nat} {σ : vc_S} {Q : Option Value → vc_S → Prop} (hb : ∀ u, u < 10 → bt bits u = c u) (hA : ∀ u, u < 10 → ∀ d, d < 30 → σ.2 55 (30 * u + d) = nI (A u d) ∧ A u d ≤ 30) (h : ∀ τ, vc_fr [56] σ τ → Q (some (.int (vE ((zMn (fun d => zGr c (fun v => A v d) 10) 0 30 none).map (fun r => r.1))))) τ) : vc_C K 103 [.ref 0, .int bits] σ Q := by
  have lp : ∀ (m d : Nat) (o : Option (Nat × Nat)) (day least : Int32) (τ : vc_S) (x : Option Value), d + m = 30 → vc_fr [56] σ τ → ((o = none ∧ d = 0 ∧ day = nI 0 ∧ least = nI 11) ∨ ∃ r : Nat × Nat, o = some r ∧ r.2 ≤ 10 ∧ day = nI r.1 ∧ least = nI r.2) → zMn (fun d => zGr c (fun v => A v d) 10) 0 30 none = zMn (fun d => zGr c (fun v => A v d) 10) d m o → vc_G K 103 8 [some (.ref 0), some (.int bits), some (.int day), some (.int least), some (.int (nI d)), x] [] τ Q := by
    intro m
    induction m with
    | zero =>
      intro d o day least τ x hd hf ho he
      refine g_103_8 ?_
      simp only [vc_wi, vc_li, vc_ll, vc_lr, vc_i1, vc_i2, vc_l1, vc_l2, vc_il, vc_r1, vc_ri, vc_rii, vc_rx, vc_cp, vc_s1, vc_s2, vc_fg, vc_cm, vc_ald, vc_bld, vc_ast, vc_bst, vc_len, vc_gf, vc_pf, vc_cpy, vc_ct, List.getElem?_cons_zero, List.getElem?_cons_succ, List.set_cons_zero, List.set_cons_succ, List.take_succ_cons, List.take_zero, List.drop_succ_cons, List.drop_zero, List.reverse_cons, List.reverse_nil, List.nil_append, List.cons_append, Option.toList_some, Option.toList_none, List.map_cons, List.map_nil, List.sum_cons, List.sum_nil, List.length_cons, List.length_nil, Value.category, Nat.reduceEqDiff, Nat.reduceLeDiff, Nat.reduceAdd, reduceIte, true_and, and_true, B_103_8, rt_103, cls_0, fld_0_0, fld_0_1, fld_0_2, fld_0_3, fld_0_4, fld_0_5, fld_0_6, fld_0_7, fld_0_8, fld_0_9, fld_0_10, fld_0_11, fld_0_12, fld_0_13, fld_0_14, fld_0_15, fld_0_16, fld_0_17, fld_0_18, cls_1, fld_1_0, fld_1_1, arr_2, cls_3, fld_3_0, fld_3_1, arr_4, cls_5, fld_5_0, fld_5_1, fld_5_2, fld_5_3, arr_6, arr_7, cls_8, fld_8_0, fld_8_1, fld_8_2, fld_8_3, arr_9, arr_10, cls_11, fld_11_0, fld_11_1, fld_11_2, fld_11_3, arr_12, arr_13, arr_14, cls_15, fld_15_0, fld_15_1, fld_15_2, fld_15_3, fld_15_4, arr_16, arr_17, arr_18, arr_19, lay_20, cls_21, fld_21_0, fld_21_1, fld_21_2, fld_21_3, arr_22, cls_23, fld_23_0, fld_23_1, fld_23_2, fld_23_3, arr_24, cls_25, fld_25_0, fld_25_1, fld_25_2, fld_25_3, arr_26, cls_27, fld_27_0, fld_27_1, fld_27_2, fld_27_3, arr_28, cls_47, fld_47_0, fld_47_1, fld_47_2, fld_47_3, arr_48, arr_49, arr_50, cls_51, fld_51_0, cls_52, fld_52_0, fld_52_1, arr_53, arr_54, arr_55, arr_56]
      try simp (disch := omega) only [vc_brT, vc_brF, vc_anT, vc_brt, vc_brf, vc_ant, vn_n0, vn_in, vn_cl, vn_lt, vn_le, vn_eq, vn_sub, vn_div, vn_rem, vn_mod, vn_m1, vn_m1n, vn_m1p, nI_add, pk_mul, vc_sa_1, vc_sa_2, vc_sg_1, vc_sg_2, Nat.reduceEqDiff, Nat.reduceLeDiff, Nat.reduceAdd, Nat.reduceMul, Nat.reduceSub, Nat.not_lt_zero, Nat.add_left_cancel_iff, reduceIte, true_and, and_true, not_false_eq_true, not_true_eq_false, true_or, or_true, Bool.false_eq_true]
      refine g_103_42 ?_
      simp only [vc_wi, vc_li, vc_ll, vc_lr, vc_i1, vc_i2, vc_l1, vc_l2, vc_il, vc_r1, vc_ri, vc_rii, vc_rx, vc_cp, vc_s1, vc_s2, vc_fg, vc_cm, vc_ald, vc_bld, vc_ast, vc_bst, vc_len, vc_gf, vc_pf, vc_cpy, vc_ct, List.getElem?_cons_zero, List.getElem?_cons_succ, List.set_cons_zero, List.set_cons_succ, List.take_succ_cons, List.take_zero, List.drop_succ_cons, List.drop_zero, List.reverse_cons, List.reverse_nil, List.nil_append, List.cons_append, Option.toList_some, Option.toList_none, List.map_cons, List.map_nil, List.sum_cons, List.sum_nil, List.length_cons, List.length_nil, Value.category, Nat.reduceEqDiff, Nat.reduceLeDiff, Nat.reduceAdd, reduceIte, true_and, and_true, B_103_42, rt_103, cls_0, fld_0_0, fld_0_1, fld_0_2, fld_0_3, fld_0_4, fld_0_5, fld_0_6, fld_0_7, fld_0_8, fld_0_9, fld_0_10, fld_0_11, fld_0_12, fld_0_13, fld_0_14, fld_0_15, fld_0_16, fld_0_17, fld_0_18, cls_1, fld_1_0, fld_1_1, arr_2, cls_3, fld_3_0, fld_3_1, arr_4, cls_5, fld_5_0, fld_5_1, fld_5_2, fld_5_3, arr_6, arr_7, cls_8, fld_8_0, fld_8_1, fld_8_2, fld_8_3, arr_9, arr_10, cls_11, fld_11_0, fld_11_1, fld_11_2, fld_11_3, arr_12, arr_13, arr_14, cls_15, fld_15_0, fld_15_1, fld_15_2, fld_15_3, fld_15_4, arr_16, arr_17, arr_18, arr_19, lay_20, cls_21, fld_21_0, fld_21_1, fld_21_2, fld_21_3, arr_22, cls_23, fld_23_0, fld_23_1, fld_23_2, fld_23_3, arr_24, cls_25, fld_25_0, fld_25_1, fld_25_2, fld_25_3, arr_26, cls_27, fld_27_0, fld_27_1, fld_27_2, fld_27_3, arr_28, cls_47, fld_47_0, fld_47_1, fld_47_2, fld_47_3, arr_48, arr_49, arr_50, cls_51, fld_51_0, cls_52, fld_52_0, fld_52_1, arr_53, arr_54, arr_55, arr_56]
      try simp (disch := omega) only [vc_brT, vc_brF, vc_anT, vc_brt, vc_brf, vc_ant, vn_n0, vn_in, vn_cl, vn_lt, vn_le, vn_eq, vn_sub, vn_div, vn_rem, vn_mod, vn_m1, vn_m1n, vn_m1p, nI_add, pk_mul, vc_sa_1, vc_sa_2, vc_sg_1, vc_sg_2, Nat.reduceEqDiff, Nat.reduceLeDiff, Nat.reduceAdd, Nat.reduceMul, Nat.reduceSub, Nat.not_lt_zero, Nat.add_left_cancel_iff, reduceIte, true_and, and_true, not_false_eq_true, not_true_eq_false, true_or, or_true, Bool.false_eq_true]
      have := h τ hf
      rw [he] at this
      rcases ho with ⟨-, h0, -⟩ | ⟨r, rfl, -, rfl, -⟩
      · omega
      · exact this
    | succ m ih =>
      intro d o day least τ x hd hf ho he
      refine g_103_8 ?_
      simp only [vc_wi, vc_li, vc_ll, vc_lr, vc_i1, vc_i2, vc_l1, vc_l2, vc_il, vc_r1, vc_ri, vc_rii, vc_rx, vc_cp, vc_s1, vc_s2, vc_fg, vc_cm, vc_ald, vc_bld, vc_ast, vc_bst, vc_len, vc_gf, vc_pf, vc_cpy, vc_ct, List.getElem?_cons_zero, List.getElem?_cons_succ, List.set_cons_zero, List.set_cons_succ, List.take_succ_cons, List.take_zero, List.drop_succ_cons, List.drop_zero, List.reverse_cons, List.reverse_nil, List.nil_append, List.cons_append, Option.toList_some, Option.toList_none, List.map_cons, List.map_nil, List.sum_cons, List.sum_nil, List.length_cons, List.length_nil, Value.category, Nat.reduceEqDiff, Nat.reduceLeDiff, Nat.reduceAdd, reduceIte, true_and, and_true, B_103_8, rt_103, cls_0, fld_0_0, fld_0_1, fld_0_2, fld_0_3, fld_0_4, fld_0_5, fld_0_6, fld_0_7, fld_0_8, fld_0_9, fld_0_10, fld_0_11, fld_0_12, fld_0_13, fld_0_14, fld_0_15, fld_0_16, fld_0_17, fld_0_18, cls_1, fld_1_0, fld_1_1, arr_2, cls_3, fld_3_0, fld_3_1, arr_4, cls_5, fld_5_0, fld_5_1, fld_5_2, fld_5_3, arr_6, arr_7, cls_8, fld_8_0, fld_8_1, fld_8_2, fld_8_3, arr_9, arr_10, cls_11, fld_11_0, fld_11_1, fld_11_2, fld_11_3, arr_12, arr_13, arr_14, cls_15, fld_15_0, fld_15_1, fld_15_2, fld_15_3, fld_15_4, arr_16, arr_17, arr_18, arr_19, lay_20, cls_21, fld_21_0, fld_21_1, fld_21_2, fld_21_3, arr_22, cls_23, fld_23_0, fld_23_1, fld_23_2, fld_23_3, arr_24, cls_25, fld_25_0, fld_25_1, fld_25_2, fld_25_3, arr_26, cls_27, fld_27_0, fld_27_1, fld_27_2, fld_27_3, arr_28, cls_47, fld_47_0, fld_47_1, fld_47_2, fld_47_3, arr_48, arr_49, arr_50, cls_51, fld_51_0, cls_52, fld_52_0, fld_52_1, arr_53, arr_54, arr_55, arr_56]
      try simp (disch := omega) only [vc_brT, vc_brF, vc_anT, vc_brt, vc_brf, vc_ant, vn_n0, vn_in, vn_cl, vn_lt, vn_le, vn_eq, vn_sub, vn_div, vn_rem, vn_mod, vn_m1, vn_m1n, vn_m1p, nI_add, pk_mul, vc_sa_1, vc_sa_2, vc_sg_1, vc_sg_2, Nat.reduceEqDiff, Nat.reduceLeDiff, Nat.reduceAdd, Nat.reduceMul, Nat.reduceSub, Nat.not_lt_zero, Nat.add_left_cancel_iff, reduceIte, true_and, and_true, not_false_eq_true, not_true_eq_false, true_or, or_true, Bool.false_eq_true]
      refine ct_greatestAlike (A := fun v => A v d) (by omega) hb (fun u hu => by rw [hf.2 55 (by simp)]; exact hA u hu d (by omega)) ?_
      intro υ f2
      have g1 := zGr_le (c := c) (A := fun v => A v d) 10
      have go : ∀ (day least : Int32) (o2 : Option (Nat × Nat)), zLo o d (zGr c (fun v => A v d) 10) = o2 → (∃ r : Nat × Nat, o2 = some r ∧ r.2 ≤ 10 ∧ day = nI r.1 ∧ least = nI r.2) → vc_G K 103 36 [some (.ref 0), some (.int bits), some (.int day), some (.int least), some (.int (nI d)), some (.int (nI (zGr c (fun v => A v d) 10)))] [] υ Q := by
        intro day least o2 e2 h2
        refine g_103_36 ?_
        simp only [vc_wi, vc_li, vc_ll, vc_lr, vc_i1, vc_i2, vc_l1, vc_l2, vc_il, vc_r1, vc_ri, vc_rii, vc_rx, vc_cp, vc_s1, vc_s2, vc_fg, vc_cm, vc_ald, vc_bld, vc_ast, vc_bst, vc_len, vc_gf, vc_pf, vc_cpy, vc_ct, List.getElem?_cons_zero, List.getElem?_cons_succ, List.set_cons_zero, List.set_cons_succ, List.take_succ_cons, List.take_zero, List.drop_succ_cons, List.drop_zero, List.reverse_cons, List.reverse_nil, List.nil_append, List.cons_append, Option.toList_some, Option.toList_none, List.map_cons, List.map_nil, List.sum_cons, List.sum_nil, List.length_cons, List.length_nil, Value.category, Nat.reduceEqDiff, Nat.reduceLeDiff, Nat.reduceAdd, reduceIte, true_and, and_true, B_103_36, rt_103, cls_0, fld_0_0, fld_0_1, fld_0_2, fld_0_3, fld_0_4, fld_0_5, fld_0_6, fld_0_7, fld_0_8, fld_0_9, fld_0_10, fld_0_11, fld_0_12, fld_0_13, fld_0_14, fld_0_15, fld_0_16, fld_0_17, fld_0_18, cls_1, fld_1_0, fld_1_1, arr_2, cls_3, fld_3_0, fld_3_1, arr_4, cls_5, fld_5_0, fld_5_1, fld_5_2, fld_5_3, arr_6, arr_7, cls_8, fld_8_0, fld_8_1, fld_8_2, fld_8_3, arr_9, arr_10, cls_11, fld_11_0, fld_11_1, fld_11_2, fld_11_3, arr_12, arr_13, arr_14, cls_15, fld_15_0, fld_15_1, fld_15_2, fld_15_3, fld_15_4, arr_16, arr_17, arr_18, arr_19, lay_20, cls_21, fld_21_0, fld_21_1, fld_21_2, fld_21_3, arr_22, cls_23, fld_23_0, fld_23_1, fld_23_2, fld_23_3, arr_24, cls_25, fld_25_0, fld_25_1, fld_25_2, fld_25_3, arr_26, cls_27, fld_27_0, fld_27_1, fld_27_2, fld_27_3, arr_28, cls_47, fld_47_0, fld_47_1, fld_47_2, fld_47_3, arr_48, arr_49, arr_50, cls_51, fld_51_0, cls_52, fld_52_0, fld_52_1, arr_53, arr_54, arr_55, arr_56]
        try simp (disch := omega) only [vc_brT, vc_brF, vc_anT, vc_brt, vc_brf, vc_ant, vn_n0, vn_in, vn_cl, vn_lt, vn_le, vn_eq, vn_sub, vn_div, vn_rem, vn_mod, vn_m1, vn_m1n, vn_m1p, nI_add, pk_mul, vc_sa_1, vc_sa_2, vc_sg_1, vc_sg_2, Nat.reduceEqDiff, Nat.reduceLeDiff, Nat.reduceAdd, Nat.reduceMul, Nat.reduceSub, Nat.not_lt_zero, Nat.add_left_cancel_iff, reduceIte, true_and, and_true, not_false_eq_true, not_true_eq_false, true_or, or_true, Bool.false_eq_true]
        exact ih (d + 1) o2 day least υ _ (by omega) (hf.tr f2) (Or.inr h2) (by rw [he, ← e2]; rfl)
      rcases ho with ⟨rfl, h0, rfl, rfl⟩ | ⟨r, rfl, h2, rfl, rfl⟩
      · simp only [vc_wi, vc_li, vc_ll, vc_lr, vc_i1, vc_i2, vc_l1, vc_l2, vc_il, vc_r1, vc_ri, vc_rii, vc_rx, vc_cp, vc_s1, vc_s2, vc_fg, vc_cm, vc_ald, vc_bld, vc_ast, vc_bst, vc_len, vc_gf, vc_pf, vc_cpy, vc_ct, List.getElem?_cons_zero, List.getElem?_cons_succ, List.set_cons_zero, List.set_cons_succ, List.take_succ_cons, List.take_zero, List.drop_succ_cons, List.drop_zero, List.reverse_cons, List.reverse_nil, List.nil_append, List.cons_append, Option.toList_some, Option.toList_none, List.map_cons, List.map_nil, List.sum_cons, List.sum_nil, List.length_cons, List.length_nil, Value.category, Nat.reduceEqDiff, Nat.reduceLeDiff, Nat.reduceAdd, reduceIte, true_and, and_true, rt_103, cls_0, fld_0_0, fld_0_1, fld_0_2, fld_0_3, fld_0_4, fld_0_5, fld_0_6, fld_0_7, fld_0_8, fld_0_9, fld_0_10, fld_0_11, fld_0_12, fld_0_13, fld_0_14, fld_0_15, fld_0_16, fld_0_17, fld_0_18, cls_1, fld_1_0, fld_1_1, arr_2, cls_3, fld_3_0, fld_3_1, arr_4, cls_5, fld_5_0, fld_5_1, fld_5_2, fld_5_3, arr_6, arr_7, cls_8, fld_8_0, fld_8_1, fld_8_2, fld_8_3, arr_9, arr_10, cls_11, fld_11_0, fld_11_1, fld_11_2, fld_11_3, arr_12, arr_13, arr_14, cls_15, fld_15_0, fld_15_1, fld_15_2, fld_15_3, fld_15_4, arr_16, arr_17, arr_18, arr_19, lay_20, cls_21, fld_21_0, fld_21_1, fld_21_2, fld_21_3, arr_22, cls_23, fld_23_0, fld_23_1, fld_23_2, fld_23_3, arr_24, cls_25, fld_25_0, fld_25_1, fld_25_2, fld_25_3, arr_26, cls_27, fld_27_0, fld_27_1, fld_27_2, fld_27_3, arr_28, cls_47, fld_47_0, fld_47_1, fld_47_2, fld_47_3, arr_48, arr_49, arr_50, cls_51, fld_51_0, cls_52, fld_52_0, fld_52_1, arr_53, arr_54, arr_55, arr_56]
        try simp (disch := omega) only [vc_brT, vc_brF, vc_anT, vc_brt, vc_brf, vc_ant, vn_n0, vn_in, vn_cl, vn_lt, vn_le, vn_eq, vn_sub, vn_div, vn_rem, vn_mod, vn_m1, vn_m1n, vn_m1p, nI_add, pk_mul, vc_sa_1, vc_sa_2, vc_sg_1, vc_sg_2, Nat.reduceEqDiff, Nat.reduceLeDiff, Nat.reduceAdd, Nat.reduceMul, Nat.reduceSub, Nat.not_lt_zero, Nat.add_left_cancel_iff, reduceIte, true_and, and_true, not_false_eq_true, not_true_eq_false, true_or, or_true, Bool.false_eq_true]
        exact go _ _ _ rfl ⟨_, rfl, g1, rfl, rfl⟩
      · simp only [vc_wi, vc_li, vc_ll, vc_lr, vc_i1, vc_i2, vc_l1, vc_l2, vc_il, vc_r1, vc_ri, vc_rii, vc_rx, vc_cp, vc_s1, vc_s2, vc_fg, vc_cm, vc_ald, vc_bld, vc_ast, vc_bst, vc_len, vc_gf, vc_pf, vc_cpy, vc_ct, List.getElem?_cons_zero, List.getElem?_cons_succ, List.set_cons_zero, List.set_cons_succ, List.take_succ_cons, List.take_zero, List.drop_succ_cons, List.drop_zero, List.reverse_cons, List.reverse_nil, List.nil_append, List.cons_append, Option.toList_some, Option.toList_none, List.map_cons, List.map_nil, List.sum_cons, List.sum_nil, List.length_cons, List.length_nil, Value.category, Nat.reduceEqDiff, Nat.reduceLeDiff, Nat.reduceAdd, reduceIte, true_and, and_true, rt_103, cls_0, fld_0_0, fld_0_1, fld_0_2, fld_0_3, fld_0_4, fld_0_5, fld_0_6, fld_0_7, fld_0_8, fld_0_9, fld_0_10, fld_0_11, fld_0_12, fld_0_13, fld_0_14, fld_0_15, fld_0_16, fld_0_17, fld_0_18, cls_1, fld_1_0, fld_1_1, arr_2, cls_3, fld_3_0, fld_3_1, arr_4, cls_5, fld_5_0, fld_5_1, fld_5_2, fld_5_3, arr_6, arr_7, cls_8, fld_8_0, fld_8_1, fld_8_2, fld_8_3, arr_9, arr_10, cls_11, fld_11_0, fld_11_1, fld_11_2, fld_11_3, arr_12, arr_13, arr_14, cls_15, fld_15_0, fld_15_1, fld_15_2, fld_15_3, fld_15_4, arr_16, arr_17, arr_18, arr_19, lay_20, cls_21, fld_21_0, fld_21_1, fld_21_2, fld_21_3, arr_22, cls_23, fld_23_0, fld_23_1, fld_23_2, fld_23_3, arr_24, cls_25, fld_25_0, fld_25_1, fld_25_2, fld_25_3, arr_26, cls_27, fld_27_0, fld_27_1, fld_27_2, fld_27_3, arr_28, cls_47, fld_47_0, fld_47_1, fld_47_2, fld_47_3, arr_48, arr_49, arr_50, cls_51, fld_51_0, cls_52, fld_52_0, fld_52_1, arr_53, arr_54, arr_55, arr_56]
        try simp (disch := omega) only [vc_brT, vc_brF, vc_anT, vc_brt, vc_brf, vc_ant, vn_n0, vn_in, vn_cl, vn_lt, vn_le, vn_eq, vn_sub, vn_div, vn_rem, vn_mod, vn_m1, vn_m1n, vn_m1p, nI_add, pk_mul, vc_sa_1, vc_sa_2, vc_sg_1, vc_sg_2, Nat.reduceEqDiff, Nat.reduceLeDiff, Nat.reduceAdd, Nat.reduceMul, Nat.reduceSub, Nat.not_lt_zero, Nat.add_left_cancel_iff, reduceIte, true_and, and_true, not_false_eq_true, not_true_eq_false, true_or, or_true, Bool.false_eq_true]
        refine vc_br_i (fun q => ?_) (fun q => ?_)
        · exact go _ _ (some r) (by show (if _ then _ else _) = _; rw [if_neg (by omega)]) ⟨r, rfl, h2, rfl, rfl⟩
        · exact go _ _ (some (d, zGr c (fun v => A v d) 10)) (by show (if _ then _ else _) = _; rw [if_pos (by omega)]) ⟨_, rfl, g1, rfl, rfl⟩
  refine vc_C_of (ls0 := [some (.ref 0), some (.int bits), none, none, none, none]) hk_103 (Nat.le_of_ble_eq_true rfl) rfl ?_
  refine g_103_0 ?_
  simp only [vc_wi, vc_li, vc_ll, vc_lr, vc_i1, vc_i2, vc_l1, vc_l2, vc_il, vc_r1, vc_ri, vc_rii, vc_rx, vc_cp, vc_s1, vc_s2, vc_fg, vc_cm, vc_ald, vc_bld, vc_ast, vc_bst, vc_len, vc_gf, vc_pf, vc_cpy, vc_ct, List.getElem?_cons_zero, List.getElem?_cons_succ, List.set_cons_zero, List.set_cons_succ, List.take_succ_cons, List.take_zero, List.drop_succ_cons, List.drop_zero, List.reverse_cons, List.reverse_nil, List.nil_append, List.cons_append, Option.toList_some, Option.toList_none, List.map_cons, List.map_nil, List.sum_cons, List.sum_nil, List.length_cons, List.length_nil, Value.category, Nat.reduceEqDiff, Nat.reduceLeDiff, Nat.reduceAdd, reduceIte, true_and, and_true, B_103_0, rt_103, cls_0, fld_0_0, fld_0_1, fld_0_2, fld_0_3, fld_0_4, fld_0_5, fld_0_6, fld_0_7, fld_0_8, fld_0_9, fld_0_10, fld_0_11, fld_0_12, fld_0_13, fld_0_14, fld_0_15, fld_0_16, fld_0_17, fld_0_18, cls_1, fld_1_0, fld_1_1, arr_2, cls_3, fld_3_0, fld_3_1, arr_4, cls_5, fld_5_0, fld_5_1, fld_5_2, fld_5_3, arr_6, arr_7, cls_8, fld_8_0, fld_8_1, fld_8_2, fld_8_3, arr_9, arr_10, cls_11, fld_11_0, fld_11_1, fld_11_2, fld_11_3, arr_12, arr_13, arr_14, cls_15, fld_15_0, fld_15_1, fld_15_2, fld_15_3, fld_15_4, arr_16, arr_17, arr_18, arr_19, lay_20, cls_21, fld_21_0, fld_21_1, fld_21_2, fld_21_3, arr_22, cls_23, fld_23_0, fld_23_1, fld_23_2, fld_23_3, arr_24, cls_25, fld_25_0, fld_25_1, fld_25_2, fld_25_3, arr_26, cls_27, fld_27_0, fld_27_1, fld_27_2, fld_27_3, arr_28, cls_47, fld_47_0, fld_47_1, fld_47_2, fld_47_3, arr_48, arr_49, arr_50, cls_51, fld_51_0, cls_52, fld_52_0, fld_52_1, arr_53, arr_54, arr_55, arr_56]
  try simp (disch := omega) only [vc_brT, vc_brF, vc_anT, vc_brt, vc_brf, vc_ant, vn_n0, vn_in, vn_cl, vn_lt, vn_le, vn_eq, vn_sub, vn_div, vn_rem, vn_mod, vn_m1, vn_m1n, vn_m1p, nI_add, pk_mul, vc_sa_1, vc_sa_2, vc_sg_1, vc_sg_2, Nat.reduceEqDiff, Nat.reduceLeDiff, Nat.reduceAdd, Nat.reduceMul, Nat.reduceSub, Nat.not_lt_zero, Nat.add_left_cancel_iff, reduceIte, true_and, and_true, not_false_eq_true, not_true_eq_false, true_or, or_true, Bool.false_eq_true]
  exact lp 30 0 none _ _ σ _ (by omega) vc_fr.rf (Or.inl ⟨rfl, rfl, rfl, rfl⟩) rfl
set_option maxHeartbeats 400000 in
set_option maxRecDepth 100000 in
theorem ct_isAsked {K : vc_K} {v : Int32} {σ : vc_S} {Q : Option Value → vc_S → Prop} (h1 : σ.1 0 17 = v → Q (some (.int (nI 0))) (vc_sg σ 0 17 v)) (h2 : ¬ σ.1 0 17 = v → Q (some (.int (nI 1))) (vc_sg σ 0 17 v)) : vc_C K 95 [.ref 0, .int v] σ Q := by
  refine vc_C_of (ls0 := [some (.ref 0), some (.int v), none]) hk_95 (Nat.le_of_ble_eq_true rfl) rfl ?_
  refine g_95_0 ?_
  simp only [vc_wi, vc_li, vc_ll, vc_lr, vc_i1, vc_i2, vc_l1, vc_l2, vc_il, vc_r1, vc_ri, vc_rii, vc_rx, vc_cp, vc_s1, vc_s2, vc_fg, vc_cm, vc_ald, vc_bld, vc_ast, vc_bst, vc_len, vc_gf, vc_pf, vc_cpy, vc_ct, List.getElem?_cons_zero, List.getElem?_cons_succ, List.set_cons_zero, List.set_cons_succ, List.take_succ_cons, List.take_zero, List.drop_succ_cons, List.drop_zero, List.reverse_cons, List.reverse_nil, List.nil_append, List.cons_append, Option.toList_some, Option.toList_none, List.map_cons, List.map_nil, List.sum_cons, List.sum_nil, List.length_cons, List.length_nil, Value.category, Nat.reduceEqDiff, Nat.reduceLeDiff, Nat.reduceAdd, reduceIte, true_and, and_true, B_95_0, rt_95, cls_0, fld_0_0, fld_0_1, fld_0_2, fld_0_3, fld_0_4, fld_0_5, fld_0_6, fld_0_7, fld_0_8, fld_0_9, fld_0_10, fld_0_11, fld_0_12, fld_0_13, fld_0_14, fld_0_15, fld_0_16, fld_0_17, fld_0_18, cls_1, fld_1_0, fld_1_1, arr_2, cls_3, fld_3_0, fld_3_1, arr_4, cls_5, fld_5_0, fld_5_1, fld_5_2, fld_5_3, arr_6, arr_7, cls_8, fld_8_0, fld_8_1, fld_8_2, fld_8_3, arr_9, arr_10, cls_11, fld_11_0, fld_11_1, fld_11_2, fld_11_3, arr_12, arr_13, arr_14, cls_15, fld_15_0, fld_15_1, fld_15_2, fld_15_3, fld_15_4, arr_16, arr_17, arr_18, arr_19, lay_20, cls_21, fld_21_0, fld_21_1, fld_21_2, fld_21_3, arr_22, cls_23, fld_23_0, fld_23_1, fld_23_2, fld_23_3, arr_24, cls_25, fld_25_0, fld_25_1, fld_25_2, fld_25_3, arr_26, cls_27, fld_27_0, fld_27_1, fld_27_2, fld_27_3, arr_28, cls_47, fld_47_0, fld_47_1, fld_47_2, fld_47_3, arr_48, arr_49, arr_50, cls_51, fld_51_0, cls_52, fld_52_0, fld_52_1, arr_53, arr_54, arr_55, arr_56]
  try simp (disch := omega) only [vc_brT, vc_brF, vc_anT, vc_brt, vc_brf, vc_ant, vn_n0, vn_in, vn_cl, vn_lt, vn_le, vn_eq, vn_sub, vn_div, vn_rem, vn_mod, vn_m1, vn_m1n, vn_m1p, nI_add, pk_mul, vc_sa_1, vc_sa_2, vc_sg_1, vc_sg_2, Nat.reduceEqDiff, Nat.reduceLeDiff, Nat.reduceAdd, Nat.reduceMul, Nat.reduceSub, Nat.not_lt_zero, Nat.add_left_cancel_iff, reduceIte, true_and, and_true, not_false_eq_true, not_true_eq_false, true_or, or_true, Bool.false_eq_true]
  refine vc_br_i (fun q => ?_) (fun q => ?_)
  · refine g_95_12 ?_
    simp only [vc_wi, vc_li, vc_ll, vc_lr, vc_i1, vc_i2, vc_l1, vc_l2, vc_il, vc_r1, vc_ri, vc_rii, vc_rx, vc_cp, vc_s1, vc_s2, vc_fg, vc_cm, vc_ald, vc_bld, vc_ast, vc_bst, vc_len, vc_gf, vc_pf, vc_cpy, vc_ct, List.getElem?_cons_zero, List.getElem?_cons_succ, List.set_cons_zero, List.set_cons_succ, List.take_succ_cons, List.take_zero, List.drop_succ_cons, List.drop_zero, List.reverse_cons, List.reverse_nil, List.nil_append, List.cons_append, Option.toList_some, Option.toList_none, List.map_cons, List.map_nil, List.sum_cons, List.sum_nil, List.length_cons, List.length_nil, Value.category, Nat.reduceEqDiff, Nat.reduceLeDiff, Nat.reduceAdd, reduceIte, true_and, and_true, B_95_12, rt_95, cls_0, fld_0_0, fld_0_1, fld_0_2, fld_0_3, fld_0_4, fld_0_5, fld_0_6, fld_0_7, fld_0_8, fld_0_9, fld_0_10, fld_0_11, fld_0_12, fld_0_13, fld_0_14, fld_0_15, fld_0_16, fld_0_17, fld_0_18, cls_1, fld_1_0, fld_1_1, arr_2, cls_3, fld_3_0, fld_3_1, arr_4, cls_5, fld_5_0, fld_5_1, fld_5_2, fld_5_3, arr_6, arr_7, cls_8, fld_8_0, fld_8_1, fld_8_2, fld_8_3, arr_9, arr_10, cls_11, fld_11_0, fld_11_1, fld_11_2, fld_11_3, arr_12, arr_13, arr_14, cls_15, fld_15_0, fld_15_1, fld_15_2, fld_15_3, fld_15_4, arr_16, arr_17, arr_18, arr_19, lay_20, cls_21, fld_21_0, fld_21_1, fld_21_2, fld_21_3, arr_22, cls_23, fld_23_0, fld_23_1, fld_23_2, fld_23_3, arr_24, cls_25, fld_25_0, fld_25_1, fld_25_2, fld_25_3, arr_26, cls_27, fld_27_0, fld_27_1, fld_27_2, fld_27_3, arr_28, cls_47, fld_47_0, fld_47_1, fld_47_2, fld_47_3, arr_48, arr_49, arr_50, cls_51, fld_51_0, cls_52, fld_52_0, fld_52_1, arr_53, arr_54, arr_55, arr_56]
    try simp (disch := omega) only [vc_brT, vc_brF, vc_anT, vc_brt, vc_brf, vc_ant, vn_n0, vn_in, vn_cl, vn_lt, vn_le, vn_eq, vn_sub, vn_div, vn_rem, vn_mod, vn_m1, vn_m1n, vn_m1p, nI_add, pk_mul, vc_sa_1, vc_sa_2, vc_sg_1, vc_sg_2, Nat.reduceEqDiff, Nat.reduceLeDiff, Nat.reduceAdd, Nat.reduceMul, Nat.reduceSub, Nat.not_lt_zero, Nat.add_left_cancel_iff, reduceIte, true_and, and_true, not_false_eq_true, not_true_eq_false, true_or, or_true, Bool.false_eq_true]
    refine g_95_13 ?_
    simp only [vc_wi, vc_li, vc_ll, vc_lr, vc_i1, vc_i2, vc_l1, vc_l2, vc_il, vc_r1, vc_ri, vc_rii, vc_rx, vc_cp, vc_s1, vc_s2, vc_fg, vc_cm, vc_ald, vc_bld, vc_ast, vc_bst, vc_len, vc_gf, vc_pf, vc_cpy, vc_ct, List.getElem?_cons_zero, List.getElem?_cons_succ, List.set_cons_zero, List.set_cons_succ, List.take_succ_cons, List.take_zero, List.drop_succ_cons, List.drop_zero, List.reverse_cons, List.reverse_nil, List.nil_append, List.cons_append, Option.toList_some, Option.toList_none, List.map_cons, List.map_nil, List.sum_cons, List.sum_nil, List.length_cons, List.length_nil, Value.category, Nat.reduceEqDiff, Nat.reduceLeDiff, Nat.reduceAdd, reduceIte, true_and, and_true, B_95_13, rt_95, cls_0, fld_0_0, fld_0_1, fld_0_2, fld_0_3, fld_0_4, fld_0_5, fld_0_6, fld_0_7, fld_0_8, fld_0_9, fld_0_10, fld_0_11, fld_0_12, fld_0_13, fld_0_14, fld_0_15, fld_0_16, fld_0_17, fld_0_18, cls_1, fld_1_0, fld_1_1, arr_2, cls_3, fld_3_0, fld_3_1, arr_4, cls_5, fld_5_0, fld_5_1, fld_5_2, fld_5_3, arr_6, arr_7, cls_8, fld_8_0, fld_8_1, fld_8_2, fld_8_3, arr_9, arr_10, cls_11, fld_11_0, fld_11_1, fld_11_2, fld_11_3, arr_12, arr_13, arr_14, cls_15, fld_15_0, fld_15_1, fld_15_2, fld_15_3, fld_15_4, arr_16, arr_17, arr_18, arr_19, lay_20, cls_21, fld_21_0, fld_21_1, fld_21_2, fld_21_3, arr_22, cls_23, fld_23_0, fld_23_1, fld_23_2, fld_23_3, arr_24, cls_25, fld_25_0, fld_25_1, fld_25_2, fld_25_3, arr_26, cls_27, fld_27_0, fld_27_1, fld_27_2, fld_27_3, arr_28, cls_47, fld_47_0, fld_47_1, fld_47_2, fld_47_3, arr_48, arr_49, arr_50, cls_51, fld_51_0, cls_52, fld_52_0, fld_52_1, arr_53, arr_54, arr_55, arr_56]
    try simp (disch := omega) only [vc_brT, vc_brF, vc_anT, vc_brt, vc_brf, vc_ant, vn_n0, vn_in, vn_cl, vn_lt, vn_le, vn_eq, vn_sub, vn_div, vn_rem, vn_mod, vn_m1, vn_m1n, vn_m1p, nI_add, pk_mul, vc_sa_1, vc_sa_2, vc_sg_1, vc_sg_2, Nat.reduceEqDiff, Nat.reduceLeDiff, Nat.reduceAdd, Nat.reduceMul, Nat.reduceSub, Nat.not_lt_zero, Nat.add_left_cancel_iff, reduceIte, true_and, and_true, not_false_eq_true, not_true_eq_false, true_or, or_true, Bool.false_eq_true]
    exact h1 q
  · refine g_95_13 ?_
    simp only [vc_wi, vc_li, vc_ll, vc_lr, vc_i1, vc_i2, vc_l1, vc_l2, vc_il, vc_r1, vc_ri, vc_rii, vc_rx, vc_cp, vc_s1, vc_s2, vc_fg, vc_cm, vc_ald, vc_bld, vc_ast, vc_bst, vc_len, vc_gf, vc_pf, vc_cpy, vc_ct, List.getElem?_cons_zero, List.getElem?_cons_succ, List.set_cons_zero, List.set_cons_succ, List.take_succ_cons, List.take_zero, List.drop_succ_cons, List.drop_zero, List.reverse_cons, List.reverse_nil, List.nil_append, List.cons_append, Option.toList_some, Option.toList_none, List.map_cons, List.map_nil, List.sum_cons, List.sum_nil, List.length_cons, List.length_nil, Value.category, Nat.reduceEqDiff, Nat.reduceLeDiff, Nat.reduceAdd, reduceIte, true_and, and_true, B_95_13, rt_95, cls_0, fld_0_0, fld_0_1, fld_0_2, fld_0_3, fld_0_4, fld_0_5, fld_0_6, fld_0_7, fld_0_8, fld_0_9, fld_0_10, fld_0_11, fld_0_12, fld_0_13, fld_0_14, fld_0_15, fld_0_16, fld_0_17, fld_0_18, cls_1, fld_1_0, fld_1_1, arr_2, cls_3, fld_3_0, fld_3_1, arr_4, cls_5, fld_5_0, fld_5_1, fld_5_2, fld_5_3, arr_6, arr_7, cls_8, fld_8_0, fld_8_1, fld_8_2, fld_8_3, arr_9, arr_10, cls_11, fld_11_0, fld_11_1, fld_11_2, fld_11_3, arr_12, arr_13, arr_14, cls_15, fld_15_0, fld_15_1, fld_15_2, fld_15_3, fld_15_4, arr_16, arr_17, arr_18, arr_19, lay_20, cls_21, fld_21_0, fld_21_1, fld_21_2, fld_21_3, arr_22, cls_23, fld_23_0, fld_23_1, fld_23_2, fld_23_3, arr_24, cls_25, fld_25_0, fld_25_1, fld_25_2, fld_25_3, arr_26, cls_27, fld_27_0, fld_27_1, fld_27_2, fld_27_3, arr_28, cls_47, fld_47_0, fld_47_1, fld_47_2, fld_47_3, arr_48, arr_49, arr_50, cls_51, fld_51_0, cls_52, fld_52_0, fld_52_1, arr_53, arr_54, arr_55, arr_56]
    try simp (disch := omega) only [vc_brT, vc_brF, vc_anT, vc_brt, vc_brf, vc_ant, vn_n0, vn_in, vn_cl, vn_lt, vn_le, vn_eq, vn_sub, vn_div, vn_rem, vn_mod, vn_m1, vn_m1n, vn_m1p, nI_add, pk_mul, vc_sa_1, vc_sa_2, vc_sg_1, vc_sg_2, Nat.reduceEqDiff, Nat.reduceLeDiff, Nat.reduceAdd, Nat.reduceMul, Nat.reduceSub, Nat.not_lt_zero, Nat.add_left_cancel_iff, reduceIte, true_and, and_true, not_false_eq_true, not_true_eq_false, true_or, or_true, Bool.false_eq_true]
    exact h2 q
/-- who was asked already is asked again: nothing changes -/
theorem vc_sg_same {σ : vc_S} {o k : Nat} {v : Int32} (h : σ.1 o k = v) : vc_sg σ o k v = σ := by
  refine Prod.ext ?_ rfl
  funext b i
  rw [vc_sg_1]
  by_cases hb : b = o
  · by_cases hi : i = k
    · rw [if_pos hb, if_pos hi, hb, hi, h]
    · rw [if_pos hb, if_neg hi]
  · rw [if_neg hb]
