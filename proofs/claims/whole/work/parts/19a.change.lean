-- ===== changes =====
def sCh (T : zT) (c : Nat) (ch : Nat → Nat × Nat × Nat) : zT := (T.1, T.2.1, T.2.2.1, T.2.2.2.1, T.2.2.2.2.1, T.2.2.2.2.2.1, T.2.2.2.2.2.2.1, c, ch, T.2.2.2.2.2.2.2.2.2)
theorem xCore.ch {σ τ : vc_S} {T : zT} {c : Nat} {ch : Nat → Nat × Nat × Nat} (h : xCore σ T) (g1 : ∀ b, b ∈ [1, 3, 5, 8, 15, 21, 23, 25, 27] → τ.1 b = σ.1 b) (g2 : τ.1 0 15 = σ.1 0 15) (g3 : τ.1 0 16 = σ.1 0 16) (g4 : ∀ b, b ∈ [2, 4, 6, 7, 9, 10, 16, 17, 18, 19, 22, 24, 26, 28] → τ.2 b = σ.2 b) (hc : τ.1 11 3 = nI c) (hch : ∀ i, i < c → τ.2 12 i = nI (ch i).1 ∧ τ.2 13 i = nI (ch i).2.1 ∧ τ.2 14 i = nI (ch i).2.2) : xCore τ (sCh T c ch) := by
  have h' : xCore (fun b => if b = 11 then σ.1 11 else τ.1 b, fun b => if b = 12 ∨ b = 13 ∨ b = 14 then σ.2 b else τ.2 b) T := by
    refine h.of (fun b hb => ?_) g2 g3 (fun b hb => ?_)
    · show (if b = 11 then _ else _) = _
      by_cases hb1 : b = 11
      · rw [if_pos hb1, hb1]
      · rw [if_neg hb1]
        exact g1 b (by simp only [List.mem_cons, List.not_mem_nil, or_false] at hb ⊢; omega)
    · show (if _ then _ else _) = _
      by_cases hb1 : b = 12 ∨ b = 13 ∨ b = 14
      · rw [if_pos hb1]
      · rw [if_neg hb1]
        exact g4 b (by simp only [List.mem_cons, List.not_mem_nil, or_false] at hb ⊢; omega)
  obtain ⟨h1, h2, h3, h4, h5, -, h7, h8, h9⟩ := h'
  refine ⟨h1, h2, h3, h4, h5, ⟨hc, hch⟩, h7, h8, fun s hs => ?_⟩
  have := h9 s hs
  have e1 : ¬ (21 + 2 * s = 11) := by omega
  have e2 : ¬ (22 + 2 * s = 12 ∨ 22 + 2 * s = 13 ∨ 22 + 2 * s = 14) := by omega
  simp only [if_neg e1, if_neg e2] at this
  exact this
/-- behind forgetYear nothing is kept -/
theorem xCa.none {σ : vc_S} {T : zT} (h1 : σ.1 0 18 = nI 0) (h2 : σ.1 52 1 = nI 0) (h3 : σ.1 0 17 = -1) : xCa σ T := ⟨Or.inl h1, Or.inl h2, Or.inl h3⟩
def zBack (T : zT) : Int32 := if zc T = 0 then (-3) else nI (zc T - 1)
def zBackT (T : zT) : zT := if zc T = 0 then T else sCh T (zc T - 1) (zch' T)
theorem zBackT_ok {T : zT} (h : zOk T) : zOk (zBackT T) := by
  unfold zBackT
  split
  · exact h
  · obtain ⟨a1, a2, a3, a4, ⟨a5, a6⟩, a7⟩ := h
    refine ⟨a1, a2, a3, a4, ⟨?_, fun i hi => ?_⟩, a7⟩
    · show zc T - 1 ≤ 8
      omega
    · have hi : i < zc T - 1 := hi
      exact a6 i (by omega)
def xFg (σ : vc_S) : vc_S := vc_sg (vc_sg (vc_sg σ 0 18 (nI 0)) 52 1 (nI 0)) 0 17 (-1)
theorem xFg_1 (σ : vc_S) (b : Nat) (h0 : ¬ b = 0) (h52 : ¬ b = 52) : (xFg σ).1 b = σ.1 b := by
  funext i
  unfold xFg
  rw [vc_sg_1, if_neg h0, vc_sg_1, if_neg h52, vc_sg_1, if_neg h0]
theorem xFg_0 (σ : vc_S) (i : Nat) (h7 : ¬ i = 17) (h8 : ¬ i = 18) : (xFg σ).1 0 i = σ.1 0 i := by
  unfold xFg
  rw [vc_sg_1, if_pos rfl, if_neg h7, vc_sg_1, if_neg (by decide), vc_sg_1, if_pos rfl, if_neg h8]
theorem xFg_2 (σ : vc_S) : (xFg σ).2 = σ.2 := rfl
theorem xFg_ca {σ : vc_S} {T : zT} : xCa (xFg σ) T := by
  refine xCa.none ?_ ?_ ?_
  · unfold xFg; rw [vc_sg_1, if_pos rfl, if_neg (by decide), vc_sg_1, if_neg (by decide), vc_sg_1, if_pos rfl, if_pos rfl]
  · unfold xFg; rw [vc_sg_1, if_neg (by decide), vc_sg_1, if_pos rfl, if_pos rfl]
  · unfold xFg; rw [vc_sg_1, if_pos rfl, if_pos rfl]
theorem ct_fgY {K : vc_K} {σ : vc_S} {Q : Option Value → vc_S → Prop} (h : ∀ τ, τ = xFg σ → Q none τ) : vc_C K 92 [.ref 0] σ Q := ct_forgetYear (h _ rfl)
set_option maxHeartbeats 400000 in
set_option maxRecDepth 100000 in
theorem cx_back {K : vc_K} {T : zT} {σ : vc_S} {Q : Option Value → vc_S → Prop} (hT : zOk T) (hI : xI σ T) (h : ∀ τ, xI τ (zBackT T) → xM σ τ → Q (some (.int (zBack T))) τ) : vc_C K 49 [.ref 0] σ Q := by
  obtain ⟨hc8, -⟩ := hT.2.2.2.2.1
  obtain ⟨c1, c2⟩ := hI.1.2.2.2.2.2.1
  unfold zBackT zBack at h
  refine vc_C_of (ls0 := [some (.ref 0)]) hk_49 (Nat.le_of_ble_eq_true rfl) rfl ?_
  by_cases h0 : zc T = 0
  · rw [if_pos h0, if_pos h0] at h
    refine g_49_0 ?_
    simp only [vc_wi, vc_li, vc_ll, vc_lr, vc_i1, vc_i2, vc_l1, vc_l2, vc_il, vc_r1, vc_ri, vc_rii, vc_rx, vc_cp, vc_s1, vc_s2, vc_fg, vc_cm, vc_ald, vc_bld, vc_ast, vc_bst, vc_len, vc_gf, vc_pf, vc_cpy, vc_ct, List.getElem?_cons_zero, List.getElem?_cons_succ, List.set_cons_zero, List.set_cons_succ, List.take_succ_cons, List.take_zero, List.drop_succ_cons, List.drop_zero, List.reverse_cons, List.reverse_nil, List.nil_append, List.cons_append, Option.toList_some, Option.toList_none, List.map_cons, List.map_nil, List.sum_cons, List.sum_nil, List.length_cons, List.length_nil, Value.category, Nat.reduceEqDiff, Nat.reduceLeDiff, Nat.reduceAdd, reduceIte, true_and, and_true, B_49_0, rt_49, cls_0, fld_0_0, fld_0_1, fld_0_2, fld_0_3, fld_0_4, fld_0_5, fld_0_6, fld_0_7, fld_0_8, fld_0_9, fld_0_10, fld_0_11, fld_0_12, fld_0_13, fld_0_14, fld_0_15, fld_0_16, fld_0_17, fld_0_18, cls_1, fld_1_0, fld_1_1, arr_2, cls_3, fld_3_0, fld_3_1, arr_4, cls_5, fld_5_0, fld_5_1, fld_5_2, fld_5_3, arr_6, arr_7, cls_8, fld_8_0, fld_8_1, fld_8_2, fld_8_3, arr_9, arr_10, cls_11, fld_11_0, fld_11_1, fld_11_2, fld_11_3, arr_12, arr_13, arr_14, cls_15, fld_15_0, fld_15_1, fld_15_2, fld_15_3, fld_15_4, arr_16, arr_17, arr_18, arr_19, lay_20, cls_21, fld_21_0, fld_21_1, fld_21_2, fld_21_3, arr_22, cls_23, fld_23_0, fld_23_1, fld_23_2, fld_23_3, arr_24, cls_25, fld_25_0, fld_25_1, fld_25_2, fld_25_3, arr_26, cls_27, fld_27_0, fld_27_1, fld_27_2, fld_27_3, arr_28, cls_47, fld_47_0, fld_47_1, fld_47_2, fld_47_3, arr_48, arr_49, arr_50, cls_51, fld_51_0, cls_52, fld_52_0, fld_52_1, arr_53, arr_54, arr_55, arr_56]
    try simp (disch := omega) only [vc_brT, vc_brF, vc_anT, vc_brt, vc_brf, vc_ant, vn_n0, vn_in, vn_cl, vn_lt, vn_le, vn_eq, vn_sub, vn_div, vn_rem, vn_mod, vn_m1, vn_m1n, vn_m1p, nI_add, pk_mul, vc_sa_1, vc_sa_2, vc_sg_1, vc_sg_2, Nat.reduceEqDiff, Nat.reduceLeDiff, Nat.reduceAdd, Nat.reduceMul, Nat.reduceSub, Nat.not_lt_zero, Nat.add_left_cancel_iff, reduceIte, true_and, and_true, not_false_eq_true, not_true_eq_false, true_or, or_true, Bool.false_eq_true, c1]
    exact h σ hI xM.rf
  · rw [if_neg h0, if_neg h0] at h
    refine g_49_0 ?_
    simp only [vc_wi, vc_li, vc_ll, vc_lr, vc_i1, vc_i2, vc_l1, vc_l2, vc_il, vc_r1, vc_ri, vc_rii, vc_rx, vc_cp, vc_s1, vc_s2, vc_fg, vc_cm, vc_ald, vc_bld, vc_ast, vc_bst, vc_len, vc_gf, vc_pf, vc_cpy, vc_ct, List.getElem?_cons_zero, List.getElem?_cons_succ, List.set_cons_zero, List.set_cons_succ, List.take_succ_cons, List.take_zero, List.drop_succ_cons, List.drop_zero, List.reverse_cons, List.reverse_nil, List.nil_append, List.cons_append, Option.toList_some, Option.toList_none, List.map_cons, List.map_nil, List.sum_cons, List.sum_nil, List.length_cons, List.length_nil, Value.category, Nat.reduceEqDiff, Nat.reduceLeDiff, Nat.reduceAdd, reduceIte, true_and, and_true, B_49_0, rt_49, cls_0, fld_0_0, fld_0_1, fld_0_2, fld_0_3, fld_0_4, fld_0_5, fld_0_6, fld_0_7, fld_0_8, fld_0_9, fld_0_10, fld_0_11, fld_0_12, fld_0_13, fld_0_14, fld_0_15, fld_0_16, fld_0_17, fld_0_18, cls_1, fld_1_0, fld_1_1, arr_2, cls_3, fld_3_0, fld_3_1, arr_4, cls_5, fld_5_0, fld_5_1, fld_5_2, fld_5_3, arr_6, arr_7, cls_8, fld_8_0, fld_8_1, fld_8_2, fld_8_3, arr_9, arr_10, cls_11, fld_11_0, fld_11_1, fld_11_2, fld_11_3, arr_12, arr_13, arr_14, cls_15, fld_15_0, fld_15_1, fld_15_2, fld_15_3, fld_15_4, arr_16, arr_17, arr_18, arr_19, lay_20, cls_21, fld_21_0, fld_21_1, fld_21_2, fld_21_3, arr_22, cls_23, fld_23_0, fld_23_1, fld_23_2, fld_23_3, arr_24, cls_25, fld_25_0, fld_25_1, fld_25_2, fld_25_3, arr_26, cls_27, fld_27_0, fld_27_1, fld_27_2, fld_27_3, arr_28, cls_47, fld_47_0, fld_47_1, fld_47_2, fld_47_3, arr_48, arr_49, arr_50, cls_51, fld_51_0, cls_52, fld_52_0, fld_52_1, arr_53, arr_54, arr_55, arr_56]
    try simp (disch := omega) only [vc_brT, vc_brF, vc_anT, vc_brt, vc_brf, vc_ant, vn_n0, vn_in, vn_cl, vn_lt, vn_le, vn_eq, vn_sub, vn_div, vn_rem, vn_mod, vn_m1, vn_m1n, vn_m1p, nI_add, pk_mul, vc_sa_1, vc_sa_2, vc_sg_1, vc_sg_2, Nat.reduceEqDiff, Nat.reduceLeDiff, Nat.reduceAdd, Nat.reduceMul, Nat.reduceSub, Nat.not_lt_zero, Nat.add_left_cancel_iff, reduceIte, true_and, and_true, not_false_eq_true, not_true_eq_false, true_or, or_true, Bool.false_eq_true, c1]
    refine g_49_13 ?_
    simp only [vc_wi, vc_li, vc_ll, vc_lr, vc_i1, vc_i2, vc_l1, vc_l2, vc_il, vc_r1, vc_ri, vc_rii, vc_rx, vc_cp, vc_s1, vc_s2, vc_fg, vc_cm, vc_ald, vc_bld, vc_ast, vc_bst, vc_len, vc_gf, vc_pf, vc_cpy, vc_ct, List.getElem?_cons_zero, List.getElem?_cons_succ, List.set_cons_zero, List.set_cons_succ, List.take_succ_cons, List.take_zero, List.drop_succ_cons, List.drop_zero, List.reverse_cons, List.reverse_nil, List.nil_append, List.cons_append, Option.toList_some, Option.toList_none, List.map_cons, List.map_nil, List.sum_cons, List.sum_nil, List.length_cons, List.length_nil, Value.category, Nat.reduceEqDiff, Nat.reduceLeDiff, Nat.reduceAdd, reduceIte, true_and, and_true, B_49_13, rt_49, cls_0, fld_0_0, fld_0_1, fld_0_2, fld_0_3, fld_0_4, fld_0_5, fld_0_6, fld_0_7, fld_0_8, fld_0_9, fld_0_10, fld_0_11, fld_0_12, fld_0_13, fld_0_14, fld_0_15, fld_0_16, fld_0_17, fld_0_18, cls_1, fld_1_0, fld_1_1, arr_2, cls_3, fld_3_0, fld_3_1, arr_4, cls_5, fld_5_0, fld_5_1, fld_5_2, fld_5_3, arr_6, arr_7, cls_8, fld_8_0, fld_8_1, fld_8_2, fld_8_3, arr_9, arr_10, cls_11, fld_11_0, fld_11_1, fld_11_2, fld_11_3, arr_12, arr_13, arr_14, cls_15, fld_15_0, fld_15_1, fld_15_2, fld_15_3, fld_15_4, arr_16, arr_17, arr_18, arr_19, lay_20, cls_21, fld_21_0, fld_21_1, fld_21_2, fld_21_3, arr_22, cls_23, fld_23_0, fld_23_1, fld_23_2, fld_23_3, arr_24, cls_25, fld_25_0, fld_25_1, fld_25_2, fld_25_3, arr_26, cls_27, fld_27_0, fld_27_1, fld_27_2, fld_27_3, arr_28, cls_47, fld_47_0, fld_47_1, fld_47_2, fld_47_3, arr_48, arr_49, arr_50, cls_51, fld_51_0, cls_52, fld_52_0, fld_52_1, arr_53, arr_54, arr_55, arr_56]
    try simp (disch := omega) only [vc_brT, vc_brF, vc_anT, vc_brt, vc_brf, vc_ant, vn_n0, vn_in, vn_cl, vn_lt, vn_le, vn_eq, vn_sub, vn_div, vn_rem, vn_mod, vn_m1, vn_m1n, vn_m1p, nI_add, pk_mul, vc_sa_1, vc_sa_2, vc_sg_1, vc_sg_2, Nat.reduceEqDiff, Nat.reduceLeDiff, Nat.reduceAdd, Nat.reduceMul, Nat.reduceSub, Nat.not_lt_zero, Nat.add_left_cancel_iff, reduceIte, true_and, and_true, not_false_eq_true, not_true_eq_false, true_or, or_true, Bool.false_eq_true, c1]
    refine ct_fgY ?_
    intro τ hτ
    have hf : ∀ b, ¬ b = 0 → ¬ b = 52 → ¬ b = 11 → (xFg (vc_sg σ 11 3 (nI (zc T - 1)))).1 b = σ.1 b := fun b a1 a2 a3 => by
      rw [xFg_1 _ b a1 a2]
      funext i
      rw [vc_sg_1, if_neg a3]
    have e3 : (xFg (vc_sg σ 11 3 (nI (zc T - 1)))).1 11 3 = nI (zc T - 1) := by rw [xFg_1 _ 11 (by decide) (by decide), vc_sg_1, if_pos rfl, if_pos rfl]
    rw [← hτ] at hf e3
    have h0' : τ.1 0 15 = σ.1 0 15 ∧ τ.1 0 16 = σ.1 0 16 := by
      rw [hτ, xFg_0 _ _ (by decide) (by decide), xFg_0 _ _ (by decide) (by decide), vc_sg_1, if_neg (by decide), vc_sg_1, if_neg (by decide)]
      exact ⟨rfl, rfl⟩
    have h2' : τ.2 = σ.2 := by rw [hτ]; rfl
    have h := h τ ⟨hI.1.ch (fun b hb => hf b (by simp only [List.mem_cons, List.not_mem_nil, or_false] at hb; omega) (by simp only [List.mem_cons, List.not_mem_nil, or_false] at hb; omega) (by simp only [List.mem_cons, List.not_mem_nil, or_false] at hb; omega)) h0'.1 h0'.2 (fun b _ => by rw [h2']) e3 (fun i hi => by rw [h2']; exact c2 i (by omega)), by rw [hτ]; exact xFg_ca⟩ ⟨hf 57 (by decide) (by decide) (by decide), fun b _ => by rw [h2']⟩
    simp only [vc_wi, vc_li, vc_ll, vc_lr, vc_i1, vc_i2, vc_l1, vc_l2, vc_il, vc_r1, vc_ri, vc_rii, vc_rx, vc_cp, vc_s1, vc_s2, vc_fg, vc_cm, vc_ald, vc_bld, vc_ast, vc_bst, vc_len, vc_gf, vc_pf, vc_cpy, vc_ct, List.getElem?_cons_zero, List.getElem?_cons_succ, List.set_cons_zero, List.set_cons_succ, List.take_succ_cons, List.take_zero, List.drop_succ_cons, List.drop_zero, List.reverse_cons, List.reverse_nil, List.nil_append, List.cons_append, Option.toList_some, Option.toList_none, List.map_cons, List.map_nil, List.sum_cons, List.sum_nil, List.length_cons, List.length_nil, Value.category, Nat.reduceEqDiff, Nat.reduceLeDiff, Nat.reduceAdd, reduceIte, true_and, and_true, rt_49, cls_0, fld_0_0, fld_0_1, fld_0_2, fld_0_3, fld_0_4, fld_0_5, fld_0_6, fld_0_7, fld_0_8, fld_0_9, fld_0_10, fld_0_11, fld_0_12, fld_0_13, fld_0_14, fld_0_15, fld_0_16, fld_0_17, fld_0_18, cls_1, fld_1_0, fld_1_1, arr_2, cls_3, fld_3_0, fld_3_1, arr_4, cls_5, fld_5_0, fld_5_1, fld_5_2, fld_5_3, arr_6, arr_7, cls_8, fld_8_0, fld_8_1, fld_8_2, fld_8_3, arr_9, arr_10, cls_11, fld_11_0, fld_11_1, fld_11_2, fld_11_3, arr_12, arr_13, arr_14, cls_15, fld_15_0, fld_15_1, fld_15_2, fld_15_3, fld_15_4, arr_16, arr_17, arr_18, arr_19, lay_20, cls_21, fld_21_0, fld_21_1, fld_21_2, fld_21_3, arr_22, cls_23, fld_23_0, fld_23_1, fld_23_2, fld_23_3, arr_24, cls_25, fld_25_0, fld_25_1, fld_25_2, fld_25_3, arr_26, cls_27, fld_27_0, fld_27_1, fld_27_2, fld_27_3, arr_28, cls_47, fld_47_0, fld_47_1, fld_47_2, fld_47_3, arr_48, arr_49, arr_50, cls_51, fld_51_0, cls_52, fld_52_0, fld_52_1, arr_53, arr_54, arr_55, arr_56]
    try simp (disch := omega) only [vc_brT, vc_brF, vc_anT, vc_brt, vc_brf, vc_ant, vn_n0, vn_in, vn_cl, vn_lt, vn_le, vn_eq, vn_sub, vn_div, vn_rem, vn_mod, vn_m1, vn_m1n, vn_m1p, nI_add, pk_mul, vc_sa_1, vc_sa_2, vc_sg_1, vc_sg_2, Nat.reduceEqDiff, Nat.reduceLeDiff, Nat.reduceAdd, Nat.reduceMul, Nat.reduceSub, Nat.not_lt_zero, Nat.add_left_cancel_iff, reduceIte, true_and, and_true, not_false_eq_true, not_true_eq_false, true_or, or_true, Bool.false_eq_true, e3]
    exact h
set_option maxHeartbeats 400000 in
set_option maxRecDepth 100000 in
theorem cm_back {K : vc_K} {T : zT} {σ : vc_S} {Q : Option Value → vc_S → Prop} (hT : zOk T) (hI : mI σ T) (h : ∀ τ, mI τ (zBackT T) → mX σ τ → Q (some (.int (zBack T))) τ) : vc_C K 137 [.ref 57] σ Q := by
  obtain ⟨hc8, -⟩ := hT.2.2.2.2.1
  obtain ⟨h1, h2, h3, ⟨c1, c2⟩, h5, h6, h7⟩ := hI
  unfold zBackT zBack at h
  refine vc_C_of (ls0 := [some (.ref 57)]) hk_137 (Nat.le_of_ble_eq_true rfl) rfl ?_
  by_cases h0 : zc T = 0
  · rw [if_pos h0, if_pos h0] at h
    refine g_137_0 ?_
    simp only [vc_wi, vc_li, vc_ll, vc_lr, vc_i1, vc_i2, vc_l1, vc_l2, vc_il, vc_r1, vc_ri, vc_rii, vc_rx, vc_cp, vc_s1, vc_s2, vc_fg, vc_cm, vc_ald, vc_bld, vc_ast, vc_bst, vc_len, vc_gf, vc_pf, vc_cpy, vc_ct, List.getElem?_cons_zero, List.getElem?_cons_succ, List.set_cons_zero, List.set_cons_succ, List.take_succ_cons, List.take_zero, List.drop_succ_cons, List.drop_zero, List.reverse_cons, List.reverse_nil, List.nil_append, List.cons_append, Option.toList_some, Option.toList_none, List.map_cons, List.map_nil, List.sum_cons, List.sum_nil, List.length_cons, List.length_nil, Value.category, Nat.reduceEqDiff, Nat.reduceLeDiff, Nat.reduceAdd, reduceIte, true_and, and_true, B_137_0, rt_137, cls_57, fld_57_0, fld_57_1, fld_57_2, fld_57_3, fld_57_4, fld_57_5, fld_57_6, fld_57_7, fld_57_8, fld_57_9, fld_57_10, fld_57_11, fld_57_12, fld_57_13, fld_57_14, fld_57_15, fld_57_16, fld_57_17, fld_57_18, fld_57_19, fld_57_20, fld_57_21, fld_57_22, fld_57_23, fld_57_24, fld_57_25, fld_57_26, fld_57_27, fld_57_28, fld_57_29, fld_57_30, fld_57_31, fld_57_32, fld_57_33, fld_57_34, fld_57_35, fld_57_36, fld_57_37, fld_57_38, fld_57_39, fld_57_40, fld_57_41, fld_57_42, fld_57_43, arr_58, arr_59, arr_60, arr_61, arr_62, arr_63, arr_64, arr_65, arr_66, arr_67, arr_68, arr_69, arr_70, arr_71, arr_72, arr_73, arr_74, arr_75, arr_76, arr_77, arr_78, arr_79, arr_80, arr_81, arr_82, arr_83, arr_84, arr_85, arr_86, arr_87, arr_88, arr_89, arr_90, arr_91, arr_92]
    try simp (disch := omega) only [vc_brT, vc_brF, vc_anT, vc_brt, vc_brf, vc_ant, vn_n0, vn_in, vn_cl, vn_lt, vn_le, vn_eq, vn_sub, vn_div, vn_rem, vn_mod, vn_m1, vn_m1n, vn_m1p, nI_add, pk_mul, vc_sa_1, vc_sa_2, vc_sg_1, vc_sg_2, Nat.reduceEqDiff, Nat.reduceLeDiff, Nat.reduceAdd, Nat.reduceMul, Nat.reduceSub, Nat.not_lt_zero, Nat.add_left_cancel_iff, reduceIte, true_and, and_true, not_false_eq_true, not_true_eq_false, true_or, or_true, Bool.false_eq_true, c1]
    exact h σ ⟨h1, h2, h3, ⟨c1, c2⟩, h5, h6, h7⟩ mX.rf
  · rw [if_neg h0, if_neg h0] at h
    refine g_137_0 ?_
    simp only [vc_wi, vc_li, vc_ll, vc_lr, vc_i1, vc_i2, vc_l1, vc_l2, vc_il, vc_r1, vc_ri, vc_rii, vc_rx, vc_cp, vc_s1, vc_s2, vc_fg, vc_cm, vc_ald, vc_bld, vc_ast, vc_bst, vc_len, vc_gf, vc_pf, vc_cpy, vc_ct, List.getElem?_cons_zero, List.getElem?_cons_succ, List.set_cons_zero, List.set_cons_succ, List.take_succ_cons, List.take_zero, List.drop_succ_cons, List.drop_zero, List.reverse_cons, List.reverse_nil, List.nil_append, List.cons_append, Option.toList_some, Option.toList_none, List.map_cons, List.map_nil, List.sum_cons, List.sum_nil, List.length_cons, List.length_nil, Value.category, Nat.reduceEqDiff, Nat.reduceLeDiff, Nat.reduceAdd, reduceIte, true_and, and_true, B_137_0, rt_137, cls_57, fld_57_0, fld_57_1, fld_57_2, fld_57_3, fld_57_4, fld_57_5, fld_57_6, fld_57_7, fld_57_8, fld_57_9, fld_57_10, fld_57_11, fld_57_12, fld_57_13, fld_57_14, fld_57_15, fld_57_16, fld_57_17, fld_57_18, fld_57_19, fld_57_20, fld_57_21, fld_57_22, fld_57_23, fld_57_24, fld_57_25, fld_57_26, fld_57_27, fld_57_28, fld_57_29, fld_57_30, fld_57_31, fld_57_32, fld_57_33, fld_57_34, fld_57_35, fld_57_36, fld_57_37, fld_57_38, fld_57_39, fld_57_40, fld_57_41, fld_57_42, fld_57_43, arr_58, arr_59, arr_60, arr_61, arr_62, arr_63, arr_64, arr_65, arr_66, arr_67, arr_68, arr_69, arr_70, arr_71, arr_72, arr_73, arr_74, arr_75, arr_76, arr_77, arr_78, arr_79, arr_80, arr_81, arr_82, arr_83, arr_84, arr_85, arr_86, arr_87, arr_88, arr_89, arr_90, arr_91, arr_92]
    try simp (disch := omega) only [vc_brT, vc_brF, vc_anT, vc_brt, vc_brf, vc_ant, vn_n0, vn_in, vn_cl, vn_lt, vn_le, vn_eq, vn_sub, vn_div, vn_rem, vn_mod, vn_m1, vn_m1n, vn_m1p, nI_add, pk_mul, vc_sa_1, vc_sa_2, vc_sg_1, vc_sg_2, Nat.reduceEqDiff, Nat.reduceLeDiff, Nat.reduceAdd, Nat.reduceMul, Nat.reduceSub, Nat.not_lt_zero, Nat.add_left_cancel_iff, reduceIte, true_and, and_true, not_false_eq_true, not_true_eq_false, true_or, or_true, Bool.false_eq_true, c1]
    refine g_137_10 ?_
    simp only [vc_wi, vc_li, vc_ll, vc_lr, vc_i1, vc_i2, vc_l1, vc_l2, vc_il, vc_r1, vc_ri, vc_rii, vc_rx, vc_cp, vc_s1, vc_s2, vc_fg, vc_cm, vc_ald, vc_bld, vc_ast, vc_bst, vc_len, vc_gf, vc_pf, vc_cpy, vc_ct, List.getElem?_cons_zero, List.getElem?_cons_succ, List.set_cons_zero, List.set_cons_succ, List.take_succ_cons, List.take_zero, List.drop_succ_cons, List.drop_zero, List.reverse_cons, List.reverse_nil, List.nil_append, List.cons_append, Option.toList_some, Option.toList_none, List.map_cons, List.map_nil, List.sum_cons, List.sum_nil, List.length_cons, List.length_nil, Value.category, Nat.reduceEqDiff, Nat.reduceLeDiff, Nat.reduceAdd, reduceIte, true_and, and_true, B_137_10, rt_137, cls_57, fld_57_0, fld_57_1, fld_57_2, fld_57_3, fld_57_4, fld_57_5, fld_57_6, fld_57_7, fld_57_8, fld_57_9, fld_57_10, fld_57_11, fld_57_12, fld_57_13, fld_57_14, fld_57_15, fld_57_16, fld_57_17, fld_57_18, fld_57_19, fld_57_20, fld_57_21, fld_57_22, fld_57_23, fld_57_24, fld_57_25, fld_57_26, fld_57_27, fld_57_28, fld_57_29, fld_57_30, fld_57_31, fld_57_32, fld_57_33, fld_57_34, fld_57_35, fld_57_36, fld_57_37, fld_57_38, fld_57_39, fld_57_40, fld_57_41, fld_57_42, fld_57_43, arr_58, arr_59, arr_60, arr_61, arr_62, arr_63, arr_64, arr_65, arr_66, arr_67, arr_68, arr_69, arr_70, arr_71, arr_72, arr_73, arr_74, arr_75, arr_76, arr_77, arr_78, arr_79, arr_80, arr_81, arr_82, arr_83, arr_84, arr_85, arr_86, arr_87, arr_88, arr_89, arr_90, arr_91, arr_92]
    try simp (disch := omega) only [vc_brT, vc_brF, vc_anT, vc_brt, vc_brf, vc_ant, vn_n0, vn_in, vn_cl, vn_lt, vn_le, vn_eq, vn_sub, vn_div, vn_rem, vn_mod, vn_m1, vn_m1n, vn_m1p, nI_add, pk_mul, vc_sa_1, vc_sa_2, vc_sg_1, vc_sg_2, Nat.reduceEqDiff, Nat.reduceLeDiff, Nat.reduceAdd, Nat.reduceMul, Nat.reduceSub, Nat.not_lt_zero, Nat.add_left_cancel_iff, reduceIte, true_and, and_true, not_false_eq_true, not_true_eq_false, true_or, or_true, Bool.false_eq_true, c1]
    have hf : mFr [9] [] σ (vc_sg σ 57 9 (nI (zc T - 1))) := mFr.rf.sg (by simp)
    refine h (vc_sg σ 57 9 (nI (zc T - 1))) ⟨h1, h2, ?_, ⟨?_, fun i hi => ?_⟩, ⟨?_, h5.2⟩, ?_, h7⟩ (hf.x (by simp))
    · rw [vc_sg_1, if_pos rfl, if_neg (by decide)]
      exact h3
    · rw [vc_sg_1, if_pos rfl, if_pos rfl]
      rfl
    · have hi : i < zc T - 1 := hi
      exact c2 i (by omega)
    · rw [vc_sg_1, if_pos rfl, if_neg (by decide)]
      exact h5.1
    · rw [vc_sg_1, if_pos rfl, if_neg (by decide)]
      exact h6
