/-! what x works on: the trial year, its changes, lots, rows of answers; agreeing with what was seen -/
def xF : List Nat := [38, 47, 51]
def xG : List Nat := [39, 40, 41, 42, 43, 44, 45, 46, 48, 49, 50, 54, 55, 56]
def yT : List Nat := [39, 40, 41, 42, 43, 44, 45, 46]
def xJ (σ : vc_S) (T : zT) : Prop := xCore σ T ∧ (σ.1 0 18 = nI 0 ∨ (σ.1 0 18 = nI 1 ∧ xTo σ T)) ∧ (σ.1 52 1 = nI 0 ∨ (σ.1 52 1 = nI 1 ∧ zTal (σ.2 53) T))
theorem xI.j {σ : vc_S} {T : zT} (h : xI σ T) : xJ σ T := ⟨h.1, h.2.1, h.2.2.1⟩
theorem xJ.i {σ : vc_S} {T : zT} (h : xJ σ T) (g : σ.1 0 17 = -1 ∨ zAsk (σ.1 0 17) (σ.2 54) T) : xI σ T := ⟨h.1, h.2.1, h.2.2, g⟩
theorem xCore.sc {σ τ : vc_S} {T : zT} (h : xCore σ T) (g : vc_fq xF xG σ τ) : xCore τ T := by
  refine h.of (fun b hb => g.1 b ?_) (by rw [g.1 0 (by decide)]) (by rw [g.1 0 (by decide)]) (fun b hb => g.2 b ?_)
  · simp only [xF, List.mem_cons, List.not_mem_nil, or_false] at hb ⊢; omega
  · simp only [xG, List.mem_cons, List.not_mem_nil, or_false] at hb ⊢; omega
theorem xJ.sc {σ τ : vc_S} {T : zT} (h : xJ σ T) (g : vc_fq xF xG σ τ) : xJ τ T := by
  obtain ⟨h1, h2, h3⟩ := h
  refine ⟨h1.sc g, ?_, ?_⟩
  · rw [g.1 0 (by decide)]
    rcases h2 with h2 | ⟨h2, h4, h5, h6⟩
    · exact Or.inl h2
    · exact Or.inr ⟨h2, h4.of (fun j _ hj => g.2 (29 + j) (by simp only [xG, List.mem_cons, List.not_mem_nil, or_false]; omega)), by rw [g.1 29 (by decide)]; exact h5, by rw [g.1 29 (by decide)]; exact h6⟩
  · rw [g.1 52 (by decide), g.2 53 (by decide)]
    exact h3
theorem xI.sc {σ τ : vc_S} {T : zT} (h : xI σ T) (g : vc_fq [38] yT σ τ) : xI τ T := by
  refine (h.j.sc (g.mono (by decide) (by decide))).i ?_
  rw [g.1 0 (by decide), g.2 54 (by decide)]
  exact h.2.2.2
theorem xJ.a {σ : vc_S} {T : zT} {v : Int32} (h : xJ σ T) : xJ (vc_sg σ 0 17 v) T := by
  obtain ⟨h1, h2, h3⟩ := h
  have e : ∀ b, ¬ b = 0 → (vc_sg σ 0 17 v).1 b = σ.1 b := by
    intro b hb
    funext i
    rw [vc_sg_1, if_neg hb]
  have e0 : ∀ i, ¬ i = 17 → (vc_sg σ 0 17 v).1 0 i = σ.1 0 i := by
    intro i hi
    rw [vc_sg_1, if_pos rfl, if_neg hi]
  refine ⟨h1.of (fun b hb => e b ?_) (e0 15 (by decide)) (e0 16 (by decide)) (fun b hb => rfl), ?_, ?_⟩
  · simp only [List.mem_cons, List.not_mem_nil, or_false] at hb; omega
  · rw [e0 18 (by decide)]
    rcases h2 with h2 | ⟨h2, h4, h5, h6⟩
    · exact Or.inl h2
    · exact Or.inr ⟨h2, h4.of (fun j _ hj => rfl), by rw [e 29 (by decide)]; exact h5, by rw [e 29 (by decide)]; exact h6⟩
  · rw [e 52 (by decide)]
    exact h3
theorem vc_fq.xmF {σ τ : vc_S} (h : vc_fq xF xG σ τ) : xM σ τ := h.xm (by decide) (by decide)
theorem vc_fq.xmT {σ τ : vc_S} (h : vc_fq [38] yT σ τ) : xM σ τ := h.xm (by decide) (by decide)
set_option maxHeartbeats 400000 in
/-- the trial begins -/
theorem ct_tb {K : vc_K} {T : zT} {dn : Nat → Bool} {σ : vc_S} {Q : Option Value → vc_S → Prop} (hC : xCore σ T) (h : ∀ τ, vc_fq [38] yT σ τ → yBg 38 τ (zP T dn id) (zS T) → Q none τ) : vc_C K 20 [.ref 38, .ref 5, .ref 8] σ Q := by
  refine ct_begin (o := 38) (c := zc T) (ch := zch' T) (dn := dn) (Or.inr rfl) hC.2.2.1.1 hC.2.2.2.1.1 ?_
  intro τ f1 b1
  exact h τ (f1.mono (by decide) (by decide)) b1
theorem yDn_no1 {T : zT} {i : Nat} {od : Nat → Nat} (hT : zOk T) (hi : i < 32) : yDn (-1 ^^^ (nI 1 <<< (nI i &&& 31))) (zP T (zNo1 i) od) := by
  intro j hj
  have hj : j < zc T := hj
  have := hT.2.2.2.2.1.1
  rw [vb_no _ (by omega), b_xor, b_m1 j (by omega), vb_1 hi (by omega)]
  show _ = (zNo1 i j = false)
  unfold zNo1
  by_cases h : j = i <;> simp [h]
theorem yDn_a {T : zT} {od : Nat → Nat} (hT : zOk T) : yDn (-1) (zP T zAll od) := yDn_all rfl (by have := hT.2.2.2.2.1.1; show zc T ≤ 9; omega)
set_option maxHeartbeats 400000 in
/-- the trial passes; P's n, s, changes are the state's -/
theorem ct_tp {K : vc_K} {T : zT} {P : yP} {S : yS} {dn : Int32} {σ : vc_S} {Q : Option Value → vc_S → Prop} (hB : yBg 38 σ P S) (hC : yCg 11 σ P) (hdn : yDn dn P) (hok : yWok P S.1) (hn : P.1 = zn T) (h : ∀ τ, vc_fq [38] yT σ τ → yRw 38 τ P S 30 → τ.1 38 8 = nI (zn T) → Q none τ) : vc_C K 21 [.ref 38, .ref 11, .int dn] σ Q := by
  obtain ⟨p1, p2, p3, p4, p5, p6⟩ := hB
  refine ct_pass (o := 38) (c := 11) (Or.inr rfl) (Or.inl rfl) p1 hC hdn p2 hok p3 p4 p5 p6 ?_
  intro τ f1 r1
  exact h τ (f1.q (by decide)) r1 (by rw [f1.1, p1.2.2, hn])
theorem zAllB_t {c : Nat → Bool} : ∀ n, zAllB c n = true ↔ ∀ i, i < n → c i = true
  | 0 => ⟨fun _ i hi => by omega, fun _ => rfl⟩
  | n + 1 => by
    unfold zAllB
    rw [Bool.and_eq_true, zAllB_t n]
    refine ⟨fun h i hi => ?_, fun h => ⟨fun i hi => h i (by omega), h n (by omega)⟩⟩
    by_cases e : i = n
    · rw [e]; exact h.2
    · exact h.1 i (by omega)
theorem zAllB_f {c : Nat → Bool} {n i : Nat} (hi : i < n) (h : c i = false) : zAllB c n = false := by
  cases hz : zAllB c n with
  | false => rfl
  | true =>
    rw [(zAllB_t n).mp hz i hi] at h
    cases h
set_option maxHeartbeats 400000 in
set_option maxRecDepth 100000 in
theorem ct_agree {K : vc_K} {T : zT} {P : yP} {S : yS} {σ : vc_S} {Q : Option Value → vc_S → Prop} (hT : zOk T) (hC : xCore σ T) (hR : yRw 38 σ P S 30) (hb : σ.1 38 8 = nI (zn T)) (h : Q (some (.int (zb (zAgr T P S)))) σ) : vc_C K 37 [.ref 15, .ref 38] σ Q := by
  have hn := zn_le hT
  obtain ⟨he8, hse⟩ := hT.2.2.2.2.2.1
  obtain ⟨s1, s2⟩ := hC.2.2.2.2.2.2.1
  have c54 : ∀ i, zAgr T P S = false → vc_G K 37 54 [some (.ref 15), some (.ref 38), i] [] σ Q := by
    intro i hz
    refine g_37_54 ?_
    simp only [vc_wi, vc_li, vc_ll, vc_lr, vc_i1, vc_i2, vc_l1, vc_l2, vc_il, vc_r1, vc_ri, vc_rii, vc_rx, vc_cp, vc_s1, vc_s2, vc_fg, vc_cm, vc_ald, vc_bld, vc_ast, vc_bst, vc_len, vc_gf, vc_pf, vc_cpy, vc_ct, List.getElem?_cons_zero, List.getElem?_cons_succ, List.set_cons_zero, List.set_cons_succ, List.take_succ_cons, List.take_zero, List.drop_succ_cons, List.drop_zero, List.reverse_cons, List.reverse_nil, List.nil_append, List.cons_append, Option.toList_some, Option.toList_none, List.map_cons, List.map_nil, List.sum_cons, List.sum_nil, List.length_cons, List.length_nil, Value.category, Nat.reduceEqDiff, Nat.reduceLeDiff, Nat.reduceAdd, reduceIte, true_and, and_true, B_37_54, rt_37, cls_0, fld_0_0, fld_0_1, fld_0_2, fld_0_3, fld_0_4, fld_0_5, fld_0_6, fld_0_7, fld_0_8, fld_0_9, fld_0_10, fld_0_11, fld_0_12, fld_0_13, fld_0_14, fld_0_15, fld_0_16, fld_0_17, fld_0_18, cls_1, fld_1_0, fld_1_1, arr_2, cls_3, fld_3_0, fld_3_1, arr_4, cls_5, fld_5_0, fld_5_1, fld_5_2, fld_5_3, arr_6, arr_7, cls_8, fld_8_0, fld_8_1, fld_8_2, fld_8_3, arr_9, arr_10, cls_11, fld_11_0, fld_11_1, fld_11_2, fld_11_3, arr_12, arr_13, arr_14, cls_15, fld_15_0, fld_15_1, fld_15_2, fld_15_3, fld_15_4, arr_16, arr_17, arr_18, arr_19, lay_20, cls_21, fld_21_0, fld_21_1, fld_21_2, fld_21_3, arr_22, cls_23, fld_23_0, fld_23_1, fld_23_2, fld_23_3, arr_24, cls_25, fld_25_0, fld_25_1, fld_25_2, fld_25_3, arr_26, cls_27, fld_27_0, fld_27_1, fld_27_2, fld_27_3, arr_28, cls_47, fld_47_0, fld_47_1, fld_47_2, fld_47_3, arr_48, arr_49, arr_50, cls_51, fld_51_0, cls_52, fld_52_0, fld_52_1, arr_53, arr_54, arr_55, arr_56, cls_29, fld_29_0, fld_29_1, fld_29_2, fld_29_3, fld_29_4, fld_29_5, fld_29_6, fld_29_7, fld_29_8, fld_29_9, arr_30, arr_31, arr_32, arr_33, arr_34, arr_35, arr_36, arr_37, cls_38, fld_38_0, fld_38_1, fld_38_2, fld_38_3, fld_38_4, fld_38_5, fld_38_6, fld_38_7, fld_38_8, fld_38_9, arr_39, arr_40, arr_41, arr_42, arr_43, arr_44, arr_45, arr_46]
    try simp (disch := omega) only [vc_brT, vc_brF, vc_anT, vc_brt, vc_brf, vc_ant, vn_n0, vn_in, vn_cl, vn_lt, vn_le, vn_eq, vn_sub, vn_div, vn_rem, vn_mod, vn_m1, vn_m1n, vn_m1p, nI_add, pk_mul, vc_sa_1, vc_sa_2, vc_sg_1, vc_sg_2, Nat.reduceEqDiff, Nat.reduceLeDiff, Nat.reduceAdd, Nat.reduceMul, Nat.reduceSub, Nat.not_lt_zero, Nat.add_left_cancel_iff, reduceIte, true_and, and_true, not_false_eq_true, not_true_eq_false, true_or, or_true, Bool.false_eq_true]
    rw [hz] at h
    exact h
  have lp : ∀ (m i : Nat), i + m = ze T → (∀ j, j < i → (decide ((zse T j).2.1 < zn T) && decide ((yRun P S ((zse T j).1 + 1)).2.1 (3 * (zse T j).2.1 + (zse T j).2.2.1) = (zse T j).2.2.2)) = true) → vc_G K 37 2 [some (.ref 15), some (.ref 38), some (.int (nI i))] [] σ Q := by
    intro m
    induction m with
    | zero =>
      intro i hi ha
      refine g_37_2 ?_
      simp only [vc_wi, vc_li, vc_ll, vc_lr, vc_i1, vc_i2, vc_l1, vc_l2, vc_il, vc_r1, vc_ri, vc_rii, vc_rx, vc_cp, vc_s1, vc_s2, vc_fg, vc_cm, vc_ald, vc_bld, vc_ast, vc_bst, vc_len, vc_gf, vc_pf, vc_cpy, vc_ct, List.getElem?_cons_zero, List.getElem?_cons_succ, List.set_cons_zero, List.set_cons_succ, List.take_succ_cons, List.take_zero, List.drop_succ_cons, List.drop_zero, List.reverse_cons, List.reverse_nil, List.nil_append, List.cons_append, Option.toList_some, Option.toList_none, List.map_cons, List.map_nil, List.sum_cons, List.sum_nil, List.length_cons, List.length_nil, Value.category, Nat.reduceEqDiff, Nat.reduceLeDiff, Nat.reduceAdd, reduceIte, true_and, and_true, B_37_2, rt_37, cls_0, fld_0_0, fld_0_1, fld_0_2, fld_0_3, fld_0_4, fld_0_5, fld_0_6, fld_0_7, fld_0_8, fld_0_9, fld_0_10, fld_0_11, fld_0_12, fld_0_13, fld_0_14, fld_0_15, fld_0_16, fld_0_17, fld_0_18, cls_1, fld_1_0, fld_1_1, arr_2, cls_3, fld_3_0, fld_3_1, arr_4, cls_5, fld_5_0, fld_5_1, fld_5_2, fld_5_3, arr_6, arr_7, cls_8, fld_8_0, fld_8_1, fld_8_2, fld_8_3, arr_9, arr_10, cls_11, fld_11_0, fld_11_1, fld_11_2, fld_11_3, arr_12, arr_13, arr_14, cls_15, fld_15_0, fld_15_1, fld_15_2, fld_15_3, fld_15_4, arr_16, arr_17, arr_18, arr_19, lay_20, cls_21, fld_21_0, fld_21_1, fld_21_2, fld_21_3, arr_22, cls_23, fld_23_0, fld_23_1, fld_23_2, fld_23_3, arr_24, cls_25, fld_25_0, fld_25_1, fld_25_2, fld_25_3, arr_26, cls_27, fld_27_0, fld_27_1, fld_27_2, fld_27_3, arr_28, cls_47, fld_47_0, fld_47_1, fld_47_2, fld_47_3, arr_48, arr_49, arr_50, cls_51, fld_51_0, cls_52, fld_52_0, fld_52_1, arr_53, arr_54, arr_55, arr_56, cls_29, fld_29_0, fld_29_1, fld_29_2, fld_29_3, fld_29_4, fld_29_5, fld_29_6, fld_29_7, fld_29_8, fld_29_9, arr_30, arr_31, arr_32, arr_33, arr_34, arr_35, arr_36, arr_37, cls_38, fld_38_0, fld_38_1, fld_38_2, fld_38_3, fld_38_4, fld_38_5, fld_38_6, fld_38_7, fld_38_8, fld_38_9, arr_39, arr_40, arr_41, arr_42, arr_43, arr_44, arr_45, arr_46]
      try simp (disch := omega) only [vc_brT, vc_brF, vc_anT, vc_brt, vc_brf, vc_ant, vn_n0, vn_in, vn_cl, vn_lt, vn_le, vn_eq, vn_sub, vn_div, vn_rem, vn_mod, vn_m1, vn_m1n, vn_m1p, nI_add, pk_mul, vc_sa_1, vc_sa_2, vc_sg_1, vc_sg_2, Nat.reduceEqDiff, Nat.reduceLeDiff, Nat.reduceAdd, Nat.reduceMul, Nat.reduceSub, Nat.not_lt_zero, Nat.add_left_cancel_iff, reduceIte, true_and, and_true, not_false_eq_true, not_true_eq_false, true_or, or_true, Bool.false_eq_true, s1]
      refine g_37_62 ?_
      simp only [vc_wi, vc_li, vc_ll, vc_lr, vc_i1, vc_i2, vc_l1, vc_l2, vc_il, vc_r1, vc_ri, vc_rii, vc_rx, vc_cp, vc_s1, vc_s2, vc_fg, vc_cm, vc_ald, vc_bld, vc_ast, vc_bst, vc_len, vc_gf, vc_pf, vc_cpy, vc_ct, List.getElem?_cons_zero, List.getElem?_cons_succ, List.set_cons_zero, List.set_cons_succ, List.take_succ_cons, List.take_zero, List.drop_succ_cons, List.drop_zero, List.reverse_cons, List.reverse_nil, List.nil_append, List.cons_append, Option.toList_some, Option.toList_none, List.map_cons, List.map_nil, List.sum_cons, List.sum_nil, List.length_cons, List.length_nil, Value.category, Nat.reduceEqDiff, Nat.reduceLeDiff, Nat.reduceAdd, reduceIte, true_and, and_true, B_37_62, rt_37, cls_0, fld_0_0, fld_0_1, fld_0_2, fld_0_3, fld_0_4, fld_0_5, fld_0_6, fld_0_7, fld_0_8, fld_0_9, fld_0_10, fld_0_11, fld_0_12, fld_0_13, fld_0_14, fld_0_15, fld_0_16, fld_0_17, fld_0_18, cls_1, fld_1_0, fld_1_1, arr_2, cls_3, fld_3_0, fld_3_1, arr_4, cls_5, fld_5_0, fld_5_1, fld_5_2, fld_5_3, arr_6, arr_7, cls_8, fld_8_0, fld_8_1, fld_8_2, fld_8_3, arr_9, arr_10, cls_11, fld_11_0, fld_11_1, fld_11_2, fld_11_3, arr_12, arr_13, arr_14, cls_15, fld_15_0, fld_15_1, fld_15_2, fld_15_3, fld_15_4, arr_16, arr_17, arr_18, arr_19, lay_20, cls_21, fld_21_0, fld_21_1, fld_21_2, fld_21_3, arr_22, cls_23, fld_23_0, fld_23_1, fld_23_2, fld_23_3, arr_24, cls_25, fld_25_0, fld_25_1, fld_25_2, fld_25_3, arr_26, cls_27, fld_27_0, fld_27_1, fld_27_2, fld_27_3, arr_28, cls_47, fld_47_0, fld_47_1, fld_47_2, fld_47_3, arr_48, arr_49, arr_50, cls_51, fld_51_0, cls_52, fld_52_0, fld_52_1, arr_53, arr_54, arr_55, arr_56, cls_29, fld_29_0, fld_29_1, fld_29_2, fld_29_3, fld_29_4, fld_29_5, fld_29_6, fld_29_7, fld_29_8, fld_29_9, arr_30, arr_31, arr_32, arr_33, arr_34, arr_35, arr_36, arr_37, cls_38, fld_38_0, fld_38_1, fld_38_2, fld_38_3, fld_38_4, fld_38_5, fld_38_6, fld_38_7, fld_38_8, fld_38_9, arr_39, arr_40, arr_41, arr_42, arr_43, arr_44, arr_45, arr_46]
      try simp (disch := omega) only [vc_brT, vc_brF, vc_anT, vc_brt, vc_brf, vc_ant, vn_n0, vn_in, vn_cl, vn_lt, vn_le, vn_eq, vn_sub, vn_div, vn_rem, vn_mod, vn_m1, vn_m1n, vn_m1p, nI_add, pk_mul, vc_sa_1, vc_sa_2, vc_sg_1, vc_sg_2, Nat.reduceEqDiff, Nat.reduceLeDiff, Nat.reduceAdd, Nat.reduceMul, Nat.reduceSub, Nat.not_lt_zero, Nat.add_left_cancel_iff, reduceIte, true_and, and_true, not_false_eq_true, not_true_eq_false, true_or, or_true, Bool.false_eq_true]
      have e : zAgr T P S = true := (zAllB_t _).mpr (fun j hj => ha j (by omega))
      rw [e] at h
      exact h
    | succ m ih =>
      intro i hi ha
      obtain ⟨d1, d2, d3, d4⟩ := s2 i (by omega)
      obtain ⟨e1, e2, e3, e4⟩ := hse i (by omega)
      refine g_37_2 ?_
      simp only [vc_wi, vc_li, vc_ll, vc_lr, vc_i1, vc_i2, vc_l1, vc_l2, vc_il, vc_r1, vc_ri, vc_rii, vc_rx, vc_cp, vc_s1, vc_s2, vc_fg, vc_cm, vc_ald, vc_bld, vc_ast, vc_bst, vc_len, vc_gf, vc_pf, vc_cpy, vc_ct, List.getElem?_cons_zero, List.getElem?_cons_succ, List.set_cons_zero, List.set_cons_succ, List.take_succ_cons, List.take_zero, List.drop_succ_cons, List.drop_zero, List.reverse_cons, List.reverse_nil, List.nil_append, List.cons_append, Option.toList_some, Option.toList_none, List.map_cons, List.map_nil, List.sum_cons, List.sum_nil, List.length_cons, List.length_nil, Value.category, Nat.reduceEqDiff, Nat.reduceLeDiff, Nat.reduceAdd, reduceIte, true_and, and_true, B_37_2, rt_37, cls_0, fld_0_0, fld_0_1, fld_0_2, fld_0_3, fld_0_4, fld_0_5, fld_0_6, fld_0_7, fld_0_8, fld_0_9, fld_0_10, fld_0_11, fld_0_12, fld_0_13, fld_0_14, fld_0_15, fld_0_16, fld_0_17, fld_0_18, cls_1, fld_1_0, fld_1_1, arr_2, cls_3, fld_3_0, fld_3_1, arr_4, cls_5, fld_5_0, fld_5_1, fld_5_2, fld_5_3, arr_6, arr_7, cls_8, fld_8_0, fld_8_1, fld_8_2, fld_8_3, arr_9, arr_10, cls_11, fld_11_0, fld_11_1, fld_11_2, fld_11_3, arr_12, arr_13, arr_14, cls_15, fld_15_0, fld_15_1, fld_15_2, fld_15_3, fld_15_4, arr_16, arr_17, arr_18, arr_19, lay_20, cls_21, fld_21_0, fld_21_1, fld_21_2, fld_21_3, arr_22, cls_23, fld_23_0, fld_23_1, fld_23_2, fld_23_3, arr_24, cls_25, fld_25_0, fld_25_1, fld_25_2, fld_25_3, arr_26, cls_27, fld_27_0, fld_27_1, fld_27_2, fld_27_3, arr_28, cls_47, fld_47_0, fld_47_1, fld_47_2, fld_47_3, arr_48, arr_49, arr_50, cls_51, fld_51_0, cls_52, fld_52_0, fld_52_1, arr_53, arr_54, arr_55, arr_56, cls_29, fld_29_0, fld_29_1, fld_29_2, fld_29_3, fld_29_4, fld_29_5, fld_29_6, fld_29_7, fld_29_8, fld_29_9, arr_30, arr_31, arr_32, arr_33, arr_34, arr_35, arr_36, arr_37, cls_38, fld_38_0, fld_38_1, fld_38_2, fld_38_3, fld_38_4, fld_38_5, fld_38_6, fld_38_7, fld_38_8, fld_38_9, arr_39, arr_40, arr_41, arr_42, arr_43, arr_44, arr_45, arr_46]
      try simp (disch := omega) only [vc_brT, vc_brF, vc_anT, vc_brt, vc_brf, vc_ant, vn_n0, vn_in, vn_cl, vn_lt, vn_le, vn_eq, vn_sub, vn_div, vn_rem, vn_mod, vn_m1, vn_m1n, vn_m1p, nI_add, pk_mul, vc_sa_1, vc_sa_2, vc_sg_1, vc_sg_2, Nat.reduceEqDiff, Nat.reduceLeDiff, Nat.reduceAdd, Nat.reduceMul, Nat.reduceSub, Nat.not_lt_zero, Nat.add_left_cancel_iff, reduceIte, true_and, and_true, not_false_eq_true, not_true_eq_false, true_or, or_true, Bool.false_eq_true, s1, d2, hb]
      refine vc_br_i (fun q => c54 _ (zAllB_f (i := i) (by omega) ?_)) (fun q => ?_)
      · rw [decide_eq_false (by omega)]
        rfl
      · try simp only [d1, d2, d3]
        refine ct_knownBehind (o := 38) (Or.inr rfl) e1 e2 e3 ?_
        have r := (hR.1 ((zse T i).1 + 1) (by omega)).2.1 (3 * (zse T i).2.1 + (zse T i).2.2.1) (by omega)
        have r2 := r.2
        simp only [vc_wi, vc_li, vc_ll, vc_lr, vc_i1, vc_i2, vc_l1, vc_l2, vc_il, vc_r1, vc_ri, vc_rii, vc_rx, vc_cp, vc_s1, vc_s2, vc_fg, vc_cm, vc_ald, vc_bld, vc_ast, vc_bst, vc_len, vc_gf, vc_pf, vc_cpy, vc_ct, List.getElem?_cons_zero, List.getElem?_cons_succ, List.set_cons_zero, List.set_cons_succ, List.take_succ_cons, List.take_zero, List.drop_succ_cons, List.drop_zero, List.reverse_cons, List.reverse_nil, List.nil_append, List.cons_append, Option.toList_some, Option.toList_none, List.map_cons, List.map_nil, List.sum_cons, List.sum_nil, List.length_cons, List.length_nil, Value.category, Nat.reduceEqDiff, Nat.reduceLeDiff, Nat.reduceAdd, reduceIte, true_and, and_true, rt_37, cls_0, fld_0_0, fld_0_1, fld_0_2, fld_0_3, fld_0_4, fld_0_5, fld_0_6, fld_0_7, fld_0_8, fld_0_9, fld_0_10, fld_0_11, fld_0_12, fld_0_13, fld_0_14, fld_0_15, fld_0_16, fld_0_17, fld_0_18, cls_1, fld_1_0, fld_1_1, arr_2, cls_3, fld_3_0, fld_3_1, arr_4, cls_5, fld_5_0, fld_5_1, fld_5_2, fld_5_3, arr_6, arr_7, cls_8, fld_8_0, fld_8_1, fld_8_2, fld_8_3, arr_9, arr_10, cls_11, fld_11_0, fld_11_1, fld_11_2, fld_11_3, arr_12, arr_13, arr_14, cls_15, fld_15_0, fld_15_1, fld_15_2, fld_15_3, fld_15_4, arr_16, arr_17, arr_18, arr_19, lay_20, cls_21, fld_21_0, fld_21_1, fld_21_2, fld_21_3, arr_22, cls_23, fld_23_0, fld_23_1, fld_23_2, fld_23_3, arr_24, cls_25, fld_25_0, fld_25_1, fld_25_2, fld_25_3, arr_26, cls_27, fld_27_0, fld_27_1, fld_27_2, fld_27_3, arr_28, cls_47, fld_47_0, fld_47_1, fld_47_2, fld_47_3, arr_48, arr_49, arr_50, cls_51, fld_51_0, cls_52, fld_52_0, fld_52_1, arr_53, arr_54, arr_55, arr_56, cls_29, fld_29_0, fld_29_1, fld_29_2, fld_29_3, fld_29_4, fld_29_5, fld_29_6, fld_29_7, fld_29_8, fld_29_9, arr_30, arr_31, arr_32, arr_33, arr_34, arr_35, arr_36, arr_37, cls_38, fld_38_0, fld_38_1, fld_38_2, fld_38_3, fld_38_4, fld_38_5, fld_38_6, fld_38_7, fld_38_8, fld_38_9, arr_39, arr_40, arr_41, arr_42, arr_43, arr_44, arr_45, arr_46]
        try simp (disch := omega) only [vc_brT, vc_brF, vc_anT, vc_brt, vc_brf, vc_ant, vn_n0, vn_in, vn_cl, vn_lt, vn_le, vn_eq, vn_sub, vn_div, vn_rem, vn_mod, vn_m1, vn_m1n, vn_m1p, nI_add, pk_mul, vc_sa_1, vc_sa_2, vc_sg_1, vc_sg_2, Nat.reduceEqDiff, Nat.reduceLeDiff, Nat.reduceAdd, Nat.reduceMul, Nat.reduceSub, Nat.not_lt_zero, Nat.add_left_cancel_iff, reduceIte, true_and, and_true, not_false_eq_true, not_true_eq_false, true_or, or_true, Bool.false_eq_true, r.1, d4]
        refine vc_br_i (fun q2 => ?_) (fun q2 => ?_)
        · refine g_37_56 ?_
          simp only [vc_wi, vc_li, vc_ll, vc_lr, vc_i1, vc_i2, vc_l1, vc_l2, vc_il, vc_r1, vc_ri, vc_rii, vc_rx, vc_cp, vc_s1, vc_s2, vc_fg, vc_cm, vc_ald, vc_bld, vc_ast, vc_bst, vc_len, vc_gf, vc_pf, vc_cpy, vc_ct, List.getElem?_cons_zero, List.getElem?_cons_succ, List.set_cons_zero, List.set_cons_succ, List.take_succ_cons, List.take_zero, List.drop_succ_cons, List.drop_zero, List.reverse_cons, List.reverse_nil, List.nil_append, List.cons_append, Option.toList_some, Option.toList_none, List.map_cons, List.map_nil, List.sum_cons, List.sum_nil, List.length_cons, List.length_nil, Value.category, Nat.reduceEqDiff, Nat.reduceLeDiff, Nat.reduceAdd, reduceIte, true_and, and_true, B_37_56, rt_37, cls_0, fld_0_0, fld_0_1, fld_0_2, fld_0_3, fld_0_4, fld_0_5, fld_0_6, fld_0_7, fld_0_8, fld_0_9, fld_0_10, fld_0_11, fld_0_12, fld_0_13, fld_0_14, fld_0_15, fld_0_16, fld_0_17, fld_0_18, cls_1, fld_1_0, fld_1_1, arr_2, cls_3, fld_3_0, fld_3_1, arr_4, cls_5, fld_5_0, fld_5_1, fld_5_2, fld_5_3, arr_6, arr_7, cls_8, fld_8_0, fld_8_1, fld_8_2, fld_8_3, arr_9, arr_10, cls_11, fld_11_0, fld_11_1, fld_11_2, fld_11_3, arr_12, arr_13, arr_14, cls_15, fld_15_0, fld_15_1, fld_15_2, fld_15_3, fld_15_4, arr_16, arr_17, arr_18, arr_19, lay_20, cls_21, fld_21_0, fld_21_1, fld_21_2, fld_21_3, arr_22, cls_23, fld_23_0, fld_23_1, fld_23_2, fld_23_3, arr_24, cls_25, fld_25_0, fld_25_1, fld_25_2, fld_25_3, arr_26, cls_27, fld_27_0, fld_27_1, fld_27_2, fld_27_3, arr_28, cls_47, fld_47_0, fld_47_1, fld_47_2, fld_47_3, arr_48, arr_49, arr_50, cls_51, fld_51_0, cls_52, fld_52_0, fld_52_1, arr_53, arr_54, arr_55, arr_56, cls_29, fld_29_0, fld_29_1, fld_29_2, fld_29_3, fld_29_4, fld_29_5, fld_29_6, fld_29_7, fld_29_8, fld_29_9, arr_30, arr_31, arr_32, arr_33, arr_34, arr_35, arr_36, arr_37, cls_38, fld_38_0, fld_38_1, fld_38_2, fld_38_3, fld_38_4, fld_38_5, fld_38_6, fld_38_7, fld_38_8, fld_38_9, arr_39, arr_40, arr_41, arr_42, arr_43, arr_44, arr_45, arr_46]
          try simp (disch := omega) only [vc_brT, vc_brF, vc_anT, vc_brt, vc_brf, vc_ant, vn_n0, vn_in, vn_cl, vn_lt, vn_le, vn_eq, vn_sub, vn_div, vn_rem, vn_mod, vn_m1, vn_m1n, vn_m1p, nI_add, pk_mul, vc_sa_1, vc_sa_2, vc_sg_1, vc_sg_2, Nat.reduceEqDiff, Nat.reduceLeDiff, Nat.reduceAdd, Nat.reduceMul, Nat.reduceSub, Nat.not_lt_zero, Nat.add_left_cancel_iff, reduceIte, true_and, and_true, not_false_eq_true, not_true_eq_false, true_or, or_true, Bool.false_eq_true]
          refine ih (i + 1) (by omega) (fun j hj => ?_)
          by_cases ej : j = i
          · rw [ej, decide_eq_true (by omega), decide_eq_true q2]
            rfl
          · exact ha j (by omega)
        · exact c54 _ (zAllB_f (i := i) (by omega) (by rw [decide_eq_false q2, Bool.and_false]))
  refine vc_C_of (ls0 := [some (.ref 15), some (.ref 38), none]) hk_37 (Nat.le_of_ble_eq_true rfl) rfl ?_
  refine g_37_0 ?_
  simp only [vc_wi, vc_li, vc_ll, vc_lr, vc_i1, vc_i2, vc_l1, vc_l2, vc_il, vc_r1, vc_ri, vc_rii, vc_rx, vc_cp, vc_s1, vc_s2, vc_fg, vc_cm, vc_ald, vc_bld, vc_ast, vc_bst, vc_len, vc_gf, vc_pf, vc_cpy, vc_ct, List.getElem?_cons_zero, List.getElem?_cons_succ, List.set_cons_zero, List.set_cons_succ, List.take_succ_cons, List.take_zero, List.drop_succ_cons, List.drop_zero, List.reverse_cons, List.reverse_nil, List.nil_append, List.cons_append, Option.toList_some, Option.toList_none, List.map_cons, List.map_nil, List.sum_cons, List.sum_nil, List.length_cons, List.length_nil, Value.category, Nat.reduceEqDiff, Nat.reduceLeDiff, Nat.reduceAdd, reduceIte, true_and, and_true, B_37_0, rt_37, cls_0, fld_0_0, fld_0_1, fld_0_2, fld_0_3, fld_0_4, fld_0_5, fld_0_6, fld_0_7, fld_0_8, fld_0_9, fld_0_10, fld_0_11, fld_0_12, fld_0_13, fld_0_14, fld_0_15, fld_0_16, fld_0_17, fld_0_18, cls_1, fld_1_0, fld_1_1, arr_2, cls_3, fld_3_0, fld_3_1, arr_4, cls_5, fld_5_0, fld_5_1, fld_5_2, fld_5_3, arr_6, arr_7, cls_8, fld_8_0, fld_8_1, fld_8_2, fld_8_3, arr_9, arr_10, cls_11, fld_11_0, fld_11_1, fld_11_2, fld_11_3, arr_12, arr_13, arr_14, cls_15, fld_15_0, fld_15_1, fld_15_2, fld_15_3, fld_15_4, arr_16, arr_17, arr_18, arr_19, lay_20, cls_21, fld_21_0, fld_21_1, fld_21_2, fld_21_3, arr_22, cls_23, fld_23_0, fld_23_1, fld_23_2, fld_23_3, arr_24, cls_25, fld_25_0, fld_25_1, fld_25_2, fld_25_3, arr_26, cls_27, fld_27_0, fld_27_1, fld_27_2, fld_27_3, arr_28, cls_47, fld_47_0, fld_47_1, fld_47_2, fld_47_3, arr_48, arr_49, arr_50, cls_51, fld_51_0, cls_52, fld_52_0, fld_52_1, arr_53, arr_54, arr_55, arr_56, cls_29, fld_29_0, fld_29_1, fld_29_2, fld_29_3, fld_29_4, fld_29_5, fld_29_6, fld_29_7, fld_29_8, fld_29_9, arr_30, arr_31, arr_32, arr_33, arr_34, arr_35, arr_36, arr_37, cls_38, fld_38_0, fld_38_1, fld_38_2, fld_38_3, fld_38_4, fld_38_5, fld_38_6, fld_38_7, fld_38_8, fld_38_9, arr_39, arr_40, arr_41, arr_42, arr_43, arr_44, arr_45, arr_46]
  try simp (disch := omega) only [vc_brT, vc_brF, vc_anT, vc_brt, vc_brf, vc_ant, vn_n0, vn_in, vn_cl, vn_lt, vn_le, vn_eq, vn_sub, vn_div, vn_rem, vn_mod, vn_m1, vn_m1n, vn_m1p, nI_add, pk_mul, vc_sa_1, vc_sa_2, vc_sg_1, vc_sg_2, Nat.reduceEqDiff, Nat.reduceLeDiff, Nat.reduceAdd, Nat.reduceMul, Nat.reduceSub, Nat.not_lt_zero, Nat.add_left_cancel_iff, reduceIte, true_and, and_true, not_false_eq_true, not_true_eq_false, true_or, or_true, Bool.false_eq_true]
  exact lp (ze T) 0 (by omega) (fun j hj => by omega)
