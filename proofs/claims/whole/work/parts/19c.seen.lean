-- ===== seen =====
def sSe (T : zT) (e : Nat) (se : Nat → Nat × Nat × Nat × Nat) : zT := (T.1, T.2.1, T.2.2.1, T.2.2.2.1, T.2.2.2.2.1, T.2.2.2.2.2.1, T.2.2.2.2.2.2.1, T.2.2.2.2.2.2.2.1, T.2.2.2.2.2.2.2.2.1, e, se, T.2.2.2.2.2.2.2.2.2.2.2)
theorem zTal_se {f : Nat → Int32} {T : zT} {e : Nat} {se : Nat → Nat × Nat × Nat × Nat} (h : zTal f T) : zTal f (sSe T e se) := h.cg ⟨rfl, rfl, rfl, rfl, rfl, rfl, rfl, rfl⟩
theorem xCore.se {σ τ : vc_S} {T : zT} {e : Nat} {se : Nat → Nat × Nat × Nat × Nat} (h : xCore σ T) (g1 : ∀ b, b ∈ [1, 3, 5, 8, 11, 21, 23, 25, 27] → τ.1 b = σ.1 b) (g2 : τ.1 0 15 = σ.1 0 15) (g3 : τ.1 0 16 = σ.1 0 16) (g4 : ∀ b, b ∈ [2, 4, 6, 7, 9, 10, 12, 13, 14, 22, 24, 26, 28] → τ.2 b = σ.2 b) (hc : τ.1 15 4 = nI e) (hse : ∀ i, i < e → τ.2 16 i = nI (se i).1 ∧ τ.2 17 i = nI (se i).2.1 ∧ τ.2 18 i = nI (se i).2.2.1 ∧ τ.2 19 i = nI (se i).2.2.2) : xCore τ (sSe T e se) := by
  have h' : xCore (fun b => if b = 15 then σ.1 15 else τ.1 b, fun b => if b = 16 ∨ b = 17 ∨ b = 18 ∨ b = 19 then σ.2 b else τ.2 b) T := by
    refine h.of (fun b hb => ?_) g2 g3 (fun b hb => ?_)
    · show (if b = 15 then _ else _) = _
      by_cases hb1 : b = 15
      · rw [if_pos hb1, hb1]
      · rw [if_neg hb1]
        exact g1 b (by simp only [List.mem_cons, List.not_mem_nil, or_false] at hb ⊢; omega)
    · show (if _ then _ else _) = _
      by_cases hb1 : b = 16 ∨ b = 17 ∨ b = 18 ∨ b = 19
      · rw [if_pos hb1]
      · rw [if_neg hb1]
        exact g4 b (by simp only [List.mem_cons, List.not_mem_nil, or_false] at hb ⊢; omega)
  obtain ⟨h1, h2, h3, h4, h5, h6, -, h8, h9⟩ := h'
  refine ⟨h1, h2, h3, h4, h5, h6, ⟨hc, hse⟩, h8, fun s hs => ?_⟩
  have := h9 s hs
  have e1 : ¬ (21 + 2 * s = 15) := by omega
  have e2 : ¬ (22 + 2 * s = 16 ∨ 22 + 2 * s = 17 ∨ 22 + 2 * s = 18 ∨ 22 + 2 * s = 19) := by omega
  simp only [if_neg e1, if_neg e2] at this
  exact this
/-- told and tally don't hang on what was seen -/
theorem xCa.se {σ τ : vc_S} {T : zT} {e : Nat} {se : Nat → Nat × Nat × Nat × Nat} (h : xCa σ T) (h18 : τ.1 0 18 = σ.1 0 18) (h17 : τ.1 0 17 = -1) (h29 : τ.1 29 = σ.1 29) (h52 : τ.1 52 = σ.1 52) (h2 : ∀ b, 29 ≤ b → τ.2 b = σ.2 b) : xCa τ (sSe T e se) := by
  obtain ⟨a, b, -⟩ := h
  refine ⟨?_, ?_, Or.inl h17⟩
  · rw [h18]
    rcases a with a | ⟨a, c⟩
    · exact Or.inl a
    · exact Or.inr ⟨a, c.of (fun j _ _ => h2 _ (by omega)) h29 rfl rfl rfl rfl⟩
  · rw [h52, h2 53 (by omega)]
    rcases b with b | ⟨b, c⟩
    · exact Or.inl b
    · exact Or.inr ⟨b, zTal_se c⟩
theorem zForgetT_ok {T : zT} (h : zOk T) : zOk (sSe T 0 (zse T)) := by
  obtain ⟨a1, a2, a3, a4, a5, -, a7⟩ := h
  refine ⟨a1, a2, a3, a4, a5, ⟨?_, fun i hi => ?_⟩, a7⟩
  · show (0 : Nat) ≤ 8
    omega
  · exact absurd (show i < 0 from hi) (by omega)
set_option maxHeartbeats 400000 in
set_option maxRecDepth 100000 in
theorem cx_forget {K : vc_K} {T : zT} {σ : vc_S} {Q : Option Value → vc_S → Prop} (_hT : zOk T) (hI : xI σ T) (h : ∀ τ, xI τ (sSe T 0 (zse T)) → xM σ τ → Q (some (.int (nI (ze T)))) τ) : vc_C K 65 [.ref 0] σ Q := by
  have c1 := hI.1.2.2.2.2.2.2.1.1
  refine vc_C_of (ls0 := [some (.ref 0), none]) hk_65 (Nat.le_of_ble_eq_true rfl) rfl ?_
  refine g_65_0 ?_
  simp only [vc_wi, vc_li, vc_ll, vc_lr, vc_i1, vc_i2, vc_l1, vc_l2, vc_il, vc_r1, vc_ri, vc_rii, vc_rx, vc_cp, vc_s1, vc_s2, vc_fg, vc_cm, vc_ald, vc_bld, vc_ast, vc_bst, vc_len, vc_gf, vc_pf, vc_cpy, vc_ct, List.getElem?_cons_zero, List.getElem?_cons_succ, List.set_cons_zero, List.set_cons_succ, List.take_succ_cons, List.take_zero, List.drop_succ_cons, List.drop_zero, List.reverse_cons, List.reverse_nil, List.nil_append, List.cons_append, Option.toList_some, Option.toList_none, List.map_cons, List.map_nil, List.sum_cons, List.sum_nil, List.length_cons, List.length_nil, Value.category, Nat.reduceEqDiff, Nat.reduceLeDiff, Nat.reduceAdd, reduceIte, true_and, and_true, B_65_0, rt_65, cls_0, fld_0_0, fld_0_1, fld_0_2, fld_0_3, fld_0_4, fld_0_5, fld_0_6, fld_0_7, fld_0_8, fld_0_9, fld_0_10, fld_0_11, fld_0_12, fld_0_13, fld_0_14, fld_0_15, fld_0_16, fld_0_17, fld_0_18, cls_1, fld_1_0, fld_1_1, arr_2, cls_3, fld_3_0, fld_3_1, arr_4, cls_5, fld_5_0, fld_5_1, fld_5_2, fld_5_3, arr_6, arr_7, cls_8, fld_8_0, fld_8_1, fld_8_2, fld_8_3, arr_9, arr_10, cls_11, fld_11_0, fld_11_1, fld_11_2, fld_11_3, arr_12, arr_13, arr_14, cls_15, fld_15_0, fld_15_1, fld_15_2, fld_15_3, fld_15_4, arr_16, arr_17, arr_18, arr_19, lay_20, cls_21, fld_21_0, fld_21_1, fld_21_2, fld_21_3, arr_22, cls_23, fld_23_0, fld_23_1, fld_23_2, fld_23_3, arr_24, cls_25, fld_25_0, fld_25_1, fld_25_2, fld_25_3, arr_26, cls_27, fld_27_0, fld_27_1, fld_27_2, fld_27_3, arr_28, cls_47, fld_47_0, fld_47_1, fld_47_2, fld_47_3, arr_48, arr_49, arr_50, cls_51, fld_51_0, cls_52, fld_52_0, fld_52_1, arr_53, arr_54, arr_55, arr_56]
  try simp (disch := omega) only [vc_brT, vc_brF, vc_anT, vc_brt, vc_brf, vc_ant, vn_n0, vn_in, vn_cl, vn_lt, vn_le, vn_eq, vn_sub, vn_div, vn_rem, vn_mod, vn_m1, vn_m1n, vn_m1p, nI_add, pk_mul, vc_sa_1, vc_sa_2, vc_sg_1, vc_sg_2, Nat.reduceEqDiff, Nat.reduceLeDiff, Nat.reduceAdd, Nat.reduceMul, Nat.reduceSub, Nat.not_lt_zero, Nat.add_left_cancel_iff, reduceIte, true_and, and_true, not_false_eq_true, not_true_eq_false, true_or, or_true, Bool.false_eq_true, c1]
  generalize hτ : vc_sg (vc_sg σ 15 4 (nI 0)) 0 17 (-1) = τ
  have e1 : ∀ b, ¬ b = 0 → ¬ b = 15 → τ.1 b = σ.1 b := fun b a1 a2 => by
    rw [← hτ]
    funext i
    rw [vc_sg_1, if_neg a1, vc_sg_1, if_neg a2]
  have e0 : ∀ i, ¬ i = 17 → τ.1 0 i = σ.1 0 i := fun i hi => by rw [← hτ, vc_sg_1, if_pos rfl, if_neg hi, vc_sg_1, if_neg (by decide)]
  have e2 : τ.2 = σ.2 := by rw [← hτ]; rfl
  have e17 : τ.1 0 17 = -1 := by rw [← hτ, vc_sg_1, if_pos rfl, if_pos rfl]
  have e4 : τ.1 15 4 = nI 0 := by rw [← hτ, vc_sg_1, if_neg (by decide), vc_sg_1, if_pos rfl, if_pos rfl]
  refine h τ ⟨hI.1.se (fun b hb => e1 b (by simp only [List.mem_cons, List.not_mem_nil, or_false] at hb; omega) (by simp only [List.mem_cons, List.not_mem_nil, or_false] at hb; omega)) (e0 15 (by decide)) (e0 16 (by decide)) (fun b _ => by rw [e2]) e4 (fun i hi => by omega), hI.2.se (e0 18 (by decide)) e17 (e1 29 (by decide) (by decide)) (e1 52 (by decide) (by decide)) (fun b _ => by rw [e2])⟩ ⟨e1 57 (by decide) (by decide), fun b _ => by rw [e2]⟩
set_option maxHeartbeats 400000 in
set_option maxRecDepth 100000 in
theorem cm_forget {K : vc_K} {T : zT} {σ : vc_S} {Q : Option Value → vc_S → Prop} (_hT : zOk T) (hI : mI σ T) (h : ∀ τ, mI τ (sSe T 0 (zse T)) → mX σ τ → Q (some (.int (nI (ze T)))) τ) : vc_C K 184 [.ref 57] σ Q := by
  obtain ⟨h1, h2, h3, h4, ⟨c1, c2⟩, h6, h7⟩ := hI
  refine vc_C_of (ls0 := [some (.ref 57), none]) hk_184 (Nat.le_of_ble_eq_true rfl) rfl ?_
  refine g_184_0 ?_
  simp only [vc_wi, vc_li, vc_ll, vc_lr, vc_i1, vc_i2, vc_l1, vc_l2, vc_il, vc_r1, vc_ri, vc_rii, vc_rx, vc_cp, vc_s1, vc_s2, vc_fg, vc_cm, vc_ald, vc_bld, vc_ast, vc_bst, vc_len, vc_gf, vc_pf, vc_cpy, vc_ct, List.getElem?_cons_zero, List.getElem?_cons_succ, List.set_cons_zero, List.set_cons_succ, List.take_succ_cons, List.take_zero, List.drop_succ_cons, List.drop_zero, List.reverse_cons, List.reverse_nil, List.nil_append, List.cons_append, Option.toList_some, Option.toList_none, List.map_cons, List.map_nil, List.sum_cons, List.sum_nil, List.length_cons, List.length_nil, Value.category, Nat.reduceEqDiff, Nat.reduceLeDiff, Nat.reduceAdd, reduceIte, true_and, and_true, B_184_0, rt_184, cls_57, fld_57_0, fld_57_1, fld_57_2, fld_57_3, fld_57_4, fld_57_5, fld_57_6, fld_57_7, fld_57_8, fld_57_9, fld_57_10, fld_57_11, fld_57_12, fld_57_13, fld_57_14, fld_57_15, fld_57_16, fld_57_17, fld_57_18, fld_57_19, fld_57_20, fld_57_21, fld_57_22, fld_57_23, fld_57_24, fld_57_25, fld_57_26, fld_57_27, fld_57_28, fld_57_29, fld_57_30, fld_57_31, fld_57_32, fld_57_33, fld_57_34, fld_57_35, fld_57_36, fld_57_37, fld_57_38, fld_57_39, fld_57_40, fld_57_41, fld_57_42, fld_57_43, arr_58, arr_59, arr_60, arr_61, arr_62, arr_63, arr_64, arr_65, arr_66, arr_67, arr_68, arr_69, arr_70, arr_71, arr_72, arr_73, arr_74, arr_75, arr_76, arr_77, arr_78, arr_79, arr_80, arr_81, arr_82, arr_83, arr_84, arr_85, arr_86, arr_87, arr_88, arr_89, arr_90, arr_91, arr_92]
  try simp (disch := omega) only [vc_brT, vc_brF, vc_anT, vc_brt, vc_brf, vc_ant, vn_n0, vn_in, vn_cl, vn_lt, vn_le, vn_eq, vn_sub, vn_div, vn_rem, vn_mod, vn_m1, vn_m1n, vn_m1p, nI_add, pk_mul, vc_sa_1, vc_sa_2, vc_sg_1, vc_sg_2, Nat.reduceEqDiff, Nat.reduceLeDiff, Nat.reduceAdd, Nat.reduceMul, Nat.reduceSub, Nat.not_lt_zero, Nat.add_left_cancel_iff, reduceIte, true_and, and_true, not_false_eq_true, not_true_eq_false, true_or, or_true, Bool.false_eq_true, c1]
  have hf : mFr [32] [] σ (vc_sg σ 57 32 (nI 0)) := mFr.rf.sg (by simp)
  refine h (vc_sg σ 57 32 (nI 0)) ⟨h1, h2, ?_, ⟨?_, h4.2⟩, ⟨?_, fun i hi => absurd (show i < 0 from hi) (by omega)⟩, ?_, h7⟩ (hf.x (by simp))
  · rw [vc_sg_1, if_pos rfl, if_neg (by decide)]
    exact h3
  · rw [vc_sg_1, if_pos rfl, if_neg (by decide)]
    exact h4.1
  · rw [vc_sg_1, if_pos rfl, if_pos rfl]
    rfl
  · rw [vc_sg_1, if_pos rfl, if_neg (by decide)]
    exact h6
def zsn (a b c d : Int32) : Bool := zlt a 30 && (zlt b 8 && (zlt c 3 && zlt d 31))
def zAddS (T : zT) (a b c d : Int32) : zT := sSe T (ze T + 1) (fun i => if i = ze T then (a.toNatClampNeg, b.toNatClampNeg, c.toNatClampNeg, d.toNatClampNeg) else zse T i)
def zSeen (T : zT) (a b c d : Int32) : Int32 := if zsn a b c d then (if ze T = 8 then (-4) else nI (ze T + 1)) else (-2)
def zSeenT (T : zT) (a b c d : Int32) : zT := if zsn a b c d then (if ze T = 8 then T else zAddS T a b c d) else T
theorem zsn_k {a b c d : Int32} (h : zsn a b c d = true) : ∃ i j k l, i < 30 ∧ j < 8 ∧ k < 3 ∧ l < 31 ∧ a = nI i ∧ b = nI j ∧ c = nI k ∧ d = nI l ∧ a.toNatClampNeg = i ∧ b.toNatClampNeg = j ∧ c.toNatClampNeg = k ∧ d.toNatClampNeg = l := by
  unfold zsn at h
  rw [Bool.and_eq_true, Bool.and_eq_true, Bool.and_eq_true] at h
  obtain ⟨h1, h2, h3, h4⟩ := h
  obtain ⟨i, hi, e1, e2⟩ := zlt_k h1 (by omega)
  obtain ⟨j, hj, e3, e4⟩ := zlt_k h2 (by omega)
  obtain ⟨k, hk, e5, e6⟩ := zlt_k h3 (by omega)
  obtain ⟨l, hl, e7, e8⟩ := zlt_k h4 (by omega)
  exact ⟨i, j, k, l, hi, hj, hk, hl, e1, e3, e5, e7, e2, e4, e6, e8⟩
theorem zSeenT_ok {T : zT} {a b c d : Int32} (h : zOk T) : zOk (zSeenT T a b c d) := by
  unfold zSeenT
  split
  · split
    · exact h
    · rename_i hz h8
      obtain ⟨i, j, k, l, hi, hj, hk, hl, -, -, -, -, e1, e2, e3, e4⟩ := zsn_k hz
      obtain ⟨a1, a2, a3, a4, a5, ⟨a6, a7⟩, a8⟩ := h
      refine ⟨a1, a2, a3, a4, a5, ⟨?_, fun m hm => ?_⟩, a8⟩
      · show ze T + 1 ≤ 8
        omega
      · have hm : m < ze T + 1 := hm
        show ((if m = ze T then _ else _) : Nat × Nat × Nat × Nat).1 < 30 ∧ ((if m = ze T then _ else _) : Nat × Nat × Nat × Nat).2.1 < 8 ∧ ((if m = ze T then _ else _) : Nat × Nat × Nat × Nat).2.2.1 < 3 ∧ ((if m = ze T then _ else _) : Nat × Nat × Nat × Nat).2.2.2 ≤ 30
        by_cases hmc : m = ze T
        · rw [if_pos hmc, e1, e2, e3, e4]
          exact ⟨hi, hj, hk, by show l ≤ 30; omega⟩
        · rw [if_neg hmc]
          exact a7 m (by omega)
  · exact h
