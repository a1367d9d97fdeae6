-- ===== texts =====
def nSo (T : zT) (t : Nat → Nat) (n : Nat) : Nat → Nat := fun k => if k < bNum t n then bSort t k else zso T k
def nFi (T : zT) (t : Nat → Nat) (n : Nat) : Nat → Nat := fun q => if q < 3 * bNum t n then bFirst t q else zfi T q
def sT0 (T : zT) (t : Nat → Nat) (n : Nat) : zT := (t, n, T.2.2.1, T.2.2.2.1, nSo T t n, nFi T t n, T.2.2.2.2.2.2)
def sT1 (T : zT) (u : Nat → Nat) (n : Nat) : zT := (T.1, T.2.1, u, n, T.2.2.2.2)
theorem bNum_none {t : Nat → Nat} {n k : Nat} (h : k < bNum t n) : bFault t n = none := by
  unfold bNum at h
  split at h
  · assumption
  · omega
theorem sT0_ok {T : zT} {t : Nat → Nat} {n : Nat} (h : zOk T) (hn : n ≤ 39) (ht : ∀ i, i < n → t i < 256) : zOk (sT0 T t n) := by
  obtain ⟨a1, a2, ⟨a3, a4, -, -⟩, a5⟩ := h
  refine ⟨⟨hn, ht⟩, a2, ⟨fun k hk => ?_, fun q hq => ?_, fun k hk => ?_, fun q hq => ?_⟩, a5⟩
  · show (if k < bNum t n then bSort t k else zso T k) ≤ 2
    split
    · exact bSort_le t k
    · exact a3 k hk
  · show (if q < 3 * bNum t n then bFirst t q else zfi T q) ≤ 9
    split
    · rename_i hq2
      exact bFirst_le (bNum_none (show q / 3 < bNum t n by omega)) hq2
    · exact a4 q hq
  · have hk : k < bNum t n := hk
    show (if k < bNum t n then bSort t k else zso T k) = bSort t k
    rw [if_pos hk]
  · have hq : q < 3 * bNum t n := hq
    show (if q < 3 * bNum t n then bFirst t q else zfi T q) = bFirst t q
    rw [if_pos hq]
theorem sT1_ok {T : zT} {u : Nat → Nat} {n : Nat} (h : zOk T) (hn : n ≤ 19) (hu : ∀ i, i < n → u i < 256) : zOk (sT1 T u n) := by
  obtain ⟨a1, -, a3⟩ := h
  exact ⟨a1, ⟨hn, hu⟩, a3⟩
theorem xCore.t0 {σ τ : vc_S} {T : zT} {t : Nat → Nat} {n : Nat} (h : xCore σ T) (g1 : ∀ b, b ∈ [3, 8, 11, 15, 21, 23, 25, 27] → τ.1 b = σ.1 b) (g2 : τ.1 0 15 = σ.1 0 15) (g3 : τ.1 0 16 = σ.1 0 16) (g4 : ∀ b, b ∈ [4, 9, 10, 12, 13, 14, 16, 17, 18, 19, 22, 24, 26, 28] → τ.2 b = σ.2 b) (h1 : xTx τ 1 t n) (h2 : xRo τ (bNum t n) (nSo T t n) (nFi T t n)) (h3 : τ.1 5 3 = vE (bFault t n)) : xCore τ (sT0 T t n) := by
  have h' : xCore (fun b => if b = 1 ∨ b = 5 then σ.1 b else τ.1 b, fun b => if b = 2 ∨ b = 6 ∨ b = 7 then σ.2 b else τ.2 b) T := by
    refine h.of (fun b hb => ?_) g2 g3 (fun b hb => ?_)
    · show (if _ then _ else _) = _
      by_cases hb1 : b = 1 ∨ b = 5
      · rw [if_pos hb1]
      · rw [if_neg hb1]
        exact g1 b (by simp only [List.mem_cons, List.not_mem_nil, or_false] at hb ⊢; omega)
    · show (if _ then _ else _) = _
      by_cases hb1 : b = 2 ∨ b = 6 ∨ b = 7
      · rw [if_pos hb1]
      · rw [if_neg hb1]
        exact g4 b (by simp only [List.mem_cons, List.not_mem_nil, or_false] at hb ⊢; omega)
  obtain ⟨-, a2, -, a4, a5, a6, a7, a8, a9⟩ := h'
  refine ⟨h1, a2, ⟨h2, h3⟩, a4, a5, a6, a7, a8, fun s hs => ?_⟩
  have := a9 s hs
  have e1 : ¬ (21 + 2 * s = 1 ∨ 21 + 2 * s = 5) := by omega
  have e2 : ¬ (22 + 2 * s = 2 ∨ 22 + 2 * s = 6 ∨ 22 + 2 * s = 7) := by omega
  simp only [if_neg e1, if_neg e2] at this
  exact this
theorem xCore.t1 {σ τ : vc_S} {T : zT} {u : Nat → Nat} {n : Nat} (h : xCore σ T) (g1 : ∀ b, b ∈ [1, 5, 11, 15, 21, 23, 25, 27] → τ.1 b = σ.1 b) (g2 : τ.1 0 15 = σ.1 0 15) (g3 : τ.1 0 16 = σ.1 0 16) (g4 : ∀ b, b ∈ [2, 6, 7, 12, 13, 14, 16, 17, 18, 19, 22, 24, 26, 28] → τ.2 b = σ.2 b) (h1 : xTx τ 3 u n) (h2 : xBe τ (nSeats u n) (nRun u n).2.2.2.1 (nRun u n).2.2.2.2) (h3 : τ.1 8 3 = vE (nFault u n)) : xCore τ (sT1 T u n) := by
  have h' : xCore (fun b => if b = 3 ∨ b = 8 then σ.1 b else τ.1 b, fun b => if b = 4 ∨ b = 9 ∨ b = 10 then σ.2 b else τ.2 b) T := by
    refine h.of (fun b hb => ?_) g2 g3 (fun b hb => ?_)
    · show (if _ then _ else _) = _
      by_cases hb1 : b = 3 ∨ b = 8
      · rw [if_pos hb1]
      · rw [if_neg hb1]
        exact g1 b (by simp only [List.mem_cons, List.not_mem_nil, or_false] at hb ⊢; omega)
    · show (if _ then _ else _) = _
      by_cases hb1 : b = 4 ∨ b = 9 ∨ b = 10
      · rw [if_pos hb1]
      · rw [if_neg hb1]
        exact g4 b (by simp only [List.mem_cons, List.not_mem_nil, or_false] at hb ⊢; omega)
  obtain ⟨a1, -, a3, -, a5, a6, a7, a8, a9⟩ := h'
  refine ⟨a1, h1, a3, ⟨h2, h3⟩, a5, a6, a7, a8, fun s hs => ?_⟩
  have := a9 s hs
  have e1 : ¬ (21 + 2 * s = 3 ∨ 21 + 2 * s = 8) := by omega
  have e2 : ¬ (22 + 2 * s = 4 ∨ 22 + 2 * s = 9 ∨ 22 + 2 * s = 10) := by omega
  simp only [if_neg e1, if_neg e2] at this
  exact this
set_option maxHeartbeats 400000 in
set_option maxRecDepth 100000 in
/-- the boys' text is read again: υ is σ with another text -/
theorem ct_reread0 {K : vc_K} {T : zT} {t : Nat → Nat} {n : Nat} {σ υ : vc_S} {Q : Option Value → vc_S → Prop} (hI : xI σ T) (hf : vc_fq [1] [2] σ υ) (h1 : xTx υ 1 t n) (hn : n ≤ 39) (h : ∀ τ, xI τ (sT0 T t n) → xM σ τ → τ.1 1 = υ.1 1 → Q none τ) : vc_C K 91 [.ref 0, .int (nI 0)] υ Q := by
  have hR : xRo υ (zn T) (zso T) (zfi T) := by
    obtain ⟨r1, r2, r3, r4⟩ := hI.1.2.2.1.1
    exact ⟨by rw [hf.1 5 (by simp)]; exact r1, r2, fun k hk => by rw [hf.2 6 (by simp)]; exact r3 k hk, fun q hq => by rw [hf.2 7 (by simp)]; exact r4 q hq⟩
  refine vc_C_of (ls0 := [some (.ref 0), some (.int (nI 0))]) hk_91 (Nat.le_of_ble_eq_true rfl) rfl ?_
  refine g_91_0 ?_
  simp only [vc_wi, vc_li, vc_ll, vc_lr, vc_i1, vc_i2, vc_l1, vc_l2, vc_il, vc_r1, vc_ri, vc_rii, vc_rx, vc_cp, vc_s1, vc_s2, vc_fg, vc_cm, vc_ald, vc_bld, vc_ast, vc_bst, vc_len, vc_gf, vc_pf, vc_cpy, vc_ct, List.getElem?_cons_zero, List.getElem?_cons_succ, List.set_cons_zero, List.set_cons_succ, List.take_succ_cons, List.take_zero, List.drop_succ_cons, List.drop_zero, List.reverse_cons, List.reverse_nil, List.nil_append, List.cons_append, Option.toList_some, Option.toList_none, List.map_cons, List.map_nil, List.sum_cons, List.sum_nil, List.length_cons, List.length_nil, Value.category, Nat.reduceEqDiff, Nat.reduceLeDiff, Nat.reduceAdd, reduceIte, true_and, and_true, B_91_0, rt_91, cls_0, fld_0_0, fld_0_1, fld_0_2, fld_0_3, fld_0_4, fld_0_5, fld_0_6, fld_0_7, fld_0_8, fld_0_9, fld_0_10, fld_0_11, fld_0_12, fld_0_13, fld_0_14, fld_0_15, fld_0_16, fld_0_17, fld_0_18, cls_1, fld_1_0, fld_1_1, arr_2, cls_3, fld_3_0, fld_3_1, arr_4, cls_5, fld_5_0, fld_5_1, fld_5_2, fld_5_3, arr_6, arr_7, cls_8, fld_8_0, fld_8_1, fld_8_2, fld_8_3, arr_9, arr_10, cls_11, fld_11_0, fld_11_1, fld_11_2, fld_11_3, arr_12, arr_13, arr_14, cls_15, fld_15_0, fld_15_1, fld_15_2, fld_15_3, fld_15_4, arr_16, arr_17, arr_18, arr_19, lay_20, cls_21, fld_21_0, fld_21_1, fld_21_2, fld_21_3, arr_22, cls_23, fld_23_0, fld_23_1, fld_23_2, fld_23_3, arr_24, cls_25, fld_25_0, fld_25_1, fld_25_2, fld_25_3, arr_26, cls_27, fld_27_0, fld_27_1, fld_27_2, fld_27_3, arr_28, cls_47, fld_47_0, fld_47_1, fld_47_2, fld_47_3, arr_48, arr_49, arr_50, cls_51, fld_51_0, cls_52, fld_52_0, fld_52_1, arr_53, arr_54, arr_55, arr_56]
  try simp (disch := omega) only [vc_brT, vc_brF, vc_anT, vc_brt, vc_brf, vc_ant, vn_n0, vn_in, vn_cl, vn_lt, vn_le, vn_eq, vn_sub, vn_div, vn_rem, vn_mod, vn_m1, vn_m1n, vn_m1p, nI_add, pk_mul, vc_sa_1, vc_sa_2, vc_sg_1, vc_sg_2, Nat.reduceEqDiff, Nat.reduceLeDiff, Nat.reduceAdd, Nat.reduceMul, Nat.reduceSub, Nat.not_lt_zero, Nat.add_left_cancel_iff, reduceIte, true_and, and_true, not_false_eq_true, not_true_eq_false, true_or, or_true, Bool.false_eq_true]
  refine ct_rollFill h1 hn hR ?_
  intro τ f1 b1 b2
  simp only [vc_wi, vc_li, vc_ll, vc_lr, vc_i1, vc_i2, vc_l1, vc_l2, vc_il, vc_r1, vc_ri, vc_rii, vc_rx, vc_cp, vc_s1, vc_s2, vc_fg, vc_cm, vc_ald, vc_bld, vc_ast, vc_bst, vc_len, vc_gf, vc_pf, vc_cpy, vc_ct, List.getElem?_cons_zero, List.getElem?_cons_succ, List.set_cons_zero, List.set_cons_succ, List.take_succ_cons, List.take_zero, List.drop_succ_cons, List.drop_zero, List.reverse_cons, List.reverse_nil, List.nil_append, List.cons_append, Option.toList_some, Option.toList_none, List.map_cons, List.map_nil, List.sum_cons, List.sum_nil, List.length_cons, List.length_nil, Value.category, Nat.reduceEqDiff, Nat.reduceLeDiff, Nat.reduceAdd, reduceIte, true_and, and_true, rt_91, cls_0, fld_0_0, fld_0_1, fld_0_2, fld_0_3, fld_0_4, fld_0_5, fld_0_6, fld_0_7, fld_0_8, fld_0_9, fld_0_10, fld_0_11, fld_0_12, fld_0_13, fld_0_14, fld_0_15, fld_0_16, fld_0_17, fld_0_18, cls_1, fld_1_0, fld_1_1, arr_2, cls_3, fld_3_0, fld_3_1, arr_4, cls_5, fld_5_0, fld_5_1, fld_5_2, fld_5_3, arr_6, arr_7, cls_8, fld_8_0, fld_8_1, fld_8_2, fld_8_3, arr_9, arr_10, cls_11, fld_11_0, fld_11_1, fld_11_2, fld_11_3, arr_12, arr_13, arr_14, cls_15, fld_15_0, fld_15_1, fld_15_2, fld_15_3, fld_15_4, arr_16, arr_17, arr_18, arr_19, lay_20, cls_21, fld_21_0, fld_21_1, fld_21_2, fld_21_3, arr_22, cls_23, fld_23_0, fld_23_1, fld_23_2, fld_23_3, arr_24, cls_25, fld_25_0, fld_25_1, fld_25_2, fld_25_3, arr_26, cls_27, fld_27_0, fld_27_1, fld_27_2, fld_27_3, arr_28, cls_47, fld_47_0, fld_47_1, fld_47_2, fld_47_3, arr_48, arr_49, arr_50, cls_51, fld_51_0, cls_52, fld_52_0, fld_52_1, arr_53, arr_54, arr_55, arr_56]
  try simp (disch := omega) only [vc_brT, vc_brF, vc_anT, vc_brt, vc_brf, vc_ant, vn_n0, vn_in, vn_cl, vn_lt, vn_le, vn_eq, vn_sub, vn_div, vn_rem, vn_mod, vn_m1, vn_m1n, vn_m1p, nI_add, pk_mul, vc_sa_1, vc_sa_2, vc_sg_1, vc_sg_2, Nat.reduceEqDiff, Nat.reduceLeDiff, Nat.reduceAdd, Nat.reduceMul, Nat.reduceSub, Nat.not_lt_zero, Nat.add_left_cancel_iff, reduceIte, true_and, and_true, not_false_eq_true, not_true_eq_false, true_or, or_true, Bool.false_eq_true]
  refine g_91_29 ?_
  simp only [vc_wi, vc_li, vc_ll, vc_lr, vc_i1, vc_i2, vc_l1, vc_l2, vc_il, vc_r1, vc_ri, vc_rii, vc_rx, vc_cp, vc_s1, vc_s2, vc_fg, vc_cm, vc_ald, vc_bld, vc_ast, vc_bst, vc_len, vc_gf, vc_pf, vc_cpy, vc_ct, List.getElem?_cons_zero, List.getElem?_cons_succ, List.set_cons_zero, List.set_cons_succ, List.take_succ_cons, List.take_zero, List.drop_succ_cons, List.drop_zero, List.reverse_cons, List.reverse_nil, List.nil_append, List.cons_append, Option.toList_some, Option.toList_none, List.map_cons, List.map_nil, List.sum_cons, List.sum_nil, List.length_cons, List.length_nil, Value.category, Nat.reduceEqDiff, Nat.reduceLeDiff, Nat.reduceAdd, reduceIte, true_and, and_true, B_91_29, rt_91, cls_0, fld_0_0, fld_0_1, fld_0_2, fld_0_3, fld_0_4, fld_0_5, fld_0_6, fld_0_7, fld_0_8, fld_0_9, fld_0_10, fld_0_11, fld_0_12, fld_0_13, fld_0_14, fld_0_15, fld_0_16, fld_0_17, fld_0_18, cls_1, fld_1_0, fld_1_1, arr_2, cls_3, fld_3_0, fld_3_1, arr_4, cls_5, fld_5_0, fld_5_1, fld_5_2, fld_5_3, arr_6, arr_7, cls_8, fld_8_0, fld_8_1, fld_8_2, fld_8_3, arr_9, arr_10, cls_11, fld_11_0, fld_11_1, fld_11_2, fld_11_3, arr_12, arr_13, arr_14, cls_15, fld_15_0, fld_15_1, fld_15_2, fld_15_3, fld_15_4, arr_16, arr_17, arr_18, arr_19, lay_20, cls_21, fld_21_0, fld_21_1, fld_21_2, fld_21_3, arr_22, cls_23, fld_23_0, fld_23_1, fld_23_2, fld_23_3, arr_24, cls_25, fld_25_0, fld_25_1, fld_25_2, fld_25_3, arr_26, cls_27, fld_27_0, fld_27_1, fld_27_2, fld_27_3, arr_28, cls_47, fld_47_0, fld_47_1, fld_47_2, fld_47_3, arr_48, arr_49, arr_50, cls_51, fld_51_0, cls_52, fld_52_0, fld_52_1, arr_53, arr_54, arr_55, arr_56]
  try simp (disch := omega) only [vc_brT, vc_brF, vc_anT, vc_brt, vc_brf, vc_ant, vn_n0, vn_in, vn_cl, vn_lt, vn_le, vn_eq, vn_sub, vn_div, vn_rem, vn_mod, vn_m1, vn_m1n, vn_m1p, nI_add, pk_mul, vc_sa_1, vc_sa_2, vc_sg_1, vc_sg_2, Nat.reduceEqDiff, Nat.reduceLeDiff, Nat.reduceAdd, Nat.reduceMul, Nat.reduceSub, Nat.not_lt_zero, Nat.add_left_cancel_iff, reduceIte, true_and, and_true, not_false_eq_true, not_true_eq_false, true_or, or_true, Bool.false_eq_true]
  refine ct_fgY ?_
  intro ρ hρ
  have e1 : ∀ b, ¬ b = 0 → ¬ b = 52 → ¬ b = 5 → ρ.1 b = υ.1 b := fun b a1 a2 a3 => by rw [hρ, xFg_1 _ b a1 a2, f1.1 b (by simp only [List.mem_cons, List.not_mem_nil, or_false]; exact a3)]
  have e0 : ∀ i, ¬ i = 17 → ¬ i = 18 → ρ.1 0 i = σ.1 0 i := fun i a1 a2 => by rw [hρ, xFg_0 _ i a1 a2, f1.1 0 (by simp), hf.1 0 (by simp)]
  have e2 : ∀ b, ¬ b = 6 → ¬ b = 7 → ρ.2 b = υ.2 b := fun b a1 a2 => by rw [hρ, xFg_2, f1.2 b (by simp only [List.mem_cons, List.not_mem_nil, or_false]; omega)]
  have e5 : ρ.1 5 = τ.1 5 := by rw [hρ, xFg_1 _ 5 (by decide) (by decide)]
  have eA : ρ.2 = τ.2 := by rw [hρ]; rfl
  have hg1 : ∀ b, b ∈ [3, 8, 11, 15, 21, 23, 25, 27] → ρ.1 b = σ.1 b := by
    intro b hb
    simp only [List.mem_cons, List.not_mem_nil, or_false] at hb
    rw [e1 b (by omega) (by omega) (by omega), hf.1 b (by simp only [List.mem_cons, List.not_mem_nil, or_false]; omega)]
  have hg4 : ∀ b, b ∈ [4, 9, 10, 12, 13, 14, 16, 17, 18, 19, 22, 24, 26, 28] → ρ.2 b = σ.2 b := by
    intro b hb
    simp only [List.mem_cons, List.not_mem_nil, or_false] at hb
    rw [e2 b (by omega) (by omega), hf.2 b (by simp only [List.mem_cons, List.not_mem_nil, or_false]; omega)]
  have hx1 : xTx ρ 1 t n := by
    unfold xTx at h1 ⊢
    rw [e1 1 (by decide) (by decide) (by decide), e2 (1 + 1) (by decide) (by decide)]
    exact h1
  have hx2 : xRo ρ (bNum t n) (nSo T t n) (nFi T t n) := by
    unfold xRo at b2 ⊢
    rw [e5, eA]
    exact b2
  have h := h ρ ⟨hI.1.t0 hg1 (e0 15 (by decide) (by decide)) (e0 16 (by decide) (by decide)) hg4 hx1 hx2 (by rw [e5]; exact b1), by rw [hρ]; exact xFg_ca⟩ ⟨by rw [e1 57 (by decide) (by decide) (by decide), hf.1 57 (by simp)], fun b hb => by rw [e2 b (by omega) (by omega), hf.2 b (by simp only [List.mem_cons, List.not_mem_nil, or_false]; omega)]⟩ (e1 1 (by decide) (by decide) (by decide))
  simp only [vc_wi, vc_li, vc_ll, vc_lr, vc_i1, vc_i2, vc_l1, vc_l2, vc_il, vc_r1, vc_ri, vc_rii, vc_rx, vc_cp, vc_s1, vc_s2, vc_fg, vc_cm, vc_ald, vc_bld, vc_ast, vc_bst, vc_len, vc_gf, vc_pf, vc_cpy, vc_ct, List.getElem?_cons_zero, List.getElem?_cons_succ, List.set_cons_zero, List.set_cons_succ, List.take_succ_cons, List.take_zero, List.drop_succ_cons, List.drop_zero, List.reverse_cons, List.reverse_nil, List.nil_append, List.cons_append, Option.toList_some, Option.toList_none, List.map_cons, List.map_nil, List.sum_cons, List.sum_nil, List.length_cons, List.length_nil, Value.category, Nat.reduceEqDiff, Nat.reduceLeDiff, Nat.reduceAdd, reduceIte, true_and, and_true, rt_91, cls_0, fld_0_0, fld_0_1, fld_0_2, fld_0_3, fld_0_4, fld_0_5, fld_0_6, fld_0_7, fld_0_8, fld_0_9, fld_0_10, fld_0_11, fld_0_12, fld_0_13, fld_0_14, fld_0_15, fld_0_16, fld_0_17, fld_0_18, cls_1, fld_1_0, fld_1_1, arr_2, cls_3, fld_3_0, fld_3_1, arr_4, cls_5, fld_5_0, fld_5_1, fld_5_2, fld_5_3, arr_6, arr_7, cls_8, fld_8_0, fld_8_1, fld_8_2, fld_8_3, arr_9, arr_10, cls_11, fld_11_0, fld_11_1, fld_11_2, fld_11_3, arr_12, arr_13, arr_14, cls_15, fld_15_0, fld_15_1, fld_15_2, fld_15_3, fld_15_4, arr_16, arr_17, arr_18, arr_19, lay_20, cls_21, fld_21_0, fld_21_1, fld_21_2, fld_21_3, arr_22, cls_23, fld_23_0, fld_23_1, fld_23_2, fld_23_3, arr_24, cls_25, fld_25_0, fld_25_1, fld_25_2, fld_25_3, arr_26, cls_27, fld_27_0, fld_27_1, fld_27_2, fld_27_3, arr_28, cls_47, fld_47_0, fld_47_1, fld_47_2, fld_47_3, arr_48, arr_49, arr_50, cls_51, fld_51_0, cls_52, fld_52_0, fld_52_1, arr_53, arr_54, arr_55, arr_56]
  try simp (disch := omega) only [vc_brT, vc_brF, vc_anT, vc_brt, vc_brf, vc_ant, vn_n0, vn_in, vn_cl, vn_lt, vn_le, vn_eq, vn_sub, vn_div, vn_rem, vn_mod, vn_m1, vn_m1n, vn_m1p, nI_add, pk_mul, vc_sa_1, vc_sa_2, vc_sg_1, vc_sg_2, Nat.reduceEqDiff, Nat.reduceLeDiff, Nat.reduceAdd, Nat.reduceMul, Nat.reduceSub, Nat.not_lt_zero, Nat.add_left_cancel_iff, reduceIte, true_and, and_true, not_false_eq_true, not_true_eq_false, true_or, or_true, Bool.false_eq_true]
  exact h
set_option maxHeartbeats 400000 in
set_option maxRecDepth 100000 in
theorem ct_reread1 {K : vc_K} {T : zT} {u : Nat → Nat} {n : Nat} {v : Int32} {σ υ : vc_S} {Q : Option Value → vc_S → Prop} (hv : ¬ v = nI 0) (hI : xI σ T) (hf : vc_fq [3] [4] σ υ) (h1 : xTx υ 3 u n) (hn : n ≤ 19) (h : ∀ τ, xI τ (sT1 T u n) → xM σ τ → τ.1 3 = υ.1 3 → Q none τ) : vc_C K 91 [.ref 0, .int v] υ Q := by
  refine vc_C_of (ls0 := [some (.ref 0), some (.int v)]) hk_91 (Nat.le_of_ble_eq_true rfl) rfl ?_
  refine g_91_0 ?_
  simp only [vc_wi, vc_li, vc_ll, vc_lr, vc_i1, vc_i2, vc_l1, vc_l2, vc_il, vc_r1, vc_ri, vc_rii, vc_rx, vc_cp, vc_s1, vc_s2, vc_fg, vc_cm, vc_ald, vc_bld, vc_ast, vc_bst, vc_len, vc_gf, vc_pf, vc_cpy, vc_ct, List.getElem?_cons_zero, List.getElem?_cons_succ, List.set_cons_zero, List.set_cons_succ, List.take_succ_cons, List.take_zero, List.drop_succ_cons, List.drop_zero, List.reverse_cons, List.reverse_nil, List.nil_append, List.cons_append, Option.toList_some, Option.toList_none, List.map_cons, List.map_nil, List.sum_cons, List.sum_nil, List.length_cons, List.length_nil, Value.category, Nat.reduceEqDiff, Nat.reduceLeDiff, Nat.reduceAdd, reduceIte, true_and, and_true, B_91_0, rt_91, cls_0, fld_0_0, fld_0_1, fld_0_2, fld_0_3, fld_0_4, fld_0_5, fld_0_6, fld_0_7, fld_0_8, fld_0_9, fld_0_10, fld_0_11, fld_0_12, fld_0_13, fld_0_14, fld_0_15, fld_0_16, fld_0_17, fld_0_18, cls_1, fld_1_0, fld_1_1, arr_2, cls_3, fld_3_0, fld_3_1, arr_4, cls_5, fld_5_0, fld_5_1, fld_5_2, fld_5_3, arr_6, arr_7, cls_8, fld_8_0, fld_8_1, fld_8_2, fld_8_3, arr_9, arr_10, cls_11, fld_11_0, fld_11_1, fld_11_2, fld_11_3, arr_12, arr_13, arr_14, cls_15, fld_15_0, fld_15_1, fld_15_2, fld_15_3, fld_15_4, arr_16, arr_17, arr_18, arr_19, lay_20, cls_21, fld_21_0, fld_21_1, fld_21_2, fld_21_3, arr_22, cls_23, fld_23_0, fld_23_1, fld_23_2, fld_23_3, arr_24, cls_25, fld_25_0, fld_25_1, fld_25_2, fld_25_3, arr_26, cls_27, fld_27_0, fld_27_1, fld_27_2, fld_27_3, arr_28, cls_47, fld_47_0, fld_47_1, fld_47_2, fld_47_3, arr_48, arr_49, arr_50, cls_51, fld_51_0, cls_52, fld_52_0, fld_52_1, arr_53, arr_54, arr_55, arr_56]
  try simp (disch := omega) only [vc_brT, vc_brF, vc_anT, vc_brt, vc_brf, vc_ant, vn_n0, vn_in, vn_cl, vn_lt, vn_le, vn_eq, vn_sub, vn_div, vn_rem, vn_mod, vn_m1, vn_m1n, vn_m1p, nI_add, pk_mul, vc_sa_1, vc_sa_2, vc_sg_1, vc_sg_2, Nat.reduceEqDiff, Nat.reduceLeDiff, Nat.reduceAdd, Nat.reduceMul, Nat.reduceSub, Nat.not_lt_zero, Nat.add_left_cancel_iff, reduceIte, true_and, and_true, not_false_eq_true, not_true_eq_false, true_or, or_true, Bool.false_eq_true]
  refine g_91_18 ?_
  simp only [vc_wi, vc_li, vc_ll, vc_lr, vc_i1, vc_i2, vc_l1, vc_l2, vc_il, vc_r1, vc_ri, vc_rii, vc_rx, vc_cp, vc_s1, vc_s2, vc_fg, vc_cm, vc_ald, vc_bld, vc_ast, vc_bst, vc_len, vc_gf, vc_pf, vc_cpy, vc_ct, List.getElem?_cons_zero, List.getElem?_cons_succ, List.set_cons_zero, List.set_cons_succ, List.take_succ_cons, List.take_zero, List.drop_succ_cons, List.drop_zero, List.reverse_cons, List.reverse_nil, List.nil_append, List.cons_append, Option.toList_some, Option.toList_none, List.map_cons, List.map_nil, List.sum_cons, List.sum_nil, List.length_cons, List.length_nil, Value.category, Nat.reduceEqDiff, Nat.reduceLeDiff, Nat.reduceAdd, reduceIte, true_and, and_true, B_91_18, rt_91, cls_0, fld_0_0, fld_0_1, fld_0_2, fld_0_3, fld_0_4, fld_0_5, fld_0_6, fld_0_7, fld_0_8, fld_0_9, fld_0_10, fld_0_11, fld_0_12, fld_0_13, fld_0_14, fld_0_15, fld_0_16, fld_0_17, fld_0_18, cls_1, fld_1_0, fld_1_1, arr_2, cls_3, fld_3_0, fld_3_1, arr_4, cls_5, fld_5_0, fld_5_1, fld_5_2, fld_5_3, arr_6, arr_7, cls_8, fld_8_0, fld_8_1, fld_8_2, fld_8_3, arr_9, arr_10, cls_11, fld_11_0, fld_11_1, fld_11_2, fld_11_3, arr_12, arr_13, arr_14, cls_15, fld_15_0, fld_15_1, fld_15_2, fld_15_3, fld_15_4, arr_16, arr_17, arr_18, arr_19, lay_20, cls_21, fld_21_0, fld_21_1, fld_21_2, fld_21_3, arr_22, cls_23, fld_23_0, fld_23_1, fld_23_2, fld_23_3, arr_24, cls_25, fld_25_0, fld_25_1, fld_25_2, fld_25_3, arr_26, cls_27, fld_27_0, fld_27_1, fld_27_2, fld_27_3, arr_28, cls_47, fld_47_0, fld_47_1, fld_47_2, fld_47_3, arr_48, arr_49, arr_50, cls_51, fld_51_0, cls_52, fld_52_0, fld_52_1, arr_53, arr_54, arr_55, arr_56]
  try simp (disch := omega) only [vc_brT, vc_brF, vc_anT, vc_brt, vc_brf, vc_ant, vn_n0, vn_in, vn_cl, vn_lt, vn_le, vn_eq, vn_sub, vn_div, vn_rem, vn_mod, vn_m1, vn_m1n, vn_m1p, nI_add, pk_mul, vc_sa_1, vc_sa_2, vc_sg_1, vc_sg_2, Nat.reduceEqDiff, Nat.reduceLeDiff, Nat.reduceAdd, Nat.reduceMul, Nat.reduceSub, Nat.not_lt_zero, Nat.add_left_cancel_iff, reduceIte, true_and, and_true, not_false_eq_true, not_true_eq_false, true_or, or_true, Bool.false_eq_true]
  refine ct_benchFill h1 hn ?_
  intro τ f1 b1 b2
  simp only [vc_wi, vc_li, vc_ll, vc_lr, vc_i1, vc_i2, vc_l1, vc_l2, vc_il, vc_r1, vc_ri, vc_rii, vc_rx, vc_cp, vc_s1, vc_s2, vc_fg, vc_cm, vc_ald, vc_bld, vc_ast, vc_bst, vc_len, vc_gf, vc_pf, vc_cpy, vc_ct, List.getElem?_cons_zero, List.getElem?_cons_succ, List.set_cons_zero, List.set_cons_succ, List.take_succ_cons, List.take_zero, List.drop_succ_cons, List.drop_zero, List.reverse_cons, List.reverse_nil, List.nil_append, List.cons_append, Option.toList_some, Option.toList_none, List.map_cons, List.map_nil, List.sum_cons, List.sum_nil, List.length_cons, List.length_nil, Value.category, Nat.reduceEqDiff, Nat.reduceLeDiff, Nat.reduceAdd, reduceIte, true_and, and_true, rt_91, cls_0, fld_0_0, fld_0_1, fld_0_2, fld_0_3, fld_0_4, fld_0_5, fld_0_6, fld_0_7, fld_0_8, fld_0_9, fld_0_10, fld_0_11, fld_0_12, fld_0_13, fld_0_14, fld_0_15, fld_0_16, fld_0_17, fld_0_18, cls_1, fld_1_0, fld_1_1, arr_2, cls_3, fld_3_0, fld_3_1, arr_4, cls_5, fld_5_0, fld_5_1, fld_5_2, fld_5_3, arr_6, arr_7, cls_8, fld_8_0, fld_8_1, fld_8_2, fld_8_3, arr_9, arr_10, cls_11, fld_11_0, fld_11_1, fld_11_2, fld_11_3, arr_12, arr_13, arr_14, cls_15, fld_15_0, fld_15_1, fld_15_2, fld_15_3, fld_15_4, arr_16, arr_17, arr_18, arr_19, lay_20, cls_21, fld_21_0, fld_21_1, fld_21_2, fld_21_3, arr_22, cls_23, fld_23_0, fld_23_1, fld_23_2, fld_23_3, arr_24, cls_25, fld_25_0, fld_25_1, fld_25_2, fld_25_3, arr_26, cls_27, fld_27_0, fld_27_1, fld_27_2, fld_27_3, arr_28, cls_47, fld_47_0, fld_47_1, fld_47_2, fld_47_3, arr_48, arr_49, arr_50, cls_51, fld_51_0, cls_52, fld_52_0, fld_52_1, arr_53, arr_54, arr_55, arr_56]
  try simp (disch := omega) only [vc_brT, vc_brF, vc_anT, vc_brt, vc_brf, vc_ant, vn_n0, vn_in, vn_cl, vn_lt, vn_le, vn_eq, vn_sub, vn_div, vn_rem, vn_mod, vn_m1, vn_m1n, vn_m1p, nI_add, pk_mul, vc_sa_1, vc_sa_2, vc_sg_1, vc_sg_2, Nat.reduceEqDiff, Nat.reduceLeDiff, Nat.reduceAdd, Nat.reduceMul, Nat.reduceSub, Nat.not_lt_zero, Nat.add_left_cancel_iff, reduceIte, true_and, and_true, not_false_eq_true, not_true_eq_false, true_or, or_true, Bool.false_eq_true]
  refine g_91_29 ?_
  simp only [vc_wi, vc_li, vc_ll, vc_lr, vc_i1, vc_i2, vc_l1, vc_l2, vc_il, vc_r1, vc_ri, vc_rii, vc_rx, vc_cp, vc_s1, vc_s2, vc_fg, vc_cm, vc_ald, vc_bld, vc_ast, vc_bst, vc_len, vc_gf, vc_pf, vc_cpy, vc_ct, List.getElem?_cons_zero, List.getElem?_cons_succ, List.set_cons_zero, List.set_cons_succ, List.take_succ_cons, List.take_zero, List.drop_succ_cons, List.drop_zero, List.reverse_cons, List.reverse_nil, List.nil_append, List.cons_append, Option.toList_some, Option.toList_none, List.map_cons, List.map_nil, List.sum_cons, List.sum_nil, List.length_cons, List.length_nil, Value.category, Nat.reduceEqDiff, Nat.reduceLeDiff, Nat.reduceAdd, reduceIte, true_and, and_true, B_91_29, rt_91, cls_0, fld_0_0, fld_0_1, fld_0_2, fld_0_3, fld_0_4, fld_0_5, fld_0_6, fld_0_7, fld_0_8, fld_0_9, fld_0_10, fld_0_11, fld_0_12, fld_0_13, fld_0_14, fld_0_15, fld_0_16, fld_0_17, fld_0_18, cls_1, fld_1_0, fld_1_1, arr_2, cls_3, fld_3_0, fld_3_1, arr_4, cls_5, fld_5_0, fld_5_1, fld_5_2, fld_5_3, arr_6, arr_7, cls_8, fld_8_0, fld_8_1, fld_8_2, fld_8_3, arr_9, arr_10, cls_11, fld_11_0, fld_11_1, fld_11_2, fld_11_3, arr_12, arr_13, arr_14, cls_15, fld_15_0, fld_15_1, fld_15_2, fld_15_3, fld_15_4, arr_16, arr_17, arr_18, arr_19, lay_20, cls_21, fld_21_0, fld_21_1, fld_21_2, fld_21_3, arr_22, cls_23, fld_23_0, fld_23_1, fld_23_2, fld_23_3, arr_24, cls_25, fld_25_0, fld_25_1, fld_25_2, fld_25_3, arr_26, cls_27, fld_27_0, fld_27_1, fld_27_2, fld_27_3, arr_28, cls_47, fld_47_0, fld_47_1, fld_47_2, fld_47_3, arr_48, arr_49, arr_50, cls_51, fld_51_0, cls_52, fld_52_0, fld_52_1, arr_53, arr_54, arr_55, arr_56]
  try simp (disch := omega) only [vc_brT, vc_brF, vc_anT, vc_brt, vc_brf, vc_ant, vn_n0, vn_in, vn_cl, vn_lt, vn_le, vn_eq, vn_sub, vn_div, vn_rem, vn_mod, vn_m1, vn_m1n, vn_m1p, nI_add, pk_mul, vc_sa_1, vc_sa_2, vc_sg_1, vc_sg_2, Nat.reduceEqDiff, Nat.reduceLeDiff, Nat.reduceAdd, Nat.reduceMul, Nat.reduceSub, Nat.not_lt_zero, Nat.add_left_cancel_iff, reduceIte, true_and, and_true, not_false_eq_true, not_true_eq_false, true_or, or_true, Bool.false_eq_true]
  refine ct_fgY ?_
  intro ρ hρ
  have e1 : ∀ b, ¬ b = 0 → ¬ b = 52 → ¬ b = 8 → ρ.1 b = υ.1 b := fun b a1 a2 a3 => by rw [hρ, xFg_1 _ b a1 a2, f1.1 b (by simp only [List.mem_cons, List.not_mem_nil, or_false]; exact a3)]
  have e0 : ∀ i, ¬ i = 17 → ¬ i = 18 → ρ.1 0 i = σ.1 0 i := fun i a1 a2 => by rw [hρ, xFg_0 _ i a1 a2, f1.1 0 (by simp), hf.1 0 (by simp)]
  have e2 : ∀ b, ¬ b = 9 → ¬ b = 10 → ρ.2 b = υ.2 b := fun b a1 a2 => by rw [hρ, xFg_2, f1.2 b (by simp only [List.mem_cons, List.not_mem_nil, or_false]; omega)]
  have e5 : ρ.1 8 = τ.1 8 := by rw [hρ, xFg_1 _ 8 (by decide) (by decide)]
  have eA : ρ.2 = τ.2 := by rw [hρ]; rfl
  have hg1 : ∀ b, b ∈ [1, 5, 11, 15, 21, 23, 25, 27] → ρ.1 b = σ.1 b := by
    intro b hb
    simp only [List.mem_cons, List.not_mem_nil, or_false] at hb
    rw [e1 b (by omega) (by omega) (by omega), hf.1 b (by simp only [List.mem_cons, List.not_mem_nil, or_false]; omega)]
  have hg4 : ∀ b, b ∈ [2, 6, 7, 12, 13, 14, 16, 17, 18, 19, 22, 24, 26, 28] → ρ.2 b = σ.2 b := by
    intro b hb
    simp only [List.mem_cons, List.not_mem_nil, or_false] at hb
    rw [e2 b (by omega) (by omega), hf.2 b (by simp only [List.mem_cons, List.not_mem_nil, or_false]; omega)]
  have hx1 : xTx ρ 3 u n := by
    unfold xTx at h1 ⊢
    rw [e1 3 (by decide) (by decide) (by decide), e2 (3 + 1) (by decide) (by decide)]
    exact h1
  have hx2 : xBe ρ (nSeats u n) (nRun u n).2.2.2.1 (nRun u n).2.2.2.2 := by
    unfold xBe at b2 ⊢
    rw [e5, eA]
    exact b2
  have h := h ρ ⟨hI.1.t1 hg1 (e0 15 (by decide) (by decide)) (e0 16 (by decide) (by decide)) hg4 hx1 hx2 (by rw [e5]; exact b1), by rw [hρ]; exact xFg_ca⟩ ⟨by rw [e1 57 (by decide) (by decide) (by decide), hf.1 57 (by simp)], fun b hb => by rw [e2 b (by omega) (by omega), hf.2 b (by simp only [List.mem_cons, List.not_mem_nil, or_false]; omega)]⟩ (e1 3 (by decide) (by decide) (by decide))
  simp only [vc_wi, vc_li, vc_ll, vc_lr, vc_i1, vc_i2, vc_l1, vc_l2, vc_il, vc_r1, vc_ri, vc_rii, vc_rx, vc_cp, vc_s1, vc_s2, vc_fg, vc_cm, vc_ald, vc_bld, vc_ast, vc_bst, vc_len, vc_gf, vc_pf, vc_cpy, vc_ct, List.getElem?_cons_zero, List.getElem?_cons_succ, List.set_cons_zero, List.set_cons_succ, List.take_succ_cons, List.take_zero, List.drop_succ_cons, List.drop_zero, List.reverse_cons, List.reverse_nil, List.nil_append, List.cons_append, Option.toList_some, Option.toList_none, List.map_cons, List.map_nil, List.sum_cons, List.sum_nil, List.length_cons, List.length_nil, Value.category, Nat.reduceEqDiff, Nat.reduceLeDiff, Nat.reduceAdd, reduceIte, true_and, and_true, rt_91, cls_0, fld_0_0, fld_0_1, fld_0_2, fld_0_3, fld_0_4, fld_0_5, fld_0_6, fld_0_7, fld_0_8, fld_0_9, fld_0_10, fld_0_11, fld_0_12, fld_0_13, fld_0_14, fld_0_15, fld_0_16, fld_0_17, fld_0_18, cls_1, fld_1_0, fld_1_1, arr_2, cls_3, fld_3_0, fld_3_1, arr_4, cls_5, fld_5_0, fld_5_1, fld_5_2, fld_5_3, arr_6, arr_7, cls_8, fld_8_0, fld_8_1, fld_8_2, fld_8_3, arr_9, arr_10, cls_11, fld_11_0, fld_11_1, fld_11_2, fld_11_3, arr_12, arr_13, arr_14, cls_15, fld_15_0, fld_15_1, fld_15_2, fld_15_3, fld_15_4, arr_16, arr_17, arr_18, arr_19, lay_20, cls_21, fld_21_0, fld_21_1, fld_21_2, fld_21_3, arr_22, cls_23, fld_23_0, fld_23_1, fld_23_2, fld_23_3, arr_24, cls_25, fld_25_0, fld_25_1, fld_25_2, fld_25_3, arr_26, cls_27, fld_27_0, fld_27_1, fld_27_2, fld_27_3, arr_28, cls_47, fld_47_0, fld_47_1, fld_47_2, fld_47_3, arr_48, arr_49, arr_50, cls_51, fld_51_0, cls_52, fld_52_0, fld_52_1, arr_53, arr_54, arr_55, arr_56]
  try simp (disch := omega) only [vc_brT, vc_brF, vc_anT, vc_brt, vc_brf, vc_ant, vn_n0, vn_in, vn_cl, vn_lt, vn_le, vn_eq, vn_sub, vn_div, vn_rem, vn_mod, vn_m1, vn_m1n, vn_m1p, nI_add, pk_mul, vc_sa_1, vc_sa_2, vc_sg_1, vc_sg_2, Nat.reduceEqDiff, Nat.reduceLeDiff, Nat.reduceAdd, Nat.reduceMul, Nat.reduceSub, Nat.not_lt_zero, Nat.add_left_cancel_iff, reduceIte, true_and, and_true, not_false_eq_true, not_true_eq_false, true_or, or_true, Bool.false_eq_true]
  exact h
