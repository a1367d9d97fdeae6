/-! the state of the document: boys' text, benches' text, sorts and firsts (also of boys that are no more), masters, changes, seen, finding, sheets -/
abbrev zT : Type := (Nat → Nat) × Nat × (Nat → Nat) × Nat × (Nat → Nat) × (Nat → Nat) × Nat × Nat × (Nat → Nat × Nat × Nat) × Nat × (Nat → Nat × Nat × Nat × Nat) × Nat × (Nat → Bool × Nat × Nat × (Nat → Int32))
def zt (T : zT) : Nat → Nat := T.1
def ztn (T : zT) : Nat := T.2.1
def zu (T : zT) : Nat → Nat := T.2.2.1
def zun (T : zT) : Nat := T.2.2.2.1
def zso (T : zT) : Nat → Nat := T.2.2.2.2.1
def zfi (T : zT) : Nat → Nat := T.2.2.2.2.2.1
def zma (T : zT) : Nat := T.2.2.2.2.2.2.1
def zc (T : zT) : Nat := T.2.2.2.2.2.2.2.1
def zch' (T : zT) : Nat → Nat × Nat × Nat := T.2.2.2.2.2.2.2.2.1
def ze (T : zT) : Nat := T.2.2.2.2.2.2.2.2.2.1
def zse (T : zT) : Nat → Nat × Nat × Nat × Nat := T.2.2.2.2.2.2.2.2.2.2.1
def zf (T : zT) : Nat := T.2.2.2.2.2.2.2.2.2.2.2.1
def zsh (T : zT) : Nat → Bool × Nat × Nat × (Nat → Int32) := T.2.2.2.2.2.2.2.2.2.2.2.2
def zn (T : zT) : Nat := bNum (zt T) (ztn T)
def zs (T : zT) : Nat := nSeats (zu T) (zun T)
def zle (T : zT) : Nat → Option Nat := (nRun (zu T) (zun T)).2.2.2.1
def zbe (T : zT) : Nat → Nat := (nRun (zu T) (zun T)).2.2.2.2
def zW (T : zT) : Nat → Option Nat := fun p => yTo (zn T) (zle T p)
def zP (T : zT) (dn : Nat → Bool) (od : Nat → Nat) : yP := (zn T, zso T, zs T, zbe T, zc T, zch' T, dn, od)
def zS (T : zT) : yS := mS0 (zW T) (zfi T)
def zOk (T : zT) : Prop := (ztn T ≤ 39 ∧ ∀ i, i < ztn T → zt T i < 256) ∧ (zun T ≤ 19 ∧ ∀ i, i < zun T → zu T i < 256) ∧ ((∀ k, k < 8 → zso T k ≤ 2) ∧ (∀ q, q < 24 → zfi T q ≤ 9) ∧ (∀ k, k < zn T → zso T k = bSort (zt T) k) ∧ ∀ q, q < 3 * zn T → zfi T q = bFirst (zt T) q) ∧ (1 ≤ zma T ∧ zma T ≤ 30) ∧ (zc T ≤ 8 ∧ ∀ i, i < zc T → (zch' T i).1 < 30 ∧ (zch' T i).2.1 < 16 ∧ (zch' T i).2.2 < 16) ∧ (ze T ≤ 8 ∧ ∀ i, i < ze T → (zse T i).1 < 30 ∧ (zse T i).2.1 < 8 ∧ (zse T i).2.2.1 < 3 ∧ (zse T i).2.2.2 ≤ 30) ∧ zf T ≤ 5 ∧ ∀ s, s < 4 → (zsh T s).2.1 ≤ 2 ∧ (zsh T s).2.2.1 ≤ 60
theorem nInv_run {u : Nat → Nat} {len : Nat} (h : nFault u len = none) : nInv (nRun u len) := by
  have hfa : nFa u 0 len = none := by
    unfold nFault at h
    split at h
    · cases h
    · assumption
  have key : ∀ m i, nFa u i m = none → nInv (nRun u i) → nInv (nRun u (i + m)) := by
    intro m
    induction m with
    | zero => intro i _ hi; exact hi
    | succ m ih =>
      intro i hn hi
      unfold nFa at hn
      split at hn
      · rename_i hok
        have := ih (i + 1) hn (nInv_add hi hok)
        rw [show i + (m + 1) = i + 1 + m by omega]
        exact this
      · cases hn
  have := key len 0 hfa nInv_0
  rw [Nat.zero_add] at this
  exact this
theorem zs_le (T : zT) : zs T ≤ 16 := by
  unfold zs nSeats
  split
  · rename_i h
    obtain ⟨h1, h2, h3, h4, -⟩ := nInv_run h
    omega
  · omega
theorem zn_le {T : zT} (h : zOk T) : zn T ≤ 8 := by
  have := h.1.1
  unfold zn bNum
  split <;> omega
theorem z_le {T : zT} {p : Nat} (hp : p < zs T) : yIn 8 (zle T p) ∧ zbe T p < 16 := by
  unfold zs nSeats at hp
  split at hp
  · rename_i h
    obtain ⟨-, -, -, -, h5, -, h7⟩ := nInv_run h
    have := h7 p hp
    exact ⟨h5 p hp, by show (nRun (zu T) (zun T)).2.2.2.2 p < 16; omega⟩
  · omega
theorem zW_in {T : zT} (p : Nat) : yIn (zn T) (zW T p) := by
  intro k hk
  unfold zW yTo at hk
  split at hk
  · cases hk
  · split at hk
    · cases hk; assumption
    · cases hk
theorem zWok (T : zT) (dn : Nat → Bool) (od : Nat → Nat) : yWok (zP T dn od) (zW T) := by
  refine ⟨fun p _ => zW_in p, fun p q k hp hq h1 h2 => ?_⟩
  have hp : p < zs T := hp
  have hq : q < zs T := hq
  have to : ∀ p, zW T p = some k → zle T p = some k := by
    intro p h
    unfold zW yTo at h
    split at h
    · cases h
    · rename_i j hj
      split at h
      · rw [hj]; exact h
      · cases h
  unfold zs nSeats at hp hq
  split at hp
  · rename_i h
    rw [if_pos h] at hq
    obtain ⟨-, -, -, -, -, h6, -⟩ := nInv_run h
    exact h6 p q k hp hq (to p h1) (to q h2)
  · omega
theorem zb_01 (b : Bool) : zb b = nI 0 ∨ zb b = nI 1 := by
  cases b
  · exact Or.inl rfl
  · exact Or.inr rfl
/-- m's cells hold the state -/
def mI (σ : vc_S) (T : zT) : Prop := mTx σ (zt T) (ztn T) ∧ mTb σ (zu T) (zun T) ∧ σ.1 57 8 = nI (zma T) ∧ (σ.1 57 9 = nI (zc T) ∧ ∀ i, i < zc T → σ.2 64 i = nI (zch' T i).1 ∧ σ.2 65 i = nI (zch' T i).2.1 ∧ σ.2 66 i = nI (zch' T i).2.2) ∧ (σ.1 57 32 = nI (ze T) ∧ ∀ i, i < ze T → σ.2 83 i = nI (zse T i).1 ∧ σ.2 84 i = nI (zse T i).2.1 ∧ σ.2 85 i = nI (zse T i).2.2.1 ∧ σ.2 86 i = nI (zse T i).2.2.2) ∧ σ.1 57 43 = nI (zf T) ∧ ∀ s, s < 4 → σ.2 88 s = zb (zsh T s).1 ∧ σ.2 89 s = nI (zsh T s).2.1 ∧ σ.2 90 s = nI (zsh T s).2.2.1 ∧ ∀ i, i < 60 → σ.2 91 (60 * s + i) = (zsh T s).2.2.2 i
/-- m's scratch -/
def mJ : List Nat := [2, 5, 14, 18, 25]
def mA : List Nat := [60, 61, 62, 63, 67, 68, 69, 70, 71, 72, 73, 74, 75, 76, 77, 78, 79, 80, 81, 82, 87]
theorem mI.fr {σ τ : vc_S} {T : zT} (h : mI σ T) (hf : mFr mJ mA σ τ) : mI τ T := by
  obtain ⟨h1, h2, h3, ⟨h4, h5⟩, ⟨h6, h7⟩, h8, h9⟩ := h
  refine ⟨h1.m hf (by decide) (by decide), h2.m hf (by decide) (by decide), by rw [hf.2.1 8 (by decide)]; exact h3, ⟨by rw [hf.2.1 9 (by decide)]; exact h4, fun i hi => by rw [hf.2.2 64 (by decide), hf.2.2 65 (by decide), hf.2.2 66 (by decide)]; exact h5 i hi⟩, ⟨by rw [hf.2.1 32 (by decide)]; exact h6, fun i hi => by rw [hf.2.2 83 (by decide), hf.2.2 84 (by decide), hf.2.2 85 (by decide), hf.2.2 86 (by decide)]; exact h7 i hi⟩, by rw [hf.2.1 43 (by decide)]; exact h8, fun s hs => by rw [hf.2.2 88 (by decide), hf.2.2 89 (by decide), hf.2.2 90 (by decide), hf.2.2 91 (by decide)]; exact h9 s hs⟩
/-- what m has read of its texts -/
def mRd (σ : vc_S) (T : zT) : Prop := σ.1 57 2 = nI (zn T) ∧ σ.1 57 5 = nI (zs T) ∧ (∀ k, k < zn T → σ.2 60 k = nI (zso T k)) ∧ (∀ q, q < 3 * zn T → σ.2 61 q = nI (zfi T q)) ∧ (∀ p, p < zs T → σ.2 62 p = vE (zle T p)) ∧ ∀ p, p < zs T → σ.2 63 p = nI (zbe T p)
theorem mRd.fr {J A : List Nat} {σ τ : vc_S} {T : zT} (h : mRd σ T) (hf : mFr J A σ τ) (h2 : 2 ∉ J) (h5 : 5 ∉ J) (a0 : 60 ∉ A) (a1 : 61 ∉ A) (a2 : 62 ∉ A) (a3 : 63 ∉ A) : mRd τ T := by
  obtain ⟨g1, g2, g3, g4, g5, g6⟩ := h
  exact ⟨by rw [hf.2.1 2 h2]; exact g1, by rw [hf.2.1 5 h5]; exact g2, fun k hk => by rw [hf.2.2 _ a0]; exact g3 k hk, fun k hk => by rw [hf.2.2 _ a1]; exact g4 k hk, fun k hk => by rw [hf.2.2 _ a2]; exact g5 k hk, fun k hk => by rw [hf.2.2 _ a3]; exact g6 k hk⟩
set_option maxHeartbeats 4000000 in
set_option maxRecDepth 100000 in
theorem mt_faultOf {K : vc_K} {v : Int32} {T : zT} {σ : vc_S} {Q : Option Value → vc_S → Prop} (hT : zOk T) (hI : mI σ T) (h : ∀ τ : vc_S, mFr [2, 5] [60, 61, 62, 63] σ τ → mRd τ T → Q (some (.int (if v = nI 0 then vE (bFault (zt T) (ztn T)) else vE (nFault (zu T) (zun T))))) τ) : vc_C K 125 [.ref 57, .int v] σ Q := by
  refine vc_C_of (ls0 := [some (.ref 57), some (.int v), none, none]) hk_125 (Nat.le_of_ble_eq_true rfl) rfl ?_
  refine g_125_0 ?_
  simp only [vc_wi, vc_li, vc_ll, vc_lr, vc_i1, vc_i2, vc_l1, vc_l2, vc_il, vc_r1, vc_ri, vc_rii, vc_rx, vc_cp, vc_s1, vc_s2, vc_fg, vc_cm, vc_ald, vc_bld, vc_ast, vc_bst, vc_len, vc_gf, vc_pf, vc_cpy, vc_ct, List.getElem?_cons_zero, List.getElem?_cons_succ, List.set_cons_zero, List.set_cons_succ, List.take_succ_cons, List.take_zero, List.drop_succ_cons, List.drop_zero, List.reverse_cons, List.reverse_nil, List.nil_append, List.cons_append, Option.toList_some, Option.toList_none, List.map_cons, List.map_nil, List.sum_cons, List.sum_nil, List.length_cons, List.length_nil, Value.category, Nat.reduceEqDiff, Nat.reduceLeDiff, Nat.reduceAdd, reduceIte, true_and, and_true, B_125_0, rt_125, cls_57, fld_57_0, fld_57_1, fld_57_2, fld_57_3, fld_57_4, fld_57_5, fld_57_6, fld_57_7, fld_57_8, fld_57_9, fld_57_10, fld_57_11, fld_57_12, fld_57_13, fld_57_14, fld_57_15, fld_57_16, fld_57_17, fld_57_18, fld_57_19, fld_57_20, fld_57_21, fld_57_22, fld_57_23, fld_57_24, fld_57_25, fld_57_26, fld_57_27, fld_57_28, fld_57_29, fld_57_30, fld_57_31, fld_57_32, fld_57_33, fld_57_34, fld_57_35, fld_57_36, fld_57_37, fld_57_38, fld_57_39, fld_57_40, fld_57_41, fld_57_42, fld_57_43, arr_58, arr_59, arr_60, arr_61, arr_62, arr_63, arr_64, arr_65, arr_66, arr_67, arr_68, arr_69, arr_70, arr_71, arr_72, arr_73, arr_74, arr_75, arr_76, arr_77, arr_78, arr_79, arr_80, arr_81, arr_82, arr_83, arr_84, arr_85, arr_86, arr_87, arr_88, arr_89, arr_90, arr_91, arr_92]
  try simp (disch := omega) only [vc_brT, vc_brF, vc_anT, vc_brt, vc_brf, vc_ant, vn_n0, vn_in, vn_cl, vn_lt, vn_le, vn_eq, vn_sub, vn_div, vn_rem, vn_mod, vn_m1, vn_m1n, vn_m1p, nI_add, pk_mul, vc_sa_1, vc_sa_2, vc_sg_1, vc_sg_2, Nat.reduceEqDiff, Nat.reduceLeDiff, Nat.reduceAdd, Nat.reduceMul, Nat.reduceSub, Nat.not_lt_zero, Nat.add_left_cancel_iff, reduceIte, true_and, and_true, not_false_eq_true, not_true_eq_false, true_or, or_true, Bool.false_eq_true]
  refine mt_readsBoys hI.1 ?_
  intro τ f1 a1 a2 a3
  simp only [vc_wi, vc_li, vc_ll, vc_lr, vc_i1, vc_i2, vc_l1, vc_l2, vc_il, vc_r1, vc_ri, vc_rii, vc_rx, vc_cp, vc_s1, vc_s2, vc_fg, vc_cm, vc_ald, vc_bld, vc_ast, vc_bst, vc_len, vc_gf, vc_pf, vc_cpy, vc_ct, List.getElem?_cons_zero, List.getElem?_cons_succ, List.set_cons_zero, List.set_cons_succ, List.take_succ_cons, List.take_zero, List.drop_succ_cons, List.drop_zero, List.reverse_cons, List.reverse_nil, List.nil_append, List.cons_append, Option.toList_some, Option.toList_none, List.map_cons, List.map_nil, List.sum_cons, List.sum_nil, List.length_cons, List.length_nil, Value.category, Nat.reduceEqDiff, Nat.reduceLeDiff, Nat.reduceAdd, reduceIte, true_and, and_true, rt_125, cls_57, fld_57_0, fld_57_1, fld_57_2, fld_57_3, fld_57_4, fld_57_5, fld_57_6, fld_57_7, fld_57_8, fld_57_9, fld_57_10, fld_57_11, fld_57_12, fld_57_13, fld_57_14, fld_57_15, fld_57_16, fld_57_17, fld_57_18, fld_57_19, fld_57_20, fld_57_21, fld_57_22, fld_57_23, fld_57_24, fld_57_25, fld_57_26, fld_57_27, fld_57_28, fld_57_29, fld_57_30, fld_57_31, fld_57_32, fld_57_33, fld_57_34, fld_57_35, fld_57_36, fld_57_37, fld_57_38, fld_57_39, fld_57_40, fld_57_41, fld_57_42, fld_57_43, arr_58, arr_59, arr_60, arr_61, arr_62, arr_63, arr_64, arr_65, arr_66, arr_67, arr_68, arr_69, arr_70, arr_71, arr_72, arr_73, arr_74, arr_75, arr_76, arr_77, arr_78, arr_79, arr_80, arr_81, arr_82, arr_83, arr_84, arr_85, arr_86, arr_87, arr_88, arr_89, arr_90, arr_91, arr_92]
  try simp (disch := omega) only [vc_brT, vc_brF, vc_anT, vc_brt, vc_brf, vc_ant, vn_n0, vn_in, vn_cl, vn_lt, vn_le, vn_eq, vn_sub, vn_div, vn_rem, vn_mod, vn_m1, vn_m1n, vn_m1p, nI_add, pk_mul, vc_sa_1, vc_sa_2, vc_sg_1, vc_sg_2, Nat.reduceEqDiff, Nat.reduceLeDiff, Nat.reduceAdd, Nat.reduceMul, Nat.reduceSub, Nat.not_lt_zero, Nat.add_left_cancel_iff, reduceIte, true_and, and_true, not_false_eq_true, not_true_eq_false, true_or, or_true, Bool.false_eq_true]
  refine mt_readsBenches (hI.2.1.m f1 (by simp) (by simp)) ?_
  intro υ f2 b1 _ b2 b3
  have hf : mFr [2, 5] [60, 61, 62, 63] σ υ := (f1.mono (by simp) (by simp)).tr (f2.mono (by simp) (by simp))
  have hrd : mRd υ T := ⟨by rw [f2.2.1 2 (by simp)]; exact a1, b1, fun k hk => by rw [f2.2.2 60 (by simp), hT.2.2.1.2.2.1 k hk]; exact a2 k hk, fun q hq => by rw [f2.2.2 61 (by simp), hT.2.2.1.2.2.2 q hq]; exact a3 q hq, b2, b3⟩
  have := h υ hf hrd
  simp only [vc_wi, vc_li, vc_ll, vc_lr, vc_i1, vc_i2, vc_l1, vc_l2, vc_il, vc_r1, vc_ri, vc_rii, vc_rx, vc_cp, vc_s1, vc_s2, vc_fg, vc_cm, vc_ald, vc_bld, vc_ast, vc_bst, vc_len, vc_gf, vc_pf, vc_cpy, vc_ct, List.getElem?_cons_zero, List.getElem?_cons_succ, List.set_cons_zero, List.set_cons_succ, List.take_succ_cons, List.take_zero, List.drop_succ_cons, List.drop_zero, List.reverse_cons, List.reverse_nil, List.nil_append, List.cons_append, Option.toList_some, Option.toList_none, List.map_cons, List.map_nil, List.sum_cons, List.sum_nil, List.length_cons, List.length_nil, Value.category, Nat.reduceEqDiff, Nat.reduceLeDiff, Nat.reduceAdd, reduceIte, true_and, and_true, rt_125, cls_57, fld_57_0, fld_57_1, fld_57_2, fld_57_3, fld_57_4, fld_57_5, fld_57_6, fld_57_7, fld_57_8, fld_57_9, fld_57_10, fld_57_11, fld_57_12, fld_57_13, fld_57_14, fld_57_15, fld_57_16, fld_57_17, fld_57_18, fld_57_19, fld_57_20, fld_57_21, fld_57_22, fld_57_23, fld_57_24, fld_57_25, fld_57_26, fld_57_27, fld_57_28, fld_57_29, fld_57_30, fld_57_31, fld_57_32, fld_57_33, fld_57_34, fld_57_35, fld_57_36, fld_57_37, fld_57_38, fld_57_39, fld_57_40, fld_57_41, fld_57_42, fld_57_43, arr_58, arr_59, arr_60, arr_61, arr_62, arr_63, arr_64, arr_65, arr_66, arr_67, arr_68, arr_69, arr_70, arr_71, arr_72, arr_73, arr_74, arr_75, arr_76, arr_77, arr_78, arr_79, arr_80, arr_81, arr_82, arr_83, arr_84, arr_85, arr_86, arr_87, arr_88, arr_89, arr_90, arr_91, arr_92]
  try simp (disch := omega) only [vc_brT, vc_brF, vc_anT, vc_brt, vc_brf, vc_ant, vn_n0, vn_in, vn_cl, vn_lt, vn_le, vn_eq, vn_sub, vn_div, vn_rem, vn_mod, vn_m1, vn_m1n, vn_m1p, nI_add, pk_mul, vc_sa_1, vc_sa_2, vc_sg_1, vc_sg_2, Nat.reduceEqDiff, Nat.reduceLeDiff, Nat.reduceAdd, Nat.reduceMul, Nat.reduceSub, Nat.not_lt_zero, Nat.add_left_cancel_iff, reduceIte, true_and, and_true, not_false_eq_true, not_true_eq_false, true_or, or_true, Bool.false_eq_true]
  refine vc_br_i (fun q => ?_) (fun q => ?_)
  · refine g_125_18 ?_
    simp only [vc_wi, vc_li, vc_ll, vc_lr, vc_i1, vc_i2, vc_l1, vc_l2, vc_il, vc_r1, vc_ri, vc_rii, vc_rx, vc_cp, vc_s1, vc_s2, vc_fg, vc_cm, vc_ald, vc_bld, vc_ast, vc_bst, vc_len, vc_gf, vc_pf, vc_cpy, vc_ct, List.getElem?_cons_zero, List.getElem?_cons_succ, List.set_cons_zero, List.set_cons_succ, List.take_succ_cons, List.take_zero, List.drop_succ_cons, List.drop_zero, List.reverse_cons, List.reverse_nil, List.nil_append, List.cons_append, Option.toList_some, Option.toList_none, List.map_cons, List.map_nil, List.sum_cons, List.sum_nil, List.length_cons, List.length_nil, Value.category, Nat.reduceEqDiff, Nat.reduceLeDiff, Nat.reduceAdd, reduceIte, true_and, and_true, B_125_18, rt_125, cls_57, fld_57_0, fld_57_1, fld_57_2, fld_57_3, fld_57_4, fld_57_5, fld_57_6, fld_57_7, fld_57_8, fld_57_9, fld_57_10, fld_57_11, fld_57_12, fld_57_13, fld_57_14, fld_57_15, fld_57_16, fld_57_17, fld_57_18, fld_57_19, fld_57_20, fld_57_21, fld_57_22, fld_57_23, fld_57_24, fld_57_25, fld_57_26, fld_57_27, fld_57_28, fld_57_29, fld_57_30, fld_57_31, fld_57_32, fld_57_33, fld_57_34, fld_57_35, fld_57_36, fld_57_37, fld_57_38, fld_57_39, fld_57_40, fld_57_41, fld_57_42, fld_57_43, arr_58, arr_59, arr_60, arr_61, arr_62, arr_63, arr_64, arr_65, arr_66, arr_67, arr_68, arr_69, arr_70, arr_71, arr_72, arr_73, arr_74, arr_75, arr_76, arr_77, arr_78, arr_79, arr_80, arr_81, arr_82, arr_83, arr_84, arr_85, arr_86, arr_87, arr_88, arr_89, arr_90, arr_91, arr_92]
    try simp (disch := omega) only [vc_brT, vc_brF, vc_anT, vc_brt, vc_brf, vc_ant, vn_n0, vn_in, vn_cl, vn_lt, vn_le, vn_eq, vn_sub, vn_div, vn_rem, vn_mod, vn_m1, vn_m1n, vn_m1p, nI_add, pk_mul, vc_sa_1, vc_sa_2, vc_sg_1, vc_sg_2, Nat.reduceEqDiff, Nat.reduceLeDiff, Nat.reduceAdd, Nat.reduceMul, Nat.reduceSub, Nat.not_lt_zero, Nat.add_left_cancel_iff, reduceIte, true_and, and_true, not_false_eq_true, not_true_eq_false, true_or, or_true, Bool.false_eq_true]
    refine g_125_19 ?_
    simp only [vc_wi, vc_li, vc_ll, vc_lr, vc_i1, vc_i2, vc_l1, vc_l2, vc_il, vc_r1, vc_ri, vc_rii, vc_rx, vc_cp, vc_s1, vc_s2, vc_fg, vc_cm, vc_ald, vc_bld, vc_ast, vc_bst, vc_len, vc_gf, vc_pf, vc_cpy, vc_ct, List.getElem?_cons_zero, List.getElem?_cons_succ, List.set_cons_zero, List.set_cons_succ, List.take_succ_cons, List.take_zero, List.drop_succ_cons, List.drop_zero, List.reverse_cons, List.reverse_nil, List.nil_append, List.cons_append, Option.toList_some, Option.toList_none, List.map_cons, List.map_nil, List.sum_cons, List.sum_nil, List.length_cons, List.length_nil, Value.category, Nat.reduceEqDiff, Nat.reduceLeDiff, Nat.reduceAdd, reduceIte, true_and, and_true, B_125_19, rt_125, cls_57, fld_57_0, fld_57_1, fld_57_2, fld_57_3, fld_57_4, fld_57_5, fld_57_6, fld_57_7, fld_57_8, fld_57_9, fld_57_10, fld_57_11, fld_57_12, fld_57_13, fld_57_14, fld_57_15, fld_57_16, fld_57_17, fld_57_18, fld_57_19, fld_57_20, fld_57_21, fld_57_22, fld_57_23, fld_57_24, fld_57_25, fld_57_26, fld_57_27, fld_57_28, fld_57_29, fld_57_30, fld_57_31, fld_57_32, fld_57_33, fld_57_34, fld_57_35, fld_57_36, fld_57_37, fld_57_38, fld_57_39, fld_57_40, fld_57_41, fld_57_42, fld_57_43, arr_58, arr_59, arr_60, arr_61, arr_62, arr_63, arr_64, arr_65, arr_66, arr_67, arr_68, arr_69, arr_70, arr_71, arr_72, arr_73, arr_74, arr_75, arr_76, arr_77, arr_78, arr_79, arr_80, arr_81, arr_82, arr_83, arr_84, arr_85, arr_86, arr_87, arr_88, arr_89, arr_90, arr_91, arr_92]
    try simp (disch := omega) only [vc_brT, vc_brF, vc_anT, vc_brt, vc_brf, vc_ant, vn_n0, vn_in, vn_cl, vn_lt, vn_le, vn_eq, vn_sub, vn_div, vn_rem, vn_mod, vn_m1, vn_m1n, vn_m1p, nI_add, pk_mul, vc_sa_1, vc_sa_2, vc_sg_1, vc_sg_2, Nat.reduceEqDiff, Nat.reduceLeDiff, Nat.reduceAdd, Nat.reduceMul, Nat.reduceSub, Nat.not_lt_zero, Nat.add_left_cancel_iff, reduceIte, true_and, and_true, not_false_eq_true, not_true_eq_false, true_or, or_true, Bool.false_eq_true]
    rw [if_neg q] at this
    exact this
  · refine g_125_19 ?_
    simp only [vc_wi, vc_li, vc_ll, vc_lr, vc_i1, vc_i2, vc_l1, vc_l2, vc_il, vc_r1, vc_ri, vc_rii, vc_rx, vc_cp, vc_s1, vc_s2, vc_fg, vc_cm, vc_ald, vc_bld, vc_ast, vc_bst, vc_len, vc_gf, vc_pf, vc_cpy, vc_ct, List.getElem?_cons_zero, List.getElem?_cons_succ, List.set_cons_zero, List.set_cons_succ, List.take_succ_cons, List.take_zero, List.drop_succ_cons, List.drop_zero, List.reverse_cons, List.reverse_nil, List.nil_append, List.cons_append, Option.toList_some, Option.toList_none, List.map_cons, List.map_nil, List.sum_cons, List.sum_nil, List.length_cons, List.length_nil, Value.category, Nat.reduceEqDiff, Nat.reduceLeDiff, Nat.reduceAdd, reduceIte, true_and, and_true, B_125_19, rt_125, cls_57, fld_57_0, fld_57_1, fld_57_2, fld_57_3, fld_57_4, fld_57_5, fld_57_6, fld_57_7, fld_57_8, fld_57_9, fld_57_10, fld_57_11, fld_57_12, fld_57_13, fld_57_14, fld_57_15, fld_57_16, fld_57_17, fld_57_18, fld_57_19, fld_57_20, fld_57_21, fld_57_22, fld_57_23, fld_57_24, fld_57_25, fld_57_26, fld_57_27, fld_57_28, fld_57_29, fld_57_30, fld_57_31, fld_57_32, fld_57_33, fld_57_34, fld_57_35, fld_57_36, fld_57_37, fld_57_38, fld_57_39, fld_57_40, fld_57_41, fld_57_42, fld_57_43, arr_58, arr_59, arr_60, arr_61, arr_62, arr_63, arr_64, arr_65, arr_66, arr_67, arr_68, arr_69, arr_70, arr_71, arr_72, arr_73, arr_74, arr_75, arr_76, arr_77, arr_78, arr_79, arr_80, arr_81, arr_82, arr_83, arr_84, arr_85, arr_86, arr_87, arr_88, arr_89, arr_90, arr_91, arr_92]
    try simp (disch := omega) only [vc_brT, vc_brF, vc_anT, vc_brt, vc_brf, vc_ant, vn_n0, vn_in, vn_cl, vn_lt, vn_le, vn_eq, vn_sub, vn_div, vn_rem, vn_mod, vn_m1, vn_m1n, vn_m1p, nI_add, pk_mul, vc_sa_1, vc_sa_2, vc_sg_1, vc_sg_2, Nat.reduceEqDiff, Nat.reduceLeDiff, Nat.reduceAdd, Nat.reduceMul, Nat.reduceSub, Nat.not_lt_zero, Nat.add_left_cancel_iff, reduceIte, true_and, and_true, not_false_eq_true, not_true_eq_false, true_or, or_true, Bool.false_eq_true]
    rw [if_pos (Decidable.not_not.mp q)] at this
    exact this
set_option maxHeartbeats 4000000 in
set_option maxRecDepth 100000 in
theorem mt_reads {K : vc_K} {T : zT} {σ : vc_S} {Q : Option Value → vc_S → Prop} (hT : zOk T) (hI : mI σ T) (h : ∀ τ : vc_S, mFr [2, 5] [60, 61, 62, 63] σ τ → mRd τ T → Q none τ) : vc_C K 126 [.ref 57] σ Q := by
  refine vc_C_of (ls0 := [some (.ref 57), none]) hk_126 (Nat.le_of_ble_eq_true rfl) rfl ?_
  refine g_126_0 ?_
  simp only [vc_wi, vc_li, vc_ll, vc_lr, vc_i1, vc_i2, vc_l1, vc_l2, vc_il, vc_r1, vc_ri, vc_rii, vc_rx, vc_cp, vc_s1, vc_s2, vc_fg, vc_cm, vc_ald, vc_bld, vc_ast, vc_bst, vc_len, vc_gf, vc_pf, vc_cpy, vc_ct, List.getElem?_cons_zero, List.getElem?_cons_succ, List.set_cons_zero, List.set_cons_succ, List.take_succ_cons, List.take_zero, List.drop_succ_cons, List.drop_zero, List.reverse_cons, List.reverse_nil, List.nil_append, List.cons_append, Option.toList_some, Option.toList_none, List.map_cons, List.map_nil, List.sum_cons, List.sum_nil, List.length_cons, List.length_nil, Value.category, Nat.reduceEqDiff, Nat.reduceLeDiff, Nat.reduceAdd, reduceIte, true_and, and_true, B_126_0, rt_126, cls_57, fld_57_0, fld_57_1, fld_57_2, fld_57_3, fld_57_4, fld_57_5, fld_57_6, fld_57_7, fld_57_8, fld_57_9, fld_57_10, fld_57_11, fld_57_12, fld_57_13, fld_57_14, fld_57_15, fld_57_16, fld_57_17, fld_57_18, fld_57_19, fld_57_20, fld_57_21, fld_57_22, fld_57_23, fld_57_24, fld_57_25, fld_57_26, fld_57_27, fld_57_28, fld_57_29, fld_57_30, fld_57_31, fld_57_32, fld_57_33, fld_57_34, fld_57_35, fld_57_36, fld_57_37, fld_57_38, fld_57_39, fld_57_40, fld_57_41, fld_57_42, fld_57_43, arr_58, arr_59, arr_60, arr_61, arr_62, arr_63, arr_64, arr_65, arr_66, arr_67, arr_68, arr_69, arr_70, arr_71, arr_72, arr_73, arr_74, arr_75, arr_76, arr_77, arr_78, arr_79, arr_80, arr_81, arr_82, arr_83, arr_84, arr_85, arr_86, arr_87, arr_88, arr_89, arr_90, arr_91, arr_92]
  try simp (disch := omega) only [vc_brT, vc_brF, vc_anT, vc_brt, vc_brf, vc_ant, vn_n0, vn_in, vn_cl, vn_lt, vn_le, vn_eq, vn_sub, vn_div, vn_rem, vn_mod, vn_m1, vn_m1n, vn_m1p, nI_add, pk_mul, vc_sa_1, vc_sa_2, vc_sg_1, vc_sg_2, Nat.reduceEqDiff, Nat.reduceLeDiff, Nat.reduceAdd, Nat.reduceMul, Nat.reduceSub, Nat.not_lt_zero, Nat.add_left_cancel_iff, reduceIte, true_and, and_true, not_false_eq_true, not_true_eq_false, true_or, or_true, Bool.false_eq_true]
  refine mt_faultOf hT hI ?_
  intro τ f1 r1
  simp only [vc_wi, vc_li, vc_ll, vc_lr, vc_i1, vc_i2, vc_l1, vc_l2, vc_il, vc_r1, vc_ri, vc_rii, vc_rx, vc_cp, vc_s1, vc_s2, vc_fg, vc_cm, vc_ald, vc_bld, vc_ast, vc_bst, vc_len, vc_gf, vc_pf, vc_cpy, vc_ct, List.getElem?_cons_zero, List.getElem?_cons_succ, List.set_cons_zero, List.set_cons_succ, List.take_succ_cons, List.take_zero, List.drop_succ_cons, List.drop_zero, List.reverse_cons, List.reverse_nil, List.nil_append, List.cons_append, Option.toList_some, Option.toList_none, List.map_cons, List.map_nil, List.sum_cons, List.sum_nil, List.length_cons, List.length_nil, Value.category, Nat.reduceEqDiff, Nat.reduceLeDiff, Nat.reduceAdd, reduceIte, true_and, and_true, rt_126, cls_57, fld_57_0, fld_57_1, fld_57_2, fld_57_3, fld_57_4, fld_57_5, fld_57_6, fld_57_7, fld_57_8, fld_57_9, fld_57_10, fld_57_11, fld_57_12, fld_57_13, fld_57_14, fld_57_15, fld_57_16, fld_57_17, fld_57_18, fld_57_19, fld_57_20, fld_57_21, fld_57_22, fld_57_23, fld_57_24, fld_57_25, fld_57_26, fld_57_27, fld_57_28, fld_57_29, fld_57_30, fld_57_31, fld_57_32, fld_57_33, fld_57_34, fld_57_35, fld_57_36, fld_57_37, fld_57_38, fld_57_39, fld_57_40, fld_57_41, fld_57_42, fld_57_43, arr_58, arr_59, arr_60, arr_61, arr_62, arr_63, arr_64, arr_65, arr_66, arr_67, arr_68, arr_69, arr_70, arr_71, arr_72, arr_73, arr_74, arr_75, arr_76, arr_77, arr_78, arr_79, arr_80, arr_81, arr_82, arr_83, arr_84, arr_85, arr_86, arr_87, arr_88, arr_89, arr_90, arr_91, arr_92]
  try simp (disch := omega) only [vc_brT, vc_brF, vc_anT, vc_brt, vc_brf, vc_ant, vn_n0, vn_in, vn_cl, vn_lt, vn_le, vn_eq, vn_sub, vn_div, vn_rem, vn_mod, vn_m1, vn_m1n, vn_m1p, nI_add, pk_mul, vc_sa_1, vc_sa_2, vc_sg_1, vc_sg_2, Nat.reduceEqDiff, Nat.reduceLeDiff, Nat.reduceAdd, Nat.reduceMul, Nat.reduceSub, Nat.not_lt_zero, Nat.add_left_cancel_iff, reduceIte, true_and, and_true, not_false_eq_true, not_true_eq_false, true_or, or_true, Bool.false_eq_true]
  exact h τ f1 r1
set_option maxHeartbeats 4000000 in
set_option maxRecDepth 100000 in
theorem mt_isBoy {K : vc_K} {v : Int32} {T : zT} {σ : vc_S} {Q : Option Value → vc_S → Prop} (hT : zOk T) (hI : mI σ T) (h : ∀ τ : vc_S, mFr [2, 5] [60, 61, 62, 63] σ τ → mRd τ T → Q (some (.int (zb (zlt v (zn T))))) τ) : vc_C K 128 [.ref 57, .int v] σ Q := by
  have hn := zn_le hT
  refine vc_C_of (ls0 := [some (.ref 57), some (.int v)]) hk_128 (Nat.le_of_ble_eq_true rfl) rfl ?_
  refine g_128_0 ?_
  simp only [vc_wi, vc_li, vc_ll, vc_lr, vc_i1, vc_i2, vc_l1, vc_l2, vc_il, vc_r1, vc_ri, vc_rii, vc_rx, vc_cp, vc_s1, vc_s2, vc_fg, vc_cm, vc_ald, vc_bld, vc_ast, vc_bst, vc_len, vc_gf, vc_pf, vc_cpy, vc_ct, List.getElem?_cons_zero, List.getElem?_cons_succ, List.set_cons_zero, List.set_cons_succ, List.take_succ_cons, List.take_zero, List.drop_succ_cons, List.drop_zero, List.reverse_cons, List.reverse_nil, List.nil_append, List.cons_append, Option.toList_some, Option.toList_none, List.map_cons, List.map_nil, List.sum_cons, List.sum_nil, List.length_cons, List.length_nil, Value.category, Nat.reduceEqDiff, Nat.reduceLeDiff, Nat.reduceAdd, reduceIte, true_and, and_true, B_128_0, rt_128, cls_57, fld_57_0, fld_57_1, fld_57_2, fld_57_3, fld_57_4, fld_57_5, fld_57_6, fld_57_7, fld_57_8, fld_57_9, fld_57_10, fld_57_11, fld_57_12, fld_57_13, fld_57_14, fld_57_15, fld_57_16, fld_57_17, fld_57_18, fld_57_19, fld_57_20, fld_57_21, fld_57_22, fld_57_23, fld_57_24, fld_57_25, fld_57_26, fld_57_27, fld_57_28, fld_57_29, fld_57_30, fld_57_31, fld_57_32, fld_57_33, fld_57_34, fld_57_35, fld_57_36, fld_57_37, fld_57_38, fld_57_39, fld_57_40, fld_57_41, fld_57_42, fld_57_43, arr_58, arr_59, arr_60, arr_61, arr_62, arr_63, arr_64, arr_65, arr_66, arr_67, arr_68, arr_69, arr_70, arr_71, arr_72, arr_73, arr_74, arr_75, arr_76, arr_77, arr_78, arr_79, arr_80, arr_81, arr_82, arr_83, arr_84, arr_85, arr_86, arr_87, arr_88, arr_89, arr_90, arr_91, arr_92]
  try simp (disch := omega) only [vc_brT, vc_brF, vc_anT, vc_brt, vc_brf, vc_ant, vn_n0, vn_in, vn_cl, vn_lt, vn_le, vn_eq, vn_sub, vn_div, vn_rem, vn_mod, vn_m1, vn_m1n, vn_m1p, nI_add, pk_mul, vc_sa_1, vc_sa_2, vc_sg_1, vc_sg_2, Nat.reduceEqDiff, Nat.reduceLeDiff, Nat.reduceAdd, Nat.reduceMul, Nat.reduceSub, Nat.not_lt_zero, Nat.add_left_cancel_iff, reduceIte, true_and, and_true, not_false_eq_true, not_true_eq_false, true_or, or_true, Bool.false_eq_true]
  refine mt_reads hT hI ?_
  intro τ f1 r1
  have r2 := r1.1
  have := h τ f1 r1
  simp only [vc_wi, vc_li, vc_ll, vc_lr, vc_i1, vc_i2, vc_l1, vc_l2, vc_il, vc_r1, vc_ri, vc_rii, vc_rx, vc_cp, vc_s1, vc_s2, vc_fg, vc_cm, vc_ald, vc_bld, vc_ast, vc_bst, vc_len, vc_gf, vc_pf, vc_cpy, vc_ct, List.getElem?_cons_zero, List.getElem?_cons_succ, List.set_cons_zero, List.set_cons_succ, List.take_succ_cons, List.take_zero, List.drop_succ_cons, List.drop_zero, List.reverse_cons, List.reverse_nil, List.nil_append, List.cons_append, Option.toList_some, Option.toList_none, List.map_cons, List.map_nil, List.sum_cons, List.sum_nil, List.length_cons, List.length_nil, Value.category, Nat.reduceEqDiff, Nat.reduceLeDiff, Nat.reduceAdd, reduceIte, true_and, and_true, rt_128, cls_57, fld_57_0, fld_57_1, fld_57_2, fld_57_3, fld_57_4, fld_57_5, fld_57_6, fld_57_7, fld_57_8, fld_57_9, fld_57_10, fld_57_11, fld_57_12, fld_57_13, fld_57_14, fld_57_15, fld_57_16, fld_57_17, fld_57_18, fld_57_19, fld_57_20, fld_57_21, fld_57_22, fld_57_23, fld_57_24, fld_57_25, fld_57_26, fld_57_27, fld_57_28, fld_57_29, fld_57_30, fld_57_31, fld_57_32, fld_57_33, fld_57_34, fld_57_35, fld_57_36, fld_57_37, fld_57_38, fld_57_39, fld_57_40, fld_57_41, fld_57_42, fld_57_43, arr_58, arr_59, arr_60, arr_61, arr_62, arr_63, arr_64, arr_65, arr_66, arr_67, arr_68, arr_69, arr_70, arr_71, arr_72, arr_73, arr_74, arr_75, arr_76, arr_77, arr_78, arr_79, arr_80, arr_81, arr_82, arr_83, arr_84, arr_85, arr_86, arr_87, arr_88, arr_89, arr_90, arr_91, arr_92]
  try simp (disch := omega) only [vc_brT, vc_brF, vc_anT, vc_brt, vc_brf, vc_ant, vn_n0, vn_in, vn_cl, vn_lt, vn_le, vn_eq, vn_sub, vn_div, vn_rem, vn_mod, vn_m1, vn_m1n, vn_m1p, nI_add, pk_mul, vc_sa_1, vc_sa_2, vc_sg_1, vc_sg_2, Nat.reduceEqDiff, Nat.reduceLeDiff, Nat.reduceAdd, Nat.reduceMul, Nat.reduceSub, Nat.not_lt_zero, Nat.add_left_cancel_iff, reduceIte, true_and, and_true, not_false_eq_true, not_true_eq_false, true_or, or_true, Bool.false_eq_true, r2]
  refine mt_inP (by omega) ?_
  simp only [vc_wi, vc_li, vc_ll, vc_lr, vc_i1, vc_i2, vc_l1, vc_l2, vc_il, vc_r1, vc_ri, vc_rii, vc_rx, vc_cp, vc_s1, vc_s2, vc_fg, vc_cm, vc_ald, vc_bld, vc_ast, vc_bst, vc_len, vc_gf, vc_pf, vc_cpy, vc_ct, List.getElem?_cons_zero, List.getElem?_cons_succ, List.set_cons_zero, List.set_cons_succ, List.take_succ_cons, List.take_zero, List.drop_succ_cons, List.drop_zero, List.reverse_cons, List.reverse_nil, List.nil_append, List.cons_append, Option.toList_some, Option.toList_none, List.map_cons, List.map_nil, List.sum_cons, List.sum_nil, List.length_cons, List.length_nil, Value.category, Nat.reduceEqDiff, Nat.reduceLeDiff, Nat.reduceAdd, reduceIte, true_and, and_true, rt_128, cls_57, fld_57_0, fld_57_1, fld_57_2, fld_57_3, fld_57_4, fld_57_5, fld_57_6, fld_57_7, fld_57_8, fld_57_9, fld_57_10, fld_57_11, fld_57_12, fld_57_13, fld_57_14, fld_57_15, fld_57_16, fld_57_17, fld_57_18, fld_57_19, fld_57_20, fld_57_21, fld_57_22, fld_57_23, fld_57_24, fld_57_25, fld_57_26, fld_57_27, fld_57_28, fld_57_29, fld_57_30, fld_57_31, fld_57_32, fld_57_33, fld_57_34, fld_57_35, fld_57_36, fld_57_37, fld_57_38, fld_57_39, fld_57_40, fld_57_41, fld_57_42, fld_57_43, arr_58, arr_59, arr_60, arr_61, arr_62, arr_63, arr_64, arr_65, arr_66, arr_67, arr_68, arr_69, arr_70, arr_71, arr_72, arr_73, arr_74, arr_75, arr_76, arr_77, arr_78, arr_79, arr_80, arr_81, arr_82, arr_83, arr_84, arr_85, arr_86, arr_87, arr_88, arr_89, arr_90, arr_91, arr_92]
  try simp (disch := omega) only [vc_brT, vc_brF, vc_anT, vc_brt, vc_brf, vc_ant, vn_n0, vn_in, vn_cl, vn_lt, vn_le, vn_eq, vn_sub, vn_div, vn_rem, vn_mod, vn_m1, vn_m1n, vn_m1p, nI_add, pk_mul, vc_sa_1, vc_sa_2, vc_sg_1, vc_sg_2, Nat.reduceEqDiff, Nat.reduceLeDiff, Nat.reduceAdd, Nat.reduceMul, Nat.reduceSub, Nat.not_lt_zero, Nat.add_left_cancel_iff, reduceIte, true_and, and_true, not_false_eq_true, not_true_eq_false, true_or, or_true, Bool.false_eq_true]
  exact ⟨zb_01 _, this⟩
set_option maxHeartbeats 4000000 in
set_option maxRecDepth 100000 in
theorem mt_isSeat {K : vc_K} {v : Int32} {T : zT} {σ : vc_S} {Q : Option Value → vc_S → Prop} (hT : zOk T) (hI : mI σ T) (h : ∀ τ : vc_S, mFr [2, 5] [60, 61, 62, 63] σ τ → mRd τ T → Q (some (.int (zb (zlt v (zs T))))) τ) : vc_C K 129 [.ref 57, .int v] σ Q := by
  have hn := zs_le T
  refine vc_C_of (ls0 := [some (.ref 57), some (.int v)]) hk_129 (Nat.le_of_ble_eq_true rfl) rfl ?_
  refine g_129_0 ?_
  simp only [vc_wi, vc_li, vc_ll, vc_lr, vc_i1, vc_i2, vc_l1, vc_l2, vc_il, vc_r1, vc_ri, vc_rii, vc_rx, vc_cp, vc_s1, vc_s2, vc_fg, vc_cm, vc_ald, vc_bld, vc_ast, vc_bst, vc_len, vc_gf, vc_pf, vc_cpy, vc_ct, List.getElem?_cons_zero, List.getElem?_cons_succ, List.set_cons_zero, List.set_cons_succ, List.take_succ_cons, List.take_zero, List.drop_succ_cons, List.drop_zero, List.reverse_cons, List.reverse_nil, List.nil_append, List.cons_append, Option.toList_some, Option.toList_none, List.map_cons, List.map_nil, List.sum_cons, List.sum_nil, List.length_cons, List.length_nil, Value.category, Nat.reduceEqDiff, Nat.reduceLeDiff, Nat.reduceAdd, reduceIte, true_and, and_true, B_129_0, rt_129, cls_57, fld_57_0, fld_57_1, fld_57_2, fld_57_3, fld_57_4, fld_57_5, fld_57_6, fld_57_7, fld_57_8, fld_57_9, fld_57_10, fld_57_11, fld_57_12, fld_57_13, fld_57_14, fld_57_15, fld_57_16, fld_57_17, fld_57_18, fld_57_19, fld_57_20, fld_57_21, fld_57_22, fld_57_23, fld_57_24, fld_57_25, fld_57_26, fld_57_27, fld_57_28, fld_57_29, fld_57_30, fld_57_31, fld_57_32, fld_57_33, fld_57_34, fld_57_35, fld_57_36, fld_57_37, fld_57_38, fld_57_39, fld_57_40, fld_57_41, fld_57_42, fld_57_43, arr_58, arr_59, arr_60, arr_61, arr_62, arr_63, arr_64, arr_65, arr_66, arr_67, arr_68, arr_69, arr_70, arr_71, arr_72, arr_73, arr_74, arr_75, arr_76, arr_77, arr_78, arr_79, arr_80, arr_81, arr_82, arr_83, arr_84, arr_85, arr_86, arr_87, arr_88, arr_89, arr_90, arr_91, arr_92]
  try simp (disch := omega) only [vc_brT, vc_brF, vc_anT, vc_brt, vc_brf, vc_ant, vn_n0, vn_in, vn_cl, vn_lt, vn_le, vn_eq, vn_sub, vn_div, vn_rem, vn_mod, vn_m1, vn_m1n, vn_m1p, nI_add, pk_mul, vc_sa_1, vc_sa_2, vc_sg_1, vc_sg_2, Nat.reduceEqDiff, Nat.reduceLeDiff, Nat.reduceAdd, Nat.reduceMul, Nat.reduceSub, Nat.not_lt_zero, Nat.add_left_cancel_iff, reduceIte, true_and, and_true, not_false_eq_true, not_true_eq_false, true_or, or_true, Bool.false_eq_true]
  refine mt_reads hT hI ?_
  intro τ f1 r1
  have r2 := r1.2.1
  have := h τ f1 r1
  simp only [vc_wi, vc_li, vc_ll, vc_lr, vc_i1, vc_i2, vc_l1, vc_l2, vc_il, vc_r1, vc_ri, vc_rii, vc_rx, vc_cp, vc_s1, vc_s2, vc_fg, vc_cm, vc_ald, vc_bld, vc_ast, vc_bst, vc_len, vc_gf, vc_pf, vc_cpy, vc_ct, List.getElem?_cons_zero, List.getElem?_cons_succ, List.set_cons_zero, List.set_cons_succ, List.take_succ_cons, List.take_zero, List.drop_succ_cons, List.drop_zero, List.reverse_cons, List.reverse_nil, List.nil_append, List.cons_append, Option.toList_some, Option.toList_none, List.map_cons, List.map_nil, List.sum_cons, List.sum_nil, List.length_cons, List.length_nil, Value.category, Nat.reduceEqDiff, Nat.reduceLeDiff, Nat.reduceAdd, reduceIte, true_and, and_true, rt_129, cls_57, fld_57_0, fld_57_1, fld_57_2, fld_57_3, fld_57_4, fld_57_5, fld_57_6, fld_57_7, fld_57_8, fld_57_9, fld_57_10, fld_57_11, fld_57_12, fld_57_13, fld_57_14, fld_57_15, fld_57_16, fld_57_17, fld_57_18, fld_57_19, fld_57_20, fld_57_21, fld_57_22, fld_57_23, fld_57_24, fld_57_25, fld_57_26, fld_57_27, fld_57_28, fld_57_29, fld_57_30, fld_57_31, fld_57_32, fld_57_33, fld_57_34, fld_57_35, fld_57_36, fld_57_37, fld_57_38, fld_57_39, fld_57_40, fld_57_41, fld_57_42, fld_57_43, arr_58, arr_59, arr_60, arr_61, arr_62, arr_63, arr_64, arr_65, arr_66, arr_67, arr_68, arr_69, arr_70, arr_71, arr_72, arr_73, arr_74, arr_75, arr_76, arr_77, arr_78, arr_79, arr_80, arr_81, arr_82, arr_83, arr_84, arr_85, arr_86, arr_87, arr_88, arr_89, arr_90, arr_91, arr_92]
  try simp (disch := omega) only [vc_brT, vc_brF, vc_anT, vc_brt, vc_brf, vc_ant, vn_n0, vn_in, vn_cl, vn_lt, vn_le, vn_eq, vn_sub, vn_div, vn_rem, vn_mod, vn_m1, vn_m1n, vn_m1p, nI_add, pk_mul, vc_sa_1, vc_sa_2, vc_sg_1, vc_sg_2, Nat.reduceEqDiff, Nat.reduceLeDiff, Nat.reduceAdd, Nat.reduceMul, Nat.reduceSub, Nat.not_lt_zero, Nat.add_left_cancel_iff, reduceIte, true_and, and_true, not_false_eq_true, not_true_eq_false, true_or, or_true, Bool.false_eq_true, r2]
  refine mt_inP (by omega) ?_
  simp only [vc_wi, vc_li, vc_ll, vc_lr, vc_i1, vc_i2, vc_l1, vc_l2, vc_il, vc_r1, vc_ri, vc_rii, vc_rx, vc_cp, vc_s1, vc_s2, vc_fg, vc_cm, vc_ald, vc_bld, vc_ast, vc_bst, vc_len, vc_gf, vc_pf, vc_cpy, vc_ct, List.getElem?_cons_zero, List.getElem?_cons_succ, List.set_cons_zero, List.set_cons_succ, List.take_succ_cons, List.take_zero, List.drop_succ_cons, List.drop_zero, List.reverse_cons, List.reverse_nil, List.nil_append, List.cons_append, Option.toList_some, Option.toList_none, List.map_cons, List.map_nil, List.sum_cons, List.sum_nil, List.length_cons, List.length_nil, Value.category, Nat.reduceEqDiff, Nat.reduceLeDiff, Nat.reduceAdd, reduceIte, true_and, and_true, rt_129, cls_57, fld_57_0, fld_57_1, fld_57_2, fld_57_3, fld_57_4, fld_57_5, fld_57_6, fld_57_7, fld_57_8, fld_57_9, fld_57_10, fld_57_11, fld_57_12, fld_57_13, fld_57_14, fld_57_15, fld_57_16, fld_57_17, fld_57_18, fld_57_19, fld_57_20, fld_57_21, fld_57_22, fld_57_23, fld_57_24, fld_57_25, fld_57_26, fld_57_27, fld_57_28, fld_57_29, fld_57_30, fld_57_31, fld_57_32, fld_57_33, fld_57_34, fld_57_35, fld_57_36, fld_57_37, fld_57_38, fld_57_39, fld_57_40, fld_57_41, fld_57_42, fld_57_43, arr_58, arr_59, arr_60, arr_61, arr_62, arr_63, arr_64, arr_65, arr_66, arr_67, arr_68, arr_69, arr_70, arr_71, arr_72, arr_73, arr_74, arr_75, arr_76, arr_77, arr_78, arr_79, arr_80, arr_81, arr_82, arr_83, arr_84, arr_85, arr_86, arr_87, arr_88, arr_89, arr_90, arr_91, arr_92]
  try simp (disch := omega) only [vc_brT, vc_brF, vc_anT, vc_brt, vc_brf, vc_ant, vn_n0, vn_in, vn_cl, vn_lt, vn_le, vn_eq, vn_sub, vn_div, vn_rem, vn_mod, vn_m1, vn_m1n, vn_m1p, nI_add, pk_mul, vc_sa_1, vc_sa_2, vc_sg_1, vc_sg_2, Nat.reduceEqDiff, Nat.reduceLeDiff, Nat.reduceAdd, Nat.reduceMul, Nat.reduceSub, Nat.not_lt_zero, Nat.add_left_cancel_iff, reduceIte, true_and, and_true, not_false_eq_true, not_true_eq_false, true_or, or_true, Bool.false_eq_true]
  exact ⟨zb_01 _, this⟩
