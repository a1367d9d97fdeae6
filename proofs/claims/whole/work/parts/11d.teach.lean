/-- a Year's seats, benches, sorts, boys -/
def yPar (o : Nat) (σ : vc_S) (P : yP) : Prop := yA o σ P.2.2.1 P.2.2.2.1 ∧ ySo o σ P.1 P.2.1 ∧ σ.1 o 8 = nI P.1
/-- who sits: boys, and none in two places -/
def yWok (P : yP) (w : Nat → Option Nat) : Prop := (∀ p, p < P.2.2.1 → yIn P.1 (w p)) ∧ ∀ p q k, p < P.2.2.1 → q < P.2.2.1 → w p = some k → w q = some k → p = q
theorem yA.fr {o s : Nat} {σ τ : vc_S} {be : Nat → Nat} {L : List Nat} (h : yA o σ s be) (hf : vc_fr L σ τ) (hL : o + 7 ∉ L) : yA o τ s be := ⟨by rw [hf.1]; exact h.1, h.2.1, fun p hp => by rw [hf.2 _ hL]; exact h.2.2 p hp⟩
theorem ySo.fr {o n : Nat} {σ τ : vc_S} {so : Nat → Nat} {L : List Nat} (h : ySo o σ n so) (hf : vc_fr L σ τ) (hL : o + 6 ∉ L) : ySo o τ n so := ⟨h.1, fun p hp => by rw [hf.2 _ hL]; exact h.2 p hp⟩
theorem yW.fr {o s r : Nat} {σ τ : vc_S} {w : Nat → Option Nat} {L : List Nat} (h : yW o σ s r w) (hf : vc_fr L σ τ) (hL : o + 1 ∉ L) : yW o τ s r w := fun p hp => by rw [hf.2 _ hL]; exact h p hp
theorem yPar.fr {o : Nat} {σ τ : vc_S} {P : yP} {L : List Nat} (h : yPar o σ P) (hf : vc_fr L σ τ) (h7 : o + 7 ∉ L) (h6 : o + 6 ∉ L) : yPar o τ P := ⟨h.1.fr hf h7, h.2.1.fr hf h6, by rw [hf.1]; exact h.2.2⟩
theorem yL_in {P : yP} {w : Nat → Option Nat} (h : yWok P w) {p : Nat} (hp : p < P.2.2.1) : yIn P.1 (yL P.2.2.2.1 w p) := by
  unfold yL
  split
  · exact h.1 _ (by omega)
  · intro k hk; cases hk
theorem yR_in {P : yP} {w : Nat → Option Nat} (h : yWok P w) {p : Nat} (hp : p < P.2.2.1) : yIn P.1 (yR P.2.2.1 P.2.2.2.1 w p) := by
  unfold yR
  split
  · exact h.1 _ (by omega)
  · intro k hk; cases hk
theorem yGs_some {P : yP} {w : Nat → Option Nat} {kn : Nat → Nat} {sub k p : Nat} (h : w p = some k) : yGs P w kn sub (p + 1) = fun j => if j = k then yGn P.2.1 kn sub k (yL P.2.2.2.1 w p) (yR P.2.2.1 P.2.2.2.1 w p) else yGs P w kn sub p j := by
  funext j
  rw [yGs, h]
theorem yGs_none {P : yP} {w : Nat → Option Nat} {kn : Nat → Nat} {sub p : Nat} (h : w p = none) : yGs P w kn sub (p + 1) = yGs P w kn sub p := by
  funext j
  rw [yGs, h]
theorem yGs_0 {P : yP} {w : Nat → Option Nat} {kn : Nat → Nat} {sub k : Nat} : ∀ p, (∀ q, q < p → ¬ w q = some k) → yGs P w kn sub p k = 0
  | 0, _ => rfl
  | p + 1, h => by
    have ih := yGs_0 (P := P) (kn := kn) (sub := sub) p (fun q hq => h q (by omega))
    cases hj : w p with
    | none => rw [yGs_none hj]; exact ih
    | some j =>
      rw [yGs_some hj]
      show (if k = j then _ else _) = 0
      rw [if_neg (fun e => h p (by omega) (by rw [hj, e]))]
      exact ih
theorem yGn_le {so kn : Nat → Nat} {sub k : Nat} {l r : Option Nat} (h : kn (3 * k + sub) ≤ 30) : kn (3 * k + sub) + yGn so kn sub k l r ≤ 30 := by
  unfold yGn
  omega
set_option maxHeartbeats 4000000 in
set_option maxRecDepth 100000 in
/-- teach(day, subject) -/
theorem ct_teach {K : vc_K} {o d sub : Nat} {P : yP} {w : Nat → Option Nat} {kn : Nat → Nat} {σ : vc_S} {Q : Option Value → vc_S → Prop} (ho : o = 29 ∨ o = 38) (hP : yPar o σ P) (hw : yW o σ P.2.2.1 (16 * (d + 1)) w) (hok : yWok P w) (hkn : yKn o σ (24 * d) kn) (hk1 : ∀ q, q < 24 → σ.2 (o + 2) (24 * (d + 1) + q) = nI (kn q)) (hg : ∀ k, k < 8 → σ.2 (o + 4) (8 * d + k) = nI 0) (hd : d < 30) (hsub : sub < 3)
    (h : ∀ τ, vc_fr [o + 2, o + 4] σ τ → (∀ i, (i < 24 * (d + 1) ∨ 24 * (d + 2) ≤ i) → τ.2 (o + 2) i = σ.2 (o + 2) i) → (∀ i, (i < 8 * d ∨ 8 * d + 8 ≤ i) → τ.2 (o + 4) i = σ.2 (o + 4) i) → (∀ k, k < 8 → τ.2 (o + 4) (8 * d + k) = nI (yGs P w kn sub P.2.2.1 k)) → (∀ q, q < 24 → τ.2 (o + 2) (24 * (d + 1) + q) = nI (kn q + (if q % 3 = sub then yGs P w kn sub P.2.2.1 (q / 3) else 0))) → Q none τ) : vc_C K 23 [.ref o, .int (nI d), .int (nI sub)] σ Q := by
  have ly := yLy ho
  obtain ⟨hA, hS, hb⟩ := hP
  have hs16 := hA.2.1
  have hn8 := hS.1
  have lp : ∀ (m p : Nat) (τ : vc_S), p + m = P.2.2.1 → vc_fr [o + 2, o + 4] σ τ → (∀ i, (i < 24 * (d + 1) ∨ 24 * (d + 2) ≤ i) → τ.2 (o + 2) i = σ.2 (o + 2) i) → (∀ i, (i < 8 * d ∨ 8 * d + 8 ≤ i) → τ.2 (o + 4) i = σ.2 (o + 4) i) → (∀ k, k < 8 → τ.2 (o + 4) (8 * d + k) = nI (yGs P w kn sub p k)) → (∀ q, q < 24 → τ.2 (o + 2) (24 * (d + 1) + q) = nI (kn q + (if q % 3 = sub then yGs P w kn sub p (q / 3) else 0))) →
      ∀ x6 x7 : Option Value, vc_G K 23 18 [some (.ref o), some (.int (nI d)), some (.int (nI sub)), some (.int (nI (16 * (d + 1)))), some (.int (nI (24 * d + sub))), some (.int (nI p)), x6, x7] [] τ Q := by
    intro m
    induction m with
    | zero =>
      intro p τ hp hf t1 t2 t3 t4 x6 x7
      have hA' := hA.fr hf (by simp)
      refine g_23_18 ?_
      simp only [vc_wi, vc_li, vc_ll, vc_lr, vc_i1, vc_i2, vc_l1, vc_l2, vc_il, vc_r1, vc_ri, vc_rii, vc_rx, vc_cp, vc_s1, vc_s2, vc_fg, vc_cm, vc_ald, vc_bld, vc_ast, vc_bst, vc_len, vc_gf, vc_pf, vc_cpy, vc_ct, List.getElem?_cons_zero, List.getElem?_cons_succ, List.set_cons_zero, List.set_cons_succ, List.take_succ_cons, List.take_zero, List.drop_succ_cons, List.drop_zero, List.reverse_cons, List.reverse_nil, List.nil_append, List.cons_append, Option.toList_some, Option.toList_none, List.map_cons, List.map_nil, List.sum_cons, List.sum_nil, List.length_cons, List.length_nil, Value.category, Nat.reduceEqDiff, Nat.reduceLeDiff, Nat.reduceAdd, reduceIte, true_and, and_true, B_23_18, rt_23, ly]
      try simp (disch := omega) only [vc_brT, vc_brF, vc_anT, vc_brt, vc_brf, vc_ant, vn_n0, vn_in, vn_cl, vn_lt, vn_le, vn_eq, vn_sub, vn_div, vn_rem, vn_mod, vn_m1, vn_m1n, vn_m1p, nI_add, pk_mul, vc_sa_1, vc_sa_2, vc_sg_1, vc_sg_2, Nat.reduceEqDiff, Nat.reduceLeDiff, Nat.reduceAdd, Nat.reduceMul, Nat.reduceSub, Nat.not_lt_zero, Nat.add_left_cancel_iff, reduceIte, true_and, and_true, not_false_eq_true, not_true_eq_false, true_or, or_true, Bool.false_eq_true, hA'.1]
      refine g_23_115 ?_
      simp only [vc_wi, vc_li, vc_ll, vc_lr, vc_i1, vc_i2, vc_l1, vc_l2, vc_il, vc_r1, vc_ri, vc_rii, vc_rx, vc_cp, vc_s1, vc_s2, vc_fg, vc_cm, vc_ald, vc_bld, vc_ast, vc_bst, vc_len, vc_gf, vc_pf, vc_cpy, vc_ct, List.getElem?_cons_zero, List.getElem?_cons_succ, List.set_cons_zero, List.set_cons_succ, List.take_succ_cons, List.take_zero, List.drop_succ_cons, List.drop_zero, List.reverse_cons, List.reverse_nil, List.nil_append, List.cons_append, Option.toList_some, Option.toList_none, List.map_cons, List.map_nil, List.sum_cons, List.sum_nil, List.length_cons, List.length_nil, Value.category, Nat.reduceEqDiff, Nat.reduceLeDiff, Nat.reduceAdd, reduceIte, true_and, and_true, B_23_115, rt_23, ly]
      try simp (disch := omega) only [vc_brT, vc_brF, vc_anT, vc_brt, vc_brf, vc_ant, vn_n0, vn_in, vn_cl, vn_lt, vn_le, vn_eq, vn_sub, vn_div, vn_rem, vn_mod, vn_m1, vn_m1n, vn_m1p, nI_add, pk_mul, vc_sa_1, vc_sa_2, vc_sg_1, vc_sg_2, Nat.reduceEqDiff, Nat.reduceLeDiff, Nat.reduceAdd, Nat.reduceMul, Nat.reduceSub, Nat.not_lt_zero, Nat.add_left_cancel_iff, reduceIte, true_and, and_true, not_false_eq_true, not_true_eq_false, true_or, or_true, Bool.false_eq_true]
      have e : p = P.2.2.1 := by omega
      subst e
      exact h τ hf t1 t2 t3 t4
    | succ m ih =>
      intro p τ hp hf t1 t2 t3 t4 x6 x7
      have hA' := hA.fr hf (by simp)
      have hS' := hS.fr hf (by simp)
      have hw' := hw.fr hf (by simp)
      have wp := hw' p (by omega)
      have hkn' : yKn o τ (24 * d) kn := fun q hq => ⟨by rw [t1 _ (by omega)]; exact (hkn q hq).1, (hkn q hq).2⟩
      refine g_23_18 ?_
      simp only [vc_wi, vc_li, vc_ll, vc_lr, vc_i1, vc_i2, vc_l1, vc_l2, vc_il, vc_r1, vc_ri, vc_rii, vc_rx, vc_cp, vc_s1, vc_s2, vc_fg, vc_cm, vc_ald, vc_bld, vc_ast, vc_bst, vc_len, vc_gf, vc_pf, vc_cpy, vc_ct, List.getElem?_cons_zero, List.getElem?_cons_succ, List.set_cons_zero, List.set_cons_succ, List.take_succ_cons, List.take_zero, List.drop_succ_cons, List.drop_zero, List.reverse_cons, List.reverse_nil, List.nil_append, List.cons_append, Option.toList_some, Option.toList_none, List.map_cons, List.map_nil, List.sum_cons, List.sum_nil, List.length_cons, List.length_nil, Value.category, Nat.reduceEqDiff, Nat.reduceLeDiff, Nat.reduceAdd, reduceIte, true_and, and_true, B_23_18, rt_23, ly]
      try simp (disch := omega) only [vc_brT, vc_brF, vc_anT, vc_brt, vc_brf, vc_ant, vn_n0, vn_in, vn_cl, vn_lt, vn_le, vn_eq, vn_sub, vn_div, vn_rem, vn_mod, vn_m1, vn_m1n, vn_m1p, nI_add, pk_mul, vc_sa_1, vc_sa_2, vc_sg_1, vc_sg_2, Nat.reduceEqDiff, Nat.reduceLeDiff, Nat.reduceAdd, Nat.reduceMul, Nat.reduceSub, Nat.not_lt_zero, Nat.add_left_cancel_iff, reduceIte, true_and, and_true, not_false_eq_true, not_true_eq_false, true_or, or_true, Bool.false_eq_true, hA'.1, wp]
      cases hwp : w p with
      | none =>
        simp (disch := omega) only [vc_brT, vc_brF, vc_anT, vc_brt, vc_brf, vc_ant, vn_n0, vn_in, vn_cl, vn_lt, vn_le, vn_eq, vn_sub, vn_div, vn_rem, vn_mod, vn_m1, vn_m1n, vn_m1p, nI_add, pk_mul, vc_sa_1, vc_sa_2, vc_sg_1, vc_sg_2, Nat.reduceEqDiff, Nat.reduceLeDiff, Nat.reduceAdd, Nat.reduceMul, Nat.reduceSub, Nat.not_lt_zero, Nat.add_left_cancel_iff, reduceIte, true_and, and_true, not_false_eq_true, not_true_eq_false, true_or, or_true, Bool.false_eq_true, vE_n]
        refine g_23_109 ?_
        simp only [vc_wi, vc_li, vc_ll, vc_lr, vc_i1, vc_i2, vc_l1, vc_l2, vc_il, vc_r1, vc_ri, vc_rii, vc_rx, vc_cp, vc_s1, vc_s2, vc_fg, vc_cm, vc_ald, vc_bld, vc_ast, vc_bst, vc_len, vc_gf, vc_pf, vc_cpy, vc_ct, List.getElem?_cons_zero, List.getElem?_cons_succ, List.set_cons_zero, List.set_cons_succ, List.take_succ_cons, List.take_zero, List.drop_succ_cons, List.drop_zero, List.reverse_cons, List.reverse_nil, List.nil_append, List.cons_append, Option.toList_some, Option.toList_none, List.map_cons, List.map_nil, List.sum_cons, List.sum_nil, List.length_cons, List.length_nil, Value.category, Nat.reduceEqDiff, Nat.reduceLeDiff, Nat.reduceAdd, reduceIte, true_and, and_true, B_23_109, rt_23, ly]
        try simp (disch := omega) only [vc_brT, vc_brF, vc_anT, vc_brt, vc_brf, vc_ant, vn_n0, vn_in, vn_cl, vn_lt, vn_le, vn_eq, vn_sub, vn_div, vn_rem, vn_mod, vn_m1, vn_m1n, vn_m1p, nI_add, pk_mul, vc_sa_1, vc_sa_2, vc_sg_1, vc_sg_2, Nat.reduceEqDiff, Nat.reduceLeDiff, Nat.reduceAdd, Nat.reduceMul, Nat.reduceSub, Nat.not_lt_zero, Nat.add_left_cancel_iff, reduceIte, true_and, and_true, not_false_eq_true, not_true_eq_false, true_or, or_true, Bool.false_eq_true]
        exact ih (p + 1) τ (by omega) hf t1 t2 (by rw [yGs_none hwp]; exact t3) (by rw [yGs_none hwp]; exact t4) _ _
      | some k =>
        have hk := hok.1 p (by omega) k hwp
        simp (disch := omega) only [vc_brT, vc_brF, vc_anT, vc_brt, vc_brf, vc_ant, vn_n0, vn_in, vn_cl, vn_lt, vn_le, vn_eq, vn_sub, vn_div, vn_rem, vn_mod, vn_m1, vn_m1n, vn_m1p, nI_add, pk_mul, vc_sa_1, vc_sa_2, vc_sg_1, vc_sg_2, Nat.reduceEqDiff, Nat.reduceLeDiff, Nat.reduceAdd, Nat.reduceMul, Nat.reduceSub, Nat.not_lt_zero, Nat.add_left_cancel_iff, reduceIte, true_and, and_true, not_false_eq_true, not_true_eq_false, true_or, or_true, Bool.false_eq_true, vE_s]
        refine ct_besL ho hA' hw' (by omega) (by omega) ?_
        simp only [vc_wi, vc_li, vc_ll, vc_lr, vc_i1, vc_i2, vc_l1, vc_l2, vc_il, vc_r1, vc_ri, vc_rii, vc_rx, vc_cp, vc_s1, vc_s2, vc_fg, vc_cm, vc_ald, vc_bld, vc_ast, vc_bst, vc_len, vc_gf, vc_pf, vc_cpy, vc_ct, List.getElem?_cons_zero, List.getElem?_cons_succ, List.set_cons_zero, List.set_cons_succ, List.take_succ_cons, List.take_zero, List.drop_succ_cons, List.drop_zero, List.reverse_cons, List.reverse_nil, List.nil_append, List.cons_append, Option.toList_some, Option.toList_none, List.map_cons, List.map_nil, List.sum_cons, List.sum_nil, List.length_cons, List.length_nil, Value.category, Nat.reduceEqDiff, Nat.reduceLeDiff, Nat.reduceAdd, reduceIte, true_and, and_true, rt_23, ly]
        try simp (disch := omega) only [vc_brT, vc_brF, vc_anT, vc_brt, vc_brf, vc_ant, vn_n0, vn_in, vn_cl, vn_lt, vn_le, vn_eq, vn_sub, vn_div, vn_rem, vn_mod, vn_m1, vn_m1n, vn_m1p, nI_add, pk_mul, vc_sa_1, vc_sa_2, vc_sg_1, vc_sg_2, Nat.reduceEqDiff, Nat.reduceLeDiff, Nat.reduceAdd, Nat.reduceMul, Nat.reduceSub, Nat.not_lt_zero, Nat.add_left_cancel_iff, reduceIte, true_and, and_true, not_false_eq_true, not_true_eq_false, true_or, or_true, Bool.false_eq_true]
        refine ct_besR ho hA' hw' (by omega) (by omega) ?_
        simp only [vc_wi, vc_li, vc_ll, vc_lr, vc_i1, vc_i2, vc_l1, vc_l2, vc_il, vc_r1, vc_ri, vc_rii, vc_rx, vc_cp, vc_s1, vc_s2, vc_fg, vc_cm, vc_ald, vc_bld, vc_ast, vc_bst, vc_len, vc_gf, vc_pf, vc_cpy, vc_ct, List.getElem?_cons_zero, List.getElem?_cons_succ, List.set_cons_zero, List.set_cons_succ, List.take_succ_cons, List.take_zero, List.drop_succ_cons, List.drop_zero, List.reverse_cons, List.reverse_nil, List.nil_append, List.cons_append, Option.toList_some, Option.toList_none, List.map_cons, List.map_nil, List.sum_cons, List.sum_nil, List.length_cons, List.length_nil, Value.category, Nat.reduceEqDiff, Nat.reduceLeDiff, Nat.reduceAdd, reduceIte, true_and, and_true, rt_23, ly]
        try simp (disch := omega) only [vc_brT, vc_brF, vc_anT, vc_brt, vc_brf, vc_ant, vn_n0, vn_in, vn_cl, vn_lt, vn_le, vn_eq, vn_sub, vn_div, vn_rem, vn_mod, vn_m1, vn_m1n, vn_m1p, nI_add, pk_mul, vc_sa_1, vc_sa_2, vc_sg_1, vc_sg_2, Nat.reduceEqDiff, Nat.reduceLeDiff, Nat.reduceAdd, Nat.reduceMul, Nat.reduceSub, Nat.not_lt_zero, Nat.add_left_cancel_iff, reduceIte, true_and, and_true, not_false_eq_true, not_true_eq_false, true_or, or_true, Bool.false_eq_true]
        refine ct_gainOf ho hS' hkn' hk (yL_in hok (by omega)) (yR_in hok (by omega)) (by omega) hsub ?_
        simp only [vc_wi, vc_li, vc_ll, vc_lr, vc_i1, vc_i2, vc_l1, vc_l2, vc_il, vc_r1, vc_ri, vc_rii, vc_rx, vc_cp, vc_s1, vc_s2, vc_fg, vc_cm, vc_ald, vc_bld, vc_ast, vc_bst, vc_len, vc_gf, vc_pf, vc_cpy, vc_ct, List.getElem?_cons_zero, List.getElem?_cons_succ, List.set_cons_zero, List.set_cons_succ, List.take_succ_cons, List.take_zero, List.drop_succ_cons, List.drop_zero, List.reverse_cons, List.reverse_nil, List.nil_append, List.cons_append, Option.toList_some, Option.toList_none, List.map_cons, List.map_nil, List.sum_cons, List.sum_nil, List.length_cons, List.length_nil, Value.category, Nat.reduceEqDiff, Nat.reduceLeDiff, Nat.reduceAdd, reduceIte, true_and, and_true, rt_23, ly]
        try simp (disch := omega) only [vc_brT, vc_brF, vc_anT, vc_brt, vc_brf, vc_ant, vn_n0, vn_in, vn_cl, vn_lt, vn_le, vn_eq, vn_sub, vn_div, vn_rem, vn_mod, vn_m1, vn_m1n, vn_m1p, nI_add, pk_mul, vc_sa_1, vc_sa_2, vc_sg_1, vc_sg_2, Nat.reduceEqDiff, Nat.reduceLeDiff, Nat.reduceAdd, Nat.reduceMul, Nat.reduceSub, Nat.not_lt_zero, Nat.add_left_cancel_iff, reduceIte, true_and, and_true, not_false_eq_true, not_true_eq_false, true_or, or_true, Bool.false_eq_true]
        have hz : yGs P w kn sub p k = 0 := yGs_0 p (fun q hq e => by have := hok.2 q p k (by omega) (by omega) e hwp; omega)
        have hold := t4 (3 * k + sub) (by omega)
        have e3 : (3 * k + sub) % 3 = sub := by omega
        have e4 : (3 * k + sub) / 3 = k := by omega
        have e5 : 24 * d + sub + 24 + k * 3 = 24 * (d + 1) + (3 * k + sub) := by omega
        rw [if_pos e3, e4, hz, Nat.add_zero] at hold
        rw [e5, hold, nI_add]
        generalize hG : yGn P.2.1 kn sub k (yL P.2.2.2.1 w p) (yR P.2.2.1 P.2.2.2.1 w p) = G
        refine g_23_109 ?_
        simp only [vc_wi, vc_li, vc_ll, vc_lr, vc_i1, vc_i2, vc_l1, vc_l2, vc_il, vc_r1, vc_ri, vc_rii, vc_rx, vc_cp, vc_s1, vc_s2, vc_fg, vc_cm, vc_ald, vc_bld, vc_ast, vc_bst, vc_len, vc_gf, vc_pf, vc_cpy, vc_ct, List.getElem?_cons_zero, List.getElem?_cons_succ, List.set_cons_zero, List.set_cons_succ, List.take_succ_cons, List.take_zero, List.drop_succ_cons, List.drop_zero, List.reverse_cons, List.reverse_nil, List.nil_append, List.cons_append, Option.toList_some, Option.toList_none, List.map_cons, List.map_nil, List.sum_cons, List.sum_nil, List.length_cons, List.length_nil, Value.category, Nat.reduceEqDiff, Nat.reduceLeDiff, Nat.reduceAdd, reduceIte, true_and, and_true, B_23_109, rt_23, ly]
        try simp (disch := omega) only [vc_brT, vc_brF, vc_anT, vc_brt, vc_brf, vc_ant, vn_n0, vn_in, vn_cl, vn_lt, vn_le, vn_eq, vn_sub, vn_div, vn_rem, vn_mod, vn_m1, vn_m1n, vn_m1p, nI_add, pk_mul, vc_sa_1, vc_sa_2, vc_sg_1, vc_sg_2, Nat.reduceEqDiff, Nat.reduceLeDiff, Nat.reduceAdd, Nat.reduceMul, Nat.reduceSub, Nat.not_lt_zero, Nat.add_left_cancel_iff, reduceIte, true_and, and_true, not_false_eq_true, not_true_eq_false, true_or, or_true, Bool.false_eq_true]
        have hgs : yGs P w kn sub (p + 1) = fun j => if j = k then G else yGs P w kn sub p j := by rw [yGs_some hwp, hG]
        refine ih (p + 1) _ (by omega) ((hf.sa (by simp)).sa (by simp)) (fun i hi => ?_) (fun i hi => ?_) (fun j hj => ?_) (fun q hq => ?_) _ _
        · simp (disch := omega) only [vc_brT, vc_brF, vc_anT, vc_brt, vc_brf, vc_ant, vn_n0, vn_in, vn_cl, vn_lt, vn_le, vn_eq, vn_sub, vn_div, vn_rem, vn_mod, vn_m1, vn_m1n, vn_m1p, nI_add, pk_mul, vc_sa_1, vc_sa_2, vc_sg_1, vc_sg_2, Nat.reduceEqDiff, Nat.reduceLeDiff, Nat.reduceAdd, Nat.reduceMul, Nat.reduceSub, Nat.not_lt_zero, Nat.add_left_cancel_iff, reduceIte, true_and, and_true, not_false_eq_true, not_true_eq_false, true_or, or_true, Bool.false_eq_true, upd]
          rw [if_neg (by omega)]
          exact t1 i hi
        · simp (disch := omega) only [vc_brT, vc_brF, vc_anT, vc_brt, vc_brf, vc_ant, vn_n0, vn_in, vn_cl, vn_lt, vn_le, vn_eq, vn_sub, vn_div, vn_rem, vn_mod, vn_m1, vn_m1n, vn_m1p, nI_add, pk_mul, vc_sa_1, vc_sa_2, vc_sg_1, vc_sg_2, Nat.reduceEqDiff, Nat.reduceLeDiff, Nat.reduceAdd, Nat.reduceMul, Nat.reduceSub, Nat.not_lt_zero, Nat.add_left_cancel_iff, reduceIte, true_and, and_true, not_false_eq_true, not_true_eq_false, true_or, or_true, Bool.false_eq_true, upd]
          rw [if_neg (by omega)]
          exact t2 i hi
        · simp (disch := omega) only [vc_brT, vc_brF, vc_anT, vc_brt, vc_brf, vc_ant, vn_n0, vn_in, vn_cl, vn_lt, vn_le, vn_eq, vn_sub, vn_div, vn_rem, vn_mod, vn_m1, vn_m1n, vn_m1p, nI_add, pk_mul, vc_sa_1, vc_sa_2, vc_sg_1, vc_sg_2, Nat.reduceEqDiff, Nat.reduceLeDiff, Nat.reduceAdd, Nat.reduceMul, Nat.reduceSub, Nat.not_lt_zero, Nat.add_left_cancel_iff, reduceIte, true_and, and_true, not_false_eq_true, not_true_eq_false, true_or, or_true, Bool.false_eq_true, upd, hgs]
          by_cases hjk : j = k
          · subst hjk
            rw [if_pos (by omega), if_pos rfl]
          · rw [if_neg (by omega), if_neg hjk]
            exact t3 j hj
        · simp (disch := omega) only [vc_brT, vc_brF, vc_anT, vc_brt, vc_brf, vc_ant, vn_n0, vn_in, vn_cl, vn_lt, vn_le, vn_eq, vn_sub, vn_div, vn_rem, vn_mod, vn_m1, vn_m1n, vn_m1p, nI_add, pk_mul, vc_sa_1, vc_sa_2, vc_sg_1, vc_sg_2, Nat.reduceEqDiff, Nat.reduceLeDiff, Nat.reduceAdd, Nat.reduceMul, Nat.reduceSub, Nat.not_lt_zero, Nat.add_left_cancel_iff, reduceIte, true_and, and_true, not_false_eq_true, not_true_eq_false, true_or, or_true, Bool.false_eq_true, upd, hgs]
          by_cases hqk : q = 3 * k + sub
          · subst hqk
            rw [if_pos rfl, if_pos e3, if_pos e4, Nat.add_zero]
          · rw [if_neg (by omega), t4 q hq]
            by_cases hq3 : q % 3 = sub
            · rw [if_pos hq3, if_pos hq3, if_neg (by omega)]
            · rw [if_neg hq3, if_neg hq3]
  refine vc_C_of (ls0 := [some (.ref o), some (.int (nI d)), some (.int (nI sub)), none, none, none, none, none]) hk_23 (Nat.le_of_ble_eq_true rfl) rfl ?_
  refine g_23_0 ?_
  simp only [vc_wi, vc_li, vc_ll, vc_lr, vc_i1, vc_i2, vc_l1, vc_l2, vc_il, vc_r1, vc_ri, vc_rii, vc_rx, vc_cp, vc_s1, vc_s2, vc_fg, vc_cm, vc_ald, vc_bld, vc_ast, vc_bst, vc_len, vc_gf, vc_pf, vc_cpy, vc_ct, List.getElem?_cons_zero, List.getElem?_cons_succ, List.set_cons_zero, List.set_cons_succ, List.take_succ_cons, List.take_zero, List.drop_succ_cons, List.drop_zero, List.reverse_cons, List.reverse_nil, List.nil_append, List.cons_append, Option.toList_some, Option.toList_none, List.map_cons, List.map_nil, List.sum_cons, List.sum_nil, List.length_cons, List.length_nil, Value.category, Nat.reduceEqDiff, Nat.reduceLeDiff, Nat.reduceAdd, reduceIte, true_and, and_true, B_23_0, rt_23, ly]
  try simp (disch := omega) only [vc_brT, vc_brF, vc_anT, vc_brt, vc_brf, vc_ant, vn_n0, vn_in, vn_cl, vn_lt, vn_le, vn_eq, vn_sub, vn_div, vn_rem, vn_mod, vn_m1, vn_m1n, vn_m1p, nI_add, pk_mul, vc_sa_1, vc_sa_2, vc_sg_1, vc_sg_2, Nat.reduceEqDiff, Nat.reduceLeDiff, Nat.reduceAdd, Nat.reduceMul, Nat.reduceSub, Nat.not_lt_zero, Nat.add_left_cancel_iff, reduceIte, true_and, and_true, not_false_eq_true, not_true_eq_false, true_or, or_true, Bool.false_eq_true]
  have e1 : (d + 1) * 16 = 16 * (d + 1) := by omega
  have e2 : d * 24 + sub = 24 * d + sub := by omega
  rw [e1, e2]
  refine lp P.2.2.1 0 σ (by omega) vc_fr.rf (fun _ _ => rfl) (fun _ _ => rfl) hg (fun q hq => ?_) _ _
  rw [hk1 q hq]
  congr 1
  split <;> rfl
