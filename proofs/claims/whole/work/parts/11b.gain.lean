/-- what is known ahead of a day, and the sorts -/
def yKn (o : Nat) (σ : vc_S) (r : Nat) (kn : Nat → Nat) : Prop := ∀ q, q < 24 → σ.2 (o + 2) (r + q) = nI (kn q) ∧ kn q ≤ 30
def ySo (o : Nat) (σ : vc_S) (n : Nat) (so : Nat → Nat) : Prop := n ≤ 8 ∧ ∀ k, k < n → σ.2 (o + 6) k = nI (so k) ∧ so k ≤ 2
theorem yMo_s (kn : Nat → Nat) (sub k j : Nat) : yMo kn sub k (some j) = if kn (3 * k + sub) < kn (3 * j + sub) then 1 else 0 := rfl
def yIn (n : Nat) (o : Option Nat) : Prop := ∀ k, o = some k → k < n
set_option maxHeartbeats 4000000 in
set_option maxRecDepth 100000 in
theorem ct_gainOf {K : vc_K} {o n k r sub : Nat} {so kn : Nat → Nat} {lf rt : Option Nat} {σ : vc_S} {Q : Option Value → vc_S → Prop} (ho : o = 29 ∨ o = 38) (hS : ySo o σ n so) (hK : yKn o σ r kn) (hk : k < n) (hl : yIn n lf) (hrt : yIn n rt) (hr : r + 24 ≤ 744) (hsub : sub < 3) (h : Q (some (.int (nI (yGn so kn sub k lf rt)))) σ) : vc_C K 24 [.ref o, .int (nI k), .int (vE lf), .int (vE rt), .int (nI (r + sub))] σ Q := by
  have ly := yLy ho
  obtain ⟨hn, hS⟩ := hS
  obtain ⟨s1, s2⟩ := hS k hk
  obtain ⟨m1, m2⟩ := hK (3 * k + sub) (by omega)
  have em : r + sub + k * 3 = r + (3 * k + sub) := by omega
  have c120 : ∀ (mo g : Nat), g ≤ 2 → min g (30 - kn (3 * k + sub)) = yGn so kn sub k lf rt → vc_G K 24 120 [some (.ref o), some (.int (nI k)), some (.int (vE lf)), some (.int (vE rt)), some (.int (nI (r + sub))), some (.int (nI (kn (3 * k + sub)))), some (.int (nI mo)), some (.int (nI g))] [] σ Q := by
    intro mo g hg he
    refine g_24_120 ?_
    simp only [vc_wi, vc_li, vc_ll, vc_lr, vc_i1, vc_i2, vc_l1, vc_l2, vc_il, vc_r1, vc_ri, vc_rii, vc_rx, vc_cp, vc_s1, vc_s2, vc_fg, vc_cm, vc_ald, vc_bld, vc_ast, vc_bst, vc_len, vc_gf, vc_pf, vc_cpy, vc_ct, List.getElem?_cons_zero, List.getElem?_cons_succ, List.set_cons_zero, List.set_cons_succ, List.take_succ_cons, List.take_zero, List.drop_succ_cons, List.drop_zero, List.reverse_cons, List.reverse_nil, List.nil_append, List.cons_append, Option.toList_some, Option.toList_none, List.map_cons, List.map_nil, List.sum_cons, List.sum_nil, List.length_cons, List.length_nil, Value.category, Nat.reduceEqDiff, Nat.reduceLeDiff, Nat.reduceAdd, reduceIte, true_and, and_true, B_24_120, rt_24, ly]
    try simp (disch := omega) only [vc_brT, vc_brF, vc_anT, vc_brt, vc_brf, vc_ant, vn_n0, vn_in, vn_cl, vn_lt, vn_le, vn_eq, vn_sub, vn_div, vn_rem, vn_mod, vn_m1, vn_m1n, vn_m1p, nI_add, pk_mul, vc_sa_1, vc_sa_2, vc_sg_1, vc_sg_2, Nat.reduceEqDiff, Nat.reduceLeDiff, Nat.reduceAdd, Nat.reduceMul, Nat.reduceSub, Nat.not_lt_zero, Nat.add_left_cancel_iff, reduceIte, true_and, and_true, not_false_eq_true, not_true_eq_false, true_or, or_true, Bool.false_eq_true]
    have e2 : (if 30 - kn (3 * k + sub) < g then nI (30 - kn (3 * k + sub)) else nI g) = nI (yGn so kn sub k lf rt) := by
      rw [← he]
      split
      · congr 1; omega
      · congr 1; omega
    rw [e2]
    exact h
  have c62 : ∀ mo : Nat, mo = yMo kn sub k lf + yMo kn sub k rt → mo ≤ 2 → vc_G K 24 62 [some (.ref o), some (.int (nI k)), some (.int (vE lf)), some (.int (vE rt)), some (.int (nI (r + sub))), some (.int (nI (kn (3 * k + sub)))), some (.int (nI mo)), none] [] σ Q := by
    intro mo he hmo
    have c93 : ∀ g : Nat, g ≤ 2 → min g (30 - kn (3 * k + sub)) = yGn so kn sub k lf rt → vc_G K 24 93 [some (.ref o), some (.int (nI k)), some (.int (vE lf)), some (.int (vE rt)), some (.int (nI (r + sub))), some (.int (nI (kn (3 * k + sub)))), some (.int (nI mo)), some (.int (nI mo))] [.int (nI g)] σ Q := by
      intro g hg hge
      refine g_24_93 ?_
      simp only [vc_wi, vc_li, vc_ll, vc_lr, vc_i1, vc_i2, vc_l1, vc_l2, vc_il, vc_r1, vc_ri, vc_rii, vc_rx, vc_cp, vc_s1, vc_s2, vc_fg, vc_cm, vc_ald, vc_bld, vc_ast, vc_bst, vc_len, vc_gf, vc_pf, vc_cpy, vc_ct, List.getElem?_cons_zero, List.getElem?_cons_succ, List.set_cons_zero, List.set_cons_succ, List.take_succ_cons, List.take_zero, List.drop_succ_cons, List.drop_zero, List.reverse_cons, List.reverse_nil, List.nil_append, List.cons_append, Option.toList_some, Option.toList_none, List.map_cons, List.map_nil, List.sum_cons, List.sum_nil, List.length_cons, List.length_nil, Value.category, Nat.reduceEqDiff, Nat.reduceLeDiff, Nat.reduceAdd, reduceIte, true_and, and_true, B_24_93, rt_24, ly]
      try simp (disch := omega) only [vc_brT, vc_brF, vc_anT, vc_brt, vc_brf, vc_ant, vn_n0, vn_in, vn_cl, vn_lt, vn_le, vn_eq, vn_sub, vn_div, vn_rem, vn_mod, vn_m1, vn_m1n, vn_m1p, nI_add, pk_mul, vc_sa_1, vc_sa_2, vc_sg_1, vc_sg_2, Nat.reduceEqDiff, Nat.reduceLeDiff, Nat.reduceAdd, Nat.reduceMul, Nat.reduceSub, Nat.not_lt_zero, Nat.add_left_cancel_iff, reduceIte, true_and, and_true, not_false_eq_true, not_true_eq_false, true_or, or_true, Bool.false_eq_true]
      exact c120 mo g hg hge
    have c118 : ∀ g : Nat, g ≤ 2 → min g (30 - kn (3 * k + sub)) = yGn so kn sub k lf rt → vc_G K 24 118 [some (.ref o), some (.int (nI k)), some (.int (vE lf)), some (.int (vE rt)), some (.int (nI (r + sub))), some (.int (nI (kn (3 * k + sub)))), some (.int (nI mo)), some (.int (nI mo))] [.int (nI g)] σ Q := by
      intro g hg hge
      refine g_24_118 ?_
      simp only [vc_wi, vc_li, vc_ll, vc_lr, vc_i1, vc_i2, vc_l1, vc_l2, vc_il, vc_r1, vc_ri, vc_rii, vc_rx, vc_cp, vc_s1, vc_s2, vc_fg, vc_cm, vc_ald, vc_bld, vc_ast, vc_bst, vc_len, vc_gf, vc_pf, vc_cpy, vc_ct, List.getElem?_cons_zero, List.getElem?_cons_succ, List.set_cons_zero, List.set_cons_succ, List.take_succ_cons, List.take_zero, List.drop_succ_cons, List.drop_zero, List.reverse_cons, List.reverse_nil, List.nil_append, List.cons_append, Option.toList_some, Option.toList_none, List.map_cons, List.map_nil, List.sum_cons, List.sum_nil, List.length_cons, List.length_nil, Value.category, Nat.reduceEqDiff, Nat.reduceLeDiff, Nat.reduceAdd, reduceIte, true_and, and_true, B_24_118, rt_24, ly]
      try simp (disch := omega) only [vc_brT, vc_brF, vc_anT, vc_brt, vc_brf, vc_ant, vn_n0, vn_in, vn_cl, vn_lt, vn_le, vn_eq, vn_sub, vn_div, vn_rem, vn_mod, vn_m1, vn_m1n, vn_m1p, nI_add, pk_mul, vc_sa_1, vc_sa_2, vc_sg_1, vc_sg_2, Nat.reduceEqDiff, Nat.reduceLeDiff, Nat.reduceAdd, Nat.reduceMul, Nat.reduceSub, Nat.not_lt_zero, Nat.add_left_cancel_iff, reduceIte, true_and, and_true, not_false_eq_true, not_true_eq_false, true_or, or_true, Bool.false_eq_true]
      exact c120 mo g hg hge
    have c88 : (so k = 0) → ((lf = none ∧ rt = none) ∨ 0 < mo) → vc_G K 24 88 [some (.ref o), some (.int (nI k)), some (.int (vE lf)), some (.int (vE rt)), some (.int (nI (r + sub))), some (.int (nI (kn (3 * k + sub)))), some (.int (nI mo)), some (.int (nI mo))] [] σ Q := by
      intro h0 hc
      refine g_24_88 ?_
      simp only [vc_wi, vc_li, vc_ll, vc_lr, vc_i1, vc_i2, vc_l1, vc_l2, vc_il, vc_r1, vc_ri, vc_rii, vc_rx, vc_cp, vc_s1, vc_s2, vc_fg, vc_cm, vc_ald, vc_bld, vc_ast, vc_bst, vc_len, vc_gf, vc_pf, vc_cpy, vc_ct, List.getElem?_cons_zero, List.getElem?_cons_succ, List.set_cons_zero, List.set_cons_succ, List.take_succ_cons, List.take_zero, List.drop_succ_cons, List.drop_zero, List.reverse_cons, List.reverse_nil, List.nil_append, List.cons_append, Option.toList_some, Option.toList_none, List.map_cons, List.map_nil, List.sum_cons, List.sum_nil, List.length_cons, List.length_nil, Value.category, Nat.reduceEqDiff, Nat.reduceLeDiff, Nat.reduceAdd, reduceIte, true_and, and_true, B_24_88, rt_24, ly]
      try simp (disch := omega) only [vc_brT, vc_brF, vc_anT, vc_brt, vc_brf, vc_ant, vn_n0, vn_in, vn_cl, vn_lt, vn_le, vn_eq, vn_sub, vn_div, vn_rem, vn_mod, vn_m1, vn_m1n, vn_m1p, nI_add, pk_mul, vc_sa_1, vc_sa_2, vc_sg_1, vc_sg_2, Nat.reduceEqDiff, Nat.reduceLeDiff, Nat.reduceAdd, Nat.reduceMul, Nat.reduceSub, Nat.not_lt_zero, Nat.add_left_cancel_iff, reduceIte, true_and, and_true, not_false_eq_true, not_true_eq_false, true_or, or_true, Bool.false_eq_true]
      refine c93 1 (by omega) ?_
      unfold yGn
      rw [← he, h0]
      rw [if_neg (by decide), if_neg (by decide), if_pos hc]
    have c92 : (so k = 0) → ¬ ((lf = none ∧ rt = none) ∨ 0 < mo) → vc_G K 24 92 [some (.ref o), some (.int (nI k)), some (.int (vE lf)), some (.int (vE rt)), some (.int (nI (r + sub))), some (.int (nI (kn (3 * k + sub)))), some (.int (nI mo)), some (.int (nI mo))] [] σ Q := by
      intro h0 hc
      refine g_24_92 ?_
      simp only [vc_wi, vc_li, vc_ll, vc_lr, vc_i1, vc_i2, vc_l1, vc_l2, vc_il, vc_r1, vc_ri, vc_rii, vc_rx, vc_cp, vc_s1, vc_s2, vc_fg, vc_cm, vc_ald, vc_bld, vc_ast, vc_bst, vc_len, vc_gf, vc_pf, vc_cpy, vc_ct, List.getElem?_cons_zero, List.getElem?_cons_succ, List.set_cons_zero, List.set_cons_succ, List.take_succ_cons, List.take_zero, List.drop_succ_cons, List.drop_zero, List.reverse_cons, List.reverse_nil, List.nil_append, List.cons_append, Option.toList_some, Option.toList_none, List.map_cons, List.map_nil, List.sum_cons, List.sum_nil, List.length_cons, List.length_nil, Value.category, Nat.reduceEqDiff, Nat.reduceLeDiff, Nat.reduceAdd, reduceIte, true_and, and_true, B_24_92, rt_24, ly]
      try simp (disch := omega) only [vc_brT, vc_brF, vc_anT, vc_brt, vc_brf, vc_ant, vn_n0, vn_in, vn_cl, vn_lt, vn_le, vn_eq, vn_sub, vn_div, vn_rem, vn_mod, vn_m1, vn_m1n, vn_m1p, nI_add, pk_mul, vc_sa_1, vc_sa_2, vc_sg_1, vc_sg_2, Nat.reduceEqDiff, Nat.reduceLeDiff, Nat.reduceAdd, Nat.reduceMul, Nat.reduceSub, Nat.not_lt_zero, Nat.add_left_cancel_iff, reduceIte, true_and, and_true, not_false_eq_true, not_true_eq_false, true_or, or_true, Bool.false_eq_true]
      refine c93 0 (by omega) ?_
      unfold yGn
      rw [← he, h0]
      rw [if_neg (by decide), if_neg (by decide), if_neg hc]
    refine g_24_62 ?_
    simp only [vc_wi, vc_li, vc_ll, vc_lr, vc_i1, vc_i2, vc_l1, vc_l2, vc_il, vc_r1, vc_ri, vc_rii, vc_rx, vc_cp, vc_s1, vc_s2, vc_fg, vc_cm, vc_ald, vc_bld, vc_ast, vc_bst, vc_len, vc_gf, vc_pf, vc_cpy, vc_ct, List.getElem?_cons_zero, List.getElem?_cons_succ, List.set_cons_zero, List.set_cons_succ, List.take_succ_cons, List.take_zero, List.drop_succ_cons, List.drop_zero, List.reverse_cons, List.reverse_nil, List.nil_append, List.cons_append, Option.toList_some, Option.toList_none, List.map_cons, List.map_nil, List.sum_cons, List.sum_nil, List.length_cons, List.length_nil, Value.category, Nat.reduceEqDiff, Nat.reduceLeDiff, Nat.reduceAdd, reduceIte, true_and, and_true, B_24_62, rt_24, ly]
    try simp (disch := omega) only [vc_brT, vc_brF, vc_anT, vc_brt, vc_brf, vc_ant, vn_n0, vn_in, vn_cl, vn_lt, vn_le, vn_eq, vn_sub, vn_div, vn_rem, vn_mod, vn_m1, vn_m1n, vn_m1p, nI_add, pk_mul, vc_sa_1, vc_sa_2, vc_sg_1, vc_sg_2, Nat.reduceEqDiff, Nat.reduceLeDiff, Nat.reduceAdd, Nat.reduceMul, Nat.reduceSub, Nat.not_lt_zero, Nat.add_left_cancel_iff, reduceIte, true_and, and_true, not_false_eq_true, not_true_eq_false, true_or, or_true, Bool.false_eq_true, s1]
    refine vc_br_i (fun h0 => ?_) (fun h0 => ?_)
    · refine g_24_98 ?_
      simp only [vc_wi, vc_li, vc_ll, vc_lr, vc_i1, vc_i2, vc_l1, vc_l2, vc_il, vc_r1, vc_ri, vc_rii, vc_rx, vc_cp, vc_s1, vc_s2, vc_fg, vc_cm, vc_ald, vc_bld, vc_ast, vc_bst, vc_len, vc_gf, vc_pf, vc_cpy, vc_ct, List.getElem?_cons_zero, List.getElem?_cons_succ, List.set_cons_zero, List.set_cons_succ, List.take_succ_cons, List.take_zero, List.drop_succ_cons, List.drop_zero, List.reverse_cons, List.reverse_nil, List.nil_append, List.cons_append, Option.toList_some, Option.toList_none, List.map_cons, List.map_nil, List.sum_cons, List.sum_nil, List.length_cons, List.length_nil, Value.category, Nat.reduceEqDiff, Nat.reduceLeDiff, Nat.reduceAdd, reduceIte, true_and, and_true, B_24_98, rt_24, ly]
      try simp (disch := omega) only [vc_brT, vc_brF, vc_anT, vc_brt, vc_brf, vc_ant, vn_n0, vn_in, vn_cl, vn_lt, vn_le, vn_eq, vn_sub, vn_div, vn_rem, vn_mod, vn_m1, vn_m1n, vn_m1p, nI_add, pk_mul, vc_sa_1, vc_sa_2, vc_sg_1, vc_sg_2, Nat.reduceEqDiff, Nat.reduceLeDiff, Nat.reduceAdd, Nat.reduceMul, Nat.reduceSub, Nat.not_lt_zero, Nat.add_left_cancel_iff, reduceIte, true_and, and_true, not_false_eq_true, not_true_eq_false, true_or, or_true, Bool.false_eq_true, s1]
      refine vc_br_i (fun h2 => ?_) (fun h2 => ?_)
      · refine c120 mo mo hmo ?_
        have h1 : so k = 1 := by omega
        unfold yGn
        rw [h1, ← he]
        simp
      · have h2 : so k = 2 := by omega
        refine vc_br_i (fun h3 => ?_) (fun h3 => ?_)
        · refine g_24_117 ?_
          simp only [vc_wi, vc_li, vc_ll, vc_lr, vc_i1, vc_i2, vc_l1, vc_l2, vc_il, vc_r1, vc_ri, vc_rii, vc_rx, vc_cp, vc_s1, vc_s2, vc_fg, vc_cm, vc_ald, vc_bld, vc_ast, vc_bst, vc_len, vc_gf, vc_pf, vc_cpy, vc_ct, List.getElem?_cons_zero, List.getElem?_cons_succ, List.set_cons_zero, List.set_cons_succ, List.take_succ_cons, List.take_zero, List.drop_succ_cons, List.drop_zero, List.reverse_cons, List.reverse_nil, List.nil_append, List.cons_append, Option.toList_some, Option.toList_none, List.map_cons, List.map_nil, List.sum_cons, List.sum_nil, List.length_cons, List.length_nil, Value.category, Nat.reduceEqDiff, Nat.reduceLeDiff, Nat.reduceAdd, reduceIte, true_and, and_true, B_24_117, rt_24, ly]
          try simp (disch := omega) only [vc_brT, vc_brF, vc_anT, vc_brt, vc_brf, vc_ant, vn_n0, vn_in, vn_cl, vn_lt, vn_le, vn_eq, vn_sub, vn_div, vn_rem, vn_mod, vn_m1, vn_m1n, vn_m1p, nI_add, pk_mul, vc_sa_1, vc_sa_2, vc_sg_1, vc_sg_2, Nat.reduceEqDiff, Nat.reduceLeDiff, Nat.reduceAdd, Nat.reduceMul, Nat.reduceSub, Nat.not_lt_zero, Nat.add_left_cancel_iff, reduceIte, true_and, and_true, not_false_eq_true, not_true_eq_false, true_or, or_true, Bool.false_eq_true, s1]
          refine c118 0 (by omega) ?_
          unfold yGn
          rw [h2, ← he]
          have : ¬ 0 < mo := by omega
          simp [this]
        · refine c118 2 (by omega) ?_
          unfold yGn
          rw [h2, ← he]
          have : 0 < mo := by omega
          simp [this]
    · have h0 : so k = 0 := by omega
      refine vc_br_i (fun h3 => ?_) (fun h3 => ?_)
      · exact c88 h0 (Or.inr h3)
      · cases lf with
        | none =>
          cases rt with
          | none =>
            simp (disch := omega) only [vc_brT, vc_brF, vc_anT, vc_brt, vc_brf, vc_ant, vn_n0, vn_in, vn_cl, vn_lt, vn_le, vn_eq, vn_sub, vn_div, vn_rem, vn_mod, vn_m1, vn_m1n, vn_m1p, nI_add, pk_mul, vc_sa_1, vc_sa_2, vc_sg_1, vc_sg_2, Nat.reduceEqDiff, Nat.reduceLeDiff, Nat.reduceAdd, Nat.reduceMul, Nat.reduceSub, Nat.not_lt_zero, Nat.add_left_cancel_iff, reduceIte, true_and, and_true, not_false_eq_true, not_true_eq_false, true_or, or_true, Bool.false_eq_true, vE_n]
            exact c88 h0 (Or.inl ⟨rfl, rfl⟩)
          | some j =>
            have := hrt j rfl
            simp (disch := omega) only [vc_brT, vc_brF, vc_anT, vc_brt, vc_brf, vc_ant, vn_n0, vn_in, vn_cl, vn_lt, vn_le, vn_eq, vn_sub, vn_div, vn_rem, vn_mod, vn_m1, vn_m1n, vn_m1p, nI_add, pk_mul, vc_sa_1, vc_sa_2, vc_sg_1, vc_sg_2, Nat.reduceEqDiff, Nat.reduceLeDiff, Nat.reduceAdd, Nat.reduceMul, Nat.reduceSub, Nat.not_lt_zero, Nat.add_left_cancel_iff, reduceIte, true_and, and_true, not_false_eq_true, not_true_eq_false, true_or, or_true, Bool.false_eq_true, vE_s, vE_n]
            exact c92 h0 (by
              rintro (⟨_, q⟩ | q)
              · cases q
              · omega)
        | some j =>
          have := hl j rfl
          simp (disch := omega) only [vc_brT, vc_brF, vc_anT, vc_brt, vc_brf, vc_ant, vn_n0, vn_in, vn_cl, vn_lt, vn_le, vn_eq, vn_sub, vn_div, vn_rem, vn_mod, vn_m1, vn_m1n, vn_m1p, nI_add, pk_mul, vc_sa_1, vc_sa_2, vc_sg_1, vc_sg_2, Nat.reduceEqDiff, Nat.reduceLeDiff, Nat.reduceAdd, Nat.reduceMul, Nat.reduceSub, Nat.not_lt_zero, Nat.add_left_cancel_iff, reduceIte, true_and, and_true, not_false_eq_true, not_true_eq_false, true_or, or_true, Bool.false_eq_true, vE_s]
          exact c92 h0 (by
            rintro (⟨q, _⟩ | q)
            · cases q
            · omega)
  have c39 : ∀ mo : Nat, mo = yMo kn sub k lf → mo ≤ 1 → vc_G K 24 39 [some (.ref o), some (.int (nI k)), some (.int (vE lf)), some (.int (vE rt)), some (.int (nI (r + sub))), some (.int (nI (kn (3 * k + sub)))), some (.int (nI mo)), none] [] σ Q := by
    intro mo he hmo
    cases rt with
    | none =>
      refine g_24_39 ?_
      simp only [vc_wi, vc_li, vc_ll, vc_lr, vc_i1, vc_i2, vc_l1, vc_l2, vc_il, vc_r1, vc_ri, vc_rii, vc_rx, vc_cp, vc_s1, vc_s2, vc_fg, vc_cm, vc_ald, vc_bld, vc_ast, vc_bst, vc_len, vc_gf, vc_pf, vc_cpy, vc_ct, List.getElem?_cons_zero, List.getElem?_cons_succ, List.set_cons_zero, List.set_cons_succ, List.take_succ_cons, List.take_zero, List.drop_succ_cons, List.drop_zero, List.reverse_cons, List.reverse_nil, List.nil_append, List.cons_append, Option.toList_some, Option.toList_none, List.map_cons, List.map_nil, List.sum_cons, List.sum_nil, List.length_cons, List.length_nil, Value.category, Nat.reduceEqDiff, Nat.reduceLeDiff, Nat.reduceAdd, reduceIte, true_and, and_true, B_24_39, rt_24, ly]
      try simp (disch := omega) only [vc_brT, vc_brF, vc_anT, vc_brt, vc_brf, vc_ant, vn_n0, vn_in, vn_cl, vn_lt, vn_le, vn_eq, vn_sub, vn_div, vn_rem, vn_mod, vn_m1, vn_m1n, vn_m1p, nI_add, pk_mul, vc_sa_1, vc_sa_2, vc_sg_1, vc_sg_2, Nat.reduceEqDiff, Nat.reduceLeDiff, Nat.reduceAdd, Nat.reduceMul, Nat.reduceSub, Nat.not_lt_zero, Nat.add_left_cancel_iff, reduceIte, true_and, and_true, not_false_eq_true, not_true_eq_false, true_or, or_true, Bool.false_eq_true, vE_n]
      exact c62 mo (by rw [he]; rfl) (by omega)
    | some j =>
      have hj := hrt j rfl
      obtain ⟨n1, n2⟩ := hK (3 * j + sub) (by omega)
      have ej : r + sub + j * 3 = r + (3 * j + sub) := by omega
      refine g_24_39 ?_
      simp only [vc_wi, vc_li, vc_ll, vc_lr, vc_i1, vc_i2, vc_l1, vc_l2, vc_il, vc_r1, vc_ri, vc_rii, vc_rx, vc_cp, vc_s1, vc_s2, vc_fg, vc_cm, vc_ald, vc_bld, vc_ast, vc_bst, vc_len, vc_gf, vc_pf, vc_cpy, vc_ct, List.getElem?_cons_zero, List.getElem?_cons_succ, List.set_cons_zero, List.set_cons_succ, List.take_succ_cons, List.take_zero, List.drop_succ_cons, List.drop_zero, List.reverse_cons, List.reverse_nil, List.nil_append, List.cons_append, Option.toList_some, Option.toList_none, List.map_cons, List.map_nil, List.sum_cons, List.sum_nil, List.length_cons, List.length_nil, Value.category, Nat.reduceEqDiff, Nat.reduceLeDiff, Nat.reduceAdd, reduceIte, true_and, and_true, B_24_39, rt_24, ly]
      try simp (disch := omega) only [vc_brT, vc_brF, vc_anT, vc_brt, vc_brf, vc_ant, vn_n0, vn_in, vn_cl, vn_lt, vn_le, vn_eq, vn_sub, vn_div, vn_rem, vn_mod, vn_m1, vn_m1n, vn_m1p, nI_add, pk_mul, vc_sa_1, vc_sa_2, vc_sg_1, vc_sg_2, Nat.reduceEqDiff, Nat.reduceLeDiff, Nat.reduceAdd, Nat.reduceMul, Nat.reduceSub, Nat.not_lt_zero, Nat.add_left_cancel_iff, reduceIte, true_and, and_true, not_false_eq_true, not_true_eq_false, true_or, or_true, Bool.false_eq_true, vE_s, ej, n1]
      refine vc_br_i (fun q => ?_) (fun q => ?_)
      · exact c62 mo (by rw [he, yMo_s, if_neg (by omega)]; rfl) (by omega)
      · exact c62 (mo + 1) (by rw [he, yMo_s, if_pos (by omega)]) (by omega)
  refine vc_C_of (ls0 := [some (.ref o), some (.int (nI k)), some (.int (vE lf)), some (.int (vE rt)), some (.int (nI (r + sub))), none, none, none]) hk_24 (Nat.le_of_ble_eq_true rfl) rfl ?_
  cases lf with
  | none =>
    refine g_24_0 ?_
    simp only [vc_wi, vc_li, vc_ll, vc_lr, vc_i1, vc_i2, vc_l1, vc_l2, vc_il, vc_r1, vc_ri, vc_rii, vc_rx, vc_cp, vc_s1, vc_s2, vc_fg, vc_cm, vc_ald, vc_bld, vc_ast, vc_bst, vc_len, vc_gf, vc_pf, vc_cpy, vc_ct, List.getElem?_cons_zero, List.getElem?_cons_succ, List.set_cons_zero, List.set_cons_succ, List.take_succ_cons, List.take_zero, List.drop_succ_cons, List.drop_zero, List.reverse_cons, List.reverse_nil, List.nil_append, List.cons_append, Option.toList_some, Option.toList_none, List.map_cons, List.map_nil, List.sum_cons, List.sum_nil, List.length_cons, List.length_nil, Value.category, Nat.reduceEqDiff, Nat.reduceLeDiff, Nat.reduceAdd, reduceIte, true_and, and_true, B_24_0, rt_24, ly]
    try simp (disch := omega) only [vc_brT, vc_brF, vc_anT, vc_brt, vc_brf, vc_ant, vn_n0, vn_in, vn_cl, vn_lt, vn_le, vn_eq, vn_sub, vn_div, vn_rem, vn_mod, vn_m1, vn_m1n, vn_m1p, nI_add, pk_mul, vc_sa_1, vc_sa_2, vc_sg_1, vc_sg_2, Nat.reduceEqDiff, Nat.reduceLeDiff, Nat.reduceAdd, Nat.reduceMul, Nat.reduceSub, Nat.not_lt_zero, Nat.add_left_cancel_iff, reduceIte, true_and, and_true, not_false_eq_true, not_true_eq_false, true_or, or_true, Bool.false_eq_true, em, m1, vE_n]
    exact c39 0 rfl (by omega)
  | some j =>
    have hj := hl j rfl
    obtain ⟨n1, n2⟩ := hK (3 * j + sub) (by omega)
    have ej : r + sub + j * 3 = r + (3 * j + sub) := by omega
    refine g_24_0 ?_
    simp only [vc_wi, vc_li, vc_ll, vc_lr, vc_i1, vc_i2, vc_l1, vc_l2, vc_il, vc_r1, vc_ri, vc_rii, vc_rx, vc_cp, vc_s1, vc_s2, vc_fg, vc_cm, vc_ald, vc_bld, vc_ast, vc_bst, vc_len, vc_gf, vc_pf, vc_cpy, vc_ct, List.getElem?_cons_zero, List.getElem?_cons_succ, List.set_cons_zero, List.set_cons_succ, List.take_succ_cons, List.take_zero, List.drop_succ_cons, List.drop_zero, List.reverse_cons, List.reverse_nil, List.nil_append, List.cons_append, Option.toList_some, Option.toList_none, List.map_cons, List.map_nil, List.sum_cons, List.sum_nil, List.length_cons, List.length_nil, Value.category, Nat.reduceEqDiff, Nat.reduceLeDiff, Nat.reduceAdd, reduceIte, true_and, and_true, B_24_0, rt_24, ly]
    try simp (disch := omega) only [vc_brT, vc_brF, vc_anT, vc_brt, vc_brf, vc_ant, vn_n0, vn_in, vn_cl, vn_lt, vn_le, vn_eq, vn_sub, vn_div, vn_rem, vn_mod, vn_m1, vn_m1n, vn_m1p, nI_add, pk_mul, vc_sa_1, vc_sa_2, vc_sg_1, vc_sg_2, Nat.reduceEqDiff, Nat.reduceLeDiff, Nat.reduceAdd, Nat.reduceMul, Nat.reduceSub, Nat.not_lt_zero, Nat.add_left_cancel_iff, reduceIte, true_and, and_true, not_false_eq_true, not_true_eq_false, true_or, or_true, Bool.false_eq_true, em, m1, vE_s, ej, n1]
    refine vc_br_i (fun q => ?_) (fun q => ?_)
    · exact c39 0 (by rw [yMo_s, if_neg (by omega)]) (by omega)
    · exact c39 1 (by rw [yMo_s, if_pos (by omega)]) (by omega)
