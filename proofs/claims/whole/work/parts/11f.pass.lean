theorem ySwap_ok {P : yP} {w : Nat → Option Nat} {a b : Nat} (h : yWok P w) : yWok P (ySwap P.2.2.1 w a b) := by
  unfold ySwap
  split
  · rename_i hab
    refine ⟨fun p hp => ?_, fun p q k hp hq h1 h2 => ?_⟩
    · by_cases pa : p = a
      · simp only [pa, if_true]; exact h.1 b hab.2
      · by_cases pb : p = b
        · simp only [pb, if_true]
          split
          · exact h.1 b hab.2
          · exact h.1 a hab.1
        · simp only [pa, pb, if_false]; exact h.1 p hp
    · have key : ∀ x, x < P.2.2.1 → (if x = a then w b else if x = b then w a else w x) = some k → (if x = a then b else if x = b then a else x) < P.2.2.1 ∧ w (if x = a then b else if x = b then a else x) = some k := by
        intro x hx e
        by_cases xa : x = a
        · simp only [xa, if_true] at e ⊢; exact ⟨hab.2, e⟩
        · by_cases xb : x = b
          · by_cases ba : b = a
            · omega
            · simp only [xb, ba, if_true, if_false] at e ⊢; exact ⟨hab.1, e⟩
          · simp only [xa, xb, if_false] at e ⊢; exact ⟨hx, e⟩
      obtain ⟨p1, p2⟩ := key p hp h1
      obtain ⟨q1, q2⟩ := key q hq h2
      have e := h.2 _ _ k p1 q1 p2 q2
      (repeat' split at e) <;> omega
  · exact h
theorem yCh_ok {P : yP} {d : Nat} {w : Nat → Option Nat} (h : yWok P w) : ∀ i, yWok P (yCh P d w i)
  | 0 => h
  | i + 1 => by
    unfold yCh
    split
    · exact ySwap_ok (yCh_ok h i)
    · exact yCh_ok h i
theorem yGs_le {P : yP} {w : Nat → Option Nat} {kn : Nat → Nat} {sub : Nat} (hkn : ∀ q, q < 24 → kn q ≤ 30) (hsub : sub < 3) {k : Nat} (hk : k < 8) : ∀ p, kn (3 * k + sub) + yGs P w kn sub p k ≤ 30
  | 0 => by
    have := hkn (3 * k + sub) (by omega)
    show kn (3 * k + sub) + 0 ≤ 30
    omega
  | p + 1 => by
    have ih := yGs_le (P := P) (w := w) hkn hsub hk p
    cases hw : w p with
    | none => rw [yGs_none hw]; exact ih
    | some j =>
      rw [yGs_some hw]
      show kn (3 * k + sub) + (if k = j then _ else _) ≤ 30
      by_cases hj : k = j
      · subst hj
        rw [if_pos rfl]
        exact yGn_le (hkn _ (by omega))
      · rw [if_neg hj]
        exact ih
/-- the rows of the first D days -/
def yRw (o : Nat) (τ : vc_S) (P : yP) (S : yS) (D : Nat) : Prop :=
  (∀ d, d ≤ D → yW o τ P.2.2.1 (16 * d) (yRun P S d).1 ∧ yKn o τ (24 * d) (yRun P S d).2.1 ∧ ∀ k, k < 8 → τ.2 (o + 3) (8 * d + k) = nI ((yRun P S d).2.2.1 k)) ∧ (∀ d, d < D → ∀ k, k < 8 → τ.2 (o + 4) (8 * d + k) = nI ((yRun P S (d + 1)).2.2.2.2 k)) ∧ ∀ p, p < 16 → τ.2 (o + 5) p = nI ((yRun P S D).2.2.2.1 p)
/-- a row of changes, and which of them a mask does -/
def yCg (c : Nat) (σ : vc_S) (P : yP) : Prop := σ.1 c 3 = nI P.2.2.2.2.1 ∧ P.2.2.2.2.1 ≤ 9 ∧ ∀ i, i < P.2.2.2.2.1 → (σ.2 (c + 1) i = nI (P.2.2.2.2.2.1 i).1 ∧ (P.2.2.2.2.2.1 i).1 < 30) ∧ (σ.2 (c + 2) i = nI (P.2.2.2.2.2.1 i).2.1 ∧ (P.2.2.2.2.2.1 i).2.1 < 16) ∧ σ.2 (c + 3) i = nI (P.2.2.2.2.2.1 i).2.2 ∧ (P.2.2.2.2.2.1 i).2.2 < 16
def yDn (dn : Int32) (P : yP) : Prop := ∀ i, i < P.2.2.2.2.1 → ((dn >>> (nI i &&& 31)) &&& nI 1 = nI 0) = (P.2.2.2.2.2.2.1 i = false)
def yOd (o : Nat) (σ : vc_S) (P : yP) : Prop := ∀ j, j < 3 → σ.2 (o + 8) j = nI (P.2.2.2.2.2.2.2 j) ∧ P.2.2.2.2.2.2.2 j < 3
theorem yLc {c : Nat} (hc : c = 11 ∨ c = 47) : vc_cls c = 4 ∧ vc_fld c 1 0 = some (some (c + 1)) ∧ vc_fld c 1 1 = some (some (c + 2)) ∧ vc_fld c 1 2 = some (some (c + 3)) ∧ vc_fld c 1 3 = some none ∧ vc_arr (c + 1) = some (0, 9) ∧ vc_arr (c + 2) = some (0, 9) ∧ vc_arr (c + 3) = some (0, 9) ∧ (c + 1 = 1000) = False ∧ (c + 2 = 1000) = False ∧ (c + 3 = 1000) = False ∧ (c + 1 = 1001) = False := by
  rcases hc with rfl | rfl <;> refine ⟨rfl, rfl, rfl, rfl, rfl, rfl, rfl, rfl, ?_⟩ <;> decide
theorem yDay_kn {P : yP} {d : Nat} {S : yS} (hok : yWok P S.1) (hn : P.1 ≤ 8) {q : Nat} (hq : q < 24) : (yDay P d S).2.1 q = S.2.1 q + (if q % 3 = P.2.2.2.2.2.2.2 (d % 3) then yGs P (yCh P d S.1 P.2.2.2.2.1) S.2.1 (P.2.2.2.2.2.2.2 (d % 3)) P.2.2.1 (q / 3) else 0) := by
  show (if q % 3 = _ ∧ q / 3 < P.1 then _ else _) = _
  by_cases h1 : q % 3 = P.2.2.2.2.2.2.2 (d % 3)
  · rw [if_pos h1]
    by_cases h2 : q / 3 < P.1
    · rw [if_pos ⟨h1, h2⟩]
    · rw [if_neg (fun c => h2 c.2), yGs_0 _ (fun p hp e => h2 ((yCh_ok hok _).1 p hp _ e))]
      rfl
  · rw [if_neg h1, if_neg (fun c => h1 c.1)]
    rfl
set_option maxHeartbeats 4000000 in
set_option maxRecDepth 100000 in
/-- pass(changes, done): a whole year -/
theorem ct_pass {K : vc_K} {o c : Nat} {dn : Int32} {P : yP} {S : yS} {σ : vc_S} {Q : Option Value → vc_S → Prop} (ho : o = 29 ∨ o = 38) (hc : c = 11 ∨ c = 47) (hP : yPar o σ P) (hC : yCg c σ P) (hdn : yDn dn P) (hod : yOd o σ P) (hok : yWok P S.1) (hw : yW o σ P.2.2.1 0 S.1) (hkn : yKn o σ 0 S.2.1) (hmk : ∀ k, k < 8 → σ.2 (o + 3) k = nI (S.2.2.1 k)) (hgh : ∀ p, p < 16 → σ.2 (o + 5) p = nI (S.2.2.2.1 p))
    (h : ∀ τ, vc_fr [o + 1, o + 2, o + 3, o + 4, o + 5] σ τ → yRw o τ P S 30 → Q none τ) : vc_C K 21 [.ref o, .ref c, .int dn] σ Q := by
  have ly := yLy ho
  have lc := yLc hc
  have hs16 := hP.1.2.1
  have hn8 := hP.2.1.1
  have hc9 := hC.2.1
  have hcl : ∀ j, j ≤ 3 → c + j ∉ [o + 1, o + 2, o + 3, o + 4, o + 5] := by
    intro j hj
    simp only [List.mem_cons, List.not_mem_nil, or_false]
    omega
  have okd : ∀ d, yWok P (yRun P S d).1 := by
    intro d
    induction d with
    | zero => exact hok
    | succ d ih => exact yCh_ok ih _
  have lp : ∀ (m d : Nat) (τ : vc_S), d + m = 30 → vc_fr [o + 1, o + 2, o + 3, o + 4, o + 5] σ τ → yRw o τ P S d → (∀ i, 8 * d ≤ i → i < 240 → τ.2 (o + 4) i = nI 0) → ∀ x4 : Option Value, vc_G K 21 10 [some (.ref o), some (.ref c), some (.int dn), some (.int (nI d)), x4] [] τ Q := by
    intro m
    induction m with
    | zero =>
      intro d τ hd hf hR hz x4
      refine g_21_10 ?_
      simp only [vc_wi, vc_li, vc_ll, vc_lr, vc_i1, vc_i2, vc_l1, vc_l2, vc_il, vc_r1, vc_ri, vc_rii, vc_rx, vc_cp, vc_s1, vc_s2, vc_fg, vc_cm, vc_ald, vc_bld, vc_ast, vc_bst, vc_len, vc_gf, vc_pf, vc_cpy, vc_ct, List.getElem?_cons_zero, List.getElem?_cons_succ, List.set_cons_zero, List.set_cons_succ, List.take_succ_cons, List.take_zero, List.drop_succ_cons, List.drop_zero, List.reverse_cons, List.reverse_nil, List.nil_append, List.cons_append, Option.toList_some, Option.toList_none, List.map_cons, List.map_nil, List.sum_cons, List.sum_nil, List.length_cons, List.length_nil, Value.category, Nat.reduceEqDiff, Nat.reduceLeDiff, Nat.reduceAdd, reduceIte, true_and, and_true, B_21_10, rt_21, ly]
      try simp (disch := omega) only [vc_brT, vc_brF, vc_anT, vc_brt, vc_brf, vc_ant, vn_n0, vn_in, vn_cl, vn_lt, vn_le, vn_eq, vn_sub, vn_div, vn_rem, vn_mod, vn_m1, vn_m1n, vn_m1p, nI_add, pk_mul, vc_sa_1, vc_sa_2, vc_sg_1, vc_sg_2, Nat.reduceEqDiff, Nat.reduceLeDiff, Nat.reduceAdd, Nat.reduceMul, Nat.reduceSub, Nat.not_lt_zero, Nat.add_left_cancel_iff, reduceIte, true_and, and_true, not_false_eq_true, not_true_eq_false, true_or, or_true, Bool.false_eq_true]
      refine g_21_168 ?_
      simp only [vc_wi, vc_li, vc_ll, vc_lr, vc_i1, vc_i2, vc_l1, vc_l2, vc_il, vc_r1, vc_ri, vc_rii, vc_rx, vc_cp, vc_s1, vc_s2, vc_fg, vc_cm, vc_ald, vc_bld, vc_ast, vc_bst, vc_len, vc_gf, vc_pf, vc_cpy, vc_ct, List.getElem?_cons_zero, List.getElem?_cons_succ, List.set_cons_zero, List.set_cons_succ, List.take_succ_cons, List.take_zero, List.drop_succ_cons, List.drop_zero, List.reverse_cons, List.reverse_nil, List.nil_append, List.cons_append, Option.toList_some, Option.toList_none, List.map_cons, List.map_nil, List.sum_cons, List.sum_nil, List.length_cons, List.length_nil, Value.category, Nat.reduceEqDiff, Nat.reduceLeDiff, Nat.reduceAdd, reduceIte, true_and, and_true, B_21_168, rt_21, ly]
      try simp (disch := omega) only [vc_brT, vc_brF, vc_anT, vc_brt, vc_brf, vc_ant, vn_n0, vn_in, vn_cl, vn_lt, vn_le, vn_eq, vn_sub, vn_div, vn_rem, vn_mod, vn_m1, vn_m1n, vn_m1p, nI_add, pk_mul, vc_sa_1, vc_sa_2, vc_sg_1, vc_sg_2, Nat.reduceEqDiff, Nat.reduceLeDiff, Nat.reduceAdd, Nat.reduceMul, Nat.reduceSub, Nat.not_lt_zero, Nat.add_left_cancel_iff, reduceIte, true_and, and_true, not_false_eq_true, not_true_eq_false, true_or, or_true, Bool.false_eq_true]
      have e : d = 30 := by omega
      subst e
      exact h τ hf hR
    | succ m ih =>
      intro d τ hd hf hR hz x4
      obtain ⟨r1, r2, r3⟩ := hR
      obtain ⟨w1, k1, m1⟩ := r1 d (by omega)
      -- behind the day's changes
      have c144 : ∀ (υ : vc_S) (x4 : Option Value), vc_fr [o + 1, o + 2, o + 3, o + 4, o + 5] σ υ → yRw o υ P S d → (∀ i, 8 * d ≤ i → i < 240 → υ.2 (o + 4) i = nI 0) → yW o υ P.2.2.1 (16 * (d + 1)) (yCh P d (yRun P S d).1 P.2.2.2.2.1) → (∀ q, q < 24 → υ.2 (o + 2) (24 * (d + 1) + q) = nI ((yRun P S d).2.1 q)) → (∀ k, k < 8 → υ.2 (o + 3) (8 * (d + 1) + k) = nI ((yRun P S d).2.2.1 k)) → vc_G K 21 144 [some (.ref o), some (.ref c), some (.int dn), some (.int (nI d)), x4] [] υ Q := by
        intro υ x4 hf hR hz hw1 hk1 hm1
        obtain ⟨q1, q2, q3⟩ := hR
        have hod' := hod (d % 3) (by omega)
        have ho8 : υ.2 (o + 8) (d % 3) = nI (P.2.2.2.2.2.2.2 (d % 3)) := by rw [hf.2 _ (by simp)]; exact hod'.1
        refine g_21_144 ?_
        simp only [vc_wi, vc_li, vc_ll, vc_lr, vc_i1, vc_i2, vc_l1, vc_l2, vc_il, vc_r1, vc_ri, vc_rii, vc_rx, vc_cp, vc_s1, vc_s2, vc_fg, vc_cm, vc_ald, vc_bld, vc_ast, vc_bst, vc_len, vc_gf, vc_pf, vc_cpy, vc_ct, List.getElem?_cons_zero, List.getElem?_cons_succ, List.set_cons_zero, List.set_cons_succ, List.take_succ_cons, List.take_zero, List.drop_succ_cons, List.drop_zero, List.reverse_cons, List.reverse_nil, List.nil_append, List.cons_append, Option.toList_some, Option.toList_none, List.map_cons, List.map_nil, List.sum_cons, List.sum_nil, List.length_cons, List.length_nil, Value.category, Nat.reduceEqDiff, Nat.reduceLeDiff, Nat.reduceAdd, reduceIte, true_and, and_true, B_21_144, rt_21, ly]
        try simp (disch := omega) only [vc_brT, vc_brF, vc_anT, vc_brt, vc_brf, vc_ant, vn_n0, vn_in, vn_cl, vn_lt, vn_le, vn_eq, vn_sub, vn_div, vn_rem, vn_mod, vn_m1, vn_m1n, vn_m1p, nI_add, pk_mul, vc_sa_1, vc_sa_2, vc_sg_1, vc_sg_2, Nat.reduceEqDiff, Nat.reduceLeDiff, Nat.reduceAdd, Nat.reduceMul, Nat.reduceSub, Nat.not_lt_zero, Nat.add_left_cancel_iff, reduceIte, true_and, and_true, not_false_eq_true, not_true_eq_false, true_or, or_true, Bool.false_eq_true, ho8]
        refine ct_teach ho (hP.fr hf (by simp) (by simp)) hw1 (yCh_ok (okd d) _) (q1 d (by omega)).2.1 hk1 (fun k hk => hz _ (by omega) (by omega)) (by omega) hod'.2 ?_
        intro υ2 f2 t1 t2 t3 t4
        simp only [vc_wi, vc_li, vc_ll, vc_lr, vc_i1, vc_i2, vc_l1, vc_l2, vc_il, vc_r1, vc_ri, vc_rii, vc_rx, vc_cp, vc_s1, vc_s2, vc_fg, vc_cm, vc_ald, vc_bld, vc_ast, vc_bst, vc_len, vc_gf, vc_pf, vc_cpy, vc_ct, List.getElem?_cons_zero, List.getElem?_cons_succ, List.set_cons_zero, List.set_cons_succ, List.take_succ_cons, List.take_zero, List.drop_succ_cons, List.drop_zero, List.reverse_cons, List.reverse_nil, List.nil_append, List.cons_append, Option.toList_some, Option.toList_none, List.map_cons, List.map_nil, List.sum_cons, List.sum_nil, List.length_cons, List.length_nil, Value.category, Nat.reduceEqDiff, Nat.reduceLeDiff, Nat.reduceAdd, reduceIte, true_and, and_true, rt_21, ly]
        try simp (disch := omega) only [vc_brT, vc_brF, vc_anT, vc_brt, vc_brf, vc_ant, vn_n0, vn_in, vn_cl, vn_lt, vn_le, vn_eq, vn_sub, vn_div, vn_rem, vn_mod, vn_m1, vn_m1n, vn_m1p, nI_add, pk_mul, vc_sa_1, vc_sa_2, vc_sg_1, vc_sg_2, Nat.reduceEqDiff, Nat.reduceLeDiff, Nat.reduceAdd, Nat.reduceMul, Nat.reduceSub, Nat.not_lt_zero, Nat.add_left_cancel_iff, reduceIte, true_and, and_true, not_false_eq_true, not_true_eq_false, true_or, or_true, Bool.false_eq_true]
        have f2' : vc_fr [o + 1, o + 2, o + 3, o + 4, o + 5] σ υ2 := hf.tr (f2.mono (by simp))
        refine ct_mark ho (hP.fr f2' (by simp) (by simp)) (hw1.fr f2 (by simp)) (yCh_ok (okd d) _) t3 (mk := (yRun P S d).2.2.1) (fun k hk => by rw [f2.2 _ (by simp)]; exact hm1 k hk) (gh := (yRun P S d).2.2.2.1) (fun p hp => by rw [f2.2 _ (by simp)]; exact q3 p hp) (by omega) ?_
        intro υ3 f3 u1 u2 u3
        simp only [vc_wi, vc_li, vc_ll, vc_lr, vc_i1, vc_i2, vc_l1, vc_l2, vc_il, vc_r1, vc_ri, vc_rii, vc_rx, vc_cp, vc_s1, vc_s2, vc_fg, vc_cm, vc_ald, vc_bld, vc_ast, vc_bst, vc_len, vc_gf, vc_pf, vc_cpy, vc_ct, List.getElem?_cons_zero, List.getElem?_cons_succ, List.set_cons_zero, List.set_cons_succ, List.take_succ_cons, List.take_zero, List.drop_succ_cons, List.drop_zero, List.reverse_cons, List.reverse_nil, List.nil_append, List.cons_append, Option.toList_some, Option.toList_none, List.map_cons, List.map_nil, List.sum_cons, List.sum_nil, List.length_cons, List.length_nil, Value.category, Nat.reduceEqDiff, Nat.reduceLeDiff, Nat.reduceAdd, reduceIte, true_and, and_true, rt_21, ly]
        try simp (disch := omega) only [vc_brT, vc_brF, vc_anT, vc_brt, vc_brf, vc_ant, vn_n0, vn_in, vn_cl, vn_lt, vn_le, vn_eq, vn_sub, vn_div, vn_rem, vn_mod, vn_m1, vn_m1n, vn_m1p, nI_add, pk_mul, vc_sa_1, vc_sa_2, vc_sg_1, vc_sg_2, Nat.reduceEqDiff, Nat.reduceLeDiff, Nat.reduceAdd, Nat.reduceMul, Nat.reduceSub, Nat.not_lt_zero, Nat.add_left_cancel_iff, reduceIte, true_and, and_true, not_false_eq_true, not_true_eq_false, true_or, or_true, Bool.false_eq_true]
        refine ih (d + 1) υ3 (by omega) (f2'.tr (f3.mono (by simp))) ⟨fun e he => ?_, fun e he k hk => ?_, ?_⟩ (fun i h1 h2 => ?_) _
        · by_cases hed : e = d + 1
          · subst hed
            refine ⟨(hw1.fr f2 (by simp)).fr f3 (by simp), fun q hq => ?_, u2⟩
            rw [f3.2 _ (by simp), t4 q hq]
            refine ⟨by rw [show (yRun P S (d + 1)).2.1 q = _ from yDay_kn (okd d) hn8 hq], ?_⟩
            rw [show (yRun P S (d + 1)).2.1 q = _ from yDay_kn (okd d) hn8 hq]
            split
            · rename_i hq3
              have := yGs_le (P := P) (w := yCh P d (yRun P S d).1 P.2.2.2.2.1) (fun q hq => ((q1 d (by omega)).2.1 q hq).2) hod'.2 (k := q / 3) (by omega) P.2.2.1
              have e3 : 3 * (q / 3) + P.2.2.2.2.2.2.2 (d % 3) = q := by omega
              rw [e3] at this
              exact this
            · have := ((q1 d (by omega)).2.1 q hq).2
              omega
          · obtain ⟨a1, a2, a3⟩ := q1 e (by omega)
            refine ⟨(a1.fr f2 (by simp)).fr f3 (by simp), fun q hq => ?_, fun k hk => ?_⟩
            · rw [f3.2 _ (by simp), t1 _ (by omega)]
              exact a2 q hq
            · rw [u1 _ (by omega), f2.2 _ (by simp)]
              exact a3 k hk
        · rw [f3.2 _ (by simp)]
          by_cases hed : e = d
          · subst hed
            exact t3 k hk
          · rw [t2 _ (by omega)]
            exact q2 e (by omega) k hk
        · exact u3
        · rw [f3.2 _ (by simp), t2 _ (by omega)]
          exact hz i (by omega) h2
      have lp2 : ∀ (mm i : Nat) (υ : vc_S), i + mm = P.2.2.2.2.1 → vc_fr [o + 1, o + 2, o + 3, o + 4, o + 5] σ υ → yRw o υ P S d → (∀ i, 8 * d ≤ i → i < 240 → υ.2 (o + 4) i = nI 0) → yW o υ P.2.2.1 (16 * (d + 1)) (yCh P d (yRun P S d).1 i) → (∀ q, q < 24 → υ.2 (o + 2) (24 * (d + 1) + q) = nI ((yRun P S d).2.1 q)) → (∀ k, k < 8 → υ.2 (o + 3) (8 * (d + 1) + k) = nI ((yRun P S d).2.2.1 k)) → vc_G K 21 88 [some (.ref o), some (.ref c), some (.int dn), some (.int (nI d)), some (.int (nI i))] [] υ Q := by
        intro mm
        induction mm with
        | zero =>
          intro i υ hi hf hR hz hw1 hk1 hm1
          have hn : υ.1 c 3 = nI P.2.2.2.2.1 := by rw [hf.1]; exact hC.1
          refine g_21_88 ?_
          simp only [vc_wi, vc_li, vc_ll, vc_lr, vc_i1, vc_i2, vc_l1, vc_l2, vc_il, vc_r1, vc_ri, vc_rii, vc_rx, vc_cp, vc_s1, vc_s2, vc_fg, vc_cm, vc_ald, vc_bld, vc_ast, vc_bst, vc_len, vc_gf, vc_pf, vc_cpy, vc_ct, List.getElem?_cons_zero, List.getElem?_cons_succ, List.set_cons_zero, List.set_cons_succ, List.take_succ_cons, List.take_zero, List.drop_succ_cons, List.drop_zero, List.reverse_cons, List.reverse_nil, List.nil_append, List.cons_append, Option.toList_some, Option.toList_none, List.map_cons, List.map_nil, List.sum_cons, List.sum_nil, List.length_cons, List.length_nil, Value.category, Nat.reduceEqDiff, Nat.reduceLeDiff, Nat.reduceAdd, reduceIte, true_and, and_true, B_21_88, rt_21, ly, lc]
          try simp (disch := omega) only [vc_brT, vc_brF, vc_anT, vc_brt, vc_brf, vc_ant, vn_n0, vn_in, vn_cl, vn_lt, vn_le, vn_eq, vn_sub, vn_div, vn_rem, vn_mod, vn_m1, vn_m1n, vn_m1p, nI_add, pk_mul, vc_sa_1, vc_sa_2, vc_sg_1, vc_sg_2, Nat.reduceEqDiff, Nat.reduceLeDiff, Nat.reduceAdd, Nat.reduceMul, Nat.reduceSub, Nat.not_lt_zero, Nat.add_left_cancel_iff, reduceIte, true_and, and_true, not_false_eq_true, not_true_eq_false, true_or, or_true, Bool.false_eq_true, hn]
          have e : i = P.2.2.2.2.1 := by omega
          subst e
          exact c144 υ _ hf hR hz hw1 hk1 hm1
        | succ mm ih2 =>
          intro i υ hi hf hR hz hw1 hk1 hm1
          have hn : υ.1 c 3 = nI P.2.2.2.2.1 := by rw [hf.1]; exact hC.1
          obtain ⟨⟨a1, a2⟩, ⟨b1, b2⟩, g1, g2⟩ := hC.2.2 i (by omega)
          have a1 : υ.2 (c + 1) i = nI (P.2.2.2.2.2.1 i).1 := by rw [hf.2 _ (hcl 1 (by omega))]; exact a1
          have b1 : υ.2 (c + 2) i = nI (P.2.2.2.2.2.1 i).2.1 := by rw [hf.2 _ (hcl 2 (by omega))]; exact b1
          have g1 : υ.2 (c + 3) i = nI (P.2.2.2.2.2.1 i).2.2 := by rw [hf.2 _ (hcl 3 (by omega))]; exact g1
          have hdi := hdn i (by omega)
          have c138 : ∀ υ2 : vc_S, vc_fr [o + 1, o + 2, o + 3, o + 4, o + 5] σ υ2 → yRw o υ2 P S d → (∀ i, 8 * d ≤ i → i < 240 → υ2.2 (o + 4) i = nI 0) → yW o υ2 P.2.2.1 (16 * (d + 1)) (yCh P d (yRun P S d).1 (i + 1)) → (∀ q, q < 24 → υ2.2 (o + 2) (24 * (d + 1) + q) = nI ((yRun P S d).2.1 q)) → (∀ k, k < 8 → υ2.2 (o + 3) (8 * (d + 1) + k) = nI ((yRun P S d).2.2.1 k)) → vc_G K 21 138 [some (.ref o), some (.ref c), some (.int dn), some (.int (nI d)), some (.int (nI i))] [] υ2 Q := by
            intro υ2 z1 z2 z3 z4 z5 z6
            refine g_21_138 ?_
            simp only [vc_wi, vc_li, vc_ll, vc_lr, vc_i1, vc_i2, vc_l1, vc_l2, vc_il, vc_r1, vc_ri, vc_rii, vc_rx, vc_cp, vc_s1, vc_s2, vc_fg, vc_cm, vc_ald, vc_bld, vc_ast, vc_bst, vc_len, vc_gf, vc_pf, vc_cpy, vc_ct, List.getElem?_cons_zero, List.getElem?_cons_succ, List.set_cons_zero, List.set_cons_succ, List.take_succ_cons, List.take_zero, List.drop_succ_cons, List.drop_zero, List.reverse_cons, List.reverse_nil, List.nil_append, List.cons_append, Option.toList_some, Option.toList_none, List.map_cons, List.map_nil, List.sum_cons, List.sum_nil, List.length_cons, List.length_nil, Value.category, Nat.reduceEqDiff, Nat.reduceLeDiff, Nat.reduceAdd, reduceIte, true_and, and_true, B_21_138, rt_21, ly]
            try simp (disch := omega) only [vc_brT, vc_brF, vc_anT, vc_brt, vc_brf, vc_ant, vn_n0, vn_in, vn_cl, vn_lt, vn_le, vn_eq, vn_sub, vn_div, vn_rem, vn_mod, vn_m1, vn_m1n, vn_m1p, nI_add, pk_mul, vc_sa_1, vc_sa_2, vc_sg_1, vc_sg_2, Nat.reduceEqDiff, Nat.reduceLeDiff, Nat.reduceAdd, Nat.reduceMul, Nat.reduceSub, Nat.not_lt_zero, Nat.add_left_cancel_iff, reduceIte, true_and, and_true, not_false_eq_true, not_true_eq_false, true_or, or_true, Bool.false_eq_true]
            exact ih2 (i + 1) υ2 (by omega) z1 z2 z3 z4 z5 z6
          have hno : ¬ ((P.2.2.2.2.2.1 i).1 = d ∧ P.2.2.2.2.2.2.1 i = true) → vc_G K 21 138 [some (.ref o), some (.ref c), some (.int dn), some (.int (nI d)), some (.int (nI i))] [] υ Q := fun hn => c138 υ hf hR hz (by rw [yCh, if_neg hn]; exact hw1) hk1 hm1
          refine g_21_88 ?_
          simp only [vc_wi, vc_li, vc_ll, vc_lr, vc_i1, vc_i2, vc_l1, vc_l2, vc_il, vc_r1, vc_ri, vc_rii, vc_rx, vc_cp, vc_s1, vc_s2, vc_fg, vc_cm, vc_ald, vc_bld, vc_ast, vc_bst, vc_len, vc_gf, vc_pf, vc_cpy, vc_ct, List.getElem?_cons_zero, List.getElem?_cons_succ, List.set_cons_zero, List.set_cons_succ, List.take_succ_cons, List.take_zero, List.drop_succ_cons, List.drop_zero, List.reverse_cons, List.reverse_nil, List.nil_append, List.cons_append, Option.toList_some, Option.toList_none, List.map_cons, List.map_nil, List.sum_cons, List.sum_nil, List.length_cons, List.length_nil, Value.category, Nat.reduceEqDiff, Nat.reduceLeDiff, Nat.reduceAdd, reduceIte, true_and, and_true, B_21_88, rt_21, ly, lc]
          try simp (disch := omega) only [vc_brT, vc_brF, vc_anT, vc_brt, vc_brf, vc_ant, vn_n0, vn_in, vn_cl, vn_lt, vn_le, vn_eq, vn_sub, vn_div, vn_rem, vn_mod, vn_m1, vn_m1n, vn_m1p, nI_add, pk_mul, vc_sa_1, vc_sa_2, vc_sg_1, vc_sg_2, Nat.reduceEqDiff, Nat.reduceLeDiff, Nat.reduceAdd, Nat.reduceMul, Nat.reduceSub, Nat.not_lt_zero, Nat.add_left_cancel_iff, reduceIte, true_and, and_true, not_false_eq_true, not_true_eq_false, true_or, or_true, Bool.false_eq_true, hn, a1, b1, g1, hdi]
          refine vc_br_i (fun e1 => hno (fun q => e1 q.1)) (fun e1 => vc_br_i (fun e2 => hno (fun q => by rw [e2] at q; cases q.2)) (fun e2 => ?_))
          have e1 : (P.2.2.2.2.2.1 i).1 = d := by omega
          have e2 : P.2.2.2.2.2.2.1 i = true := by simpa using e2
          refine ct_exchange ho (hP.1.fr hf (by simp)) hw1 (by omega) b2 g2 ?_
          intro υ2 f2 s1 s2
          simp only [vc_wi, vc_li, vc_ll, vc_lr, vc_i1, vc_i2, vc_l1, vc_l2, vc_il, vc_r1, vc_ri, vc_rii, vc_rx, vc_cp, vc_s1, vc_s2, vc_fg, vc_cm, vc_ald, vc_bld, vc_ast, vc_bst, vc_len, vc_gf, vc_pf, vc_cpy, vc_ct, List.getElem?_cons_zero, List.getElem?_cons_succ, List.set_cons_zero, List.set_cons_succ, List.take_succ_cons, List.take_zero, List.drop_succ_cons, List.drop_zero, List.reverse_cons, List.reverse_nil, List.nil_append, List.cons_append, Option.toList_some, Option.toList_none, List.map_cons, List.map_nil, List.sum_cons, List.sum_nil, List.length_cons, List.length_nil, Value.category, Nat.reduceEqDiff, Nat.reduceLeDiff, Nat.reduceAdd, reduceIte, true_and, and_true, rt_21, ly]
          try simp (disch := omega) only [vc_brT, vc_brF, vc_anT, vc_brt, vc_brf, vc_ant, vn_n0, vn_in, vn_cl, vn_lt, vn_le, vn_eq, vn_sub, vn_div, vn_rem, vn_mod, vn_m1, vn_m1n, vn_m1p, nI_add, pk_mul, vc_sa_1, vc_sa_2, vc_sg_1, vc_sg_2, Nat.reduceEqDiff, Nat.reduceLeDiff, Nat.reduceAdd, Nat.reduceMul, Nat.reduceSub, Nat.not_lt_zero, Nat.add_left_cancel_iff, reduceIte, true_and, and_true, not_false_eq_true, not_true_eq_false, true_or, or_true, Bool.false_eq_true]
          obtain ⟨q1, q2, q3⟩ := hR
          refine c138 υ2 (hf.tr (f2.mono (by simp))) ⟨fun e he => ⟨fun p hp => ?_, fun q hq => ?_, fun k hk => ?_⟩, fun e he k hk => ?_, fun p hp => ?_⟩ (fun x h1 h2 => ?_) ?_ (fun q hq => ?_) (fun k hk => ?_)
          · rw [s1 _ (by omega)]
            exact (q1 e he).1 p hp
          · rw [f2.2 _ (by simp)]
            exact (q1 e he).2.1 q hq
          · rw [f2.2 _ (by simp)]
            exact (q1 e he).2.2 k hk
          · rw [f2.2 _ (by simp)]
            exact q2 e he k hk
          · rw [f2.2 _ (by simp)]
            exact q3 p hp
          · rw [f2.2 _ (by simp)]
            exact hz x h1 h2
          · rw [yCh, if_pos ⟨e1, e2⟩]
            exact s2
          · rw [f2.2 _ (by simp)]
            exact hk1 q hq
          · rw [f2.2 _ (by simp)]
            exact hm1 k hk
      refine g_21_10 ?_
      simp only [vc_wi, vc_li, vc_ll, vc_lr, vc_i1, vc_i2, vc_l1, vc_l2, vc_il, vc_r1, vc_ri, vc_rii, vc_rx, vc_cp, vc_s1, vc_s2, vc_fg, vc_cm, vc_ald, vc_bld, vc_ast, vc_bst, vc_len, vc_gf, vc_pf, vc_cpy, vc_ct, List.getElem?_cons_zero, List.getElem?_cons_succ, List.set_cons_zero, List.set_cons_succ, List.take_succ_cons, List.take_zero, List.drop_succ_cons, List.drop_zero, List.reverse_cons, List.reverse_nil, List.nil_append, List.cons_append, Option.toList_some, Option.toList_none, List.map_cons, List.map_nil, List.sum_cons, List.sum_nil, List.length_cons, List.length_nil, Value.category, Nat.reduceEqDiff, Nat.reduceLeDiff, Nat.reduceAdd, reduceIte, true_and, and_true, B_21_10, rt_21, ly]
      try simp (disch := omega) only [vc_brT, vc_brF, vc_anT, vc_brt, vc_brf, vc_ant, vn_n0, vn_in, vn_cl, vn_lt, vn_le, vn_eq, vn_sub, vn_div, vn_rem, vn_mod, vn_m1, vn_m1n, vn_m1p, nI_add, pk_mul, vc_sa_1, vc_sa_2, vc_sg_1, vc_sg_2, Nat.reduceEqDiff, Nat.reduceLeDiff, Nat.reduceAdd, Nat.reduceMul, Nat.reduceSub, Nat.not_lt_zero, Nat.add_left_cancel_iff, reduceIte, true_and, and_true, not_false_eq_true, not_true_eq_false, true_or, or_true, Bool.false_eq_true]
      refine lp2 P.2.2.2.2.1 0 _ (by omega) (((hf.sa (by simp)).sa (by simp)).sa (by simp)) ⟨fun e he => ⟨fun p hp => ?_, fun q hq => ?_, fun k hk => ?_⟩, fun e he k hk => ?_, fun p hp => ?_⟩ (fun x h1 h2 => ?_) (fun p hp => ?_) (fun q hq => ?_) (fun k hk => ?_)
      · simp (disch := omega) only [vc_brT, vc_brF, vc_anT, vc_brt, vc_brf, vc_ant, vn_n0, vn_in, vn_cl, vn_lt, vn_le, vn_eq, vn_sub, vn_div, vn_rem, vn_mod, vn_m1, vn_m1n, vn_m1p, nI_add, pk_mul, vc_sa_1, vc_sa_2, vc_sg_1, vc_sg_2, Nat.reduceEqDiff, Nat.reduceLeDiff, Nat.reduceAdd, Nat.reduceMul, Nat.reduceSub, Nat.not_lt_zero, Nat.add_left_cancel_iff, reduceIte, true_and, and_true, not_false_eq_true, not_true_eq_false, true_or, or_true, Bool.false_eq_true]
        rw [pk_cpy_out (by omega)]
        exact (r1 e he).1 p hp
      · simp (disch := omega) only [vc_brT, vc_brF, vc_anT, vc_brt, vc_brf, vc_ant, vn_n0, vn_in, vn_cl, vn_lt, vn_le, vn_eq, vn_sub, vn_div, vn_rem, vn_mod, vn_m1, vn_m1n, vn_m1p, nI_add, pk_mul, vc_sa_1, vc_sa_2, vc_sg_1, vc_sg_2, Nat.reduceEqDiff, Nat.reduceLeDiff, Nat.reduceAdd, Nat.reduceMul, Nat.reduceSub, Nat.not_lt_zero, Nat.add_left_cancel_iff, reduceIte, true_and, and_true, not_false_eq_true, not_true_eq_false, true_or, or_true, Bool.false_eq_true]
        rw [pk_cpy_out (by omega)]
        exact (r1 e he).2.1 q hq
      · simp (disch := omega) only [vc_brT, vc_brF, vc_anT, vc_brt, vc_brf, vc_ant, vn_n0, vn_in, vn_cl, vn_lt, vn_le, vn_eq, vn_sub, vn_div, vn_rem, vn_mod, vn_m1, vn_m1n, vn_m1p, nI_add, pk_mul, vc_sa_1, vc_sa_2, vc_sg_1, vc_sg_2, Nat.reduceEqDiff, Nat.reduceLeDiff, Nat.reduceAdd, Nat.reduceMul, Nat.reduceSub, Nat.not_lt_zero, Nat.add_left_cancel_iff, reduceIte, true_and, and_true, not_false_eq_true, not_true_eq_false, true_or, or_true, Bool.false_eq_true]
        rw [pk_cpy_out (by omega)]
        exact (r1 e he).2.2 k hk
      · simp (disch := omega) only [vc_brT, vc_brF, vc_anT, vc_brt, vc_brf, vc_ant, vn_n0, vn_in, vn_cl, vn_lt, vn_le, vn_eq, vn_sub, vn_div, vn_rem, vn_mod, vn_m1, vn_m1n, vn_m1p, nI_add, pk_mul, vc_sa_1, vc_sa_2, vc_sg_1, vc_sg_2, Nat.reduceEqDiff, Nat.reduceLeDiff, Nat.reduceAdd, Nat.reduceMul, Nat.reduceSub, Nat.not_lt_zero, Nat.add_left_cancel_iff, reduceIte, true_and, and_true, not_false_eq_true, not_true_eq_false, true_or, or_true, Bool.false_eq_true]
        exact r2 e he k hk
      · simp (disch := omega) only [vc_brT, vc_brF, vc_anT, vc_brt, vc_brf, vc_ant, vn_n0, vn_in, vn_cl, vn_lt, vn_le, vn_eq, vn_sub, vn_div, vn_rem, vn_mod, vn_m1, vn_m1n, vn_m1p, nI_add, pk_mul, vc_sa_1, vc_sa_2, vc_sg_1, vc_sg_2, Nat.reduceEqDiff, Nat.reduceLeDiff, Nat.reduceAdd, Nat.reduceMul, Nat.reduceSub, Nat.not_lt_zero, Nat.add_left_cancel_iff, reduceIte, true_and, and_true, not_false_eq_true, not_true_eq_false, true_or, or_true, Bool.false_eq_true]
        exact r3 p hp
      · simp (disch := omega) only [vc_brT, vc_brF, vc_anT, vc_brt, vc_brf, vc_ant, vn_n0, vn_in, vn_cl, vn_lt, vn_le, vn_eq, vn_sub, vn_div, vn_rem, vn_mod, vn_m1, vn_m1n, vn_m1p, nI_add, pk_mul, vc_sa_1, vc_sa_2, vc_sg_1, vc_sg_2, Nat.reduceEqDiff, Nat.reduceLeDiff, Nat.reduceAdd, Nat.reduceMul, Nat.reduceSub, Nat.not_lt_zero, Nat.add_left_cancel_iff, reduceIte, true_and, and_true, not_false_eq_true, not_true_eq_false, true_or, or_true, Bool.false_eq_true]
        exact hz x h1 h2
      · simp (disch := omega) only [vc_brT, vc_brF, vc_anT, vc_brt, vc_brf, vc_ant, vn_n0, vn_in, vn_cl, vn_lt, vn_le, vn_eq, vn_sub, vn_div, vn_rem, vn_mod, vn_m1, vn_m1n, vn_m1p, nI_add, pk_mul, vc_sa_1, vc_sa_2, vc_sg_1, vc_sg_2, Nat.reduceEqDiff, Nat.reduceLeDiff, Nat.reduceAdd, Nat.reduceMul, Nat.reduceSub, Nat.not_lt_zero, Nat.add_left_cancel_iff, reduceIte, true_and, and_true, not_false_eq_true, not_true_eq_false, true_or, or_true, Bool.false_eq_true]
        show _ = vE ((yRun P S d).1 p)
        rw [pk_cpy_in (by omega) (by omega), show d * 16 + (16 * (d + 1) + p - (d + 1) * 16) = 16 * d + p by omega]
        exact w1 p hp
      · simp (disch := omega) only [vc_brT, vc_brF, vc_anT, vc_brt, vc_brf, vc_ant, vn_n0, vn_in, vn_cl, vn_lt, vn_le, vn_eq, vn_sub, vn_div, vn_rem, vn_mod, vn_m1, vn_m1n, vn_m1p, nI_add, pk_mul, vc_sa_1, vc_sa_2, vc_sg_1, vc_sg_2, Nat.reduceEqDiff, Nat.reduceLeDiff, Nat.reduceAdd, Nat.reduceMul, Nat.reduceSub, Nat.not_lt_zero, Nat.add_left_cancel_iff, reduceIte, true_and, and_true, not_false_eq_true, not_true_eq_false, true_or, or_true, Bool.false_eq_true]
        rw [pk_cpy_in (by omega) (by omega), show d * 24 + (24 * (d + 1) + q - (d + 1) * 24) = 24 * d + q by omega]
        exact (k1 q hq).1
      · simp (disch := omega) only [vc_brT, vc_brF, vc_anT, vc_brt, vc_brf, vc_ant, vn_n0, vn_in, vn_cl, vn_lt, vn_le, vn_eq, vn_sub, vn_div, vn_rem, vn_mod, vn_m1, vn_m1n, vn_m1p, nI_add, pk_mul, vc_sa_1, vc_sa_2, vc_sg_1, vc_sg_2, Nat.reduceEqDiff, Nat.reduceLeDiff, Nat.reduceAdd, Nat.reduceMul, Nat.reduceSub, Nat.not_lt_zero, Nat.add_left_cancel_iff, reduceIte, true_and, and_true, not_false_eq_true, not_true_eq_false, true_or, or_true, Bool.false_eq_true]
        rw [pk_cpy_in (by omega) (by omega), show d * 8 + (8 * (d + 1) + k - (d + 1) * 8) = 8 * d + k by omega]
        exact m1 k hk
  refine vc_C_of (ls0 := [some (.ref o), some (.ref c), some (.int dn), none, none]) hk_21 (Nat.le_of_ble_eq_true rfl) rfl ?_
  refine g_21_0 ?_
  simp only [vc_wi, vc_li, vc_ll, vc_lr, vc_i1, vc_i2, vc_l1, vc_l2, vc_il, vc_r1, vc_ri, vc_rii, vc_rx, vc_cp, vc_s1, vc_s2, vc_fg, vc_cm, vc_ald, vc_bld, vc_ast, vc_bst, vc_len, vc_gf, vc_pf, vc_cpy, vc_ct, List.getElem?_cons_zero, List.getElem?_cons_succ, List.set_cons_zero, List.set_cons_succ, List.take_succ_cons, List.take_zero, List.drop_succ_cons, List.drop_zero, List.reverse_cons, List.reverse_nil, List.nil_append, List.cons_append, Option.toList_some, Option.toList_none, List.map_cons, List.map_nil, List.sum_cons, List.sum_nil, List.length_cons, List.length_nil, Value.category, Nat.reduceEqDiff, Nat.reduceLeDiff, Nat.reduceAdd, reduceIte, true_and, and_true, B_21_0, rt_21, ly]
  try simp (disch := omega) only [vc_brT, vc_brF, vc_anT, vc_brt, vc_brf, vc_ant, vn_n0, vn_in, vn_cl, vn_lt, vn_le, vn_eq, vn_sub, vn_div, vn_rem, vn_mod, vn_m1, vn_m1n, vn_m1p, nI_add, pk_mul, vc_sa_1, vc_sa_2, vc_sg_1, vc_sg_2, Nat.reduceEqDiff, Nat.reduceLeDiff, Nat.reduceAdd, Nat.reduceMul, Nat.reduceSub, Nat.not_lt_zero, Nat.add_left_cancel_iff, reduceIte, true_and, and_true, not_false_eq_true, not_true_eq_false, true_or, or_true, Bool.false_eq_true]
  refine ct_fill (n := 240) ly.2.2.2.2.2.2.2.2.2.2.2.2.2.2.1 (by omega) (by omega) ?_
  simp only [vc_wi, vc_li, vc_ll, vc_lr, vc_i1, vc_i2, vc_l1, vc_l2, vc_il, vc_r1, vc_ri, vc_rii, vc_rx, vc_cp, vc_s1, vc_s2, vc_fg, vc_cm, vc_ald, vc_bld, vc_ast, vc_bst, vc_len, vc_gf, vc_pf, vc_cpy, vc_ct, List.getElem?_cons_zero, List.getElem?_cons_succ, List.set_cons_zero, List.set_cons_succ, List.take_succ_cons, List.take_zero, List.drop_succ_cons, List.drop_zero, List.reverse_cons, List.reverse_nil, List.nil_append, List.cons_append, Option.toList_some, Option.toList_none, List.map_cons, List.map_nil, List.sum_cons, List.sum_nil, List.length_cons, List.length_nil, Value.category, Nat.reduceEqDiff, Nat.reduceLeDiff, Nat.reduceAdd, reduceIte, true_and, and_true, rt_21, ly]
  try simp (disch := omega) only [vc_brT, vc_brF, vc_anT, vc_brt, vc_brf, vc_ant, vn_n0, vn_in, vn_cl, vn_lt, vn_le, vn_eq, vn_sub, vn_div, vn_rem, vn_mod, vn_m1, vn_m1n, vn_m1p, nI_add, pk_mul, vc_sa_1, vc_sa_2, vc_sg_1, vc_sg_2, Nat.reduceEqDiff, Nat.reduceLeDiff, Nat.reduceAdd, Nat.reduceMul, Nat.reduceSub, Nat.not_lt_zero, Nat.add_left_cancel_iff, reduceIte, true_and, and_true, not_false_eq_true, not_true_eq_false, true_or, or_true, Bool.false_eq_true]
  refine lp 30 0 _ (by omega) (vc_fr.rf.sa (by simp)) ⟨fun e he => ?_, fun e he k hk => ?_, fun p hp => ?_⟩ (fun i h1 h2 => ?_) _
  · have e0 : e = 0 := by omega
    subst e0
    refine ⟨fun p hp => ?_, fun q hq => ?_, fun k hk => ?_⟩
    · simp (disch := omega) only [vc_brT, vc_brF, vc_anT, vc_brt, vc_brf, vc_ant, vn_n0, vn_in, vn_cl, vn_lt, vn_le, vn_eq, vn_sub, vn_div, vn_rem, vn_mod, vn_m1, vn_m1n, vn_m1p, nI_add, pk_mul, vc_sa_1, vc_sa_2, vc_sg_1, vc_sg_2, Nat.reduceEqDiff, Nat.reduceLeDiff, Nat.reduceAdd, Nat.reduceMul, Nat.reduceSub, Nat.not_lt_zero, Nat.add_left_cancel_iff, reduceIte, true_and, and_true, not_false_eq_true, not_true_eq_false, true_or, or_true, Bool.false_eq_true]
      exact hw p hp
    · simp (disch := omega) only [vc_brT, vc_brF, vc_anT, vc_brt, vc_brf, vc_ant, vn_n0, vn_in, vn_cl, vn_lt, vn_le, vn_eq, vn_sub, vn_div, vn_rem, vn_mod, vn_m1, vn_m1n, vn_m1p, nI_add, pk_mul, vc_sa_1, vc_sa_2, vc_sg_1, vc_sg_2, Nat.reduceEqDiff, Nat.reduceLeDiff, Nat.reduceAdd, Nat.reduceMul, Nat.reduceSub, Nat.not_lt_zero, Nat.add_left_cancel_iff, reduceIte, true_and, and_true, not_false_eq_true, not_true_eq_false, true_or, or_true, Bool.false_eq_true]
      exact hkn q hq
    · simp (disch := omega) only [vc_brT, vc_brF, vc_anT, vc_brt, vc_brf, vc_ant, vn_n0, vn_in, vn_cl, vn_lt, vn_le, vn_eq, vn_sub, vn_div, vn_rem, vn_mod, vn_m1, vn_m1n, vn_m1p, nI_add, pk_mul, vc_sa_1, vc_sa_2, vc_sg_1, vc_sg_2, Nat.reduceEqDiff, Nat.reduceLeDiff, Nat.reduceAdd, Nat.reduceMul, Nat.reduceSub, Nat.not_lt_zero, Nat.add_left_cancel_iff, reduceIte, true_and, and_true, not_false_eq_true, not_true_eq_false, true_or, or_true, Bool.false_eq_true, Nat.zero_add]
      exact hmk k hk
  · omega
  · simp (disch := omega) only [vc_brT, vc_brF, vc_anT, vc_brt, vc_brf, vc_ant, vn_n0, vn_in, vn_cl, vn_lt, vn_le, vn_eq, vn_sub, vn_div, vn_rem, vn_mod, vn_m1, vn_m1n, vn_m1p, nI_add, pk_mul, vc_sa_1, vc_sa_2, vc_sg_1, vc_sg_2, Nat.reduceEqDiff, Nat.reduceLeDiff, Nat.reduceAdd, Nat.reduceMul, Nat.reduceSub, Nat.not_lt_zero, Nat.add_left_cancel_iff, reduceIte, true_and, and_true, not_false_eq_true, not_true_eq_false, true_or, or_true, Bool.false_eq_true]
    exact hgh p hp
  · simp (disch := omega) only [vc_brT, vc_brF, vc_anT, vc_brt, vc_brf, vc_ant, vn_n0, vn_in, vn_cl, vn_lt, vn_le, vn_eq, vn_sub, vn_div, vn_rem, vn_mod, vn_m1, vn_m1n, vn_m1p, nI_add, pk_mul, vc_sa_1, vc_sa_2, vc_sg_1, vc_sg_2, Nat.reduceEqDiff, Nat.reduceLeDiff, Nat.reduceAdd, Nat.reduceMul, Nat.reduceSub, Nat.not_lt_zero, Nat.add_left_cancel_iff, reduceIte, true_and, and_true, not_false_eq_true, not_true_eq_false, true_or, or_true, Bool.false_eq_true]
    rw [if_pos h2]
