/-! digest: what it is; x's calls, told by numbers -/
def mx (h v : Int64) : Int64 := 31 * h + v
def dFo (g : Int64 → Nat → Int64) : Nat → Int64 → Int64
  | 0, h => h
  | i + 1, h => g (dFo g i h) i
def zFaN (T : zT) (w : Nat) : Int32 := if nI w = nI 0 then vE (bFault (zt T) (ztn T)) else vE (nFault (zu T) (zun T))
def dSeat (T : zT) (h : Int64) (p : Nat) : Int64 := mx (mx (mx (mx (mx h (zSeatN T p 0).toInt64) (zSeatN T p 1).toInt64) (vE ((zY T (6 + 1)).1 p)).toInt64) (vE ((zY T (29 + 1)).1 p)).toInt64) (nI ((zY T 30).2.2.2.1 p)).toInt64
def dAt (T : zT) (d k : Nat) (h : Int64) : Int64 := dFo (fun h w => mx h (zAtN T d k w).toInt64) 3 h
def dDays (T : zT) (k : Nat) (h : Int64) : Int64 := dAt T 29 k (dAt T 8 k (dAt T 0 k (dFo (fun h w => mx h (zBoyN T k w).toInt64) 4 h)))
def dSub (T : zT) (k : Nat) (h : Int64) : Int64 := dFo (fun h j => mx (mx (mx (mx h (zKnowsN T 8 k j).toInt64) (zKnowsN T 29 k j).toInt64) (zFiB T (3 * k + j)).toInt64) (zAkN T (3 * k + j)).toInt64) 3 h
def dCha (T : zT) (k : Nat) (h : Int64) : Int64 := mx (mx (mx (mx (mx h (zSitN T k 0).toInt64) (zSitN T k 1).toInt64) (zSrN T k).toInt64) (zLuN T 5 k 0)) (zLuN T 5 k 1)
def dBoy (T : zT) (h : Int64) (k : Nat) : Int64 := dCha T k (dSub T k (dDays T k h))
def dO (i : Nat) : Option Nat := if i = 0 then none else some (i - 1)
def dPlan (T : zT) (h : Int64) : Int64 := dFo (fun h i => mx h (zTaN T (dO i)).toInt64) 4 (mx (mx (dFo (fun h w => mx h (zTrN T 8 w).toInt64) 3 h) (zRuN T 0).toInt64) (zRuN T 1).toInt64)
def dEnd (T : zT) (h : Int64) : Int64 := mx (mx (mx (mx (mx h (zSpN T none).toInt64) (zSpN T (some 0)).toInt64) (zNev T).toInt64) (zYrN T (nI 7) 6 0).toInt64) (zYrN T (nI 7) 6 1).toInt64
def dMid (T : zT) (h : Int64) : Int64 := mx (mx (mx (dFo (fun h w => mx h (zMstO w (zFst T)).toInt64) 3 h) (zBest T).toInt64) (zForm T).toInt64) (zIdle T).toInt64
def dTop (T : zT) : Int64 := mx (mx (dFo (fun h w => mx h (zCntN T w).toInt64) 8 17) (zFaN T 0).toInt64) (zFaN T 1).toInt64
def zDig (T : zT) : Int64 := dEnd T (dPlan T (dMid T (dFo (dBoy T) (zn T) (dFo (dSeat T) (zs T) (dTop T)))))
theorem dFo_s (g : Int64 → Nat → Int64) (i : Nat) (h : Int64) : dFo g (i + 1) h = g (dFo g i h) i := rfl
set_option maxHeartbeats 400000 in
set_option maxRecDepth 100000 in
theorem ct_mix {K : vc_K} {a b : Int64} {σ : vc_S} {Q : Option Value → vc_S → Prop} (h : Q (some (.long (mx a b))) σ) : vc_C K 85 [.long a, .long b] σ Q := by
  refine vc_C_of (ls0 := [some (.long a), none, some (.long b), none]) hk_85 (Nat.le_of_ble_eq_true rfl) rfl ?_
  refine g_85_0 ?_
  simp only [vc_wi, vc_li, vc_ll, vc_lr, vc_i1, vc_i2, vc_l1, vc_l2, vc_il, vc_r1, vc_ri, vc_rii, vc_rx, vc_cp, vc_s1, vc_s2, vc_fg, vc_cm, vc_ald, vc_bld, vc_ast, vc_bst, vc_len, vc_gf, vc_pf, vc_cpy, vc_ct, List.getElem?_cons_zero, List.getElem?_cons_succ, List.set_cons_zero, List.set_cons_succ, List.take_succ_cons, List.take_zero, List.drop_succ_cons, List.drop_zero, List.reverse_cons, List.reverse_nil, List.nil_append, List.cons_append, Option.toList_some, Option.toList_none, List.map_cons, List.map_nil, List.sum_cons, List.sum_nil, List.length_cons, List.length_nil, Value.category, Nat.reduceEqDiff, Nat.reduceLeDiff, Nat.reduceAdd, reduceIte, true_and, and_true, B_85_0, rt_85, cls_0, fld_0_0, fld_0_1, fld_0_2, fld_0_3, fld_0_4, fld_0_5, fld_0_6, fld_0_7, fld_0_8, fld_0_9, fld_0_10, fld_0_11, fld_0_12, fld_0_13, fld_0_14, fld_0_15, fld_0_16, fld_0_17, fld_0_18, cls_1, fld_1_0, fld_1_1, arr_2, cls_3, fld_3_0, fld_3_1, arr_4, cls_5, fld_5_0, fld_5_1, fld_5_2, fld_5_3, arr_6, arr_7, cls_8, fld_8_0, fld_8_1, fld_8_2, fld_8_3, arr_9, arr_10, cls_11, fld_11_0, fld_11_1, fld_11_2, fld_11_3, arr_12, arr_13, arr_14, cls_15, fld_15_0, fld_15_1, fld_15_2, fld_15_3, fld_15_4, arr_16, arr_17, arr_18, arr_19, lay_20, cls_21, fld_21_0, fld_21_1, fld_21_2, fld_21_3, arr_22, cls_23, fld_23_0, fld_23_1, fld_23_2, fld_23_3, arr_24, cls_25, fld_25_0, fld_25_1, fld_25_2, fld_25_3, arr_26, cls_27, fld_27_0, fld_27_1, fld_27_2, fld_27_3, arr_28, cls_47, fld_47_0, fld_47_1, fld_47_2, fld_47_3, arr_48, arr_49, arr_50, cls_51, fld_51_0, cls_52, fld_52_0, fld_52_1, arr_53, arr_54, arr_55, arr_56]
  try simp (disch := omega) only [vc_brT, vc_brF, vc_anT, vc_brt, vc_brf, vc_ant, vn_n0, vn_in, vn_cl, vn_lt, vn_le, vn_eq, vn_sub, vn_div, vn_rem, vn_mod, vn_m1, vn_m1n, vn_m1p, nI_add, pk_mul, vc_sa_1, vc_sa_2, vc_sg_1, vc_sg_2, Nat.reduceEqDiff, Nat.reduceLeDiff, Nat.reduceAdd, Nat.reduceMul, Nat.reduceSub, Nat.not_lt_zero, Nat.add_left_cancel_iff, reduceIte, true_and, and_true, not_false_eq_true, not_true_eq_false, true_or, or_true, Bool.false_eq_true]
  exact h

theorem zSeat_n {T : zT} {p w : Nat} (hT : zOk T) (hp : p < zs T) (hw : w < 2) : zSeat T (nI p) (nI w) = zSeatN T p w := by
  have hn8 := zn_le hT
  have hs16 := zs_le T
  unfold zSeat
  rw [zlt_nI (by omega) (by omega), zlt_nI (by omega) (by omega), decide_eq_true hp, decide_eq_true hw, vn_cl (by omega), vn_cl (by omega)]
  exact if_pos rfl
theorem dx_seat {K : vc_K} {T : zT} {p w : Nat} {σ : vc_S} {Q : Option Value → vc_S → Prop} (hT : zOk T) (hI : xI σ T) (hp : p < zs T) (hw : w < 2) (h : Q (some (.int (zSeatN T p w))) σ) : vc_C K 46 [.ref 0, .int (nI p), .int (nI w)] σ Q := cx_seat hT hI (by rw [zSeat_n hT hp hw]; exact h)
theorem zBoy_n {T : zT} {p w : Nat} (hT : zOk T) (hp : p < zn T) (hw : w < 4) : zBoy T (nI p) (nI w) = zBoyN T p w := by
  have hn8 := zn_le hT
  have hs16 := zs_le T
  unfold zBoy
  rw [zlt_nI (by omega) (by omega), zlt_nI (by omega) (by omega), decide_eq_true hp, decide_eq_true hw, vn_cl (by omega), vn_cl (by omega)]
  exact if_pos rfl
theorem dx_boy {K : vc_K} {T : zT} {p w : Nat} {σ : vc_S} {Q : Option Value → vc_S → Prop} (hT : zOk T) (hI : xI σ T) (hp : p < zn T) (hw : w < 4) (h : Q (some (.int (zBoyN T p w))) σ) : vc_C K 45 [.ref 0, .int (nI p), .int (nI w)] σ Q := cx_boy hT hI (by rw [zBoy_n hT hp hw]; exact h)
theorem zSits_n {T : zT} {d p : Nat} (hT : zOk T) (hd : d < 30) (hp : p < zs T) : zSits T (nI d) (nI p) = vE ((zY T (d + 1)).1 p) := by
  have hn8 := zn_le hT
  have hs16 := zs_le T
  unfold zSits
  rw [zlt_nI (by omega) (by omega), zlt_nI (by omega) (by omega), decide_eq_true hd, decide_eq_true hp, vn_cl (by omega), vn_cl (by omega)]
  exact if_pos rfl
theorem dx_sits {K : vc_K} {T : zT} {d p : Nat} {σ : vc_S} {Q : Option Value → vc_S → Prop} (hT : zOk T) (hI : xI σ T) (hd : d < 30) (hp : p < zs T) (h : ∀ τ, xI τ T → xM σ τ → Q (some (.int (vE ((zY T (d + 1)).1 p)))) τ) : vc_C K 53 [.ref 0, .int (nI d), .int (nI p)] σ Q := cx_sits hT hI (by rw [zSits_n hT hd hp]; exact h)
theorem zGhost_n {T : zT} {p : Nat} (hT : zOk T) (hp : p < zs T) : zGhost T (nI p) = nI ((zY T 30).2.2.2.1 p) := by
  have hn8 := zn_le hT
  have hs16 := zs_le T
  unfold zGhost
  rw [zlt_nI (by omega) (by omega), decide_eq_true hp, vn_cl (by omega)]
  exact if_pos rfl
theorem dx_ghost {K : vc_K} {T : zT} {p : Nat} {σ : vc_S} {Q : Option Value → vc_S → Prop} (hT : zOk T) (hI : xI σ T) (hp : p < zs T) (h : ∀ τ, xI τ T → xM σ τ → Q (some (.int (nI ((zY T 30).2.2.2.1 p)))) τ) : vc_C K 54 [.ref 0, .int (nI p)] σ Q := cx_ghost hT hI (by rw [zGhost_n hT hp]; exact h)
theorem zAt_n {T : zT} {d p w : Nat} (hT : zOk T) (hd : d < 30) (hp : p < zn T) (hw : w < 3) : zAt T (nI d) (nI p) (nI w) = zAtN T d p w := by
  have hn8 := zn_le hT
  have hs16 := zs_le T
  unfold zAt
  rw [zlt_nI (by omega) (by omega), zlt_nI (by omega) (by omega), zlt_nI (by omega) (by omega), decide_eq_true hd, decide_eq_true hp, decide_eq_true hw, vn_cl (by omega), vn_cl (by omega), vn_cl (by omega)]
  exact if_pos rfl
theorem dx_at {K : vc_K} {T : zT} {d p w : Nat} {σ : vc_S} {Q : Option Value → vc_S → Prop} (hT : zOk T) (hI : xI σ T) (hd : d < 30) (hp : p < zn T) (hw : w < 3) (h : ∀ τ, xI τ T → xM σ τ → Q (some (.int (zAtN T d p w))) τ) : vc_C K 51 [.ref 0, .int (nI d), .int (nI p), .int (nI w)] σ Q := cx_at hT hI (by rw [zAt_n hT hd hp hw]; exact h)
theorem zKnows_n {T : zT} {d p w : Nat} (hT : zOk T) (hd : d < 30) (hp : p < zn T) (hw : w < 3) : zKnows T (nI d) (nI p) (nI w) = zKnowsN T d p w := by
  have hn8 := zn_le hT
  have hs16 := zs_le T
  unfold zKnows
  rw [zlt_nI (by omega) (by omega), zlt_nI (by omega) (by omega), zlt_nI (by omega) (by omega), decide_eq_true hd, decide_eq_true hp, decide_eq_true hw, vn_cl (by omega), vn_cl (by omega), vn_cl (by omega)]
  exact if_pos rfl
theorem dx_knows {K : vc_K} {T : zT} {d p w : Nat} {σ : vc_S} {Q : Option Value → vc_S → Prop} (hT : zOk T) (hI : xI σ T) (hd : d < 30) (hp : p < zn T) (hw : w < 3) (h : ∀ τ, xI τ T → xM σ τ → Q (some (.int (zKnowsN T d p w))) τ) : vc_C K 52 [.ref 0, .int (nI d), .int (nI p), .int (nI w)] σ Q := cx_knows hT hI (by rw [zKnows_n hT hd hp hw]; exact h)
theorem zFst1_n {T : zT} {p w : Nat} (hT : zOk T) (hp : p < zn T) (hw : w < 3) : zFst1 T (nI p) (nI w) = zFiB T (3 * p + w) := by
  have hn8 := zn_le hT
  have hs16 := zs_le T
  unfold zFst1
  rw [zlt_nI (by omega) (by omega), zlt_nI (by omega) (by omega), decide_eq_true hp, decide_eq_true hw, vn_cl (by omega), vn_cl (by omega)]
  exact if_pos rfl
theorem dx_first {K : vc_K} {T : zT} {p w : Nat} {σ : vc_S} {Q : Option Value → vc_S → Prop} (hT : zOk T) (hI : xI σ T) (hp : p < zn T) (hw : w < 3) (h : ∀ τ, xI τ T → xM σ τ → Q (some (.int (zFiB T (3 * p + w)))) τ) : vc_C K 68 [.ref 0, .int (nI p), .int (nI w)] σ Q := cx_first hT hI (by rw [zFst1_n hT hp hw]; exact h)
theorem zAk_n {T : zT} {p w : Nat} (hT : zOk T) (hp : p < zn T) (hw : w < 3) : zAk T (nI p) (nI w) = zAkN T (3 * p + w) := by
  have hn8 := zn_le hT
  have hs16 := zs_le T
  unfold zAk
  rw [zlt_nI (by omega) (by omega), zlt_nI (by omega) (by omega), decide_eq_true hp, decide_eq_true hw, vn_cl (by omega), vn_cl (by omega)]
  exact if_pos rfl
theorem dx_ask {K : vc_K} {T : zT} {p w : Nat} {σ : vc_S} {Q : Option Value → vc_S → Prop} (hT : zOk T) (hI : xI σ T) (hp : p < zn T) (hw : w < 3) (h : ∀ τ, xI τ T → xM σ τ → Q (some (.int (zAkN T (3 * p + w)))) τ) : vc_C K 69 [.ref 0, .int (nI p), .int (nI w)] σ Q := cx_ask hT hI (by rw [zAk_n hT hp hw]; exact h)
theorem zSit_n {T : zT} {p w : Nat} (hT : zOk T) (hp : p < zn T) (hw : w < 2) : zSit T (nI p) (nI w) = zSitN T p w := by
  have hn8 := zn_le hT
  have hs16 := zs_le T
  unfold zSit
  rw [zlt_nI (by omega) (by omega), zlt_nI (by omega) (by omega), decide_eq_true hp, decide_eq_true hw, vn_cl (by omega), vn_cl (by omega)]
  exact if_pos rfl
theorem dx_sit {K : vc_K} {T : zT} {p w : Nat} {σ : vc_S} {Q : Option Value → vc_S → Prop} (hT : zOk T) (hI : xI σ T) (hp : p < zn T) (hw : w < 2) (h : ∀ τ, xI τ T → xM σ τ → Q (some (.int (zSitN T p w))) τ) : vc_C K 59 [.ref 0, .int (nI p), .int (nI w)] σ Q := cx_sit hT hI (by rw [zSit_n hT hp hw]; exact h)
theorem zSrt_n {T : zT} {p : Nat} (hT : zOk T) (hp : p < zn T) : zSrt T (nI p) = zSrN T p := by
  have hn8 := zn_le hT
  have hs16 := zs_le T
  unfold zSrt
  rw [zlt_nI (by omega) (by omega), decide_eq_true hp, vn_cl (by omega)]
  exact if_pos rfl
theorem dx_sort {K : vc_K} {T : zT} {p : Nat} {σ : vc_S} {Q : Option Value → vc_S → Prop} (hT : zOk T) (hI : xI σ T) (hp : p < zn T) (h : ∀ τ, xI τ T → xM σ τ → Q (some (.int (zSrN T p))) τ) : vc_C K 67 [.ref 0, .int (nI p)] σ Q := cx_sort hT hI (by rw [zSrt_n hT hp]; exact h)
theorem zLuk_n {T : zT} {c p w : Nat} (hT : zOk T) (hc : c < 17) (hp : p < zn T) (hw : w < 2) : zLuk T (nI c) (nI p) (nI w) = zLuN T c p w := by
  have hn8 := zn_le hT
  have hs16 := zs_le T
  unfold zLuk
  rw [zlt_nI (by omega) (by omega), zlt_nI (by omega) (by omega), zlt_nI (by omega) (by omega), decide_eq_true hc, decide_eq_true hp, decide_eq_true hw, vn_cl (by omega), vn_cl (by omega), vn_cl (by omega)]
  exact if_pos rfl
theorem dx_luck {K : vc_K} {T : zT} {c p w : Nat} {σ : vc_S} {Q : Option Value → vc_S → Prop} (hT : zOk T) (hI : xI σ T) (hc : c < 17) (hp : p < zn T) (hw : w < 2) (h : ∀ τ, xI τ T → xM σ τ → Q (some (.long (zLuN T c p w))) τ) : vc_C K 70 [.ref 0, .int (nI c), .int (nI p), .int (nI w)] σ Q := cx_luck hT hI (by rw [zLuk_n hT hc hp hw]; exact h)
theorem zTrd_n {T : zT} {d w : Nat} (hT : zOk T) (hd : d < 30) (hw : w < 3) : zTrd T (nI d) (nI w) = zTrN T d w := by
  have hn8 := zn_le hT
  have hs16 := zs_le T
  unfold zTrd
  rw [zlt_nI (by omega) (by omega), zlt_nI (by omega) (by omega), decide_eq_true hd, decide_eq_true hw, vn_cl (by omega), vn_cl (by omega)]
  exact if_pos rfl
theorem dx_trade {K : vc_K} {T : zT} {d w : Nat} {σ : vc_S} {Q : Option Value → vc_S → Prop} (hT : zOk T) (hI : xI σ T) (hd : d < 30) (hw : w < 3) (h : ∀ τ, xI τ T → xM σ τ → Q (some (.int (zTrN T d w))) τ) : vc_C K 60 [.ref 0, .int (nI d), .int (nI w)] σ Q := cx_trade hT hI (by rw [zTrd_n hT hd hw]; exact h)
theorem zRus_n {T : zT} {w : Nat} (hT : zOk T) (hw : w < 2) : zRus T (nI w) = zRuN T w := by
  have hn8 := zn_le hT
  have hs16 := zs_le T
  unfold zRus
  rw [zlt_nI (by omega) (by omega), decide_eq_true hw, vn_cl (by omega)]
  exact if_pos rfl
theorem dx_rush {K : vc_K} {T : zT} {w : Nat} {σ : vc_S} {Q : Option Value → vc_S → Prop} (hT : zOk T) (hI : xI σ T) (hw : w < 2) (h : ∀ τ, xI τ T → xM σ τ → Q (some (.int (zRuN T w))) τ) : vc_C K 61 [.ref 0, .int (nI w)] σ Q := cx_rush hT hI (by rw [zRus_n hT hw]; exact h)
theorem zMst_n {T : zT} {w : Nat} (hT : zOk T) (hw : w < 3) : zMst T (nI w) = zMstO w (zFst T) := by
  have hn8 := zn_le hT
  have hs16 := zs_le T
  unfold zMst
  rw [zlt_nI (by omega) (by omega), decide_eq_true hw, vn_cl (by omega)]
  exact if_pos rfl
theorem dx_master {K : vc_K} {T : zT} {w : Nat} {σ : vc_S} {Q : Option Value → vc_S → Prop} (hT : zOk T) (hI : xI σ T) (hw : w < 3) (h : ∀ τ, xI τ T → xM σ τ → Q (some (.int (zMstO w (zFst T)))) τ) : vc_C K 55 [.ref 0, .int (nI w)] σ Q := cx_master hT hI (by rw [zMst_n hT hw]; exact h)
theorem zCnt_n {T : zT} {w : Nat} (hT : zOk T) (hw : w < 9) : zCnt T (nI w) = zCntN T w := by
  have hn8 := zn_le hT
  have hs16 := zs_le T
  unfold zCnt
  rw [zlt_nI (by omega) (by omega), decide_eq_true hw, vn_cl (by omega)]
  exact if_pos rfl
theorem dx_count {K : vc_K} {T : zT} {w : Nat} {σ : vc_S} {Q : Option Value → vc_S → Prop} (hT : zOk T) (hI : xI σ T) (hw : w < 9) (h : ∀ τ, xI τ T → xM σ τ → Q (some (.int (zCntN T w))) τ) : vc_C K 78 [.ref 0, .int (nI w)] σ Q := cx_count hT hI (by rw [zCnt_n hT hw]; exact h)
theorem dx_fault {K : vc_K} {T : zT} {w : Nat} {σ : vc_S} {Q : Option Value → vc_S → Prop} (hT : zOk T) (hI : xI σ T) (hw : w < 2) (h : Q (some (.int (zFaN T w))) σ) : vc_C K 44 [.ref 0, .int (nI w)] σ Q := cx_fault hT hI (by
  unfold zFault
  rw [zlt_nI (by omega) (by omega), decide_eq_true hw]
  exact h)
theorem dx_table {K : vc_K} {T : zT} {w : Option Nat} {σ : vc_S} {Q : Option Value → vc_S → Prop} (hT : zOk T) (hI : xI σ T) (hw : ∀ j, w = some j → j < 3) (h : ∀ τ, xI τ T → xM σ τ → Q (some (.int (zTaN T w))) τ) : vc_C K 62 [.ref 0, .int (vE w)] σ Q := cx_table hT hI (by
  have e : zTab T (vE w) = zTaN T w := by
    unfold zTab
    cases w with
    | none => exact if_pos rfl
    | some j =>
      have hj := hw j rfl
      rw [vE_s, if_neg (nI_ne j (by omega)), zlt_nI (by omega) (by omega), decide_eq_true hj, vn_cl (by omega)]
      exact if_pos rfl
  rw [e]
  exact h)
theorem dx_spare {K : vc_K} {T : zT} {w : Option Nat} {σ : vc_S} {Q : Option Value → vc_S → Prop} (hT : zOk T) (hI : xI σ T) (hw : ∀ j, w = some j → j < 2) (h : ∀ τ, xI τ T → xM σ τ → Q (some (.int (zSpN T w))) τ) : vc_C K 63 [.ref 0, .int (vE w)] σ Q := cx_spare hT hI (by
  have e : zSpa T (vE w) = zSpN T w := by
    unfold zSpa
    cases w with
    | none => exact if_pos rfl
    | some j =>
      have hj := hw j rfl
      rw [vE_s, if_neg (nI_ne j (by omega)), zlt_nI (by omega) (by omega), decide_eq_true hj, vn_cl (by omega)]
      exact if_pos rfl
  rw [e]
  exact h)
theorem dx_years {K : vc_K} {T : zT} {s : Int32} {n w : Nat} {σ : vc_S} {Q : Option Value → vc_S → Prop} (hT : zOk T) (hI : xI σ T) (hn : n < 9) (hw : w < 2) (h : ∀ τ, xI τ T → xM σ τ → Q (some (.int (zYrN T s n w))) τ) : vc_C K 71 [.ref 0, .int s, .int (nI n), .int (nI w)] σ Q := cx_years hT hI (by
  have e : zYr T s (nI n) (nI w) = zYrN T s n w := by
    unfold zYr
    rw [zlt_nI (by omega) (by omega), zlt_nI (by omega) (by omega), decide_eq_true hn, decide_eq_true hw, vn_cl (by omega), vn_cl (by omega)]
    exact if_pos rfl
  rw [e]
  exact h)
