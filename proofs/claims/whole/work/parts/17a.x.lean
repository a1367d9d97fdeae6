/-! x's cells hold the state; its caches are right. -/
-- ===== what plans answer =====
def zUp {α : Type} (o : Option (α × Nat)) (x : α) (v : Nat) : Option (α × Nat) := match o with
  | none => some (x, v)
  | some r => if r.2 < v then some (x, v) else some r
def zLo (o : Option (Nat × Nat)) (x v : Nat) : Option (Nat × Nat) := match o with
  | none => some (x, v)
  | some r => if v < r.2 then some (x, v) else some r
def zSq (g : Nat → Nat) : Nat → Nat → Option (Nat × Nat) → Option (Nat × Nat)
  | _, 0, o => o
  | p, m + 1, o => zSq g (p + 1) m (zUp o p (g p))
def zMn (g : Nat → Nat) : Nat → Nat → Option (Nat × Nat) → Option (Nat × Nat)
  | _, 0, o => o
  | p, m + 1, o => zMn g (p + 1) m (zLo o p (g p))
def zIn (g : Nat → Nat → Nat) (a : Nat) : Nat → Nat → Option ((Nat × Nat) × Nat) → Option ((Nat × Nat) × Nat)
  | _, 0, o => o
  | b, m + 1, o => zIn g a (b + 1) m (zUp o (a, b) (g a b))
def zOu (g : Nat → Nat → Nat) (s : Nat) : Nat → Nat → Option ((Nat × Nat) × Nat) → Option ((Nat × Nat) × Nat)
  | _, 0, o => o
  | a, m + 1, o => zOu g s (a + 1) m (zIn g a (a + 1) (s - (a + 1)) o)
def zFi (c : Nat → Bool) : Nat → Nat → Option Nat
  | _, 0 => none
  | b, m + 1 => if c b then some b else zFi c (b + 1) m
def zFo (c : Nat → Nat → Bool) (n : Nat) : Nat → Nat → Option (Nat × Nat)
  | _, 0 => none
  | a, m + 1 => match zFi (c a) (a + 1) (n - (a + 1)) with
    | some b => some (a, b)
    | none => zFo c n (a + 1) m
def zAllB (c : Nat → Bool) : Nat → Bool
  | 0 => true
  | k + 1 => zAllB c k && c k
/-- bits of those that are so -/
def zBt (c : Nat → Bool) : Nat → Int32
  | 0 => nI 0
  | i + 1 => if c i then zBt c i ||| (nI 1 <<< (nI i &&& 31)) else zBt c i
def zOwn (T : zT) (k : Nat) : Option Nat := yFind (zle T) k 0 (zs T)
-- sit
def zSwS (T : zT) (p q : Nat) : yS := mS0 (ySwap (zs T) (zW T) p q) (zfi T)
def zSwM (T : zT) (p q k : Nat) : Nat := (yRun (zP T zAll id) (zSwS T p q) 30).2.2.1 k
def zSitO (T : zT) (k own : Nat) : Option (Nat × Nat) := zSq (fun p => zSwM T own p k) 0 (zs T) none
-- trade
def zTrCh (T : zT) (d a b : Nat) : Nat → Nat × Nat × Nat := fun i => if i = zc T then (d, a, b) else zch' T i
def zTrP (T : zT) (d a b : Nat) : yP := (zn T, zso T, zs T, zbe T, zc T + 1, zTrCh T d a b, zAll, id)
def zTrG (T : zT) (d a b : Nat) : Nat := ySum (yRun (zTrP T d a b) (zS T) 30).2.1 (3 * zn T)
def zTrO (T : zT) (d : Nat) : Option ((Nat × Nat) × Nat) := zOu (zTrG T d) (zs T) 0 (zs T) none
-- rush
def zMkT (T : zT) (k : Nat) : Nat := (yRun (zP T zAll id) (zS T) 30).2.2.1 k
def zRuC (T : zT) (a b : Nat) : Bool := match zOwn T a, zOwn T b with
  | some p, some q => decide (zMkT T a < zSwM T p q a ∧ zMkT T b < zSwM T p q b)
  | _, _ => false
def zRuO (T : zT) : Option (Nat × Nat) := zFo (zRuC T) (zn T) 0 (zn T)
-- table
def zOrd (i j : Nat) : Nat := [0, 1, 2, 0, 2, 1, 1, 0, 2, 1, 2, 0, 2, 0, 1, 2, 1, 0].getD (3 * i + j) 0
def zTaG (T : zT) (i : Nat) : Nat := ySum (yRun (zP T zAll (zOrd i)) (zS T) 30).2.1 (3 * zn T)
def zTaO (T : zT) : Option (Nat × Nat) := zSq (zTaG T) 0 6 none
-- spare
def zNo1 (a : Nat) : Nat → Bool := fun i => decide (¬ i = a)
def zNo2 (a b : Nat) : Nat → Bool := fun i => decide (¬ i = a ∧ ¬ i = b)
def zIdl (T : zT) (dn : Nat → Bool) : Int32 := yIdle (fun d => (yRun (zP T dn id) (zS T) (d + 1)).2.2.2.2) (zn T)
def zSpI (T : zT) (dn : Nat → Bool) : Bool := zAllB (fun k => !(zOwn T k).isSome || !(bt (zIdl T dn) k)) (zn T)
def zSp1 (T : zT) : Option Nat := zFi (fun a => zSpI T (zNo1 a)) 0 (zc T)
def zSp2 (T : zT) : Option (Nat × Nat) := zFo (fun a b => zSpI T (zNo2 a b)) (zc T) 0 (zc T)
/-- how many, and which -/
def zSpO (T : zT) : Option (Nat × Option Nat × Option Nat) := if zSpI T zAll then some (0, none, none) else match zSp1 T with
  | some a => some (1, some a, none)
  | none => match zSp2 T with
    | some r => some (2, some r.1, some r.2)
    | none => none
def zSp0i (T : zT) : Int32 := vE ((zSpO T).map (fun r => r.1))
def zSp1i (T : zT) : Int32 := match zSpO T with
  | some r => vE r.2.1
  | none => -1
def zSp2i (T : zT) : Int32 := match zSpO T with
  | some r => vE r.2.2
  | none => -1
-- seen
def zAgr (T : zT) (P : yP) (S : yS) : Bool := zAllB (fun i => decide ((zse T i).2.1 < zn T) && decide ((yRun P S ((zse T i).1 + 1)).2.1 (3 * (zse T i).2.1 + (zse T i).2.2.1) = (zse T i).2.2.2)) (ze T)
-- first, ask
def zFiS (T : zT) (p v : Nat) : yS := mS0 (zW T) (fun q => if q = p then v else zfi T q)
def zFiC (T : zT) (p v : Nat) : Bool := zAgr T (zP T zAll id) (zFiS T p v)
def zFiB (T : zT) (p : Nat) : Int32 := zBt (zFiC T p) 10
def zFiA (T : zT) (p v d : Nat) : Nat := (yRun (zP T zAll id) (zFiS T p v) (d + 1)).2.1 p
def zCn (c : Nat → Bool) (A : Nat → Nat) (y : Nat) : Nat → Nat
  | 0 => 0
  | u + 1 => zCn c A y u + (if c u = true ∧ A u = y then 1 else 0)
def zGr (c : Nat → Bool) (A : Nat → Nat) : Nat → Nat
  | 0 => 0
  | u + 1 => if c u then max (zGr c A u) (zCn c A (A u) (u + 1)) else zGr c A u
def zAkO (T : zT) (p : Nat) : Option (Nat × Nat) := zMn (fun d => zGr (zFiC T p) (fun v => zFiA T p v d) 10) 0 30 none
-- luck
def zPc (m : Nat) : Nat → Nat
  | 0 => 0
  | i + 1 => zPc m i + (if m.testBit i then 1 else 0)
def zBs (T : zT) (m : Nat) : Option Nat := yBest (yRun (zP T (fun i => m.testBit i) id) (zS T) 30).2.2.1 (zn T)
def zWy (T : zT) (k d : Nat) : Nat → Nat
  | 0 => 0
  | m + 1 => zWy T k d m + (if zBs T m = some k ∧ zPc m 8 = d then 1 else 0)
/-- what the tally holds -/
def zTal (f : Nat → Int32) (T : zT) : Prop := ∀ k, k < 8 → ∀ d, d ≤ 8 → f (9 * k + d) = nI (zWy T k d (2 ^ zc T))
/-- what the row of answers holds, by what it is about -/
def zAsk (key : Int32) (f : Nat → Int32) (T : zT) : Prop :=
  (∀ k own, k < 8 → zOwn T k = some own → key = nI k → f 0 = vE ((zSitO T k own).map (fun r => r.1)) ∧ f 1 = vE ((zSitO T k own).map (fun r => r.2))) ∧
  (∀ d, d < 30 → key = nI (100 + d) → f 0 = vE ((zTrO T d).map (fun r => r.1.1)) ∧ f 1 = vE ((zTrO T d).map (fun r => r.1.2)) ∧ f 2 = vE ((zTrO T d).map (fun r => r.2))) ∧
  (key = nI 200 → f 0 = vE ((zRuO T).map (fun r => r.1)) ∧ f 1 = vE ((zRuO T).map (fun r => r.2))) ∧
  (key = nI 300 → f 0 = vE ((zTaO T).map (fun r => r.2)) ∧ ∀ j, j < 3 → f (1 + j) = vE ((zTaO T).map (fun r => zOrd r.1 j))) ∧
  (key = nI 400 → f 0 = zSp0i T ∧ f 1 = zSp1i T ∧ f 2 = zSp2i T) ∧
  (∀ p, p < 24 → key = nI (500 + p) → f 0 = zFiB T p ∧ f 1 = vE ((zAkO T p).map (fun r => r.1)))
def xCore (σ : vc_S) (T : zT) : Prop := xTx σ 1 (zt T) (ztn T) ∧ xTx σ 3 (zu T) (zun T) ∧ (xRo σ (zn T) (zso T) (zfi T) ∧ σ.1 5 3 = vE (bFault (zt T) (ztn T))) ∧ (xBe σ (zs T) (zle T) (zbe T) ∧ σ.1 8 3 = vE (nFault (zu T) (zun T))) ∧ σ.1 0 15 = nI (zma T) ∧ (σ.1 11 3 = nI (zc T) ∧ ∀ i, i < zc T → σ.2 12 i = nI (zch' T i).1 ∧ σ.2 13 i = nI (zch' T i).2.1 ∧ σ.2 14 i = nI (zch' T i).2.2) ∧ (σ.1 15 4 = nI (ze T) ∧ ∀ i, i < ze T → σ.2 16 i = nI (zse T i).1 ∧ σ.2 17 i = nI (zse T i).2.1 ∧ σ.2 18 i = nI (zse T i).2.2.1 ∧ σ.2 19 i = nI (zse T i).2.2.2) ∧ σ.1 0 16 = nI (zf T) ∧ ∀ s, s < 4 → σ.1 (21 + 2 * s) 3 = zb (!(zsh T s).1) ∧ σ.1 (21 + 2 * s) 2 = nI (zsh T s).2.1 ∧ σ.1 (21 + 2 * s) 1 = nI (zsh T s).2.2.1 ∧ ∀ i, i < 60 → σ.2 (22 + 2 * s) i = (zsh T s).2.2.2 i
/-- a year is told: rows, boys, seats -/
def xTo (σ : vc_S) (T : zT) : Prop := yRw 29 σ (zP T zAll id) (zS T) 30 ∧ σ.1 29 8 = nI (zn T) ∧ σ.1 29 9 = nI (zs T)
def xCa (σ : vc_S) (T : zT) : Prop := (σ.1 0 18 = nI 0 ∨ (σ.1 0 18 = nI 1 ∧ xTo σ T)) ∧ (σ.1 52 1 = nI 0 ∨ (σ.1 52 1 = nI 1 ∧ zTal (σ.2 53) T)) ∧ (σ.1 0 17 = -1 ∨ zAsk (σ.1 0 17) (σ.2 54) T)
def xI (σ : vc_S) (T : zT) : Prop := xCore σ T ∧ xCa σ T
/-- m's cells are as they were -/
def xM (σ τ : vc_S) : Prop := τ.1 57 = σ.1 57 ∧ ∀ b, 57 ≤ b → τ.2 b = σ.2 b
/-- x's cells are as they were -/
def mX (σ τ : vc_S) : Prop := ∀ b, b < 57 → τ.1 b = σ.1 b ∧ τ.2 b = σ.2 b
theorem xM.rf {σ : vc_S} : xM σ σ := ⟨rfl, fun _ _ => rfl⟩
theorem xM.tr {σ τ υ : vc_S} (h : xM σ τ) (g : xM τ υ) : xM σ υ := ⟨g.1.trans h.1, fun b hb => (g.2 b hb).trans (h.2 b hb)⟩
theorem mX.tr {σ τ υ : vc_S} (h : mX σ τ) (g : mX τ υ) : mX σ υ := fun b hb => ⟨(g b hb).1.trans (h b hb).1, (g b hb).2.trans (h b hb).2⟩
theorem mX.rf {σ : vc_S} : mX σ σ := fun _ _ => ⟨rfl, rfl⟩
theorem mFr.x {J A : List Nat} {σ τ : vc_S} (h : mFr J A σ τ) (hA : ∀ a ∈ A, 57 ≤ a) : mX σ τ := fun b hb => ⟨h.1 b (by omega), h.2.2 b (fun c => by have := hA b c; omega)⟩
theorem vc_fq.xm {F A : List Nat} {σ τ : vc_S} (h : vc_fq F A σ τ) (hF : ∀ a ∈ F, a < 57) (hA : ∀ a ∈ A, a < 57) : xM σ τ := ⟨h.1 57 (fun c => by have := hF 57 c; omega), fun b hb => h.2 b (fun c => by have := hA b c; omega)⟩
theorem mI.xm {σ τ : vc_S} {T : zT} (h : mI σ T) (g : xM σ τ) : mI τ T := by
  unfold mI mTx mTb at h ⊢
  rw [g.1, g.2 58 (by omega), g.2 59 (by omega), g.2 64 (by omega), g.2 65 (by omega), g.2 66 (by omega), g.2 83 (by omega), g.2 84 (by omega), g.2 85 (by omega), g.2 86 (by omega), g.2 88 (by omega), g.2 89 (by omega), g.2 90 (by omega), g.2 91 (by omega)]
  exact h
theorem xCore.of {σ τ : vc_S} {T : zT} (h : xCore σ T) (g1 : ∀ b, b ∈ [1, 3, 5, 8, 11, 15, 21, 23, 25, 27] → τ.1 b = σ.1 b) (g2 : τ.1 0 15 = σ.1 0 15) (g3 : τ.1 0 16 = σ.1 0 16) (g4 : ∀ b, b ∈ [2, 4, 6, 7, 9, 10, 12, 13, 14, 16, 17, 18, 19, 22, 24, 26, 28] → τ.2 b = σ.2 b) : xCore τ T := by
  obtain ⟨h1, h2, ⟨h3, h4⟩, ⟨h5, h6⟩, h7, ⟨h8, h9⟩, ⟨h10, h11⟩, h12, h13⟩ := h
  unfold xTx at h1 h2
  unfold xRo at h3
  unfold xBe at h5
  simp only [Nat.reduceAdd] at h1 h2
  refine ⟨?_, ?_, ⟨?_, ?_⟩, ⟨?_, ?_⟩, ?_, ⟨?_, ?_⟩, ⟨?_, ?_⟩, ?_, fun s hs => ?_⟩
  · unfold xTx
    rw [g1 1 (by simp), g4 (1 + 1) (by simp)]; exact h1
  · unfold xTx
    rw [g1 3 (by simp), g4 (3 + 1) (by simp)]; exact h2
  · unfold xRo
    rw [g1 5 (by simp), g4 6 (by simp), g4 7 (by simp)]; exact h3
  · rw [g1 5 (by simp)]; exact h4
  · unfold xBe
    rw [g1 8 (by simp), g4 9 (by simp), g4 10 (by simp)]; exact h5
  · rw [g1 8 (by simp)]; exact h6
  · rw [g2]; exact h7
  · rw [g1 11 (by simp)]; exact h8
  · rw [g4 12 (by simp), g4 13 (by simp), g4 14 (by simp)]; exact h9
  · rw [g1 15 (by simp)]; exact h10
  · rw [g4 16 (by simp), g4 17 (by simp), g4 18 (by simp), g4 19 (by simp)]; exact h11
  · rw [g3]; exact h12
  · have hm1 : 21 + 2 * s ∈ [1, 3, 5, 8, 11, 15, 21, 23, 25, 27] := by
      rcases (show s = 0 ∨ s = 1 ∨ s = 2 ∨ s = 3 by omega) with rfl | rfl | rfl | rfl <;> decide
    have hm2 : 22 + 2 * s ∈ [2, 4, 6, 7, 9, 10, 12, 13, 14, 16, 17, 18, 19, 22, 24, 26, 28] := by
      rcases (show s = 0 ∨ s = 1 ∨ s = 2 ∨ s = 3 by omega) with rfl | rfl | rfl | rfl <;> decide
    rw [g1 _ hm1, g4 _ hm2]
    exact h13 s hs
theorem yRw.of {o : Nat} {σ τ : vc_S} {P : yP} {S : yS} {D : Nat} (h : yRw o σ P S D) (g : ∀ j, 1 ≤ j → j ≤ 5 → τ.2 (o + j) = σ.2 (o + j)) : yRw o τ P S D := by
  unfold yRw yW yKn at h ⊢
  rw [g 1 (by omega) (by omega), g 2 (by omega) (by omega), g 3 (by omega) (by omega), g 4 (by omega) (by omega), g 5 (by omega) (by omega)]
  exact h
theorem xI.mx {σ τ : vc_S} {T : zT} (h : xI σ T) (g : mX σ τ) : xI τ T := by
  refine ⟨h.1.of (fun b hb => (g b ?_).1) (by rw [(g 0 (by omega)).1]) (by rw [(g 0 (by omega)).1]) (fun b hb => (g b ?_).2), ?_⟩
  · simp only [List.mem_cons, List.not_mem_nil, or_false] at hb; omega
  · simp only [List.mem_cons, List.not_mem_nil, or_false] at hb; omega
  · obtain ⟨h1, h2, h3⟩ := h.2
    refine ⟨?_, ?_, ?_⟩
    · rw [(g 0 (by omega)).1]
      rcases h1 with h1 | ⟨h1, h4, h5, h6⟩
      · exact Or.inl h1
      · exact Or.inr ⟨h1, h4.of (fun j _ hj => (g (29 + j) (by omega)).2), by rw [(g 29 (by omega)).1]; exact h5, by rw [(g 29 (by omega)).1]; exact h6⟩
    · rw [(g 52 (by omega)).1, (g 53 (by omega)).2]; exact h2
    · rw [(g 0 (by omega)).1, (g 54 (by omega)).2]; exact h3
/-- the changes as a year takes them -/
theorem xI.cg {σ : vc_S} {T : zT} (hT : zOk T) (h : xCore σ T) {dn : Nat → Bool} {od : Nat → Nat} : yCg 11 σ (zP T dn od) := by
  obtain ⟨-, -, -, -, -, ⟨h8, h9⟩, -⟩ := h
  obtain ⟨hc8, hch⟩ := hT.2.2.2.2.1
  refine ⟨h8, by show zc T ≤ 9; omega, fun i hi => ?_⟩
  obtain ⟨d1, d2, d3⟩ := h9 i hi
  obtain ⟨e1, e2, e3⟩ := hch i hi
  exact ⟨⟨d1, e1⟩, ⟨d2, e2⟩, d3, e3⟩
theorem yDn_all {P : yP} (hP : P.2.2.2.2.2.2.1 = zAll) (hc : P.2.2.2.2.1 ≤ 9) : yDn (-1) P := by
  intro i hi
  rw [vb_no _ (by omega), b_m1 i (by omega), hP]
  refine propext ⟨fun c => (by cases c), fun c => (by cases c)⟩
set_option maxHeartbeats 4000000 in
set_option maxRecDepth 100000 in
theorem ct_yearAsTold {K : vc_K} {T : zT} {σ : vc_S} {Q : Option Value → vc_S → Prop} (hT : zOk T) (hI : xI σ T) (h : ∀ τ : vc_S, xI τ T → xM σ τ → xTo τ T → Q (some (.ref 29)) τ) : vc_C K 93 [.ref 0] σ Q := by
  have hn := zn_le hT
  obtain ⟨hC, hc1, hc2, hc3⟩ := hI
  have c39 : ∀ τ : vc_S, xI τ T → xM σ τ → xTo τ T → vc_G K 93 39 [some (.ref 0)] [] τ Q := by
    intro τ a b c
    refine g_93_39 ?_
    simp only [vc_wi, vc_li, vc_ll, vc_lr, vc_i1, vc_i2, vc_l1, vc_l2, vc_il, vc_r1, vc_ri, vc_rii, vc_rx, vc_cp, vc_s1, vc_s2, vc_fg, vc_cm, vc_ald, vc_bld, vc_ast, vc_bst, vc_len, vc_gf, vc_pf, vc_cpy, vc_ct, List.getElem?_cons_zero, List.getElem?_cons_succ, List.set_cons_zero, List.set_cons_succ, List.take_succ_cons, List.take_zero, List.drop_succ_cons, List.drop_zero, List.reverse_cons, List.reverse_nil, List.nil_append, List.cons_append, Option.toList_some, Option.toList_none, List.map_cons, List.map_nil, List.sum_cons, List.sum_nil, List.length_cons, List.length_nil, Value.category, Nat.reduceEqDiff, Nat.reduceLeDiff, Nat.reduceAdd, reduceIte, true_and, and_true, B_93_39, rt_93, cls_0, fld_0_0, fld_0_1, fld_0_2, fld_0_3, fld_0_4, fld_0_5, fld_0_6, fld_0_7, fld_0_8, fld_0_9, fld_0_10, fld_0_11, fld_0_12, fld_0_13, fld_0_14, fld_0_15, fld_0_16, fld_0_17, fld_0_18, cls_1, fld_1_0, fld_1_1, arr_2, cls_3, fld_3_0, fld_3_1, arr_4, cls_5, fld_5_0, fld_5_1, fld_5_2, fld_5_3, arr_6, arr_7, cls_8, fld_8_0, fld_8_1, fld_8_2, fld_8_3, arr_9, arr_10, cls_11, fld_11_0, fld_11_1, fld_11_2, fld_11_3, arr_12, arr_13, arr_14, cls_15, fld_15_0, fld_15_1, fld_15_2, fld_15_3, fld_15_4, arr_16, arr_17, arr_18, arr_19, lay_20, cls_21, fld_21_0, fld_21_1, fld_21_2, fld_21_3, arr_22, cls_23, fld_23_0, fld_23_1, fld_23_2, fld_23_3, arr_24, cls_25, fld_25_0, fld_25_1, fld_25_2, fld_25_3, arr_26, cls_27, fld_27_0, fld_27_1, fld_27_2, fld_27_3, arr_28, cls_47, fld_47_0, fld_47_1, fld_47_2, fld_47_3, arr_48, arr_49, arr_50, cls_51, fld_51_0, cls_52, fld_52_0, fld_52_1, arr_53, arr_54, arr_55, arr_56]
    try simp (disch := omega) only [vc_brT, vc_brF, vc_anT, vc_brt, vc_brf, vc_ant, vn_n0, vn_in, vn_cl, vn_lt, vn_le, vn_eq, vn_sub, vn_div, vn_rem, vn_mod, vn_m1, vn_m1n, vn_m1p, nI_add, pk_mul, vc_sa_1, vc_sa_2, vc_sg_1, vc_sg_2, Nat.reduceEqDiff, Nat.reduceLeDiff, Nat.reduceAdd, Nat.reduceMul, Nat.reduceSub, Nat.not_lt_zero, Nat.add_left_cancel_iff, reduceIte, true_and, and_true, not_false_eq_true, not_true_eq_false, true_or, or_true, Bool.false_eq_true]
    exact h τ a b c
  refine vc_C_of (ls0 := [some (.ref 0)]) hk_93 (Nat.le_of_ble_eq_true rfl) rfl ?_
  rcases hc1 with h0 | ⟨h1, ht⟩
  · refine g_93_0 ?_
    simp only [vc_wi, vc_li, vc_ll, vc_lr, vc_i1, vc_i2, vc_l1, vc_l2, vc_il, vc_r1, vc_ri, vc_rii, vc_rx, vc_cp, vc_s1, vc_s2, vc_fg, vc_cm, vc_ald, vc_bld, vc_ast, vc_bst, vc_len, vc_gf, vc_pf, vc_cpy, vc_ct, List.getElem?_cons_zero, List.getElem?_cons_succ, List.set_cons_zero, List.set_cons_succ, List.take_succ_cons, List.take_zero, List.drop_succ_cons, List.drop_zero, List.reverse_cons, List.reverse_nil, List.nil_append, List.cons_append, Option.toList_some, Option.toList_none, List.map_cons, List.map_nil, List.sum_cons, List.sum_nil, List.length_cons, List.length_nil, Value.category, Nat.reduceEqDiff, Nat.reduceLeDiff, Nat.reduceAdd, reduceIte, true_and, and_true, B_93_0, rt_93, cls_0, fld_0_0, fld_0_1, fld_0_2, fld_0_3, fld_0_4, fld_0_5, fld_0_6, fld_0_7, fld_0_8, fld_0_9, fld_0_10, fld_0_11, fld_0_12, fld_0_13, fld_0_14, fld_0_15, fld_0_16, fld_0_17, fld_0_18, cls_1, fld_1_0, fld_1_1, arr_2, cls_3, fld_3_0, fld_3_1, arr_4, cls_5, fld_5_0, fld_5_1, fld_5_2, fld_5_3, arr_6, arr_7, cls_8, fld_8_0, fld_8_1, fld_8_2, fld_8_3, arr_9, arr_10, cls_11, fld_11_0, fld_11_1, fld_11_2, fld_11_3, arr_12, arr_13, arr_14, cls_15, fld_15_0, fld_15_1, fld_15_2, fld_15_3, fld_15_4, arr_16, arr_17, arr_18, arr_19, lay_20, cls_21, fld_21_0, fld_21_1, fld_21_2, fld_21_3, arr_22, cls_23, fld_23_0, fld_23_1, fld_23_2, fld_23_3, arr_24, cls_25, fld_25_0, fld_25_1, fld_25_2, fld_25_3, arr_26, cls_27, fld_27_0, fld_27_1, fld_27_2, fld_27_3, arr_28, cls_47, fld_47_0, fld_47_1, fld_47_2, fld_47_3, arr_48, arr_49, arr_50, cls_51, fld_51_0, cls_52, fld_52_0, fld_52_1, arr_53, arr_54, arr_55, arr_56, cls_29, fld_29_0, fld_29_1, fld_29_2, fld_29_3, fld_29_4, fld_29_5, fld_29_6, fld_29_7, fld_29_8, fld_29_9, arr_30, arr_31, arr_32, arr_33, arr_34, arr_35, arr_36, arr_37, cls_38, fld_38_0, fld_38_1, fld_38_2, fld_38_3, fld_38_4, fld_38_5, fld_38_6, fld_38_7, fld_38_8, fld_38_9, arr_39, arr_40, arr_41, arr_42, arr_43, arr_44, arr_45, arr_46]
    try simp (disch := omega) only [vc_brT, vc_brF, vc_anT, vc_brt, vc_brf, vc_ant, vn_n0, vn_in, vn_cl, vn_lt, vn_le, vn_eq, vn_sub, vn_div, vn_rem, vn_mod, vn_m1, vn_m1n, vn_m1p, nI_add, pk_mul, vc_sa_1, vc_sa_2, vc_sg_1, vc_sg_2, Nat.reduceEqDiff, Nat.reduceLeDiff, Nat.reduceAdd, Nat.reduceMul, Nat.reduceSub, Nat.not_lt_zero, Nat.add_left_cancel_iff, reduceIte, true_and, and_true, not_false_eq_true, not_true_eq_false, true_or, or_true, Bool.false_eq_true, h0]
    refine ct_begin (o := 29) (c := zc T) (ch := zch' T) (dn := zAll) (Or.inl rfl) hC.2.2.1.1 hC.2.2.2.1.1 ?_
    intro τ f1 b1
    simp only [Nat.reduceAdd] at f1
    simp only [vc_wi, vc_li, vc_ll, vc_lr, vc_i1, vc_i2, vc_l1, vc_l2, vc_il, vc_r1, vc_ri, vc_rii, vc_rx, vc_cp, vc_s1, vc_s2, vc_fg, vc_cm, vc_ald, vc_bld, vc_ast, vc_bst, vc_len, vc_gf, vc_pf, vc_cpy, vc_ct, List.getElem?_cons_zero, List.getElem?_cons_succ, List.set_cons_zero, List.set_cons_succ, List.take_succ_cons, List.take_zero, List.drop_succ_cons, List.drop_zero, List.reverse_cons, List.reverse_nil, List.nil_append, List.cons_append, Option.toList_some, Option.toList_none, List.map_cons, List.map_nil, List.sum_cons, List.sum_nil, List.length_cons, List.length_nil, Value.category, Nat.reduceEqDiff, Nat.reduceLeDiff, Nat.reduceAdd, reduceIte, true_and, and_true, rt_93, cls_0, fld_0_0, fld_0_1, fld_0_2, fld_0_3, fld_0_4, fld_0_5, fld_0_6, fld_0_7, fld_0_8, fld_0_9, fld_0_10, fld_0_11, fld_0_12, fld_0_13, fld_0_14, fld_0_15, fld_0_16, fld_0_17, fld_0_18, cls_1, fld_1_0, fld_1_1, arr_2, cls_3, fld_3_0, fld_3_1, arr_4, cls_5, fld_5_0, fld_5_1, fld_5_2, fld_5_3, arr_6, arr_7, cls_8, fld_8_0, fld_8_1, fld_8_2, fld_8_3, arr_9, arr_10, cls_11, fld_11_0, fld_11_1, fld_11_2, fld_11_3, arr_12, arr_13, arr_14, cls_15, fld_15_0, fld_15_1, fld_15_2, fld_15_3, fld_15_4, arr_16, arr_17, arr_18, arr_19, lay_20, cls_21, fld_21_0, fld_21_1, fld_21_2, fld_21_3, arr_22, cls_23, fld_23_0, fld_23_1, fld_23_2, fld_23_3, arr_24, cls_25, fld_25_0, fld_25_1, fld_25_2, fld_25_3, arr_26, cls_27, fld_27_0, fld_27_1, fld_27_2, fld_27_3, arr_28, cls_47, fld_47_0, fld_47_1, fld_47_2, fld_47_3, arr_48, arr_49, arr_50, cls_51, fld_51_0, cls_52, fld_52_0, fld_52_1, arr_53, arr_54, arr_55, arr_56, cls_29, fld_29_0, fld_29_1, fld_29_2, fld_29_3, fld_29_4, fld_29_5, fld_29_6, fld_29_7, fld_29_8, fld_29_9, arr_30, arr_31, arr_32, arr_33, arr_34, arr_35, arr_36, arr_37, cls_38, fld_38_0, fld_38_1, fld_38_2, fld_38_3, fld_38_4, fld_38_5, fld_38_6, fld_38_7, fld_38_8, fld_38_9, arr_39, arr_40, arr_41, arr_42, arr_43, arr_44, arr_45, arr_46]
    try simp (disch := omega) only [vc_brT, vc_brF, vc_anT, vc_brt, vc_brf, vc_ant, vn_n0, vn_in, vn_cl, vn_lt, vn_le, vn_eq, vn_sub, vn_div, vn_rem, vn_mod, vn_m1, vn_m1n, vn_m1p, nI_add, pk_mul, vc_sa_1, vc_sa_2, vc_sg_1, vc_sg_2, Nat.reduceEqDiff, Nat.reduceLeDiff, Nat.reduceAdd, Nat.reduceMul, Nat.reduceSub, Nat.not_lt_zero, Nat.add_left_cancel_iff, reduceIte, true_and, and_true, not_false_eq_true, not_true_eq_false, true_or, or_true, Bool.false_eq_true]
    have hCt : xCore τ T := hC.of (fun b hb => f1.1 b (by simp only [List.mem_cons, List.not_mem_nil, or_false] at hb ⊢; omega)) (by rw [f1.1 0 (by simp)]) (by rw [f1.1 0 (by simp)]) (fun b hb => f1.2 b (by simp only [List.mem_cons, List.not_mem_nil, or_false] at hb ⊢; omega))
    obtain ⟨p1, p2, p3, p4, p5, p6⟩ := b1
    refine ct_pass (o := 29) (c := 11) (P := zP T zAll id) (S := zS T) (Or.inl rfl) (Or.inl rfl) p1 (xI.cg hT hCt) (yDn_all rfl (by have := hT.2.2.2.2.1.1; show zc T ≤ 9; omega)) p2 (zWok T _ _) p3 p4 p5 p6 ?_
    intro υ f2 r2
    simp only [Nat.reduceAdd] at f2
    simp only [vc_wi, vc_li, vc_ll, vc_lr, vc_i1, vc_i2, vc_l1, vc_l2, vc_il, vc_r1, vc_ri, vc_rii, vc_rx, vc_cp, vc_s1, vc_s2, vc_fg, vc_cm, vc_ald, vc_bld, vc_ast, vc_bst, vc_len, vc_gf, vc_pf, vc_cpy, vc_ct, List.getElem?_cons_zero, List.getElem?_cons_succ, List.set_cons_zero, List.set_cons_succ, List.take_succ_cons, List.take_zero, List.drop_succ_cons, List.drop_zero, List.reverse_cons, List.reverse_nil, List.nil_append, List.cons_append, Option.toList_some, Option.toList_none, List.map_cons, List.map_nil, List.sum_cons, List.sum_nil, List.length_cons, List.length_nil, Value.category, Nat.reduceEqDiff, Nat.reduceLeDiff, Nat.reduceAdd, reduceIte, true_and, and_true, rt_93, cls_0, fld_0_0, fld_0_1, fld_0_2, fld_0_3, fld_0_4, fld_0_5, fld_0_6, fld_0_7, fld_0_8, fld_0_9, fld_0_10, fld_0_11, fld_0_12, fld_0_13, fld_0_14, fld_0_15, fld_0_16, fld_0_17, fld_0_18, cls_1, fld_1_0, fld_1_1, arr_2, cls_3, fld_3_0, fld_3_1, arr_4, cls_5, fld_5_0, fld_5_1, fld_5_2, fld_5_3, arr_6, arr_7, cls_8, fld_8_0, fld_8_1, fld_8_2, fld_8_3, arr_9, arr_10, cls_11, fld_11_0, fld_11_1, fld_11_2, fld_11_3, arr_12, arr_13, arr_14, cls_15, fld_15_0, fld_15_1, fld_15_2, fld_15_3, fld_15_4, arr_16, arr_17, arr_18, arr_19, lay_20, cls_21, fld_21_0, fld_21_1, fld_21_2, fld_21_3, arr_22, cls_23, fld_23_0, fld_23_1, fld_23_2, fld_23_3, arr_24, cls_25, fld_25_0, fld_25_1, fld_25_2, fld_25_3, arr_26, cls_27, fld_27_0, fld_27_1, fld_27_2, fld_27_3, arr_28, cls_47, fld_47_0, fld_47_1, fld_47_2, fld_47_3, arr_48, arr_49, arr_50, cls_51, fld_51_0, cls_52, fld_52_0, fld_52_1, arr_53, arr_54, arr_55, arr_56, cls_29, fld_29_0, fld_29_1, fld_29_2, fld_29_3, fld_29_4, fld_29_5, fld_29_6, fld_29_7, fld_29_8, fld_29_9, arr_30, arr_31, arr_32, arr_33, arr_34, arr_35, arr_36, arr_37, cls_38, fld_38_0, fld_38_1, fld_38_2, fld_38_3, fld_38_4, fld_38_5, fld_38_6, fld_38_7, fld_38_8, fld_38_9, arr_39, arr_40, arr_41, arr_42, arr_43, arr_44, arr_45, arr_46]
    try simp (disch := omega) only [vc_brT, vc_brF, vc_anT, vc_brt, vc_brf, vc_ant, vn_n0, vn_in, vn_cl, vn_lt, vn_le, vn_eq, vn_sub, vn_div, vn_rem, vn_mod, vn_m1, vn_m1n, vn_m1p, nI_add, pk_mul, vc_sa_1, vc_sa_2, vc_sg_1, vc_sg_2, Nat.reduceEqDiff, Nat.reduceLeDiff, Nat.reduceAdd, Nat.reduceMul, Nat.reduceSub, Nat.not_lt_zero, Nat.add_left_cancel_iff, reduceIte, true_and, and_true, not_false_eq_true, not_true_eq_false, true_or, or_true, Bool.false_eq_true]
    have hf : vc_fq [29] [30, 31, 32, 33, 34, 35, 36, 37] σ υ := (f1.mono (by simp) (by simp)).tr (f2.q (by simp))
    have hCu : xCore (vc_sg υ 0 18 (nI 1)) T := hC.of (fun b hb => by
        have hb0 : ¬ b = 0 := by simp only [List.mem_cons, List.not_mem_nil, or_false] at hb; omega
        funext i
        rw [vc_sg_1, if_neg hb0, hf.1 b (by simp only [List.mem_cons, List.not_mem_nil, or_false] at hb ⊢; omega)]) (by rw [vc_sg_1, if_pos rfl, if_neg (by decide), hf.1 0 (by simp)]) (by rw [vc_sg_1, if_pos rfl, if_neg (by decide), hf.1 0 (by simp)]) (fun b hb => hf.2 b (by simp only [List.mem_cons, List.not_mem_nil, or_false] at hb ⊢; omega))
    have hto : xTo (vc_sg υ 0 18 (nI 1)) T := by
      refine ⟨r2.of (fun j _ _ => rfl), ?_, ?_⟩
      · rw [vc_sg_1, if_neg (by decide), f2.1]
        exact p1.2.2
      · rw [vc_sg_1, if_neg (by decide), f2.1]
        exact p1.1.1
    refine c39 _ ⟨hCu, Or.inr ⟨by rw [vc_sg_1, if_pos rfl, if_pos rfl], hto⟩, ?_, ?_⟩ ⟨?_, fun b hb => ?_⟩ hto
    · rw [vc_sg_1, if_neg (by decide), hf.1 52 (by simp)]
      show _ ∨ (_ ∧ zTal (υ.2 53) T)
      rw [hf.2 53 (by simp)]
      exact hc2
    · rw [vc_sg_1, if_pos rfl, if_neg (by decide), hf.1 0 (by simp)]
      show _ ∨ zAsk _ (υ.2 54) T
      rw [hf.2 54 (by simp)]
      exact hc3
    · funext i
      rw [vc_sg_1, if_neg (by decide), hf.1 57 (by simp)]
    · show υ.2 b = σ.2 b
      exact hf.2 b (by simp only [List.mem_cons, List.not_mem_nil, or_false]; omega)
  · refine g_93_0 ?_
    simp only [vc_wi, vc_li, vc_ll, vc_lr, vc_i1, vc_i2, vc_l1, vc_l2, vc_il, vc_r1, vc_ri, vc_rii, vc_rx, vc_cp, vc_s1, vc_s2, vc_fg, vc_cm, vc_ald, vc_bld, vc_ast, vc_bst, vc_len, vc_gf, vc_pf, vc_cpy, vc_ct, List.getElem?_cons_zero, List.getElem?_cons_succ, List.set_cons_zero, List.set_cons_succ, List.take_succ_cons, List.take_zero, List.drop_succ_cons, List.drop_zero, List.reverse_cons, List.reverse_nil, List.nil_append, List.cons_append, Option.toList_some, Option.toList_none, List.map_cons, List.map_nil, List.sum_cons, List.sum_nil, List.length_cons, List.length_nil, Value.category, Nat.reduceEqDiff, Nat.reduceLeDiff, Nat.reduceAdd, reduceIte, true_and, and_true, B_93_0, rt_93, cls_0, fld_0_0, fld_0_1, fld_0_2, fld_0_3, fld_0_4, fld_0_5, fld_0_6, fld_0_7, fld_0_8, fld_0_9, fld_0_10, fld_0_11, fld_0_12, fld_0_13, fld_0_14, fld_0_15, fld_0_16, fld_0_17, fld_0_18, cls_1, fld_1_0, fld_1_1, arr_2, cls_3, fld_3_0, fld_3_1, arr_4, cls_5, fld_5_0, fld_5_1, fld_5_2, fld_5_3, arr_6, arr_7, cls_8, fld_8_0, fld_8_1, fld_8_2, fld_8_3, arr_9, arr_10, cls_11, fld_11_0, fld_11_1, fld_11_2, fld_11_3, arr_12, arr_13, arr_14, cls_15, fld_15_0, fld_15_1, fld_15_2, fld_15_3, fld_15_4, arr_16, arr_17, arr_18, arr_19, lay_20, cls_21, fld_21_0, fld_21_1, fld_21_2, fld_21_3, arr_22, cls_23, fld_23_0, fld_23_1, fld_23_2, fld_23_3, arr_24, cls_25, fld_25_0, fld_25_1, fld_25_2, fld_25_3, arr_26, cls_27, fld_27_0, fld_27_1, fld_27_2, fld_27_3, arr_28, cls_47, fld_47_0, fld_47_1, fld_47_2, fld_47_3, arr_48, arr_49, arr_50, cls_51, fld_51_0, cls_52, fld_52_0, fld_52_1, arr_53, arr_54, arr_55, arr_56, cls_29, fld_29_0, fld_29_1, fld_29_2, fld_29_3, fld_29_4, fld_29_5, fld_29_6, fld_29_7, fld_29_8, fld_29_9, arr_30, arr_31, arr_32, arr_33, arr_34, arr_35, arr_36, arr_37, cls_38, fld_38_0, fld_38_1, fld_38_2, fld_38_3, fld_38_4, fld_38_5, fld_38_6, fld_38_7, fld_38_8, fld_38_9, arr_39, arr_40, arr_41, arr_42, arr_43, arr_44, arr_45, arr_46]
    try simp (disch := omega) only [vc_brT, vc_brF, vc_anT, vc_brt, vc_brf, vc_ant, vn_n0, vn_in, vn_cl, vn_lt, vn_le, vn_eq, vn_sub, vn_div, vn_rem, vn_mod, vn_m1, vn_m1n, vn_m1p, nI_add, pk_mul, vc_sa_1, vc_sa_2, vc_sg_1, vc_sg_2, Nat.reduceEqDiff, Nat.reduceLeDiff, Nat.reduceAdd, Nat.reduceMul, Nat.reduceSub, Nat.not_lt_zero, Nat.add_left_cancel_iff, reduceIte, true_and, and_true, not_false_eq_true, not_true_eq_false, true_or, or_true, Bool.false_eq_true, h1]
    exact c39 σ ⟨hC, Or.inr ⟨h1, ht⟩, hc2, hc3⟩ xM.rf ht
