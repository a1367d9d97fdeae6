/-! what a block asks for is enough (vc_sound); a method's contract out of its first block (vc_C_of) -/
theorem vc_i1_inv {st : List Value} {k : Int32 → List Value → Prop} (h : vc_i1 st k) : ∃ a r, st = .int a :: r ∧ k a r := by
  unfold vc_i1 at h
  split at h
  · exact ⟨_, _, rfl, h⟩
  · exact h.elim
theorem vc_i2_inv {st : List Value} {k : Int32 → Int32 → List Value → Prop} (h : vc_i2 st k) : ∃ a b r, st = .int b :: .int a :: r ∧ k a b r := by
  unfold vc_i2 at h
  split at h
  · exact ⟨_, _, _, rfl, h⟩
  · exact h.elim
theorem vc_l1_inv {st : List Value} {k : Int64 → List Value → Prop} (h : vc_l1 st k) : ∃ a r, st = .long a :: r ∧ k a r := by
  unfold vc_l1 at h
  split at h
  · exact ⟨_, _, rfl, h⟩
  · exact h.elim
theorem vc_l2_inv {st : List Value} {k : Int64 → Int64 → List Value → Prop} (h : vc_l2 st k) : ∃ a b r, st = .long b :: .long a :: r ∧ k a b r := by
  unfold vc_l2 at h
  split at h
  · exact ⟨_, _, _, rfl, h⟩
  · exact h.elim
theorem vc_il_inv {st : List Value} {k : Int64 → Int32 → List Value → Prop} (h : vc_il st k) : ∃ a b r, st = .int b :: .long a :: r ∧ k a b r := by
  unfold vc_il at h
  split at h
  · exact ⟨_, _, _, rfl, h⟩
  · exact h.elim
theorem vc_r1_inv {st : List Value} {k : Nat → List Value → Prop} (h : vc_r1 st k) : ∃ a r, st = .ref a :: r ∧ k a r := by
  unfold vc_r1 at h
  split at h
  · exact ⟨_, _, rfl, h⟩
  · exact h.elim
theorem vc_ri_inv {st : List Value} {k : Nat → Int32 → List Value → Prop} (h : vc_ri st k) : ∃ a i r, st = .int i :: .ref a :: r ∧ k a i r := by
  unfold vc_ri at h
  split at h
  · exact ⟨_, _, _, rfl, h⟩
  · exact h.elim
theorem vc_rii_inv {st : List Value} {k : Nat → Int32 → Int32 → List Value → Prop} (h : vc_rii st k) : ∃ a i x r, st = .int x :: .int i :: .ref a :: r ∧ k a i x r := by
  unfold vc_rii at h
  split at h
  · exact ⟨_, _, _, _, rfl, h⟩
  · exact h.elim
theorem vc_rx_inv {st : List Value} {k : Nat → Int32 → List Value → Prop} (h : vc_rx st k) : ∃ a x r, st = .int x :: .ref a :: r ∧ k a x r := by
  unfold vc_rx at h
  split at h
  · exact ⟨_, _, _, rfl, h⟩
  · exact h.elim
theorem vc_cp_inv {st : List Value} {k : Nat → Int32 → Nat → Int32 → Int32 → List Value → Prop} (h : vc_cp st k) : ∃ a sp d dp n r, st = .int n :: .int dp :: .ref d :: .int sp :: .ref a :: r ∧ k a sp d dp n r := by
  unfold vc_cp at h
  split at h
  · exact ⟨_, _, _, _, _, _, rfl, h⟩
  · exact h.elim
theorem vc_li_inv {ls : List (Option Value)} {i : Nat} {k : Int32 → Prop} (h : vc_li ls i k) : ∃ x, ls[i]? = some (some (.int x)) ∧ k x := by
  unfold vc_li at h
  split at h
  · exact ⟨_, by assumption, h⟩
  · exact h.elim
theorem vc_ll_inv {ls : List (Option Value)} {i : Nat} {k : Int64 → Prop} (h : vc_ll ls i k) : ∃ x, ls[i]? = some (some (.long x)) ∧ k x := by
  unfold vc_ll at h
  split at h
  · exact ⟨_, by assumption, h⟩
  · exact h.elim
theorem vc_lr_inv {ls : List (Option Value)} {i : Nat} {k : Nat → Prop} (h : vc_lr ls i k) : ∃ x, ls[i]? = some (some (.ref x)) ∧ k x := by
  unfold vc_lr at h
  split at h
  · exact ⟨_, by assumption, h⟩
  · exact h.elim
theorem vc_arr_lay {a t n : Nat} (h : vc_arr a = some (t, n)) : ∃ fs, vc_lay a = some (t, n, fs) ∧ (t = 0 ∨ t = 1) := by
  unfold vc_arr at h
  split at h
  · rename_i n' fs he
    simp only [Option.some.injEq, Prod.mk.injEq] at h
    obtain ⟨rfl, rfl⟩ := h
    exact ⟨fs, he, Or.inl rfl⟩
  · rename_i n' fs he
    simp only [Option.some.injEq, Prod.mk.injEq] at h
    obtain ⟨rfl, rfl⟩ := h
    exact ⟨fs, he, Or.inr rfl⟩
  · cases h
theorem vc_arr_get {K : vc_K} {σ : vc_S} {a t n : Nat} (h : vc_arr a = some (t, n)) : (vc_W K σ)[a]? = some (K.2.2.1 a, .inl (K.2.2.2.1 t, n, .inl (σ.2 a))) := by
  obtain ⟨fs, h1, h2⟩ := vc_arr_lay h
  rw [vc_W_get h1]
  rcases h2 with rfl | rfl <;> rfl
theorem vc_arr_set {K : vc_K} {σ : vc_S} {a t n : Nat} {f : Nat → Int32} (h : vc_arr a = some (t, n)) : (vc_W K σ).set a (K.2.2.1 a, .inl (K.2.2.2.1 t, n, .inl f)) = vc_W K (vc_sa σ a f) := by
  obtain ⟨fs, h1, h2⟩ := vc_arr_lay h
  exact vc_W_sa (q := (t, n, fs)) h1 rfl h2
theorem vc_fld_lay {o ci k : Nat} {f : Option Nat} (h : vc_fld o ci k = some f) : ∃ n fs, vc_lay o = some (ci + 3, n, fs) ∧ fs[k]? = some f := by
  unfold vc_fld at h
  split at h
  · rename_i t n fs he
    by_cases ht : t = ci + 3
    · rw [if_pos ht] at h
      subst ht
      exact ⟨n, fs, he, h⟩
    · rw [if_neg ht] at h
      cases h
  · cases h
/-- the known locals as the kit's rows name them -/
def vc_al (K : vc_K) (ls : List (Option Value)) : List (Nat × Value) := (List.range ls.length).filterMap (fun i => match ls[i]? with | some (some v) => some (i, vc_up K v) | _ => none)
theorem vc_al_in {K : vc_K} {ls : List (Option Value)} {i : Nat} {v : Value} (h : ls[i]? = some (some v)) : (i, vc_up K v) ∈ vc_al K ls := by
  unfold vc_al
  refine List.mem_filterMap.mpr ⟨i, List.mem_range.mpr (List.getElem?_eq_some_iff.mp h).1, ?_⟩
  rw [h]
theorem vc_al_has {K : vc_K} {arr : Array Slot} {n : Nat} {ls : List (Option Value)} (h : vc_LH K arr n ls) : lv_has arr n (vc_al K ls) := by
  refine ⟨h.1, h.2.1, fun q hq => ?_⟩
  unfold vc_al at hq
  obtain ⟨i, -, hi⟩ := List.mem_filterMap.mp hq
  split at hi
  · rename_i v hv
    cases hi
    exact h.2.2 i v hv
  · cases hi
theorem vc_fg_get {ls : List (Option Value)} {i k : Nat} {u : Value} (h : (vc_fg ls i)[k]? = some (some u)) : ls[k]? = some (some u) ∧ ¬ (k = i ∧ u.category = 2) := by
  unfold vc_fg at h
  split at h
  · rw [List.getElem?_set] at h
    by_cases hk : i = k
    · subst hk
      rw [if_pos rfl] at h
      split at h <;> cases h
    · rw [if_neg hk] at h
      exact ⟨h, fun c => hk c.1.symm⟩
  · rw [List.getElem?_set] at h
    by_cases hk : i = k
    · subst hk
      rw [if_pos rfl] at h
      split at h <;> cases h
    · rw [if_neg hk] at h
      exact ⟨h, fun c => hk c.1.symm⟩
  · rename_i h1 h2
    refine ⟨h, fun c => ?_⟩
    obtain ⟨rfl, c2⟩ := c
    cases u <;> first | cases c2 | skip
    · exact h1 _ h
    · exact h2 _ h
theorem vc_s1_get {ls : List (Option Value)} {i k : Nat} {v u : Value} (h : (vc_s1 ls i v)[k]? = some (some u)) : (k = i ∧ u = v) ∨ (¬ k = i ∧ ls[k]? = some (some u) ∧ ¬ (k + 1 = i ∧ u.category = 2)) := by
  unfold vc_s1 at h
  split at h
  · rw [List.getElem?_set] at h
    by_cases hk : 0 = k
    · subst hk
      rw [if_pos rfl] at h
      split at h
      · simp at h
        exact Or.inl ⟨rfl, h.symm⟩
      · cases h
    · rw [if_neg hk] at h
      exact Or.inr ⟨fun e => hk e.symm, h, by omega⟩
  · rename_i i'
    rw [List.getElem?_set] at h
    by_cases hk : i' + 1 = k
    · subst hk
      rw [if_pos rfl] at h
      split at h
      · simp at h
        exact Or.inl ⟨rfl, h.symm⟩
      · cases h
    · rw [if_neg hk] at h
      obtain ⟨g1, g2⟩ := vc_fg_get h
      exact Or.inr ⟨fun e => hk e.symm, g1, fun c => g2 ⟨by omega, c.2⟩⟩
theorem vc_LH.s1 {K : vc_K} {arr' : Array Slot} {n i : Nat} {ls : List (Option Value)} {v : Value} (h : lv_has arr' n ((i, vc_up K v) :: (vc_al K ls).filter (fun q => !(q.1 == i) && !(q.1 + 1 == i && q.2.category == 2)))) : vc_LH K arr' n (vc_s1 ls i v) := by
  refine ⟨h.1, h.2.1, fun k u hu => ?_⟩
  rcases vc_s1_get hu with ⟨rfl, rfl⟩ | ⟨h1, h2, h3⟩
  · exact h.2.2 (k, vc_up K u) List.mem_cons_self
  · refine h.2.2 (k, vc_up K u) (List.mem_cons_of_mem _ (List.mem_filter.mpr ⟨vc_al_in h2, ?_⟩))
    rw [← vc_up_cat K] at h3
    simp only [Bool.and_eq_true, Bool.not_eq_true', beq_eq_false_iff_ne, ne_eq, Bool.and_eq_false_iff]
    refine ⟨h1, ?_⟩
    by_cases hk : k + 1 = i
    · exact Or.inr (fun c => h3 ⟨hk, c⟩)
    · exact Or.inl hk
theorem vc_LH.s2 {K : vc_K} {arr' : Array Slot} {n i : Nat} {ls : List (Option Value)} {v : Value} (h : lv_has arr' n ((i, vc_up K v) :: (vc_al K ls).filter (fun q => !(q.1 == i) && (!(q.1 == i + 1) && !(q.1 + 1 == i && q.2.category == 2))))) : vc_LH K arr' n (vc_s2 ls i v) := by
  refine ⟨h.1, h.2.1, fun k u hu => ?_⟩
  unfold vc_s2 at hu
  rw [List.getElem?_set] at hu
  by_cases hk1 : i + 1 = k
  · rw [if_pos hk1] at hu
    split at hu <;> simp at hu
  · rw [if_neg hk1] at hu
    rcases vc_s1_get hu with ⟨rfl, rfl⟩ | ⟨h1, h2, h3⟩
    · exact h.2.2 (k, vc_up K u) List.mem_cons_self
    · refine h.2.2 (k, vc_up K u) (List.mem_cons_of_mem _ (List.mem_filter.mpr ⟨vc_al_in h2, ?_⟩))
      rw [← vc_up_cat K] at h3
      simp only [Bool.and_eq_true, Bool.not_eq_true', beq_eq_false_iff_ne, ne_eq, Bool.and_eq_false_iff]
      refine ⟨h1, fun e => hk1 e.symm, ?_⟩
      by_cases hk : k + 1 = i
      · exact Or.inr (fun c => h3 ⟨hk, c⟩)
      · exact Or.inl hk
theorem vc_LH.get {K : vc_K} {arr : Array Slot} {n i : Nat} {ls : List (Option Value)} {v : Value} (h : vc_LH K arr n ls) (hl : ls[i]? = some (some v)) : arr[i]? = some (.val (vc_up K v)) := h.2.2 i v hl
/-- what is known of each class -/
theorem vc_known {ci : Nat} {C : String} {T : u_T} {N : Nat} (h : vwCl[ci]? = some (C, T, N)) : (∀ w ∈ u_ws C T N, w ∈ lw_g) ∧ (∃ ty0 : Nat → FieldType, ∀ k, k < N → parseFieldDescriptor (T k).2.2.1 = some (ty0 k)) ∧ (∀ a, a < N → ∀ b, b < N → a ≠ b → (T a).2.1 ≠ (T b).2.1) := by
  have hb : ci < 11 := (List.getElem?_eq_some_iff.mp h).1
  have hall : ∀ i : Fin 11, ∀ q, vwCl[i.val]? = some q → (∀ w ∈ u_ws q.1 q.2.1 q.2.2, w ∈ lw_g) ∧ (∃ ty0 : Nat → FieldType, ∀ k, k < q.2.2 → parseFieldDescriptor (q.2.1 k).2.2.1 = some (ty0 k)) ∧ (∀ a, a < q.2.2 → ∀ b, b < q.2.2 → a ≠ b → (q.2.1 a).2.1 ≠ (q.2.1 b).2.1) := by
    intro i q hq
    match i, hq with
    | ⟨0, _⟩, hq => cases hq; exact ⟨inX0, ⟨_, tyX0_ok⟩, nmX0⟩
    | ⟨1, _⟩, hq => cases hq; exact ⟨inX1, ⟨_, tyX1_ok⟩, nmX1⟩
    | ⟨2, _⟩, hq => cases hq; exact ⟨inX2, ⟨_, tyX2_ok⟩, nmX2⟩
    | ⟨3, _⟩, hq => cases hq; exact ⟨inX3, ⟨_, tyX3_ok⟩, nmX3⟩
    | ⟨4, _⟩, hq => cases hq; exact ⟨inX4, ⟨_, tyX4_ok⟩, nmX4⟩
    | ⟨5, _⟩, hq => cases hq; exact ⟨inX5, ⟨_, tyX5_ok⟩, nmX5⟩
    | ⟨6, _⟩, hq => cases hq; exact ⟨inX6, ⟨_, tyX6_ok⟩, nmX6⟩
    | ⟨7, _⟩, hq => cases hq; exact ⟨inX7, ⟨_, tyX7_ok⟩, nmX7⟩
    | ⟨8, _⟩, hq => cases hq; exact ⟨inX8, ⟨_, tyX8_ok⟩, nmX8⟩
    | ⟨9, _⟩, hq => cases hq; exact ⟨inX9, ⟨_, tyX9_ok⟩, nmX9⟩
    | ⟨10, _⟩, hq => cases hq; exact ⟨inX10, ⟨_, tyX10_ok⟩, nmX10⟩
  exact hall ⟨ci, hb⟩ (C, T, N) h
/-- behind a call -/
theorem vc_run {K : vc_K} {p : Program} {e : Env} {R : Room} {s : State} {m : MethodId} {args : Array Value} {below : List Frame} {meth : Method} {c : Code} {H : Heap} {locs : List Loc} {cells slots : Nat} {Z : State → Prop} {pc : Nat} {arr : Array Slot} {st0 rest : List Value} {a : Array Value} {Q1 : Option Value → vc_S → Prop}
    (hr : va_Run p K.1 e R s m args below meth c H locs cells slots 0 0 (F0 m pc arr st0) rest (vc_Q K Q1 a) (vc_A K)) (hS : va_S (vc_A K) s.heap H locs)
    (kk : ∀ (r : Option Value) (σ : vc_S) (H1 : Heap) (locs1 : List Loc), Q1 r σ → va_P K.2.1 vwCl (vc_W K σ) H1 → va_S (vc_A K) s.heap H1 locs1 → W p K.1 e R s m args below meth c H1 locs1 cells slots Z (F0 m (pc + 3) arr ((r.map (vc_up K)).toList ++ rest))) : W p K.1 e R s m args below meth c H locs cells slots Z (F0 m pc arr st0) := by
  intro T hT X
  obtain ⟨v, st₀, t, T', L, h0, X', hL, e1, e2, ⟨r, σ, hv, hq, hp, hz, hk⟩, st⟩ := hr T hT X
  cases hv
  rw [h0] at hz hk
  obtain ⟨t2, a1, b1⟩ := kk r σ T'.heap (locs ++ L) hq (by rw [e1]; exact hp) ⟨Nat.le_trans hS.1 (by rw [e1]; exact hz), fun q h1 h2 => by rw [e1, hk q (Nat.lt_of_lt_of_le h1 hS.1) h2]; exact hS.2.1 q h1 h2, fun q hq => by
      rcases List.mem_append.mp hq with h | h
      · exact hS.2.2 q h
      · exact hL q h⟩ T' rfl X'
  exact ⟨t2, st t2 a1, b1⟩
theorem vc_sl_inv {pc : Nat} {x : Int} {G : Nat → Prop} : ∀ (os : List Int) (lo : Int), vc_sl pc x G lo os → ∀ (i : Nat) (o : Int), os[i]? = some o → x = lo + i → G ((pc : Int) + o).toNat
  | [], _, _, i, o, ho, _ => by simp at ho
  | a :: os, lo, h, 0, o, ho, hx => by
    obtain ⟨h1, -⟩ := h
    simp at ho
    subst ho
    exact h1 (by simpa using hx)
  | a :: os, lo, h, i + 1, o, ho, hx => by
    obtain ⟨-, h2⟩ := h
    exact vc_sl_inv os (lo + 1) (h2 (by omega)) i o (by simpa using ho) (by rw [hx]; push_cast; omega)
/-- what the table of heads says of a method -/
theorem vc_head {j : Nat} (h : vc_hk j = true) : ∃ kd n, (vc_HP[j]?).map (fun q => (q.1, q.2.1)) = some (kd, n) ∧ Cond.code (vc_hd j).1 (vc_hd j).2.1 (vc_hd j).2.2.1 (vc_hd j).2.2.2.1 ∈ lw_g ∧ Cond.initialized (vc_hd j).1.cls ∈ lw_g ∧ (kd = 0 → Cond.instanceMethod (vc_hd j).1 ∈ lw_g ∧ Cond.selects (vc_hd j).1.cls (vc_hd j).1 (vc_hd j).1 ∈ lw_g) ∧ (¬ kd = 0 → Cond.static (vc_hd j).1 ∈ lw_g) ∧ plainName (vc_hd j).1.cls = true ∧ (vc_hd j).1.cls ≠ "java/lang/invoke/MethodHandle" ∧ (vc_hd j).1.cls ≠ "java/lang/invoke/VarHandle" ∧ (parseMethodDescriptor (vc_hd j).1.desc).map (fun d => d.parameters.length) = some n := by
  unfold vc_hk at h
  split at h
  · cases h
  · rename_i kd n p1 p2 p3 p4 he
    simp only [Bool.and_eq_true, decide_eq_true_eq] at h
    obtain ⟨⟨⟨⟨⟨⟨h1, h2⟩, h3⟩, h4⟩, h5⟩, h6⟩, h7⟩ := h
    refine ⟨kd, n, by rw [he]; rfl, vc_wp_in h1, vc_wp_in h2, fun e => ?_, fun e => ?_, h4, h5, h6, h7⟩
    · rw [if_pos e, Bool.and_eq_true] at h3
      exact ⟨vc_wp_in h3.1, vc_wp_in h3.2⟩
    · rw [if_neg e] at h3
      exact vc_wp_in h3
theorem vc_ws_good {j : Nat} (hc : Cond.code (vc_hd j).1 (vc_hd j).2.1 (vc_hd j).2.2.1 (vc_hd j).2.2.2.1 ∈ lw_g) : GoodIn lw_g (vc_ws j) := by
  intro w hw
  rcases List.mem_cons.mp hw with rfl | hw
  · exact lw_g_good _ hc
  · exact lw_g_good _ hw
theorem vc_blind {K : vc_K} {σ : vc_S} {av : List Value} : FrameBlind (va_Pc av (vc_B K σ)) := fun a U g mk q => ⟨q.1, q.2.1, q.2.2.call⟩
theorem vc_pre {K : vc_K} {σ : vc_S} {s : State} {H : Heap} {locs : List Loc} {av : List Value} (hF : vc_F K s) (hP : va_P K.2.1 vwCl (vc_W K σ) H) (hS : va_S (vc_A K) s.heap H locs) : ∀ U : State, U.heap = H → s.WarmedH U.vm → va_Pc av (vc_B K σ) av.toArray U := fun U hU hW => ⟨rfl, by rw [hU]; exact hP, vc_F.at hW hS hU hF⟩
theorem vc_ct_up (K : vc_K) (r : List Value) : ((r.map (vc_up K)).map fun v => v.category).sum = vc_ct r := by
  unfold vc_ct
  rw [List.map_map]
  congr 1
  exact List.map_congr_left (fun v _ => vc_up_cat K v)
theorem vc_split (st : List Value) (n : Nat) : st = (st.take n).reverse.reverse ++ st.drop n := by simp
theorem vc_callV {K : vc_K} {j a3 a2 n : Nat} {Q1 Q : Option Value → vc_S → Prop} {p : Program} {e : Env} {R : Room} {s : State} {m : MethodId} {args : Array Value} {below : List Frame} {meth : Method} {c : Code} {cells slots : Nat} {Z : State → Prop} {pc idx : Nat} {arr : Array Slot} {H : Heap} {locs : List Loc} {σ : vc_S} {o : Nat} {as r : List Value} (hh : vc_hk a3 = true)
    (F : vc_Fx K j p R s m args c cells slots) (hsz : arr.size = (vc_hd j).2.2.1) (hP : va_P K.2.1 vwCl (vc_W K σ) H) (hS : va_S (vc_A K) s.heap H locs) (hd : decode (vc_hd j).2.1 pc = .ok (.invokevirtual idx, 3))
    (hl : Cond.methodLink (vc_hd j).1.cls idx (vc_hd a3).1 ∈ lw_g) (h2 : (vwCl[a2]?).map (fun q => q.1) = some (vc_hd a3).1.cls) (h3 : (vc_HP[a3]?).map (fun q => (q.1, q.2.1)) = some (0, n)) (h4 : (vc_hd a3).2.2.2.2.1 + 1 ≤ (vc_hd j).2.2.2.2.1) (h5 : 8 + ((vc_hd a3).2.2.1 + 11) + (vc_hd a3).2.2.2.2.2 ≤ (vc_hd j).2.2.2.2.2)
    (hc : vc_cls o = a2 + 3) (hr : vc_ct r ≤ 8) (hn : as.length = n) (hC : vc_C K a3 (.ref o :: as) σ Q1)
    (kk : ∀ (x : Option Value) (σ : vc_S) (H1 : Heap) (locs1 : List Loc), Q1 x σ → va_P K.2.1 vwCl (vc_W K σ) H1 → va_S (vc_A K) s.heap H1 locs1 → W p K.1 e R s m args below meth c H1 locs1 cells slots Z (F0 m (pc + 3) arr ((x.toList ++ r).map (vc_up K)))) :
    W p K.1 e R s m args below meth c H locs cells slots Z (F0 m pc arr ((as.reverse ++ .ref o :: r).map (vc_up K))) := by
  obtain ⟨kd, n', g1, g2, g3, g4, -, g6, g7, g8, g9⟩ := vc_head hh
  rw [h3] at g1
  simp only [Option.some.injEq, Prod.mk.injEq] at g1
  obtain ⟨rfl, rfl⟩ := g1
  obtain ⟨g4, g5⟩ := g4 rfl
  obtain ⟨hx, hb, hml, hown, hts, hF, f1, f2, f3, f4⟩ := F
  obtain ⟨⟨C, T, N⟩, e1, e2⟩ := Option.map_eq_some_iff.mp h2
  dsimp only at e2
  subst e2
  have hlay : ∃ (t : Nat) (fs : List (Option Nat)), vc_lay o = some (a2 + 3, t, fs) := by
    unfold vc_cls at hc
    split at hc
    · rename_i t n fs he
      subst hc
      exact ⟨n, fs, he⟩
    · omega
  obtain ⟨t, fs, hlay⟩ := hlay
  have hrec := va_recv hF.1 hP e1 (vc_W_get hlay)
  have hrun := va_runV (l := K.1) (p := p) (e := e) (R := R) (below := below) (meth := meth) (H := H) (locs := locs) (cells := cells) (slots := slots) (As := as.map (vc_up K)) (rest := r.map (vc_up K)) (b := K.2.2.1 o) (g := F0 m pc arr ((as.reverse ++ .ref o :: r).map (vc_up K))) (nL := (vc_hd j).2.2.1) (Ts := lw_g) (n := n) (mc := 0) (ms := 0) ⟨hx, hb, hml, hown, hts⟩ hC
    ⟨callB_of n hts (vc_ws_good g2) rfl rfl rfl (hts _ g3) (hts _ hl) ⟨g7, g8, g9⟩ ⟨by show (vc_hd a3).2.2.2.2.1 + 1 ≤ _; omega, by show _ + (vc_hd a3).2.2.2.2.2 ≤ _; omega⟩, hts _ g4, hts _ g5⟩
    ⟨vc_blind, hrec, vc_pre hF hP hS⟩ rfl (by simpa using hn) hsz (by simp [vc_up]) (lv_room (by rw [vc_ct_up]; exact hr)) hd ⟨by simpa using f3, by simpa using f4⟩
  refine vc_run hrun hS (fun x σ2 H1 locs1 q1 q2 q3 => ?_)
  have := kk x σ2 H1 locs1 q1 q2 q3
  rw [List.map_append] at this
  cases x <;> exact this
theorem vc_callS {K : vc_K} {j a3 n : Nat} {Q1 Q : Option Value → vc_S → Prop} {p : Program} {e : Env} {R : Room} {s : State} {m : MethodId} {args : Array Value} {below : List Frame} {meth : Method} {c : Code} {cells slots : Nat} {Z : State → Prop} {pc idx : Nat} {arr : Array Slot} {H : Heap} {locs : List Loc} {σ : vc_S} {as r : List Value} (hh : vc_hk a3 = true)
    (F : vc_Fx K j p R s m args c cells slots) (hsz : arr.size = (vc_hd j).2.2.1) (hP : va_P K.2.1 vwCl (vc_W K σ) H) (hS : va_S (vc_A K) s.heap H locs) (hd : decode (vc_hd j).2.1 pc = .ok (.invokestatic idx, 3))
    (hl : Cond.methodLink (vc_hd j).1.cls idx (vc_hd a3).1 ∈ lw_g ∨ Cond.methodLinkNest (vc_hd j).1.cls idx (vc_hd a3).1 "MarkedByNext" = vc_nst) (h3 : (vc_HP[a3]?).map (fun q => (q.1, q.2.1)) = some (1, n)) (h4 : (vc_hd a3).2.2.2.2.1 + 1 ≤ (vc_hd j).2.2.2.2.1) (h5 : 8 + ((vc_hd a3).2.2.1 + 11) + (vc_hd a3).2.2.2.2.2 ≤ (vc_hd j).2.2.2.2.2)
    (hr : vc_ct r ≤ 8) (hn : as.length = n) (hC : vc_C K a3 as σ Q1)
    (kk : ∀ (x : Option Value) (σ : vc_S) (H1 : Heap) (locs1 : List Loc), Q1 x σ → va_P K.2.1 vwCl (vc_W K σ) H1 → va_S (vc_A K) s.heap H1 locs1 → W p K.1 e R s m args below meth c H1 locs1 cells slots Z (F0 m (pc + 3) arr ((x.toList ++ r).map (vc_up K)))) :
    W p K.1 e R s m args below meth c H locs cells slots Z (F0 m pc arr ((as.reverse ++ r).map (vc_up K))) := by
  obtain ⟨kd, n', g1, g2, g3, -, g5, g6, g7, g8, g9⟩ := vc_head hh
  rw [h3] at g1
  simp only [Option.some.injEq, Prod.mk.injEq] at g1
  obtain ⟨rfl, rfl⟩ := g1
  have g5 := g5 (by decide)
  obtain ⟨hx, hb, hml, hown, hts, hF, f1, f2, f3, f4⟩ := F
  have hR : (vc_rm a3).frames + 1 ≤ R.frames ∧ 8 + ((vc_hd a3).2.2.1 + 11) + (vc_rm a3).locals ≤ R.locals := ⟨by show (vc_hd a3).2.2.2.2.1 + 1 ≤ _; omega, by show _ + (vc_hd a3).2.2.2.2.2 ≤ _; omega⟩
  have hrun : va_Run p K.1 e R s m args below meth c H locs cells slots 0 0 (F0 m pc arr ((as.reverse ++ r).map (vc_up K))) (r.map (vc_up K)) (vc_Q K Q1 (as.map (vc_up K)).toArray) (vc_A K) := by
    rcases hl with hl | hl
    · exact va_runS (As := as.map (vc_up K)) (rest := r.map (vc_up K)) (nL := (vc_hd j).2.2.1) (Ts := lw_g) (n := n) (mc := 0) (ms := 0) ⟨hx, hb, hml, hown, hts⟩ hC
        ⟨callB_of n hts (vc_ws_good g2) rfl rfl rfl (hts _ g3) (hts _ hl) ⟨g7, g8, g9⟩ hR, hts _ g5⟩
        ⟨vc_blind, vc_pre hF hP hS⟩ rfl (by simpa using hn) hsz (by simp) (lv_room (by rw [vc_ct_up]; exact hr)) hd ⟨by simpa using f3, by simpa using f4⟩
    · exact va_runSN (host := "MarkedByNext") (As := as.map (vc_up K)) (rest := r.map (vc_up K)) (nL := (vc_hd j).2.2.1) (Ts := lw_g) (n := n) (mc := 0) (ms := 0) ⟨hx, hb, hml, hown, hts⟩ hC
        ⟨va_cnB n hts (vc_ws_good g2) rfl rfl rfl (by rw [hl]; exact hF.2.2.2.2.2) (hts _ g3) ⟨g7, g8, g9⟩ hR, hts _ g5, trivial⟩
        ⟨vc_blind, vc_pre hF hP hS⟩ rfl (by simpa using hn) hsz (by simp) (lv_room (by rw [vc_ct_up]; exact hr)) hd ⟨by simpa using f3, by simpa using f4⟩
  refine vc_run hrun hS (fun x σ2 H1 locs1 q1 q2 q3 => ?_)
  have := kk x σ2 H1 locs1 q1 q2 q3
  rw [List.map_append] at this
  cases x <;> exact this
