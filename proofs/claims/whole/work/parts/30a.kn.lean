/-! constructors: rows for what they do (an array into a final field, an int into a field, a new object), worlds that grow at their end -/
def kt (ca : Nat → ClassId) : List (ClassId × FieldType) := [(ca 0, .int), (ca 1, .boolean), (ca 2, .object "MarkedByNext$Sheet")]
def kF (D : va_G) (ca : Nat → ClassId) (p : Program) (s : State) (m : MethodId) (c : Code) (cc : ByteArray) (args : Array Value) (own : String) (A : Nat → Prop) : Prop :=
  p.tables.exec = Jvm.exec ∧ c.code = cc ∧ (∀ w ∈ lw_g, w.before args s = true) ∧ s.vm.findClass own = some m.cls ∧ va_K D vwCl (kt ca) s ∧ ∀ q : Nat, s.heap.size ≤ q → A q
abbrev kQ (D : va_G) (out : Nat → (Nat → Nat) → va_W) (h0 : Nat) (A : Nat → Prop) : Array Value → State → Outcome → State → Prop := va_Qv (S := Nat → Nat) (fun _ => True) (fun u t => va_P D vwCl (out h0 u) t.heap ∧ va_D A (out h0 u)) A
def kMet (l : Launch) (D : va_G) (ca : Nat → ClassId) (y : MethodName) (bytes : ByteArray) (maxL fr lo mc ms ci : Nat) (fs0 As : List Value) (ex : State → Prop) (out : Nat → (Nat → Nat) → va_W) : Prop :=
  ∀ h0 sz : Nat, Met l y (.code y bytes maxL none :: lw_g) { frames := fr, cells := mc, slots := ms, locals := lo } (va_Pc (.ref h0 :: As) (fun U => U.heap.size = sz ∧ va_P D vwCl [(h0, .inr (ci, fs0))] U.heap ∧ va_K D vwCl (kt ca) U ∧ ex U)) (kQ D out h0 (va_A [(h0, .inr (ci, fs0))] sz)) mc ms (va_A [(h0, .inr (ci, fs0))] sz)
/-- a constant is pushed -/
def kPu (cc : ByteArray) (pc pc1 : Nat) (v : Int32) : Prop := (∃ n : Int, decode cc pc = .ok (.iconst n, 1) ∧ Int32.ofInt n = v ∧ pc + 1 = pc1) ∨ (∃ n : Int, decode cc pc = .ok (.bipush n, 2) ∧ (Int8.ofInt n).toInt32 = v ∧ pc + 2 = pc1) ∨ (∃ n : Int, decode cc pc = .ok (.sipush n, 3) ∧ (Int16.ofInt n).toInt32 = v ∧ pc + 3 = pc1)
theorem kn_ra {s : State} {c1 c2 : ClassId} {ty : FieldType} (h1 : va_RA s c1 ty) (h2 : va_RA s c2 ty) : c1 = c2 := by
  cases ty with
  | object C =>
    obtain ⟨_, _, _, _, _, e1⟩ := h1
    obtain ⟨_, _, _, _, _, e2⟩ := h2
    exact Option.some.inj (e1.symm.trans e2)
  | _ =>
    have h1 : s.vm.findClass _ = some c1 := h1
    have h2 : s.vm.findClass _ = some c2 := h2
    exact Option.some.inj (h1.symm.trans h2)
theorem kn_left {ws w1 : va_W} {k : Nat} {y : Nat × va_E} (h : ws[k]? = some y) : (ws ++ w1)[k]? = some y := by
  rw [List.getElem?_append_left (List.getElem?_eq_some_iff.mp h).1]
  exact h
theorem kn_at {ws r : va_W} {x : Nat × va_E} : (ws ++ x :: r)[ws.length]? = some x := by simp
theorem kn_last {D : va_G} {cl : List vw_C} {ws : va_W} {x : Nat × va_E} {H : Heap} (h : va_P D cl (ws ++ [x]) H) : va_P D cl [x] H := by
  intro k q hk
  have hz : k < 1 := (List.getElem?_eq_some_iff.mp hk).1
  rw [show k = 0 by omega] at hk
  cases hk
  exact h ws.length _ kn_at
theorem kn_free {A : Nat → Prop} {ws : va_W} {q : Nat} {e : va_E} {H0 H : Heap} {locs : List Loc} (hD : va_D A (ws ++ [(q, e)])) (hS : va_S A H0 H locs) (hA : ∀ q : Nat, H0.size ≤ q → A q) : ∀ x, va_A [(q, e)] H.size x → A x := by
  intro x hx
  rcases hx with ⟨k, e2, hk⟩ | h
  · have hz : k < 1 := (List.getElem?_eq_some_iff.mp hk).1
    rw [show k = 0 by omega] at hk
    cases hk
    exact hD.2 ws.length (q, e) kn_at
  · exact hA x (Nat.le_trans hS.1 h)
theorem kn_join {A : Nat → Prop} {D : va_G} {cl : List vw_C} {ws w1 : va_W} {x : Nat × va_E} {H H1 : Heap} (hP : va_P D cl (ws ++ [x]) H) (hD : va_D A (ws ++ [x])) (hk : ∀ q : Nat, q < H.size → ¬ va_A [x] H.size q → H1[q]? = H[q]?) (hF : ∀ q, va_A [x] H.size q → A q) (hP1 : va_P D cl w1 H1) (hD1 : va_D (va_A [x] H.size) w1) : va_P D cl (ws ++ w1) H1 ∧ va_D A (ws ++ w1) := by
  have apart : ∀ (k : Nat) (y : Nat × va_E), ws[k]? = some y → y.1 < H.size ∧ ¬ va_A [x] H.size y.1 := by
    intro k y hy
    have h2 : (ws ++ [x])[k]? = some y := kn_left hy
    have hl := (hP k y h2).lt
    refine ⟨hl, fun h => ?_⟩
    rcases h with ⟨k2, e, h⟩ | h
    · have hz : k2 < 1 := (List.getElem?_eq_some_iff.mp h).1
      rw [show k2 = 0 by omega] at h
      have hx : x = (y.1, e) := Option.some.inj h
      have hij := hD.1 k ws.length y x h2 kn_at (by rw [hx])
      have := (List.getElem?_eq_some_iff.mp hy).1
      omega
    · omega
  refine ⟨va_P.app (fun k y hy => ?_) hP1, va_D.app ⟨fun i j p q hi hj he => hD.1 i j p q (kn_left hi) (kn_left hj) he, fun k q hk => hD.2 k q (kn_left hk)⟩ (hD1.weaken (fun k q _ h => hF q.1 h)) (fun i j x1 y1 hx1 hy1 hxy => ?_)⟩
  · obtain ⟨g1, g2⟩ := apart k y hy
    exact (hP k y (kn_left hy)).kept (hk y.1 g1 g2)
  · exact (apart i x1 hx1).2 (by rw [hxy]; exact hD1.2 j y1 hy1)
theorem kn_D1 {q : Nat} {e : va_E} {sz : Nat} : va_D (va_A [(q, e)] sz) [(q, e)] := by
  refine ⟨fun i j p r hi hj _ => ?_, fun k r hk => va_A.in hk⟩
  have h1 : i < 1 := (List.getElem?_eq_some_iff.mp hi).1
  have h2 : j < 1 := (List.getElem?_eq_some_iff.mp hj).1
  omega
/-- the last cell goes to the second place -/
theorem kn_rot {A : Nat → Prop} {D : va_G} {cl : List vw_C} {w : va_W} {a b : Nat × va_E} {H : Heap} (hP : va_P D cl ((a :: w) ++ [b]) H) (hD : va_D A ((a :: w) ++ [b])) : va_P D cl (a :: b :: w) H ∧ va_D A (a :: b :: w) := by
  have key : ∀ (k : Nat) (y : Nat × va_E), (a :: b :: w)[k]? = some y → k < w.length + 2 ∧ ((a :: w) ++ [b])[if k = 0 then 0 else if k = 1 then w.length + 1 else k - 1]? = some y := by
    intro k y hy
    refine ⟨(List.getElem?_eq_some_iff.mp hy).1, ?_⟩
    match k, hy with
    | 0, hy => exact hy
    | 1, hy =>
      cases hy
      rw [if_neg (by decide), if_pos rfl]
      exact kn_at (ws := a :: w)
    | k + 2, hy =>
      rw [if_neg (by omega), if_neg (by omega)]
      have hy : w[k]? = some y := hy
      show (a :: (w ++ [b]))[k + 1]? = some y
      show (w ++ [b])[k]? = some y
      exact kn_left hy
  refine ⟨fun k y hy => hP _ y (key k y hy).2, fun i j p q hi hj he => ?_, fun k y hy => hD.2 _ y (key k y hy).2⟩
  obtain ⟨i1, i2⟩ := key i p hi
  obtain ⟨j1, j2⟩ := key j q hj
  have h := hD.1 _ _ p q i2 j2 he
  split at h <;> split at h <;> (try split at h) <;> (try split at h) <;> omega
theorem kn_swap {A : Nat → Prop} {D : va_G} {cl : List vw_C} {a b c d : va_W} {H : Heap} (hP : va_P D cl (a ++ (b ++ (c ++ d))) H) (hD : va_D A (a ++ (b ++ (c ++ d)))) : va_P D cl (a ++ (c ++ (b ++ d))) H ∧ va_D A (a ++ (c ++ (b ++ d))) := by
  have key : ∀ (k : Nat) (y : Nat × va_E), (a ++ (c ++ (b ++ d)))[k]? = some y → (a ++ (b ++ (c ++ d)))[if k < a.length then k else if k < a.length + c.length then k + b.length else if k < a.length + c.length + b.length then k - c.length else k]? = some y := by
    intro k y hy
    by_cases h1 : k < a.length
    · rw [if_pos h1, List.getElem?_append_left h1]
      rw [List.getElem?_append_left h1] at hy
      exact hy
    · rw [if_neg h1]
      rw [List.getElem?_append_right (by omega)] at hy
      by_cases h2 : k < a.length + c.length
      · rw [if_pos h2, List.getElem?_append_right (by omega), List.getElem?_append_right (by omega), List.getElem?_append_left (by omega)]
        rw [List.getElem?_append_left (by omega)] at hy
        rw [show k + b.length - a.length - b.length = k - a.length by omega]
        exact hy
      · rw [if_neg h2]
        rw [List.getElem?_append_right (by omega)] at hy
        by_cases h3 : k < a.length + c.length + b.length
        · rw [if_pos h3, List.getElem?_append_right (by omega), List.getElem?_append_left (by omega)]
          rw [List.getElem?_append_left (by omega)] at hy
          rw [show k - c.length - a.length = k - a.length - c.length by omega]
          exact hy
        · rw [if_neg h3, List.getElem?_append_right (by omega), List.getElem?_append_right (by omega), List.getElem?_append_right (by omega)]
          rw [List.getElem?_append_right (by omega)] at hy
          rw [show k - a.length - b.length - c.length = k - a.length - c.length - b.length by omega]
          exact hy
  refine ⟨fun k y hy => hP _ y (key k y hy), fun i j p q hi hj he => ?_, fun k y hy => hD.2 _ y (key k y hy)⟩
  have h := hD.1 _ _ p q (key i p hi) (key j q hj) he
  (repeat' split at h) <;> omega
theorem kn_perm {A : Nat → Prop} {D : va_G} {cl : List vw_C} {x y : Nat × va_E} {w1 w2 w3 : va_W} {H : Heap} (hP : va_P D cl (x :: y :: (w1 ++ (w2 ++ w3))) H) (hD : va_D A (x :: y :: (w1 ++ (w2 ++ w3)))) : va_P D cl (x :: (w1 ++ (y :: (w3 ++ w2)))) H ∧ va_D A (x :: (w1 ++ (y :: (w3 ++ w2)))) := by
  obtain ⟨hP1, hD1⟩ := kn_swap (a := x :: y :: w1) (b := w2) (c := w3) (d := []) (by rw [List.append_nil]; exact hP) (by rw [List.append_nil]; exact hD)
  rw [List.append_nil] at hP1 hD1
  exact kn_swap (a := [x]) (b := [y]) (c := w1) (d := w3 ++ w2) hP1 hD1
section KN
variable {p : Program} {l : Launch} {e : Env} {R : Room} {s : State} {m : MethodId} {args : Array Value} {below : List Frame} {meth : Method} {c : Code} {H : Heap} {locs : List Loc} {cells slots : Nat} {Q : State → Prop}
variable {cc : ByteArray} {pc : Nat} {ls : Array Slot} {rest : List Value} {D : va_G} {ca : Nat → ClassId} {A : Nat → Prop} {ws : va_W} {own : String}
theorem kn_push (F : kF D ca p s m c cc args own A) {v : Int32} {pc1 : Nat} (h : kPu cc pc pc1 v) (kk : W p l e R s m args below meth c H locs cells slots Q (F0 m pc1 ls (.int v :: rest))) : W p l e R s m args below meth c H locs cells slots Q (F0 m pc ls rest) := by
  obtain ⟨hx, hb, -⟩ := F
  rcases h with ⟨n, h1, h2, rfl⟩ | ⟨n, h1, h2, rfl⟩ | ⟨n, h1, h2, rfl⟩
  · exact lv_iconst hx hb h1 h2 kk
  · exact lv_bipush hx hb h1 h2 kk
  · exact lv_sipush hx hb h1 h2 kk
theorem kn_newa (F : kF D ca p s m c cc args own A) {atype : ArrayType} {ety : FieldType} (t : Nat) (ht : (kt ca)[t]? = some (ca t, ety)) (hat : newarray.typeOf atype = ety) (hdv : defaultValue ety = .int 0) (hcb : componentBytes ety ≤ 4) (harr : Cond.arrayClass ety ∈ lw_g) (hP : va_P D vwCl ws H) (hD : va_D A ws) (hS : va_S A s.heap H locs) {v : Int32} {N' : Nat} (hv : ¬ v < 0) (hN : v.toNatClampNeg = N') (hsm : N' ≤ 1000) (hcells : cells + 1 ≤ R.cells) (hslots : slots + N' ≤ R.slots) (hdg : decode cc pc = .ok (.newarray atype, 2))
    (kk : ∀ (q : Nat) (H1 : Heap), va_P D vwCl (ws ++ [(q, .inl (ca t, N', .inl (fun _ => 0)))]) H1 → va_D A (ws ++ [(q, .inl (ca t, N', .inl (fun _ => 0)))]) → va_S A s.heap H1 locs → W p l e R s m args below meth c H1 locs (cells + 1) (slots + N') Q (F0 m (pc + 2) ls (.ref q :: rest))) : W p l e R s m args below meth c H locs cells slots Q (F0 m pc ls (.int v :: rest)) := by
  obtain ⟨hx, hb, hts, hown, hK, hA⟩ := F
  refine va_newa (a0 := (N', .inl (fun _ => 0))) hx hb (by rw [hat]; exact hts _ harr) hat hK hP hD hS hA (fun cA => ?_) hv hN ?_ hcells hslots hdg (fun q cA H1 hK1 hP1 hD1 hS1 => ?_)
  · rw [hdv]; rfl
  · exact Nat.le_trans (Nat.mul_le_mul hsm hcb) (by decide)
  · have e : cA = ca t := kn_ra (hK1.2 3 (cA, ety) rfl).2 (hK.2 t _ ht).2
    subst e
    exact kk q H1 hP1 hD1 hS1
/-- an array into a final field of this -/
theorem kn_A (F : kF D ca p s m c cc args own A) (hin0 : meth.name = "<init>") {ci N : Nat} {T : u_T} (hc : vwCl[ci]? = some (own, T, N)) (hin : ∀ w ∈ u_ws own T N, w ∈ lw_g) (ty0 : Nat → FieldType) (hty : ∀ k, k < N → parseFieldDescriptor (T k).2.2.1 = some (ty0 k)) (hnm : ∀ a, a < N → ∀ b, b < N → a ≠ b → (T a).2.1 ≠ (T b).2.1) {h0 : Nat} {fs : List Value} {w : va_W} (hl : ls[0]? = some (.val (.ref h0))) (hP : va_P D vwCl ((h0, .inr (ci, fs)) :: w) H) (hD : va_D A ((h0, .inr (ci, fs)) :: w)) (hS : va_S A s.heap H locs)
    {atype : ArrayType} {ety : FieldType} (t : Nat) (ht : (kt ca)[t]? = some (ca t, ety)) (hat : newarray.typeOf atype = ety) (hdv : defaultValue ety = .int 0) (hcb : componentBytes ety ≤ 4) (harr : Cond.arrayClass ety ∈ lw_g) {v : Int32} {N' : Nat} (hv : ¬ v < 0) (hN : v.toNatClampNeg = N') (hsm : N' ≤ 1000) (hcells : cells + 1 ≤ R.cells) (hslots : slots + N' ≤ R.slots)
    (index k : Nat) {pc1 : Nat} (hk : k < N) (hfl : k < fs.length) (hlk : Cond.fieldLink own index (T k).1 (T k).2.1 (T k).2.2.1 ∈ lw_g) (hfin : (T k).2.2.2 = true) (hdecl : (T k).1 = own) (hd : parseFieldDescriptor (T k).2.2.1 = some (.array ety))
    (d0 : decode cc pc = .ok (.aload_n 0, 1)) (d1 : kPu cc (pc + 1) pc1 v) (d2 : decode cc pc1 = .ok (.newarray atype, 2)) (d3 : decode cc (pc1 + 2) = .ok (.putfield index, 3))
    (kk : ∀ (q : Nat) (H1 : Heap) (locs1 : List Loc), va_P D vwCl ((h0, .inr (ci, fs.set k (.ref q))) :: (w ++ [(q, .inl (ca t, N', .inl (fun _ => 0)))])) H1 → va_D A ((h0, .inr (ci, fs.set k (.ref q))) :: (w ++ [(q, .inl (ca t, N', .inl (fun _ => 0)))])) → va_S A s.heap H1 locs1 → W p l e R s m args below meth c H1 locs1 (cells + 1) (slots + N') Q (F0 m (pc1 + 5) ls rest)) : W p l e R s m args below meth c H locs cells slots Q (F0 m pc ls rest) := by
  have F1 := F
  obtain ⟨hx, hb, hts, hown, hK, hA⟩ := F
  refine lv_aload_n hx hb d0 rfl hl ?_
  refine kn_push F1 d1 ?_
  refine kn_newa F1 t ht hat hdv hcb harr hP hD hS hv hN hsm hcells hslots d2 (fun q H1 hP1 hD1 hS1 => ?_)
  refine va_putF (D := D) (ci := ci) (v := .ref q) (ty := .array ety) (C := own) (T := T) (N := N) hx hb hts hin ty0 hty hnm hown hK hP1 hD1 hS1 0 rfl hc k hk (hts _ hlk) (fun _ h9 => h9) hfin hin0 hdecl hd rfl rfl hfl d3 (fun H2 locs2 hP2 hD2 hS2 => ?_)
  exact kk q H2 locs2 hP2 hD2 hS2
/-- an int into a field of this -/
theorem kn_B (F : kF D ca p s m c cc args own A) {ci N : Nat} {T : u_T} (hc : vwCl[ci]? = some (own, T, N)) (hin : ∀ w ∈ u_ws own T N, w ∈ lw_g) (ty0 : Nat → FieldType) (hty : ∀ k, k < N → parseFieldDescriptor (T k).2.2.1 = some (ty0 k)) (hnm : ∀ a, a < N → ∀ b, b < N → a ≠ b → (T a).2.1 ≠ (T b).2.1) {h0 : Nat} {fs : List Value} {w : va_W} (hl : ls[0]? = some (.val (.ref h0))) (hP : va_P D vwCl ((h0, .inr (ci, fs)) :: w) H) (hD : va_D A ((h0, .inr (ci, fs)) :: w)) (hS : va_S A s.heap H locs)
    {v : Int32} (index k : Nat) {pc1 : Nat} (hk : k < N) (hfl : k < fs.length) (hlk : Cond.fieldLink own index (T k).1 (T k).2.1 (T k).2.2.1 ∈ lw_g) (hfin : (T k).2.2.2 = false) {ty : FieldType} (hd : parseFieldDescriptor (T k).2.2.1 = some ty) (hn : narrow ty (.int v) = .int v) (hft : fits ty (.int v) = true)
    (d0 : decode cc pc = .ok (.aload_n 0, 1)) (d1 : kPu cc (pc + 1) pc1 v) (d3 : decode cc pc1 = .ok (.putfield index, 3))
    (kk : ∀ (H1 : Heap) (locs1 : List Loc), va_P D vwCl ((h0, .inr (ci, fs.set k (.int v))) :: w) H1 → va_D A ((h0, .inr (ci, fs.set k (.int v))) :: w) → va_S A s.heap H1 locs1 → W p l e R s m args below meth c H1 locs1 cells slots Q (F0 m (pc1 + 3) ls rest)) : W p l e R s m args below meth c H locs cells slots Q (F0 m pc ls rest) := by
  have F1 := F
  obtain ⟨hx, hb, hts, hown, hK, hA⟩ := F
  refine lv_aload_n hx hb d0 rfl hl ?_
  refine kn_push F1 d1 ?_
  refine va_put (D := D) (ci := ci) (v := .int v) (ty := ty) (C := own) (T := T) (N := N) hx hb hts hin ty0 hty hnm hown hK hP hD hS 0 rfl hc k hk (hts _ hlk) (fun _ h9 => h9) hfin hd hn hft hfl d3 (fun H2 locs2 hP2 hD2 hS2 => ?_)
  exact kk H2 locs2 hP2 hD2 hS2
/-- new, dup -/
theorem kn_new (F : kF D ca p s m c cc args own A) {C : String} {T : u_T} {N : Nat} (ci idx : Nat) (hc : vwCl[ci]? = some (C, T, N)) (hin : ∀ w ∈ u_ws C T N, w ∈ lw_g) (ty : Nat → FieldType) (hty : ∀ k, k < N → parseFieldDescriptor (T k).2.2.1 = some (ty k)) (hcl : Cond.classLink own idx C ∈ lw_g) (hinst : Cond.instantiable C N ∈ lw_g) (hini : Cond.initialized C ∈ lw_g) (fs0 : List Value) (hfs : ∀ j, j < N → defaultValue (ty j) = vp_V fs0 j) (hP : va_P D vwCl ws H) (hD : va_D A ws) (hS : va_S A s.heap H locs) (hcells : cells + 1 ≤ R.cells) (hslots : slots + N ≤ R.slots) (d0 : decode cc pc = .ok (.new idx, 3)) (d1 : decode cc (pc + 3) = .ok (.dup, 1))
    (kk : ∀ (q : Nat) (H1 : Heap), va_P D vwCl (ws ++ [(q, .inr (ci, fs0))]) H1 → va_D A (ws ++ [(q, .inr (ci, fs0))]) → va_S A s.heap H1 locs → W p l e R s m args below meth c H1 locs (cells + 1) (slots + N) Q (F0 m (pc + 4) ls (.ref q :: .ref q :: rest))) : W p l e R s m args below meth c H locs cells slots Q (F0 m pc ls rest) := by
  obtain ⟨hx, hb, hts, hown, hK, hA⟩ := F
  refine va_new (ci := ci) (fs := fs0) (C := C) (T := T) (N := N) hx hb hts hin ty hty hown (hts _ hcl) (hts _ hinst) (hts _ hini) hK hP hD hS hA hc hfs hcells hslots d0 (fun q H1 hP1 hD1 hS1 => ?_)
  refine lv_dup hx hb d1 rfl ?_
  exact kk q H1 hP1 hD1 hS1
/-- a constructor is called -/
theorem kn_call (F : kF D ca p s m c cc args own A) (hnl : c.maxLocals = ls.size) {y : MethodName} {bytes : ByteArray} {maxL mc ms n index ci fr lo : Nat} {fs0 As st0 : List Value} {ex : State → Prop} {out : Nat → (Nat → Nat) → va_W} {q : Nat} (hM : kMet l D ca y bytes maxL fr lo mc ms ci fs0 As ex out) (hst0 : st0 = As.reverse ++ .ref q :: rest) (hlk : Cond.methodLink own index y ∈ lw_g ∨ va_Nw (.methodLinkNest own index y "MarkedByNext") s) (hcode : Cond.code y bytes maxL none ∈ lw_g) (hini : Cond.initialized y.cls ∈ lw_g) (hinm : Cond.instanceMethod y ∈ lw_g) (hy : y.name = "<init>") (hd : y.cls ≠ "java/lang/invoke/MethodHandle" ∧ y.cls ≠ "java/lang/invoke/VarHandle" ∧ (parseMethodDescriptor y.desc).map (fun d => d.parameters.length) = some n) (hn : As.length = n) (hR : fr + 1 ≤ R.frames ∧ 8 + (maxL + 11) + lo ≤ R.locals) (hex1 : FrameBlind (fun _ U => ex U)) (hex2 : ∀ U : State, U.heap = H → s.WarmedH U.vm → ex U)
    (hP : va_P D vwCl (ws ++ [(q, .inr (ci, fs0))]) H) (hD : va_D A (ws ++ [(q, .inr (ci, fs0))])) (hS : va_S A s.heap H locs) (hst : (rest.map fun v => v.category).sum ≤ 8) (hcells : cells + mc ≤ R.cells) (hslots : slots + ms ≤ R.slots) (hdg : decode cc pc = .ok (.invokespecial index, 3))
    (kk : ∀ (u : Nat → Nat) (H1 : Heap) (locs1 : List Loc), va_P D vwCl (ws ++ out q u) H1 → va_D A (ws ++ out q u) → va_S A s.heap H1 locs1 → W p l e R s m args below meth c H1 locs1 (cells + mc) (slots + ms) Q (F0 m (pc + 3) ls rest)) : W p l e R s m args below meth c H locs cells slots Q (F0 m pc ls st0) := by
  obtain ⟨hx, hb, hts, hown, hK, hA⟩ := F
  subst hst0
  have hG : GoodIn lw_g (Cond.code y bytes maxL none :: lw_g) := fun w hw => by
    rcases List.mem_cons.mp hw with rfl | h
    · exact lw_g_good _ hcode
    · exact lw_g_good _ h
  have hPc : va_P D vwCl [(q, .inr (ci, fs0))] H := kn_last hP
  have hFc : ∀ x, va_A [(q, .inr (ci, fs0))] H.size x → A x := kn_free hD hS hA
  have pre : PreS s H (va_Pc (.ref q :: As) (fun U => U.heap.size = H.size ∧ va_P D vwCl [(q, .inr (ci, fs0))] U.heap ∧ va_K D vwCl (kt ca) U ∧ ex U)) (.ref q :: As) := ⟨fun a U g mk z => by
      obtain ⟨z0, z1, z2, z3, z4⟩ := z
      exact ⟨z0, z1, z2, va_K.moved (u := U) (U := U.calling g mk a) (Vm.Alike.refl U.vm) z3, hex1 a U g mk z4⟩, fun U hU hW => ⟨rfl, by rw [hU], by rw [hU]; exact hPc, va_K.moved hW.alike hK, hex2 U hU hW⟩⟩
  have run : va_Run p l e R s m args below meth c H locs cells slots mc ms (F0 m pc ls (As.reverse ++ .ref q :: rest)) rest (kQ D out q (va_A [(q, .inr (ci, fs0))] H.size) (.ref q :: As).toArray) (va_A [(q, .inr (ci, fs0))] H.size) := by
    rcases hlk with hlk | hlk
    · exact va_runI ⟨hx, hb, hnl, hown, hts⟩ (hM q H.size) (cwI n hts hG rfl rfl rfl (hts _ hini) (hts _ hlk) (hts _ hinm) hy hd hR) pre rfl hn rfl rfl (lv_room hst) hdg ⟨hcells, hslots⟩
    · exact va_runIN ⟨hx, hb, hnl, hown, hts⟩ (hM q H.size) ⟨va_cnB n hts hG rfl rfl rfl hlk (hts _ hini) hd hR, hy, hts _ hinm⟩ pre rfl hn rfl rfl (lv_room hst) hdg ⟨hcells, hslots⟩
  refine va_callv run hS (fun x _ h => hFc x h) hFc (fun u t H1 locs1 ht hvm _ hB hz1 hk1 hS1 => ?_)
  obtain ⟨hP1, hD1⟩ := hB
  rw [ht] at hP1
  obtain ⟨hP2, hD2⟩ := kn_join hP hD hk1 hFc hP1 hD1
  exact kk u H1 locs1 hP2 hD2 hS1
/-- the end of a constructor -/
theorem kn_ret (F : kF D ca p s m c cc args own A) (hr : meth.sig.returnType = none) (hlocks : meth.locks = false) {out : Nat → (Nat → Nat) → va_W} {h0 mc ms : Nat} (u : Nat → Nat) (hP : va_P D vwCl (out h0 u) H) (hD : va_D A (out h0 u)) (hS : va_S A s.heap H locs) (hc : cells ≤ mc) (hs : slots ≤ ms) (hdg : decode cc pc = .ok (.return_, 1)) : W p l e R s m args below meth c H locs cells slots (MQ below (kQ D out h0 A) args s mc ms A) (F0 m pc ls []) := by
  obtain ⟨hx, hb, hts, hown, hK, hA⟩ := F
  refine W.widen hc hs ?_
  exact W.vret hx hb hr (fun t ht hW => ⟨⟨u, rfl, trivial, by rw [ht]; exact hP, hD⟩, hS.F ht⟩) hS.2.2 hdg hlocks
end KN
theorem kn_oi : Cond.instanceMethod objectInit ∈ lw_g ∧ Cond.code objectInit ⟨#[0xb1]⟩ 1 none ∈ lw_g := by
  have h := lw_g_all (ws := [Cond.instanceMethod objectInit, Cond.code objectInit ⟨#[0xb1]⟩ 1 none]) (by decide +kernel)
  exact ⟨h _ (by simp), h _ (by simp)⟩
theorem kn_ar : Cond.arrayClass .int ∈ lw_g ∧ Cond.arrayClass .boolean ∈ lw_g := by
  have h := lw_g_all (ws := [Cond.arrayClass .int, Cond.arrayClass .boolean]) (by decide +kernel)
  exact ⟨h _ (by simp), h _ (by simp)⟩
/-- a constructor's contract out of its walk behind Object.<init> -/
theorem kn_init {l : Launch} {D : va_G} {ca : Nat → ClassId} {y : MethodName} {bytes : ByteArray} {maxL fr lo mc ms ci idx : Nat} {fs0 As : List Value} {ex : State → Prop} {out : Nat → (Nat → Nat) → va_W} (hpl : plainName y.cls = true) (hyn : y.name = "<init>") (hfr : 1 ≤ fr) (hlo : 12 ≤ lo) (hent : ∀ h0 : Nat, (lg_sl (.ref h0 :: As)).length ≤ maxL) (d0 : decode bytes 0 = .ok (.aload_n 0, 1)) (d1 : decode bytes 1 = .ok (.invokespecial idx, 3)) (hlk : Cond.methodLink y.cls idx objectInit ∈ lw_g)
    (body : ∀ (p : Program) (e : Env) (s : State) (m : MethodId) (args : Array Value) (below : List Frame) (meth : Method) (c : Code) (h0 : Nat) (A : Nat → Prop) (ls : Array Slot), kF D ca p s m c bytes args y.cls A → meth.name = "<init>" → meth.sig.returnType = none → meth.locks = false → c.maxLocals = ls.size → lv_has ls maxL (lv_args 0 (.ref h0 :: As)) → va_P D vwCl [(h0, .inr (ci, fs0))] s.heap → va_D A [(h0, .inr (ci, fs0))] → ex s → W p l e { frames := fr, cells := mc, slots := ms, locals := lo } s m args below meth c s.heap [] 0 0 (MQ below (kQ D out h0 A) args s mc ms A) (F0 m 4 ls [])) : kMet l D ca y bytes maxL fr lo mc ms ci fs0 As ex out := by
  intro h0 sz
  refine Met.ofW (cc := bytes) (maxL := maxL) (ret := none) hpl rfl ?_
  intro p e s m args below meth c s₁ B hml hv
  obtain ⟨rfl, hsz, hP, hK, hex⟩ := hv
  have hx := B.exec
  have hb := B.bytes
  have hr := B.returns
  have hts : ∀ w ∈ lw_g, w.before (Value.ref h0 :: As).toArray s = true := fun w hw => atoms_spec (ws := .code y bytes maxL none :: lw_g) B.pre w (List.mem_cons_of_mem _ hw)
  have hown : s.vm.findClass y.cls = some m.cls := findClass_of_methodNamed B.named
  have hlocks := B.notSynchronized
  have hn0 : meth.name = "<init>" := (name_of_methodNamed B.named B.method).1.trans hyn
  subst hsz
  have hD := kn_D1 (q := h0) (e := .inr (ci, fs0)) (sz := s.heap.size)
  generalize hAe : va_A [(h0, .inr (ci, fs0))] s.heap.size = A at hD ⊢
  have hA : ∀ q : Nat, s.heap.size ≤ q → A q := fun q h => by rw [← hAe]; exact Or.inr h
  have hl := lv_entry (.ref h0 :: As) (n := maxL) (hent h0)
  rw [lg_entry_eq]
  generalize (lg_sl (.ref h0 :: As) ++ List.replicate (maxL - (lg_sl (.ref h0 :: As)).length) Slot.unset).toArray = ls at hl ⊢
  have l0 : ls[0]? = some (.val (.ref h0)) := lv_at hl 0 rfl
  refine lv_aload_n hx hb d0 rfl l0 ?_
  refine W.objInit hx hb hown (hts _ hlk) (hts _ kn_oi.1) (hts _ kn_oi.2) rfl (by rw [hml]; exact hl.1) rfl d1 hfr (by show 2 * 0 + 0 + 12 ≤ lo; omega) ?_
  refine W.eq (g2 := F0 m 4 ls []) rfl ?_
  exact body p e s m _ below meth c h0 A ls ⟨hx, hb, hts, hown, hK, hA⟩ hn0 hr hlocks (by rw [hml]; exact hl.1.symm) hl hP hD hex
