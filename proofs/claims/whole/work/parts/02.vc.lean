/-! A CALCULUS OF BLOCKS over the kit's W. A state is two functions: σ.1 o k is the int in slot k of object o, σ.2 a i the int at i of array a (objects and arrays by number, vc_LAY; 1000 is the script, 1001 ORDERS). vc_C: a call of method j; vc_G: the machine stands in method j at pc; vc_wi: what a block of code asks for. -/
/-- a word by its place -/
def vc_wp (p : Nat) (w : Cond) : Bool := decide (lw_tbl[p]? = some w) && goodWord w
theorem vc_wp_in {p : Nat} {w : Cond} (h : vc_wp p w = true) : w ∈ lw_g := by
  unfold vc_wp at h
  rw [Bool.and_eq_true, decide_eq_true_eq] at h
  exact lw_g_in (List.mem_of_getElem? h.1) h.2
abbrev vc_S : Type := (Nat → Nat → Int32) × (Nat → Nat → Int32)
/-- launch, numbers of classes and slots, addresses, array classes, the script's length and ints -/
abbrev vc_K : Type := Launch × va_G × (Nat → Nat) × (Nat → ClassId) × Nat × (Nat → Int32)
/-- an instruction: pc, length, itself, what its operands are resolved to, its constant -/
abbrev vc_I : Type := Nat × Nat × Instr × (Nat × Nat × Nat × Nat) × (Int32 × Int64)
def vc_hd (j : Nat) : vc_H := vc_HS.getD j vc_h0
def vc_lay (i : Nat) : Option vc_L := vc_LAY[i]?
def vc_arr (a : Nat) : Option (Nat × Nat) := match vc_lay a with
  | some (0, n, _) => some (0, n)
  | some (1, n, _) => some (1, n)
  | _ => none
def vc_fld (o ci k : Nat) : Option (Option Nat) := match vc_lay o with
  | some (t, _, fs) => if t = ci + 3 then fs[k]? else none
  | none => none
def vc_cls (o : Nat) : Nat := match vc_lay o with
  | some (t, _, _) => t
  | none => 0
def vc_cell (K : vc_K) (σ : vc_S) (i : Nat) (q : vc_L) : va_E := match q.1 with
  | 0 => .inl (K.2.2.2.1 0, q.2.1, .inl (σ.2 i))
  | 1 => .inl (K.2.2.2.1 1, q.2.1, .inl (σ.2 i))
  | 2 => .inl (K.2.2.2.1 2, q.2.1, .inr (.inr (.inr (.inr (fun j => (q.2.2.getD j none).map K.2.2.1)))))
  | t + 3 => .inr (t, q.2.2.mapIdx (fun k f => match f with | some j => Value.ref (K.2.2.1 j) | none => Value.int (σ.1 i k)))
def vc_W (K : vc_K) (σ : vc_S) : va_W := vc_LAY.mapIdx (fun i q => (K.2.2.1 i, vc_cell K σ i q))
def vc_A (K : vc_K) : Nat → Prop := fun a => ∃ i, i < vc_LAY.length ∧ a = K.2.2.1 i
def vc_inj (K : vc_K) : Prop := ∀ i j, i < vc_LAY.length → j < vc_LAY.length → K.2.2.1 i = K.2.2.1 j → i = j
theorem vc_W_get {K : vc_K} {σ : vc_S} {i : Nat} {q : vc_L} (h : vc_lay i = some q) : (vc_W K σ)[i]? = some (K.2.2.1 i, vc_cell K σ i q) := by
  unfold vc_lay at h
  simp [vc_W, h]
theorem vc_D {K : vc_K} {σ : vc_S} (hi : vc_inj K) : va_D (vc_A K) (vc_W K σ) := by
  have hl : ∀ (i : Nat) (p : Nat × va_E), (vc_W K σ)[i]? = some p → i < vc_LAY.length ∧ p.1 = K.2.2.1 i := by
    intro i p h
    unfold vc_W at h
    rw [List.getElem?_mapIdx] at h
    cases hq : vc_LAY[i]? with
    | none => rw [hq] at h; cases h
    | some q =>
      rw [hq] at h
      have h1 := Option.some.inj h
      exact ⟨(List.getElem?_eq_some_iff.mp hq).1, by rw [← h1]⟩
  refine ⟨fun i j p q hp hq he => ?_, fun k q hk => ?_⟩
  · obtain ⟨a1, a2⟩ := hl i p hp
    obtain ⟨b1, b2⟩ := hl j q hq
    exact hi i j a1 b1 (by rw [← a2, ← b2]; exact he)
  · obtain ⟨a1, a2⟩ := hl k q hk
    exact ⟨k, a1, a2⟩
def vc_sa (σ : vc_S) (a : Nat) (f : Nat → Int32) : vc_S := (σ.1, fun b => if b = a then f else σ.2 b)
def vc_sg (σ : vc_S) (o k : Nat) (x : Int32) : vc_S := (fun b i => if b = o ∧ i = k then x else σ.1 b i, σ.2)
theorem vc_W_sa {K : vc_K} {σ : vc_S} {a : Nat} {q : vc_L} {f : Nat → Int32} {t : Nat} (h : vc_lay a = some q) (ht : q.1 = t) (ht2 : t = 0 ∨ t = 1) : (vc_W K σ).set a (K.2.2.1 a, .inl (K.2.2.2.1 t, q.2.1, .inl f)) = vc_W K (vc_sa σ a f) := by
  unfold vc_lay at h
  obtain ⟨q1, n, fs⟩ := q
  dsimp only at ht
  subst ht
  apply List.ext_getElem?
  intro i
  rw [List.getElem?_set]
  unfold vc_W
  rw [List.getElem?_mapIdx, List.getElem?_mapIdx]
  by_cases hi : a = i
  · subst hi
    have hl : a < vc_LAY.length := (List.getElem?_eq_some_iff.mp h).1
    rw [h]
    rcases ht2 with rfl | rfl <;> simp [vc_cell, vc_sa, hl]
  · rw [if_neg hi]
    cases hq : vc_LAY[i]? with
    | none => rfl
    | some r =>
      obtain ⟨r1, r2, r3⟩ := r
      have hne : ¬ i = a := fun e => hi e.symm
      simp only [Option.map_some]
      congr 2
      unfold vc_cell vc_sa
      simp [hne]
theorem vc_W_sg {K : vc_K} {σ : vc_S} {o k t n : Nat} {fs : List (Option Nat)} {x : Int32} (h : vc_lay o = some (t + 3, n, fs)) (hk : fs[k]? = some none) : (vc_W K σ).set o (K.2.2.1 o, .inr (t, (fs.mapIdx (fun k f => match f with | some j => Value.ref (K.2.2.1 j) | none => Value.int (σ.1 o k))).set k (.int x))) = vc_W K (vc_sg σ o k x) := by
  unfold vc_lay at h
  apply List.ext_getElem?
  intro i
  rw [List.getElem?_set]
  unfold vc_W
  rw [List.getElem?_mapIdx, List.getElem?_mapIdx]
  by_cases hi : o = i
  · subst hi
    have hl : o < vc_LAY.length := (List.getElem?_eq_some_iff.mp h).1
    rw [h, if_pos rfl]
    simp only [List.length_mapIdx, hl, if_true, Option.map_some, vc_cell, vc_sg]
    congr 3
    refine congrArg (Prod.mk t) ?_
    apply List.ext_getElem?
    intro j
    rw [List.getElem?_set, List.getElem?_mapIdx, List.getElem?_mapIdx]
    by_cases hj : k = j
    · subst hj
      have hl2 : k < fs.length := (List.getElem?_eq_some_iff.mp hk).1
      rw [if_pos rfl, hk, List.length_mapIdx, if_pos hl2]
      simp
    · have hj2 : ¬ j = k := fun e => hj e.symm
      simp [hj, hj2]
  · rw [if_neg hi]
    cases hq : vc_LAY[i]? with
    | none => rfl
    | some r =>
      obtain ⟨r1, r2, r3⟩ := r
      have hne : ¬ i = o := fun e => hi e.symm
      simp only [Option.map_some]
      congr 2
      unfold vc_cell vc_sg
      simp [hne]
def vc_tys (K : vc_K) : List (ClassId × FieldType) := [(K.2.2.2.1 0, .int), (K.2.2.2.1 1, .boolean), (K.2.2.2.1 2, .object "MarkedByNext$Sheet")]
def vc_ords : Nat → Int32 := fun j => [(0 : Int32), 1, 2, 0, 2, 1, 1, 0, 2, 1, 2, 0, 2, 0, 1, 2, 1, 0].getD j 0
def vc_nst : Cond := .methodLinkNest "MarkedByNext$Tally" 25 ⟨"MarkedByNext", "power", "(JI)J"⟩ "MarkedByNext"
def vc_F (K : vc_K) (s : State) : Prop := va_K K.2.1 vwCl (vc_tys K) s ∧ vc_inj K ∧ (va_X (K.2.2.1 1000) K.2.2.2.2.1 K.2.2.2.2.2 s s.heap ∧ K.2.2.1 1000 < s.heap.size ∧ ¬ vc_A K (K.2.2.1 1000)) ∧ (va_X (K.2.2.1 1001) 18 vc_ords s s.heap ∧ K.2.2.1 1001 < s.heap.size ∧ ¬ vc_A K (K.2.2.1 1001)) ∧ va_Z "MarkedByNext" "ORDERS" "[I" (.ref (K.2.2.1 1001)) (vc_A K) s s.heap ∧ va_Nw vc_nst s
theorem vc_F.at {K : vc_K} {s U : State} {H : Heap} {locs : List Loc} (hW : s.WarmedH U.vm) (hS : va_S (vc_A K) s.heap H locs) (hU : U.heap = H) (h : vc_F K s) : vc_F K U := by
  obtain ⟨h1, h2, ⟨h3, h4, h5⟩, ⟨h6, h7, h8⟩, h9, h10⟩ := h
  subst hU
  refine ⟨va_K.moved hW.alike h1, h2, ⟨(h3.kept (hS.2.1 _ h4 h5)).moved hW.alike, Nat.lt_of_lt_of_le h4 hS.1, h5⟩, ⟨(h6.kept (hS.2.1 _ h7 h8)).moved hW.alike, Nat.lt_of_lt_of_le h7 hS.1, h8⟩, (h9.kept hS.2.1).moved hW.alike, va_Nw.warmM hW h10⟩
theorem vc_F.call {K : vc_K} {U : State} {g : JFrame} {mk : MethodId} {a : Array Value} (h : vc_F K U) : vc_F K (U.calling g mk a) := by
  obtain ⟨h1, h2, ⟨h3, h4, h5⟩, ⟨h6, h7, h8⟩, h9, h10⟩ := h
  exact ⟨va_K.moved (u := U) (U := U.calling g mk a) (Vm.Alike.refl U.vm) h1, h2, ⟨va_X.moved (u := U) (U := U.calling g mk a) (Vm.Alike.refl U.vm) h3, h4, h5⟩, ⟨va_X.moved (u := U) (U := U.calling g mk a) (Vm.Alike.refl U.vm) h6, h7, h8⟩, va_Z.moved (u := U) (U := U.calling g mk a) (Vm.Alike.refl U.vm) h9, va_Nw.same rfl (u := U) (U := U.calling g mk a) rfl h10⟩
def vc_up (K : vc_K) (v : Value) : Value := match v with
  | .ref i => .ref (K.2.2.1 i)
  | v => v
theorem vc_up_cat (K : vc_K) (v : Value) : (vc_up K v).category = v.category := by cases v <;> rfl
def vc_LH (K : vc_K) (arr : Array Slot) (n : Nat) (ls : List (Option Value)) : Prop := arr.size = n ∧ lv_wf arr ∧ ∀ (i : Nat) (v : Value), ls[i]? = some (some v) → arr[i]? = some (.val (vc_up K v))
def vc_Fx (K : vc_K) (j : Nat) (p : Program) (R : Room) (s : State) (m : MethodId) (args : Array Value) (c : Code) (cells slots : Nat) : Prop :=
  p.tables.exec = Jvm.exec ∧ c.code = (vc_hd j).2.1 ∧ c.maxLocals = (vc_hd j).2.2.1 ∧ s.vm.findClass (vc_hd j).1.cls = some m.cls ∧ (∀ w ∈ lw_g, w.before args s = true) ∧ vc_F K s ∧ (vc_hd j).2.2.2.2.1 ≤ R.frames ∧ (vc_hd j).2.2.2.2.2 ≤ R.locals ∧ cells ≤ R.cells ∧ slots ≤ R.slots
def vc_rk (ret : Option FieldType) (ins : Instr) (st : List Value) (r : Option Value) : Prop :=
  (∃ v : Int32, ins = .ireturn ∧ ret = some .int ∧ st = [.int v] ∧ r = some (.int v)) ∨ (∃ v : Int32, ins = .ireturn ∧ ret = some .boolean ∧ (v = nI 0 ∨ v = nI 1) ∧ st = [.int v] ∧ r = some (.int v)) ∨ (∃ v : Int64, ins = .lreturn ∧ ret = some .long ∧ st = [.long v] ∧ r = some (.long v)) ∨ (ins = .return_ ∧ ret = none ∧ st = [] ∧ r = none) ∨ (∃ (a : Nat) (n : String), ins = .areturn ∧ ret = some (.object n) ∧ st = [.ref a] ∧ r = some (.ref a))
def vc_Rt (K : vc_K) (j : Nat) (p : Program) (e : Env) (R : Room) (s : State) (m : MethodId) (args : Array Value) (below : List Frame) (meth : Method) (c : Code) (cells slots : Nat) (Z : State → Prop) (Q : Option Value → vc_S → Prop) : Prop :=
  ∀ (pc : Nat) (ins : Instr) (st : List Value) (r : Option Value) (σ : vc_S) (H : Heap) (locs : List Loc) (arr : Array Slot), decode (vc_hd j).2.1 pc = .ok (ins, 1) → vc_rk (vc_hd j).2.2.2.1 ins st r → Q r σ → va_P K.2.1 vwCl (vc_W K σ) H → va_S (vc_A K) s.heap H locs → W p K.1 e R s m args below meth c H locs cells slots Z (F0 m pc arr (st.map (vc_up K)))
def vc_G (K : vc_K) (j pc : Nat) (ls : List (Option Value)) (st : List Value) (σ : vc_S) (Q : Option Value → vc_S → Prop) : Prop :=
  ∀ (p : Program) (e : Env) (R : Room) (s : State) (m : MethodId) (args : Array Value) (below : List Frame) (meth : Method) (c : Code) (cells slots : Nat) (Z : State → Prop), vc_Fx K j p R s m args c cells slots → vc_Rt K j p e R s m args below meth c cells slots Z Q →
    ∀ (H : Heap) (locs : List Loc) (arr : Array Slot), vc_LH K arr (vc_hd j).2.2.1 ls → va_P K.2.1 vwCl (vc_W K σ) H → va_S (vc_A K) s.heap H locs → W p K.1 e R s m args below meth c H locs cells slots Z (F0 m pc arr (st.map (vc_up K)))
def vc_rm (j : Nat) : Room := { frames := (vc_hd j).2.2.2.2.1, cells := 0, slots := 0, locals := (vc_hd j).2.2.2.2.2 }
def vc_ws (j : Nat) : List Cond := .code (vc_hd j).1 (vc_hd j).2.1 (vc_hd j).2.2.1 (vc_hd j).2.2.2.1 :: lw_g
def vc_Q (K : vc_K) (Q : Option Value → vc_S → Prop) : Array Value → State → Outcome → State → Prop := fun _ st oc t => ∃ (r : Option Value) (σ : vc_S), oc = .returned (r.map (vc_up K)) ∧ Q r σ ∧ va_P K.2.1 vwCl (vc_W K σ) t.heap ∧ va_F (vc_A K) st t
def vc_B (K : vc_K) (σ : vc_S) (U : State) : Prop := va_P K.2.1 vwCl (vc_W K σ) U.heap ∧ vc_F K U
def vc_C (K : vc_K) (j : Nat) (av : List Value) (σ : vc_S) (Q : Option Value → vc_S → Prop) : Prop := Met K.1 (vc_hd j).1 (vc_ws j) (vc_rm j) (va_Pc (av.map (vc_up K)) (vc_B K σ)) (vc_Q K Q) 0 0 (vc_A K)
theorem vc_C.mono {K : vc_K} {j : Nat} {av : List Value} {σ : vc_S} {Q Q2 : Option Value → vc_S → Prop} (h : vc_C K j av σ Q) (hq : ∀ r σ2, Q r σ2 → Q2 r σ2) : vc_C K j av σ Q2 := by
  intro p e h1 h2 h3 s m args below h4 h5 h6 h7
  obtain ⟨k, o, g1, g2, g3, ⟨⟨r, σ2, q1, q2, q3⟩, g5⟩⟩ := h p e h1 h2 h3 s m args below h4 h5 h6 h7
  exact ⟨k, o, g1, g2, g3, ⟨⟨r, σ2, q1, hq r σ2 q2, q3⟩, g5⟩⟩
-- ===== the stack's shapes =====
def vc_an (P A : Prop) : Prop := P ∧ A
def vc_br (c A B : Prop) : Prop := (c → A) ∧ (¬ c → B)
theorem vc_an_i {P A : Prop} (p : P) (a : A) : vc_an P A := ⟨p, a⟩
theorem vc_br_i {c A B : Prop} (a : c → A) (b : ¬ c → B) : vc_br c A B := ⟨a, b⟩
theorem vc_br_t {c A B : Prop} (h : c) (a : A) : vc_br c A B := ⟨fun _ => a, fun n => absurd h n⟩
theorem vc_br_f {c A B : Prop} (h : ¬ c) (b : B) : vc_br c A B := ⟨fun y => absurd y h, fun _ => b⟩
def vc_i1 (st : List Value) (k : Int32 → List Value → Prop) : Prop := match st with
  | .int a :: r => k a r
  | _ => False
def vc_i2 (st : List Value) (k : Int32 → Int32 → List Value → Prop) : Prop := match st with
  | .int b :: .int a :: r => k a b r
  | _ => False
def vc_l1 (st : List Value) (k : Int64 → List Value → Prop) : Prop := match st with
  | .long a :: r => k a r
  | _ => False
def vc_l2 (st : List Value) (k : Int64 → Int64 → List Value → Prop) : Prop := match st with
  | .long b :: .long a :: r => k a b r
  | _ => False
def vc_il (st : List Value) (k : Int64 → Int32 → List Value → Prop) : Prop := match st with
  | .int b :: .long a :: r => k a b r
  | _ => False
def vc_r1 (st : List Value) (k : Nat → List Value → Prop) : Prop := match st with
  | .ref a :: r => k a r
  | _ => False
def vc_ri (st : List Value) (k : Nat → Int32 → List Value → Prop) : Prop := match st with
  | .int i :: .ref a :: r => k a i r
  | _ => False
def vc_rii (st : List Value) (k : Nat → Int32 → Int32 → List Value → Prop) : Prop := match st with
  | .int x :: .int i :: .ref a :: r => k a i x r
  | _ => False
def vc_rx (st : List Value) (k : Nat → Int32 → List Value → Prop) : Prop := match st with
  | .int x :: .ref a :: r => k a x r
  | _ => False
def vc_cp (st : List Value) (k : Nat → Int32 → Nat → Int32 → Int32 → List Value → Prop) : Prop := match st with
  | .int n :: .int dp :: .ref d :: .int sp :: .ref a :: r => k a sp d dp n r
  | _ => False
def vc_li (ls : List (Option Value)) (i : Nat) (k : Int32 → Prop) : Prop := match ls[i]? with
  | some (some (.int x)) => k x
  | _ => False
def vc_ll (ls : List (Option Value)) (i : Nat) (k : Int64 → Prop) : Prop := match ls[i]? with
  | some (some (.long x)) => k x
  | _ => False
def vc_lr (ls : List (Option Value)) (i : Nat) (k : Nat → Prop) : Prop := match ls[i]? with
  | some (some (.ref x)) => k x
  | _ => False
/-- a local is forgotten where it is a long -/
def vc_fg (ls : List (Option Value)) (i : Nat) : List (Option Value) := match ls[i]? with
  | some (some (.long _)) => ls.set i none
  | some (some (.double _)) => ls.set i none
  | _ => ls
def vc_s1 (ls : List (Option Value)) (i : Nat) (v : Value) : List (Option Value) := match i with
  | 0 => ls.set 0 (some v)
  | i + 1 => (vc_fg ls i).set (i + 1) (some v)
def vc_s2 (ls : List (Option Value)) (i : Nat) (v : Value) : List (Option Value) := (vc_s1 ls i v).set (i + 1) none
def vc_ct (st : List Value) : Nat := (st.map fun v => v.category).sum
def vc_cm (c : Jvm.ClassFile.Cond) (a b : Int32) : Prop := match c with
  | .eq => a = b
  | .ne => ¬ a = b
  | .lt => a < b
  | .ge => b ≤ a
  | .gt => b < a
  | .le => a ≤ b
def vc_ald (K : vc_K) (σ : vc_S) (a : Nat) (i : Int32) (k : Int32 → Prop) : Prop :=
  if a = 1000 then vc_an (vp_in i K.2.2.2.2.1) (k (K.2.2.2.2.2 i.toNatClampNeg)) else match vc_arr a with
    | some (0, n) => vc_an (vp_in i n) (k (σ.2 a i.toNatClampNeg))
    | _ => False
def vc_bld (σ : vc_S) (a : Nat) (i : Int32) (k : Int32 → Prop) : Prop := match vc_arr a with
    | some (1, n) => vc_an (vp_in i n) (k (σ.2 a i.toNatClampNeg))
    | _ => False
def vc_ast (σ : vc_S) (a : Nat) (i x : Int32) (k : vc_S → Prop) : Prop := match vc_arr a with
    | some (0, n) => vc_an (vp_in i n) (k (vc_sa σ a (upd (σ.2 a) i.toNatClampNeg x)))
    | _ => False
def vc_bst (σ : vc_S) (a : Nat) (i x : Int32) (k : vc_S → Prop) : Prop := match vc_arr a with
    | some (1, n) => vc_an (vp_in i n) (vc_an (x = nI 0 ∨ x = nI 1) (k (vc_sa σ a (upd (σ.2 a) i.toNatClampNeg x))))
    | _ => False
def vc_len (K : vc_K) (a : Nat) (k : Int32 → Prop) : Prop :=
  if a = 1000 then k (nI K.2.2.2.2.1) else if a = 1001 then k (nI 18) else match vc_arr a with
    | some (0, n) => k (nI n)
    | _ => False
def vc_gf (σ : vc_S) (o ci k : Nat) (kk : Value → Prop) : Prop := match vc_fld o ci k with
    | some (some j) => kk (.ref j)
    | some none => kk (.int (σ.1 o k))
    | none => False
def vc_pf (σ : vc_S) (o ci k z : Nat) (x : Int32) (kk : vc_S → Prop) : Prop := match vc_fld o ci k with
    | some none => if z = 1 then vc_an (x = nI 0 ∨ x = nI 1) (kk (vc_sg σ o k x)) else kk (vc_sg σ o k x)
    | _ => False
def vc_aa (a : Nat) (i : Int32) (kk : Value → Prop) : Prop := match vc_lay a with
    | some (2, n, fs) => vc_an (vp_in i n) (∃ j, fs[i.toNatClampNeg]? = some (some j) ∧ kk (.ref j))
    | _ => False
def vc_cpy (σ : vc_S) (a : Nat) (sp : Int32) (d : Nat) (dp n : Int32) (k : vc_S → Prop) : Prop := match vc_arr d with
    | some (0, nd) => if a = 1001 then vc_an ((¬ sp < 0 ∧ ¬ dp < 0 ∧ ¬ n < 0) ∧ dp.toNatClampNeg + n.toNatClampNeg ≤ nd ∧ sp.toNatClampNeg + n.toNatClampNeg ≤ 18) (k (vc_sa σ d (va_cpy vc_ords (σ.2 d) sp.toNatClampNeg dp.toNatClampNeg n.toNatClampNeg))) else match vc_arr a with
      | some (0, na) => vc_an ((¬ sp < 0 ∧ ¬ dp < 0 ∧ ¬ n < 0) ∧ dp.toNatClampNeg + n.toNatClampNeg ≤ nd ∧ sp.toNatClampNeg + n.toNatClampNeg ≤ na) (k (vc_sa σ d (va_cpy (σ.2 a) (σ.2 d) sp.toNatClampNeg dp.toNatClampNeg n.toNatClampNeg)))
      | _ => False
    | _ => False
/-- where a tableswitch goes -/
def vc_sl (pc : Nat) (x : Int) (G : Nat → Prop) : Int → List Int → Prop
  | _, [] => True
  | lo, o :: os => vc_br (x = lo) (G ((pc : Int) + o).toNat) (vc_sl pc x G (lo + 1) os)
def vc_sw (pc : Nat) (x : Int32) (d lo hi : Int) (offs : Array Int) (G : Nat → Prop) : Prop :=
  vc_br (x.toInt < lo ∨ hi < x.toInt) (G ((pc : Int) + d).toNat) (vc_sl pc x.toInt G lo offs.toList)
/-- what a block asks for: 'te' is the pc behind it -/
def vc_wi (K : vc_K) (j : Nat) (Q : Option Value → vc_S → Prop) (te : Nat) : List vc_I → List (Option Value) → List Value → vc_S → Prop
  | [], ls, st, σ => vc_G K j te ls st σ Q
  | (pc, _, ins, (a1, a2, a3, _), (v, w)) :: L, ls, st, σ => match ins with
    | .iconst _ => vc_wi K j Q te L ls (.int v :: st) σ
    | .bipush _ => vc_wi K j Q te L ls (.int v :: st) σ
    | .sipush _ => vc_wi K j Q te L ls (.int v :: st) σ
    | .ldc _ => vc_wi K j Q te L ls (.int v :: st) σ
    | .ldc_w _ => vc_wi K j Q te L ls (.int v :: st) σ
    | .lconst _ => vc_wi K j Q te L ls (.long w :: st) σ
    | .ldc2_w _ => vc_wi K j Q te L ls (.long w :: st) σ
    | .iload _ => vc_li ls a1 (fun x => vc_wi K j Q te L ls (.int x :: st) σ)
    | .iload_n _ => vc_li ls a1 (fun x => vc_wi K j Q te L ls (.int x :: st) σ)
    | .lload _ => vc_ll ls a1 (fun x => vc_wi K j Q te L ls (.long x :: st) σ)
    | .lload_n _ => vc_ll ls a1 (fun x => vc_wi K j Q te L ls (.long x :: st) σ)
    | .aload _ => vc_lr ls a1 (fun x => vc_wi K j Q te L ls (.ref x :: st) σ)
    | .aload_n _ => vc_lr ls a1 (fun x => vc_wi K j Q te L ls (.ref x :: st) σ)
    | .istore _ => vc_i1 st (fun x r => vc_wi K j Q te L (vc_s1 ls a1 (.int x)) r σ)
    | .istore_n _ => vc_i1 st (fun x r => vc_wi K j Q te L (vc_s1 ls a1 (.int x)) r σ)
    | .lstore _ => vc_l1 st (fun x r => vc_wi K j Q te L (vc_s2 ls a1 (.long x)) r σ)
    | .lstore_n _ => vc_l1 st (fun x r => vc_wi K j Q te L (vc_s2 ls a1 (.long x)) r σ)
    | .astore _ => vc_r1 st (fun x r => vc_wi K j Q te L (vc_s1 ls a1 (.ref x)) r σ)
    | .astore_n _ => vc_r1 st (fun x r => vc_wi K j Q te L (vc_s1 ls a1 (.ref x)) r σ)
    | .iinc _ _ => vc_li ls a1 (fun x => vc_wi K j Q te L (vc_s1 ls a1 (.int (x + v))) st σ)
    | .iadd => vc_i2 st (fun a b r => vc_wi K j Q te L ls (.int (a + b) :: r) σ)
    | .isub => vc_i2 st (fun a b r => vc_wi K j Q te L ls (.int (a - b) :: r) σ)
    | .imul => vc_i2 st (fun a b r => vc_wi K j Q te L ls (.int (a * b) :: r) σ)
    | .idiv => vc_i2 st (fun a b r => vc_an (¬ b = nI 0) (vc_wi K j Q te L ls (.int (a / b) :: r) σ))
    | .irem => vc_i2 st (fun a b r => vc_an (¬ b = nI 0) (vc_wi K j Q te L ls (.int (a - a / b * b) :: r) σ))
    | .iand => vc_i2 st (fun a b r => vc_wi K j Q te L ls (.int (a &&& b) :: r) σ)
    | .ior => vc_i2 st (fun a b r => vc_wi K j Q te L ls (.int (a ||| b) :: r) σ)
    | .ixor => vc_i2 st (fun a b r => vc_wi K j Q te L ls (.int (a ^^^ b) :: r) σ)
    | .ishl => vc_i2 st (fun a b r => vc_wi K j Q te L ls (.int (a <<< (b &&& 31)) :: r) σ)
    | .ishr => vc_i2 st (fun a b r => vc_wi K j Q te L ls (.int (a >>> (b &&& 31)) :: r) σ)
    | .iushr => vc_i2 st (fun a b r => vc_wi K j Q te L ls (.int (a.toUInt32 >>> (b.toUInt32 &&& Int32.toUInt32 31)).toInt32 :: r) σ)
    | .i2l => vc_i1 st (fun a r => vc_wi K j Q te L ls (.long a.toInt64 :: r) σ)
    | .i2b => vc_i1 st (fun a r => vc_wi K j Q te L ls (.int a.toInt8.toInt32 :: r) σ)
    | .i2s => vc_i1 st (fun a r => vc_wi K j Q te L ls (.int a.toInt16.toInt32 :: r) σ)
    | .ladd => vc_l2 st (fun a b r => vc_wi K j Q te L ls (.long (a + b) :: r) σ)
    | .lsub => vc_l2 st (fun a b r => vc_wi K j Q te L ls (.long (a - b) :: r) σ)
    | .lmul => vc_l2 st (fun a b r => vc_wi K j Q te L ls (.long (a * b) :: r) σ)
    | .ldiv => vc_l2 st (fun a b r => vc_an (¬ b = 0) (vc_wi K j Q te L ls (.long (a / b) :: r) σ))
    | .lrem => vc_l2 st (fun a b r => vc_an (¬ b = 0) (vc_wi K j Q te L ls (.long (a - a / b * b) :: r) σ))
    | .lshl => vc_il st (fun a b r => vc_wi K j Q te L ls (.long (a <<< (b.toInt64 &&& 63)) :: r) σ)
    | .lcmp => vc_l2 st (fun a b r => vc_wi K j Q te L ls (.int (lg_cmp a b) :: r) σ)
    | .dup => match st with
      | .int a :: r => vc_wi K j Q te L ls (.int a :: .int a :: r) σ
      | .ref a :: r => vc_wi K j Q te L ls (.ref a :: .ref a :: r) σ
      | _ => False
    | .dup2 => vc_ri st (fun a i r => vc_wi K j Q te L ls (.int i :: .ref a :: .int i :: .ref a :: r) σ)
    | .goto _ => vc_G K j a1 ls st σ Q
    | .if_icmp c _ => vc_i2 st (fun a b r => vc_br (vc_cm c a b) (vc_G K j a1 ls r σ Q) (vc_wi K j Q te L ls r σ))
    | .ifCond c _ => vc_i1 st (fun a r => vc_br (vc_cm c a (nI 0)) (vc_G K j a1 ls r σ Q) (vc_wi K j Q te L ls r σ))
    | .tableswitch d lo hi offs => vc_i1 st (fun x r => vc_sw pc x d lo hi offs (fun t => vc_G K j t ls r σ Q))
    | .iaload => vc_ri st (fun a i r => vc_ald K σ a i (fun x => vc_wi K j Q te L ls (.int x :: r) σ))
    | .baload => vc_ri st (fun a i r => vc_bld σ a i (fun x => vc_wi K j Q te L ls (.int x :: r) σ))
    | .aaload => vc_ri st (fun a i r => vc_aa a i (fun x => vc_wi K j Q te L ls (x :: r) σ))
    | .iastore => vc_rii st (fun a i x r => vc_ast σ a i x (fun σ => vc_wi K j Q te L ls r σ))
    | .bastore => vc_rii st (fun a i x r => vc_bst σ a i x (fun σ => vc_wi K j Q te L ls r σ))
    | .arraylength => vc_r1 st (fun a r => vc_len K a (fun x => vc_wi K j Q te L ls (.int x :: r) σ))
    | .getfield _ => vc_r1 st (fun o r => vc_gf σ o a1 a2 (fun x => vc_wi K j Q te L ls (x :: r) σ))
    | .putfield _ => vc_rx st (fun o x r => vc_pf σ o a1 a2 a3 x (fun σ => vc_wi K j Q te L ls r σ))
    | .getstatic _ => vc_wi K j Q te L ls (.ref 1001 :: st) σ
    | .invokevirtual _ => vc_r1 (st.drop a1) (fun o r => vc_cls o = a2 + 3 ∧ vc_ct r ≤ 8 ∧ vc_C K a3 (.ref o :: (st.take a1).reverse) σ (fun x σ => vc_wi K j Q te L ls (x.toList ++ r) σ))
    | .invokestatic _ => if a2 = 1 then vc_cp st (fun a sp d dp n r => vc_ct r ≤ 8 ∧ vc_cpy σ a sp d dp n (fun σ => vc_wi K j Q te L ls r σ)) else if a2 = 3 then vc_i2 st (fun x y r => vc_ct r ≤ 8 ∧ vc_wi K j Q te L ls (.int (if x < y then y else x) :: r) σ) else if a2 = 4 then vc_i2 st (fun x y r => vc_ct r ≤ 8 ∧ vc_wi K j Q te L ls (.int (if y < x then y else x) :: r) σ) else vc_ct (st.drop a1) ≤ 8 ∧ a1 ≤ st.length ∧ vc_C K a3 (st.take a1).reverse σ (fun x σ => vc_wi K j Q te L ls (x.toList ++ st.drop a1) σ)
    | .ireturn => match st, (vc_hd j).2.2.2.1 with
      | [.int v], some .int => Q (some (.int v)) σ
      | [.int v], some .boolean => vc_an (v = nI 0 ∨ v = nI 1) (Q (some (.int v)) σ)
      | _, _ => False
    | .lreturn => match st, (vc_hd j).2.2.2.1 with
      | [.long v], some .long => Q (some (.long v)) σ
      | _, _ => False
    | .areturn => match st, (vc_hd j).2.2.2.1 with
      | [.ref a], some (.object _) => Q (some (.ref a)) σ
      | _, _ => False
    | .return_ => match st, (vc_hd j).2.2.2.1 with
      | [], none => Q none σ
      | _, _ => False
    | _ => False
/-- kind (0 virtual, 1 static, 2 static of a nest mate), number of arguments, places of its words -/
def vc_hk (j : Nat) : Bool := match vc_HP[j]? with
  | none => false
  | some (kd, n, p1, p2, p3, p4) =>
    vc_wp p1 (.code (vc_hd j).1 (vc_hd j).2.1 (vc_hd j).2.2.1 (vc_hd j).2.2.2.1) && vc_wp p2 (.initialized (vc_hd j).1.cls) && (if kd = 0 then vc_wp p3 (.instanceMethod (vc_hd j).1) && vc_wp p4 (.selects (vc_hd j).1.cls (vc_hd j).1 (vc_hd j).1) else vc_wp p3 (.static (vc_hd j).1)) && plainName (vc_hd j).1.cls && decide ((vc_hd j).1.cls ≠ "java/lang/invoke/MethodHandle") && decide ((vc_hd j).1.cls ≠ "java/lang/invoke/VarHandle") && decide ((parseMethodDescriptor (vc_hd j).1.desc).map (fun d => d.parameters.length) = some n)
def vc_ck (j : Nat) (q : vc_I) : Bool := match q with
  | (pc, len, ins, (a1, a2, a3, a4), (v, w)) => decide (decode (vc_hd j).2.1 pc = .ok (ins, len)) && (match ins with
    | .iconst n => decide (len = 1) && decide (Int32.ofInt n = v)
    | .bipush n => decide (len = 2) && decide ((Int8.ofInt n).toInt32 = v)
    | .sipush n => decide (len = 3) && decide ((Int16.ofInt n).toInt32 = v)
    | .ldc i => decide (len = 2) && vc_wp a4 (.constant (vc_hd j).1.cls i v)
    | .ldc_w i => decide (len = 3) && vc_wp a4 (.constant (vc_hd j).1.cls i v)
    | .lconst n => decide (len = 1) && decide (Int64.ofNat (n : Nat) = w)
    | .ldc2_w i => decide (len = 3) && vc_wp a4 (.constantLong (vc_hd j).1.cls i w)
    | .iload i => decide (len = 2) && decide (i = a1)
    | .lload i => decide (len = 2) && decide (i = a1)
    | .aload i => decide (len = 2) && decide (i = a1)
    | .iload_n i => decide (len = 1) && decide ((i : Nat) = a1)
    | .lload_n i => decide (len = 1) && decide ((i : Nat) = a1)
    | .aload_n i => decide (len = 1) && decide ((i : Nat) = a1)
    | .istore i => decide (len = 2) && decide (i = a1) && decide (i < (vc_hd j).2.2.1)
    | .lstore i => decide (len = 2) && decide (i = a1) && decide (i + 1 < (vc_hd j).2.2.1)
    | .astore i => decide (len = 2) && decide (i = a1) && decide (i < (vc_hd j).2.2.1)
    | .istore_n i => decide (len = 1) && decide ((i : Nat) = a1) && decide ((i : Nat) < (vc_hd j).2.2.1)
    | .lstore_n i => decide (len = 1) && decide ((i : Nat) = a1) && decide ((i : Nat) + 1 < (vc_hd j).2.2.1)
    | .astore_n i => decide (len = 1) && decide ((i : Nat) = a1) && decide ((i : Nat) < (vc_hd j).2.2.1)
    | .iinc i n => decide (len = 3) && decide (i = a1) && decide (i < (vc_hd j).2.2.1) && decide (Int32.ofInt n = v)
    | .goto off => decide (len = 3) && decide ((pc : Int) + off = (a1 : Int))
    | .if_icmp _ off => decide (len = 3) && decide ((pc : Int) + off = (a1 : Int))
    | .ifCond _ off => decide (len = 3) && decide ((pc : Int) + off = (a1 : Int))
    | .tableswitch d lo hi offs => decide (0 ≤ (pc : Int) + d) && offs.toList.all (fun o => decide (0 ≤ (pc : Int) + o)) && decide (hi - lo + 1 = offs.size)
    | .getfield i => decide (len = 3) && (match vwCl[a1]? with | some (_, T, N) => decide (a2 < N) && vc_wp a4 (.fieldLink (vc_hd j).1.cls i (T a2).1 (T a2).2.1 (T a2).2.2.1) | none => false)
    | .putfield i => decide (len = 3) && (match vwCl[a1]? with | some (_, T, N) => decide (a2 < N) && vc_wp a4 (.fieldLink (vc_hd j).1.cls i (T a2).1 (T a2).2.1 (T a2).2.2.1) && decide ((T a2).2.2.2 = false) && (if a3 = 1 then decide (parseFieldDescriptor (T a2).2.2.1 = some .boolean) else decide (parseFieldDescriptor (T a2).2.2.1 = some .int)) | none => false)
    | .getstatic i => decide (len = 3) && vc_wp a4 (.fieldLink (vc_hd j).1.cls i "MarkedByNext" "ORDERS" "[I")
    | .invokevirtual i => decide (len = 3) && vc_wp a4 (.methodLink (vc_hd j).1.cls i (vc_hd a3).1) && decide ((vwCl[a2]?).map (fun q => q.1) = some (vc_hd a3).1.cls) && decide ((vc_HP[a3]?).map (fun q => (q.1, q.2.1)) = some (0, a1)) && decide ((vc_hd a3).2.2.2.2.1 + 1 ≤ (vc_hd j).2.2.2.2.1) && decide (8 + ((vc_hd a3).2.2.1 + 11) + (vc_hd a3).2.2.2.2.2 ≤ (vc_hd j).2.2.2.2.2)
    | .invokestatic i => decide (len = 3) && (if a2 = 1 then vc_wp a4 (.methodLink (vc_hd j).1.cls i arraycopyName) && decide (1 ≤ (vc_hd j).2.2.2.2.1) && decide (8 + (nativeFrameWords "java/lang/System" "arraycopy" 5 + 11) ≤ (vc_hd j).2.2.2.2.2) else if a2 = 3 then vc_wp a4 (.methodLink (vc_hd j).1.cls i Lib.Math.max.name) && decide (1 ≤ (vc_hd j).2.2.2.2.1) && decide (21 ≤ (vc_hd j).2.2.2.2.2) else if a2 = 4 then vc_wp a4 (.methodLink (vc_hd j).1.cls i Lib.Math.min.name) && decide (1 ≤ (vc_hd j).2.2.2.2.1) && decide (21 ≤ (vc_hd j).2.2.2.2.2) else
        (if a2 = 2 then decide (Cond.methodLinkNest (vc_hd j).1.cls i (vc_hd a3).1 "MarkedByNext" = vc_nst) && decide ((vc_HP[a3]?).map (fun q => (q.1, q.2.1)) = some (1, a1)) else vc_wp a4 (.methodLink (vc_hd j).1.cls i (vc_hd a3).1) && decide ((vc_HP[a3]?).map (fun q => (q.1, q.2.1)) = some (1, a1)))
         && decide ((vc_hd a3).2.2.2.2.1 + 1 ≤ (vc_hd j).2.2.2.2.1) && decide (8 + ((vc_hd a3).2.2.1 + 11) + (vc_hd a3).2.2.2.2.2 ≤ (vc_hd j).2.2.2.2.2))
    | _ => decide (len = 1))
def vc_end (ins : Instr) : Bool := match ins with
  | .goto _ => true
  | .tableswitch _ _ _ _ => true
  | .ireturn => true
  | .lreturn => true
  | .areturn => true
  | .return_ => true
  | _ => false
def vc_ok (j te : Nat) : Nat → List vc_I → Bool
  | pc, [] => decide (pc = te)
  | pc, q :: L => decide (q.1 = pc) && vc_ck j q && (vc_end q.2.2.1 || vc_ok j te (pc + q.2.1) L)
