/-! luck: numbers -/
theorem zPc_s (m i : Nat) : zPc m (i + 1) = zPc m i + (if m.testBit i then 1 else 0) := rfl
theorem zPc_le (m : Nat) : ∀ i, zPc m i ≤ i
  | 0 => Nat.le_refl _
  | i + 1 => by
    have := zPc_le m i
    rw [zPc_s]
    split <;> omega
theorem zPc_hi {m n : Nat} (hm : m < 2 ^ n) : ∀ j, zPc m (n + j) = zPc m n
  | 0 => rfl
  | j + 1 => by
    have ih := zPc_hi hm j
    rw [show n + (j + 1) = (n + j) + 1 by omega, zPc_s, ih, Nat.testBit_lt_two_pow (Nat.lt_of_lt_of_le hm (Nat.pow_le_pow_right (by omega) (by omega)))]
    rfl
theorem zPc_cp {s n : Nat} (hs : s < 2 ^ n) : ∀ i, i ≤ n → zPc (2 ^ n - 1 - s) i + zPc s i = i
  | 0, _ => rfl
  | i + 1, h => by
    have ih := zPc_cp hs i (by omega)
    have e : (2 ^ n - 1 - s).testBit i = !s.testBit i := by
      rw [show 2 ^ n - 1 - s = 2 ^ n - (s + 1) by omega, Nat.testBit_two_pow_sub_succ hs, decide_eq_true (by omega), Bool.true_and]
    rw [zPc_s, zPc_s, e]
    cases s.testBit i <;> simp <;> omega
/-- a sum -/
def sU (f : Nat → Nat) : Nat → Nat
  | 0 => 0
  | m + 1 => sU f m + f m
theorem sU_le {f : Nat → Nat} {B : Nat} : ∀ m, (∀ i, i < m → f i ≤ B) → sU f m ≤ m * B
  | 0, _ => by rw [Nat.zero_mul]; exact Nat.le_refl _
  | m + 1, h => by
    have h1 := sU_le m (fun i hi => h i (by omega))
    have h2 := h m (by omega)
    show sU f m + f m ≤ _
    rw [Nat.succ_mul]
    omega
theorem sU_rev (f : Nat → Nat) (N : Nat) : ∀ j, j ≤ N → sU (fun s => f (N - 1 - s)) j + sU f (N - j) = sU f N
  | 0, _ => by
    show 0 + sU f (N - 0) = _
    rw [Nat.zero_add, Nat.sub_zero]
  | j + 1, h => by
    have ih := sU_rev f N j (by omega)
    rw [show N - j = (N - (j + 1)) + 1 by omega] at ih
    show (sU (fun s => f (N - 1 - s)) j + f (N - 1 - j)) + sU f (N - (j + 1)) = _
    rw [← ih, show N - 1 - j = N - (j + 1) by omega]
    show _ = _ + (sU f (N - (j + 1)) + f (N - (j + 1)))
    omega
theorem sU_cg {f g : Nat → Nat} : ∀ m, (∀ i, i < m → f i = g i) → sU f m = sU g m
  | 0, _ => rfl
  | m + 1, h => by
    show sU f m + f m = sU g m + g m
    rw [sU_cg m (fun i hi => h i (by omega)), h m (by omega)]
theorem sU_add {f g : Nat → Nat} : ∀ m, sU (fun i => f i + g i) m = sU f m + sU g m
  | 0 => rfl
  | m + 1 => by
    show sU (fun i => f i + g i) m + (f m + g m) = (sU f m + f m) + (sU g m + g m)
    rw [sU_add m]
    omega
theorem sU_one {p v : Nat} : ∀ m, sU (fun i => if p = i then v else 0) m = if p < m then v else 0
  | 0 => by rw [if_neg (by omega)]; rfl
  | m + 1 => by
    show sU (fun i => if p = i then v else 0) m + (if p = m then v else 0) = _
    rw [sU_one m]
    by_cases h : p = m
    · rw [if_pos h, if_neg (by omega), if_pos (by omega)]
      omega
    · rw [if_neg h]
      by_cases h2 : p < m
      · rw [if_pos h2, if_pos (by omega)]
        rfl
      · rw [if_neg h2, if_neg (by omega)]
def zWt (c n p : Nat) : Nat := c ^ p * (16 - c) ^ (n - p)
def zLF (T : zT) (c k m : Nat) : Nat := if zBs T m = some k then zWt c (zc T) (zPc m 8) else 0
/-- above -/
def zLk (T : zT) (c k : Nat) : Nat := sU (zLF T c k) (2 ^ zc T)
theorem zWy_s (T : zT) (k d m : Nat) : zWy T k d (m + 1) = zWy T k d m + (if zBs T m = some k ∧ zPc m 8 = d then 1 else 0) := rfl
theorem zWy_le (T : zT) (k d : Nat) : ∀ m, zWy T k d m ≤ m
  | 0 => Nat.le_refl _
  | m + 1 => by
    have := zWy_le T k d m
    rw [zWy_s]
    split <;> omega
theorem zLk_eq {T : zT} (hT : zOk T) (c k : Nat) : sU (fun d => zWy T k d (2 ^ zc T) * zWt c (zc T) d) (zc T + 1) = zLk T c k := by
  have hc8 := hT.2.2.2.2.1.1
  have key : ∀ M, M ≤ 2 ^ zc T → sU (fun d => zWy T k d M * zWt c (zc T) d) (zc T + 1) = sU (zLF T c k) M := by
    intro M
    induction M with
    | zero =>
      intro _
      have : ∀ n, sU (fun d => zWy T k d 0 * zWt c (zc T) d) n = 0 := by
        intro n
        induction n with
        | zero => rfl
        | succ n ih =>
          show sU _ n + zWy T k n 0 * _ = 0
          rw [ih, show zWy T k n 0 = 0 from rfl, Nat.zero_mul]
      exact this _
    | succ M ih =>
      intro hM
      have ih := ih (by omega)
      have hp : zPc M 8 ≤ zc T := by
        have h1 := zPc_hi (m := M) (n := zc T) (by omega) (8 - zc T)
        rw [show zc T + (8 - zc T) = 8 by omega] at h1
        rw [h1]
        exact zPc_le _ _
      rw [sU_cg (g := fun d => zWy T k d M * zWt c (zc T) d + (if zPc M 8 = d then zLF T c k M else 0)) _ (fun d hd => ?_)]
      · rw [sU_add, ih, sU_one, if_pos (by omega)]
        rfl
      · rw [zWy_s, Nat.add_mul]
        congr 1
        unfold zLF
        by_cases h1 : zBs T M = some k
        · by_cases h2 : zPc M 8 = d
          · rw [if_pos ⟨h1, h2⟩, if_pos h2, if_pos h1, Nat.one_mul, h2]
          · rw [if_neg (fun c => h2 c.2), if_neg h2, Nat.zero_mul]
        · rw [if_neg (fun c => h1 c.1), if_neg h1, Nat.zero_mul]
          split <;> rfl
  exact key _ (Nat.le_refl _)
theorem zWt_le {c n p : Nat} (hc : c ≤ 16) (hp : p ≤ n) : zWt c n p ≤ 16 ^ n := by
  unfold zWt
  have h1 : c ^ p ≤ 16 ^ p := Nat.pow_le_pow_left hc p
  have h2 : (16 - c) ^ (n - p) ≤ 16 ^ (n - p) := Nat.pow_le_pow_left (by omega) _
  have h3 := Nat.mul_le_mul h1 h2
  rw [← Nat.pow_add, show p + (n - p) = n by omega] at h3
  exact h3
theorem p16 {n : Nat} (hn : n ≤ 8) : 16 ^ n ≤ 4294967296 ∧ 0 < 16 ^ n := ⟨Nat.pow_le_pow_right (by omega : 0 < 16) hn, Nat.pow_pos (by omega)⟩
theorem p2 {n : Nat} (hn : n ≤ 8) : 2 ^ n ≤ 256 ∧ 0 < 2 ^ n := ⟨Nat.pow_le_pow_right (by omega : 0 < 2) hn, Nat.pow_pos (by omega)⟩
theorem zPc_n {T : zT} (hT : zOk T) {m : Nat} (hm : m < 2 ^ zc T) : zPc m 8 = zPc m (zc T) := by
  have hc8 := hT.2.2.2.2.1.1
  have h1 := zPc_hi hm (8 - zc T)
  rw [show zc T + (8 - zc T) = 8 by omega] at h1
  exact h1
theorem zLk_le {T : zT} (hT : zOk T) {c k : Nat} (hc : c ≤ 16) : zLk T c k ≤ 1099511627776 := by
  have hc8 := hT.2.2.2.2.1.1
  have h1 := sU_le (f := zLF T c k) (B := 4294967296) (2 ^ zc T) (fun m hm => by
    unfold zLF
    split
    · exact Nat.le_trans (zWt_le hc (by rw [zPc_n hT hm]; exact zPc_le _ _)) (p16 hc8).1
    · omega)
  have h2 := (p2 hc8).1
  have h3 := Nat.mul_le_mul_right 4294967296 h2
  show sU _ _ ≤ _
  omega
/-- which are done matters as far as there are changes -/
theorem yRun_dn {n s c : Nat} {so be : Nat → Nat} {ch : Nat → Nat × Nat × Nat} {dn dn' : Nat → Bool} {od : Nat → Nat} {S : yS} (h : ∀ i, i < c → dn i = dn' i) : ∀ d, yRun (n, so, s, be, c, ch, dn, od) S d = yRun (n, so, s, be, c, ch, dn', od) S d
  | 0 => rfl
  | d + 1 => by
    have ih := yRun_dn (n := n) (s := s) (c := c) (so := so) (be := be) (ch := ch) (od := od) (S := S) h d
    have hc : ∀ w i, i ≤ c → yCh (n, so, s, be, c, ch, dn, od) d w i = yCh (n, so, s, be, c, ch, dn', od) d w i := by
      intro w i
      induction i with
      | zero => intro _; rfl
      | succ i ih2 =>
        intro hi
        unfold yCh
        rw [ih2 (by omega)]
        dsimp only
        simp only [h i (show i < c by omega)]
    show yDay _ d (yRun _ S d) = yDay _ d (yRun _ S d)
    rw [ih]
    generalize yRun (n, so, s, be, c, ch, dn', od) S d = S'
    unfold yDay
    dsimp only
    rw [hc _ c (Nat.le_refl _)]
    have g : ∀ w kn sub p, yGs (n, so, s, be, c, ch, dn, od) w kn sub p = yGs (n, so, s, be, c, ch, dn', od) w kn sub p := by
      intro w kn sub p
      induction p with
      | zero => rfl
      | succ p ihp =>
        unfold yGs
        rw [ihp]
    rw [g]
    have mk : ∀ w g mk p, yMk (n, so, s, be, c, ch, dn, od) w g mk p = yMk (n, so, s, be, c, ch, dn', od) w g mk p := by
      intro w g mk p
      induction p with
      | zero => rfl
      | succ p ihp =>
        unfold yMk
        rw [ihp]
        rfl
    rw [mk]
    rfl
theorem zBs_cp {T : zT} {s : Nat} (hs : s < 2 ^ zc T) : yBest (yRun (zP T (fun i => !s.testBit i) id) (zS T) 30).2.2.1 (zn T) = zBs T (2 ^ zc T - 1 - s) := by
  unfold zBs zP
  rw [yRun_dn (dn := fun i => !s.testBit i) (dn' := fun i => (2 ^ zc T - 1 - s).testBit i) (fun i hi => ?_) 30]
  show (!s.testBit i) = (2 ^ zc T - 1 - s).testBit i
  rw [show 2 ^ zc T - 1 - s = 2 ^ zc T - (s + 1) by omega, Nat.testBit_two_pow_sub_succ hs, decide_eq_true hi, Bool.true_and]
/-- Euclid's way ends in so many steps -/
def eE : Nat → Nat → Nat → Prop
  | 0, _, b => b = 0
  | m + 1, a, b => b = 0 ∨ eE m b (a % b)
theorem eE_mono : ∀ m a b, eE m a b → eE (m + 1) a b
  | 0, _, _, h => Or.inl h
  | m + 1, a, b, h => by
    rcases h with h | h
    · exact Or.inl h
    · exact Or.inr (eE_mono m _ _ h)
theorem eE_mono' {m a b : Nat} (h : eE m a b) : ∀ j, eE (m + j) a b
  | 0 => h
  | j + 1 => eE_mono _ _ _ (eE_mono' h j)
theorem eE_of : ∀ j a b, b < 2 ^ j → eE (2 * j) a b
  | 0, _, b, h => by
    show b = 0
    omega
  | j + 1, a, b, h => by
    rw [show 2 * (j + 1) = (2 * j + 1) + 1 by omega]
    by_cases hb : b = 0
    · exact Or.inl hb
    · refine Or.inr ?_
      by_cases hr : a % b = 0
      · exact Or.inl hr
      · refine Or.inr (eE_of j _ _ ?_)
        have h1 : a % b < b := Nat.mod_lt _ (by omega)
        rw [Nat.pow_succ] at h
        have h2 : b % (a % b) < a % b := Nat.mod_lt _ (by omega)
        by_cases q : 2 * (a % b) ≤ b
        · omega
        · have h3 : b % (a % b) = b - a % b := by
            rw [Nat.mod_eq_sub_mod (by omega), Nat.mod_eq_of_lt (by omega)]
          omega
theorem gcd_st {a b : Nat} : Nat.gcd b (a % b) = Nat.gcd a b := by
  rw [Nat.gcd_comm a b, Nat.gcd_rec b a, Nat.gcd_comm]
