/-! numbers, states, and what a year is (numbers without signs; an empty place is none) -/
theorem vc_brT {A B : Prop} : vc_br True A B = A := propext ⟨fun h => h.1 trivial, fun h => ⟨fun _ => h, fun n => absurd trivial n⟩⟩
theorem vc_brF {A B : Prop} : vc_br False A B = B := propext ⟨fun h => h.2 (fun f => f), fun h => ⟨fun f => f.elim, fun _ => h⟩⟩
theorem vc_anT {A : Prop} : vc_an True A = A := propext ⟨fun h => h.2, fun h => ⟨trivial, h⟩⟩
theorem vc_brt {c A B : Prop} (h : c) : vc_br c A B = A := propext ⟨fun q => q.1 h, fun q => vc_br_t h q⟩
theorem vc_brf {c A B : Prop} (h : ¬ c) : vc_br c A B = B := propext ⟨fun q => q.2 h, fun q => vc_br_f h q⟩
theorem vc_ant {P A : Prop} (h : P) : vc_an P A = A := propext ⟨fun q => q.2, fun q => ⟨h, q⟩⟩
theorem vn_n0 {k : Nat} (h : k < 2147483648) : (nI k < 0) = False := eq_false (nI_pos h)
theorem vc_sa_self {σ : vc_S} {a : Nat} : vc_sa σ a (σ.2 a) = σ := by
  unfold vc_sa
  refine Prod.ext rfl ?_
  funext b
  by_cases h : b = a
  · simp [h]
  · simp [h]
theorem vn_in {k n : Nat} (h : k < n) (hn : n < 2147483648) : vp_in (nI k) n = True := eq_true (vp_in_nI h hn)
theorem vn_cl {k : Nat} (h : k < 2147483648) : (nI k).toNatClampNeg = k := nI_clamp h
theorem vn_lt {a b : Nat} (ha : a < 2147483648) (hb : b < 2147483648) : (nI a < nI b) = (a < b) := propext (nI_ltI ha hb)
theorem vn_le {a b : Nat} (ha : a < 2147483648) (hb : b < 2147483648) : (nI a ≤ nI b) = (a ≤ b) := propext (nI_leI ha hb)
theorem vn_eq {a b : Nat} (ha : a < 2147483648) (hb : b < 2147483648) : (nI a = nI b) = (a = b) := propext (nI_eq ha hb)
theorem vn_sub {a b : Nat} (h : b ≤ a) : nI a - nI b = nI (a - b) := pk_sub h
theorem vn_div {a d : Nat} (ha : a < 2147483648) (h0 : 0 < d) (hd : d < 2147483648) : nI a / nI d = nI (a / d) := pk_div ha h0 hd
theorem vn_rem {a d : Nat} (ha : a < 2147483648) (h0 : 0 < d) (hd : d < 2147483648) : nI a - nI (a / d * d) = nI (a % d) := by
  have h := pk_sub (a := a) (b := a / d * d) (by have := Nat.div_mul_le_self a d; omega)
  rw [h]
  congr 1
  have := Nat.div_add_mod a d
  rw [Nat.mul_comm] at this
  omega
theorem vn_mod (a d : Nat) : a - a / d * d = a % d := by
  have := Nat.div_add_mod a d
  rw [Nat.mul_comm] at this
  omega
theorem vn_m1 {k : Nat} (h : k < 2147483648) : (nI k = -1) = False := by
  refine eq_false (fun e => ?_)
  have h1 := congrArg Int32.toInt e
  rw [nI_toInt h] at h1
  have h2 : (-1 : Int32).toInt = -1 := by decide
  omega
theorem vn_m1n : ((-1 : Int32) < nI 0) = True := by decide
theorem vn_m1p : (nI 0 ≤ (-1 : Int32)) = False := by decide
theorem vn_0 : nI 0 = 0 := rfl
/-- an empty place is -1 -/
def vE (o : Option Nat) : Int32 := match o with
  | none => -1
  | some k => nI k
theorem vE_n : vE none = -1 := rfl
theorem vE_s (k : Nat) : vE (some k) = nI k := rfl
theorem vc_sa_1 (σ : vc_S) (a : Nat) (f : Nat → Int32) : (vc_sa σ a f).1 = σ.1 := rfl
theorem vc_sa_2 (σ : vc_S) (a : Nat) (f : Nat → Int32) (b : Nat) : (vc_sa σ a f).2 b = if b = a then f else σ.2 b := rfl
theorem vc_sg_2 (σ : vc_S) (o k : Nat) (x : Int32) : (vc_sg σ o k x).2 = σ.2 := rfl
theorem vc_sg_1 (σ : vc_S) (o k : Nat) (x : Int32) (b i : Nat) : (vc_sg σ o k x).1 b i = if b = o then (if i = k then x else σ.1 b i) else σ.1 b i := by
  unfold vc_sg
  by_cases h1 : b = o <;> by_cases h2 : i = k <;> simp [h1, h2]
/-- nothing has changed but the arrays L -/
def vc_fr (L : List Nat) (σ τ : vc_S) : Prop := τ.1 = σ.1 ∧ ∀ b, b ∉ L → τ.2 b = σ.2 b
theorem vc_fr.rf {L : List Nat} {σ : vc_S} : vc_fr L σ σ := ⟨rfl, fun _ _ => rfl⟩
theorem vc_fr.tr {L : List Nat} {σ τ υ : vc_S} (h : vc_fr L σ τ) (g : vc_fr L τ υ) : vc_fr L σ υ := ⟨g.1.trans h.1, fun b hb => (g.2 b hb).trans (h.2 b hb)⟩
theorem vc_fr.sa {L : List Nat} {σ τ : vc_S} {a : Nat} {f : Nat → Int32} (h : vc_fr L σ τ) (ha : a ∈ L) : vc_fr L σ (vc_sa τ a f) := ⟨h.1, fun b hb => by
  have hne : ¬ b = a := fun e => hb (by rw [e]; exact ha)
  rw [vc_sa_2, if_neg hne]
  exact h.2 b hb⟩
theorem vc_fr.mono {L M : List Nat} {σ τ : vc_S} (h : vc_fr L σ τ) (hs : ∀ a ∈ L, a ∈ M) : vc_fr M σ τ := ⟨h.1, fun b hb => h.2 b (fun q => hb (hs b q))⟩
-- ===== what a year is =====
/-- boys, sorts, seats, benches, changes (how many; day, one, other), which are done, the order of subjects -/
abbrev yP : Type := Nat × (Nat → Nat) × Nat × (Nat → Nat) × Nat × (Nat → Nat × Nat × Nat) × (Nat → Bool) × (Nat → Nat)
/-- who sits where; known; marks; ghosts; gains of the day -/
abbrev yS : Type := (Nat → Option Nat) × (Nat → Nat) × (Nat → Nat) × (Nat → Nat) × (Nat → Nat)
def ySwap (s : Nat) (w : Nat → Option Nat) (a b : Nat) : Nat → Option Nat := if a < s ∧ b < s then (fun p => if p = a then w b else if p = b then w a else w p) else w
def yCh (P : yP) (d : Nat) (w : Nat → Option Nat) : Nat → (Nat → Option Nat)
  | 0 => w
  | i + 1 => if (P.2.2.2.2.2.1 i).1 = d ∧ P.2.2.2.2.2.2.1 i = true then ySwap P.2.2.1 (yCh P d w i) (P.2.2.2.2.2.1 i).2.1 (P.2.2.2.2.2.1 i).2.2 else yCh P d w i
def yL (be : Nat → Nat) (w : Nat → Option Nat) (p : Nat) : Option Nat := if 0 < p ∧ be (p - 1) = be p then w (p - 1) else none
def yR (s : Nat) (be : Nat → Nat) (w : Nat → Option Nat) (p : Nat) : Option Nat := if p + 1 < s ∧ be (p + 1) = be p then w (p + 1) else none
def yMo (kn : Nat → Nat) (sub k : Nat) (o : Option Nat) : Nat := match o with
  | none => 0
  | some j => if kn (3 * k + sub) < kn (3 * j + sub) then 1 else 0
def yGn (so kn : Nat → Nat) (sub k : Nat) (l r : Option Nat) : Nat :=
  min (if so k = 1 then yMo kn sub k l + yMo kn sub k r else if so k = 2 then (if 0 < yMo kn sub k l + yMo kn sub k r then 2 else 0) else (if (l = none ∧ r = none) ∨ 0 < yMo kn sub k l + yMo kn sub k r then 1 else 0)) (30 - kn (3 * k + sub))
/-- gains, by the first p seats -/
def yGs (P : yP) (w : Nat → Option Nat) (kn : Nat → Nat) (sub : Nat) : Nat → (Nat → Nat)
  | 0 => fun _ => 0
  | p + 1 => match w p with
    | none => yGs P w kn sub p
    | some k => fun j => if j = k then yGn P.2.1 kn sub k (yL P.2.2.2.1 w p) (yR P.2.2.1 P.2.2.2.1 w p) else yGs P w kn sub p j
def yGo (g : Nat → Nat) (o : Option Nat) : Nat := match o with
  | none => 0
  | some k => g k
/-- what comes to a seat by those beside it -/
def yBy (P : yP) (w : Nat → Option Nat) (g : Nat → Nat) (p : Nat) : Nat := yGo g (yL P.2.2.2.1 w p) + yGo g (yR P.2.2.1 P.2.2.2.1 w p)
def yMk (P : yP) (w : Nat → Option Nat) (g mk : Nat → Nat) : Nat → (Nat → Nat)
  | 0 => mk
  | p + 1 => match w p with
    | none => yMk P w g mk p
    | some k => fun j => if j = k then yMk P w g mk p k + (if P.2.1 k = 2 then 2 * yBy P w g p else yBy P w g p) else yMk P w g mk p j
def yGh (P : yP) (w : Nat → Option Nat) (g gh : Nat → Nat) : Nat → Nat := fun p => if p < P.2.2.1 ∧ w p = none then gh p + yBy P w g p else gh p
def yDay (P : yP) (d : Nat) (S : yS) : yS :=
  (yCh P d S.1 P.2.2.2.2.1,
   fun q => if q % 3 = P.2.2.2.2.2.2.2 (d % 3) ∧ q / 3 < P.1 then S.2.1 q + yGs P (yCh P d S.1 P.2.2.2.2.1) S.2.1 (P.2.2.2.2.2.2.2 (d % 3)) P.2.2.1 (q / 3) else S.2.1 q,
   yMk P (yCh P d S.1 P.2.2.2.2.1) (yGs P (yCh P d S.1 P.2.2.2.2.1) S.2.1 (P.2.2.2.2.2.2.2 (d % 3)) P.2.2.1) S.2.2.1 P.2.2.1,
   yGh P (yCh P d S.1 P.2.2.2.2.1) (yGs P (yCh P d S.1 P.2.2.2.2.1) S.2.1 (P.2.2.2.2.2.2.2 (d % 3)) P.2.2.1) S.2.2.2.1,
   yGs P (yCh P d S.1 P.2.2.2.2.1) S.2.1 (P.2.2.2.2.2.2.2 (d % 3)) P.2.2.1)
def yRun (P : yP) (S : yS) : Nat → yS
  | 0 => S
  | d + 1 => yDay P d (yRun P S d)

/-- the cells of a Year -/
theorem yLy {o : Nat} (ho : o = 29 ∨ o = 38) : vc_cls o = 11 ∧ vc_fld o 8 0 = some (some (o + 1)) ∧ vc_fld o 8 1 = some (some (o + 2)) ∧ vc_fld o 8 2 = some (some (o + 3)) ∧ vc_fld o 8 3 = some (some (o + 4)) ∧ vc_fld o 8 4 = some (some (o + 5)) ∧ vc_fld o 8 5 = some (some (o + 6)) ∧ vc_fld o 8 6 = some (some (o + 7)) ∧ vc_fld o 8 7 = some (some (o + 8)) ∧ vc_fld o 8 8 = some none ∧ vc_fld o 8 9 = some none ∧ vc_arr (o + 1) = some (0, 496) ∧ vc_arr (o + 2) = some (0, 744) ∧ vc_arr (o + 3) = some (0, 248) ∧ vc_arr (o + 4) = some (0, 240) ∧ vc_arr (o + 5) = some (0, 16) ∧ vc_arr (o + 6) = some (0, 8) ∧ vc_arr (o + 7) = some (0, 16) ∧ vc_arr (o + 8) = some (0, 3) ∧ (o + 1 = 1000) = False ∧ (o + 2 = 1000) = False ∧ (o + 3 = 1000) = False ∧ (o + 4 = 1000) = False ∧ (o + 5 = 1000) = False ∧ (o + 6 = 1000) = False ∧ (o + 7 = 1000) = False ∧ (o + 8 = 1000) = False ∧ (o + 1 = 1001) = False ∧ (o + 2 = 1001) = False ∧ (o + 3 = 1001) = False ∧ (o + 6 = 1001) = False ∧ (o + 7 = 1001) = False := by
  rcases ho with rfl | rfl <;> refine ⟨rfl, rfl, rfl, rfl, rfl, rfl, rfl, rfl, rfl, rfl, rfl, rfl, rfl, rfl, rfl, rfl, rfl, rfl, rfl, ?_⟩ <;> decide
