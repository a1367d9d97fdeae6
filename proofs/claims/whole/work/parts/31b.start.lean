/-! the start: what the constructors leave is the document's first state -/
def k_s1 (o k : Nat) : Int32 := if o = 0 then (if k = 15 then 12 else if k = 17 then -1 else 0) else if o = 5 then (if k = 3 then -1 else 0) else if o = 8 then (if k = 3 then -1 else 0) else if o = 21 then (if k = 3 then 1 else 0) else if o = 23 then (if k = 3 then 1 else 0) else if o = 25 then (if k = 3 then 1 else 0) else if o = 27 then (if k = 3 then 1 else 0) else if o = 57 then (if k = 8 then 12 else 0) else 0
def k_s0 : vc_S := (k_s1, fun _ _ => 0)
theorem kSh_lay (f : Nat → Nat) : (fun j => (([some 21, some 23, some 25, some 27] : List (Option Nat)).getD j none).map f) = kSh (f 21) (f 23) (f 25) (f 27) := by
  funext j
  match j with
  | 0 => rfl
  | 1 => rfl
  | 2 => rfl
  | 3 => rfl
  | j + 4 => rfl
theorem k_c0 {l : Launch} {D : va_G} {a : Nat → Nat} {ca : Nat → ClassId} {L : Nat} {xs : Nat → Int32} : vc_cell (l, D, a, ca, L, xs) k_s0 0 (12, 0, [some 1, some 3, some 5, some 8, some 11, some 15, some 20, some 29, some 38, some 47, some 51, some 52, some 54, some 55, some 56, none, none, none, none]) = .inr (9, [.ref (a 1), .ref (a 3), .ref (a 5), .ref (a 8), .ref (a 11), .ref (a 15), .ref (a 20), .ref (a 29), .ref (a 38), .ref (a 47), .ref (a 51), .ref (a 52), .ref (a 54), .ref (a 55), .ref (a 56), .int (k_s1 0 15), .int (k_s1 0 16), .int (k_s1 0 17), .int (k_s1 0 18)]) := by
  show (Sum.inr (9, List.mapIdx _ _) : va_E) = _
  simp only [List.mapIdx_cons, List.mapIdx_nil, Nat.zero_add, Nat.reduceAdd]
  rfl
theorem k_c1 {l : Launch} {D : va_G} {a : Nat → Nat} {ca : Nat → ClassId} {L : Nat} {xs : Nat → Int32} : vc_cell (l, D, a, ca, L, xs) k_s0 1 (10, 0, [some 2, none]) = .inr (7, [.ref (a 2), .int (k_s1 1 1)]) := rfl
theorem k_c3 {l : Launch} {D : va_G} {a : Nat → Nat} {ca : Nat → ClassId} {L : Nat} {xs : Nat → Int32} : vc_cell (l, D, a, ca, L, xs) k_s0 3 (10, 0, [some 4, none]) = .inr (7, [.ref (a 4), .int (k_s1 3 1)]) := rfl
theorem k_c5 {l : Launch} {D : va_G} {a : Nat → Nat} {ca : Nat → ClassId} {L : Nat} {xs : Nat → Int32} : vc_cell (l, D, a, ca, L, xs) k_s0 5 (6, 0, [some 6, some 7, none, none]) = .inr (3, [.ref (a 6), .ref (a 7), .int (k_s1 5 2), .int (k_s1 5 3)]) := rfl
theorem k_c8 {l : Launch} {D : va_G} {a : Nat → Nat} {ca : Nat → ClassId} {L : Nat} {xs : Nat → Int32} : vc_cell (l, D, a, ca, L, xs) k_s0 8 (3, 0, [some 9, some 10, none, none]) = .inr (0, [.ref (a 9), .ref (a 10), .int (k_s1 8 2), .int (k_s1 8 3)]) := rfl
theorem k_c11 {l : Launch} {D : va_G} {a : Nat → Nat} {ca : Nat → ClassId} {L : Nat} {xs : Nat → Int32} : vc_cell (l, D, a, ca, L, xs) k_s0 11 (4, 0, [some 12, some 13, some 14, none]) = .inr (1, [.ref (a 12), .ref (a 13), .ref (a 14), .int (k_s1 11 3)]) := rfl
theorem k_c15 {l : Launch} {D : va_G} {a : Nat → Nat} {ca : Nat → ClassId} {L : Nat} {xs : Nat → Int32} : vc_cell (l, D, a, ca, L, xs) k_s0 15 (7, 0, [some 16, some 17, some 18, some 19, none]) = .inr (4, [.ref (a 16), .ref (a 17), .ref (a 18), .ref (a 19), .int (k_s1 15 4)]) := rfl
theorem k_c21 {l : Launch} {D : va_G} {a : Nat → Nat} {ca : Nat → ClassId} {L : Nat} {xs : Nat → Int32} : vc_cell (l, D, a, ca, L, xs) k_s0 21 (8, 0, [some 22, none, none, none]) = .inr (5, [.ref (a 22), .int (k_s1 21 1), .int (k_s1 21 2), .int (k_s1 21 3)]) := rfl
theorem k_c23 {l : Launch} {D : va_G} {a : Nat → Nat} {ca : Nat → ClassId} {L : Nat} {xs : Nat → Int32} : vc_cell (l, D, a, ca, L, xs) k_s0 23 (8, 0, [some 24, none, none, none]) = .inr (5, [.ref (a 24), .int (k_s1 23 1), .int (k_s1 23 2), .int (k_s1 23 3)]) := rfl
theorem k_c25 {l : Launch} {D : va_G} {a : Nat → Nat} {ca : Nat → ClassId} {L : Nat} {xs : Nat → Int32} : vc_cell (l, D, a, ca, L, xs) k_s0 25 (8, 0, [some 26, none, none, none]) = .inr (5, [.ref (a 26), .int (k_s1 25 1), .int (k_s1 25 2), .int (k_s1 25 3)]) := rfl
theorem k_c27 {l : Launch} {D : va_G} {a : Nat → Nat} {ca : Nat → ClassId} {L : Nat} {xs : Nat → Int32} : vc_cell (l, D, a, ca, L, xs) k_s0 27 (8, 0, [some 28, none, none, none]) = .inr (5, [.ref (a 28), .int (k_s1 27 1), .int (k_s1 27 2), .int (k_s1 27 3)]) := rfl
theorem k_c29 {l : Launch} {D : va_G} {a : Nat → Nat} {ca : Nat → ClassId} {L : Nat} {xs : Nat → Int32} : vc_cell (l, D, a, ca, L, xs) k_s0 29 (11, 0, [some 30, some 31, some 32, some 33, some 34, some 35, some 36, some 37, none, none]) = .inr (8, [.ref (a 30), .ref (a 31), .ref (a 32), .ref (a 33), .ref (a 34), .ref (a 35), .ref (a 36), .ref (a 37), .int (k_s1 29 8), .int (k_s1 29 9)]) := rfl
theorem k_c38 {l : Launch} {D : va_G} {a : Nat → Nat} {ca : Nat → ClassId} {L : Nat} {xs : Nat → Int32} : vc_cell (l, D, a, ca, L, xs) k_s0 38 (11, 0, [some 39, some 40, some 41, some 42, some 43, some 44, some 45, some 46, none, none]) = .inr (8, [.ref (a 39), .ref (a 40), .ref (a 41), .ref (a 42), .ref (a 43), .ref (a 44), .ref (a 45), .ref (a 46), .int (k_s1 38 8), .int (k_s1 38 9)]) := rfl
theorem k_c47 {l : Launch} {D : va_G} {a : Nat → Nat} {ca : Nat → ClassId} {L : Nat} {xs : Nat → Int32} : vc_cell (l, D, a, ca, L, xs) k_s0 47 (4, 0, [some 48, some 49, some 50, none]) = .inr (1, [.ref (a 48), .ref (a 49), .ref (a 50), .int (k_s1 47 3)]) := rfl
theorem k_c51 {l : Launch} {D : va_G} {a : Nat → Nat} {ca : Nat → ClassId} {L : Nat} {xs : Nat → Int32} : vc_cell (l, D, a, ca, L, xs) k_s0 51 (5, 0, [none]) = .inr (2, [.int (k_s1 51 0)]) := rfl
theorem k_c52 {l : Launch} {D : va_G} {a : Nat → Nat} {ca : Nat → ClassId} {L : Nat} {xs : Nat → Int32} : vc_cell (l, D, a, ca, L, xs) k_s0 52 (9, 0, [some 53, none]) = .inr (6, [.ref (a 53), .int (k_s1 52 1)]) := rfl
theorem k_c57 {l : Launch} {D : va_G} {a : Nat → Nat} {ca : Nat → ClassId} {L : Nat} {xs : Nat → Int32} : vc_cell (l, D, a, ca, L, xs) k_s0 57 (13, 0, [some 58, some 59, none, some 60, some 61, none, some 62, some 63, none, none, some 64, some 65, some 66, some 67, none, some 68, some 69, some 70, none, some 71, some 72, some 73, some 74, some 75, some 76, none, some 77, some 78, some 79, some 80, some 81, some 82, none, some 83, some 84, some 85, some 86, some 87, some 88, some 89, some 90, some 91, some 92, none]) = .inr (10, [.ref (a 58), .ref (a 59), .int (k_s1 57 2), .ref (a 60), .ref (a 61), .int (k_s1 57 5), .ref (a 62), .ref (a 63), .int (k_s1 57 8), .int (k_s1 57 9), .ref (a 64), .ref (a 65), .ref (a 66), .ref (a 67), .int (k_s1 57 14), .ref (a 68), .ref (a 69), .ref (a 70), .int (k_s1 57 18), .ref (a 71), .ref (a 72), .ref (a 73), .ref (a 74), .ref (a 75), .ref (a 76), .int (k_s1 57 25), .ref (a 77), .ref (a 78), .ref (a 79), .ref (a 80), .ref (a 81), .ref (a 82), .int (k_s1 57 32), .ref (a 83), .ref (a 84), .ref (a 85), .ref (a 86), .ref (a 87), .ref (a 88), .ref (a 89), .ref (a 90), .ref (a 91), .ref (a 92), .int (k_s1 57 43)]) := by
  show (Sum.inr (10, List.mapIdx _ _) : va_E) = _
  simp only [List.mapIdx_cons, List.mapIdx_nil, Nat.zero_add, Nat.reduceAdd]
  rfl
set_option maxHeartbeats 2000000 in
set_option maxRecDepth 100000 in
theorem k_W {l : Launch} {D : va_G} {a : Nat → Nat} {ca : Nat → ClassId} {L : Nat} {xs : Nat → Int32} : vc_W (l, D, a, ca, L, xs) k_s0 = kX ca a ++ kM ca a := by
  refine List.ext_getElem? (fun i => ?_)
  match i with
  | 0 => exact (vc_W_get (i := 0) (q := (12, 0, [some 1, some 3, some 5, some 8, some 11, some 15, some 20, some 29, some 38, some 47, some 51, some 52, some 54, some 55, some 56, none, none, none, none])) rfl).trans (by rw [k_c0]; rfl)
  | 1 => exact (vc_W_get (i := 1) (q := (10, 0, [some 2, none])) rfl).trans (by rw [k_c1]; rfl)
  | 2 => exact (vc_W_get (i := 2) (q := (0, 39, [])) rfl).trans rfl
  | 3 => exact (vc_W_get (i := 3) (q := (10, 0, [some 4, none])) rfl).trans (by rw [k_c3]; rfl)
  | 4 => exact (vc_W_get (i := 4) (q := (0, 19, [])) rfl).trans rfl
  | 5 => exact (vc_W_get (i := 5) (q := (6, 0, [some 6, some 7, none, none])) rfl).trans (by rw [k_c5]; rfl)
  | 6 => exact (vc_W_get (i := 6) (q := (0, 8, [])) rfl).trans rfl
  | 7 => exact (vc_W_get (i := 7) (q := (0, 24, [])) rfl).trans rfl
  | 8 => exact (vc_W_get (i := 8) (q := (3, 0, [some 9, some 10, none, none])) rfl).trans (by rw [k_c8]; rfl)
  | 9 => exact (vc_W_get (i := 9) (q := (0, 16, [])) rfl).trans rfl
  | 10 => exact (vc_W_get (i := 10) (q := (0, 16, [])) rfl).trans rfl
  | 11 => exact (vc_W_get (i := 11) (q := (4, 0, [some 12, some 13, some 14, none])) rfl).trans (by rw [k_c11]; rfl)
  | 12 => exact (vc_W_get (i := 12) (q := (0, 9, [])) rfl).trans rfl
  | 13 => exact (vc_W_get (i := 13) (q := (0, 9, [])) rfl).trans rfl
  | 14 => exact (vc_W_get (i := 14) (q := (0, 9, [])) rfl).trans rfl
  | 15 => exact (vc_W_get (i := 15) (q := (7, 0, [some 16, some 17, some 18, some 19, none])) rfl).trans (by rw [k_c15]; rfl)
  | 16 => exact (vc_W_get (i := 16) (q := (0, 8, [])) rfl).trans rfl
  | 17 => exact (vc_W_get (i := 17) (q := (0, 8, [])) rfl).trans rfl
  | 18 => exact (vc_W_get (i := 18) (q := (0, 8, [])) rfl).trans rfl
  | 19 => exact (vc_W_get (i := 19) (q := (0, 8, [])) rfl).trans rfl
  | 20 => exact (vc_W_get (i := 20) (q := (2, 4, [some 21, some 23, some 25, some 27])) rfl).trans (congrArg (fun f => some (a 20, (.inl (ca 2, 4, .inr (.inr (.inr (.inr f)))) : va_E))) (kSh_lay a))
  | 21 => exact (vc_W_get (i := 21) (q := (8, 0, [some 22, none, none, none])) rfl).trans (by rw [k_c21]; rfl)
  | 22 => exact (vc_W_get (i := 22) (q := (0, 60, [])) rfl).trans rfl
  | 23 => exact (vc_W_get (i := 23) (q := (8, 0, [some 24, none, none, none])) rfl).trans (by rw [k_c23]; rfl)
  | 24 => exact (vc_W_get (i := 24) (q := (0, 60, [])) rfl).trans rfl
  | 25 => exact (vc_W_get (i := 25) (q := (8, 0, [some 26, none, none, none])) rfl).trans (by rw [k_c25]; rfl)
  | 26 => exact (vc_W_get (i := 26) (q := (0, 60, [])) rfl).trans rfl
  | 27 => exact (vc_W_get (i := 27) (q := (8, 0, [some 28, none, none, none])) rfl).trans (by rw [k_c27]; rfl)
  | 28 => exact (vc_W_get (i := 28) (q := (0, 60, [])) rfl).trans rfl
  | 29 => exact (vc_W_get (i := 29) (q := (11, 0, [some 30, some 31, some 32, some 33, some 34, some 35, some 36, some 37, none, none])) rfl).trans (by rw [k_c29]; rfl)
  | 30 => exact (vc_W_get (i := 30) (q := (0, 496, [])) rfl).trans rfl
  | 31 => exact (vc_W_get (i := 31) (q := (0, 744, [])) rfl).trans rfl
  | 32 => exact (vc_W_get (i := 32) (q := (0, 248, [])) rfl).trans rfl
  | 33 => exact (vc_W_get (i := 33) (q := (0, 240, [])) rfl).trans rfl
  | 34 => exact (vc_W_get (i := 34) (q := (0, 16, [])) rfl).trans rfl
  | 35 => exact (vc_W_get (i := 35) (q := (0, 8, [])) rfl).trans rfl
  | 36 => exact (vc_W_get (i := 36) (q := (0, 16, [])) rfl).trans rfl
  | 37 => exact (vc_W_get (i := 37) (q := (0, 3, [])) rfl).trans rfl
  | 38 => exact (vc_W_get (i := 38) (q := (11, 0, [some 39, some 40, some 41, some 42, some 43, some 44, some 45, some 46, none, none])) rfl).trans (by rw [k_c38]; rfl)
  | 39 => exact (vc_W_get (i := 39) (q := (0, 496, [])) rfl).trans rfl
  | 40 => exact (vc_W_get (i := 40) (q := (0, 744, [])) rfl).trans rfl
  | 41 => exact (vc_W_get (i := 41) (q := (0, 248, [])) rfl).trans rfl
  | 42 => exact (vc_W_get (i := 42) (q := (0, 240, [])) rfl).trans rfl
  | 43 => exact (vc_W_get (i := 43) (q := (0, 16, [])) rfl).trans rfl
  | 44 => exact (vc_W_get (i := 44) (q := (0, 8, [])) rfl).trans rfl
  | 45 => exact (vc_W_get (i := 45) (q := (0, 16, [])) rfl).trans rfl
  | 46 => exact (vc_W_get (i := 46) (q := (0, 3, [])) rfl).trans rfl
  | 47 => exact (vc_W_get (i := 47) (q := (4, 0, [some 48, some 49, some 50, none])) rfl).trans (by rw [k_c47]; rfl)
  | 48 => exact (vc_W_get (i := 48) (q := (0, 9, [])) rfl).trans rfl
  | 49 => exact (vc_W_get (i := 49) (q := (0, 9, [])) rfl).trans rfl
  | 50 => exact (vc_W_get (i := 50) (q := (0, 9, [])) rfl).trans rfl
  | 51 => exact (vc_W_get (i := 51) (q := (5, 0, [none])) rfl).trans (by rw [k_c51]; rfl)
  | 52 => exact (vc_W_get (i := 52) (q := (9, 0, [some 53, none])) rfl).trans (by rw [k_c52]; rfl)
  | 53 => exact (vc_W_get (i := 53) (q := (0, 72, [])) rfl).trans rfl
  | 54 => exact (vc_W_get (i := 54) (q := (0, 4, [])) rfl).trans rfl
  | 55 => exact (vc_W_get (i := 55) (q := (0, 300, [])) rfl).trans rfl
  | 56 => exact (vc_W_get (i := 56) (q := (0, 31, [])) rfl).trans rfl
  | 57 => exact (vc_W_get (i := 57) (q := (13, 0, [some 58, some 59, none, some 60, some 61, none, some 62, some 63, none, none, some 64, some 65, some 66, some 67, none, some 68, some 69, some 70, none, some 71, some 72, some 73, some 74, some 75, some 76, none, some 77, some 78, some 79, some 80, some 81, some 82, none, some 83, some 84, some 85, some 86, some 87, some 88, some 89, some 90, some 91, some 92, none])) rfl).trans (by rw [k_c57]; rfl)
  | 58 => exact (vc_W_get (i := 58) (q := (0, 2, [])) rfl).trans rfl
  | 59 => exact (vc_W_get (i := 59) (q := (0, 78, [])) rfl).trans rfl
  | 60 => exact (vc_W_get (i := 60) (q := (0, 9, [])) rfl).trans rfl
  | 61 => exact (vc_W_get (i := 61) (q := (0, 27, [])) rfl).trans rfl
  | 62 => exact (vc_W_get (i := 62) (q := (0, 16, [])) rfl).trans rfl
  | 63 => exact (vc_W_get (i := 63) (q := (0, 16, [])) rfl).trans rfl
  | 64 => exact (vc_W_get (i := 64) (q := (0, 9, [])) rfl).trans rfl
  | 65 => exact (vc_W_get (i := 65) (q := (0, 9, [])) rfl).trans rfl
  | 66 => exact (vc_W_get (i := 66) (q := (0, 9, [])) rfl).trans rfl
  | 67 => exact (vc_W_get (i := 67) (q := (0, 16, [])) rfl).trans rfl
  | 68 => exact (vc_W_get (i := 68) (q := (0, 9, [])) rfl).trans rfl
  | 69 => exact (vc_W_get (i := 69) (q := (0, 9, [])) rfl).trans rfl
  | 70 => exact (vc_W_get (i := 70) (q := (0, 9, [])) rfl).trans rfl
  | 71 => exact (vc_W_get (i := 71) (q := (0, 3, [])) rfl).trans rfl
  | 72 => exact (vc_W_get (i := 72) (q := (0, 16, [])) rfl).trans rfl
  | 73 => exact (vc_W_get (i := 73) (q := (0, 24, [])) rfl).trans rfl
  | 74 => exact (vc_W_get (i := 74) (q := (0, 8, [])) rfl).trans rfl
  | 75 => exact (vc_W_get (i := 75) (q := (0, 8, [])) rfl).trans rfl
  | 76 => exact (vc_W_get (i := 76) (q := (0, 16, [])) rfl).trans rfl
  | 77 => exact (vc_W_get (i := 77) (q := (0, 480, [])) rfl).trans rfl
  | 78 => exact (vc_W_get (i := 78) (q := (0, 240, [])) rfl).trans rfl
  | 79 => exact (vc_W_get (i := 79) (q := (0, 240, [])) rfl).trans rfl
  | 80 => exact (vc_W_get (i := 80) (q := (0, 720, [])) rfl).trans rfl
  | 81 => exact (vc_W_get (i := 81) (q := (0, 8, [])) rfl).trans rfl
  | 82 => exact (vc_W_get (i := 82) (q := (0, 2, [])) rfl).trans rfl
  | 83 => exact (vc_W_get (i := 83) (q := (0, 8, [])) rfl).trans rfl
  | 84 => exact (vc_W_get (i := 84) (q := (0, 8, [])) rfl).trans rfl
  | 85 => exact (vc_W_get (i := 85) (q := (0, 8, [])) rfl).trans rfl
  | 86 => exact (vc_W_get (i := 86) (q := (0, 8, [])) rfl).trans rfl
  | 87 => exact (vc_W_get (i := 87) (q := (0, 300, [])) rfl).trans rfl
  | 88 => exact (vc_W_get (i := 88) (q := (1, 4, [])) rfl).trans rfl
  | 89 => exact (vc_W_get (i := 89) (q := (0, 4, [])) rfl).trans rfl
  | 90 => exact (vc_W_get (i := 90) (q := (0, 4, [])) rfl).trans rfl
  | 91 => exact (vc_W_get (i := 91) (q := (0, 240, [])) rfl).trans rfl
  | 92 => exact (vc_W_get (i := 92) (q := (0, 60, [])) rfl).trans rfl
  | n + 93 => exact (List.getElem?_eq_none (by unfold vc_W; rw [List.length_mapIdx]; show 93 ≤ n + 93; omega)).trans (List.getElem?_eq_none (by show 93 ≤ n + 93; omega)).symm
theorem kX_cg {ca : Nat → ClassId} {a b : Nat → Nat} (h : ∀ i, 0 ≤ i → i < 57 → a i = b i) : kX ca a = kX ca b := by
  unfold kX
  rw [h 0 (by omega) (by omega), h 1 (by omega) (by omega), h 2 (by omega) (by omega), h 3 (by omega) (by omega), h 4 (by omega) (by omega), h 5 (by omega) (by omega), h 6 (by omega) (by omega), h 7 (by omega) (by omega), h 8 (by omega) (by omega), h 9 (by omega) (by omega), h 10 (by omega) (by omega), h 11 (by omega) (by omega), h 12 (by omega) (by omega), h 13 (by omega) (by omega), h 14 (by omega) (by omega), h 15 (by omega) (by omega), h 16 (by omega) (by omega), h 17 (by omega) (by omega), h 18 (by omega) (by omega), h 19 (by omega) (by omega), h 20 (by omega) (by omega), h 21 (by omega) (by omega), h 22 (by omega) (by omega), h 23 (by omega) (by omega), h 24 (by omega) (by omega), h 25 (by omega) (by omega), h 26 (by omega) (by omega), h 27 (by omega) (by omega), h 28 (by omega) (by omega), h 29 (by omega) (by omega), h 30 (by omega) (by omega), h 31 (by omega) (by omega), h 32 (by omega) (by omega), h 33 (by omega) (by omega), h 34 (by omega) (by omega), h 35 (by omega) (by omega), h 36 (by omega) (by omega), h 37 (by omega) (by omega), h 38 (by omega) (by omega), h 39 (by omega) (by omega), h 40 (by omega) (by omega), h 41 (by omega) (by omega), h 42 (by omega) (by omega), h 43 (by omega) (by omega), h 44 (by omega) (by omega), h 45 (by omega) (by omega), h 46 (by omega) (by omega), h 47 (by omega) (by omega), h 48 (by omega) (by omega), h 49 (by omega) (by omega), h 50 (by omega) (by omega), h 51 (by omega) (by omega), h 52 (by omega) (by omega), h 53 (by omega) (by omega), h 54 (by omega) (by omega), h 55 (by omega) (by omega), h 56 (by omega) (by omega)]
theorem kM_cg {ca : Nat → ClassId} {a b : Nat → Nat} (h : ∀ i, 57 ≤ i → i < 93 → a i = b i) : kM ca a = kM ca b := by
  unfold kM
  rw [h 57 (by omega) (by omega), h 58 (by omega) (by omega), h 59 (by omega) (by omega), h 60 (by omega) (by omega), h 61 (by omega) (by omega), h 62 (by omega) (by omega), h 63 (by omega) (by omega), h 64 (by omega) (by omega), h 65 (by omega) (by omega), h 66 (by omega) (by omega), h 67 (by omega) (by omega), h 68 (by omega) (by omega), h 69 (by omega) (by omega), h 70 (by omega) (by omega), h 71 (by omega) (by omega), h 72 (by omega) (by omega), h 73 (by omega) (by omega), h 74 (by omega) (by omega), h 75 (by omega) (by omega), h 76 (by omega) (by omega), h 77 (by omega) (by omega), h 78 (by omega) (by omega), h 79 (by omega) (by omega), h 80 (by omega) (by omega), h 81 (by omega) (by omega), h 82 (by omega) (by omega), h 83 (by omega) (by omega), h 84 (by omega) (by omega), h 85 (by omega) (by omega), h 86 (by omega) (by omega), h 87 (by omega) (by omega), h 88 (by omega) (by omega), h 89 (by omega) (by omega), h 90 (by omega) (by omega), h 91 (by omega) (by omega), h 92 (by omega) (by omega)]
