/-! the first state; the law from its loop's head on -/
def k_T : zT := (fun _ => 0, 0, fun _ => 0, 0, fun _ => 0, fun _ => 0, 12, 0, fun _ => (0, 0, 0), 0, fun _ => (0, 0, 0, 0), 0, fun _ => (false, 0, 0, fun _ => 0))
theorem k_zn : zn k_T = 0 := by decide
theorem k_zs : zs k_T = 0 := by decide
theorem k_ok : zOk k_T := by
  refine ⟨⟨by decide, fun i h => absurd h (Nat.not_lt_zero i)⟩, ⟨by decide, fun i h => absurd h (Nat.not_lt_zero i)⟩, ⟨fun k _ => Nat.zero_le 2, fun q _ => Nat.zero_le 9, fun k h => ?_, fun q h => ?_⟩, ⟨by decide, by decide⟩, ⟨by decide, fun i h => absurd h (Nat.not_lt_zero i)⟩, ⟨by decide, fun i h => absurd h (Nat.not_lt_zero i)⟩, by decide, fun s _ => ⟨Nat.zero_le 2, Nat.zero_le 60⟩⟩
  · rw [k_zn] at h
    exact absurd h (Nat.not_lt_zero k)
  · rw [k_zn] at h
    exact absurd h (Nat.not_lt_zero q)
theorem k_x : xI k_s0 k_T := by
  have n0 : nI 0 = 0 := rfl
  refine ⟨⟨⟨rfl, fun i h => absurd h (Nat.not_lt_zero i)⟩, ⟨rfl, fun i h => absurd h (Nat.not_lt_zero i)⟩, ⟨⟨by rw [k_zn]; rfl, by rw [k_zn]; decide, fun k _ => ⟨rfl, Nat.zero_le 2⟩, fun q _ => ⟨rfl, Nat.zero_le 9⟩⟩, rfl⟩, ⟨⟨by rw [k_zs]; rfl, by rw [k_zs]; decide, fun p h => ?_, fun p h => ?_⟩, rfl⟩, rfl, ⟨rfl, fun i h => absurd h (Nat.not_lt_zero i)⟩, ⟨rfl, fun i h => absurd h (Nat.not_lt_zero i)⟩, rfl, fun s h => ?_⟩, Or.inl rfl, Or.inl rfl, Or.inl rfl⟩
  · rw [k_zs] at h
    exact absurd h (Nat.not_lt_zero p)
  · rw [k_zs] at h
    exact absurd h (Nat.not_lt_zero p)
  · rcases (show s = 0 ∨ s = 1 ∨ s = 2 ∨ s = 3 by omega) with rfl | rfl | rfl | rfl <;> exact ⟨rfl, rfl, rfl, fun i _ => rfl⟩
theorem k_m : mI k_s0 k_T := ⟨⟨rfl, by decide, fun i h => absurd h (Nat.not_lt_zero i)⟩, ⟨rfl, by decide, fun i h => absurd h (Nat.not_lt_zero i)⟩, rfl, ⟨rfl, fun i h => absurd h (Nat.not_lt_zero i)⟩, ⟨rfl, fun i h => absurd h (Nat.not_lt_zero i)⟩, rfl, fun s _ => ⟨rfl, rfl, rfl, fun i _ => rfl⟩⟩
/-- where the cells are -/
def k_ad (b o qx qm : Nat) (ux um : Nat → Nat) (i : Nat) : Nat := if i < 57 then (if i = 0 then qx else ux i) else if i < 93 then (if i = 57 then qm else um i) else if i = 1000 then b else o
def k_K (l : Launch) (D : va_G) (ca : Nat → ClassId) (L : Nat) (xs : Nat → Int32) (b o qx qm : Nat) (ux um : Nat → Nat) : vc_K := (l, D, k_ad b o qx qm ux um, ca, L, xs)
theorem k_len {args : Array Value} {s : State} {t : Term} {N : Nat} (hN : N < 2 ^ 31) (h : (Term.length t).eval args s none [] s = some (.int (Int32.ofNat N))) : ∃ (a : Nat) (cell : Cell), t.eval args s none [] s = some (.ref a) ∧ s.arrayAt? a = some cell ∧ cell.slots.size = N := by
  obtain ⟨b, cell, ht, harr, he⟩ := Term.length_spec h
  have hsz : cell.slots.size < 2 ^ 31 := by
    simp only [Term.eval, ht, harr, Option.bind_eq_bind, Option.bind_some] at h
    by_cases hlt : cell.slots.size < 2147483648
    · exact hlt
    · simp [hlt] at h
  refine ⟨b, cell, ht, harr, ?_⟩
  have e : nI N = nI cell.slots.size := Value.int.inj he
  exact ((nI_eq hN hsz).mp e).symm
/-- the row of orders -/
theorem k_ord {args : Array Value} {s : State} (hgv : (Jvm.Cond.and given_1 narrow_1).before args s = true) : ∃ o : Nat, (Term.static "MarkedByNext" "ORDERS" "[I").eval args s none [] s = some (.ref o) ∧ o < s.heap.size ∧ va_X o 18 vc_ords s s.heap := by
  have hs := flat_of_before _ hgv
  have harr : (Cond.arrayOf (.static "MarkedByNext" "ORDERS" "[I") .int).before args s = true := hs _ (by decide +kernel)
  have hlen : (Term.length (.static "MarkedByNext" "ORDERS" "[I")).eval args s none [] s = some (.int (Int32.ofNat 18)) := va_eqt (hs (.eq (.length (.static "MarkedByNext" "ORDERS" "[I")) (.int 18)) (by decide +kernel))
  obtain ⟨a, cell, h1, h2, h3⟩ := k_len (by decide) hlen
  have hel : ∀ j : Nat, j < 18 → (Term.elem (.static "MarkedByNext" "ORDERS" "[I") (.int (Int32.ofNat j))).eval args s none [] s = some (.int (vc_ords j)) := by
    intro j hj
    match j, hj with
    | 0, _ => exact va_eqt (hs (.eq (.elem (.static "MarkedByNext" "ORDERS" "[I") (.int 0)) (.int 0)) (by decide +kernel))
    | 1, _ => exact va_eqt (hs (.eq (.elem (.static "MarkedByNext" "ORDERS" "[I") (.int 1)) (.int 1)) (by decide +kernel))
    | 2, _ => exact va_eqt (hs (.eq (.elem (.static "MarkedByNext" "ORDERS" "[I") (.int 2)) (.int 2)) (by decide +kernel))
    | 3, _ => exact va_eqt (hs (.eq (.elem (.static "MarkedByNext" "ORDERS" "[I") (.int 3)) (.int 0)) (by decide +kernel))
    | 4, _ => exact va_eqt (hs (.eq (.elem (.static "MarkedByNext" "ORDERS" "[I") (.int 4)) (.int 2)) (by decide +kernel))
    | 5, _ => exact va_eqt (hs (.eq (.elem (.static "MarkedByNext" "ORDERS" "[I") (.int 5)) (.int 1)) (by decide +kernel))
    | 6, _ => exact va_eqt (hs (.eq (.elem (.static "MarkedByNext" "ORDERS" "[I") (.int 6)) (.int 1)) (by decide +kernel))
    | 7, _ => exact va_eqt (hs (.eq (.elem (.static "MarkedByNext" "ORDERS" "[I") (.int 7)) (.int 0)) (by decide +kernel))
    | 8, _ => exact va_eqt (hs (.eq (.elem (.static "MarkedByNext" "ORDERS" "[I") (.int 8)) (.int 2)) (by decide +kernel))
    | 9, _ => exact va_eqt (hs (.eq (.elem (.static "MarkedByNext" "ORDERS" "[I") (.int 9)) (.int 1)) (by decide +kernel))
    | 10, _ => exact va_eqt (hs (.eq (.elem (.static "MarkedByNext" "ORDERS" "[I") (.int 10)) (.int 2)) (by decide +kernel))
    | 11, _ => exact va_eqt (hs (.eq (.elem (.static "MarkedByNext" "ORDERS" "[I") (.int 11)) (.int 0)) (by decide +kernel))
    | 12, _ => exact va_eqt (hs (.eq (.elem (.static "MarkedByNext" "ORDERS" "[I") (.int 12)) (.int 2)) (by decide +kernel))
    | 13, _ => exact va_eqt (hs (.eq (.elem (.static "MarkedByNext" "ORDERS" "[I") (.int 13)) (.int 0)) (by decide +kernel))
    | 14, _ => exact va_eqt (hs (.eq (.elem (.static "MarkedByNext" "ORDERS" "[I") (.int 14)) (.int 1)) (by decide +kernel))
    | 15, _ => exact va_eqt (hs (.eq (.elem (.static "MarkedByNext" "ORDERS" "[I") (.int 15)) (.int 2)) (by decide +kernel))
    | 16, _ => exact va_eqt (hs (.eq (.elem (.static "MarkedByNext" "ORDERS" "[I") (.int 16)) (.int 1)) (by decide +kernel))
    | 17, _ => exact va_eqt (hs (.eq (.elem (.static "MarkedByNext" "ORDERS" "[I") (.int 17)) (.int 0)) (by decide +kernel))
    | n + 18, h => exact absurd h (by omega)
  obtain ⟨t, ht, hT⟩ := va_Tof (A := fun _ => False) (f := fun j => .int (vc_ords j)) (by decide) harr hlen hel (fun _ _ h => h)
  cases h1.symm.trans ht
  obtain ⟨cell2, g1, g2, g3, g4, g5, g6, g7⟩ := hT
  obtain ⟨c1, c2, -, -⟩ := State.arrayAt?_spec h2
  cases c1.symm.trans g1
  exact ⟨a, ht, (Array.getElem?_eq_some_iff.mp g1).1, cell, g1, g2, g3, h3, g6⟩
set_option maxHeartbeats 2000000 in
set_option maxRecDepth 100000 in
theorem k_go {p : Program} {e : Env} {s : State} {m : MethodId} {below : List Frame} {meth : Method} {c : Code} (l : Launch) {b L : Nat} {xs : Nat → Int32} (hL : L ≤ 384) (C0 : lw_At p s m meth c b L xs) {D : va_G} {ca : Nat → ClassId} {qx qm : Nat} {ux um : Nat → Nat} {H : Heap} {ls : Array Slot} (hca : va_K D vwCl (kt ca) s) (hS : va_S (fun q : Nat => s.heap.size ≤ q) s.heap H []) (hP : va_P D vwCl (kX ca (fun i => if i = 0 then qx else ux i) ++ kM ca (fun i => if i = 57 then qm else um i)) H) (hD : va_D (fun q : Nat => s.heap.size ≤ q) (kX ca (fun i => if i = 0 then qx else ux i) ++ kM ca (fun i => if i = 57 then qm else um i))) (hl : lv_has ls 4 [(3, .int 0), (2, .ref qm), (1, .ref qx), (0, .ref b)]) : W p l e room_1 s m #[Value.ref b] below meth c H [] 600000 7302250 (lw_Z below #[Value.ref b] s) (F0 m 18 ls []) := by
  obtain ⟨hx, hb, hr, hml, hown, hts, hX, hbl, hlocks, hgv⟩ := id C0
  have htg : ∀ w ∈ lw_g, w.before #[Value.ref b] s = true := fun w hw => hts w (List.mem_filter.mp hw).1
  obtain ⟨o, ho1, ho2, ho3⟩ := k_ord hgv
  have eX : kX ca (fun i => if i = 0 then qx else ux i) = kX ca (k_ad b o qx qm ux um) := kX_cg (fun i _ h => by unfold k_ad; rw [if_pos h])
  have eM : kM ca (fun i => if i = 57 then qm else um i) = kM ca (k_ad b o qx qm ux um) := kM_cg (fun i h1 h2 => by unfold k_ad; rw [if_neg (show ¬ i < 57 by omega), if_pos h2])
  rw [eX, eM, ← k_W (l := l) (D := D) (L := L) (xs := xs)] at hP hD
  have hP : va_P D vwCl (vc_W (k_K l D ca L xs b o qx qm ux um) k_s0) H := hP
  have hD : va_D (fun q : Nat => s.heap.size ≤ q) (vc_W (k_K l D ca L xs b o qx qm ux um) k_s0) := hD
  have a0 : (k_K l D ca L xs b o qx qm ux um).2.2.1 0 = qx := rfl
  have a57 : (k_K l D ca L xs b o qx qm ux um).2.2.1 57 = qm := rfl
  have ab : (k_K l D ca L xs b o qx qm ux um).2.2.1 1000 = b := rfl
  have ao : (k_K l D ca L xs b o qx qm ux um).2.2.1 1001 = o := rfl
  have aD : (k_K l D ca L xs b o qx qm ux um).2.1 = D := rfl
  have al : (k_K l D ca L xs b o qx qm ux um).1 = l := rfl
  have aL : (k_K l D ca L xs b o qx qm ux um).2.2.2.2.1 = L := rfl
  have ax : (k_K l D ca L xs b o qx qm ux um).2.2.2.2.2 = xs := rfl
  have at1 : vc_tys (k_K l D ca L xs b o qx qm ux um) = kt ca := rfl
  generalize k_K l D ca L xs b o qx qm ux um = K at hP hD a0 a57 ab ao aD al aL ax at1
  have get : ∀ i (hi : i < vc_LAY.length), (vc_W K k_s0)[i]? = some (K.2.2.1 i, vc_cell K k_s0 i vc_LAY[i]) := fun i hi => vc_W_get (show vc_LAY[i]? = some vc_LAY[i] from List.getElem?_eq_getElem hi)
  have hge : ∀ i, i < vc_LAY.length → s.heap.size ≤ K.2.2.1 i := fun i hi => hD.2 i _ (get i hi)
  have hno : ∀ q : Nat, q < s.heap.size → ¬ vc_A K q := by
    intro q hq h
    obtain ⟨i, hi, e⟩ := h
    have := hge i hi
    omega
  have hF : vc_F K s := by
    refine ⟨by rw [aD, at1]; exact hca, fun i j hi hj e => hD.1 i j _ _ (get i hi) (get j hj) e, ⟨?_, ?_, ?_⟩, ⟨?_, ?_, ?_⟩, ?_, va_Nw.of rfl (A := #[Value.ref b]) (hts _ k_nst)⟩
    · rw [ab, aL, ax]; exact hX
    · rw [ab]; exact hbl
    · rw [ab]; exact hno b hbl
    · rw [ao]; exact ho3
    · rw [ao]; exact ho2
    · rw [ao]; exact hno o ho2
    · rw [ao]
      exact va_Zof (hts _ k_ls) (htg _ k_in9) ho1 hno
  have hLH : vc_LH K ls 4 [some (.ref 1000), some (.ref 0), some (.ref 57), some (.int (nI 0))] := by
    refine ⟨hl.1, hl.2.1, fun i v hi => ?_⟩
    match i, hi with
    | 0, hi =>
      cases hi
      show ls[0]? = some (.val (.ref (K.2.2.1 1000)))
      rw [ab]
      exact lv_at hl 3 rfl
    | 1, hi =>
      cases hi
      show ls[1]? = some (.val (.ref (K.2.2.1 0)))
      rw [a0]
      exact lv_at hl 2 rfl
    | 2, hi =>
      cases hi
      show ls[2]? = some (.val (.ref (K.2.2.1 57)))
      rw [a57]
      exact lv_at hl 1 rfl
    | 3, hi =>
      cases hi
      exact lv_at hl 0 rfl
    | i + 4, hi => cases hi
  have G := lw_lp (K := K) (Q := fun r _ => r = some (.int (nI 1))) (by rw [aL]; exact hL) (fun _ => rfl) 64 0 k_T k_s0 (by omega) (by rw [aL]; omega) k_ok k_x k_m
  have g := G p e room_1 s m #[Value.ref b] below meth c 600000 7302250 (lw_Z below #[Value.ref b] s) ⟨hx, hb, hml, hown, htg, hF, Nat.le_of_ble_eq_true rfl, Nat.le_of_ble_eq_true rfl, Nat.le_of_ble_eq_true rfl, Nat.le_of_ble_eq_true rfl⟩ ?_ H [] ls hLH (by rw [aD]; exact hP) ⟨hS.1, fun q h1 _ => hS.2.1 q h1 (Nat.not_le.mpr h1), fun q h => by cases h⟩
  · rw [al] at g
    exact g
  · intro pc ins st r σ2 H2 locs2 arr2 hd hrk hq hP2 hS2
    rw [al]
    rw [show (vc_hd 216).2.2.2.1 = some .boolean from rt_216] at hrk
    rcases hrk with ⟨v, rfl, h1, rfl, rfl⟩ | ⟨v, rfl, h1, h2, rfl, rfl⟩ | ⟨v, rfl, h1, rfl, rfl⟩ | ⟨rfl, h1, rfl, rfl⟩ | ⟨a, n, rfl, h1, rfl, rfl⟩
    · cases h1
    · have hv : v = nI 1 := Value.int.inj (Option.some.inj hq)
      subst hv
      refine va_forget (fun q hq => ?_) (lw_ret hx hb hr hlocks hd)
      obtain ⟨i, hi, e⟩ := hS2.2.2 q hq
      rw [e]
      exact hge i hi
    · cases h1
    · cases h1
    · cases h1
