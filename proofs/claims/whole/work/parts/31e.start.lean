set_option maxHeartbeats 4000000 in
set_option maxRecDepth 100000 in
/-- from the entry, for every script of at most 384 ints, the law comes to its end with true -/
theorem whole_start {p : Program} {e : Env} {s : State} {m : MethodId} {below : List Frame} {meth : Method} {c : Code} (l : Launch) {b L : Nat} {xs : Nat → Int32} (hL : L ≤ 384) (C0 : lw_At p s m meth c b L xs) : W p l e room_1 s m #[Value.ref b] below meth c s.heap [] 0 0 (lw_Z below #[Value.ref b] s) (entryFrame m ([Value.ref b] : List Value).toArray 4) := by
  obtain ⟨hx, hb, hr, hml, hown, hts, hX, hbl, hlocks, hgv⟩ := id C0
  have htg : ∀ w ∈ lw_g, w.before #[Value.ref b] s = true := fun w hw => hts w (List.mem_filter.mp hw).1
  have hao : va_AO "MarkedByNext$Sheet" s := va_AO.of (A := #[Value.ref b]) (hts _ k_ao)
  obtain ⟨dC, dI, hKc⟩ := k_cls htg
  obtain ⟨ca, hca⟩ := k_arr htg hao hKc
  have hex : kEx s := ⟨hao, fun w hw => va_Nw.of rfl (A := #[Value.ref b]) (hts _ (kNs_in w hw))⟩
  have F : kF (dC, dI) ca p s m c code #[Value.ref b] R_law (fun q : Nat => s.heap.size ≤ q) := ⟨hx, hb, htg, hown, hca, fun _ h => h⟩
  have hS : va_S (fun q : Nat => s.heap.size ≤ q) s.heap s.heap [] := va_S.rf
  have hP : va_P (dC, dI) vwCl [] s.heap := fun k q h => by cases h
  have hD : va_D (fun q : Nat => s.heap.size ≤ q) [] := ⟨fun i j p q h => (by cases h), fun k q h => (by cases h)⟩
  have hl := lv_entry ([.ref b]) (n := 4) (Nat.le_of_ble_eq_true rfl)
  rw [lg_entry_eq]
  generalize (lg_sl ([.ref b]) ++ List.replicate (4 - (lg_sl ([.ref b])).length) Slot.unset).toArray = ls at hl ⊢
  have hl : lv_has ls 4 [(0, .ref b)] := hl
  have hnl : c.maxLocals = ls.size := hml.trans hl.1.symm
  refine kn_new F 9 7 rfl inX9 tyX9 tyX9_ok (vc_wp_in (p := 105) (by decide +kernel)) (vc_wp_in (p := 106) (by decide +kernel)) (vc_wp_in (p := 90) (by decide +kernel)) [.null, .null, .null, .null, .null, .null, .null, .null, .null, .null, .null, .null, .null, .null, .null, .int 0, .int 0, .int 0, .int 0] (fun j hj => by have hj : j < 19 := hj; match j, hj with | 0, _ => rfl | 1, _ => rfl | 2, _ => rfl | 3, _ => rfl | 4, _ => rfl | 5, _ => rfl | 6, _ => rfl | 7, _ => rfl | 8, _ => rfl | 9, _ => rfl | 10, _ => rfl | 11, _ => rfl | 12, _ => rfl | 13, _ => rfl | 14, _ => rfl | 15, _ => rfl | 16, _ => rfl | 17, _ => rfl | 18, _ => rfl | n + 19, h => exact absurd h (by omega)) hP hD hS (Nat.le_of_ble_eq_true rfl) (Nat.le_of_ble_eq_true rfl) (show decode code _ = .ok (.new 7, 3) by decide +kernel) (show decode code _ = .ok (.dup, 1) by decide +kernel) (fun qx H hP hD hS => ?_)
  refine kn_call F hnl (index := 9) (n := 0) (rest := [.ref qx]) (q := qx) (kc_X l (dC, dI) ca) rfl (Or.inl (vc_wp_in (p := 107) (by decide +kernel))) (vc_wp_in (p := 109) (by decide +kernel)) (vc_wp_in (p := 90) (by decide +kernel)) (vc_wp_in (p := 108) (by decide +kernel)) rfl ⟨(by decide +kernel), (by decide +kernel), (by decide +kernel)⟩ rfl ⟨(Nat.le_of_ble_eq_true rfl), (Nat.le_of_ble_eq_true rfl)⟩ kEx.call (fun U _ hW => hex.warm hW) hP hD hS (Nat.le_of_ble_eq_true rfl) (Nat.le_of_ble_eq_true rfl) (Nat.le_of_ble_eq_true rfl) (show decode code _ = .ok (.invokespecial 9, 3) by decide +kernel) (fun ux H locs hP hD hS => ?_)
  refine lv_astore_n (lv' := [(1, .ref qx), (0, .ref b)]) hx hb (show decode code _ = .ok (.astore_n 1, 1) by decide +kernel) rfl hl (by decide) rfl (fun ls hl => ?_)
  have hnl : c.maxLocals = ls.size := hml.trans hl.1.symm
  refine kn_new F 10 10 rfl inX10 tyX10 tyX10_ok (vc_wp_in (p := 864) (by decide +kernel)) (vc_wp_in (p := 865) (by decide +kernel)) (vc_wp_in (p := 101) (by decide +kernel)) [.null, .null, .int 0, .null, .null, .int 0, .null, .null, .int 0, .int 0, .null, .null, .null, .null, .int 0, .null, .null, .null, .int 0, .null, .null, .null, .null, .null, .null, .int 0, .null, .null, .null, .null, .null, .null, .int 0, .null, .null, .null, .null, .null, .null, .null, .null, .null, .null, .int 0] (fun j hj => by have hj : j < 44 := hj; match j, hj with | 0, _ => rfl | 1, _ => rfl | 2, _ => rfl | 3, _ => rfl | 4, _ => rfl | 5, _ => rfl | 6, _ => rfl | 7, _ => rfl | 8, _ => rfl | 9, _ => rfl | 10, _ => rfl | 11, _ => rfl | 12, _ => rfl | 13, _ => rfl | 14, _ => rfl | 15, _ => rfl | 16, _ => rfl | 17, _ => rfl | 18, _ => rfl | 19, _ => rfl | 20, _ => rfl | 21, _ => rfl | 22, _ => rfl | 23, _ => rfl | 24, _ => rfl | 25, _ => rfl | 26, _ => rfl | 27, _ => rfl | 28, _ => rfl | 29, _ => rfl | 30, _ => rfl | 31, _ => rfl | 32, _ => rfl | 33, _ => rfl | 34, _ => rfl | 35, _ => rfl | 36, _ => rfl | 37, _ => rfl | 38, _ => rfl | 39, _ => rfl | 40, _ => rfl | 41, _ => rfl | 42, _ => rfl | 43, _ => rfl | n + 44, h => exact absurd h (by omega)) hP hD hS (Nat.le_of_ble_eq_true rfl) (Nat.le_of_ble_eq_true rfl) (show decode code _ = .ok (.new 10, 3) by decide +kernel) (show decode code _ = .ok (.dup, 1) by decide +kernel) (fun qm H hP hD hS => ?_)
  refine kn_call F hnl (index := 12) (n := 0) (rest := [.ref qm]) (q := qm) (kc_M l (dC, dI) ca) rfl (Or.inl (vc_wp_in (p := 866) (by decide +kernel))) (vc_wp_in (p := 868) (by decide +kernel)) (vc_wp_in (p := 101) (by decide +kernel)) (vc_wp_in (p := 867) (by decide +kernel)) rfl ⟨(by decide +kernel), (by decide +kernel), (by decide +kernel)⟩ rfl ⟨(Nat.le_of_ble_eq_true rfl), (Nat.le_of_ble_eq_true rfl)⟩ (fun _ _ _ _ _ => trivial) (fun _ _ _ => trivial) hP hD hS (Nat.le_of_ble_eq_true rfl) (Nat.le_of_ble_eq_true rfl) (Nat.le_of_ble_eq_true rfl) (show decode code _ = .ok (.invokespecial 12, 3) by decide +kernel) (fun um H locs hP hD hS => ?_)
  refine lv_astore_n (lv' := [(2, .ref qm), (1, .ref qx), (0, .ref b)]) hx hb (show decode code _ = .ok (.astore_n 2, 1) by decide +kernel) rfl hl (by decide) rfl (fun ls hl => ?_)
  refine lv_iconst (v := 0) hx hb (show decode code _ = .ok (.iconst 0, 1) by decide +kernel) (by decide +kernel) ?_
  refine lv_istore_n (lv' := [(3, .int 0), (2, .ref qm), (1, .ref qx), (0, .ref b)]) hx hb (show decode code _ = .ok (.istore_n 3, 1) by decide +kernel) rfl hl (by decide) rfl (fun ls hl => ?_)
  refine W.widen (k := 600000) (n := 7302250) (Nat.le_of_ble_eq_true rfl) (Nat.le_of_ble_eq_true rfl) ?_
  refine va_forget (fun q hq => hS.2.2 q hq) ?_
  have hP : va_P (dC, dI) vwCl (kX ca (fun i => if i = 0 then qx else ux i) ++ kM ca (fun i => if i = 57 then qm else um i)) H := hP
  have hD : va_D (fun q : Nat => s.heap.size ≤ q) (kX ca (fun i => if i = 0 then qx else ux i) ++ kM ca (fun i => if i = 57 then qm else um i)) := hD
  exact k_go l hL C0 hca ⟨hS.1, hS.2.1, fun q h => by cases h⟩ hP hD hl
