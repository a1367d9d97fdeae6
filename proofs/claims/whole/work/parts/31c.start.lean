theorem kNs_in : ∀ w ∈ kNs, Cond.methodLinkNest "MarkedByNext" w.1 w.2 "MarkedByNext" ∈ lw_tbl := by decide +kernel
theorem k_nst : vc_nst ∈ lw_tbl := by decide +kernel
theorem k_ao : Cond.arrayOver (.object "MarkedByNext$Sheet") ∈ lw_tbl := List.mem_of_getElem? (i := 233) (by decide +kernel)
theorem k_ls : Cond.laysStatic "MarkedByNext" "ORDERS" "[I" ∈ lw_tbl := List.mem_of_getElem? (i := 641) (by decide +kernel)
theorem k_in9 : Cond.initialized "MarkedByNext" ∈ lw_g := (vc_wp_in (p := 90) (by decide +kernel))
theorem k_cls {s : State} {args : Array Value} (htg : ∀ w ∈ lw_g, w.before args s = true) : ∃ (dC : Nat → ClassId) (dI : Nat → Nat → Nat), ∀ (k : Nat) (q : vw_C), vwCl[k]? = some q → u_Kn s q.1 q.2.1 q.2.2 (dC k) (dI k) := by
  obtain ⟨c0, i0, k0⟩ := u_known (C := RX0) (T := TX0) (N := 4) (n := 4) htg inX0 (htg _ (vc_wp_in (p := 162) (by decide +kernel)))
  obtain ⟨c1, i1, k1⟩ := u_known (C := RX1) (T := TX1) (N := 4) (n := 4) htg inX1 (htg _ (vc_wp_in (p := 186) (by decide +kernel)))
  obtain ⟨c2, i2, k2⟩ := u_known (C := RX2) (T := TX2) (N := 1) (n := 1) htg inX2 (htg _ (vc_wp_in (p := 279) (by decide +kernel)))
  obtain ⟨c3, i3, k3⟩ := u_known (C := RX3) (T := TX3) (N := 4) (n := 4) htg inX3 (htg _ (vc_wp_in (p := 136) (by decide +kernel)))
  obtain ⟨c4, i4, k4⟩ := u_known (C := RX4) (T := TX4) (N := 5) (n := 5) htg inX4 (htg _ (vc_wp_in (p := 210) (by decide +kernel)))
  obtain ⟨c5, i5, k5⟩ := u_known (C := RX5) (T := TX5) (N := 4) (n := 4) htg inX5 (htg _ (vc_wp_in (p := 303) (by decide +kernel)))
  obtain ⟨c6, i6, k6⟩ := u_known (C := RX6) (T := TX6) (N := 2) (n := 2) htg inX6 (htg _ (vc_wp_in (p := 290) (by decide +kernel)))
  obtain ⟨c7, i7, k7⟩ := u_known (C := RX7) (T := TX7) (N := 2) (n := 2) htg inX7 (htg _ (vc_wp_in (p := 114) (by decide +kernel)))
  obtain ⟨c8, i8, k8⟩ := u_known (C := RX8) (T := TX8) (N := 10) (n := 10) htg inX8 (htg _ (vc_wp_in (p := 235) (by decide +kernel)))
  obtain ⟨c9, i9, k9⟩ := u_known (C := RX9) (T := TX9) (N := 19) (n := 19) htg inX9 (htg _ (vc_wp_in (p := 106) (by decide +kernel)))
  obtain ⟨c10, i10, k10⟩ := u_known (C := RX10) (T := TX10) (N := 44) (n := 44) htg inX10 (htg _ (vc_wp_in (p := 865) (by decide +kernel)))
  refine ⟨fun k => [c0, c1, c2, c3, c4, c5, c6, c7, c8, c9, c10].getD k c0, fun k => [i0, i1, i2, i3, i4, i5, i6, i7, i8, i9, i10].getD k i0, ?_⟩
  intro k q hq
  match k, hq with
  | 0, hq => cases hq; exact k0
  | 1, hq => cases hq; exact k1
  | 2, hq => cases hq; exact k2
  | 3, hq => cases hq; exact k3
  | 4, hq => cases hq; exact k4
  | 5, hq => cases hq; exact k5
  | 6, hq => cases hq; exact k6
  | 7, hq => cases hq; exact k7
  | 8, hq => cases hq; exact k8
  | 9, hq => cases hq; exact k9
  | 10, hq => cases hq; exact k10
  | k + 11, hq => cases hq
theorem k_arr {s : State} {args : Array Value} {dC : Nat → ClassId} {dI : Nat → Nat → Nat} (htg : ∀ w ∈ lw_g, w.before args s = true) (hao : va_AO "MarkedByNext$Sheet" s) (hKc : ∀ (k : Nat) (q : vw_C), vwCl[k]? = some q → u_Kn s q.1 q.2.1 q.2.2 (dC k) (dI k)) : ∃ ca : Nat → ClassId, va_K (dC, dI) vwCl (kt ca) s := by
  obtain ⟨cI, kI, pI, f1, f2, f3⟩ := Cond.arrayClass_spec (htg _ kn_ar.1)
  obtain ⟨cZ, kZ, pZ, g1, g2, g3⟩ := Cond.arrayClass_spec (htg _ kn_ar.2)
  obtain ⟨pS, cS, kS, h1, h2, h3, h4, h5⟩ := Cond.arrayOver_spec hao
  refine ⟨fun k => [cI, cZ, cS].getD k cI, hKc, fun k q hq => ?_⟩
  match k, hq with
  | 0, hq => cases hq; exact ⟨fun n z => ⟨fun k h => (by cases h), kI, f2, pI, f3⟩, f1⟩
  | 1, hq => cases hq; exact ⟨fun n z => ⟨fun k h => (by cases h), kZ, g2, pZ, g3⟩, g1⟩
  | 2, hq => cases hq; exact ⟨fun n z => ⟨fun k h => (by cases h), kS, h3, pS, h4⟩, kS, pS, h3, h4, h1, h5⟩
  | k + 3, hq => cases hq
