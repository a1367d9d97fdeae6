def vc_NH : Nat := 216
theorem vc_HP_lt {i k n : Nat} (h : (vc_HP[i]?).map (fun q => (q.1, q.2.1)) = some (k, n)) (hk : ¬ k = 2) : i < vc_NH := by
  have hl : i < vc_HP.length := by
    cases hq : vc_HP[i]? with
    | none => rw [hq] at h; cases h
    | some q => exact (List.getElem?_eq_some_iff.mp hq).1
  have hlen : vc_HP.length = 217 := by decide +kernel
  by_cases hi : i = 216
  · subst hi
    have h218 : (vc_HP[216]?).map (fun q => (q.1, q.2.1)) = some (2, 1) := by decide +kernel
    rw [h218] at h
    simp only [Option.some.injEq, Prod.mk.injEq] at h
    exact absurd h.1.symm hk
  · show i < 216
    omega
theorem vc_nat : Cond.native arraycopyName ∈ lw_g ∧ Cond.static arraycopyName ∈ lw_g ∧ Cond.initialized "java/lang/System" ∈ lw_g := by
  have h := lw_g_all (ws := [Cond.native arraycopyName, Cond.static arraycopyName, Cond.initialized "java/lang/System"]) (by decide +kernel)
  exact ⟨h _ (by simp), h _ (by simp), h _ (by simp)⟩
theorem vc_mth : Cond.initialized "java/lang/Math" ∈ lw_g ∧ (Cond.static Lib.Math.max.name ∈ lw_g ∧ Cond.code Lib.Math.max.name Lib.Math.max.code 2 (some .int) ∈ lw_g) ∧ (Cond.static Lib.Math.min.name ∈ lw_g ∧ Cond.code Lib.Math.min.name Lib.Math.min.code 2 (some .int) ∈ lw_g) := by
  have h := lw_g_all (ws := [Cond.initialized "java/lang/Math", Cond.static Lib.Math.max.name, Cond.code Lib.Math.max.name Lib.Math.max.code 2 (some .int), Cond.static Lib.Math.min.name, Cond.code Lib.Math.min.name Lib.Math.min.code 2 (some .int)]) (by decide +kernel)
  exact ⟨h _ (by simp), ⟨h _ (by simp), h _ (by simp)⟩, ⟨h _ (by simp), h _ (by simp)⟩⟩
set_option maxHeartbeats 4000000 in
/-- what a block asks for is enough -/
theorem vc_sound {K : vc_K} {j te : Nat} {Q : Option Value → vc_S → Prop} (hall : ∀ i, i < vc_NH → vc_hk i = true) : ∀ (L : List vc_I) (pc : Nat) (ls : List (Option Value)) (st : List Value) (σ : vc_S), vc_ok j te pc L = true → vc_wi K j Q te L ls st σ → vc_G K j pc ls st σ Q := by
  intro L
  induction L with
  | nil =>
    intro pc ls st σ hok hwi
    have : pc = te := of_decide_eq_true hok
    subst this
    exact hwi
  | cons q L IH =>
    obtain ⟨pc, len, ins, ⟨a1, a2, a3, a4⟩, ⟨v, w⟩⟩ := q
    intro pc' ls st σ hok hwi
    simp only [vc_ok, Bool.and_eq_true, decide_eq_true_eq] at hok
    obtain ⟨⟨rfl, hck⟩, hrest⟩ := hok
    simp only [vc_ck, Bool.and_eq_true, decide_eq_true_eq] at hck
    obtain ⟨hd, hck⟩ := hck
    intro p e R s m args below meth c cells slots Z F Rt H locs arr hLH hP hS
    have F' := F
    obtain ⟨hx, hb, hml, hown, hts, hF, f1, f2, f3, f4⟩ := F'
    cases ins
    case iconst n =>
      simp only [Bool.and_eq_true, decide_eq_true_eq] at hck
      obtain ⟨rfl, hv⟩ := hck
      exact lv_iconst hx hb hd hv (IH _ _ _ _ (by simpa [vc_end] using hrest) hwi _ _ _ _ _ _ _ _ _ _ _ _ F Rt _ _ _ hLH hP hS)
    case bipush n =>
      simp only [Bool.and_eq_true, decide_eq_true_eq] at hck
      obtain ⟨rfl, hv⟩ := hck
      exact lv_bipush hx hb hd hv (IH _ _ _ _ (by simpa [vc_end] using hrest) hwi _ _ _ _ _ _ _ _ _ _ _ _ F Rt _ _ _ hLH hP hS)
    case sipush n =>
      simp only [Bool.and_eq_true, decide_eq_true_eq] at hck
      obtain ⟨rfl, hv⟩ := hck
      exact lv_sipush hx hb hd hv (IH _ _ _ _ (by simpa [vc_end] using hrest) hwi _ _ _ _ _ _ _ _ _ _ _ _ F Rt _ _ _ hLH hP hS)
    case lconst n =>
      simp only [Bool.and_eq_true, decide_eq_true_eq] at hck
      obtain ⟨rfl, hv⟩ := hck
      exact lv_lconst hx hb hd hv (IH _ _ _ _ (by simpa [vc_end] using hrest) hwi _ _ _ _ _ _ _ _ _ _ _ _ F Rt _ _ _ hLH hP hS)
    case ldc n =>
      simp only [Bool.and_eq_true, decide_eq_true_eq] at hck
      obtain ⟨rfl, hv⟩ := hck
      exact lv_ldc hx hb hown (hts _ (vc_wp_in hv)) hd (IH _ _ _ _ (by simpa [vc_end] using hrest) hwi _ _ _ _ _ _ _ _ _ _ _ _ F Rt _ _ _ hLH hP hS)
    case ldc_w n =>
      simp only [Bool.and_eq_true, decide_eq_true_eq] at hck
      obtain ⟨rfl, hv⟩ := hck
      exact lv_ldcw hx hb hown (hts _ (vc_wp_in hv)) hd (IH _ _ _ _ (by simpa [vc_end] using hrest) hwi _ _ _ _ _ _ _ _ _ _ _ _ F Rt _ _ _ hLH hP hS)
    case ldc2_w n =>
      simp only [Bool.and_eq_true, decide_eq_true_eq] at hck
      obtain ⟨rfl, hv⟩ := hck
      exact lv_ldc2 hx hb hown (hts _ (vc_wp_in hv)) hd (IH _ _ _ _ (by simpa [vc_end] using hrest) hwi _ _ _ _ _ _ _ _ _ _ _ _ F Rt _ _ _ hLH hP hS)
    case iload n =>
      simp only [Bool.and_eq_true, decide_eq_true_eq] at hck
      obtain ⟨rfl, rfl⟩ := hck
      obtain ⟨x, hl, hwi⟩ := vc_li_inv hwi
      exact lv_iload hx hb hd (hLH.get hl) (IH _ _ _ _ (by simpa [vc_end] using hrest) hwi _ _ _ _ _ _ _ _ _ _ _ _ F Rt _ _ _ hLH hP hS)
    case iload_n n =>
      simp only [Bool.and_eq_true, decide_eq_true_eq] at hck
      obtain ⟨rfl, rfl⟩ := hck
      obtain ⟨x, hl, hwi⟩ := vc_li_inv hwi
      exact lv_iload_n hx hb hd rfl (hLH.get hl) (IH _ _ _ _ (by simpa [vc_end] using hrest) hwi _ _ _ _ _ _ _ _ _ _ _ _ F Rt _ _ _ hLH hP hS)
    case lload n =>
      simp only [Bool.and_eq_true, decide_eq_true_eq] at hck
      obtain ⟨rfl, rfl⟩ := hck
      obtain ⟨x, hl, hwi⟩ := vc_ll_inv hwi
      exact lv_lload hx hb hd (hLH.get hl) (IH _ _ _ _ (by simpa [vc_end] using hrest) hwi _ _ _ _ _ _ _ _ _ _ _ _ F Rt _ _ _ hLH hP hS)
    case lload_n n =>
      simp only [Bool.and_eq_true, decide_eq_true_eq] at hck
      obtain ⟨rfl, rfl⟩ := hck
      obtain ⟨x, hl, hwi⟩ := vc_ll_inv hwi
      exact lv_lload_n hx hb hd rfl (hLH.get hl) (IH _ _ _ _ (by simpa [vc_end] using hrest) hwi _ _ _ _ _ _ _ _ _ _ _ _ F Rt _ _ _ hLH hP hS)
    case aload n =>
      simp only [Bool.and_eq_true, decide_eq_true_eq] at hck
      obtain ⟨rfl, rfl⟩ := hck
      obtain ⟨x, hl, hwi⟩ := vc_lr_inv hwi
      exact lv_aload hx hb hd (hLH.get hl) (IH _ _ _ _ (by simpa [vc_end] using hrest) hwi _ _ _ _ _ _ _ _ _ _ _ _ F Rt _ _ _ hLH hP hS)
    case aload_n n =>
      simp only [Bool.and_eq_true, decide_eq_true_eq] at hck
      obtain ⟨rfl, rfl⟩ := hck
      obtain ⟨x, hl, hwi⟩ := vc_lr_inv hwi
      exact lv_aload_n hx hb hd rfl (hLH.get hl) (IH _ _ _ _ (by simpa [vc_end] using hrest) hwi _ _ _ _ _ _ _ _ _ _ _ _ F Rt _ _ _ hLH hP hS)
    case istore n =>
      simp only [Bool.and_eq_true, decide_eq_true_eq] at hck
      obtain ⟨⟨rfl, rfl⟩, hn⟩ := hck
      obtain ⟨x, r, rfl, hwi⟩ := vc_i1_inv hwi
      exact lv_istore hx hb hd (vc_al_has hLH) hn rfl (fun arr1 h1 => (IH _ _ _ _ (by simpa [vc_end] using hrest) hwi _ _ _ _ _ _ _ _ _ _ _ _ F Rt _ _ _ (vc_LH.s1 h1) hP hS))
    case istore_n n =>
      simp only [Bool.and_eq_true, decide_eq_true_eq] at hck
      obtain ⟨⟨rfl, rfl⟩, hn⟩ := hck
      obtain ⟨x, r, rfl, hwi⟩ := vc_i1_inv hwi
      exact lv_istore_n hx hb hd rfl (vc_al_has hLH) hn rfl (fun arr1 h1 => (IH _ _ _ _ (by simpa [vc_end] using hrest) hwi _ _ _ _ _ _ _ _ _ _ _ _ F Rt _ _ _ (vc_LH.s1 h1) hP hS))
    case lstore n =>
      simp only [Bool.and_eq_true, decide_eq_true_eq] at hck
      obtain ⟨⟨rfl, rfl⟩, hn⟩ := hck
      obtain ⟨x, r, rfl, hwi⟩ := vc_l1_inv hwi
      exact lv_lstore hx hb hd (vc_al_has hLH) hn rfl (fun arr1 h1 => (IH _ _ _ _ (by simpa [vc_end] using hrest) hwi _ _ _ _ _ _ _ _ _ _ _ _ F Rt _ _ _ (vc_LH.s2 h1) hP hS))
    case lstore_n n =>
      simp only [Bool.and_eq_true, decide_eq_true_eq] at hck
      obtain ⟨⟨rfl, rfl⟩, hn⟩ := hck
      obtain ⟨x, r, rfl, hwi⟩ := vc_l1_inv hwi
      exact lv_lstore_n hx hb hd rfl (vc_al_has hLH) hn rfl (fun arr1 h1 => (IH _ _ _ _ (by simpa [vc_end] using hrest) hwi _ _ _ _ _ _ _ _ _ _ _ _ F Rt _ _ _ (vc_LH.s2 h1) hP hS))
    case astore n =>
      simp only [Bool.and_eq_true, decide_eq_true_eq] at hck
      obtain ⟨⟨rfl, rfl⟩, hn⟩ := hck
      obtain ⟨x, r, rfl, hwi⟩ := vc_r1_inv hwi
      exact lv_astore hx hb hd (vc_al_has hLH) hn rfl (fun arr1 h1 => (IH _ _ _ _ (by simpa [vc_end] using hrest) hwi _ _ _ _ _ _ _ _ _ _ _ _ F Rt _ _ _ (vc_LH.s1 h1) hP hS))
    case astore_n n =>
      simp only [Bool.and_eq_true, decide_eq_true_eq] at hck
      obtain ⟨⟨rfl, rfl⟩, hn⟩ := hck
      obtain ⟨x, r, rfl, hwi⟩ := vc_r1_inv hwi
      exact lv_astore_n hx hb hd rfl (vc_al_has hLH) hn rfl (fun arr1 h1 => (IH _ _ _ _ (by simpa [vc_end] using hrest) hwi _ _ _ _ _ _ _ _ _ _ _ _ F Rt _ _ _ (vc_LH.s1 h1) hP hS))
    case iinc i n =>
      simp only [Bool.and_eq_true, decide_eq_true_eq] at hck
      obtain ⟨⟨⟨rfl, rfl⟩, hn⟩, rfl⟩ := hck
      obtain ⟨x, hl, hwi⟩ := vc_li_inv hwi
      obtain ⟨k, hk⟩ := List.getElem?_of_mem (vc_al_in (K := K) hl)
      exact lv_iinc hx hb hd (vc_al_has hLH) hk rfl hn rfl (fun arr1 h1 => (IH _ _ _ _ (by simpa [vc_end] using hrest) hwi _ _ _ _ _ _ _ _ _ _ _ _ F Rt _ _ _ (vc_LH.s1 (v := .int _) h1) hP hS))
    case iadd =>
      have hck := of_decide_eq_true hck
      subst hck
      obtain ⟨a, b, r, rfl, hwi⟩ := vc_i2_inv hwi
      exact lv_iadd hx hb hd (IH _ _ _ _ (by simpa [vc_end] using hrest) hwi _ _ _ _ _ _ _ _ _ _ _ _ F Rt _ _ _ hLH hP hS)
    case isub =>
      have hck := of_decide_eq_true hck
      subst hck
      obtain ⟨a, b, r, rfl, hwi⟩ := vc_i2_inv hwi
      exact lv_isub hx hb hd (IH _ _ _ _ (by simpa [vc_end] using hrest) hwi _ _ _ _ _ _ _ _ _ _ _ _ F Rt _ _ _ hLH hP hS)
    case imul =>
      have hck := of_decide_eq_true hck
      subst hck
      obtain ⟨a, b, r, rfl, hwi⟩ := vc_i2_inv hwi
      exact lv_imul hx hb hd (IH _ _ _ _ (by simpa [vc_end] using hrest) hwi _ _ _ _ _ _ _ _ _ _ _ _ F Rt _ _ _ hLH hP hS)
    case iand =>
      have hck := of_decide_eq_true hck
      subst hck
      obtain ⟨a, b, r, rfl, hwi⟩ := vc_i2_inv hwi
      exact lv_iand hx hb hd (IH _ _ _ _ (by simpa [vc_end] using hrest) hwi _ _ _ _ _ _ _ _ _ _ _ _ F Rt _ _ _ hLH hP hS)
    case ior =>
      have hck := of_decide_eq_true hck
      subst hck
      obtain ⟨a, b, r, rfl, hwi⟩ := vc_i2_inv hwi
      exact lv_ior hx hb hd (IH _ _ _ _ (by simpa [vc_end] using hrest) hwi _ _ _ _ _ _ _ _ _ _ _ _ F Rt _ _ _ hLH hP hS)
    case ixor =>
      have hck := of_decide_eq_true hck
      subst hck
      obtain ⟨a, b, r, rfl, hwi⟩ := vc_i2_inv hwi
      exact lv_ixor hx hb hd (IH _ _ _ _ (by simpa [vc_end] using hrest) hwi _ _ _ _ _ _ _ _ _ _ _ _ F Rt _ _ _ hLH hP hS)
    case ishl =>
      have hck := of_decide_eq_true hck
      subst hck
      obtain ⟨a, b, r, rfl, hwi⟩ := vc_i2_inv hwi
      exact lv_ishl hx hb hd (IH _ _ _ _ (by simpa [vc_end] using hrest) hwi _ _ _ _ _ _ _ _ _ _ _ _ F Rt _ _ _ hLH hP hS)
    case ishr =>
      have hck := of_decide_eq_true hck
      subst hck
      obtain ⟨a, b, r, rfl, hwi⟩ := vc_i2_inv hwi
      exact lv_ishr hx hb hd (IH _ _ _ _ (by simpa [vc_end] using hrest) hwi _ _ _ _ _ _ _ _ _ _ _ _ F Rt _ _ _ hLH hP hS)
    case iushr =>
      have hck := of_decide_eq_true hck
      subst hck
      obtain ⟨a, b, r, rfl, hwi⟩ := vc_i2_inv hwi
      exact lv_iushr hx hb hd rfl (IH _ _ _ _ (by simpa [vc_end] using hrest) hwi _ _ _ _ _ _ _ _ _ _ _ _ F Rt _ _ _ hLH hP hS)
    case idiv =>
      have hck := of_decide_eq_true hck
      subst hck
      obtain ⟨a, b, r, rfl, hne, hwi⟩ := vc_i2_inv hwi
      exact lv_idiv hx hb hd hne (IH _ _ _ _ (by simpa [vc_end] using hrest) hwi _ _ _ _ _ _ _ _ _ _ _ _ F Rt _ _ _ hLH hP hS)
    case irem =>
      have hck := of_decide_eq_true hck
      subst hck
      obtain ⟨a, b, r, rfl, hne, hwi⟩ := vc_i2_inv hwi
      exact lv_irem hx hb hd hne (IH _ _ _ _ (by simpa [vc_end] using hrest) hwi _ _ _ _ _ _ _ _ _ _ _ _ F Rt _ _ _ hLH hP hS)
    case i2l =>
      have hck := of_decide_eq_true hck
      subst hck
      obtain ⟨a, r, rfl, hwi⟩ := vc_i1_inv hwi
      exact lv_i2l hx hb hd rfl (IH _ _ _ _ (by simpa [vc_end] using hrest) hwi _ _ _ _ _ _ _ _ _ _ _ _ F Rt _ _ _ hLH hP hS)
    case i2b =>
      have hck := of_decide_eq_true hck
      subst hck
      obtain ⟨a, r, rfl, hwi⟩ := vc_i1_inv hwi
      exact lv_i2b hx hb hd rfl (IH _ _ _ _ (by simpa [vc_end] using hrest) hwi _ _ _ _ _ _ _ _ _ _ _ _ F Rt _ _ _ hLH hP hS)
    case i2s =>
      have hck := of_decide_eq_true hck
      subst hck
      obtain ⟨a, r, rfl, hwi⟩ := vc_i1_inv hwi
      exact lv_i2s hx hb hd rfl (IH _ _ _ _ (by simpa [vc_end] using hrest) hwi _ _ _ _ _ _ _ _ _ _ _ _ F Rt _ _ _ hLH hP hS)
    case ladd =>
      have hck := of_decide_eq_true hck
      subst hck
      obtain ⟨a, b, r, rfl, hwi⟩ := vc_l2_inv hwi
      exact lv_ladd hx hb hd (IH _ _ _ _ (by simpa [vc_end] using hrest) hwi _ _ _ _ _ _ _ _ _ _ _ _ F Rt _ _ _ hLH hP hS)
    case lsub =>
      have hck := of_decide_eq_true hck
      subst hck
      obtain ⟨a, b, r, rfl, hwi⟩ := vc_l2_inv hwi
      exact lv_lsub hx hb hd (IH _ _ _ _ (by simpa [vc_end] using hrest) hwi _ _ _ _ _ _ _ _ _ _ _ _ F Rt _ _ _ hLH hP hS)
    case lmul =>
      have hck := of_decide_eq_true hck
      subst hck
      obtain ⟨a, b, r, rfl, hwi⟩ := vc_l2_inv hwi
      exact lv_lmul hx hb hd (IH _ _ _ _ (by simpa [vc_end] using hrest) hwi _ _ _ _ _ _ _ _ _ _ _ _ F Rt _ _ _ hLH hP hS)
    case ldiv =>
      have hck := of_decide_eq_true hck
      subst hck
      obtain ⟨a, b, r, rfl, hne, hwi⟩ := vc_l2_inv hwi
      exact lv_ldiv hx hb hd hne (IH _ _ _ _ (by simpa [vc_end] using hrest) hwi _ _ _ _ _ _ _ _ _ _ _ _ F Rt _ _ _ hLH hP hS)
    case lrem =>
      have hck := of_decide_eq_true hck
      subst hck
      obtain ⟨a, b, r, rfl, hne, hwi⟩ := vc_l2_inv hwi
      exact lv_lrem hx hb hd hne (IH _ _ _ _ (by simpa [vc_end] using hrest) hwi _ _ _ _ _ _ _ _ _ _ _ _ F Rt _ _ _ hLH hP hS)
    case lshl =>
      have hck := of_decide_eq_true hck
      subst hck
      obtain ⟨a, b, r, rfl, hwi⟩ := vc_il_inv hwi
      exact lv_lshl hx hb hd rfl (IH _ _ _ _ (by simpa [vc_end] using hrest) hwi _ _ _ _ _ _ _ _ _ _ _ _ F Rt _ _ _ hLH hP hS)
    case lcmp =>
      have hck := of_decide_eq_true hck
      subst hck
      obtain ⟨a, b, r, rfl, hwi⟩ := vc_l2_inv hwi
      exact W.lcmp hx hb hd (IH _ _ _ _ (by simpa [vc_end] using hrest) hwi _ _ _ _ _ _ _ _ _ _ _ _ F Rt _ _ _ hLH hP hS)
    case dup =>
      have hck := of_decide_eq_true hck
      subst hck
      simp only [vc_wi] at hwi
      split at hwi
      · exact lv_dup hx hb hd rfl (IH _ _ _ _ (by simpa [vc_end] using hrest) hwi _ _ _ _ _ _ _ _ _ _ _ _ F Rt _ _ _ hLH hP hS)
      · exact lv_dup hx hb hd rfl (IH _ _ _ _ (by simpa [vc_end] using hrest) hwi _ _ _ _ _ _ _ _ _ _ _ _ F Rt _ _ _ hLH hP hS)
      · exact hwi.elim
    case dup2 =>
      have hck := of_decide_eq_true hck
      subst hck
      obtain ⟨a, i, r, rfl, hwi2⟩ := vc_ri_inv hwi
      clear hwi
      have hwi := hwi2
      exact lv_dup2_11 hx hb hd rfl rfl (IH _ _ _ _ (by simpa [vc_end] using hrest) hwi _ _ _ _ _ _ _ _ _ _ _ _ F Rt _ _ _ hLH hP hS)
    case goto off =>
      simp only [Bool.and_eq_true, decide_eq_true_eq] at hck
      obtain ⟨rfl, ht⟩ := hck
      exact lv_goto hx hb hd ht (hwi _ _ _ _ _ _ _ _ _ _ _ _ F Rt _ _ _ hLH hP hS)
    case if_icmp cc off =>
      simp only [Bool.and_eq_true, decide_eq_true_eq] at hck
      obtain ⟨rfl, ht⟩ := hck
      obtain ⟨a, b, r, rfl, h1, h2⟩ := vc_i2_inv hwi
      have k2 : ¬ vc_cm cc a b → W p K.1 e R s m args below meth c H locs cells slots Z (F0 m (pc + 3) arr (r.map (vc_up K))) := fun hn => (IH _ _ _ _ (by simpa [vc_end] using hrest) (h2 hn) _ _ _ _ _ _ _ _ _ _ _ _ F Rt _ _ _ hLH hP hS)
      have k1 : vc_cm cc a b → W p K.1 e R s m args below meth c H locs cells slots Z (F0 m a1 arr (r.map (vc_up K))) := fun hn => h1 hn _ _ _ _ _ _ _ _ _ _ _ _ F Rt _ _ _ hLH hP hS
      cases cc
      · exact lv_icmp_eq hx hb hd ht k1 k2
      · exact lv_icmp_ne hx hb hd ht k1 (fun h => k2 (fun hn => hn h))
      · exact lv_icmp_lt hx hb hd ht k1 k2
      · exact lv_icmp_ge hx hb hd ht k1 k2
      · exact lv_icmp_gt hx hb hd ht k1 k2
      · exact lv_icmp_le hx hb hd ht k1 k2
    case ifCond cc off =>
      simp only [Bool.and_eq_true, decide_eq_true_eq] at hck
      obtain ⟨rfl, ht⟩ := hck
      obtain ⟨a, r, rfl, h1, h2⟩ := vc_i1_inv hwi
      have k2 : ¬ vc_cm cc a (nI 0) → W p K.1 e R s m args below meth c H locs cells slots Z (F0 m (pc + 3) arr (r.map (vc_up K))) := fun hn => (IH _ _ _ _ (by simpa [vc_end] using hrest) (h2 hn) _ _ _ _ _ _ _ _ _ _ _ _ F Rt _ _ _ hLH hP hS)
      have k1 : vc_cm cc a (nI 0) → W p K.1 e R s m args below meth c H locs cells slots Z (F0 m a1 arr (r.map (vc_up K))) := fun hn => h1 hn _ _ _ _ _ _ _ _ _ _ _ _ F Rt _ _ _ hLH hP hS
      cases cc
      · exact lv_if_eq hx hb hd ht k1 k2
      · exact lv_if_ne hx hb hd ht k1 (fun h => k2 (fun hn => hn h))
      · exact lv_if_lt hx hb hd ht k1 k2
      · exact lv_if_ge hx hb hd ht k1 k2
      · exact lv_if_gt hx hb hd ht k1 k2
      · exact lv_if_le hx hb hd ht k1 k2
    case tableswitch d lo hi offs =>
      simp only [Bool.and_eq_true, decide_eq_true_eq] at hck
      obtain ⟨⟨h0, hoff⟩, hsz⟩ := hck
      obtain ⟨x, r, rfl, h1, h2⟩ := vc_i1_inv hwi
      by_cases hout : x.toInt < lo ∨ hi < x.toInt
      · exact lv_tableOut hx hb hd hout (tgt := ((pc : Int) + d).toNat) (by omega) (h1 hout _ _ _ _ _ _ _ _ _ _ _ _ F Rt _ _ _ hLH hP hS)
      · have ha : ¬ x.toInt < lo := fun q => hout (Or.inl q)
        have hb2 : ¬ hi < x.toInt := fun q => hout (Or.inr q)
        have hi2 : (x.toInt - lo).toNat < offs.size := by omega
        have ho : offs[(x.toInt - lo).toNat]? = some offs[(x.toInt - lo).toNat] := Array.getElem?_eq_getElem hi2
        have hol : offs.toList[(x.toInt - lo).toNat]? = some offs[(x.toInt - lo).toNat] := by rw [Array.getElem?_toList]; exact ho
        have hpos : 0 ≤ (pc : Int) + offs[(x.toInt - lo).toNat] := of_decide_eq_true (List.all_eq_true.mp hoff _ (List.mem_of_getElem? hol))
        exact lv_tableIn hx hb hd ha hb2 ho (tgt := ((pc : Int) + offs[(x.toInt - lo).toNat]).toNat) (by omega) (vc_sl_inv _ _ (h2 hout) _ _ hol (by omega) _ _ _ _ _ _ _ _ _ _ _ _ F Rt _ _ _ hLH hP hS)
    case iaload =>
      have hck := of_decide_eq_true hck
      subst hck
      obtain ⟨a, i, r, rfl, hwi2⟩ := vc_ri_inv hwi
      clear hwi
      have hwi := hwi2
      unfold vc_ald at hwi
      by_cases ha : a = 1000
      · subst ha
        rw [if_pos rfl] at hwi
        obtain ⟨hin, hwi⟩ := hwi
        exact va_sld hx hb hF.2.2.1.1 hF.2.2.1.2.1 hF.2.2.1.2.2 hS hin hd (IH _ _ _ _ (by simpa [vc_end] using hrest) hwi _ _ _ _ _ _ _ _ _ _ _ _ F Rt _ _ _ hLH hP hS)
      · rw [if_neg ha] at hwi
        split at hwi
        · rename_i n hn
          obtain ⟨hin, hwi⟩ := hwi
          exact va_iald hx hb hF.1 hP a 0 (vc_arr_get hn) rfl hin hd (IH _ _ _ _ (by simpa [vc_end] using hrest) hwi _ _ _ _ _ _ _ _ _ _ _ _ F Rt _ _ _ hLH hP hS)
        · exact hwi.elim
    case baload =>
      have hck := of_decide_eq_true hck
      subst hck
      obtain ⟨a, i, r, rfl, hwi2⟩ := vc_ri_inv hwi
      clear hwi
      have hwi := hwi2
      unfold vc_bld at hwi
      split at hwi
      · rename_i n hn
        obtain ⟨hin, hwi⟩ := hwi
        exact va_zald hx hb hF.1 hP a 1 (vc_arr_get hn) rfl hin hd (IH _ _ _ _ (by simpa [vc_end] using hrest) hwi _ _ _ _ _ _ _ _ _ _ _ _ F Rt _ _ _ hLH hP hS)
      · exact hwi.elim
    case aaload =>
      have hck := of_decide_eq_true hck
      subst hck
      obtain ⟨a, i, r, rfl, hwi2⟩ := vc_ri_inv hwi
      clear hwi
      have hwi := hwi2
      unfold vc_aa at hwi
      split at hwi
      · rename_i n fs hn
        obtain ⟨hin, k, hk, hwi⟩ := hwi
        refine va_aldq hx hb hF.1 hP a 2 (vc_W_get hn) rfl hin hd ?_
        have hg : (fs.getD i.toNatClampNeg none).map K.2.2.1 = some (K.2.2.1 k) := by rw [List.getD_eq_getElem?_getD, hk]; rfl
        rw [hg]
        exact (IH _ _ _ _ (by simpa [vc_end] using hrest) hwi _ _ _ _ _ _ _ _ _ _ _ _ F Rt _ _ _ hLH hP hS)
      · exact hwi.elim
    case iastore =>
      have hck := of_decide_eq_true hck
      subst hck
      obtain ⟨a, i, x, r, rfl, hwi2⟩ := vc_rii_inv hwi
      clear hwi
      have hwi := hwi2
      unfold vc_ast at hwi
      split at hwi
      · rename_i n hn
        obtain ⟨hin, hwi⟩ := hwi
        refine va_iast hx hb hF.1 hP (vc_D hF.2.1) hS a 0 (vc_arr_get hn) rfl hin hd (fun H1 locs1 hP1 _ hS1 => ?_)
        rw [vc_arr_set hn] at hP1
        exact (IH _ _ _ _ (by simpa [vc_end] using hrest) hwi _ _ _ _ _ _ _ _ _ _ _ _ F Rt _ _ _ hLH hP1 hS1)
      · exact hwi.elim
    case bastore =>
      have hck := of_decide_eq_true hck
      subst hck
      obtain ⟨a, i, x, r, rfl, hwi2⟩ := vc_rii_inv hwi
      clear hwi
      have hwi := hwi2
      unfold vc_bst at hwi
      split at hwi
      · rename_i n hn
        obtain ⟨hin, hx01, hwi⟩ := hwi
        refine va_zast hx hb hF.1 hP (vc_D hF.2.1) hS a 1 (vc_arr_get hn) rfl hin hd (fun H1 locs1 hP1 _ hS1 => ?_)
        have hnar : vp_nar .boolean x = x := by rcases hx01 with rfl | rfl <;> decide
        rw [hnar, vc_arr_set hn] at hP1
        exact (IH _ _ _ _ (by simpa [vc_end] using hrest) hwi _ _ _ _ _ _ _ _ _ _ _ _ F Rt _ _ _ hLH hP1 hS1)
      · exact hwi.elim
    case arraylength =>
      have hck := of_decide_eq_true hck
      subst hck
      obtain ⟨a, r, rfl, hwi2⟩ := vc_r1_inv hwi
      clear hwi
      have hwi := hwi2
      unfold vc_len at hwi
      by_cases ha : a = 1000
      · subst ha
        rw [if_pos rfl] at hwi
        exact va_slen hx hb hF.2.2.1.1 hF.2.2.1.2.1 hF.2.2.1.2.2 hS hd (IH _ _ _ _ (by simpa [vc_end] using hrest) hwi _ _ _ _ _ _ _ _ _ _ _ _ F Rt _ _ _ hLH hP hS)
      · rw [if_neg ha] at hwi
        by_cases ha2 : a = 1001
        · subst ha2
          rw [if_pos rfl] at hwi
          exact va_slen hx hb hF.2.2.2.1.1 hF.2.2.2.1.2.1 hF.2.2.2.1.2.2 hS hd (IH _ _ _ _ (by simpa [vc_end] using hrest) hwi _ _ _ _ _ _ _ _ _ _ _ _ F Rt _ _ _ hLH hP hS)
        · rw [if_neg ha2] at hwi
          split at hwi
          · rename_i n hn
            exact va_alen hx hb hF.1 hP a 0 (vc_arr_get hn) rfl rfl hd (IH _ _ _ _ (by simpa [vc_end] using hrest) hwi _ _ _ _ _ _ _ _ _ _ _ _ F Rt _ _ _ hLH hP hS)
          · exact hwi.elim
    case getfield idx =>
      rw [Bool.and_eq_true, decide_eq_true_eq] at hck
      obtain ⟨rfl, hck⟩ := hck
      obtain ⟨o, r, rfl, hwi2⟩ := vc_r1_inv hwi
      clear hwi
      have hwi := hwi2
      split at hck
      · rename_i C T N hcl
        rw [Bool.and_eq_true, decide_eq_true_eq] at hck
        obtain ⟨hk, hlk⟩ := hck
        obtain ⟨k1, -, -⟩ := vc_known hcl
        unfold vc_gf at hwi
        split at hwi
        · rename_i k hf
          obtain ⟨n, fs, g1, g2⟩ := vc_fld_lay hf
          exact va_get hx hb hts k1 hown hF.1 hP o (vc_W_get g1) hcl a2 hk (hts _ (vc_wp_in hlk)) (fun _ h9 => h9) (v := .ref (K.2.2.1 k)) (by rw [List.getElem?_mapIdx, g2]; rfl) hd (IH _ _ _ _ (by simpa [vc_end] using hrest) hwi _ _ _ _ _ _ _ _ _ _ _ _ F Rt _ _ _ hLH hP hS)
        · rename_i hf
          obtain ⟨n, fs, g1, g2⟩ := vc_fld_lay hf
          exact va_get hx hb hts k1 hown hF.1 hP o (vc_W_get g1) hcl a2 hk (hts _ (vc_wp_in hlk)) (fun _ h9 => h9) (v := .int (σ.1 o a2)) (by rw [List.getElem?_mapIdx, g2]; rfl) hd (IH _ _ _ _ (by simpa [vc_end] using hrest) hwi _ _ _ _ _ _ _ _ _ _ _ _ F Rt _ _ _ hLH hP hS)
        · exact hwi.elim
      · cases hck
    case putfield idx =>
      rw [Bool.and_eq_true, decide_eq_true_eq] at hck
      obtain ⟨rfl, hck⟩ := hck
      obtain ⟨o, x, r, rfl, hwi2⟩ := vc_rx_inv hwi
      clear hwi
      have hwi := hwi2
      split at hck
      · rename_i C T N hcl
        simp only [Bool.and_eq_true, decide_eq_true_eq] at hck
        obtain ⟨⟨⟨hk, hlk⟩, hfin⟩, hty⟩ := hck
        obtain ⟨k1, ⟨ty0, k2⟩, k3⟩ := vc_known hcl
        unfold vc_pf at hwi
        split at hwi
        · rename_i hf
          have hzw : (a3 = 1 → x = nI 0 ∨ x = nI 1) ∧ vc_wi K j Q te L ls r (vc_sg σ o a2 x) := by
            by_cases hz1 : a3 = 1
            · rw [if_pos hz1] at hwi
              exact ⟨fun _ => hwi.1, hwi.2⟩
            · rw [if_neg hz1] at hwi
              exact ⟨fun h => absurd h hz1, hwi⟩
          obtain ⟨hz, hwi⟩ := hzw
          obtain ⟨n, fs, g1, g2⟩ := vc_fld_lay hf
          have hl : a2 < (fs.mapIdx (fun k f => match f with | some j => Value.ref (K.2.2.1 j) | none => Value.int (σ.1 o k))).length := by rw [List.length_mapIdx]; exact (List.getElem?_eq_some_iff.mp g2).1
          have hT : ∃ ty, parseFieldDescriptor (T a2).2.2.1 = some ty ∧ narrow ty (.int x) = .int x ∧ fits ty (.int x) = true := by
            by_cases ha3 : a3 = 1
            · rw [if_pos ha3] at hty
              refine ⟨_, of_decide_eq_true hty, ?_⟩
              rcases hz ha3 with rfl | rfl <;> decide
            · rw [if_neg ha3] at hty
              exact ⟨_, of_decide_eq_true hty, rfl, rfl⟩
          obtain ⟨ty, t1, t2, t3⟩ := hT
          refine va_put hx hb hts k1 ty0 k2 k3 hown hF.1 hP (vc_D hF.2.1) hS o (vc_W_get g1) hcl a2 hk (hts _ (vc_wp_in hlk)) (fun _ h9 => h9) hfin t1 t2 t3 hl hd (fun H1 locs1 hP1 _ hS1 => ?_)
          have e2 := vc_W_sg (K := K) (σ := σ) (x := x) g1 g2
          have hP2 : va_P K.2.1 vwCl (vc_W K (vc_sg σ o a2 x)) H1 := by rw [← e2]; exact hP1
          exact (IH _ _ _ _ (by simpa [vc_end] using hrest) hwi _ _ _ _ _ _ _ _ _ _ _ _ F Rt _ _ _ hLH hP2 hS1)
        · exact hwi.elim
      · cases hck
    case getstatic idx =>
      rw [Bool.and_eq_true, decide_eq_true_eq] at hck
      obtain ⟨rfl, hck⟩ := hck
      exact va_gets hx hb hF.2.2.2.2.1 hS hown (hts _ (vc_wp_in hck)) (fun _ h9 => h9) hd (IH _ _ _ _ (by simpa [vc_end] using hrest) hwi _ _ _ _ _ _ _ _ _ _ _ _ F Rt _ _ _ hLH hP hS)
    case invokevirtual idx =>
      simp only [Bool.and_eq_true, decide_eq_true_eq] at hck
      obtain ⟨⟨⟨⟨⟨rfl, hlk⟩, h2⟩, h3⟩, h4⟩, h5⟩ := hck
      obtain ⟨o, r, hst, hc, hr, hC⟩ := vc_r1_inv hwi
      have hj : a3 < vc_NH := vc_HP_lt h3 (by decide)
      have hlen : ((st.take a1).reverse).length = a1 := by
        have hl : st.length = (st.take a1).length + (st.drop a1).length := by rw [← List.length_append, List.take_append_drop]
        rw [hst] at hl
        simp only [List.length_reverse, List.length_take, List.length_cons] at hl ⊢
        omega
      rw [vc_split st a1, hst]
      exact vc_callV (Q := Q) (hall _ hj) F hLH.1 hP hS hd (vc_wp_in hlk) h2 h3 h4 h5 hc hr hlen hC (fun x σ2 H1 locs1 q1 q2 q3 => (IH _ _ _ _ (by simpa [vc_end] using hrest) q1 _ _ _ _ _ _ _ _ _ _ _ _ F Rt _ _ _ hLH q2 q3))
    case invokestatic idx =>
      rw [Bool.and_eq_true, decide_eq_true_eq] at hck
      obtain ⟨rfl, hck⟩ := hck
      simp only [vc_wi] at hwi
      by_cases h1 : a2 = 1
      · rw [if_pos h1] at hwi hck
        simp only [Bool.and_eq_true, decide_eq_true_eq] at hck
        obtain ⟨⟨hlk, hfr⟩, hlo⟩ := hck
        obtain ⟨a, sp, d, dp, n, r, rfl, hr, hw2⟩ := vc_cp_inv hwi
        clear hwi
        unfold vc_cpy at hw2
        split at hw2
        · rename_i nd hnd
          by_cases ha : a = 1001
          · subst ha
            rw [if_pos rfl] at hw2
            obtain ⟨⟨⟨c1, c2, c3⟩, c4, c5⟩, hwi⟩ := hw2
            refine va_copyx hx hb (by rw [hml]; exact hLH.1.symm) hown (hts _ (vc_wp_in hlk)) (hts _ vc_nat.1) (hts _ vc_nat.2.1) (hts _ vc_nat.2.2) hF.1 hP (vc_D hF.2.1) hS hF.2.2.2.1.1 hF.2.2.2.1.2.1 hF.2.2.2.1.2.2 d 0 (vc_arr_get hnd) rfl c1 c2 c3 c5 c4 (by omega) (by rw [vc_ct_up]; omega) hd (fun H1 locs1 hP1 _ hS1 => ?_)
            rw [vc_arr_set hnd] at hP1
            exact (IH _ _ _ _ (by simpa [vc_end] using hrest) hwi _ _ _ _ _ _ _ _ _ _ _ _ F Rt _ _ _ hLH hP1 hS1)
          · rw [if_neg ha] at hw2
            split at hw2
            · rename_i na hna
              obtain ⟨⟨⟨c1, c2, c3⟩, c4, c5⟩, hwi⟩ := hw2
              refine va_copyi hx hb (by rw [hml]; exact hLH.1.symm) hown (hts _ (vc_wp_in hlk)) (hts _ vc_nat.1) (hts _ vc_nat.2.1) (hts _ vc_nat.2.2) hF.1 hP (vc_D hF.2.1) hS a d 0 0 (vc_arr_get hna) (vc_arr_get hnd) (ty := .int) rfl rfl rfl c1 c2 c3 c5 c4 (fun _ _ => rfl) (by omega) (by rw [vc_ct_up]; omega) hd (fun H1 locs1 hP1 _ hS1 => ?_)
              rw [vc_arr_set hnd] at hP1
              exact (IH _ _ _ _ (by simpa [vc_end] using hrest) hwi _ _ _ _ _ _ _ _ _ _ _ _ F Rt _ _ _ hLH hP1 hS1)
            · exact hw2.elim
        · exact hw2.elim
      · rw [if_neg h1] at hwi hck
        by_cases h3 : a2 = 3
        · rw [if_pos h3] at hwi hck
          simp only [Bool.and_eq_true, decide_eq_true_eq] at hck
          obtain ⟨⟨hlk, hfr⟩, hlo⟩ := hck
          obtain ⟨a, b, r, rfl, hr, hw2⟩ := vc_i2_inv hwi
          exact va_mmax hx hb (by rw [hml]; exact hLH.1.symm) hown (hts _ (vc_wp_in hlk)) (hts _ vc_mth.2.1.1) (hts _ vc_mth.1) (hts _ vc_mth.2.1.2) (by omega) (by rw [vc_ct_up]; omega) f3 f4 hd (IH _ _ _ _ (by simpa [vc_end] using hrest) hw2 _ _ _ _ _ _ _ _ _ _ _ _ F Rt _ _ _ hLH hP hS)
        · rw [if_neg h3] at hwi hck
          by_cases h44 : a2 = 4
          · rw [if_pos h44] at hwi hck
            simp only [Bool.and_eq_true, decide_eq_true_eq] at hck
            obtain ⟨⟨hlk, hfr⟩, hlo⟩ := hck
            obtain ⟨a, b, r, rfl, hr, hw2⟩ := vc_i2_inv hwi
            exact va_mmin hx hb (by rw [hml]; exact hLH.1.symm) hown (hts _ (vc_wp_in hlk)) (hts _ vc_mth.2.2.1) (hts _ vc_mth.1) (hts _ vc_mth.2.2.2) (by omega) (by rw [vc_ct_up]; omega) f3 f4 hd (IH _ _ _ _ (by simpa [vc_end] using hrest) hw2 _ _ _ _ _ _ _ _ _ _ _ _ F Rt _ _ _ hLH hP hS)
          · rw [if_neg h44] at hwi hck
            simp only [Bool.and_eq_true, decide_eq_true_eq] at hck
            obtain ⟨⟨hk, h4⟩, h5⟩ := hck
            obtain ⟨hr, hlen0, hC⟩ := hwi
            have hk2 : (Cond.methodLink (vc_hd j).1.cls idx (vc_hd a3).1 ∈ lw_g ∨ Cond.methodLinkNest (vc_hd j).1.cls idx (vc_hd a3).1 "MarkedByNext" = vc_nst) ∧ (vc_HP[a3]?).map (fun q => (q.1, q.2.1)) = some (1, a1) := by
              by_cases h22 : a2 = 2
              · rw [if_pos h22] at hk
                simp only [Bool.and_eq_true, decide_eq_true_eq] at hk
                exact ⟨Or.inr hk.1, hk.2⟩
              · rw [if_neg h22] at hk
                simp only [Bool.and_eq_true, decide_eq_true_eq] at hk
                exact ⟨Or.inl (vc_wp_in hk.1), hk.2⟩
            have hj : a3 < vc_NH := vc_HP_lt hk2.2 (by decide)
            have hlen : ((st.take a1).reverse).length = a1 := by
              simp only [List.length_reverse, List.length_take]
              omega
            rw [vc_split st a1]
            exact vc_callS (Q := Q) (hall _ hj) F hLH.1 hP hS hd hk2.1 hk2.2 h4 h5 hr hlen hC (fun x σ2 H1 locs1 q1 q2 q3 => (IH _ _ _ _ (by simpa [vc_end] using hrest) q1 _ _ _ _ _ _ _ _ _ _ _ _ F Rt _ _ _ hLH q2 q3))
    case ireturn =>
      have hck := of_decide_eq_true hck
      subst hck
      simp only [vc_wi] at hwi
      split at hwi
      · rename_i v0 hr
        exact Rt pc _ _ _ σ H locs arr hd (Or.inl ⟨_, rfl, hr, rfl, rfl⟩) hwi hP hS
      · rename_i v0 hr
        exact Rt pc _ _ _ σ H locs arr hd (Or.inr (Or.inl ⟨_, rfl, hr, hwi.1, rfl, rfl⟩)) hwi.2 hP hS
      · exact hwi.elim
    case lreturn =>
      have hck := of_decide_eq_true hck
      subst hck
      simp only [vc_wi] at hwi
      split at hwi
      · rename_i v0 hr
        exact Rt pc _ _ _ σ H locs arr hd (Or.inr (Or.inr (Or.inl ⟨_, rfl, hr, rfl, rfl⟩))) hwi hP hS
      · exact hwi.elim
    case areturn =>
      have hck := of_decide_eq_true hck
      subst hck
      simp only [vc_wi] at hwi
      split at hwi
      · rename_i v0 n0 hr
        exact Rt pc _ _ _ σ H locs arr hd (Or.inr (Or.inr (Or.inr (Or.inr ⟨_, _, rfl, hr, rfl, rfl⟩)))) hwi hP hS
      · exact hwi.elim
    case return_ =>
      have hck := of_decide_eq_true hck
      subst hck
      simp only [vc_wi] at hwi
      split at hwi
      · rename_i hr
        exact Rt pc _ _ _ σ H locs arr hd (Or.inr (Or.inr (Or.inr (Or.inl ⟨rfl, hr, rfl, rfl⟩)))) hwi hP hS
      · exact hwi.elim
    all_goals exact hwi.elim
/-- the locals with which a method begins -/
def vc_ent : List Value → List (Option Value)
  | [] => []
  | v :: vs => if v.category = 2 then some v :: none :: vc_ent vs else some v :: vc_ent vs
theorem vc_ent_len (K : vc_K) (av : List Value) : (lg_sl (av.map (vc_up K))).length = (vc_ent av).length := by
  induction av with
  | nil => rfl
  | cons v vs ih =>
    unfold vc_ent
    by_cases h : v.category = 2
    · simp only [lg_sl, List.map_cons, List.flatMap_cons, vc_up_cat, h, if_true] at ih ⊢
      simp only [List.length_append, List.length_cons, List.length_nil]
      omega
    · simp only [lg_sl, List.map_cons, List.flatMap_cons, vc_up_cat, h, if_false] at ih ⊢
      simp only [List.length_append, List.length_cons, List.length_nil]
      omega
theorem vc_ent_args (K : vc_K) : ∀ (av : List Value) (n i : Nat) (v : Value), (vc_ent av)[i]? = some (some v) → (n + i, vc_up K v) ∈ lv_args n (av.map (vc_up K))
  | [], n, i, v, h => by simp [vc_ent] at h
  | u :: us, n, i, v, h => by
    unfold vc_ent at h
    show _ ∈ (n, vc_up K u) :: lv_args (if (vc_up K u).category = 2 then n + 2 else n + 1) (us.map (vc_up K))
    rw [vc_up_cat]
    by_cases hc : u.category = 2
    · rw [if_pos hc] at h ⊢
      match i, h with
      | 0, h => simp at h; subst h; exact List.mem_cons_self
      | 1, h => simp at h
      | i + 2, h =>
        have := vc_ent_args K us (n + 2) i v (by simpa using h)
        rw [show n + (i + 2) = n + 2 + i by omega]
        exact List.mem_cons_of_mem _ this
    · rw [if_neg hc] at h ⊢
      match i, h with
      | 0, h => simp at h; subst h; exact List.mem_cons_self
      | i + 1, h =>
        have := vc_ent_args K us (n + 1) i v (by simpa using h)
        rw [show n + (i + 1) = n + 1 + i by omega]
        exact List.mem_cons_of_mem _ this
/-- a method's contract out of its walk -/
theorem vc_C_of {K : vc_K} {j : Nat} {av : List Value} {σ : vc_S} {Q : Option Value → vc_S → Prop} {ls0 : List (Option Value)} (hk : vc_hk j = true) (hle : (vc_ent av).length ≤ (vc_hd j).2.2.1) (hls : vc_ent av ++ List.replicate ((vc_hd j).2.2.1 - (vc_ent av).length) none = ls0) (h : vc_G K j 0 ls0 [] σ Q) : vc_C K j av σ Q := by
  obtain ⟨kd, n', g1, g2, g3, -, -, g6, g7, g8, g9⟩ := vc_head hk
  refine Met.ofW (cc := (vc_hd j).2.1) (maxL := (vc_hd j).2.2.1) (ret := (vc_hd j).2.2.2.1) g6 rfl ?_
  intro p e s m args below meth c s₁ B hml hv
  obtain ⟨rfl, hP, hF⟩ := hv
  have hx := B.exec
  have hb := B.bytes
  have hr := B.returns
  have hts0 := atoms_spec (ws := vc_ws j) B.pre
  have hts : ∀ w ∈ lw_g, w.before ((av.map (vc_up K)).toArray) s = true := fun w hw => hts0 w (List.mem_cons_of_mem _ hw)
  have hown : s.vm.findClass (vc_hd j).1.cls = some m.cls := findClass_of_methodNamed B.named
  have hlocks := B.notSynchronized
  have hl := lv_entry (av.map (vc_up K)) (n := (vc_hd j).2.2.1) (by rw [vc_ent_len]; exact hle)
  rw [lg_entry_eq]
  generalize (lg_sl (av.map (vc_up K)) ++ List.replicate ((vc_hd j).2.2.1 - (lg_sl (av.map (vc_up K))).length) Slot.unset).toArray = arr at hl ⊢
  have hLH : vc_LH K arr (vc_hd j).2.2.1 ls0 := by
    refine ⟨hl.1, hl.2.1, fun i v hi => ?_⟩
    subst hls
    by_cases hi2 : i < (vc_ent av).length
    · rw [List.getElem?_append_left hi2] at hi
      have := vc_ent_args K av 0 i v hi
      rw [Nat.zero_add] at this
      exact hl.2.2 _ this
    · rw [List.getElem?_append_right (by omega)] at hi
      have := List.eq_of_mem_replicate (List.mem_of_getElem? hi)
      cases this
  refine h p e (vc_rm j) s m ((av.map (vc_up K)).toArray) below meth c 0 0 (MQ below (vc_Q K Q) ((av.map (vc_up K)).toArray) s 0 0 (vc_A K)) ⟨hx, hb, hml, hown, hts, hF, Nat.le_refl _, Nat.le_refl _, Nat.le_refl _, Nat.le_refl _⟩ ?_ s.heap [] arr hLH hP va_S.rf
  intro pc ins st r σ2 H locs arr2 hd hrk hq hP2 hS
  rcases hrk with ⟨v, rfl, h1, rfl, rfl⟩ | ⟨v, rfl, h1, h2, rfl, rfl⟩ | ⟨v, rfl, h1, rfl, rfl⟩ | ⟨rfl, h1, rfl, rfl⟩ | ⟨a, n, rfl, h1, rfl, rfl⟩
  · exact W.iret (v := v) hx hb (hr.trans h1) (fun t ht hW => ⟨some (.int v), σ2, rfl, hq, by rw [ht]; exact hP2, hS.F ht⟩) hS.2.2 hd hlocks
  · exact W.zret (v := v) hx hb (hr.trans h1) (by rcases h2 with rfl | rfl <;> decide) (fun t ht hW => ⟨some (.int v), σ2, rfl, hq, by rw [ht]; exact hP2, hS.F ht⟩) hS.2.2 hd hlocks
  · exact W.lret (v := v) hx hb (hr.trans h1) (fun t ht hW => ⟨some (.long v), σ2, rfl, hq, by rw [ht]; exact hP2, hS.F ht⟩) hS.2.2 hd hlocks
  · exact W.vret hx hb (hr.trans h1) (fun t ht hW => ⟨none, σ2, rfl, hq, by rw [ht]; exact hP2, hS.F ht⟩) hS.2.2 hd hlocks
  · exact W.aret (v := .ref (K.2.2.1 a)) hx hb (hr.trans h1) (Or.inl ⟨n, rfl⟩) (Or.inr ⟨_, rfl⟩) (fun t ht hW => ⟨some (.ref a), σ2, rfl, hq, by rw [ht]; exact hP2, hS.F ht⟩) hS.2.2 hd hlocks
