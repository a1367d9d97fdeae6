/-! what plans answer goes by these parts of the state alone -/
def zSame (T' T : zT) : Prop := zn T' = zn T ∧ zso T' = zso T ∧ zs T' = zs T ∧ zbe T' = zbe T ∧ zle T' = zle T ∧ zfi T' = zfi T ∧ zc T' = zc T ∧ zch' T' = zch' T
theorem zSame.W {T' T : zT} (h : zSame T' T) : zW T' = zW T := by
  obtain ⟨e1, e2, e3, e4, e5, e6, e7, e8⟩ := h
  funext p
  unfold zW
  rw [e1, e5]
theorem zSame.P {T' T : zT} (h : zSame T' T) (dn : Nat → Bool) (od : Nat → Nat) : zP T' dn od = zP T dn od := by
  obtain ⟨e1, e2, e3, e4, e5, e6, e7, e8⟩ := h
  unfold zP
  rw [e1, e2, e3, e4, e7, e8]
theorem zSame.S {T' T : zT} (h : zSame T' T) : zS T' = zS T := by
  unfold zS
  rw [h.W, h.2.2.2.2.2.1]
theorem zSame.own {T' T : zT} (h : zSame T' T) : zOwn T' = zOwn T := by
  funext k
  unfold zOwn
  rw [h.2.2.1, h.2.2.2.2.1]
theorem zSame.swM {T' T : zT} (h : zSame T' T) : zSwM T' = zSwM T := by
  funext p q k
  unfold zSwM zSwS
  rw [h.P, h.W, h.2.2.1, h.2.2.2.2.2.1]
theorem zSame.sit {T' T : zT} (h : zSame T' T) : zSitO T' = zSitO T := by
  funext k own
  unfold zSitO
  rw [h.swM, h.2.2.1]
theorem zSame.tr {T' T : zT} (h : zSame T' T) : zTrO T' = zTrO T := by
  have e : zTrG T' = zTrG T := by
    funext d a b
    unfold zTrG zTrP zTrCh
    rw [h.S, h.1, h.2.1, h.2.2.1, h.2.2.2.1, h.2.2.2.2.2.2.1, h.2.2.2.2.2.2.2]
  funext d
  unfold zTrO
  rw [e, h.2.2.1]
theorem zSame.ru {T' T : zT} (h : zSame T' T) : zRuO T' = zRuO T := by
  have e1 : zMkT T' = zMkT T := by
    funext k
    unfold zMkT
    rw [h.P, h.S]
  have e : zRuC T' = zRuC T := by
    funext a b
    unfold zRuC
    rw [h.own, h.swM, e1]
  unfold zRuO
  rw [e, h.1]
theorem zSame.ta {T' T : zT} (h : zSame T' T) : zTaO T' = zTaO T := by
  have e : zTaG T' = zTaG T := by
    funext i
    unfold zTaG
    rw [h.P, h.S, h.1]
  unfold zTaO
  rw [e]
theorem zSame.idl {T' T : zT} (h : zSame T' T) : zIdl T' = zIdl T := by
  funext dn
  unfold zIdl
  rw [h.P, h.S, h.1]
theorem zSame.sp {T' T : zT} (h : zSame T' T) : zSpO T' = zSpO T := by
  have e : zSpI T' = zSpI T := by
    funext dn
    unfold zSpI
    rw [h.own, h.idl, h.1]
  have e1 : zSp1 T' = zSp1 T := by
    unfold zSp1
    rw [e, h.2.2.2.2.2.2.1]
  have e2 : zSp2 T' = zSp2 T := by
    unfold zSp2
    rw [e, h.2.2.2.2.2.2.1]
  unfold zSpO
  rw [e, e1, e2]
theorem zSame.wy {T' T : zT} (h : zSame T' T) (k d : Nat) : zWy T' k d = zWy T k d := by
  have e : zBs T' = zBs T := by
    funext m
    unfold zBs
    rw [h.P, h.S, h.1]
  funext m
  induction m with
  | zero => rfl
  | succ m ih =>
    unfold zWy
    rw [ih, e]
theorem zTal.cg {T' T : zT} {f : Nat → Int32} (g : zTal f T) (h : zSame T' T) : zTal f T' := by
  unfold zTal at g ⊢
  intro k hk d hd
  rw [h.wy, h.2.2.2.2.2.2.1]
  exact g k hk d hd
theorem zSame.fi {T' T : zT} (h : zSame T' T) (h1 : ze T' = ze T) (h2 : zse T' = zse T) : zFiB T' = zFiB T ∧ zAkO T' = zAkO T := by
  have e1 : zFiS T' = zFiS T := by
    funext p v
    unfold zFiS
    rw [h.W, h.2.2.2.2.2.1]
  have e2 : zAgr T' = zAgr T := by
    funext P S
    unfold zAgr
    rw [h1, h2, h.1]
  have e3 : zFiC T' = zFiC T := by
    funext p v
    unfold zFiC
    rw [e2, e1, h.P]
  have e4 : zFiA T' = zFiA T := by
    funext p v d
    unfold zFiA
    rw [e1, h.P]
  refine ⟨?_, ?_⟩
  · funext p
    unfold zFiB
    rw [e3]
  · funext p
    unfold zAkO
    rw [e3, e4]
theorem zAsk.cg {T' T : zT} {key : Int32} {f : Nat → Int32} (g : zAsk key f T) (h : zSame T' T) (h1 : ze T' = ze T) (h2 : zse T' = zse T) : zAsk key f T' := by
  obtain ⟨k1, k2⟩ := h.fi h1 h2
  unfold zAsk at g ⊢
  unfold zSp0i zSp1i zSp2i at g ⊢
  rw [h.own, h.sit, h.tr, h.ru, h.ta, h.sp, k1, k2]
  exact g
