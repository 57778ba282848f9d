theorem in_X0_copy_X0 : ∀ w ∈ u_ws RX0 TX0 5, w ∈ wsX0_copy := by decide +kernel
def f_X0_copy (n : Nat) (y0 : Int64) (y1 : Int64) (y2 : Int64) (y3 : Int64) (y4 : Int64) : Option (Int64 × Int64 × Int64 × Int64 × Int64) := some (y0, y1, y2, y3, y4)
set_option maxHeartbeats 4000000 in
set_option maxRecDepth 100000 in
theorem c_X0_copy (l : Launch) (dC : Nat → ClassId) (dI : Nat → Nat → Nat) (sz : Nat) (h0 : Nat) (v0 : Int64) (v1 : Int64) (v2 : Int64) (v3 : Int64) (v4 : Int64) (h1 : Nat) (y0 : Int64) (y1 : Int64) (y2 : Int64) (y3 : Int64) (y4 : Int64)   (n : Nat) (out : Int64 × Int64 × Int64 × Int64 × Int64) (hr : f_X0_copy n y0 y1 y2 y3 y4 = some out) : Met l yX0_copy wsX0_copy ({ frames := 0, cells := 0, slots := 0, locals := 0 }) (va_Pc [.ref h0, .ref h1] (zP dC dI [] [(h0, .inr (0, [.long v0, .long v1, .long v2, .long v3, .long v4])), (h1, .inr (0, [.long y0, .long y1, .long y2, .long y3, .long y4]))] sz)) (va_Qv (fun (_ : Unit) => True) (fun (_ : Unit) t => zB dC dI [] (va_A [(h0, .inr (0, [.long v0, .long v1, .long v2, .long v3, .long v4])), (h1, .inr (0, [.long y0, .long y1, .long y2, .long y3, .long y4]))] sz) [(h0, .inr (0, [.long out.1, .long out.2.1, .long out.2.2.1, .long out.2.2.2.1, .long out.2.2.2.2])), (h1, .inr (0, [.long y0, .long y1, .long y2, .long y3, .long y4]))] t) (va_A [(h0, .inr (0, [.long v0, .long v1, .long v2, .long v3, .long v4])), (h1, .inr (0, [.long y0, .long y1, .long y2, .long y3, .long y4]))] sz)) 0 0 (va_A [(h0, .inr (0, [.long v0, .long v1, .long v2, .long v3, .long v4])), (h1, .inr (0, [.long y0, .long y1, .long y2, .long y3, .long y4]))] sz) := by
  refine Met.ofW (cc := cX0_copy) (maxL := 2) (ret := none) (by decide +kernel) rfl ?_
  intro p e s m args below meth c s₁ B hml hv
  obtain ⟨rfl, hsz, hP, hK, hD0⟩ := hv
  have hx := B.exec
  have hb := B.bytes
  have hrt := B.returns
  have hts := atoms_spec (ws := wsX0_copy) B.pre
  have hown : s.vm.findClass RX0 = some m.cls := findClass_of_methodNamed B.named
  have hlocks := B.notSynchronized
  subst hsz
  have hD := hD0.self (sz := s.heap.size)
  generalize hAe : va_A [(h0, .inr (0, [.long v0, .long v1, .long v2, .long v3, .long v4])), (h1, .inr (0, [.long y0, .long y1, .long y2, .long y3, .long y4]))] s.heap.size = A at hD ⊢
  have hA : ∀ q : Nat, s.heap.size ≤ q → A q := fun q h => by rw [← hAe]; exact Or.inr h
  have hS : va_S A s.heap s.heap [] := va_S.rf
  have hP : va_P (dC, dI) vwCl [(h0, .inr (0, [.long v0, .long v1, .long v2, .long v3, .long v4])), (h1, .inr (0, [.long y0, .long y1, .long y2, .long y3, .long y4]))] s.heap := hP
  have hl := lv_entry ([.ref h0, .ref h1]) (n := 2) (Nat.le_of_ble_eq_true rfl)
  rw [lg_entry_eq]
  generalize (lg_sl ([.ref h0, .ref h1]) ++ List.replicate (2 - (lg_sl ([.ref h0, .ref h1])).length) Slot.unset).toArray = ls at hl ⊢
  have hl : lv_has ls 2 [(0, .ref h0), (1, .ref h1)] := hl
  unfold f_X0_copy at hr
  refine lv_aload_n hx hb dX0_copy_0 rfl (lv_at hl 0 rfl) ?_
  refine lv_aload_n hx hb dX0_copy_1 rfl (lv_at hl 1 rfl) ?_
  refine va_get (D := (dC, dI)) (ci := 0) (v := .long y0) (C := RX0) (T := TX0) (N := 5) hx hb hts in_X0_copy_X0 hown hK hP 1 rfl rfl 0 (by decide) (hts (.fieldLink RX0 9 "FormRing$Form" "a" "J") (by decide +kernel)) (fun _ h9 => h9) rfl dX0_copy_2 ?_
  refine va_put (D := (dC, dI)) (ci := 0) (v := .long y0) (ty := .long) (C := RX0) (T := TX0) (N := 5) hx hb hts in_X0_copy_X0 tyX0 tyX0_ok nmX0 hown hK hP hD hS 0 rfl rfl 0 (by decide) (hts (.fieldLink RX0 9 "FormRing$Form" "a" "J") (by decide +kernel)) (fun _ h9 => h9) rfl (by decide +kernel) rfl rfl (Nat.le_of_ble_eq_true rfl) dX0_copy_5 (fun H locs hP hD hS => ?_)
  have hP : va_P (dC, dI) vwCl [(h0, .inr (0, [.long y0, .long v1, .long v2, .long v3, .long v4])), (h1, .inr (0, [.long y0, .long y1, .long y2, .long y3, .long y4]))] H := hP
  have hD : va_D A [(h0, .inr (0, [.long y0, .long v1, .long v2, .long v3, .long v4])), (h1, .inr (0, [.long y0, .long y1, .long y2, .long y3, .long y4]))] := hD
  refine lv_aload_n hx hb dX0_copy_8 rfl (lv_at hl 0 rfl) ?_
  refine lv_aload_n hx hb dX0_copy_9 rfl (lv_at hl 1 rfl) ?_
  refine va_get (D := (dC, dI)) (ci := 0) (v := .long y1) (C := RX0) (T := TX0) (N := 5) hx hb hts in_X0_copy_X0 hown hK hP 1 rfl rfl 1 (by decide) (hts (.fieldLink RX0 15 "FormRing$Form" "b" "J") (by decide +kernel)) (fun _ h9 => h9) rfl dX0_copy_10 ?_
  refine va_put (D := (dC, dI)) (ci := 0) (v := .long y1) (ty := .long) (C := RX0) (T := TX0) (N := 5) hx hb hts in_X0_copy_X0 tyX0 tyX0_ok nmX0 hown hK hP hD hS 0 rfl rfl 1 (by decide) (hts (.fieldLink RX0 15 "FormRing$Form" "b" "J") (by decide +kernel)) (fun _ h9 => h9) rfl (by decide +kernel) rfl rfl (Nat.le_of_ble_eq_true rfl) dX0_copy_13 (fun H locs hP hD hS => ?_)
  have hP : va_P (dC, dI) vwCl [(h0, .inr (0, [.long y0, .long y1, .long v2, .long v3, .long v4])), (h1, .inr (0, [.long y0, .long y1, .long y2, .long y3, .long y4]))] H := hP
  have hD : va_D A [(h0, .inr (0, [.long y0, .long y1, .long v2, .long v3, .long v4])), (h1, .inr (0, [.long y0, .long y1, .long y2, .long y3, .long y4]))] := hD
  refine lv_aload_n hx hb dX0_copy_16 rfl (lv_at hl 0 rfl) ?_
  refine lv_aload_n hx hb dX0_copy_17 rfl (lv_at hl 1 rfl) ?_
  refine va_get (D := (dC, dI)) (ci := 0) (v := .long y2) (C := RX0) (T := TX0) (N := 5) hx hb hts in_X0_copy_X0 hown hK hP 1 rfl rfl 2 (by decide) (hts (.fieldLink RX0 18 "FormRing$Form" "c" "J") (by decide +kernel)) (fun _ h9 => h9) rfl dX0_copy_18 ?_
  refine va_put (D := (dC, dI)) (ci := 0) (v := .long y2) (ty := .long) (C := RX0) (T := TX0) (N := 5) hx hb hts in_X0_copy_X0 tyX0 tyX0_ok nmX0 hown hK hP hD hS 0 rfl rfl 2 (by decide) (hts (.fieldLink RX0 18 "FormRing$Form" "c" "J") (by decide +kernel)) (fun _ h9 => h9) rfl (by decide +kernel) rfl rfl (Nat.le_of_ble_eq_true rfl) dX0_copy_21 (fun H locs hP hD hS => ?_)
  have hP : va_P (dC, dI) vwCl [(h0, .inr (0, [.long y0, .long y1, .long y2, .long v3, .long v4])), (h1, .inr (0, [.long y0, .long y1, .long y2, .long y3, .long y4]))] H := hP
  have hD : va_D A [(h0, .inr (0, [.long y0, .long y1, .long y2, .long v3, .long v4])), (h1, .inr (0, [.long y0, .long y1, .long y2, .long y3, .long y4]))] := hD
  refine lv_aload_n hx hb dX0_copy_24 rfl (lv_at hl 0 rfl) ?_
  refine lv_aload_n hx hb dX0_copy_25 rfl (lv_at hl 1 rfl) ?_
  refine va_get (D := (dC, dI)) (ci := 0) (v := .long y3) (C := RX0) (T := TX0) (N := 5) hx hb hts in_X0_copy_X0 hown hK hP 1 rfl rfl 3 (by decide) (hts (.fieldLink RX0 25 "FormRing$Form" "discriminant" "J") (by decide +kernel)) (fun _ h9 => h9) rfl dX0_copy_26 ?_
  refine va_put (D := (dC, dI)) (ci := 0) (v := .long y3) (ty := .long) (C := RX0) (T := TX0) (N := 5) hx hb hts in_X0_copy_X0 tyX0 tyX0_ok nmX0 hown hK hP hD hS 0 rfl rfl 3 (by decide) (hts (.fieldLink RX0 25 "FormRing$Form" "discriminant" "J") (by decide +kernel)) (fun _ h9 => h9) rfl (by decide +kernel) rfl rfl (Nat.le_of_ble_eq_true rfl) dX0_copy_29 (fun H locs hP hD hS => ?_)
  have hP : va_P (dC, dI) vwCl [(h0, .inr (0, [.long y0, .long y1, .long y2, .long y3, .long v4])), (h1, .inr (0, [.long y0, .long y1, .long y2, .long y3, .long y4]))] H := hP
  have hD : va_D A [(h0, .inr (0, [.long y0, .long y1, .long y2, .long y3, .long v4])), (h1, .inr (0, [.long y0, .long y1, .long y2, .long y3, .long y4]))] := hD
  refine lv_aload_n hx hb dX0_copy_32 rfl (lv_at hl 0 rfl) ?_
  refine lv_aload_n hx hb dX0_copy_33 rfl (lv_at hl 1 rfl) ?_
  refine va_get (D := (dC, dI)) (ci := 0) (v := .long y4) (C := RX0) (T := TX0) (N := 5) hx hb hts in_X0_copy_X0 hown hK hP 1 rfl rfl 4 (by decide) (hts (.fieldLink RX0 32 "FormRing$Form" "root" "J") (by decide +kernel)) (fun _ h9 => h9) rfl dX0_copy_34 ?_
  refine va_put (D := (dC, dI)) (ci := 0) (v := .long y4) (ty := .long) (C := RX0) (T := TX0) (N := 5) hx hb hts in_X0_copy_X0 tyX0 tyX0_ok nmX0 hown hK hP hD hS 0 rfl rfl 4 (by decide) (hts (.fieldLink RX0 32 "FormRing$Form" "root" "J") (by decide +kernel)) (fun _ h9 => h9) rfl (by decide +kernel) rfl rfl (Nat.le_of_ble_eq_true rfl) dX0_copy_37 (fun H locs hP hD hS => ?_)
  have hP : va_P (dC, dI) vwCl [(h0, .inr (0, [.long y0, .long y1, .long y2, .long y3, .long y4])), (h1, .inr (0, [.long y0, .long y1, .long y2, .long y3, .long y4]))] H := hP
  have hD : va_D A [(h0, .inr (0, [.long y0, .long y1, .long y2, .long y3, .long y4])), (h1, .inr (0, [.long y0, .long y1, .long y2, .long y3, .long y4]))] := hD
  have ho := Option.some.inj hr
  subst ho
  exact W.vret hx hb hrt (fun t ht hW => ⟨⟨(), rfl, trivial, by rw [ht]; exact hP, va_K.moved hW.alike hK, hD⟩, hS.F ht⟩) hS.2.2 dX0_copy_40

theorem in_X0_isSame_X0 : ∀ w ∈ u_ws RX0 TX0 5, w ∈ wsX0_isSame := by decide +kernel
def f_X0_isSame (n : Nat) (v0 : Int64) (v1 : Int64) (v2 : Int64) (y0 : Int64) (y1 : Int64) (y2 : Int64) : Option (Int32) := if v0 = y0 then (if v1 = y1 then (if v2 = y2 then (some 1) else (some 0)) else (some 0)) else (some 0)
set_option maxHeartbeats 4000000 in
set_option maxRecDepth 100000 in
theorem c_X0_isSame (l : Launch) (dC : Nat → ClassId) (dI : Nat → Nat → Nat) (sz : Nat) (h0 : Nat) (v0 : Int64) (v1 : Int64) (v2 : Int64) (v3 : Int64) (v4 : Int64) (h1 : Nat) (y0 : Int64) (y1 : Int64) (y2 : Int64) (y3 : Int64) (y4 : Int64)   (n : Nat) (out : Int32) (hr : f_X0_isSame n v0 v1 v2 y0 y1 y2 = some out) : Met l yX0_isSame wsX0_isSame ({ frames := 0, cells := 0, slots := 0, locals := 0 }) (va_Pc [.ref h0, .ref h1] (zP dC dI [] [(h0, .inr (0, [.long v0, .long v1, .long v2, .long v3, .long v4])), (h1, .inr (0, [.long y0, .long y1, .long y2, .long y3, .long y4]))] sz)) (va_Qi (fun r (_ : Unit) => r = out ∧ narrow .boolean (.int r) = .int r) (fun (_ : Unit) t => zB dC dI [] (va_A [(h0, .inr (0, [.long v0, .long v1, .long v2, .long v3, .long v4])), (h1, .inr (0, [.long y0, .long y1, .long y2, .long y3, .long y4]))] sz) [(h0, .inr (0, [.long v0, .long v1, .long v2, .long v3, .long v4])), (h1, .inr (0, [.long y0, .long y1, .long y2, .long y3, .long y4]))] t) (va_A [(h0, .inr (0, [.long v0, .long v1, .long v2, .long v3, .long v4])), (h1, .inr (0, [.long y0, .long y1, .long y2, .long y3, .long y4]))] sz)) 0 0 (va_A [(h0, .inr (0, [.long v0, .long v1, .long v2, .long v3, .long v4])), (h1, .inr (0, [.long y0, .long y1, .long y2, .long y3, .long y4]))] sz) := by
  refine Met.ofW (cc := cX0_isSame) (maxL := 2) (ret := (some .boolean)) (by decide +kernel) rfl ?_
  intro p e s m args below meth c s₁ B hml hv
  obtain ⟨rfl, hsz, hP, hK, hD0⟩ := hv
  have hx := B.exec
  have hb := B.bytes
  have hrt := B.returns
  have hts := atoms_spec (ws := wsX0_isSame) B.pre
  have hown : s.vm.findClass RX0 = some m.cls := findClass_of_methodNamed B.named
  have hlocks := B.notSynchronized
  subst hsz
  have hD := hD0.self (sz := s.heap.size)
  generalize hAe : va_A [(h0, .inr (0, [.long v0, .long v1, .long v2, .long v3, .long v4])), (h1, .inr (0, [.long y0, .long y1, .long y2, .long y3, .long y4]))] s.heap.size = A at hD ⊢
  have hA : ∀ q : Nat, s.heap.size ≤ q → A q := fun q h => by rw [← hAe]; exact Or.inr h
  have hS : va_S A s.heap s.heap [] := va_S.rf
  have hP : va_P (dC, dI) vwCl [(h0, .inr (0, [.long v0, .long v1, .long v2, .long v3, .long v4])), (h1, .inr (0, [.long y0, .long y1, .long y2, .long y3, .long y4]))] s.heap := hP
  have hl := lv_entry ([.ref h0, .ref h1]) (n := 2) (Nat.le_of_ble_eq_true rfl)
  rw [lg_entry_eq]
  generalize (lg_sl ([.ref h0, .ref h1]) ++ List.replicate (2 - (lg_sl ([.ref h0, .ref h1])).length) Slot.unset).toArray = ls at hl ⊢
  have hl : lv_has ls 2 [(0, .ref h0), (1, .ref h1)] := hl
  unfold f_X0_isSame at hr
  refine lv_aload_n hx hb dX0_isSame_0 rfl (lv_at hl 0 rfl) ?_
  refine va_get (D := (dC, dI)) (ci := 0) (v := .long v0) (C := RX0) (T := TX0) (N := 5) hx hb hts in_X0_isSame_X0 hown hK hP 0 rfl rfl 0 (by decide) (hts (.fieldLink RX0 9 "FormRing$Form" "a" "J") (by decide +kernel)) (fun _ h9 => h9) rfl dX0_isSame_1 ?_
  refine lv_aload_n hx hb dX0_isSame_4 rfl (lv_at hl 1 rfl) ?_
  refine va_get (D := (dC, dI)) (ci := 0) (v := .long y0) (C := RX0) (T := TX0) (N := 5) hx hb hts in_X0_isSame_X0 hown hK hP 1 rfl rfl 0 (by decide) (hts (.fieldLink RX0 9 "FormRing$Form" "a" "J") (by decide +kernel)) (fun _ h9 => h9) rfl dX0_isSame_5 ?_
  refine lz_lne (tgt := 40) hx hb dX0_isSame_8 dX0_isSame_9 (by decide) (fun c_1 => ?_) (fun c_1 => ?_)
  · have hr := (if_neg c_1).symm.trans hr
    refine lv_iconst (v := 0) hx hb dX0_isSame_40 (by decide) ?_
    have ho := Option.some.inj hr
    subst ho
    exact W.zret (v := 0) hx hb hrt rfl (fun t ht hW => ⟨⟨0, (), rfl, ⟨rfl, rfl⟩, by rw [ht]; exact hP, va_K.moved hW.alike hK, hD⟩, hS.F ht⟩) hS.2.2 dX0_isSame_41
  · have hr := (if_pos c_1).symm.trans hr
    refine lv_aload_n hx hb dX0_isSame_12 rfl (lv_at hl 0 rfl) ?_
    refine va_get (D := (dC, dI)) (ci := 0) (v := .long v1) (C := RX0) (T := TX0) (N := 5) hx hb hts in_X0_isSame_X0 hown hK hP 0 rfl rfl 1 (by decide) (hts (.fieldLink RX0 15 "FormRing$Form" "b" "J") (by decide +kernel)) (fun _ h9 => h9) rfl dX0_isSame_13 ?_
    refine lv_aload_n hx hb dX0_isSame_16 rfl (lv_at hl 1 rfl) ?_
    refine va_get (D := (dC, dI)) (ci := 0) (v := .long y1) (C := RX0) (T := TX0) (N := 5) hx hb hts in_X0_isSame_X0 hown hK hP 1 rfl rfl 1 (by decide) (hts (.fieldLink RX0 15 "FormRing$Form" "b" "J") (by decide +kernel)) (fun _ h9 => h9) rfl dX0_isSame_17 ?_
    refine lz_lne (tgt := 40) hx hb dX0_isSame_20 dX0_isSame_21 (by decide) (fun c_2 => ?_) (fun c_2 => ?_)
    · have hr := (if_neg c_2).symm.trans hr
      refine lv_iconst (v := 0) hx hb dX0_isSame_40 (by decide) ?_
      have ho := Option.some.inj hr
      subst ho
      exact W.zret (v := 0) hx hb hrt rfl (fun t ht hW => ⟨⟨0, (), rfl, ⟨rfl, rfl⟩, by rw [ht]; exact hP, va_K.moved hW.alike hK, hD⟩, hS.F ht⟩) hS.2.2 dX0_isSame_41
    · have hr := (if_pos c_2).symm.trans hr
      refine lv_aload_n hx hb dX0_isSame_24 rfl (lv_at hl 0 rfl) ?_
      refine va_get (D := (dC, dI)) (ci := 0) (v := .long v2) (C := RX0) (T := TX0) (N := 5) hx hb hts in_X0_isSame_X0 hown hK hP 0 rfl rfl 2 (by decide) (hts (.fieldLink RX0 18 "FormRing$Form" "c" "J") (by decide +kernel)) (fun _ h9 => h9) rfl dX0_isSame_25 ?_
      refine lv_aload_n hx hb dX0_isSame_28 rfl (lv_at hl 1 rfl) ?_
      refine va_get (D := (dC, dI)) (ci := 0) (v := .long y2) (C := RX0) (T := TX0) (N := 5) hx hb hts in_X0_isSame_X0 hown hK hP 1 rfl rfl 2 (by decide) (hts (.fieldLink RX0 18 "FormRing$Form" "c" "J") (by decide +kernel)) (fun _ h9 => h9) rfl dX0_isSame_29 ?_
      refine lz_lne (tgt := 40) hx hb dX0_isSame_32 dX0_isSame_33 (by decide) (fun c_3 => ?_) (fun c_3 => ?_)
      · have hr := (if_neg c_3).symm.trans hr
        refine lv_iconst (v := 0) hx hb dX0_isSame_40 (by decide) ?_
        have ho := Option.some.inj hr
        subst ho
        exact W.zret (v := 0) hx hb hrt rfl (fun t ht hW => ⟨⟨0, (), rfl, ⟨rfl, rfl⟩, by rw [ht]; exact hP, va_K.moved hW.alike hK, hD⟩, hS.F ht⟩) hS.2.2 dX0_isSame_41
      · have hr := (if_pos c_3).symm.trans hr
        refine lv_iconst (v := 1) hx hb dX0_isSame_36 (by decide) ?_
        refine lv_goto (tgt := 41) hx hb dX0_isSame_37 (by decide) ?_
        have ho := Option.some.inj hr
        subst ho
        exact W.zret (v := 1) hx hb hrt rfl (fun t ht hW => ⟨⟨1, (), rfl, ⟨rfl, rfl⟩, by rw [ht]; exact hP, va_K.moved hW.alike hK, hD⟩, hS.F ht⟩) hS.2.2 dX0_isSame_41

theorem in_X0_isBefore_X0 : ∀ w ∈ u_ws RX0 TX0 5, w ∈ wsX0_isBefore := by decide +kernel
def f_X0_isBefore (n : Nat) (v0 : Int64) (v1 : Int64) (y0 : Int64) (y1 : Int64) : Option (Int32) := if v0 < y0 then (some 1) else (if v0 = y0 then (if v1 < y1 then (some 1) else (some 0)) else (some 0))
set_option maxHeartbeats 4000000 in
set_option maxRecDepth 100000 in
theorem c_X0_isBefore (l : Launch) (dC : Nat → ClassId) (dI : Nat → Nat → Nat) (sz : Nat) (h0 : Nat) (v0 : Int64) (v1 : Int64) (v2 : Int64) (v3 : Int64) (v4 : Int64) (h1 : Nat) (y0 : Int64) (y1 : Int64) (y2 : Int64) (y3 : Int64) (y4 : Int64)   (n : Nat) (out : Int32) (hr : f_X0_isBefore n v0 v1 y0 y1 = some out) : Met l yX0_isBefore wsX0_isBefore ({ frames := 0, cells := 0, slots := 0, locals := 0 }) (va_Pc [.ref h0, .ref h1] (zP dC dI [] [(h0, .inr (0, [.long v0, .long v1, .long v2, .long v3, .long v4])), (h1, .inr (0, [.long y0, .long y1, .long y2, .long y3, .long y4]))] sz)) (va_Qi (fun r (_ : Unit) => r = out ∧ narrow .boolean (.int r) = .int r) (fun (_ : Unit) t => zB dC dI [] (va_A [(h0, .inr (0, [.long v0, .long v1, .long v2, .long v3, .long v4])), (h1, .inr (0, [.long y0, .long y1, .long y2, .long y3, .long y4]))] sz) [(h0, .inr (0, [.long v0, .long v1, .long v2, .long v3, .long v4])), (h1, .inr (0, [.long y0, .long y1, .long y2, .long y3, .long y4]))] t) (va_A [(h0, .inr (0, [.long v0, .long v1, .long v2, .long v3, .long v4])), (h1, .inr (0, [.long y0, .long y1, .long y2, .long y3, .long y4]))] sz)) 0 0 (va_A [(h0, .inr (0, [.long v0, .long v1, .long v2, .long v3, .long v4])), (h1, .inr (0, [.long y0, .long y1, .long y2, .long y3, .long y4]))] sz) := by
  refine Met.ofW (cc := cX0_isBefore) (maxL := 2) (ret := (some .boolean)) (by decide +kernel) rfl ?_
  intro p e s m args below meth c s₁ B hml hv
  obtain ⟨rfl, hsz, hP, hK, hD0⟩ := hv
  have hx := B.exec
  have hb := B.bytes
  have hrt := B.returns
  have hts := atoms_spec (ws := wsX0_isBefore) B.pre
  have hown : s.vm.findClass RX0 = some m.cls := findClass_of_methodNamed B.named
  have hlocks := B.notSynchronized
  subst hsz
  have hD := hD0.self (sz := s.heap.size)
  generalize hAe : va_A [(h0, .inr (0, [.long v0, .long v1, .long v2, .long v3, .long v4])), (h1, .inr (0, [.long y0, .long y1, .long y2, .long y3, .long y4]))] s.heap.size = A at hD ⊢
  have hA : ∀ q : Nat, s.heap.size ≤ q → A q := fun q h => by rw [← hAe]; exact Or.inr h
  have hS : va_S A s.heap s.heap [] := va_S.rf
  have hP : va_P (dC, dI) vwCl [(h0, .inr (0, [.long v0, .long v1, .long v2, .long v3, .long v4])), (h1, .inr (0, [.long y0, .long y1, .long y2, .long y3, .long y4]))] s.heap := hP
  have hl := lv_entry ([.ref h0, .ref h1]) (n := 2) (Nat.le_of_ble_eq_true rfl)
  rw [lg_entry_eq]
  generalize (lg_sl ([.ref h0, .ref h1]) ++ List.replicate (2 - (lg_sl ([.ref h0, .ref h1])).length) Slot.unset).toArray = ls at hl ⊢
  have hl : lv_has ls 2 [(0, .ref h0), (1, .ref h1)] := hl
  unfold f_X0_isBefore at hr
  refine lv_aload_n hx hb dX0_isBefore_0 rfl (lv_at hl 0 rfl) ?_
  refine va_get (D := (dC, dI)) (ci := 0) (v := .long v0) (C := RX0) (T := TX0) (N := 5) hx hb hts in_X0_isBefore_X0 hown hK hP 0 rfl rfl 0 (by decide) (hts (.fieldLink RX0 9 "FormRing$Form" "a" "J") (by decide +kernel)) (fun _ h9 => h9) rfl dX0_isBefore_1 ?_
  refine lv_aload_n hx hb dX0_isBefore_4 rfl (lv_at hl 1 rfl) ?_
  refine va_get (D := (dC, dI)) (ci := 0) (v := .long y0) (C := RX0) (T := TX0) (N := 5) hx hb hts in_X0_isBefore_X0 hown hK hP 1 rfl rfl 0 (by decide) (hts (.fieldLink RX0 9 "FormRing$Form" "a" "J") (by decide +kernel)) (fun _ h9 => h9) rfl dX0_isBefore_5 ?_
  refine lz_llt (tgt := 36) hx hb dX0_isBefore_8 dX0_isBefore_9 (by decide) (fun c_1 => ?_) (fun c_1 => ?_)
  · have hr := (if_pos c_1).symm.trans hr
    refine lv_iconst (v := 1) hx hb dX0_isBefore_36 (by decide) ?_
    refine lv_goto (tgt := 41) hx hb dX0_isBefore_37 (by decide) ?_
    have ho := Option.some.inj hr
    subst ho
    exact W.zret (v := 1) hx hb hrt rfl (fun t ht hW => ⟨⟨1, (), rfl, ⟨rfl, rfl⟩, by rw [ht]; exact hP, va_K.moved hW.alike hK, hD⟩, hS.F ht⟩) hS.2.2 dX0_isBefore_41
  · have hr := (if_neg c_1).symm.trans hr
    refine lv_aload_n hx hb dX0_isBefore_12 rfl (lv_at hl 0 rfl) ?_
    refine va_get (D := (dC, dI)) (ci := 0) (v := .long v0) (C := RX0) (T := TX0) (N := 5) hx hb hts in_X0_isBefore_X0 hown hK hP 0 rfl rfl 0 (by decide) (hts (.fieldLink RX0 9 "FormRing$Form" "a" "J") (by decide +kernel)) (fun _ h9 => h9) rfl dX0_isBefore_13 ?_
    refine lv_aload_n hx hb dX0_isBefore_16 rfl (lv_at hl 1 rfl) ?_
    refine va_get (D := (dC, dI)) (ci := 0) (v := .long y0) (C := RX0) (T := TX0) (N := 5) hx hb hts in_X0_isBefore_X0 hown hK hP 1 rfl rfl 0 (by decide) (hts (.fieldLink RX0 9 "FormRing$Form" "a" "J") (by decide +kernel)) (fun _ h9 => h9) rfl dX0_isBefore_17 ?_
    refine lz_lne (tgt := 40) hx hb dX0_isBefore_20 dX0_isBefore_21 (by decide) (fun c_2 => ?_) (fun c_2 => ?_)
    · have hr := (if_neg c_2).symm.trans hr
      refine lv_iconst (v := 0) hx hb dX0_isBefore_40 (by decide) ?_
      have ho := Option.some.inj hr
      subst ho
      exact W.zret (v := 0) hx hb hrt rfl (fun t ht hW => ⟨⟨0, (), rfl, ⟨rfl, rfl⟩, by rw [ht]; exact hP, va_K.moved hW.alike hK, hD⟩, hS.F ht⟩) hS.2.2 dX0_isBefore_41
    · have hr := (if_pos c_2).symm.trans hr
      refine lv_aload_n hx hb dX0_isBefore_24 rfl (lv_at hl 0 rfl) ?_
      refine va_get (D := (dC, dI)) (ci := 0) (v := .long v1) (C := RX0) (T := TX0) (N := 5) hx hb hts in_X0_isBefore_X0 hown hK hP 0 rfl rfl 1 (by decide) (hts (.fieldLink RX0 15 "FormRing$Form" "b" "J") (by decide +kernel)) (fun _ h9 => h9) rfl dX0_isBefore_25 ?_
      refine lv_aload_n hx hb dX0_isBefore_28 rfl (lv_at hl 1 rfl) ?_
      refine va_get (D := (dC, dI)) (ci := 0) (v := .long y1) (C := RX0) (T := TX0) (N := 5) hx hb hts in_X0_isBefore_X0 hown hK hP 1 rfl rfl 1 (by decide) (hts (.fieldLink RX0 15 "FormRing$Form" "b" "J") (by decide +kernel)) (fun _ h9 => h9) rfl dX0_isBefore_29 ?_
      refine lz_lge (tgt := 40) hx hb dX0_isBefore_32 dX0_isBefore_33 (by decide) (fun c_3 => ?_) (fun c_3 => ?_)
      · have hr := (if_neg c_3).symm.trans hr
        refine lv_iconst (v := 0) hx hb dX0_isBefore_40 (by decide) ?_
        have ho := Option.some.inj hr
        subst ho
        exact W.zret (v := 0) hx hb hrt rfl (fun t ht hW => ⟨⟨0, (), rfl, ⟨rfl, rfl⟩, by rw [ht]; exact hP, va_K.moved hW.alike hK, hD⟩, hS.F ht⟩) hS.2.2 dX0_isBefore_41
      · have hr := (if_pos c_3).symm.trans hr
        refine lv_iconst (v := 1) hx hb dX0_isBefore_36 (by decide) ?_
        refine lv_goto (tgt := 41) hx hb dX0_isBefore_37 (by decide) ?_
        have ho := Option.some.inj hr
        subst ho
        exact W.zret (v := 1) hx hb hrt rfl (fun t ht hW => ⟨⟨1, (), rfl, ⟨rfl, rfl⟩, by rw [ht]; exact hP, va_K.moved hW.alike hK, hD⟩, hS.F ht⟩) hS.2.2 dX0_isBefore_41

theorem in_X0_coefficient_X0 : ∀ w ∈ u_ws RX0 TX0 5, w ∈ wsX0_coefficient := by decide +kernel
def f_X0_coefficient (n : Nat) (v0 : Int64) (v1 : Int64) (v2 : Int64) (a1 : Int32) : Option (Int32) := if a1 = 0 then (some v0.toInt32) else (if a1 = 1 then (some v1.toInt32) else (some v2.toInt32))
set_option maxHeartbeats 4000000 in
set_option maxRecDepth 100000 in
theorem c_X0_coefficient (l : Launch) (dC : Nat → ClassId) (dI : Nat → Nat → Nat) (sz : Nat) (h0 : Nat) (v0 : Int64) (v1 : Int64) (v2 : Int64) (v3 : Int64) (v4 : Int64) (a1 : Int32)  (n : Nat) (out : Int32) (hr : f_X0_coefficient n v0 v1 v2 a1 = some out) : Met l yX0_coefficient wsX0_coefficient ({ frames := 0, cells := 0, slots := 0, locals := 0 }) (va_Pc [.ref h0, .int a1] (zP dC dI [] [(h0, .inr (0, [.long v0, .long v1, .long v2, .long v3, .long v4]))] sz)) (va_Qi (fun r (_ : Unit) => r = out) (fun (_ : Unit) t => zB dC dI [] (va_A [(h0, .inr (0, [.long v0, .long v1, .long v2, .long v3, .long v4]))] sz) [(h0, .inr (0, [.long v0, .long v1, .long v2, .long v3, .long v4]))] t) (va_A [(h0, .inr (0, [.long v0, .long v1, .long v2, .long v3, .long v4]))] sz)) 0 0 (va_A [(h0, .inr (0, [.long v0, .long v1, .long v2, .long v3, .long v4]))] sz) := by
  refine Met.ofW (cc := cX0_coefficient) (maxL := 2) (ret := (some .int)) (by decide +kernel) rfl ?_
  intro p e s m args below meth c s₁ B hml hv
  obtain ⟨rfl, hsz, hP, hK, hD0⟩ := hv
  have hx := B.exec
  have hb := B.bytes
  have hrt := B.returns
  have hts := atoms_spec (ws := wsX0_coefficient) B.pre
  have hown : s.vm.findClass RX0 = some m.cls := findClass_of_methodNamed B.named
  have hlocks := B.notSynchronized
  subst hsz
  have hD := hD0.self (sz := s.heap.size)
  generalize hAe : va_A [(h0, .inr (0, [.long v0, .long v1, .long v2, .long v3, .long v4]))] s.heap.size = A at hD ⊢
  have hA : ∀ q : Nat, s.heap.size ≤ q → A q := fun q h => by rw [← hAe]; exact Or.inr h
  have hS : va_S A s.heap s.heap [] := va_S.rf
  have hP : va_P (dC, dI) vwCl [(h0, .inr (0, [.long v0, .long v1, .long v2, .long v3, .long v4]))] s.heap := hP
  have hl := lv_entry ([.ref h0, .int a1]) (n := 2) (Nat.le_of_ble_eq_true rfl)
  rw [lg_entry_eq]
  generalize (lg_sl ([.ref h0, .int a1]) ++ List.replicate (2 - (lg_sl ([.ref h0, .int a1])).length) Slot.unset).toArray = ls at hl ⊢
  have hl : lv_has ls 2 [(0, .ref h0), (1, .int a1)] := hl
  unfold f_X0_coefficient at hr
  refine lv_iload_n hx hb dX0_coefficient_0 rfl (lv_at hl 1 rfl) ?_
  refine lz_zne (tgt := 10) hx hb dX0_coefficient_1 (by decide) (fun c_1 => ?_) (fun c_1 => ?_)
  · have hr := (if_neg c_1).symm.trans hr
    refine lv_iload_n hx hb dX0_coefficient_10 rfl (lv_at hl 1 rfl) ?_
    refine lv_iconst (v := 1) hx hb dX0_coefficient_11 (by decide) ?_
    refine lz_ine (tgt := 23) hx hb dX0_coefficient_12 (by decide) (fun c_2 => ?_) (fun c_2 => ?_)
    · have hr := (if_neg c_2).symm.trans hr
      refine lv_aload_n hx hb dX0_coefficient_23 rfl (lv_at hl 0 rfl) ?_
      refine va_get (D := (dC, dI)) (ci := 0) (v := .long v2) (C := RX0) (T := TX0) (N := 5) hx hb hts in_X0_coefficient_X0 hown hK hP 0 rfl rfl 2 (by decide) (hts (.fieldLink RX0 18 "FormRing$Form" "c" "J") (by decide +kernel)) (fun _ h9 => h9) rfl dX0_coefficient_24 ?_
      refine lv_l2i hx hb dX0_coefficient_27 rfl ?_
      have ho := Option.some.inj hr
      subst ho
      exact W.iret (v := v2.toInt32) hx hb hrt (fun t ht hW => ⟨⟨v2.toInt32, (), rfl, rfl, by rw [ht]; exact hP, va_K.moved hW.alike hK, hD⟩, hS.F ht⟩) hS.2.2 dX0_coefficient_28
    · have hr := (if_pos c_2).symm.trans hr
      refine lv_aload_n hx hb dX0_coefficient_15 rfl (lv_at hl 0 rfl) ?_
      refine va_get (D := (dC, dI)) (ci := 0) (v := .long v1) (C := RX0) (T := TX0) (N := 5) hx hb hts in_X0_coefficient_X0 hown hK hP 0 rfl rfl 1 (by decide) (hts (.fieldLink RX0 15 "FormRing$Form" "b" "J") (by decide +kernel)) (fun _ h9 => h9) rfl dX0_coefficient_16 ?_
      refine lv_l2i hx hb dX0_coefficient_19 rfl ?_
      refine lv_goto (tgt := 28) hx hb dX0_coefficient_20 (by decide) ?_
      have ho := Option.some.inj hr
      subst ho
      exact W.iret (v := v1.toInt32) hx hb hrt (fun t ht hW => ⟨⟨v1.toInt32, (), rfl, rfl, by rw [ht]; exact hP, va_K.moved hW.alike hK, hD⟩, hS.F ht⟩) hS.2.2 dX0_coefficient_28
  · have hr := (if_pos c_1).symm.trans hr
    refine lv_aload_n hx hb dX0_coefficient_4 rfl (lv_at hl 0 rfl) ?_
    refine va_get (D := (dC, dI)) (ci := 0) (v := .long v0) (C := RX0) (T := TX0) (N := 5) hx hb hts in_X0_coefficient_X0 hown hK hP 0 rfl rfl 0 (by decide) (hts (.fieldLink RX0 9 "FormRing$Form" "a" "J") (by decide +kernel)) (fun _ h9 => h9) rfl dX0_coefficient_5 ?_
    refine lv_l2i hx hb dX0_coefficient_8 rfl ?_
    have ho := Option.some.inj hr
    subst ho
    exact W.iret (v := v0.toInt32) hx hb hrt (fun t ht hW => ⟨⟨v0.toInt32, (), rfl, rfl, by rw [ht]; exact hP, va_K.moved hW.alike hK, hD⟩, hS.F ht⟩) hS.2.2 dX0_coefficient_9

theorem in_X0_greatestDivisor_X0 : ∀ w ∈ u_ws RX0 TX0 5, w ∈ wsX0_greatestDivisor := by decide +kernel
def f_X0_greatestDivisor (n : Nat) (v0 : Int64) (v1 : Int64) (v2 : Int64) : Option (Int32) := (f_X0_commonDivisor n (if 0 < v0 then v0 else -v0) (if 0 < v1 then v1 else -v1)).bind (fun r_2 => (f_X0_commonDivisor n r_2 (if 0 < v2 then v2 else -v2)).bind (fun r_5 => some r_5.toInt32))
set_option maxHeartbeats 4000000 in
set_option maxRecDepth 100000 in
theorem c_X0_greatestDivisor (l : Launch) (dC : Nat → ClassId) (dI : Nat → Nat → Nat) (sz : Nat) (h0 : Nat) (v0 : Int64) (v1 : Int64) (v2 : Int64) (v3 : Int64) (v4 : Int64)   (n : Nat) (out : Int32) (hr : f_X0_greatestDivisor n v0 v1 v2 = some out) : Met l yX0_greatestDivisor wsX0_greatestDivisor ({ frames := 1, cells := 0, slots := 0, locals := 30 }) (va_Pc [.ref h0] (zP dC dI [] [(h0, .inr (0, [.long v0, .long v1, .long v2, .long v3, .long v4]))] sz)) (va_Qi (fun r (_ : Unit) => r = out) (fun (_ : Unit) t => zB dC dI [] (va_A [(h0, .inr (0, [.long v0, .long v1, .long v2, .long v3, .long v4]))] sz) [(h0, .inr (0, [.long v0, .long v1, .long v2, .long v3, .long v4]))] t) (va_A [(h0, .inr (0, [.long v0, .long v1, .long v2, .long v3, .long v4]))] sz)) 0 0 (va_A [(h0, .inr (0, [.long v0, .long v1, .long v2, .long v3, .long v4]))] sz) := by
  refine Met.ofW (cc := cX0_greatestDivisor) (maxL := 1) (ret := (some .int)) (by decide +kernel) rfl ?_
  intro p e s m args below meth c s₁ B hml hv
  obtain ⟨rfl, hsz, hP, hK, hD0⟩ := hv
  have hx := B.exec
  have hb := B.bytes
  have hrt := B.returns
  have hts := atoms_spec (ws := wsX0_greatestDivisor) B.pre
  have hown : s.vm.findClass RX0 = some m.cls := findClass_of_methodNamed B.named
  have hlocks := B.notSynchronized
  subst hsz
  have hD := hD0.self (sz := s.heap.size)
  generalize hAe : va_A [(h0, .inr (0, [.long v0, .long v1, .long v2, .long v3, .long v4]))] s.heap.size = A at hD ⊢
  have hA : ∀ q : Nat, s.heap.size ≤ q → A q := fun q h => by rw [← hAe]; exact Or.inr h
  have hS : va_S A s.heap s.heap [] := va_S.rf
  have hP : va_P (dC, dI) vwCl [(h0, .inr (0, [.long v0, .long v1, .long v2, .long v3, .long v4]))] s.heap := hP
  have hl := lv_entry ([.ref h0]) (n := 1) (Nat.le_of_ble_eq_true rfl)
  rw [lg_entry_eq]
  generalize (lg_sl ([.ref h0]) ++ List.replicate (1 - (lg_sl ([.ref h0])).length) Slot.unset).toArray = ls at hl ⊢
  have hl : lv_has ls 1 [(0, .ref h0)] := hl
  unfold f_X0_greatestDivisor at hr
  refine lv_aload_n hx hb dX0_greatestDivisor_0 rfl (lv_at hl 0 rfl) ?_
  refine va_get (D := (dC, dI)) (ci := 0) (v := .long v0) (C := RX0) (T := TX0) (N := 5) hx hb hts in_X0_greatestDivisor_X0 hown hK hP 0 rfl rfl 0 (by decide) (hts (.fieldLink RX0 9 "FormRing$Form" "a" "J") (by decide +kernel)) (fun _ h9 => h9) rfl dX0_greatestDivisor_1 ?_
  refine va_mabs_long hx hb (by rw [hml]; exact hl.1.symm) hown (hts (.methodLink RX0 35 Lib.MathLoose.abs_long.x) (by decide +kernel)) (hts (.static Lib.MathLoose.abs_long.x) (by decide +kernel)) (hts (.initialized "java/lang/Math") (by decide +kernel)) (hts (.code Lib.MathLoose.abs_long.x Lib.MathLoose.abs_long.code 2 (some .long)) (by decide +kernel)) (Nat.le_of_ble_eq_true rfl) (Nat.le_of_ble_eq_true rfl) (Nat.zero_le _) (Nat.zero_le _) dX0_greatestDivisor_4 ?_
  refine lv_aload_n hx hb dX0_greatestDivisor_7 rfl (lv_at hl 0 rfl) ?_
  refine va_get (D := (dC, dI)) (ci := 0) (v := .long v1) (C := RX0) (T := TX0) (N := 5) hx hb hts in_X0_greatestDivisor_X0 hown hK hP 0 rfl rfl 1 (by decide) (hts (.fieldLink RX0 15 "FormRing$Form" "b" "J") (by decide +kernel)) (fun _ h9 => h9) rfl dX0_greatestDivisor_8 ?_
  refine va_mabs_long hx hb (by rw [hml]; exact hl.1.symm) hown (hts (.methodLink RX0 35 Lib.MathLoose.abs_long.x) (by decide +kernel)) (hts (.static Lib.MathLoose.abs_long.x) (by decide +kernel)) (hts (.initialized "java/lang/Math") (by decide +kernel)) (hts (.code Lib.MathLoose.abs_long.x Lib.MathLoose.abs_long.code 2 (some .long)) (by decide +kernel)) (Nat.le_of_ble_eq_true rfl) (Nat.le_of_ble_eq_true rfl) (Nat.zero_le _) (Nat.zero_le _) dX0_greatestDivisor_11 ?_
  cases e_1 : f_X0_commonDivisor n (if 0 < v0 then v0 else -v0) (if 0 < v1 then v1 else -v1) with
  | none => rw [e_1, Option.bind_none] at hr; cases hr
  | some r_2 =>
    rw [e_1, Option.bind_some] at hr
    have hPc := hP.sub (ws' := []) [] rfl
    have hDc := hD.sub (ws' := []) [] (by decide) rfl
    have hKc := hK.sub (tys' := []) [] rfl
    have hFc := va_free (wc := []) hD hS hA [] rfl
    refine va_calll (va_runS (As := [.long (if 0 < v0 then v0 else -v0), .long (if 0 < v1 then v1 else -v1)]) (rest := []) ⟨hx, hb, hml, hown, hts⟩ (c_X0_commonDivisor l dC dI s.heap.size  (if 0 < v0 then v0 else -v0) (if 0 < v1 then v1 else -v1) n _ e_1) (va_cwS 2 hts gX0_greatestDivisor_X0_commonDivisor rfl rfl rfl (by decide +kernel) ⟨Nat.le_of_ble_eq_true rfl, Nat.le_of_ble_eq_true rfl⟩) ⟨fun a U g mk q => by obtain ⟨q0, q1, qP, qK, qD⟩ := q; exact ⟨q0, q1, qP, va_K.moved (u := U) (U := U.calling g mk a) (Vm.Alike.refl U.vm) qK, qD⟩, fun U hU hW => ⟨rfl, by rw [hU], by rw [hU]; exact hPc, va_K.moved hW.alike hKc, hDc.weaken (fun _ _ _ _ => trivial)⟩⟩ rfl rfl hl.1 rfl (lv_room (Nat.le_of_ble_eq_true rfl)) dX0_greatestDivisor_14 ⟨Nat.zero_le _, Nat.zero_le _⟩) hS (fun q _ h => hFc q h) hFc (fun x_3 _ t H1 locs ht hvm hw hB hz1 hk1 hS => ?_)
    have hw := hw.symm
    subst hw
    obtain ⟨hP1, hK1, hD1⟩ := hB
    rw [ht] at hP1
    obtain ⟨hP, hD⟩ := va_join (wr := [(h0, .inr (0, [.long v0, .long v1, .long v2, .long v3, .long v4]))]) (w1 := []) hP hD [] [0] rfl rfl (by decide) (by decide) hk1 hFc hP1 hD1
    generalize H1 = H at hP hS ⊢
    have hP : va_P (dC, dI) vwCl [(h0, .inr (0, [.long v0, .long v1, .long v2, .long v3, .long v4]))] H := hP
    have hD : va_D A [(h0, .inr (0, [.long v0, .long v1, .long v2, .long v3, .long v4]))] := hD
    refine W.widen (k := 0) (n := 0) (Nat.le_refl _) (Nat.le_refl _) ?_
    refine lv_aload_n hx hb dX0_greatestDivisor_17 rfl (lv_at hl 0 rfl) ?_
    refine va_get (D := (dC, dI)) (ci := 0) (v := .long v2) (C := RX0) (T := TX0) (N := 5) hx hb hts in_X0_greatestDivisor_X0 hown hK hP 0 rfl rfl 2 (by decide) (hts (.fieldLink RX0 18 "FormRing$Form" "c" "J") (by decide +kernel)) (fun _ h9 => h9) rfl dX0_greatestDivisor_18 ?_
    refine va_mabs_long hx hb (by rw [hml]; exact hl.1.symm) hown (hts (.methodLink RX0 35 Lib.MathLoose.abs_long.x) (by decide +kernel)) (hts (.static Lib.MathLoose.abs_long.x) (by decide +kernel)) (hts (.initialized "java/lang/Math") (by decide +kernel)) (hts (.code Lib.MathLoose.abs_long.x Lib.MathLoose.abs_long.code 2 (some .long)) (by decide +kernel)) (Nat.le_of_ble_eq_true rfl) (Nat.le_of_ble_eq_true rfl) (Nat.zero_le _) (Nat.zero_le _) dX0_greatestDivisor_21 ?_
    cases e_4 : f_X0_commonDivisor n r_2 (if 0 < v2 then v2 else -v2) with
    | none => rw [e_4, Option.bind_none] at hr; cases hr
    | some r_5 =>
      rw [e_4, Option.bind_some] at hr
      have hPc := hP.sub (ws' := []) [] rfl
      have hDc := hD.sub (ws' := []) [] (by decide) rfl
      have hKc := hK.sub (tys' := []) [] rfl
      have hFc := va_free (wc := []) hD hS hA [] rfl
      refine va_calll (va_runS (As := [.long r_2, .long (if 0 < v2 then v2 else -v2)]) (rest := []) ⟨hx, hb, hml, hown, hts⟩ (c_X0_commonDivisor l dC dI H.size  r_2 (if 0 < v2 then v2 else -v2) n _ e_4) (va_cwS 2 hts gX0_greatestDivisor_X0_commonDivisor rfl rfl rfl (by decide +kernel) ⟨Nat.le_of_ble_eq_true rfl, Nat.le_of_ble_eq_true rfl⟩) ⟨fun a U g mk q => by obtain ⟨q0, q1, qP, qK, qD⟩ := q; exact ⟨q0, q1, qP, va_K.moved (u := U) (U := U.calling g mk a) (Vm.Alike.refl U.vm) qK, qD⟩, fun U hU hW => ⟨rfl, by rw [hU], by rw [hU]; exact hPc, va_K.moved hW.alike hKc, hDc.weaken (fun _ _ _ _ => trivial)⟩⟩ rfl rfl hl.1 rfl (lv_room (Nat.le_of_ble_eq_true rfl)) dX0_greatestDivisor_24 ⟨Nat.zero_le _, Nat.zero_le _⟩) hS (fun q _ h => hFc q h) hFc (fun x_6 _ t H1 locs ht hvm hw hB hz1 hk1 hS => ?_)
      have hw := hw.symm
      subst hw
      obtain ⟨hP1, hK1, hD1⟩ := hB
      rw [ht] at hP1
      obtain ⟨hP, hD⟩ := va_join (wr := [(h0, .inr (0, [.long v0, .long v1, .long v2, .long v3, .long v4]))]) (w1 := []) hP hD [] [0] rfl rfl (by decide) (by decide) hk1 hFc hP1 hD1
      generalize H1 = H at hP hS ⊢
      have hP : va_P (dC, dI) vwCl [(h0, .inr (0, [.long v0, .long v1, .long v2, .long v3, .long v4]))] H := hP
      have hD : va_D A [(h0, .inr (0, [.long v0, .long v1, .long v2, .long v3, .long v4]))] := hD
      refine W.widen (k := 0) (n := 0) (Nat.le_refl _) (Nat.le_refl _) ?_
      refine lv_l2i hx hb dX0_greatestDivisor_27 rfl ?_
      have ho := Option.some.inj hr
      subst ho
      exact W.iret (v := r_5.toInt32) hx hb hrt (fun t ht hW => ⟨⟨r_5.toInt32, (), rfl, rfl, by rw [ht]; exact hP, va_K.moved hW.alike hK, hD⟩, hS.F ht⟩) hS.2.2 dX0_greatestDivisor_28

theorem in_X0_isReduced_X0 : ∀ w ∈ u_ws RX0 TX0 5, w ∈ wsX0_isReduced := by decide +kernel
def f_X0_isReduced (n : Nat) (v0 : Int64) (v1 : Int64) (v2 : Int64) (v3 : Int64) (v4 : Int64) : Option (Int32) := if v3 < 0 then (if v0 < (if 0 < v1 then v1 else -v1) then (some 0) else (if v2 < v0 then (some 0) else (if v1 < 0 then (if (if 0 < v1 then v1 else -v1) = v0 then (some 0) else (if v0 = v2 then (some 0) else (some 1))) else (some 1)))) else (if 0 < v1 then (if v4 < v1 then (some 0) else (if v4 < ((2 * (if 0 < v0 then v0 else -v0)) + v1) then (if v4 < ((2 * (if 0 < v0 then v0 else -v0)) - v1) then (some 0) else (some 1)) else (some 0))) else (some 0))
set_option maxHeartbeats 4000000 in
set_option maxRecDepth 100000 in
theorem c_X0_isReduced (l : Launch) (dC : Nat → ClassId) (dI : Nat → Nat → Nat) (sz : Nat) (h0 : Nat) (v0 : Int64) (v1 : Int64) (v2 : Int64) (v3 : Int64) (v4 : Int64)   (n : Nat) (out : Int32) (hr : f_X0_isReduced n v0 v1 v2 v3 v4 = some out) : Met l yX0_isReduced wsX0_isReduced ({ frames := 1, cells := 0, slots := 0, locals := 21 }) (va_Pc [.ref h0] (zP dC dI [] [(h0, .inr (0, [.long v0, .long v1, .long v2, .long v3, .long v4]))] sz)) (va_Qi (fun r (_ : Unit) => r = out ∧ narrow .boolean (.int r) = .int r) (fun (_ : Unit) t => zB dC dI [] (va_A [(h0, .inr (0, [.long v0, .long v1, .long v2, .long v3, .long v4]))] sz) [(h0, .inr (0, [.long v0, .long v1, .long v2, .long v3, .long v4]))] t) (va_A [(h0, .inr (0, [.long v0, .long v1, .long v2, .long v3, .long v4]))] sz)) 0 0 (va_A [(h0, .inr (0, [.long v0, .long v1, .long v2, .long v3, .long v4]))] sz) := by
  refine Met.ofW (cc := cX0_isReduced) (maxL := 3) (ret := (some .boolean)) (by decide +kernel) rfl ?_
  intro p e s m args below meth c s₁ B hml hv
  obtain ⟨rfl, hsz, hP, hK, hD0⟩ := hv
  have hx := B.exec
  have hb := B.bytes
  have hrt := B.returns
  have hts := atoms_spec (ws := wsX0_isReduced) B.pre
  have hown : s.vm.findClass RX0 = some m.cls := findClass_of_methodNamed B.named
  have hlocks := B.notSynchronized
  subst hsz
  have hD := hD0.self (sz := s.heap.size)
  generalize hAe : va_A [(h0, .inr (0, [.long v0, .long v1, .long v2, .long v3, .long v4]))] s.heap.size = A at hD ⊢
  have hA : ∀ q : Nat, s.heap.size ≤ q → A q := fun q h => by rw [← hAe]; exact Or.inr h
  have hS : va_S A s.heap s.heap [] := va_S.rf
  have hP : va_P (dC, dI) vwCl [(h0, .inr (0, [.long v0, .long v1, .long v2, .long v3, .long v4]))] s.heap := hP
  have hl := lv_entry ([.ref h0]) (n := 3) (Nat.le_of_ble_eq_true rfl)
  rw [lg_entry_eq]
  generalize (lg_sl ([.ref h0]) ++ List.replicate (3 - (lg_sl ([.ref h0])).length) Slot.unset).toArray = ls at hl ⊢
  have hl : lv_has ls 3 [(0, .ref h0)] := hl
  unfold f_X0_isReduced at hr
  refine lv_aload_n hx hb dX0_isReduced_0 rfl (lv_at hl 0 rfl) ?_
  refine va_get (D := (dC, dI)) (ci := 0) (v := .long v3) (C := RX0) (T := TX0) (N := 5) hx hb hts in_X0_isReduced_X0 hown hK hP 0 rfl rfl 3 (by decide) (hts (.fieldLink RX0 25 "FormRing$Form" "discriminant" "J") (by decide +kernel)) (fun _ h9 => h9) rfl dX0_isReduced_1 ?_
  refine lv_lconst (v := 0) hx hb dX0_isReduced_4 (by decide) ?_
  refine lz_lge (tgt := 74) hx hb dX0_isReduced_5 dX0_isReduced_6 (by decide) (fun c_1 => ?_) (fun c_1 => ?_)
  · have hr := (if_neg c_1).symm.trans hr
    refine lv_ldc2 (v := 2) hx hb hown (hts (.constantLong RX0 44 (2)) (by decide +kernel)) dX0_isReduced_74 ?_
    refine lv_aload_n hx hb dX0_isReduced_77 rfl (lv_at hl 0 rfl) ?_
    refine va_get (D := (dC, dI)) (ci := 0) (v := .long v0) (C := RX0) (T := TX0) (N := 5) hx hb hts in_X0_isReduced_X0 hown hK hP 0 rfl rfl 0 (by decide) (hts (.fieldLink RX0 9 "FormRing$Form" "a" "J") (by decide +kernel)) (fun _ h9 => h9) rfl dX0_isReduced_78 ?_
    refine va_mabs_long hx hb (by rw [hml]; exact hl.1.symm) hown (hts (.methodLink RX0 35 Lib.MathLoose.abs_long.x) (by decide +kernel)) (hts (.static Lib.MathLoose.abs_long.x) (by decide +kernel)) (hts (.initialized "java/lang/Math") (by decide +kernel)) (hts (.code Lib.MathLoose.abs_long.x Lib.MathLoose.abs_long.code 2 (some .long)) (by decide +kernel)) (Nat.le_of_ble_eq_true rfl) (Nat.le_of_ble_eq_true rfl) (Nat.zero_le _) (Nat.zero_le _) dX0_isReduced_81 ?_
    refine lv_lmul hx hb dX0_isReduced_84 ?_
    refine lv_lstore_n (lv' := [(1, .long (2 * (if 0 < v0 then v0 else -v0))), (0, .ref h0)]) hx hb dX0_isReduced_85 rfl hl (by decide) rfl (fun ls hl => ?_)
    refine lv_aload_n hx hb dX0_isReduced_86 rfl (lv_at hl 1 rfl) ?_
    refine va_get (D := (dC, dI)) (ci := 0) (v := .long v1) (C := RX0) (T := TX0) (N := 5) hx hb hts in_X0_isReduced_X0 hown hK hP 0 rfl rfl 1 (by decide) (hts (.fieldLink RX0 15 "FormRing$Form" "b" "J") (by decide +kernel)) (fun _ h9 => h9) rfl dX0_isReduced_87 ?_
    refine lv_lconst (v := 0) hx hb dX0_isReduced_90 (by decide) ?_
    refine lz_lle (tgt := 139) hx hb dX0_isReduced_91 dX0_isReduced_92 (by decide) (fun c_2 => ?_) (fun c_2 => ?_)
    · have hr := (if_neg c_2).symm.trans hr
      refine lv_iconst (v := 0) hx hb dX0_isReduced_139 (by decide) ?_
      have ho := Option.some.inj hr
      subst ho
      exact W.zret (v := 0) hx hb hrt rfl (fun t ht hW => ⟨⟨0, (), rfl, ⟨rfl, rfl⟩, by rw [ht]; exact hP, va_K.moved hW.alike hK, hD⟩, hS.F ht⟩) hS.2.2 dX0_isReduced_140
    · have hr := (if_pos c_2).symm.trans hr
      refine lv_aload_n hx hb dX0_isReduced_95 rfl (lv_at hl 1 rfl) ?_
      refine va_get (D := (dC, dI)) (ci := 0) (v := .long v1) (C := RX0) (T := TX0) (N := 5) hx hb hts in_X0_isReduced_X0 hown hK hP 0 rfl rfl 1 (by decide) (hts (.fieldLink RX0 15 "FormRing$Form" "b" "J") (by decide +kernel)) (fun _ h9 => h9) rfl dX0_isReduced_96 ?_
      refine lv_aload_n hx hb dX0_isReduced_99 rfl (lv_at hl 1 rfl) ?_
      refine va_get (D := (dC, dI)) (ci := 0) (v := .long v4) (C := RX0) (T := TX0) (N := 5) hx hb hts in_X0_isReduced_X0 hown hK hP 0 rfl rfl 4 (by decide) (hts (.fieldLink RX0 32 "FormRing$Form" "root" "J") (by decide +kernel)) (fun _ h9 => h9) rfl dX0_isReduced_100 ?_
      refine lz_lgt (tgt := 139) hx hb dX0_isReduced_103 dX0_isReduced_104 (by decide) (fun c_3 => ?_) (fun c_3 => ?_)
      · have hr := (if_pos c_3).symm.trans hr
        refine lv_iconst (v := 0) hx hb dX0_isReduced_139 (by decide) ?_
        have ho := Option.some.inj hr
        subst ho
        exact W.zret (v := 0) hx hb hrt rfl (fun t ht hW => ⟨⟨0, (), rfl, ⟨rfl, rfl⟩, by rw [ht]; exact hP, va_K.moved hW.alike hK, hD⟩, hS.F ht⟩) hS.2.2 dX0_isReduced_140
      · have hr := (if_neg c_3).symm.trans hr
        refine lv_lload_n hx hb dX0_isReduced_107 rfl (lv_at hl 0 rfl) ?_
        refine lv_aload_n hx hb dX0_isReduced_108 rfl (lv_at hl 1 rfl) ?_
        refine va_get (D := (dC, dI)) (ci := 0) (v := .long v1) (C := RX0) (T := TX0) (N := 5) hx hb hts in_X0_isReduced_X0 hown hK hP 0 rfl rfl 1 (by decide) (hts (.fieldLink RX0 15 "FormRing$Form" "b" "J") (by decide +kernel)) (fun _ h9 => h9) rfl dX0_isReduced_109 ?_
        refine lv_ladd hx hb dX0_isReduced_112 ?_
        refine lv_aload_n hx hb dX0_isReduced_113 rfl (lv_at hl 1 rfl) ?_
        refine va_get (D := (dC, dI)) (ci := 0) (v := .long v4) (C := RX0) (T := TX0) (N := 5) hx hb hts in_X0_isReduced_X0 hown hK hP 0 rfl rfl 4 (by decide) (hts (.fieldLink RX0 32 "FormRing$Form" "root" "J") (by decide +kernel)) (fun _ h9 => h9) rfl dX0_isReduced_114 ?_
        refine lz_lle (tgt := 139) hx hb dX0_isReduced_117 dX0_isReduced_118 (by decide) (fun c_4 => ?_) (fun c_4 => ?_)
        · have hr := (if_neg c_4).symm.trans hr
          refine lv_iconst (v := 0) hx hb dX0_isReduced_139 (by decide) ?_
          have ho := Option.some.inj hr
          subst ho
          exact W.zret (v := 0) hx hb hrt rfl (fun t ht hW => ⟨⟨0, (), rfl, ⟨rfl, rfl⟩, by rw [ht]; exact hP, va_K.moved hW.alike hK, hD⟩, hS.F ht⟩) hS.2.2 dX0_isReduced_140
        · have hr := (if_pos c_4).symm.trans hr
          refine lv_lload_n hx hb dX0_isReduced_121 rfl (lv_at hl 0 rfl) ?_
          refine lv_aload_n hx hb dX0_isReduced_122 rfl (lv_at hl 1 rfl) ?_
          refine va_get (D := (dC, dI)) (ci := 0) (v := .long v1) (C := RX0) (T := TX0) (N := 5) hx hb hts in_X0_isReduced_X0 hown hK hP 0 rfl rfl 1 (by decide) (hts (.fieldLink RX0 15 "FormRing$Form" "b" "J") (by decide +kernel)) (fun _ h9 => h9) rfl dX0_isReduced_123 ?_
          refine lv_lsub hx hb dX0_isReduced_126 ?_
          refine lv_aload_n hx hb dX0_isReduced_127 rfl (lv_at hl 1 rfl) ?_
          refine va_get (D := (dC, dI)) (ci := 0) (v := .long v4) (C := RX0) (T := TX0) (N := 5) hx hb hts in_X0_isReduced_X0 hown hK hP 0 rfl rfl 4 (by decide) (hts (.fieldLink RX0 32 "FormRing$Form" "root" "J") (by decide +kernel)) (fun _ h9 => h9) rfl dX0_isReduced_128 ?_
          refine lz_lgt (tgt := 139) hx hb dX0_isReduced_131 dX0_isReduced_132 (by decide) (fun c_5 => ?_) (fun c_5 => ?_)
          · have hr := (if_pos c_5).symm.trans hr
            refine lv_iconst (v := 0) hx hb dX0_isReduced_139 (by decide) ?_
            have ho := Option.some.inj hr
            subst ho
            exact W.zret (v := 0) hx hb hrt rfl (fun t ht hW => ⟨⟨0, (), rfl, ⟨rfl, rfl⟩, by rw [ht]; exact hP, va_K.moved hW.alike hK, hD⟩, hS.F ht⟩) hS.2.2 dX0_isReduced_140
          · have hr := (if_neg c_5).symm.trans hr
            refine lv_iconst (v := 1) hx hb dX0_isReduced_135 (by decide) ?_
            refine lv_goto (tgt := 140) hx hb dX0_isReduced_136 (by decide) ?_
            have ho := Option.some.inj hr
            subst ho
            exact W.zret (v := 1) hx hb hrt rfl (fun t ht hW => ⟨⟨1, (), rfl, ⟨rfl, rfl⟩, by rw [ht]; exact hP, va_K.moved hW.alike hK, hD⟩, hS.F ht⟩) hS.2.2 dX0_isReduced_140
  · have hr := (if_pos c_1).symm.trans hr
    refine lv_aload_n hx hb dX0_isReduced_9 rfl (lv_at hl 0 rfl) ?_
    refine va_get (D := (dC, dI)) (ci := 0) (v := .long v1) (C := RX0) (T := TX0) (N := 5) hx hb hts in_X0_isReduced_X0 hown hK hP 0 rfl rfl 1 (by decide) (hts (.fieldLink RX0 15 "FormRing$Form" "b" "J") (by decide +kernel)) (fun _ h9 => h9) rfl dX0_isReduced_10 ?_
    refine va_mabs_long hx hb (by rw [hml]; exact hl.1.symm) hown (hts (.methodLink RX0 35 Lib.MathLoose.abs_long.x) (by decide +kernel)) (hts (.static Lib.MathLoose.abs_long.x) (by decide +kernel)) (hts (.initialized "java/lang/Math") (by decide +kernel)) (hts (.code Lib.MathLoose.abs_long.x Lib.MathLoose.abs_long.code 2 (some .long)) (by decide +kernel)) (Nat.le_of_ble_eq_true rfl) (Nat.le_of_ble_eq_true rfl) (Nat.zero_le _) (Nat.zero_le _) dX0_isReduced_13 ?_
    refine lv_lstore_n (lv' := [(1, .long (if 0 < v1 then v1 else -v1)), (0, .ref h0)]) hx hb dX0_isReduced_16 rfl hl (by decide) rfl (fun ls hl => ?_)
    refine lv_lload_n hx hb dX0_isReduced_17 rfl (lv_at hl 0 rfl) ?_
    refine lv_aload_n hx hb dX0_isReduced_18 rfl (lv_at hl 1 rfl) ?_
    refine va_get (D := (dC, dI)) (ci := 0) (v := .long v0) (C := RX0) (T := TX0) (N := 5) hx hb hts in_X0_isReduced_X0 hown hK hP 0 rfl rfl 0 (by decide) (hts (.fieldLink RX0 9 "FormRing$Form" "a" "J") (by decide +kernel)) (fun _ h9 => h9) rfl dX0_isReduced_19 ?_
    refine lz_lgt (tgt := 72) hx hb dX0_isReduced_22 dX0_isReduced_23 (by decide) (fun c_6 => ?_) (fun c_6 => ?_)
    · have hr := (if_pos c_6).symm.trans hr
      refine lv_iconst (v := 0) hx hb dX0_isReduced_72 (by decide) ?_
      have ho := Option.some.inj hr
      subst ho
      exact W.zret (v := 0) hx hb hrt rfl (fun t ht hW => ⟨⟨0, (), rfl, ⟨rfl, rfl⟩, by rw [ht]; exact hP, va_K.moved hW.alike hK, hD⟩, hS.F ht⟩) hS.2.2 dX0_isReduced_73
    · have hr := (if_neg c_6).symm.trans hr
      refine lv_aload_n hx hb dX0_isReduced_26 rfl (lv_at hl 1 rfl) ?_
      refine va_get (D := (dC, dI)) (ci := 0) (v := .long v0) (C := RX0) (T := TX0) (N := 5) hx hb hts in_X0_isReduced_X0 hown hK hP 0 rfl rfl 0 (by decide) (hts (.fieldLink RX0 9 "FormRing$Form" "a" "J") (by decide +kernel)) (fun _ h9 => h9) rfl dX0_isReduced_27 ?_
      refine lv_aload_n hx hb dX0_isReduced_30 rfl (lv_at hl 1 rfl) ?_
      refine va_get (D := (dC, dI)) (ci := 0) (v := .long v2) (C := RX0) (T := TX0) (N := 5) hx hb hts in_X0_isReduced_X0 hown hK hP 0 rfl rfl 2 (by decide) (hts (.fieldLink RX0 18 "FormRing$Form" "c" "J") (by decide +kernel)) (fun _ h9 => h9) rfl dX0_isReduced_31 ?_
      refine lz_lgt (tgt := 72) hx hb dX0_isReduced_34 dX0_isReduced_35 (by decide) (fun c_7 => ?_) (fun c_7 => ?_)
      · have hr := (if_pos c_7).symm.trans hr
        refine lv_iconst (v := 0) hx hb dX0_isReduced_72 (by decide) ?_
        have ho := Option.some.inj hr
        subst ho
        exact W.zret (v := 0) hx hb hrt rfl (fun t ht hW => ⟨⟨0, (), rfl, ⟨rfl, rfl⟩, by rw [ht]; exact hP, va_K.moved hW.alike hK, hD⟩, hS.F ht⟩) hS.2.2 dX0_isReduced_73
      · have hr := (if_neg c_7).symm.trans hr
        refine lv_aload_n hx hb dX0_isReduced_38 rfl (lv_at hl 1 rfl) ?_
        refine va_get (D := (dC, dI)) (ci := 0) (v := .long v1) (C := RX0) (T := TX0) (N := 5) hx hb hts in_X0_isReduced_X0 hown hK hP 0 rfl rfl 1 (by decide) (hts (.fieldLink RX0 15 "FormRing$Form" "b" "J") (by decide +kernel)) (fun _ h9 => h9) rfl dX0_isReduced_39 ?_
        refine lv_lconst (v := 0) hx hb dX0_isReduced_42 (by decide) ?_
        refine lz_lge (tgt := 68) hx hb dX0_isReduced_43 dX0_isReduced_44 (by decide) (fun c_8 => ?_) (fun c_8 => ?_)
        · have hr := (if_neg c_8).symm.trans hr
          refine lv_iconst (v := 1) hx hb dX0_isReduced_68 (by decide) ?_
          refine lv_goto (tgt := 73) hx hb dX0_isReduced_69 (by decide) ?_
          have ho := Option.some.inj hr
          subst ho
          exact W.zret (v := 1) hx hb hrt rfl (fun t ht hW => ⟨⟨1, (), rfl, ⟨rfl, rfl⟩, by rw [ht]; exact hP, va_K.moved hW.alike hK, hD⟩, hS.F ht⟩) hS.2.2 dX0_isReduced_73
        · have hr := (if_pos c_8).symm.trans hr
          refine lv_lload_n hx hb dX0_isReduced_47 rfl (lv_at hl 0 rfl) ?_
          refine lv_aload_n hx hb dX0_isReduced_48 rfl (lv_at hl 1 rfl) ?_
          refine va_get (D := (dC, dI)) (ci := 0) (v := .long v0) (C := RX0) (T := TX0) (N := 5) hx hb hts in_X0_isReduced_X0 hown hK hP 0 rfl rfl 0 (by decide) (hts (.fieldLink RX0 9 "FormRing$Form" "a" "J") (by decide +kernel)) (fun _ h9 => h9) rfl dX0_isReduced_49 ?_
          refine lz_leq (tgt := 72) hx hb dX0_isReduced_52 dX0_isReduced_53 (by decide) (fun c_9 => ?_) (fun c_9 => ?_)
          · have hr := (if_pos c_9).symm.trans hr
            refine lv_iconst (v := 0) hx hb dX0_isReduced_72 (by decide) ?_
            have ho := Option.some.inj hr
            subst ho
            exact W.zret (v := 0) hx hb hrt rfl (fun t ht hW => ⟨⟨0, (), rfl, ⟨rfl, rfl⟩, by rw [ht]; exact hP, va_K.moved hW.alike hK, hD⟩, hS.F ht⟩) hS.2.2 dX0_isReduced_73
          · have hr := (if_neg c_9).symm.trans hr
            refine lv_aload_n hx hb dX0_isReduced_56 rfl (lv_at hl 1 rfl) ?_
            refine va_get (D := (dC, dI)) (ci := 0) (v := .long v0) (C := RX0) (T := TX0) (N := 5) hx hb hts in_X0_isReduced_X0 hown hK hP 0 rfl rfl 0 (by decide) (hts (.fieldLink RX0 9 "FormRing$Form" "a" "J") (by decide +kernel)) (fun _ h9 => h9) rfl dX0_isReduced_57 ?_
            refine lv_aload_n hx hb dX0_isReduced_60 rfl (lv_at hl 1 rfl) ?_
            refine va_get (D := (dC, dI)) (ci := 0) (v := .long v2) (C := RX0) (T := TX0) (N := 5) hx hb hts in_X0_isReduced_X0 hown hK hP 0 rfl rfl 2 (by decide) (hts (.fieldLink RX0 18 "FormRing$Form" "c" "J") (by decide +kernel)) (fun _ h9 => h9) rfl dX0_isReduced_61 ?_
            refine lz_leq (tgt := 72) hx hb dX0_isReduced_64 dX0_isReduced_65 (by decide) (fun c_10 => ?_) (fun c_10 => ?_)
            · have hr := (if_pos c_10).symm.trans hr
              refine lv_iconst (v := 0) hx hb dX0_isReduced_72 (by decide) ?_
              have ho := Option.some.inj hr
              subst ho
              exact W.zret (v := 0) hx hb hrt rfl (fun t ht hW => ⟨⟨0, (), rfl, ⟨rfl, rfl⟩, by rw [ht]; exact hP, va_K.moved hW.alike hK, hD⟩, hS.F ht⟩) hS.2.2 dX0_isReduced_73
            · have hr := (if_neg c_10).symm.trans hr
              refine lv_iconst (v := 1) hx hb dX0_isReduced_68 (by decide) ?_
              refine lv_goto (tgt := 73) hx hb dX0_isReduced_69 (by decide) ?_
              have ho := Option.some.inj hr
              subst ho
              exact W.zret (v := 1) hx hb hrt rfl (fun t ht hW => ⟨⟨1, (), rfl, ⟨rfl, rfl⟩, by rw [ht]; exact hP, va_K.moved hW.alike hK, hD⟩, hS.F ht⟩) hS.2.2 dX0_isReduced_73

theorem in_X0_nextMiddle_X0 : ∀ w ∈ u_ws RX0 TX0 5, w ∈ wsX0_nextMiddle := by decide +kernel
def f_X0_nextMiddle (n : Nat) (v1 : Int64) (v3 : Int64) (v4 : Int64) (a1 : Int64) : Option (Int64) := if (2 * a1) < 1 then (some 0) else (if v3 < 0 then ((f_J9_floorMod_f86c9 n (-v1) (2 * a1)).bind (fun r_4 => if a1 < r_4 then (some (r_4 - (2 * a1))) else (some r_4))) else (if v4 < a1 then ((f_J9_floorMod_f86c9 n (-v1) (2 * a1)).bind (fun r_12 => if a1 < r_12 then (some (r_12 - (2 * a1))) else (some r_12))) else ((f_J9_floorMod_f86c9 n (v4 + v1) (2 * a1)).bind (fun r_9 => some (v4 - r_9)))))
set_option maxHeartbeats 4000000 in
set_option maxRecDepth 100000 in
theorem c_X0_nextMiddle (l : Launch) (dC : Nat → ClassId) (dI : Nat → Nat → Nat) (sz : Nat) (h0 : Nat) (v0 : Int64) (v1 : Int64) (v2 : Int64) (v3 : Int64) (v4 : Int64) (a1 : Int64)  (n : Nat) (out : Int64) (hr : f_X0_nextMiddle n v1 v3 v4 a1 = some out) : Met l yX0_nextMiddle wsX0_nextMiddle ({ frames := 1, cells := 0, slots := 0, locals := 25 }) (va_Pc [.ref h0, .long a1] (zP dC dI [] [(h0, .inr (0, [.long v0, .long v1, .long v2, .long v3, .long v4]))] sz)) (va_Ql (fun r (_ : Unit) => r = out) (fun (_ : Unit) t => zB dC dI [] (va_A [(h0, .inr (0, [.long v0, .long v1, .long v2, .long v3, .long v4]))] sz) [(h0, .inr (0, [.long v0, .long v1, .long v2, .long v3, .long v4]))] t) (va_A [(h0, .inr (0, [.long v0, .long v1, .long v2, .long v3, .long v4]))] sz)) 0 0 (va_A [(h0, .inr (0, [.long v0, .long v1, .long v2, .long v3, .long v4]))] sz) := by
  refine Met.ofW (cc := cX0_nextMiddle) (maxL := 7) (ret := (some .long)) (by decide +kernel) rfl ?_
  intro p e s m args below meth c s₁ B hml hv
  obtain ⟨rfl, hsz, hP, hK, hD0⟩ := hv
  have hx := B.exec
  have hb := B.bytes
  have hrt := B.returns
  have hts := atoms_spec (ws := wsX0_nextMiddle) B.pre
  have hown : s.vm.findClass RX0 = some m.cls := findClass_of_methodNamed B.named
  have hlocks := B.notSynchronized
  subst hsz
  have hD := hD0.self (sz := s.heap.size)
  generalize hAe : va_A [(h0, .inr (0, [.long v0, .long v1, .long v2, .long v3, .long v4]))] s.heap.size = A at hD ⊢
  have hA : ∀ q : Nat, s.heap.size ≤ q → A q := fun q h => by rw [← hAe]; exact Or.inr h
  have hS : va_S A s.heap s.heap [] := va_S.rf
  have hP : va_P (dC, dI) vwCl [(h0, .inr (0, [.long v0, .long v1, .long v2, .long v3, .long v4]))] s.heap := hP
  have hl := lv_entry ([.ref h0, .long a1]) (n := 7) (Nat.le_of_ble_eq_true rfl)
  rw [lg_entry_eq]
  generalize (lg_sl ([.ref h0, .long a1]) ++ List.replicate (7 - (lg_sl ([.ref h0, .long a1])).length) Slot.unset).toArray = ls at hl ⊢
  have hl : lv_has ls 7 [(0, .ref h0), (1, .long a1)] := hl
  unfold f_X0_nextMiddle at hr
  refine lv_ldc2 (v := 2) hx hb hown (hts (.constantLong RX0 44 (2)) (by decide +kernel)) dX0_nextMiddle_0 ?_
  refine lv_lload_n hx hb dX0_nextMiddle_3 rfl (lv_at hl 1 rfl) ?_
  refine lv_lmul hx hb dX0_nextMiddle_4 ?_
  refine lv_lstore_n (lv' := [(3, .long (2 * a1)), (0, .ref h0), (1, .long a1)]) hx hb dX0_nextMiddle_5 rfl hl (by decide) rfl (fun ls hl => ?_)
  refine lv_lload_n hx hb dX0_nextMiddle_6 rfl (lv_at hl 0 rfl) ?_
  refine lv_lconst (v := 1) hx hb dX0_nextMiddle_7 (by decide) ?_
  refine lz_lge (tgt := 14) hx hb dX0_nextMiddle_8 dX0_nextMiddle_9 (by decide) (fun c_1 => ?_) (fun c_1 => ?_)
  · have hr := (if_neg c_1).symm.trans hr
    refine lv_aload_n hx hb dX0_nextMiddle_14 rfl (lv_at hl 1 rfl) ?_
    refine va_get (D := (dC, dI)) (ci := 0) (v := .long v3) (C := RX0) (T := TX0) (N := 5) hx hb hts in_X0_nextMiddle_X0 hown hK hP 0 rfl rfl 3 (by decide) (hts (.fieldLink RX0 25 "FormRing$Form" "discriminant" "J") (by decide +kernel)) (fun _ h9 => h9) rfl dX0_nextMiddle_15 ?_
    refine lv_lconst (v := 0) hx hb dX0_nextMiddle_18 (by decide) ?_
    refine lz_llt (tgt := 32) hx hb dX0_nextMiddle_19 dX0_nextMiddle_20 (by decide) (fun c_2 => ?_) (fun c_2 => ?_)
    · have hr := (if_pos c_2).symm.trans hr
      refine lv_aload_n hx hb dX0_nextMiddle_32 rfl (lv_at hl 1 rfl) ?_
      refine va_get (D := (dC, dI)) (ci := 0) (v := .long v1) (C := RX0) (T := TX0) (N := 5) hx hb hts in_X0_nextMiddle_X0 hown hK hP 0 rfl rfl 1 (by decide) (hts (.fieldLink RX0 15 "FormRing$Form" "b" "J") (by decide +kernel)) (fun _ h9 => h9) rfl dX0_nextMiddle_33 ?_
      refine lv_lneg hx hb dX0_nextMiddle_36 ?_
      refine lv_lload_n hx hb dX0_nextMiddle_37 rfl (lv_at hl 0 rfl) ?_
      cases e_3 : f_J9_floorMod_f86c9 n (-v1) (2 * a1) with
      | none => rw [e_3, Option.bind_none] at hr; cases hr
      | some r_4 =>
        rw [e_3, Option.bind_some] at hr
        have hPc := hP.sub (ws' := []) [] rfl
        have hDc := hD.sub (ws' := []) [] (by decide) rfl
        have hKc := hK.sub (tys' := []) [] rfl
        have hFc := va_free (wc := []) hD hS hA [] rfl
        refine va_calll (va_runS (As := [.long (-v1), .long (2 * a1)]) (rest := []) ⟨hx, hb, hml, hown, hts⟩ (c_J9_floorMod_f86c9 l dC dI s.heap.size  (-v1) (2 * a1) n _ e_3) (va_cwS 2 hts gX0_nextMiddle_J9_floorMod_f86c9 rfl rfl rfl (by decide +kernel) ⟨Nat.le_of_ble_eq_true rfl, Nat.le_of_ble_eq_true rfl⟩) ⟨fun a U g mk q => by obtain ⟨q0, q1, qP, qK, qD⟩ := q; exact ⟨q0, q1, qP, va_K.moved (u := U) (U := U.calling g mk a) (Vm.Alike.refl U.vm) qK, qD⟩, fun U hU hW => ⟨rfl, by rw [hU], by rw [hU]; exact hPc, va_K.moved hW.alike hKc, hDc.weaken (fun _ _ _ _ => trivial)⟩⟩ rfl rfl hl.1 rfl (lv_room (Nat.le_of_ble_eq_true rfl)) dX0_nextMiddle_38 ⟨Nat.zero_le _, Nat.zero_le _⟩) hS (fun q _ h => hFc q h) hFc (fun x_5 _ t H1 locs ht hvm hw hB hz1 hk1 hS => ?_)
        have hw := hw.symm
        subst hw
        obtain ⟨hP1, hK1, hD1⟩ := hB
        rw [ht] at hP1
        obtain ⟨hP, hD⟩ := va_join (wr := [(h0, .inr (0, [.long v0, .long v1, .long v2, .long v3, .long v4]))]) (w1 := []) hP hD [] [0] rfl rfl (by decide) (by decide) hk1 hFc hP1 hD1
        generalize H1 = H at hP hS ⊢
        have hP : va_P (dC, dI) vwCl [(h0, .inr (0, [.long v0, .long v1, .long v2, .long v3, .long v4]))] H := hP
        have hD : va_D A [(h0, .inr (0, [.long v0, .long v1, .long v2, .long v3, .long v4]))] := hD
        refine W.widen (k := 0) (n := 0) (Nat.le_refl _) (Nat.le_refl _) ?_
        refine lv_lstore (lv' := [(5, .long r_4), (3, .long (2 * a1)), (0, .ref h0), (1, .long a1)]) hx hb dX0_nextMiddle_41 hl (by decide) rfl (fun ls hl => ?_)
        refine lv_lload hx hb dX0_nextMiddle_43 (lv_at hl 0 rfl) ?_
        refine lv_lload_n hx hb dX0_nextMiddle_45 rfl (lv_at hl 3 rfl) ?_
        refine lz_lle (tgt := 57) hx hb dX0_nextMiddle_46 dX0_nextMiddle_47 (by decide) (fun c_6 => ?_) (fun c_6 => ?_)
        · have hr := (if_neg c_6).symm.trans hr
          refine lv_lload hx hb dX0_nextMiddle_57 (lv_at hl 0 rfl) ?_
          have ho := Option.some.inj hr
          subst ho
          exact W.lret (v := r_4) hx hb hrt (fun t ht hW => ⟨⟨r_4, (), rfl, rfl, by rw [ht]; exact hP, va_K.moved hW.alike hK, hD⟩, hS.F ht⟩) hS.2.2 dX0_nextMiddle_59
        · have hr := (if_pos c_6).symm.trans hr
          refine lv_lload hx hb dX0_nextMiddle_50 (lv_at hl 0 rfl) ?_
          refine lv_lload_n hx hb dX0_nextMiddle_52 rfl (lv_at hl 1 rfl) ?_
          refine lv_lsub hx hb dX0_nextMiddle_53 ?_
          refine lv_goto (tgt := 59) hx hb dX0_nextMiddle_54 (by decide) ?_
          have ho := Option.some.inj hr
          subst ho
          exact W.lret (v := r_4 - (2 * a1)) hx hb hrt (fun t ht hW => ⟨⟨r_4 - (2 * a1), (), rfl, rfl, by rw [ht]; exact hP, va_K.moved hW.alike hK, hD⟩, hS.F ht⟩) hS.2.2 dX0_nextMiddle_59
    · have hr := (if_neg c_2).symm.trans hr
      refine lv_lload_n hx hb dX0_nextMiddle_23 rfl (lv_at hl 2 rfl) ?_
      refine lv_aload_n hx hb dX0_nextMiddle_24 rfl (lv_at hl 1 rfl) ?_
      refine va_get (D := (dC, dI)) (ci := 0) (v := .long v4) (C := RX0) (T := TX0) (N := 5) hx hb hts in_X0_nextMiddle_X0 hown hK hP 0 rfl rfl 4 (by decide) (hts (.fieldLink RX0 32 "FormRing$Form" "root" "J") (by decide +kernel)) (fun _ h9 => h9) rfl dX0_nextMiddle_25 ?_
      refine lz_lle (tgt := 60) hx hb dX0_nextMiddle_28 dX0_nextMiddle_29 (by decide) (fun c_7 => ?_) (fun c_7 => ?_)
      · have hr := (if_neg c_7).symm.trans hr
        refine lv_aload_n hx hb dX0_nextMiddle_60 rfl (lv_at hl 1 rfl) ?_
        refine va_get (D := (dC, dI)) (ci := 0) (v := .long v4) (C := RX0) (T := TX0) (N := 5) hx hb hts in_X0_nextMiddle_X0 hown hK hP 0 rfl rfl 4 (by decide) (hts (.fieldLink RX0 32 "FormRing$Form" "root" "J") (by decide +kernel)) (fun _ h9 => h9) rfl dX0_nextMiddle_61 ?_
        refine lv_aload_n hx hb dX0_nextMiddle_64 rfl (lv_at hl 1 rfl) ?_
        refine va_get (D := (dC, dI)) (ci := 0) (v := .long v4) (C := RX0) (T := TX0) (N := 5) hx hb hts in_X0_nextMiddle_X0 hown hK hP 0 rfl rfl 4 (by decide) (hts (.fieldLink RX0 32 "FormRing$Form" "root" "J") (by decide +kernel)) (fun _ h9 => h9) rfl dX0_nextMiddle_65 ?_
        refine lv_aload_n hx hb dX0_nextMiddle_68 rfl (lv_at hl 1 rfl) ?_
        refine va_get (D := (dC, dI)) (ci := 0) (v := .long v1) (C := RX0) (T := TX0) (N := 5) hx hb hts in_X0_nextMiddle_X0 hown hK hP 0 rfl rfl 1 (by decide) (hts (.fieldLink RX0 15 "FormRing$Form" "b" "J") (by decide +kernel)) (fun _ h9 => h9) rfl dX0_nextMiddle_69 ?_
        refine lv_ladd hx hb dX0_nextMiddle_72 ?_
        refine lv_lload_n hx hb dX0_nextMiddle_73 rfl (lv_at hl 0 rfl) ?_
        cases e_8 : f_J9_floorMod_f86c9 n (v4 + v1) (2 * a1) with
        | none => rw [e_8, Option.bind_none] at hr; cases hr
        | some r_9 =>
          rw [e_8, Option.bind_some] at hr
          have hPc := hP.sub (ws' := []) [] rfl
          have hDc := hD.sub (ws' := []) [] (by decide) rfl
          have hKc := hK.sub (tys' := []) [] rfl
          have hFc := va_free (wc := []) hD hS hA [] rfl
          refine va_calll (va_runS (As := [.long (v4 + v1), .long (2 * a1)]) (rest := [.long v4]) ⟨hx, hb, hml, hown, hts⟩ (c_J9_floorMod_f86c9 l dC dI s.heap.size  (v4 + v1) (2 * a1) n _ e_8) (va_cwS 2 hts gX0_nextMiddle_J9_floorMod_f86c9 rfl rfl rfl (by decide +kernel) ⟨Nat.le_of_ble_eq_true rfl, Nat.le_of_ble_eq_true rfl⟩) ⟨fun a U g mk q => by obtain ⟨q0, q1, qP, qK, qD⟩ := q; exact ⟨q0, q1, qP, va_K.moved (u := U) (U := U.calling g mk a) (Vm.Alike.refl U.vm) qK, qD⟩, fun U hU hW => ⟨rfl, by rw [hU], by rw [hU]; exact hPc, va_K.moved hW.alike hKc, hDc.weaken (fun _ _ _ _ => trivial)⟩⟩ rfl rfl hl.1 rfl (lv_room (Nat.le_of_ble_eq_true rfl)) dX0_nextMiddle_74 ⟨Nat.zero_le _, Nat.zero_le _⟩) hS (fun q _ h => hFc q h) hFc (fun x_10 _ t H1 locs ht hvm hw hB hz1 hk1 hS => ?_)
          have hw := hw.symm
          subst hw
          obtain ⟨hP1, hK1, hD1⟩ := hB
          rw [ht] at hP1
          obtain ⟨hP, hD⟩ := va_join (wr := [(h0, .inr (0, [.long v0, .long v1, .long v2, .long v3, .long v4]))]) (w1 := []) hP hD [] [0] rfl rfl (by decide) (by decide) hk1 hFc hP1 hD1
          generalize H1 = H at hP hS ⊢
          have hP : va_P (dC, dI) vwCl [(h0, .inr (0, [.long v0, .long v1, .long v2, .long v3, .long v4]))] H := hP
          have hD : va_D A [(h0, .inr (0, [.long v0, .long v1, .long v2, .long v3, .long v4]))] := hD
          refine W.widen (k := 0) (n := 0) (Nat.le_refl _) (Nat.le_refl _) ?_
          refine lv_lsub hx hb dX0_nextMiddle_77 ?_
          have ho := Option.some.inj hr
          subst ho
          exact W.lret (v := v4 - r_9) hx hb hrt (fun t ht hW => ⟨⟨v4 - r_9, (), rfl, rfl, by rw [ht]; exact hP, va_K.moved hW.alike hK, hD⟩, hS.F ht⟩) hS.2.2 dX0_nextMiddle_78
      · have hr := (if_pos c_7).symm.trans hr
        refine lv_aload_n hx hb dX0_nextMiddle_32 rfl (lv_at hl 1 rfl) ?_
        refine va_get (D := (dC, dI)) (ci := 0) (v := .long v1) (C := RX0) (T := TX0) (N := 5) hx hb hts in_X0_nextMiddle_X0 hown hK hP 0 rfl rfl 1 (by decide) (hts (.fieldLink RX0 15 "FormRing$Form" "b" "J") (by decide +kernel)) (fun _ h9 => h9) rfl dX0_nextMiddle_33 ?_
        refine lv_lneg hx hb dX0_nextMiddle_36 ?_
        refine lv_lload_n hx hb dX0_nextMiddle_37 rfl (lv_at hl 0 rfl) ?_
        cases e_11 : f_J9_floorMod_f86c9 n (-v1) (2 * a1) with
        | none => rw [e_11, Option.bind_none] at hr; cases hr
        | some r_12 =>
          rw [e_11, Option.bind_some] at hr
          have hPc := hP.sub (ws' := []) [] rfl
          have hDc := hD.sub (ws' := []) [] (by decide) rfl
          have hKc := hK.sub (tys' := []) [] rfl
          have hFc := va_free (wc := []) hD hS hA [] rfl
          refine va_calll (va_runS (As := [.long (-v1), .long (2 * a1)]) (rest := []) ⟨hx, hb, hml, hown, hts⟩ (c_J9_floorMod_f86c9 l dC dI s.heap.size  (-v1) (2 * a1) n _ e_11) (va_cwS 2 hts gX0_nextMiddle_J9_floorMod_f86c9 rfl rfl rfl (by decide +kernel) ⟨Nat.le_of_ble_eq_true rfl, Nat.le_of_ble_eq_true rfl⟩) ⟨fun a U g mk q => by obtain ⟨q0, q1, qP, qK, qD⟩ := q; exact ⟨q0, q1, qP, va_K.moved (u := U) (U := U.calling g mk a) (Vm.Alike.refl U.vm) qK, qD⟩, fun U hU hW => ⟨rfl, by rw [hU], by rw [hU]; exact hPc, va_K.moved hW.alike hKc, hDc.weaken (fun _ _ _ _ => trivial)⟩⟩ rfl rfl hl.1 rfl (lv_room (Nat.le_of_ble_eq_true rfl)) dX0_nextMiddle_38 ⟨Nat.zero_le _, Nat.zero_le _⟩) hS (fun q _ h => hFc q h) hFc (fun x_13 _ t H1 locs ht hvm hw hB hz1 hk1 hS => ?_)
          have hw := hw.symm
          subst hw
          obtain ⟨hP1, hK1, hD1⟩ := hB
          rw [ht] at hP1
          obtain ⟨hP, hD⟩ := va_join (wr := [(h0, .inr (0, [.long v0, .long v1, .long v2, .long v3, .long v4]))]) (w1 := []) hP hD [] [0] rfl rfl (by decide) (by decide) hk1 hFc hP1 hD1
          generalize H1 = H at hP hS ⊢
          have hP : va_P (dC, dI) vwCl [(h0, .inr (0, [.long v0, .long v1, .long v2, .long v3, .long v4]))] H := hP
          have hD : va_D A [(h0, .inr (0, [.long v0, .long v1, .long v2, .long v3, .long v4]))] := hD
          refine W.widen (k := 0) (n := 0) (Nat.le_refl _) (Nat.le_refl _) ?_
          refine lv_lstore (lv' := [(5, .long r_12), (3, .long (2 * a1)), (0, .ref h0), (1, .long a1)]) hx hb dX0_nextMiddle_41 hl (by decide) rfl (fun ls hl => ?_)
          refine lv_lload hx hb dX0_nextMiddle_43 (lv_at hl 0 rfl) ?_
          refine lv_lload_n hx hb dX0_nextMiddle_45 rfl (lv_at hl 3 rfl) ?_
          refine lz_lle (tgt := 57) hx hb dX0_nextMiddle_46 dX0_nextMiddle_47 (by decide) (fun c_14 => ?_) (fun c_14 => ?_)
          · have hr := (if_neg c_14).symm.trans hr
            refine lv_lload hx hb dX0_nextMiddle_57 (lv_at hl 0 rfl) ?_
            have ho := Option.some.inj hr
            subst ho
            exact W.lret (v := r_12) hx hb hrt (fun t ht hW => ⟨⟨r_12, (), rfl, rfl, by rw [ht]; exact hP, va_K.moved hW.alike hK, hD⟩, hS.F ht⟩) hS.2.2 dX0_nextMiddle_59
          · have hr := (if_pos c_14).symm.trans hr
            refine lv_lload hx hb dX0_nextMiddle_50 (lv_at hl 0 rfl) ?_
            refine lv_lload_n hx hb dX0_nextMiddle_52 rfl (lv_at hl 1 rfl) ?_
            refine lv_lsub hx hb dX0_nextMiddle_53 ?_
            refine lv_goto (tgt := 59) hx hb dX0_nextMiddle_54 (by decide) ?_
            have ho := Option.some.inj hr
            subst ho
            exact W.lret (v := r_12 - (2 * a1)) hx hb hrt (fun t ht hW => ⟨⟨r_12 - (2 * a1), (), rfl, rfl, by rw [ht]; exact hP, va_K.moved hW.alike hK, hD⟩, hS.F ht⟩) hS.2.2 dX0_nextMiddle_59
  · have hr := (if_pos c_1).symm.trans hr
    refine lv_lconst (v := 0) hx hb dX0_nextMiddle_12 (by decide) ?_
    have ho := Option.some.inj hr
    subst ho
    exact W.lret (v := 0) hx hb hrt (fun t ht hW => ⟨⟨0, (), rfl, rfl, by rw [ht]; exact hP, va_K.moved hW.alike hK, hD⟩, hS.F ht⟩) hS.2.2 dX0_nextMiddle_13

theorem in_X0_goOn_X0 : ∀ w ∈ u_ws RX0 TX0 5, w ∈ wsX0_goOn := by decide +kernel
def f_X0_goOn (n : Nat) (v0 : Int64) (v1 : Int64) (v2 : Int64) (v3 : Int64) (v4 : Int64) : Option (Int64 × Int64 × Int64 × Int64) := if v2 = 0 then (some (0, v0, v1, v2)) else ((f_X0_nextMiddle n v1 v3 v4 (if 0 < v2 then v2 else -v2)).bind (fun r_3 => if (2 * v2) = 0 then none else (if (4 * v2) = 0 then none else (some ((v1 + r_3) / (2 * v2), v2, r_3, ((r_3 * r_3) - v3) / (4 * v2))))))
set_option maxHeartbeats 4000000 in
set_option maxRecDepth 100000 in
theorem c_X0_goOn (l : Launch) (dC : Nat → ClassId) (dI : Nat → Nat → Nat) (sz : Nat) (h0 : Nat) (v0 : Int64) (v1 : Int64) (v2 : Int64) (v3 : Int64) (v4 : Int64)   (n : Nat) (out : Int64 × Int64 × Int64 × Int64) (hr : f_X0_goOn n v0 v1 v2 v3 v4 = some out) : Met l yX0_goOn wsX0_goOn ({ frames := 2, cells := 0, slots := 0, locals := 51 }) (va_Pc [.ref h0] (zP dC dI [] [(h0, .inr (0, [.long v0, .long v1, .long v2, .long v3, .long v4]))] sz)) (va_Ql (fun r (_ : Unit) => r = out.1) (fun (_ : Unit) t => zB dC dI [] (va_A [(h0, .inr (0, [.long v0, .long v1, .long v2, .long v3, .long v4]))] sz) [(h0, .inr (0, [.long out.2.1, .long out.2.2.1, .long out.2.2.2, .long v3, .long v4]))] t) (va_A [(h0, .inr (0, [.long v0, .long v1, .long v2, .long v3, .long v4]))] sz)) 0 0 (va_A [(h0, .inr (0, [.long v0, .long v1, .long v2, .long v3, .long v4]))] sz) := by
  refine Met.ofW (cc := cX0_goOn) (maxL := 7) (ret := (some .long)) (by decide +kernel) rfl ?_
  intro p e s m args below meth c s₁ B hml hv
  obtain ⟨rfl, hsz, hP, hK, hD0⟩ := hv
  have hx := B.exec
  have hb := B.bytes
  have hrt := B.returns
  have hts := atoms_spec (ws := wsX0_goOn) B.pre
  have hown : s.vm.findClass RX0 = some m.cls := findClass_of_methodNamed B.named
  have hlocks := B.notSynchronized
  subst hsz
  have hD := hD0.self (sz := s.heap.size)
  generalize hAe : va_A [(h0, .inr (0, [.long v0, .long v1, .long v2, .long v3, .long v4]))] s.heap.size = A at hD ⊢
  have hA : ∀ q : Nat, s.heap.size ≤ q → A q := fun q h => by rw [← hAe]; exact Or.inr h
  have hS : va_S A s.heap s.heap [] := va_S.rf
  have hP : va_P (dC, dI) vwCl [(h0, .inr (0, [.long v0, .long v1, .long v2, .long v3, .long v4]))] s.heap := hP
  have hl := lv_entry ([.ref h0]) (n := 7) (Nat.le_of_ble_eq_true rfl)
  rw [lg_entry_eq]
  generalize (lg_sl ([.ref h0]) ++ List.replicate (7 - (lg_sl ([.ref h0])).length) Slot.unset).toArray = ls at hl ⊢
  have hl : lv_has ls 7 [(0, .ref h0)] := hl
  unfold f_X0_goOn at hr
  refine lv_aload_n hx hb dX0_goOn_0 rfl (lv_at hl 0 rfl) ?_
  refine va_get (D := (dC, dI)) (ci := 0) (v := .long v2) (C := RX0) (T := TX0) (N := 5) hx hb hts in_X0_goOn_X0 hown hK hP 0 rfl rfl 2 (by decide) (hts (.fieldLink RX0 18 "FormRing$Form" "c" "J") (by decide +kernel)) (fun _ h9 => h9) rfl dX0_goOn_1 ?_
  refine lv_lconst (v := 0) hx hb dX0_goOn_4 (by decide) ?_
  refine lz_lne (tgt := 11) hx hb dX0_goOn_5 dX0_goOn_6 (by decide) (fun c_1 => ?_) (fun c_1 => ?_)
  · have hr := (if_neg c_1).symm.trans hr
    refine lv_aload_n hx hb dX0_goOn_11 rfl (lv_at hl 0 rfl) ?_
    refine lv_aload_n hx hb dX0_goOn_12 rfl (lv_at hl 0 rfl) ?_
    refine va_get (D := (dC, dI)) (ci := 0) (v := .long v2) (C := RX0) (T := TX0) (N := 5) hx hb hts in_X0_goOn_X0 hown hK hP 0 rfl rfl 2 (by decide) (hts (.fieldLink RX0 18 "FormRing$Form" "c" "J") (by decide +kernel)) (fun _ h9 => h9) rfl dX0_goOn_13 ?_
    refine va_mabs_long hx hb (by rw [hml]; exact hl.1.symm) hown (hts (.methodLink RX0 35 Lib.MathLoose.abs_long.x) (by decide +kernel)) (hts (.static Lib.MathLoose.abs_long.x) (by decide +kernel)) (hts (.initialized "java/lang/Math") (by decide +kernel)) (hts (.code Lib.MathLoose.abs_long.x Lib.MathLoose.abs_long.code 2 (some .long)) (by decide +kernel)) (Nat.le_of_ble_eq_true rfl) (Nat.le_of_ble_eq_true rfl) (Nat.zero_le _) (Nat.zero_le _) dX0_goOn_16 ?_
    cases e_2 : f_X0_nextMiddle n v1 v3 v4 (if 0 < v2 then v2 else -v2) with
    | none => rw [e_2, Option.bind_none] at hr; cases hr
    | some r_3 =>
      rw [e_2, Option.bind_some] at hr
      have hPc := hP.sub (ws' := [(h0, .inr (0, [.long v0, .long v1, .long v2, .long v3, .long v4]))]) [0] rfl
      have hDc := hD.sub (ws' := [(h0, .inr (0, [.long v0, .long v1, .long v2, .long v3, .long v4]))]) [0] (by decide) rfl
      have hKc := hK.sub (tys' := []) [] rfl
      have hFc := va_free (wc := [(h0, .inr (0, [.long v0, .long v1, .long v2, .long v3, .long v4]))]) hD hS hA [0] rfl
      refine va_calll (va_runV (As := [.long (if 0 < v2 then v2 else -v2)]) (rest := []) ⟨hx, hb, hml, hown, hts⟩ (c_X0_nextMiddle l dC dI s.heap.size h0 v0 v1 v2 v3 v4 (if 0 < v2 then v2 else -v2) n _ e_2) (cwV 1 hts gX0_goOn_X0_nextMiddle rfl rfl rfl (by decide +kernel) ⟨Nat.le_of_ble_eq_true rfl, Nat.le_of_ble_eq_true rfl⟩) ⟨fun a U g mk q => by obtain ⟨q0, q1, qP, qK, qD⟩ := q; exact ⟨q0, q1, qP, va_K.moved (u := U) (U := U.calling g mk a) (Vm.Alike.refl U.vm) qK, qD⟩, va_recv hKc hPc (ci := 0) (q0 := 0) rfl rfl, fun U hU hW => ⟨rfl, by rw [hU], by rw [hU]; exact hPc, va_K.moved hW.alike hKc, hDc.weaken (fun _ _ _ _ => trivial)⟩⟩ rfl rfl hl.1 rfl (lv_room (Nat.le_of_ble_eq_true rfl)) dX0_goOn_19 ⟨Nat.zero_le _, Nat.zero_le _⟩) hS (fun q _ h => hFc q h) hFc (fun x_4 _ t H1 locs ht hvm hw hB hz1 hk1 hS => ?_)
      have hw := hw.symm
      subst hw
      obtain ⟨hP1, hK1, hD1⟩ := hB
      rw [ht] at hP1
      obtain ⟨hP, hD⟩ := va_join (wr := []) (w1 := [(h0, .inr (0, [.long v0, .long v1, .long v2, .long v3, .long v4]))]) hP hD [0] [] rfl rfl (by decide) (by decide) hk1 hFc hP1 hD1
      generalize H1 = H at hP hS ⊢
      have hP : va_P (dC, dI) vwCl [(h0, .inr (0, [.long v0, .long v1, .long v2, .long v3, .long v4]))] H := hP
      have hD : va_D A [(h0, .inr (0, [.long v0, .long v1, .long v2, .long v3, .long v4]))] := hD
      refine W.widen (k := 0) (n := 0) (Nat.le_refl _) (Nat.le_refl _) ?_
      refine lv_lstore_n (lv' := [(1, .long r_3), (0, .ref h0)]) hx hb dX0_goOn_22 rfl hl (by decide) rfl (fun ls hl => ?_)
      refine lv_aload_n hx hb dX0_goOn_23 rfl (lv_at hl 1 rfl) ?_
      refine va_get (D := (dC, dI)) (ci := 0) (v := .long v1) (C := RX0) (T := TX0) (N := 5) hx hb hts in_X0_goOn_X0 hown hK hP 0 rfl rfl 1 (by decide) (hts (.fieldLink RX0 15 "FormRing$Form" "b" "J") (by decide +kernel)) (fun _ h9 => h9) rfl dX0_goOn_24 ?_
      refine lv_lload_n hx hb dX0_goOn_27 rfl (lv_at hl 0 rfl) ?_
      refine lv_ladd hx hb dX0_goOn_28 ?_
      refine lv_ldc2 (v := 2) hx hb hown (hts (.constantLong RX0 44 (2)) (by decide +kernel)) dX0_goOn_29 ?_
      refine lv_aload_n hx hb dX0_goOn_32 rfl (lv_at hl 1 rfl) ?_
      refine va_get (D := (dC, dI)) (ci := 0) (v := .long v2) (C := RX0) (T := TX0) (N := 5) hx hb hts in_X0_goOn_X0 hown hK hP 0 rfl rfl 2 (by decide) (hts (.fieldLink RX0 18 "FormRing$Form" "c" "J") (by decide +kernel)) (fun _ h9 => h9) rfl dX0_goOn_33 ?_
      refine lv_lmul hx hb dX0_goOn_36 ?_
      by_cases g_5 : (2 * v2) = 0
      · have hr := (if_pos g_5).symm.trans hr
        cases hr
      have hr := (if_neg g_5).symm.trans hr
      refine lv_ldiv hx hb dX0_goOn_37 g_5 ?_
      refine lv_lstore_n (lv' := [(3, .long ((v1 + r_3) / (2 * v2))), (1, .long r_3), (0, .ref h0)]) hx hb dX0_goOn_38 rfl hl (by decide) rfl (fun ls hl => ?_)
      refine lv_lload_n hx hb dX0_goOn_39 rfl (lv_at hl 1 rfl) ?_
      refine lv_lload_n hx hb dX0_goOn_40 rfl (lv_at hl 1 rfl) ?_
      refine lv_lmul hx hb dX0_goOn_41 ?_
      refine lv_aload_n hx hb dX0_goOn_42 rfl (lv_at hl 2 rfl) ?_
      refine va_get (D := (dC, dI)) (ci := 0) (v := .long v3) (C := RX0) (T := TX0) (N := 5) hx hb hts in_X0_goOn_X0 hown hK hP 0 rfl rfl 3 (by decide) (hts (.fieldLink RX0 25 "FormRing$Form" "discriminant" "J") (by decide +kernel)) (fun _ h9 => h9) rfl dX0_goOn_43 ?_
      refine lv_lsub hx hb dX0_goOn_46 ?_
      refine lv_ldc2 (v := 4) hx hb hown (hts (.constantLong RX0 58 (4)) (by decide +kernel)) dX0_goOn_47 ?_
      refine lv_aload_n hx hb dX0_goOn_50 rfl (lv_at hl 2 rfl) ?_
      refine va_get (D := (dC, dI)) (ci := 0) (v := .long v2) (C := RX0) (T := TX0) (N := 5) hx hb hts in_X0_goOn_X0 hown hK hP 0 rfl rfl 2 (by decide) (hts (.fieldLink RX0 18 "FormRing$Form" "c" "J") (by decide +kernel)) (fun _ h9 => h9) rfl dX0_goOn_51 ?_
      refine lv_lmul hx hb dX0_goOn_54 ?_
      by_cases g_6 : (4 * v2) = 0
      · have hr := (if_pos g_6).symm.trans hr
        cases hr
      have hr := (if_neg g_6).symm.trans hr
      refine lv_ldiv hx hb dX0_goOn_55 g_6 ?_
      refine lv_lstore (lv' := [(5, .long (((r_3 * r_3) - v3) / (4 * v2))), (3, .long ((v1 + r_3) / (2 * v2))), (1, .long r_3), (0, .ref h0)]) hx hb dX0_goOn_56 hl (by decide) rfl (fun ls hl => ?_)
      refine lv_aload_n hx hb dX0_goOn_58 rfl (lv_at hl 3 rfl) ?_
      refine lv_aload_n hx hb dX0_goOn_59 rfl (lv_at hl 3 rfl) ?_
      refine va_get (D := (dC, dI)) (ci := 0) (v := .long v2) (C := RX0) (T := TX0) (N := 5) hx hb hts in_X0_goOn_X0 hown hK hP 0 rfl rfl 2 (by decide) (hts (.fieldLink RX0 18 "FormRing$Form" "c" "J") (by decide +kernel)) (fun _ h9 => h9) rfl dX0_goOn_60 ?_
      refine va_put (D := (dC, dI)) (ci := 0) (v := .long v2) (ty := .long) (C := RX0) (T := TX0) (N := 5) hx hb hts in_X0_goOn_X0 tyX0 tyX0_ok nmX0 hown hK hP hD hS 0 rfl rfl 0 (by decide) (hts (.fieldLink RX0 9 "FormRing$Form" "a" "J") (by decide +kernel)) (fun _ h9 => h9) rfl (by decide +kernel) rfl rfl (Nat.le_of_ble_eq_true rfl) dX0_goOn_63 (fun H locs hP hD hS => ?_)
      have hP : va_P (dC, dI) vwCl [(h0, .inr (0, [.long v2, .long v1, .long v2, .long v3, .long v4]))] H := hP
      have hD : va_D A [(h0, .inr (0, [.long v2, .long v1, .long v2, .long v3, .long v4]))] := hD
      refine lv_aload_n hx hb dX0_goOn_66 rfl (lv_at hl 3 rfl) ?_
      refine lv_lload_n hx hb dX0_goOn_67 rfl (lv_at hl 2 rfl) ?_
      refine va_put (D := (dC, dI)) (ci := 0) (v := .long r_3) (ty := .long) (C := RX0) (T := TX0) (N := 5) hx hb hts in_X0_goOn_X0 tyX0 tyX0_ok nmX0 hown hK hP hD hS 0 rfl rfl 1 (by decide) (hts (.fieldLink RX0 15 "FormRing$Form" "b" "J") (by decide +kernel)) (fun _ h9 => h9) rfl (by decide +kernel) rfl rfl (Nat.le_of_ble_eq_true rfl) dX0_goOn_68 (fun H locs hP hD hS => ?_)
      have hP : va_P (dC, dI) vwCl [(h0, .inr (0, [.long v2, .long r_3, .long v2, .long v3, .long v4]))] H := hP
      have hD : va_D A [(h0, .inr (0, [.long v2, .long r_3, .long v2, .long v3, .long v4]))] := hD
      refine lv_aload_n hx hb dX0_goOn_71 rfl (lv_at hl 3 rfl) ?_
      refine lv_lload hx hb dX0_goOn_72 (lv_at hl 0 rfl) ?_
      refine va_put (D := (dC, dI)) (ci := 0) (v := .long (((r_3 * r_3) - v3) / (4 * v2))) (ty := .long) (C := RX0) (T := TX0) (N := 5) hx hb hts in_X0_goOn_X0 tyX0 tyX0_ok nmX0 hown hK hP hD hS 0 rfl rfl 2 (by decide) (hts (.fieldLink RX0 18 "FormRing$Form" "c" "J") (by decide +kernel)) (fun _ h9 => h9) rfl (by decide +kernel) rfl rfl (Nat.le_of_ble_eq_true rfl) dX0_goOn_74 (fun H locs hP hD hS => ?_)
      have hP : va_P (dC, dI) vwCl [(h0, .inr (0, [.long v2, .long r_3, .long (((r_3 * r_3) - v3) / (4 * v2)), .long v3, .long v4]))] H := hP
      have hD : va_D A [(h0, .inr (0, [.long v2, .long r_3, .long (((r_3 * r_3) - v3) / (4 * v2)), .long v3, .long v4]))] := hD
      refine lv_lload_n hx hb dX0_goOn_77 rfl (lv_at hl 1 rfl) ?_
      have ho := Option.some.inj hr
      subst ho
      exact W.lret (v := (v1 + r_3) / (2 * v2)) hx hb hrt (fun t ht hW => ⟨⟨(v1 + r_3) / (2 * v2), (), rfl, rfl, by rw [ht]; exact hP, va_K.moved hW.alike hK, hD⟩, hS.F ht⟩) hS.2.2 dX0_goOn_78
  · have hr := (if_pos c_1).symm.trans hr
    refine lv_lconst (v := 0) hx hb dX0_goOn_9 (by decide) ?_
    have ho := Option.some.inj hr
    subst ho
    exact W.lret (v := 0) hx hb hrt (fun t ht hW => ⟨⟨0, (), rfl, rfl, by rw [ht]; exact hP, va_K.moved hW.alike hK, hD⟩, hS.F ht⟩) hS.2.2 dX0_goOn_10

def f_X0_goToReduced_2 (n : Nat) : Nat → (v3 : Int64) → (v4 : Int64) → Int32 → Int64 → Int64 → Int64 → Option (Int32 × Int64 × Int64 × Int64)
  | 0, _, _, _, _, _, _ => none
  | k + 1, v3, v4, u1, w0_0, w0_1, w0_2 => if u1 < 1000000 then ((f_X0_isReduced n w0_0 w0_1 w0_2 v3 v4).bind (fun r_3 => if r_3 = 0 then ((f_X0_goOn n w0_0 w0_1 w0_2 v3 v4).bind (fun r_8 => f_X0_goToReduced_2 n k v3 v4 (u1 + 1) r_8.2.1 r_8.2.2.1 r_8.2.2.2)) else (some (u1, w0_0, w0_1, w0_2)))) else (some (u1, w0_0, w0_1, w0_2))
set_option maxHeartbeats 4000000 in
set_option maxRecDepth 100000 in
theorem k_X0_goToReduced_2 {p : Program} {l : Launch} {e : Env} {s : State} {m : MethodId} {args : Array Value} {below : List Frame} {meth : Method} {c : Code} {dC : Nat → ClassId} {dI : Nat → Nat → Nat} {A : Nat → Prop} {h0 : Nat} {v3 : Int64} {v4 : Int64}  (hx : p.tables.exec = Jvm.exec) (hb : c.code = cX0_goToReduced) (hrt : meth.sig.returnType = (some .int)) (hml : c.maxLocals = 2) (hown : s.vm.findClass RX0 = some m.cls) (hlocks : meth.locks = false) (hts : ∀ w ∈ wsX0_goToReduced, w.before args s = true) (hA : ∀ q : Nat, s.heap.size ≤ q → A q) (hK : va_K (dC, dI) vwCl [] s)  (n : Nat) (out : Int32 × Int64 × Int64 × Int64) :
    ∀ (k : Nat) (u1 : Int32) (w0_0 : Int64) (w0_1 : Int64) (w0_2 : Int64), f_X0_goToReduced_2 n k v3 v4 u1 w0_0 w0_1 w0_2 = some out → ∀ (H : Heap) (locs : List Loc) (ls : Array Slot), va_P (dC, dI) vwCl [(h0, .inr (0, [.long w0_0, .long w0_1, .long w0_2, .long v3, .long v4]))] H → va_D A [(h0, .inr (0, [.long w0_0, .long w0_1, .long w0_2, .long v3, .long v4]))] → va_S A s.heap H locs → lv_has ls 2 [(0, .ref h0), (1, .int u1)] → W p l e ({ frames := 3, cells := 0, slots := 0, locals := 77 }) s m args below meth c H locs 0 0 (MQ below (va_Qi (fun r (_ : Unit) => r = out.1) (fun (_ : Unit) t => zB dC dI [] A [(h0, .inr (0, [.long out.2.1, .long out.2.2.1, .long out.2.2.2, .long v3, .long v4]))] t) A) args s 0 0 A) (F0 m 2 ls []) := by
  intro k
  induction k with
  | zero => intro u1 w0_0 w0_1 w0_2 hr; rw [f_X0_goToReduced_2] at hr; cases hr
  | succ k ih =>
    intro u1 w0_0 w0_1 w0_2 hr H locs ls hP hD hS hl
    rw [f_X0_goToReduced_2] at hr
    refine lv_iload_n hx hb dX0_goToReduced_2 rfl (lv_at hl 1 rfl) ?_
    refine lv_ldc (v := 1000000) hx hb hown (hts (.constant RX0 46 (1000000)) (by decide +kernel)) dX0_goToReduced_3 ?_
    refine lz_ige (tgt := 26) hx hb dX0_goToReduced_5 (by decide) (fun c_1 => ?_) (fun c_1 => ?_)
    · have hr := (if_neg c_1).symm.trans hr
      refine lv_iload_n hx hb dX0_goToReduced_26 rfl (lv_at hl 1 rfl) ?_
      have ho := Option.some.inj hr
      subst ho
      exact W.iret (v := u1) hx hb hrt (fun t ht hW => ⟨⟨u1, (), rfl, rfl, by rw [ht]; exact hP, va_K.moved hW.alike hK, hD⟩, hS.F ht⟩) hS.2.2 dX0_goToReduced_27
    · have hr := (if_pos c_1).symm.trans hr
      refine lv_aload_n hx hb dX0_goToReduced_8 rfl (lv_at hl 0 rfl) ?_
      cases e_2 : f_X0_isReduced n w0_0 w0_1 w0_2 v3 v4 with
      | none => rw [e_2, Option.bind_none] at hr; cases hr
      | some r_3 =>
        rw [e_2, Option.bind_some] at hr
        have hPc := hP.sub (ws' := [(h0, .inr (0, [.long w0_0, .long w0_1, .long w0_2, .long v3, .long v4]))]) [0] rfl
        have hDc := hD.sub (ws' := [(h0, .inr (0, [.long w0_0, .long w0_1, .long w0_2, .long v3, .long v4]))]) [0] (by decide) rfl
        have hKc := hK.sub (tys' := []) [] rfl
        have hFc := va_free (wc := [(h0, .inr (0, [.long w0_0, .long w0_1, .long w0_2, .long v3, .long v4]))]) hD hS hA [0] rfl
        refine va_calli (va_runV (As := []) (rest := []) ⟨hx, hb, hml, hown, hts⟩ (c_X0_isReduced l dC dI H.size h0 w0_0 w0_1 w0_2 v3 v4  n _ e_2) (cwV 0 hts gX0_goToReduced_X0_isReduced rfl rfl rfl (by decide +kernel) ⟨Nat.le_of_ble_eq_true rfl, Nat.le_of_ble_eq_true rfl⟩) ⟨fun a U g mk q => by obtain ⟨q0, q1, qP, qK, qD⟩ := q; exact ⟨q0, q1, qP, va_K.moved (u := U) (U := U.calling g mk a) (Vm.Alike.refl U.vm) qK, qD⟩, va_recv hKc hPc (ci := 0) (q0 := 0) rfl rfl, fun U hU hW => ⟨rfl, by rw [hU], by rw [hU]; exact hPc, va_K.moved hW.alike hKc, hDc.weaken (fun _ _ _ _ => trivial)⟩⟩ rfl rfl hl.1 rfl (lv_room (Nat.le_of_ble_eq_true rfl)) dX0_goToReduced_9 ⟨Nat.zero_le _, Nat.zero_le _⟩) hS (fun q _ h => hFc q h) hFc (fun x_4 _ t H1 locs ht hvm hw hB hz1 hk1 hS => ?_)
        obtain ⟨hw, z_5⟩ := hw
        have hw := hw.symm
        subst hw
        obtain ⟨hP1, hK1, hD1⟩ := hB
        rw [ht] at hP1
        obtain ⟨hP, hD⟩ := va_join (wr := []) (w1 := [(h0, .inr (0, [.long w0_0, .long w0_1, .long w0_2, .long v3, .long v4]))]) hP hD [0] [] rfl rfl (by decide) (by decide) hk1 hFc hP1 hD1
        generalize H1 = H at hP hS ⊢
        have hP : va_P (dC, dI) vwCl [(h0, .inr (0, [.long w0_0, .long w0_1, .long w0_2, .long v3, .long v4]))] H := hP
        have hD : va_D A [(h0, .inr (0, [.long w0_0, .long w0_1, .long w0_2, .long v3, .long v4]))] := hD
        refine W.widen (k := 0) (n := 0) (Nat.le_refl _) (Nat.le_refl _) ?_
        refine lz_zne (tgt := 26) hx hb dX0_goToReduced_12 (by decide) (fun c_6 => ?_) (fun c_6 => ?_)
        · have hr := (if_neg c_6).symm.trans hr
          refine lv_iload_n hx hb dX0_goToReduced_26 rfl (lv_at hl 1 rfl) ?_
          have ho := Option.some.inj hr
          subst ho
          exact W.iret (v := u1) hx hb hrt (fun t ht hW => ⟨⟨u1, (), rfl, rfl, by rw [ht]; exact hP, va_K.moved hW.alike hK, hD⟩, hS.F ht⟩) hS.2.2 dX0_goToReduced_27
        · have hr := (if_pos c_6).symm.trans hr
          refine lv_aload_n hx hb dX0_goToReduced_15 rfl (lv_at hl 0 rfl) ?_
          cases e_7 : f_X0_goOn n w0_0 w0_1 w0_2 v3 v4 with
          | none => rw [e_7, Option.bind_none] at hr; cases hr
          | some r_8 =>
            rw [e_7, Option.bind_some] at hr
            have hPc := hP.sub (ws' := [(h0, .inr (0, [.long w0_0, .long w0_1, .long w0_2, .long v3, .long v4]))]) [0] rfl
            have hDc := hD.sub (ws' := [(h0, .inr (0, [.long w0_0, .long w0_1, .long w0_2, .long v3, .long v4]))]) [0] (by decide) rfl
            have hKc := hK.sub (tys' := []) [] rfl
            have hFc := va_free (wc := [(h0, .inr (0, [.long w0_0, .long w0_1, .long w0_2, .long v3, .long v4]))]) hD hS hA [0] rfl
            refine va_calll (va_runV (As := []) (rest := []) ⟨hx, hb, hml, hown, hts⟩ (c_X0_goOn l dC dI H.size h0 w0_0 w0_1 w0_2 v3 v4  n _ e_7) (cwV 0 hts gX0_goToReduced_X0_goOn rfl rfl rfl (by decide +kernel) ⟨Nat.le_of_ble_eq_true rfl, Nat.le_of_ble_eq_true rfl⟩) ⟨fun a U g mk q => by obtain ⟨q0, q1, qP, qK, qD⟩ := q; exact ⟨q0, q1, qP, va_K.moved (u := U) (U := U.calling g mk a) (Vm.Alike.refl U.vm) qK, qD⟩, va_recv hKc hPc (ci := 0) (q0 := 0) rfl rfl, fun U hU hW => ⟨rfl, by rw [hU], by rw [hU]; exact hPc, va_K.moved hW.alike hKc, hDc.weaken (fun _ _ _ _ => trivial)⟩⟩ rfl rfl hl.1 rfl (lv_room (Nat.le_of_ble_eq_true rfl)) dX0_goToReduced_16 ⟨Nat.zero_le _, Nat.zero_le _⟩) hS (fun q _ h => hFc q h) hFc (fun x_9 _ t H1 locs ht hvm hw hB hz1 hk1 hS => ?_)
            have hw := hw.symm
            subst hw
            obtain ⟨hP1, hK1, hD1⟩ := hB
            rw [ht] at hP1
            obtain ⟨hP, hD⟩ := va_join (wr := []) (w1 := [(h0, .inr (0, [.long r_8.2.1, .long r_8.2.2.1, .long r_8.2.2.2, .long v3, .long v4]))]) hP hD [0] [] rfl rfl (by decide) (by decide) hk1 hFc hP1 hD1
            generalize H1 = H at hP hS ⊢
            have hP : va_P (dC, dI) vwCl [(h0, .inr (0, [.long r_8.2.1, .long r_8.2.2.1, .long r_8.2.2.2, .long v3, .long v4]))] H := hP
            have hD : va_D A [(h0, .inr (0, [.long r_8.2.1, .long r_8.2.2.1, .long r_8.2.2.2, .long v3, .long v4]))] := hD
            refine W.widen (k := 0) (n := 0) (Nat.le_refl _) (Nat.le_refl _) ?_
            refine lv_pop2_2 hx hb dX0_goToReduced_19 rfl ?_
            refine lv_iinc (v := u1 + 1) (lv' := [(1, .int (u1 + 1)), (0, .ref h0)]) hx hb dX0_goToReduced_20 hl (k := 1) rfl rfl (by decide) rfl (fun ls hl => ?_)
            refine lv_goto (tgt := 2) hx hb dX0_goToReduced_23 (by decide) ?_
            exact ih (u1 + 1) r_8.2.1 r_8.2.2.1 r_8.2.2.2 hr _ _ _ hP hD hS (lv_sub hl [1, 0] rfl)
def f_X0_goToReduced (n : Nat) (v0 : Int64) (v1 : Int64) (v2 : Int64) (v3 : Int64) (v4 : Int64) : Option (Int32 × Int64 × Int64 × Int64) := f_X0_goToReduced_2 n n v3 v4 0 v0 v1 v2
set_option maxHeartbeats 4000000 in
set_option maxRecDepth 100000 in
theorem c_X0_goToReduced (l : Launch) (dC : Nat → ClassId) (dI : Nat → Nat → Nat) (sz : Nat) (h0 : Nat) (v0 : Int64) (v1 : Int64) (v2 : Int64) (v3 : Int64) (v4 : Int64)   (n : Nat) (out : Int32 × Int64 × Int64 × Int64) (hr : f_X0_goToReduced n v0 v1 v2 v3 v4 = some out) : Met l yX0_goToReduced wsX0_goToReduced ({ frames := 3, cells := 0, slots := 0, locals := 77 }) (va_Pc [.ref h0] (zP dC dI [] [(h0, .inr (0, [.long v0, .long v1, .long v2, .long v3, .long v4]))] sz)) (va_Qi (fun r (_ : Unit) => r = out.1) (fun (_ : Unit) t => zB dC dI [] (va_A [(h0, .inr (0, [.long v0, .long v1, .long v2, .long v3, .long v4]))] sz) [(h0, .inr (0, [.long out.2.1, .long out.2.2.1, .long out.2.2.2, .long v3, .long v4]))] t) (va_A [(h0, .inr (0, [.long v0, .long v1, .long v2, .long v3, .long v4]))] sz)) 0 0 (va_A [(h0, .inr (0, [.long v0, .long v1, .long v2, .long v3, .long v4]))] sz) := by
  refine Met.ofW (cc := cX0_goToReduced) (maxL := 2) (ret := (some .int)) (by decide +kernel) rfl ?_
  intro p e s m args below meth c s₁ B hml hv
  obtain ⟨rfl, hsz, hP, hK, hD0⟩ := hv
  have hx := B.exec
  have hb := B.bytes
  have hrt := B.returns
  have hts := atoms_spec (ws := wsX0_goToReduced) B.pre
  have hown : s.vm.findClass RX0 = some m.cls := findClass_of_methodNamed B.named
  have hlocks := B.notSynchronized
  subst hsz
  have hD := hD0.self (sz := s.heap.size)
  generalize hAe : va_A [(h0, .inr (0, [.long v0, .long v1, .long v2, .long v3, .long v4]))] s.heap.size = A at hD ⊢
  have hA : ∀ q : Nat, s.heap.size ≤ q → A q := fun q h => by rw [← hAe]; exact Or.inr h
  have hS : va_S A s.heap s.heap [] := va_S.rf
  have hP : va_P (dC, dI) vwCl [(h0, .inr (0, [.long v0, .long v1, .long v2, .long v3, .long v4]))] s.heap := hP
  have hl := lv_entry ([.ref h0]) (n := 2) (Nat.le_of_ble_eq_true rfl)
  rw [lg_entry_eq]
  generalize (lg_sl ([.ref h0]) ++ List.replicate (2 - (lg_sl ([.ref h0])).length) Slot.unset).toArray = ls at hl ⊢
  have hl : lv_has ls 2 [(0, .ref h0)] := hl
  unfold f_X0_goToReduced at hr
  refine lv_iconst (v := 0) hx hb dX0_goToReduced_0 (by decide) ?_
  refine lv_istore_n (lv' := [(1, .int 0), (0, .ref h0)]) hx hb dX0_goToReduced_1 rfl hl (by decide) rfl (fun ls hl => ?_)
  exact k_X0_goToReduced_2 hx hb hrt hml hown hlocks hts hA hK n out n 0 v0 v1 v2 hr _ _ _ hP hD hS (lv_sub hl [1, 0] rfl)
