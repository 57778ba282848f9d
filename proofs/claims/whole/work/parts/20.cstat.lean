def f_J9_floorMod_f86c9 (n : Nat) (a1 : Int64) (a2 : Int64) : Option (Int64) := if a2 = 0 then none else (if (a1 ^^^ a2) < 0 then (if (a1 - a1 / a2 * a2) = 0 then (some (a1 - a1 / a2 * a2)) else (some ((a1 - a1 / a2 * a2) + a2))) else (some (a1 - a1 / a2 * a2)))
set_option maxHeartbeats 4000000 in
set_option maxRecDepth 100000 in
theorem c_J9_floorMod_f86c9 (l : Launch) (dC : Nat → ClassId) (dI : Nat → Nat → Nat) (sz : Nat)  (a1 : Int64) (a2 : Int64)  (n : Nat) (out : Int64) (hr : f_J9_floorMod_f86c9 n a1 a2 = some out) : Met l yJ9_floorMod_f86c9 wsJ9_floorMod_f86c9 ({ frames := 0, cells := 0, slots := 0, locals := 0 }) (va_Pc [.long a1, .long a2] (zP dC dI [] [] sz)) (va_Ql (fun r (_ : Unit) => r = out) (fun (_ : Unit) t => zB dC dI [] (va_A [] sz) [] t) (va_A [] sz)) 0 0 (va_A [] sz) := by
  refine va_MetF (cc := cJ9_floorMod_f86c9) (maxL := 6) (ret := (some .long)) (by decide +kernel) rfl ?_
  intro p e s m args below meth c s₁ B hml hv
  obtain ⟨rfl, hsz, hP, hK, hD0⟩ := hv
  have hx := B.exec
  have hb := B.bytes
  have hrt := B.returns
  have hts := atoms_spec (ws := wsJ9_floorMod_f86c9) B.pre
  have hown : s.vm.findClass RJ9 = some m.cls := findClass_of_methodNamed B.named
  have hlocks := B.notSynchronized
  subst hsz
  have hD := hD0.self (sz := s.heap.size)
  generalize hAe : va_A [] s.heap.size = A at hD ⊢
  have hA : ∀ q : Nat, s.heap.size ≤ q → A q := fun q h => by rw [← hAe]; exact Or.inr h
  have hS : va_S A s.heap s.heap [] := va_S.rf
  have hP : va_P (dC, dI) vwCl [] s.heap := hP
  have hl := lv_entry ([.long a1, .long a2]) (n := 6) (Nat.le_of_ble_eq_true rfl)
  rw [lg_entry_eq]
  generalize (lg_sl ([.long a1, .long a2]) ++ List.replicate (6 - (lg_sl ([.long a1, .long a2])).length) Slot.unset).toArray = ls at hl ⊢
  have hl : lv_has ls 6 [(0, .long a1), (2, .long a2)] := hl
  unfold f_J9_floorMod_f86c9 at hr
  refine lv_lload_n hx hb dJ9_floorMod_f86c9_0 rfl (lv_at hl 0 rfl) ?_
  refine lv_lload_n hx hb dJ9_floorMod_f86c9_1 rfl (lv_at hl 1 rfl) ?_
  by_cases g_1 : a2 = 0
  · have hr := (if_pos g_1).symm.trans hr
    cases hr
  have hr := (if_neg g_1).symm.trans hr
  refine lv_lrem hx hb dJ9_floorMod_f86c9_2 g_1 ?_
  refine lv_lstore (lv' := [(4, .long (a1 - a1 / a2 * a2)), (0, .long a1), (2, .long a2)]) hx hb dJ9_floorMod_f86c9_3 hl (by decide) rfl (fun ls hl => ?_)
  refine lv_lload_n hx hb dJ9_floorMod_f86c9_5 rfl (lv_at hl 1 rfl) ?_
  refine lv_lload_n hx hb dJ9_floorMod_f86c9_6 rfl (lv_at hl 2 rfl) ?_
  refine lv_lxor hx hb dJ9_floorMod_f86c9_7 ?_
  refine lv_lconst (v := 0) hx hb dJ9_floorMod_f86c9_8 (by decide) ?_
  refine lz_lge (tgt := 25) hx hb dJ9_floorMod_f86c9_9 dJ9_floorMod_f86c9_10 (by decide) (fun c_2 => ?_) (fun c_2 => ?_)
  · have hr := (if_neg c_2).symm.trans hr
    refine lv_lload hx hb dJ9_floorMod_f86c9_25 (lv_at hl 0 rfl) ?_
    have ho := Option.some.inj hr
    subst ho
    exact W.lret (v := a1 - a1 / a2 * a2) hx hb hrt (fun t ht hW => ⟨⟨a1 - a1 / a2 * a2, (), rfl, rfl, by rw [ht]; exact hP, va_K.moved hW.alike hK, hD⟩, hS.F ht⟩) hS.2.2 dJ9_floorMod_f86c9_27
  · have hr := (if_pos c_2).symm.trans hr
    refine lv_lload hx hb dJ9_floorMod_f86c9_13 (lv_at hl 0 rfl) ?_
    refine lv_lconst (v := 0) hx hb dJ9_floorMod_f86c9_15 (by decide) ?_
    refine lz_leq (tgt := 25) hx hb dJ9_floorMod_f86c9_16 dJ9_floorMod_f86c9_17 (by decide) (fun c_3 => ?_) (fun c_3 => ?_)
    · have hr := (if_pos c_3).symm.trans hr
      refine lv_lload hx hb dJ9_floorMod_f86c9_25 (lv_at hl 0 rfl) ?_
      have ho := Option.some.inj hr
      subst ho
      exact W.lret (v := a1 - a1 / a2 * a2) hx hb hrt (fun t ht hW => ⟨⟨a1 - a1 / a2 * a2, (), rfl, rfl, by rw [ht]; exact hP, va_K.moved hW.alike hK, hD⟩, hS.F ht⟩) hS.2.2 dJ9_floorMod_f86c9_27
    · have hr := (if_neg c_3).symm.trans hr
      refine lv_lload hx hb dJ9_floorMod_f86c9_20 (lv_at hl 0 rfl) ?_
      refine lv_lload_n hx hb dJ9_floorMod_f86c9_22 rfl (lv_at hl 2 rfl) ?_
      refine lv_ladd hx hb dJ9_floorMod_f86c9_23 ?_
      have ho := Option.some.inj hr
      subst ho
      exact W.lret (v := (a1 - a1 / a2 * a2) + a2) hx hb hrt (fun t ht hW => ⟨⟨(a1 - a1 / a2 * a2) + a2, (), rfl, rfl, by rw [ht]; exact hP, va_K.moved hW.alike hK, hD⟩, hS.F ht⟩) hS.2.2 dJ9_floorMod_f86c9_24

def f_X2_isCoefficient (n : Nat) (a1 : Int32) : Option (Int32) := if a1 < 0 then (some 0) else (if a1 < 3 then (some 1) else (some 0))
set_option maxHeartbeats 4000000 in
set_option maxRecDepth 100000 in
theorem c_X2_isCoefficient (l : Launch) (dC : Nat → ClassId) (dI : Nat → Nat → Nat) (sz : Nat)  (a1 : Int32)  (n : Nat) (out : Int32) (hr : f_X2_isCoefficient n a1 = some out) : Met l yX2_isCoefficient wsX2_isCoefficient ({ frames := 0, cells := 0, slots := 0, locals := 0 }) (va_Pc [.int a1] (zP dC dI [] [] sz)) (va_Qi (fun r (_ : Unit) => r = out ∧ narrow .boolean (.int r) = .int r) (fun (_ : Unit) t => zB dC dI [] (va_A [] sz) [] t) (va_A [] sz)) 0 0 (va_A [] sz) := by
  refine Met.ofW (cc := cX2_isCoefficient) (maxL := 1) (ret := (some .boolean)) (by decide +kernel) rfl ?_
  intro p e s m args below meth c s₁ B hml hv
  obtain ⟨rfl, hsz, hP, hK, hD0⟩ := hv
  have hx := B.exec
  have hb := B.bytes
  have hrt := B.returns
  have hts := atoms_spec (ws := wsX2_isCoefficient) B.pre
  have hown : s.vm.findClass RX2 = some m.cls := findClass_of_methodNamed B.named
  have hlocks := B.notSynchronized
  subst hsz
  have hD := hD0.self (sz := s.heap.size)
  generalize hAe : va_A [] s.heap.size = A at hD ⊢
  have hA : ∀ q : Nat, s.heap.size ≤ q → A q := fun q h => by rw [← hAe]; exact Or.inr h
  have hS : va_S A s.heap s.heap [] := va_S.rf
  have hP : va_P (dC, dI) vwCl [] s.heap := hP
  have hl := lv_entry ([.int a1]) (n := 1) (Nat.le_of_ble_eq_true rfl)
  rw [lg_entry_eq]
  generalize (lg_sl ([.int a1]) ++ List.replicate (1 - (lg_sl ([.int a1])).length) Slot.unset).toArray = ls at hl ⊢
  have hl : lv_has ls 1 [(0, .int a1)] := hl
  unfold f_X2_isCoefficient at hr
  refine lv_iload_n hx hb dX2_isCoefficient_0 rfl (lv_at hl 0 rfl) ?_
  refine lz_zlt (tgt := 13) hx hb dX2_isCoefficient_1 (by decide) (fun c_1 => ?_) (fun c_1 => ?_)
  · have hr := (if_pos c_1).symm.trans hr
    refine lv_iconst (v := 0) hx hb dX2_isCoefficient_13 (by decide) ?_
    have ho := Option.some.inj hr
    subst ho
    exact W.zret (v := 0) hx hb hrt rfl (fun t ht hW => ⟨⟨0, (), rfl, ⟨rfl, rfl⟩, by rw [ht]; exact hP, va_K.moved hW.alike hK, hD⟩, hS.F ht⟩) hS.2.2 dX2_isCoefficient_14
  · have hr := (if_neg c_1).symm.trans hr
    refine lv_iload_n hx hb dX2_isCoefficient_4 rfl (lv_at hl 0 rfl) ?_
    refine lv_iconst (v := 3) hx hb dX2_isCoefficient_5 (by decide) ?_
    refine lz_ige (tgt := 13) hx hb dX2_isCoefficient_6 (by decide) (fun c_2 => ?_) (fun c_2 => ?_)
    · have hr := (if_neg c_2).symm.trans hr
      refine lv_iconst (v := 0) hx hb dX2_isCoefficient_13 (by decide) ?_
      have ho := Option.some.inj hr
      subst ho
      exact W.zret (v := 0) hx hb hrt rfl (fun t ht hW => ⟨⟨0, (), rfl, ⟨rfl, rfl⟩, by rw [ht]; exact hP, va_K.moved hW.alike hK, hD⟩, hS.F ht⟩) hS.2.2 dX2_isCoefficient_14
    · have hr := (if_pos c_2).symm.trans hr
      refine lv_iconst (v := 1) hx hb dX2_isCoefficient_9 (by decide) ?_
      refine lv_goto (tgt := 14) hx hb dX2_isCoefficient_10 (by decide) ?_
      have ho := Option.some.inj hr
      subst ho
      exact W.zret (v := 1) hx hb hrt rfl (fun t ht hW => ⟨⟨1, (), rfl, ⟨rfl, rfl⟩, by rw [ht]; exact hP, va_K.moved hW.alike hK, hD⟩, hS.F ht⟩) hS.2.2 dX2_isCoefficient_14

def f_X2_isNumber (n : Nat) (a1 : Int32) : Option (Int32) := if a1 < 0 then (some 0) else (if a1 < 4 then (some 1) else (some 0))
set_option maxHeartbeats 4000000 in
set_option maxRecDepth 100000 in
theorem c_X2_isNumber (l : Launch) (dC : Nat → ClassId) (dI : Nat → Nat → Nat) (sz : Nat)  (a1 : Int32)  (n : Nat) (out : Int32) (hr : f_X2_isNumber n a1 = some out) : Met l yX2_isNumber wsX2_isNumber ({ frames := 0, cells := 0, slots := 0, locals := 0 }) (va_Pc [.int a1] (zP dC dI [] [] sz)) (va_Qi (fun r (_ : Unit) => r = out ∧ narrow .boolean (.int r) = .int r) (fun (_ : Unit) t => zB dC dI [] (va_A [] sz) [] t) (va_A [] sz)) 0 0 (va_A [] sz) := by
  refine Met.ofW (cc := cX2_isNumber) (maxL := 1) (ret := (some .boolean)) (by decide +kernel) rfl ?_
  intro p e s m args below meth c s₁ B hml hv
  obtain ⟨rfl, hsz, hP, hK, hD0⟩ := hv
  have hx := B.exec
  have hb := B.bytes
  have hrt := B.returns
  have hts := atoms_spec (ws := wsX2_isNumber) B.pre
  have hown : s.vm.findClass RX2 = some m.cls := findClass_of_methodNamed B.named
  have hlocks := B.notSynchronized
  subst hsz
  have hD := hD0.self (sz := s.heap.size)
  generalize hAe : va_A [] s.heap.size = A at hD ⊢
  have hA : ∀ q : Nat, s.heap.size ≤ q → A q := fun q h => by rw [← hAe]; exact Or.inr h
  have hS : va_S A s.heap s.heap [] := va_S.rf
  have hP : va_P (dC, dI) vwCl [] s.heap := hP
  have hl := lv_entry ([.int a1]) (n := 1) (Nat.le_of_ble_eq_true rfl)
  rw [lg_entry_eq]
  generalize (lg_sl ([.int a1]) ++ List.replicate (1 - (lg_sl ([.int a1])).length) Slot.unset).toArray = ls at hl ⊢
  have hl : lv_has ls 1 [(0, .int a1)] := hl
  unfold f_X2_isNumber at hr
  refine lv_iload_n hx hb dX2_isNumber_0 rfl (lv_at hl 0 rfl) ?_
  refine lz_zlt (tgt := 13) hx hb dX2_isNumber_1 (by decide) (fun c_1 => ?_) (fun c_1 => ?_)
  · have hr := (if_pos c_1).symm.trans hr
    refine lv_iconst (v := 0) hx hb dX2_isNumber_13 (by decide) ?_
    have ho := Option.some.inj hr
    subst ho
    exact W.zret (v := 0) hx hb hrt rfl (fun t ht hW => ⟨⟨0, (), rfl, ⟨rfl, rfl⟩, by rw [ht]; exact hP, va_K.moved hW.alike hK, hD⟩, hS.F ht⟩) hS.2.2 dX2_isNumber_14
  · have hr := (if_neg c_1).symm.trans hr
    refine lv_iload_n hx hb dX2_isNumber_4 rfl (lv_at hl 0 rfl) ?_
    refine lv_iconst (v := 4) hx hb dX2_isNumber_5 (by decide) ?_
    refine lz_ige (tgt := 13) hx hb dX2_isNumber_6 (by decide) (fun c_2 => ?_) (fun c_2 => ?_)
    · have hr := (if_neg c_2).symm.trans hr
      refine lv_iconst (v := 0) hx hb dX2_isNumber_13 (by decide) ?_
      have ho := Option.some.inj hr
      subst ho
      exact W.zret (v := 0) hx hb hrt rfl (fun t ht hW => ⟨⟨0, (), rfl, ⟨rfl, rfl⟩, by rw [ht]; exact hP, va_K.moved hW.alike hK, hD⟩, hS.F ht⟩) hS.2.2 dX2_isNumber_14
    · have hr := (if_pos c_2).symm.trans hr
      refine lv_iconst (v := 1) hx hb dX2_isNumber_9 (by decide) ?_
      refine lv_goto (tgt := 14) hx hb dX2_isNumber_10 (by decide) ?_
      have ho := Option.some.inj hr
      subst ho
      exact W.zret (v := 1) hx hb hrt rfl (fun t ht hW => ⟨⟨1, (), rfl, ⟨rfl, rfl⟩, by rw [ht]; exact hP, va_K.moved hW.alike hK, hD⟩, hS.F ht⟩) hS.2.2 dX2_isNumber_14

def f_X2_isSmallEnough (n : Nat) (a1 : Int64) : Option (Int32) := if a1 < (-1073741824) then (some 0) else (if 1073741824 < a1 then (some 0) else (some 1))
set_option maxHeartbeats 4000000 in
set_option maxRecDepth 100000 in
theorem c_X2_isSmallEnough (l : Launch) (dC : Nat → ClassId) (dI : Nat → Nat → Nat) (sz : Nat)  (a1 : Int64)  (n : Nat) (out : Int32) (hr : f_X2_isSmallEnough n a1 = some out) : Met l yX2_isSmallEnough wsX2_isSmallEnough ({ frames := 0, cells := 0, slots := 0, locals := 0 }) (va_Pc [.long a1] (zP dC dI [] [] sz)) (va_Qi (fun r (_ : Unit) => r = out ∧ narrow .boolean (.int r) = .int r) (fun (_ : Unit) t => zB dC dI [] (va_A [] sz) [] t) (va_A [] sz)) 0 0 (va_A [] sz) := by
  refine Met.ofW (cc := cX2_isSmallEnough) (maxL := 2) (ret := (some .boolean)) (by decide +kernel) rfl ?_
  intro p e s m args below meth c s₁ B hml hv
  obtain ⟨rfl, hsz, hP, hK, hD0⟩ := hv
  have hx := B.exec
  have hb := B.bytes
  have hrt := B.returns
  have hts := atoms_spec (ws := wsX2_isSmallEnough) B.pre
  have hown : s.vm.findClass RX2 = some m.cls := findClass_of_methodNamed B.named
  have hlocks := B.notSynchronized
  subst hsz
  have hD := hD0.self (sz := s.heap.size)
  generalize hAe : va_A [] s.heap.size = A at hD ⊢
  have hA : ∀ q : Nat, s.heap.size ≤ q → A q := fun q h => by rw [← hAe]; exact Or.inr h
  have hS : va_S A s.heap s.heap [] := va_S.rf
  have hP : va_P (dC, dI) vwCl [] s.heap := hP
  have hl := lv_entry ([.long a1]) (n := 2) (Nat.le_of_ble_eq_true rfl)
  rw [lg_entry_eq]
  generalize (lg_sl ([.long a1]) ++ List.replicate (2 - (lg_sl ([.long a1])).length) Slot.unset).toArray = ls at hl ⊢
  have hl : lv_has ls 2 [(0, .long a1)] := hl
  unfold f_X2_isSmallEnough at hr
  refine lv_lload_n hx hb dX2_isSmallEnough_0 rfl (lv_at hl 0 rfl) ?_
  refine lv_ldc2 (v := (-1073741824)) hx hb hown (hts (.constantLong RX2 144 (-1073741824)) (by decide +kernel)) dX2_isSmallEnough_1 ?_
  refine lz_llt (tgt := 20) hx hb dX2_isSmallEnough_4 dX2_isSmallEnough_5 (by decide) (fun c_1 => ?_) (fun c_1 => ?_)
  · have hr := (if_pos c_1).symm.trans hr
    refine lv_iconst (v := 0) hx hb dX2_isSmallEnough_20 (by decide) ?_
    have ho := Option.some.inj hr
    subst ho
    exact W.zret (v := 0) hx hb hrt rfl (fun t ht hW => ⟨⟨0, (), rfl, ⟨rfl, rfl⟩, by rw [ht]; exact hP, va_K.moved hW.alike hK, hD⟩, hS.F ht⟩) hS.2.2 dX2_isSmallEnough_21
  · have hr := (if_neg c_1).symm.trans hr
    refine lv_lload_n hx hb dX2_isSmallEnough_8 rfl (lv_at hl 0 rfl) ?_
    refine lv_ldc2 (v := 1073741824) hx hb hown (hts (.constantLong RX2 146 (1073741824)) (by decide +kernel)) dX2_isSmallEnough_9 ?_
    refine lz_lgt (tgt := 20) hx hb dX2_isSmallEnough_12 dX2_isSmallEnough_13 (by decide) (fun c_2 => ?_) (fun c_2 => ?_)
    · have hr := (if_pos c_2).symm.trans hr
      refine lv_iconst (v := 0) hx hb dX2_isSmallEnough_20 (by decide) ?_
      have ho := Option.some.inj hr
      subst ho
      exact W.zret (v := 0) hx hb hrt rfl (fun t ht hW => ⟨⟨0, (), rfl, ⟨rfl, rfl⟩, by rw [ht]; exact hP, va_K.moved hW.alike hK, hD⟩, hS.F ht⟩) hS.2.2 dX2_isSmallEnough_21
    · have hr := (if_neg c_2).symm.trans hr
      refine lv_iconst (v := 1) hx hb dX2_isSmallEnough_16 (by decide) ?_
      refine lv_goto (tgt := 21) hx hb dX2_isSmallEnough_17 (by decide) ?_
      have ho := Option.some.inj hr
      subst ho
      exact W.zret (v := 1) hx hb hrt rfl (fun t ht hW => ⟨⟨1, (), rfl, ⟨rfl, rfl⟩, by rw [ht]; exact hP, va_K.moved hW.alike hK, hD⟩, hS.F ht⟩) hS.2.2 dX2_isSmallEnough_21

def f_X2_discriminantOf (n : Nat) (a1 : Int64) (a2 : Int64) (a3 : Int64) : Option (Int64) := some ((a2 * a2) - ((4 * a1) * a3))
set_option maxHeartbeats 4000000 in
set_option maxRecDepth 100000 in
theorem c_X2_discriminantOf (l : Launch) (dC : Nat → ClassId) (dI : Nat → Nat → Nat) (sz : Nat)  (a1 : Int64) (a2 : Int64) (a3 : Int64)  (n : Nat) (out : Int64) (hr : f_X2_discriminantOf n a1 a2 a3 = some out) : Met l yX2_discriminantOf wsX2_discriminantOf ({ frames := 0, cells := 0, slots := 0, locals := 0 }) (va_Pc [.long a1, .long a2, .long a3] (zP dC dI [] [] sz)) (va_Ql (fun r (_ : Unit) => r = out) (fun (_ : Unit) t => zB dC dI [] (va_A [] sz) [] t) (va_A [] sz)) 0 0 (va_A [] sz) := by
  refine Met.ofW (cc := cX2_discriminantOf) (maxL := 6) (ret := (some .long)) (by decide +kernel) rfl ?_
  intro p e s m args below meth c s₁ B hml hv
  obtain ⟨rfl, hsz, hP, hK, hD0⟩ := hv
  have hx := B.exec
  have hb := B.bytes
  have hrt := B.returns
  have hts := atoms_spec (ws := wsX2_discriminantOf) B.pre
  have hown : s.vm.findClass RX2 = some m.cls := findClass_of_methodNamed B.named
  have hlocks := B.notSynchronized
  subst hsz
  have hD := hD0.self (sz := s.heap.size)
  generalize hAe : va_A [] s.heap.size = A at hD ⊢
  have hA : ∀ q : Nat, s.heap.size ≤ q → A q := fun q h => by rw [← hAe]; exact Or.inr h
  have hS : va_S A s.heap s.heap [] := va_S.rf
  have hP : va_P (dC, dI) vwCl [] s.heap := hP
  have hl := lv_entry ([.long a1, .long a2, .long a3]) (n := 6) (Nat.le_of_ble_eq_true rfl)
  rw [lg_entry_eq]
  generalize (lg_sl ([.long a1, .long a2, .long a3]) ++ List.replicate (6 - (lg_sl ([.long a1, .long a2, .long a3])).length) Slot.unset).toArray = ls at hl ⊢
  have hl : lv_has ls 6 [(0, .long a1), (2, .long a2), (4, .long a3)] := hl
  unfold f_X2_discriminantOf at hr
  refine lv_lload_n hx hb dX2_discriminantOf_0 rfl (lv_at hl 1 rfl) ?_
  refine lv_lload_n hx hb dX2_discriminantOf_1 rfl (lv_at hl 1 rfl) ?_
  refine lv_lmul hx hb dX2_discriminantOf_2 ?_
  refine lv_ldc2 (v := 4) hx hb hown (hts (.constantLong RX2 148 (4)) (by decide +kernel)) dX2_discriminantOf_3 ?_
  refine lv_lload_n hx hb dX2_discriminantOf_6 rfl (lv_at hl 0 rfl) ?_
  refine lv_lmul hx hb dX2_discriminantOf_7 ?_
  refine lv_lload hx hb dX2_discriminantOf_8 (lv_at hl 2 rfl) ?_
  refine lv_lmul hx hb dX2_discriminantOf_10 ?_
  refine lv_lsub hx hb dX2_discriminantOf_11 ?_
  have ho := Option.some.inj hr
  subst ho
  exact W.lret (v := (a2 * a2) - ((4 * a1) * a3)) hx hb hrt (fun t ht hW => ⟨⟨(a2 * a2) - ((4 * a1) * a3), (), rfl, rfl, by rw [ht]; exact hP, va_K.moved hW.alike hK, hD⟩, hS.F ht⟩) hS.2.2 dX2_discriminantOf_12

def f_X2_wholeRoot_17 (n : Nat) : Nat → (a1 : Int64) → Int64 → Int32 → Option (Int64)
  | 0, _, _, _ => none
  | k + 1, a1, u2, u4 => if 0 < u4 then (if a1 < ((u2 + u4.toInt64) * (u2 + u4.toInt64)) then (f_X2_wholeRoot_17 n k a1 u2 (u4 >>> ((1 : Int32) &&& 31))) else (f_X2_wholeRoot_17 n k a1 (u2 + u4.toInt64) (u4 >>> ((1 : Int32) &&& 31)))) else (some u2)
set_option maxHeartbeats 4000000 in
set_option maxRecDepth 100000 in
theorem k_X2_wholeRoot_17 {p : Program} {l : Launch} {e : Env} {s : State} {m : MethodId} {args : Array Value} {below : List Frame} {meth : Method} {c : Code} {dC : Nat → ClassId} {dI : Nat → Nat → Nat} {A : Nat → Prop}  {a1 : Int64} (hx : p.tables.exec = Jvm.exec) (hb : c.code = cX2_wholeRoot) (hrt : meth.sig.returnType = (some .long)) (hml : c.maxLocals = 7) (hown : s.vm.findClass RX2 = some m.cls) (hlocks : meth.locks = false) (hts : ∀ w ∈ wsX2_wholeRoot, w.before args s = true) (hA : ∀ q : Nat, s.heap.size ≤ q → A q) (hK : va_K (dC, dI) vwCl [] s)  (n : Nat) (out : Int64) :
    ∀ (k : Nat) (u2 : Int64) (u4 : Int32), f_X2_wholeRoot_17 n k a1 u2 u4 = some out → ∀ (H : Heap) (locs : List Loc) (ls : Array Slot), va_P (dC, dI) vwCl [] H → va_D A [] → va_S A s.heap H locs → lv_has ls 7 [(0, .long a1), (2, .long u2), (4, .int u4)] → W p l e ({ frames := 0, cells := 0, slots := 0, locals := 0 }) s m args below meth c H locs 0 0 (MQ below (va_Ql (fun r (_ : Unit) => r = out) (fun (_ : Unit) t => zB dC dI [] A [] t) A) args s 0 0 A) (F0 m 17 ls []) := by
  intro k
  induction k with
  | zero => intro u2 u4 hr; rw [f_X2_wholeRoot_17] at hr; cases hr
  | succ k ih =>
    intro u2 u4 hr H locs ls hP hD hS hl
    rw [f_X2_wholeRoot_17] at hr
    refine lv_iload hx hb dX2_wholeRoot_17 (lv_at hl 2 rfl) ?_
    refine lz_zle (tgt := 51) hx hb dX2_wholeRoot_19 (by decide) (fun c_1 => ?_) (fun c_1 => ?_)
    · have hr := (if_neg c_1).symm.trans hr
      refine lv_lload_n hx hb dX2_wholeRoot_51 rfl (lv_at hl 1 rfl) ?_
      have ho := Option.some.inj hr
      subst ho
      exact W.lret (v := u2) hx hb hrt (fun t ht hW => ⟨⟨u2, (), rfl, rfl, by rw [ht]; exact hP, va_K.moved hW.alike hK, hD⟩, hS.F ht⟩) hS.2.2 dX2_wholeRoot_52
    · have hr := (if_pos c_1).symm.trans hr
      refine lv_lload_n hx hb dX2_wholeRoot_22 rfl (lv_at hl 1 rfl) ?_
      refine lv_iload hx hb dX2_wholeRoot_23 (lv_at hl 2 rfl) ?_
      refine lv_i2l hx hb dX2_wholeRoot_25 rfl ?_
      refine lv_ladd hx hb dX2_wholeRoot_26 ?_
      refine lv_lstore (lv' := [(5, .long (u2 + u4.toInt64)), (0, .long a1), (2, .long u2), (4, .int u4)]) hx hb dX2_wholeRoot_27 hl (by decide) rfl (fun ls hl => ?_)
      refine lv_lload hx hb dX2_wholeRoot_29 (lv_at hl 0 rfl) ?_
      refine lv_lload hx hb dX2_wholeRoot_31 (lv_at hl 0 rfl) ?_
      refine lv_lmul hx hb dX2_wholeRoot_33 ?_
      refine lv_lload_n hx hb dX2_wholeRoot_34 rfl (lv_at hl 1 rfl) ?_
      refine lz_lgt (tgt := 42) hx hb dX2_wholeRoot_35 dX2_wholeRoot_36 (by decide) (fun c_2 => ?_) (fun c_2 => ?_)
      · have hr := (if_pos c_2).symm.trans hr
        refine lv_iload hx hb dX2_wholeRoot_42 (lv_at hl 3 rfl) ?_
        refine lv_iconst (v := 1) hx hb dX2_wholeRoot_44 (by decide) ?_
        refine lv_ishr hx hb dX2_wholeRoot_45 ?_
        refine lv_istore (lv' := [(4, .int (u4 >>> ((1 : Int32) &&& 31))), (5, .long (u2 + u4.toInt64)), (0, .long a1), (2, .long u2)]) hx hb dX2_wholeRoot_46 hl (by decide) rfl (fun ls hl => ?_)
        refine lv_goto (tgt := 17) hx hb dX2_wholeRoot_48 (by decide) ?_
        exact ih u2 (u4 >>> ((1 : Int32) &&& 31)) hr _ _ _ hP hD hS (lv_sub hl [2, 3, 0] rfl)
      · have hr := (if_neg c_2).symm.trans hr
        refine lv_lload hx hb dX2_wholeRoot_39 (lv_at hl 0 rfl) ?_
        refine lv_lstore_n (lv' := [(2, .long (u2 + u4.toInt64)), (5, .long (u2 + u4.toInt64)), (0, .long a1), (4, .int u4)]) hx hb dX2_wholeRoot_41 rfl hl (by decide) rfl (fun ls hl => ?_)
        refine lv_iload hx hb dX2_wholeRoot_42 (lv_at hl 3 rfl) ?_
        refine lv_iconst (v := 1) hx hb dX2_wholeRoot_44 (by decide) ?_
        refine lv_ishr hx hb dX2_wholeRoot_45 ?_
        refine lv_istore (lv' := [(4, .int (u4 >>> ((1 : Int32) &&& 31))), (2, .long (u2 + u4.toInt64)), (5, .long (u2 + u4.toInt64)), (0, .long a1)]) hx hb dX2_wholeRoot_46 hl (by decide) rfl (fun ls hl => ?_)
        refine lv_goto (tgt := 17) hx hb dX2_wholeRoot_48 (by decide) ?_
        exact ih (u2 + u4.toInt64) (u4 >>> ((1 : Int32) &&& 31)) hr _ _ _ hP hD hS (lv_sub hl [3, 1, 0] rfl)
def f_X2_wholeRoot (n : Nat) (a1 : Int64) : Option (Int64) := if a1 < 0 then (some (-1)) else (f_X2_wholeRoot_17 n n a1 0 1024)
set_option maxHeartbeats 4000000 in
set_option maxRecDepth 100000 in
theorem c_X2_wholeRoot (l : Launch) (dC : Nat → ClassId) (dI : Nat → Nat → Nat) (sz : Nat)  (a1 : Int64)  (n : Nat) (out : Int64) (hr : f_X2_wholeRoot n a1 = some out) : Met l yX2_wholeRoot wsX2_wholeRoot ({ frames := 0, cells := 0, slots := 0, locals := 0 }) (va_Pc [.long a1] (zP dC dI [] [] sz)) (va_Ql (fun r (_ : Unit) => r = out) (fun (_ : Unit) t => zB dC dI [] (va_A [] sz) [] t) (va_A [] sz)) 0 0 (va_A [] sz) := by
  refine Met.ofW (cc := cX2_wholeRoot) (maxL := 7) (ret := (some .long)) (by decide +kernel) rfl ?_
  intro p e s m args below meth c s₁ B hml hv
  obtain ⟨rfl, hsz, hP, hK, hD0⟩ := hv
  have hx := B.exec
  have hb := B.bytes
  have hrt := B.returns
  have hts := atoms_spec (ws := wsX2_wholeRoot) B.pre
  have hown : s.vm.findClass RX2 = some m.cls := findClass_of_methodNamed B.named
  have hlocks := B.notSynchronized
  subst hsz
  have hD := hD0.self (sz := s.heap.size)
  generalize hAe : va_A [] s.heap.size = A at hD ⊢
  have hA : ∀ q : Nat, s.heap.size ≤ q → A q := fun q h => by rw [← hAe]; exact Or.inr h
  have hS : va_S A s.heap s.heap [] := va_S.rf
  have hP : va_P (dC, dI) vwCl [] s.heap := hP
  have hl := lv_entry ([.long a1]) (n := 7) (Nat.le_of_ble_eq_true rfl)
  rw [lg_entry_eq]
  generalize (lg_sl ([.long a1]) ++ List.replicate (7 - (lg_sl ([.long a1])).length) Slot.unset).toArray = ls at hl ⊢
  have hl : lv_has ls 7 [(0, .long a1)] := hl
  unfold f_X2_wholeRoot at hr
  refine lv_lload_n hx hb dX2_wholeRoot_0 rfl (lv_at hl 0 rfl) ?_
  refine lv_lconst (v := 0) hx hb dX2_wholeRoot_1 (by decide) ?_
  refine lz_lge (tgt := 10) hx hb dX2_wholeRoot_2 dX2_wholeRoot_3 (by decide) (fun c_1 => ?_) (fun c_1 => ?_)
  · have hr := (if_neg c_1).symm.trans hr
    refine lv_lconst (v := 0) hx hb dX2_wholeRoot_10 (by decide) ?_
    refine lv_lstore_n (lv' := [(2, .long 0), (0, .long a1)]) hx hb dX2_wholeRoot_11 rfl hl (by decide) rfl (fun ls hl => ?_)
    refine lv_sipush (v := 1024) hx hb dX2_wholeRoot_12 (by decide) ?_
    refine lv_istore (lv' := [(4, .int 1024), (2, .long 0), (0, .long a1)]) hx hb dX2_wholeRoot_15 hl (by decide) rfl (fun ls hl => ?_)
    exact k_X2_wholeRoot_17 hx hb hrt hml hown hlocks hts hA hK n out n 0 1024 hr _ _ _ hP hD hS (lv_sub hl [2, 1, 0] rfl)
  · have hr := (if_pos c_1).symm.trans hr
    refine lv_ldc2 (v := (-1)) hx hb hown (hts (.constantLong RX2 150 (-1)) (by decide +kernel)) dX2_wholeRoot_6 ?_
    have ho := Option.some.inj hr
    subst ho
    exact W.lret (v := (-1)) hx hb hrt (fun t ht hW => ⟨⟨(-1), (), rfl, rfl, by rw [ht]; exact hP, va_K.moved hW.alike hK, hD⟩, hS.F ht⟩) hS.2.2 dX2_wholeRoot_9

def f_X2_canBeTaken (n : Nat) (a1 : Int64) (a2 : Int64) (a3 : Int64) : Option (Int32) := (f_X2_isSmallEnough n a1).bind (fun r_2 => if r_2 = 0 then (some 0) else ((f_X2_isSmallEnough n a2).bind (fun r_7 => if r_7 = 0 then (some 0) else ((f_X2_isSmallEnough n a3).bind (fun r_12 => if r_12 = 0 then (some 0) else ((f_X2_discriminantOf n a1 a2 a3).bind (fun r_17 => if r_17 < (-1048576) then (some 0) else (if 1048576 < r_17 then (some 0) else (if r_17 < 0 then (if 0 < a1 then (some 1) else (some 0)) else ((f_X2_wholeRoot n r_17).bind (fun r_23 => if (r_23 * r_23) = r_17 then (some 0) else (some 1))))))))))))
set_option maxHeartbeats 4000000 in
set_option maxRecDepth 100000 in
theorem c_X2_canBeTaken (l : Launch) (dC : Nat → ClassId) (dI : Nat → Nat → Nat) (sz : Nat)  (a1 : Int64) (a2 : Int64) (a3 : Int64)  (n : Nat) (out : Int32) (hr : f_X2_canBeTaken n a1 a2 a3 = some out) : Met l yX2_canBeTaken wsX2_canBeTaken ({ frames := 1, cells := 0, slots := 0, locals := 26 }) (va_Pc [.long a1, .long a2, .long a3] (zP dC dI [] [] sz)) (va_Qi (fun r (_ : Unit) => r = out ∧ narrow .boolean (.int r) = .int r) (fun (_ : Unit) t => zB dC dI [] (va_A [] sz) [] t) (va_A [] sz)) 0 0 (va_A [] sz) := by
  refine Met.ofW (cc := cX2_canBeTaken) (maxL := 10) (ret := (some .boolean)) (by decide +kernel) rfl ?_
  intro p e s m args below meth c s₁ B hml hv
  obtain ⟨rfl, hsz, hP, hK, hD0⟩ := hv
  have hx := B.exec
  have hb := B.bytes
  have hrt := B.returns
  have hts := atoms_spec (ws := wsX2_canBeTaken) B.pre
  have hown : s.vm.findClass RX2 = some m.cls := findClass_of_methodNamed B.named
  have hlocks := B.notSynchronized
  subst hsz
  have hD := hD0.self (sz := s.heap.size)
  generalize hAe : va_A [] s.heap.size = A at hD ⊢
  have hA : ∀ q : Nat, s.heap.size ≤ q → A q := fun q h => by rw [← hAe]; exact Or.inr h
  have hS : va_S A s.heap s.heap [] := va_S.rf
  have hP : va_P (dC, dI) vwCl [] s.heap := hP
  have hl := lv_entry ([.long a1, .long a2, .long a3]) (n := 10) (Nat.le_of_ble_eq_true rfl)
  rw [lg_entry_eq]
  generalize (lg_sl ([.long a1, .long a2, .long a3]) ++ List.replicate (10 - (lg_sl ([.long a1, .long a2, .long a3])).length) Slot.unset).toArray = ls at hl ⊢
  have hl : lv_has ls 10 [(0, .long a1), (2, .long a2), (4, .long a3)] := hl
  unfold f_X2_canBeTaken at hr
  refine lv_lload_n hx hb dX2_canBeTaken_0 rfl (lv_at hl 0 rfl) ?_
  cases e_1 : f_X2_isSmallEnough n a1 with
  | none => rw [e_1, Option.bind_none] at hr; cases hr
  | some r_2 =>
    rw [e_1, Option.bind_some] at hr
    have hPc := hP.sub (ws' := []) [] rfl
    have hDc := hD.sub (ws' := []) [] (by decide) rfl
    have hKc := hK.sub (tys' := []) [] rfl
    have hFc := va_free (wc := []) hD hS hA [] rfl
    refine va_calli (va_runS (As := [.long a1]) (rest := []) ⟨hx, hb, hml, hown, hts⟩ (c_X2_isSmallEnough l dC dI s.heap.size  a1 n _ e_1) (va_cwS 1 hts gX2_canBeTaken_X2_isSmallEnough rfl rfl rfl (by decide +kernel) ⟨Nat.le_of_ble_eq_true rfl, Nat.le_of_ble_eq_true rfl⟩) ⟨fun a U g mk q => by obtain ⟨q0, q1, qP, qK, qD⟩ := q; exact ⟨q0, q1, qP, va_K.moved (u := U) (U := U.calling g mk a) (Vm.Alike.refl U.vm) qK, qD⟩, fun U hU hW => ⟨rfl, by rw [hU], by rw [hU]; exact hPc, va_K.moved hW.alike hKc, hDc.weaken (fun _ _ _ _ => trivial)⟩⟩ rfl rfl hl.1 rfl (lv_room (Nat.le_of_ble_eq_true rfl)) dX2_canBeTaken_1 ⟨Nat.zero_le _, Nat.zero_le _⟩) hS (fun q _ h => hFc q h) hFc (fun x_3 _ t H1 locs ht hvm hw hB hz1 hk1 hS => ?_)
    obtain ⟨hw, z_4⟩ := hw
    have hw := hw.symm
    subst hw
    obtain ⟨hP1, hK1, hD1⟩ := hB
    rw [ht] at hP1
    obtain ⟨hP, hD⟩ := va_join (wr := []) (w1 := []) hP hD [] [] rfl rfl (by decide) (by decide) hk1 hFc hP1 hD1
    generalize H1 = H at hP hS ⊢
    have hP : va_P (dC, dI) vwCl [] H := hP
    have hD : va_D A [] := hD
    refine W.widen (k := 0) (n := 0) (Nat.le_refl _) (Nat.le_refl _) ?_
    refine lz_zeq (tgt := 22) hx hb dX2_canBeTaken_4 (by decide) (fun c_5 => ?_) (fun c_5 => ?_)
    · have hr := (if_pos c_5).symm.trans hr
      refine lv_iconst (v := 0) hx hb dX2_canBeTaken_22 (by decide) ?_
      have ho := Option.some.inj hr
      subst ho
      exact W.zret (v := 0) hx hb hrt rfl (fun t ht hW => ⟨⟨0, (), rfl, ⟨rfl, rfl⟩, by rw [ht]; exact hP, va_K.moved hW.alike hK, hD⟩, hS.F ht⟩) hS.2.2 dX2_canBeTaken_23
    · have hr := (if_neg c_5).symm.trans hr
      refine lv_lload_n hx hb dX2_canBeTaken_7 rfl (lv_at hl 1 rfl) ?_
      cases e_6 : f_X2_isSmallEnough n a2 with
      | none => rw [e_6, Option.bind_none] at hr; cases hr
      | some r_7 =>
        rw [e_6, Option.bind_some] at hr
        have hPc := hP.sub (ws' := []) [] rfl
        have hDc := hD.sub (ws' := []) [] (by decide) rfl
        have hKc := hK.sub (tys' := []) [] rfl
        have hFc := va_free (wc := []) hD hS hA [] rfl
        refine va_calli (va_runS (As := [.long a2]) (rest := []) ⟨hx, hb, hml, hown, hts⟩ (c_X2_isSmallEnough l dC dI H.size  a2 n _ e_6) (va_cwS 1 hts gX2_canBeTaken_X2_isSmallEnough rfl rfl rfl (by decide +kernel) ⟨Nat.le_of_ble_eq_true rfl, Nat.le_of_ble_eq_true rfl⟩) ⟨fun a U g mk q => by obtain ⟨q0, q1, qP, qK, qD⟩ := q; exact ⟨q0, q1, qP, va_K.moved (u := U) (U := U.calling g mk a) (Vm.Alike.refl U.vm) qK, qD⟩, fun U hU hW => ⟨rfl, by rw [hU], by rw [hU]; exact hPc, va_K.moved hW.alike hKc, hDc.weaken (fun _ _ _ _ => trivial)⟩⟩ rfl rfl hl.1 rfl (lv_room (Nat.le_of_ble_eq_true rfl)) dX2_canBeTaken_8 ⟨Nat.zero_le _, Nat.zero_le _⟩) hS (fun q _ h => hFc q h) hFc (fun x_8 _ t H1 locs ht hvm hw hB hz1 hk1 hS => ?_)
        obtain ⟨hw, z_9⟩ := hw
        have hw := hw.symm
        subst hw
        obtain ⟨hP1, hK1, hD1⟩ := hB
        rw [ht] at hP1
        obtain ⟨hP, hD⟩ := va_join (wr := []) (w1 := []) hP hD [] [] rfl rfl (by decide) (by decide) hk1 hFc hP1 hD1
        generalize H1 = H at hP hS ⊢
        have hP : va_P (dC, dI) vwCl [] H := hP
        have hD : va_D A [] := hD
        refine W.widen (k := 0) (n := 0) (Nat.le_refl _) (Nat.le_refl _) ?_
        refine lz_zeq (tgt := 22) hx hb dX2_canBeTaken_11 (by decide) (fun c_10 => ?_) (fun c_10 => ?_)
        · have hr := (if_pos c_10).symm.trans hr
          refine lv_iconst (v := 0) hx hb dX2_canBeTaken_22 (by decide) ?_
          have ho := Option.some.inj hr
          subst ho
          exact W.zret (v := 0) hx hb hrt rfl (fun t ht hW => ⟨⟨0, (), rfl, ⟨rfl, rfl⟩, by rw [ht]; exact hP, va_K.moved hW.alike hK, hD⟩, hS.F ht⟩) hS.2.2 dX2_canBeTaken_23
        · have hr := (if_neg c_10).symm.trans hr
          refine lv_lload hx hb dX2_canBeTaken_14 (lv_at hl 2 rfl) ?_
          cases e_11 : f_X2_isSmallEnough n a3 with
          | none => rw [e_11, Option.bind_none] at hr; cases hr
          | some r_12 =>
            rw [e_11, Option.bind_some] at hr
            have hPc := hP.sub (ws' := []) [] rfl
            have hDc := hD.sub (ws' := []) [] (by decide) rfl
            have hKc := hK.sub (tys' := []) [] rfl
            have hFc := va_free (wc := []) hD hS hA [] rfl
            refine va_calli (va_runS (As := [.long a3]) (rest := []) ⟨hx, hb, hml, hown, hts⟩ (c_X2_isSmallEnough l dC dI H.size  a3 n _ e_11) (va_cwS 1 hts gX2_canBeTaken_X2_isSmallEnough rfl rfl rfl (by decide +kernel) ⟨Nat.le_of_ble_eq_true rfl, Nat.le_of_ble_eq_true rfl⟩) ⟨fun a U g mk q => by obtain ⟨q0, q1, qP, qK, qD⟩ := q; exact ⟨q0, q1, qP, va_K.moved (u := U) (U := U.calling g mk a) (Vm.Alike.refl U.vm) qK, qD⟩, fun U hU hW => ⟨rfl, by rw [hU], by rw [hU]; exact hPc, va_K.moved hW.alike hKc, hDc.weaken (fun _ _ _ _ => trivial)⟩⟩ rfl rfl hl.1 rfl (lv_room (Nat.le_of_ble_eq_true rfl)) dX2_canBeTaken_16 ⟨Nat.zero_le _, Nat.zero_le _⟩) hS (fun q _ h => hFc q h) hFc (fun x_13 _ t H1 locs ht hvm hw hB hz1 hk1 hS => ?_)
            obtain ⟨hw, z_14⟩ := hw
            have hw := hw.symm
            subst hw
            obtain ⟨hP1, hK1, hD1⟩ := hB
            rw [ht] at hP1
            obtain ⟨hP, hD⟩ := va_join (wr := []) (w1 := []) hP hD [] [] rfl rfl (by decide) (by decide) hk1 hFc hP1 hD1
            generalize H1 = H at hP hS ⊢
            have hP : va_P (dC, dI) vwCl [] H := hP
            have hD : va_D A [] := hD
            refine W.widen (k := 0) (n := 0) (Nat.le_refl _) (Nat.le_refl _) ?_
            refine lz_zne (tgt := 24) hx hb dX2_canBeTaken_19 (by decide) (fun c_15 => ?_) (fun c_15 => ?_)
            · have hr := (if_neg c_15).symm.trans hr
              refine lv_lload_n hx hb dX2_canBeTaken_24 rfl (lv_at hl 0 rfl) ?_
              refine lv_lload_n hx hb dX2_canBeTaken_25 rfl (lv_at hl 1 rfl) ?_
              refine lv_lload hx hb dX2_canBeTaken_26 (lv_at hl 2 rfl) ?_
              cases e_16 : f_X2_discriminantOf n a1 a2 a3 with
              | none => rw [e_16, Option.bind_none] at hr; cases hr
              | some r_17 =>
                rw [e_16, Option.bind_some] at hr
                have hPc := hP.sub (ws' := []) [] rfl
                have hDc := hD.sub (ws' := []) [] (by decide) rfl
                have hKc := hK.sub (tys' := []) [] rfl
                have hFc := va_free (wc := []) hD hS hA [] rfl
                refine va_calll (va_runS (As := [.long a1, .long a2, .long a3]) (rest := []) ⟨hx, hb, hml, hown, hts⟩ (c_X2_discriminantOf l dC dI H.size  a1 a2 a3 n _ e_16) (va_cwS 3 hts gX2_canBeTaken_X2_discriminantOf rfl rfl rfl (by decide +kernel) ⟨Nat.le_of_ble_eq_true rfl, Nat.le_of_ble_eq_true rfl⟩) ⟨fun a U g mk q => by obtain ⟨q0, q1, qP, qK, qD⟩ := q; exact ⟨q0, q1, qP, va_K.moved (u := U) (U := U.calling g mk a) (Vm.Alike.refl U.vm) qK, qD⟩, fun U hU hW => ⟨rfl, by rw [hU], by rw [hU]; exact hPc, va_K.moved hW.alike hKc, hDc.weaken (fun _ _ _ _ => trivial)⟩⟩ rfl rfl hl.1 rfl (lv_room (Nat.le_of_ble_eq_true rfl)) dX2_canBeTaken_28 ⟨Nat.zero_le _, Nat.zero_le _⟩) hS (fun q _ h => hFc q h) hFc (fun x_18 _ t H1 locs ht hvm hw hB hz1 hk1 hS => ?_)
                have hw := hw.symm
                subst hw
                obtain ⟨hP1, hK1, hD1⟩ := hB
                rw [ht] at hP1
                obtain ⟨hP, hD⟩ := va_join (wr := []) (w1 := []) hP hD [] [] rfl rfl (by decide) (by decide) hk1 hFc hP1 hD1
                generalize H1 = H at hP hS ⊢
                have hP : va_P (dC, dI) vwCl [] H := hP
                have hD : va_D A [] := hD
                refine W.widen (k := 0) (n := 0) (Nat.le_refl _) (Nat.le_refl _) ?_
                refine lv_lstore (lv' := [(6, .long r_17), (0, .long a1), (2, .long a2), (4, .long a3)]) hx hb dX2_canBeTaken_31 hl (by decide) rfl (fun ls hl => ?_)
                refine lv_lload hx hb dX2_canBeTaken_33 (lv_at hl 0 rfl) ?_
                refine lv_ldc2 (v := (-1048576)) hx hb hown (hts (.constantLong RX2 136 (-1048576)) (by decide +kernel)) dX2_canBeTaken_35 ?_
                refine lz_llt (tgt := 51) hx hb dX2_canBeTaken_38 dX2_canBeTaken_39 (by decide) (fun c_19 => ?_) (fun c_19 => ?_)
                · have hr := (if_pos c_19).symm.trans hr
                  refine lv_iconst (v := 0) hx hb dX2_canBeTaken_51 (by decide) ?_
                  have ho := Option.some.inj hr
                  subst ho
                  exact W.zret (v := 0) hx hb hrt rfl (fun t ht hW => ⟨⟨0, (), rfl, ⟨rfl, rfl⟩, by rw [ht]; exact hP, va_K.moved hW.alike hK, hD⟩, hS.F ht⟩) hS.2.2 dX2_canBeTaken_52
                · have hr := (if_neg c_19).symm.trans hr
                  refine lv_lload hx hb dX2_canBeTaken_42 (lv_at hl 0 rfl) ?_
                  refine lv_ldc2 (v := 1048576) hx hb hown (hts (.constantLong RX2 138 (1048576)) (by decide +kernel)) dX2_canBeTaken_44 ?_
                  refine lz_lle (tgt := 53) hx hb dX2_canBeTaken_47 dX2_canBeTaken_48 (by decide) (fun c_20 => ?_) (fun c_20 => ?_)
                  · have hr := (if_neg c_20).symm.trans hr
                    refine lv_lload hx hb dX2_canBeTaken_53 (lv_at hl 0 rfl) ?_
                    refine lv_lconst (v := 0) hx hb dX2_canBeTaken_55 (by decide) ?_
                    refine lz_lge (tgt := 72) hx hb dX2_canBeTaken_56 dX2_canBeTaken_57 (by decide) (fun c_21 => ?_) (fun c_21 => ?_)
                    · have hr := (if_neg c_21).symm.trans hr
                      refine lv_lload hx hb dX2_canBeTaken_72 (lv_at hl 0 rfl) ?_
                      cases e_22 : f_X2_wholeRoot n r_17 with
                      | none => rw [e_22, Option.bind_none] at hr; cases hr
                      | some r_23 =>
                        rw [e_22, Option.bind_some] at hr
                        have hPc := hP.sub (ws' := []) [] rfl
                        have hDc := hD.sub (ws' := []) [] (by decide) rfl
                        have hKc := hK.sub (tys' := []) [] rfl
                        have hFc := va_free (wc := []) hD hS hA [] rfl
                        refine va_calll (va_runS (As := [.long r_17]) (rest := []) ⟨hx, hb, hml, hown, hts⟩ (c_X2_wholeRoot l dC dI H.size  r_17 n _ e_22) (va_cwS 1 hts gX2_canBeTaken_X2_wholeRoot rfl rfl rfl (by decide +kernel) ⟨Nat.le_of_ble_eq_true rfl, Nat.le_of_ble_eq_true rfl⟩) ⟨fun a U g mk q => by obtain ⟨q0, q1, qP, qK, qD⟩ := q; exact ⟨q0, q1, qP, va_K.moved (u := U) (U := U.calling g mk a) (Vm.Alike.refl U.vm) qK, qD⟩, fun U hU hW => ⟨rfl, by rw [hU], by rw [hU]; exact hPc, va_K.moved hW.alike hKc, hDc.weaken (fun _ _ _ _ => trivial)⟩⟩ rfl rfl hl.1 rfl (lv_room (Nat.le_of_ble_eq_true rfl)) dX2_canBeTaken_74 ⟨Nat.zero_le _, Nat.zero_le _⟩) hS (fun q _ h => hFc q h) hFc (fun x_24 _ t H1 locs ht hvm hw hB hz1 hk1 hS => ?_)
                        have hw := hw.symm
                        subst hw
                        obtain ⟨hP1, hK1, hD1⟩ := hB
                        rw [ht] at hP1
                        obtain ⟨hP, hD⟩ := va_join (wr := []) (w1 := []) hP hD [] [] rfl rfl (by decide) (by decide) hk1 hFc hP1 hD1
                        generalize H1 = H at hP hS ⊢
                        have hP : va_P (dC, dI) vwCl [] H := hP
                        have hD : va_D A [] := hD
                        refine W.widen (k := 0) (n := 0) (Nat.le_refl _) (Nat.le_refl _) ?_
                        refine lv_lstore (lv' := [(8, .long r_23), (6, .long r_17), (0, .long a1), (2, .long a2), (4, .long a3)]) hx hb dX2_canBeTaken_77 hl (by decide) rfl (fun ls hl => ?_)
                        refine lv_lload hx hb dX2_canBeTaken_79 (lv_at hl 0 rfl) ?_
                        refine lv_lload hx hb dX2_canBeTaken_81 (lv_at hl 0 rfl) ?_
                        refine lv_lmul hx hb dX2_canBeTaken_83 ?_
                        refine lv_lload hx hb dX2_canBeTaken_84 (lv_at hl 1 rfl) ?_
                        refine lz_leq (tgt := 94) hx hb dX2_canBeTaken_86 dX2_canBeTaken_87 (by decide) (fun c_25 => ?_) (fun c_25 => ?_)
                        · have hr := (if_pos c_25).symm.trans hr
                          refine lv_iconst (v := 0) hx hb dX2_canBeTaken_94 (by decide) ?_
                          have ho := Option.some.inj hr
                          subst ho
                          exact W.zret (v := 0) hx hb hrt rfl (fun t ht hW => ⟨⟨0, (), rfl, ⟨rfl, rfl⟩, by rw [ht]; exact hP, va_K.moved hW.alike hK, hD⟩, hS.F ht⟩) hS.2.2 dX2_canBeTaken_95
                        · have hr := (if_neg c_25).symm.trans hr
                          refine lv_iconst (v := 1) hx hb dX2_canBeTaken_90 (by decide) ?_
                          refine lv_goto (tgt := 95) hx hb dX2_canBeTaken_91 (by decide) ?_
                          have ho := Option.some.inj hr
                          subst ho
                          exact W.zret (v := 1) hx hb hrt rfl (fun t ht hW => ⟨⟨1, (), rfl, ⟨rfl, rfl⟩, by rw [ht]; exact hP, va_K.moved hW.alike hK, hD⟩, hS.F ht⟩) hS.2.2 dX2_canBeTaken_95
                    · have hr := (if_pos c_21).symm.trans hr
                      refine lv_lload_n hx hb dX2_canBeTaken_60 rfl (lv_at hl 1 rfl) ?_
                      refine lv_lconst (v := 0) hx hb dX2_canBeTaken_61 (by decide) ?_
                      refine lz_lle (tgt := 70) hx hb dX2_canBeTaken_62 dX2_canBeTaken_63 (by decide) (fun c_26 => ?_) (fun c_26 => ?_)
                      · have hr := (if_neg c_26).symm.trans hr
                        refine lv_iconst (v := 0) hx hb dX2_canBeTaken_70 (by decide) ?_
                        have ho := Option.some.inj hr
                        subst ho
                        exact W.zret (v := 0) hx hb hrt rfl (fun t ht hW => ⟨⟨0, (), rfl, ⟨rfl, rfl⟩, by rw [ht]; exact hP, va_K.moved hW.alike hK, hD⟩, hS.F ht⟩) hS.2.2 dX2_canBeTaken_71
                      · have hr := (if_pos c_26).symm.trans hr
                        refine lv_iconst (v := 1) hx hb dX2_canBeTaken_66 (by decide) ?_
                        refine lv_goto (tgt := 71) hx hb dX2_canBeTaken_67 (by decide) ?_
                        have ho := Option.some.inj hr
                        subst ho
                        exact W.zret (v := 1) hx hb hrt rfl (fun t ht hW => ⟨⟨1, (), rfl, ⟨rfl, rfl⟩, by rw [ht]; exact hP, va_K.moved hW.alike hK, hD⟩, hS.F ht⟩) hS.2.2 dX2_canBeTaken_71
                  · have hr := (if_pos c_20).symm.trans hr
                    refine lv_iconst (v := 0) hx hb dX2_canBeTaken_51 (by decide) ?_
                    have ho := Option.some.inj hr
                    subst ho
                    exact W.zret (v := 0) hx hb hrt rfl (fun t ht hW => ⟨⟨0, (), rfl, ⟨rfl, rfl⟩, by rw [ht]; exact hP, va_K.moved hW.alike hK, hD⟩, hS.F ht⟩) hS.2.2 dX2_canBeTaken_52
            · have hr := (if_pos c_15).symm.trans hr
              refine lv_iconst (v := 0) hx hb dX2_canBeTaken_22 (by decide) ?_
              have ho := Option.some.inj hr
              subst ho
              exact W.zret (v := 0) hx hb hrt rfl (fun t ht hW => ⟨⟨0, (), rfl, ⟨rfl, rfl⟩, by rw [ht]; exact hP, va_K.moved hW.alike hK, hD⟩, hS.F ht⟩) hS.2.2 dX2_canBeTaken_23

def f_X0_commonDivisor_9 (n : Nat) : Nat → Int64 → Int64 → Int32 → Option (Int64)
  | 0, _, _, _ => none
  | k + 1, u4, u6, u8 => if u8 < 100 then (if u6 = 0 then (some u4) else (if u6 = 0 then none else (f_X0_commonDivisor_9 n k u6 (u4 - u4 / u6 * u6) (u8 + 1)))) else (some u4)
set_option maxHeartbeats 4000000 in
set_option maxRecDepth 100000 in
theorem k_X0_commonDivisor_9 {p : Program} {l : Launch} {e : Env} {s : State} {m : MethodId} {args : Array Value} {below : List Frame} {meth : Method} {c : Code} {dC : Nat → ClassId} {dI : Nat → Nat → Nat} {A : Nat → Prop}  {a1 : Int64} {a2 : Int64} (hx : p.tables.exec = Jvm.exec) (hb : c.code = cX0_commonDivisor) (hrt : meth.sig.returnType = (some .long)) (hml : c.maxLocals = 11) (hown : s.vm.findClass RX0 = some m.cls) (hlocks : meth.locks = false) (hts : ∀ w ∈ wsX0_commonDivisor, w.before args s = true) (hA : ∀ q : Nat, s.heap.size ≤ q → A q) (hK : va_K (dC, dI) vwCl [] s)  (n : Nat) (out : Int64) :
    ∀ (k : Nat) (u4 : Int64) (u6 : Int64) (u8 : Int32), f_X0_commonDivisor_9 n k u4 u6 u8 = some out → ∀ (H : Heap) (locs : List Loc) (ls : Array Slot), va_P (dC, dI) vwCl [] H → va_D A [] → va_S A s.heap H locs → lv_has ls 11 [(0, .long a1), (2, .long a2), (4, .long u4), (6, .long u6), (8, .int u8)] → W p l e ({ frames := 0, cells := 0, slots := 0, locals := 0 }) s m args below meth c H locs 0 0 (MQ below (va_Ql (fun r (_ : Unit) => r = out) (fun (_ : Unit) t => zB dC dI [] A [] t) A) args s 0 0 A) (F0 m 9 ls []) := by
  intro k
  induction k with
  | zero => intro u4 u6 u8 hr; rw [f_X0_commonDivisor_9] at hr; cases hr
  | succ k ih =>
    intro u4 u6 u8 hr H locs ls hP hD hS hl
    rw [f_X0_commonDivisor_9] at hr
    refine lv_iload hx hb dX0_commonDivisor_9 (lv_at hl 4 rfl) ?_
    refine lv_bipush (v := 100) hx hb dX0_commonDivisor_11 (by decide) ?_
    refine lz_ige (tgt := 44) hx hb dX0_commonDivisor_13 (by decide) (fun c_1 => ?_) (fun c_1 => ?_)
    · have hr := (if_neg c_1).symm.trans hr
      refine lv_lload hx hb dX0_commonDivisor_44 (lv_at hl 2 rfl) ?_
      have ho := Option.some.inj hr
      subst ho
      exact W.lret (v := u4) hx hb hrt (fun t ht hW => ⟨⟨u4, (), rfl, rfl, by rw [ht]; exact hP, va_K.moved hW.alike hK, hD⟩, hS.F ht⟩) hS.2.2 dX0_commonDivisor_46
    · have hr := (if_pos c_1).symm.trans hr
      refine lv_lload hx hb dX0_commonDivisor_16 (lv_at hl 3 rfl) ?_
      refine lv_lconst (v := 0) hx hb dX0_commonDivisor_18 (by decide) ?_
      refine lz_leq (tgt := 44) hx hb dX0_commonDivisor_19 dX0_commonDivisor_20 (by decide) (fun c_2 => ?_) (fun c_2 => ?_)
      · have hr := (if_pos c_2).symm.trans hr
        refine lv_lload hx hb dX0_commonDivisor_44 (lv_at hl 2 rfl) ?_
        have ho := Option.some.inj hr
        subst ho
        exact W.lret (v := u4) hx hb hrt (fun t ht hW => ⟨⟨u4, (), rfl, rfl, by rw [ht]; exact hP, va_K.moved hW.alike hK, hD⟩, hS.F ht⟩) hS.2.2 dX0_commonDivisor_46
      · have hr := (if_neg c_2).symm.trans hr
        refine lv_lload hx hb dX0_commonDivisor_23 (lv_at hl 2 rfl) ?_
        refine lv_lload hx hb dX0_commonDivisor_25 (lv_at hl 3 rfl) ?_
        by_cases g_3 : u6 = 0
        · have hr := (if_pos g_3).symm.trans hr
          cases hr
        have hr := (if_neg g_3).symm.trans hr
        refine lv_lrem hx hb dX0_commonDivisor_27 g_3 ?_
        refine lv_lstore (lv' := [(9, .long (u4 - u4 / u6 * u6)), (0, .long a1), (2, .long a2), (4, .long u4), (6, .long u6), (8, .int u8)]) hx hb dX0_commonDivisor_28 hl (by decide) rfl (fun ls hl => ?_)
        refine lv_lload hx hb dX0_commonDivisor_30 (lv_at hl 4 rfl) ?_
        refine lv_lstore (lv' := [(4, .long u6), (9, .long (u4 - u4 / u6 * u6)), (0, .long a1), (2, .long a2), (6, .long u6), (8, .int u8)]) hx hb dX0_commonDivisor_32 hl (by decide) rfl (fun ls hl => ?_)
        refine lv_lload hx hb dX0_commonDivisor_34 (lv_at hl 1 rfl) ?_
        refine lv_lstore (lv' := [(6, .long (u4 - u4 / u6 * u6)), (4, .long u6), (9, .long (u4 - u4 / u6 * u6)), (0, .long a1), (2, .long a2), (8, .int u8)]) hx hb dX0_commonDivisor_36 hl (by decide) rfl (fun ls hl => ?_)
        refine lv_iinc (v := u8 + 1) (lv' := [(8, .int (u8 + 1)), (6, .long (u4 - u4 / u6 * u6)), (4, .long u6), (9, .long (u4 - u4 / u6 * u6)), (0, .long a1), (2, .long a2)]) hx hb dX0_commonDivisor_38 hl (k := 5) rfl rfl (by decide) rfl (fun ls hl => ?_)
        refine lv_goto (tgt := 9) hx hb dX0_commonDivisor_41 (by decide) ?_
        exact ih u6 (u4 - u4 / u6 * u6) (u8 + 1) hr _ _ _ hP hD hS (lv_sub hl [4, 5, 2, 1, 0] rfl)
def f_X0_commonDivisor (n : Nat) (a1 : Int64) (a2 : Int64) : Option (Int64) := f_X0_commonDivisor_9 n n a1 a2 0
set_option maxHeartbeats 4000000 in
set_option maxRecDepth 100000 in
theorem c_X0_commonDivisor (l : Launch) (dC : Nat → ClassId) (dI : Nat → Nat → Nat) (sz : Nat)  (a1 : Int64) (a2 : Int64)  (n : Nat) (out : Int64) (hr : f_X0_commonDivisor n a1 a2 = some out) : Met l yX0_commonDivisor wsX0_commonDivisor ({ frames := 0, cells := 0, slots := 0, locals := 0 }) (va_Pc [.long a1, .long a2] (zP dC dI [] [] sz)) (va_Ql (fun r (_ : Unit) => r = out) (fun (_ : Unit) t => zB dC dI [] (va_A [] sz) [] t) (va_A [] sz)) 0 0 (va_A [] sz) := by
  refine Met.ofW (cc := cX0_commonDivisor) (maxL := 11) (ret := (some .long)) (by decide +kernel) rfl ?_
  intro p e s m args below meth c s₁ B hml hv
  obtain ⟨rfl, hsz, hP, hK, hD0⟩ := hv
  have hx := B.exec
  have hb := B.bytes
  have hrt := B.returns
  have hts := atoms_spec (ws := wsX0_commonDivisor) B.pre
  have hown : s.vm.findClass RX0 = some m.cls := findClass_of_methodNamed B.named
  have hlocks := B.notSynchronized
  subst hsz
  have hD := hD0.self (sz := s.heap.size)
  generalize hAe : va_A [] s.heap.size = A at hD ⊢
  have hA : ∀ q : Nat, s.heap.size ≤ q → A q := fun q h => by rw [← hAe]; exact Or.inr h
  have hS : va_S A s.heap s.heap [] := va_S.rf
  have hP : va_P (dC, dI) vwCl [] s.heap := hP
  have hl := lv_entry ([.long a1, .long a2]) (n := 11) (Nat.le_of_ble_eq_true rfl)
  rw [lg_entry_eq]
  generalize (lg_sl ([.long a1, .long a2]) ++ List.replicate (11 - (lg_sl ([.long a1, .long a2])).length) Slot.unset).toArray = ls at hl ⊢
  have hl : lv_has ls 11 [(0, .long a1), (2, .long a2)] := hl
  unfold f_X0_commonDivisor at hr
  refine lv_lload_n hx hb dX0_commonDivisor_0 rfl (lv_at hl 0 rfl) ?_
  refine lv_lstore (lv' := [(4, .long a1), (0, .long a1), (2, .long a2)]) hx hb dX0_commonDivisor_1 hl (by decide) rfl (fun ls hl => ?_)
  refine lv_lload_n hx hb dX0_commonDivisor_3 rfl (lv_at hl 2 rfl) ?_
  refine lv_lstore (lv' := [(6, .long a2), (4, .long a1), (0, .long a1), (2, .long a2)]) hx hb dX0_commonDivisor_4 hl (by decide) rfl (fun ls hl => ?_)
  refine lv_iconst (v := 0) hx hb dX0_commonDivisor_6 (by decide) ?_
  refine lv_istore (lv' := [(8, .int 0), (6, .long a2), (4, .long a1), (0, .long a1), (2, .long a2)]) hx hb dX0_commonDivisor_7 hl (by decide) rfl (fun ls hl => ?_)
  exact k_X0_commonDivisor_9 hx hb hrt hml hown hlocks hts hA hK n out n a1 a2 0 hr _ _ _ hP hD hS (lv_sub hl [3, 4, 2, 1, 0] rfl)
