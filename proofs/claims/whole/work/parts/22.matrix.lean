def f_X1_isTooGreat (n : Nat) (a1 : Int64) : Option (Int32) := if 536870912 < a1 then (some 1) else (if a1 < (-536870912) then (some 1) else (some 0))
set_option maxHeartbeats 4000000 in
set_option maxRecDepth 100000 in
theorem c_X1_isTooGreat (l : Launch) (dC : Nat → ClassId) (dI : Nat → Nat → Nat) (sz : Nat)  (a1 : Int64)  (n : Nat) (out : Int32) (hr : f_X1_isTooGreat n a1 = some out) : Met l yX1_isTooGreat wsX1_isTooGreat ({ frames := 0, cells := 0, slots := 0, locals := 0 }) (va_Pc [.long a1] (zP dC dI [] [] sz)) (va_Qi (fun r (_ : Unit) => r = out ∧ narrow .boolean (.int r) = .int r) (fun (_ : Unit) t => zB dC dI [] (va_A [] sz) [] t) (va_A [] sz)) 0 0 (va_A [] sz) := by
  refine Met.ofW (cc := cX1_isTooGreat) (maxL := 2) (ret := (some .boolean)) (by decide +kernel) rfl ?_
  intro p e s m args below meth c s₁ B hml hv
  obtain ⟨rfl, hsz, hP, hK, hD0⟩ := hv
  have hx := B.exec
  have hb := B.bytes
  have hrt := B.returns
  have hts := atoms_spec (ws := wsX1_isTooGreat) B.pre
  have hown : s.vm.findClass RX1 = some m.cls := findClass_of_methodNamed B.named
  have hlocks := B.notSynchronized
  subst hsz
  have hD := hD0.self (sz := s.heap.size)
  generalize hAe : va_A [] s.heap.size = A at hD ⊢
  have hA : ∀ q : Nat, s.heap.size ≤ q → A q := fun q h => by rw [← hAe]; exact Or.inr h
  have hS : va_S A s.heap s.heap [] := va_S.rf
  have hP : va_P (dC, dI) vwCl [] s.heap := hP
  have hl := lv_entry ([.long a1]) (n := 2) (Nat.le_of_ble_eq_true rfl)
  rw [lg_entry_eq]
  generalize (lg_sl ([.long a1]) ++ List.replicate (2 - (lg_sl ([.long a1])).length) Slot.unset).toArray = ls at hl ⊢
  have hl : lv_has ls 2 [(0, .long a1)] := hl
  unfold f_X1_isTooGreat at hr
  refine lv_lload_n hx hb dX1_isTooGreat_0 rfl (lv_at hl 0 rfl) ?_
  refine lv_ldc2 (v := 536870912) hx hb hown (hts (.constantLong RX1 64 (536870912)) (by decide +kernel)) dX1_isTooGreat_1 ?_
  refine lz_lgt (tgt := 16) hx hb dX1_isTooGreat_4 dX1_isTooGreat_5 (by decide) (fun c_1 => ?_) (fun c_1 => ?_)
  · have hr := (if_pos c_1).symm.trans hr
    refine lv_iconst (v := 1) hx hb dX1_isTooGreat_16 (by decide) ?_
    refine lv_goto (tgt := 21) hx hb dX1_isTooGreat_17 (by decide) ?_
    have ho := Option.some.inj hr
    subst ho
    exact W.zret (v := 1) hx hb hrt rfl (fun t ht hW => ⟨⟨1, (), rfl, ⟨rfl, rfl⟩, by rw [ht]; exact hP, va_K.moved hW.alike hK, hD⟩, hS.F ht⟩) hS.2.2 dX1_isTooGreat_21
  · have hr := (if_neg c_1).symm.trans hr
    refine lv_lload_n hx hb dX1_isTooGreat_8 rfl (lv_at hl 0 rfl) ?_
    refine lv_ldc2 (v := (-536870912)) hx hb hown (hts (.constantLong RX1 66 (-536870912)) (by decide +kernel)) dX1_isTooGreat_9 ?_
    refine lz_lge (tgt := 20) hx hb dX1_isTooGreat_12 dX1_isTooGreat_13 (by decide) (fun c_2 => ?_) (fun c_2 => ?_)
    · have hr := (if_neg c_2).symm.trans hr
      refine lv_iconst (v := 0) hx hb dX1_isTooGreat_20 (by decide) ?_
      have ho := Option.some.inj hr
      subst ho
      exact W.zret (v := 0) hx hb hrt rfl (fun t ht hW => ⟨⟨0, (), rfl, ⟨rfl, rfl⟩, by rw [ht]; exact hP, va_K.moved hW.alike hK, hD⟩, hS.F ht⟩) hS.2.2 dX1_isTooGreat_21
    · have hr := (if_pos c_2).symm.trans hr
      refine lv_iconst (v := 1) hx hb dX1_isTooGreat_16 (by decide) ?_
      refine lv_goto (tgt := 21) hx hb dX1_isTooGreat_17 (by decide) ?_
      have ho := Option.some.inj hr
      subst ho
      exact W.zret (v := 1) hx hb hrt rfl (fun t ht hW => ⟨⟨1, (), rfl, ⟨rfl, rfl⟩, by rw [ht]; exact hP, va_K.moved hW.alike hK, hD⟩, hS.F ht⟩) hS.2.2 dX1_isTooGreat_21

def f_X1_bitsOfWord_3 (n : Nat) : Nat → (a1 : Int32) → Int32 → Option (Int32)
  | 0, _, _ => none
  | k + 1, a1, u1 => if 0 < u1 then (if ((a1.toUInt32 >>> ((u1 : Int32).toUInt32 &&& Int32.toUInt32 31)).toInt32) = 0 then (f_X1_bitsOfWord_3 n k a1 (u1 + (-1))) else (some (u1 + 1))) else (some a1)
set_option maxHeartbeats 4000000 in
set_option maxRecDepth 100000 in
theorem k_X1_bitsOfWord_3 {p : Program} {l : Launch} {e : Env} {s : State} {m : MethodId} {args : Array Value} {below : List Frame} {meth : Method} {c : Code} {dC : Nat → ClassId} {dI : Nat → Nat → Nat} {A : Nat → Prop}  {a1 : Int32} (hx : p.tables.exec = Jvm.exec) (hb : c.code = cX1_bitsOfWord) (hrt : meth.sig.returnType = (some .int)) (hml : c.maxLocals = 2) (hown : s.vm.findClass RX1 = some m.cls) (hlocks : meth.locks = false) (hts : ∀ w ∈ wsX1_bitsOfWord, w.before args s = true) (hA : ∀ q : Nat, s.heap.size ≤ q → A q) (hK : va_K (dC, dI) vwCl [] s)  (n : Nat) (out : Int32) :
    ∀ (k : Nat) (u1 : Int32), f_X1_bitsOfWord_3 n k a1 u1 = some out → ∀ (H : Heap) (locs : List Loc) (ls : Array Slot), va_P (dC, dI) vwCl [] H → va_D A [] → va_S A s.heap H locs → lv_has ls 2 [(0, .int a1), (1, .int u1)] → W p l e ({ frames := 0, cells := 0, slots := 0, locals := 0 }) s m args below meth c H locs 0 0 (MQ below (va_Qi (fun r (_ : Unit) => r = out) (fun (_ : Unit) t => zB dC dI [] A [] t) A) args s 0 0 A) (F0 m 3 ls []) := by
  intro k
  induction k with
  | zero => intro u1 hr; rw [f_X1_bitsOfWord_3] at hr; cases hr
  | succ k ih =>
    intro u1 hr H locs ls hP hD hS hl
    rw [f_X1_bitsOfWord_3] at hr
    refine lv_iload_n hx hb dX1_bitsOfWord_3 rfl (lv_at hl 1 rfl) ?_
    refine lz_zle (tgt := 23) hx hb dX1_bitsOfWord_4 (by decide) (fun c_1 => ?_) (fun c_1 => ?_)
    · have hr := (if_neg c_1).symm.trans hr
      refine lv_iload_n hx hb dX1_bitsOfWord_23 rfl (lv_at hl 0 rfl) ?_
      have ho := Option.some.inj hr
      subst ho
      exact W.iret (v := a1) hx hb hrt (fun t ht hW => ⟨⟨a1, (), rfl, rfl, by rw [ht]; exact hP, va_K.moved hW.alike hK, hD⟩, hS.F ht⟩) hS.2.2 dX1_bitsOfWord_24
    · have hr := (if_pos c_1).symm.trans hr
      refine lv_iload_n hx hb dX1_bitsOfWord_7 rfl (lv_at hl 0 rfl) ?_
      refine lv_iload_n hx hb dX1_bitsOfWord_8 rfl (lv_at hl 1 rfl) ?_
      refine lv_iushr hx hb dX1_bitsOfWord_9 rfl ?_
      refine lz_zeq (tgt := 17) hx hb dX1_bitsOfWord_10 (by decide) (fun c_2 => ?_) (fun c_2 => ?_)
      · have hr := (if_pos c_2).symm.trans hr
        refine lv_iinc (v := u1 + (-1)) (lv' := [(1, .int (u1 + (-1))), (0, .int a1)]) hx hb dX1_bitsOfWord_17 hl (k := 1) rfl rfl (by decide) rfl (fun ls hl => ?_)
        refine lv_goto (tgt := 3) hx hb dX1_bitsOfWord_20 (by decide) ?_
        exact ih (u1 + (-1)) hr _ _ _ hP hD hS (lv_sub hl [1, 0] rfl)
      · have hr := (if_neg c_2).symm.trans hr
        refine lv_iload_n hx hb dX1_bitsOfWord_13 rfl (lv_at hl 1 rfl) ?_
        refine lv_iconst (v := 1) hx hb dX1_bitsOfWord_14 (by decide) ?_
        refine lv_iadd hx hb dX1_bitsOfWord_15 ?_
        have ho := Option.some.inj hr
        subst ho
        exact W.iret (v := u1 + 1) hx hb hrt (fun t ht hW => ⟨⟨u1 + 1, (), rfl, rfl, by rw [ht]; exact hP, va_K.moved hW.alike hK, hD⟩, hS.F ht⟩) hS.2.2 dX1_bitsOfWord_16
def f_X1_bitsOfWord (n : Nat) (a1 : Int32) : Option (Int32) := f_X1_bitsOfWord_3 n n a1 31
set_option maxHeartbeats 4000000 in
set_option maxRecDepth 100000 in
theorem c_X1_bitsOfWord (l : Launch) (dC : Nat → ClassId) (dI : Nat → Nat → Nat) (sz : Nat)  (a1 : Int32)  (n : Nat) (out : Int32) (hr : f_X1_bitsOfWord n a1 = some out) : Met l yX1_bitsOfWord wsX1_bitsOfWord ({ frames := 0, cells := 0, slots := 0, locals := 0 }) (va_Pc [.int a1] (zP dC dI [] [] sz)) (va_Qi (fun r (_ : Unit) => r = out) (fun (_ : Unit) t => zB dC dI [] (va_A [] sz) [] t) (va_A [] sz)) 0 0 (va_A [] sz) := by
  refine Met.ofW (cc := cX1_bitsOfWord) (maxL := 2) (ret := (some .int)) (by decide +kernel) rfl ?_
  intro p e s m args below meth c s₁ B hml hv
  obtain ⟨rfl, hsz, hP, hK, hD0⟩ := hv
  have hx := B.exec
  have hb := B.bytes
  have hrt := B.returns
  have hts := atoms_spec (ws := wsX1_bitsOfWord) B.pre
  have hown : s.vm.findClass RX1 = some m.cls := findClass_of_methodNamed B.named
  have hlocks := B.notSynchronized
  subst hsz
  have hD := hD0.self (sz := s.heap.size)
  generalize hAe : va_A [] s.heap.size = A at hD ⊢
  have hA : ∀ q : Nat, s.heap.size ≤ q → A q := fun q h => by rw [← hAe]; exact Or.inr h
  have hS : va_S A s.heap s.heap [] := va_S.rf
  have hP : va_P (dC, dI) vwCl [] s.heap := hP
  have hl := lv_entry ([.int a1]) (n := 2) (Nat.le_of_ble_eq_true rfl)
  rw [lg_entry_eq]
  generalize (lg_sl ([.int a1]) ++ List.replicate (2 - (lg_sl ([.int a1])).length) Slot.unset).toArray = ls at hl ⊢
  have hl : lv_has ls 2 [(0, .int a1)] := hl
  unfold f_X1_bitsOfWord at hr
  refine lv_bipush (v := 31) hx hb dX1_bitsOfWord_0 (by decide) ?_
  refine lv_istore_n (lv' := [(1, .int 31), (0, .int a1)]) hx hb dX1_bitsOfWord_2 rfl hl (by decide) rfl (fun ls hl => ?_)
  exact k_X1_bitsOfWord_3 hx hb hrt hml hown hlocks hts hA hK n out n 31 hr _ _ _ hP hD hS (lv_sub hl [1, 0] rfl)

theorem in_X1_forgetWaiting_X1 : ∀ w ∈ u_ws RX1 TX1 7, w ∈ wsX1_forgetWaiting := by decide +kernel
def f_X1_forgetWaiting (n : Nat)  : Option (Int64 × Int64 × Int64 × Int64) := some (1, 0, 0, 1)
set_option maxHeartbeats 4000000 in
set_option maxRecDepth 100000 in
theorem c_X1_forgetWaiting (l : Launch) (dC : Nat → ClassId) (dI : Nat → Nat → Nat) (sz : Nat) (h0 : Nat) (gN : Nat) (gS : Nat) (m2 : Int32) (m3 : Int64) (m4 : Int64) (m5 : Int64) (m6 : Int64)   (n : Nat) (out : Int64 × Int64 × Int64 × Int64) (hr : f_X1_forgetWaiting n  = some out) : Met l yX1_forgetWaiting wsX1_forgetWaiting ({ frames := 0, cells := 0, slots := 0, locals := 0 }) (va_Pc [.ref h0] (zP dC dI [] [(h0, .inr (1, [.ref gN, .ref gS, .int m2, .long m3, .long m4, .long m5, .long m6]))] sz)) (va_Qv (fun (_ : Unit) => True) (fun (_ : Unit) t => zB dC dI [] (va_A [(h0, .inr (1, [.ref gN, .ref gS, .int m2, .long m3, .long m4, .long m5, .long m6]))] sz) [(h0, .inr (1, [.ref gN, .ref gS, .int m2, .long out.1, .long out.2.1, .long out.2.2.1, .long out.2.2.2]))] t) (va_A [(h0, .inr (1, [.ref gN, .ref gS, .int m2, .long m3, .long m4, .long m5, .long m6]))] sz)) 0 0 (va_A [(h0, .inr (1, [.ref gN, .ref gS, .int m2, .long m3, .long m4, .long m5, .long m6]))] sz) := by
  refine Met.ofW (cc := cX1_forgetWaiting) (maxL := 1) (ret := none) (by decide +kernel) rfl ?_
  intro p e s m args below meth c s₁ B hml hv
  obtain ⟨rfl, hsz, hP, hK, hD0⟩ := hv
  have hx := B.exec
  have hb := B.bytes
  have hrt := B.returns
  have hts := atoms_spec (ws := wsX1_forgetWaiting) B.pre
  have hown : s.vm.findClass RX1 = some m.cls := findClass_of_methodNamed B.named
  have hlocks := B.notSynchronized
  subst hsz
  have hD := hD0.self (sz := s.heap.size)
  generalize hAe : va_A [(h0, .inr (1, [.ref gN, .ref gS, .int m2, .long m3, .long m4, .long m5, .long m6]))] s.heap.size = A at hD ⊢
  have hA : ∀ q : Nat, s.heap.size ≤ q → A q := fun q h => by rw [← hAe]; exact Or.inr h
  have hS : va_S A s.heap s.heap [] := va_S.rf
  have hP : va_P (dC, dI) vwCl [(h0, .inr (1, [.ref gN, .ref gS, .int m2, .long m3, .long m4, .long m5, .long m6]))] s.heap := hP
  have hl := lv_entry ([.ref h0]) (n := 1) (Nat.le_of_ble_eq_true rfl)
  rw [lg_entry_eq]
  generalize (lg_sl ([.ref h0]) ++ List.replicate (1 - (lg_sl ([.ref h0])).length) Slot.unset).toArray = ls at hl ⊢
  have hl : lv_has ls 1 [(0, .ref h0)] := hl
  unfold f_X1_forgetWaiting at hr
  refine lv_aload_n hx hb dX1_forgetWaiting_0 rfl (lv_at hl 0 rfl) ?_
  refine lv_lconst (v := 1) hx hb dX1_forgetWaiting_1 (by decide) ?_
  refine va_put (D := (dC, dI)) (ci := 1) (v := .long 1) (ty := .long) (C := RX1) (T := TX1) (N := 7) hx hb hts in_X1_forgetWaiting_X1 tyX1 tyX1_ok nmX1 hown hK hP hD hS 0 rfl rfl 3 (by decide) (hts (.fieldLink RX1 30 "FormRing$Matrix" "waiting0" "J") (by decide +kernel)) (fun _ h9 => h9) rfl (by decide +kernel) rfl rfl (Nat.le_of_ble_eq_true rfl) dX1_forgetWaiting_2 (fun H locs hP hD hS => ?_)
  have hP : va_P (dC, dI) vwCl [(h0, .inr (1, [.ref gN, .ref gS, .int m2, .long 1, .long m4, .long m5, .long m6]))] H := hP
  have hD : va_D A [(h0, .inr (1, [.ref gN, .ref gS, .int m2, .long 1, .long m4, .long m5, .long m6]))] := hD
  refine lv_aload_n hx hb dX1_forgetWaiting_5 rfl (lv_at hl 0 rfl) ?_
  refine lv_lconst (v := 0) hx hb dX1_forgetWaiting_6 (by decide) ?_
  refine va_put (D := (dC, dI)) (ci := 1) (v := .long 0) (ty := .long) (C := RX1) (T := TX1) (N := 7) hx hb hts in_X1_forgetWaiting_X1 tyX1 tyX1_ok nmX1 hown hK hP hD hS 0 rfl rfl 4 (by decide) (hts (.fieldLink RX1 41 "FormRing$Matrix" "waiting1" "J") (by decide +kernel)) (fun _ h9 => h9) rfl (by decide +kernel) rfl rfl (Nat.le_of_ble_eq_true rfl) dX1_forgetWaiting_7 (fun H locs hP hD hS => ?_)
  have hP : va_P (dC, dI) vwCl [(h0, .inr (1, [.ref gN, .ref gS, .int m2, .long 1, .long 0, .long m5, .long m6]))] H := hP
  have hD : va_D A [(h0, .inr (1, [.ref gN, .ref gS, .int m2, .long 1, .long 0, .long m5, .long m6]))] := hD
  refine lv_aload_n hx hb dX1_forgetWaiting_10 rfl (lv_at hl 0 rfl) ?_
  refine lv_lconst (v := 0) hx hb dX1_forgetWaiting_11 (by decide) ?_
  refine va_put (D := (dC, dI)) (ci := 1) (v := .long 0) (ty := .long) (C := RX1) (T := TX1) (N := 7) hx hb hts in_X1_forgetWaiting_X1 tyX1 tyX1_ok nmX1 hown hK hP hD hS 0 rfl rfl 5 (by decide) (hts (.fieldLink RX1 34 "FormRing$Matrix" "waiting2" "J") (by decide +kernel)) (fun _ h9 => h9) rfl (by decide +kernel) rfl rfl (Nat.le_of_ble_eq_true rfl) dX1_forgetWaiting_12 (fun H locs hP hD hS => ?_)
  have hP : va_P (dC, dI) vwCl [(h0, .inr (1, [.ref gN, .ref gS, .int m2, .long 1, .long 0, .long 0, .long m6]))] H := hP
  have hD : va_D A [(h0, .inr (1, [.ref gN, .ref gS, .int m2, .long 1, .long 0, .long 0, .long m6]))] := hD
  refine lv_aload_n hx hb dX1_forgetWaiting_15 rfl (lv_at hl 0 rfl) ?_
  refine lv_lconst (v := 1) hx hb dX1_forgetWaiting_16 (by decide) ?_
  refine va_put (D := (dC, dI)) (ci := 1) (v := .long 1) (ty := .long) (C := RX1) (T := TX1) (N := 7) hx hb hts in_X1_forgetWaiting_X1 tyX1 tyX1_ok nmX1 hown hK hP hD hS 0 rfl rfl 6 (by decide) (hts (.fieldLink RX1 44 "FormRing$Matrix" "waiting3" "J") (by decide +kernel)) (fun _ h9 => h9) rfl (by decide +kernel) rfl rfl (Nat.le_of_ble_eq_true rfl) dX1_forgetWaiting_17 (fun H locs hP hD hS => ?_)
  have hP : va_P (dC, dI) vwCl [(h0, .inr (1, [.ref gN, .ref gS, .int m2, .long 1, .long 0, .long 0, .long 1]))] H := hP
  have hD : va_D A [(h0, .inr (1, [.ref gN, .ref gS, .int m2, .long 1, .long 0, .long 0, .long 1]))] := hD
  have ho := Option.some.inj hr
  subst ho
  exact W.vret hx hb hrt (fun t ht hW => ⟨⟨(), rfl, trivial, by rw [ht]; exact hP, va_K.moved hW.alike hK, hD⟩, hS.F ht⟩) hS.2.2 dX1_forgetWaiting_20

theorem in_X1_signOf_X1 : ∀ w ∈ u_ws RX1 TX1 7, w ∈ wsX1_signOf := by decide +kernel
def f_X1_signOf (n : Nat) (sg : Nat → Int32) (a1 : Int32) : Option (Int32) := if a1 < 0 ∨ 4 ≤ a1.toNatClampNeg then none else (some (sg a1.toNatClampNeg))
set_option maxHeartbeats 4000000 in
set_option maxRecDepth 100000 in
theorem c_X1_signOf (l : Launch) (dC : Nat → ClassId) (dI : Nat → Nat → Nat) (sz : Nat) (h0 : Nat) (gN : Nat) (gS : Nat) (m2 : Int32) (m3 : Int64) (m4 : Int64) (m5 : Int64) (m6 : Int64) (cI : ClassId) (sg : Nat → Int32) (a1 : Int32)  (n : Nat) (out : Int32) (hr : f_X1_signOf n sg a1 = some out) : Met l yX1_signOf wsX1_signOf ({ frames := 0, cells := 0, slots := 0, locals := 0 }) (va_Pc [.ref h0, .int a1] (zP dC dI [(cI, .int)] [(h0, .inr (1, [.ref gN, .ref gS, .int m2, .long m3, .long m4, .long m5, .long m6])), (gS, .inl (cI, 4, .inl sg))] sz)) (va_Qi (fun r (_ : Unit) => r = out) (fun (_ : Unit) t => zB dC dI [(cI, .int)] (va_A [(h0, .inr (1, [.ref gN, .ref gS, .int m2, .long m3, .long m4, .long m5, .long m6])), (gS, .inl (cI, 4, .inl sg))] sz) [(h0, .inr (1, [.ref gN, .ref gS, .int m2, .long m3, .long m4, .long m5, .long m6])), (gS, .inl (cI, 4, .inl sg))] t) (va_A [(h0, .inr (1, [.ref gN, .ref gS, .int m2, .long m3, .long m4, .long m5, .long m6])), (gS, .inl (cI, 4, .inl sg))] sz)) 0 0 (va_A [(h0, .inr (1, [.ref gN, .ref gS, .int m2, .long m3, .long m4, .long m5, .long m6])), (gS, .inl (cI, 4, .inl sg))] sz) := by
  refine Met.ofW (cc := cX1_signOf) (maxL := 2) (ret := (some .int)) (by decide +kernel) rfl ?_
  intro p e s m args below meth c s₁ B hml hv
  obtain ⟨rfl, hsz, hP, hK, hD0⟩ := hv
  have hx := B.exec
  have hb := B.bytes
  have hrt := B.returns
  have hts := atoms_spec (ws := wsX1_signOf) B.pre
  have hown : s.vm.findClass RX1 = some m.cls := findClass_of_methodNamed B.named
  have hlocks := B.notSynchronized
  subst hsz
  have hD := hD0.self (sz := s.heap.size)
  generalize hAe : va_A [(h0, .inr (1, [.ref gN, .ref gS, .int m2, .long m3, .long m4, .long m5, .long m6])), (gS, .inl (cI, 4, .inl sg))] s.heap.size = A at hD ⊢
  have hA : ∀ q : Nat, s.heap.size ≤ q → A q := fun q h => by rw [← hAe]; exact Or.inr h
  have hS : va_S A s.heap s.heap [] := va_S.rf
  have hP : va_P (dC, dI) vwCl [(h0, .inr (1, [.ref gN, .ref gS, .int m2, .long m3, .long m4, .long m5, .long m6])), (gS, .inl (cI, 4, .inl sg))] s.heap := hP
  have hl := lv_entry ([.ref h0, .int a1]) (n := 2) (Nat.le_of_ble_eq_true rfl)
  rw [lg_entry_eq]
  generalize (lg_sl ([.ref h0, .int a1]) ++ List.replicate (2 - (lg_sl ([.ref h0, .int a1])).length) Slot.unset).toArray = ls at hl ⊢
  have hl : lv_has ls 2 [(0, .ref h0), (1, .int a1)] := hl
  unfold f_X1_signOf at hr
  refine lv_aload_n hx hb dX1_signOf_0 rfl (lv_at hl 0 rfl) ?_
  refine va_get (D := (dC, dI)) (ci := 1) (v := .ref gS) (C := RX1) (T := TX1) (N := 7) hx hb hts in_X1_signOf_X1 hown hK hP 0 rfl rfl 1 (by decide) (hts (.fieldLink RX1 16 "FormRing$Matrix" "signs" "[I") (by decide +kernel)) (fun _ h9 => h9) rfl dX1_signOf_1 ?_
  refine lv_iload_n hx hb dX1_signOf_4 rfl (lv_at hl 1 rfl) ?_
  by_cases g_1 : a1 < 0 ∨ 4 ≤ a1.toNatClampNeg
  · have hr := (if_pos g_1).symm.trans hr
    cases hr
  have hr := (if_neg g_1).symm.trans hr
  refine va_iald hx hb hK hP 1 0 rfl rfl g_1 dX1_signOf_5 ?_
  have ho := Option.some.inj hr
  subst ho
  exact W.iret (v := sg a1.toNatClampNeg) hx hb hrt (fun t ht hW => ⟨⟨sg a1.toNatClampNeg, (), rfl, rfl, by rw [ht]; exact hP, va_K.moved hW.alike hK, hD⟩, hS.F ht⟩) hS.2.2 dX1_signOf_6

theorem in_X1_bitsOf_X1 : ∀ w ∈ u_ws RX1 TX1 7, w ∈ wsX1_bitsOf := by decide +kernel
def f_X1_bitsOf_7 (n : Nat) : Nat → (rw : Nat → Int32) → (a1 : Int32) → Int32 → Option (Int32)
  | 0, _, _, _ => none
  | k + 1, rw, a1, u2 => if u2 < 0 then (some 0) else (if a1 < 0 ∨ 4 ≤ a1.toNatClampNeg then none else (if u2 < 0 ∨ 256 ≤ u2.toNatClampNeg then none else (if (rw u2.toNatClampNeg) = 0 then (f_X1_bitsOf_7 n k rw a1 (u2 + (-1))) else (if a1 < 0 ∨ 4 ≤ a1.toNatClampNeg then none else (if u2 < 0 ∨ 256 ≤ u2.toNatClampNeg then none else ((f_X1_bitsOfWord n (rw u2.toNatClampNeg)).bind (fun r_8 => some ((32 * u2) + r_8))))))))
set_option maxHeartbeats 4000000 in
set_option maxRecDepth 100000 in
theorem k_X1_bitsOf_7 {p : Program} {l : Launch} {e : Env} {s : State} {m : MethodId} {args : Array Value} {below : List Frame} {meth : Method} {c : Code} {dC : Nat → ClassId} {dI : Nat → Nat → Nat} {A : Nat → Prop} {h0 : Nat} {gN : Nat} {gS : Nat} {m2 : Int32} {m3 : Int64} {m4 : Int64} {m5 : Int64} {m6 : Int64} {cI : ClassId} {cO : ClassId} {F : Nat → Option Nat} {q : Nat} {rw : Nat → Int32} {a1 : Int32} (hx : p.tables.exec = Jvm.exec) (hb : c.code = cX1_bitsOf) (hrt : meth.sig.returnType = (some .int)) (hml : c.maxLocals = 3) (hown : s.vm.findClass RX1 = some m.cls) (hlocks : meth.locks = false) (hts : ∀ w ∈ wsX1_bitsOf, w.before args s = true) (hA : ∀ q : Nat, s.heap.size ≤ q → A q) (hK : va_K (dC, dI) vwCl [(cI, .int), (cO, .array .int)] s) (hF : F a1.toNatClampNeg = some q) (n : Nat) (out : Int32) :
    ∀ (k : Nat) (u2 : Int32), f_X1_bitsOf_7 n k rw a1 u2 = some out → ∀ (H : Heap) (locs : List Loc) (ls : Array Slot), va_P (dC, dI) vwCl [(h0, .inr (1, [.ref gN, .ref gS, .int m2, .long m3, .long m4, .long m5, .long m6])), (gN, .inl (cO, 4, .inr (.inr (.inr (.inr F))))), (q, .inl (cI, 256, .inl rw))] H → va_D A [(h0, .inr (1, [.ref gN, .ref gS, .int m2, .long m3, .long m4, .long m5, .long m6])), (gN, .inl (cO, 4, .inr (.inr (.inr (.inr F))))), (q, .inl (cI, 256, .inl rw))] → va_S A s.heap H locs → lv_has ls 3 [(0, .ref h0), (1, .int a1), (2, .int u2)] → W p l e ({ frames := 1, cells := 0, slots := 0, locals := 21 }) s m args below meth c H locs 0 0 (MQ below (va_Qi (fun r (_ : Unit) => r = out) (fun (_ : Unit) t => zB dC dI [(cI, .int), (cO, .array .int)] A [(h0, .inr (1, [.ref gN, .ref gS, .int m2, .long m3, .long m4, .long m5, .long m6])), (gN, .inl (cO, 4, .inr (.inr (.inr (.inr F))))), (q, .inl (cI, 256, .inl rw))] t) A) args s 0 0 A) (F0 m 7 ls []) := by
  intro k
  induction k with
  | zero => intro u2 hr; rw [f_X1_bitsOf_7] at hr; cases hr
  | succ k ih =>
    intro u2 hr H locs ls hP hD hS hl
    rw [f_X1_bitsOf_7] at hr
    refine lv_iload_n hx hb dX1_bitsOf_7 rfl (lv_at hl 2 rfl) ?_
    refine lz_zlt (tgt := 45) hx hb dX1_bitsOf_8 (by decide) (fun c_1 => ?_) (fun c_1 => ?_)
    · have hr := (if_pos c_1).symm.trans hr
      refine lv_iconst (v := 0) hx hb dX1_bitsOf_45 (by decide) ?_
      have ho := Option.some.inj hr
      subst ho
      exact W.iret (v := 0) hx hb hrt (fun t ht hW => ⟨⟨0, (), rfl, rfl, by rw [ht]; exact hP, va_K.moved hW.alike hK, hD⟩, hS.F ht⟩) hS.2.2 dX1_bitsOf_46
    · have hr := (if_neg c_1).symm.trans hr
      refine lv_aload_n hx hb dX1_bitsOf_11 rfl (lv_at hl 0 rfl) ?_
      refine va_get (D := (dC, dI)) (ci := 1) (v := .ref gN) (C := RX1) (T := TX1) (N := 7) hx hb hts in_X1_bitsOf_X1 hown hK hP 0 rfl rfl 0 (by decide) (hts (.fieldLink RX1 13 "FormRing$Matrix" "numbers" "[[I") (by decide +kernel)) (fun _ h9 => h9) rfl dX1_bitsOf_12 ?_
      refine lv_iload_n hx hb dX1_bitsOf_15 rfl (lv_at hl 1 rfl) ?_
      by_cases g_2 : a1 < 0 ∨ 4 ≤ a1.toNatClampNeg
      · have hr := (if_pos g_2).symm.trans hr
        cases hr
      have hr := (if_neg g_2).symm.trans hr
      refine zz_ald hx hb hK hP 1 1 rfl rfl (q := q) hF g_2 dX1_bitsOf_16 ?_
      refine lv_iload_n hx hb dX1_bitsOf_17 rfl (lv_at hl 2 rfl) ?_
      by_cases g_3 : u2 < 0 ∨ 256 ≤ u2.toNatClampNeg
      · have hr := (if_pos g_3).symm.trans hr
        cases hr
      have hr := (if_neg g_3).symm.trans hr
      refine va_iald hx hb hK hP 2 0 rfl rfl g_3 dX1_bitsOf_18 ?_
      refine lz_zeq (tgt := 39) hx hb dX1_bitsOf_19 (by decide) (fun c_4 => ?_) (fun c_4 => ?_)
      · have hr := (if_pos c_4).symm.trans hr
        refine lv_iinc (v := u2 + (-1)) (lv' := [(2, .int (u2 + (-1))), (0, .ref h0), (1, .int a1)]) hx hb dX1_bitsOf_39 hl (k := 2) rfl rfl (by decide) rfl (fun ls hl => ?_)
        refine lv_goto (tgt := 7) hx hb dX1_bitsOf_42 (by decide) ?_
        exact ih (u2 + (-1)) hr _ _ _ hP hD hS (lv_sub hl [1, 2, 0] rfl)
      · have hr := (if_neg c_4).symm.trans hr
        refine lv_bipush (v := 32) hx hb dX1_bitsOf_22 (by decide) ?_
        refine lv_iload_n hx hb dX1_bitsOf_24 rfl (lv_at hl 2 rfl) ?_
        refine lv_imul hx hb dX1_bitsOf_25 ?_
        refine lv_aload_n hx hb dX1_bitsOf_26 rfl (lv_at hl 0 rfl) ?_
        refine va_get (D := (dC, dI)) (ci := 1) (v := .ref gN) (C := RX1) (T := TX1) (N := 7) hx hb hts in_X1_bitsOf_X1 hown hK hP 0 rfl rfl 0 (by decide) (hts (.fieldLink RX1 13 "FormRing$Matrix" "numbers" "[[I") (by decide +kernel)) (fun _ h9 => h9) rfl dX1_bitsOf_27 ?_
        refine lv_iload_n hx hb dX1_bitsOf_30 rfl (lv_at hl 1 rfl) ?_
        by_cases g_5 : a1 < 0 ∨ 4 ≤ a1.toNatClampNeg
        · have hr := (if_pos g_5).symm.trans hr
          cases hr
        have hr := (if_neg g_5).symm.trans hr
        refine zz_ald hx hb hK hP 1 1 rfl rfl (q := q) hF g_5 dX1_bitsOf_31 ?_
        refine lv_iload_n hx hb dX1_bitsOf_32 rfl (lv_at hl 2 rfl) ?_
        by_cases g_6 : u2 < 0 ∨ 256 ≤ u2.toNatClampNeg
        · have hr := (if_pos g_6).symm.trans hr
          cases hr
        have hr := (if_neg g_6).symm.trans hr
        refine va_iald hx hb hK hP 2 0 rfl rfl g_6 dX1_bitsOf_33 ?_
        cases e_7 : f_X1_bitsOfWord n (rw u2.toNatClampNeg) with
        | none => rw [e_7, Option.bind_none] at hr; cases hr
        | some r_8 =>
          rw [e_7, Option.bind_some] at hr
          have hPc := hP.sub (ws' := []) [] rfl
          have hDc := hD.sub (ws' := []) [] (by decide) rfl
          have hKc := hK.sub (tys' := []) [] rfl
          have hFc := va_free (wc := []) hD hS hA [] rfl
          refine va_calli (va_runS (As := [.int (rw u2.toNatClampNeg)]) (rest := [.int (32 * u2)]) ⟨hx, hb, hml, hown, hts⟩ (c_X1_bitsOfWord l dC dI H.size  (rw u2.toNatClampNeg) n _ e_7) (va_cwS 1 hts gX1_bitsOf_X1_bitsOfWord rfl rfl rfl (by decide +kernel) ⟨Nat.le_of_ble_eq_true rfl, Nat.le_of_ble_eq_true rfl⟩) ⟨fun a U g mk q => by obtain ⟨q0, q1, qP, qK, qD⟩ := q; exact ⟨q0, q1, qP, va_K.moved (u := U) (U := U.calling g mk a) (Vm.Alike.refl U.vm) qK, qD⟩, fun U hU hW => ⟨rfl, by rw [hU], by rw [hU]; exact hPc, va_K.moved hW.alike hKc, hDc.weaken (fun _ _ _ _ => trivial)⟩⟩ rfl rfl hl.1 rfl (lv_room (Nat.le_of_ble_eq_true rfl)) dX1_bitsOf_34 ⟨Nat.zero_le _, Nat.zero_le _⟩) hS (fun q _ h => hFc q h) hFc (fun x_9 _ t H1 locs ht hvm hw hB hz1 hk1 hS => ?_)
          have hw := hw.symm
          subst hw
          obtain ⟨hP1, hK1, hD1⟩ := hB
          rw [ht] at hP1
          obtain ⟨hP, hD⟩ := va_join (wr := [(h0, .inr (1, [.ref gN, .ref gS, .int m2, .long m3, .long m4, .long m5, .long m6])), (gN, .inl (cO, 4, .inr (.inr (.inr (.inr F))))), (q, .inl (cI, 256, .inl rw))]) (w1 := []) hP hD [] [0, 1, 2] rfl rfl (by decide) (by decide) hk1 hFc hP1 hD1
          generalize H1 = H at hP hS ⊢
          have hP : va_P (dC, dI) vwCl [(h0, .inr (1, [.ref gN, .ref gS, .int m2, .long m3, .long m4, .long m5, .long m6])), (gN, .inl (cO, 4, .inr (.inr (.inr (.inr F))))), (q, .inl (cI, 256, .inl rw))] H := hP
          have hD : va_D A [(h0, .inr (1, [.ref gN, .ref gS, .int m2, .long m3, .long m4, .long m5, .long m6])), (gN, .inl (cO, 4, .inr (.inr (.inr (.inr F))))), (q, .inl (cI, 256, .inl rw))] := hD
          refine W.widen (k := 0) (n := 0) (Nat.le_refl _) (Nat.le_refl _) ?_
          refine lv_iadd hx hb dX1_bitsOf_37 ?_
          have ho := Option.some.inj hr
          subst ho
          exact W.iret (v := (32 * u2) + r_8) hx hb hrt (fun t ht hW => ⟨⟨(32 * u2) + r_8, (), rfl, rfl, by rw [ht]; exact hP, va_K.moved hW.alike hK, hD⟩, hS.F ht⟩) hS.2.2 dX1_bitsOf_38
def f_X1_bitsOf (n : Nat) (m2 : Int32) (rw : Nat → Int32) (a1 : Int32) : Option (Int32) := f_X1_bitsOf_7 n n rw a1 (m2 - 1)
set_option maxHeartbeats 4000000 in
set_option maxRecDepth 100000 in
theorem c_X1_bitsOf (l : Launch) (dC : Nat → ClassId) (dI : Nat → Nat → Nat) (sz : Nat) (h0 : Nat) (gN : Nat) (gS : Nat) (m2 : Int32) (m3 : Int64) (m4 : Int64) (m5 : Int64) (m6 : Int64) (cI : ClassId) (cO : ClassId) (F : Nat → Option Nat) (q : Nat) (rw : Nat → Int32) (a1 : Int32) (hF : F a1.toNatClampNeg = some q) (n : Nat) (out : Int32) (hr : f_X1_bitsOf n m2 rw a1 = some out) : Met l yX1_bitsOf wsX1_bitsOf ({ frames := 1, cells := 0, slots := 0, locals := 21 }) (va_Pc [.ref h0, .int a1] (zP dC dI [(cI, .int), (cO, .array .int)] [(h0, .inr (1, [.ref gN, .ref gS, .int m2, .long m3, .long m4, .long m5, .long m6])), (gN, .inl (cO, 4, .inr (.inr (.inr (.inr F))))), (q, .inl (cI, 256, .inl rw))] sz)) (va_Qi (fun r (_ : Unit) => r = out) (fun (_ : Unit) t => zB dC dI [(cI, .int), (cO, .array .int)] (va_A [(h0, .inr (1, [.ref gN, .ref gS, .int m2, .long m3, .long m4, .long m5, .long m6])), (gN, .inl (cO, 4, .inr (.inr (.inr (.inr F))))), (q, .inl (cI, 256, .inl rw))] sz) [(h0, .inr (1, [.ref gN, .ref gS, .int m2, .long m3, .long m4, .long m5, .long m6])), (gN, .inl (cO, 4, .inr (.inr (.inr (.inr F))))), (q, .inl (cI, 256, .inl rw))] t) (va_A [(h0, .inr (1, [.ref gN, .ref gS, .int m2, .long m3, .long m4, .long m5, .long m6])), (gN, .inl (cO, 4, .inr (.inr (.inr (.inr F))))), (q, .inl (cI, 256, .inl rw))] sz)) 0 0 (va_A [(h0, .inr (1, [.ref gN, .ref gS, .int m2, .long m3, .long m4, .long m5, .long m6])), (gN, .inl (cO, 4, .inr (.inr (.inr (.inr F))))), (q, .inl (cI, 256, .inl rw))] sz) := by
  refine Met.ofW (cc := cX1_bitsOf) (maxL := 3) (ret := (some .int)) (by decide +kernel) rfl ?_
  intro p e s m args below meth c s₁ B hml hv
  obtain ⟨rfl, hsz, hP, hK, hD0⟩ := hv
  have hx := B.exec
  have hb := B.bytes
  have hrt := B.returns
  have hts := atoms_spec (ws := wsX1_bitsOf) B.pre
  have hown : s.vm.findClass RX1 = some m.cls := findClass_of_methodNamed B.named
  have hlocks := B.notSynchronized
  subst hsz
  have hD := hD0.self (sz := s.heap.size)
  generalize hAe : va_A [(h0, .inr (1, [.ref gN, .ref gS, .int m2, .long m3, .long m4, .long m5, .long m6])), (gN, .inl (cO, 4, .inr (.inr (.inr (.inr F))))), (q, .inl (cI, 256, .inl rw))] s.heap.size = A at hD ⊢
  have hA : ∀ q : Nat, s.heap.size ≤ q → A q := fun q h => by rw [← hAe]; exact Or.inr h
  have hS : va_S A s.heap s.heap [] := va_S.rf
  have hP : va_P (dC, dI) vwCl [(h0, .inr (1, [.ref gN, .ref gS, .int m2, .long m3, .long m4, .long m5, .long m6])), (gN, .inl (cO, 4, .inr (.inr (.inr (.inr F))))), (q, .inl (cI, 256, .inl rw))] s.heap := hP
  have hl := lv_entry ([.ref h0, .int a1]) (n := 3) (Nat.le_of_ble_eq_true rfl)
  rw [lg_entry_eq]
  generalize (lg_sl ([.ref h0, .int a1]) ++ List.replicate (3 - (lg_sl ([.ref h0, .int a1])).length) Slot.unset).toArray = ls at hl ⊢
  have hl : lv_has ls 3 [(0, .ref h0), (1, .int a1)] := hl
  unfold f_X1_bitsOf at hr
  refine lv_aload_n hx hb dX1_bitsOf_0 rfl (lv_at hl 0 rfl) ?_
  refine va_get (D := (dC, dI)) (ci := 1) (v := .int m2) (C := RX1) (T := TX1) (N := 7) hx hb hts in_X1_bitsOf_X1 hown hK hP 0 rfl rfl 2 (by decide) (hts (.fieldLink RX1 23 "FormRing$Matrix" "length" "I") (by decide +kernel)) (fun _ h9 => h9) rfl dX1_bitsOf_1 ?_
  refine lv_iconst (v := 1) hx hb dX1_bitsOf_4 (by decide) ?_
  refine lv_isub hx hb dX1_bitsOf_5 ?_
  refine lv_istore_n (lv' := [(2, .int (m2 - 1)), (0, .ref h0), (1, .int a1)]) hx hb dX1_bitsOf_6 rfl hl (by decide) rfl (fun ls hl => ?_)
  exact k_X1_bitsOf_7 hx hb hrt hml hown hlocks hts hA hK hF n out n (m2 - 1) hr _ _ _ hP hD hS (lv_sub hl [1, 2, 0] rfl)

theorem in_X1_wordOf_X1 : ∀ w ∈ u_ws RX1 TX1 7, w ∈ wsX1_wordOf := by decide +kernel
def f_X1_wordOf (n : Nat) (m2 : Int32) (rw : Nat → Int32) (a1 : Int32) (a2 : Int32) : Option (Int32) := if a2 < m2 then (if a1 < 0 ∨ 4 ≤ a1.toNatClampNeg then none else (if a2 < 0 ∨ 256 ≤ a2.toNatClampNeg then none else (some (rw a2.toNatClampNeg)))) else (some 0)
set_option maxHeartbeats 4000000 in
set_option maxRecDepth 100000 in
theorem c_X1_wordOf (l : Launch) (dC : Nat → ClassId) (dI : Nat → Nat → Nat) (sz : Nat) (h0 : Nat) (gN : Nat) (gS : Nat) (m2 : Int32) (m3 : Int64) (m4 : Int64) (m5 : Int64) (m6 : Int64) (cI : ClassId) (cO : ClassId) (F : Nat → Option Nat) (q : Nat) (rw : Nat → Int32) (a1 : Int32) (a2 : Int32) (hF : F a1.toNatClampNeg = some q) (n : Nat) (out : Int32) (hr : f_X1_wordOf n m2 rw a1 a2 = some out) : Met l yX1_wordOf wsX1_wordOf ({ frames := 0, cells := 0, slots := 0, locals := 0 }) (va_Pc [.ref h0, .int a1, .int a2] (zP dC dI [(cI, .int), (cO, .array .int)] [(h0, .inr (1, [.ref gN, .ref gS, .int m2, .long m3, .long m4, .long m5, .long m6])), (gN, .inl (cO, 4, .inr (.inr (.inr (.inr F))))), (q, .inl (cI, 256, .inl rw))] sz)) (va_Qi (fun r (_ : Unit) => r = out) (fun (_ : Unit) t => zB dC dI [(cI, .int), (cO, .array .int)] (va_A [(h0, .inr (1, [.ref gN, .ref gS, .int m2, .long m3, .long m4, .long m5, .long m6])), (gN, .inl (cO, 4, .inr (.inr (.inr (.inr F))))), (q, .inl (cI, 256, .inl rw))] sz) [(h0, .inr (1, [.ref gN, .ref gS, .int m2, .long m3, .long m4, .long m5, .long m6])), (gN, .inl (cO, 4, .inr (.inr (.inr (.inr F))))), (q, .inl (cI, 256, .inl rw))] t) (va_A [(h0, .inr (1, [.ref gN, .ref gS, .int m2, .long m3, .long m4, .long m5, .long m6])), (gN, .inl (cO, 4, .inr (.inr (.inr (.inr F))))), (q, .inl (cI, 256, .inl rw))] sz)) 0 0 (va_A [(h0, .inr (1, [.ref gN, .ref gS, .int m2, .long m3, .long m4, .long m5, .long m6])), (gN, .inl (cO, 4, .inr (.inr (.inr (.inr F))))), (q, .inl (cI, 256, .inl rw))] sz) := by
  refine Met.ofW (cc := cX1_wordOf) (maxL := 3) (ret := (some .int)) (by decide +kernel) rfl ?_
  intro p e s m args below meth c s₁ B hml hv
  obtain ⟨rfl, hsz, hP, hK, hD0⟩ := hv
  have hx := B.exec
  have hb := B.bytes
  have hrt := B.returns
  have hts := atoms_spec (ws := wsX1_wordOf) B.pre
  have hown : s.vm.findClass RX1 = some m.cls := findClass_of_methodNamed B.named
  have hlocks := B.notSynchronized
  subst hsz
  have hD := hD0.self (sz := s.heap.size)
  generalize hAe : va_A [(h0, .inr (1, [.ref gN, .ref gS, .int m2, .long m3, .long m4, .long m5, .long m6])), (gN, .inl (cO, 4, .inr (.inr (.inr (.inr F))))), (q, .inl (cI, 256, .inl rw))] s.heap.size = A at hD ⊢
  have hA : ∀ q : Nat, s.heap.size ≤ q → A q := fun q h => by rw [← hAe]; exact Or.inr h
  have hS : va_S A s.heap s.heap [] := va_S.rf
  have hP : va_P (dC, dI) vwCl [(h0, .inr (1, [.ref gN, .ref gS, .int m2, .long m3, .long m4, .long m5, .long m6])), (gN, .inl (cO, 4, .inr (.inr (.inr (.inr F))))), (q, .inl (cI, 256, .inl rw))] s.heap := hP
  have hl := lv_entry ([.ref h0, .int a1, .int a2]) (n := 3) (Nat.le_of_ble_eq_true rfl)
  rw [lg_entry_eq]
  generalize (lg_sl ([.ref h0, .int a1, .int a2]) ++ List.replicate (3 - (lg_sl ([.ref h0, .int a1, .int a2])).length) Slot.unset).toArray = ls at hl ⊢
  have hl : lv_has ls 3 [(0, .ref h0), (1, .int a1), (2, .int a2)] := hl
  unfold f_X1_wordOf at hr
  refine lv_iload_n hx hb dX1_wordOf_0 rfl (lv_at hl 2 rfl) ?_
  refine lv_aload_n hx hb dX1_wordOf_1 rfl (lv_at hl 0 rfl) ?_
  refine va_get (D := (dC, dI)) (ci := 1) (v := .int m2) (C := RX1) (T := TX1) (N := 7) hx hb hts in_X1_wordOf_X1 hown hK hP 0 rfl rfl 2 (by decide) (hts (.fieldLink RX1 23 "FormRing$Matrix" "length" "I") (by decide +kernel)) (fun _ h9 => h9) rfl dX1_wordOf_2 ?_
  refine lz_ige (tgt := 19) hx hb dX1_wordOf_5 (by decide) (fun c_1 => ?_) (fun c_1 => ?_)
  · have hr := (if_neg c_1).symm.trans hr
    refine lv_iconst (v := 0) hx hb dX1_wordOf_19 (by decide) ?_
    have ho := Option.some.inj hr
    subst ho
    exact W.iret (v := 0) hx hb hrt (fun t ht hW => ⟨⟨0, (), rfl, rfl, by rw [ht]; exact hP, va_K.moved hW.alike hK, hD⟩, hS.F ht⟩) hS.2.2 dX1_wordOf_20
  · have hr := (if_pos c_1).symm.trans hr
    refine lv_aload_n hx hb dX1_wordOf_8 rfl (lv_at hl 0 rfl) ?_
    refine va_get (D := (dC, dI)) (ci := 1) (v := .ref gN) (C := RX1) (T := TX1) (N := 7) hx hb hts in_X1_wordOf_X1 hown hK hP 0 rfl rfl 0 (by decide) (hts (.fieldLink RX1 13 "FormRing$Matrix" "numbers" "[[I") (by decide +kernel)) (fun _ h9 => h9) rfl dX1_wordOf_9 ?_
    refine lv_iload_n hx hb dX1_wordOf_12 rfl (lv_at hl 1 rfl) ?_
    by_cases g_2 : a1 < 0 ∨ 4 ≤ a1.toNatClampNeg
    · have hr := (if_pos g_2).symm.trans hr
      cases hr
    have hr := (if_neg g_2).symm.trans hr
    refine zz_ald hx hb hK hP 1 1 rfl rfl (q := q) hF g_2 dX1_wordOf_13 ?_
    refine lv_iload_n hx hb dX1_wordOf_14 rfl (lv_at hl 2 rfl) ?_
    by_cases g_3 : a2 < 0 ∨ 256 ≤ a2.toNatClampNeg
    · have hr := (if_pos g_3).symm.trans hr
      cases hr
    have hr := (if_neg g_3).symm.trans hr
    refine va_iald hx hb hK hP 2 0 rfl rfl g_3 dX1_wordOf_15 ?_
    refine lv_goto (tgt := 20) hx hb dX1_wordOf_16 (by decide) ?_
    have ho := Option.some.inj hr
    subst ho
    exact W.iret (v := rw a2.toNatClampNeg) hx hb hrt (fun t ht hW => ⟨⟨rw a2.toNatClampNeg, (), rfl, rfl, by rw [ht]; exact hP, va_K.moved hW.alike hK, hD⟩, hS.F ht⟩) hS.2.2 dX1_wordOf_20

theorem in_X1_residueOf_X1 : ∀ w ∈ u_ws RX1 TX1 7, w ∈ wsX1_residueOf := by decide +kernel
def f_X1_residueOf_17 (n : Nat) : Nat → (rw : Nat → Int32) → (sg : Nat → Int32) → (a1 : Int32) → (a2 : Int32) → Int64 → Int32 → Option (Int32)
  | 0, _, _, _, _, _, _ => none
  | k + 1, rw, sg, a1, a2, u3, u5 => if u5 < 0 then (if a1 < 0 ∨ 4 ≤ a1.toNatClampNeg then none else (if (sg a1.toNatClampNeg) < 0 then (if u3 = 0 then (some u3.toInt32) else (some ((a2.toInt64 - u3).toInt32))) else (some u3.toInt32))) else (if a1 < 0 ∨ 4 ≤ a1.toNatClampNeg then none else (if u5 < 0 ∨ 256 ≤ u5.toNatClampNeg then none else (if a2.toInt64 = 0 then none else (f_X1_residueOf_17 n k rw sg a1 a2 (((u3 <<< ((32 : Int32).toInt64 &&& 63)) + (((rw u5.toNatClampNeg).toInt64) &&& (4294967295 : Int64))) - ((u3 <<< ((32 : Int32).toInt64 &&& 63)) + (((rw u5.toNatClampNeg).toInt64) &&& (4294967295 : Int64))) / a2.toInt64 * a2.toInt64) (u5 + (-1))))))
set_option maxHeartbeats 4000000 in
set_option maxRecDepth 100000 in
theorem k_X1_residueOf_17 {p : Program} {l : Launch} {e : Env} {s : State} {m : MethodId} {args : Array Value} {below : List Frame} {meth : Method} {c : Code} {dC : Nat → ClassId} {dI : Nat → Nat → Nat} {A : Nat → Prop} {h0 : Nat} {gN : Nat} {gS : Nat} {m2 : Int32} {m3 : Int64} {m4 : Int64} {m5 : Int64} {m6 : Int64} {cI : ClassId} {cO : ClassId} {F : Nat → Option Nat} {q : Nat} {rw : Nat → Int32} {sg : Nat → Int32} {a1 : Int32} {a2 : Int32} (hx : p.tables.exec = Jvm.exec) (hb : c.code = cX1_residueOf) (hrt : meth.sig.returnType = (some .int)) (hml : c.maxLocals = 6) (hown : s.vm.findClass RX1 = some m.cls) (hlocks : meth.locks = false) (hts : ∀ w ∈ wsX1_residueOf, w.before args s = true) (hA : ∀ q : Nat, s.heap.size ≤ q → A q) (hK : va_K (dC, dI) vwCl [(cI, .int), (cO, .array .int)] s) (hF : F a1.toNatClampNeg = some q) (n : Nat) (out : Int32) :
    ∀ (k : Nat) (u3 : Int64) (u5 : Int32), f_X1_residueOf_17 n k rw sg a1 a2 u3 u5 = some out → ∀ (H : Heap) (locs : List Loc) (ls : Array Slot), va_P (dC, dI) vwCl [(h0, .inr (1, [.ref gN, .ref gS, .int m2, .long m3, .long m4, .long m5, .long m6])), (gN, .inl (cO, 4, .inr (.inr (.inr (.inr F))))), (q, .inl (cI, 256, .inl rw)), (gS, .inl (cI, 4, .inl sg))] H → va_D A [(h0, .inr (1, [.ref gN, .ref gS, .int m2, .long m3, .long m4, .long m5, .long m6])), (gN, .inl (cO, 4, .inr (.inr (.inr (.inr F))))), (q, .inl (cI, 256, .inl rw)), (gS, .inl (cI, 4, .inl sg))] → va_S A s.heap H locs → lv_has ls 6 [(0, .ref h0), (1, .int a1), (2, .int a2), (3, .long u3), (5, .int u5)] → W p l e ({ frames := 0, cells := 0, slots := 0, locals := 0 }) s m args below meth c H locs 0 0 (MQ below (va_Qi (fun r (_ : Unit) => r = out) (fun (_ : Unit) t => zB dC dI [(cI, .int), (cO, .array .int)] A [(h0, .inr (1, [.ref gN, .ref gS, .int m2, .long m3, .long m4, .long m5, .long m6])), (gN, .inl (cO, 4, .inr (.inr (.inr (.inr F))))), (q, .inl (cI, 256, .inl rw)), (gS, .inl (cI, 4, .inl sg))] t) A) args s 0 0 A) (F0 m 17 ls []) := by
  intro k
  induction k with
  | zero => intro u3 u5 hr; rw [f_X1_residueOf_17] at hr; cases hr
  | succ k ih =>
    intro u3 u5 hr H locs ls hP hD hS hl
    rw [f_X1_residueOf_17] at hr
    refine lv_iload hx hb dX1_residueOf_17 (lv_at hl 4 rfl) ?_
    refine lz_zlt (tgt := 51) hx hb dX1_residueOf_19 (by decide) (fun c_1 => ?_) (fun c_1 => ?_)
    · have hr := (if_pos c_1).symm.trans hr
      refine lv_aload_n hx hb dX1_residueOf_51 rfl (lv_at hl 0 rfl) ?_
      refine va_get (D := (dC, dI)) (ci := 1) (v := .ref gS) (C := RX1) (T := TX1) (N := 7) hx hb hts in_X1_residueOf_X1 hown hK hP 0 rfl rfl 1 (by decide) (hts (.fieldLink RX1 16 "FormRing$Matrix" "signs" "[I") (by decide +kernel)) (fun _ h9 => h9) rfl dX1_residueOf_52 ?_
      refine lv_iload_n hx hb dX1_residueOf_55 rfl (lv_at hl 1 rfl) ?_
      by_cases g_2 : a1 < 0 ∨ 4 ≤ a1.toNatClampNeg
      · have hr := (if_pos g_2).symm.trans hr
        cases hr
      have hr := (if_neg g_2).symm.trans hr
      refine va_iald hx hb hK hP 3 0 rfl rfl g_2 dX1_residueOf_56 ?_
      refine lz_zge (tgt := 73) hx hb dX1_residueOf_57 (by decide) (fun c_3 => ?_) (fun c_3 => ?_)
      · have hr := (if_neg c_3).symm.trans hr
        refine lv_lload_n hx hb dX1_residueOf_73 rfl (lv_at hl 3 rfl) ?_
        refine lv_l2i hx hb dX1_residueOf_74 rfl ?_
        have ho := Option.some.inj hr
        subst ho
        exact W.iret (v := u3.toInt32) hx hb hrt (fun t ht hW => ⟨⟨u3.toInt32, (), rfl, rfl, by rw [ht]; exact hP, va_K.moved hW.alike hK, hD⟩, hS.F ht⟩) hS.2.2 dX1_residueOf_75
      · have hr := (if_pos c_3).symm.trans hr
        refine lv_lload_n hx hb dX1_residueOf_60 rfl (lv_at hl 3 rfl) ?_
        refine lv_lconst (v := 0) hx hb dX1_residueOf_61 (by decide) ?_
        refine lz_leq (tgt := 73) hx hb dX1_residueOf_62 dX1_residueOf_63 (by decide) (fun c_4 => ?_) (fun c_4 => ?_)
        · have hr := (if_pos c_4).symm.trans hr
          refine lv_lload_n hx hb dX1_residueOf_73 rfl (lv_at hl 3 rfl) ?_
          refine lv_l2i hx hb dX1_residueOf_74 rfl ?_
          have ho := Option.some.inj hr
          subst ho
          exact W.iret (v := u3.toInt32) hx hb hrt (fun t ht hW => ⟨⟨u3.toInt32, (), rfl, rfl, by rw [ht]; exact hP, va_K.moved hW.alike hK, hD⟩, hS.F ht⟩) hS.2.2 dX1_residueOf_75
        · have hr := (if_neg c_4).symm.trans hr
          refine lv_iload_n hx hb dX1_residueOf_66 rfl (lv_at hl 2 rfl) ?_
          refine lv_i2l hx hb dX1_residueOf_67 rfl ?_
          refine lv_lload_n hx hb dX1_residueOf_68 rfl (lv_at hl 3 rfl) ?_
          refine lv_lsub hx hb dX1_residueOf_69 ?_
          refine lv_goto (tgt := 74) hx hb dX1_residueOf_70 (by decide) ?_
          refine lv_l2i hx hb dX1_residueOf_74 rfl ?_
          have ho := Option.some.inj hr
          subst ho
          exact W.iret (v := (a2.toInt64 - u3).toInt32) hx hb hrt (fun t ht hW => ⟨⟨(a2.toInt64 - u3).toInt32, (), rfl, rfl, by rw [ht]; exact hP, va_K.moved hW.alike hK, hD⟩, hS.F ht⟩) hS.2.2 dX1_residueOf_75
    · have hr := (if_neg c_1).symm.trans hr
      refine lv_lload_n hx hb dX1_residueOf_22 rfl (lv_at hl 3 rfl) ?_
      refine lv_bipush (v := 32) hx hb dX1_residueOf_23 (by decide) ?_
      refine lv_lshl hx hb dX1_residueOf_25 rfl ?_
      refine lv_aload_n hx hb dX1_residueOf_26 rfl (lv_at hl 0 rfl) ?_
      refine va_get (D := (dC, dI)) (ci := 1) (v := .ref gN) (C := RX1) (T := TX1) (N := 7) hx hb hts in_X1_residueOf_X1 hown hK hP 0 rfl rfl 0 (by decide) (hts (.fieldLink RX1 13 "FormRing$Matrix" "numbers" "[[I") (by decide +kernel)) (fun _ h9 => h9) rfl dX1_residueOf_27 ?_
      refine lv_iload_n hx hb dX1_residueOf_30 rfl (lv_at hl 1 rfl) ?_
      by_cases g_5 : a1 < 0 ∨ 4 ≤ a1.toNatClampNeg
      · have hr := (if_pos g_5).symm.trans hr
        cases hr
      have hr := (if_neg g_5).symm.trans hr
      refine zz_ald hx hb hK hP 1 1 rfl rfl (q := q) hF g_5 dX1_residueOf_31 ?_
      refine lv_iload hx hb dX1_residueOf_32 (lv_at hl 4 rfl) ?_
      by_cases g_6 : u5 < 0 ∨ 256 ≤ u5.toNatClampNeg
      · have hr := (if_pos g_6).symm.trans hr
        cases hr
      have hr := (if_neg g_6).symm.trans hr
      refine va_iald hx hb hK hP 2 0 rfl rfl g_6 dX1_residueOf_34 ?_
      refine lv_i2l hx hb dX1_residueOf_35 rfl ?_
      refine lv_ldc2 (v := 4294967295) hx hb hown (hts (.constantLong RX1 62 (4294967295)) (by decide +kernel)) dX1_residueOf_36 ?_
      refine lv_land hx hb dX1_residueOf_39 ?_
      refine lv_ladd hx hb dX1_residueOf_40 ?_
      refine lv_iload_n hx hb dX1_residueOf_41 rfl (lv_at hl 2 rfl) ?_
      refine lv_i2l hx hb dX1_residueOf_42 rfl ?_
      by_cases g_7 : a2.toInt64 = 0
      · have hr := (if_pos g_7).symm.trans hr
        cases hr
      have hr := (if_neg g_7).symm.trans hr
      refine lv_lrem hx hb dX1_residueOf_43 g_7 ?_
      refine lv_lstore_n (lv' := [(3, .long (((u3 <<< ((32 : Int32).toInt64 &&& 63)) + (((rw u5.toNatClampNeg).toInt64) &&& (4294967295 : Int64))) - ((u3 <<< ((32 : Int32).toInt64 &&& 63)) + (((rw u5.toNatClampNeg).toInt64) &&& (4294967295 : Int64))) / a2.toInt64 * a2.toInt64)), (0, .ref h0), (1, .int a1), (2, .int a2), (5, .int u5)]) hx hb dX1_residueOf_44 rfl hl (by decide) rfl (fun ls hl => ?_)
      refine lv_iinc (v := u5 + (-1)) (lv' := [(5, .int (u5 + (-1))), (3, .long (((u3 <<< ((32 : Int32).toInt64 &&& 63)) + (((rw u5.toNatClampNeg).toInt64) &&& (4294967295 : Int64))) - ((u3 <<< ((32 : Int32).toInt64 &&& 63)) + (((rw u5.toNatClampNeg).toInt64) &&& (4294967295 : Int64))) / a2.toInt64 * a2.toInt64)), (0, .ref h0), (1, .int a1), (2, .int a2)]) hx hb dX1_residueOf_45 hl (k := 4) rfl rfl (by decide) rfl (fun ls hl => ?_)
      refine lv_goto (tgt := 17) hx hb dX1_residueOf_48 (by decide) ?_
      exact ih (((u3 <<< ((32 : Int32).toInt64 &&& 63)) + (((rw u5.toNatClampNeg).toInt64) &&& (4294967295 : Int64))) - ((u3 <<< ((32 : Int32).toInt64 &&& 63)) + (((rw u5.toNatClampNeg).toInt64) &&& (4294967295 : Int64))) / a2.toInt64 * a2.toInt64) (u5 + (-1)) hr _ _ _ hP hD hS (lv_sub hl [2, 3, 4, 1, 0] rfl)
def f_X1_residueOf (n : Nat) (m2 : Int32) (rw : Nat → Int32) (sg : Nat → Int32) (a1 : Int32) (a2 : Int32) : Option (Int32) := if a2 < 1 then (some 0) else (f_X1_residueOf_17 n n rw sg a1 a2 0 (m2 - 1))
set_option maxHeartbeats 4000000 in
set_option maxRecDepth 100000 in
theorem c_X1_residueOf (l : Launch) (dC : Nat → ClassId) (dI : Nat → Nat → Nat) (sz : Nat) (h0 : Nat) (gN : Nat) (gS : Nat) (m2 : Int32) (m3 : Int64) (m4 : Int64) (m5 : Int64) (m6 : Int64) (cI : ClassId) (cO : ClassId) (F : Nat → Option Nat) (q : Nat) (rw : Nat → Int32) (sg : Nat → Int32) (a1 : Int32) (a2 : Int32) (hF : F a1.toNatClampNeg = some q) (n : Nat) (out : Int32) (hr : f_X1_residueOf n m2 rw sg a1 a2 = some out) : Met l yX1_residueOf wsX1_residueOf ({ frames := 0, cells := 0, slots := 0, locals := 0 }) (va_Pc [.ref h0, .int a1, .int a2] (zP dC dI [(cI, .int), (cO, .array .int)] [(h0, .inr (1, [.ref gN, .ref gS, .int m2, .long m3, .long m4, .long m5, .long m6])), (gN, .inl (cO, 4, .inr (.inr (.inr (.inr F))))), (q, .inl (cI, 256, .inl rw)), (gS, .inl (cI, 4, .inl sg))] sz)) (va_Qi (fun r (_ : Unit) => r = out) (fun (_ : Unit) t => zB dC dI [(cI, .int), (cO, .array .int)] (va_A [(h0, .inr (1, [.ref gN, .ref gS, .int m2, .long m3, .long m4, .long m5, .long m6])), (gN, .inl (cO, 4, .inr (.inr (.inr (.inr F))))), (q, .inl (cI, 256, .inl rw)), (gS, .inl (cI, 4, .inl sg))] sz) [(h0, .inr (1, [.ref gN, .ref gS, .int m2, .long m3, .long m4, .long m5, .long m6])), (gN, .inl (cO, 4, .inr (.inr (.inr (.inr F))))), (q, .inl (cI, 256, .inl rw)), (gS, .inl (cI, 4, .inl sg))] t) (va_A [(h0, .inr (1, [.ref gN, .ref gS, .int m2, .long m3, .long m4, .long m5, .long m6])), (gN, .inl (cO, 4, .inr (.inr (.inr (.inr F))))), (q, .inl (cI, 256, .inl rw)), (gS, .inl (cI, 4, .inl sg))] sz)) 0 0 (va_A [(h0, .inr (1, [.ref gN, .ref gS, .int m2, .long m3, .long m4, .long m5, .long m6])), (gN, .inl (cO, 4, .inr (.inr (.inr (.inr F))))), (q, .inl (cI, 256, .inl rw)), (gS, .inl (cI, 4, .inl sg))] sz) := by
  refine Met.ofW (cc := cX1_residueOf) (maxL := 6) (ret := (some .int)) (by decide +kernel) rfl ?_
  intro p e s m args below meth c s₁ B hml hv
  obtain ⟨rfl, hsz, hP, hK, hD0⟩ := hv
  have hx := B.exec
  have hb := B.bytes
  have hrt := B.returns
  have hts := atoms_spec (ws := wsX1_residueOf) B.pre
  have hown : s.vm.findClass RX1 = some m.cls := findClass_of_methodNamed B.named
  have hlocks := B.notSynchronized
  subst hsz
  have hD := hD0.self (sz := s.heap.size)
  generalize hAe : va_A [(h0, .inr (1, [.ref gN, .ref gS, .int m2, .long m3, .long m4, .long m5, .long m6])), (gN, .inl (cO, 4, .inr (.inr (.inr (.inr F))))), (q, .inl (cI, 256, .inl rw)), (gS, .inl (cI, 4, .inl sg))] s.heap.size = A at hD ⊢
  have hA : ∀ q : Nat, s.heap.size ≤ q → A q := fun q h => by rw [← hAe]; exact Or.inr h
  have hS : va_S A s.heap s.heap [] := va_S.rf
  have hP : va_P (dC, dI) vwCl [(h0, .inr (1, [.ref gN, .ref gS, .int m2, .long m3, .long m4, .long m5, .long m6])), (gN, .inl (cO, 4, .inr (.inr (.inr (.inr F))))), (q, .inl (cI, 256, .inl rw)), (gS, .inl (cI, 4, .inl sg))] s.heap := hP
  have hl := lv_entry ([.ref h0, .int a1, .int a2]) (n := 6) (Nat.le_of_ble_eq_true rfl)
  rw [lg_entry_eq]
  generalize (lg_sl ([.ref h0, .int a1, .int a2]) ++ List.replicate (6 - (lg_sl ([.ref h0, .int a1, .int a2])).length) Slot.unset).toArray = ls at hl ⊢
  have hl : lv_has ls 6 [(0, .ref h0), (1, .int a1), (2, .int a2)] := hl
  unfold f_X1_residueOf at hr
  refine lv_iload_n hx hb dX1_residueOf_0 rfl (lv_at hl 2 rfl) ?_
  refine lv_iconst (v := 1) hx hb dX1_residueOf_1 (by decide) ?_
  refine lz_ige (tgt := 7) hx hb dX1_residueOf_2 (by decide) (fun c_1 => ?_) (fun c_1 => ?_)
  · have hr := (if_neg c_1).symm.trans hr
    refine lv_lconst (v := 0) hx hb dX1_residueOf_7 (by decide) ?_
    refine lv_lstore_n (lv' := [(3, .long 0), (0, .ref h0), (1, .int a1), (2, .int a2)]) hx hb dX1_residueOf_8 rfl hl (by decide) rfl (fun ls hl => ?_)
    refine lv_aload_n hx hb dX1_residueOf_9 rfl (lv_at hl 1 rfl) ?_
    refine va_get (D := (dC, dI)) (ci := 1) (v := .int m2) (C := RX1) (T := TX1) (N := 7) hx hb hts in_X1_residueOf_X1 hown hK hP 0 rfl rfl 2 (by decide) (hts (.fieldLink RX1 23 "FormRing$Matrix" "length" "I") (by decide +kernel)) (fun _ h9 => h9) rfl dX1_residueOf_10 ?_
    refine lv_iconst (v := 1) hx hb dX1_residueOf_13 (by decide) ?_
    refine lv_isub hx hb dX1_residueOf_14 ?_
    refine lv_istore (lv' := [(5, .int (m2 - 1)), (3, .long 0), (0, .ref h0), (1, .int a1), (2, .int a2)]) hx hb dX1_residueOf_15 hl (by decide) rfl (fun ls hl => ?_)
    exact k_X1_residueOf_17 hx hb hrt hml hown hlocks hts hA hK hF n out n 0 (m2 - 1) hr _ _ _ hP hD hS (lv_sub hl [2, 3, 4, 1, 0] rfl)
  · have hr := (if_pos c_1).symm.trans hr
    refine lv_iconst (v := 0) hx hb dX1_residueOf_5 (by decide) ?_
    have ho := Option.some.inj hr
    subst ho
    exact W.iret (v := 0) hx hb hrt (fun t ht hW => ⟨⟨0, (), rfl, rfl, by rw [ht]; exact hP, va_K.moved hW.alike hK, hD⟩, hS.F ht⟩) hS.2.2 dX1_residueOf_6

theorem in_X1_findSign_X1 : ∀ w ∈ u_ws RX1 TX1 7, w ∈ wsX1_findSign := by decide +kernel
def f_X1_findSign_15 (n : Nat) : Nat → (m2 : Int32) → (rw : Nat → Int32) → Int32 → Option (Int32)
  | 0, _, _, _ => none
  | k + 1, m2, rw, u2 => if u2 < m2 then (if u2 < 0 ∨ 256 ≤ u2.toNatClampNeg then none else (if (rw u2.toNatClampNeg) = 0 then (f_X1_findSign_15 n k m2 rw (u2 + 1)) else (some 1))) else (some 0)
set_option maxHeartbeats 4000000 in
set_option maxRecDepth 100000 in
theorem k_X1_findSign_15 {p : Program} {l : Launch} {e : Env} {s : State} {m : MethodId} {args : Array Value} {below : List Frame} {meth : Method} {c : Code} {dC : Nat → ClassId} {dI : Nat → Nat → Nat} {A : Nat → Prop} {h0 : Nat} {gN : Nat} {gS : Nat} {m2 : Int32} {m3 : Int64} {m4 : Int64} {m5 : Int64} {m6 : Int64} {cI : ClassId} {h1 : Nat} {rw : Nat → Int32}  (hx : p.tables.exec = Jvm.exec) (hb : c.code = cX1_findSign) (hrt : meth.sig.returnType = (some .int)) (hml : c.maxLocals = 3) (hown : s.vm.findClass RX1 = some m.cls) (hlocks : meth.locks = false) (hts : ∀ w ∈ wsX1_findSign, w.before args s = true) (hA : ∀ q : Nat, s.heap.size ≤ q → A q) (hK : va_K (dC, dI) vwCl [(cI, .int)] s)  (n : Nat) (out : Int32) :
    ∀ (k : Nat) (u2 : Int32), f_X1_findSign_15 n k m2 rw u2 = some out → ∀ (H : Heap) (locs : List Loc) (ls : Array Slot), va_P (dC, dI) vwCl [(h0, .inr (1, [.ref gN, .ref gS, .int m2, .long m3, .long m4, .long m5, .long m6])), (h1, .inl (cI, 256, .inl rw))] H → va_D A [(h0, .inr (1, [.ref gN, .ref gS, .int m2, .long m3, .long m4, .long m5, .long m6])), (h1, .inl (cI, 256, .inl rw))] → va_S A s.heap H locs → lv_has ls 3 [(0, .ref h0), (1, .ref h1), (2, .int u2)] → W p l e ({ frames := 0, cells := 0, slots := 0, locals := 0 }) s m args below meth c H locs 0 0 (MQ below (va_Qi (fun r (_ : Unit) => r = out) (fun (_ : Unit) t => zB dC dI [(cI, .int)] A [(h0, .inr (1, [.ref gN, .ref gS, .int m2, .long m3, .long m4, .long m5, .long m6])), (h1, .inl (cI, 256, .inl rw))] t) A) args s 0 0 A) (F0 m 15 ls []) := by
  intro k
  induction k with
  | zero => intro u2 hr; rw [f_X1_findSign_15] at hr; cases hr
  | succ k ih =>
    intro u2 hr H locs ls hP hD hS hl
    rw [f_X1_findSign_15] at hr
    refine lv_iload_n hx hb dX1_findSign_15 rfl (lv_at hl 2 rfl) ?_
    refine lv_aload_n hx hb dX1_findSign_16 rfl (lv_at hl 0 rfl) ?_
    refine va_get (D := (dC, dI)) (ci := 1) (v := .int m2) (C := RX1) (T := TX1) (N := 7) hx hb hts in_X1_findSign_X1 hown hK hP 0 rfl rfl 2 (by decide) (hts (.fieldLink RX1 23 "FormRing$Matrix" "length" "I") (by decide +kernel)) (fun _ h9 => h9) rfl dX1_findSign_17 ?_
    refine lz_ige (tgt := 37) hx hb dX1_findSign_20 (by decide) (fun c_1 => ?_) (fun c_1 => ?_)
    · have hr := (if_neg c_1).symm.trans hr
      refine lv_iconst (v := 0) hx hb dX1_findSign_37 (by decide) ?_
      have ho := Option.some.inj hr
      subst ho
      exact W.iret (v := 0) hx hb hrt (fun t ht hW => ⟨⟨0, (), rfl, rfl, by rw [ht]; exact hP, va_K.moved hW.alike hK, hD⟩, hS.F ht⟩) hS.2.2 dX1_findSign_38
    · have hr := (if_pos c_1).symm.trans hr
      refine lv_aload_n hx hb dX1_findSign_23 rfl (lv_at hl 1 rfl) ?_
      refine lv_iload_n hx hb dX1_findSign_24 rfl (lv_at hl 2 rfl) ?_
      by_cases g_2 : u2 < 0 ∨ 256 ≤ u2.toNatClampNeg
      · have hr := (if_pos g_2).symm.trans hr
        cases hr
      have hr := (if_neg g_2).symm.trans hr
      refine va_iald hx hb hK hP 1 0 rfl rfl g_2 dX1_findSign_25 ?_
      refine lz_zeq (tgt := 31) hx hb dX1_findSign_26 (by decide) (fun c_3 => ?_) (fun c_3 => ?_)
      · have hr := (if_pos c_3).symm.trans hr
        refine lv_iinc (v := u2 + 1) (lv' := [(2, .int (u2 + 1)), (0, .ref h0), (1, .ref h1)]) hx hb dX1_findSign_31 hl (k := 2) rfl rfl (by decide) rfl (fun ls hl => ?_)
        refine lv_goto (tgt := 15) hx hb dX1_findSign_34 (by decide) ?_
        exact ih (u2 + 1) hr _ _ _ hP hD hS (lv_sub hl [1, 2, 0] rfl)
      · have hr := (if_neg c_3).symm.trans hr
        refine lv_iconst (v := 1) hx hb dX1_findSign_29 (by decide) ?_
        have ho := Option.some.inj hr
        subst ho
        exact W.iret (v := 1) hx hb hrt (fun t ht hW => ⟨⟨1, (), rfl, rfl, by rw [ht]; exact hP, va_K.moved hW.alike hK, hD⟩, hS.F ht⟩) hS.2.2 dX1_findSign_30
def f_X1_findSign (n : Nat) (m2 : Int32) (rw : Nat → Int32) : Option (Int32) := if (m2 - 1) < 0 ∨ 256 ≤ (m2 - 1).toNatClampNeg then none else (if (rw (m2 - 1).toNatClampNeg) < 0 then (some (-1)) else (f_X1_findSign_15 n n m2 rw 0))
set_option maxHeartbeats 4000000 in
set_option maxRecDepth 100000 in
theorem c_X1_findSign (l : Launch) (dC : Nat → ClassId) (dI : Nat → Nat → Nat) (sz : Nat) (h0 : Nat) (gN : Nat) (gS : Nat) (m2 : Int32) (m3 : Int64) (m4 : Int64) (m5 : Int64) (m6 : Int64) (cI : ClassId) (h1 : Nat) (rw : Nat → Int32)   (n : Nat) (out : Int32) (hr : f_X1_findSign n m2 rw = some out) : Met l yX1_findSign wsX1_findSign ({ frames := 0, cells := 0, slots := 0, locals := 0 }) (va_Pc [.ref h0, .ref h1] (zP dC dI [(cI, .int)] [(h0, .inr (1, [.ref gN, .ref gS, .int m2, .long m3, .long m4, .long m5, .long m6])), (h1, .inl (cI, 256, .inl rw))] sz)) (va_Qi (fun r (_ : Unit) => r = out) (fun (_ : Unit) t => zB dC dI [(cI, .int)] (va_A [(h0, .inr (1, [.ref gN, .ref gS, .int m2, .long m3, .long m4, .long m5, .long m6])), (h1, .inl (cI, 256, .inl rw))] sz) [(h0, .inr (1, [.ref gN, .ref gS, .int m2, .long m3, .long m4, .long m5, .long m6])), (h1, .inl (cI, 256, .inl rw))] t) (va_A [(h0, .inr (1, [.ref gN, .ref gS, .int m2, .long m3, .long m4, .long m5, .long m6])), (h1, .inl (cI, 256, .inl rw))] sz)) 0 0 (va_A [(h0, .inr (1, [.ref gN, .ref gS, .int m2, .long m3, .long m4, .long m5, .long m6])), (h1, .inl (cI, 256, .inl rw))] sz) := by
  refine Met.ofW (cc := cX1_findSign) (maxL := 3) (ret := (some .int)) (by decide +kernel) rfl ?_
  intro p e s m args below meth c s₁ B hml hv
  obtain ⟨rfl, hsz, hP, hK, hD0⟩ := hv
  have hx := B.exec
  have hb := B.bytes
  have hrt := B.returns
  have hts := atoms_spec (ws := wsX1_findSign) B.pre
  have hown : s.vm.findClass RX1 = some m.cls := findClass_of_methodNamed B.named
  have hlocks := B.notSynchronized
  subst hsz
  have hD := hD0.self (sz := s.heap.size)
  generalize hAe : va_A [(h0, .inr (1, [.ref gN, .ref gS, .int m2, .long m3, .long m4, .long m5, .long m6])), (h1, .inl (cI, 256, .inl rw))] s.heap.size = A at hD ⊢
  have hA : ∀ q : Nat, s.heap.size ≤ q → A q := fun q h => by rw [← hAe]; exact Or.inr h
  have hS : va_S A s.heap s.heap [] := va_S.rf
  have hP : va_P (dC, dI) vwCl [(h0, .inr (1, [.ref gN, .ref gS, .int m2, .long m3, .long m4, .long m5, .long m6])), (h1, .inl (cI, 256, .inl rw))] s.heap := hP
  have hl := lv_entry ([.ref h0, .ref h1]) (n := 3) (Nat.le_of_ble_eq_true rfl)
  rw [lg_entry_eq]
  generalize (lg_sl ([.ref h0, .ref h1]) ++ List.replicate (3 - (lg_sl ([.ref h0, .ref h1])).length) Slot.unset).toArray = ls at hl ⊢
  have hl : lv_has ls 3 [(0, .ref h0), (1, .ref h1)] := hl
  unfold f_X1_findSign at hr
  refine lv_aload_n hx hb dX1_findSign_0 rfl (lv_at hl 1 rfl) ?_
  refine lv_aload_n hx hb dX1_findSign_1 rfl (lv_at hl 0 rfl) ?_
  refine va_get (D := (dC, dI)) (ci := 1) (v := .int m2) (C := RX1) (T := TX1) (N := 7) hx hb hts in_X1_findSign_X1 hown hK hP 0 rfl rfl 2 (by decide) (hts (.fieldLink RX1 23 "FormRing$Matrix" "length" "I") (by decide +kernel)) (fun _ h9 => h9) rfl dX1_findSign_2 ?_
  refine lv_iconst (v := 1) hx hb dX1_findSign_5 (by decide) ?_
  refine lv_isub hx hb dX1_findSign_6 ?_
  by_cases g_1 : (m2 - 1) < 0 ∨ 256 ≤ (m2 - 1).toNatClampNeg
  · have hr := (if_pos g_1).symm.trans hr
    cases hr
  have hr := (if_neg g_1).symm.trans hr
  refine va_iald hx hb hK hP 1 0 rfl rfl g_1 dX1_findSign_7 ?_
  refine lz_zge (tgt := 13) hx hb dX1_findSign_8 (by decide) (fun c_2 => ?_) (fun c_2 => ?_)
  · have hr := (if_neg c_2).symm.trans hr
    refine lv_iconst (v := 0) hx hb dX1_findSign_13 (by decide) ?_
    refine lv_istore_n (lv' := [(2, .int 0), (0, .ref h0), (1, .ref h1)]) hx hb dX1_findSign_14 rfl hl (by decide) rfl (fun ls hl => ?_)
    exact k_X1_findSign_15 hx hb hrt hml hown hlocks hts hA hK n out n 0 hr _ _ _ hP hD hS (lv_sub hl [1, 2, 0] rfl)
  · have hr := (if_pos c_2).symm.trans hr
    refine lv_iconst (v := (-1)) hx hb dX1_findSign_11 (by decide) ?_
    have ho := Option.some.inj hr
    subst ho
    exact W.iret (v := (-1)) hx hb hrt (fun t ht hW => ⟨⟨(-1), (), rfl, rfl, by rw [ht]; exact hP, va_K.moved hW.alike hK, hD⟩, hS.F ht⟩) hS.2.2 dX1_findSign_12

theorem in_X1_negate_X1 : ∀ w ∈ u_ws RX1 TX1 7, w ∈ wsX1_negate := by decide +kernel
def f_X1_negate_5 (n : Nat) : Nat → (m2 : Int32) → Int64 → Int32 → (Nat → Int32) → Option ((Nat → Int32))
  | 0, _, _, _, _ => none
  | k + 1, m2, u2, u4, w1 => if u4 < m2 then (if u4 < 0 ∨ 256 ≤ u4.toNatClampNeg then none else (if u4 < 0 ∨ 256 ≤ u4.toNatClampNeg then none else (f_X1_negate_5 n k m2 ((u2 + ((((w1 u4.toNatClampNeg) ^^^ (-1 : Int32)).toInt64) &&& (4294967295 : Int64))) >>> ((32 : Int32).toInt64 &&& 63)) (u4 + 1) (upd w1 u4.toNatClampNeg ((u2 + ((((w1 u4.toNatClampNeg) ^^^ (-1 : Int32)).toInt64) &&& (4294967295 : Int64))).toInt32))))) else (some w1)
set_option maxHeartbeats 4000000 in
set_option maxRecDepth 100000 in
theorem k_X1_negate_5 {p : Program} {l : Launch} {e : Env} {s : State} {m : MethodId} {args : Array Value} {below : List Frame} {meth : Method} {c : Code} {dC : Nat → ClassId} {dI : Nat → Nat → Nat} {A : Nat → Prop} {h0 : Nat} {gN : Nat} {gS : Nat} {m2 : Int32} {m3 : Int64} {m4 : Int64} {m5 : Int64} {m6 : Int64} {cI : ClassId} {h1 : Nat}  (hx : p.tables.exec = Jvm.exec) (hb : c.code = cX1_negate) (hrt : meth.sig.returnType = none) (hml : c.maxLocals = 5) (hown : s.vm.findClass RX1 = some m.cls) (hlocks : meth.locks = false) (hts : ∀ w ∈ wsX1_negate, w.before args s = true) (hA : ∀ q : Nat, s.heap.size ≤ q → A q) (hK : va_K (dC, dI) vwCl [(cI, .int)] s)  (n : Nat) (out : (Nat → Int32)) :
    ∀ (k : Nat) (u2 : Int64) (u4 : Int32) (w1 : Nat → Int32), f_X1_negate_5 n k m2 u2 u4 w1 = some out → ∀ (H : Heap) (locs : List Loc) (ls : Array Slot), va_P (dC, dI) vwCl [(h0, .inr (1, [.ref gN, .ref gS, .int m2, .long m3, .long m4, .long m5, .long m6])), (h1, .inl (cI, 256, .inl w1))] H → va_D A [(h0, .inr (1, [.ref gN, .ref gS, .int m2, .long m3, .long m4, .long m5, .long m6])), (h1, .inl (cI, 256, .inl w1))] → va_S A s.heap H locs → lv_has ls 5 [(0, .ref h0), (1, .ref h1), (2, .long u2), (4, .int u4)] → W p l e ({ frames := 0, cells := 0, slots := 0, locals := 0 }) s m args below meth c H locs 0 0 (MQ below (va_Qv (fun (_ : Unit) => True) (fun (_ : Unit) t => zB dC dI [(cI, .int)] A [(h0, .inr (1, [.ref gN, .ref gS, .int m2, .long m3, .long m4, .long m5, .long m6])), (h1, .inl (cI, 256, .inl out))] t) A) args s 0 0 A) (F0 m 5 ls []) := by
  intro k
  induction k with
  | zero => intro u2 u4 w1 hr; rw [f_X1_negate_5] at hr; cases hr
  | succ k ih =>
    intro u2 u4 w1 hr H locs ls hP hD hS hl
    rw [f_X1_negate_5] at hr
    refine lv_iload hx hb dX1_negate_5 (lv_at hl 3 rfl) ?_
    refine lv_aload_n hx hb dX1_negate_7 rfl (lv_at hl 0 rfl) ?_
    refine va_get (D := (dC, dI)) (ci := 1) (v := .int m2) (C := RX1) (T := TX1) (N := 7) hx hb hts in_X1_negate_X1 hown hK hP 0 rfl rfl 2 (by decide) (hts (.fieldLink RX1 23 "FormRing$Matrix" "length" "I") (by decide +kernel)) (fun _ h9 => h9) rfl dX1_negate_8 ?_
    refine lz_ige (tgt := 45) hx hb dX1_negate_11 (by decide) (fun c_1 => ?_) (fun c_1 => ?_)
    · have hr := (if_neg c_1).symm.trans hr
      have ho := Option.some.inj hr
      subst ho
      exact W.vret hx hb hrt (fun t ht hW => ⟨⟨(), rfl, trivial, by rw [ht]; exact hP, va_K.moved hW.alike hK, hD⟩, hS.F ht⟩) hS.2.2 dX1_negate_45
    · have hr := (if_pos c_1).symm.trans hr
      refine lv_lload_n hx hb dX1_negate_14 rfl (lv_at hl 2 rfl) ?_
      refine lv_aload_n hx hb dX1_negate_15 rfl (lv_at hl 1 rfl) ?_
      refine lv_iload hx hb dX1_negate_16 (lv_at hl 3 rfl) ?_
      by_cases g_2 : u4 < 0 ∨ 256 ≤ u4.toNatClampNeg
      · have hr := (if_pos g_2).symm.trans hr
        cases hr
      have hr := (if_neg g_2).symm.trans hr
      refine va_iald hx hb hK hP 1 0 rfl rfl g_2 dX1_negate_18 ?_
      refine lv_iconst (v := (-1)) hx hb dX1_negate_19 (by decide) ?_
      refine lv_ixor hx hb dX1_negate_20 ?_
      refine lv_i2l hx hb dX1_negate_21 rfl ?_
      refine lv_ldc2 (v := 4294967295) hx hb hown (hts (.constantLong RX1 62 (4294967295)) (by decide +kernel)) dX1_negate_22 ?_
      refine lv_land hx hb dX1_negate_25 ?_
      refine lv_ladd hx hb dX1_negate_26 ?_
      refine lv_lstore_n (lv' := [(2, .long (u2 + ((((w1 u4.toNatClampNeg) ^^^ (-1 : Int32)).toInt64) &&& (4294967295 : Int64)))), (0, .ref h0), (1, .ref h1), (4, .int u4)]) hx hb dX1_negate_27 rfl hl (by decide) rfl (fun ls hl => ?_)
      refine lv_aload_n hx hb dX1_negate_28 rfl (lv_at hl 2 rfl) ?_
      refine lv_iload hx hb dX1_negate_29 (lv_at hl 3 rfl) ?_
      refine lv_lload_n hx hb dX1_negate_31 rfl (lv_at hl 0 rfl) ?_
      refine lv_l2i hx hb dX1_negate_32 rfl ?_
      by_cases g_3 : u4 < 0 ∨ 256 ≤ u4.toNatClampNeg
      · have hr := (if_pos g_3).symm.trans hr
        cases hr
      have hr := (if_neg g_3).symm.trans hr
      refine va_iast hx hb hK hP hD hS 1 0 rfl rfl g_3 dX1_negate_33 (fun H locs hP hD hS => ?_)
      have hP : va_P (dC, dI) vwCl [(h0, .inr (1, [.ref gN, .ref gS, .int m2, .long m3, .long m4, .long m5, .long m6])), (h1, .inl (cI, 256, .inl (upd w1 u4.toNatClampNeg ((u2 + ((((w1 u4.toNatClampNeg) ^^^ (-1 : Int32)).toInt64) &&& (4294967295 : Int64))).toInt32))))] H := hP
      have hD : va_D A [(h0, .inr (1, [.ref gN, .ref gS, .int m2, .long m3, .long m4, .long m5, .long m6])), (h1, .inl (cI, 256, .inl (upd w1 u4.toNatClampNeg ((u2 + ((((w1 u4.toNatClampNeg) ^^^ (-1 : Int32)).toInt64) &&& (4294967295 : Int64))).toInt32))))] := hD
      refine lv_lload_n hx hb dX1_negate_34 rfl (lv_at hl 0 rfl) ?_
      refine lv_bipush (v := 32) hx hb dX1_negate_35 (by decide) ?_
      refine lv_lshr hx hb dX1_negate_37 rfl ?_
      refine lv_lstore_n (lv' := [(2, .long ((u2 + ((((w1 u4.toNatClampNeg) ^^^ (-1 : Int32)).toInt64) &&& (4294967295 : Int64))) >>> ((32 : Int32).toInt64 &&& 63))), (0, .ref h0), (1, .ref h1), (4, .int u4)]) hx hb dX1_negate_38 rfl hl (by decide) rfl (fun ls hl => ?_)
      refine lv_iinc (v := u4 + 1) (lv' := [(4, .int (u4 + 1)), (2, .long ((u2 + ((((w1 u4.toNatClampNeg) ^^^ (-1 : Int32)).toInt64) &&& (4294967295 : Int64))) >>> ((32 : Int32).toInt64 &&& 63))), (0, .ref h0), (1, .ref h1)]) hx hb dX1_negate_39 hl (k := 3) rfl rfl (by decide) rfl (fun ls hl => ?_)
      refine lv_goto (tgt := 5) hx hb dX1_negate_42 (by decide) ?_
      exact ih ((u2 + ((((w1 u4.toNatClampNeg) ^^^ (-1 : Int32)).toInt64) &&& (4294967295 : Int64))) >>> ((32 : Int32).toInt64 &&& 63)) (u4 + 1) (upd w1 u4.toNatClampNeg ((u2 + ((((w1 u4.toNatClampNeg) ^^^ (-1 : Int32)).toInt64) &&& (4294967295 : Int64))).toInt32)) hr _ _ _ hP hD hS (lv_sub hl [2, 3, 1, 0] rfl)
def f_X1_negate (n : Nat) (m2 : Int32) (rw : Nat → Int32) : Option ((Nat → Int32)) := f_X1_negate_5 n n m2 1 0 rw
set_option maxHeartbeats 4000000 in
set_option maxRecDepth 100000 in
theorem c_X1_negate (l : Launch) (dC : Nat → ClassId) (dI : Nat → Nat → Nat) (sz : Nat) (h0 : Nat) (gN : Nat) (gS : Nat) (m2 : Int32) (m3 : Int64) (m4 : Int64) (m5 : Int64) (m6 : Int64) (cI : ClassId) (h1 : Nat) (rw : Nat → Int32)   (n : Nat) (out : (Nat → Int32)) (hr : f_X1_negate n m2 rw = some out) : Met l yX1_negate wsX1_negate ({ frames := 0, cells := 0, slots := 0, locals := 0 }) (va_Pc [.ref h0, .ref h1] (zP dC dI [(cI, .int)] [(h0, .inr (1, [.ref gN, .ref gS, .int m2, .long m3, .long m4, .long m5, .long m6])), (h1, .inl (cI, 256, .inl rw))] sz)) (va_Qv (fun (_ : Unit) => True) (fun (_ : Unit) t => zB dC dI [(cI, .int)] (va_A [(h0, .inr (1, [.ref gN, .ref gS, .int m2, .long m3, .long m4, .long m5, .long m6])), (h1, .inl (cI, 256, .inl rw))] sz) [(h0, .inr (1, [.ref gN, .ref gS, .int m2, .long m3, .long m4, .long m5, .long m6])), (h1, .inl (cI, 256, .inl out))] t) (va_A [(h0, .inr (1, [.ref gN, .ref gS, .int m2, .long m3, .long m4, .long m5, .long m6])), (h1, .inl (cI, 256, .inl rw))] sz)) 0 0 (va_A [(h0, .inr (1, [.ref gN, .ref gS, .int m2, .long m3, .long m4, .long m5, .long m6])), (h1, .inl (cI, 256, .inl rw))] sz) := by
  refine Met.ofW (cc := cX1_negate) (maxL := 5) (ret := none) (by decide +kernel) rfl ?_
  intro p e s m args below meth c s₁ B hml hv
  obtain ⟨rfl, hsz, hP, hK, hD0⟩ := hv
  have hx := B.exec
  have hb := B.bytes
  have hrt := B.returns
  have hts := atoms_spec (ws := wsX1_negate) B.pre
  have hown : s.vm.findClass RX1 = some m.cls := findClass_of_methodNamed B.named
  have hlocks := B.notSynchronized
  subst hsz
  have hD := hD0.self (sz := s.heap.size)
  generalize hAe : va_A [(h0, .inr (1, [.ref gN, .ref gS, .int m2, .long m3, .long m4, .long m5, .long m6])), (h1, .inl (cI, 256, .inl rw))] s.heap.size = A at hD ⊢
  have hA : ∀ q : Nat, s.heap.size ≤ q → A q := fun q h => by rw [← hAe]; exact Or.inr h
  have hS : va_S A s.heap s.heap [] := va_S.rf
  have hP : va_P (dC, dI) vwCl [(h0, .inr (1, [.ref gN, .ref gS, .int m2, .long m3, .long m4, .long m5, .long m6])), (h1, .inl (cI, 256, .inl rw))] s.heap := hP
  have hl := lv_entry ([.ref h0, .ref h1]) (n := 5) (Nat.le_of_ble_eq_true rfl)
  rw [lg_entry_eq]
  generalize (lg_sl ([.ref h0, .ref h1]) ++ List.replicate (5 - (lg_sl ([.ref h0, .ref h1])).length) Slot.unset).toArray = ls at hl ⊢
  have hl : lv_has ls 5 [(0, .ref h0), (1, .ref h1)] := hl
  unfold f_X1_negate at hr
  refine lv_lconst (v := 1) hx hb dX1_negate_0 (by decide) ?_
  refine lv_lstore_n (lv' := [(2, .long 1), (0, .ref h0), (1, .ref h1)]) hx hb dX1_negate_1 rfl hl (by decide) rfl (fun ls hl => ?_)
  refine lv_iconst (v := 0) hx hb dX1_negate_2 (by decide) ?_
  refine lv_istore (lv' := [(4, .int 0), (2, .long 1), (0, .ref h0), (1, .ref h1)]) hx hb dX1_negate_3 hl (by decide) rfl (fun ls hl => ?_)
  exact k_X1_negate_5 hx hb hrt hml hown hlocks hts hA hK n out n 1 0 rw hr _ _ _ hP hD hS (lv_sub hl [2, 3, 1, 0] rfl)

theorem in_X1_multiplyColumn_X1 : ∀ w ∈ u_ws RX1 TX1 7, w ∈ wsX1_multiplyColumn := by decide +kernel
def f_X1_multiplyColumn_8 (n : Nat) : Nat → (m2 : Int32) → (m3 : Int64) → (m4 : Int64) → (m5 : Int64) → (m6 : Int64) → Int64 → Int64 → Int32 → (Nat → Int32) → (Nat → Int32) → Option ((Nat → Int32) × (Nat → Int32))
  | 0, _, _, _, _, _, _, _, _, _, _ => none
  | k + 1, m2, m3, m4, m5, m6, u3, u5, u7, w1, w2 => if u7 < m2 then (if u7 < 0 ∨ 256 ≤ u7.toNatClampNeg then none else (if u7 < 0 ∨ 256 ≤ u7.toNatClampNeg then none else (if u7 < 0 ∨ 256 ≤ u7.toNatClampNeg then none else (if u7 < 0 ∨ 256 ≤ u7.toNatClampNeg then none else (f_X1_multiplyColumn_8 n k m2 m3 m4 m5 m6 ((u3 + ((m3 * (((w1 u7.toNatClampNeg).toInt64) &&& (4294967295 : Int64))) + (m4 * (((w2 u7.toNatClampNeg).toInt64) &&& (4294967295 : Int64))))) >>> ((32 : Int32).toInt64 &&& 63)) ((u5 + ((m5 * (((w1 u7.toNatClampNeg).toInt64) &&& (4294967295 : Int64))) + (m6 * (((w2 u7.toNatClampNeg).toInt64) &&& (4294967295 : Int64))))) >>> ((32 : Int32).toInt64 &&& 63)) (u7 + 1) (upd w1 u7.toNatClampNeg ((u3 + ((m3 * (((w1 u7.toNatClampNeg).toInt64) &&& (4294967295 : Int64))) + (m4 * (((w2 u7.toNatClampNeg).toInt64) &&& (4294967295 : Int64))))).toInt32)) (upd w2 u7.toNatClampNeg ((u5 + ((m5 * (((w1 u7.toNatClampNeg).toInt64) &&& (4294967295 : Int64))) + (m6 * (((w2 u7.toNatClampNeg).toInt64) &&& (4294967295 : Int64))))).toInt32))))))) else (some (w1, w2))
set_option maxHeartbeats 4000000 in
set_option maxRecDepth 100000 in
theorem k_X1_multiplyColumn_8 {p : Program} {l : Launch} {e : Env} {s : State} {m : MethodId} {args : Array Value} {below : List Frame} {meth : Method} {c : Code} {dC : Nat → ClassId} {dI : Nat → Nat → Nat} {A : Nat → Prop} {h0 : Nat} {gN : Nat} {gS : Nat} {m2 : Int32} {m3 : Int64} {m4 : Int64} {m5 : Int64} {m6 : Int64} {cI : ClassId} {h1 : Nat} {h2 : Nat}  (hx : p.tables.exec = Jvm.exec) (hb : c.code = cX1_multiplyColumn) (hrt : meth.sig.returnType = none) (hml : c.maxLocals = 12) (hown : s.vm.findClass RX1 = some m.cls) (hlocks : meth.locks = false) (hts : ∀ w ∈ wsX1_multiplyColumn, w.before args s = true) (hA : ∀ q : Nat, s.heap.size ≤ q → A q) (hK : va_K (dC, dI) vwCl [(cI, .int)] s)  (n : Nat) (out : (Nat → Int32) × (Nat → Int32)) :
    ∀ (k : Nat) (u3 : Int64) (u5 : Int64) (u7 : Int32) (w1 : Nat → Int32) (w2 : Nat → Int32), f_X1_multiplyColumn_8 n k m2 m3 m4 m5 m6 u3 u5 u7 w1 w2 = some out → ∀ (H : Heap) (locs : List Loc) (ls : Array Slot), va_P (dC, dI) vwCl [(h0, .inr (1, [.ref gN, .ref gS, .int m2, .long m3, .long m4, .long m5, .long m6])), (h1, .inl (cI, 256, .inl w1)), (h2, .inl (cI, 256, .inl w2))] H → va_D A [(h0, .inr (1, [.ref gN, .ref gS, .int m2, .long m3, .long m4, .long m5, .long m6])), (h1, .inl (cI, 256, .inl w1)), (h2, .inl (cI, 256, .inl w2))] → va_S A s.heap H locs → lv_has ls 12 [(0, .ref h0), (1, .ref h1), (2, .ref h2), (3, .long u3), (5, .long u5), (7, .int u7)] → W p l e ({ frames := 0, cells := 0, slots := 0, locals := 0 }) s m args below meth c H locs 0 0 (MQ below (va_Qv (fun (_ : Unit) => True) (fun (_ : Unit) t => zB dC dI [(cI, .int)] A [(h0, .inr (1, [.ref gN, .ref gS, .int m2, .long m3, .long m4, .long m5, .long m6])), (h1, .inl (cI, 256, .inl out.1)), (h2, .inl (cI, 256, .inl out.2))] t) A) args s 0 0 A) (F0 m 8 ls []) := by
  intro k
  induction k with
  | zero => intro u3 u5 u7 w1 w2 hr; rw [f_X1_multiplyColumn_8] at hr; cases hr
  | succ k ih =>
    intro u3 u5 u7 w1 w2 hr H locs ls hP hD hS hl
    rw [f_X1_multiplyColumn_8] at hr
    refine lv_iload hx hb dX1_multiplyColumn_8 (lv_at hl 5 rfl) ?_
    refine lv_aload_n hx hb dX1_multiplyColumn_10 rfl (lv_at hl 0 rfl) ?_
    refine va_get (D := (dC, dI)) (ci := 1) (v := .int m2) (C := RX1) (T := TX1) (N := 7) hx hb hts in_X1_multiplyColumn_X1 hown hK hP 0 rfl rfl 2 (by decide) (hts (.fieldLink RX1 23 "FormRing$Matrix" "length" "I") (by decide +kernel)) (fun _ h9 => h9) rfl dX1_multiplyColumn_11 ?_
    refine lz_ige (tgt := 108) hx hb dX1_multiplyColumn_14 (by decide) (fun c_1 => ?_) (fun c_1 => ?_)
    · have hr := (if_neg c_1).symm.trans hr
      have ho := Option.some.inj hr
      subst ho
      exact W.vret hx hb hrt (fun t ht hW => ⟨⟨(), rfl, trivial, by rw [ht]; exact hP, va_K.moved hW.alike hK, hD⟩, hS.F ht⟩) hS.2.2 dX1_multiplyColumn_108
    · have hr := (if_pos c_1).symm.trans hr
      refine lv_aload_n hx hb dX1_multiplyColumn_17 rfl (lv_at hl 1 rfl) ?_
      refine lv_iload hx hb dX1_multiplyColumn_18 (lv_at hl 5 rfl) ?_
      by_cases g_2 : u7 < 0 ∨ 256 ≤ u7.toNatClampNeg
      · have hr := (if_pos g_2).symm.trans hr
        cases hr
      have hr := (if_neg g_2).symm.trans hr
      refine va_iald hx hb hK hP 1 0 rfl rfl g_2 dX1_multiplyColumn_20 ?_
      refine lv_i2l hx hb dX1_multiplyColumn_21 rfl ?_
      refine lv_ldc2 (v := 4294967295) hx hb hown (hts (.constantLong RX1 62 (4294967295)) (by decide +kernel)) dX1_multiplyColumn_22 ?_
      refine lv_land hx hb dX1_multiplyColumn_25 ?_
      refine lv_lstore (lv' := [(8, .long (((w1 u7.toNatClampNeg).toInt64) &&& (4294967295 : Int64))), (0, .ref h0), (1, .ref h1), (2, .ref h2), (3, .long u3), (5, .long u5), (7, .int u7)]) hx hb dX1_multiplyColumn_26 hl (by decide) rfl (fun ls hl => ?_)
      refine lv_aload_n hx hb dX1_multiplyColumn_28 rfl (lv_at hl 3 rfl) ?_
      refine lv_iload hx hb dX1_multiplyColumn_29 (lv_at hl 6 rfl) ?_
      by_cases g_3 : u7 < 0 ∨ 256 ≤ u7.toNatClampNeg
      · have hr := (if_pos g_3).symm.trans hr
        cases hr
      have hr := (if_neg g_3).symm.trans hr
      refine va_iald hx hb hK hP 2 0 rfl rfl g_3 dX1_multiplyColumn_31 ?_
      refine lv_i2l hx hb dX1_multiplyColumn_32 rfl ?_
      refine lv_ldc2 (v := 4294967295) hx hb hown (hts (.constantLong RX1 62 (4294967295)) (by decide +kernel)) dX1_multiplyColumn_33 ?_
      refine lv_land hx hb dX1_multiplyColumn_36 ?_
      refine lv_lstore (lv' := [(10, .long (((w2 u7.toNatClampNeg).toInt64) &&& (4294967295 : Int64))), (8, .long (((w1 u7.toNatClampNeg).toInt64) &&& (4294967295 : Int64))), (0, .ref h0), (1, .ref h1), (2, .ref h2), (3, .long u3), (5, .long u5), (7, .int u7)]) hx hb dX1_multiplyColumn_37 hl (by decide) rfl (fun ls hl => ?_)
      refine lv_lload_n hx hb dX1_multiplyColumn_39 rfl (lv_at hl 5 rfl) ?_
      refine lv_aload_n hx hb dX1_multiplyColumn_40 rfl (lv_at hl 2 rfl) ?_
      refine va_get (D := (dC, dI)) (ci := 1) (v := .long m3) (C := RX1) (T := TX1) (N := 7) hx hb hts in_X1_multiplyColumn_X1 hown hK hP 0 rfl rfl 3 (by decide) (hts (.fieldLink RX1 30 "FormRing$Matrix" "waiting0" "J") (by decide +kernel)) (fun _ h9 => h9) rfl dX1_multiplyColumn_41 ?_
      refine lv_lload hx hb dX1_multiplyColumn_44 (lv_at hl 1 rfl) ?_
      refine lv_lmul hx hb dX1_multiplyColumn_46 ?_
      refine lv_aload_n hx hb dX1_multiplyColumn_47 rfl (lv_at hl 2 rfl) ?_
      refine va_get (D := (dC, dI)) (ci := 1) (v := .long m4) (C := RX1) (T := TX1) (N := 7) hx hb hts in_X1_multiplyColumn_X1 hown hK hP 0 rfl rfl 4 (by decide) (hts (.fieldLink RX1 41 "FormRing$Matrix" "waiting1" "J") (by decide +kernel)) (fun _ h9 => h9) rfl dX1_multiplyColumn_48 ?_
      refine lv_lload hx hb dX1_multiplyColumn_51 (lv_at hl 0 rfl) ?_
      refine lv_lmul hx hb dX1_multiplyColumn_53 ?_
      refine lv_ladd hx hb dX1_multiplyColumn_54 ?_
      refine lv_ladd hx hb dX1_multiplyColumn_55 ?_
      refine lv_lstore_n (lv' := [(3, .long (u3 + ((m3 * (((w1 u7.toNatClampNeg).toInt64) &&& (4294967295 : Int64))) + (m4 * (((w2 u7.toNatClampNeg).toInt64) &&& (4294967295 : Int64)))))), (10, .long (((w2 u7.toNatClampNeg).toInt64) &&& (4294967295 : Int64))), (8, .long (((w1 u7.toNatClampNeg).toInt64) &&& (4294967295 : Int64))), (0, .ref h0), (1, .ref h1), (2, .ref h2), (5, .long u5), (7, .int u7)]) hx hb dX1_multiplyColumn_56 rfl hl (by decide) rfl (fun ls hl => ?_)
      refine lv_lload hx hb dX1_multiplyColumn_57 (lv_at hl 6 rfl) ?_
      refine lv_aload_n hx hb dX1_multiplyColumn_59 rfl (lv_at hl 3 rfl) ?_
      refine va_get (D := (dC, dI)) (ci := 1) (v := .long m5) (C := RX1) (T := TX1) (N := 7) hx hb hts in_X1_multiplyColumn_X1 hown hK hP 0 rfl rfl 5 (by decide) (hts (.fieldLink RX1 34 "FormRing$Matrix" "waiting2" "J") (by decide +kernel)) (fun _ h9 => h9) rfl dX1_multiplyColumn_60 ?_
      refine lv_lload hx hb dX1_multiplyColumn_63 (lv_at hl 2 rfl) ?_
      refine lv_lmul hx hb dX1_multiplyColumn_65 ?_
      refine lv_aload_n hx hb dX1_multiplyColumn_66 rfl (lv_at hl 3 rfl) ?_
      refine va_get (D := (dC, dI)) (ci := 1) (v := .long m6) (C := RX1) (T := TX1) (N := 7) hx hb hts in_X1_multiplyColumn_X1 hown hK hP 0 rfl rfl 6 (by decide) (hts (.fieldLink RX1 44 "FormRing$Matrix" "waiting3" "J") (by decide +kernel)) (fun _ h9 => h9) rfl dX1_multiplyColumn_67 ?_
      refine lv_lload hx hb dX1_multiplyColumn_70 (lv_at hl 1 rfl) ?_
      refine lv_lmul hx hb dX1_multiplyColumn_72 ?_
      refine lv_ladd hx hb dX1_multiplyColumn_73 ?_
      refine lv_ladd hx hb dX1_multiplyColumn_74 ?_
      refine lv_lstore (lv' := [(5, .long (u5 + ((m5 * (((w1 u7.toNatClampNeg).toInt64) &&& (4294967295 : Int64))) + (m6 * (((w2 u7.toNatClampNeg).toInt64) &&& (4294967295 : Int64)))))), (3, .long (u3 + ((m3 * (((w1 u7.toNatClampNeg).toInt64) &&& (4294967295 : Int64))) + (m4 * (((w2 u7.toNatClampNeg).toInt64) &&& (4294967295 : Int64)))))), (10, .long (((w2 u7.toNatClampNeg).toInt64) &&& (4294967295 : Int64))), (8, .long (((w1 u7.toNatClampNeg).toInt64) &&& (4294967295 : Int64))), (0, .ref h0), (1, .ref h1), (2, .ref h2), (7, .int u7)]) hx hb dX1_multiplyColumn_75 hl (by decide) rfl (fun ls hl => ?_)
      refine lv_aload_n hx hb dX1_multiplyColumn_77 rfl (lv_at hl 5 rfl) ?_
      refine lv_iload hx hb dX1_multiplyColumn_78 (lv_at hl 7 rfl) ?_
      refine lv_lload_n hx hb dX1_multiplyColumn_80 rfl (lv_at hl 1 rfl) ?_
      refine lv_l2i hx hb dX1_multiplyColumn_81 rfl ?_
      by_cases g_4 : u7 < 0 ∨ 256 ≤ u7.toNatClampNeg
      · have hr := (if_pos g_4).symm.trans hr
        cases hr
      have hr := (if_neg g_4).symm.trans hr
      refine va_iast hx hb hK hP hD hS 1 0 rfl rfl g_4 dX1_multiplyColumn_82 (fun H locs hP hD hS => ?_)
      have hP : va_P (dC, dI) vwCl [(h0, .inr (1, [.ref gN, .ref gS, .int m2, .long m3, .long m4, .long m5, .long m6])), (h1, .inl (cI, 256, .inl (upd w1 u7.toNatClampNeg ((u3 + ((m3 * (((w1 u7.toNatClampNeg).toInt64) &&& (4294967295 : Int64))) + (m4 * (((w2 u7.toNatClampNeg).toInt64) &&& (4294967295 : Int64))))).toInt32)))), (h2, .inl (cI, 256, .inl w2))] H := hP
      have hD : va_D A [(h0, .inr (1, [.ref gN, .ref gS, .int m2, .long m3, .long m4, .long m5, .long m6])), (h1, .inl (cI, 256, .inl (upd w1 u7.toNatClampNeg ((u3 + ((m3 * (((w1 u7.toNatClampNeg).toInt64) &&& (4294967295 : Int64))) + (m4 * (((w2 u7.toNatClampNeg).toInt64) &&& (4294967295 : Int64))))).toInt32)))), (h2, .inl (cI, 256, .inl w2))] := hD
      refine lv_aload_n hx hb dX1_multiplyColumn_83 rfl (lv_at hl 6 rfl) ?_
      refine lv_iload hx hb dX1_multiplyColumn_84 (lv_at hl 7 rfl) ?_
      refine lv_lload hx hb dX1_multiplyColumn_86 (lv_at hl 0 rfl) ?_
      refine lv_l2i hx hb dX1_multiplyColumn_88 rfl ?_
      by_cases g_5 : u7 < 0 ∨ 256 ≤ u7.toNatClampNeg
      · have hr := (if_pos g_5).symm.trans hr
        cases hr
      have hr := (if_neg g_5).symm.trans hr
      refine va_iast hx hb hK hP hD hS 2 0 rfl rfl g_5 dX1_multiplyColumn_89 (fun H locs hP hD hS => ?_)
      have hP : va_P (dC, dI) vwCl [(h0, .inr (1, [.ref gN, .ref gS, .int m2, .long m3, .long m4, .long m5, .long m6])), (h1, .inl (cI, 256, .inl (upd w1 u7.toNatClampNeg ((u3 + ((m3 * (((w1 u7.toNatClampNeg).toInt64) &&& (4294967295 : Int64))) + (m4 * (((w2 u7.toNatClampNeg).toInt64) &&& (4294967295 : Int64))))).toInt32)))), (h2, .inl (cI, 256, .inl (upd w2 u7.toNatClampNeg ((u5 + ((m5 * (((w1 u7.toNatClampNeg).toInt64) &&& (4294967295 : Int64))) + (m6 * (((w2 u7.toNatClampNeg).toInt64) &&& (4294967295 : Int64))))).toInt32))))] H := hP
      have hD : va_D A [(h0, .inr (1, [.ref gN, .ref gS, .int m2, .long m3, .long m4, .long m5, .long m6])), (h1, .inl (cI, 256, .inl (upd w1 u7.toNatClampNeg ((u3 + ((m3 * (((w1 u7.toNatClampNeg).toInt64) &&& (4294967295 : Int64))) + (m4 * (((w2 u7.toNatClampNeg).toInt64) &&& (4294967295 : Int64))))).toInt32)))), (h2, .inl (cI, 256, .inl (upd w2 u7.toNatClampNeg ((u5 + ((m5 * (((w1 u7.toNatClampNeg).toInt64) &&& (4294967295 : Int64))) + (m6 * (((w2 u7.toNatClampNeg).toInt64) &&& (4294967295 : Int64))))).toInt32))))] := hD
      refine lv_lload_n hx hb dX1_multiplyColumn_90 rfl (lv_at hl 1 rfl) ?_
      refine lv_bipush (v := 32) hx hb dX1_multiplyColumn_91 (by decide) ?_
      refine lv_lshr hx hb dX1_multiplyColumn_93 rfl ?_
      refine lv_lstore_n (lv' := [(3, .long ((u3 + ((m3 * (((w1 u7.toNatClampNeg).toInt64) &&& (4294967295 : Int64))) + (m4 * (((w2 u7.toNatClampNeg).toInt64) &&& (4294967295 : Int64))))) >>> ((32 : Int32).toInt64 &&& 63))), (5, .long (u5 + ((m5 * (((w1 u7.toNatClampNeg).toInt64) &&& (4294967295 : Int64))) + (m6 * (((w2 u7.toNatClampNeg).toInt64) &&& (4294967295 : Int64)))))), (10, .long (((w2 u7.toNatClampNeg).toInt64) &&& (4294967295 : Int64))), (8, .long (((w1 u7.toNatClampNeg).toInt64) &&& (4294967295 : Int64))), (0, .ref h0), (1, .ref h1), (2, .ref h2), (7, .int u7)]) hx hb dX1_multiplyColumn_94 rfl hl (by decide) rfl (fun ls hl => ?_)
      refine lv_lload hx hb dX1_multiplyColumn_95 (lv_at hl 1 rfl) ?_
      refine lv_bipush (v := 32) hx hb dX1_multiplyColumn_97 (by decide) ?_
      refine lv_lshr hx hb dX1_multiplyColumn_99 rfl ?_
      refine lv_lstore (lv' := [(5, .long ((u5 + ((m5 * (((w1 u7.toNatClampNeg).toInt64) &&& (4294967295 : Int64))) + (m6 * (((w2 u7.toNatClampNeg).toInt64) &&& (4294967295 : Int64))))) >>> ((32 : Int32).toInt64 &&& 63))), (3, .long ((u3 + ((m3 * (((w1 u7.toNatClampNeg).toInt64) &&& (4294967295 : Int64))) + (m4 * (((w2 u7.toNatClampNeg).toInt64) &&& (4294967295 : Int64))))) >>> ((32 : Int32).toInt64 &&& 63))), (10, .long (((w2 u7.toNatClampNeg).toInt64) &&& (4294967295 : Int64))), (8, .long (((w1 u7.toNatClampNeg).toInt64) &&& (4294967295 : Int64))), (0, .ref h0), (1, .ref h1), (2, .ref h2), (7, .int u7)]) hx hb dX1_multiplyColumn_100 hl (by decide) rfl (fun ls hl => ?_)
      refine lv_iinc (v := u7 + 1) (lv' := [(7, .int (u7 + 1)), (5, .long ((u5 + ((m5 * (((w1 u7.toNatClampNeg).toInt64) &&& (4294967295 : Int64))) + (m6 * (((w2 u7.toNatClampNeg).toInt64) &&& (4294967295 : Int64))))) >>> ((32 : Int32).toInt64 &&& 63))), (3, .long ((u3 + ((m3 * (((w1 u7.toNatClampNeg).toInt64) &&& (4294967295 : Int64))) + (m4 * (((w2 u7.toNatClampNeg).toInt64) &&& (4294967295 : Int64))))) >>> ((32 : Int32).toInt64 &&& 63))), (10, .long (((w2 u7.toNatClampNeg).toInt64) &&& (4294967295 : Int64))), (8, .long (((w1 u7.toNatClampNeg).toInt64) &&& (4294967295 : Int64))), (0, .ref h0), (1, .ref h1), (2, .ref h2)]) hx hb dX1_multiplyColumn_102 hl (k := 7) rfl rfl (by decide) rfl (fun ls hl => ?_)
      refine lv_goto (tgt := 8) hx hb dX1_multiplyColumn_105 (by decide) ?_
      exact ih ((u3 + ((m3 * (((w1 u7.toNatClampNeg).toInt64) &&& (4294967295 : Int64))) + (m4 * (((w2 u7.toNatClampNeg).toInt64) &&& (4294967295 : Int64))))) >>> ((32 : Int32).toInt64 &&& 63)) ((u5 + ((m5 * (((w1 u7.toNatClampNeg).toInt64) &&& (4294967295 : Int64))) + (m6 * (((w2 u7.toNatClampNeg).toInt64) &&& (4294967295 : Int64))))) >>> ((32 : Int32).toInt64 &&& 63)) (u7 + 1) (upd w1 u7.toNatClampNeg ((u3 + ((m3 * (((w1 u7.toNatClampNeg).toInt64) &&& (4294967295 : Int64))) + (m4 * (((w2 u7.toNatClampNeg).toInt64) &&& (4294967295 : Int64))))).toInt32)) (upd w2 u7.toNatClampNeg ((u5 + ((m5 * (((w1 u7.toNatClampNeg).toInt64) &&& (4294967295 : Int64))) + (m6 * (((w2 u7.toNatClampNeg).toInt64) &&& (4294967295 : Int64))))).toInt32)) hr _ _ _ hP hD hS (lv_sub hl [5, 6, 7, 2, 1, 0] rfl)
def f_X1_multiplyColumn (n : Nat) (m2 : Int32) (m3 : Int64) (m4 : Int64) (m5 : Int64) (m6 : Int64) (rw : Nat → Int32) (rx : Nat → Int32) : Option ((Nat → Int32) × (Nat → Int32)) := f_X1_multiplyColumn_8 n n m2 m3 m4 m5 m6 0 0 0 rw rx
set_option maxHeartbeats 4000000 in
set_option maxRecDepth 100000 in
theorem c_X1_multiplyColumn (l : Launch) (dC : Nat → ClassId) (dI : Nat → Nat → Nat) (sz : Nat) (h0 : Nat) (gN : Nat) (gS : Nat) (m2 : Int32) (m3 : Int64) (m4 : Int64) (m5 : Int64) (m6 : Int64) (cI : ClassId) (h1 : Nat) (h2 : Nat) (rw : Nat → Int32) (rx : Nat → Int32)   (n : Nat) (out : (Nat → Int32) × (Nat → Int32)) (hr : f_X1_multiplyColumn n m2 m3 m4 m5 m6 rw rx = some out) : Met l yX1_multiplyColumn wsX1_multiplyColumn ({ frames := 0, cells := 0, slots := 0, locals := 0 }) (va_Pc [.ref h0, .ref h1, .ref h2] (zP dC dI [(cI, .int)] [(h0, .inr (1, [.ref gN, .ref gS, .int m2, .long m3, .long m4, .long m5, .long m6])), (h1, .inl (cI, 256, .inl rw)), (h2, .inl (cI, 256, .inl rx))] sz)) (va_Qv (fun (_ : Unit) => True) (fun (_ : Unit) t => zB dC dI [(cI, .int)] (va_A [(h0, .inr (1, [.ref gN, .ref gS, .int m2, .long m3, .long m4, .long m5, .long m6])), (h1, .inl (cI, 256, .inl rw)), (h2, .inl (cI, 256, .inl rx))] sz) [(h0, .inr (1, [.ref gN, .ref gS, .int m2, .long m3, .long m4, .long m5, .long m6])), (h1, .inl (cI, 256, .inl out.1)), (h2, .inl (cI, 256, .inl out.2))] t) (va_A [(h0, .inr (1, [.ref gN, .ref gS, .int m2, .long m3, .long m4, .long m5, .long m6])), (h1, .inl (cI, 256, .inl rw)), (h2, .inl (cI, 256, .inl rx))] sz)) 0 0 (va_A [(h0, .inr (1, [.ref gN, .ref gS, .int m2, .long m3, .long m4, .long m5, .long m6])), (h1, .inl (cI, 256, .inl rw)), (h2, .inl (cI, 256, .inl rx))] sz) := by
  refine Met.ofW (cc := cX1_multiplyColumn) (maxL := 12) (ret := none) (by decide +kernel) rfl ?_
  intro p e s m args below meth c s₁ B hml hv
  obtain ⟨rfl, hsz, hP, hK, hD0⟩ := hv
  have hx := B.exec
  have hb := B.bytes
  have hrt := B.returns
  have hts := atoms_spec (ws := wsX1_multiplyColumn) B.pre
  have hown : s.vm.findClass RX1 = some m.cls := findClass_of_methodNamed B.named
  have hlocks := B.notSynchronized
  subst hsz
  have hD := hD0.self (sz := s.heap.size)
  generalize hAe : va_A [(h0, .inr (1, [.ref gN, .ref gS, .int m2, .long m3, .long m4, .long m5, .long m6])), (h1, .inl (cI, 256, .inl rw)), (h2, .inl (cI, 256, .inl rx))] s.heap.size = A at hD ⊢
  have hA : ∀ q : Nat, s.heap.size ≤ q → A q := fun q h => by rw [← hAe]; exact Or.inr h
  have hS : va_S A s.heap s.heap [] := va_S.rf
  have hP : va_P (dC, dI) vwCl [(h0, .inr (1, [.ref gN, .ref gS, .int m2, .long m3, .long m4, .long m5, .long m6])), (h1, .inl (cI, 256, .inl rw)), (h2, .inl (cI, 256, .inl rx))] s.heap := hP
  have hl := lv_entry ([.ref h0, .ref h1, .ref h2]) (n := 12) (Nat.le_of_ble_eq_true rfl)
  rw [lg_entry_eq]
  generalize (lg_sl ([.ref h0, .ref h1, .ref h2]) ++ List.replicate (12 - (lg_sl ([.ref h0, .ref h1, .ref h2])).length) Slot.unset).toArray = ls at hl ⊢
  have hl : lv_has ls 12 [(0, .ref h0), (1, .ref h1), (2, .ref h2)] := hl
  unfold f_X1_multiplyColumn at hr
  refine lv_lconst (v := 0) hx hb dX1_multiplyColumn_0 (by decide) ?_
  refine lv_lstore_n (lv' := [(3, .long 0), (0, .ref h0), (1, .ref h1), (2, .ref h2)]) hx hb dX1_multiplyColumn_1 rfl hl (by decide) rfl (fun ls hl => ?_)
  refine lv_lconst (v := 0) hx hb dX1_multiplyColumn_2 (by decide) ?_
  refine lv_lstore (lv' := [(5, .long 0), (3, .long 0), (0, .ref h0), (1, .ref h1), (2, .ref h2)]) hx hb dX1_multiplyColumn_3 hl (by decide) rfl (fun ls hl => ?_)
  refine lv_iconst (v := 0) hx hb dX1_multiplyColumn_5 (by decide) ?_
  refine lv_istore (lv' := [(7, .int 0), (5, .long 0), (3, .long 0), (0, .ref h0), (1, .ref h1), (2, .ref h2)]) hx hb dX1_multiplyColumn_6 hl (by decide) rfl (fun ls hl => ?_)
  exact k_X1_multiplyColumn_8 hx hb hrt hml hown hlocks hts hA hK n out n 0 0 0 rw rx hr _ _ _ hP hD hS (lv_sub hl [3, 4, 5, 2, 1, 0] rfl)
