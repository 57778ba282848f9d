theorem in_X3_thrown_X3 : ∀ w ∈ u_ws RX3 TX3 15, w ∈ wsX3_thrown := by decide +kernel
def f_X3_thrown (n : Nat) (v0 : Int32) : Option (Int32) := some v0
set_option maxHeartbeats 4000000 in
set_option maxRecDepth 100000 in
theorem c_X3_thrown (l : Launch) (dC : Nat → ClassId) (dI : Nat → Nat → Nat) (sz : Nat) (h0 : Nat) (h1 : Nat) (cI : ClassId) (v0 : Int32) (v1 : Int64) (v2 : Int64) (v3 : Int64) (v4 : Int64) (v5 : Int64) (v6 : Int64) (v7 : Int64) (v8 : Int64) (v9 : Int64) (v10 : Int64) (v11 : Int64) (v12 : Int64) (v13 : Int32) (vR : Nat → Int32)   (n : Nat) (out : Int32) (hr : f_X3_thrown n v0 = some out) : Met l yX3_thrown wsX3_thrown ({ frames := 0, cells := 0, slots := 0, locals := 0 }) (va_Pc [.ref h0] (zP dC dI [(cI, .int)] [(h0, .inr (3, [.int v0, .long v1, .long v2, .long v3, .long v4, .long v5, .long v6, .long v7, .long v8, .long v9, .long v10, .long v11, .long v12, .int v13, .ref h1])), (h1, .inl (cI, 6600, .inl vR))] sz)) (va_Qi (fun r (_ : Unit) => r = out) (fun (_ : Unit) t => zB dC dI [(cI, .int)] (va_A [(h0, .inr (3, [.int v0, .long v1, .long v2, .long v3, .long v4, .long v5, .long v6, .long v7, .long v8, .long v9, .long v10, .long v11, .long v12, .int v13, .ref h1])), (h1, .inl (cI, 6600, .inl vR))] sz) [(h0, .inr (3, [.int v0, .long v1, .long v2, .long v3, .long v4, .long v5, .long v6, .long v7, .long v8, .long v9, .long v10, .long v11, .long v12, .int v13, .ref h1])), (h1, .inl (cI, 6600, .inl vR))] t) (va_A [(h0, .inr (3, [.int v0, .long v1, .long v2, .long v3, .long v4, .long v5, .long v6, .long v7, .long v8, .long v9, .long v10, .long v11, .long v12, .int v13, .ref h1])), (h1, .inl (cI, 6600, .inl vR))] sz)) 0 0 (va_A [(h0, .inr (3, [.int v0, .long v1, .long v2, .long v3, .long v4, .long v5, .long v6, .long v7, .long v8, .long v9, .long v10, .long v11, .long v12, .int v13, .ref h1])), (h1, .inl (cI, 6600, .inl vR))] sz) := by
  refine Met.ofW (cc := cX3_thrown) (maxL := 1) (ret := (some .int)) (by decide) rfl ?_
  intro p e s m args below meth c s₁ B hml hv
  obtain ⟨rfl, hsz, hP, hK, hD0⟩ := hv
  have hx := B.exec
  have hb := B.bytes
  have hrt := B.returns
  have hts := atoms_spec (ws := wsX3_thrown) B.pre
  have hown : s.vm.findClass RX3 = some m.cls := findClass_of_methodNamed B.named
  have hlocks := B.notSynchronized
  subst hsz
  have hD := hD0.self (sz := s.heap.size)
  generalize hAe : va_A [(h0, .inr (3, [.int v0, .long v1, .long v2, .long v3, .long v4, .long v5, .long v6, .long v7, .long v8, .long v9, .long v10, .long v11, .long v12, .int v13, .ref h1])), (h1, .inl (cI, 6600, .inl vR))] s.heap.size = A at hD ⊢
  have hA : ∀ q : Nat, s.heap.size ≤ q → A q := fun q h => by rw [← hAe]; exact Or.inr h
  have hS : va_S A s.heap s.heap [] := va_S.rf
  have hP : va_P (dC, dI) vwCl [(h0, .inr (3, [.int v0, .long v1, .long v2, .long v3, .long v4, .long v5, .long v6, .long v7, .long v8, .long v9, .long v10, .long v11, .long v12, .int v13, .ref h1])), (h1, .inl (cI, 6600, .inl vR))] s.heap := hP
  have hl := lv_entry ([.ref h0]) (n := 1) (Nat.le_of_ble_eq_true rfl)
  rw [lg_entry_eq]
  generalize (lg_sl ([.ref h0]) ++ List.replicate (1 - (lg_sl ([.ref h0])).length) Slot.unset).toArray = ls at hl ⊢
  have hl : lv_has ls 1 [(0, .ref h0)] := hl
  unfold f_X3_thrown at hr
  refine lv_aload_n hx hb dX3_thrown_0 rfl (lv_at hl 0 rfl) ?_
  refine va_get (D := (dC, dI)) (ci := 3) (v := .int v0) (C := RX3) (T := TX3) (N := 15) hx hb hts in_X3_thrown_X3 hown hK hP 0 rfl rfl 0 (by decide) (hts (.fieldLink RX3 44 "FormRingModel" "code" "I") (by decide +kernel)) (fun _ h9 => h9) rfl dX3_thrown_1 ?_
  have ho := Option.some.inj hr
  subst ho
  exact W.iret (v := v0) hx hb hrt (fun t ht hW => ⟨⟨v0, (), rfl, rfl, by rw [ht]; exact hP, va_K.moved hW.alike hK, hD⟩, hS.F ht⟩) hS.2.2 dX3_thrown_4

theorem in_X3_raise_X3 : ∀ w ∈ u_ws RX3 TX3 15, w ∈ wsX3_raise := by decide +kernel
def f_X3_raise (n : Nat) (a1 : Int32) : Option (Int32 × Int32) := some (0, a1)
set_option maxHeartbeats 4000000 in
set_option maxRecDepth 100000 in
theorem c_X3_raise (l : Launch) (dC : Nat → ClassId) (dI : Nat → Nat → Nat) (sz : Nat) (h0 : Nat) (h1 : Nat) (cI : ClassId) (v0 : Int32) (v1 : Int64) (v2 : Int64) (v3 : Int64) (v4 : Int64) (v5 : Int64) (v6 : Int64) (v7 : Int64) (v8 : Int64) (v9 : Int64) (v10 : Int64) (v11 : Int64) (v12 : Int64) (v13 : Int32) (vR : Nat → Int32) (a1 : Int32)  (n : Nat) (out : Int32 × Int32) (hr : f_X3_raise n a1 = some out) : Met l yX3_raise wsX3_raise ({ frames := 0, cells := 0, slots := 0, locals := 0 }) (va_Pc [.ref h0, .int a1] (zP dC dI [(cI, .int)] [(h0, .inr (3, [.int v0, .long v1, .long v2, .long v3, .long v4, .long v5, .long v6, .long v7, .long v8, .long v9, .long v10, .long v11, .long v12, .int v13, .ref h1])), (h1, .inl (cI, 6600, .inl vR))] sz)) (va_Qi (fun r (_ : Unit) => r = out.1) (fun (_ : Unit) t => zB dC dI [(cI, .int)] (va_A [(h0, .inr (3, [.int v0, .long v1, .long v2, .long v3, .long v4, .long v5, .long v6, .long v7, .long v8, .long v9, .long v10, .long v11, .long v12, .int v13, .ref h1])), (h1, .inl (cI, 6600, .inl vR))] sz) [(h0, .inr (3, [.int out.2, .long v1, .long v2, .long v3, .long v4, .long v5, .long v6, .long v7, .long v8, .long v9, .long v10, .long v11, .long v12, .int v13, .ref h1])), (h1, .inl (cI, 6600, .inl vR))] t) (va_A [(h0, .inr (3, [.int v0, .long v1, .long v2, .long v3, .long v4, .long v5, .long v6, .long v7, .long v8, .long v9, .long v10, .long v11, .long v12, .int v13, .ref h1])), (h1, .inl (cI, 6600, .inl vR))] sz)) 0 0 (va_A [(h0, .inr (3, [.int v0, .long v1, .long v2, .long v3, .long v4, .long v5, .long v6, .long v7, .long v8, .long v9, .long v10, .long v11, .long v12, .int v13, .ref h1])), (h1, .inl (cI, 6600, .inl vR))] sz) := by
  refine Met.ofW (cc := cX3_raise) (maxL := 2) (ret := (some .int)) (by decide) rfl ?_
  intro p e s m args below meth c s₁ B hml hv
  obtain ⟨rfl, hsz, hP, hK, hD0⟩ := hv
  have hx := B.exec
  have hb := B.bytes
  have hrt := B.returns
  have hts := atoms_spec (ws := wsX3_raise) B.pre
  have hown : s.vm.findClass RX3 = some m.cls := findClass_of_methodNamed B.named
  have hlocks := B.notSynchronized
  subst hsz
  have hD := hD0.self (sz := s.heap.size)
  generalize hAe : va_A [(h0, .inr (3, [.int v0, .long v1, .long v2, .long v3, .long v4, .long v5, .long v6, .long v7, .long v8, .long v9, .long v10, .long v11, .long v12, .int v13, .ref h1])), (h1, .inl (cI, 6600, .inl vR))] s.heap.size = A at hD ⊢
  have hA : ∀ q : Nat, s.heap.size ≤ q → A q := fun q h => by rw [← hAe]; exact Or.inr h
  have hS : va_S A s.heap s.heap [] := va_S.rf
  have hP : va_P (dC, dI) vwCl [(h0, .inr (3, [.int v0, .long v1, .long v2, .long v3, .long v4, .long v5, .long v6, .long v7, .long v8, .long v9, .long v10, .long v11, .long v12, .int v13, .ref h1])), (h1, .inl (cI, 6600, .inl vR))] s.heap := hP
  have hl := lv_entry ([.ref h0, .int a1]) (n := 2) (Nat.le_of_ble_eq_true rfl)
  rw [lg_entry_eq]
  generalize (lg_sl ([.ref h0, .int a1]) ++ List.replicate (2 - (lg_sl ([.ref h0, .int a1])).length) Slot.unset).toArray = ls at hl ⊢
  have hl : lv_has ls 2 [(0, .ref h0), (1, .int a1)] := hl
  unfold f_X3_raise at hr
  refine lv_aload_n hx hb dX3_raise_0 rfl (lv_at hl 0 rfl) ?_
  refine lv_iload_n hx hb dX3_raise_1 rfl (lv_at hl 1 rfl) ?_
  refine va_put (D := (dC, dI)) (ci := 3) (v := .int a1) (ty := .int) (C := RX3) (T := TX3) (N := 15) hx hb hts in_X3_raise_X3 tyX3 tyX3_ok nmX3 hown hK hP hD hS 0 rfl rfl 0 (by decide) (hts (.fieldLink RX3 44 "FormRingModel" "code" "I") (by decide +kernel)) (fun _ h9 => h9) rfl (by decide +kernel) rfl rfl (Nat.le_of_ble_eq_true rfl) dX3_raise_2 (fun H locs hP hD hS => ?_)
  have hP : va_P (dC, dI) vwCl [(h0, .inr (3, [.int a1, .long v1, .long v2, .long v3, .long v4, .long v5, .long v6, .long v7, .long v8, .long v9, .long v10, .long v11, .long v12, .int v13, .ref h1])), (h1, .inl (cI, 6600, .inl vR))] H := hP
  have hD : va_D A [(h0, .inr (3, [.int a1, .long v1, .long v2, .long v3, .long v4, .long v5, .long v6, .long v7, .long v8, .long v9, .long v10, .long v11, .long v12, .int v13, .ref h1])), (h1, .inl (cI, 6600, .inl vR))] := hD
  refine lv_iconst (v := 0) hx hb dX3_raise_5 (by decide) ?_
  have ho := Option.some.inj hr
  subst ho
  exact W.iret (v := 0) hx hb hrt (fun t ht hW => ⟨⟨0, (), rfl, rfl, by rw [ht]; exact hP, va_K.moved hW.alike hK, hD⟩, hS.F ht⟩) hS.2.2 dX3_raise_6

def f_X3_in (n : Nat) (a1 : Int64) (a2 : Int64) (a3 : Int64) : Option (Int32) := if a1 < a2 then (some 0) else (if a3 < a1 then (some 0) else (some 1))
set_option maxHeartbeats 4000000 in
set_option maxRecDepth 100000 in
theorem c_X3_in (l : Launch) (dC : Nat → ClassId) (dI : Nat → Nat → Nat) (sz : Nat)  (a1 : Int64) (a2 : Int64) (a3 : Int64)  (n : Nat) (out : Int32) (hr : f_X3_in n a1 a2 a3 = some out) : Met l yX3_in wsX3_in ({ frames := 0, cells := 0, slots := 0, locals := 0 }) (va_Pc [.long a1, .long a2, .long a3] (zP dC dI [] [] sz)) (va_Qi (fun r (_ : Unit) => r = out ∧ narrow .boolean (.int r) = .int r) (fun (_ : Unit) t => zB dC dI [] (va_A [] sz) [] t) (va_A [] sz)) 0 0 (va_A [] sz) := by
  refine Met.ofW (cc := cX3_in) (maxL := 6) (ret := (some .boolean)) (by decide) rfl ?_
  intro p e s m args below meth c s₁ B hml hv
  obtain ⟨rfl, hsz, hP, hK, hD0⟩ := hv
  have hx := B.exec
  have hb := B.bytes
  have hrt := B.returns
  have hts := atoms_spec (ws := wsX3_in) B.pre
  have hown : s.vm.findClass RX3 = some m.cls := findClass_of_methodNamed B.named
  have hlocks := B.notSynchronized
  subst hsz
  have hD := hD0.self (sz := s.heap.size)
  generalize hAe : va_A [] s.heap.size = A at hD ⊢
  have hA : ∀ q : Nat, s.heap.size ≤ q → A q := fun q h => by rw [← hAe]; exact Or.inr h
  have hS : va_S A s.heap s.heap [] := va_S.rf
  have hP : va_P (dC, dI) vwCl [] s.heap := hP
  have hl := lv_entry ([.long a1, .long a2, .long a3]) (n := 6) (Nat.le_of_ble_eq_true rfl)
  rw [lg_entry_eq]
  generalize (lg_sl ([.long a1, .long a2, .long a3]) ++ List.replicate (6 - (lg_sl ([.long a1, .long a2, .long a3])).length) Slot.unset).toArray = ls at hl ⊢
  have hl : lv_has ls 6 [(0, .long a1), (2, .long a2), (4, .long a3)] := hl
  unfold f_X3_in at hr
  refine lv_lload_n hx hb dX3_in_0 rfl (lv_at hl 0 rfl) ?_
  refine lv_lload_n hx hb dX3_in_1 rfl (lv_at hl 1 rfl) ?_
  refine lz_llt (tgt := 17) hx hb dX3_in_2 dX3_in_3 (by decide) (fun c_1 => ?_) (fun c_1 => ?_)
  · have hr := (if_pos c_1).symm.trans hr
    refine lv_iconst (v := 0) hx hb dX3_in_17 (by decide) ?_
    have ho := Option.some.inj hr
    subst ho
    exact W.zret (v := 0) hx hb hrt rfl (fun t ht hW => ⟨⟨0, (), rfl, ⟨rfl, rfl⟩, by rw [ht]; exact hP, va_K.moved hW.alike hK, hD⟩, hS.F ht⟩) hS.2.2 dX3_in_18
  · have hr := (if_neg c_1).symm.trans hr
    refine lv_lload_n hx hb dX3_in_6 rfl (lv_at hl 0 rfl) ?_
    refine lv_lload hx hb dX3_in_7 (lv_at hl 2 rfl) ?_
    refine lz_lgt (tgt := 17) hx hb dX3_in_9 dX3_in_10 (by decide) (fun c_2 => ?_) (fun c_2 => ?_)
    · have hr := (if_pos c_2).symm.trans hr
      refine lv_iconst (v := 0) hx hb dX3_in_17 (by decide) ?_
      have ho := Option.some.inj hr
      subst ho
      exact W.zret (v := 0) hx hb hrt rfl (fun t ht hW => ⟨⟨0, (), rfl, ⟨rfl, rfl⟩, by rw [ht]; exact hP, va_K.moved hW.alike hK, hD⟩, hS.F ht⟩) hS.2.2 dX3_in_18
    · have hr := (if_neg c_2).symm.trans hr
      refine lv_iconst (v := 1) hx hb dX3_in_13 (by decide) ?_
      refine lv_goto (tgt := 18) hx hb dX3_in_14 (by decide) ?_
      have ho := Option.some.inj hr
      subst ho
      exact W.zret (v := 1) hx hb hrt rfl (fun t ht hW => ⟨⟨1, (), rfl, ⟨rfl, rfl⟩, by rw [ht]; exact hP, va_K.moved hW.alike hK, hD⟩, hS.F ht⟩) hS.2.2 dX3_in_18

def f_X3_wholeRoot_2 (n : Nat) : Nat → (a1 : Int64) → Int64 → Option (Int64)
  | 0, _, _ => none
  | k + 1, a1, u2 => if a1 < ((u2 + 1) * (u2 + 1)) then (some u2) else (f_X3_wholeRoot_2 n k a1 (u2 + 1))
set_option maxHeartbeats 4000000 in
set_option maxRecDepth 100000 in
theorem k_X3_wholeRoot_2 {p : Program} {l : Launch} {e : Env} {s : State} {m : MethodId} {args : Array Value} {below : List Frame} {meth : Method} {c : Code} {dC : Nat → ClassId} {dI : Nat → Nat → Nat} {A : Nat → Prop}  {a1 : Int64} (hx : p.tables.exec = Jvm.exec) (hb : c.code = cX3_wholeRoot) (hrt : meth.sig.returnType = (some .long)) (hml : c.maxLocals = 4) (hown : s.vm.findClass RX3 = some m.cls) (hlocks : meth.locks = false) (hts : ∀ w ∈ wsX3_wholeRoot, w.before args s = true) (hA : ∀ q : Nat, s.heap.size ≤ q → A q) (hK : va_K (dC, dI) vwCl [] s)  (n : Nat) (out : Int64) :
    ∀ (k : Nat) (u2 : Int64), f_X3_wholeRoot_2 n k a1 u2 = some out → ∀ (H : Heap) (locs : List Loc) (ls : Array Slot), va_P (dC, dI) vwCl [] H → va_D A [] → va_S A s.heap H locs → lv_has ls 4 [(0, .long a1), (2, .long u2)] → W p l e ({ frames := 0, cells := 0, slots := 0, locals := 0 }) s m args below meth c H locs 0 0 (MQ below (va_Ql (fun r (_ : Unit) => r = out) (fun (_ : Unit) t => zB dC dI [] A [] t) A) args s 0 0 A) (F0 m 2 ls []) := by
  intro k
  induction k with
  | zero => intro u2 hr; rw [f_X3_wholeRoot_2] at hr; cases hr
  | succ k ih =>
    intro u2 hr H locs ls hP hD hS hl
    rw [f_X3_wholeRoot_2] at hr
    refine lv_lload_n hx hb dX3_wholeRoot_2 rfl (lv_at hl 1 rfl) ?_
    refine lv_lconst (v := 1) hx hb dX3_wholeRoot_3 (by decide) ?_
    refine lv_ladd hx hb dX3_wholeRoot_4 ?_
    refine lv_lload_n hx hb dX3_wholeRoot_5 rfl (lv_at hl 1 rfl) ?_
    refine lv_lconst (v := 1) hx hb dX3_wholeRoot_6 (by decide) ?_
    refine lv_ladd hx hb dX3_wholeRoot_7 ?_
    refine lv_lmul hx hb dX3_wholeRoot_8 ?_
    refine lv_lload_n hx hb dX3_wholeRoot_9 rfl (lv_at hl 0 rfl) ?_
    refine lz_lgt (tgt := 21) hx hb dX3_wholeRoot_10 dX3_wholeRoot_11 (by decide) (fun c_1 => ?_) (fun c_1 => ?_)
    · have hr := (if_pos c_1).symm.trans hr
      refine lv_lload_n hx hb dX3_wholeRoot_21 rfl (lv_at hl 1 rfl) ?_
      have ho := Option.some.inj hr
      subst ho
      exact W.lret (v := u2) hx hb hrt (fun t ht hW => ⟨⟨u2, (), rfl, rfl, by rw [ht]; exact hP, va_K.moved hW.alike hK, hD⟩, hS.F ht⟩) hS.2.2 dX3_wholeRoot_22
    · have hr := (if_neg c_1).symm.trans hr
      refine lv_lload_n hx hb dX3_wholeRoot_14 rfl (lv_at hl 1 rfl) ?_
      refine lv_lconst (v := 1) hx hb dX3_wholeRoot_15 (by decide) ?_
      refine lv_ladd hx hb dX3_wholeRoot_16 ?_
      refine lv_lstore_n (lv' := [(2, .long (u2 + 1)), (0, .long a1)]) hx hb dX3_wholeRoot_17 rfl hl (by decide) rfl (fun ls hl => ?_)
      refine lv_goto (tgt := 2) hx hb dX3_wholeRoot_18 (by decide) ?_
      exact ih (u2 + 1) hr _ _ _ hP hD hS (lv_sub hl [1, 0] rfl)
def f_X3_wholeRoot (n : Nat) (a1 : Int64) : Option (Int64) := f_X3_wholeRoot_2 n n a1 0
set_option maxHeartbeats 4000000 in
set_option maxRecDepth 100000 in
theorem c_X3_wholeRoot (l : Launch) (dC : Nat → ClassId) (dI : Nat → Nat → Nat) (sz : Nat)  (a1 : Int64)  (n : Nat) (out : Int64) (hr : f_X3_wholeRoot n a1 = some out) : Met l yX3_wholeRoot wsX3_wholeRoot ({ frames := 0, cells := 0, slots := 0, locals := 0 }) (va_Pc [.long a1] (zP dC dI [] [] sz)) (va_Ql (fun r (_ : Unit) => r = out) (fun (_ : Unit) t => zB dC dI [] (va_A [] sz) [] t) (va_A [] sz)) 0 0 (va_A [] sz) := by
  refine Met.ofW (cc := cX3_wholeRoot) (maxL := 4) (ret := (some .long)) (by decide) rfl ?_
  intro p e s m args below meth c s₁ B hml hv
  obtain ⟨rfl, hsz, hP, hK, hD0⟩ := hv
  have hx := B.exec
  have hb := B.bytes
  have hrt := B.returns
  have hts := atoms_spec (ws := wsX3_wholeRoot) B.pre
  have hown : s.vm.findClass RX3 = some m.cls := findClass_of_methodNamed B.named
  have hlocks := B.notSynchronized
  subst hsz
  have hD := hD0.self (sz := s.heap.size)
  generalize hAe : va_A [] s.heap.size = A at hD ⊢
  have hA : ∀ q : Nat, s.heap.size ≤ q → A q := fun q h => by rw [← hAe]; exact Or.inr h
  have hS : va_S A s.heap s.heap [] := va_S.rf
  have hP : va_P (dC, dI) vwCl [] s.heap := hP
  have hl := lv_entry ([.long a1]) (n := 4) (Nat.le_of_ble_eq_true rfl)
  rw [lg_entry_eq]
  generalize (lg_sl ([.long a1]) ++ List.replicate (4 - (lg_sl ([.long a1])).length) Slot.unset).toArray = ls at hl ⊢
  have hl : lv_has ls 4 [(0, .long a1)] := hl
  unfold f_X3_wholeRoot at hr
  refine lv_lconst (v := 0) hx hb dX3_wholeRoot_0 (by decide) ?_
  refine lv_lstore_n (lv' := [(2, .long 0), (0, .long a1)]) hx hb dX3_wholeRoot_1 rfl hl (by decide) rfl (fun ls hl => ?_)
  exact k_X3_wholeRoot_2 hx hb hrt hml hown hlocks hts hA hK n out n 0 hr _ _ _ hP hD hS (lv_sub hl [1, 0] rfl)

def f_X3_discriminant (n : Nat) (a1 : Int64) (a2 : Int64) (a3 : Int64) : Option (Int64) := some ((a2 * a2) - ((4 * a1) * a3))
set_option maxHeartbeats 4000000 in
set_option maxRecDepth 100000 in
theorem c_X3_discriminant (l : Launch) (dC : Nat → ClassId) (dI : Nat → Nat → Nat) (sz : Nat)  (a1 : Int64) (a2 : Int64) (a3 : Int64)  (n : Nat) (out : Int64) (hr : f_X3_discriminant n a1 a2 a3 = some out) : Met l yX3_discriminant wsX3_discriminant ({ frames := 0, cells := 0, slots := 0, locals := 0 }) (va_Pc [.long a1, .long a2, .long a3] (zP dC dI [] [] sz)) (va_Ql (fun r (_ : Unit) => r = out) (fun (_ : Unit) t => zB dC dI [] (va_A [] sz) [] t) (va_A [] sz)) 0 0 (va_A [] sz) := by
  refine Met.ofW (cc := cX3_discriminant) (maxL := 6) (ret := (some .long)) (by decide) rfl ?_
  intro p e s m args below meth c s₁ B hml hv
  obtain ⟨rfl, hsz, hP, hK, hD0⟩ := hv
  have hx := B.exec
  have hb := B.bytes
  have hrt := B.returns
  have hts := atoms_spec (ws := wsX3_discriminant) B.pre
  have hown : s.vm.findClass RX3 = some m.cls := findClass_of_methodNamed B.named
  have hlocks := B.notSynchronized
  subst hsz
  have hD := hD0.self (sz := s.heap.size)
  generalize hAe : va_A [] s.heap.size = A at hD ⊢
  have hA : ∀ q : Nat, s.heap.size ≤ q → A q := fun q h => by rw [← hAe]; exact Or.inr h
  have hS : va_S A s.heap s.heap [] := va_S.rf
  have hP : va_P (dC, dI) vwCl [] s.heap := hP
  have hl := lv_entry ([.long a1, .long a2, .long a3]) (n := 6) (Nat.le_of_ble_eq_true rfl)
  rw [lg_entry_eq]
  generalize (lg_sl ([.long a1, .long a2, .long a3]) ++ List.replicate (6 - (lg_sl ([.long a1, .long a2, .long a3])).length) Slot.unset).toArray = ls at hl ⊢
  have hl : lv_has ls 6 [(0, .long a1), (2, .long a2), (4, .long a3)] := hl
  unfold f_X3_discriminant at hr
  refine lv_lload_n hx hb dX3_discriminant_0 rfl (lv_at hl 1 rfl) ?_
  refine lv_lload_n hx hb dX3_discriminant_1 rfl (lv_at hl 1 rfl) ?_
  refine lv_lmul hx hb dX3_discriminant_2 ?_
  refine lv_ldc2 (v := 4) hx hb hown (hts (.constantLong RX3 47 (4)) (by decide +kernel)) dX3_discriminant_3 ?_
  refine lv_lload_n hx hb dX3_discriminant_6 rfl (lv_at hl 0 rfl) ?_
  refine lv_lmul hx hb dX3_discriminant_7 ?_
  refine lv_lload hx hb dX3_discriminant_8 (lv_at hl 2 rfl) ?_
  refine lv_lmul hx hb dX3_discriminant_10 ?_
  refine lv_lsub hx hb dX3_discriminant_11 ?_
  have ho := Option.some.inj hr
  subst ho
  exact W.lret (v := (a2 * a2) - ((4 * a1) * a3)) hx hb hrt (fun t ht hW => ⟨⟨(a2 * a2) - ((4 * a1) * a3), (), rfl, rfl, by rw [ht]; exact hP, va_K.moved hW.alike hK, hD⟩, hS.F ht⟩) hS.2.2 dX3_discriminant_12

def f_X3_size (n : Nat) (a1 : Int64) : Option (Int64) := if a1 < 0 then (some (-a1)) else (some a1)
set_option maxHeartbeats 4000000 in
set_option maxRecDepth 100000 in
theorem c_X3_size (l : Launch) (dC : Nat → ClassId) (dI : Nat → Nat → Nat) (sz : Nat)  (a1 : Int64)  (n : Nat) (out : Int64) (hr : f_X3_size n a1 = some out) : Met l yX3_size wsX3_size ({ frames := 0, cells := 0, slots := 0, locals := 0 }) (va_Pc [.long a1] (zP dC dI [] [] sz)) (va_Ql (fun r (_ : Unit) => r = out) (fun (_ : Unit) t => zB dC dI [] (va_A [] sz) [] t) (va_A [] sz)) 0 0 (va_A [] sz) := by
  refine Met.ofW (cc := cX3_size) (maxL := 2) (ret := (some .long)) (by decide) rfl ?_
  intro p e s m args below meth c s₁ B hml hv
  obtain ⟨rfl, hsz, hP, hK, hD0⟩ := hv
  have hx := B.exec
  have hb := B.bytes
  have hrt := B.returns
  have hts := atoms_spec (ws := wsX3_size) B.pre
  have hown : s.vm.findClass RX3 = some m.cls := findClass_of_methodNamed B.named
  have hlocks := B.notSynchronized
  subst hsz
  have hD := hD0.self (sz := s.heap.size)
  generalize hAe : va_A [] s.heap.size = A at hD ⊢
  have hA : ∀ q : Nat, s.heap.size ≤ q → A q := fun q h => by rw [← hAe]; exact Or.inr h
  have hS : va_S A s.heap s.heap [] := va_S.rf
  have hP : va_P (dC, dI) vwCl [] s.heap := hP
  have hl := lv_entry ([.long a1]) (n := 2) (Nat.le_of_ble_eq_true rfl)
  rw [lg_entry_eq]
  generalize (lg_sl ([.long a1]) ++ List.replicate (2 - (lg_sl ([.long a1])).length) Slot.unset).toArray = ls at hl ⊢
  have hl : lv_has ls 2 [(0, .long a1)] := hl
  unfold f_X3_size at hr
  refine lv_lload_n hx hb dX3_size_0 rfl (lv_at hl 0 rfl) ?_
  refine lv_lconst (v := 0) hx hb dX3_size_1 (by decide) ?_
  refine lz_lge (tgt := 11) hx hb dX3_size_2 dX3_size_3 (by decide) (fun c_1 => ?_) (fun c_1 => ?_)
  · have hr := (if_neg c_1).symm.trans hr
    refine lv_lload_n hx hb dX3_size_11 rfl (lv_at hl 0 rfl) ?_
    have ho := Option.some.inj hr
    subst ho
    exact W.lret (v := a1) hx hb hrt (fun t ht hW => ⟨⟨a1, (), rfl, rfl, by rw [ht]; exact hP, va_K.moved hW.alike hK, hD⟩, hS.F ht⟩) hS.2.2 dX3_size_12
  · have hr := (if_pos c_1).symm.trans hr
    refine lv_lload_n hx hb dX3_size_6 rfl (lv_at hl 0 rfl) ?_
    refine lv_lneg hx hb dX3_size_7 ?_
    refine lv_goto (tgt := 12) hx hb dX3_size_8 (by decide) ?_
    have ho := Option.some.inj hr
    subst ho
    exact W.lret (v := -a1) hx hb hrt (fun t ht hW => ⟨⟨-a1, (), rfl, rfl, by rw [ht]; exact hP, va_K.moved hW.alike hK, hD⟩, hS.F ht⟩) hS.2.2 dX3_size_12

theorem in_X3_begin_X3 : ∀ w ∈ u_ws RX3 TX3 15, w ∈ wsX3_begin := by decide +kernel
def f_X3_begin (n : Nat) (a1 : Int64) (a2 : Int64) (a3 : Int64) : Option (Int64 × Int64 × Int64) := some (a1, a2, a3)
set_option maxHeartbeats 4000000 in
set_option maxRecDepth 100000 in
theorem c_X3_begin (l : Launch) (dC : Nat → ClassId) (dI : Nat → Nat → Nat) (sz : Nat) (h0 : Nat) (h1 : Nat) (cI : ClassId) (v0 : Int32) (v1 : Int64) (v2 : Int64) (v3 : Int64) (v4 : Int64) (v5 : Int64) (v6 : Int64) (v7 : Int64) (v8 : Int64) (v9 : Int64) (v10 : Int64) (v11 : Int64) (v12 : Int64) (v13 : Int32) (vR : Nat → Int32) (a1 : Int64) (a2 : Int64) (a3 : Int64)  (n : Nat) (out : Int64 × Int64 × Int64) (hr : f_X3_begin n a1 a2 a3 = some out) : Met l yX3_begin wsX3_begin ({ frames := 0, cells := 0, slots := 0, locals := 0 }) (va_Pc [.ref h0, .long a1, .long a2, .long a3] (zP dC dI [(cI, .int)] [(h0, .inr (3, [.int v0, .long v1, .long v2, .long v3, .long v4, .long v5, .long v6, .long v7, .long v8, .long v9, .long v10, .long v11, .long v12, .int v13, .ref h1])), (h1, .inl (cI, 6600, .inl vR))] sz)) (va_Qv (fun (_ : Unit) => True) (fun (_ : Unit) t => zB dC dI [(cI, .int)] (va_A [(h0, .inr (3, [.int v0, .long v1, .long v2, .long v3, .long v4, .long v5, .long v6, .long v7, .long v8, .long v9, .long v10, .long v11, .long v12, .int v13, .ref h1])), (h1, .inl (cI, 6600, .inl vR))] sz) [(h0, .inr (3, [.int v0, .long v1, .long v2, .long v3, .long v4, .long v5, .long out.1, .long out.2.1, .long out.2.2, .long v9, .long v10, .long v11, .long v12, .int v13, .ref h1])), (h1, .inl (cI, 6600, .inl vR))] t) (va_A [(h0, .inr (3, [.int v0, .long v1, .long v2, .long v3, .long v4, .long v5, .long v6, .long v7, .long v8, .long v9, .long v10, .long v11, .long v12, .int v13, .ref h1])), (h1, .inl (cI, 6600, .inl vR))] sz)) 0 0 (va_A [(h0, .inr (3, [.int v0, .long v1, .long v2, .long v3, .long v4, .long v5, .long v6, .long v7, .long v8, .long v9, .long v10, .long v11, .long v12, .int v13, .ref h1])), (h1, .inl (cI, 6600, .inl vR))] sz) := by
  refine Met.ofW (cc := cX3_begin) (maxL := 7) (ret := none) (by decide) rfl ?_
  intro p e s m args below meth c s₁ B hml hv
  obtain ⟨rfl, hsz, hP, hK, hD0⟩ := hv
  have hx := B.exec
  have hb := B.bytes
  have hrt := B.returns
  have hts := atoms_spec (ws := wsX3_begin) B.pre
  have hown : s.vm.findClass RX3 = some m.cls := findClass_of_methodNamed B.named
  have hlocks := B.notSynchronized
  subst hsz
  have hD := hD0.self (sz := s.heap.size)
  generalize hAe : va_A [(h0, .inr (3, [.int v0, .long v1, .long v2, .long v3, .long v4, .long v5, .long v6, .long v7, .long v8, .long v9, .long v10, .long v11, .long v12, .int v13, .ref h1])), (h1, .inl (cI, 6600, .inl vR))] s.heap.size = A at hD ⊢
  have hA : ∀ q : Nat, s.heap.size ≤ q → A q := fun q h => by rw [← hAe]; exact Or.inr h
  have hS : va_S A s.heap s.heap [] := va_S.rf
  have hP : va_P (dC, dI) vwCl [(h0, .inr (3, [.int v0, .long v1, .long v2, .long v3, .long v4, .long v5, .long v6, .long v7, .long v8, .long v9, .long v10, .long v11, .long v12, .int v13, .ref h1])), (h1, .inl (cI, 6600, .inl vR))] s.heap := hP
  have hl := lv_entry ([.ref h0, .long a1, .long a2, .long a3]) (n := 7) (Nat.le_of_ble_eq_true rfl)
  rw [lg_entry_eq]
  generalize (lg_sl ([.ref h0, .long a1, .long a2, .long a3]) ++ List.replicate (7 - (lg_sl ([.ref h0, .long a1, .long a2, .long a3])).length) Slot.unset).toArray = ls at hl ⊢
  have hl : lv_has ls 7 [(0, .ref h0), (1, .long a1), (3, .long a2), (5, .long a3)] := hl
  unfold f_X3_begin at hr
  refine lv_aload_n hx hb dX3_begin_0 rfl (lv_at hl 0 rfl) ?_
  refine lv_lload_n hx hb dX3_begin_1 rfl (lv_at hl 1 rfl) ?_
  refine va_put (D := (dC, dI)) (ci := 3) (v := .long a1) (ty := .long) (C := RX3) (T := TX3) (N := 15) hx hb hts in_X3_begin_X3 tyX3 tyX3_ok nmX3 hown hK hP hD hS 0 rfl rfl 6 (by decide) (hts (.fieldLink RX3 69 "FormRingModel" "x" "J") (by decide +kernel)) (fun _ h9 => h9) rfl (by decide +kernel) rfl rfl (Nat.le_of_ble_eq_true rfl) dX3_begin_2 (fun H locs hP hD hS => ?_)
  have hP : va_P (dC, dI) vwCl [(h0, .inr (3, [.int v0, .long v1, .long v2, .long v3, .long v4, .long v5, .long a1, .long v7, .long v8, .long v9, .long v10, .long v11, .long v12, .int v13, .ref h1])), (h1, .inl (cI, 6600, .inl vR))] H := hP
  have hD : va_D A [(h0, .inr (3, [.int v0, .long v1, .long v2, .long v3, .long v4, .long v5, .long a1, .long v7, .long v8, .long v9, .long v10, .long v11, .long v12, .int v13, .ref h1])), (h1, .inl (cI, 6600, .inl vR))] := hD
  refine lv_aload_n hx hb dX3_begin_5 rfl (lv_at hl 0 rfl) ?_
  refine lv_lload_n hx hb dX3_begin_6 rfl (lv_at hl 2 rfl) ?_
  refine va_put (D := (dC, dI)) (ci := 3) (v := .long a2) (ty := .long) (C := RX3) (T := TX3) (N := 15) hx hb hts in_X3_begin_X3 tyX3 tyX3_ok nmX3 hown hK hP hD hS 0 rfl rfl 7 (by decide) (hts (.fieldLink RX3 72 "FormRingModel" "y" "J") (by decide +kernel)) (fun _ h9 => h9) rfl (by decide +kernel) rfl rfl (Nat.le_of_ble_eq_true rfl) dX3_begin_7 (fun H locs hP hD hS => ?_)
  have hP : va_P (dC, dI) vwCl [(h0, .inr (3, [.int v0, .long v1, .long v2, .long v3, .long v4, .long v5, .long a1, .long a2, .long v8, .long v9, .long v10, .long v11, .long v12, .int v13, .ref h1])), (h1, .inl (cI, 6600, .inl vR))] H := hP
  have hD : va_D A [(h0, .inr (3, [.int v0, .long v1, .long v2, .long v3, .long v4, .long v5, .long a1, .long a2, .long v8, .long v9, .long v10, .long v11, .long v12, .int v13, .ref h1])), (h1, .inl (cI, 6600, .inl vR))] := hD
  refine lv_aload_n hx hb dX3_begin_10 rfl (lv_at hl 0 rfl) ?_
  refine lv_lload hx hb dX3_begin_11 (lv_at hl 3 rfl) ?_
  refine va_put (D := (dC, dI)) (ci := 3) (v := .long a3) (ty := .long) (C := RX3) (T := TX3) (N := 15) hx hb hts in_X3_begin_X3 tyX3 tyX3_ok nmX3 hown hK hP hD hS 0 rfl rfl 8 (by decide) (hts (.fieldLink RX3 75 "FormRingModel" "z" "J") (by decide +kernel)) (fun _ h9 => h9) rfl (by decide +kernel) rfl rfl (Nat.le_of_ble_eq_true rfl) dX3_begin_13 (fun H locs hP hD hS => ?_)
  have hP : va_P (dC, dI) vwCl [(h0, .inr (3, [.int v0, .long v1, .long v2, .long v3, .long v4, .long v5, .long a1, .long a2, .long a3, .long v9, .long v10, .long v11, .long v12, .int v13, .ref h1])), (h1, .inl (cI, 6600, .inl vR))] H := hP
  have hD : va_D A [(h0, .inr (3, [.int v0, .long v1, .long v2, .long v3, .long v4, .long v5, .long a1, .long a2, .long a3, .long v9, .long v10, .long v11, .long v12, .int v13, .ref h1])), (h1, .inl (cI, 6600, .inl vR))] := hD
  have ho := Option.some.inj hr
  subst ho
  exact W.vret hx hb hrt (fun t ht hW => ⟨⟨(), rfl, trivial, by rw [ht]; exact hP, va_K.moved hW.alike hK, hD⟩, hS.F ht⟩) hS.2.2 dX3_begin_16

theorem in_X3_isName_X3 : ∀ w ∈ u_ws RX3 TX3 15, w ∈ wsX3_isName := by decide +kernel
def f_X3_isName (n : Nat) (v6 : Int64) (v7 : Int64) (v10 : Int64) (v11 : Int64) : Option (Int32) := if v6 = v10 then (if v7 = v11 then (some 1) else (some 0)) else (some 0)
set_option maxHeartbeats 4000000 in
set_option maxRecDepth 100000 in
theorem c_X3_isName (l : Launch) (dC : Nat → ClassId) (dI : Nat → Nat → Nat) (sz : Nat) (h0 : Nat) (h1 : Nat) (cI : ClassId) (v0 : Int32) (v1 : Int64) (v2 : Int64) (v3 : Int64) (v4 : Int64) (v5 : Int64) (v6 : Int64) (v7 : Int64) (v8 : Int64) (v9 : Int64) (v10 : Int64) (v11 : Int64) (v12 : Int64) (v13 : Int32) (vR : Nat → Int32)   (n : Nat) (out : Int32) (hr : f_X3_isName n v6 v7 v10 v11 = some out) : Met l yX3_isName wsX3_isName ({ frames := 0, cells := 0, slots := 0, locals := 0 }) (va_Pc [.ref h0] (zP dC dI [(cI, .int)] [(h0, .inr (3, [.int v0, .long v1, .long v2, .long v3, .long v4, .long v5, .long v6, .long v7, .long v8, .long v9, .long v10, .long v11, .long v12, .int v13, .ref h1])), (h1, .inl (cI, 6600, .inl vR))] sz)) (va_Qi (fun r (_ : Unit) => r = out ∧ narrow .boolean (.int r) = .int r) (fun (_ : Unit) t => zB dC dI [(cI, .int)] (va_A [(h0, .inr (3, [.int v0, .long v1, .long v2, .long v3, .long v4, .long v5, .long v6, .long v7, .long v8, .long v9, .long v10, .long v11, .long v12, .int v13, .ref h1])), (h1, .inl (cI, 6600, .inl vR))] sz) [(h0, .inr (3, [.int v0, .long v1, .long v2, .long v3, .long v4, .long v5, .long v6, .long v7, .long v8, .long v9, .long v10, .long v11, .long v12, .int v13, .ref h1])), (h1, .inl (cI, 6600, .inl vR))] t) (va_A [(h0, .inr (3, [.int v0, .long v1, .long v2, .long v3, .long v4, .long v5, .long v6, .long v7, .long v8, .long v9, .long v10, .long v11, .long v12, .int v13, .ref h1])), (h1, .inl (cI, 6600, .inl vR))] sz)) 0 0 (va_A [(h0, .inr (3, [.int v0, .long v1, .long v2, .long v3, .long v4, .long v5, .long v6, .long v7, .long v8, .long v9, .long v10, .long v11, .long v12, .int v13, .ref h1])), (h1, .inl (cI, 6600, .inl vR))] sz) := by
  refine Met.ofW (cc := cX3_isName) (maxL := 1) (ret := (some .boolean)) (by decide) rfl ?_
  intro p e s m args below meth c s₁ B hml hv
  obtain ⟨rfl, hsz, hP, hK, hD0⟩ := hv
  have hx := B.exec
  have hb := B.bytes
  have hrt := B.returns
  have hts := atoms_spec (ws := wsX3_isName) B.pre
  have hown : s.vm.findClass RX3 = some m.cls := findClass_of_methodNamed B.named
  have hlocks := B.notSynchronized
  subst hsz
  have hD := hD0.self (sz := s.heap.size)
  generalize hAe : va_A [(h0, .inr (3, [.int v0, .long v1, .long v2, .long v3, .long v4, .long v5, .long v6, .long v7, .long v8, .long v9, .long v10, .long v11, .long v12, .int v13, .ref h1])), (h1, .inl (cI, 6600, .inl vR))] s.heap.size = A at hD ⊢
  have hA : ∀ q : Nat, s.heap.size ≤ q → A q := fun q h => by rw [← hAe]; exact Or.inr h
  have hS : va_S A s.heap s.heap [] := va_S.rf
  have hP : va_P (dC, dI) vwCl [(h0, .inr (3, [.int v0, .long v1, .long v2, .long v3, .long v4, .long v5, .long v6, .long v7, .long v8, .long v9, .long v10, .long v11, .long v12, .int v13, .ref h1])), (h1, .inl (cI, 6600, .inl vR))] s.heap := hP
  have hl := lv_entry ([.ref h0]) (n := 1) (Nat.le_of_ble_eq_true rfl)
  rw [lg_entry_eq]
  generalize (lg_sl ([.ref h0]) ++ List.replicate (1 - (lg_sl ([.ref h0])).length) Slot.unset).toArray = ls at hl ⊢
  have hl : lv_has ls 1 [(0, .ref h0)] := hl
  unfold f_X3_isName at hr
  refine lv_aload_n hx hb dX3_isName_0 rfl (lv_at hl 0 rfl) ?_
  refine va_get (D := (dC, dI)) (ci := 3) (v := .long v6) (C := RX3) (T := TX3) (N := 15) hx hb hts in_X3_isName_X3 hown hK hP 0 rfl rfl 6 (by decide) (hts (.fieldLink RX3 69 "FormRingModel" "x" "J") (by decide +kernel)) (fun _ h9 => h9) rfl dX3_isName_1 ?_
  refine lv_aload_n hx hb dX3_isName_4 rfl (lv_at hl 0 rfl) ?_
  refine va_get (D := (dC, dI)) (ci := 3) (v := .long v10) (C := RX3) (T := TX3) (N := 15) hx hb hts in_X3_isName_X3 hown hK hP 0 rfl rfl 10 (by decide) (hts (.fieldLink RX3 26 "FormRingModel" "nameA" "J") (by decide +kernel)) (fun _ h9 => h9) rfl dX3_isName_5 ?_
  refine lz_lne (tgt := 28) hx hb dX3_isName_8 dX3_isName_9 (by decide) (fun c_1 => ?_) (fun c_1 => ?_)
  · have hr := (if_neg c_1).symm.trans hr
    refine lv_iconst (v := 0) hx hb dX3_isName_28 (by decide) ?_
    have ho := Option.some.inj hr
    subst ho
    exact W.zret (v := 0) hx hb hrt rfl (fun t ht hW => ⟨⟨0, (), rfl, ⟨rfl, rfl⟩, by rw [ht]; exact hP, va_K.moved hW.alike hK, hD⟩, hS.F ht⟩) hS.2.2 dX3_isName_29
  · have hr := (if_pos c_1).symm.trans hr
    refine lv_aload_n hx hb dX3_isName_12 rfl (lv_at hl 0 rfl) ?_
    refine va_get (D := (dC, dI)) (ci := 3) (v := .long v7) (C := RX3) (T := TX3) (N := 15) hx hb hts in_X3_isName_X3 hown hK hP 0 rfl rfl 7 (by decide) (hts (.fieldLink RX3 72 "FormRingModel" "y" "J") (by decide +kernel)) (fun _ h9 => h9) rfl dX3_isName_13 ?_
    refine lv_aload_n hx hb dX3_isName_16 rfl (lv_at hl 0 rfl) ?_
    refine va_get (D := (dC, dI)) (ci := 3) (v := .long v11) (C := RX3) (T := TX3) (N := 15) hx hb hts in_X3_isName_X3 hown hK hP 0 rfl rfl 11 (by decide) (hts (.fieldLink RX3 94 "FormRingModel" "nameB" "J") (by decide +kernel)) (fun _ h9 => h9) rfl dX3_isName_17 ?_
    refine lz_lne (tgt := 28) hx hb dX3_isName_20 dX3_isName_21 (by decide) (fun c_2 => ?_) (fun c_2 => ?_)
    · have hr := (if_neg c_2).symm.trans hr
      refine lv_iconst (v := 0) hx hb dX3_isName_28 (by decide) ?_
      have ho := Option.some.inj hr
      subst ho
      exact W.zret (v := 0) hx hb hrt rfl (fun t ht hW => ⟨⟨0, (), rfl, ⟨rfl, rfl⟩, by rw [ht]; exact hP, va_K.moved hW.alike hK, hD⟩, hS.F ht⟩) hS.2.2 dX3_isName_29
    · have hr := (if_pos c_2).symm.trans hr
      refine lv_iconst (v := 1) hx hb dX3_isName_24 (by decide) ?_
      refine lv_goto (tgt := 29) hx hb dX3_isName_25 (by decide) ?_
      have ho := Option.some.inj hr
      subst ho
      exact W.zret (v := 1) hx hb hrt rfl (fun t ht hW => ⟨⟨1, (), rfl, ⟨rfl, rfl⟩, by rw [ht]; exact hP, va_K.moved hW.alike hK, hD⟩, hS.F ht⟩) hS.2.2 dX3_isName_29

theorem in_X3_get_X3 : ∀ w ∈ u_ws RX3 TX3 15, w ∈ wsX3_get := by decide +kernel
def f_X3_get (n : Nat) (vR : Nat → Int32) (a1 : Int32) (a2 : Int32) : Option (Int32) := if ((1100 * a1) + a2) < 0 ∨ 6600 ≤ ((1100 * a1) + a2).toNatClampNeg then none else (some (vR ((1100 * a1) + a2).toNatClampNeg))
set_option maxHeartbeats 4000000 in
set_option maxRecDepth 100000 in
theorem c_X3_get (l : Launch) (dC : Nat → ClassId) (dI : Nat → Nat → Nat) (sz : Nat) (h0 : Nat) (h1 : Nat) (cI : ClassId) (v0 : Int32) (v1 : Int64) (v2 : Int64) (v3 : Int64) (v4 : Int64) (v5 : Int64) (v6 : Int64) (v7 : Int64) (v8 : Int64) (v9 : Int64) (v10 : Int64) (v11 : Int64) (v12 : Int64) (v13 : Int32) (vR : Nat → Int32) (a1 : Int32) (a2 : Int32)  (n : Nat) (out : Int32) (hr : f_X3_get n vR a1 a2 = some out) : Met l yX3_get wsX3_get ({ frames := 0, cells := 0, slots := 0, locals := 0 }) (va_Pc [.ref h0, .int a1, .int a2] (zP dC dI [(cI, .int)] [(h0, .inr (3, [.int v0, .long v1, .long v2, .long v3, .long v4, .long v5, .long v6, .long v7, .long v8, .long v9, .long v10, .long v11, .long v12, .int v13, .ref h1])), (h1, .inl (cI, 6600, .inl vR))] sz)) (va_Qi (fun r (_ : Unit) => r = out) (fun (_ : Unit) t => zB dC dI [(cI, .int)] (va_A [(h0, .inr (3, [.int v0, .long v1, .long v2, .long v3, .long v4, .long v5, .long v6, .long v7, .long v8, .long v9, .long v10, .long v11, .long v12, .int v13, .ref h1])), (h1, .inl (cI, 6600, .inl vR))] sz) [(h0, .inr (3, [.int v0, .long v1, .long v2, .long v3, .long v4, .long v5, .long v6, .long v7, .long v8, .long v9, .long v10, .long v11, .long v12, .int v13, .ref h1])), (h1, .inl (cI, 6600, .inl vR))] t) (va_A [(h0, .inr (3, [.int v0, .long v1, .long v2, .long v3, .long v4, .long v5, .long v6, .long v7, .long v8, .long v9, .long v10, .long v11, .long v12, .int v13, .ref h1])), (h1, .inl (cI, 6600, .inl vR))] sz)) 0 0 (va_A [(h0, .inr (3, [.int v0, .long v1, .long v2, .long v3, .long v4, .long v5, .long v6, .long v7, .long v8, .long v9, .long v10, .long v11, .long v12, .int v13, .ref h1])), (h1, .inl (cI, 6600, .inl vR))] sz) := by
  refine Met.ofW (cc := cX3_get) (maxL := 3) (ret := (some .int)) (by decide) rfl ?_
  intro p e s m args below meth c s₁ B hml hv
  obtain ⟨rfl, hsz, hP, hK, hD0⟩ := hv
  have hx := B.exec
  have hb := B.bytes
  have hrt := B.returns
  have hts := atoms_spec (ws := wsX3_get) B.pre
  have hown : s.vm.findClass RX3 = some m.cls := findClass_of_methodNamed B.named
  have hlocks := B.notSynchronized
  subst hsz
  have hD := hD0.self (sz := s.heap.size)
  generalize hAe : va_A [(h0, .inr (3, [.int v0, .long v1, .long v2, .long v3, .long v4, .long v5, .long v6, .long v7, .long v8, .long v9, .long v10, .long v11, .long v12, .int v13, .ref h1])), (h1, .inl (cI, 6600, .inl vR))] s.heap.size = A at hD ⊢
  have hA : ∀ q : Nat, s.heap.size ≤ q → A q := fun q h => by rw [← hAe]; exact Or.inr h
  have hS : va_S A s.heap s.heap [] := va_S.rf
  have hP : va_P (dC, dI) vwCl [(h0, .inr (3, [.int v0, .long v1, .long v2, .long v3, .long v4, .long v5, .long v6, .long v7, .long v8, .long v9, .long v10, .long v11, .long v12, .int v13, .ref h1])), (h1, .inl (cI, 6600, .inl vR))] s.heap := hP
  have hl := lv_entry ([.ref h0, .int a1, .int a2]) (n := 3) (Nat.le_of_ble_eq_true rfl)
  rw [lg_entry_eq]
  generalize (lg_sl ([.ref h0, .int a1, .int a2]) ++ List.replicate (3 - (lg_sl ([.ref h0, .int a1, .int a2])).length) Slot.unset).toArray = ls at hl ⊢
  have hl : lv_has ls 3 [(0, .ref h0), (1, .int a1), (2, .int a2)] := hl
  unfold f_X3_get at hr
  refine lv_aload_n hx hb dX3_get_0 rfl (lv_at hl 0 rfl) ?_
  refine va_get (D := (dC, dI)) (ci := 3) (v := .ref h1) (C := RX3) (T := TX3) (N := 15) hx hb hts in_X3_get_X3 hown hK hP 0 rfl rfl 14 (by decide) (hts (.fieldLink RX3 36 "FormRingModel" "row" "[I") (by decide +kernel)) (fun _ h9 => h9) rfl dX3_get_1 ?_
  refine lv_sipush (v := 1100) hx hb dX3_get_4 (by decide) ?_
  refine lv_iload_n hx hb dX3_get_7 rfl (lv_at hl 1 rfl) ?_
  refine lv_imul hx hb dX3_get_8 ?_
  refine lv_iload_n hx hb dX3_get_9 rfl (lv_at hl 2 rfl) ?_
  refine lv_iadd hx hb dX3_get_10 ?_
  by_cases g_1 : ((1100 * a1) + a2) < 0 ∨ 6600 ≤ ((1100 * a1) + a2).toNatClampNeg
  · have hr := (if_pos g_1).symm.trans hr
    cases hr
  have hr := (if_neg g_1).symm.trans hr
  refine va_iald hx hb hK hP 1 0 rfl rfl g_1 dX3_get_11 ?_
  have ho := Option.some.inj hr
  subst ho
  exact W.iret (v := vR ((1100 * a1) + a2).toNatClampNeg) hx hb hrt (fun t ht hW => ⟨⟨vR ((1100 * a1) + a2).toNatClampNeg, (), rfl, rfl, by rw [ht]; exact hP, va_K.moved hW.alike hK, hD⟩, hS.F ht⟩) hS.2.2 dX3_get_12

theorem in_X3_put_X3 : ∀ w ∈ u_ws RX3 TX3 15, w ∈ wsX3_put := by decide +kernel
def f_X3_put (n : Nat) (vR : Nat → Int32) (a1 : Int32) (a2 : Int32) (a3 : Int32) : Option ((Nat → Int32)) := if ((1100 * a1) + a2) < 0 ∨ 6600 ≤ ((1100 * a1) + a2).toNatClampNeg then none else (some (upd vR ((1100 * a1) + a2).toNatClampNeg a3))
set_option maxHeartbeats 4000000 in
set_option maxRecDepth 100000 in
theorem c_X3_put (l : Launch) (dC : Nat → ClassId) (dI : Nat → Nat → Nat) (sz : Nat) (h0 : Nat) (h1 : Nat) (cI : ClassId) (v0 : Int32) (v1 : Int64) (v2 : Int64) (v3 : Int64) (v4 : Int64) (v5 : Int64) (v6 : Int64) (v7 : Int64) (v8 : Int64) (v9 : Int64) (v10 : Int64) (v11 : Int64) (v12 : Int64) (v13 : Int32) (vR : Nat → Int32) (a1 : Int32) (a2 : Int32) (a3 : Int32)  (n : Nat) (out : (Nat → Int32)) (hr : f_X3_put n vR a1 a2 a3 = some out) : Met l yX3_put wsX3_put ({ frames := 0, cells := 0, slots := 0, locals := 0 }) (va_Pc [.ref h0, .int a1, .int a2, .int a3] (zP dC dI [(cI, .int)] [(h0, .inr (3, [.int v0, .long v1, .long v2, .long v3, .long v4, .long v5, .long v6, .long v7, .long v8, .long v9, .long v10, .long v11, .long v12, .int v13, .ref h1])), (h1, .inl (cI, 6600, .inl vR))] sz)) (va_Qv (fun (_ : Unit) => True) (fun (_ : Unit) t => zB dC dI [(cI, .int)] (va_A [(h0, .inr (3, [.int v0, .long v1, .long v2, .long v3, .long v4, .long v5, .long v6, .long v7, .long v8, .long v9, .long v10, .long v11, .long v12, .int v13, .ref h1])), (h1, .inl (cI, 6600, .inl vR))] sz) [(h0, .inr (3, [.int v0, .long v1, .long v2, .long v3, .long v4, .long v5, .long v6, .long v7, .long v8, .long v9, .long v10, .long v11, .long v12, .int v13, .ref h1])), (h1, .inl (cI, 6600, .inl out))] t) (va_A [(h0, .inr (3, [.int v0, .long v1, .long v2, .long v3, .long v4, .long v5, .long v6, .long v7, .long v8, .long v9, .long v10, .long v11, .long v12, .int v13, .ref h1])), (h1, .inl (cI, 6600, .inl vR))] sz)) 0 0 (va_A [(h0, .inr (3, [.int v0, .long v1, .long v2, .long v3, .long v4, .long v5, .long v6, .long v7, .long v8, .long v9, .long v10, .long v11, .long v12, .int v13, .ref h1])), (h1, .inl (cI, 6600, .inl vR))] sz) := by
  refine Met.ofW (cc := cX3_put) (maxL := 4) (ret := none) (by decide) rfl ?_
  intro p e s m args below meth c s₁ B hml hv
  obtain ⟨rfl, hsz, hP, hK, hD0⟩ := hv
  have hx := B.exec
  have hb := B.bytes
  have hrt := B.returns
  have hts := atoms_spec (ws := wsX3_put) B.pre
  have hown : s.vm.findClass RX3 = some m.cls := findClass_of_methodNamed B.named
  have hlocks := B.notSynchronized
  subst hsz
  have hD := hD0.self (sz := s.heap.size)
  generalize hAe : va_A [(h0, .inr (3, [.int v0, .long v1, .long v2, .long v3, .long v4, .long v5, .long v6, .long v7, .long v8, .long v9, .long v10, .long v11, .long v12, .int v13, .ref h1])), (h1, .inl (cI, 6600, .inl vR))] s.heap.size = A at hD ⊢
  have hA : ∀ q : Nat, s.heap.size ≤ q → A q := fun q h => by rw [← hAe]; exact Or.inr h
  have hS : va_S A s.heap s.heap [] := va_S.rf
  have hP : va_P (dC, dI) vwCl [(h0, .inr (3, [.int v0, .long v1, .long v2, .long v3, .long v4, .long v5, .long v6, .long v7, .long v8, .long v9, .long v10, .long v11, .long v12, .int v13, .ref h1])), (h1, .inl (cI, 6600, .inl vR))] s.heap := hP
  have hl := lv_entry ([.ref h0, .int a1, .int a2, .int a3]) (n := 4) (Nat.le_of_ble_eq_true rfl)
  rw [lg_entry_eq]
  generalize (lg_sl ([.ref h0, .int a1, .int a2, .int a3]) ++ List.replicate (4 - (lg_sl ([.ref h0, .int a1, .int a2, .int a3])).length) Slot.unset).toArray = ls at hl ⊢
  have hl : lv_has ls 4 [(0, .ref h0), (1, .int a1), (2, .int a2), (3, .int a3)] := hl
  unfold f_X3_put at hr
  refine lv_aload_n hx hb dX3_put_0 rfl (lv_at hl 0 rfl) ?_
  refine va_get (D := (dC, dI)) (ci := 3) (v := .ref h1) (C := RX3) (T := TX3) (N := 15) hx hb hts in_X3_put_X3 hown hK hP 0 rfl rfl 14 (by decide) (hts (.fieldLink RX3 36 "FormRingModel" "row" "[I") (by decide +kernel)) (fun _ h9 => h9) rfl dX3_put_1 ?_
  refine lv_sipush (v := 1100) hx hb dX3_put_4 (by decide) ?_
  refine lv_iload_n hx hb dX3_put_7 rfl (lv_at hl 1 rfl) ?_
  refine lv_imul hx hb dX3_put_8 ?_
  refine lv_iload_n hx hb dX3_put_9 rfl (lv_at hl 2 rfl) ?_
  refine lv_iadd hx hb dX3_put_10 ?_
  refine lv_iload_n hx hb dX3_put_11 rfl (lv_at hl 3 rfl) ?_
  by_cases g_1 : ((1100 * a1) + a2) < 0 ∨ 6600 ≤ ((1100 * a1) + a2).toNatClampNeg
  · have hr := (if_pos g_1).symm.trans hr
    cases hr
  have hr := (if_neg g_1).symm.trans hr
  refine va_iast hx hb hK hP hD hS 1 0 rfl rfl g_1 dX3_put_12 (fun H locs hP hD hS => ?_)
  have hP : va_P (dC, dI) vwCl [(h0, .inr (3, [.int v0, .long v1, .long v2, .long v3, .long v4, .long v5, .long v6, .long v7, .long v8, .long v9, .long v10, .long v11, .long v12, .int v13, .ref h1])), (h1, .inl (cI, 6600, .inl (upd vR ((1100 * a1) + a2).toNatClampNeg a3)))] H := hP
  have hD : va_D A [(h0, .inr (3, [.int v0, .long v1, .long v2, .long v3, .long v4, .long v5, .long v6, .long v7, .long v8, .long v9, .long v10, .long v11, .long v12, .int v13, .ref h1])), (h1, .inl (cI, 6600, .inl (upd vR ((1100 * a1) + a2).toNatClampNeg a3)))] := hD
  have ho := Option.some.inj hr
  subst ho
  exact W.vret hx hb hrt (fun t ht hW => ⟨⟨(), rfl, trivial, by rw [ht]; exact hP, va_K.moved hW.alike hK, hD⟩, hS.F ht⟩) hS.2.2 dX3_put_13

def f_X3_part (n : Nat) (a1 : Int32) (a2 : Int64) (a3 : Int64) (a4 : Int64) : Option (Int32) := if a1 = 0 then (some a2.toInt32) else (if a1 = 1 then (some a3.toInt32) else (some a4.toInt32))
set_option maxHeartbeats 4000000 in
set_option maxRecDepth 100000 in
theorem c_X3_part (l : Launch) (dC : Nat → ClassId) (dI : Nat → Nat → Nat) (sz : Nat)  (a1 : Int32) (a2 : Int64) (a3 : Int64) (a4 : Int64)  (n : Nat) (out : Int32) (hr : f_X3_part n a1 a2 a3 a4 = some out) : Met l yX3_part wsX3_part ({ frames := 0, cells := 0, slots := 0, locals := 0 }) (va_Pc [.int a1, .long a2, .long a3, .long a4] (zP dC dI [] [] sz)) (va_Qi (fun r (_ : Unit) => r = out) (fun (_ : Unit) t => zB dC dI [] (va_A [] sz) [] t) (va_A [] sz)) 0 0 (va_A [] sz) := by
  refine Met.ofW (cc := cX3_part) (maxL := 7) (ret := (some .int)) (by decide) rfl ?_
  intro p e s m args below meth c s₁ B hml hv
  obtain ⟨rfl, hsz, hP, hK, hD0⟩ := hv
  have hx := B.exec
  have hb := B.bytes
  have hrt := B.returns
  have hts := atoms_spec (ws := wsX3_part) B.pre
  have hown : s.vm.findClass RX3 = some m.cls := findClass_of_methodNamed B.named
  have hlocks := B.notSynchronized
  subst hsz
  have hD := hD0.self (sz := s.heap.size)
  generalize hAe : va_A [] s.heap.size = A at hD ⊢
  have hA : ∀ q : Nat, s.heap.size ≤ q → A q := fun q h => by rw [← hAe]; exact Or.inr h
  have hS : va_S A s.heap s.heap [] := va_S.rf
  have hP : va_P (dC, dI) vwCl [] s.heap := hP
  have hl := lv_entry ([.int a1, .long a2, .long a3, .long a4]) (n := 7) (Nat.le_of_ble_eq_true rfl)
  rw [lg_entry_eq]
  generalize (lg_sl ([.int a1, .long a2, .long a3, .long a4]) ++ List.replicate (7 - (lg_sl ([.int a1, .long a2, .long a3, .long a4])).length) Slot.unset).toArray = ls at hl ⊢
  have hl : lv_has ls 7 [(0, .int a1), (1, .long a2), (3, .long a3), (5, .long a4)] := hl
  unfold f_X3_part at hr
  refine lv_iload_n hx hb dX3_part_0 rfl (lv_at hl 0 rfl) ?_
  refine lz_zne (tgt := 8) hx hb dX3_part_1 (by decide) (fun c_1 => ?_) (fun c_1 => ?_)
  · have hr := (if_neg c_1).symm.trans hr
    refine lv_iload_n hx hb dX3_part_8 rfl (lv_at hl 0 rfl) ?_
    refine lv_iconst (v := 1) hx hb dX3_part_9 (by decide) ?_
    refine lz_ine (tgt := 17) hx hb dX3_part_10 (by decide) (fun c_2 => ?_) (fun c_2 => ?_)
    · have hr := (if_neg c_2).symm.trans hr
      refine lv_lload hx hb dX3_part_17 (lv_at hl 3 rfl) ?_
      refine lv_l2i hx hb dX3_part_19 rfl ?_
      have ho := Option.some.inj hr
      subst ho
      exact W.iret (v := a4.toInt32) hx hb hrt (fun t ht hW => ⟨⟨a4.toInt32, (), rfl, rfl, by rw [ht]; exact hP, va_K.moved hW.alike hK, hD⟩, hS.F ht⟩) hS.2.2 dX3_part_20
    · have hr := (if_pos c_2).symm.trans hr
      refine lv_lload_n hx hb dX3_part_13 rfl (lv_at hl 2 rfl) ?_
      refine lv_goto (tgt := 19) hx hb dX3_part_14 (by decide) ?_
      refine lv_l2i hx hb dX3_part_19 rfl ?_
      have ho := Option.some.inj hr
      subst ho
      exact W.iret (v := a3.toInt32) hx hb hrt (fun t ht hW => ⟨⟨a3.toInt32, (), rfl, rfl, by rw [ht]; exact hP, va_K.moved hW.alike hK, hD⟩, hS.F ht⟩) hS.2.2 dX3_part_20
  · have hr := (if_pos c_1).symm.trans hr
    refine lv_lload_n hx hb dX3_part_4 rfl (lv_at hl 1 rfl) ?_
    refine lv_goto (tgt := 19) hx hb dX3_part_5 (by decide) ?_
    refine lv_l2i hx hb dX3_part_19 rfl ?_
    have ho := Option.some.inj hr
    subst ho
    exact W.iret (v := a2.toInt32) hx hb hrt (fun t ht hW => ⟨⟨a2.toInt32, (), rfl, rfl, by rw [ht]; exact hP, va_K.moved hW.alike hK, hD⟩, hS.F ht⟩) hS.2.2 dX3_part_20
