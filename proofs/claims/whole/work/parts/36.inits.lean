theorem zz_haI (N : Nat) (cA : ClassId) : vp_cell cA (N, .inl (fun _ => 0)) = arrV cA N (fun _ => defaultValue .int) := rfl
theorem zz_haJ (N : Nat) (cA : ClassId) : vp_cell cA (N, .inr (.inl (fun _ => 0))) = arrV cA N (fun _ => defaultValue .long) := rfl
theorem zz_one {D : va_G} {cl : List vw_C} {tys tys' : List (ClassId × FieldType)} {s : State} {c c' : ClassId} {ty : FieldType} (hK : va_K D cl tys s) (k : Nat) (h : tys[k]? = some (c, ty)) (hK' : va_K D cl tys' s) (k' : Nat) (h' : tys'[k']? = some (c', ty)) (hty : (match ty with | .object _ => false | _ => true) = true) : c' = c := by
  have h1 := (hK.2 k _ h).2
  have h2 := (hK'.2 k' _ h').2
  cases ty <;> first | (cases hty; done) | exact Option.some.inj (h2.symm.trans h1)
def f_X0_init (n : Nat)  : Option (Unit) := some ()
set_option maxHeartbeats 4000000 in
set_option maxRecDepth 100000 in
theorem c_X0_init (l : Launch) (dC : Nat → ClassId) (dI : Nat → Nat → Nat) (sz : Nat) (h0 : Nat) (v0 : Int64) (v1 : Int64) (v2 : Int64) (v3 : Int64) (v4 : Int64)   (n : Nat) (out : Unit) (hr : f_X0_init n  = some out) : Met l yX0_init wsX0_init ({ frames := 1, cells := 0, slots := 0, locals := 12 }) (va_Pc [.ref h0] (zP dC dI [] [(h0, .inr (0, [.long v0, .long v1, .long v2, .long v3, .long v4]))] sz)) (va_Qv (fun (_ : Unit) => True) (fun (_ : Unit) t => zB dC dI [] (va_A [(h0, .inr (0, [.long v0, .long v1, .long v2, .long v3, .long v4]))] sz) [(h0, .inr (0, [.long v0, .long v1, .long v2, .long v3, .long v4]))] t) (va_A [(h0, .inr (0, [.long v0, .long v1, .long v2, .long v3, .long v4]))] sz)) 0 0 (va_A [(h0, .inr (0, [.long v0, .long v1, .long v2, .long v3, .long v4]))] sz) := by
  refine Met.ofW (cc := cX0_init) (maxL := 1) (ret := none) (by decide +kernel) rfl ?_
  intro p e s m args below meth c s₁ B hml hv
  obtain ⟨rfl, hsz, hP, hK, hD0⟩ := hv
  have hx := B.exec
  have hb := B.bytes
  have hrt := B.returns
  have hts := atoms_spec (ws := wsX0_init) B.pre
  have hown : s.vm.findClass RX0 = some m.cls := findClass_of_methodNamed B.named
  have hlocks := B.notSynchronized
  subst hsz
  have hin : meth.name = "<init>" := (name_of_methodNamed B.named B.method).1
  have hD := hD0.self (sz := s.heap.size)
  generalize hAe : va_A [(h0, .inr (0, [.long v0, .long v1, .long v2, .long v3, .long v4]))] s.heap.size = A at hD ⊢
  have hA : ∀ q : Nat, s.heap.size ≤ q → A q := fun q h => by rw [← hAe]; exact Or.inr h
  have hS : va_S A s.heap s.heap [] := va_S.rf
  have hP : va_P (dC, dI) vwCl [(h0, .inr (0, [.long v0, .long v1, .long v2, .long v3, .long v4]))] s.heap := hP
  have hl := lv_entry ([.ref h0]) (n := 1) (Nat.le_of_ble_eq_true rfl)
  rw [lg_entry_eq]
  generalize (lg_sl ([.ref h0]) ++ List.replicate (1 - (lg_sl ([.ref h0])).length) Slot.unset).toArray = ls at hl ⊢
  have hl : lv_has ls 1 [(0, .ref h0)] := hl
  unfold f_X0_init at hr
  refine lv_aload_n hx hb dX0_init_0 rfl (lv_at hl 0 rfl) ?_
  refine W.objInit hx hb hown (hts (.methodLink RX0 3 objectInit) (by decide +kernel)) (hts (.instanceMethod objectInit) (by decide +kernel)) (hts (.code objectInit ⟨#[0xb1]⟩ 1 none) (by decide +kernel)) rfl (by rw [hml]; exact hl.1) rfl dX0_init_1 (Nat.le_of_ble_eq_true rfl) (Nat.le_of_ble_eq_true rfl) ?_
  refine W.eq (g2 := F0 m 4 ls []) rfl ?_
  have ho := Option.some.inj hr
  exact W.vret hx hb hrt (fun t ht hW => ⟨⟨(), rfl, trivial, by rw [ht]; exact hP, va_K.moved hW.alike hK, hD⟩, hS.F ht⟩) hS.2.2 dX0_init_4

theorem in_X3_init_X3 : ∀ w ∈ u_ws RX3 TX3 15, w ∈ wsX3_init := by decide +kernel
def f_X3_init (n : Nat)  : Option ((Nat → Int32)) := (f_X3_put n (fun _ => 0) 0 0 1).bind (fun r_2 => (f_X3_put n r_2 3 0 1).bind (fun r_5 => some r_5))
set_option maxHeartbeats 4000000 in
set_option maxRecDepth 100000 in
theorem c_X3_init (l : Launch) (dC : Nat → ClassId) (dI : Nat → Nat → Nat) (sz : Nat) (h0 : Nat) (cI : ClassId)   (n : Nat) (out : (Nat → Int32)) (hr : f_X3_init n  = some out) : Met l yX3_init wsX3_init ({ frames := 1, cells := 1, slots := 6600, locals := 23 }) (va_Pc [.ref h0] (zP dC dI [(cI, .int)] [(h0, .inr (3, [.int 0, .long 0, .long 0, .long 0, .long 0, .long 0, .long 0, .long 0, .long 0, .long 0, .long 0, .long 0, .long 0, .int 0, .null]))] sz)) (va_Qv (fun (u : Nat) => True) (fun (u : Nat) t => zB dC dI [(cI, .int)] (va_A [(h0, .inr (3, [.int 0, .long 0, .long 0, .long 0, .long 0, .long 0, .long 0, .long 0, .long 0, .long 0, .long 0, .long 0, .long 0, .int 0, .null]))] sz) [(h0, .inr (3, [.int 0, .long 1, .long 0, .long 1, .long (-4), .long (-1), .long 0, .long 0, .long 0, .long 0, .long 1, .long 0, .long 1, .int 4, .ref u])), (u, .inl (cI, 6600, .inl out))] t) (va_A [(h0, .inr (3, [.int 0, .long 0, .long 0, .long 0, .long 0, .long 0, .long 0, .long 0, .long 0, .long 0, .long 0, .long 0, .long 0, .int 0, .null]))] sz)) 1 6600 (va_A [(h0, .inr (3, [.int 0, .long 0, .long 0, .long 0, .long 0, .long 0, .long 0, .long 0, .long 0, .long 0, .long 0, .long 0, .long 0, .int 0, .null]))] sz) := by
  refine Met.ofW (cc := cX3_init) (maxL := 1) (ret := none) (by decide +kernel) rfl ?_
  intro p e s m args below meth c s₁ B hml hv
  obtain ⟨rfl, hsz, hP, hK, hD0⟩ := hv
  have hx := B.exec
  have hb := B.bytes
  have hrt := B.returns
  have hts := atoms_spec (ws := wsX3_init) B.pre
  have hown : s.vm.findClass RX3 = some m.cls := findClass_of_methodNamed B.named
  have hlocks := B.notSynchronized
  subst hsz
  have hin : meth.name = "<init>" := (name_of_methodNamed B.named B.method).1
  have hD := hD0.self (sz := s.heap.size)
  generalize hAe : va_A [(h0, .inr (3, [.int 0, .long 0, .long 0, .long 0, .long 0, .long 0, .long 0, .long 0, .long 0, .long 0, .long 0, .long 0, .long 0, .int 0, .null]))] s.heap.size = A at hD ⊢
  have hA : ∀ q : Nat, s.heap.size ≤ q → A q := fun q h => by rw [← hAe]; exact Or.inr h
  have hS : va_S A s.heap s.heap [] := va_S.rf
  have hP : va_P (dC, dI) vwCl [(h0, .inr (3, [.int 0, .long 0, .long 0, .long 0, .long 0, .long 0, .long 0, .long 0, .long 0, .long 0, .long 0, .long 0, .long 0, .int 0, .null]))] s.heap := hP
  have hl := lv_entry ([.ref h0]) (n := 1) (Nat.le_of_ble_eq_true rfl)
  rw [lg_entry_eq]
  generalize (lg_sl ([.ref h0]) ++ List.replicate (1 - (lg_sl ([.ref h0])).length) Slot.unset).toArray = ls at hl ⊢
  have hl : lv_has ls 1 [(0, .ref h0)] := hl
  unfold f_X3_init at hr
  refine lv_aload_n hx hb dX3_init_0 rfl (lv_at hl 0 rfl) ?_
  refine W.objInit hx hb hown (hts (.methodLink RX3 1 objectInit) (by decide +kernel)) (hts (.instanceMethod objectInit) (by decide +kernel)) (hts (.code objectInit ⟨#[0xb1]⟩ 1 none) (by decide +kernel)) rfl (by rw [hml]; exact hl.1) rfl dX3_init_1 (Nat.le_of_ble_eq_true rfl) (Nat.le_of_ble_eq_true rfl) ?_
  refine W.eq (g2 := F0 m 4 ls []) rfl ?_
  refine lv_aload_n hx hb dX3_init_4 rfl (lv_at hl 0 rfl) ?_
  refine lv_lconst (v := 1) hx hb dX3_init_5 (by decide) ?_
  refine va_put (D := (dC, dI)) (ci := 3) (v := .long 1) (ty := .long) (C := RX3) (T := TX3) (N := 15) hx hb hts in_X3_init_X3 tyX3 tyX3_ok nmX3 hown hK hP hD hS 0 rfl rfl 1 (by decide) (hts (.fieldLink RX3 7 "FormRingModel" "a" "J") (by decide +kernel)) (fun _ h9 => h9) rfl (by decide +kernel) rfl rfl (Nat.le_of_ble_eq_true rfl) dX3_init_6 (fun H locs hP hD hS => ?_)
  have hP : va_P (dC, dI) vwCl [(h0, .inr (3, [.int 0, .long 1, .long 0, .long 0, .long 0, .long 0, .long 0, .long 0, .long 0, .long 0, .long 0, .long 0, .long 0, .int 0, .null]))] H := hP
  have hD : va_D A [(h0, .inr (3, [.int 0, .long 1, .long 0, .long 0, .long 0, .long 0, .long 0, .long 0, .long 0, .long 0, .long 0, .long 0, .long 0, .int 0, .null]))] := hD
  refine lv_aload_n hx hb dX3_init_9 rfl (lv_at hl 0 rfl) ?_
  refine lv_lconst (v := 1) hx hb dX3_init_10 (by decide) ?_
  refine va_put (D := (dC, dI)) (ci := 3) (v := .long 1) (ty := .long) (C := RX3) (T := TX3) (N := 15) hx hb hts in_X3_init_X3 tyX3 tyX3_ok nmX3 hown hK hP hD hS 0 rfl rfl 3 (by decide) (hts (.fieldLink RX3 13 "FormRingModel" "c" "J") (by decide +kernel)) (fun _ h9 => h9) rfl (by decide +kernel) rfl rfl (Nat.le_of_ble_eq_true rfl) dX3_init_11 (fun H locs hP hD hS => ?_)
  have hP : va_P (dC, dI) vwCl [(h0, .inr (3, [.int 0, .long 1, .long 0, .long 1, .long 0, .long 0, .long 0, .long 0, .long 0, .long 0, .long 0, .long 0, .long 0, .int 0, .null]))] H := hP
  have hD : va_D A [(h0, .inr (3, [.int 0, .long 1, .long 0, .long 1, .long 0, .long 0, .long 0, .long 0, .long 0, .long 0, .long 0, .long 0, .long 0, .int 0, .null]))] := hD
  refine lv_aload_n hx hb dX3_init_14 rfl (lv_at hl 0 rfl) ?_
  refine lv_ldc2 (v := (-4)) hx hb hown (hts (.constantLong RX3 16 (-4)) (by decide +kernel)) dX3_init_15 ?_
  refine va_put (D := (dC, dI)) (ci := 3) (v := .long (-4)) (ty := .long) (C := RX3) (T := TX3) (N := 15) hx hb hts in_X3_init_X3 tyX3 tyX3_ok nmX3 hown hK hP hD hS 0 rfl rfl 4 (by decide) (hts (.fieldLink RX3 18 "FormRingModel" "d" "J") (by decide +kernel)) (fun _ h9 => h9) rfl (by decide +kernel) rfl rfl (Nat.le_of_ble_eq_true rfl) dX3_init_18 (fun H locs hP hD hS => ?_)
  have hP : va_P (dC, dI) vwCl [(h0, .inr (3, [.int 0, .long 1, .long 0, .long 1, .long (-4), .long 0, .long 0, .long 0, .long 0, .long 0, .long 0, .long 0, .long 0, .int 0, .null]))] H := hP
  have hD : va_D A [(h0, .inr (3, [.int 0, .long 1, .long 0, .long 1, .long (-4), .long 0, .long 0, .long 0, .long 0, .long 0, .long 0, .long 0, .long 0, .int 0, .null]))] := hD
  refine lv_aload_n hx hb dX3_init_21 rfl (lv_at hl 0 rfl) ?_
  refine lv_ldc2 (v := (-1)) hx hb hown (hts (.constantLong RX3 21 (-1)) (by decide +kernel)) dX3_init_22 ?_
  refine va_put (D := (dC, dI)) (ci := 3) (v := .long (-1)) (ty := .long) (C := RX3) (T := TX3) (N := 15) hx hb hts in_X3_init_X3 tyX3 tyX3_ok nmX3 hown hK hP hD hS 0 rfl rfl 5 (by decide) (hts (.fieldLink RX3 23 "FormRingModel" "w" "J") (by decide +kernel)) (fun _ h9 => h9) rfl (by decide +kernel) rfl rfl (Nat.le_of_ble_eq_true rfl) dX3_init_25 (fun H locs hP hD hS => ?_)
  have hP : va_P (dC, dI) vwCl [(h0, .inr (3, [.int 0, .long 1, .long 0, .long 1, .long (-4), .long (-1), .long 0, .long 0, .long 0, .long 0, .long 0, .long 0, .long 0, .int 0, .null]))] H := hP
  have hD : va_D A [(h0, .inr (3, [.int 0, .long 1, .long 0, .long 1, .long (-4), .long (-1), .long 0, .long 0, .long 0, .long 0, .long 0, .long 0, .long 0, .int 0, .null]))] := hD
  refine lv_aload_n hx hb dX3_init_28 rfl (lv_at hl 0 rfl) ?_
  refine lv_lconst (v := 1) hx hb dX3_init_29 (by decide) ?_
  refine va_put (D := (dC, dI)) (ci := 3) (v := .long 1) (ty := .long) (C := RX3) (T := TX3) (N := 15) hx hb hts in_X3_init_X3 tyX3 tyX3_ok nmX3 hown hK hP hD hS 0 rfl rfl 10 (by decide) (hts (.fieldLink RX3 26 "FormRingModel" "nameA" "J") (by decide +kernel)) (fun _ h9 => h9) rfl (by decide +kernel) rfl rfl (Nat.le_of_ble_eq_true rfl) dX3_init_30 (fun H locs hP hD hS => ?_)
  have hP : va_P (dC, dI) vwCl [(h0, .inr (3, [.int 0, .long 1, .long 0, .long 1, .long (-4), .long (-1), .long 0, .long 0, .long 0, .long 0, .long 1, .long 0, .long 0, .int 0, .null]))] H := hP
  have hD : va_D A [(h0, .inr (3, [.int 0, .long 1, .long 0, .long 1, .long (-4), .long (-1), .long 0, .long 0, .long 0, .long 0, .long 1, .long 0, .long 0, .int 0, .null]))] := hD
  refine lv_aload_n hx hb dX3_init_33 rfl (lv_at hl 0 rfl) ?_
  refine lv_lconst (v := 1) hx hb dX3_init_34 (by decide) ?_
  refine va_put (D := (dC, dI)) (ci := 3) (v := .long 1) (ty := .long) (C := RX3) (T := TX3) (N := 15) hx hb hts in_X3_init_X3 tyX3 tyX3_ok nmX3 hown hK hP hD hS 0 rfl rfl 12 (by decide) (hts (.fieldLink RX3 29 "FormRingModel" "nameC" "J") (by decide +kernel)) (fun _ h9 => h9) rfl (by decide +kernel) rfl rfl (Nat.le_of_ble_eq_true rfl) dX3_init_35 (fun H locs hP hD hS => ?_)
  have hP : va_P (dC, dI) vwCl [(h0, .inr (3, [.int 0, .long 1, .long 0, .long 1, .long (-4), .long (-1), .long 0, .long 0, .long 0, .long 0, .long 1, .long 0, .long 1, .int 0, .null]))] H := hP
  have hD : va_D A [(h0, .inr (3, [.int 0, .long 1, .long 0, .long 1, .long (-4), .long (-1), .long 0, .long 0, .long 0, .long 0, .long 1, .long 0, .long 1, .int 0, .null]))] := hD
  refine lv_aload_n hx hb dX3_init_38 rfl (lv_at hl 0 rfl) ?_
  refine lv_iconst (v := 4) hx hb dX3_init_39 (by decide) ?_
  refine va_put (D := (dC, dI)) (ci := 3) (v := .int 4) (ty := .int) (C := RX3) (T := TX3) (N := 15) hx hb hts in_X3_init_X3 tyX3 tyX3_ok nmX3 hown hK hP hD hS 0 rfl rfl 13 (by decide) (hts (.fieldLink RX3 32 "FormRingModel" "digits" "I") (by decide +kernel)) (fun _ h9 => h9) rfl (by decide +kernel) rfl rfl (Nat.le_of_ble_eq_true rfl) dX3_init_40 (fun H locs hP hD hS => ?_)
  have hP : va_P (dC, dI) vwCl [(h0, .inr (3, [.int 0, .long 1, .long 0, .long 1, .long (-4), .long (-1), .long 0, .long 0, .long 0, .long 0, .long 1, .long 0, .long 1, .int 4, .null]))] H := hP
  have hD : va_D A [(h0, .inr (3, [.int 0, .long 1, .long 0, .long 1, .long (-4), .long (-1), .long 0, .long 0, .long 0, .long 0, .long 1, .long 0, .long 1, .int 4, .null]))] := hD
  refine lv_aload_n hx hb dX3_init_43 rfl (lv_at hl 0 rfl) ?_
  refine lv_sipush (v := 6600) hx hb dX3_init_44 (by decide) ?_
  refine va_newa (atype := .int) (ty := .int) (N' := 6600) (a0 := (6600, .inl (fun _ => 0))) hx hb (hts (.arrayClass .int) (by decide +kernel)) rfl hK hP hD hS hA (zz_haI 6600) (by decide +kernel) (by decide +kernel) (by decide +kernel) (by decide +kernel) (by decide +kernel) dX3_init_47 (fun q47 cA9 H hK9 hP hD hS => ?_)
  have hc9 := (zz_one hK 0 rfl hK9 1 rfl rfl).symm
  subst hc9
  have hP : va_P (dC, dI) vwCl [(h0, .inr (3, [.int 0, .long 1, .long 0, .long 1, .long (-4), .long (-1), .long 0, .long 0, .long 0, .long 0, .long 1, .long 0, .long 1, .int 4, .null])), (q47, .inl (cI, 6600, .inl (fun _ => 0)))] H := hP
  have hD : va_D A [(h0, .inr (3, [.int 0, .long 1, .long 0, .long 1, .long (-4), .long (-1), .long 0, .long 0, .long 0, .long 0, .long 1, .long 0, .long 1, .int 4, .null])), (q47, .inl (cI, 6600, .inl (fun _ => 0)))] := hD
  refine W.widen (k := 1) (n := 6600) (Nat.le_refl _) (Nat.le_refl _) ?_
  refine va_putF (D := (dC, dI)) (ci := 3) (v := .ref q47) (ty := .array .int) (C := RX3) (T := TX3) (N := 15) hx hb hts in_X3_init_X3 tyX3 tyX3_ok nmX3 hown hK hP hD hS 0 rfl rfl 14 (by decide) (hts (.fieldLink RX3 36 "FormRingModel" "row" "[I") (by decide +kernel)) (fun _ h9 => h9) rfl hin rfl (by decide +kernel) rfl rfl (Nat.le_of_ble_eq_true rfl) dX3_init_49 (fun H locs hP hD hS => ?_)
  have hP : va_P (dC, dI) vwCl [(h0, .inr (3, [.int 0, .long 1, .long 0, .long 1, .long (-4), .long (-1), .long 0, .long 0, .long 0, .long 0, .long 1, .long 0, .long 1, .int 4, .ref q47])), (q47, .inl (cI, 6600, .inl (fun _ => 0)))] H := hP
  have hD : va_D A [(h0, .inr (3, [.int 0, .long 1, .long 0, .long 1, .long (-4), .long (-1), .long 0, .long 0, .long 0, .long 0, .long 1, .long 0, .long 1, .int 4, .ref q47])), (q47, .inl (cI, 6600, .inl (fun _ => 0)))] := hD
  refine lv_aload_n hx hb dX3_init_52 rfl (lv_at hl 0 rfl) ?_
  refine lv_iconst (v := 0) hx hb dX3_init_53 (by decide) ?_
  refine lv_iconst (v := 0) hx hb dX3_init_54 (by decide) ?_
  refine lv_iconst (v := 1) hx hb dX3_init_55 (by decide) ?_
  cases e_1 : f_X3_put n (fun _ => 0) 0 0 1 with
  | none => rw [e_1, Option.bind_none] at hr; cases hr
  | some r_2 =>
    rw [e_1, Option.bind_some] at hr
    have hPc := hP.sub (ws' := [(h0, .inr (3, [.int 0, .long 1, .long 0, .long 1, .long (-4), .long (-1), .long 0, .long 0, .long 0, .long 0, .long 1, .long 0, .long 1, .int 4, .ref q47])), (q47, .inl (cI, 6600, .inl (fun _ => 0)))]) [0, 1] rfl
    have hDc := hD.sub (ws' := [(h0, .inr (3, [.int 0, .long 1, .long 0, .long 1, .long (-4), .long (-1), .long 0, .long 0, .long 0, .long 0, .long 1, .long 0, .long 1, .int 4, .ref q47])), (q47, .inl (cI, 6600, .inl (fun _ => 0)))]) [0, 1] (by decide) rfl
    have hKc := hK.sub (tys' := [(cI, .int)]) [0] rfl
    have hFc := va_free (wc := [(h0, .inr (3, [.int 0, .long 1, .long 0, .long 1, .long (-4), .long (-1), .long 0, .long 0, .long 0, .long 0, .long 1, .long 0, .long 1, .int 4, .ref q47])), (q47, .inl (cI, 6600, .inl (fun _ => 0)))]) hD hS hA [0, 1] rfl
    refine va_callv (va_runV (As := [.int 0, .int 0, .int 1]) (rest := []) ⟨hx, hb, hml, hown, hts⟩ (c_X3_put l dC dI H.size h0 q47 cI 0 1 0 1 (-4) (-1) 0 0 0 0 1 0 1 4 (fun _ => 0) 0 0 1 n _ e_1) (cwV 3 hts gX3_init_X3_put rfl rfl rfl (by decide +kernel) ⟨Nat.le_of_ble_eq_true rfl, Nat.le_of_ble_eq_true rfl⟩) ⟨fun a U g mk q => by obtain ⟨q0, q1, qP, qK, qD⟩ := q; exact ⟨q0, q1, qP, va_K.moved (u := U) (U := U.calling g mk a) (Vm.Alike.refl U.vm) qK, qD⟩, va_recv hKc hPc (ci := 3) (q0 := 0) rfl rfl, fun U hU hW => ⟨rfl, by rw [hU], by rw [hU]; exact hPc, va_K.moved hW.alike hKc, hDc.weaken (fun _ _ _ _ => trivial)⟩⟩ rfl rfl hl.1 rfl (lv_room (Nat.le_of_ble_eq_true rfl)) dX3_init_56 ⟨Nat.le_of_ble_eq_true rfl, Nat.le_of_ble_eq_true rfl⟩) hS (fun q _ h => hFc q h) hFc (fun _ t H1 locs ht hvm hw hB hz1 hk1 hS => ?_)
    obtain ⟨hP1, hK1, hD1⟩ := hB
    rw [ht] at hP1
    obtain ⟨hP, hD⟩ := va_join (wr := []) (w1 := [(h0, .inr (3, [.int 0, .long 1, .long 0, .long 1, .long (-4), .long (-1), .long 0, .long 0, .long 0, .long 0, .long 1, .long 0, .long 1, .int 4, .ref q47])), (q47, .inl (cI, 6600, .inl r_2))]) hP hD [0, 1] [] rfl rfl (by decide) (by decide) hk1 hFc hP1 hD1
    generalize H1 = H at hP hS ⊢
    have hP : va_P (dC, dI) vwCl [(h0, .inr (3, [.int 0, .long 1, .long 0, .long 1, .long (-4), .long (-1), .long 0, .long 0, .long 0, .long 0, .long 1, .long 0, .long 1, .int 4, .ref q47])), (q47, .inl (cI, 6600, .inl r_2))] H := hP
    have hD : va_D A [(h0, .inr (3, [.int 0, .long 1, .long 0, .long 1, .long (-4), .long (-1), .long 0, .long 0, .long 0, .long 0, .long 1, .long 0, .long 1, .int 4, .ref q47])), (q47, .inl (cI, 6600, .inl r_2))] := hD
    refine W.widen (k := 1) (n := 6600) (Nat.le_refl _) (Nat.le_refl _) ?_
    refine lv_aload_n hx hb dX3_init_59 rfl (lv_at hl 0 rfl) ?_
    refine lv_iconst (v := 3) hx hb dX3_init_60 (by decide) ?_
    refine lv_iconst (v := 0) hx hb dX3_init_61 (by decide) ?_
    refine lv_iconst (v := 1) hx hb dX3_init_62 (by decide) ?_
    cases e_4 : f_X3_put n r_2 3 0 1 with
    | none => rw [e_4, Option.bind_none] at hr; cases hr
    | some r_5 =>
      rw [e_4, Option.bind_some] at hr
      have hPc := hP.sub (ws' := [(h0, .inr (3, [.int 0, .long 1, .long 0, .long 1, .long (-4), .long (-1), .long 0, .long 0, .long 0, .long 0, .long 1, .long 0, .long 1, .int 4, .ref q47])), (q47, .inl (cI, 6600, .inl r_2))]) [0, 1] rfl
      have hDc := hD.sub (ws' := [(h0, .inr (3, [.int 0, .long 1, .long 0, .long 1, .long (-4), .long (-1), .long 0, .long 0, .long 0, .long 0, .long 1, .long 0, .long 1, .int 4, .ref q47])), (q47, .inl (cI, 6600, .inl r_2))]) [0, 1] (by decide) rfl
      have hKc := hK.sub (tys' := [(cI, .int)]) [0] rfl
      have hFc := va_free (wc := [(h0, .inr (3, [.int 0, .long 1, .long 0, .long 1, .long (-4), .long (-1), .long 0, .long 0, .long 0, .long 0, .long 1, .long 0, .long 1, .int 4, .ref q47])), (q47, .inl (cI, 6600, .inl r_2))]) hD hS hA [0, 1] rfl
      refine va_callv (va_runV (As := [.int 3, .int 0, .int 1]) (rest := []) ⟨hx, hb, hml, hown, hts⟩ (c_X3_put l dC dI H.size h0 q47 cI 0 1 0 1 (-4) (-1) 0 0 0 0 1 0 1 4 r_2 3 0 1 n _ e_4) (cwV 3 hts gX3_init_X3_put rfl rfl rfl (by decide +kernel) ⟨Nat.le_of_ble_eq_true rfl, Nat.le_of_ble_eq_true rfl⟩) ⟨fun a U g mk q => by obtain ⟨q0, q1, qP, qK, qD⟩ := q; exact ⟨q0, q1, qP, va_K.moved (u := U) (U := U.calling g mk a) (Vm.Alike.refl U.vm) qK, qD⟩, va_recv hKc hPc (ci := 3) (q0 := 0) rfl rfl, fun U hU hW => ⟨rfl, by rw [hU], by rw [hU]; exact hPc, va_K.moved hW.alike hKc, hDc.weaken (fun _ _ _ _ => trivial)⟩⟩ rfl rfl hl.1 rfl (lv_room (Nat.le_of_ble_eq_true rfl)) dX3_init_63 ⟨Nat.le_of_ble_eq_true rfl, Nat.le_of_ble_eq_true rfl⟩) hS (fun q _ h => hFc q h) hFc (fun _ t H1 locs ht hvm hw hB hz1 hk1 hS => ?_)
      obtain ⟨hP1, hK1, hD1⟩ := hB
      rw [ht] at hP1
      obtain ⟨hP, hD⟩ := va_join (wr := []) (w1 := [(h0, .inr (3, [.int 0, .long 1, .long 0, .long 1, .long (-4), .long (-1), .long 0, .long 0, .long 0, .long 0, .long 1, .long 0, .long 1, .int 4, .ref q47])), (q47, .inl (cI, 6600, .inl r_5))]) hP hD [0, 1] [] rfl rfl (by decide) (by decide) hk1 hFc hP1 hD1
      generalize H1 = H at hP hS ⊢
      have hP : va_P (dC, dI) vwCl [(h0, .inr (3, [.int 0, .long 1, .long 0, .long 1, .long (-4), .long (-1), .long 0, .long 0, .long 0, .long 0, .long 1, .long 0, .long 1, .int 4, .ref q47])), (q47, .inl (cI, 6600, .inl r_5))] H := hP
      have hD : va_D A [(h0, .inr (3, [.int 0, .long 1, .long 0, .long 1, .long (-4), .long (-1), .long 0, .long 0, .long 0, .long 0, .long 1, .long 0, .long 1, .int 4, .ref q47])), (q47, .inl (cI, 6600, .inl r_5))] := hD
      refine W.widen (k := 1) (n := 6600) (Nat.le_refl _) (Nat.le_refl _) ?_
      have ho := Option.some.inj hr
      subst ho
      refine W.widen (k := 1) (n := 6600) (Nat.le_of_ble_eq_true rfl) (Nat.le_of_ble_eq_true rfl) ?_
      exact W.vret hx hb hrt (fun t ht hW => ⟨⟨(q47), rfl, trivial, by rw [ht]; exact hP, va_K.moved hW.alike hK, hD⟩, hS.F ht⟩) hS.2.2 dX3_init_66
