theorem in_X3_isNumber_X3 : ∀ w ∈ u_ws RX3 TX3 15, w ∈ wsX3_isNumber := by decide +kernel
def f_X3_isNumber (n : Nat) (a1 : Int32) : Option (Int32 × Int32) := (f_X3_in n a1.toInt64 0 3).bind (fun r_2 => if r_2 = 0 then (some (0, 1)) else (some (1, 0)))
set_option maxHeartbeats 4000000 in
set_option maxRecDepth 100000 in
theorem c_X3_isNumber (l : Launch) (dC : Nat → ClassId) (dI : Nat → Nat → Nat) (sz : Nat) (h0 : Nat) (h1 : Nat) (cI : ClassId) (v0 : Int32) (v1 : Int64) (v2 : Int64) (v3 : Int64) (v4 : Int64) (v5 : Int64) (v6 : Int64) (v7 : Int64) (v8 : Int64) (v9 : Int64) (v10 : Int64) (v11 : Int64) (v12 : Int64) (v13 : Int32) (vR : Nat → Int32) (a1 : Int32)  (n : Nat) (out : Int32 × Int32) (hr : f_X3_isNumber n a1 = some out) : Met l yX3_isNumber wsX3_isNumber ({ frames := 1, cells := 0, slots := 0, locals := 25 }) (va_Pc [.ref h0, .int a1] (zP dC dI [(cI, .int)] [(h0, .inr (3, [.int v0, .long v1, .long v2, .long v3, .long v4, .long v5, .long v6, .long v7, .long v8, .long v9, .long v10, .long v11, .long v12, .int v13, .ref h1])), (h1, .inl (cI, 6600, .inl vR))] sz)) (va_Qi (fun r (_ : Unit) => r = out.1 ∧ narrow .boolean (.int r) = .int r) (fun (_ : Unit) t => zB dC dI [(cI, .int)] (va_A [(h0, .inr (3, [.int v0, .long v1, .long v2, .long v3, .long v4, .long v5, .long v6, .long v7, .long v8, .long v9, .long v10, .long v11, .long v12, .int v13, .ref h1])), (h1, .inl (cI, 6600, .inl vR))] sz) [(h0, .inr (3, [.int out.2, .long v1, .long v2, .long v3, .long v4, .long v5, .long v6, .long v7, .long v8, .long v9, .long v10, .long v11, .long v12, .int v13, .ref h1])), (h1, .inl (cI, 6600, .inl vR))] t) (va_A [(h0, .inr (3, [.int v0, .long v1, .long v2, .long v3, .long v4, .long v5, .long v6, .long v7, .long v8, .long v9, .long v10, .long v11, .long v12, .int v13, .ref h1])), (h1, .inl (cI, 6600, .inl vR))] sz)) 0 0 (va_A [(h0, .inr (3, [.int v0, .long v1, .long v2, .long v3, .long v4, .long v5, .long v6, .long v7, .long v8, .long v9, .long v10, .long v11, .long v12, .int v13, .ref h1])), (h1, .inl (cI, 6600, .inl vR))] sz) := by
  refine Met.ofW (cc := cX3_isNumber) (maxL := 2) (ret := (some .boolean)) (by decide) rfl ?_
  intro p e s m args below meth c s₁ B hml hv
  obtain ⟨rfl, hsz, hP, hK, hD0⟩ := hv
  have hx := B.exec
  have hb := B.bytes
  have hrt := B.returns
  have hts := atoms_spec (ws := wsX3_isNumber) B.pre
  have hown : s.vm.findClass RX3 = some m.cls := findClass_of_methodNamed B.named
  have hlocks := B.notSynchronized
  subst hsz
  have hD := hD0.self (sz := s.heap.size)
  generalize hAe : va_A [(h0, .inr (3, [.int v0, .long v1, .long v2, .long v3, .long v4, .long v5, .long v6, .long v7, .long v8, .long v9, .long v10, .long v11, .long v12, .int v13, .ref h1])), (h1, .inl (cI, 6600, .inl vR))] s.heap.size = A at hD ⊢
  have hA : ∀ q : Nat, s.heap.size ≤ q → A q := fun q h => by rw [← hAe]; exact Or.inr h
  have hS : va_S A s.heap s.heap [] := va_S.rf
  have hP : va_P (dC, dI) vwCl [(h0, .inr (3, [.int v0, .long v1, .long v2, .long v3, .long v4, .long v5, .long v6, .long v7, .long v8, .long v9, .long v10, .long v11, .long v12, .int v13, .ref h1])), (h1, .inl (cI, 6600, .inl vR))] s.heap := hP
  have hl := lv_entry ([.ref h0, .int a1]) (n := 2) (Nat.le_of_ble_eq_true rfl)
  rw [lg_entry_eq]
  generalize (lg_sl ([.ref h0, .int a1]) ++ List.replicate (2 - (lg_sl ([.ref h0, .int a1])).length) Slot.unset).toArray = ls at hl ⊢
  have hl : lv_has ls 2 [(0, .ref h0), (1, .int a1)] := hl
  unfold f_X3_isNumber at hr
  refine lv_aload_n hx hb dX3_isNumber_0 rfl (lv_at hl 0 rfl) ?_
  refine lv_iload_n hx hb dX3_isNumber_1 rfl (lv_at hl 1 rfl) ?_
  refine lv_i2l hx hb dX3_isNumber_2 rfl ?_
  refine lv_lconst (v := 0) hx hb dX3_isNumber_3 (by decide) ?_
  refine lv_ldc2 (v := 3) hx hb hown (hts (.constantLong RX3 164 (3)) (by decide +kernel)) dX3_isNumber_4 ?_
  cases e_1 : f_X3_in n a1.toInt64 0 3 with
  | none => rw [e_1, Option.bind_none] at hr; cases hr
  | some r_2 =>
    rw [e_1, Option.bind_some] at hr
    have hPc := hP.sub (ws' := []) [] rfl
    have hDc := hD.sub (ws' := []) [] (by decide) rfl
    have hKc := hK.sub (tys' := []) [] rfl
    have hFc := va_free (wc := []) hD hS hA [] rfl
    refine va_calli (va_runS (As := [.long a1.toInt64, .long 0, .long 3]) (rest := [.ref h0]) ⟨hx, hb, hml, hown, hts⟩ (c_X3_in l dC dI s.heap.size  a1.toInt64 0 3 n _ e_1) (va_cwS 3 hts gX3_isNumber_X3_in rfl rfl rfl (by decide +kernel) ⟨Nat.le_of_ble_eq_true rfl, Nat.le_of_ble_eq_true rfl⟩) ⟨fun a U g mk q => by obtain ⟨q0, q1, qP, qK, qD⟩ := q; exact ⟨q0, q1, qP, va_K.moved (u := U) (U := U.calling g mk a) (Vm.Alike.refl U.vm) qK, qD⟩, fun U hU hW => ⟨rfl, by rw [hU], by rw [hU]; exact hPc, va_K.moved hW.alike hKc, hDc.weaken (fun _ _ _ _ => trivial)⟩⟩ rfl rfl hl.1 rfl (lv_room (Nat.le_of_ble_eq_true rfl)) dX3_isNumber_7 ⟨Nat.zero_le _, Nat.zero_le _⟩) hS (fun q _ h => hFc q h) hFc (fun x_3 _ t H1 locs ht hvm hw hB hz1 hk1 hS => ?_)
    obtain ⟨hw, z_4⟩ := hw
    have hw := hw.symm
    subst hw
    obtain ⟨hP1, hK1, hD1⟩ := hB
    rw [ht] at hP1
    obtain ⟨hP, hD⟩ := va_join (wr := [(h0, .inr (3, [.int v0, .long v1, .long v2, .long v3, .long v4, .long v5, .long v6, .long v7, .long v8, .long v9, .long v10, .long v11, .long v12, .int v13, .ref h1])), (h1, .inl (cI, 6600, .inl vR))]) (w1 := []) hP hD [] [0, 1] rfl rfl (by decide) (by decide) hk1 hFc hP1 hD1
    generalize H1 = H at hP hS ⊢
    have hP : va_P (dC, dI) vwCl [(h0, .inr (3, [.int v0, .long v1, .long v2, .long v3, .long v4, .long v5, .long v6, .long v7, .long v8, .long v9, .long v10, .long v11, .long v12, .int v13, .ref h1])), (h1, .inl (cI, 6600, .inl vR))] H := hP
    have hD : va_D A [(h0, .inr (3, [.int v0, .long v1, .long v2, .long v3, .long v4, .long v5, .long v6, .long v7, .long v8, .long v9, .long v10, .long v11, .long v12, .int v13, .ref h1])), (h1, .inl (cI, 6600, .inl vR))] := hD
    refine W.widen (k := 0) (n := 0) (Nat.le_refl _) (Nat.le_refl _) ?_
    refine lz_zeq (tgt := 17) hx hb dX3_isNumber_10 (by decide) (fun c_5 => ?_) (fun c_5 => ?_)
    · have hr := (if_pos c_5).symm.trans hr
      refine lv_iconst (v := 1) hx hb dX3_isNumber_17 (by decide) ?_
      refine va_put (D := (dC, dI)) (ci := 3) (v := .int 1) (ty := .int) (C := RX3) (T := TX3) (N := 15) hx hb hts in_X3_isNumber_X3 tyX3 tyX3_ok nmX3 hown hK hP hD hS 0 rfl rfl 0 (by decide) (hts (.fieldLink RX3 44 "FormRingModel" "code" "I") (by decide +kernel)) (fun _ h9 => h9) rfl (by decide +kernel) rfl rfl (Nat.le_of_ble_eq_true rfl) dX3_isNumber_18 (fun H locs hP hD hS => ?_)
      have hP : va_P (dC, dI) vwCl [(h0, .inr (3, [.int 1, .long v1, .long v2, .long v3, .long v4, .long v5, .long v6, .long v7, .long v8, .long v9, .long v10, .long v11, .long v12, .int v13, .ref h1])), (h1, .inl (cI, 6600, .inl vR))] H := hP
      have hD : va_D A [(h0, .inr (3, [.int 1, .long v1, .long v2, .long v3, .long v4, .long v5, .long v6, .long v7, .long v8, .long v9, .long v10, .long v11, .long v12, .int v13, .ref h1])), (h1, .inl (cI, 6600, .inl vR))] := hD
      refine lv_aload_n hx hb dX3_isNumber_21 rfl (lv_at hl 0 rfl) ?_
      refine va_get (D := (dC, dI)) (ci := 3) (v := .int 1) (C := RX3) (T := TX3) (N := 15) hx hb hts in_X3_isNumber_X3 hown hK hP 0 rfl rfl 0 (by decide) (hts (.fieldLink RX3 44 "FormRingModel" "code" "I") (by decide +kernel)) (fun _ h9 => h9) rfl dX3_isNumber_22 ?_
      refine lz_zne (tgt := 32) hx hb dX3_isNumber_25 (by decide) (fun c_6 => ?_) (fun c_6 => absurd c_6 (by decide))
      refine lv_iconst (v := 0) hx hb dX3_isNumber_32 (by decide) ?_
      have ho := Option.some.inj hr
      subst ho
      exact W.zret (v := 0) hx hb hrt rfl (fun t ht hW => ⟨⟨0, (), rfl, ⟨rfl, rfl⟩, by rw [ht]; exact hP, va_K.moved hW.alike hK, hD⟩, hS.F ht⟩) hS.2.2 dX3_isNumber_33
    · have hr := (if_neg c_5).symm.trans hr
      refine lv_iconst (v := 0) hx hb dX3_isNumber_13 (by decide) ?_
      refine lv_goto (tgt := 18) hx hb dX3_isNumber_14 (by decide) ?_
      refine va_put (D := (dC, dI)) (ci := 3) (v := .int 0) (ty := .int) (C := RX3) (T := TX3) (N := 15) hx hb hts in_X3_isNumber_X3 tyX3 tyX3_ok nmX3 hown hK hP hD hS 0 rfl rfl 0 (by decide) (hts (.fieldLink RX3 44 "FormRingModel" "code" "I") (by decide +kernel)) (fun _ h9 => h9) rfl (by decide +kernel) rfl rfl (Nat.le_of_ble_eq_true rfl) dX3_isNumber_18 (fun H locs hP hD hS => ?_)
      have hP : va_P (dC, dI) vwCl [(h0, .inr (3, [.int 0, .long v1, .long v2, .long v3, .long v4, .long v5, .long v6, .long v7, .long v8, .long v9, .long v10, .long v11, .long v12, .int v13, .ref h1])), (h1, .inl (cI, 6600, .inl vR))] H := hP
      have hD : va_D A [(h0, .inr (3, [.int 0, .long v1, .long v2, .long v3, .long v4, .long v5, .long v6, .long v7, .long v8, .long v9, .long v10, .long v11, .long v12, .int v13, .ref h1])), (h1, .inl (cI, 6600, .inl vR))] := hD
      refine lv_aload_n hx hb dX3_isNumber_21 rfl (lv_at hl 0 rfl) ?_
      refine va_get (D := (dC, dI)) (ci := 3) (v := .int 0) (C := RX3) (T := TX3) (N := 15) hx hb hts in_X3_isNumber_X3 hown hK hP 0 rfl rfl 0 (by decide) (hts (.fieldLink RX3 44 "FormRingModel" "code" "I") (by decide +kernel)) (fun _ h9 => h9) rfl dX3_isNumber_22 ?_
      refine lz_zne (tgt := 32) hx hb dX3_isNumber_25 (by decide) (fun c_7 => absurd c_7 (by decide)) (fun c_7 => ?_)
      refine lv_iconst (v := 1) hx hb dX3_isNumber_28 (by decide) ?_
      refine lv_goto (tgt := 33) hx hb dX3_isNumber_29 (by decide) ?_
      have ho := Option.some.inj hr
      subst ho
      exact W.zret (v := 1) hx hb hrt rfl (fun t ht hW => ⟨⟨1, (), rfl, ⟨rfl, rfl⟩, by rw [ht]; exact hP, va_K.moved hW.alike hK, hD⟩, hS.F ht⟩) hS.2.2 dX3_isNumber_33

theorem in_X3_sized_X3 : ∀ w ∈ u_ws RX3 TX3 15, w ∈ wsX3_sized := by decide +kernel
def f_X3_sized_50 (n : Nat) : Nat → Int32 → (Nat → Int32) → Option (Int32 × (Nat → Int32))
  | 0, _, _ => none
  | k + 1, u2, w1 => if 0 < u2 then ((f_X3_get n w1 4 (u2 - 1)).bind (fun r_3 => if r_3 = 0 then (f_X3_sized_50 n k (u2 + (-1)) w1) else (some (u2, w1)))) else (some (u2, w1))
set_option maxHeartbeats 4000000 in
set_option maxRecDepth 100000 in
theorem k_X3_sized_50 {p : Program} {l : Launch} {e : Env} {s : State} {m : MethodId} {args : Array Value} {below : List Frame} {meth : Method} {c : Code} {dC : Nat → ClassId} {dI : Nat → Nat → Nat} {A : Nat → Prop} {h0 : Nat} {h1 : Nat} {cI : ClassId} {v0 : Int32} {v1 : Int64} {v2 : Int64} {v3 : Int64} {v4 : Int64} {v5 : Int64} {v6 : Int64} {v7 : Int64} {v8 : Int64} {v9 : Int64} {v10 : Int64} {v11 : Int64} {v12 : Int64} {v13 : Int32} {a1 : Int32} (hx : p.tables.exec = Jvm.exec) (hb : c.code = cX3_sized) (hrt : meth.sig.returnType = (some .int)) (hml : c.maxLocals = 3) (hown : s.vm.findClass RX3 = some m.cls) (hlocks : meth.locks = false) (hts : ∀ w ∈ wsX3_sized, w.before args s = true) (hA : ∀ q : Nat, s.heap.size ≤ q → A q) (hK : va_K (dC, dI) vwCl [(cI, .int)] s)  (n : Nat) (out : Int32 × (Nat → Int32)) :
    ∀ (k : Nat) (u2 : Int32) (w1 : Nat → Int32), f_X3_sized_50 n k u2 w1 = some out → ∀ (H : Heap) (locs : List Loc) (ls : Array Slot), va_P (dC, dI) vwCl [(h0, .inr (3, [.int v0, .long v1, .long v2, .long v3, .long v4, .long v5, .long v6, .long v7, .long v8, .long v9, .long v10, .long v11, .long v12, .int v13, .ref h1])), (h1, .inl (cI, 6600, .inl w1))] H → va_D A [(h0, .inr (3, [.int v0, .long v1, .long v2, .long v3, .long v4, .long v5, .long v6, .long v7, .long v8, .long v9, .long v10, .long v11, .long v12, .int v13, .ref h1])), (h1, .inl (cI, 6600, .inl w1))] → va_S A s.heap H locs → lv_has ls 3 [(0, .ref h0), (1, .int a1), (2, .int u2)] → W p l e ({ frames := 2, cells := 0, slots := 0, locals := 48 }) s m args below meth c H locs 0 0 (MQ below (va_Qi (fun r (_ : Unit) => r = out.1) (fun (_ : Unit) t => zB dC dI [(cI, .int)] A [(h0, .inr (3, [.int v0, .long v1, .long v2, .long v3, .long v4, .long v5, .long v6, .long v7, .long v8, .long v9, .long v10, .long v11, .long v12, .int v13, .ref h1])), (h1, .inl (cI, 6600, .inl out.2))] t) A) args s 0 0 A) (F0 m 50 ls []) := by
  intro k
  induction k with
  | zero => intro u2 w1 hr; rw [f_X3_sized_50] at hr; cases hr
  | succ k ih =>
    intro u2 w1 hr H locs ls hP hD hS hl
    rw [f_X3_sized_50] at hr
    refine lv_iload_n hx hb dX3_sized_50 rfl (lv_at hl 2 rfl) ?_
    refine lz_zle (tgt := 71) hx hb dX3_sized_51 (by decide) (fun c_1 => ?_) (fun c_1 => ?_)
    · have hr := (if_neg c_1).symm.trans hr
      refine lv_iload_n hx hb dX3_sized_71 rfl (lv_at hl 2 rfl) ?_
      have ho := Option.some.inj hr
      subst ho
      exact W.iret (v := u2) hx hb hrt (fun t ht hW => ⟨⟨u2, (), rfl, rfl, by rw [ht]; exact hP, va_K.moved hW.alike hK, hD⟩, hS.F ht⟩) hS.2.2 dX3_sized_72
    · have hr := (if_pos c_1).symm.trans hr
      refine lv_aload_n hx hb dX3_sized_54 rfl (lv_at hl 0 rfl) ?_
      refine lv_iconst (v := 4) hx hb dX3_sized_55 (by decide) ?_
      refine lv_iload_n hx hb dX3_sized_56 rfl (lv_at hl 2 rfl) ?_
      refine lv_iconst (v := 1) hx hb dX3_sized_57 (by decide) ?_
      refine lv_isub hx hb dX3_sized_58 ?_
      cases e_2 : f_X3_get n w1 4 (u2 - 1) with
      | none => rw [e_2, Option.bind_none] at hr; cases hr
      | some r_3 =>
        rw [e_2, Option.bind_some] at hr
        have hPc := hP.sub (ws' := [(h0, .inr (3, [.int v0, .long v1, .long v2, .long v3, .long v4, .long v5, .long v6, .long v7, .long v8, .long v9, .long v10, .long v11, .long v12, .int v13, .ref h1])), (h1, .inl (cI, 6600, .inl w1))]) [0, 1] rfl
        have hDc := hD.sub (ws' := [(h0, .inr (3, [.int v0, .long v1, .long v2, .long v3, .long v4, .long v5, .long v6, .long v7, .long v8, .long v9, .long v10, .long v11, .long v12, .int v13, .ref h1])), (h1, .inl (cI, 6600, .inl w1))]) [0, 1] (by decide) rfl
        have hKc := hK.sub (tys' := [(cI, .int)]) [0] rfl
        have hFc := va_free (wc := [(h0, .inr (3, [.int v0, .long v1, .long v2, .long v3, .long v4, .long v5, .long v6, .long v7, .long v8, .long v9, .long v10, .long v11, .long v12, .int v13, .ref h1])), (h1, .inl (cI, 6600, .inl w1))]) hD hS hA [0, 1] rfl
        refine va_calli (va_runV (As := [.int 4, .int (u2 - 1)]) (rest := []) ⟨hx, hb, hml, hown, hts⟩ (c_X3_get l dC dI H.size h0 h1 cI v0 v1 v2 v3 v4 v5 v6 v7 v8 v9 v10 v11 v12 v13 w1 4 (u2 - 1) n _ e_2) (cwV 2 hts gX3_sized_X3_get rfl rfl rfl (by decide +kernel) ⟨Nat.le_of_ble_eq_true rfl, Nat.le_of_ble_eq_true rfl⟩) ⟨fun a U g mk q => by obtain ⟨q0, q1, qP, qK, qD⟩ := q; exact ⟨q0, q1, qP, va_K.moved (u := U) (U := U.calling g mk a) (Vm.Alike.refl U.vm) qK, qD⟩, va_recv hKc hPc (ci := 3) (q0 := 0) rfl rfl, fun U hU hW => ⟨rfl, by rw [hU], by rw [hU]; exact hPc, va_K.moved hW.alike hKc, hDc.weaken (fun _ _ _ _ => trivial)⟩⟩ rfl rfl hl.1 rfl (lv_room (Nat.le_of_ble_eq_true rfl)) dX3_sized_59 ⟨Nat.zero_le _, Nat.zero_le _⟩) hS (fun q _ h => hFc q h) hFc (fun x_4 _ t H1 locs ht hvm hw hB hz1 hk1 hS => ?_)
        have hw := hw.symm
        subst hw
        obtain ⟨hP1, hK1, hD1⟩ := hB
        rw [ht] at hP1
        obtain ⟨hP, hD⟩ := va_join (wr := []) (w1 := [(h0, .inr (3, [.int v0, .long v1, .long v2, .long v3, .long v4, .long v5, .long v6, .long v7, .long v8, .long v9, .long v10, .long v11, .long v12, .int v13, .ref h1])), (h1, .inl (cI, 6600, .inl w1))]) hP hD [0, 1] [] rfl rfl (by decide) (by decide) hk1 hFc hP1 hD1
        generalize H1 = H at hP hS ⊢
        have hP : va_P (dC, dI) vwCl [(h0, .inr (3, [.int v0, .long v1, .long v2, .long v3, .long v4, .long v5, .long v6, .long v7, .long v8, .long v9, .long v10, .long v11, .long v12, .int v13, .ref h1])), (h1, .inl (cI, 6600, .inl w1))] H := hP
        have hD : va_D A [(h0, .inr (3, [.int v0, .long v1, .long v2, .long v3, .long v4, .long v5, .long v6, .long v7, .long v8, .long v9, .long v10, .long v11, .long v12, .int v13, .ref h1])), (h1, .inl (cI, 6600, .inl w1))] := hD
        refine W.widen (k := 0) (n := 0) (Nat.le_refl _) (Nat.le_refl _) ?_
        refine lz_zne (tgt := 71) hx hb dX3_sized_62 (by decide) (fun c_5 => ?_) (fun c_5 => ?_)
        · have hr := (if_neg c_5).symm.trans hr
          refine lv_iload_n hx hb dX3_sized_71 rfl (lv_at hl 2 rfl) ?_
          have ho := Option.some.inj hr
          subst ho
          exact W.iret (v := u2) hx hb hrt (fun t ht hW => ⟨⟨u2, (), rfl, rfl, by rw [ht]; exact hP, va_K.moved hW.alike hK, hD⟩, hS.F ht⟩) hS.2.2 dX3_sized_72
        · have hr := (if_pos c_5).symm.trans hr
          refine lv_iinc (v := u2 + (-1)) (lv' := [(2, .int (u2 + (-1))), (0, .ref h0), (1, .int a1)]) hx hb dX3_sized_65 hl (k := 2) rfl rfl (by decide) rfl (fun ls hl => ?_)
          refine lv_goto (tgt := 50) hx hb dX3_sized_68 (by decide) ?_
          exact ih (u2 + (-1)) w1 hr _ _ _ hP hD hS (lv_sub hl [1, 2, 0] rfl)
def f_X3_sized_19 (n : Nat) : Nat → (v13 : Int32) → (a1 : Int32) → Int32 → (Nat → Int32) → Option (Int32 × (Nat → Int32))
  | 0, _, _, _, _ => none
  | k + 1, v13, a1, u2, w1 => if u2 < v13 then ((f_X3_get n w1 a1 u2).bind (fun r_3 => (f_X3_put n w1 4 u2 r_3).bind (fun r_6 => f_X3_sized_19 n k v13 a1 (u2 + 1) r_6))) else (f_X3_sized_50 n n v13 w1)
set_option maxHeartbeats 4000000 in
set_option maxRecDepth 100000 in
theorem k_X3_sized_19 {p : Program} {l : Launch} {e : Env} {s : State} {m : MethodId} {args : Array Value} {below : List Frame} {meth : Method} {c : Code} {dC : Nat → ClassId} {dI : Nat → Nat → Nat} {A : Nat → Prop} {h0 : Nat} {h1 : Nat} {cI : ClassId} {v0 : Int32} {v1 : Int64} {v2 : Int64} {v3 : Int64} {v4 : Int64} {v5 : Int64} {v6 : Int64} {v7 : Int64} {v8 : Int64} {v9 : Int64} {v10 : Int64} {v11 : Int64} {v12 : Int64} {v13 : Int32} {a1 : Int32} (hx : p.tables.exec = Jvm.exec) (hb : c.code = cX3_sized) (hrt : meth.sig.returnType = (some .int)) (hml : c.maxLocals = 3) (hown : s.vm.findClass RX3 = some m.cls) (hlocks : meth.locks = false) (hts : ∀ w ∈ wsX3_sized, w.before args s = true) (hA : ∀ q : Nat, s.heap.size ≤ q → A q) (hK : va_K (dC, dI) vwCl [(cI, .int)] s)  (n : Nat) (out : Int32 × (Nat → Int32)) :
    ∀ (k : Nat) (u2 : Int32) (w1 : Nat → Int32), f_X3_sized_19 n k v13 a1 u2 w1 = some out → ∀ (H : Heap) (locs : List Loc) (ls : Array Slot), va_P (dC, dI) vwCl [(h0, .inr (3, [.int v0, .long v1, .long v2, .long v3, .long v4, .long v5, .long v6, .long v7, .long v8, .long v9, .long v10, .long v11, .long v12, .int v13, .ref h1])), (h1, .inl (cI, 6600, .inl w1))] H → va_D A [(h0, .inr (3, [.int v0, .long v1, .long v2, .long v3, .long v4, .long v5, .long v6, .long v7, .long v8, .long v9, .long v10, .long v11, .long v12, .int v13, .ref h1])), (h1, .inl (cI, 6600, .inl w1))] → va_S A s.heap H locs → lv_has ls 3 [(0, .ref h0), (1, .int a1), (2, .int u2)] → W p l e ({ frames := 2, cells := 0, slots := 0, locals := 48 }) s m args below meth c H locs 0 0 (MQ below (va_Qi (fun r (_ : Unit) => r = out.1) (fun (_ : Unit) t => zB dC dI [(cI, .int)] A [(h0, .inr (3, [.int v0, .long v1, .long v2, .long v3, .long v4, .long v5, .long v6, .long v7, .long v8, .long v9, .long v10, .long v11, .long v12, .int v13, .ref h1])), (h1, .inl (cI, 6600, .inl out.2))] t) A) args s 0 0 A) (F0 m 19 ls []) := by
  intro k
  induction k with
  | zero => intro u2 w1 hr; rw [f_X3_sized_19] at hr; cases hr
  | succ k ih =>
    intro u2 w1 hr H locs ls hP hD hS hl
    rw [f_X3_sized_19] at hr
    refine lv_iload_n hx hb dX3_sized_19 rfl (lv_at hl 2 rfl) ?_
    refine lv_aload_n hx hb dX3_sized_20 rfl (lv_at hl 0 rfl) ?_
    refine va_get (D := (dC, dI)) (ci := 3) (v := .int v13) (C := RX3) (T := TX3) (N := 15) hx hb hts in_X3_sized_X3 hown hK hP 0 rfl rfl 13 (by decide) (hts (.fieldLink RX3 32 "FormRingModel" "digits" "I") (by decide +kernel)) (fun _ h9 => h9) rfl dX3_sized_21 ?_
    refine lz_ige (tgt := 45) hx hb dX3_sized_24 (by decide) (fun c_1 => ?_) (fun c_1 => ?_)
    · have hr := (if_neg c_1).symm.trans hr
      refine lv_aload_n hx hb dX3_sized_45 rfl (lv_at hl 0 rfl) ?_
      refine va_get (D := (dC, dI)) (ci := 3) (v := .int v13) (C := RX3) (T := TX3) (N := 15) hx hb hts in_X3_sized_X3 hown hK hP 0 rfl rfl 13 (by decide) (hts (.fieldLink RX3 32 "FormRingModel" "digits" "I") (by decide +kernel)) (fun _ h9 => h9) rfl dX3_sized_46 ?_
      refine lv_istore_n (lv' := [(2, .int v13), (0, .ref h0), (1, .int a1)]) hx hb dX3_sized_49 rfl hl (by decide) rfl (fun ls hl => ?_)
      exact k_X3_sized_50 hx hb hrt hml hown hlocks hts hA hK n out n v13 w1 hr _ _ _ hP hD hS (lv_sub hl [1, 2, 0] rfl)
    · have hr := (if_pos c_1).symm.trans hr
      refine lv_aload_n hx hb dX3_sized_27 rfl (lv_at hl 0 rfl) ?_
      refine lv_iconst (v := 4) hx hb dX3_sized_28 (by decide) ?_
      refine lv_iload_n hx hb dX3_sized_29 rfl (lv_at hl 2 rfl) ?_
      refine lv_aload_n hx hb dX3_sized_30 rfl (lv_at hl 0 rfl) ?_
      refine lv_iload_n hx hb dX3_sized_31 rfl (lv_at hl 1 rfl) ?_
      refine lv_iload_n hx hb dX3_sized_32 rfl (lv_at hl 2 rfl) ?_
      cases e_2 : f_X3_get n w1 a1 u2 with
      | none => rw [e_2, Option.bind_none] at hr; cases hr
      | some r_3 =>
        rw [e_2, Option.bind_some] at hr
        have hPc := hP.sub (ws' := [(h0, .inr (3, [.int v0, .long v1, .long v2, .long v3, .long v4, .long v5, .long v6, .long v7, .long v8, .long v9, .long v10, .long v11, .long v12, .int v13, .ref h1])), (h1, .inl (cI, 6600, .inl w1))]) [0, 1] rfl
        have hDc := hD.sub (ws' := [(h0, .inr (3, [.int v0, .long v1, .long v2, .long v3, .long v4, .long v5, .long v6, .long v7, .long v8, .long v9, .long v10, .long v11, .long v12, .int v13, .ref h1])), (h1, .inl (cI, 6600, .inl w1))]) [0, 1] (by decide) rfl
        have hKc := hK.sub (tys' := [(cI, .int)]) [0] rfl
        have hFc := va_free (wc := [(h0, .inr (3, [.int v0, .long v1, .long v2, .long v3, .long v4, .long v5, .long v6, .long v7, .long v8, .long v9, .long v10, .long v11, .long v12, .int v13, .ref h1])), (h1, .inl (cI, 6600, .inl w1))]) hD hS hA [0, 1] rfl
        refine va_calli (va_runV (As := [.int a1, .int u2]) (rest := [.int u2, .int 4, .ref h0]) ⟨hx, hb, hml, hown, hts⟩ (c_X3_get l dC dI H.size h0 h1 cI v0 v1 v2 v3 v4 v5 v6 v7 v8 v9 v10 v11 v12 v13 w1 a1 u2 n _ e_2) (cwV 2 hts gX3_sized_X3_get rfl rfl rfl (by decide +kernel) ⟨Nat.le_of_ble_eq_true rfl, Nat.le_of_ble_eq_true rfl⟩) ⟨fun a U g mk q => by obtain ⟨q0, q1, qP, qK, qD⟩ := q; exact ⟨q0, q1, qP, va_K.moved (u := U) (U := U.calling g mk a) (Vm.Alike.refl U.vm) qK, qD⟩, va_recv hKc hPc (ci := 3) (q0 := 0) rfl rfl, fun U hU hW => ⟨rfl, by rw [hU], by rw [hU]; exact hPc, va_K.moved hW.alike hKc, hDc.weaken (fun _ _ _ _ => trivial)⟩⟩ rfl rfl hl.1 rfl (lv_room (Nat.le_of_ble_eq_true rfl)) dX3_sized_33 ⟨Nat.zero_le _, Nat.zero_le _⟩) hS (fun q _ h => hFc q h) hFc (fun x_4 _ t H1 locs ht hvm hw hB hz1 hk1 hS => ?_)
        have hw := hw.symm
        subst hw
        obtain ⟨hP1, hK1, hD1⟩ := hB
        rw [ht] at hP1
        obtain ⟨hP, hD⟩ := va_join (wr := []) (w1 := [(h0, .inr (3, [.int v0, .long v1, .long v2, .long v3, .long v4, .long v5, .long v6, .long v7, .long v8, .long v9, .long v10, .long v11, .long v12, .int v13, .ref h1])), (h1, .inl (cI, 6600, .inl w1))]) hP hD [0, 1] [] rfl rfl (by decide) (by decide) hk1 hFc hP1 hD1
        generalize H1 = H at hP hS ⊢
        have hP : va_P (dC, dI) vwCl [(h0, .inr (3, [.int v0, .long v1, .long v2, .long v3, .long v4, .long v5, .long v6, .long v7, .long v8, .long v9, .long v10, .long v11, .long v12, .int v13, .ref h1])), (h1, .inl (cI, 6600, .inl w1))] H := hP
        have hD : va_D A [(h0, .inr (3, [.int v0, .long v1, .long v2, .long v3, .long v4, .long v5, .long v6, .long v7, .long v8, .long v9, .long v10, .long v11, .long v12, .int v13, .ref h1])), (h1, .inl (cI, 6600, .inl w1))] := hD
        refine W.widen (k := 0) (n := 0) (Nat.le_refl _) (Nat.le_refl _) ?_
        cases e_5 : f_X3_put n w1 4 u2 r_3 with
        | none => rw [e_5, Option.bind_none] at hr; cases hr
        | some r_6 =>
          rw [e_5, Option.bind_some] at hr
          have hPc := hP.sub (ws' := [(h0, .inr (3, [.int v0, .long v1, .long v2, .long v3, .long v4, .long v5, .long v6, .long v7, .long v8, .long v9, .long v10, .long v11, .long v12, .int v13, .ref h1])), (h1, .inl (cI, 6600, .inl w1))]) [0, 1] rfl
          have hDc := hD.sub (ws' := [(h0, .inr (3, [.int v0, .long v1, .long v2, .long v3, .long v4, .long v5, .long v6, .long v7, .long v8, .long v9, .long v10, .long v11, .long v12, .int v13, .ref h1])), (h1, .inl (cI, 6600, .inl w1))]) [0, 1] (by decide) rfl
          have hKc := hK.sub (tys' := [(cI, .int)]) [0] rfl
          have hFc := va_free (wc := [(h0, .inr (3, [.int v0, .long v1, .long v2, .long v3, .long v4, .long v5, .long v6, .long v7, .long v8, .long v9, .long v10, .long v11, .long v12, .int v13, .ref h1])), (h1, .inl (cI, 6600, .inl w1))]) hD hS hA [0, 1] rfl
          refine va_callv (va_runV (As := [.int 4, .int u2, .int r_3]) (rest := []) ⟨hx, hb, hml, hown, hts⟩ (c_X3_put l dC dI H.size h0 h1 cI v0 v1 v2 v3 v4 v5 v6 v7 v8 v9 v10 v11 v12 v13 w1 4 u2 r_3 n _ e_5) (cwV 3 hts gX3_sized_X3_put rfl rfl rfl (by decide +kernel) ⟨Nat.le_of_ble_eq_true rfl, Nat.le_of_ble_eq_true rfl⟩) ⟨fun a U g mk q => by obtain ⟨q0, q1, qP, qK, qD⟩ := q; exact ⟨q0, q1, qP, va_K.moved (u := U) (U := U.calling g mk a) (Vm.Alike.refl U.vm) qK, qD⟩, va_recv hKc hPc (ci := 3) (q0 := 0) rfl rfl, fun U hU hW => ⟨rfl, by rw [hU], by rw [hU]; exact hPc, va_K.moved hW.alike hKc, hDc.weaken (fun _ _ _ _ => trivial)⟩⟩ rfl rfl hl.1 rfl (lv_room (Nat.le_of_ble_eq_true rfl)) dX3_sized_36 ⟨Nat.zero_le _, Nat.zero_le _⟩) hS (fun q _ h => hFc q h) hFc (fun _ t H1 locs ht hvm hw hB hz1 hk1 hS => ?_)
          obtain ⟨hP1, hK1, hD1⟩ := hB
          rw [ht] at hP1
          obtain ⟨hP, hD⟩ := va_join (wr := []) (w1 := [(h0, .inr (3, [.int v0, .long v1, .long v2, .long v3, .long v4, .long v5, .long v6, .long v7, .long v8, .long v9, .long v10, .long v11, .long v12, .int v13, .ref h1])), (h1, .inl (cI, 6600, .inl r_6))]) hP hD [0, 1] [] rfl rfl (by decide) (by decide) hk1 hFc hP1 hD1
          generalize H1 = H at hP hS ⊢
          have hP : va_P (dC, dI) vwCl [(h0, .inr (3, [.int v0, .long v1, .long v2, .long v3, .long v4, .long v5, .long v6, .long v7, .long v8, .long v9, .long v10, .long v11, .long v12, .int v13, .ref h1])), (h1, .inl (cI, 6600, .inl r_6))] H := hP
          have hD : va_D A [(h0, .inr (3, [.int v0, .long v1, .long v2, .long v3, .long v4, .long v5, .long v6, .long v7, .long v8, .long v9, .long v10, .long v11, .long v12, .int v13, .ref h1])), (h1, .inl (cI, 6600, .inl r_6))] := hD
          refine W.widen (k := 0) (n := 0) (Nat.le_refl _) (Nat.le_refl _) ?_
          refine lv_iinc (v := u2 + 1) (lv' := [(2, .int (u2 + 1)), (0, .ref h0), (1, .int a1)]) hx hb dX3_sized_39 hl (k := 2) rfl rfl (by decide) rfl (fun ls hl => ?_)
          refine lv_goto (tgt := 19) hx hb dX3_sized_42 (by decide) ?_
          exact ih (u2 + 1) r_6 hr _ _ _ hP hD hS (lv_sub hl [1, 2, 0] rfl)
def f_X3_sized (n : Nat) (v13 : Int32) (vR : Nat → Int32) (a1 : Int32) : Option (Int32 × (Nat → Int32)) := (f_X3_isBelow n v13 vR a1).bind (fun r_2 => if r_2 = 0 then (f_X3_sized_19 n n v13 a1 0 vR) else ((f_X3_negative n v13 vR 4 a1).bind (fun r_7 => f_X3_sized_50 n n v13 r_7)))
set_option maxHeartbeats 4000000 in
set_option maxRecDepth 100000 in
theorem c_X3_sized (l : Launch) (dC : Nat → ClassId) (dI : Nat → Nat → Nat) (sz : Nat) (h0 : Nat) (h1 : Nat) (cI : ClassId) (v0 : Int32) (v1 : Int64) (v2 : Int64) (v3 : Int64) (v4 : Int64) (v5 : Int64) (v6 : Int64) (v7 : Int64) (v8 : Int64) (v9 : Int64) (v10 : Int64) (v11 : Int64) (v12 : Int64) (v13 : Int32) (vR : Nat → Int32) (a1 : Int32)  (n : Nat) (out : Int32 × (Nat → Int32)) (hr : f_X3_sized n v13 vR a1 = some out) : Met l yX3_sized wsX3_sized ({ frames := 2, cells := 0, slots := 0, locals := 48 }) (va_Pc [.ref h0, .int a1] (zP dC dI [(cI, .int)] [(h0, .inr (3, [.int v0, .long v1, .long v2, .long v3, .long v4, .long v5, .long v6, .long v7, .long v8, .long v9, .long v10, .long v11, .long v12, .int v13, .ref h1])), (h1, .inl (cI, 6600, .inl vR))] sz)) (va_Qi (fun r (_ : Unit) => r = out.1) (fun (_ : Unit) t => zB dC dI [(cI, .int)] (va_A [(h0, .inr (3, [.int v0, .long v1, .long v2, .long v3, .long v4, .long v5, .long v6, .long v7, .long v8, .long v9, .long v10, .long v11, .long v12, .int v13, .ref h1])), (h1, .inl (cI, 6600, .inl vR))] sz) [(h0, .inr (3, [.int v0, .long v1, .long v2, .long v3, .long v4, .long v5, .long v6, .long v7, .long v8, .long v9, .long v10, .long v11, .long v12, .int v13, .ref h1])), (h1, .inl (cI, 6600, .inl out.2))] t) (va_A [(h0, .inr (3, [.int v0, .long v1, .long v2, .long v3, .long v4, .long v5, .long v6, .long v7, .long v8, .long v9, .long v10, .long v11, .long v12, .int v13, .ref h1])), (h1, .inl (cI, 6600, .inl vR))] sz)) 0 0 (va_A [(h0, .inr (3, [.int v0, .long v1, .long v2, .long v3, .long v4, .long v5, .long v6, .long v7, .long v8, .long v9, .long v10, .long v11, .long v12, .int v13, .ref h1])), (h1, .inl (cI, 6600, .inl vR))] sz) := by
  refine Met.ofW (cc := cX3_sized) (maxL := 3) (ret := (some .int)) (by decide) rfl ?_
  intro p e s m args below meth c s₁ B hml hv
  obtain ⟨rfl, hsz, hP, hK, hD0⟩ := hv
  have hx := B.exec
  have hb := B.bytes
  have hrt := B.returns
  have hts := atoms_spec (ws := wsX3_sized) B.pre
  have hown : s.vm.findClass RX3 = some m.cls := findClass_of_methodNamed B.named
  have hlocks := B.notSynchronized
  subst hsz
  have hD := hD0.self (sz := s.heap.size)
  generalize hAe : va_A [(h0, .inr (3, [.int v0, .long v1, .long v2, .long v3, .long v4, .long v5, .long v6, .long v7, .long v8, .long v9, .long v10, .long v11, .long v12, .int v13, .ref h1])), (h1, .inl (cI, 6600, .inl vR))] s.heap.size = A at hD ⊢
  have hA : ∀ q : Nat, s.heap.size ≤ q → A q := fun q h => by rw [← hAe]; exact Or.inr h
  have hS : va_S A s.heap s.heap [] := va_S.rf
  have hP : va_P (dC, dI) vwCl [(h0, .inr (3, [.int v0, .long v1, .long v2, .long v3, .long v4, .long v5, .long v6, .long v7, .long v8, .long v9, .long v10, .long v11, .long v12, .int v13, .ref h1])), (h1, .inl (cI, 6600, .inl vR))] s.heap := hP
  have hl := lv_entry ([.ref h0, .int a1]) (n := 3) (Nat.le_of_ble_eq_true rfl)
  rw [lg_entry_eq]
  generalize (lg_sl ([.ref h0, .int a1]) ++ List.replicate (3 - (lg_sl ([.ref h0, .int a1])).length) Slot.unset).toArray = ls at hl ⊢
  have hl : lv_has ls 3 [(0, .ref h0), (1, .int a1)] := hl
  unfold f_X3_sized at hr
  refine lv_aload_n hx hb dX3_sized_0 rfl (lv_at hl 0 rfl) ?_
  refine lv_iload_n hx hb dX3_sized_1 rfl (lv_at hl 1 rfl) ?_
  cases e_1 : f_X3_isBelow n v13 vR a1 with
  | none => rw [e_1, Option.bind_none] at hr; cases hr
  | some r_2 =>
    rw [e_1, Option.bind_some] at hr
    have hPc := hP.sub (ws' := [(h0, .inr (3, [.int v0, .long v1, .long v2, .long v3, .long v4, .long v5, .long v6, .long v7, .long v8, .long v9, .long v10, .long v11, .long v12, .int v13, .ref h1])), (h1, .inl (cI, 6600, .inl vR))]) [0, 1] rfl
    have hDc := hD.sub (ws' := [(h0, .inr (3, [.int v0, .long v1, .long v2, .long v3, .long v4, .long v5, .long v6, .long v7, .long v8, .long v9, .long v10, .long v11, .long v12, .int v13, .ref h1])), (h1, .inl (cI, 6600, .inl vR))]) [0, 1] (by decide) rfl
    have hKc := hK.sub (tys' := [(cI, .int)]) [0] rfl
    have hFc := va_free (wc := [(h0, .inr (3, [.int v0, .long v1, .long v2, .long v3, .long v4, .long v5, .long v6, .long v7, .long v8, .long v9, .long v10, .long v11, .long v12, .int v13, .ref h1])), (h1, .inl (cI, 6600, .inl vR))]) hD hS hA [0, 1] rfl
    refine va_calli (va_runV (As := [.int a1]) (rest := []) ⟨hx, hb, hml, hown, hts⟩ (c_X3_isBelow l dC dI s.heap.size h0 h1 cI v0 v1 v2 v3 v4 v5 v6 v7 v8 v9 v10 v11 v12 v13 vR a1 n _ e_1) (cwV 1 hts gX3_sized_X3_isBelow rfl rfl rfl (by decide +kernel) ⟨Nat.le_of_ble_eq_true rfl, Nat.le_of_ble_eq_true rfl⟩) ⟨fun a U g mk q => by obtain ⟨q0, q1, qP, qK, qD⟩ := q; exact ⟨q0, q1, qP, va_K.moved (u := U) (U := U.calling g mk a) (Vm.Alike.refl U.vm) qK, qD⟩, va_recv hKc hPc (ci := 3) (q0 := 0) rfl rfl, fun U hU hW => ⟨rfl, by rw [hU], by rw [hU]; exact hPc, va_K.moved hW.alike hKc, hDc.weaken (fun _ _ _ _ => trivial)⟩⟩ rfl rfl hl.1 rfl (lv_room (Nat.le_of_ble_eq_true rfl)) dX3_sized_2 ⟨Nat.zero_le _, Nat.zero_le _⟩) hS (fun q _ h => hFc q h) hFc (fun x_3 _ t H1 locs ht hvm hw hB hz1 hk1 hS => ?_)
    obtain ⟨hw, z_4⟩ := hw
    have hw := hw.symm
    subst hw
    obtain ⟨hP1, hK1, hD1⟩ := hB
    rw [ht] at hP1
    obtain ⟨hP, hD⟩ := va_join (wr := []) (w1 := [(h0, .inr (3, [.int v0, .long v1, .long v2, .long v3, .long v4, .long v5, .long v6, .long v7, .long v8, .long v9, .long v10, .long v11, .long v12, .int v13, .ref h1])), (h1, .inl (cI, 6600, .inl vR))]) hP hD [0, 1] [] rfl rfl (by decide) (by decide) hk1 hFc hP1 hD1
    generalize H1 = H at hP hS ⊢
    have hP : va_P (dC, dI) vwCl [(h0, .inr (3, [.int v0, .long v1, .long v2, .long v3, .long v4, .long v5, .long v6, .long v7, .long v8, .long v9, .long v10, .long v11, .long v12, .int v13, .ref h1])), (h1, .inl (cI, 6600, .inl vR))] H := hP
    have hD : va_D A [(h0, .inr (3, [.int v0, .long v1, .long v2, .long v3, .long v4, .long v5, .long v6, .long v7, .long v8, .long v9, .long v10, .long v11, .long v12, .int v13, .ref h1])), (h1, .inl (cI, 6600, .inl vR))] := hD
    refine W.widen (k := 0) (n := 0) (Nat.le_refl _) (Nat.le_refl _) ?_
    refine lz_zeq (tgt := 17) hx hb dX3_sized_5 (by decide) (fun c_5 => ?_) (fun c_5 => ?_)
    · have hr := (if_pos c_5).symm.trans hr
      refine lv_iconst (v := 0) hx hb dX3_sized_17 (by decide) ?_
      refine lv_istore_n (lv' := [(2, .int 0), (0, .ref h0), (1, .int a1)]) hx hb dX3_sized_18 rfl hl (by decide) rfl (fun ls hl => ?_)
      exact k_X3_sized_19 hx hb hrt hml hown hlocks hts hA hK n out n 0 vR hr _ _ _ hP hD hS (lv_sub hl [1, 2, 0] rfl)
    · have hr := (if_neg c_5).symm.trans hr
      refine lv_aload_n hx hb dX3_sized_8 rfl (lv_at hl 0 rfl) ?_
      refine lv_iconst (v := 4) hx hb dX3_sized_9 (by decide) ?_
      refine lv_iload_n hx hb dX3_sized_10 rfl (lv_at hl 1 rfl) ?_
      cases e_6 : f_X3_negative n v13 vR 4 a1 with
      | none => rw [e_6, Option.bind_none] at hr; cases hr
      | some r_7 =>
        rw [e_6, Option.bind_some] at hr
        have hPc := hP.sub (ws' := [(h0, .inr (3, [.int v0, .long v1, .long v2, .long v3, .long v4, .long v5, .long v6, .long v7, .long v8, .long v9, .long v10, .long v11, .long v12, .int v13, .ref h1])), (h1, .inl (cI, 6600, .inl vR))]) [0, 1] rfl
        have hDc := hD.sub (ws' := [(h0, .inr (3, [.int v0, .long v1, .long v2, .long v3, .long v4, .long v5, .long v6, .long v7, .long v8, .long v9, .long v10, .long v11, .long v12, .int v13, .ref h1])), (h1, .inl (cI, 6600, .inl vR))]) [0, 1] (by decide) rfl
        have hKc := hK.sub (tys' := [(cI, .int)]) [0] rfl
        have hFc := va_free (wc := [(h0, .inr (3, [.int v0, .long v1, .long v2, .long v3, .long v4, .long v5, .long v6, .long v7, .long v8, .long v9, .long v10, .long v11, .long v12, .int v13, .ref h1])), (h1, .inl (cI, 6600, .inl vR))]) hD hS hA [0, 1] rfl
        refine va_callv (va_runV (As := [.int 4, .int a1]) (rest := []) ⟨hx, hb, hml, hown, hts⟩ (c_X3_negative l dC dI H.size h0 h1 cI v0 v1 v2 v3 v4 v5 v6 v7 v8 v9 v10 v11 v12 v13 vR 4 a1 n _ e_6) (cwV 2 hts gX3_sized_X3_negative rfl rfl rfl (by decide +kernel) ⟨Nat.le_of_ble_eq_true rfl, Nat.le_of_ble_eq_true rfl⟩) ⟨fun a U g mk q => by obtain ⟨q0, q1, qP, qK, qD⟩ := q; exact ⟨q0, q1, qP, va_K.moved (u := U) (U := U.calling g mk a) (Vm.Alike.refl U.vm) qK, qD⟩, va_recv hKc hPc (ci := 3) (q0 := 0) rfl rfl, fun U hU hW => ⟨rfl, by rw [hU], by rw [hU]; exact hPc, va_K.moved hW.alike hKc, hDc.weaken (fun _ _ _ _ => trivial)⟩⟩ rfl rfl hl.1 rfl (lv_room (Nat.le_of_ble_eq_true rfl)) dX3_sized_11 ⟨Nat.zero_le _, Nat.zero_le _⟩) hS (fun q _ h => hFc q h) hFc (fun _ t H1 locs ht hvm hw hB hz1 hk1 hS => ?_)
        obtain ⟨hP1, hK1, hD1⟩ := hB
        rw [ht] at hP1
        obtain ⟨hP, hD⟩ := va_join (wr := []) (w1 := [(h0, .inr (3, [.int v0, .long v1, .long v2, .long v3, .long v4, .long v5, .long v6, .long v7, .long v8, .long v9, .long v10, .long v11, .long v12, .int v13, .ref h1])), (h1, .inl (cI, 6600, .inl r_7))]) hP hD [0, 1] [] rfl rfl (by decide) (by decide) hk1 hFc hP1 hD1
        generalize H1 = H at hP hS ⊢
        have hP : va_P (dC, dI) vwCl [(h0, .inr (3, [.int v0, .long v1, .long v2, .long v3, .long v4, .long v5, .long v6, .long v7, .long v8, .long v9, .long v10, .long v11, .long v12, .int v13, .ref h1])), (h1, .inl (cI, 6600, .inl r_7))] H := hP
        have hD : va_D A [(h0, .inr (3, [.int v0, .long v1, .long v2, .long v3, .long v4, .long v5, .long v6, .long v7, .long v8, .long v9, .long v10, .long v11, .long v12, .int v13, .ref h1])), (h1, .inl (cI, 6600, .inl r_7))] := hD
        refine W.widen (k := 0) (n := 0) (Nat.le_refl _) (Nat.le_refl _) ?_
        refine lv_goto (tgt := 45) hx hb dX3_sized_14 (by decide) ?_
        refine lv_aload_n hx hb dX3_sized_45 rfl (lv_at hl 0 rfl) ?_
        refine va_get (D := (dC, dI)) (ci := 3) (v := .int v13) (C := RX3) (T := TX3) (N := 15) hx hb hts in_X3_sized_X3 hown hK hP 0 rfl rfl 13 (by decide) (hts (.fieldLink RX3 32 "FormRingModel" "digits" "I") (by decide +kernel)) (fun _ h9 => h9) rfl dX3_sized_46 ?_
        refine lv_istore_n (lv' := [(2, .int v13), (0, .ref h0), (1, .int a1)]) hx hb dX3_sized_49 rfl hl (by decide) rfl (fun ls hl => ?_)
        exact k_X3_sized_50 hx hb hrt hml hown hlocks hts hA hK n out n v13 r_7 hr _ _ _ hP hD hS (lv_sub hl [1, 2, 0] rfl)

def f_X3_sign (n : Nat) (v13 : Int32) (vR : Nat → Int32) (a1 : Int32) : Option (Int32 × (Nat → Int32) × Int32) := (f_X3_isNumber n a1).bind (fun r_2 => if r_2.1 = 0 then (some (0, vR, r_2.2)) else ((f_X3_isBelow n v13 vR a1).bind (fun r_7 => if r_7 = 0 then ((f_X3_sized n v13 vR a1).bind (fun r_12 => if 0 < r_12.1 then (some (1, r_12.2, r_2.2)) else (some (0, r_12.2, r_2.2)))) else (some ((-1), vR, r_2.2)))))
set_option maxHeartbeats 4000000 in
set_option maxRecDepth 100000 in
theorem c_X3_sign (l : Launch) (dC : Nat → ClassId) (dI : Nat → Nat → Nat) (sz : Nat) (h0 : Nat) (h1 : Nat) (cI : ClassId) (v0 : Int32) (v1 : Int64) (v2 : Int64) (v3 : Int64) (v4 : Int64) (v5 : Int64) (v6 : Int64) (v7 : Int64) (v8 : Int64) (v9 : Int64) (v10 : Int64) (v11 : Int64) (v12 : Int64) (v13 : Int32) (vR : Nat → Int32) (a1 : Int32)  (n : Nat) (out : Int32 × (Nat → Int32) × Int32) (hr : f_X3_sign n v13 vR a1 = some out) : Met l yX3_sign wsX3_sign ({ frames := 3, cells := 0, slots := 0, locals := 70 }) (va_Pc [.ref h0, .int a1] (zP dC dI [(cI, .int)] [(h0, .inr (3, [.int v0, .long v1, .long v2, .long v3, .long v4, .long v5, .long v6, .long v7, .long v8, .long v9, .long v10, .long v11, .long v12, .int v13, .ref h1])), (h1, .inl (cI, 6600, .inl vR))] sz)) (va_Qi (fun r (_ : Unit) => r = out.1) (fun (_ : Unit) t => zB dC dI [(cI, .int)] (va_A [(h0, .inr (3, [.int v0, .long v1, .long v2, .long v3, .long v4, .long v5, .long v6, .long v7, .long v8, .long v9, .long v10, .long v11, .long v12, .int v13, .ref h1])), (h1, .inl (cI, 6600, .inl vR))] sz) [(h0, .inr (3, [.int out.2.2, .long v1, .long v2, .long v3, .long v4, .long v5, .long v6, .long v7, .long v8, .long v9, .long v10, .long v11, .long v12, .int v13, .ref h1])), (h1, .inl (cI, 6600, .inl out.2.1))] t) (va_A [(h0, .inr (3, [.int v0, .long v1, .long v2, .long v3, .long v4, .long v5, .long v6, .long v7, .long v8, .long v9, .long v10, .long v11, .long v12, .int v13, .ref h1])), (h1, .inl (cI, 6600, .inl vR))] sz)) 0 0 (va_A [(h0, .inr (3, [.int v0, .long v1, .long v2, .long v3, .long v4, .long v5, .long v6, .long v7, .long v8, .long v9, .long v10, .long v11, .long v12, .int v13, .ref h1])), (h1, .inl (cI, 6600, .inl vR))] sz) := by
  refine Met.ofW (cc := cX3_sign) (maxL := 2) (ret := (some .int)) (by decide) rfl ?_
  intro p e s m args below meth c s₁ B hml hv
  obtain ⟨rfl, hsz, hP, hK, hD0⟩ := hv
  have hx := B.exec
  have hb := B.bytes
  have hrt := B.returns
  have hts := atoms_spec (ws := wsX3_sign) B.pre
  have hown : s.vm.findClass RX3 = some m.cls := findClass_of_methodNamed B.named
  have hlocks := B.notSynchronized
  subst hsz
  have hD := hD0.self (sz := s.heap.size)
  generalize hAe : va_A [(h0, .inr (3, [.int v0, .long v1, .long v2, .long v3, .long v4, .long v5, .long v6, .long v7, .long v8, .long v9, .long v10, .long v11, .long v12, .int v13, .ref h1])), (h1, .inl (cI, 6600, .inl vR))] s.heap.size = A at hD ⊢
  have hA : ∀ q : Nat, s.heap.size ≤ q → A q := fun q h => by rw [← hAe]; exact Or.inr h
  have hS : va_S A s.heap s.heap [] := va_S.rf
  have hP : va_P (dC, dI) vwCl [(h0, .inr (3, [.int v0, .long v1, .long v2, .long v3, .long v4, .long v5, .long v6, .long v7, .long v8, .long v9, .long v10, .long v11, .long v12, .int v13, .ref h1])), (h1, .inl (cI, 6600, .inl vR))] s.heap := hP
  have hl := lv_entry ([.ref h0, .int a1]) (n := 2) (Nat.le_of_ble_eq_true rfl)
  rw [lg_entry_eq]
  generalize (lg_sl ([.ref h0, .int a1]) ++ List.replicate (2 - (lg_sl ([.ref h0, .int a1])).length) Slot.unset).toArray = ls at hl ⊢
  have hl : lv_has ls 2 [(0, .ref h0), (1, .int a1)] := hl
  unfold f_X3_sign at hr
  refine lv_aload_n hx hb dX3_sign_0 rfl (lv_at hl 0 rfl) ?_
  refine lv_iload_n hx hb dX3_sign_1 rfl (lv_at hl 1 rfl) ?_
  cases e_1 : f_X3_isNumber n a1 with
  | none => rw [e_1, Option.bind_none] at hr; cases hr
  | some r_2 =>
    rw [e_1, Option.bind_some] at hr
    have hPc := hP.sub (ws' := [(h0, .inr (3, [.int v0, .long v1, .long v2, .long v3, .long v4, .long v5, .long v6, .long v7, .long v8, .long v9, .long v10, .long v11, .long v12, .int v13, .ref h1])), (h1, .inl (cI, 6600, .inl vR))]) [0, 1] rfl
    have hDc := hD.sub (ws' := [(h0, .inr (3, [.int v0, .long v1, .long v2, .long v3, .long v4, .long v5, .long v6, .long v7, .long v8, .long v9, .long v10, .long v11, .long v12, .int v13, .ref h1])), (h1, .inl (cI, 6600, .inl vR))]) [0, 1] (by decide) rfl
    have hKc := hK.sub (tys' := [(cI, .int)]) [0] rfl
    have hFc := va_free (wc := [(h0, .inr (3, [.int v0, .long v1, .long v2, .long v3, .long v4, .long v5, .long v6, .long v7, .long v8, .long v9, .long v10, .long v11, .long v12, .int v13, .ref h1])), (h1, .inl (cI, 6600, .inl vR))]) hD hS hA [0, 1] rfl
    refine va_calli (va_runV (As := [.int a1]) (rest := []) ⟨hx, hb, hml, hown, hts⟩ (c_X3_isNumber l dC dI s.heap.size h0 h1 cI v0 v1 v2 v3 v4 v5 v6 v7 v8 v9 v10 v11 v12 v13 vR a1 n _ e_1) (cwV 1 hts gX3_sign_X3_isNumber rfl rfl rfl (by decide +kernel) ⟨Nat.le_of_ble_eq_true rfl, Nat.le_of_ble_eq_true rfl⟩) ⟨fun a U g mk q => by obtain ⟨q0, q1, qP, qK, qD⟩ := q; exact ⟨q0, q1, qP, va_K.moved (u := U) (U := U.calling g mk a) (Vm.Alike.refl U.vm) qK, qD⟩, va_recv hKc hPc (ci := 3) (q0 := 0) rfl rfl, fun U hU hW => ⟨rfl, by rw [hU], by rw [hU]; exact hPc, va_K.moved hW.alike hKc, hDc.weaken (fun _ _ _ _ => trivial)⟩⟩ rfl rfl hl.1 rfl (lv_room (Nat.le_of_ble_eq_true rfl)) dX3_sign_2 ⟨Nat.zero_le _, Nat.zero_le _⟩) hS (fun q _ h => hFc q h) hFc (fun x_3 _ t H1 locs ht hvm hw hB hz1 hk1 hS => ?_)
    obtain ⟨hw, z_4⟩ := hw
    have hw := hw.symm
    subst hw
    obtain ⟨hP1, hK1, hD1⟩ := hB
    rw [ht] at hP1
    obtain ⟨hP, hD⟩ := va_join (wr := []) (w1 := [(h0, .inr (3, [.int r_2.2, .long v1, .long v2, .long v3, .long v4, .long v5, .long v6, .long v7, .long v8, .long v9, .long v10, .long v11, .long v12, .int v13, .ref h1])), (h1, .inl (cI, 6600, .inl vR))]) hP hD [0, 1] [] rfl rfl (by decide) (by decide) hk1 hFc hP1 hD1
    generalize H1 = H at hP hS ⊢
    have hP : va_P (dC, dI) vwCl [(h0, .inr (3, [.int r_2.2, .long v1, .long v2, .long v3, .long v4, .long v5, .long v6, .long v7, .long v8, .long v9, .long v10, .long v11, .long v12, .int v13, .ref h1])), (h1, .inl (cI, 6600, .inl vR))] H := hP
    have hD : va_D A [(h0, .inr (3, [.int r_2.2, .long v1, .long v2, .long v3, .long v4, .long v5, .long v6, .long v7, .long v8, .long v9, .long v10, .long v11, .long v12, .int v13, .ref h1])), (h1, .inl (cI, 6600, .inl vR))] := hD
    refine W.widen (k := 0) (n := 0) (Nat.le_refl _) (Nat.le_refl _) ?_
    refine lz_zne (tgt := 10) hx hb dX3_sign_5 (by decide) (fun c_5 => ?_) (fun c_5 => ?_)
    · have hr := (if_neg c_5).symm.trans hr
      refine lv_aload_n hx hb dX3_sign_10 rfl (lv_at hl 0 rfl) ?_
      refine lv_iload_n hx hb dX3_sign_11 rfl (lv_at hl 1 rfl) ?_
      cases e_6 : f_X3_isBelow n v13 vR a1 with
      | none => rw [e_6, Option.bind_none] at hr; cases hr
      | some r_7 =>
        rw [e_6, Option.bind_some] at hr
        have hPc := hP.sub (ws' := [(h0, .inr (3, [.int r_2.2, .long v1, .long v2, .long v3, .long v4, .long v5, .long v6, .long v7, .long v8, .long v9, .long v10, .long v11, .long v12, .int v13, .ref h1])), (h1, .inl (cI, 6600, .inl vR))]) [0, 1] rfl
        have hDc := hD.sub (ws' := [(h0, .inr (3, [.int r_2.2, .long v1, .long v2, .long v3, .long v4, .long v5, .long v6, .long v7, .long v8, .long v9, .long v10, .long v11, .long v12, .int v13, .ref h1])), (h1, .inl (cI, 6600, .inl vR))]) [0, 1] (by decide) rfl
        have hKc := hK.sub (tys' := [(cI, .int)]) [0] rfl
        have hFc := va_free (wc := [(h0, .inr (3, [.int r_2.2, .long v1, .long v2, .long v3, .long v4, .long v5, .long v6, .long v7, .long v8, .long v9, .long v10, .long v11, .long v12, .int v13, .ref h1])), (h1, .inl (cI, 6600, .inl vR))]) hD hS hA [0, 1] rfl
        refine va_calli (va_runV (As := [.int a1]) (rest := []) ⟨hx, hb, hml, hown, hts⟩ (c_X3_isBelow l dC dI H.size h0 h1 cI r_2.2 v1 v2 v3 v4 v5 v6 v7 v8 v9 v10 v11 v12 v13 vR a1 n _ e_6) (cwV 1 hts gX3_sign_X3_isBelow rfl rfl rfl (by decide +kernel) ⟨Nat.le_of_ble_eq_true rfl, Nat.le_of_ble_eq_true rfl⟩) ⟨fun a U g mk q => by obtain ⟨q0, q1, qP, qK, qD⟩ := q; exact ⟨q0, q1, qP, va_K.moved (u := U) (U := U.calling g mk a) (Vm.Alike.refl U.vm) qK, qD⟩, va_recv hKc hPc (ci := 3) (q0 := 0) rfl rfl, fun U hU hW => ⟨rfl, by rw [hU], by rw [hU]; exact hPc, va_K.moved hW.alike hKc, hDc.weaken (fun _ _ _ _ => trivial)⟩⟩ rfl rfl hl.1 rfl (lv_room (Nat.le_of_ble_eq_true rfl)) dX3_sign_12 ⟨Nat.zero_le _, Nat.zero_le _⟩) hS (fun q _ h => hFc q h) hFc (fun x_8 _ t H1 locs ht hvm hw hB hz1 hk1 hS => ?_)
        obtain ⟨hw, z_9⟩ := hw
        have hw := hw.symm
        subst hw
        obtain ⟨hP1, hK1, hD1⟩ := hB
        rw [ht] at hP1
        obtain ⟨hP, hD⟩ := va_join (wr := []) (w1 := [(h0, .inr (3, [.int r_2.2, .long v1, .long v2, .long v3, .long v4, .long v5, .long v6, .long v7, .long v8, .long v9, .long v10, .long v11, .long v12, .int v13, .ref h1])), (h1, .inl (cI, 6600, .inl vR))]) hP hD [0, 1] [] rfl rfl (by decide) (by decide) hk1 hFc hP1 hD1
        generalize H1 = H at hP hS ⊢
        have hP : va_P (dC, dI) vwCl [(h0, .inr (3, [.int r_2.2, .long v1, .long v2, .long v3, .long v4, .long v5, .long v6, .long v7, .long v8, .long v9, .long v10, .long v11, .long v12, .int v13, .ref h1])), (h1, .inl (cI, 6600, .inl vR))] H := hP
        have hD : va_D A [(h0, .inr (3, [.int r_2.2, .long v1, .long v2, .long v3, .long v4, .long v5, .long v6, .long v7, .long v8, .long v9, .long v10, .long v11, .long v12, .int v13, .ref h1])), (h1, .inl (cI, 6600, .inl vR))] := hD
        refine W.widen (k := 0) (n := 0) (Nat.le_refl _) (Nat.le_refl _) ?_
        refine lz_zeq (tgt := 22) hx hb dX3_sign_15 (by decide) (fun c_10 => ?_) (fun c_10 => ?_)
        · have hr := (if_pos c_10).symm.trans hr
          refine lv_aload_n hx hb dX3_sign_22 rfl (lv_at hl 0 rfl) ?_
          refine lv_iload_n hx hb dX3_sign_23 rfl (lv_at hl 1 rfl) ?_
          cases e_11 : f_X3_sized n v13 vR a1 with
          | none => rw [e_11, Option.bind_none] at hr; cases hr
          | some r_12 =>
            rw [e_11, Option.bind_some] at hr
            have hPc := hP.sub (ws' := [(h0, .inr (3, [.int r_2.2, .long v1, .long v2, .long v3, .long v4, .long v5, .long v6, .long v7, .long v8, .long v9, .long v10, .long v11, .long v12, .int v13, .ref h1])), (h1, .inl (cI, 6600, .inl vR))]) [0, 1] rfl
            have hDc := hD.sub (ws' := [(h0, .inr (3, [.int r_2.2, .long v1, .long v2, .long v3, .long v4, .long v5, .long v6, .long v7, .long v8, .long v9, .long v10, .long v11, .long v12, .int v13, .ref h1])), (h1, .inl (cI, 6600, .inl vR))]) [0, 1] (by decide) rfl
            have hKc := hK.sub (tys' := [(cI, .int)]) [0] rfl
            have hFc := va_free (wc := [(h0, .inr (3, [.int r_2.2, .long v1, .long v2, .long v3, .long v4, .long v5, .long v6, .long v7, .long v8, .long v9, .long v10, .long v11, .long v12, .int v13, .ref h1])), (h1, .inl (cI, 6600, .inl vR))]) hD hS hA [0, 1] rfl
            refine va_calli (va_runV (As := [.int a1]) (rest := []) ⟨hx, hb, hml, hown, hts⟩ (c_X3_sized l dC dI H.size h0 h1 cI r_2.2 v1 v2 v3 v4 v5 v6 v7 v8 v9 v10 v11 v12 v13 vR a1 n _ e_11) (cwV 1 hts gX3_sign_X3_sized rfl rfl rfl (by decide +kernel) ⟨Nat.le_of_ble_eq_true rfl, Nat.le_of_ble_eq_true rfl⟩) ⟨fun a U g mk q => by obtain ⟨q0, q1, qP, qK, qD⟩ := q; exact ⟨q0, q1, qP, va_K.moved (u := U) (U := U.calling g mk a) (Vm.Alike.refl U.vm) qK, qD⟩, va_recv hKc hPc (ci := 3) (q0 := 0) rfl rfl, fun U hU hW => ⟨rfl, by rw [hU], by rw [hU]; exact hPc, va_K.moved hW.alike hKc, hDc.weaken (fun _ _ _ _ => trivial)⟩⟩ rfl rfl hl.1 rfl (lv_room (Nat.le_of_ble_eq_true rfl)) dX3_sign_24 ⟨Nat.zero_le _, Nat.zero_le _⟩) hS (fun q _ h => hFc q h) hFc (fun x_13 _ t H1 locs ht hvm hw hB hz1 hk1 hS => ?_)
            have hw := hw.symm
            subst hw
            obtain ⟨hP1, hK1, hD1⟩ := hB
            rw [ht] at hP1
            obtain ⟨hP, hD⟩ := va_join (wr := []) (w1 := [(h0, .inr (3, [.int r_2.2, .long v1, .long v2, .long v3, .long v4, .long v5, .long v6, .long v7, .long v8, .long v9, .long v10, .long v11, .long v12, .int v13, .ref h1])), (h1, .inl (cI, 6600, .inl r_12.2))]) hP hD [0, 1] [] rfl rfl (by decide) (by decide) hk1 hFc hP1 hD1
            generalize H1 = H at hP hS ⊢
            have hP : va_P (dC, dI) vwCl [(h0, .inr (3, [.int r_2.2, .long v1, .long v2, .long v3, .long v4, .long v5, .long v6, .long v7, .long v8, .long v9, .long v10, .long v11, .long v12, .int v13, .ref h1])), (h1, .inl (cI, 6600, .inl r_12.2))] H := hP
            have hD : va_D A [(h0, .inr (3, [.int r_2.2, .long v1, .long v2, .long v3, .long v4, .long v5, .long v6, .long v7, .long v8, .long v9, .long v10, .long v11, .long v12, .int v13, .ref h1])), (h1, .inl (cI, 6600, .inl r_12.2))] := hD
            refine W.widen (k := 0) (n := 0) (Nat.le_refl _) (Nat.le_refl _) ?_
            refine lz_zle (tgt := 34) hx hb dX3_sign_27 (by decide) (fun c_14 => ?_) (fun c_14 => ?_)
            · have hr := (if_neg c_14).symm.trans hr
              refine lv_iconst (v := 0) hx hb dX3_sign_34 (by decide) ?_
              have ho := Option.some.inj hr
              subst ho
              exact W.iret (v := 0) hx hb hrt (fun t ht hW => ⟨⟨0, (), rfl, rfl, by rw [ht]; exact hP, va_K.moved hW.alike hK, hD⟩, hS.F ht⟩) hS.2.2 dX3_sign_35
            · have hr := (if_pos c_14).symm.trans hr
              refine lv_iconst (v := 1) hx hb dX3_sign_30 (by decide) ?_
              refine lv_goto (tgt := 35) hx hb dX3_sign_31 (by decide) ?_
              have ho := Option.some.inj hr
              subst ho
              exact W.iret (v := 1) hx hb hrt (fun t ht hW => ⟨⟨1, (), rfl, rfl, by rw [ht]; exact hP, va_K.moved hW.alike hK, hD⟩, hS.F ht⟩) hS.2.2 dX3_sign_35
        · have hr := (if_neg c_10).symm.trans hr
          refine lv_iconst (v := (-1)) hx hb dX3_sign_18 (by decide) ?_
          refine lv_goto (tgt := 35) hx hb dX3_sign_19 (by decide) ?_
          have ho := Option.some.inj hr
          subst ho
          exact W.iret (v := (-1)) hx hb hrt (fun t ht hW => ⟨⟨(-1), (), rfl, rfl, by rw [ht]; exact hP, va_K.moved hW.alike hK, hD⟩, hS.F ht⟩) hS.2.2 dX3_sign_35
    · have hr := (if_pos c_5).symm.trans hr
      refine lv_iconst (v := 0) hx hb dX3_sign_8 (by decide) ?_
      have ho := Option.some.inj hr
      subst ho
      exact W.iret (v := 0) hx hb hrt (fun t ht hW => ⟨⟨0, (), rfl, rfl, by rw [ht]; exact hP, va_K.moved hW.alike hK, hD⟩, hS.F ht⟩) hS.2.2 dX3_sign_9

def f_X3_bits_39 (n : Nat) : Nat → Int32 → Int32 → Int32 → (Nat → Int32) → Int32 → Option (Int32 × (Nat → Int32) × Int32)
  | 0, _, _, _, _, _ => none
  | k + 1, u2, u3, u4, w1, w0_0 => if 0 < u4 then (f_X3_bits_39 n k u2 (u3 + 1) (u4 >>> ((1 : Int32) &&& 31)) w1 w0_0) else (some (u3, w1, w0_0))
set_option maxHeartbeats 4000000 in
set_option maxRecDepth 100000 in
theorem k_X3_bits_39 {p : Program} {l : Launch} {e : Env} {s : State} {m : MethodId} {args : Array Value} {below : List Frame} {meth : Method} {c : Code} {dC : Nat → ClassId} {dI : Nat → Nat → Nat} {A : Nat → Prop} {h0 : Nat} {h1 : Nat} {cI : ClassId} {v1 : Int64} {v2 : Int64} {v3 : Int64} {v4 : Int64} {v5 : Int64} {v6 : Int64} {v7 : Int64} {v8 : Int64} {v9 : Int64} {v10 : Int64} {v11 : Int64} {v12 : Int64} {v13 : Int32} {a1 : Int32} (hx : p.tables.exec = Jvm.exec) (hb : c.code = cX3_bits) (hrt : meth.sig.returnType = (some .int)) (hml : c.maxLocals = 5) (hown : s.vm.findClass RX3 = some m.cls) (hlocks : meth.locks = false) (hts : ∀ w ∈ wsX3_bits, w.before args s = true) (hA : ∀ q : Nat, s.heap.size ≤ q → A q) (hK : va_K (dC, dI) vwCl [(cI, .int)] s)  (n : Nat) (out : Int32 × (Nat → Int32) × Int32) :
    ∀ (k : Nat) (u2 : Int32) (u3 : Int32) (u4 : Int32) (w1 : Nat → Int32) (w0_0 : Int32), f_X3_bits_39 n k u2 u3 u4 w1 w0_0 = some out → ∀ (H : Heap) (locs : List Loc) (ls : Array Slot), va_P (dC, dI) vwCl [(h0, .inr (3, [.int w0_0, .long v1, .long v2, .long v3, .long v4, .long v5, .long v6, .long v7, .long v8, .long v9, .long v10, .long v11, .long v12, .int v13, .ref h1])), (h1, .inl (cI, 6600, .inl w1))] H → va_D A [(h0, .inr (3, [.int w0_0, .long v1, .long v2, .long v3, .long v4, .long v5, .long v6, .long v7, .long v8, .long v9, .long v10, .long v11, .long v12, .int v13, .ref h1])), (h1, .inl (cI, 6600, .inl w1))] → va_S A s.heap H locs → lv_has ls 5 [(0, .ref h0), (1, .int a1), (2, .int u2), (3, .int u3), (4, .int u4)] → W p l e ({ frames := 3, cells := 0, slots := 0, locals := 70 }) s m args below meth c H locs 0 0 (MQ below (va_Qi (fun r (_ : Unit) => r = out.1) (fun (_ : Unit) t => zB dC dI [(cI, .int)] A [(h0, .inr (3, [.int out.2.2, .long v1, .long v2, .long v3, .long v4, .long v5, .long v6, .long v7, .long v8, .long v9, .long v10, .long v11, .long v12, .int v13, .ref h1])), (h1, .inl (cI, 6600, .inl out.2.1))] t) A) args s 0 0 A) (F0 m 39 ls []) := by
  intro k
  induction k with
  | zero => intro u2 u3 u4 w1 w0_0 hr; rw [f_X3_bits_39] at hr; cases hr
  | succ k ih =>
    intro u2 u3 u4 w1 w0_0 hr H locs ls hP hD hS hl
    rw [f_X3_bits_39] at hr
    refine lv_iload hx hb dX3_bits_39 (lv_at hl 4 rfl) ?_
    refine lz_zle (tgt := 56) hx hb dX3_bits_41 (by decide) (fun c_1 => ?_) (fun c_1 => ?_)
    · have hr := (if_neg c_1).symm.trans hr
      refine lv_iload_n hx hb dX3_bits_56 rfl (lv_at hl 3 rfl) ?_
      have ho := Option.some.inj hr
      subst ho
      exact W.iret (v := u3) hx hb hrt (fun t ht hW => ⟨⟨u3, (), rfl, rfl, by rw [ht]; exact hP, va_K.moved hW.alike hK, hD⟩, hS.F ht⟩) hS.2.2 dX3_bits_57
    · have hr := (if_pos c_1).symm.trans hr
      refine lv_iinc (v := u3 + 1) (lv' := [(3, .int (u3 + 1)), (0, .ref h0), (1, .int a1), (2, .int u2), (4, .int u4)]) hx hb dX3_bits_44 hl (k := 3) rfl rfl (by decide) rfl (fun ls hl => ?_)
      refine lv_iload hx hb dX3_bits_47 (lv_at hl 4 rfl) ?_
      refine lv_iconst (v := 1) hx hb dX3_bits_49 (by decide) ?_
      refine lv_ishr hx hb dX3_bits_50 ?_
      refine lv_istore (lv' := [(4, .int (u4 >>> ((1 : Int32) &&& 31))), (3, .int (u3 + 1)), (0, .ref h0), (1, .int a1), (2, .int u2)]) hx hb dX3_bits_51 hl (by decide) rfl (fun ls hl => ?_)
      refine lv_goto (tgt := 39) hx hb dX3_bits_53 (by decide) ?_
      exact ih u2 (u3 + 1) (u4 >>> ((1 : Int32) &&& 31)) w1 w0_0 hr _ _ _ hP hD hS (lv_sub hl [2, 3, 4, 1, 0] rfl)
def f_X3_bits (n : Nat) (v13 : Int32) (vR : Nat → Int32) (a1 : Int32) : Option (Int32 × (Nat → Int32) × Int32) := (f_X3_isNumber n a1).bind (fun r_2 => if r_2.1 = 0 then (some (0, vR, r_2.2)) else ((f_X3_sized n v13 vR a1).bind (fun r_7 => if r_7.1 = 0 then (some (0, r_7.2, r_2.2)) else ((f_X3_get n r_7.2 4 (r_7.1 - 1)).bind (fun r_11 => f_X3_bits_39 n n r_7.1 (16 * (r_7.1 - 1)) r_11 r_7.2 r_2.2)))))
set_option maxHeartbeats 4000000 in
set_option maxRecDepth 100000 in
theorem c_X3_bits (l : Launch) (dC : Nat → ClassId) (dI : Nat → Nat → Nat) (sz : Nat) (h0 : Nat) (h1 : Nat) (cI : ClassId) (v0 : Int32) (v1 : Int64) (v2 : Int64) (v3 : Int64) (v4 : Int64) (v5 : Int64) (v6 : Int64) (v7 : Int64) (v8 : Int64) (v9 : Int64) (v10 : Int64) (v11 : Int64) (v12 : Int64) (v13 : Int32) (vR : Nat → Int32) (a1 : Int32)  (n : Nat) (out : Int32 × (Nat → Int32) × Int32) (hr : f_X3_bits n v13 vR a1 = some out) : Met l yX3_bits wsX3_bits ({ frames := 3, cells := 0, slots := 0, locals := 70 }) (va_Pc [.ref h0, .int a1] (zP dC dI [(cI, .int)] [(h0, .inr (3, [.int v0, .long v1, .long v2, .long v3, .long v4, .long v5, .long v6, .long v7, .long v8, .long v9, .long v10, .long v11, .long v12, .int v13, .ref h1])), (h1, .inl (cI, 6600, .inl vR))] sz)) (va_Qi (fun r (_ : Unit) => r = out.1) (fun (_ : Unit) t => zB dC dI [(cI, .int)] (va_A [(h0, .inr (3, [.int v0, .long v1, .long v2, .long v3, .long v4, .long v5, .long v6, .long v7, .long v8, .long v9, .long v10, .long v11, .long v12, .int v13, .ref h1])), (h1, .inl (cI, 6600, .inl vR))] sz) [(h0, .inr (3, [.int out.2.2, .long v1, .long v2, .long v3, .long v4, .long v5, .long v6, .long v7, .long v8, .long v9, .long v10, .long v11, .long v12, .int v13, .ref h1])), (h1, .inl (cI, 6600, .inl out.2.1))] t) (va_A [(h0, .inr (3, [.int v0, .long v1, .long v2, .long v3, .long v4, .long v5, .long v6, .long v7, .long v8, .long v9, .long v10, .long v11, .long v12, .int v13, .ref h1])), (h1, .inl (cI, 6600, .inl vR))] sz)) 0 0 (va_A [(h0, .inr (3, [.int v0, .long v1, .long v2, .long v3, .long v4, .long v5, .long v6, .long v7, .long v8, .long v9, .long v10, .long v11, .long v12, .int v13, .ref h1])), (h1, .inl (cI, 6600, .inl vR))] sz) := by
  refine Met.ofW (cc := cX3_bits) (maxL := 5) (ret := (some .int)) (by decide) rfl ?_
  intro p e s m args below meth c s₁ B hml hv
  obtain ⟨rfl, hsz, hP, hK, hD0⟩ := hv
  have hx := B.exec
  have hb := B.bytes
  have hrt := B.returns
  have hts := atoms_spec (ws := wsX3_bits) B.pre
  have hown : s.vm.findClass RX3 = some m.cls := findClass_of_methodNamed B.named
  have hlocks := B.notSynchronized
  subst hsz
  have hD := hD0.self (sz := s.heap.size)
  generalize hAe : va_A [(h0, .inr (3, [.int v0, .long v1, .long v2, .long v3, .long v4, .long v5, .long v6, .long v7, .long v8, .long v9, .long v10, .long v11, .long v12, .int v13, .ref h1])), (h1, .inl (cI, 6600, .inl vR))] s.heap.size = A at hD ⊢
  have hA : ∀ q : Nat, s.heap.size ≤ q → A q := fun q h => by rw [← hAe]; exact Or.inr h
  have hS : va_S A s.heap s.heap [] := va_S.rf
  have hP : va_P (dC, dI) vwCl [(h0, .inr (3, [.int v0, .long v1, .long v2, .long v3, .long v4, .long v5, .long v6, .long v7, .long v8, .long v9, .long v10, .long v11, .long v12, .int v13, .ref h1])), (h1, .inl (cI, 6600, .inl vR))] s.heap := hP
  have hl := lv_entry ([.ref h0, .int a1]) (n := 5) (Nat.le_of_ble_eq_true rfl)
  rw [lg_entry_eq]
  generalize (lg_sl ([.ref h0, .int a1]) ++ List.replicate (5 - (lg_sl ([.ref h0, .int a1])).length) Slot.unset).toArray = ls at hl ⊢
  have hl : lv_has ls 5 [(0, .ref h0), (1, .int a1)] := hl
  unfold f_X3_bits at hr
  refine lv_aload_n hx hb dX3_bits_0 rfl (lv_at hl 0 rfl) ?_
  refine lv_iload_n hx hb dX3_bits_1 rfl (lv_at hl 1 rfl) ?_
  cases e_1 : f_X3_isNumber n a1 with
  | none => rw [e_1, Option.bind_none] at hr; cases hr
  | some r_2 =>
    rw [e_1, Option.bind_some] at hr
    have hPc := hP.sub (ws' := [(h0, .inr (3, [.int v0, .long v1, .long v2, .long v3, .long v4, .long v5, .long v6, .long v7, .long v8, .long v9, .long v10, .long v11, .long v12, .int v13, .ref h1])), (h1, .inl (cI, 6600, .inl vR))]) [0, 1] rfl
    have hDc := hD.sub (ws' := [(h0, .inr (3, [.int v0, .long v1, .long v2, .long v3, .long v4, .long v5, .long v6, .long v7, .long v8, .long v9, .long v10, .long v11, .long v12, .int v13, .ref h1])), (h1, .inl (cI, 6600, .inl vR))]) [0, 1] (by decide) rfl
    have hKc := hK.sub (tys' := [(cI, .int)]) [0] rfl
    have hFc := va_free (wc := [(h0, .inr (3, [.int v0, .long v1, .long v2, .long v3, .long v4, .long v5, .long v6, .long v7, .long v8, .long v9, .long v10, .long v11, .long v12, .int v13, .ref h1])), (h1, .inl (cI, 6600, .inl vR))]) hD hS hA [0, 1] rfl
    refine va_calli (va_runV (As := [.int a1]) (rest := []) ⟨hx, hb, hml, hown, hts⟩ (c_X3_isNumber l dC dI s.heap.size h0 h1 cI v0 v1 v2 v3 v4 v5 v6 v7 v8 v9 v10 v11 v12 v13 vR a1 n _ e_1) (cwV 1 hts gX3_bits_X3_isNumber rfl rfl rfl (by decide +kernel) ⟨Nat.le_of_ble_eq_true rfl, Nat.le_of_ble_eq_true rfl⟩) ⟨fun a U g mk q => by obtain ⟨q0, q1, qP, qK, qD⟩ := q; exact ⟨q0, q1, qP, va_K.moved (u := U) (U := U.calling g mk a) (Vm.Alike.refl U.vm) qK, qD⟩, va_recv hKc hPc (ci := 3) (q0 := 0) rfl rfl, fun U hU hW => ⟨rfl, by rw [hU], by rw [hU]; exact hPc, va_K.moved hW.alike hKc, hDc.weaken (fun _ _ _ _ => trivial)⟩⟩ rfl rfl hl.1 rfl (lv_room (Nat.le_of_ble_eq_true rfl)) dX3_bits_2 ⟨Nat.zero_le _, Nat.zero_le _⟩) hS (fun q _ h => hFc q h) hFc (fun x_3 _ t H1 locs ht hvm hw hB hz1 hk1 hS => ?_)
    obtain ⟨hw, z_4⟩ := hw
    have hw := hw.symm
    subst hw
    obtain ⟨hP1, hK1, hD1⟩ := hB
    rw [ht] at hP1
    obtain ⟨hP, hD⟩ := va_join (wr := []) (w1 := [(h0, .inr (3, [.int r_2.2, .long v1, .long v2, .long v3, .long v4, .long v5, .long v6, .long v7, .long v8, .long v9, .long v10, .long v11, .long v12, .int v13, .ref h1])), (h1, .inl (cI, 6600, .inl vR))]) hP hD [0, 1] [] rfl rfl (by decide) (by decide) hk1 hFc hP1 hD1
    generalize H1 = H at hP hS ⊢
    have hP : va_P (dC, dI) vwCl [(h0, .inr (3, [.int r_2.2, .long v1, .long v2, .long v3, .long v4, .long v5, .long v6, .long v7, .long v8, .long v9, .long v10, .long v11, .long v12, .int v13, .ref h1])), (h1, .inl (cI, 6600, .inl vR))] H := hP
    have hD : va_D A [(h0, .inr (3, [.int r_2.2, .long v1, .long v2, .long v3, .long v4, .long v5, .long v6, .long v7, .long v8, .long v9, .long v10, .long v11, .long v12, .int v13, .ref h1])), (h1, .inl (cI, 6600, .inl vR))] := hD
    refine W.widen (k := 0) (n := 0) (Nat.le_refl _) (Nat.le_refl _) ?_
    refine lz_zne (tgt := 10) hx hb dX3_bits_5 (by decide) (fun c_5 => ?_) (fun c_5 => ?_)
    · have hr := (if_neg c_5).symm.trans hr
      refine lv_aload_n hx hb dX3_bits_10 rfl (lv_at hl 0 rfl) ?_
      refine lv_iload_n hx hb dX3_bits_11 rfl (lv_at hl 1 rfl) ?_
      cases e_6 : f_X3_sized n v13 vR a1 with
      | none => rw [e_6, Option.bind_none] at hr; cases hr
      | some r_7 =>
        rw [e_6, Option.bind_some] at hr
        have hPc := hP.sub (ws' := [(h0, .inr (3, [.int r_2.2, .long v1, .long v2, .long v3, .long v4, .long v5, .long v6, .long v7, .long v8, .long v9, .long v10, .long v11, .long v12, .int v13, .ref h1])), (h1, .inl (cI, 6600, .inl vR))]) [0, 1] rfl
        have hDc := hD.sub (ws' := [(h0, .inr (3, [.int r_2.2, .long v1, .long v2, .long v3, .long v4, .long v5, .long v6, .long v7, .long v8, .long v9, .long v10, .long v11, .long v12, .int v13, .ref h1])), (h1, .inl (cI, 6600, .inl vR))]) [0, 1] (by decide) rfl
        have hKc := hK.sub (tys' := [(cI, .int)]) [0] rfl
        have hFc := va_free (wc := [(h0, .inr (3, [.int r_2.2, .long v1, .long v2, .long v3, .long v4, .long v5, .long v6, .long v7, .long v8, .long v9, .long v10, .long v11, .long v12, .int v13, .ref h1])), (h1, .inl (cI, 6600, .inl vR))]) hD hS hA [0, 1] rfl
        refine va_calli (va_runV (As := [.int a1]) (rest := []) ⟨hx, hb, hml, hown, hts⟩ (c_X3_sized l dC dI H.size h0 h1 cI r_2.2 v1 v2 v3 v4 v5 v6 v7 v8 v9 v10 v11 v12 v13 vR a1 n _ e_6) (cwV 1 hts gX3_bits_X3_sized rfl rfl rfl (by decide +kernel) ⟨Nat.le_of_ble_eq_true rfl, Nat.le_of_ble_eq_true rfl⟩) ⟨fun a U g mk q => by obtain ⟨q0, q1, qP, qK, qD⟩ := q; exact ⟨q0, q1, qP, va_K.moved (u := U) (U := U.calling g mk a) (Vm.Alike.refl U.vm) qK, qD⟩, va_recv hKc hPc (ci := 3) (q0 := 0) rfl rfl, fun U hU hW => ⟨rfl, by rw [hU], by rw [hU]; exact hPc, va_K.moved hW.alike hKc, hDc.weaken (fun _ _ _ _ => trivial)⟩⟩ rfl rfl hl.1 rfl (lv_room (Nat.le_of_ble_eq_true rfl)) dX3_bits_12 ⟨Nat.zero_le _, Nat.zero_le _⟩) hS (fun q _ h => hFc q h) hFc (fun x_8 _ t H1 locs ht hvm hw hB hz1 hk1 hS => ?_)
        have hw := hw.symm
        subst hw
        obtain ⟨hP1, hK1, hD1⟩ := hB
        rw [ht] at hP1
        obtain ⟨hP, hD⟩ := va_join (wr := []) (w1 := [(h0, .inr (3, [.int r_2.2, .long v1, .long v2, .long v3, .long v4, .long v5, .long v6, .long v7, .long v8, .long v9, .long v10, .long v11, .long v12, .int v13, .ref h1])), (h1, .inl (cI, 6600, .inl r_7.2))]) hP hD [0, 1] [] rfl rfl (by decide) (by decide) hk1 hFc hP1 hD1
        generalize H1 = H at hP hS ⊢
        have hP : va_P (dC, dI) vwCl [(h0, .inr (3, [.int r_2.2, .long v1, .long v2, .long v3, .long v4, .long v5, .long v6, .long v7, .long v8, .long v9, .long v10, .long v11, .long v12, .int v13, .ref h1])), (h1, .inl (cI, 6600, .inl r_7.2))] H := hP
        have hD : va_D A [(h0, .inr (3, [.int r_2.2, .long v1, .long v2, .long v3, .long v4, .long v5, .long v6, .long v7, .long v8, .long v9, .long v10, .long v11, .long v12, .int v13, .ref h1])), (h1, .inl (cI, 6600, .inl r_7.2))] := hD
        refine W.widen (k := 0) (n := 0) (Nat.le_refl _) (Nat.le_refl _) ?_
        refine lv_istore_n (lv' := [(2, .int r_7.1), (0, .ref h0), (1, .int a1)]) hx hb dX3_bits_15 rfl hl (by decide) rfl (fun ls hl => ?_)
        refine lv_iload_n hx hb dX3_bits_16 rfl (lv_at hl 0 rfl) ?_
        refine lz_zne (tgt := 22) hx hb dX3_bits_17 (by decide) (fun c_9 => ?_) (fun c_9 => ?_)
        · have hr := (if_neg c_9).symm.trans hr
          refine lv_bipush (v := 16) hx hb dX3_bits_22 (by decide) ?_
          refine lv_iload_n hx hb dX3_bits_24 rfl (lv_at hl 0 rfl) ?_
          refine lv_iconst (v := 1) hx hb dX3_bits_25 (by decide) ?_
          refine lv_isub hx hb dX3_bits_26 ?_
          refine lv_imul hx hb dX3_bits_27 ?_
          refine lv_istore_n (lv' := [(3, .int (16 * (r_7.1 - 1))), (2, .int r_7.1), (0, .ref h0), (1, .int a1)]) hx hb dX3_bits_28 rfl hl (by decide) rfl (fun ls hl => ?_)
          refine lv_aload_n hx hb dX3_bits_29 rfl (lv_at hl 2 rfl) ?_
          refine lv_iconst (v := 4) hx hb dX3_bits_30 (by decide) ?_
          refine lv_iload_n hx hb dX3_bits_31 rfl (lv_at hl 1 rfl) ?_
          refine lv_iconst (v := 1) hx hb dX3_bits_32 (by decide) ?_
          refine lv_isub hx hb dX3_bits_33 ?_
          cases e_10 : f_X3_get n r_7.2 4 (r_7.1 - 1) with
          | none => rw [e_10, Option.bind_none] at hr; cases hr
          | some r_11 =>
            rw [e_10, Option.bind_some] at hr
            have hPc := hP.sub (ws' := [(h0, .inr (3, [.int r_2.2, .long v1, .long v2, .long v3, .long v4, .long v5, .long v6, .long v7, .long v8, .long v9, .long v10, .long v11, .long v12, .int v13, .ref h1])), (h1, .inl (cI, 6600, .inl r_7.2))]) [0, 1] rfl
            have hDc := hD.sub (ws' := [(h0, .inr (3, [.int r_2.2, .long v1, .long v2, .long v3, .long v4, .long v5, .long v6, .long v7, .long v8, .long v9, .long v10, .long v11, .long v12, .int v13, .ref h1])), (h1, .inl (cI, 6600, .inl r_7.2))]) [0, 1] (by decide) rfl
            have hKc := hK.sub (tys' := [(cI, .int)]) [0] rfl
            have hFc := va_free (wc := [(h0, .inr (3, [.int r_2.2, .long v1, .long v2, .long v3, .long v4, .long v5, .long v6, .long v7, .long v8, .long v9, .long v10, .long v11, .long v12, .int v13, .ref h1])), (h1, .inl (cI, 6600, .inl r_7.2))]) hD hS hA [0, 1] rfl
            refine va_calli (va_runV (As := [.int 4, .int (r_7.1 - 1)]) (rest := []) ⟨hx, hb, hml, hown, hts⟩ (c_X3_get l dC dI H.size h0 h1 cI r_2.2 v1 v2 v3 v4 v5 v6 v7 v8 v9 v10 v11 v12 v13 r_7.2 4 (r_7.1 - 1) n _ e_10) (cwV 2 hts gX3_bits_X3_get rfl rfl rfl (by decide +kernel) ⟨Nat.le_of_ble_eq_true rfl, Nat.le_of_ble_eq_true rfl⟩) ⟨fun a U g mk q => by obtain ⟨q0, q1, qP, qK, qD⟩ := q; exact ⟨q0, q1, qP, va_K.moved (u := U) (U := U.calling g mk a) (Vm.Alike.refl U.vm) qK, qD⟩, va_recv hKc hPc (ci := 3) (q0 := 0) rfl rfl, fun U hU hW => ⟨rfl, by rw [hU], by rw [hU]; exact hPc, va_K.moved hW.alike hKc, hDc.weaken (fun _ _ _ _ => trivial)⟩⟩ rfl rfl hl.1 rfl (lv_room (Nat.le_of_ble_eq_true rfl)) dX3_bits_34 ⟨Nat.zero_le _, Nat.zero_le _⟩) hS (fun q _ h => hFc q h) hFc (fun x_12 _ t H1 locs ht hvm hw hB hz1 hk1 hS => ?_)
            have hw := hw.symm
            subst hw
            obtain ⟨hP1, hK1, hD1⟩ := hB
            rw [ht] at hP1
            obtain ⟨hP, hD⟩ := va_join (wr := []) (w1 := [(h0, .inr (3, [.int r_2.2, .long v1, .long v2, .long v3, .long v4, .long v5, .long v6, .long v7, .long v8, .long v9, .long v10, .long v11, .long v12, .int v13, .ref h1])), (h1, .inl (cI, 6600, .inl r_7.2))]) hP hD [0, 1] [] rfl rfl (by decide) (by decide) hk1 hFc hP1 hD1
            generalize H1 = H at hP hS ⊢
            have hP : va_P (dC, dI) vwCl [(h0, .inr (3, [.int r_2.2, .long v1, .long v2, .long v3, .long v4, .long v5, .long v6, .long v7, .long v8, .long v9, .long v10, .long v11, .long v12, .int v13, .ref h1])), (h1, .inl (cI, 6600, .inl r_7.2))] H := hP
            have hD : va_D A [(h0, .inr (3, [.int r_2.2, .long v1, .long v2, .long v3, .long v4, .long v5, .long v6, .long v7, .long v8, .long v9, .long v10, .long v11, .long v12, .int v13, .ref h1])), (h1, .inl (cI, 6600, .inl r_7.2))] := hD
            refine W.widen (k := 0) (n := 0) (Nat.le_refl _) (Nat.le_refl _) ?_
            refine lv_istore (lv' := [(4, .int r_11), (3, .int (16 * (r_7.1 - 1))), (2, .int r_7.1), (0, .ref h0), (1, .int a1)]) hx hb dX3_bits_37 hl (by decide) rfl (fun ls hl => ?_)
            exact k_X3_bits_39 hx hb hrt hml hown hlocks hts hA hK n out n r_7.1 (16 * (r_7.1 - 1)) r_11 r_7.2 r_2.2 hr _ _ _ hP hD hS (lv_sub hl [3, 4, 2, 1, 0] rfl)
        · have hr := (if_pos c_9).symm.trans hr
          refine lv_iconst (v := 0) hx hb dX3_bits_20 (by decide) ?_
          have ho := Option.some.inj hr
          subst ho
          exact W.iret (v := 0) hx hb hrt (fun t ht hW => ⟨⟨0, (), rfl, rfl, by rw [ht]; exact hP, va_K.moved hW.alike hK, hD⟩, hS.F ht⟩) hS.2.2 dX3_bits_21
    · have hr := (if_pos c_5).symm.trans hr
      refine lv_iconst (v := 0) hx hb dX3_bits_8 (by decide) ?_
      have ho := Option.some.inj hr
      subst ho
      exact W.iret (v := 0) hx hb hrt (fun t ht hW => ⟨⟨0, (), rfl, rfl, by rw [ht]; exact hP, va_K.moved hW.alike hK, hD⟩, hS.F ht⟩) hS.2.2 dX3_bits_9

def f_X3_word (n : Nat) (v13 : Int32) (vR : Nat → Int32) (a1 : Int32) (a2 : Int32) : Option (Int32 × (Nat → Int32) × Int32) := (f_X3_isNumber n a1).bind (fun r_2 => if r_2.1 = 0 then (some (0, vR, r_2.2)) else ((f_X3_in n a2.toInt64 0 511).bind (fun r_7 => if r_7 = 0 then ((f_X3_raise n 1).bind (fun r_27 => some (r_27.1, vR, r_27.2))) else ((f_X3_sized n v13 vR a1).bind (fun r_12 => if (2 * a2) < r_12.1 then ((f_X3_get n r_12.2 4 (2 * a2)).bind (fun r_20 => if ((2 * a2) + 1) < r_12.1 then ((f_X3_get n r_12.2 4 ((2 * a2) + 1)).bind (fun r_24 => some (r_20 ||| (r_24 <<< ((16 : Int32) &&& 31)), r_12.2, r_2.2))) else (some (r_20 ||| ((0 : Int32) <<< ((16 : Int32) &&& 31)), r_12.2, r_2.2)))) else (if ((2 * a2) + 1) < r_12.1 then ((f_X3_get n r_12.2 4 ((2 * a2) + 1)).bind (fun r_17 => some ((0 : Int32) ||| (r_17 <<< ((16 : Int32) &&& 31)), r_12.2, r_2.2))) else (some ((0 : Int32) ||| ((0 : Int32) <<< ((16 : Int32) &&& 31)), r_12.2, r_2.2))))))))
set_option maxHeartbeats 4000000 in
set_option maxRecDepth 100000 in
theorem c_X3_word (l : Launch) (dC : Nat → ClassId) (dI : Nat → Nat → Nat) (sz : Nat) (h0 : Nat) (h1 : Nat) (cI : ClassId) (v0 : Int32) (v1 : Int64) (v2 : Int64) (v3 : Int64) (v4 : Int64) (v5 : Int64) (v6 : Int64) (v7 : Int64) (v8 : Int64) (v9 : Int64) (v10 : Int64) (v11 : Int64) (v12 : Int64) (v13 : Int32) (vR : Nat → Int32) (a1 : Int32) (a2 : Int32)  (n : Nat) (out : Int32 × (Nat → Int32) × Int32) (hr : f_X3_word n v13 vR a1 a2 = some out) : Met l yX3_word wsX3_word ({ frames := 3, cells := 0, slots := 0, locals := 70 }) (va_Pc [.ref h0, .int a1, .int a2] (zP dC dI [(cI, .int)] [(h0, .inr (3, [.int v0, .long v1, .long v2, .long v3, .long v4, .long v5, .long v6, .long v7, .long v8, .long v9, .long v10, .long v11, .long v12, .int v13, .ref h1])), (h1, .inl (cI, 6600, .inl vR))] sz)) (va_Qi (fun r (_ : Unit) => r = out.1) (fun (_ : Unit) t => zB dC dI [(cI, .int)] (va_A [(h0, .inr (3, [.int v0, .long v1, .long v2, .long v3, .long v4, .long v5, .long v6, .long v7, .long v8, .long v9, .long v10, .long v11, .long v12, .int v13, .ref h1])), (h1, .inl (cI, 6600, .inl vR))] sz) [(h0, .inr (3, [.int out.2.2, .long v1, .long v2, .long v3, .long v4, .long v5, .long v6, .long v7, .long v8, .long v9, .long v10, .long v11, .long v12, .int v13, .ref h1])), (h1, .inl (cI, 6600, .inl out.2.1))] t) (va_A [(h0, .inr (3, [.int v0, .long v1, .long v2, .long v3, .long v4, .long v5, .long v6, .long v7, .long v8, .long v9, .long v10, .long v11, .long v12, .int v13, .ref h1])), (h1, .inl (cI, 6600, .inl vR))] sz)) 0 0 (va_A [(h0, .inr (3, [.int v0, .long v1, .long v2, .long v3, .long v4, .long v5, .long v6, .long v7, .long v8, .long v9, .long v10, .long v11, .long v12, .int v13, .ref h1])), (h1, .inl (cI, 6600, .inl vR))] sz) := by
  refine Met.ofW (cc := cX3_word) (maxL := 6) (ret := (some .int)) (by decide) rfl ?_
  intro p e s m args below meth c s₁ B hml hv
  obtain ⟨rfl, hsz, hP, hK, hD0⟩ := hv
  have hx := B.exec
  have hb := B.bytes
  have hrt := B.returns
  have hts := atoms_spec (ws := wsX3_word) B.pre
  have hown : s.vm.findClass RX3 = some m.cls := findClass_of_methodNamed B.named
  have hlocks := B.notSynchronized
  subst hsz
  have hD := hD0.self (sz := s.heap.size)
  generalize hAe : va_A [(h0, .inr (3, [.int v0, .long v1, .long v2, .long v3, .long v4, .long v5, .long v6, .long v7, .long v8, .long v9, .long v10, .long v11, .long v12, .int v13, .ref h1])), (h1, .inl (cI, 6600, .inl vR))] s.heap.size = A at hD ⊢
  have hA : ∀ q : Nat, s.heap.size ≤ q → A q := fun q h => by rw [← hAe]; exact Or.inr h
  have hS : va_S A s.heap s.heap [] := va_S.rf
  have hP : va_P (dC, dI) vwCl [(h0, .inr (3, [.int v0, .long v1, .long v2, .long v3, .long v4, .long v5, .long v6, .long v7, .long v8, .long v9, .long v10, .long v11, .long v12, .int v13, .ref h1])), (h1, .inl (cI, 6600, .inl vR))] s.heap := hP
  have hl := lv_entry ([.ref h0, .int a1, .int a2]) (n := 6) (Nat.le_of_ble_eq_true rfl)
  rw [lg_entry_eq]
  generalize (lg_sl ([.ref h0, .int a1, .int a2]) ++ List.replicate (6 - (lg_sl ([.ref h0, .int a1, .int a2])).length) Slot.unset).toArray = ls at hl ⊢
  have hl : lv_has ls 6 [(0, .ref h0), (1, .int a1), (2, .int a2)] := hl
  unfold f_X3_word at hr
  refine lv_aload_n hx hb dX3_word_0 rfl (lv_at hl 0 rfl) ?_
  refine lv_iload_n hx hb dX3_word_1 rfl (lv_at hl 1 rfl) ?_
  cases e_1 : f_X3_isNumber n a1 with
  | none => rw [e_1, Option.bind_none] at hr; cases hr
  | some r_2 =>
    rw [e_1, Option.bind_some] at hr
    have hPc := hP.sub (ws' := [(h0, .inr (3, [.int v0, .long v1, .long v2, .long v3, .long v4, .long v5, .long v6, .long v7, .long v8, .long v9, .long v10, .long v11, .long v12, .int v13, .ref h1])), (h1, .inl (cI, 6600, .inl vR))]) [0, 1] rfl
    have hDc := hD.sub (ws' := [(h0, .inr (3, [.int v0, .long v1, .long v2, .long v3, .long v4, .long v5, .long v6, .long v7, .long v8, .long v9, .long v10, .long v11, .long v12, .int v13, .ref h1])), (h1, .inl (cI, 6600, .inl vR))]) [0, 1] (by decide) rfl
    have hKc := hK.sub (tys' := [(cI, .int)]) [0] rfl
    have hFc := va_free (wc := [(h0, .inr (3, [.int v0, .long v1, .long v2, .long v3, .long v4, .long v5, .long v6, .long v7, .long v8, .long v9, .long v10, .long v11, .long v12, .int v13, .ref h1])), (h1, .inl (cI, 6600, .inl vR))]) hD hS hA [0, 1] rfl
    refine va_calli (va_runV (As := [.int a1]) (rest := []) ⟨hx, hb, hml, hown, hts⟩ (c_X3_isNumber l dC dI s.heap.size h0 h1 cI v0 v1 v2 v3 v4 v5 v6 v7 v8 v9 v10 v11 v12 v13 vR a1 n _ e_1) (cwV 1 hts gX3_word_X3_isNumber rfl rfl rfl (by decide +kernel) ⟨Nat.le_of_ble_eq_true rfl, Nat.le_of_ble_eq_true rfl⟩) ⟨fun a U g mk q => by obtain ⟨q0, q1, qP, qK, qD⟩ := q; exact ⟨q0, q1, qP, va_K.moved (u := U) (U := U.calling g mk a) (Vm.Alike.refl U.vm) qK, qD⟩, va_recv hKc hPc (ci := 3) (q0 := 0) rfl rfl, fun U hU hW => ⟨rfl, by rw [hU], by rw [hU]; exact hPc, va_K.moved hW.alike hKc, hDc.weaken (fun _ _ _ _ => trivial)⟩⟩ rfl rfl hl.1 rfl (lv_room (Nat.le_of_ble_eq_true rfl)) dX3_word_2 ⟨Nat.zero_le _, Nat.zero_le _⟩) hS (fun q _ h => hFc q h) hFc (fun x_3 _ t H1 locs ht hvm hw hB hz1 hk1 hS => ?_)
    obtain ⟨hw, z_4⟩ := hw
    have hw := hw.symm
    subst hw
    obtain ⟨hP1, hK1, hD1⟩ := hB
    rw [ht] at hP1
    obtain ⟨hP, hD⟩ := va_join (wr := []) (w1 := [(h0, .inr (3, [.int r_2.2, .long v1, .long v2, .long v3, .long v4, .long v5, .long v6, .long v7, .long v8, .long v9, .long v10, .long v11, .long v12, .int v13, .ref h1])), (h1, .inl (cI, 6600, .inl vR))]) hP hD [0, 1] [] rfl rfl (by decide) (by decide) hk1 hFc hP1 hD1
    generalize H1 = H at hP hS ⊢
    have hP : va_P (dC, dI) vwCl [(h0, .inr (3, [.int r_2.2, .long v1, .long v2, .long v3, .long v4, .long v5, .long v6, .long v7, .long v8, .long v9, .long v10, .long v11, .long v12, .int v13, .ref h1])), (h1, .inl (cI, 6600, .inl vR))] H := hP
    have hD : va_D A [(h0, .inr (3, [.int r_2.2, .long v1, .long v2, .long v3, .long v4, .long v5, .long v6, .long v7, .long v8, .long v9, .long v10, .long v11, .long v12, .int v13, .ref h1])), (h1, .inl (cI, 6600, .inl vR))] := hD
    refine W.widen (k := 0) (n := 0) (Nat.le_refl _) (Nat.le_refl _) ?_
    refine lz_zne (tgt := 10) hx hb dX3_word_5 (by decide) (fun c_5 => ?_) (fun c_5 => ?_)
    · have hr := (if_neg c_5).symm.trans hr
      refine lv_iload_n hx hb dX3_word_10 rfl (lv_at hl 2 rfl) ?_
      refine lv_i2l hx hb dX3_word_11 rfl ?_
      refine lv_lconst (v := 0) hx hb dX3_word_12 (by decide) ?_
      refine lv_ldc2 (v := 511) hx hb hown (hts (.constantLong RX3 173 (511)) (by decide +kernel)) dX3_word_13 ?_
      cases e_6 : f_X3_in n a2.toInt64 0 511 with
      | none => rw [e_6, Option.bind_none] at hr; cases hr
      | some r_7 =>
        rw [e_6, Option.bind_some] at hr
        have hPc := hP.sub (ws' := []) [] rfl
        have hDc := hD.sub (ws' := []) [] (by decide) rfl
        have hKc := hK.sub (tys' := []) [] rfl
        have hFc := va_free (wc := []) hD hS hA [] rfl
        refine va_calli (va_runS (As := [.long a2.toInt64, .long 0, .long 511]) (rest := []) ⟨hx, hb, hml, hown, hts⟩ (c_X3_in l dC dI H.size  a2.toInt64 0 511 n _ e_6) (va_cwS 3 hts gX3_word_X3_in rfl rfl rfl (by decide +kernel) ⟨Nat.le_of_ble_eq_true rfl, Nat.le_of_ble_eq_true rfl⟩) ⟨fun a U g mk q => by obtain ⟨q0, q1, qP, qK, qD⟩ := q; exact ⟨q0, q1, qP, va_K.moved (u := U) (U := U.calling g mk a) (Vm.Alike.refl U.vm) qK, qD⟩, fun U hU hW => ⟨rfl, by rw [hU], by rw [hU]; exact hPc, va_K.moved hW.alike hKc, hDc.weaken (fun _ _ _ _ => trivial)⟩⟩ rfl rfl hl.1 rfl (lv_room (Nat.le_of_ble_eq_true rfl)) dX3_word_16 ⟨Nat.zero_le _, Nat.zero_le _⟩) hS (fun q _ h => hFc q h) hFc (fun x_8 _ t H1 locs ht hvm hw hB hz1 hk1 hS => ?_)
        obtain ⟨hw, z_9⟩ := hw
        have hw := hw.symm
        subst hw
        obtain ⟨hP1, hK1, hD1⟩ := hB
        rw [ht] at hP1
        obtain ⟨hP, hD⟩ := va_join (wr := [(h0, .inr (3, [.int r_2.2, .long v1, .long v2, .long v3, .long v4, .long v5, .long v6, .long v7, .long v8, .long v9, .long v10, .long v11, .long v12, .int v13, .ref h1])), (h1, .inl (cI, 6600, .inl vR))]) (w1 := []) hP hD [] [0, 1] rfl rfl (by decide) (by decide) hk1 hFc hP1 hD1
        generalize H1 = H at hP hS ⊢
        have hP : va_P (dC, dI) vwCl [(h0, .inr (3, [.int r_2.2, .long v1, .long v2, .long v3, .long v4, .long v5, .long v6, .long v7, .long v8, .long v9, .long v10, .long v11, .long v12, .int v13, .ref h1])), (h1, .inl (cI, 6600, .inl vR))] H := hP
        have hD : va_D A [(h0, .inr (3, [.int r_2.2, .long v1, .long v2, .long v3, .long v4, .long v5, .long v6, .long v7, .long v8, .long v9, .long v10, .long v11, .long v12, .int v13, .ref h1])), (h1, .inl (cI, 6600, .inl vR))] := hD
        refine W.widen (k := 0) (n := 0) (Nat.le_refl _) (Nat.le_refl _) ?_
        refine lz_zne (tgt := 28) hx hb dX3_word_19 (by decide) (fun c_10 => ?_) (fun c_10 => ?_)
        · have hr := (if_neg c_10).symm.trans hr
          refine lv_aload_n hx hb dX3_word_28 rfl (lv_at hl 0 rfl) ?_
          refine lv_iload_n hx hb dX3_word_29 rfl (lv_at hl 1 rfl) ?_
          cases e_11 : f_X3_sized n v13 vR a1 with
          | none => rw [e_11, Option.bind_none] at hr; cases hr
          | some r_12 =>
            rw [e_11, Option.bind_some] at hr
            have hPc := hP.sub (ws' := [(h0, .inr (3, [.int r_2.2, .long v1, .long v2, .long v3, .long v4, .long v5, .long v6, .long v7, .long v8, .long v9, .long v10, .long v11, .long v12, .int v13, .ref h1])), (h1, .inl (cI, 6600, .inl vR))]) [0, 1] rfl
            have hDc := hD.sub (ws' := [(h0, .inr (3, [.int r_2.2, .long v1, .long v2, .long v3, .long v4, .long v5, .long v6, .long v7, .long v8, .long v9, .long v10, .long v11, .long v12, .int v13, .ref h1])), (h1, .inl (cI, 6600, .inl vR))]) [0, 1] (by decide) rfl
            have hKc := hK.sub (tys' := [(cI, .int)]) [0] rfl
            have hFc := va_free (wc := [(h0, .inr (3, [.int r_2.2, .long v1, .long v2, .long v3, .long v4, .long v5, .long v6, .long v7, .long v8, .long v9, .long v10, .long v11, .long v12, .int v13, .ref h1])), (h1, .inl (cI, 6600, .inl vR))]) hD hS hA [0, 1] rfl
            refine va_calli (va_runV (As := [.int a1]) (rest := []) ⟨hx, hb, hml, hown, hts⟩ (c_X3_sized l dC dI H.size h0 h1 cI r_2.2 v1 v2 v3 v4 v5 v6 v7 v8 v9 v10 v11 v12 v13 vR a1 n _ e_11) (cwV 1 hts gX3_word_X3_sized rfl rfl rfl (by decide +kernel) ⟨Nat.le_of_ble_eq_true rfl, Nat.le_of_ble_eq_true rfl⟩) ⟨fun a U g mk q => by obtain ⟨q0, q1, qP, qK, qD⟩ := q; exact ⟨q0, q1, qP, va_K.moved (u := U) (U := U.calling g mk a) (Vm.Alike.refl U.vm) qK, qD⟩, va_recv hKc hPc (ci := 3) (q0 := 0) rfl rfl, fun U hU hW => ⟨rfl, by rw [hU], by rw [hU]; exact hPc, va_K.moved hW.alike hKc, hDc.weaken (fun _ _ _ _ => trivial)⟩⟩ rfl rfl hl.1 rfl (lv_room (Nat.le_of_ble_eq_true rfl)) dX3_word_30 ⟨Nat.zero_le _, Nat.zero_le _⟩) hS (fun q _ h => hFc q h) hFc (fun x_13 _ t H1 locs ht hvm hw hB hz1 hk1 hS => ?_)
            have hw := hw.symm
            subst hw
            obtain ⟨hP1, hK1, hD1⟩ := hB
            rw [ht] at hP1
            obtain ⟨hP, hD⟩ := va_join (wr := []) (w1 := [(h0, .inr (3, [.int r_2.2, .long v1, .long v2, .long v3, .long v4, .long v5, .long v6, .long v7, .long v8, .long v9, .long v10, .long v11, .long v12, .int v13, .ref h1])), (h1, .inl (cI, 6600, .inl r_12.2))]) hP hD [0, 1] [] rfl rfl (by decide) (by decide) hk1 hFc hP1 hD1
            generalize H1 = H at hP hS ⊢
            have hP : va_P (dC, dI) vwCl [(h0, .inr (3, [.int r_2.2, .long v1, .long v2, .long v3, .long v4, .long v5, .long v6, .long v7, .long v8, .long v9, .long v10, .long v11, .long v12, .int v13, .ref h1])), (h1, .inl (cI, 6600, .inl r_12.2))] H := hP
            have hD : va_D A [(h0, .inr (3, [.int r_2.2, .long v1, .long v2, .long v3, .long v4, .long v5, .long v6, .long v7, .long v8, .long v9, .long v10, .long v11, .long v12, .int v13, .ref h1])), (h1, .inl (cI, 6600, .inl r_12.2))] := hD
            refine W.widen (k := 0) (n := 0) (Nat.le_refl _) (Nat.le_refl _) ?_
            refine lv_istore_n (lv' := [(3, .int r_12.1), (0, .ref h0), (1, .int a1), (2, .int a2)]) hx hb dX3_word_33 rfl hl (by decide) rfl (fun ls hl => ?_)
            refine lv_iconst (v := 2) hx hb dX3_word_34 (by decide) ?_
            refine lv_iload_n hx hb dX3_word_35 rfl (lv_at hl 3 rfl) ?_
            refine lv_imul hx hb dX3_word_36 ?_
            refine lv_iload_n hx hb dX3_word_37 rfl (lv_at hl 0 rfl) ?_
            refine lz_ige (tgt := 52) hx hb dX3_word_38 (by decide) (fun c_14 => ?_) (fun c_14 => ?_)
            · have hr := (if_neg c_14).symm.trans hr
              refine lv_iconst (v := 0) hx hb dX3_word_52 (by decide) ?_
              refine lv_istore (lv' := [(4, .int 0), (3, .int r_12.1), (0, .ref h0), (1, .int a1), (2, .int a2)]) hx hb dX3_word_53 hl (by decide) rfl (fun ls hl => ?_)
              refine lv_iconst (v := 2) hx hb dX3_word_55 (by decide) ?_
              refine lv_iload_n hx hb dX3_word_56 rfl (lv_at hl 4 rfl) ?_
              refine lv_imul hx hb dX3_word_57 ?_
              refine lv_iconst (v := 1) hx hb dX3_word_58 (by decide) ?_
              refine lv_iadd hx hb dX3_word_59 ?_
              refine lv_iload_n hx hb dX3_word_60 rfl (lv_at hl 1 rfl) ?_
              refine lz_ige (tgt := 77) hx hb dX3_word_61 (by decide) (fun c_15 => ?_) (fun c_15 => ?_)
              · have hr := (if_neg c_15).symm.trans hr
                refine lv_iconst (v := 0) hx hb dX3_word_77 (by decide) ?_
                refine lv_istore (lv' := [(5, .int 0), (4, .int 0), (3, .int r_12.1), (0, .ref h0), (1, .int a1), (2, .int a2)]) hx hb dX3_word_78 hl (by decide) rfl (fun ls hl => ?_)
                refine lv_iload hx hb dX3_word_80 (lv_at hl 1 rfl) ?_
                refine lv_iload hx hb dX3_word_82 (lv_at hl 0 rfl) ?_
                refine lv_bipush (v := 16) hx hb dX3_word_84 (by decide) ?_
                refine lv_ishl hx hb dX3_word_86 ?_
                refine lv_ior hx hb dX3_word_87 ?_
                have ho := Option.some.inj hr
                subst ho
                exact W.iret (v := (0 : Int32) ||| ((0 : Int32) <<< ((16 : Int32) &&& 31))) hx hb hrt (fun t ht hW => ⟨⟨(0 : Int32) ||| ((0 : Int32) <<< ((16 : Int32) &&& 31)), (), rfl, rfl, by rw [ht]; exact hP, va_K.moved hW.alike hK, hD⟩, hS.F ht⟩) hS.2.2 dX3_word_88
              · have hr := (if_pos c_15).symm.trans hr
                refine lv_aload_n hx hb dX3_word_64 rfl (lv_at hl 2 rfl) ?_
                refine lv_iconst (v := 4) hx hb dX3_word_65 (by decide) ?_
                refine lv_iconst (v := 2) hx hb dX3_word_66 (by decide) ?_
                refine lv_iload_n hx hb dX3_word_67 rfl (lv_at hl 4 rfl) ?_
                refine lv_imul hx hb dX3_word_68 ?_
                refine lv_iconst (v := 1) hx hb dX3_word_69 (by decide) ?_
                refine lv_iadd hx hb dX3_word_70 ?_
                cases e_16 : f_X3_get n r_12.2 4 ((2 * a2) + 1) with
                | none => rw [e_16, Option.bind_none] at hr; cases hr
                | some r_17 =>
                  rw [e_16, Option.bind_some] at hr
                  have hPc := hP.sub (ws' := [(h0, .inr (3, [.int r_2.2, .long v1, .long v2, .long v3, .long v4, .long v5, .long v6, .long v7, .long v8, .long v9, .long v10, .long v11, .long v12, .int v13, .ref h1])), (h1, .inl (cI, 6600, .inl r_12.2))]) [0, 1] rfl
                  have hDc := hD.sub (ws' := [(h0, .inr (3, [.int r_2.2, .long v1, .long v2, .long v3, .long v4, .long v5, .long v6, .long v7, .long v8, .long v9, .long v10, .long v11, .long v12, .int v13, .ref h1])), (h1, .inl (cI, 6600, .inl r_12.2))]) [0, 1] (by decide) rfl
                  have hKc := hK.sub (tys' := [(cI, .int)]) [0] rfl
                  have hFc := va_free (wc := [(h0, .inr (3, [.int r_2.2, .long v1, .long v2, .long v3, .long v4, .long v5, .long v6, .long v7, .long v8, .long v9, .long v10, .long v11, .long v12, .int v13, .ref h1])), (h1, .inl (cI, 6600, .inl r_12.2))]) hD hS hA [0, 1] rfl
                  refine va_calli (va_runV (As := [.int 4, .int ((2 * a2) + 1)]) (rest := []) ⟨hx, hb, hml, hown, hts⟩ (c_X3_get l dC dI H.size h0 h1 cI r_2.2 v1 v2 v3 v4 v5 v6 v7 v8 v9 v10 v11 v12 v13 r_12.2 4 ((2 * a2) + 1) n _ e_16) (cwV 2 hts gX3_word_X3_get rfl rfl rfl (by decide +kernel) ⟨Nat.le_of_ble_eq_true rfl, Nat.le_of_ble_eq_true rfl⟩) ⟨fun a U g mk q => by obtain ⟨q0, q1, qP, qK, qD⟩ := q; exact ⟨q0, q1, qP, va_K.moved (u := U) (U := U.calling g mk a) (Vm.Alike.refl U.vm) qK, qD⟩, va_recv hKc hPc (ci := 3) (q0 := 0) rfl rfl, fun U hU hW => ⟨rfl, by rw [hU], by rw [hU]; exact hPc, va_K.moved hW.alike hKc, hDc.weaken (fun _ _ _ _ => trivial)⟩⟩ rfl rfl hl.1 rfl (lv_room (Nat.le_of_ble_eq_true rfl)) dX3_word_71 ⟨Nat.zero_le _, Nat.zero_le _⟩) hS (fun q _ h => hFc q h) hFc (fun x_18 _ t H1 locs ht hvm hw hB hz1 hk1 hS => ?_)
                  have hw := hw.symm
                  subst hw
                  obtain ⟨hP1, hK1, hD1⟩ := hB
                  rw [ht] at hP1
                  obtain ⟨hP, hD⟩ := va_join (wr := []) (w1 := [(h0, .inr (3, [.int r_2.2, .long v1, .long v2, .long v3, .long v4, .long v5, .long v6, .long v7, .long v8, .long v9, .long v10, .long v11, .long v12, .int v13, .ref h1])), (h1, .inl (cI, 6600, .inl r_12.2))]) hP hD [0, 1] [] rfl rfl (by decide) (by decide) hk1 hFc hP1 hD1
                  generalize H1 = H at hP hS ⊢
                  have hP : va_P (dC, dI) vwCl [(h0, .inr (3, [.int r_2.2, .long v1, .long v2, .long v3, .long v4, .long v5, .long v6, .long v7, .long v8, .long v9, .long v10, .long v11, .long v12, .int v13, .ref h1])), (h1, .inl (cI, 6600, .inl r_12.2))] H := hP
                  have hD : va_D A [(h0, .inr (3, [.int r_2.2, .long v1, .long v2, .long v3, .long v4, .long v5, .long v6, .long v7, .long v8, .long v9, .long v10, .long v11, .long v12, .int v13, .ref h1])), (h1, .inl (cI, 6600, .inl r_12.2))] := hD
                  refine W.widen (k := 0) (n := 0) (Nat.le_refl _) (Nat.le_refl _) ?_
                  refine lv_goto (tgt := 78) hx hb dX3_word_74 (by decide) ?_
                  refine lv_istore (lv' := [(5, .int r_17), (4, .int 0), (3, .int r_12.1), (0, .ref h0), (1, .int a1), (2, .int a2)]) hx hb dX3_word_78 hl (by decide) rfl (fun ls hl => ?_)
                  refine lv_iload hx hb dX3_word_80 (lv_at hl 1 rfl) ?_
                  refine lv_iload hx hb dX3_word_82 (lv_at hl 0 rfl) ?_
                  refine lv_bipush (v := 16) hx hb dX3_word_84 (by decide) ?_
                  refine lv_ishl hx hb dX3_word_86 ?_
                  refine lv_ior hx hb dX3_word_87 ?_
                  have ho := Option.some.inj hr
                  subst ho
                  exact W.iret (v := (0 : Int32) ||| (r_17 <<< ((16 : Int32) &&& 31))) hx hb hrt (fun t ht hW => ⟨⟨(0 : Int32) ||| (r_17 <<< ((16 : Int32) &&& 31)), (), rfl, rfl, by rw [ht]; exact hP, va_K.moved hW.alike hK, hD⟩, hS.F ht⟩) hS.2.2 dX3_word_88
            · have hr := (if_pos c_14).symm.trans hr
              refine lv_aload_n hx hb dX3_word_41 rfl (lv_at hl 1 rfl) ?_
              refine lv_iconst (v := 4) hx hb dX3_word_42 (by decide) ?_
              refine lv_iconst (v := 2) hx hb dX3_word_43 (by decide) ?_
              refine lv_iload_n hx hb dX3_word_44 rfl (lv_at hl 3 rfl) ?_
              refine lv_imul hx hb dX3_word_45 ?_
              cases e_19 : f_X3_get n r_12.2 4 (2 * a2) with
              | none => rw [e_19, Option.bind_none] at hr; cases hr
              | some r_20 =>
                rw [e_19, Option.bind_some] at hr
                have hPc := hP.sub (ws' := [(h0, .inr (3, [.int r_2.2, .long v1, .long v2, .long v3, .long v4, .long v5, .long v6, .long v7, .long v8, .long v9, .long v10, .long v11, .long v12, .int v13, .ref h1])), (h1, .inl (cI, 6600, .inl r_12.2))]) [0, 1] rfl
                have hDc := hD.sub (ws' := [(h0, .inr (3, [.int r_2.2, .long v1, .long v2, .long v3, .long v4, .long v5, .long v6, .long v7, .long v8, .long v9, .long v10, .long v11, .long v12, .int v13, .ref h1])), (h1, .inl (cI, 6600, .inl r_12.2))]) [0, 1] (by decide) rfl
                have hKc := hK.sub (tys' := [(cI, .int)]) [0] rfl
                have hFc := va_free (wc := [(h0, .inr (3, [.int r_2.2, .long v1, .long v2, .long v3, .long v4, .long v5, .long v6, .long v7, .long v8, .long v9, .long v10, .long v11, .long v12, .int v13, .ref h1])), (h1, .inl (cI, 6600, .inl r_12.2))]) hD hS hA [0, 1] rfl
                refine va_calli (va_runV (As := [.int 4, .int (2 * a2)]) (rest := []) ⟨hx, hb, hml, hown, hts⟩ (c_X3_get l dC dI H.size h0 h1 cI r_2.2 v1 v2 v3 v4 v5 v6 v7 v8 v9 v10 v11 v12 v13 r_12.2 4 (2 * a2) n _ e_19) (cwV 2 hts gX3_word_X3_get rfl rfl rfl (by decide +kernel) ⟨Nat.le_of_ble_eq_true rfl, Nat.le_of_ble_eq_true rfl⟩) ⟨fun a U g mk q => by obtain ⟨q0, q1, qP, qK, qD⟩ := q; exact ⟨q0, q1, qP, va_K.moved (u := U) (U := U.calling g mk a) (Vm.Alike.refl U.vm) qK, qD⟩, va_recv hKc hPc (ci := 3) (q0 := 0) rfl rfl, fun U hU hW => ⟨rfl, by rw [hU], by rw [hU]; exact hPc, va_K.moved hW.alike hKc, hDc.weaken (fun _ _ _ _ => trivial)⟩⟩ rfl rfl hl.1 rfl (lv_room (Nat.le_of_ble_eq_true rfl)) dX3_word_46 ⟨Nat.zero_le _, Nat.zero_le _⟩) hS (fun q _ h => hFc q h) hFc (fun x_21 _ t H1 locs ht hvm hw hB hz1 hk1 hS => ?_)
                have hw := hw.symm
                subst hw
                obtain ⟨hP1, hK1, hD1⟩ := hB
                rw [ht] at hP1
                obtain ⟨hP, hD⟩ := va_join (wr := []) (w1 := [(h0, .inr (3, [.int r_2.2, .long v1, .long v2, .long v3, .long v4, .long v5, .long v6, .long v7, .long v8, .long v9, .long v10, .long v11, .long v12, .int v13, .ref h1])), (h1, .inl (cI, 6600, .inl r_12.2))]) hP hD [0, 1] [] rfl rfl (by decide) (by decide) hk1 hFc hP1 hD1
                generalize H1 = H at hP hS ⊢
                have hP : va_P (dC, dI) vwCl [(h0, .inr (3, [.int r_2.2, .long v1, .long v2, .long v3, .long v4, .long v5, .long v6, .long v7, .long v8, .long v9, .long v10, .long v11, .long v12, .int v13, .ref h1])), (h1, .inl (cI, 6600, .inl r_12.2))] H := hP
                have hD : va_D A [(h0, .inr (3, [.int r_2.2, .long v1, .long v2, .long v3, .long v4, .long v5, .long v6, .long v7, .long v8, .long v9, .long v10, .long v11, .long v12, .int v13, .ref h1])), (h1, .inl (cI, 6600, .inl r_12.2))] := hD
                refine W.widen (k := 0) (n := 0) (Nat.le_refl _) (Nat.le_refl _) ?_
                refine lv_goto (tgt := 53) hx hb dX3_word_49 (by decide) ?_
                refine lv_istore (lv' := [(4, .int r_20), (3, .int r_12.1), (0, .ref h0), (1, .int a1), (2, .int a2)]) hx hb dX3_word_53 hl (by decide) rfl (fun ls hl => ?_)
                refine lv_iconst (v := 2) hx hb dX3_word_55 (by decide) ?_
                refine lv_iload_n hx hb dX3_word_56 rfl (lv_at hl 4 rfl) ?_
                refine lv_imul hx hb dX3_word_57 ?_
                refine lv_iconst (v := 1) hx hb dX3_word_58 (by decide) ?_
                refine lv_iadd hx hb dX3_word_59 ?_
                refine lv_iload_n hx hb dX3_word_60 rfl (lv_at hl 1 rfl) ?_
                refine lz_ige (tgt := 77) hx hb dX3_word_61 (by decide) (fun c_22 => ?_) (fun c_22 => ?_)
                · have hr := (if_neg c_22).symm.trans hr
                  refine lv_iconst (v := 0) hx hb dX3_word_77 (by decide) ?_
                  refine lv_istore (lv' := [(5, .int 0), (4, .int r_20), (3, .int r_12.1), (0, .ref h0), (1, .int a1), (2, .int a2)]) hx hb dX3_word_78 hl (by decide) rfl (fun ls hl => ?_)
                  refine lv_iload hx hb dX3_word_80 (lv_at hl 1 rfl) ?_
                  refine lv_iload hx hb dX3_word_82 (lv_at hl 0 rfl) ?_
                  refine lv_bipush (v := 16) hx hb dX3_word_84 (by decide) ?_
                  refine lv_ishl hx hb dX3_word_86 ?_
                  refine lv_ior hx hb dX3_word_87 ?_
                  have ho := Option.some.inj hr
                  subst ho
                  exact W.iret (v := r_20 ||| ((0 : Int32) <<< ((16 : Int32) &&& 31))) hx hb hrt (fun t ht hW => ⟨⟨r_20 ||| ((0 : Int32) <<< ((16 : Int32) &&& 31)), (), rfl, rfl, by rw [ht]; exact hP, va_K.moved hW.alike hK, hD⟩, hS.F ht⟩) hS.2.2 dX3_word_88
                · have hr := (if_pos c_22).symm.trans hr
                  refine lv_aload_n hx hb dX3_word_64 rfl (lv_at hl 2 rfl) ?_
                  refine lv_iconst (v := 4) hx hb dX3_word_65 (by decide) ?_
                  refine lv_iconst (v := 2) hx hb dX3_word_66 (by decide) ?_
                  refine lv_iload_n hx hb dX3_word_67 rfl (lv_at hl 4 rfl) ?_
                  refine lv_imul hx hb dX3_word_68 ?_
                  refine lv_iconst (v := 1) hx hb dX3_word_69 (by decide) ?_
                  refine lv_iadd hx hb dX3_word_70 ?_
                  cases e_23 : f_X3_get n r_12.2 4 ((2 * a2) + 1) with
                  | none => rw [e_23, Option.bind_none] at hr; cases hr
                  | some r_24 =>
                    rw [e_23, Option.bind_some] at hr
                    have hPc := hP.sub (ws' := [(h0, .inr (3, [.int r_2.2, .long v1, .long v2, .long v3, .long v4, .long v5, .long v6, .long v7, .long v8, .long v9, .long v10, .long v11, .long v12, .int v13, .ref h1])), (h1, .inl (cI, 6600, .inl r_12.2))]) [0, 1] rfl
                    have hDc := hD.sub (ws' := [(h0, .inr (3, [.int r_2.2, .long v1, .long v2, .long v3, .long v4, .long v5, .long v6, .long v7, .long v8, .long v9, .long v10, .long v11, .long v12, .int v13, .ref h1])), (h1, .inl (cI, 6600, .inl r_12.2))]) [0, 1] (by decide) rfl
                    have hKc := hK.sub (tys' := [(cI, .int)]) [0] rfl
                    have hFc := va_free (wc := [(h0, .inr (3, [.int r_2.2, .long v1, .long v2, .long v3, .long v4, .long v5, .long v6, .long v7, .long v8, .long v9, .long v10, .long v11, .long v12, .int v13, .ref h1])), (h1, .inl (cI, 6600, .inl r_12.2))]) hD hS hA [0, 1] rfl
                    refine va_calli (va_runV (As := [.int 4, .int ((2 * a2) + 1)]) (rest := []) ⟨hx, hb, hml, hown, hts⟩ (c_X3_get l dC dI H.size h0 h1 cI r_2.2 v1 v2 v3 v4 v5 v6 v7 v8 v9 v10 v11 v12 v13 r_12.2 4 ((2 * a2) + 1) n _ e_23) (cwV 2 hts gX3_word_X3_get rfl rfl rfl (by decide +kernel) ⟨Nat.le_of_ble_eq_true rfl, Nat.le_of_ble_eq_true rfl⟩) ⟨fun a U g mk q => by obtain ⟨q0, q1, qP, qK, qD⟩ := q; exact ⟨q0, q1, qP, va_K.moved (u := U) (U := U.calling g mk a) (Vm.Alike.refl U.vm) qK, qD⟩, va_recv hKc hPc (ci := 3) (q0 := 0) rfl rfl, fun U hU hW => ⟨rfl, by rw [hU], by rw [hU]; exact hPc, va_K.moved hW.alike hKc, hDc.weaken (fun _ _ _ _ => trivial)⟩⟩ rfl rfl hl.1 rfl (lv_room (Nat.le_of_ble_eq_true rfl)) dX3_word_71 ⟨Nat.zero_le _, Nat.zero_le _⟩) hS (fun q _ h => hFc q h) hFc (fun x_25 _ t H1 locs ht hvm hw hB hz1 hk1 hS => ?_)
                    have hw := hw.symm
                    subst hw
                    obtain ⟨hP1, hK1, hD1⟩ := hB
                    rw [ht] at hP1
                    obtain ⟨hP, hD⟩ := va_join (wr := []) (w1 := [(h0, .inr (3, [.int r_2.2, .long v1, .long v2, .long v3, .long v4, .long v5, .long v6, .long v7, .long v8, .long v9, .long v10, .long v11, .long v12, .int v13, .ref h1])), (h1, .inl (cI, 6600, .inl r_12.2))]) hP hD [0, 1] [] rfl rfl (by decide) (by decide) hk1 hFc hP1 hD1
                    generalize H1 = H at hP hS ⊢
                    have hP : va_P (dC, dI) vwCl [(h0, .inr (3, [.int r_2.2, .long v1, .long v2, .long v3, .long v4, .long v5, .long v6, .long v7, .long v8, .long v9, .long v10, .long v11, .long v12, .int v13, .ref h1])), (h1, .inl (cI, 6600, .inl r_12.2))] H := hP
                    have hD : va_D A [(h0, .inr (3, [.int r_2.2, .long v1, .long v2, .long v3, .long v4, .long v5, .long v6, .long v7, .long v8, .long v9, .long v10, .long v11, .long v12, .int v13, .ref h1])), (h1, .inl (cI, 6600, .inl r_12.2))] := hD
                    refine W.widen (k := 0) (n := 0) (Nat.le_refl _) (Nat.le_refl _) ?_
                    refine lv_goto (tgt := 78) hx hb dX3_word_74 (by decide) ?_
                    refine lv_istore (lv' := [(5, .int r_24), (4, .int r_20), (3, .int r_12.1), (0, .ref h0), (1, .int a1), (2, .int a2)]) hx hb dX3_word_78 hl (by decide) rfl (fun ls hl => ?_)
                    refine lv_iload hx hb dX3_word_80 (lv_at hl 1 rfl) ?_
                    refine lv_iload hx hb dX3_word_82 (lv_at hl 0 rfl) ?_
                    refine lv_bipush (v := 16) hx hb dX3_word_84 (by decide) ?_
                    refine lv_ishl hx hb dX3_word_86 ?_
                    refine lv_ior hx hb dX3_word_87 ?_
                    have ho := Option.some.inj hr
                    subst ho
                    exact W.iret (v := r_20 ||| (r_24 <<< ((16 : Int32) &&& 31))) hx hb hrt (fun t ht hW => ⟨⟨r_20 ||| (r_24 <<< ((16 : Int32) &&& 31)), (), rfl, rfl, by rw [ht]; exact hP, va_K.moved hW.alike hK, hD⟩, hS.F ht⟩) hS.2.2 dX3_word_88
        · have hr := (if_pos c_10).symm.trans hr
          refine lv_aload_n hx hb dX3_word_22 rfl (lv_at hl 0 rfl) ?_
          refine lv_iconst (v := 1) hx hb dX3_word_23 (by decide) ?_
          cases e_26 : f_X3_raise n 1 with
          | none => rw [e_26, Option.bind_none] at hr; cases hr
          | some r_27 =>
            rw [e_26, Option.bind_some] at hr
            have hPc := hP.sub (ws' := [(h0, .inr (3, [.int r_2.2, .long v1, .long v2, .long v3, .long v4, .long v5, .long v6, .long v7, .long v8, .long v9, .long v10, .long v11, .long v12, .int v13, .ref h1])), (h1, .inl (cI, 6600, .inl vR))]) [0, 1] rfl
            have hDc := hD.sub (ws' := [(h0, .inr (3, [.int r_2.2, .long v1, .long v2, .long v3, .long v4, .long v5, .long v6, .long v7, .long v8, .long v9, .long v10, .long v11, .long v12, .int v13, .ref h1])), (h1, .inl (cI, 6600, .inl vR))]) [0, 1] (by decide) rfl
            have hKc := hK.sub (tys' := [(cI, .int)]) [0] rfl
            have hFc := va_free (wc := [(h0, .inr (3, [.int r_2.2, .long v1, .long v2, .long v3, .long v4, .long v5, .long v6, .long v7, .long v8, .long v9, .long v10, .long v11, .long v12, .int v13, .ref h1])), (h1, .inl (cI, 6600, .inl vR))]) hD hS hA [0, 1] rfl
            refine va_calli (va_runV (As := [.int 1]) (rest := []) ⟨hx, hb, hml, hown, hts⟩ (c_X3_raise l dC dI H.size h0 h1 cI r_2.2 v1 v2 v3 v4 v5 v6 v7 v8 v9 v10 v11 v12 v13 vR 1 n _ e_26) (cwV 1 hts gX3_word_X3_raise rfl rfl rfl (by decide +kernel) ⟨Nat.le_of_ble_eq_true rfl, Nat.le_of_ble_eq_true rfl⟩) ⟨fun a U g mk q => by obtain ⟨q0, q1, qP, qK, qD⟩ := q; exact ⟨q0, q1, qP, va_K.moved (u := U) (U := U.calling g mk a) (Vm.Alike.refl U.vm) qK, qD⟩, va_recv hKc hPc (ci := 3) (q0 := 0) rfl rfl, fun U hU hW => ⟨rfl, by rw [hU], by rw [hU]; exact hPc, va_K.moved hW.alike hKc, hDc.weaken (fun _ _ _ _ => trivial)⟩⟩ rfl rfl hl.1 rfl (lv_room (Nat.le_of_ble_eq_true rfl)) dX3_word_24 ⟨Nat.zero_le _, Nat.zero_le _⟩) hS (fun q _ h => hFc q h) hFc (fun x_28 _ t H1 locs ht hvm hw hB hz1 hk1 hS => ?_)
            have hw := hw.symm
            subst hw
            obtain ⟨hP1, hK1, hD1⟩ := hB
            rw [ht] at hP1
            obtain ⟨hP, hD⟩ := va_join (wr := []) (w1 := [(h0, .inr (3, [.int r_27.2, .long v1, .long v2, .long v3, .long v4, .long v5, .long v6, .long v7, .long v8, .long v9, .long v10, .long v11, .long v12, .int v13, .ref h1])), (h1, .inl (cI, 6600, .inl vR))]) hP hD [0, 1] [] rfl rfl (by decide) (by decide) hk1 hFc hP1 hD1
            generalize H1 = H at hP hS ⊢
            have hP : va_P (dC, dI) vwCl [(h0, .inr (3, [.int r_27.2, .long v1, .long v2, .long v3, .long v4, .long v5, .long v6, .long v7, .long v8, .long v9, .long v10, .long v11, .long v12, .int v13, .ref h1])), (h1, .inl (cI, 6600, .inl vR))] H := hP
            have hD : va_D A [(h0, .inr (3, [.int r_27.2, .long v1, .long v2, .long v3, .long v4, .long v5, .long v6, .long v7, .long v8, .long v9, .long v10, .long v11, .long v12, .int v13, .ref h1])), (h1, .inl (cI, 6600, .inl vR))] := hD
            refine W.widen (k := 0) (n := 0) (Nat.le_refl _) (Nat.le_refl _) ?_
            have ho := Option.some.inj hr
            subst ho
            exact W.iret (v := r_27.1) hx hb hrt (fun t ht hW => ⟨⟨r_27.1, (), rfl, rfl, by rw [ht]; exact hP, va_K.moved hW.alike hK, hD⟩, hS.F ht⟩) hS.2.2 dX3_word_27
    · have hr := (if_pos c_5).symm.trans hr
      refine lv_iconst (v := 0) hx hb dX3_word_8 (by decide) ?_
      have ho := Option.some.inj hr
      subst ho
      exact W.iret (v := 0) hx hb hrt (fun t ht hW => ⟨⟨0, (), rfl, rfl, by rw [ht]; exact hP, va_K.moved hW.alike hK, hD⟩, hS.F ht⟩) hS.2.2 dX3_word_9

def f_X3_residue_32 (n : Nat) : Nat → (v13 : Int32) → (a1 : Int32) → (a2 : Int32) → Int64 → Int32 → (Nat → Int32) → Int32 → Option (Int32 × (Nat → Int32) × Int32)
  | 0, _, _, _, _, _, _, _ => none
  | k + 1, v13, a1, a2, u3, u5, w1, w0_0 => if u5 < 0 then ((f_X3_isBelow n v13 w1 a1).bind (fun r_3 => if r_3 = 0 then (some (u3.toInt32, w1, w0_0)) else (if 0 < u3 then (some ((a2.toInt64 - u3).toInt32, w1, w0_0)) else (some (u3.toInt32, w1, w0_0))))) else ((f_X3_get n w1 4 u5).bind (fun r_9 => if a2.toInt64 = 0 then none else (f_X3_residue_32 n k v13 a1 a2 (((u3 * 65536) + r_9.toInt64) - ((u3 * 65536) + r_9.toInt64) / a2.toInt64 * a2.toInt64) (u5 + (-1)) w1 w0_0)))
set_option maxHeartbeats 4000000 in
set_option maxRecDepth 100000 in
theorem k_X3_residue_32 {p : Program} {l : Launch} {e : Env} {s : State} {m : MethodId} {args : Array Value} {below : List Frame} {meth : Method} {c : Code} {dC : Nat → ClassId} {dI : Nat → Nat → Nat} {A : Nat → Prop} {h0 : Nat} {h1 : Nat} {cI : ClassId} {v1 : Int64} {v2 : Int64} {v3 : Int64} {v4 : Int64} {v5 : Int64} {v6 : Int64} {v7 : Int64} {v8 : Int64} {v9 : Int64} {v10 : Int64} {v11 : Int64} {v12 : Int64} {v13 : Int32} {a1 : Int32} {a2 : Int32} (hx : p.tables.exec = Jvm.exec) (hb : c.code = cX3_residue) (hrt : meth.sig.returnType = (some .int)) (hml : c.maxLocals = 6) (hown : s.vm.findClass RX3 = some m.cls) (hlocks : meth.locks = false) (hts : ∀ w ∈ wsX3_residue, w.before args s = true) (hA : ∀ q : Nat, s.heap.size ≤ q → A q) (hK : va_K (dC, dI) vwCl [(cI, .int)] s)  (n : Nat) (out : Int32 × (Nat → Int32) × Int32) :
    ∀ (k : Nat) (u3 : Int64) (u5 : Int32) (w1 : Nat → Int32) (w0_0 : Int32), f_X3_residue_32 n k v13 a1 a2 u3 u5 w1 w0_0 = some out → ∀ (H : Heap) (locs : List Loc) (ls : Array Slot), va_P (dC, dI) vwCl [(h0, .inr (3, [.int w0_0, .long v1, .long v2, .long v3, .long v4, .long v5, .long v6, .long v7, .long v8, .long v9, .long v10, .long v11, .long v12, .int v13, .ref h1])), (h1, .inl (cI, 6600, .inl w1))] H → va_D A [(h0, .inr (3, [.int w0_0, .long v1, .long v2, .long v3, .long v4, .long v5, .long v6, .long v7, .long v8, .long v9, .long v10, .long v11, .long v12, .int v13, .ref h1])), (h1, .inl (cI, 6600, .inl w1))] → va_S A s.heap H locs → lv_has ls 6 [(0, .ref h0), (1, .int a1), (2, .int a2), (3, .long u3), (5, .int u5)] → W p l e ({ frames := 3, cells := 0, slots := 0, locals := 70 }) s m args below meth c H locs 0 0 (MQ below (va_Qi (fun r (_ : Unit) => r = out.1) (fun (_ : Unit) t => zB dC dI [(cI, .int)] A [(h0, .inr (3, [.int out.2.2, .long v1, .long v2, .long v3, .long v4, .long v5, .long v6, .long v7, .long v8, .long v9, .long v10, .long v11, .long v12, .int v13, .ref h1])), (h1, .inl (cI, 6600, .inl out.2.1))] t) A) args s 0 0 A) (F0 m 32 ls []) := by
  intro k
  induction k with
  | zero => intro u3 u5 w1 w0_0 hr; rw [f_X3_residue_32] at hr; cases hr
  | succ k ih =>
    intro u3 u5 w1 w0_0 hr H locs ls hP hD hS hl
    rw [f_X3_residue_32] at hr
    refine lv_iload hx hb dX3_residue_32 (lv_at hl 4 rfl) ?_
    refine lz_zlt (tgt := 61) hx hb dX3_residue_34 (by decide) (fun c_1 => ?_) (fun c_1 => ?_)
    · have hr := (if_pos c_1).symm.trans hr
      refine lv_aload_n hx hb dX3_residue_61 rfl (lv_at hl 0 rfl) ?_
      refine lv_iload_n hx hb dX3_residue_62 rfl (lv_at hl 1 rfl) ?_
      cases e_2 : f_X3_isBelow n v13 w1 a1 with
      | none => rw [e_2, Option.bind_none] at hr; cases hr
      | some r_3 =>
        rw [e_2, Option.bind_some] at hr
        have hPc := hP.sub (ws' := [(h0, .inr (3, [.int w0_0, .long v1, .long v2, .long v3, .long v4, .long v5, .long v6, .long v7, .long v8, .long v9, .long v10, .long v11, .long v12, .int v13, .ref h1])), (h1, .inl (cI, 6600, .inl w1))]) [0, 1] rfl
        have hDc := hD.sub (ws' := [(h0, .inr (3, [.int w0_0, .long v1, .long v2, .long v3, .long v4, .long v5, .long v6, .long v7, .long v8, .long v9, .long v10, .long v11, .long v12, .int v13, .ref h1])), (h1, .inl (cI, 6600, .inl w1))]) [0, 1] (by decide) rfl
        have hKc := hK.sub (tys' := [(cI, .int)]) [0] rfl
        have hFc := va_free (wc := [(h0, .inr (3, [.int w0_0, .long v1, .long v2, .long v3, .long v4, .long v5, .long v6, .long v7, .long v8, .long v9, .long v10, .long v11, .long v12, .int v13, .ref h1])), (h1, .inl (cI, 6600, .inl w1))]) hD hS hA [0, 1] rfl
        refine va_calli (va_runV (As := [.int a1]) (rest := []) ⟨hx, hb, hml, hown, hts⟩ (c_X3_isBelow l dC dI H.size h0 h1 cI w0_0 v1 v2 v3 v4 v5 v6 v7 v8 v9 v10 v11 v12 v13 w1 a1 n _ e_2) (cwV 1 hts gX3_residue_X3_isBelow rfl rfl rfl (by decide +kernel) ⟨Nat.le_of_ble_eq_true rfl, Nat.le_of_ble_eq_true rfl⟩) ⟨fun a U g mk q => by obtain ⟨q0, q1, qP, qK, qD⟩ := q; exact ⟨q0, q1, qP, va_K.moved (u := U) (U := U.calling g mk a) (Vm.Alike.refl U.vm) qK, qD⟩, va_recv hKc hPc (ci := 3) (q0 := 0) rfl rfl, fun U hU hW => ⟨rfl, by rw [hU], by rw [hU]; exact hPc, va_K.moved hW.alike hKc, hDc.weaken (fun _ _ _ _ => trivial)⟩⟩ rfl rfl hl.1 rfl (lv_room (Nat.le_of_ble_eq_true rfl)) dX3_residue_63 ⟨Nat.zero_le _, Nat.zero_le _⟩) hS (fun q _ h => hFc q h) hFc (fun x_4 _ t H1 locs ht hvm hw hB hz1 hk1 hS => ?_)
        obtain ⟨hw, z_5⟩ := hw
        have hw := hw.symm
        subst hw
        obtain ⟨hP1, hK1, hD1⟩ := hB
        rw [ht] at hP1
        obtain ⟨hP, hD⟩ := va_join (wr := []) (w1 := [(h0, .inr (3, [.int w0_0, .long v1, .long v2, .long v3, .long v4, .long v5, .long v6, .long v7, .long v8, .long v9, .long v10, .long v11, .long v12, .int v13, .ref h1])), (h1, .inl (cI, 6600, .inl w1))]) hP hD [0, 1] [] rfl rfl (by decide) (by decide) hk1 hFc hP1 hD1
        generalize H1 = H at hP hS ⊢
        have hP : va_P (dC, dI) vwCl [(h0, .inr (3, [.int w0_0, .long v1, .long v2, .long v3, .long v4, .long v5, .long v6, .long v7, .long v8, .long v9, .long v10, .long v11, .long v12, .int v13, .ref h1])), (h1, .inl (cI, 6600, .inl w1))] H := hP
        have hD : va_D A [(h0, .inr (3, [.int w0_0, .long v1, .long v2, .long v3, .long v4, .long v5, .long v6, .long v7, .long v8, .long v9, .long v10, .long v11, .long v12, .int v13, .ref h1])), (h1, .inl (cI, 6600, .inl w1))] := hD
        refine W.widen (k := 0) (n := 0) (Nat.le_refl _) (Nat.le_refl _) ?_
        refine lz_zeq (tgt := 82) hx hb dX3_residue_66 (by decide) (fun c_6 => ?_) (fun c_6 => ?_)
        · have hr := (if_pos c_6).symm.trans hr
          refine lv_lload_n hx hb dX3_residue_82 rfl (lv_at hl 3 rfl) ?_
          refine lv_l2i hx hb dX3_residue_83 rfl ?_
          have ho := Option.some.inj hr
          subst ho
          exact W.iret (v := u3.toInt32) hx hb hrt (fun t ht hW => ⟨⟨u3.toInt32, (), rfl, rfl, by rw [ht]; exact hP, va_K.moved hW.alike hK, hD⟩, hS.F ht⟩) hS.2.2 dX3_residue_84
        · have hr := (if_neg c_6).symm.trans hr
          refine lv_lload_n hx hb dX3_residue_69 rfl (lv_at hl 3 rfl) ?_
          refine lv_lconst (v := 0) hx hb dX3_residue_70 (by decide) ?_
          refine lz_lle (tgt := 82) hx hb dX3_residue_71 dX3_residue_72 (by decide) (fun c_7 => ?_) (fun c_7 => ?_)
          · have hr := (if_neg c_7).symm.trans hr
            refine lv_lload_n hx hb dX3_residue_82 rfl (lv_at hl 3 rfl) ?_
            refine lv_l2i hx hb dX3_residue_83 rfl ?_
            have ho := Option.some.inj hr
            subst ho
            exact W.iret (v := u3.toInt32) hx hb hrt (fun t ht hW => ⟨⟨u3.toInt32, (), rfl, rfl, by rw [ht]; exact hP, va_K.moved hW.alike hK, hD⟩, hS.F ht⟩) hS.2.2 dX3_residue_84
          · have hr := (if_pos c_7).symm.trans hr
            refine lv_iload_n hx hb dX3_residue_75 rfl (lv_at hl 2 rfl) ?_
            refine lv_i2l hx hb dX3_residue_76 rfl ?_
            refine lv_lload_n hx hb dX3_residue_77 rfl (lv_at hl 3 rfl) ?_
            refine lv_lsub hx hb dX3_residue_78 ?_
            refine lv_goto (tgt := 83) hx hb dX3_residue_79 (by decide) ?_
            refine lv_l2i hx hb dX3_residue_83 rfl ?_
            have ho := Option.some.inj hr
            subst ho
            exact W.iret (v := (a2.toInt64 - u3).toInt32) hx hb hrt (fun t ht hW => ⟨⟨(a2.toInt64 - u3).toInt32, (), rfl, rfl, by rw [ht]; exact hP, va_K.moved hW.alike hK, hD⟩, hS.F ht⟩) hS.2.2 dX3_residue_84
    · have hr := (if_neg c_1).symm.trans hr
      refine lv_lload_n hx hb dX3_residue_37 rfl (lv_at hl 3 rfl) ?_
      refine lv_ldc2 (v := 65536) hx hb hown (hts (.constantLong RX3 178 (65536)) (by decide +kernel)) dX3_residue_38 ?_
      refine lv_lmul hx hb dX3_residue_41 ?_
      refine lv_aload_n hx hb dX3_residue_42 rfl (lv_at hl 0 rfl) ?_
      refine lv_iconst (v := 4) hx hb dX3_residue_43 (by decide) ?_
      refine lv_iload hx hb dX3_residue_44 (lv_at hl 4 rfl) ?_
      cases e_8 : f_X3_get n w1 4 u5 with
      | none => rw [e_8, Option.bind_none] at hr; cases hr
      | some r_9 =>
        rw [e_8, Option.bind_some] at hr
        have hPc := hP.sub (ws' := [(h0, .inr (3, [.int w0_0, .long v1, .long v2, .long v3, .long v4, .long v5, .long v6, .long v7, .long v8, .long v9, .long v10, .long v11, .long v12, .int v13, .ref h1])), (h1, .inl (cI, 6600, .inl w1))]) [0, 1] rfl
        have hDc := hD.sub (ws' := [(h0, .inr (3, [.int w0_0, .long v1, .long v2, .long v3, .long v4, .long v5, .long v6, .long v7, .long v8, .long v9, .long v10, .long v11, .long v12, .int v13, .ref h1])), (h1, .inl (cI, 6600, .inl w1))]) [0, 1] (by decide) rfl
        have hKc := hK.sub (tys' := [(cI, .int)]) [0] rfl
        have hFc := va_free (wc := [(h0, .inr (3, [.int w0_0, .long v1, .long v2, .long v3, .long v4, .long v5, .long v6, .long v7, .long v8, .long v9, .long v10, .long v11, .long v12, .int v13, .ref h1])), (h1, .inl (cI, 6600, .inl w1))]) hD hS hA [0, 1] rfl
        refine va_calli (va_runV (As := [.int 4, .int u5]) (rest := [.long (u3 * 65536)]) ⟨hx, hb, hml, hown, hts⟩ (c_X3_get l dC dI H.size h0 h1 cI w0_0 v1 v2 v3 v4 v5 v6 v7 v8 v9 v10 v11 v12 v13 w1 4 u5 n _ e_8) (cwV 2 hts gX3_residue_X3_get rfl rfl rfl (by decide +kernel) ⟨Nat.le_of_ble_eq_true rfl, Nat.le_of_ble_eq_true rfl⟩) ⟨fun a U g mk q => by obtain ⟨q0, q1, qP, qK, qD⟩ := q; exact ⟨q0, q1, qP, va_K.moved (u := U) (U := U.calling g mk a) (Vm.Alike.refl U.vm) qK, qD⟩, va_recv hKc hPc (ci := 3) (q0 := 0) rfl rfl, fun U hU hW => ⟨rfl, by rw [hU], by rw [hU]; exact hPc, va_K.moved hW.alike hKc, hDc.weaken (fun _ _ _ _ => trivial)⟩⟩ rfl rfl hl.1 rfl (lv_room (Nat.le_of_ble_eq_true rfl)) dX3_residue_46 ⟨Nat.zero_le _, Nat.zero_le _⟩) hS (fun q _ h => hFc q h) hFc (fun x_10 _ t H1 locs ht hvm hw hB hz1 hk1 hS => ?_)
        have hw := hw.symm
        subst hw
        obtain ⟨hP1, hK1, hD1⟩ := hB
        rw [ht] at hP1
        obtain ⟨hP, hD⟩ := va_join (wr := []) (w1 := [(h0, .inr (3, [.int w0_0, .long v1, .long v2, .long v3, .long v4, .long v5, .long v6, .long v7, .long v8, .long v9, .long v10, .long v11, .long v12, .int v13, .ref h1])), (h1, .inl (cI, 6600, .inl w1))]) hP hD [0, 1] [] rfl rfl (by decide) (by decide) hk1 hFc hP1 hD1
        generalize H1 = H at hP hS ⊢
        have hP : va_P (dC, dI) vwCl [(h0, .inr (3, [.int w0_0, .long v1, .long v2, .long v3, .long v4, .long v5, .long v6, .long v7, .long v8, .long v9, .long v10, .long v11, .long v12, .int v13, .ref h1])), (h1, .inl (cI, 6600, .inl w1))] H := hP
        have hD : va_D A [(h0, .inr (3, [.int w0_0, .long v1, .long v2, .long v3, .long v4, .long v5, .long v6, .long v7, .long v8, .long v9, .long v10, .long v11, .long v12, .int v13, .ref h1])), (h1, .inl (cI, 6600, .inl w1))] := hD
        refine W.widen (k := 0) (n := 0) (Nat.le_refl _) (Nat.le_refl _) ?_
        refine lv_i2l hx hb dX3_residue_49 rfl ?_
        refine lv_ladd hx hb dX3_residue_50 ?_
        refine lv_iload_n hx hb dX3_residue_51 rfl (lv_at hl 2 rfl) ?_
        refine lv_i2l hx hb dX3_residue_52 rfl ?_
        by_cases g_11 : a2.toInt64 = 0
        · have hr := (if_pos g_11).symm.trans hr
          cases hr
        have hr := (if_neg g_11).symm.trans hr
        refine lv_lrem hx hb dX3_residue_53 g_11 ?_
        refine lv_lstore_n (lv' := [(3, .long (((u3 * 65536) + r_9.toInt64) - ((u3 * 65536) + r_9.toInt64) / a2.toInt64 * a2.toInt64)), (0, .ref h0), (1, .int a1), (2, .int a2), (5, .int u5)]) hx hb dX3_residue_54 rfl hl (by decide) rfl (fun ls hl => ?_)
        refine lv_iinc (v := u5 + (-1)) (lv' := [(5, .int (u5 + (-1))), (3, .long (((u3 * 65536) + r_9.toInt64) - ((u3 * 65536) + r_9.toInt64) / a2.toInt64 * a2.toInt64)), (0, .ref h0), (1, .int a1), (2, .int a2)]) hx hb dX3_residue_55 hl (k := 4) rfl rfl (by decide) rfl (fun ls hl => ?_)
        refine lv_goto (tgt := 32) hx hb dX3_residue_58 (by decide) ?_
        exact ih (((u3 * 65536) + r_9.toInt64) - ((u3 * 65536) + r_9.toInt64) / a2.toInt64 * a2.toInt64) (u5 + (-1)) w1 w0_0 hr _ _ _ hP hD hS (lv_sub hl [2, 3, 4, 1, 0] rfl)
def f_X3_residue (n : Nat) (v13 : Int32) (vR : Nat → Int32) (a1 : Int32) (a2 : Int32) : Option (Int32 × (Nat → Int32) × Int32) := (f_X3_isNumber n a1).bind (fun r_2 => if r_2.1 = 0 then (some (0, vR, r_2.2)) else (if a2 < 1 then ((f_X3_raise n 2).bind (fun r_11 => some (r_11.1, vR, r_11.2))) else ((f_X3_sized n v13 vR a1).bind (fun r_8 => f_X3_residue_32 n n v13 a1 a2 0 (r_8.1 - 1) r_8.2 r_2.2))))
set_option maxHeartbeats 4000000 in
set_option maxRecDepth 100000 in
theorem c_X3_residue (l : Launch) (dC : Nat → ClassId) (dI : Nat → Nat → Nat) (sz : Nat) (h0 : Nat) (h1 : Nat) (cI : ClassId) (v0 : Int32) (v1 : Int64) (v2 : Int64) (v3 : Int64) (v4 : Int64) (v5 : Int64) (v6 : Int64) (v7 : Int64) (v8 : Int64) (v9 : Int64) (v10 : Int64) (v11 : Int64) (v12 : Int64) (v13 : Int32) (vR : Nat → Int32) (a1 : Int32) (a2 : Int32)  (n : Nat) (out : Int32 × (Nat → Int32) × Int32) (hr : f_X3_residue n v13 vR a1 a2 = some out) : Met l yX3_residue wsX3_residue ({ frames := 3, cells := 0, slots := 0, locals := 70 }) (va_Pc [.ref h0, .int a1, .int a2] (zP dC dI [(cI, .int)] [(h0, .inr (3, [.int v0, .long v1, .long v2, .long v3, .long v4, .long v5, .long v6, .long v7, .long v8, .long v9, .long v10, .long v11, .long v12, .int v13, .ref h1])), (h1, .inl (cI, 6600, .inl vR))] sz)) (va_Qi (fun r (_ : Unit) => r = out.1) (fun (_ : Unit) t => zB dC dI [(cI, .int)] (va_A [(h0, .inr (3, [.int v0, .long v1, .long v2, .long v3, .long v4, .long v5, .long v6, .long v7, .long v8, .long v9, .long v10, .long v11, .long v12, .int v13, .ref h1])), (h1, .inl (cI, 6600, .inl vR))] sz) [(h0, .inr (3, [.int out.2.2, .long v1, .long v2, .long v3, .long v4, .long v5, .long v6, .long v7, .long v8, .long v9, .long v10, .long v11, .long v12, .int v13, .ref h1])), (h1, .inl (cI, 6600, .inl out.2.1))] t) (va_A [(h0, .inr (3, [.int v0, .long v1, .long v2, .long v3, .long v4, .long v5, .long v6, .long v7, .long v8, .long v9, .long v10, .long v11, .long v12, .int v13, .ref h1])), (h1, .inl (cI, 6600, .inl vR))] sz)) 0 0 (va_A [(h0, .inr (3, [.int v0, .long v1, .long v2, .long v3, .long v4, .long v5, .long v6, .long v7, .long v8, .long v9, .long v10, .long v11, .long v12, .int v13, .ref h1])), (h1, .inl (cI, 6600, .inl vR))] sz) := by
  refine Met.ofW (cc := cX3_residue) (maxL := 6) (ret := (some .int)) (by decide) rfl ?_
  intro p e s m args below meth c s₁ B hml hv
  obtain ⟨rfl, hsz, hP, hK, hD0⟩ := hv
  have hx := B.exec
  have hb := B.bytes
  have hrt := B.returns
  have hts := atoms_spec (ws := wsX3_residue) B.pre
  have hown : s.vm.findClass RX3 = some m.cls := findClass_of_methodNamed B.named
  have hlocks := B.notSynchronized
  subst hsz
  have hD := hD0.self (sz := s.heap.size)
  generalize hAe : va_A [(h0, .inr (3, [.int v0, .long v1, .long v2, .long v3, .long v4, .long v5, .long v6, .long v7, .long v8, .long v9, .long v10, .long v11, .long v12, .int v13, .ref h1])), (h1, .inl (cI, 6600, .inl vR))] s.heap.size = A at hD ⊢
  have hA : ∀ q : Nat, s.heap.size ≤ q → A q := fun q h => by rw [← hAe]; exact Or.inr h
  have hS : va_S A s.heap s.heap [] := va_S.rf
  have hP : va_P (dC, dI) vwCl [(h0, .inr (3, [.int v0, .long v1, .long v2, .long v3, .long v4, .long v5, .long v6, .long v7, .long v8, .long v9, .long v10, .long v11, .long v12, .int v13, .ref h1])), (h1, .inl (cI, 6600, .inl vR))] s.heap := hP
  have hl := lv_entry ([.ref h0, .int a1, .int a2]) (n := 6) (Nat.le_of_ble_eq_true rfl)
  rw [lg_entry_eq]
  generalize (lg_sl ([.ref h0, .int a1, .int a2]) ++ List.replicate (6 - (lg_sl ([.ref h0, .int a1, .int a2])).length) Slot.unset).toArray = ls at hl ⊢
  have hl : lv_has ls 6 [(0, .ref h0), (1, .int a1), (2, .int a2)] := hl
  unfold f_X3_residue at hr
  refine lv_aload_n hx hb dX3_residue_0 rfl (lv_at hl 0 rfl) ?_
  refine lv_iload_n hx hb dX3_residue_1 rfl (lv_at hl 1 rfl) ?_
  cases e_1 : f_X3_isNumber n a1 with
  | none => rw [e_1, Option.bind_none] at hr; cases hr
  | some r_2 =>
    rw [e_1, Option.bind_some] at hr
    have hPc := hP.sub (ws' := [(h0, .inr (3, [.int v0, .long v1, .long v2, .long v3, .long v4, .long v5, .long v6, .long v7, .long v8, .long v9, .long v10, .long v11, .long v12, .int v13, .ref h1])), (h1, .inl (cI, 6600, .inl vR))]) [0, 1] rfl
    have hDc := hD.sub (ws' := [(h0, .inr (3, [.int v0, .long v1, .long v2, .long v3, .long v4, .long v5, .long v6, .long v7, .long v8, .long v9, .long v10, .long v11, .long v12, .int v13, .ref h1])), (h1, .inl (cI, 6600, .inl vR))]) [0, 1] (by decide) rfl
    have hKc := hK.sub (tys' := [(cI, .int)]) [0] rfl
    have hFc := va_free (wc := [(h0, .inr (3, [.int v0, .long v1, .long v2, .long v3, .long v4, .long v5, .long v6, .long v7, .long v8, .long v9, .long v10, .long v11, .long v12, .int v13, .ref h1])), (h1, .inl (cI, 6600, .inl vR))]) hD hS hA [0, 1] rfl
    refine va_calli (va_runV (As := [.int a1]) (rest := []) ⟨hx, hb, hml, hown, hts⟩ (c_X3_isNumber l dC dI s.heap.size h0 h1 cI v0 v1 v2 v3 v4 v5 v6 v7 v8 v9 v10 v11 v12 v13 vR a1 n _ e_1) (cwV 1 hts gX3_residue_X3_isNumber rfl rfl rfl (by decide +kernel) ⟨Nat.le_of_ble_eq_true rfl, Nat.le_of_ble_eq_true rfl⟩) ⟨fun a U g mk q => by obtain ⟨q0, q1, qP, qK, qD⟩ := q; exact ⟨q0, q1, qP, va_K.moved (u := U) (U := U.calling g mk a) (Vm.Alike.refl U.vm) qK, qD⟩, va_recv hKc hPc (ci := 3) (q0 := 0) rfl rfl, fun U hU hW => ⟨rfl, by rw [hU], by rw [hU]; exact hPc, va_K.moved hW.alike hKc, hDc.weaken (fun _ _ _ _ => trivial)⟩⟩ rfl rfl hl.1 rfl (lv_room (Nat.le_of_ble_eq_true rfl)) dX3_residue_2 ⟨Nat.zero_le _, Nat.zero_le _⟩) hS (fun q _ h => hFc q h) hFc (fun x_3 _ t H1 locs ht hvm hw hB hz1 hk1 hS => ?_)
    obtain ⟨hw, z_4⟩ := hw
    have hw := hw.symm
    subst hw
    obtain ⟨hP1, hK1, hD1⟩ := hB
    rw [ht] at hP1
    obtain ⟨hP, hD⟩ := va_join (wr := []) (w1 := [(h0, .inr (3, [.int r_2.2, .long v1, .long v2, .long v3, .long v4, .long v5, .long v6, .long v7, .long v8, .long v9, .long v10, .long v11, .long v12, .int v13, .ref h1])), (h1, .inl (cI, 6600, .inl vR))]) hP hD [0, 1] [] rfl rfl (by decide) (by decide) hk1 hFc hP1 hD1
    generalize H1 = H at hP hS ⊢
    have hP : va_P (dC, dI) vwCl [(h0, .inr (3, [.int r_2.2, .long v1, .long v2, .long v3, .long v4, .long v5, .long v6, .long v7, .long v8, .long v9, .long v10, .long v11, .long v12, .int v13, .ref h1])), (h1, .inl (cI, 6600, .inl vR))] H := hP
    have hD : va_D A [(h0, .inr (3, [.int r_2.2, .long v1, .long v2, .long v3, .long v4, .long v5, .long v6, .long v7, .long v8, .long v9, .long v10, .long v11, .long v12, .int v13, .ref h1])), (h1, .inl (cI, 6600, .inl vR))] := hD
    refine W.widen (k := 0) (n := 0) (Nat.le_refl _) (Nat.le_refl _) ?_
    refine lz_zne (tgt := 10) hx hb dX3_residue_5 (by decide) (fun c_5 => ?_) (fun c_5 => ?_)
    · have hr := (if_neg c_5).symm.trans hr
      refine lv_iload_n hx hb dX3_residue_10 rfl (lv_at hl 2 rfl) ?_
      refine lv_iconst (v := 1) hx hb dX3_residue_11 (by decide) ?_
      refine lz_ige (tgt := 21) hx hb dX3_residue_12 (by decide) (fun c_6 => ?_) (fun c_6 => ?_)
      · have hr := (if_neg c_6).symm.trans hr
        refine lv_lconst (v := 0) hx hb dX3_residue_21 (by decide) ?_
        refine lv_lstore_n (lv' := [(3, .long 0), (0, .ref h0), (1, .int a1), (2, .int a2)]) hx hb dX3_residue_22 rfl hl (by decide) rfl (fun ls hl => ?_)
        refine lv_aload_n hx hb dX3_residue_23 rfl (lv_at hl 1 rfl) ?_
        refine lv_iload_n hx hb dX3_residue_24 rfl (lv_at hl 2 rfl) ?_
        cases e_7 : f_X3_sized n v13 vR a1 with
        | none => rw [e_7, Option.bind_none] at hr; cases hr
        | some r_8 =>
          rw [e_7, Option.bind_some] at hr
          have hPc := hP.sub (ws' := [(h0, .inr (3, [.int r_2.2, .long v1, .long v2, .long v3, .long v4, .long v5, .long v6, .long v7, .long v8, .long v9, .long v10, .long v11, .long v12, .int v13, .ref h1])), (h1, .inl (cI, 6600, .inl vR))]) [0, 1] rfl
          have hDc := hD.sub (ws' := [(h0, .inr (3, [.int r_2.2, .long v1, .long v2, .long v3, .long v4, .long v5, .long v6, .long v7, .long v8, .long v9, .long v10, .long v11, .long v12, .int v13, .ref h1])), (h1, .inl (cI, 6600, .inl vR))]) [0, 1] (by decide) rfl
          have hKc := hK.sub (tys' := [(cI, .int)]) [0] rfl
          have hFc := va_free (wc := [(h0, .inr (3, [.int r_2.2, .long v1, .long v2, .long v3, .long v4, .long v5, .long v6, .long v7, .long v8, .long v9, .long v10, .long v11, .long v12, .int v13, .ref h1])), (h1, .inl (cI, 6600, .inl vR))]) hD hS hA [0, 1] rfl
          refine va_calli (va_runV (As := [.int a1]) (rest := []) ⟨hx, hb, hml, hown, hts⟩ (c_X3_sized l dC dI H.size h0 h1 cI r_2.2 v1 v2 v3 v4 v5 v6 v7 v8 v9 v10 v11 v12 v13 vR a1 n _ e_7) (cwV 1 hts gX3_residue_X3_sized rfl rfl rfl (by decide +kernel) ⟨Nat.le_of_ble_eq_true rfl, Nat.le_of_ble_eq_true rfl⟩) ⟨fun a U g mk q => by obtain ⟨q0, q1, qP, qK, qD⟩ := q; exact ⟨q0, q1, qP, va_K.moved (u := U) (U := U.calling g mk a) (Vm.Alike.refl U.vm) qK, qD⟩, va_recv hKc hPc (ci := 3) (q0 := 0) rfl rfl, fun U hU hW => ⟨rfl, by rw [hU], by rw [hU]; exact hPc, va_K.moved hW.alike hKc, hDc.weaken (fun _ _ _ _ => trivial)⟩⟩ rfl rfl hl.1 rfl (lv_room (Nat.le_of_ble_eq_true rfl)) dX3_residue_25 ⟨Nat.zero_le _, Nat.zero_le _⟩) hS (fun q _ h => hFc q h) hFc (fun x_9 _ t H1 locs ht hvm hw hB hz1 hk1 hS => ?_)
          have hw := hw.symm
          subst hw
          obtain ⟨hP1, hK1, hD1⟩ := hB
          rw [ht] at hP1
          obtain ⟨hP, hD⟩ := va_join (wr := []) (w1 := [(h0, .inr (3, [.int r_2.2, .long v1, .long v2, .long v3, .long v4, .long v5, .long v6, .long v7, .long v8, .long v9, .long v10, .long v11, .long v12, .int v13, .ref h1])), (h1, .inl (cI, 6600, .inl r_8.2))]) hP hD [0, 1] [] rfl rfl (by decide) (by decide) hk1 hFc hP1 hD1
          generalize H1 = H at hP hS ⊢
          have hP : va_P (dC, dI) vwCl [(h0, .inr (3, [.int r_2.2, .long v1, .long v2, .long v3, .long v4, .long v5, .long v6, .long v7, .long v8, .long v9, .long v10, .long v11, .long v12, .int v13, .ref h1])), (h1, .inl (cI, 6600, .inl r_8.2))] H := hP
          have hD : va_D A [(h0, .inr (3, [.int r_2.2, .long v1, .long v2, .long v3, .long v4, .long v5, .long v6, .long v7, .long v8, .long v9, .long v10, .long v11, .long v12, .int v13, .ref h1])), (h1, .inl (cI, 6600, .inl r_8.2))] := hD
          refine W.widen (k := 0) (n := 0) (Nat.le_refl _) (Nat.le_refl _) ?_
          refine lv_iconst (v := 1) hx hb dX3_residue_28 (by decide) ?_
          refine lv_isub hx hb dX3_residue_29 ?_
          refine lv_istore (lv' := [(5, .int (r_8.1 - 1)), (3, .long 0), (0, .ref h0), (1, .int a1), (2, .int a2)]) hx hb dX3_residue_30 hl (by decide) rfl (fun ls hl => ?_)
          exact k_X3_residue_32 hx hb hrt hml hown hlocks hts hA hK n out n 0 (r_8.1 - 1) r_8.2 r_2.2 hr _ _ _ hP hD hS (lv_sub hl [2, 3, 4, 1, 0] rfl)
      · have hr := (if_pos c_6).symm.trans hr
        refine lv_aload_n hx hb dX3_residue_15 rfl (lv_at hl 0 rfl) ?_
        refine lv_iconst (v := 2) hx hb dX3_residue_16 (by decide) ?_
        cases e_10 : f_X3_raise n 2 with
        | none => rw [e_10, Option.bind_none] at hr; cases hr
        | some r_11 =>
          rw [e_10, Option.bind_some] at hr
          have hPc := hP.sub (ws' := [(h0, .inr (3, [.int r_2.2, .long v1, .long v2, .long v3, .long v4, .long v5, .long v6, .long v7, .long v8, .long v9, .long v10, .long v11, .long v12, .int v13, .ref h1])), (h1, .inl (cI, 6600, .inl vR))]) [0, 1] rfl
          have hDc := hD.sub (ws' := [(h0, .inr (3, [.int r_2.2, .long v1, .long v2, .long v3, .long v4, .long v5, .long v6, .long v7, .long v8, .long v9, .long v10, .long v11, .long v12, .int v13, .ref h1])), (h1, .inl (cI, 6600, .inl vR))]) [0, 1] (by decide) rfl
          have hKc := hK.sub (tys' := [(cI, .int)]) [0] rfl
          have hFc := va_free (wc := [(h0, .inr (3, [.int r_2.2, .long v1, .long v2, .long v3, .long v4, .long v5, .long v6, .long v7, .long v8, .long v9, .long v10, .long v11, .long v12, .int v13, .ref h1])), (h1, .inl (cI, 6600, .inl vR))]) hD hS hA [0, 1] rfl
          refine va_calli (va_runV (As := [.int 2]) (rest := []) ⟨hx, hb, hml, hown, hts⟩ (c_X3_raise l dC dI H.size h0 h1 cI r_2.2 v1 v2 v3 v4 v5 v6 v7 v8 v9 v10 v11 v12 v13 vR 2 n _ e_10) (cwV 1 hts gX3_residue_X3_raise rfl rfl rfl (by decide +kernel) ⟨Nat.le_of_ble_eq_true rfl, Nat.le_of_ble_eq_true rfl⟩) ⟨fun a U g mk q => by obtain ⟨q0, q1, qP, qK, qD⟩ := q; exact ⟨q0, q1, qP, va_K.moved (u := U) (U := U.calling g mk a) (Vm.Alike.refl U.vm) qK, qD⟩, va_recv hKc hPc (ci := 3) (q0 := 0) rfl rfl, fun U hU hW => ⟨rfl, by rw [hU], by rw [hU]; exact hPc, va_K.moved hW.alike hKc, hDc.weaken (fun _ _ _ _ => trivial)⟩⟩ rfl rfl hl.1 rfl (lv_room (Nat.le_of_ble_eq_true rfl)) dX3_residue_17 ⟨Nat.zero_le _, Nat.zero_le _⟩) hS (fun q _ h => hFc q h) hFc (fun x_12 _ t H1 locs ht hvm hw hB hz1 hk1 hS => ?_)
          have hw := hw.symm
          subst hw
          obtain ⟨hP1, hK1, hD1⟩ := hB
          rw [ht] at hP1
          obtain ⟨hP, hD⟩ := va_join (wr := []) (w1 := [(h0, .inr (3, [.int r_11.2, .long v1, .long v2, .long v3, .long v4, .long v5, .long v6, .long v7, .long v8, .long v9, .long v10, .long v11, .long v12, .int v13, .ref h1])), (h1, .inl (cI, 6600, .inl vR))]) hP hD [0, 1] [] rfl rfl (by decide) (by decide) hk1 hFc hP1 hD1
          generalize H1 = H at hP hS ⊢
          have hP : va_P (dC, dI) vwCl [(h0, .inr (3, [.int r_11.2, .long v1, .long v2, .long v3, .long v4, .long v5, .long v6, .long v7, .long v8, .long v9, .long v10, .long v11, .long v12, .int v13, .ref h1])), (h1, .inl (cI, 6600, .inl vR))] H := hP
          have hD : va_D A [(h0, .inr (3, [.int r_11.2, .long v1, .long v2, .long v3, .long v4, .long v5, .long v6, .long v7, .long v8, .long v9, .long v10, .long v11, .long v12, .int v13, .ref h1])), (h1, .inl (cI, 6600, .inl vR))] := hD
          refine W.widen (k := 0) (n := 0) (Nat.le_refl _) (Nat.le_refl _) ?_
          have ho := Option.some.inj hr
          subst ho
          exact W.iret (v := r_11.1) hx hb hrt (fun t ht hW => ⟨⟨r_11.1, (), rfl, rfl, by rw [ht]; exact hP, va_K.moved hW.alike hK, hD⟩, hS.F ht⟩) hS.2.2 dX3_residue_20
    · have hr := (if_pos c_5).symm.trans hr
      refine lv_iconst (v := 0) hx hb dX3_residue_8 (by decide) ?_
      have ho := Option.some.inj hr
      subst ho
      exact W.iret (v := 0) hx hb hrt (fun t ht hW => ⟨⟨0, (), rfl, rfl, by rw [ht]; exact hP, va_K.moved hW.alike hK, hD⟩, hS.F ht⟩) hS.2.2 dX3_residue_9
