theorem in_X3_isBelow_X3 : ∀ w ∈ u_ws RX3 TX3 15, w ∈ wsX3_isBelow := by decide +kernel
def f_X3_isBelow (n : Nat) (v13 : Int32) (vR : Nat → Int32) (a1 : Int32) : Option (Int32) := (f_X3_get n vR a1 (v13 - 1)).bind (fun r_2 => if 32767 < r_2 then (some 1) else (some 0))
set_option maxHeartbeats 4000000 in
set_option maxRecDepth 100000 in
theorem c_X3_isBelow (l : Launch) (dC : Nat → ClassId) (dI : Nat → Nat → Nat) (sz : Nat) (h0 : Nat) (h1 : Nat) (cI : ClassId) (v0 : Int32) (v1 : Int64) (v2 : Int64) (v3 : Int64) (v4 : Int64) (v5 : Int64) (v6 : Int64) (v7 : Int64) (v8 : Int64) (v9 : Int64) (v10 : Int64) (v11 : Int64) (v12 : Int64) (v13 : Int32) (vR : Nat → Int32) (a1 : Int32)  (n : Nat) (out : Int32) (hr : f_X3_isBelow n v13 vR a1 = some out) : Met l yX3_isBelow wsX3_isBelow ({ frames := 1, cells := 0, slots := 0, locals := 22 }) (va_Pc [.ref h0, .int a1] (zP dC dI [(cI, .int)] [(h0, .inr (3, [.int v0, .long v1, .long v2, .long v3, .long v4, .long v5, .long v6, .long v7, .long v8, .long v9, .long v10, .long v11, .long v12, .int v13, .ref h1])), (h1, .inl (cI, 6600, .inl vR))] sz)) (va_Qi (fun r (_ : Unit) => r = out ∧ narrow .boolean (.int r) = .int r) (fun (_ : Unit) t => zB dC dI [(cI, .int)] (va_A [(h0, .inr (3, [.int v0, .long v1, .long v2, .long v3, .long v4, .long v5, .long v6, .long v7, .long v8, .long v9, .long v10, .long v11, .long v12, .int v13, .ref h1])), (h1, .inl (cI, 6600, .inl vR))] sz) [(h0, .inr (3, [.int v0, .long v1, .long v2, .long v3, .long v4, .long v5, .long v6, .long v7, .long v8, .long v9, .long v10, .long v11, .long v12, .int v13, .ref h1])), (h1, .inl (cI, 6600, .inl vR))] t) (va_A [(h0, .inr (3, [.int v0, .long v1, .long v2, .long v3, .long v4, .long v5, .long v6, .long v7, .long v8, .long v9, .long v10, .long v11, .long v12, .int v13, .ref h1])), (h1, .inl (cI, 6600, .inl vR))] sz)) 0 0 (va_A [(h0, .inr (3, [.int v0, .long v1, .long v2, .long v3, .long v4, .long v5, .long v6, .long v7, .long v8, .long v9, .long v10, .long v11, .long v12, .int v13, .ref h1])), (h1, .inl (cI, 6600, .inl vR))] sz) := by
  refine Met.ofW (cc := cX3_isBelow) (maxL := 2) (ret := (some .boolean)) (by decide) rfl ?_
  intro p e s m args below meth c s₁ B hml hv
  obtain ⟨rfl, hsz, hP, hK, hD0⟩ := hv
  have hx := B.exec
  have hb := B.bytes
  have hrt := B.returns
  have hts := atoms_spec (ws := wsX3_isBelow) B.pre
  have hown : s.vm.findClass RX3 = some m.cls := findClass_of_methodNamed B.named
  have hlocks := B.notSynchronized
  subst hsz
  have hD := hD0.self (sz := s.heap.size)
  generalize hAe : va_A [(h0, .inr (3, [.int v0, .long v1, .long v2, .long v3, .long v4, .long v5, .long v6, .long v7, .long v8, .long v9, .long v10, .long v11, .long v12, .int v13, .ref h1])), (h1, .inl (cI, 6600, .inl vR))] s.heap.size = A at hD ⊢
  have hA : ∀ q : Nat, s.heap.size ≤ q → A q := fun q h => by rw [← hAe]; exact Or.inr h
  have hS : va_S A s.heap s.heap [] := va_S.rf
  have hP : va_P (dC, dI) vwCl [(h0, .inr (3, [.int v0, .long v1, .long v2, .long v3, .long v4, .long v5, .long v6, .long v7, .long v8, .long v9, .long v10, .long v11, .long v12, .int v13, .ref h1])), (h1, .inl (cI, 6600, .inl vR))] s.heap := hP
  have hl := lv_entry ([.ref h0, .int a1]) (n := 2) (Nat.le_of_ble_eq_true rfl)
  rw [lg_entry_eq]
  generalize (lg_sl ([.ref h0, .int a1]) ++ List.replicate (2 - (lg_sl ([.ref h0, .int a1])).length) Slot.unset).toArray = ls at hl ⊢
  have hl : lv_has ls 2 [(0, .ref h0), (1, .int a1)] := hl
  unfold f_X3_isBelow at hr
  refine lv_aload_n hx hb dX3_isBelow_0 rfl (lv_at hl 0 rfl) ?_
  refine lv_iload_n hx hb dX3_isBelow_1 rfl (lv_at hl 1 rfl) ?_
  refine lv_aload_n hx hb dX3_isBelow_2 rfl (lv_at hl 0 rfl) ?_
  refine va_get (D := (dC, dI)) (ci := 3) (v := .int v13) (C := RX3) (T := TX3) (N := 15) hx hb hts in_X3_isBelow_X3 hown hK hP 0 rfl rfl 13 (by decide) (hts (.fieldLink RX3 32 "FormRingModel" "digits" "I") (by decide +kernel)) (fun _ h9 => h9) rfl dX3_isBelow_3 ?_
  refine lv_iconst (v := 1) hx hb dX3_isBelow_6 (by decide) ?_
  refine lv_isub hx hb dX3_isBelow_7 ?_
  cases e_1 : f_X3_get n vR a1 (v13 - 1) with
  | none => rw [e_1, Option.bind_none] at hr; cases hr
  | some r_2 =>
    rw [e_1, Option.bind_some] at hr
    have hPc := hP.sub (ws' := [(h0, .inr (3, [.int v0, .long v1, .long v2, .long v3, .long v4, .long v5, .long v6, .long v7, .long v8, .long v9, .long v10, .long v11, .long v12, .int v13, .ref h1])), (h1, .inl (cI, 6600, .inl vR))]) [0, 1] rfl
    have hDc := hD.sub (ws' := [(h0, .inr (3, [.int v0, .long v1, .long v2, .long v3, .long v4, .long v5, .long v6, .long v7, .long v8, .long v9, .long v10, .long v11, .long v12, .int v13, .ref h1])), (h1, .inl (cI, 6600, .inl vR))]) [0, 1] (by decide) rfl
    have hKc := hK.sub (tys' := [(cI, .int)]) [0] rfl
    have hFc := va_free (wc := [(h0, .inr (3, [.int v0, .long v1, .long v2, .long v3, .long v4, .long v5, .long v6, .long v7, .long v8, .long v9, .long v10, .long v11, .long v12, .int v13, .ref h1])), (h1, .inl (cI, 6600, .inl vR))]) hD hS hA [0, 1] rfl
    refine va_calli (va_runV (As := [.int a1, .int (v13 - 1)]) (rest := []) ⟨hx, hb, hml, hown, hts⟩ (c_X3_get l dC dI s.heap.size h0 h1 cI v0 v1 v2 v3 v4 v5 v6 v7 v8 v9 v10 v11 v12 v13 vR a1 (v13 - 1) n _ e_1) (cwV 2 hts gX3_isBelow_X3_get rfl rfl rfl (by decide +kernel) ⟨Nat.le_of_ble_eq_true rfl, Nat.le_of_ble_eq_true rfl⟩) ⟨fun a U g mk q => by obtain ⟨q0, q1, qP, qK, qD⟩ := q; exact ⟨q0, q1, qP, va_K.moved (u := U) (U := U.calling g mk a) (Vm.Alike.refl U.vm) qK, qD⟩, va_recv hKc hPc (ci := 3) (q0 := 0) rfl rfl, fun U hU hW => ⟨rfl, by rw [hU], by rw [hU]; exact hPc, va_K.moved hW.alike hKc, hDc.weaken (fun _ _ _ _ => trivial)⟩⟩ rfl rfl hl.1 rfl (lv_room (Nat.le_of_ble_eq_true rfl)) dX3_isBelow_8 ⟨Nat.zero_le _, Nat.zero_le _⟩) hS (fun q _ h => hFc q h) hFc (fun x_3 _ t H1 locs ht hvm hw hB hz1 hk1 hS => ?_)
    have hw := hw.symm
    subst hw
    obtain ⟨hP1, hK1, hD1⟩ := hB
    rw [ht] at hP1
    obtain ⟨hP, hD⟩ := va_join (wr := []) (w1 := [(h0, .inr (3, [.int v0, .long v1, .long v2, .long v3, .long v4, .long v5, .long v6, .long v7, .long v8, .long v9, .long v10, .long v11, .long v12, .int v13, .ref h1])), (h1, .inl (cI, 6600, .inl vR))]) hP hD [0, 1] [] rfl rfl (by decide) (by decide) hk1 hFc hP1 hD1
    generalize H1 = H at hP hS ⊢
    have hP : va_P (dC, dI) vwCl [(h0, .inr (3, [.int v0, .long v1, .long v2, .long v3, .long v4, .long v5, .long v6, .long v7, .long v8, .long v9, .long v10, .long v11, .long v12, .int v13, .ref h1])), (h1, .inl (cI, 6600, .inl vR))] H := hP
    have hD : va_D A [(h0, .inr (3, [.int v0, .long v1, .long v2, .long v3, .long v4, .long v5, .long v6, .long v7, .long v8, .long v9, .long v10, .long v11, .long v12, .int v13, .ref h1])), (h1, .inl (cI, 6600, .inl vR))] := hD
    refine W.widen (k := 0) (n := 0) (Nat.le_refl _) (Nat.le_refl _) ?_
    refine lv_sipush (v := 32767) hx hb dX3_isBelow_11 (by decide) ?_
    refine lz_ile (tgt := 21) hx hb dX3_isBelow_14 (by decide) (fun c_4 => ?_) (fun c_4 => ?_)
    · have hr := (if_neg c_4).symm.trans hr
      refine lv_iconst (v := 0) hx hb dX3_isBelow_21 (by decide) ?_
      have ho := Option.some.inj hr
      subst ho
      exact W.zret (v := 0) hx hb hrt rfl (fun t ht hW => ⟨⟨0, (), rfl, ⟨rfl, rfl⟩, by rw [ht]; exact hP, va_K.moved hW.alike hK, hD⟩, hS.F ht⟩) hS.2.2 dX3_isBelow_22
    · have hr := (if_pos c_4).symm.trans hr
      refine lv_iconst (v := 1) hx hb dX3_isBelow_17 (by decide) ?_
      refine lv_goto (tgt := 22) hx hb dX3_isBelow_18 (by decide) ?_
      have ho := Option.some.inj hr
      subst ho
      exact W.zret (v := 1) hx hb hrt rfl (fun t ht hW => ⟨⟨1, (), rfl, ⟨rfl, rfl⟩, by rw [ht]; exact hP, va_K.moved hW.alike hK, hD⟩, hS.F ht⟩) hS.2.2 dX3_isBelow_22

theorem in_X3_hasRoom_X3 : ∀ w ∈ u_ws RX3 TX3 15, w ∈ wsX3_hasRoom := by decide +kernel
def f_X3_hasRoom (n : Nat) (v13 : Int32) (vR : Nat → Int32) (a1 : Int32) : Option (Int32) := (f_X3_isBelow n v13 vR a1).bind (fun r_2 => if r_2 = 0 then ((f_X3_get n vR a1 (v13 - 1)).bind (fun r_7 => if r_7 = 0 then ((f_X3_get n vR a1 (v13 - 2)).bind (fun r_11 => if r_11 = 0 then ((f_X3_get n vR a1 (v13 - 3)).bind (fun r_15 => if r_15 = 0 then (some 1) else (some 0))) else (some 0))) else (some 0))) else ((f_X3_get n vR a1 (v13 - 1)).bind (fun r_19 => if r_19 = 65535 then ((f_X3_get n vR a1 (v13 - 2)).bind (fun r_23 => if r_23 = 65535 then ((f_X3_get n vR a1 (v13 - 3)).bind (fun r_27 => if r_27 = 65535 then (some 1) else (some 0))) else (some 0))) else (some 0))))
set_option maxHeartbeats 4000000 in
set_option maxRecDepth 100000 in
theorem c_X3_hasRoom (l : Launch) (dC : Nat → ClassId) (dI : Nat → Nat → Nat) (sz : Nat) (h0 : Nat) (h1 : Nat) (cI : ClassId) (v0 : Int32) (v1 : Int64) (v2 : Int64) (v3 : Int64) (v4 : Int64) (v5 : Int64) (v6 : Int64) (v7 : Int64) (v8 : Int64) (v9 : Int64) (v10 : Int64) (v11 : Int64) (v12 : Int64) (v13 : Int32) (vR : Nat → Int32) (a1 : Int32)  (n : Nat) (out : Int32) (hr : f_X3_hasRoom n v13 vR a1 = some out) : Met l yX3_hasRoom wsX3_hasRoom ({ frames := 2, cells := 0, slots := 0, locals := 43 }) (va_Pc [.ref h0, .int a1] (zP dC dI [(cI, .int)] [(h0, .inr (3, [.int v0, .long v1, .long v2, .long v3, .long v4, .long v5, .long v6, .long v7, .long v8, .long v9, .long v10, .long v11, .long v12, .int v13, .ref h1])), (h1, .inl (cI, 6600, .inl vR))] sz)) (va_Qi (fun r (_ : Unit) => r = out ∧ narrow .boolean (.int r) = .int r) (fun (_ : Unit) t => zB dC dI [(cI, .int)] (va_A [(h0, .inr (3, [.int v0, .long v1, .long v2, .long v3, .long v4, .long v5, .long v6, .long v7, .long v8, .long v9, .long v10, .long v11, .long v12, .int v13, .ref h1])), (h1, .inl (cI, 6600, .inl vR))] sz) [(h0, .inr (3, [.int v0, .long v1, .long v2, .long v3, .long v4, .long v5, .long v6, .long v7, .long v8, .long v9, .long v10, .long v11, .long v12, .int v13, .ref h1])), (h1, .inl (cI, 6600, .inl vR))] t) (va_A [(h0, .inr (3, [.int v0, .long v1, .long v2, .long v3, .long v4, .long v5, .long v6, .long v7, .long v8, .long v9, .long v10, .long v11, .long v12, .int v13, .ref h1])), (h1, .inl (cI, 6600, .inl vR))] sz)) 0 0 (va_A [(h0, .inr (3, [.int v0, .long v1, .long v2, .long v3, .long v4, .long v5, .long v6, .long v7, .long v8, .long v9, .long v10, .long v11, .long v12, .int v13, .ref h1])), (h1, .inl (cI, 6600, .inl vR))] sz) := by
  refine Met.ofW (cc := cX3_hasRoom) (maxL := 3) (ret := (some .boolean)) (by decide) rfl ?_
  intro p e s m args below meth c s₁ B hml hv
  obtain ⟨rfl, hsz, hP, hK, hD0⟩ := hv
  have hx := B.exec
  have hb := B.bytes
  have hrt := B.returns
  have hts := atoms_spec (ws := wsX3_hasRoom) B.pre
  have hown : s.vm.findClass RX3 = some m.cls := findClass_of_methodNamed B.named
  have hlocks := B.notSynchronized
  subst hsz
  have hD := hD0.self (sz := s.heap.size)
  generalize hAe : va_A [(h0, .inr (3, [.int v0, .long v1, .long v2, .long v3, .long v4, .long v5, .long v6, .long v7, .long v8, .long v9, .long v10, .long v11, .long v12, .int v13, .ref h1])), (h1, .inl (cI, 6600, .inl vR))] s.heap.size = A at hD ⊢
  have hA : ∀ q : Nat, s.heap.size ≤ q → A q := fun q h => by rw [← hAe]; exact Or.inr h
  have hS : va_S A s.heap s.heap [] := va_S.rf
  have hP : va_P (dC, dI) vwCl [(h0, .inr (3, [.int v0, .long v1, .long v2, .long v3, .long v4, .long v5, .long v6, .long v7, .long v8, .long v9, .long v10, .long v11, .long v12, .int v13, .ref h1])), (h1, .inl (cI, 6600, .inl vR))] s.heap := hP
  have hl := lv_entry ([.ref h0, .int a1]) (n := 3) (Nat.le_of_ble_eq_true rfl)
  rw [lg_entry_eq]
  generalize (lg_sl ([.ref h0, .int a1]) ++ List.replicate (3 - (lg_sl ([.ref h0, .int a1])).length) Slot.unset).toArray = ls at hl ⊢
  have hl : lv_has ls 3 [(0, .ref h0), (1, .int a1)] := hl
  unfold f_X3_hasRoom at hr
  refine lv_aload_n hx hb dX3_hasRoom_0 rfl (lv_at hl 0 rfl) ?_
  refine lv_iload_n hx hb dX3_hasRoom_1 rfl (lv_at hl 1 rfl) ?_
  cases e_1 : f_X3_isBelow n v13 vR a1 with
  | none => rw [e_1, Option.bind_none] at hr; cases hr
  | some r_2 =>
    rw [e_1, Option.bind_some] at hr
    have hPc := hP.sub (ws' := [(h0, .inr (3, [.int v0, .long v1, .long v2, .long v3, .long v4, .long v5, .long v6, .long v7, .long v8, .long v9, .long v10, .long v11, .long v12, .int v13, .ref h1])), (h1, .inl (cI, 6600, .inl vR))]) [0, 1] rfl
    have hDc := hD.sub (ws' := [(h0, .inr (3, [.int v0, .long v1, .long v2, .long v3, .long v4, .long v5, .long v6, .long v7, .long v8, .long v9, .long v10, .long v11, .long v12, .int v13, .ref h1])), (h1, .inl (cI, 6600, .inl vR))]) [0, 1] (by decide) rfl
    have hKc := hK.sub (tys' := [(cI, .int)]) [0] rfl
    have hFc := va_free (wc := [(h0, .inr (3, [.int v0, .long v1, .long v2, .long v3, .long v4, .long v5, .long v6, .long v7, .long v8, .long v9, .long v10, .long v11, .long v12, .int v13, .ref h1])), (h1, .inl (cI, 6600, .inl vR))]) hD hS hA [0, 1] rfl
    refine va_calli (va_runV (As := [.int a1]) (rest := []) ⟨hx, hb, hml, hown, hts⟩ (c_X3_isBelow l dC dI s.heap.size h0 h1 cI v0 v1 v2 v3 v4 v5 v6 v7 v8 v9 v10 v11 v12 v13 vR a1 n _ e_1) (cwV 1 hts gX3_hasRoom_X3_isBelow rfl rfl rfl (by decide +kernel) ⟨Nat.le_of_ble_eq_true rfl, Nat.le_of_ble_eq_true rfl⟩) ⟨fun a U g mk q => by obtain ⟨q0, q1, qP, qK, qD⟩ := q; exact ⟨q0, q1, qP, va_K.moved (u := U) (U := U.calling g mk a) (Vm.Alike.refl U.vm) qK, qD⟩, va_recv hKc hPc (ci := 3) (q0 := 0) rfl rfl, fun U hU hW => ⟨rfl, by rw [hU], by rw [hU]; exact hPc, va_K.moved hW.alike hKc, hDc.weaken (fun _ _ _ _ => trivial)⟩⟩ rfl rfl hl.1 rfl (lv_room (Nat.le_of_ble_eq_true rfl)) dX3_hasRoom_2 ⟨Nat.zero_le _, Nat.zero_le _⟩) hS (fun q _ h => hFc q h) hFc (fun x_3 _ t H1 locs ht hvm hw hB hz1 hk1 hS => ?_)
    obtain ⟨hw, z_4⟩ := hw
    have hw := hw.symm
    subst hw
    obtain ⟨hP1, hK1, hD1⟩ := hB
    rw [ht] at hP1
    obtain ⟨hP, hD⟩ := va_join (wr := []) (w1 := [(h0, .inr (3, [.int v0, .long v1, .long v2, .long v3, .long v4, .long v5, .long v6, .long v7, .long v8, .long v9, .long v10, .long v11, .long v12, .int v13, .ref h1])), (h1, .inl (cI, 6600, .inl vR))]) hP hD [0, 1] [] rfl rfl (by decide) (by decide) hk1 hFc hP1 hD1
    generalize H1 = H at hP hS ⊢
    have hP : va_P (dC, dI) vwCl [(h0, .inr (3, [.int v0, .long v1, .long v2, .long v3, .long v4, .long v5, .long v6, .long v7, .long v8, .long v9, .long v10, .long v11, .long v12, .int v13, .ref h1])), (h1, .inl (cI, 6600, .inl vR))] H := hP
    have hD : va_D A [(h0, .inr (3, [.int v0, .long v1, .long v2, .long v3, .long v4, .long v5, .long v6, .long v7, .long v8, .long v9, .long v10, .long v11, .long v12, .int v13, .ref h1])), (h1, .inl (cI, 6600, .inl vR))] := hD
    refine W.widen (k := 0) (n := 0) (Nat.le_refl _) (Nat.le_refl _) ?_
    refine lz_zeq (tgt := 13) hx hb dX3_hasRoom_5 (by decide) (fun c_5 => ?_) (fun c_5 => ?_)
    · have hr := (if_pos c_5).symm.trans hr
      refine lv_iconst (v := 0) hx hb dX3_hasRoom_13 (by decide) ?_
      refine lv_istore_n (lv' := [(2, .int 0), (0, .ref h0), (1, .int a1)]) hx hb dX3_hasRoom_14 rfl hl (by decide) rfl (fun ls hl => ?_)
      refine lv_aload_n hx hb dX3_hasRoom_15 rfl (lv_at hl 1 rfl) ?_
      refine lv_iload_n hx hb dX3_hasRoom_16 rfl (lv_at hl 2 rfl) ?_
      refine lv_aload_n hx hb dX3_hasRoom_17 rfl (lv_at hl 1 rfl) ?_
      refine va_get (D := (dC, dI)) (ci := 3) (v := .int v13) (C := RX3) (T := TX3) (N := 15) hx hb hts in_X3_hasRoom_X3 hown hK hP 0 rfl rfl 13 (by decide) (hts (.fieldLink RX3 32 "FormRingModel" "digits" "I") (by decide +kernel)) (fun _ h9 => h9) rfl dX3_hasRoom_18 ?_
      refine lv_iconst (v := 1) hx hb dX3_hasRoom_21 (by decide) ?_
      refine lv_isub hx hb dX3_hasRoom_22 ?_
      cases e_6 : f_X3_get n vR a1 (v13 - 1) with
      | none => rw [e_6, Option.bind_none] at hr; cases hr
      | some r_7 =>
        rw [e_6, Option.bind_some] at hr
        have hPc := hP.sub (ws' := [(h0, .inr (3, [.int v0, .long v1, .long v2, .long v3, .long v4, .long v5, .long v6, .long v7, .long v8, .long v9, .long v10, .long v11, .long v12, .int v13, .ref h1])), (h1, .inl (cI, 6600, .inl vR))]) [0, 1] rfl
        have hDc := hD.sub (ws' := [(h0, .inr (3, [.int v0, .long v1, .long v2, .long v3, .long v4, .long v5, .long v6, .long v7, .long v8, .long v9, .long v10, .long v11, .long v12, .int v13, .ref h1])), (h1, .inl (cI, 6600, .inl vR))]) [0, 1] (by decide) rfl
        have hKc := hK.sub (tys' := [(cI, .int)]) [0] rfl
        have hFc := va_free (wc := [(h0, .inr (3, [.int v0, .long v1, .long v2, .long v3, .long v4, .long v5, .long v6, .long v7, .long v8, .long v9, .long v10, .long v11, .long v12, .int v13, .ref h1])), (h1, .inl (cI, 6600, .inl vR))]) hD hS hA [0, 1] rfl
        refine va_calli (va_runV (As := [.int a1, .int (v13 - 1)]) (rest := []) ⟨hx, hb, hml, hown, hts⟩ (c_X3_get l dC dI H.size h0 h1 cI v0 v1 v2 v3 v4 v5 v6 v7 v8 v9 v10 v11 v12 v13 vR a1 (v13 - 1) n _ e_6) (cwV 2 hts gX3_hasRoom_X3_get rfl rfl rfl (by decide +kernel) ⟨Nat.le_of_ble_eq_true rfl, Nat.le_of_ble_eq_true rfl⟩) ⟨fun a U g mk q => by obtain ⟨q0, q1, qP, qK, qD⟩ := q; exact ⟨q0, q1, qP, va_K.moved (u := U) (U := U.calling g mk a) (Vm.Alike.refl U.vm) qK, qD⟩, va_recv hKc hPc (ci := 3) (q0 := 0) rfl rfl, fun U hU hW => ⟨rfl, by rw [hU], by rw [hU]; exact hPc, va_K.moved hW.alike hKc, hDc.weaken (fun _ _ _ _ => trivial)⟩⟩ rfl rfl hl.1 rfl (lv_room (Nat.le_of_ble_eq_true rfl)) dX3_hasRoom_23 ⟨Nat.zero_le _, Nat.zero_le _⟩) hS (fun q _ h => hFc q h) hFc (fun x_8 _ t H1 locs ht hvm hw hB hz1 hk1 hS => ?_)
        have hw := hw.symm
        subst hw
        obtain ⟨hP1, hK1, hD1⟩ := hB
        rw [ht] at hP1
        obtain ⟨hP, hD⟩ := va_join (wr := []) (w1 := [(h0, .inr (3, [.int v0, .long v1, .long v2, .long v3, .long v4, .long v5, .long v6, .long v7, .long v8, .long v9, .long v10, .long v11, .long v12, .int v13, .ref h1])), (h1, .inl (cI, 6600, .inl vR))]) hP hD [0, 1] [] rfl rfl (by decide) (by decide) hk1 hFc hP1 hD1
        generalize H1 = H at hP hS ⊢
        have hP : va_P (dC, dI) vwCl [(h0, .inr (3, [.int v0, .long v1, .long v2, .long v3, .long v4, .long v5, .long v6, .long v7, .long v8, .long v9, .long v10, .long v11, .long v12, .int v13, .ref h1])), (h1, .inl (cI, 6600, .inl vR))] H := hP
        have hD : va_D A [(h0, .inr (3, [.int v0, .long v1, .long v2, .long v3, .long v4, .long v5, .long v6, .long v7, .long v8, .long v9, .long v10, .long v11, .long v12, .int v13, .ref h1])), (h1, .inl (cI, 6600, .inl vR))] := hD
        refine W.widen (k := 0) (n := 0) (Nat.le_refl _) (Nat.le_refl _) ?_
        refine lv_iload_n hx hb dX3_hasRoom_26 rfl (lv_at hl 0 rfl) ?_
        refine lz_ine (tgt := 64) hx hb dX3_hasRoom_27 (by decide) (fun c_9 => ?_) (fun c_9 => ?_)
        · have hr := (if_neg c_9).symm.trans hr
          refine lv_iconst (v := 0) hx hb dX3_hasRoom_64 (by decide) ?_
          have ho := Option.some.inj hr
          subst ho
          exact W.zret (v := 0) hx hb hrt rfl (fun t ht hW => ⟨⟨0, (), rfl, ⟨rfl, rfl⟩, by rw [ht]; exact hP, va_K.moved hW.alike hK, hD⟩, hS.F ht⟩) hS.2.2 dX3_hasRoom_65
        · have hr := (if_pos c_9).symm.trans hr
          refine lv_aload_n hx hb dX3_hasRoom_30 rfl (lv_at hl 1 rfl) ?_
          refine lv_iload_n hx hb dX3_hasRoom_31 rfl (lv_at hl 2 rfl) ?_
          refine lv_aload_n hx hb dX3_hasRoom_32 rfl (lv_at hl 1 rfl) ?_
          refine va_get (D := (dC, dI)) (ci := 3) (v := .int v13) (C := RX3) (T := TX3) (N := 15) hx hb hts in_X3_hasRoom_X3 hown hK hP 0 rfl rfl 13 (by decide) (hts (.fieldLink RX3 32 "FormRingModel" "digits" "I") (by decide +kernel)) (fun _ h9 => h9) rfl dX3_hasRoom_33 ?_
          refine lv_iconst (v := 2) hx hb dX3_hasRoom_36 (by decide) ?_
          refine lv_isub hx hb dX3_hasRoom_37 ?_
          cases e_10 : f_X3_get n vR a1 (v13 - 2) with
          | none => rw [e_10, Option.bind_none] at hr; cases hr
          | some r_11 =>
            rw [e_10, Option.bind_some] at hr
            have hPc := hP.sub (ws' := [(h0, .inr (3, [.int v0, .long v1, .long v2, .long v3, .long v4, .long v5, .long v6, .long v7, .long v8, .long v9, .long v10, .long v11, .long v12, .int v13, .ref h1])), (h1, .inl (cI, 6600, .inl vR))]) [0, 1] rfl
            have hDc := hD.sub (ws' := [(h0, .inr (3, [.int v0, .long v1, .long v2, .long v3, .long v4, .long v5, .long v6, .long v7, .long v8, .long v9, .long v10, .long v11, .long v12, .int v13, .ref h1])), (h1, .inl (cI, 6600, .inl vR))]) [0, 1] (by decide) rfl
            have hKc := hK.sub (tys' := [(cI, .int)]) [0] rfl
            have hFc := va_free (wc := [(h0, .inr (3, [.int v0, .long v1, .long v2, .long v3, .long v4, .long v5, .long v6, .long v7, .long v8, .long v9, .long v10, .long v11, .long v12, .int v13, .ref h1])), (h1, .inl (cI, 6600, .inl vR))]) hD hS hA [0, 1] rfl
            refine va_calli (va_runV (As := [.int a1, .int (v13 - 2)]) (rest := []) ⟨hx, hb, hml, hown, hts⟩ (c_X3_get l dC dI H.size h0 h1 cI v0 v1 v2 v3 v4 v5 v6 v7 v8 v9 v10 v11 v12 v13 vR a1 (v13 - 2) n _ e_10) (cwV 2 hts gX3_hasRoom_X3_get rfl rfl rfl (by decide +kernel) ⟨Nat.le_of_ble_eq_true rfl, Nat.le_of_ble_eq_true rfl⟩) ⟨fun a U g mk q => by obtain ⟨q0, q1, qP, qK, qD⟩ := q; exact ⟨q0, q1, qP, va_K.moved (u := U) (U := U.calling g mk a) (Vm.Alike.refl U.vm) qK, qD⟩, va_recv hKc hPc (ci := 3) (q0 := 0) rfl rfl, fun U hU hW => ⟨rfl, by rw [hU], by rw [hU]; exact hPc, va_K.moved hW.alike hKc, hDc.weaken (fun _ _ _ _ => trivial)⟩⟩ rfl rfl hl.1 rfl (lv_room (Nat.le_of_ble_eq_true rfl)) dX3_hasRoom_38 ⟨Nat.zero_le _, Nat.zero_le _⟩) hS (fun q _ h => hFc q h) hFc (fun x_12 _ t H1 locs ht hvm hw hB hz1 hk1 hS => ?_)
            have hw := hw.symm
            subst hw
            obtain ⟨hP1, hK1, hD1⟩ := hB
            rw [ht] at hP1
            obtain ⟨hP, hD⟩ := va_join (wr := []) (w1 := [(h0, .inr (3, [.int v0, .long v1, .long v2, .long v3, .long v4, .long v5, .long v6, .long v7, .long v8, .long v9, .long v10, .long v11, .long v12, .int v13, .ref h1])), (h1, .inl (cI, 6600, .inl vR))]) hP hD [0, 1] [] rfl rfl (by decide) (by decide) hk1 hFc hP1 hD1
            generalize H1 = H at hP hS ⊢
            have hP : va_P (dC, dI) vwCl [(h0, .inr (3, [.int v0, .long v1, .long v2, .long v3, .long v4, .long v5, .long v6, .long v7, .long v8, .long v9, .long v10, .long v11, .long v12, .int v13, .ref h1])), (h1, .inl (cI, 6600, .inl vR))] H := hP
            have hD : va_D A [(h0, .inr (3, [.int v0, .long v1, .long v2, .long v3, .long v4, .long v5, .long v6, .long v7, .long v8, .long v9, .long v10, .long v11, .long v12, .int v13, .ref h1])), (h1, .inl (cI, 6600, .inl vR))] := hD
            refine W.widen (k := 0) (n := 0) (Nat.le_refl _) (Nat.le_refl _) ?_
            refine lv_iload_n hx hb dX3_hasRoom_41 rfl (lv_at hl 0 rfl) ?_
            refine lz_ine (tgt := 64) hx hb dX3_hasRoom_42 (by decide) (fun c_13 => ?_) (fun c_13 => ?_)
            · have hr := (if_neg c_13).symm.trans hr
              refine lv_iconst (v := 0) hx hb dX3_hasRoom_64 (by decide) ?_
              have ho := Option.some.inj hr
              subst ho
              exact W.zret (v := 0) hx hb hrt rfl (fun t ht hW => ⟨⟨0, (), rfl, ⟨rfl, rfl⟩, by rw [ht]; exact hP, va_K.moved hW.alike hK, hD⟩, hS.F ht⟩) hS.2.2 dX3_hasRoom_65
            · have hr := (if_pos c_13).symm.trans hr
              refine lv_aload_n hx hb dX3_hasRoom_45 rfl (lv_at hl 1 rfl) ?_
              refine lv_iload_n hx hb dX3_hasRoom_46 rfl (lv_at hl 2 rfl) ?_
              refine lv_aload_n hx hb dX3_hasRoom_47 rfl (lv_at hl 1 rfl) ?_
              refine va_get (D := (dC, dI)) (ci := 3) (v := .int v13) (C := RX3) (T := TX3) (N := 15) hx hb hts in_X3_hasRoom_X3 hown hK hP 0 rfl rfl 13 (by decide) (hts (.fieldLink RX3 32 "FormRingModel" "digits" "I") (by decide +kernel)) (fun _ h9 => h9) rfl dX3_hasRoom_48 ?_
              refine lv_iconst (v := 3) hx hb dX3_hasRoom_51 (by decide) ?_
              refine lv_isub hx hb dX3_hasRoom_52 ?_
              cases e_14 : f_X3_get n vR a1 (v13 - 3) with
              | none => rw [e_14, Option.bind_none] at hr; cases hr
              | some r_15 =>
                rw [e_14, Option.bind_some] at hr
                have hPc := hP.sub (ws' := [(h0, .inr (3, [.int v0, .long v1, .long v2, .long v3, .long v4, .long v5, .long v6, .long v7, .long v8, .long v9, .long v10, .long v11, .long v12, .int v13, .ref h1])), (h1, .inl (cI, 6600, .inl vR))]) [0, 1] rfl
                have hDc := hD.sub (ws' := [(h0, .inr (3, [.int v0, .long v1, .long v2, .long v3, .long v4, .long v5, .long v6, .long v7, .long v8, .long v9, .long v10, .long v11, .long v12, .int v13, .ref h1])), (h1, .inl (cI, 6600, .inl vR))]) [0, 1] (by decide) rfl
                have hKc := hK.sub (tys' := [(cI, .int)]) [0] rfl
                have hFc := va_free (wc := [(h0, .inr (3, [.int v0, .long v1, .long v2, .long v3, .long v4, .long v5, .long v6, .long v7, .long v8, .long v9, .long v10, .long v11, .long v12, .int v13, .ref h1])), (h1, .inl (cI, 6600, .inl vR))]) hD hS hA [0, 1] rfl
                refine va_calli (va_runV (As := [.int a1, .int (v13 - 3)]) (rest := []) ⟨hx, hb, hml, hown, hts⟩ (c_X3_get l dC dI H.size h0 h1 cI v0 v1 v2 v3 v4 v5 v6 v7 v8 v9 v10 v11 v12 v13 vR a1 (v13 - 3) n _ e_14) (cwV 2 hts gX3_hasRoom_X3_get rfl rfl rfl (by decide +kernel) ⟨Nat.le_of_ble_eq_true rfl, Nat.le_of_ble_eq_true rfl⟩) ⟨fun a U g mk q => by obtain ⟨q0, q1, qP, qK, qD⟩ := q; exact ⟨q0, q1, qP, va_K.moved (u := U) (U := U.calling g mk a) (Vm.Alike.refl U.vm) qK, qD⟩, va_recv hKc hPc (ci := 3) (q0 := 0) rfl rfl, fun U hU hW => ⟨rfl, by rw [hU], by rw [hU]; exact hPc, va_K.moved hW.alike hKc, hDc.weaken (fun _ _ _ _ => trivial)⟩⟩ rfl rfl hl.1 rfl (lv_room (Nat.le_of_ble_eq_true rfl)) dX3_hasRoom_53 ⟨Nat.zero_le _, Nat.zero_le _⟩) hS (fun q _ h => hFc q h) hFc (fun x_16 _ t H1 locs ht hvm hw hB hz1 hk1 hS => ?_)
                have hw := hw.symm
                subst hw
                obtain ⟨hP1, hK1, hD1⟩ := hB
                rw [ht] at hP1
                obtain ⟨hP, hD⟩ := va_join (wr := []) (w1 := [(h0, .inr (3, [.int v0, .long v1, .long v2, .long v3, .long v4, .long v5, .long v6, .long v7, .long v8, .long v9, .long v10, .long v11, .long v12, .int v13, .ref h1])), (h1, .inl (cI, 6600, .inl vR))]) hP hD [0, 1] [] rfl rfl (by decide) (by decide) hk1 hFc hP1 hD1
                generalize H1 = H at hP hS ⊢
                have hP : va_P (dC, dI) vwCl [(h0, .inr (3, [.int v0, .long v1, .long v2, .long v3, .long v4, .long v5, .long v6, .long v7, .long v8, .long v9, .long v10, .long v11, .long v12, .int v13, .ref h1])), (h1, .inl (cI, 6600, .inl vR))] H := hP
                have hD : va_D A [(h0, .inr (3, [.int v0, .long v1, .long v2, .long v3, .long v4, .long v5, .long v6, .long v7, .long v8, .long v9, .long v10, .long v11, .long v12, .int v13, .ref h1])), (h1, .inl (cI, 6600, .inl vR))] := hD
                refine W.widen (k := 0) (n := 0) (Nat.le_refl _) (Nat.le_refl _) ?_
                refine lv_iload_n hx hb dX3_hasRoom_56 rfl (lv_at hl 0 rfl) ?_
                refine lz_ine (tgt := 64) hx hb dX3_hasRoom_57 (by decide) (fun c_17 => ?_) (fun c_17 => ?_)
                · have hr := (if_neg c_17).symm.trans hr
                  refine lv_iconst (v := 0) hx hb dX3_hasRoom_64 (by decide) ?_
                  have ho := Option.some.inj hr
                  subst ho
                  exact W.zret (v := 0) hx hb hrt rfl (fun t ht hW => ⟨⟨0, (), rfl, ⟨rfl, rfl⟩, by rw [ht]; exact hP, va_K.moved hW.alike hK, hD⟩, hS.F ht⟩) hS.2.2 dX3_hasRoom_65
                · have hr := (if_pos c_17).symm.trans hr
                  refine lv_iconst (v := 1) hx hb dX3_hasRoom_60 (by decide) ?_
                  refine lv_goto (tgt := 65) hx hb dX3_hasRoom_61 (by decide) ?_
                  have ho := Option.some.inj hr
                  subst ho
                  exact W.zret (v := 1) hx hb hrt rfl (fun t ht hW => ⟨⟨1, (), rfl, ⟨rfl, rfl⟩, by rw [ht]; exact hP, va_K.moved hW.alike hK, hD⟩, hS.F ht⟩) hS.2.2 dX3_hasRoom_65
    · have hr := (if_neg c_5).symm.trans hr
      refine lv_ldc (v := 65535) hx hb hown (hts (.constant RX3 109 (65535)) (by decide +kernel)) dX3_hasRoom_8 ?_
      refine lv_goto (tgt := 14) hx hb dX3_hasRoom_10 (by decide) ?_
      refine lv_istore_n (lv' := [(2, .int 65535), (0, .ref h0), (1, .int a1)]) hx hb dX3_hasRoom_14 rfl hl (by decide) rfl (fun ls hl => ?_)
      refine lv_aload_n hx hb dX3_hasRoom_15 rfl (lv_at hl 1 rfl) ?_
      refine lv_iload_n hx hb dX3_hasRoom_16 rfl (lv_at hl 2 rfl) ?_
      refine lv_aload_n hx hb dX3_hasRoom_17 rfl (lv_at hl 1 rfl) ?_
      refine va_get (D := (dC, dI)) (ci := 3) (v := .int v13) (C := RX3) (T := TX3) (N := 15) hx hb hts in_X3_hasRoom_X3 hown hK hP 0 rfl rfl 13 (by decide) (hts (.fieldLink RX3 32 "FormRingModel" "digits" "I") (by decide +kernel)) (fun _ h9 => h9) rfl dX3_hasRoom_18 ?_
      refine lv_iconst (v := 1) hx hb dX3_hasRoom_21 (by decide) ?_
      refine lv_isub hx hb dX3_hasRoom_22 ?_
      cases e_18 : f_X3_get n vR a1 (v13 - 1) with
      | none => rw [e_18, Option.bind_none] at hr; cases hr
      | some r_19 =>
        rw [e_18, Option.bind_some] at hr
        have hPc := hP.sub (ws' := [(h0, .inr (3, [.int v0, .long v1, .long v2, .long v3, .long v4, .long v5, .long v6, .long v7, .long v8, .long v9, .long v10, .long v11, .long v12, .int v13, .ref h1])), (h1, .inl (cI, 6600, .inl vR))]) [0, 1] rfl
        have hDc := hD.sub (ws' := [(h0, .inr (3, [.int v0, .long v1, .long v2, .long v3, .long v4, .long v5, .long v6, .long v7, .long v8, .long v9, .long v10, .long v11, .long v12, .int v13, .ref h1])), (h1, .inl (cI, 6600, .inl vR))]) [0, 1] (by decide) rfl
        have hKc := hK.sub (tys' := [(cI, .int)]) [0] rfl
        have hFc := va_free (wc := [(h0, .inr (3, [.int v0, .long v1, .long v2, .long v3, .long v4, .long v5, .long v6, .long v7, .long v8, .long v9, .long v10, .long v11, .long v12, .int v13, .ref h1])), (h1, .inl (cI, 6600, .inl vR))]) hD hS hA [0, 1] rfl
        refine va_calli (va_runV (As := [.int a1, .int (v13 - 1)]) (rest := []) ⟨hx, hb, hml, hown, hts⟩ (c_X3_get l dC dI H.size h0 h1 cI v0 v1 v2 v3 v4 v5 v6 v7 v8 v9 v10 v11 v12 v13 vR a1 (v13 - 1) n _ e_18) (cwV 2 hts gX3_hasRoom_X3_get rfl rfl rfl (by decide +kernel) ⟨Nat.le_of_ble_eq_true rfl, Nat.le_of_ble_eq_true rfl⟩) ⟨fun a U g mk q => by obtain ⟨q0, q1, qP, qK, qD⟩ := q; exact ⟨q0, q1, qP, va_K.moved (u := U) (U := U.calling g mk a) (Vm.Alike.refl U.vm) qK, qD⟩, va_recv hKc hPc (ci := 3) (q0 := 0) rfl rfl, fun U hU hW => ⟨rfl, by rw [hU], by rw [hU]; exact hPc, va_K.moved hW.alike hKc, hDc.weaken (fun _ _ _ _ => trivial)⟩⟩ rfl rfl hl.1 rfl (lv_room (Nat.le_of_ble_eq_true rfl)) dX3_hasRoom_23 ⟨Nat.zero_le _, Nat.zero_le _⟩) hS (fun q _ h => hFc q h) hFc (fun x_20 _ t H1 locs ht hvm hw hB hz1 hk1 hS => ?_)
        have hw := hw.symm
        subst hw
        obtain ⟨hP1, hK1, hD1⟩ := hB
        rw [ht] at hP1
        obtain ⟨hP, hD⟩ := va_join (wr := []) (w1 := [(h0, .inr (3, [.int v0, .long v1, .long v2, .long v3, .long v4, .long v5, .long v6, .long v7, .long v8, .long v9, .long v10, .long v11, .long v12, .int v13, .ref h1])), (h1, .inl (cI, 6600, .inl vR))]) hP hD [0, 1] [] rfl rfl (by decide) (by decide) hk1 hFc hP1 hD1
        generalize H1 = H at hP hS ⊢
        have hP : va_P (dC, dI) vwCl [(h0, .inr (3, [.int v0, .long v1, .long v2, .long v3, .long v4, .long v5, .long v6, .long v7, .long v8, .long v9, .long v10, .long v11, .long v12, .int v13, .ref h1])), (h1, .inl (cI, 6600, .inl vR))] H := hP
        have hD : va_D A [(h0, .inr (3, [.int v0, .long v1, .long v2, .long v3, .long v4, .long v5, .long v6, .long v7, .long v8, .long v9, .long v10, .long v11, .long v12, .int v13, .ref h1])), (h1, .inl (cI, 6600, .inl vR))] := hD
        refine W.widen (k := 0) (n := 0) (Nat.le_refl _) (Nat.le_refl _) ?_
        refine lv_iload_n hx hb dX3_hasRoom_26 rfl (lv_at hl 0 rfl) ?_
        refine lz_ine (tgt := 64) hx hb dX3_hasRoom_27 (by decide) (fun c_21 => ?_) (fun c_21 => ?_)
        · have hr := (if_neg c_21).symm.trans hr
          refine lv_iconst (v := 0) hx hb dX3_hasRoom_64 (by decide) ?_
          have ho := Option.some.inj hr
          subst ho
          exact W.zret (v := 0) hx hb hrt rfl (fun t ht hW => ⟨⟨0, (), rfl, ⟨rfl, rfl⟩, by rw [ht]; exact hP, va_K.moved hW.alike hK, hD⟩, hS.F ht⟩) hS.2.2 dX3_hasRoom_65
        · have hr := (if_pos c_21).symm.trans hr
          refine lv_aload_n hx hb dX3_hasRoom_30 rfl (lv_at hl 1 rfl) ?_
          refine lv_iload_n hx hb dX3_hasRoom_31 rfl (lv_at hl 2 rfl) ?_
          refine lv_aload_n hx hb dX3_hasRoom_32 rfl (lv_at hl 1 rfl) ?_
          refine va_get (D := (dC, dI)) (ci := 3) (v := .int v13) (C := RX3) (T := TX3) (N := 15) hx hb hts in_X3_hasRoom_X3 hown hK hP 0 rfl rfl 13 (by decide) (hts (.fieldLink RX3 32 "FormRingModel" "digits" "I") (by decide +kernel)) (fun _ h9 => h9) rfl dX3_hasRoom_33 ?_
          refine lv_iconst (v := 2) hx hb dX3_hasRoom_36 (by decide) ?_
          refine lv_isub hx hb dX3_hasRoom_37 ?_
          cases e_22 : f_X3_get n vR a1 (v13 - 2) with
          | none => rw [e_22, Option.bind_none] at hr; cases hr
          | some r_23 =>
            rw [e_22, Option.bind_some] at hr
            have hPc := hP.sub (ws' := [(h0, .inr (3, [.int v0, .long v1, .long v2, .long v3, .long v4, .long v5, .long v6, .long v7, .long v8, .long v9, .long v10, .long v11, .long v12, .int v13, .ref h1])), (h1, .inl (cI, 6600, .inl vR))]) [0, 1] rfl
            have hDc := hD.sub (ws' := [(h0, .inr (3, [.int v0, .long v1, .long v2, .long v3, .long v4, .long v5, .long v6, .long v7, .long v8, .long v9, .long v10, .long v11, .long v12, .int v13, .ref h1])), (h1, .inl (cI, 6600, .inl vR))]) [0, 1] (by decide) rfl
            have hKc := hK.sub (tys' := [(cI, .int)]) [0] rfl
            have hFc := va_free (wc := [(h0, .inr (3, [.int v0, .long v1, .long v2, .long v3, .long v4, .long v5, .long v6, .long v7, .long v8, .long v9, .long v10, .long v11, .long v12, .int v13, .ref h1])), (h1, .inl (cI, 6600, .inl vR))]) hD hS hA [0, 1] rfl
            refine va_calli (va_runV (As := [.int a1, .int (v13 - 2)]) (rest := []) ⟨hx, hb, hml, hown, hts⟩ (c_X3_get l dC dI H.size h0 h1 cI v0 v1 v2 v3 v4 v5 v6 v7 v8 v9 v10 v11 v12 v13 vR a1 (v13 - 2) n _ e_22) (cwV 2 hts gX3_hasRoom_X3_get rfl rfl rfl (by decide +kernel) ⟨Nat.le_of_ble_eq_true rfl, Nat.le_of_ble_eq_true rfl⟩) ⟨fun a U g mk q => by obtain ⟨q0, q1, qP, qK, qD⟩ := q; exact ⟨q0, q1, qP, va_K.moved (u := U) (U := U.calling g mk a) (Vm.Alike.refl U.vm) qK, qD⟩, va_recv hKc hPc (ci := 3) (q0 := 0) rfl rfl, fun U hU hW => ⟨rfl, by rw [hU], by rw [hU]; exact hPc, va_K.moved hW.alike hKc, hDc.weaken (fun _ _ _ _ => trivial)⟩⟩ rfl rfl hl.1 rfl (lv_room (Nat.le_of_ble_eq_true rfl)) dX3_hasRoom_38 ⟨Nat.zero_le _, Nat.zero_le _⟩) hS (fun q _ h => hFc q h) hFc (fun x_24 _ t H1 locs ht hvm hw hB hz1 hk1 hS => ?_)
            have hw := hw.symm
            subst hw
            obtain ⟨hP1, hK1, hD1⟩ := hB
            rw [ht] at hP1
            obtain ⟨hP, hD⟩ := va_join (wr := []) (w1 := [(h0, .inr (3, [.int v0, .long v1, .long v2, .long v3, .long v4, .long v5, .long v6, .long v7, .long v8, .long v9, .long v10, .long v11, .long v12, .int v13, .ref h1])), (h1, .inl (cI, 6600, .inl vR))]) hP hD [0, 1] [] rfl rfl (by decide) (by decide) hk1 hFc hP1 hD1
            generalize H1 = H at hP hS ⊢
            have hP : va_P (dC, dI) vwCl [(h0, .inr (3, [.int v0, .long v1, .long v2, .long v3, .long v4, .long v5, .long v6, .long v7, .long v8, .long v9, .long v10, .long v11, .long v12, .int v13, .ref h1])), (h1, .inl (cI, 6600, .inl vR))] H := hP
            have hD : va_D A [(h0, .inr (3, [.int v0, .long v1, .long v2, .long v3, .long v4, .long v5, .long v6, .long v7, .long v8, .long v9, .long v10, .long v11, .long v12, .int v13, .ref h1])), (h1, .inl (cI, 6600, .inl vR))] := hD
            refine W.widen (k := 0) (n := 0) (Nat.le_refl _) (Nat.le_refl _) ?_
            refine lv_iload_n hx hb dX3_hasRoom_41 rfl (lv_at hl 0 rfl) ?_
            refine lz_ine (tgt := 64) hx hb dX3_hasRoom_42 (by decide) (fun c_25 => ?_) (fun c_25 => ?_)
            · have hr := (if_neg c_25).symm.trans hr
              refine lv_iconst (v := 0) hx hb dX3_hasRoom_64 (by decide) ?_
              have ho := Option.some.inj hr
              subst ho
              exact W.zret (v := 0) hx hb hrt rfl (fun t ht hW => ⟨⟨0, (), rfl, ⟨rfl, rfl⟩, by rw [ht]; exact hP, va_K.moved hW.alike hK, hD⟩, hS.F ht⟩) hS.2.2 dX3_hasRoom_65
            · have hr := (if_pos c_25).symm.trans hr
              refine lv_aload_n hx hb dX3_hasRoom_45 rfl (lv_at hl 1 rfl) ?_
              refine lv_iload_n hx hb dX3_hasRoom_46 rfl (lv_at hl 2 rfl) ?_
              refine lv_aload_n hx hb dX3_hasRoom_47 rfl (lv_at hl 1 rfl) ?_
              refine va_get (D := (dC, dI)) (ci := 3) (v := .int v13) (C := RX3) (T := TX3) (N := 15) hx hb hts in_X3_hasRoom_X3 hown hK hP 0 rfl rfl 13 (by decide) (hts (.fieldLink RX3 32 "FormRingModel" "digits" "I") (by decide +kernel)) (fun _ h9 => h9) rfl dX3_hasRoom_48 ?_
              refine lv_iconst (v := 3) hx hb dX3_hasRoom_51 (by decide) ?_
              refine lv_isub hx hb dX3_hasRoom_52 ?_
              cases e_26 : f_X3_get n vR a1 (v13 - 3) with
              | none => rw [e_26, Option.bind_none] at hr; cases hr
              | some r_27 =>
                rw [e_26, Option.bind_some] at hr
                have hPc := hP.sub (ws' := [(h0, .inr (3, [.int v0, .long v1, .long v2, .long v3, .long v4, .long v5, .long v6, .long v7, .long v8, .long v9, .long v10, .long v11, .long v12, .int v13, .ref h1])), (h1, .inl (cI, 6600, .inl vR))]) [0, 1] rfl
                have hDc := hD.sub (ws' := [(h0, .inr (3, [.int v0, .long v1, .long v2, .long v3, .long v4, .long v5, .long v6, .long v7, .long v8, .long v9, .long v10, .long v11, .long v12, .int v13, .ref h1])), (h1, .inl (cI, 6600, .inl vR))]) [0, 1] (by decide) rfl
                have hKc := hK.sub (tys' := [(cI, .int)]) [0] rfl
                have hFc := va_free (wc := [(h0, .inr (3, [.int v0, .long v1, .long v2, .long v3, .long v4, .long v5, .long v6, .long v7, .long v8, .long v9, .long v10, .long v11, .long v12, .int v13, .ref h1])), (h1, .inl (cI, 6600, .inl vR))]) hD hS hA [0, 1] rfl
                refine va_calli (va_runV (As := [.int a1, .int (v13 - 3)]) (rest := []) ⟨hx, hb, hml, hown, hts⟩ (c_X3_get l dC dI H.size h0 h1 cI v0 v1 v2 v3 v4 v5 v6 v7 v8 v9 v10 v11 v12 v13 vR a1 (v13 - 3) n _ e_26) (cwV 2 hts gX3_hasRoom_X3_get rfl rfl rfl (by decide +kernel) ⟨Nat.le_of_ble_eq_true rfl, Nat.le_of_ble_eq_true rfl⟩) ⟨fun a U g mk q => by obtain ⟨q0, q1, qP, qK, qD⟩ := q; exact ⟨q0, q1, qP, va_K.moved (u := U) (U := U.calling g mk a) (Vm.Alike.refl U.vm) qK, qD⟩, va_recv hKc hPc (ci := 3) (q0 := 0) rfl rfl, fun U hU hW => ⟨rfl, by rw [hU], by rw [hU]; exact hPc, va_K.moved hW.alike hKc, hDc.weaken (fun _ _ _ _ => trivial)⟩⟩ rfl rfl hl.1 rfl (lv_room (Nat.le_of_ble_eq_true rfl)) dX3_hasRoom_53 ⟨Nat.zero_le _, Nat.zero_le _⟩) hS (fun q _ h => hFc q h) hFc (fun x_28 _ t H1 locs ht hvm hw hB hz1 hk1 hS => ?_)
                have hw := hw.symm
                subst hw
                obtain ⟨hP1, hK1, hD1⟩ := hB
                rw [ht] at hP1
                obtain ⟨hP, hD⟩ := va_join (wr := []) (w1 := [(h0, .inr (3, [.int v0, .long v1, .long v2, .long v3, .long v4, .long v5, .long v6, .long v7, .long v8, .long v9, .long v10, .long v11, .long v12, .int v13, .ref h1])), (h1, .inl (cI, 6600, .inl vR))]) hP hD [0, 1] [] rfl rfl (by decide) (by decide) hk1 hFc hP1 hD1
                generalize H1 = H at hP hS ⊢
                have hP : va_P (dC, dI) vwCl [(h0, .inr (3, [.int v0, .long v1, .long v2, .long v3, .long v4, .long v5, .long v6, .long v7, .long v8, .long v9, .long v10, .long v11, .long v12, .int v13, .ref h1])), (h1, .inl (cI, 6600, .inl vR))] H := hP
                have hD : va_D A [(h0, .inr (3, [.int v0, .long v1, .long v2, .long v3, .long v4, .long v5, .long v6, .long v7, .long v8, .long v9, .long v10, .long v11, .long v12, .int v13, .ref h1])), (h1, .inl (cI, 6600, .inl vR))] := hD
                refine W.widen (k := 0) (n := 0) (Nat.le_refl _) (Nat.le_refl _) ?_
                refine lv_iload_n hx hb dX3_hasRoom_56 rfl (lv_at hl 0 rfl) ?_
                refine lz_ine (tgt := 64) hx hb dX3_hasRoom_57 (by decide) (fun c_29 => ?_) (fun c_29 => ?_)
                · have hr := (if_neg c_29).symm.trans hr
                  refine lv_iconst (v := 0) hx hb dX3_hasRoom_64 (by decide) ?_
                  have ho := Option.some.inj hr
                  subst ho
                  exact W.zret (v := 0) hx hb hrt rfl (fun t ht hW => ⟨⟨0, (), rfl, ⟨rfl, rfl⟩, by rw [ht]; exact hP, va_K.moved hW.alike hK, hD⟩, hS.F ht⟩) hS.2.2 dX3_hasRoom_65
                · have hr := (if_pos c_29).symm.trans hr
                  refine lv_iconst (v := 1) hx hb dX3_hasRoom_60 (by decide) ?_
                  refine lv_goto (tgt := 65) hx hb dX3_hasRoom_61 (by decide) ?_
                  have ho := Option.some.inj hr
                  subst ho
                  exact W.zret (v := 1) hx hb hrt rfl (fun t ht hW => ⟨⟨1, (), rfl, ⟨rfl, rfl⟩, by rw [ht]; exact hP, va_K.moved hW.alike hK, hD⟩, hS.F ht⟩) hS.2.2 dX3_hasRoom_65

theorem in_X3_widen_X3 : ∀ w ∈ u_ws RX3 TX3 15, w ∈ wsX3_widen := by decide +kernel
def f_X3_widen_27 (n : Nat) (K : Int32 → (Nat → Int32) → Int32 → Option ((Nat → Int32) × Int32)) : Nat → Int32 → Int32 → Int32 → (Nat → Int32) → Int32 → Option ((Nat → Int32) × Int32)
  | 0, _, _, _, _, _ => none
  | k + 1, u1, u2, u3, w1, w0_13 => if u3 < (w0_13 + 3) then ((f_X3_put n w1 u1 u3 u2).bind (fun r_3 => f_X3_widen_27 n K k u1 u2 (u3 + 1) r_3 w0_13)) else (K (u1 + 1) w1 w0_13)
set_option maxHeartbeats 4000000 in
set_option maxRecDepth 100000 in
theorem k_X3_widen_27 {p : Program} {l : Launch} {e : Env} {s : State} {m : MethodId} {args : Array Value} {below : List Frame} {meth : Method} {c : Code} {dC : Nat → ClassId} {dI : Nat → Nat → Nat} {A : Nat → Prop} {h0 : Nat} {h1 : Nat} {cI : ClassId} {v0 : Int32} {v1 : Int64} {v2 : Int64} {v3 : Int64} {v4 : Int64} {v5 : Int64} {v6 : Int64} {v7 : Int64} {v8 : Int64} {v9 : Int64} {v10 : Int64} {v11 : Int64} {v12 : Int64}  (hx : p.tables.exec = Jvm.exec) (hb : c.code = cX3_widen) (hrt : meth.sig.returnType = none) (hml : c.maxLocals = 4) (hown : s.vm.findClass RX3 = some m.cls) (hlocks : meth.locks = false) (hts : ∀ w ∈ wsX3_widen, w.before args s = true) (hA : ∀ q : Nat, s.heap.size ≤ q → A q) (hK : va_K (dC, dI) vwCl [(cI, .int)] s)  (n : Nat) (out : (Nat → Int32) × Int32) {K : Int32 → (Nat → Int32) → Int32 → Option ((Nat → Int32) × Int32)} (hk9 : ∀ (u1 : Int32) (w1 : Nat → Int32) (w0_13 : Int32), K u1 w1 w0_13 = some out → ∀ (H : Heap) (locs : List Loc) (ls : Array Slot), va_P (dC, dI) vwCl [(h0, .inr (3, [.int v0, .long v1, .long v2, .long v3, .long v4, .long v5, .long v6, .long v7, .long v8, .long v9, .long v10, .long v11, .long v12, .int w0_13, .ref h1])), (h1, .inl (cI, 6600, .inl w1))] H → va_D A [(h0, .inr (3, [.int v0, .long v1, .long v2, .long v3, .long v4, .long v5, .long v6, .long v7, .long v8, .long v9, .long v10, .long v11, .long v12, .int w0_13, .ref h1])), (h1, .inl (cI, 6600, .inl w1))] → va_S A s.heap H locs → lv_has ls 4 [(0, .ref h0), (1, .int u1)] → W p l e ({ frames := 2, cells := 0, slots := 0, locals := 43 }) s m args below meth c H locs 0 0 (MQ below (va_Qv (fun (_ : Unit) => True) (fun (_ : Unit) t => zB dC dI [(cI, .int)] A [(h0, .inr (3, [.int v0, .long v1, .long v2, .long v3, .long v4, .long v5, .long v6, .long v7, .long v8, .long v9, .long v10, .long v11, .long v12, .int out.2, .ref h1])), (h1, .inl (cI, 6600, .inl out.1))] t) A) args s 0 0 A) (F0 m 2 ls [])) :
    ∀ (k : Nat) (u1 : Int32) (u2 : Int32) (u3 : Int32) (w1 : Nat → Int32) (w0_13 : Int32), f_X3_widen_27 n K k u1 u2 u3 w1 w0_13 = some out → ∀ (H : Heap) (locs : List Loc) (ls : Array Slot), va_P (dC, dI) vwCl [(h0, .inr (3, [.int v0, .long v1, .long v2, .long v3, .long v4, .long v5, .long v6, .long v7, .long v8, .long v9, .long v10, .long v11, .long v12, .int w0_13, .ref h1])), (h1, .inl (cI, 6600, .inl w1))] H → va_D A [(h0, .inr (3, [.int v0, .long v1, .long v2, .long v3, .long v4, .long v5, .long v6, .long v7, .long v8, .long v9, .long v10, .long v11, .long v12, .int w0_13, .ref h1])), (h1, .inl (cI, 6600, .inl w1))] → va_S A s.heap H locs → lv_has ls 4 [(0, .ref h0), (1, .int u1), (2, .int u2), (3, .int u3)] → W p l e ({ frames := 2, cells := 0, slots := 0, locals := 43 }) s m args below meth c H locs 0 0 (MQ below (va_Qv (fun (_ : Unit) => True) (fun (_ : Unit) t => zB dC dI [(cI, .int)] A [(h0, .inr (3, [.int v0, .long v1, .long v2, .long v3, .long v4, .long v5, .long v6, .long v7, .long v8, .long v9, .long v10, .long v11, .long v12, .int out.2, .ref h1])), (h1, .inl (cI, 6600, .inl out.1))] t) A) args s 0 0 A) (F0 m 27 ls []) := by
  intro k
  induction k with
  | zero => intro u1 u2 u3 w1 w0_13 hr; rw [f_X3_widen_27] at hr; cases hr
  | succ k ih =>
    intro u1 u2 u3 w1 w0_13 hr H locs ls hP hD hS hl
    rw [f_X3_widen_27] at hr
    refine lv_iload_n hx hb dX3_widen_27 rfl (lv_at hl 3 rfl) ?_
    refine lv_aload_n hx hb dX3_widen_28 rfl (lv_at hl 0 rfl) ?_
    refine va_get (D := (dC, dI)) (ci := 3) (v := .int w0_13) (C := RX3) (T := TX3) (N := 15) hx hb hts in_X3_widen_X3 hown hK hP 0 rfl rfl 13 (by decide) (hts (.fieldLink RX3 32 "FormRingModel" "digits" "I") (by decide +kernel)) (fun _ h9 => h9) rfl dX3_widen_29 ?_
    refine lv_iconst (v := 3) hx hb dX3_widen_32 (by decide) ?_
    refine lv_iadd hx hb dX3_widen_33 ?_
    refine lz_ige (tgt := 50) hx hb dX3_widen_34 (by decide) (fun c_1 => ?_) (fun c_1 => ?_)
    · have hr := (if_neg c_1).symm.trans hr
      refine lv_iinc (v := u1 + 1) (lv' := [(1, .int (u1 + 1)), (0, .ref h0), (2, .int u2), (3, .int u3)]) hx hb dX3_widen_50 hl (k := 1) rfl rfl (by decide) rfl (fun ls hl => ?_)
      refine lv_goto (tgt := 2) hx hb dX3_widen_53 (by decide) ?_
      exact hk9 (u1 + 1) w1 w0_13 hr _ _ _ hP hD hS (lv_sub hl [1, 0] rfl)
    · have hr := (if_pos c_1).symm.trans hr
      refine lv_aload_n hx hb dX3_widen_37 rfl (lv_at hl 0 rfl) ?_
      refine lv_iload_n hx hb dX3_widen_38 rfl (lv_at hl 1 rfl) ?_
      refine lv_iload_n hx hb dX3_widen_39 rfl (lv_at hl 3 rfl) ?_
      refine lv_iload_n hx hb dX3_widen_40 rfl (lv_at hl 2 rfl) ?_
      cases e_2 : f_X3_put n w1 u1 u3 u2 with
      | none => rw [e_2, Option.bind_none] at hr; cases hr
      | some r_3 =>
        rw [e_2, Option.bind_some] at hr
        have hPc := hP.sub (ws' := [(h0, .inr (3, [.int v0, .long v1, .long v2, .long v3, .long v4, .long v5, .long v6, .long v7, .long v8, .long v9, .long v10, .long v11, .long v12, .int w0_13, .ref h1])), (h1, .inl (cI, 6600, .inl w1))]) [0, 1] rfl
        have hDc := hD.sub (ws' := [(h0, .inr (3, [.int v0, .long v1, .long v2, .long v3, .long v4, .long v5, .long v6, .long v7, .long v8, .long v9, .long v10, .long v11, .long v12, .int w0_13, .ref h1])), (h1, .inl (cI, 6600, .inl w1))]) [0, 1] (by decide) rfl
        have hKc := hK.sub (tys' := [(cI, .int)]) [0] rfl
        have hFc := va_free (wc := [(h0, .inr (3, [.int v0, .long v1, .long v2, .long v3, .long v4, .long v5, .long v6, .long v7, .long v8, .long v9, .long v10, .long v11, .long v12, .int w0_13, .ref h1])), (h1, .inl (cI, 6600, .inl w1))]) hD hS hA [0, 1] rfl
        refine va_callv (va_runV (As := [.int u1, .int u3, .int u2]) (rest := []) ⟨hx, hb, hml, hown, hts⟩ (c_X3_put l dC dI H.size h0 h1 cI v0 v1 v2 v3 v4 v5 v6 v7 v8 v9 v10 v11 v12 w0_13 w1 u1 u3 u2 n _ e_2) (cwV 3 hts gX3_widen_X3_put rfl rfl rfl (by decide +kernel) ⟨Nat.le_of_ble_eq_true rfl, Nat.le_of_ble_eq_true rfl⟩) ⟨fun a U g mk q => by obtain ⟨q0, q1, qP, qK, qD⟩ := q; exact ⟨q0, q1, qP, va_K.moved (u := U) (U := U.calling g mk a) (Vm.Alike.refl U.vm) qK, qD⟩, va_recv hKc hPc (ci := 3) (q0 := 0) rfl rfl, fun U hU hW => ⟨rfl, by rw [hU], by rw [hU]; exact hPc, va_K.moved hW.alike hKc, hDc.weaken (fun _ _ _ _ => trivial)⟩⟩ rfl rfl hl.1 rfl (lv_room (Nat.le_of_ble_eq_true rfl)) dX3_widen_41 ⟨Nat.zero_le _, Nat.zero_le _⟩) hS (fun q _ h => hFc q h) hFc (fun _ t H1 locs ht hvm hw hB hz1 hk1 hS => ?_)
        obtain ⟨hP1, hK1, hD1⟩ := hB
        rw [ht] at hP1
        obtain ⟨hP, hD⟩ := va_join (wr := []) (w1 := [(h0, .inr (3, [.int v0, .long v1, .long v2, .long v3, .long v4, .long v5, .long v6, .long v7, .long v8, .long v9, .long v10, .long v11, .long v12, .int w0_13, .ref h1])), (h1, .inl (cI, 6600, .inl r_3))]) hP hD [0, 1] [] rfl rfl (by decide) (by decide) hk1 hFc hP1 hD1
        generalize H1 = H at hP hS ⊢
        have hP : va_P (dC, dI) vwCl [(h0, .inr (3, [.int v0, .long v1, .long v2, .long v3, .long v4, .long v5, .long v6, .long v7, .long v8, .long v9, .long v10, .long v11, .long v12, .int w0_13, .ref h1])), (h1, .inl (cI, 6600, .inl r_3))] H := hP
        have hD : va_D A [(h0, .inr (3, [.int v0, .long v1, .long v2, .long v3, .long v4, .long v5, .long v6, .long v7, .long v8, .long v9, .long v10, .long v11, .long v12, .int w0_13, .ref h1])), (h1, .inl (cI, 6600, .inl r_3))] := hD
        refine W.widen (k := 0) (n := 0) (Nat.le_refl _) (Nat.le_refl _) ?_
        refine lv_iinc (v := u3 + 1) (lv' := [(3, .int (u3 + 1)), (0, .ref h0), (1, .int u1), (2, .int u2)]) hx hb dX3_widen_44 hl (k := 3) rfl rfl (by decide) rfl (fun ls hl => ?_)
        refine lv_goto (tgt := 27) hx hb dX3_widen_47 (by decide) ?_
        exact ih u1 u2 (u3 + 1) r_3 w0_13 hr _ _ _ hP hD hS (lv_sub hl [1, 2, 3, 0] rfl)
def f_X3_widen_2 (n : Nat) : Nat → Int32 → (Nat → Int32) → Int32 → Option ((Nat → Int32) × Int32)
  | 0, _, _, _ => none
  | k + 1, u1, w1, w0_13 => if u1 < 4 then ((f_X3_isBelow n w0_13 w1 u1).bind (fun r_3 => if r_3 = 0 then (f_X3_widen_27 n (fun u1 w1 w0_13 => f_X3_widen_2 n k u1 w1 w0_13) n u1 0 w0_13 w1 w0_13) else (f_X3_widen_27 n (fun u1 w1 w0_13 => f_X3_widen_2 n k u1 w1 w0_13) n u1 65535 w0_13 w1 w0_13))) else (some (w1, w0_13 + 3))
set_option maxHeartbeats 4000000 in
set_option maxRecDepth 100000 in
theorem k_X3_widen_2 {p : Program} {l : Launch} {e : Env} {s : State} {m : MethodId} {args : Array Value} {below : List Frame} {meth : Method} {c : Code} {dC : Nat → ClassId} {dI : Nat → Nat → Nat} {A : Nat → Prop} {h0 : Nat} {h1 : Nat} {cI : ClassId} {v0 : Int32} {v1 : Int64} {v2 : Int64} {v3 : Int64} {v4 : Int64} {v5 : Int64} {v6 : Int64} {v7 : Int64} {v8 : Int64} {v9 : Int64} {v10 : Int64} {v11 : Int64} {v12 : Int64}  (hx : p.tables.exec = Jvm.exec) (hb : c.code = cX3_widen) (hrt : meth.sig.returnType = none) (hml : c.maxLocals = 4) (hown : s.vm.findClass RX3 = some m.cls) (hlocks : meth.locks = false) (hts : ∀ w ∈ wsX3_widen, w.before args s = true) (hA : ∀ q : Nat, s.heap.size ≤ q → A q) (hK : va_K (dC, dI) vwCl [(cI, .int)] s)  (n : Nat) (out : (Nat → Int32) × Int32) :
    ∀ (k : Nat) (u1 : Int32) (w1 : Nat → Int32) (w0_13 : Int32), f_X3_widen_2 n k u1 w1 w0_13 = some out → ∀ (H : Heap) (locs : List Loc) (ls : Array Slot), va_P (dC, dI) vwCl [(h0, .inr (3, [.int v0, .long v1, .long v2, .long v3, .long v4, .long v5, .long v6, .long v7, .long v8, .long v9, .long v10, .long v11, .long v12, .int w0_13, .ref h1])), (h1, .inl (cI, 6600, .inl w1))] H → va_D A [(h0, .inr (3, [.int v0, .long v1, .long v2, .long v3, .long v4, .long v5, .long v6, .long v7, .long v8, .long v9, .long v10, .long v11, .long v12, .int w0_13, .ref h1])), (h1, .inl (cI, 6600, .inl w1))] → va_S A s.heap H locs → lv_has ls 4 [(0, .ref h0), (1, .int u1)] → W p l e ({ frames := 2, cells := 0, slots := 0, locals := 43 }) s m args below meth c H locs 0 0 (MQ below (va_Qv (fun (_ : Unit) => True) (fun (_ : Unit) t => zB dC dI [(cI, .int)] A [(h0, .inr (3, [.int v0, .long v1, .long v2, .long v3, .long v4, .long v5, .long v6, .long v7, .long v8, .long v9, .long v10, .long v11, .long v12, .int out.2, .ref h1])), (h1, .inl (cI, 6600, .inl out.1))] t) A) args s 0 0 A) (F0 m 2 ls []) := by
  intro k
  induction k with
  | zero => intro u1 w1 w0_13 hr; rw [f_X3_widen_2] at hr; cases hr
  | succ k ih =>
    intro u1 w1 w0_13 hr H locs ls hP hD hS hl
    rw [f_X3_widen_2] at hr
    refine lv_iload_n hx hb dX3_widen_2 rfl (lv_at hl 1 rfl) ?_
    refine lv_iconst (v := 4) hx hb dX3_widen_3 (by decide) ?_
    refine lz_ige (tgt := 56) hx hb dX3_widen_4 (by decide) (fun c_1 => ?_) (fun c_1 => ?_)
    · have hr := (if_neg c_1).symm.trans hr
      refine lv_aload_n hx hb dX3_widen_56 rfl (lv_at hl 0 rfl) ?_
      refine lv_dup hx hb dX3_widen_57 rfl ?_
      refine va_get (D := (dC, dI)) (ci := 3) (v := .int w0_13) (C := RX3) (T := TX3) (N := 15) hx hb hts in_X3_widen_X3 hown hK hP 0 rfl rfl 13 (by decide) (hts (.fieldLink RX3 32 "FormRingModel" "digits" "I") (by decide +kernel)) (fun _ h9 => h9) rfl dX3_widen_58 ?_
      refine lv_iconst (v := 3) hx hb dX3_widen_61 (by decide) ?_
      refine lv_iadd hx hb dX3_widen_62 ?_
      refine va_put (D := (dC, dI)) (ci := 3) (v := .int (w0_13 + 3)) (ty := .int) (C := RX3) (T := TX3) (N := 15) hx hb hts in_X3_widen_X3 tyX3 tyX3_ok nmX3 hown hK hP hD hS 0 rfl rfl 13 (by decide) (hts (.fieldLink RX3 32 "FormRingModel" "digits" "I") (by decide +kernel)) (fun _ h9 => h9) rfl (by decide +kernel) rfl rfl (Nat.le_of_ble_eq_true rfl) dX3_widen_63 (fun H locs hP hD hS => ?_)
      have hP : va_P (dC, dI) vwCl [(h0, .inr (3, [.int v0, .long v1, .long v2, .long v3, .long v4, .long v5, .long v6, .long v7, .long v8, .long v9, .long v10, .long v11, .long v12, .int (w0_13 + 3), .ref h1])), (h1, .inl (cI, 6600, .inl w1))] H := hP
      have hD : va_D A [(h0, .inr (3, [.int v0, .long v1, .long v2, .long v3, .long v4, .long v5, .long v6, .long v7, .long v8, .long v9, .long v10, .long v11, .long v12, .int (w0_13 + 3), .ref h1])), (h1, .inl (cI, 6600, .inl w1))] := hD
      have ho := Option.some.inj hr
      subst ho
      exact W.vret hx hb hrt (fun t ht hW => ⟨⟨(), rfl, trivial, by rw [ht]; exact hP, va_K.moved hW.alike hK, hD⟩, hS.F ht⟩) hS.2.2 dX3_widen_66
    · have hr := (if_pos c_1).symm.trans hr
      refine lv_aload_n hx hb dX3_widen_7 rfl (lv_at hl 0 rfl) ?_
      refine lv_iload_n hx hb dX3_widen_8 rfl (lv_at hl 1 rfl) ?_
      cases e_2 : f_X3_isBelow n w0_13 w1 u1 with
      | none => rw [e_2, Option.bind_none] at hr; cases hr
      | some r_3 =>
        rw [e_2, Option.bind_some] at hr
        have hPc := hP.sub (ws' := [(h0, .inr (3, [.int v0, .long v1, .long v2, .long v3, .long v4, .long v5, .long v6, .long v7, .long v8, .long v9, .long v10, .long v11, .long v12, .int w0_13, .ref h1])), (h1, .inl (cI, 6600, .inl w1))]) [0, 1] rfl
        have hDc := hD.sub (ws' := [(h0, .inr (3, [.int v0, .long v1, .long v2, .long v3, .long v4, .long v5, .long v6, .long v7, .long v8, .long v9, .long v10, .long v11, .long v12, .int w0_13, .ref h1])), (h1, .inl (cI, 6600, .inl w1))]) [0, 1] (by decide) rfl
        have hKc := hK.sub (tys' := [(cI, .int)]) [0] rfl
        have hFc := va_free (wc := [(h0, .inr (3, [.int v0, .long v1, .long v2, .long v3, .long v4, .long v5, .long v6, .long v7, .long v8, .long v9, .long v10, .long v11, .long v12, .int w0_13, .ref h1])), (h1, .inl (cI, 6600, .inl w1))]) hD hS hA [0, 1] rfl
        refine va_calli (va_runV (As := [.int u1]) (rest := []) ⟨hx, hb, hml, hown, hts⟩ (c_X3_isBelow l dC dI H.size h0 h1 cI v0 v1 v2 v3 v4 v5 v6 v7 v8 v9 v10 v11 v12 w0_13 w1 u1 n _ e_2) (cwV 1 hts gX3_widen_X3_isBelow rfl rfl rfl (by decide +kernel) ⟨Nat.le_of_ble_eq_true rfl, Nat.le_of_ble_eq_true rfl⟩) ⟨fun a U g mk q => by obtain ⟨q0, q1, qP, qK, qD⟩ := q; exact ⟨q0, q1, qP, va_K.moved (u := U) (U := U.calling g mk a) (Vm.Alike.refl U.vm) qK, qD⟩, va_recv hKc hPc (ci := 3) (q0 := 0) rfl rfl, fun U hU hW => ⟨rfl, by rw [hU], by rw [hU]; exact hPc, va_K.moved hW.alike hKc, hDc.weaken (fun _ _ _ _ => trivial)⟩⟩ rfl rfl hl.1 rfl (lv_room (Nat.le_of_ble_eq_true rfl)) dX3_widen_9 ⟨Nat.zero_le _, Nat.zero_le _⟩) hS (fun q _ h => hFc q h) hFc (fun x_4 _ t H1 locs ht hvm hw hB hz1 hk1 hS => ?_)
        obtain ⟨hw, z_5⟩ := hw
        have hw := hw.symm
        subst hw
        obtain ⟨hP1, hK1, hD1⟩ := hB
        rw [ht] at hP1
        obtain ⟨hP, hD⟩ := va_join (wr := []) (w1 := [(h0, .inr (3, [.int v0, .long v1, .long v2, .long v3, .long v4, .long v5, .long v6, .long v7, .long v8, .long v9, .long v10, .long v11, .long v12, .int w0_13, .ref h1])), (h1, .inl (cI, 6600, .inl w1))]) hP hD [0, 1] [] rfl rfl (by decide) (by decide) hk1 hFc hP1 hD1
        generalize H1 = H at hP hS ⊢
        have hP : va_P (dC, dI) vwCl [(h0, .inr (3, [.int v0, .long v1, .long v2, .long v3, .long v4, .long v5, .long v6, .long v7, .long v8, .long v9, .long v10, .long v11, .long v12, .int w0_13, .ref h1])), (h1, .inl (cI, 6600, .inl w1))] H := hP
        have hD : va_D A [(h0, .inr (3, [.int v0, .long v1, .long v2, .long v3, .long v4, .long v5, .long v6, .long v7, .long v8, .long v9, .long v10, .long v11, .long v12, .int w0_13, .ref h1])), (h1, .inl (cI, 6600, .inl w1))] := hD
        refine W.widen (k := 0) (n := 0) (Nat.le_refl _) (Nat.le_refl _) ?_
        refine lz_zeq (tgt := 20) hx hb dX3_widen_12 (by decide) (fun c_6 => ?_) (fun c_6 => ?_)
        · have hr := (if_pos c_6).symm.trans hr
          refine lv_iconst (v := 0) hx hb dX3_widen_20 (by decide) ?_
          refine lv_istore_n (lv' := [(2, .int 0), (0, .ref h0), (1, .int u1)]) hx hb dX3_widen_21 rfl hl (by decide) rfl (fun ls hl => ?_)
          refine lv_aload_n hx hb dX3_widen_22 rfl (lv_at hl 1 rfl) ?_
          refine va_get (D := (dC, dI)) (ci := 3) (v := .int w0_13) (C := RX3) (T := TX3) (N := 15) hx hb hts in_X3_widen_X3 hown hK hP 0 rfl rfl 13 (by decide) (hts (.fieldLink RX3 32 "FormRingModel" "digits" "I") (by decide +kernel)) (fun _ h9 => h9) rfl dX3_widen_23 ?_
          refine lv_istore_n (lv' := [(3, .int w0_13), (2, .int 0), (0, .ref h0), (1, .int u1)]) hx hb dX3_widen_26 rfl hl (by decide) rfl (fun ls hl => ?_)
          exact k_X3_widen_27 hx hb hrt hml hown hlocks hts hA hK n out ih n u1 0 w0_13 w1 w0_13 hr _ _ _ hP hD hS (lv_sub hl [2, 3, 1, 0] rfl)
        · have hr := (if_neg c_6).symm.trans hr
          refine lv_ldc (v := 65535) hx hb hown (hts (.constant RX3 109 (65535)) (by decide +kernel)) dX3_widen_15 ?_
          refine lv_goto (tgt := 21) hx hb dX3_widen_17 (by decide) ?_
          refine lv_istore_n (lv' := [(2, .int 65535), (0, .ref h0), (1, .int u1)]) hx hb dX3_widen_21 rfl hl (by decide) rfl (fun ls hl => ?_)
          refine lv_aload_n hx hb dX3_widen_22 rfl (lv_at hl 1 rfl) ?_
          refine va_get (D := (dC, dI)) (ci := 3) (v := .int w0_13) (C := RX3) (T := TX3) (N := 15) hx hb hts in_X3_widen_X3 hown hK hP 0 rfl rfl 13 (by decide) (hts (.fieldLink RX3 32 "FormRingModel" "digits" "I") (by decide +kernel)) (fun _ h9 => h9) rfl dX3_widen_23 ?_
          refine lv_istore_n (lv' := [(3, .int w0_13), (2, .int 65535), (0, .ref h0), (1, .int u1)]) hx hb dX3_widen_26 rfl hl (by decide) rfl (fun ls hl => ?_)
          exact k_X3_widen_27 hx hb hrt hml hown hlocks hts hA hK n out ih n u1 65535 w0_13 w1 w0_13 hr _ _ _ hP hD hS (lv_sub hl [2, 3, 1, 0] rfl)
def f_X3_widen (n : Nat) (v13 : Int32) (vR : Nat → Int32) : Option ((Nat → Int32) × Int32) := f_X3_widen_2 n n 0 vR v13
set_option maxHeartbeats 4000000 in
set_option maxRecDepth 100000 in
theorem c_X3_widen (l : Launch) (dC : Nat → ClassId) (dI : Nat → Nat → Nat) (sz : Nat) (h0 : Nat) (h1 : Nat) (cI : ClassId) (v0 : Int32) (v1 : Int64) (v2 : Int64) (v3 : Int64) (v4 : Int64) (v5 : Int64) (v6 : Int64) (v7 : Int64) (v8 : Int64) (v9 : Int64) (v10 : Int64) (v11 : Int64) (v12 : Int64) (v13 : Int32) (vR : Nat → Int32)   (n : Nat) (out : (Nat → Int32) × Int32) (hr : f_X3_widen n v13 vR = some out) : Met l yX3_widen wsX3_widen ({ frames := 2, cells := 0, slots := 0, locals := 43 }) (va_Pc [.ref h0] (zP dC dI [(cI, .int)] [(h0, .inr (3, [.int v0, .long v1, .long v2, .long v3, .long v4, .long v5, .long v6, .long v7, .long v8, .long v9, .long v10, .long v11, .long v12, .int v13, .ref h1])), (h1, .inl (cI, 6600, .inl vR))] sz)) (va_Qv (fun (_ : Unit) => True) (fun (_ : Unit) t => zB dC dI [(cI, .int)] (va_A [(h0, .inr (3, [.int v0, .long v1, .long v2, .long v3, .long v4, .long v5, .long v6, .long v7, .long v8, .long v9, .long v10, .long v11, .long v12, .int v13, .ref h1])), (h1, .inl (cI, 6600, .inl vR))] sz) [(h0, .inr (3, [.int v0, .long v1, .long v2, .long v3, .long v4, .long v5, .long v6, .long v7, .long v8, .long v9, .long v10, .long v11, .long v12, .int out.2, .ref h1])), (h1, .inl (cI, 6600, .inl out.1))] t) (va_A [(h0, .inr (3, [.int v0, .long v1, .long v2, .long v3, .long v4, .long v5, .long v6, .long v7, .long v8, .long v9, .long v10, .long v11, .long v12, .int v13, .ref h1])), (h1, .inl (cI, 6600, .inl vR))] sz)) 0 0 (va_A [(h0, .inr (3, [.int v0, .long v1, .long v2, .long v3, .long v4, .long v5, .long v6, .long v7, .long v8, .long v9, .long v10, .long v11, .long v12, .int v13, .ref h1])), (h1, .inl (cI, 6600, .inl vR))] sz) := by
  refine Met.ofW (cc := cX3_widen) (maxL := 4) (ret := none) (by decide) rfl ?_
  intro p e s m args below meth c s₁ B hml hv
  obtain ⟨rfl, hsz, hP, hK, hD0⟩ := hv
  have hx := B.exec
  have hb := B.bytes
  have hrt := B.returns
  have hts := atoms_spec (ws := wsX3_widen) B.pre
  have hown : s.vm.findClass RX3 = some m.cls := findClass_of_methodNamed B.named
  have hlocks := B.notSynchronized
  subst hsz
  have hD := hD0.self (sz := s.heap.size)
  generalize hAe : va_A [(h0, .inr (3, [.int v0, .long v1, .long v2, .long v3, .long v4, .long v5, .long v6, .long v7, .long v8, .long v9, .long v10, .long v11, .long v12, .int v13, .ref h1])), (h1, .inl (cI, 6600, .inl vR))] s.heap.size = A at hD ⊢
  have hA : ∀ q : Nat, s.heap.size ≤ q → A q := fun q h => by rw [← hAe]; exact Or.inr h
  have hS : va_S A s.heap s.heap [] := va_S.rf
  have hP : va_P (dC, dI) vwCl [(h0, .inr (3, [.int v0, .long v1, .long v2, .long v3, .long v4, .long v5, .long v6, .long v7, .long v8, .long v9, .long v10, .long v11, .long v12, .int v13, .ref h1])), (h1, .inl (cI, 6600, .inl vR))] s.heap := hP
  have hl := lv_entry ([.ref h0]) (n := 4) (Nat.le_of_ble_eq_true rfl)
  rw [lg_entry_eq]
  generalize (lg_sl ([.ref h0]) ++ List.replicate (4 - (lg_sl ([.ref h0])).length) Slot.unset).toArray = ls at hl ⊢
  have hl : lv_has ls 4 [(0, .ref h0)] := hl
  unfold f_X3_widen at hr
  refine lv_iconst (v := 0) hx hb dX3_widen_0 (by decide) ?_
  refine lv_istore_n (lv' := [(1, .int 0), (0, .ref h0)]) hx hb dX3_widen_1 rfl hl (by decide) rfl (fun ls hl => ?_)
  exact k_X3_widen_2 hx hb hrt hml hown hlocks hts hA hK n out n 0 vR v13 hr _ _ _ hP hD hS (lv_sub hl [1, 0] rfl)

theorem in_X3_combine_X3 : ∀ w ∈ u_ws RX3 TX3 15, w ∈ wsX3_combine := by decide +kernel
def f_X3_combine_6 (n : Nat) : Nat → (v13 : Int32) → (a1 : Int32) → (a2 : Int32) → (a3 : Int64) → (a4 : Int32) → Int64 → Int32 → (Nat → Int32) → Option ((Nat → Int32))
  | 0, _, _, _, _, _, _, _, _ => none
  | k + 1, v13, a1, a2, a3, a4, u6, u8, w1 => if u8 < v13 then ((f_X3_get n w1 a2 u8).bind (fun r_3 => (f_X3_get n w1 a4 u8).bind (fun r_6 => (f_X3_put n w1 a1 u8 (((((a3 * r_3.toInt64) + r_6.toInt64) + u6) &&& (65535 : Int64)).toInt32)).bind (fun r_9 => f_X3_combine_6 n k v13 a1 a2 a3 a4 ((((a3 * r_3.toInt64) + r_6.toInt64) + u6) >>> ((16 : Int32).toInt64 &&& 63)) (u8 + 1) r_9)))) else (some w1)
set_option maxHeartbeats 4000000 in
set_option maxRecDepth 100000 in
theorem k_X3_combine_6 {p : Program} {l : Launch} {e : Env} {s : State} {m : MethodId} {args : Array Value} {below : List Frame} {meth : Method} {c : Code} {dC : Nat → ClassId} {dI : Nat → Nat → Nat} {A : Nat → Prop} {h0 : Nat} {h1 : Nat} {cI : ClassId} {v0 : Int32} {v1 : Int64} {v2 : Int64} {v3 : Int64} {v4 : Int64} {v5 : Int64} {v6 : Int64} {v7 : Int64} {v8 : Int64} {v9 : Int64} {v10 : Int64} {v11 : Int64} {v12 : Int64} {v13 : Int32} {a1 : Int32} {a2 : Int32} {a3 : Int64} {a4 : Int32} (hx : p.tables.exec = Jvm.exec) (hb : c.code = cX3_combine) (hrt : meth.sig.returnType = none) (hml : c.maxLocals = 11) (hown : s.vm.findClass RX3 = some m.cls) (hlocks : meth.locks = false) (hts : ∀ w ∈ wsX3_combine, w.before args s = true) (hA : ∀ q : Nat, s.heap.size ≤ q → A q) (hK : va_K (dC, dI) vwCl [(cI, .int)] s)  (n : Nat) (out : (Nat → Int32)) :
    ∀ (k : Nat) (u6 : Int64) (u8 : Int32) (w1 : Nat → Int32), f_X3_combine_6 n k v13 a1 a2 a3 a4 u6 u8 w1 = some out → ∀ (H : Heap) (locs : List Loc) (ls : Array Slot), va_P (dC, dI) vwCl [(h0, .inr (3, [.int v0, .long v1, .long v2, .long v3, .long v4, .long v5, .long v6, .long v7, .long v8, .long v9, .long v10, .long v11, .long v12, .int v13, .ref h1])), (h1, .inl (cI, 6600, .inl w1))] H → va_D A [(h0, .inr (3, [.int v0, .long v1, .long v2, .long v3, .long v4, .long v5, .long v6, .long v7, .long v8, .long v9, .long v10, .long v11, .long v12, .int v13, .ref h1])), (h1, .inl (cI, 6600, .inl w1))] → va_S A s.heap H locs → lv_has ls 11 [(0, .ref h0), (1, .int a1), (2, .int a2), (3, .long a3), (5, .int a4), (6, .long u6), (8, .int u8)] → W p l e ({ frames := 1, cells := 0, slots := 0, locals := 23 }) s m args below meth c H locs 0 0 (MQ below (va_Qv (fun (_ : Unit) => True) (fun (_ : Unit) t => zB dC dI [(cI, .int)] A [(h0, .inr (3, [.int v0, .long v1, .long v2, .long v3, .long v4, .long v5, .long v6, .long v7, .long v8, .long v9, .long v10, .long v11, .long v12, .int v13, .ref h1])), (h1, .inl (cI, 6600, .inl out))] t) A) args s 0 0 A) (F0 m 6 ls []) := by
  intro k
  induction k with
  | zero => intro u6 u8 w1 hr; rw [f_X3_combine_6] at hr; cases hr
  | succ k ih =>
    intro u6 u8 w1 hr H locs ls hP hD hS hl
    rw [f_X3_combine_6] at hr
    refine lv_iload hx hb dX3_combine_6 (lv_at hl 6 rfl) ?_
    refine lv_aload_n hx hb dX3_combine_8 rfl (lv_at hl 0 rfl) ?_
    refine va_get (D := (dC, dI)) (ci := 3) (v := .int v13) (C := RX3) (T := TX3) (N := 15) hx hb hts in_X3_combine_X3 hown hK hP 0 rfl rfl 13 (by decide) (hts (.fieldLink RX3 32 "FormRingModel" "digits" "I") (by decide +kernel)) (fun _ h9 => h9) rfl dX3_combine_9 ?_
    refine lz_ige (tgt := 67) hx hb dX3_combine_12 (by decide) (fun c_1 => ?_) (fun c_1 => ?_)
    · have hr := (if_neg c_1).symm.trans hr
      have ho := Option.some.inj hr
      subst ho
      exact W.vret hx hb hrt (fun t ht hW => ⟨⟨(), rfl, trivial, by rw [ht]; exact hP, va_K.moved hW.alike hK, hD⟩, hS.F ht⟩) hS.2.2 dX3_combine_67
    · have hr := (if_pos c_1).symm.trans hr
      refine lv_lload_n hx hb dX3_combine_15 rfl (lv_at hl 3 rfl) ?_
      refine lv_aload_n hx hb dX3_combine_16 rfl (lv_at hl 0 rfl) ?_
      refine lv_iload_n hx hb dX3_combine_17 rfl (lv_at hl 2 rfl) ?_
      refine lv_iload hx hb dX3_combine_18 (lv_at hl 6 rfl) ?_
      cases e_2 : f_X3_get n w1 a2 u8 with
      | none => rw [e_2, Option.bind_none] at hr; cases hr
      | some r_3 =>
        rw [e_2, Option.bind_some] at hr
        have hPc := hP.sub (ws' := [(h0, .inr (3, [.int v0, .long v1, .long v2, .long v3, .long v4, .long v5, .long v6, .long v7, .long v8, .long v9, .long v10, .long v11, .long v12, .int v13, .ref h1])), (h1, .inl (cI, 6600, .inl w1))]) [0, 1] rfl
        have hDc := hD.sub (ws' := [(h0, .inr (3, [.int v0, .long v1, .long v2, .long v3, .long v4, .long v5, .long v6, .long v7, .long v8, .long v9, .long v10, .long v11, .long v12, .int v13, .ref h1])), (h1, .inl (cI, 6600, .inl w1))]) [0, 1] (by decide) rfl
        have hKc := hK.sub (tys' := [(cI, .int)]) [0] rfl
        have hFc := va_free (wc := [(h0, .inr (3, [.int v0, .long v1, .long v2, .long v3, .long v4, .long v5, .long v6, .long v7, .long v8, .long v9, .long v10, .long v11, .long v12, .int v13, .ref h1])), (h1, .inl (cI, 6600, .inl w1))]) hD hS hA [0, 1] rfl
        refine va_calli (va_runV (As := [.int a2, .int u8]) (rest := [.long a3]) ⟨hx, hb, hml, hown, hts⟩ (c_X3_get l dC dI H.size h0 h1 cI v0 v1 v2 v3 v4 v5 v6 v7 v8 v9 v10 v11 v12 v13 w1 a2 u8 n _ e_2) (cwV 2 hts gX3_combine_X3_get rfl rfl rfl (by decide +kernel) ⟨Nat.le_of_ble_eq_true rfl, Nat.le_of_ble_eq_true rfl⟩) ⟨fun a U g mk q => by obtain ⟨q0, q1, qP, qK, qD⟩ := q; exact ⟨q0, q1, qP, va_K.moved (u := U) (U := U.calling g mk a) (Vm.Alike.refl U.vm) qK, qD⟩, va_recv hKc hPc (ci := 3) (q0 := 0) rfl rfl, fun U hU hW => ⟨rfl, by rw [hU], by rw [hU]; exact hPc, va_K.moved hW.alike hKc, hDc.weaken (fun _ _ _ _ => trivial)⟩⟩ rfl rfl hl.1 rfl (lv_room (Nat.le_of_ble_eq_true rfl)) dX3_combine_20 ⟨Nat.zero_le _, Nat.zero_le _⟩) hS (fun q _ h => hFc q h) hFc (fun x_4 _ t H1 locs ht hvm hw hB hz1 hk1 hS => ?_)
        have hw := hw.symm
        subst hw
        obtain ⟨hP1, hK1, hD1⟩ := hB
        rw [ht] at hP1
        obtain ⟨hP, hD⟩ := va_join (wr := []) (w1 := [(h0, .inr (3, [.int v0, .long v1, .long v2, .long v3, .long v4, .long v5, .long v6, .long v7, .long v8, .long v9, .long v10, .long v11, .long v12, .int v13, .ref h1])), (h1, .inl (cI, 6600, .inl w1))]) hP hD [0, 1] [] rfl rfl (by decide) (by decide) hk1 hFc hP1 hD1
        generalize H1 = H at hP hS ⊢
        have hP : va_P (dC, dI) vwCl [(h0, .inr (3, [.int v0, .long v1, .long v2, .long v3, .long v4, .long v5, .long v6, .long v7, .long v8, .long v9, .long v10, .long v11, .long v12, .int v13, .ref h1])), (h1, .inl (cI, 6600, .inl w1))] H := hP
        have hD : va_D A [(h0, .inr (3, [.int v0, .long v1, .long v2, .long v3, .long v4, .long v5, .long v6, .long v7, .long v8, .long v9, .long v10, .long v11, .long v12, .int v13, .ref h1])), (h1, .inl (cI, 6600, .inl w1))] := hD
        refine W.widen (k := 0) (n := 0) (Nat.le_refl _) (Nat.le_refl _) ?_
        refine lv_i2l hx hb dX3_combine_23 rfl ?_
        refine lv_lmul hx hb dX3_combine_24 ?_
        refine lv_aload_n hx hb dX3_combine_25 rfl (lv_at hl 0 rfl) ?_
        refine lv_iload hx hb dX3_combine_26 (lv_at hl 4 rfl) ?_
        refine lv_iload hx hb dX3_combine_28 (lv_at hl 6 rfl) ?_
        cases e_5 : f_X3_get n w1 a4 u8 with
        | none => rw [e_5, Option.bind_none] at hr; cases hr
        | some r_6 =>
          rw [e_5, Option.bind_some] at hr
          have hPc := hP.sub (ws' := [(h0, .inr (3, [.int v0, .long v1, .long v2, .long v3, .long v4, .long v5, .long v6, .long v7, .long v8, .long v9, .long v10, .long v11, .long v12, .int v13, .ref h1])), (h1, .inl (cI, 6600, .inl w1))]) [0, 1] rfl
          have hDc := hD.sub (ws' := [(h0, .inr (3, [.int v0, .long v1, .long v2, .long v3, .long v4, .long v5, .long v6, .long v7, .long v8, .long v9, .long v10, .long v11, .long v12, .int v13, .ref h1])), (h1, .inl (cI, 6600, .inl w1))]) [0, 1] (by decide) rfl
          have hKc := hK.sub (tys' := [(cI, .int)]) [0] rfl
          have hFc := va_free (wc := [(h0, .inr (3, [.int v0, .long v1, .long v2, .long v3, .long v4, .long v5, .long v6, .long v7, .long v8, .long v9, .long v10, .long v11, .long v12, .int v13, .ref h1])), (h1, .inl (cI, 6600, .inl w1))]) hD hS hA [0, 1] rfl
          refine va_calli (va_runV (As := [.int a4, .int u8]) (rest := [.long (a3 * r_3.toInt64)]) ⟨hx, hb, hml, hown, hts⟩ (c_X3_get l dC dI H.size h0 h1 cI v0 v1 v2 v3 v4 v5 v6 v7 v8 v9 v10 v11 v12 v13 w1 a4 u8 n _ e_5) (cwV 2 hts gX3_combine_X3_get rfl rfl rfl (by decide +kernel) ⟨Nat.le_of_ble_eq_true rfl, Nat.le_of_ble_eq_true rfl⟩) ⟨fun a U g mk q => by obtain ⟨q0, q1, qP, qK, qD⟩ := q; exact ⟨q0, q1, qP, va_K.moved (u := U) (U := U.calling g mk a) (Vm.Alike.refl U.vm) qK, qD⟩, va_recv hKc hPc (ci := 3) (q0 := 0) rfl rfl, fun U hU hW => ⟨rfl, by rw [hU], by rw [hU]; exact hPc, va_K.moved hW.alike hKc, hDc.weaken (fun _ _ _ _ => trivial)⟩⟩ rfl rfl hl.1 rfl (lv_room (Nat.le_of_ble_eq_true rfl)) dX3_combine_30 ⟨Nat.zero_le _, Nat.zero_le _⟩) hS (fun q _ h => hFc q h) hFc (fun x_7 _ t H1 locs ht hvm hw hB hz1 hk1 hS => ?_)
          have hw := hw.symm
          subst hw
          obtain ⟨hP1, hK1, hD1⟩ := hB
          rw [ht] at hP1
          obtain ⟨hP, hD⟩ := va_join (wr := []) (w1 := [(h0, .inr (3, [.int v0, .long v1, .long v2, .long v3, .long v4, .long v5, .long v6, .long v7, .long v8, .long v9, .long v10, .long v11, .long v12, .int v13, .ref h1])), (h1, .inl (cI, 6600, .inl w1))]) hP hD [0, 1] [] rfl rfl (by decide) (by decide) hk1 hFc hP1 hD1
          generalize H1 = H at hP hS ⊢
          have hP : va_P (dC, dI) vwCl [(h0, .inr (3, [.int v0, .long v1, .long v2, .long v3, .long v4, .long v5, .long v6, .long v7, .long v8, .long v9, .long v10, .long v11, .long v12, .int v13, .ref h1])), (h1, .inl (cI, 6600, .inl w1))] H := hP
          have hD : va_D A [(h0, .inr (3, [.int v0, .long v1, .long v2, .long v3, .long v4, .long v5, .long v6, .long v7, .long v8, .long v9, .long v10, .long v11, .long v12, .int v13, .ref h1])), (h1, .inl (cI, 6600, .inl w1))] := hD
          refine W.widen (k := 0) (n := 0) (Nat.le_refl _) (Nat.le_refl _) ?_
          refine lv_i2l hx hb dX3_combine_33 rfl ?_
          refine lv_ladd hx hb dX3_combine_34 ?_
          refine lv_lload hx hb dX3_combine_35 (lv_at hl 5 rfl) ?_
          refine lv_ladd hx hb dX3_combine_37 ?_
          refine lv_lstore (lv' := [(9, .long (((a3 * r_3.toInt64) + r_6.toInt64) + u6)), (0, .ref h0), (1, .int a1), (2, .int a2), (3, .long a3), (5, .int a4), (6, .long u6), (8, .int u8)]) hx hb dX3_combine_38 hl (by decide) rfl (fun ls hl => ?_)
          refine lv_aload_n hx hb dX3_combine_40 rfl (lv_at hl 1 rfl) ?_
          refine lv_iload_n hx hb dX3_combine_41 rfl (lv_at hl 2 rfl) ?_
          refine lv_iload hx hb dX3_combine_42 (lv_at hl 7 rfl) ?_
          refine lv_lload hx hb dX3_combine_44 (lv_at hl 0 rfl) ?_
          refine lv_ldc2 (v := 65535) hx hb hown (hts (.constantLong RX3 110 (65535)) (by decide +kernel)) dX3_combine_46 ?_
          refine lv_land hx hb dX3_combine_49 ?_
          refine lv_l2i hx hb dX3_combine_50 rfl ?_
          cases e_8 : f_X3_put n w1 a1 u8 (((((a3 * r_3.toInt64) + r_6.toInt64) + u6) &&& (65535 : Int64)).toInt32) with
          | none => rw [e_8, Option.bind_none] at hr; cases hr
          | some r_9 =>
            rw [e_8, Option.bind_some] at hr
            have hPc := hP.sub (ws' := [(h0, .inr (3, [.int v0, .long v1, .long v2, .long v3, .long v4, .long v5, .long v6, .long v7, .long v8, .long v9, .long v10, .long v11, .long v12, .int v13, .ref h1])), (h1, .inl (cI, 6600, .inl w1))]) [0, 1] rfl
            have hDc := hD.sub (ws' := [(h0, .inr (3, [.int v0, .long v1, .long v2, .long v3, .long v4, .long v5, .long v6, .long v7, .long v8, .long v9, .long v10, .long v11, .long v12, .int v13, .ref h1])), (h1, .inl (cI, 6600, .inl w1))]) [0, 1] (by decide) rfl
            have hKc := hK.sub (tys' := [(cI, .int)]) [0] rfl
            have hFc := va_free (wc := [(h0, .inr (3, [.int v0, .long v1, .long v2, .long v3, .long v4, .long v5, .long v6, .long v7, .long v8, .long v9, .long v10, .long v11, .long v12, .int v13, .ref h1])), (h1, .inl (cI, 6600, .inl w1))]) hD hS hA [0, 1] rfl
            refine va_callv (va_runV (As := [.int a1, .int u8, .int (((((a3 * r_3.toInt64) + r_6.toInt64) + u6) &&& (65535 : Int64)).toInt32)]) (rest := []) ⟨hx, hb, hml, hown, hts⟩ (c_X3_put l dC dI H.size h0 h1 cI v0 v1 v2 v3 v4 v5 v6 v7 v8 v9 v10 v11 v12 v13 w1 a1 u8 (((((a3 * r_3.toInt64) + r_6.toInt64) + u6) &&& (65535 : Int64)).toInt32) n _ e_8) (cwV 3 hts gX3_combine_X3_put rfl rfl rfl (by decide +kernel) ⟨Nat.le_of_ble_eq_true rfl, Nat.le_of_ble_eq_true rfl⟩) ⟨fun a U g mk q => by obtain ⟨q0, q1, qP, qK, qD⟩ := q; exact ⟨q0, q1, qP, va_K.moved (u := U) (U := U.calling g mk a) (Vm.Alike.refl U.vm) qK, qD⟩, va_recv hKc hPc (ci := 3) (q0 := 0) rfl rfl, fun U hU hW => ⟨rfl, by rw [hU], by rw [hU]; exact hPc, va_K.moved hW.alike hKc, hDc.weaken (fun _ _ _ _ => trivial)⟩⟩ rfl rfl hl.1 rfl (lv_room (Nat.le_of_ble_eq_true rfl)) dX3_combine_51 ⟨Nat.zero_le _, Nat.zero_le _⟩) hS (fun q _ h => hFc q h) hFc (fun _ t H1 locs ht hvm hw hB hz1 hk1 hS => ?_)
            obtain ⟨hP1, hK1, hD1⟩ := hB
            rw [ht] at hP1
            obtain ⟨hP, hD⟩ := va_join (wr := []) (w1 := [(h0, .inr (3, [.int v0, .long v1, .long v2, .long v3, .long v4, .long v5, .long v6, .long v7, .long v8, .long v9, .long v10, .long v11, .long v12, .int v13, .ref h1])), (h1, .inl (cI, 6600, .inl r_9))]) hP hD [0, 1] [] rfl rfl (by decide) (by decide) hk1 hFc hP1 hD1
            generalize H1 = H at hP hS ⊢
            have hP : va_P (dC, dI) vwCl [(h0, .inr (3, [.int v0, .long v1, .long v2, .long v3, .long v4, .long v5, .long v6, .long v7, .long v8, .long v9, .long v10, .long v11, .long v12, .int v13, .ref h1])), (h1, .inl (cI, 6600, .inl r_9))] H := hP
            have hD : va_D A [(h0, .inr (3, [.int v0, .long v1, .long v2, .long v3, .long v4, .long v5, .long v6, .long v7, .long v8, .long v9, .long v10, .long v11, .long v12, .int v13, .ref h1])), (h1, .inl (cI, 6600, .inl r_9))] := hD
            refine W.widen (k := 0) (n := 0) (Nat.le_refl _) (Nat.le_refl _) ?_
            refine lv_lload hx hb dX3_combine_54 (lv_at hl 0 rfl) ?_
            refine lv_bipush (v := 16) hx hb dX3_combine_56 (by decide) ?_
            refine lv_lshr hx hb dX3_combine_58 rfl ?_
            refine lv_lstore (lv' := [(6, .long ((((a3 * r_3.toInt64) + r_6.toInt64) + u6) >>> ((16 : Int32).toInt64 &&& 63))), (9, .long (((a3 * r_3.toInt64) + r_6.toInt64) + u6)), (0, .ref h0), (1, .int a1), (2, .int a2), (3, .long a3), (5, .int a4), (8, .int u8)]) hx hb dX3_combine_59 hl (by decide) rfl (fun ls hl => ?_)
            refine lv_iinc (v := u8 + 1) (lv' := [(8, .int (u8 + 1)), (6, .long ((((a3 * r_3.toInt64) + r_6.toInt64) + u6) >>> ((16 : Int32).toInt64 &&& 63))), (9, .long (((a3 * r_3.toInt64) + r_6.toInt64) + u6)), (0, .ref h0), (1, .int a1), (2, .int a2), (3, .long a3), (5, .int a4)]) hx hb dX3_combine_61 hl (k := 7) rfl rfl (by decide) rfl (fun ls hl => ?_)
            refine lv_goto (tgt := 6) hx hb dX3_combine_64 (by decide) ?_
            exact ih ((((a3 * r_3.toInt64) + r_6.toInt64) + u6) >>> ((16 : Int32).toInt64 &&& 63)) (u8 + 1) r_9 hr _ _ _ hP hD hS (lv_sub hl [3, 4, 5, 6, 7, 1, 0] rfl)
def f_X3_combine (n : Nat) (v13 : Int32) (vR : Nat → Int32) (a1 : Int32) (a2 : Int32) (a3 : Int64) (a4 : Int32) : Option ((Nat → Int32)) := f_X3_combine_6 n n v13 a1 a2 a3 a4 0 0 vR
set_option maxHeartbeats 4000000 in
set_option maxRecDepth 100000 in
theorem c_X3_combine (l : Launch) (dC : Nat → ClassId) (dI : Nat → Nat → Nat) (sz : Nat) (h0 : Nat) (h1 : Nat) (cI : ClassId) (v0 : Int32) (v1 : Int64) (v2 : Int64) (v3 : Int64) (v4 : Int64) (v5 : Int64) (v6 : Int64) (v7 : Int64) (v8 : Int64) (v9 : Int64) (v10 : Int64) (v11 : Int64) (v12 : Int64) (v13 : Int32) (vR : Nat → Int32) (a1 : Int32) (a2 : Int32) (a3 : Int64) (a4 : Int32)  (n : Nat) (out : (Nat → Int32)) (hr : f_X3_combine n v13 vR a1 a2 a3 a4 = some out) : Met l yX3_combine wsX3_combine ({ frames := 1, cells := 0, slots := 0, locals := 23 }) (va_Pc [.ref h0, .int a1, .int a2, .long a3, .int a4] (zP dC dI [(cI, .int)] [(h0, .inr (3, [.int v0, .long v1, .long v2, .long v3, .long v4, .long v5, .long v6, .long v7, .long v8, .long v9, .long v10, .long v11, .long v12, .int v13, .ref h1])), (h1, .inl (cI, 6600, .inl vR))] sz)) (va_Qv (fun (_ : Unit) => True) (fun (_ : Unit) t => zB dC dI [(cI, .int)] (va_A [(h0, .inr (3, [.int v0, .long v1, .long v2, .long v3, .long v4, .long v5, .long v6, .long v7, .long v8, .long v9, .long v10, .long v11, .long v12, .int v13, .ref h1])), (h1, .inl (cI, 6600, .inl vR))] sz) [(h0, .inr (3, [.int v0, .long v1, .long v2, .long v3, .long v4, .long v5, .long v6, .long v7, .long v8, .long v9, .long v10, .long v11, .long v12, .int v13, .ref h1])), (h1, .inl (cI, 6600, .inl out))] t) (va_A [(h0, .inr (3, [.int v0, .long v1, .long v2, .long v3, .long v4, .long v5, .long v6, .long v7, .long v8, .long v9, .long v10, .long v11, .long v12, .int v13, .ref h1])), (h1, .inl (cI, 6600, .inl vR))] sz)) 0 0 (va_A [(h0, .inr (3, [.int v0, .long v1, .long v2, .long v3, .long v4, .long v5, .long v6, .long v7, .long v8, .long v9, .long v10, .long v11, .long v12, .int v13, .ref h1])), (h1, .inl (cI, 6600, .inl vR))] sz) := by
  refine Met.ofW (cc := cX3_combine) (maxL := 11) (ret := none) (by decide) rfl ?_
  intro p e s m args below meth c s₁ B hml hv
  obtain ⟨rfl, hsz, hP, hK, hD0⟩ := hv
  have hx := B.exec
  have hb := B.bytes
  have hrt := B.returns
  have hts := atoms_spec (ws := wsX3_combine) B.pre
  have hown : s.vm.findClass RX3 = some m.cls := findClass_of_methodNamed B.named
  have hlocks := B.notSynchronized
  subst hsz
  have hD := hD0.self (sz := s.heap.size)
  generalize hAe : va_A [(h0, .inr (3, [.int v0, .long v1, .long v2, .long v3, .long v4, .long v5, .long v6, .long v7, .long v8, .long v9, .long v10, .long v11, .long v12, .int v13, .ref h1])), (h1, .inl (cI, 6600, .inl vR))] s.heap.size = A at hD ⊢
  have hA : ∀ q : Nat, s.heap.size ≤ q → A q := fun q h => by rw [← hAe]; exact Or.inr h
  have hS : va_S A s.heap s.heap [] := va_S.rf
  have hP : va_P (dC, dI) vwCl [(h0, .inr (3, [.int v0, .long v1, .long v2, .long v3, .long v4, .long v5, .long v6, .long v7, .long v8, .long v9, .long v10, .long v11, .long v12, .int v13, .ref h1])), (h1, .inl (cI, 6600, .inl vR))] s.heap := hP
  have hl := lv_entry ([.ref h0, .int a1, .int a2, .long a3, .int a4]) (n := 11) (Nat.le_of_ble_eq_true rfl)
  rw [lg_entry_eq]
  generalize (lg_sl ([.ref h0, .int a1, .int a2, .long a3, .int a4]) ++ List.replicate (11 - (lg_sl ([.ref h0, .int a1, .int a2, .long a3, .int a4])).length) Slot.unset).toArray = ls at hl ⊢
  have hl : lv_has ls 11 [(0, .ref h0), (1, .int a1), (2, .int a2), (3, .long a3), (5, .int a4)] := hl
  unfold f_X3_combine at hr
  refine lv_lconst (v := 0) hx hb dX3_combine_0 (by decide) ?_
  refine lv_lstore (lv' := [(6, .long 0), (0, .ref h0), (1, .int a1), (2, .int a2), (3, .long a3), (5, .int a4)]) hx hb dX3_combine_1 hl (by decide) rfl (fun ls hl => ?_)
  refine lv_iconst (v := 0) hx hb dX3_combine_3 (by decide) ?_
  refine lv_istore (lv' := [(8, .int 0), (6, .long 0), (0, .ref h0), (1, .int a1), (2, .int a2), (3, .long a3), (5, .int a4)]) hx hb dX3_combine_4 hl (by decide) rfl (fun ls hl => ?_)
  exact k_X3_combine_6 hx hb hrt hml hown hlocks hts hA hK n out n 0 0 vR hr _ _ _ hP hD hS (lv_sub hl [2, 3, 4, 5, 6, 1, 0] rfl)

theorem in_X3_negative_X3 : ∀ w ∈ u_ws RX3 TX3 15, w ∈ wsX3_negative := by decide +kernel
def f_X3_negative_5 (n : Nat) : Nat → (v13 : Int32) → (a1 : Int32) → (a2 : Int32) → Int32 → Int32 → (Nat → Int32) → Option ((Nat → Int32))
  | 0, _, _, _, _, _, _ => none
  | k + 1, v13, a1, a2, u3, u4, w1 => if u4 < v13 then ((f_X3_get n w1 a2 u4).bind (fun r_3 => (f_X3_put n w1 a1 u4 (((65535 - r_3) + u3) &&& (65535 : Int32))).bind (fun r_6 => f_X3_negative_5 n k v13 a1 a2 (((65535 - r_3) + u3) >>> ((16 : Int32) &&& 31)) (u4 + 1) r_6))) else (some w1)
set_option maxHeartbeats 4000000 in
set_option maxRecDepth 100000 in
theorem k_X3_negative_5 {p : Program} {l : Launch} {e : Env} {s : State} {m : MethodId} {args : Array Value} {below : List Frame} {meth : Method} {c : Code} {dC : Nat → ClassId} {dI : Nat → Nat → Nat} {A : Nat → Prop} {h0 : Nat} {h1 : Nat} {cI : ClassId} {v0 : Int32} {v1 : Int64} {v2 : Int64} {v3 : Int64} {v4 : Int64} {v5 : Int64} {v6 : Int64} {v7 : Int64} {v8 : Int64} {v9 : Int64} {v10 : Int64} {v11 : Int64} {v12 : Int64} {v13 : Int32} {a1 : Int32} {a2 : Int32} (hx : p.tables.exec = Jvm.exec) (hb : c.code = cX3_negative) (hrt : meth.sig.returnType = none) (hml : c.maxLocals = 6) (hown : s.vm.findClass RX3 = some m.cls) (hlocks : meth.locks = false) (hts : ∀ w ∈ wsX3_negative, w.before args s = true) (hA : ∀ q : Nat, s.heap.size ≤ q → A q) (hK : va_K (dC, dI) vwCl [(cI, .int)] s)  (n : Nat) (out : (Nat → Int32)) :
    ∀ (k : Nat) (u3 : Int32) (u4 : Int32) (w1 : Nat → Int32), f_X3_negative_5 n k v13 a1 a2 u3 u4 w1 = some out → ∀ (H : Heap) (locs : List Loc) (ls : Array Slot), va_P (dC, dI) vwCl [(h0, .inr (3, [.int v0, .long v1, .long v2, .long v3, .long v4, .long v5, .long v6, .long v7, .long v8, .long v9, .long v10, .long v11, .long v12, .int v13, .ref h1])), (h1, .inl (cI, 6600, .inl w1))] H → va_D A [(h0, .inr (3, [.int v0, .long v1, .long v2, .long v3, .long v4, .long v5, .long v6, .long v7, .long v8, .long v9, .long v10, .long v11, .long v12, .int v13, .ref h1])), (h1, .inl (cI, 6600, .inl w1))] → va_S A s.heap H locs → lv_has ls 6 [(0, .ref h0), (1, .int a1), (2, .int a2), (3, .int u3), (4, .int u4)] → W p l e ({ frames := 1, cells := 0, slots := 0, locals := 23 }) s m args below meth c H locs 0 0 (MQ below (va_Qv (fun (_ : Unit) => True) (fun (_ : Unit) t => zB dC dI [(cI, .int)] A [(h0, .inr (3, [.int v0, .long v1, .long v2, .long v3, .long v4, .long v5, .long v6, .long v7, .long v8, .long v9, .long v10, .long v11, .long v12, .int v13, .ref h1])), (h1, .inl (cI, 6600, .inl out))] t) A) args s 0 0 A) (F0 m 5 ls []) := by
  intro k
  induction k with
  | zero => intro u3 u4 w1 hr; rw [f_X3_negative_5] at hr; cases hr
  | succ k ih =>
    intro u3 u4 w1 hr H locs ls hP hD hS hl
    rw [f_X3_negative_5] at hr
    refine lv_iload hx hb dX3_negative_5 (lv_at hl 4 rfl) ?_
    refine lv_aload_n hx hb dX3_negative_7 rfl (lv_at hl 0 rfl) ?_
    refine va_get (D := (dC, dI)) (ci := 3) (v := .int v13) (C := RX3) (T := TX3) (N := 15) hx hb hts in_X3_negative_X3 hown hK hP 0 rfl rfl 13 (by decide) (hts (.fieldLink RX3 32 "FormRingModel" "digits" "I") (by decide +kernel)) (fun _ h9 => h9) rfl dX3_negative_8 ?_
    refine lz_ige (tgt := 52) hx hb dX3_negative_11 (by decide) (fun c_1 => ?_) (fun c_1 => ?_)
    · have hr := (if_neg c_1).symm.trans hr
      have ho := Option.some.inj hr
      subst ho
      exact W.vret hx hb hrt (fun t ht hW => ⟨⟨(), rfl, trivial, by rw [ht]; exact hP, va_K.moved hW.alike hK, hD⟩, hS.F ht⟩) hS.2.2 dX3_negative_52
    · have hr := (if_pos c_1).symm.trans hr
      refine lv_ldc (v := 65535) hx hb hown (hts (.constant RX3 109 (65535)) (by decide +kernel)) dX3_negative_14 ?_
      refine lv_aload_n hx hb dX3_negative_16 rfl (lv_at hl 0 rfl) ?_
      refine lv_iload_n hx hb dX3_negative_17 rfl (lv_at hl 2 rfl) ?_
      refine lv_iload hx hb dX3_negative_18 (lv_at hl 4 rfl) ?_
      cases e_2 : f_X3_get n w1 a2 u4 with
      | none => rw [e_2, Option.bind_none] at hr; cases hr
      | some r_3 =>
        rw [e_2, Option.bind_some] at hr
        have hPc := hP.sub (ws' := [(h0, .inr (3, [.int v0, .long v1, .long v2, .long v3, .long v4, .long v5, .long v6, .long v7, .long v8, .long v9, .long v10, .long v11, .long v12, .int v13, .ref h1])), (h1, .inl (cI, 6600, .inl w1))]) [0, 1] rfl
        have hDc := hD.sub (ws' := [(h0, .inr (3, [.int v0, .long v1, .long v2, .long v3, .long v4, .long v5, .long v6, .long v7, .long v8, .long v9, .long v10, .long v11, .long v12, .int v13, .ref h1])), (h1, .inl (cI, 6600, .inl w1))]) [0, 1] (by decide) rfl
        have hKc := hK.sub (tys' := [(cI, .int)]) [0] rfl
        have hFc := va_free (wc := [(h0, .inr (3, [.int v0, .long v1, .long v2, .long v3, .long v4, .long v5, .long v6, .long v7, .long v8, .long v9, .long v10, .long v11, .long v12, .int v13, .ref h1])), (h1, .inl (cI, 6600, .inl w1))]) hD hS hA [0, 1] rfl
        refine va_calli (va_runV (As := [.int a2, .int u4]) (rest := [.int 65535]) ⟨hx, hb, hml, hown, hts⟩ (c_X3_get l dC dI H.size h0 h1 cI v0 v1 v2 v3 v4 v5 v6 v7 v8 v9 v10 v11 v12 v13 w1 a2 u4 n _ e_2) (cwV 2 hts gX3_negative_X3_get rfl rfl rfl (by decide +kernel) ⟨Nat.le_of_ble_eq_true rfl, Nat.le_of_ble_eq_true rfl⟩) ⟨fun a U g mk q => by obtain ⟨q0, q1, qP, qK, qD⟩ := q; exact ⟨q0, q1, qP, va_K.moved (u := U) (U := U.calling g mk a) (Vm.Alike.refl U.vm) qK, qD⟩, va_recv hKc hPc (ci := 3) (q0 := 0) rfl rfl, fun U hU hW => ⟨rfl, by rw [hU], by rw [hU]; exact hPc, va_K.moved hW.alike hKc, hDc.weaken (fun _ _ _ _ => trivial)⟩⟩ rfl rfl hl.1 rfl (lv_room (Nat.le_of_ble_eq_true rfl)) dX3_negative_20 ⟨Nat.zero_le _, Nat.zero_le _⟩) hS (fun q _ h => hFc q h) hFc (fun x_4 _ t H1 locs ht hvm hw hB hz1 hk1 hS => ?_)
        have hw := hw.symm
        subst hw
        obtain ⟨hP1, hK1, hD1⟩ := hB
        rw [ht] at hP1
        obtain ⟨hP, hD⟩ := va_join (wr := []) (w1 := [(h0, .inr (3, [.int v0, .long v1, .long v2, .long v3, .long v4, .long v5, .long v6, .long v7, .long v8, .long v9, .long v10, .long v11, .long v12, .int v13, .ref h1])), (h1, .inl (cI, 6600, .inl w1))]) hP hD [0, 1] [] rfl rfl (by decide) (by decide) hk1 hFc hP1 hD1
        generalize H1 = H at hP hS ⊢
        have hP : va_P (dC, dI) vwCl [(h0, .inr (3, [.int v0, .long v1, .long v2, .long v3, .long v4, .long v5, .long v6, .long v7, .long v8, .long v9, .long v10, .long v11, .long v12, .int v13, .ref h1])), (h1, .inl (cI, 6600, .inl w1))] H := hP
        have hD : va_D A [(h0, .inr (3, [.int v0, .long v1, .long v2, .long v3, .long v4, .long v5, .long v6, .long v7, .long v8, .long v9, .long v10, .long v11, .long v12, .int v13, .ref h1])), (h1, .inl (cI, 6600, .inl w1))] := hD
        refine W.widen (k := 0) (n := 0) (Nat.le_refl _) (Nat.le_refl _) ?_
        refine lv_isub hx hb dX3_negative_23 ?_
        refine lv_iload_n hx hb dX3_negative_24 rfl (lv_at hl 3 rfl) ?_
        refine lv_iadd hx hb dX3_negative_25 ?_
        refine lv_istore (lv' := [(5, .int ((65535 - r_3) + u3)), (0, .ref h0), (1, .int a1), (2, .int a2), (3, .int u3), (4, .int u4)]) hx hb dX3_negative_26 hl (by decide) rfl (fun ls hl => ?_)
        refine lv_aload_n hx hb dX3_negative_28 rfl (lv_at hl 1 rfl) ?_
        refine lv_iload_n hx hb dX3_negative_29 rfl (lv_at hl 2 rfl) ?_
        refine lv_iload hx hb dX3_negative_30 (lv_at hl 5 rfl) ?_
        refine lv_iload hx hb dX3_negative_32 (lv_at hl 0 rfl) ?_
        refine lv_ldc (v := 65535) hx hb hown (hts (.constant RX3 109 (65535)) (by decide +kernel)) dX3_negative_34 ?_
        refine lv_iand hx hb dX3_negative_36 ?_
        cases e_5 : f_X3_put n w1 a1 u4 (((65535 - r_3) + u3) &&& (65535 : Int32)) with
        | none => rw [e_5, Option.bind_none] at hr; cases hr
        | some r_6 =>
          rw [e_5, Option.bind_some] at hr
          have hPc := hP.sub (ws' := [(h0, .inr (3, [.int v0, .long v1, .long v2, .long v3, .long v4, .long v5, .long v6, .long v7, .long v8, .long v9, .long v10, .long v11, .long v12, .int v13, .ref h1])), (h1, .inl (cI, 6600, .inl w1))]) [0, 1] rfl
          have hDc := hD.sub (ws' := [(h0, .inr (3, [.int v0, .long v1, .long v2, .long v3, .long v4, .long v5, .long v6, .long v7, .long v8, .long v9, .long v10, .long v11, .long v12, .int v13, .ref h1])), (h1, .inl (cI, 6600, .inl w1))]) [0, 1] (by decide) rfl
          have hKc := hK.sub (tys' := [(cI, .int)]) [0] rfl
          have hFc := va_free (wc := [(h0, .inr (3, [.int v0, .long v1, .long v2, .long v3, .long v4, .long v5, .long v6, .long v7, .long v8, .long v9, .long v10, .long v11, .long v12, .int v13, .ref h1])), (h1, .inl (cI, 6600, .inl w1))]) hD hS hA [0, 1] rfl
          refine va_callv (va_runV (As := [.int a1, .int u4, .int (((65535 - r_3) + u3) &&& (65535 : Int32))]) (rest := []) ⟨hx, hb, hml, hown, hts⟩ (c_X3_put l dC dI H.size h0 h1 cI v0 v1 v2 v3 v4 v5 v6 v7 v8 v9 v10 v11 v12 v13 w1 a1 u4 (((65535 - r_3) + u3) &&& (65535 : Int32)) n _ e_5) (cwV 3 hts gX3_negative_X3_put rfl rfl rfl (by decide +kernel) ⟨Nat.le_of_ble_eq_true rfl, Nat.le_of_ble_eq_true rfl⟩) ⟨fun a U g mk q => by obtain ⟨q0, q1, qP, qK, qD⟩ := q; exact ⟨q0, q1, qP, va_K.moved (u := U) (U := U.calling g mk a) (Vm.Alike.refl U.vm) qK, qD⟩, va_recv hKc hPc (ci := 3) (q0 := 0) rfl rfl, fun U hU hW => ⟨rfl, by rw [hU], by rw [hU]; exact hPc, va_K.moved hW.alike hKc, hDc.weaken (fun _ _ _ _ => trivial)⟩⟩ rfl rfl hl.1 rfl (lv_room (Nat.le_of_ble_eq_true rfl)) dX3_negative_37 ⟨Nat.zero_le _, Nat.zero_le _⟩) hS (fun q _ h => hFc q h) hFc (fun _ t H1 locs ht hvm hw hB hz1 hk1 hS => ?_)
          obtain ⟨hP1, hK1, hD1⟩ := hB
          rw [ht] at hP1
          obtain ⟨hP, hD⟩ := va_join (wr := []) (w1 := [(h0, .inr (3, [.int v0, .long v1, .long v2, .long v3, .long v4, .long v5, .long v6, .long v7, .long v8, .long v9, .long v10, .long v11, .long v12, .int v13, .ref h1])), (h1, .inl (cI, 6600, .inl r_6))]) hP hD [0, 1] [] rfl rfl (by decide) (by decide) hk1 hFc hP1 hD1
          generalize H1 = H at hP hS ⊢
          have hP : va_P (dC, dI) vwCl [(h0, .inr (3, [.int v0, .long v1, .long v2, .long v3, .long v4, .long v5, .long v6, .long v7, .long v8, .long v9, .long v10, .long v11, .long v12, .int v13, .ref h1])), (h1, .inl (cI, 6600, .inl r_6))] H := hP
          have hD : va_D A [(h0, .inr (3, [.int v0, .long v1, .long v2, .long v3, .long v4, .long v5, .long v6, .long v7, .long v8, .long v9, .long v10, .long v11, .long v12, .int v13, .ref h1])), (h1, .inl (cI, 6600, .inl r_6))] := hD
          refine W.widen (k := 0) (n := 0) (Nat.le_refl _) (Nat.le_refl _) ?_
          refine lv_iload hx hb dX3_negative_40 (lv_at hl 0 rfl) ?_
          refine lv_bipush (v := 16) hx hb dX3_negative_42 (by decide) ?_
          refine lv_ishr hx hb dX3_negative_44 ?_
          refine lv_istore_n (lv' := [(3, .int (((65535 - r_3) + u3) >>> ((16 : Int32) &&& 31))), (5, .int ((65535 - r_3) + u3)), (0, .ref h0), (1, .int a1), (2, .int a2), (4, .int u4)]) hx hb dX3_negative_45 rfl hl (by decide) rfl (fun ls hl => ?_)
          refine lv_iinc (v := u4 + 1) (lv' := [(4, .int (u4 + 1)), (3, .int (((65535 - r_3) + u3) >>> ((16 : Int32) &&& 31))), (5, .int ((65535 - r_3) + u3)), (0, .ref h0), (1, .int a1), (2, .int a2)]) hx hb dX3_negative_46 hl (k := 5) rfl rfl (by decide) rfl (fun ls hl => ?_)
          refine lv_goto (tgt := 5) hx hb dX3_negative_49 (by decide) ?_
          exact ih (((65535 - r_3) + u3) >>> ((16 : Int32) &&& 31)) (u4 + 1) r_6 hr _ _ _ hP hD hS (lv_sub hl [3, 4, 5, 1, 0] rfl)
def f_X3_negative (n : Nat) (v13 : Int32) (vR : Nat → Int32) (a1 : Int32) (a2 : Int32) : Option ((Nat → Int32)) := f_X3_negative_5 n n v13 a1 a2 1 0 vR
set_option maxHeartbeats 4000000 in
set_option maxRecDepth 100000 in
theorem c_X3_negative (l : Launch) (dC : Nat → ClassId) (dI : Nat → Nat → Nat) (sz : Nat) (h0 : Nat) (h1 : Nat) (cI : ClassId) (v0 : Int32) (v1 : Int64) (v2 : Int64) (v3 : Int64) (v4 : Int64) (v5 : Int64) (v6 : Int64) (v7 : Int64) (v8 : Int64) (v9 : Int64) (v10 : Int64) (v11 : Int64) (v12 : Int64) (v13 : Int32) (vR : Nat → Int32) (a1 : Int32) (a2 : Int32)  (n : Nat) (out : (Nat → Int32)) (hr : f_X3_negative n v13 vR a1 a2 = some out) : Met l yX3_negative wsX3_negative ({ frames := 1, cells := 0, slots := 0, locals := 23 }) (va_Pc [.ref h0, .int a1, .int a2] (zP dC dI [(cI, .int)] [(h0, .inr (3, [.int v0, .long v1, .long v2, .long v3, .long v4, .long v5, .long v6, .long v7, .long v8, .long v9, .long v10, .long v11, .long v12, .int v13, .ref h1])), (h1, .inl (cI, 6600, .inl vR))] sz)) (va_Qv (fun (_ : Unit) => True) (fun (_ : Unit) t => zB dC dI [(cI, .int)] (va_A [(h0, .inr (3, [.int v0, .long v1, .long v2, .long v3, .long v4, .long v5, .long v6, .long v7, .long v8, .long v9, .long v10, .long v11, .long v12, .int v13, .ref h1])), (h1, .inl (cI, 6600, .inl vR))] sz) [(h0, .inr (3, [.int v0, .long v1, .long v2, .long v3, .long v4, .long v5, .long v6, .long v7, .long v8, .long v9, .long v10, .long v11, .long v12, .int v13, .ref h1])), (h1, .inl (cI, 6600, .inl out))] t) (va_A [(h0, .inr (3, [.int v0, .long v1, .long v2, .long v3, .long v4, .long v5, .long v6, .long v7, .long v8, .long v9, .long v10, .long v11, .long v12, .int v13, .ref h1])), (h1, .inl (cI, 6600, .inl vR))] sz)) 0 0 (va_A [(h0, .inr (3, [.int v0, .long v1, .long v2, .long v3, .long v4, .long v5, .long v6, .long v7, .long v8, .long v9, .long v10, .long v11, .long v12, .int v13, .ref h1])), (h1, .inl (cI, 6600, .inl vR))] sz) := by
  refine Met.ofW (cc := cX3_negative) (maxL := 6) (ret := none) (by decide) rfl ?_
  intro p e s m args below meth c s₁ B hml hv
  obtain ⟨rfl, hsz, hP, hK, hD0⟩ := hv
  have hx := B.exec
  have hb := B.bytes
  have hrt := B.returns
  have hts := atoms_spec (ws := wsX3_negative) B.pre
  have hown : s.vm.findClass RX3 = some m.cls := findClass_of_methodNamed B.named
  have hlocks := B.notSynchronized
  subst hsz
  have hD := hD0.self (sz := s.heap.size)
  generalize hAe : va_A [(h0, .inr (3, [.int v0, .long v1, .long v2, .long v3, .long v4, .long v5, .long v6, .long v7, .long v8, .long v9, .long v10, .long v11, .long v12, .int v13, .ref h1])), (h1, .inl (cI, 6600, .inl vR))] s.heap.size = A at hD ⊢
  have hA : ∀ q : Nat, s.heap.size ≤ q → A q := fun q h => by rw [← hAe]; exact Or.inr h
  have hS : va_S A s.heap s.heap [] := va_S.rf
  have hP : va_P (dC, dI) vwCl [(h0, .inr (3, [.int v0, .long v1, .long v2, .long v3, .long v4, .long v5, .long v6, .long v7, .long v8, .long v9, .long v10, .long v11, .long v12, .int v13, .ref h1])), (h1, .inl (cI, 6600, .inl vR))] s.heap := hP
  have hl := lv_entry ([.ref h0, .int a1, .int a2]) (n := 6) (Nat.le_of_ble_eq_true rfl)
  rw [lg_entry_eq]
  generalize (lg_sl ([.ref h0, .int a1, .int a2]) ++ List.replicate (6 - (lg_sl ([.ref h0, .int a1, .int a2])).length) Slot.unset).toArray = ls at hl ⊢
  have hl : lv_has ls 6 [(0, .ref h0), (1, .int a1), (2, .int a2)] := hl
  unfold f_X3_negative at hr
  refine lv_iconst (v := 1) hx hb dX3_negative_0 (by decide) ?_
  refine lv_istore_n (lv' := [(3, .int 1), (0, .ref h0), (1, .int a1), (2, .int a2)]) hx hb dX3_negative_1 rfl hl (by decide) rfl (fun ls hl => ?_)
  refine lv_iconst (v := 0) hx hb dX3_negative_2 (by decide) ?_
  refine lv_istore (lv' := [(4, .int 0), (3, .int 1), (0, .ref h0), (1, .int a1), (2, .int a2)]) hx hb dX3_negative_3 hl (by decide) rfl (fun ls hl => ?_)
  exact k_X3_negative_5 hx hb hrt hml hown hlocks hts hA hK n out n 1 0 vR hr _ _ _ hP hD hS (lv_sub hl [2, 3, 4, 1, 0] rfl)

theorem in_X3_turnBack_X3 : ∀ w ∈ u_ws RX3 TX3 15, w ∈ wsX3_turnBack := by decide +kernel
def f_X3_turnBack_66 (n : Nat) : Nat → Int32 → (Nat → Int32) → Int32 → Option ((Nat → Int32) × Int32)
  | 0, _, _, _ => none
  | k + 1, u3, w1, w0_13 => if u3 < w0_13 then ((f_X3_get n w1 4 u3).bind (fun r_3 => (f_X3_put n w1 0 u3 r_3).bind (fun r_6 => (f_X3_get n r_6 5 u3).bind (fun r_9 => (f_X3_put n r_6 1 u3 r_9).bind (fun r_12 => f_X3_turnBack_66 n k (u3 + 1) r_12 w0_13))))) else (some (w1, w0_13))
set_option maxHeartbeats 4000000 in
set_option maxRecDepth 100000 in
theorem k_X3_turnBack_66 {p : Program} {l : Launch} {e : Env} {s : State} {m : MethodId} {args : Array Value} {below : List Frame} {meth : Method} {c : Code} {dC : Nat → ClassId} {dI : Nat → Nat → Nat} {A : Nat → Prop} {h0 : Nat} {h1 : Nat} {cI : ClassId} {v0 : Int32} {v1 : Int64} {v2 : Int64} {v3 : Int64} {v4 : Int64} {v5 : Int64} {v6 : Int64} {v7 : Int64} {v8 : Int64} {v9 : Int64} {v10 : Int64} {v11 : Int64} {v12 : Int64} {a1 : Int64} (hx : p.tables.exec = Jvm.exec) (hb : c.code = cX3_turnBack) (hrt : meth.sig.returnType = none) (hml : c.maxLocals = 4) (hown : s.vm.findClass RX3 = some m.cls) (hlocks : meth.locks = false) (hts : ∀ w ∈ wsX3_turnBack, w.before args s = true) (hA : ∀ q : Nat, s.heap.size ≤ q → A q) (hK : va_K (dC, dI) vwCl [(cI, .int)] s)  (n : Nat) (out : (Nat → Int32) × Int32) :
    ∀ (k : Nat) (u3 : Int32) (w1 : Nat → Int32) (w0_13 : Int32), f_X3_turnBack_66 n k u3 w1 w0_13 = some out → ∀ (H : Heap) (locs : List Loc) (ls : Array Slot), va_P (dC, dI) vwCl [(h0, .inr (3, [.int v0, .long v1, .long v2, .long v3, .long v4, .long v5, .long v6, .long v7, .long v8, .long v9, .long v10, .long v11, .long v12, .int w0_13, .ref h1])), (h1, .inl (cI, 6600, .inl w1))] H → va_D A [(h0, .inr (3, [.int v0, .long v1, .long v2, .long v3, .long v4, .long v5, .long v6, .long v7, .long v8, .long v9, .long v10, .long v11, .long v12, .int w0_13, .ref h1])), (h1, .inl (cI, 6600, .inl w1))] → va_S A s.heap H locs → lv_has ls 4 [(0, .ref h0), (1, .long a1), (3, .int u3)] → W p l e ({ frames := 3, cells := 0, slots := 0, locals := 66 }) s m args below meth c H locs 0 0 (MQ below (va_Qv (fun (_ : Unit) => True) (fun (_ : Unit) t => zB dC dI [(cI, .int)] A [(h0, .inr (3, [.int v0, .long v1, .long v2, .long v3, .long v4, .long v5, .long v6, .long v7, .long v8, .long v9, .long v10, .long v11, .long v12, .int out.2, .ref h1])), (h1, .inl (cI, 6600, .inl out.1))] t) A) args s 0 0 A) (F0 m 66 ls []) := by
  intro k
  induction k with
  | zero => intro u3 w1 w0_13 hr; rw [f_X3_turnBack_66] at hr; cases hr
  | succ k ih =>
    intro u3 w1 w0_13 hr H locs ls hP hD hS hl
    rw [f_X3_turnBack_66] at hr
    refine lv_iload_n hx hb dX3_turnBack_66 rfl (lv_at hl 2 rfl) ?_
    refine lv_aload_n hx hb dX3_turnBack_67 rfl (lv_at hl 0 rfl) ?_
    refine va_get (D := (dC, dI)) (ci := 3) (v := .int w0_13) (C := RX3) (T := TX3) (N := 15) hx hb hts in_X3_turnBack_X3 hown hK hP 0 rfl rfl 13 (by decide) (hts (.fieldLink RX3 32 "FormRingModel" "digits" "I") (by decide +kernel)) (fun _ h9 => h9) rfl dX3_turnBack_68 ?_
    refine lz_ige (tgt := 104) hx hb dX3_turnBack_71 (by decide) (fun c_1 => ?_) (fun c_1 => ?_)
    · have hr := (if_neg c_1).symm.trans hr
      have ho := Option.some.inj hr
      subst ho
      exact W.vret hx hb hrt (fun t ht hW => ⟨⟨(), rfl, trivial, by rw [ht]; exact hP, va_K.moved hW.alike hK, hD⟩, hS.F ht⟩) hS.2.2 dX3_turnBack_104
    · have hr := (if_pos c_1).symm.trans hr
      refine lv_aload_n hx hb dX3_turnBack_74 rfl (lv_at hl 0 rfl) ?_
      refine lv_iconst (v := 0) hx hb dX3_turnBack_75 (by decide) ?_
      refine lv_iload_n hx hb dX3_turnBack_76 rfl (lv_at hl 2 rfl) ?_
      refine lv_aload_n hx hb dX3_turnBack_77 rfl (lv_at hl 0 rfl) ?_
      refine lv_iconst (v := 4) hx hb dX3_turnBack_78 (by decide) ?_
      refine lv_iload_n hx hb dX3_turnBack_79 rfl (lv_at hl 2 rfl) ?_
      cases e_2 : f_X3_get n w1 4 u3 with
      | none => rw [e_2, Option.bind_none] at hr; cases hr
      | some r_3 =>
        rw [e_2, Option.bind_some] at hr
        have hPc := hP.sub (ws' := [(h0, .inr (3, [.int v0, .long v1, .long v2, .long v3, .long v4, .long v5, .long v6, .long v7, .long v8, .long v9, .long v10, .long v11, .long v12, .int w0_13, .ref h1])), (h1, .inl (cI, 6600, .inl w1))]) [0, 1] rfl
        have hDc := hD.sub (ws' := [(h0, .inr (3, [.int v0, .long v1, .long v2, .long v3, .long v4, .long v5, .long v6, .long v7, .long v8, .long v9, .long v10, .long v11, .long v12, .int w0_13, .ref h1])), (h1, .inl (cI, 6600, .inl w1))]) [0, 1] (by decide) rfl
        have hKc := hK.sub (tys' := [(cI, .int)]) [0] rfl
        have hFc := va_free (wc := [(h0, .inr (3, [.int v0, .long v1, .long v2, .long v3, .long v4, .long v5, .long v6, .long v7, .long v8, .long v9, .long v10, .long v11, .long v12, .int w0_13, .ref h1])), (h1, .inl (cI, 6600, .inl w1))]) hD hS hA [0, 1] rfl
        refine va_calli (va_runV (As := [.int 4, .int u3]) (rest := [.int u3, .int 0, .ref h0]) ⟨hx, hb, hml, hown, hts⟩ (c_X3_get l dC dI H.size h0 h1 cI v0 v1 v2 v3 v4 v5 v6 v7 v8 v9 v10 v11 v12 w0_13 w1 4 u3 n _ e_2) (cwV 2 hts gX3_turnBack_X3_get rfl rfl rfl (by decide +kernel) ⟨Nat.le_of_ble_eq_true rfl, Nat.le_of_ble_eq_true rfl⟩) ⟨fun a U g mk q => by obtain ⟨q0, q1, qP, qK, qD⟩ := q; exact ⟨q0, q1, qP, va_K.moved (u := U) (U := U.calling g mk a) (Vm.Alike.refl U.vm) qK, qD⟩, va_recv hKc hPc (ci := 3) (q0 := 0) rfl rfl, fun U hU hW => ⟨rfl, by rw [hU], by rw [hU]; exact hPc, va_K.moved hW.alike hKc, hDc.weaken (fun _ _ _ _ => trivial)⟩⟩ rfl rfl hl.1 rfl (lv_room (Nat.le_of_ble_eq_true rfl)) dX3_turnBack_80 ⟨Nat.zero_le _, Nat.zero_le _⟩) hS (fun q _ h => hFc q h) hFc (fun x_4 _ t H1 locs ht hvm hw hB hz1 hk1 hS => ?_)
        have hw := hw.symm
        subst hw
        obtain ⟨hP1, hK1, hD1⟩ := hB
        rw [ht] at hP1
        obtain ⟨hP, hD⟩ := va_join (wr := []) (w1 := [(h0, .inr (3, [.int v0, .long v1, .long v2, .long v3, .long v4, .long v5, .long v6, .long v7, .long v8, .long v9, .long v10, .long v11, .long v12, .int w0_13, .ref h1])), (h1, .inl (cI, 6600, .inl w1))]) hP hD [0, 1] [] rfl rfl (by decide) (by decide) hk1 hFc hP1 hD1
        generalize H1 = H at hP hS ⊢
        have hP : va_P (dC, dI) vwCl [(h0, .inr (3, [.int v0, .long v1, .long v2, .long v3, .long v4, .long v5, .long v6, .long v7, .long v8, .long v9, .long v10, .long v11, .long v12, .int w0_13, .ref h1])), (h1, .inl (cI, 6600, .inl w1))] H := hP
        have hD : va_D A [(h0, .inr (3, [.int v0, .long v1, .long v2, .long v3, .long v4, .long v5, .long v6, .long v7, .long v8, .long v9, .long v10, .long v11, .long v12, .int w0_13, .ref h1])), (h1, .inl (cI, 6600, .inl w1))] := hD
        refine W.widen (k := 0) (n := 0) (Nat.le_refl _) (Nat.le_refl _) ?_
        cases e_5 : f_X3_put n w1 0 u3 r_3 with
        | none => rw [e_5, Option.bind_none] at hr; cases hr
        | some r_6 =>
          rw [e_5, Option.bind_some] at hr
          have hPc := hP.sub (ws' := [(h0, .inr (3, [.int v0, .long v1, .long v2, .long v3, .long v4, .long v5, .long v6, .long v7, .long v8, .long v9, .long v10, .long v11, .long v12, .int w0_13, .ref h1])), (h1, .inl (cI, 6600, .inl w1))]) [0, 1] rfl
          have hDc := hD.sub (ws' := [(h0, .inr (3, [.int v0, .long v1, .long v2, .long v3, .long v4, .long v5, .long v6, .long v7, .long v8, .long v9, .long v10, .long v11, .long v12, .int w0_13, .ref h1])), (h1, .inl (cI, 6600, .inl w1))]) [0, 1] (by decide) rfl
          have hKc := hK.sub (tys' := [(cI, .int)]) [0] rfl
          have hFc := va_free (wc := [(h0, .inr (3, [.int v0, .long v1, .long v2, .long v3, .long v4, .long v5, .long v6, .long v7, .long v8, .long v9, .long v10, .long v11, .long v12, .int w0_13, .ref h1])), (h1, .inl (cI, 6600, .inl w1))]) hD hS hA [0, 1] rfl
          refine va_callv (va_runV (As := [.int 0, .int u3, .int r_3]) (rest := []) ⟨hx, hb, hml, hown, hts⟩ (c_X3_put l dC dI H.size h0 h1 cI v0 v1 v2 v3 v4 v5 v6 v7 v8 v9 v10 v11 v12 w0_13 w1 0 u3 r_3 n _ e_5) (cwV 3 hts gX3_turnBack_X3_put rfl rfl rfl (by decide +kernel) ⟨Nat.le_of_ble_eq_true rfl, Nat.le_of_ble_eq_true rfl⟩) ⟨fun a U g mk q => by obtain ⟨q0, q1, qP, qK, qD⟩ := q; exact ⟨q0, q1, qP, va_K.moved (u := U) (U := U.calling g mk a) (Vm.Alike.refl U.vm) qK, qD⟩, va_recv hKc hPc (ci := 3) (q0 := 0) rfl rfl, fun U hU hW => ⟨rfl, by rw [hU], by rw [hU]; exact hPc, va_K.moved hW.alike hKc, hDc.weaken (fun _ _ _ _ => trivial)⟩⟩ rfl rfl hl.1 rfl (lv_room (Nat.le_of_ble_eq_true rfl)) dX3_turnBack_83 ⟨Nat.zero_le _, Nat.zero_le _⟩) hS (fun q _ h => hFc q h) hFc (fun _ t H1 locs ht hvm hw hB hz1 hk1 hS => ?_)
          obtain ⟨hP1, hK1, hD1⟩ := hB
          rw [ht] at hP1
          obtain ⟨hP, hD⟩ := va_join (wr := []) (w1 := [(h0, .inr (3, [.int v0, .long v1, .long v2, .long v3, .long v4, .long v5, .long v6, .long v7, .long v8, .long v9, .long v10, .long v11, .long v12, .int w0_13, .ref h1])), (h1, .inl (cI, 6600, .inl r_6))]) hP hD [0, 1] [] rfl rfl (by decide) (by decide) hk1 hFc hP1 hD1
          generalize H1 = H at hP hS ⊢
          have hP : va_P (dC, dI) vwCl [(h0, .inr (3, [.int v0, .long v1, .long v2, .long v3, .long v4, .long v5, .long v6, .long v7, .long v8, .long v9, .long v10, .long v11, .long v12, .int w0_13, .ref h1])), (h1, .inl (cI, 6600, .inl r_6))] H := hP
          have hD : va_D A [(h0, .inr (3, [.int v0, .long v1, .long v2, .long v3, .long v4, .long v5, .long v6, .long v7, .long v8, .long v9, .long v10, .long v11, .long v12, .int w0_13, .ref h1])), (h1, .inl (cI, 6600, .inl r_6))] := hD
          refine W.widen (k := 0) (n := 0) (Nat.le_refl _) (Nat.le_refl _) ?_
          refine lv_aload_n hx hb dX3_turnBack_86 rfl (lv_at hl 0 rfl) ?_
          refine lv_iconst (v := 1) hx hb dX3_turnBack_87 (by decide) ?_
          refine lv_iload_n hx hb dX3_turnBack_88 rfl (lv_at hl 2 rfl) ?_
          refine lv_aload_n hx hb dX3_turnBack_89 rfl (lv_at hl 0 rfl) ?_
          refine lv_iconst (v := 5) hx hb dX3_turnBack_90 (by decide) ?_
          refine lv_iload_n hx hb dX3_turnBack_91 rfl (lv_at hl 2 rfl) ?_
          cases e_8 : f_X3_get n r_6 5 u3 with
          | none => rw [e_8, Option.bind_none] at hr; cases hr
          | some r_9 =>
            rw [e_8, Option.bind_some] at hr
            have hPc := hP.sub (ws' := [(h0, .inr (3, [.int v0, .long v1, .long v2, .long v3, .long v4, .long v5, .long v6, .long v7, .long v8, .long v9, .long v10, .long v11, .long v12, .int w0_13, .ref h1])), (h1, .inl (cI, 6600, .inl r_6))]) [0, 1] rfl
            have hDc := hD.sub (ws' := [(h0, .inr (3, [.int v0, .long v1, .long v2, .long v3, .long v4, .long v5, .long v6, .long v7, .long v8, .long v9, .long v10, .long v11, .long v12, .int w0_13, .ref h1])), (h1, .inl (cI, 6600, .inl r_6))]) [0, 1] (by decide) rfl
            have hKc := hK.sub (tys' := [(cI, .int)]) [0] rfl
            have hFc := va_free (wc := [(h0, .inr (3, [.int v0, .long v1, .long v2, .long v3, .long v4, .long v5, .long v6, .long v7, .long v8, .long v9, .long v10, .long v11, .long v12, .int w0_13, .ref h1])), (h1, .inl (cI, 6600, .inl r_6))]) hD hS hA [0, 1] rfl
            refine va_calli (va_runV (As := [.int 5, .int u3]) (rest := [.int u3, .int 1, .ref h0]) ⟨hx, hb, hml, hown, hts⟩ (c_X3_get l dC dI H.size h0 h1 cI v0 v1 v2 v3 v4 v5 v6 v7 v8 v9 v10 v11 v12 w0_13 r_6 5 u3 n _ e_8) (cwV 2 hts gX3_turnBack_X3_get rfl rfl rfl (by decide +kernel) ⟨Nat.le_of_ble_eq_true rfl, Nat.le_of_ble_eq_true rfl⟩) ⟨fun a U g mk q => by obtain ⟨q0, q1, qP, qK, qD⟩ := q; exact ⟨q0, q1, qP, va_K.moved (u := U) (U := U.calling g mk a) (Vm.Alike.refl U.vm) qK, qD⟩, va_recv hKc hPc (ci := 3) (q0 := 0) rfl rfl, fun U hU hW => ⟨rfl, by rw [hU], by rw [hU]; exact hPc, va_K.moved hW.alike hKc, hDc.weaken (fun _ _ _ _ => trivial)⟩⟩ rfl rfl hl.1 rfl (lv_room (Nat.le_of_ble_eq_true rfl)) dX3_turnBack_92 ⟨Nat.zero_le _, Nat.zero_le _⟩) hS (fun q _ h => hFc q h) hFc (fun x_10 _ t H1 locs ht hvm hw hB hz1 hk1 hS => ?_)
            have hw := hw.symm
            subst hw
            obtain ⟨hP1, hK1, hD1⟩ := hB
            rw [ht] at hP1
            obtain ⟨hP, hD⟩ := va_join (wr := []) (w1 := [(h0, .inr (3, [.int v0, .long v1, .long v2, .long v3, .long v4, .long v5, .long v6, .long v7, .long v8, .long v9, .long v10, .long v11, .long v12, .int w0_13, .ref h1])), (h1, .inl (cI, 6600, .inl r_6))]) hP hD [0, 1] [] rfl rfl (by decide) (by decide) hk1 hFc hP1 hD1
            generalize H1 = H at hP hS ⊢
            have hP : va_P (dC, dI) vwCl [(h0, .inr (3, [.int v0, .long v1, .long v2, .long v3, .long v4, .long v5, .long v6, .long v7, .long v8, .long v9, .long v10, .long v11, .long v12, .int w0_13, .ref h1])), (h1, .inl (cI, 6600, .inl r_6))] H := hP
            have hD : va_D A [(h0, .inr (3, [.int v0, .long v1, .long v2, .long v3, .long v4, .long v5, .long v6, .long v7, .long v8, .long v9, .long v10, .long v11, .long v12, .int w0_13, .ref h1])), (h1, .inl (cI, 6600, .inl r_6))] := hD
            refine W.widen (k := 0) (n := 0) (Nat.le_refl _) (Nat.le_refl _) ?_
            cases e_11 : f_X3_put n r_6 1 u3 r_9 with
            | none => rw [e_11, Option.bind_none] at hr; cases hr
            | some r_12 =>
              rw [e_11, Option.bind_some] at hr
              have hPc := hP.sub (ws' := [(h0, .inr (3, [.int v0, .long v1, .long v2, .long v3, .long v4, .long v5, .long v6, .long v7, .long v8, .long v9, .long v10, .long v11, .long v12, .int w0_13, .ref h1])), (h1, .inl (cI, 6600, .inl r_6))]) [0, 1] rfl
              have hDc := hD.sub (ws' := [(h0, .inr (3, [.int v0, .long v1, .long v2, .long v3, .long v4, .long v5, .long v6, .long v7, .long v8, .long v9, .long v10, .long v11, .long v12, .int w0_13, .ref h1])), (h1, .inl (cI, 6600, .inl r_6))]) [0, 1] (by decide) rfl
              have hKc := hK.sub (tys' := [(cI, .int)]) [0] rfl
              have hFc := va_free (wc := [(h0, .inr (3, [.int v0, .long v1, .long v2, .long v3, .long v4, .long v5, .long v6, .long v7, .long v8, .long v9, .long v10, .long v11, .long v12, .int w0_13, .ref h1])), (h1, .inl (cI, 6600, .inl r_6))]) hD hS hA [0, 1] rfl
              refine va_callv (va_runV (As := [.int 1, .int u3, .int r_9]) (rest := []) ⟨hx, hb, hml, hown, hts⟩ (c_X3_put l dC dI H.size h0 h1 cI v0 v1 v2 v3 v4 v5 v6 v7 v8 v9 v10 v11 v12 w0_13 r_6 1 u3 r_9 n _ e_11) (cwV 3 hts gX3_turnBack_X3_put rfl rfl rfl (by decide +kernel) ⟨Nat.le_of_ble_eq_true rfl, Nat.le_of_ble_eq_true rfl⟩) ⟨fun a U g mk q => by obtain ⟨q0, q1, qP, qK, qD⟩ := q; exact ⟨q0, q1, qP, va_K.moved (u := U) (U := U.calling g mk a) (Vm.Alike.refl U.vm) qK, qD⟩, va_recv hKc hPc (ci := 3) (q0 := 0) rfl rfl, fun U hU hW => ⟨rfl, by rw [hU], by rw [hU]; exact hPc, va_K.moved hW.alike hKc, hDc.weaken (fun _ _ _ _ => trivial)⟩⟩ rfl rfl hl.1 rfl (lv_room (Nat.le_of_ble_eq_true rfl)) dX3_turnBack_95 ⟨Nat.zero_le _, Nat.zero_le _⟩) hS (fun q _ h => hFc q h) hFc (fun _ t H1 locs ht hvm hw hB hz1 hk1 hS => ?_)
              obtain ⟨hP1, hK1, hD1⟩ := hB
              rw [ht] at hP1
              obtain ⟨hP, hD⟩ := va_join (wr := []) (w1 := [(h0, .inr (3, [.int v0, .long v1, .long v2, .long v3, .long v4, .long v5, .long v6, .long v7, .long v8, .long v9, .long v10, .long v11, .long v12, .int w0_13, .ref h1])), (h1, .inl (cI, 6600, .inl r_12))]) hP hD [0, 1] [] rfl rfl (by decide) (by decide) hk1 hFc hP1 hD1
              generalize H1 = H at hP hS ⊢
              have hP : va_P (dC, dI) vwCl [(h0, .inr (3, [.int v0, .long v1, .long v2, .long v3, .long v4, .long v5, .long v6, .long v7, .long v8, .long v9, .long v10, .long v11, .long v12, .int w0_13, .ref h1])), (h1, .inl (cI, 6600, .inl r_12))] H := hP
              have hD : va_D A [(h0, .inr (3, [.int v0, .long v1, .long v2, .long v3, .long v4, .long v5, .long v6, .long v7, .long v8, .long v9, .long v10, .long v11, .long v12, .int w0_13, .ref h1])), (h1, .inl (cI, 6600, .inl r_12))] := hD
              refine W.widen (k := 0) (n := 0) (Nat.le_refl _) (Nat.le_refl _) ?_
              refine lv_iinc (v := u3 + 1) (lv' := [(3, .int (u3 + 1)), (0, .ref h0), (1, .long a1)]) hx hb dX3_turnBack_98 hl (k := 2) rfl rfl (by decide) rfl (fun ls hl => ?_)
              refine lv_goto (tgt := 66) hx hb dX3_turnBack_101 (by decide) ?_
              exact ih (u3 + 1) r_12 w0_13 hr _ _ _ hP hD hS (lv_sub hl [1, 2, 0] rfl)
def f_X3_turnBack_36 (n : Nat) (a1 : Int64) (w1 : Nat → Int32) (w0_13 : Int32) : Option ((Nat → Int32) × Int32) := (f_X3_combine n w0_13 w1 4 0 a1 2).bind (fun r_2 => (f_X3_combine n w0_13 r_2 5 1 a1 3).bind (fun r_5 => (f_X3_negative n w0_13 r_5 2 0).bind (fun r_8 => (f_X3_negative n w0_13 r_8 3 1).bind (fun r_11 => f_X3_turnBack_66 n n 0 r_11 w0_13))))
set_option maxHeartbeats 4000000 in
set_option maxRecDepth 100000 in
theorem k_X3_turnBack_36 {p : Program} {l : Launch} {e : Env} {s : State} {m : MethodId} {args : Array Value} {below : List Frame} {meth : Method} {c : Code} {dC : Nat → ClassId} {dI : Nat → Nat → Nat} {A : Nat → Prop} {h0 : Nat} {h1 : Nat} {cI : ClassId} {v0 : Int32} {v1 : Int64} {v2 : Int64} {v3 : Int64} {v4 : Int64} {v5 : Int64} {v6 : Int64} {v7 : Int64} {v8 : Int64} {v9 : Int64} {v10 : Int64} {v11 : Int64} {v12 : Int64} {a1 : Int64} (hx : p.tables.exec = Jvm.exec) (hb : c.code = cX3_turnBack) (hrt : meth.sig.returnType = none) (hml : c.maxLocals = 4) (hown : s.vm.findClass RX3 = some m.cls) (hlocks : meth.locks = false) (hts : ∀ w ∈ wsX3_turnBack, w.before args s = true) (hA : ∀ q : Nat, s.heap.size ≤ q → A q) (hK : va_K (dC, dI) vwCl [(cI, .int)] s)  (n : Nat) (out : (Nat → Int32) × Int32) :
    ∀ (w1 : Nat → Int32) (w0_13 : Int32), f_X3_turnBack_36 n a1 w1 w0_13 = some out → ∀ (H : Heap) (locs : List Loc) (ls : Array Slot), va_P (dC, dI) vwCl [(h0, .inr (3, [.int v0, .long v1, .long v2, .long v3, .long v4, .long v5, .long v6, .long v7, .long v8, .long v9, .long v10, .long v11, .long v12, .int w0_13, .ref h1])), (h1, .inl (cI, 6600, .inl w1))] H → va_D A [(h0, .inr (3, [.int v0, .long v1, .long v2, .long v3, .long v4, .long v5, .long v6, .long v7, .long v8, .long v9, .long v10, .long v11, .long v12, .int w0_13, .ref h1])), (h1, .inl (cI, 6600, .inl w1))] → va_S A s.heap H locs → lv_has ls 4 [(0, .ref h0), (1, .long a1)] → W p l e ({ frames := 3, cells := 0, slots := 0, locals := 66 }) s m args below meth c H locs 0 0 (MQ below (va_Qv (fun (_ : Unit) => True) (fun (_ : Unit) t => zB dC dI [(cI, .int)] A [(h0, .inr (3, [.int v0, .long v1, .long v2, .long v3, .long v4, .long v5, .long v6, .long v7, .long v8, .long v9, .long v10, .long v11, .long v12, .int out.2, .ref h1])), (h1, .inl (cI, 6600, .inl out.1))] t) A) args s 0 0 A) (F0 m 36 ls []) := by
  intro w1 w0_13 hr H locs ls hP hD hS hl
  unfold f_X3_turnBack_36 at hr
  refine lv_aload_n hx hb dX3_turnBack_36 rfl (lv_at hl 0 rfl) ?_
  refine lv_iconst (v := 4) hx hb dX3_turnBack_37 (by decide) ?_
  refine lv_iconst (v := 0) hx hb dX3_turnBack_38 (by decide) ?_
  refine lv_lload_n hx hb dX3_turnBack_39 rfl (lv_at hl 1 rfl) ?_
  refine lv_iconst (v := 2) hx hb dX3_turnBack_40 (by decide) ?_
  cases e_1 : f_X3_combine n w0_13 w1 4 0 a1 2 with
  | none => rw [e_1, Option.bind_none] at hr; cases hr
  | some r_2 =>
    rw [e_1, Option.bind_some] at hr
    have hPc := hP.sub (ws' := [(h0, .inr (3, [.int v0, .long v1, .long v2, .long v3, .long v4, .long v5, .long v6, .long v7, .long v8, .long v9, .long v10, .long v11, .long v12, .int w0_13, .ref h1])), (h1, .inl (cI, 6600, .inl w1))]) [0, 1] rfl
    have hDc := hD.sub (ws' := [(h0, .inr (3, [.int v0, .long v1, .long v2, .long v3, .long v4, .long v5, .long v6, .long v7, .long v8, .long v9, .long v10, .long v11, .long v12, .int w0_13, .ref h1])), (h1, .inl (cI, 6600, .inl w1))]) [0, 1] (by decide) rfl
    have hKc := hK.sub (tys' := [(cI, .int)]) [0] rfl
    have hFc := va_free (wc := [(h0, .inr (3, [.int v0, .long v1, .long v2, .long v3, .long v4, .long v5, .long v6, .long v7, .long v8, .long v9, .long v10, .long v11, .long v12, .int w0_13, .ref h1])), (h1, .inl (cI, 6600, .inl w1))]) hD hS hA [0, 1] rfl
    refine va_callv (va_runV (As := [.int 4, .int 0, .long a1, .int 2]) (rest := []) ⟨hx, hb, hml, hown, hts⟩ (c_X3_combine l dC dI H.size h0 h1 cI v0 v1 v2 v3 v4 v5 v6 v7 v8 v9 v10 v11 v12 w0_13 w1 4 0 a1 2 n _ e_1) (cwV 4 hts gX3_turnBack_X3_combine rfl rfl rfl (by decide +kernel) ⟨Nat.le_of_ble_eq_true rfl, Nat.le_of_ble_eq_true rfl⟩) ⟨fun a U g mk q => by obtain ⟨q0, q1, qP, qK, qD⟩ := q; exact ⟨q0, q1, qP, va_K.moved (u := U) (U := U.calling g mk a) (Vm.Alike.refl U.vm) qK, qD⟩, va_recv hKc hPc (ci := 3) (q0 := 0) rfl rfl, fun U hU hW => ⟨rfl, by rw [hU], by rw [hU]; exact hPc, va_K.moved hW.alike hKc, hDc.weaken (fun _ _ _ _ => trivial)⟩⟩ rfl rfl hl.1 rfl (lv_room (Nat.le_of_ble_eq_true rfl)) dX3_turnBack_41 ⟨Nat.zero_le _, Nat.zero_le _⟩) hS (fun q _ h => hFc q h) hFc (fun _ t H1 locs ht hvm hw hB hz1 hk1 hS => ?_)
    obtain ⟨hP1, hK1, hD1⟩ := hB
    rw [ht] at hP1
    obtain ⟨hP, hD⟩ := va_join (wr := []) (w1 := [(h0, .inr (3, [.int v0, .long v1, .long v2, .long v3, .long v4, .long v5, .long v6, .long v7, .long v8, .long v9, .long v10, .long v11, .long v12, .int w0_13, .ref h1])), (h1, .inl (cI, 6600, .inl r_2))]) hP hD [0, 1] [] rfl rfl (by decide) (by decide) hk1 hFc hP1 hD1
    generalize H1 = H at hP hS ⊢
    have hP : va_P (dC, dI) vwCl [(h0, .inr (3, [.int v0, .long v1, .long v2, .long v3, .long v4, .long v5, .long v6, .long v7, .long v8, .long v9, .long v10, .long v11, .long v12, .int w0_13, .ref h1])), (h1, .inl (cI, 6600, .inl r_2))] H := hP
    have hD : va_D A [(h0, .inr (3, [.int v0, .long v1, .long v2, .long v3, .long v4, .long v5, .long v6, .long v7, .long v8, .long v9, .long v10, .long v11, .long v12, .int w0_13, .ref h1])), (h1, .inl (cI, 6600, .inl r_2))] := hD
    refine W.widen (k := 0) (n := 0) (Nat.le_refl _) (Nat.le_refl _) ?_
    refine lv_aload_n hx hb dX3_turnBack_44 rfl (lv_at hl 0 rfl) ?_
    refine lv_iconst (v := 5) hx hb dX3_turnBack_45 (by decide) ?_
    refine lv_iconst (v := 1) hx hb dX3_turnBack_46 (by decide) ?_
    refine lv_lload_n hx hb dX3_turnBack_47 rfl (lv_at hl 1 rfl) ?_
    refine lv_iconst (v := 3) hx hb dX3_turnBack_48 (by decide) ?_
    cases e_4 : f_X3_combine n w0_13 r_2 5 1 a1 3 with
    | none => rw [e_4, Option.bind_none] at hr; cases hr
    | some r_5 =>
      rw [e_4, Option.bind_some] at hr
      have hPc := hP.sub (ws' := [(h0, .inr (3, [.int v0, .long v1, .long v2, .long v3, .long v4, .long v5, .long v6, .long v7, .long v8, .long v9, .long v10, .long v11, .long v12, .int w0_13, .ref h1])), (h1, .inl (cI, 6600, .inl r_2))]) [0, 1] rfl
      have hDc := hD.sub (ws' := [(h0, .inr (3, [.int v0, .long v1, .long v2, .long v3, .long v4, .long v5, .long v6, .long v7, .long v8, .long v9, .long v10, .long v11, .long v12, .int w0_13, .ref h1])), (h1, .inl (cI, 6600, .inl r_2))]) [0, 1] (by decide) rfl
      have hKc := hK.sub (tys' := [(cI, .int)]) [0] rfl
      have hFc := va_free (wc := [(h0, .inr (3, [.int v0, .long v1, .long v2, .long v3, .long v4, .long v5, .long v6, .long v7, .long v8, .long v9, .long v10, .long v11, .long v12, .int w0_13, .ref h1])), (h1, .inl (cI, 6600, .inl r_2))]) hD hS hA [0, 1] rfl
      refine va_callv (va_runV (As := [.int 5, .int 1, .long a1, .int 3]) (rest := []) ⟨hx, hb, hml, hown, hts⟩ (c_X3_combine l dC dI H.size h0 h1 cI v0 v1 v2 v3 v4 v5 v6 v7 v8 v9 v10 v11 v12 w0_13 r_2 5 1 a1 3 n _ e_4) (cwV 4 hts gX3_turnBack_X3_combine rfl rfl rfl (by decide +kernel) ⟨Nat.le_of_ble_eq_true rfl, Nat.le_of_ble_eq_true rfl⟩) ⟨fun a U g mk q => by obtain ⟨q0, q1, qP, qK, qD⟩ := q; exact ⟨q0, q1, qP, va_K.moved (u := U) (U := U.calling g mk a) (Vm.Alike.refl U.vm) qK, qD⟩, va_recv hKc hPc (ci := 3) (q0 := 0) rfl rfl, fun U hU hW => ⟨rfl, by rw [hU], by rw [hU]; exact hPc, va_K.moved hW.alike hKc, hDc.weaken (fun _ _ _ _ => trivial)⟩⟩ rfl rfl hl.1 rfl (lv_room (Nat.le_of_ble_eq_true rfl)) dX3_turnBack_49 ⟨Nat.zero_le _, Nat.zero_le _⟩) hS (fun q _ h => hFc q h) hFc (fun _ t H1 locs ht hvm hw hB hz1 hk1 hS => ?_)
      obtain ⟨hP1, hK1, hD1⟩ := hB
      rw [ht] at hP1
      obtain ⟨hP, hD⟩ := va_join (wr := []) (w1 := [(h0, .inr (3, [.int v0, .long v1, .long v2, .long v3, .long v4, .long v5, .long v6, .long v7, .long v8, .long v9, .long v10, .long v11, .long v12, .int w0_13, .ref h1])), (h1, .inl (cI, 6600, .inl r_5))]) hP hD [0, 1] [] rfl rfl (by decide) (by decide) hk1 hFc hP1 hD1
      generalize H1 = H at hP hS ⊢
      have hP : va_P (dC, dI) vwCl [(h0, .inr (3, [.int v0, .long v1, .long v2, .long v3, .long v4, .long v5, .long v6, .long v7, .long v8, .long v9, .long v10, .long v11, .long v12, .int w0_13, .ref h1])), (h1, .inl (cI, 6600, .inl r_5))] H := hP
      have hD : va_D A [(h0, .inr (3, [.int v0, .long v1, .long v2, .long v3, .long v4, .long v5, .long v6, .long v7, .long v8, .long v9, .long v10, .long v11, .long v12, .int w0_13, .ref h1])), (h1, .inl (cI, 6600, .inl r_5))] := hD
      refine W.widen (k := 0) (n := 0) (Nat.le_refl _) (Nat.le_refl _) ?_
      refine lv_aload_n hx hb dX3_turnBack_52 rfl (lv_at hl 0 rfl) ?_
      refine lv_iconst (v := 2) hx hb dX3_turnBack_53 (by decide) ?_
      refine lv_iconst (v := 0) hx hb dX3_turnBack_54 (by decide) ?_
      cases e_7 : f_X3_negative n w0_13 r_5 2 0 with
      | none => rw [e_7, Option.bind_none] at hr; cases hr
      | some r_8 =>
        rw [e_7, Option.bind_some] at hr
        have hPc := hP.sub (ws' := [(h0, .inr (3, [.int v0, .long v1, .long v2, .long v3, .long v4, .long v5, .long v6, .long v7, .long v8, .long v9, .long v10, .long v11, .long v12, .int w0_13, .ref h1])), (h1, .inl (cI, 6600, .inl r_5))]) [0, 1] rfl
        have hDc := hD.sub (ws' := [(h0, .inr (3, [.int v0, .long v1, .long v2, .long v3, .long v4, .long v5, .long v6, .long v7, .long v8, .long v9, .long v10, .long v11, .long v12, .int w0_13, .ref h1])), (h1, .inl (cI, 6600, .inl r_5))]) [0, 1] (by decide) rfl
        have hKc := hK.sub (tys' := [(cI, .int)]) [0] rfl
        have hFc := va_free (wc := [(h0, .inr (3, [.int v0, .long v1, .long v2, .long v3, .long v4, .long v5, .long v6, .long v7, .long v8, .long v9, .long v10, .long v11, .long v12, .int w0_13, .ref h1])), (h1, .inl (cI, 6600, .inl r_5))]) hD hS hA [0, 1] rfl
        refine va_callv (va_runV (As := [.int 2, .int 0]) (rest := []) ⟨hx, hb, hml, hown, hts⟩ (c_X3_negative l dC dI H.size h0 h1 cI v0 v1 v2 v3 v4 v5 v6 v7 v8 v9 v10 v11 v12 w0_13 r_5 2 0 n _ e_7) (cwV 2 hts gX3_turnBack_X3_negative rfl rfl rfl (by decide +kernel) ⟨Nat.le_of_ble_eq_true rfl, Nat.le_of_ble_eq_true rfl⟩) ⟨fun a U g mk q => by obtain ⟨q0, q1, qP, qK, qD⟩ := q; exact ⟨q0, q1, qP, va_K.moved (u := U) (U := U.calling g mk a) (Vm.Alike.refl U.vm) qK, qD⟩, va_recv hKc hPc (ci := 3) (q0 := 0) rfl rfl, fun U hU hW => ⟨rfl, by rw [hU], by rw [hU]; exact hPc, va_K.moved hW.alike hKc, hDc.weaken (fun _ _ _ _ => trivial)⟩⟩ rfl rfl hl.1 rfl (lv_room (Nat.le_of_ble_eq_true rfl)) dX3_turnBack_55 ⟨Nat.zero_le _, Nat.zero_le _⟩) hS (fun q _ h => hFc q h) hFc (fun _ t H1 locs ht hvm hw hB hz1 hk1 hS => ?_)
        obtain ⟨hP1, hK1, hD1⟩ := hB
        rw [ht] at hP1
        obtain ⟨hP, hD⟩ := va_join (wr := []) (w1 := [(h0, .inr (3, [.int v0, .long v1, .long v2, .long v3, .long v4, .long v5, .long v6, .long v7, .long v8, .long v9, .long v10, .long v11, .long v12, .int w0_13, .ref h1])), (h1, .inl (cI, 6600, .inl r_8))]) hP hD [0, 1] [] rfl rfl (by decide) (by decide) hk1 hFc hP1 hD1
        generalize H1 = H at hP hS ⊢
        have hP : va_P (dC, dI) vwCl [(h0, .inr (3, [.int v0, .long v1, .long v2, .long v3, .long v4, .long v5, .long v6, .long v7, .long v8, .long v9, .long v10, .long v11, .long v12, .int w0_13, .ref h1])), (h1, .inl (cI, 6600, .inl r_8))] H := hP
        have hD : va_D A [(h0, .inr (3, [.int v0, .long v1, .long v2, .long v3, .long v4, .long v5, .long v6, .long v7, .long v8, .long v9, .long v10, .long v11, .long v12, .int w0_13, .ref h1])), (h1, .inl (cI, 6600, .inl r_8))] := hD
        refine W.widen (k := 0) (n := 0) (Nat.le_refl _) (Nat.le_refl _) ?_
        refine lv_aload_n hx hb dX3_turnBack_58 rfl (lv_at hl 0 rfl) ?_
        refine lv_iconst (v := 3) hx hb dX3_turnBack_59 (by decide) ?_
        refine lv_iconst (v := 1) hx hb dX3_turnBack_60 (by decide) ?_
        cases e_10 : f_X3_negative n w0_13 r_8 3 1 with
        | none => rw [e_10, Option.bind_none] at hr; cases hr
        | some r_11 =>
          rw [e_10, Option.bind_some] at hr
          have hPc := hP.sub (ws' := [(h0, .inr (3, [.int v0, .long v1, .long v2, .long v3, .long v4, .long v5, .long v6, .long v7, .long v8, .long v9, .long v10, .long v11, .long v12, .int w0_13, .ref h1])), (h1, .inl (cI, 6600, .inl r_8))]) [0, 1] rfl
          have hDc := hD.sub (ws' := [(h0, .inr (3, [.int v0, .long v1, .long v2, .long v3, .long v4, .long v5, .long v6, .long v7, .long v8, .long v9, .long v10, .long v11, .long v12, .int w0_13, .ref h1])), (h1, .inl (cI, 6600, .inl r_8))]) [0, 1] (by decide) rfl
          have hKc := hK.sub (tys' := [(cI, .int)]) [0] rfl
          have hFc := va_free (wc := [(h0, .inr (3, [.int v0, .long v1, .long v2, .long v3, .long v4, .long v5, .long v6, .long v7, .long v8, .long v9, .long v10, .long v11, .long v12, .int w0_13, .ref h1])), (h1, .inl (cI, 6600, .inl r_8))]) hD hS hA [0, 1] rfl
          refine va_callv (va_runV (As := [.int 3, .int 1]) (rest := []) ⟨hx, hb, hml, hown, hts⟩ (c_X3_negative l dC dI H.size h0 h1 cI v0 v1 v2 v3 v4 v5 v6 v7 v8 v9 v10 v11 v12 w0_13 r_8 3 1 n _ e_10) (cwV 2 hts gX3_turnBack_X3_negative rfl rfl rfl (by decide +kernel) ⟨Nat.le_of_ble_eq_true rfl, Nat.le_of_ble_eq_true rfl⟩) ⟨fun a U g mk q => by obtain ⟨q0, q1, qP, qK, qD⟩ := q; exact ⟨q0, q1, qP, va_K.moved (u := U) (U := U.calling g mk a) (Vm.Alike.refl U.vm) qK, qD⟩, va_recv hKc hPc (ci := 3) (q0 := 0) rfl rfl, fun U hU hW => ⟨rfl, by rw [hU], by rw [hU]; exact hPc, va_K.moved hW.alike hKc, hDc.weaken (fun _ _ _ _ => trivial)⟩⟩ rfl rfl hl.1 rfl (lv_room (Nat.le_of_ble_eq_true rfl)) dX3_turnBack_61 ⟨Nat.zero_le _, Nat.zero_le _⟩) hS (fun q _ h => hFc q h) hFc (fun _ t H1 locs ht hvm hw hB hz1 hk1 hS => ?_)
          obtain ⟨hP1, hK1, hD1⟩ := hB
          rw [ht] at hP1
          obtain ⟨hP, hD⟩ := va_join (wr := []) (w1 := [(h0, .inr (3, [.int v0, .long v1, .long v2, .long v3, .long v4, .long v5, .long v6, .long v7, .long v8, .long v9, .long v10, .long v11, .long v12, .int w0_13, .ref h1])), (h1, .inl (cI, 6600, .inl r_11))]) hP hD [0, 1] [] rfl rfl (by decide) (by decide) hk1 hFc hP1 hD1
          generalize H1 = H at hP hS ⊢
          have hP : va_P (dC, dI) vwCl [(h0, .inr (3, [.int v0, .long v1, .long v2, .long v3, .long v4, .long v5, .long v6, .long v7, .long v8, .long v9, .long v10, .long v11, .long v12, .int w0_13, .ref h1])), (h1, .inl (cI, 6600, .inl r_11))] H := hP
          have hD : va_D A [(h0, .inr (3, [.int v0, .long v1, .long v2, .long v3, .long v4, .long v5, .long v6, .long v7, .long v8, .long v9, .long v10, .long v11, .long v12, .int w0_13, .ref h1])), (h1, .inl (cI, 6600, .inl r_11))] := hD
          refine W.widen (k := 0) (n := 0) (Nat.le_refl _) (Nat.le_refl _) ?_
          refine lv_iconst (v := 0) hx hb dX3_turnBack_64 (by decide) ?_
          refine lv_istore_n (lv' := [(3, .int 0), (0, .ref h0), (1, .long a1)]) hx hb dX3_turnBack_65 rfl hl (by decide) rfl (fun ls hl => ?_)
          exact k_X3_turnBack_66 hx hb hrt hml hown hlocks hts hA hK n out n 0 r_11 w0_13 hr _ _ _ hP hD hS (lv_sub hl [1, 2, 0] rfl)
def f_X3_turnBack (n : Nat) (v13 : Int32) (vR : Nat → Int32) (a1 : Int64) : Option ((Nat → Int32) × Int32) := (f_X3_hasRoom n v13 vR 0).bind (fun r_2 => if r_2 = 0 then ((f_X3_widen n v13 vR).bind (fun r_7 => f_X3_turnBack_36 n a1 r_7.1 r_7.2)) else ((f_X3_hasRoom n v13 vR 1).bind (fun r_10 => if r_10 = 0 then ((f_X3_widen n v13 vR).bind (fun r_15 => f_X3_turnBack_36 n a1 r_15.1 r_15.2)) else ((f_X3_hasRoom n v13 vR 2).bind (fun r_18 => if r_18 = 0 then ((f_X3_widen n v13 vR).bind (fun r_23 => f_X3_turnBack_36 n a1 r_23.1 r_23.2)) else ((f_X3_hasRoom n v13 vR 3).bind (fun r_26 => if r_26 = 0 then ((f_X3_widen n v13 vR).bind (fun r_31 => f_X3_turnBack_36 n a1 r_31.1 r_31.2)) else (f_X3_turnBack_36 n a1 vR v13))))))))
set_option maxHeartbeats 4000000 in
set_option maxRecDepth 100000 in
theorem c_X3_turnBack (l : Launch) (dC : Nat → ClassId) (dI : Nat → Nat → Nat) (sz : Nat) (h0 : Nat) (h1 : Nat) (cI : ClassId) (v0 : Int32) (v1 : Int64) (v2 : Int64) (v3 : Int64) (v4 : Int64) (v5 : Int64) (v6 : Int64) (v7 : Int64) (v8 : Int64) (v9 : Int64) (v10 : Int64) (v11 : Int64) (v12 : Int64) (v13 : Int32) (vR : Nat → Int32) (a1 : Int64)  (n : Nat) (out : (Nat → Int32) × Int32) (hr : f_X3_turnBack n v13 vR a1 = some out) : Met l yX3_turnBack wsX3_turnBack ({ frames := 3, cells := 0, slots := 0, locals := 66 }) (va_Pc [.ref h0, .long a1] (zP dC dI [(cI, .int)] [(h0, .inr (3, [.int v0, .long v1, .long v2, .long v3, .long v4, .long v5, .long v6, .long v7, .long v8, .long v9, .long v10, .long v11, .long v12, .int v13, .ref h1])), (h1, .inl (cI, 6600, .inl vR))] sz)) (va_Qv (fun (_ : Unit) => True) (fun (_ : Unit) t => zB dC dI [(cI, .int)] (va_A [(h0, .inr (3, [.int v0, .long v1, .long v2, .long v3, .long v4, .long v5, .long v6, .long v7, .long v8, .long v9, .long v10, .long v11, .long v12, .int v13, .ref h1])), (h1, .inl (cI, 6600, .inl vR))] sz) [(h0, .inr (3, [.int v0, .long v1, .long v2, .long v3, .long v4, .long v5, .long v6, .long v7, .long v8, .long v9, .long v10, .long v11, .long v12, .int out.2, .ref h1])), (h1, .inl (cI, 6600, .inl out.1))] t) (va_A [(h0, .inr (3, [.int v0, .long v1, .long v2, .long v3, .long v4, .long v5, .long v6, .long v7, .long v8, .long v9, .long v10, .long v11, .long v12, .int v13, .ref h1])), (h1, .inl (cI, 6600, .inl vR))] sz)) 0 0 (va_A [(h0, .inr (3, [.int v0, .long v1, .long v2, .long v3, .long v4, .long v5, .long v6, .long v7, .long v8, .long v9, .long v10, .long v11, .long v12, .int v13, .ref h1])), (h1, .inl (cI, 6600, .inl vR))] sz) := by
  refine Met.ofW (cc := cX3_turnBack) (maxL := 4) (ret := none) (by decide) rfl ?_
  intro p e s m args below meth c s₁ B hml hv
  obtain ⟨rfl, hsz, hP, hK, hD0⟩ := hv
  have hx := B.exec
  have hb := B.bytes
  have hrt := B.returns
  have hts := atoms_spec (ws := wsX3_turnBack) B.pre
  have hown : s.vm.findClass RX3 = some m.cls := findClass_of_methodNamed B.named
  have hlocks := B.notSynchronized
  subst hsz
  have hD := hD0.self (sz := s.heap.size)
  generalize hAe : va_A [(h0, .inr (3, [.int v0, .long v1, .long v2, .long v3, .long v4, .long v5, .long v6, .long v7, .long v8, .long v9, .long v10, .long v11, .long v12, .int v13, .ref h1])), (h1, .inl (cI, 6600, .inl vR))] s.heap.size = A at hD ⊢
  have hA : ∀ q : Nat, s.heap.size ≤ q → A q := fun q h => by rw [← hAe]; exact Or.inr h
  have hS : va_S A s.heap s.heap [] := va_S.rf
  have hP : va_P (dC, dI) vwCl [(h0, .inr (3, [.int v0, .long v1, .long v2, .long v3, .long v4, .long v5, .long v6, .long v7, .long v8, .long v9, .long v10, .long v11, .long v12, .int v13, .ref h1])), (h1, .inl (cI, 6600, .inl vR))] s.heap := hP
  have hl := lv_entry ([.ref h0, .long a1]) (n := 4) (Nat.le_of_ble_eq_true rfl)
  rw [lg_entry_eq]
  generalize (lg_sl ([.ref h0, .long a1]) ++ List.replicate (4 - (lg_sl ([.ref h0, .long a1])).length) Slot.unset).toArray = ls at hl ⊢
  have hl : lv_has ls 4 [(0, .ref h0), (1, .long a1)] := hl
  unfold f_X3_turnBack at hr
  refine lv_aload_n hx hb dX3_turnBack_0 rfl (lv_at hl 0 rfl) ?_
  refine lv_iconst (v := 0) hx hb dX3_turnBack_1 (by decide) ?_
  cases e_1 : f_X3_hasRoom n v13 vR 0 with
  | none => rw [e_1, Option.bind_none] at hr; cases hr
  | some r_2 =>
    rw [e_1, Option.bind_some] at hr
    have hPc := hP.sub (ws' := [(h0, .inr (3, [.int v0, .long v1, .long v2, .long v3, .long v4, .long v5, .long v6, .long v7, .long v8, .long v9, .long v10, .long v11, .long v12, .int v13, .ref h1])), (h1, .inl (cI, 6600, .inl vR))]) [0, 1] rfl
    have hDc := hD.sub (ws' := [(h0, .inr (3, [.int v0, .long v1, .long v2, .long v3, .long v4, .long v5, .long v6, .long v7, .long v8, .long v9, .long v10, .long v11, .long v12, .int v13, .ref h1])), (h1, .inl (cI, 6600, .inl vR))]) [0, 1] (by decide) rfl
    have hKc := hK.sub (tys' := [(cI, .int)]) [0] rfl
    have hFc := va_free (wc := [(h0, .inr (3, [.int v0, .long v1, .long v2, .long v3, .long v4, .long v5, .long v6, .long v7, .long v8, .long v9, .long v10, .long v11, .long v12, .int v13, .ref h1])), (h1, .inl (cI, 6600, .inl vR))]) hD hS hA [0, 1] rfl
    refine va_calli (va_runV (As := [.int 0]) (rest := []) ⟨hx, hb, hml, hown, hts⟩ (c_X3_hasRoom l dC dI s.heap.size h0 h1 cI v0 v1 v2 v3 v4 v5 v6 v7 v8 v9 v10 v11 v12 v13 vR 0 n _ e_1) (cwV 1 hts gX3_turnBack_X3_hasRoom rfl rfl rfl (by decide +kernel) ⟨Nat.le_of_ble_eq_true rfl, Nat.le_of_ble_eq_true rfl⟩) ⟨fun a U g mk q => by obtain ⟨q0, q1, qP, qK, qD⟩ := q; exact ⟨q0, q1, qP, va_K.moved (u := U) (U := U.calling g mk a) (Vm.Alike.refl U.vm) qK, qD⟩, va_recv hKc hPc (ci := 3) (q0 := 0) rfl rfl, fun U hU hW => ⟨rfl, by rw [hU], by rw [hU]; exact hPc, va_K.moved hW.alike hKc, hDc.weaken (fun _ _ _ _ => trivial)⟩⟩ rfl rfl hl.1 rfl (lv_room (Nat.le_of_ble_eq_true rfl)) dX3_turnBack_2 ⟨Nat.zero_le _, Nat.zero_le _⟩) hS (fun q _ h => hFc q h) hFc (fun x_3 _ t H1 locs ht hvm hw hB hz1 hk1 hS => ?_)
    obtain ⟨hw, z_4⟩ := hw
    have hw := hw.symm
    subst hw
    obtain ⟨hP1, hK1, hD1⟩ := hB
    rw [ht] at hP1
    obtain ⟨hP, hD⟩ := va_join (wr := []) (w1 := [(h0, .inr (3, [.int v0, .long v1, .long v2, .long v3, .long v4, .long v5, .long v6, .long v7, .long v8, .long v9, .long v10, .long v11, .long v12, .int v13, .ref h1])), (h1, .inl (cI, 6600, .inl vR))]) hP hD [0, 1] [] rfl rfl (by decide) (by decide) hk1 hFc hP1 hD1
    generalize H1 = H at hP hS ⊢
    have hP : va_P (dC, dI) vwCl [(h0, .inr (3, [.int v0, .long v1, .long v2, .long v3, .long v4, .long v5, .long v6, .long v7, .long v8, .long v9, .long v10, .long v11, .long v12, .int v13, .ref h1])), (h1, .inl (cI, 6600, .inl vR))] H := hP
    have hD : va_D A [(h0, .inr (3, [.int v0, .long v1, .long v2, .long v3, .long v4, .long v5, .long v6, .long v7, .long v8, .long v9, .long v10, .long v11, .long v12, .int v13, .ref h1])), (h1, .inl (cI, 6600, .inl vR))] := hD
    refine W.widen (k := 0) (n := 0) (Nat.le_refl _) (Nat.le_refl _) ?_
    refine lz_zeq (tgt := 32) hx hb dX3_turnBack_5 (by decide) (fun c_5 => ?_) (fun c_5 => ?_)
    · have hr := (if_pos c_5).symm.trans hr
      refine lv_aload_n hx hb dX3_turnBack_32 rfl (lv_at hl 0 rfl) ?_
      cases e_6 : f_X3_widen n v13 vR with
      | none => rw [e_6, Option.bind_none] at hr; cases hr
      | some r_7 =>
        rw [e_6, Option.bind_some] at hr
        have hPc := hP.sub (ws' := [(h0, .inr (3, [.int v0, .long v1, .long v2, .long v3, .long v4, .long v5, .long v6, .long v7, .long v8, .long v9, .long v10, .long v11, .long v12, .int v13, .ref h1])), (h1, .inl (cI, 6600, .inl vR))]) [0, 1] rfl
        have hDc := hD.sub (ws' := [(h0, .inr (3, [.int v0, .long v1, .long v2, .long v3, .long v4, .long v5, .long v6, .long v7, .long v8, .long v9, .long v10, .long v11, .long v12, .int v13, .ref h1])), (h1, .inl (cI, 6600, .inl vR))]) [0, 1] (by decide) rfl
        have hKc := hK.sub (tys' := [(cI, .int)]) [0] rfl
        have hFc := va_free (wc := [(h0, .inr (3, [.int v0, .long v1, .long v2, .long v3, .long v4, .long v5, .long v6, .long v7, .long v8, .long v9, .long v10, .long v11, .long v12, .int v13, .ref h1])), (h1, .inl (cI, 6600, .inl vR))]) hD hS hA [0, 1] rfl
        refine va_callv (va_runV (As := []) (rest := []) ⟨hx, hb, hml, hown, hts⟩ (c_X3_widen l dC dI H.size h0 h1 cI v0 v1 v2 v3 v4 v5 v6 v7 v8 v9 v10 v11 v12 v13 vR  n _ e_6) (cwV 0 hts gX3_turnBack_X3_widen rfl rfl rfl (by decide +kernel) ⟨Nat.le_of_ble_eq_true rfl, Nat.le_of_ble_eq_true rfl⟩) ⟨fun a U g mk q => by obtain ⟨q0, q1, qP, qK, qD⟩ := q; exact ⟨q0, q1, qP, va_K.moved (u := U) (U := U.calling g mk a) (Vm.Alike.refl U.vm) qK, qD⟩, va_recv hKc hPc (ci := 3) (q0 := 0) rfl rfl, fun U hU hW => ⟨rfl, by rw [hU], by rw [hU]; exact hPc, va_K.moved hW.alike hKc, hDc.weaken (fun _ _ _ _ => trivial)⟩⟩ rfl rfl hl.1 rfl (lv_room (Nat.le_of_ble_eq_true rfl)) dX3_turnBack_33 ⟨Nat.zero_le _, Nat.zero_le _⟩) hS (fun q _ h => hFc q h) hFc (fun _ t H1 locs ht hvm hw hB hz1 hk1 hS => ?_)
        obtain ⟨hP1, hK1, hD1⟩ := hB
        rw [ht] at hP1
        obtain ⟨hP, hD⟩ := va_join (wr := []) (w1 := [(h0, .inr (3, [.int v0, .long v1, .long v2, .long v3, .long v4, .long v5, .long v6, .long v7, .long v8, .long v9, .long v10, .long v11, .long v12, .int r_7.2, .ref h1])), (h1, .inl (cI, 6600, .inl r_7.1))]) hP hD [0, 1] [] rfl rfl (by decide) (by decide) hk1 hFc hP1 hD1
        generalize H1 = H at hP hS ⊢
        have hP : va_P (dC, dI) vwCl [(h0, .inr (3, [.int v0, .long v1, .long v2, .long v3, .long v4, .long v5, .long v6, .long v7, .long v8, .long v9, .long v10, .long v11, .long v12, .int r_7.2, .ref h1])), (h1, .inl (cI, 6600, .inl r_7.1))] H := hP
        have hD : va_D A [(h0, .inr (3, [.int v0, .long v1, .long v2, .long v3, .long v4, .long v5, .long v6, .long v7, .long v8, .long v9, .long v10, .long v11, .long v12, .int r_7.2, .ref h1])), (h1, .inl (cI, 6600, .inl r_7.1))] := hD
        refine W.widen (k := 0) (n := 0) (Nat.le_refl _) (Nat.le_refl _) ?_
        exact k_X3_turnBack_36 hx hb hrt hml hown hlocks hts hA hK n out r_7.1 r_7.2 hr _ _ _ hP hD hS (lv_sub hl [0, 1] rfl)
    · have hr := (if_neg c_5).symm.trans hr
      refine lv_aload_n hx hb dX3_turnBack_8 rfl (lv_at hl 0 rfl) ?_
      refine lv_iconst (v := 1) hx hb dX3_turnBack_9 (by decide) ?_
      cases e_9 : f_X3_hasRoom n v13 vR 1 with
      | none => rw [e_9, Option.bind_none] at hr; cases hr
      | some r_10 =>
        rw [e_9, Option.bind_some] at hr
        have hPc := hP.sub (ws' := [(h0, .inr (3, [.int v0, .long v1, .long v2, .long v3, .long v4, .long v5, .long v6, .long v7, .long v8, .long v9, .long v10, .long v11, .long v12, .int v13, .ref h1])), (h1, .inl (cI, 6600, .inl vR))]) [0, 1] rfl
        have hDc := hD.sub (ws' := [(h0, .inr (3, [.int v0, .long v1, .long v2, .long v3, .long v4, .long v5, .long v6, .long v7, .long v8, .long v9, .long v10, .long v11, .long v12, .int v13, .ref h1])), (h1, .inl (cI, 6600, .inl vR))]) [0, 1] (by decide) rfl
        have hKc := hK.sub (tys' := [(cI, .int)]) [0] rfl
        have hFc := va_free (wc := [(h0, .inr (3, [.int v0, .long v1, .long v2, .long v3, .long v4, .long v5, .long v6, .long v7, .long v8, .long v9, .long v10, .long v11, .long v12, .int v13, .ref h1])), (h1, .inl (cI, 6600, .inl vR))]) hD hS hA [0, 1] rfl
        refine va_calli (va_runV (As := [.int 1]) (rest := []) ⟨hx, hb, hml, hown, hts⟩ (c_X3_hasRoom l dC dI H.size h0 h1 cI v0 v1 v2 v3 v4 v5 v6 v7 v8 v9 v10 v11 v12 v13 vR 1 n _ e_9) (cwV 1 hts gX3_turnBack_X3_hasRoom rfl rfl rfl (by decide +kernel) ⟨Nat.le_of_ble_eq_true rfl, Nat.le_of_ble_eq_true rfl⟩) ⟨fun a U g mk q => by obtain ⟨q0, q1, qP, qK, qD⟩ := q; exact ⟨q0, q1, qP, va_K.moved (u := U) (U := U.calling g mk a) (Vm.Alike.refl U.vm) qK, qD⟩, va_recv hKc hPc (ci := 3) (q0 := 0) rfl rfl, fun U hU hW => ⟨rfl, by rw [hU], by rw [hU]; exact hPc, va_K.moved hW.alike hKc, hDc.weaken (fun _ _ _ _ => trivial)⟩⟩ rfl rfl hl.1 rfl (lv_room (Nat.le_of_ble_eq_true rfl)) dX3_turnBack_10 ⟨Nat.zero_le _, Nat.zero_le _⟩) hS (fun q _ h => hFc q h) hFc (fun x_11 _ t H1 locs ht hvm hw hB hz1 hk1 hS => ?_)
        obtain ⟨hw, z_12⟩ := hw
        have hw := hw.symm
        subst hw
        obtain ⟨hP1, hK1, hD1⟩ := hB
        rw [ht] at hP1
        obtain ⟨hP, hD⟩ := va_join (wr := []) (w1 := [(h0, .inr (3, [.int v0, .long v1, .long v2, .long v3, .long v4, .long v5, .long v6, .long v7, .long v8, .long v9, .long v10, .long v11, .long v12, .int v13, .ref h1])), (h1, .inl (cI, 6600, .inl vR))]) hP hD [0, 1] [] rfl rfl (by decide) (by decide) hk1 hFc hP1 hD1
        generalize H1 = H at hP hS ⊢
        have hP : va_P (dC, dI) vwCl [(h0, .inr (3, [.int v0, .long v1, .long v2, .long v3, .long v4, .long v5, .long v6, .long v7, .long v8, .long v9, .long v10, .long v11, .long v12, .int v13, .ref h1])), (h1, .inl (cI, 6600, .inl vR))] H := hP
        have hD : va_D A [(h0, .inr (3, [.int v0, .long v1, .long v2, .long v3, .long v4, .long v5, .long v6, .long v7, .long v8, .long v9, .long v10, .long v11, .long v12, .int v13, .ref h1])), (h1, .inl (cI, 6600, .inl vR))] := hD
        refine W.widen (k := 0) (n := 0) (Nat.le_refl _) (Nat.le_refl _) ?_
        refine lz_zeq (tgt := 32) hx hb dX3_turnBack_13 (by decide) (fun c_13 => ?_) (fun c_13 => ?_)
        · have hr := (if_pos c_13).symm.trans hr
          refine lv_aload_n hx hb dX3_turnBack_32 rfl (lv_at hl 0 rfl) ?_
          cases e_14 : f_X3_widen n v13 vR with
          | none => rw [e_14, Option.bind_none] at hr; cases hr
          | some r_15 =>
            rw [e_14, Option.bind_some] at hr
            have hPc := hP.sub (ws' := [(h0, .inr (3, [.int v0, .long v1, .long v2, .long v3, .long v4, .long v5, .long v6, .long v7, .long v8, .long v9, .long v10, .long v11, .long v12, .int v13, .ref h1])), (h1, .inl (cI, 6600, .inl vR))]) [0, 1] rfl
            have hDc := hD.sub (ws' := [(h0, .inr (3, [.int v0, .long v1, .long v2, .long v3, .long v4, .long v5, .long v6, .long v7, .long v8, .long v9, .long v10, .long v11, .long v12, .int v13, .ref h1])), (h1, .inl (cI, 6600, .inl vR))]) [0, 1] (by decide) rfl
            have hKc := hK.sub (tys' := [(cI, .int)]) [0] rfl
            have hFc := va_free (wc := [(h0, .inr (3, [.int v0, .long v1, .long v2, .long v3, .long v4, .long v5, .long v6, .long v7, .long v8, .long v9, .long v10, .long v11, .long v12, .int v13, .ref h1])), (h1, .inl (cI, 6600, .inl vR))]) hD hS hA [0, 1] rfl
            refine va_callv (va_runV (As := []) (rest := []) ⟨hx, hb, hml, hown, hts⟩ (c_X3_widen l dC dI H.size h0 h1 cI v0 v1 v2 v3 v4 v5 v6 v7 v8 v9 v10 v11 v12 v13 vR  n _ e_14) (cwV 0 hts gX3_turnBack_X3_widen rfl rfl rfl (by decide +kernel) ⟨Nat.le_of_ble_eq_true rfl, Nat.le_of_ble_eq_true rfl⟩) ⟨fun a U g mk q => by obtain ⟨q0, q1, qP, qK, qD⟩ := q; exact ⟨q0, q1, qP, va_K.moved (u := U) (U := U.calling g mk a) (Vm.Alike.refl U.vm) qK, qD⟩, va_recv hKc hPc (ci := 3) (q0 := 0) rfl rfl, fun U hU hW => ⟨rfl, by rw [hU], by rw [hU]; exact hPc, va_K.moved hW.alike hKc, hDc.weaken (fun _ _ _ _ => trivial)⟩⟩ rfl rfl hl.1 rfl (lv_room (Nat.le_of_ble_eq_true rfl)) dX3_turnBack_33 ⟨Nat.zero_le _, Nat.zero_le _⟩) hS (fun q _ h => hFc q h) hFc (fun _ t H1 locs ht hvm hw hB hz1 hk1 hS => ?_)
            obtain ⟨hP1, hK1, hD1⟩ := hB
            rw [ht] at hP1
            obtain ⟨hP, hD⟩ := va_join (wr := []) (w1 := [(h0, .inr (3, [.int v0, .long v1, .long v2, .long v3, .long v4, .long v5, .long v6, .long v7, .long v8, .long v9, .long v10, .long v11, .long v12, .int r_15.2, .ref h1])), (h1, .inl (cI, 6600, .inl r_15.1))]) hP hD [0, 1] [] rfl rfl (by decide) (by decide) hk1 hFc hP1 hD1
            generalize H1 = H at hP hS ⊢
            have hP : va_P (dC, dI) vwCl [(h0, .inr (3, [.int v0, .long v1, .long v2, .long v3, .long v4, .long v5, .long v6, .long v7, .long v8, .long v9, .long v10, .long v11, .long v12, .int r_15.2, .ref h1])), (h1, .inl (cI, 6600, .inl r_15.1))] H := hP
            have hD : va_D A [(h0, .inr (3, [.int v0, .long v1, .long v2, .long v3, .long v4, .long v5, .long v6, .long v7, .long v8, .long v9, .long v10, .long v11, .long v12, .int r_15.2, .ref h1])), (h1, .inl (cI, 6600, .inl r_15.1))] := hD
            refine W.widen (k := 0) (n := 0) (Nat.le_refl _) (Nat.le_refl _) ?_
            exact k_X3_turnBack_36 hx hb hrt hml hown hlocks hts hA hK n out r_15.1 r_15.2 hr _ _ _ hP hD hS (lv_sub hl [0, 1] rfl)
        · have hr := (if_neg c_13).symm.trans hr
          refine lv_aload_n hx hb dX3_turnBack_16 rfl (lv_at hl 0 rfl) ?_
          refine lv_iconst (v := 2) hx hb dX3_turnBack_17 (by decide) ?_
          cases e_17 : f_X3_hasRoom n v13 vR 2 with
          | none => rw [e_17, Option.bind_none] at hr; cases hr
          | some r_18 =>
            rw [e_17, Option.bind_some] at hr
            have hPc := hP.sub (ws' := [(h0, .inr (3, [.int v0, .long v1, .long v2, .long v3, .long v4, .long v5, .long v6, .long v7, .long v8, .long v9, .long v10, .long v11, .long v12, .int v13, .ref h1])), (h1, .inl (cI, 6600, .inl vR))]) [0, 1] rfl
            have hDc := hD.sub (ws' := [(h0, .inr (3, [.int v0, .long v1, .long v2, .long v3, .long v4, .long v5, .long v6, .long v7, .long v8, .long v9, .long v10, .long v11, .long v12, .int v13, .ref h1])), (h1, .inl (cI, 6600, .inl vR))]) [0, 1] (by decide) rfl
            have hKc := hK.sub (tys' := [(cI, .int)]) [0] rfl
            have hFc := va_free (wc := [(h0, .inr (3, [.int v0, .long v1, .long v2, .long v3, .long v4, .long v5, .long v6, .long v7, .long v8, .long v9, .long v10, .long v11, .long v12, .int v13, .ref h1])), (h1, .inl (cI, 6600, .inl vR))]) hD hS hA [0, 1] rfl
            refine va_calli (va_runV (As := [.int 2]) (rest := []) ⟨hx, hb, hml, hown, hts⟩ (c_X3_hasRoom l dC dI H.size h0 h1 cI v0 v1 v2 v3 v4 v5 v6 v7 v8 v9 v10 v11 v12 v13 vR 2 n _ e_17) (cwV 1 hts gX3_turnBack_X3_hasRoom rfl rfl rfl (by decide +kernel) ⟨Nat.le_of_ble_eq_true rfl, Nat.le_of_ble_eq_true rfl⟩) ⟨fun a U g mk q => by obtain ⟨q0, q1, qP, qK, qD⟩ := q; exact ⟨q0, q1, qP, va_K.moved (u := U) (U := U.calling g mk a) (Vm.Alike.refl U.vm) qK, qD⟩, va_recv hKc hPc (ci := 3) (q0 := 0) rfl rfl, fun U hU hW => ⟨rfl, by rw [hU], by rw [hU]; exact hPc, va_K.moved hW.alike hKc, hDc.weaken (fun _ _ _ _ => trivial)⟩⟩ rfl rfl hl.1 rfl (lv_room (Nat.le_of_ble_eq_true rfl)) dX3_turnBack_18 ⟨Nat.zero_le _, Nat.zero_le _⟩) hS (fun q _ h => hFc q h) hFc (fun x_19 _ t H1 locs ht hvm hw hB hz1 hk1 hS => ?_)
            obtain ⟨hw, z_20⟩ := hw
            have hw := hw.symm
            subst hw
            obtain ⟨hP1, hK1, hD1⟩ := hB
            rw [ht] at hP1
            obtain ⟨hP, hD⟩ := va_join (wr := []) (w1 := [(h0, .inr (3, [.int v0, .long v1, .long v2, .long v3, .long v4, .long v5, .long v6, .long v7, .long v8, .long v9, .long v10, .long v11, .long v12, .int v13, .ref h1])), (h1, .inl (cI, 6600, .inl vR))]) hP hD [0, 1] [] rfl rfl (by decide) (by decide) hk1 hFc hP1 hD1
            generalize H1 = H at hP hS ⊢
            have hP : va_P (dC, dI) vwCl [(h0, .inr (3, [.int v0, .long v1, .long v2, .long v3, .long v4, .long v5, .long v6, .long v7, .long v8, .long v9, .long v10, .long v11, .long v12, .int v13, .ref h1])), (h1, .inl (cI, 6600, .inl vR))] H := hP
            have hD : va_D A [(h0, .inr (3, [.int v0, .long v1, .long v2, .long v3, .long v4, .long v5, .long v6, .long v7, .long v8, .long v9, .long v10, .long v11, .long v12, .int v13, .ref h1])), (h1, .inl (cI, 6600, .inl vR))] := hD
            refine W.widen (k := 0) (n := 0) (Nat.le_refl _) (Nat.le_refl _) ?_
            refine lz_zeq (tgt := 32) hx hb dX3_turnBack_21 (by decide) (fun c_21 => ?_) (fun c_21 => ?_)
            · have hr := (if_pos c_21).symm.trans hr
              refine lv_aload_n hx hb dX3_turnBack_32 rfl (lv_at hl 0 rfl) ?_
              cases e_22 : f_X3_widen n v13 vR with
              | none => rw [e_22, Option.bind_none] at hr; cases hr
              | some r_23 =>
                rw [e_22, Option.bind_some] at hr
                have hPc := hP.sub (ws' := [(h0, .inr (3, [.int v0, .long v1, .long v2, .long v3, .long v4, .long v5, .long v6, .long v7, .long v8, .long v9, .long v10, .long v11, .long v12, .int v13, .ref h1])), (h1, .inl (cI, 6600, .inl vR))]) [0, 1] rfl
                have hDc := hD.sub (ws' := [(h0, .inr (3, [.int v0, .long v1, .long v2, .long v3, .long v4, .long v5, .long v6, .long v7, .long v8, .long v9, .long v10, .long v11, .long v12, .int v13, .ref h1])), (h1, .inl (cI, 6600, .inl vR))]) [0, 1] (by decide) rfl
                have hKc := hK.sub (tys' := [(cI, .int)]) [0] rfl
                have hFc := va_free (wc := [(h0, .inr (3, [.int v0, .long v1, .long v2, .long v3, .long v4, .long v5, .long v6, .long v7, .long v8, .long v9, .long v10, .long v11, .long v12, .int v13, .ref h1])), (h1, .inl (cI, 6600, .inl vR))]) hD hS hA [0, 1] rfl
                refine va_callv (va_runV (As := []) (rest := []) ⟨hx, hb, hml, hown, hts⟩ (c_X3_widen l dC dI H.size h0 h1 cI v0 v1 v2 v3 v4 v5 v6 v7 v8 v9 v10 v11 v12 v13 vR  n _ e_22) (cwV 0 hts gX3_turnBack_X3_widen rfl rfl rfl (by decide +kernel) ⟨Nat.le_of_ble_eq_true rfl, Nat.le_of_ble_eq_true rfl⟩) ⟨fun a U g mk q => by obtain ⟨q0, q1, qP, qK, qD⟩ := q; exact ⟨q0, q1, qP, va_K.moved (u := U) (U := U.calling g mk a) (Vm.Alike.refl U.vm) qK, qD⟩, va_recv hKc hPc (ci := 3) (q0 := 0) rfl rfl, fun U hU hW => ⟨rfl, by rw [hU], by rw [hU]; exact hPc, va_K.moved hW.alike hKc, hDc.weaken (fun _ _ _ _ => trivial)⟩⟩ rfl rfl hl.1 rfl (lv_room (Nat.le_of_ble_eq_true rfl)) dX3_turnBack_33 ⟨Nat.zero_le _, Nat.zero_le _⟩) hS (fun q _ h => hFc q h) hFc (fun _ t H1 locs ht hvm hw hB hz1 hk1 hS => ?_)
                obtain ⟨hP1, hK1, hD1⟩ := hB
                rw [ht] at hP1
                obtain ⟨hP, hD⟩ := va_join (wr := []) (w1 := [(h0, .inr (3, [.int v0, .long v1, .long v2, .long v3, .long v4, .long v5, .long v6, .long v7, .long v8, .long v9, .long v10, .long v11, .long v12, .int r_23.2, .ref h1])), (h1, .inl (cI, 6600, .inl r_23.1))]) hP hD [0, 1] [] rfl rfl (by decide) (by decide) hk1 hFc hP1 hD1
                generalize H1 = H at hP hS ⊢
                have hP : va_P (dC, dI) vwCl [(h0, .inr (3, [.int v0, .long v1, .long v2, .long v3, .long v4, .long v5, .long v6, .long v7, .long v8, .long v9, .long v10, .long v11, .long v12, .int r_23.2, .ref h1])), (h1, .inl (cI, 6600, .inl r_23.1))] H := hP
                have hD : va_D A [(h0, .inr (3, [.int v0, .long v1, .long v2, .long v3, .long v4, .long v5, .long v6, .long v7, .long v8, .long v9, .long v10, .long v11, .long v12, .int r_23.2, .ref h1])), (h1, .inl (cI, 6600, .inl r_23.1))] := hD
                refine W.widen (k := 0) (n := 0) (Nat.le_refl _) (Nat.le_refl _) ?_
                exact k_X3_turnBack_36 hx hb hrt hml hown hlocks hts hA hK n out r_23.1 r_23.2 hr _ _ _ hP hD hS (lv_sub hl [0, 1] rfl)
            · have hr := (if_neg c_21).symm.trans hr
              refine lv_aload_n hx hb dX3_turnBack_24 rfl (lv_at hl 0 rfl) ?_
              refine lv_iconst (v := 3) hx hb dX3_turnBack_25 (by decide) ?_
              cases e_25 : f_X3_hasRoom n v13 vR 3 with
              | none => rw [e_25, Option.bind_none] at hr; cases hr
              | some r_26 =>
                rw [e_25, Option.bind_some] at hr
                have hPc := hP.sub (ws' := [(h0, .inr (3, [.int v0, .long v1, .long v2, .long v3, .long v4, .long v5, .long v6, .long v7, .long v8, .long v9, .long v10, .long v11, .long v12, .int v13, .ref h1])), (h1, .inl (cI, 6600, .inl vR))]) [0, 1] rfl
                have hDc := hD.sub (ws' := [(h0, .inr (3, [.int v0, .long v1, .long v2, .long v3, .long v4, .long v5, .long v6, .long v7, .long v8, .long v9, .long v10, .long v11, .long v12, .int v13, .ref h1])), (h1, .inl (cI, 6600, .inl vR))]) [0, 1] (by decide) rfl
                have hKc := hK.sub (tys' := [(cI, .int)]) [0] rfl
                have hFc := va_free (wc := [(h0, .inr (3, [.int v0, .long v1, .long v2, .long v3, .long v4, .long v5, .long v6, .long v7, .long v8, .long v9, .long v10, .long v11, .long v12, .int v13, .ref h1])), (h1, .inl (cI, 6600, .inl vR))]) hD hS hA [0, 1] rfl
                refine va_calli (va_runV (As := [.int 3]) (rest := []) ⟨hx, hb, hml, hown, hts⟩ (c_X3_hasRoom l dC dI H.size h0 h1 cI v0 v1 v2 v3 v4 v5 v6 v7 v8 v9 v10 v11 v12 v13 vR 3 n _ e_25) (cwV 1 hts gX3_turnBack_X3_hasRoom rfl rfl rfl (by decide +kernel) ⟨Nat.le_of_ble_eq_true rfl, Nat.le_of_ble_eq_true rfl⟩) ⟨fun a U g mk q => by obtain ⟨q0, q1, qP, qK, qD⟩ := q; exact ⟨q0, q1, qP, va_K.moved (u := U) (U := U.calling g mk a) (Vm.Alike.refl U.vm) qK, qD⟩, va_recv hKc hPc (ci := 3) (q0 := 0) rfl rfl, fun U hU hW => ⟨rfl, by rw [hU], by rw [hU]; exact hPc, va_K.moved hW.alike hKc, hDc.weaken (fun _ _ _ _ => trivial)⟩⟩ rfl rfl hl.1 rfl (lv_room (Nat.le_of_ble_eq_true rfl)) dX3_turnBack_26 ⟨Nat.zero_le _, Nat.zero_le _⟩) hS (fun q _ h => hFc q h) hFc (fun x_27 _ t H1 locs ht hvm hw hB hz1 hk1 hS => ?_)
                obtain ⟨hw, z_28⟩ := hw
                have hw := hw.symm
                subst hw
                obtain ⟨hP1, hK1, hD1⟩ := hB
                rw [ht] at hP1
                obtain ⟨hP, hD⟩ := va_join (wr := []) (w1 := [(h0, .inr (3, [.int v0, .long v1, .long v2, .long v3, .long v4, .long v5, .long v6, .long v7, .long v8, .long v9, .long v10, .long v11, .long v12, .int v13, .ref h1])), (h1, .inl (cI, 6600, .inl vR))]) hP hD [0, 1] [] rfl rfl (by decide) (by decide) hk1 hFc hP1 hD1
                generalize H1 = H at hP hS ⊢
                have hP : va_P (dC, dI) vwCl [(h0, .inr (3, [.int v0, .long v1, .long v2, .long v3, .long v4, .long v5, .long v6, .long v7, .long v8, .long v9, .long v10, .long v11, .long v12, .int v13, .ref h1])), (h1, .inl (cI, 6600, .inl vR))] H := hP
                have hD : va_D A [(h0, .inr (3, [.int v0, .long v1, .long v2, .long v3, .long v4, .long v5, .long v6, .long v7, .long v8, .long v9, .long v10, .long v11, .long v12, .int v13, .ref h1])), (h1, .inl (cI, 6600, .inl vR))] := hD
                refine W.widen (k := 0) (n := 0) (Nat.le_refl _) (Nat.le_refl _) ?_
                refine lz_zne (tgt := 36) hx hb dX3_turnBack_29 (by decide) (fun c_29 => ?_) (fun c_29 => ?_)
                · have hr := (if_neg c_29).symm.trans hr
                  exact k_X3_turnBack_36 hx hb hrt hml hown hlocks hts hA hK n out vR v13 hr _ _ _ hP hD hS (lv_sub hl [0, 1] rfl)
                · have hr := (if_pos c_29).symm.trans hr
                  refine lv_aload_n hx hb dX3_turnBack_32 rfl (lv_at hl 0 rfl) ?_
                  cases e_30 : f_X3_widen n v13 vR with
                  | none => rw [e_30, Option.bind_none] at hr; cases hr
                  | some r_31 =>
                    rw [e_30, Option.bind_some] at hr
                    have hPc := hP.sub (ws' := [(h0, .inr (3, [.int v0, .long v1, .long v2, .long v3, .long v4, .long v5, .long v6, .long v7, .long v8, .long v9, .long v10, .long v11, .long v12, .int v13, .ref h1])), (h1, .inl (cI, 6600, .inl vR))]) [0, 1] rfl
                    have hDc := hD.sub (ws' := [(h0, .inr (3, [.int v0, .long v1, .long v2, .long v3, .long v4, .long v5, .long v6, .long v7, .long v8, .long v9, .long v10, .long v11, .long v12, .int v13, .ref h1])), (h1, .inl (cI, 6600, .inl vR))]) [0, 1] (by decide) rfl
                    have hKc := hK.sub (tys' := [(cI, .int)]) [0] rfl
                    have hFc := va_free (wc := [(h0, .inr (3, [.int v0, .long v1, .long v2, .long v3, .long v4, .long v5, .long v6, .long v7, .long v8, .long v9, .long v10, .long v11, .long v12, .int v13, .ref h1])), (h1, .inl (cI, 6600, .inl vR))]) hD hS hA [0, 1] rfl
                    refine va_callv (va_runV (As := []) (rest := []) ⟨hx, hb, hml, hown, hts⟩ (c_X3_widen l dC dI H.size h0 h1 cI v0 v1 v2 v3 v4 v5 v6 v7 v8 v9 v10 v11 v12 v13 vR  n _ e_30) (cwV 0 hts gX3_turnBack_X3_widen rfl rfl rfl (by decide +kernel) ⟨Nat.le_of_ble_eq_true rfl, Nat.le_of_ble_eq_true rfl⟩) ⟨fun a U g mk q => by obtain ⟨q0, q1, qP, qK, qD⟩ := q; exact ⟨q0, q1, qP, va_K.moved (u := U) (U := U.calling g mk a) (Vm.Alike.refl U.vm) qK, qD⟩, va_recv hKc hPc (ci := 3) (q0 := 0) rfl rfl, fun U hU hW => ⟨rfl, by rw [hU], by rw [hU]; exact hPc, va_K.moved hW.alike hKc, hDc.weaken (fun _ _ _ _ => trivial)⟩⟩ rfl rfl hl.1 rfl (lv_room (Nat.le_of_ble_eq_true rfl)) dX3_turnBack_33 ⟨Nat.zero_le _, Nat.zero_le _⟩) hS (fun q _ h => hFc q h) hFc (fun _ t H1 locs ht hvm hw hB hz1 hk1 hS => ?_)
                    obtain ⟨hP1, hK1, hD1⟩ := hB
                    rw [ht] at hP1
                    obtain ⟨hP, hD⟩ := va_join (wr := []) (w1 := [(h0, .inr (3, [.int v0, .long v1, .long v2, .long v3, .long v4, .long v5, .long v6, .long v7, .long v8, .long v9, .long v10, .long v11, .long v12, .int r_31.2, .ref h1])), (h1, .inl (cI, 6600, .inl r_31.1))]) hP hD [0, 1] [] rfl rfl (by decide) (by decide) hk1 hFc hP1 hD1
                    generalize H1 = H at hP hS ⊢
                    have hP : va_P (dC, dI) vwCl [(h0, .inr (3, [.int v0, .long v1, .long v2, .long v3, .long v4, .long v5, .long v6, .long v7, .long v8, .long v9, .long v10, .long v11, .long v12, .int r_31.2, .ref h1])), (h1, .inl (cI, 6600, .inl r_31.1))] H := hP
                    have hD : va_D A [(h0, .inr (3, [.int v0, .long v1, .long v2, .long v3, .long v4, .long v5, .long v6, .long v7, .long v8, .long v9, .long v10, .long v11, .long v12, .int r_31.2, .ref h1])), (h1, .inl (cI, 6600, .inl r_31.1))] := hD
                    refine W.widen (k := 0) (n := 0) (Nat.le_refl _) (Nat.le_refl _) ?_
                    exact k_X3_turnBack_36 hx hb hrt hml hown hlocks hts hA hK n out r_31.1 r_31.2 hr _ _ _ hP hD hS (lv_sub hl [0, 1] rfl)
