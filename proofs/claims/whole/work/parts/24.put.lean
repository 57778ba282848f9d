theorem in_X0_put_X0 : ∀ w ∈ u_ws RX0 TX0 5, w ∈ wsX0_put := by decide +kernel
def f_X0_put (n : Nat) (a1 : Int64) (a2 : Int64) (a3 : Int64) : Option (Int64 × Int64 × Int64 × Int64 × Int64) := (f_X2_discriminantOf n a1 a2 a3).bind (fun r_2 => (f_X2_wholeRoot n r_2).bind (fun r_5 => some (a1, a2, a3, r_2, r_5)))
set_option maxHeartbeats 4000000 in
set_option maxRecDepth 100000 in
theorem c_X0_put (l : Launch) (dC : Nat → ClassId) (dI : Nat → Nat → Nat) (sz : Nat) (h0 : Nat) (v0 : Int64) (v1 : Int64) (v2 : Int64) (v3 : Int64) (v4 : Int64) (a1 : Int64) (a2 : Int64) (a3 : Int64)  (n : Nat) (out : Int64 × Int64 × Int64 × Int64 × Int64) (hr : f_X0_put n a1 a2 a3 = some out) : Met l yX0_put wsX0_put ({ frames := 1, cells := 0, slots := 0, locals := 26 }) (va_Pc [.ref h0, .long a1, .long a2, .long a3] (zPN dC dI [] [(h0, .inr (0, [.long v0, .long v1, .long v2, .long v3, .long v4]))] sz zN)) (va_Qv (fun (_ : Unit) => True) (fun (_ : Unit) t => zB dC dI [] (va_A [(h0, .inr (0, [.long v0, .long v1, .long v2, .long v3, .long v4]))] sz) [(h0, .inr (0, [.long out.1, .long out.2.1, .long out.2.2.1, .long out.2.2.2.1, .long out.2.2.2.2]))] t) (va_A [(h0, .inr (0, [.long v0, .long v1, .long v2, .long v3, .long v4]))] sz)) 0 0 (va_A [(h0, .inr (0, [.long v0, .long v1, .long v2, .long v3, .long v4]))] sz) := by
  refine Met.ofW (cc := cX0_put) (maxL := 7) (ret := none) (by decide +kernel) rfl ?_
  intro p e s m args below meth c s₁ B hml hv
  obtain ⟨rfl, hsz, hP, hK, hD0, hN⟩ := hv
  have hx := B.exec
  have hb := B.bytes
  have hrt := B.returns
  have hts := atoms_spec (ws := wsX0_put) B.pre
  have hown : s.vm.findClass RX0 = some m.cls := findClass_of_methodNamed B.named
  have hlocks := B.notSynchronized
  subst hsz
  have hD := hD0.self (sz := s.heap.size)
  generalize hAe : va_A [(h0, .inr (0, [.long v0, .long v1, .long v2, .long v3, .long v4]))] s.heap.size = A at hD ⊢
  have hA : ∀ q : Nat, s.heap.size ≤ q → A q := fun q h => by rw [← hAe]; exact Or.inr h
  have hS : va_S A s.heap s.heap [] := va_S.rf
  have hP : va_P (dC, dI) vwCl [(h0, .inr (0, [.long v0, .long v1, .long v2, .long v3, .long v4]))] s.heap := hP
  have hl := lv_entry ([.ref h0, .long a1, .long a2, .long a3]) (n := 7) (Nat.le_of_ble_eq_true rfl)
  rw [lg_entry_eq]
  generalize (lg_sl ([.ref h0, .long a1, .long a2, .long a3]) ++ List.replicate (7 - (lg_sl ([.ref h0, .long a1, .long a2, .long a3])).length) Slot.unset).toArray = ls at hl ⊢
  have hl : lv_has ls 7 [(0, .ref h0), (1, .long a1), (3, .long a2), (5, .long a3)] := hl
  unfold f_X0_put at hr
  refine lv_aload_n hx hb dX0_put_0 rfl (lv_at hl 0 rfl) ?_
  refine lv_lload_n hx hb dX0_put_1 rfl (lv_at hl 1 rfl) ?_
  refine va_put (D := (dC, dI)) (ci := 0) (v := .long a1) (ty := .long) (C := RX0) (T := TX0) (N := 5) hx hb hts in_X0_put_X0 tyX0 tyX0_ok nmX0 hown hK hP hD hS 0 rfl rfl 0 (by decide) (hts (.fieldLink RX0 9 "FormRing$Form" "a" "J") (by decide +kernel)) (fun _ h9 => h9) rfl (by decide +kernel) rfl rfl (Nat.le_of_ble_eq_true rfl) dX0_put_2 (fun H locs hP hD hS => ?_)
  have hP : va_P (dC, dI) vwCl [(h0, .inr (0, [.long a1, .long v1, .long v2, .long v3, .long v4]))] H := hP
  have hD : va_D A [(h0, .inr (0, [.long a1, .long v1, .long v2, .long v3, .long v4]))] := hD
  refine lv_aload_n hx hb dX0_put_5 rfl (lv_at hl 0 rfl) ?_
  refine lv_lload_n hx hb dX0_put_6 rfl (lv_at hl 2 rfl) ?_
  refine va_put (D := (dC, dI)) (ci := 0) (v := .long a2) (ty := .long) (C := RX0) (T := TX0) (N := 5) hx hb hts in_X0_put_X0 tyX0 tyX0_ok nmX0 hown hK hP hD hS 0 rfl rfl 1 (by decide) (hts (.fieldLink RX0 15 "FormRing$Form" "b" "J") (by decide +kernel)) (fun _ h9 => h9) rfl (by decide +kernel) rfl rfl (Nat.le_of_ble_eq_true rfl) dX0_put_7 (fun H locs hP hD hS => ?_)
  have hP : va_P (dC, dI) vwCl [(h0, .inr (0, [.long a1, .long a2, .long v2, .long v3, .long v4]))] H := hP
  have hD : va_D A [(h0, .inr (0, [.long a1, .long a2, .long v2, .long v3, .long v4]))] := hD
  refine lv_aload_n hx hb dX0_put_10 rfl (lv_at hl 0 rfl) ?_
  refine lv_lload hx hb dX0_put_11 (lv_at hl 3 rfl) ?_
  refine va_put (D := (dC, dI)) (ci := 0) (v := .long a3) (ty := .long) (C := RX0) (T := TX0) (N := 5) hx hb hts in_X0_put_X0 tyX0 tyX0_ok nmX0 hown hK hP hD hS 0 rfl rfl 2 (by decide) (hts (.fieldLink RX0 18 "FormRing$Form" "c" "J") (by decide +kernel)) (fun _ h9 => h9) rfl (by decide +kernel) rfl rfl (Nat.le_of_ble_eq_true rfl) dX0_put_13 (fun H locs hP hD hS => ?_)
  have hP : va_P (dC, dI) vwCl [(h0, .inr (0, [.long a1, .long a2, .long a3, .long v3, .long v4]))] H := hP
  have hD : va_D A [(h0, .inr (0, [.long a1, .long a2, .long a3, .long v3, .long v4]))] := hD
  refine lv_aload_n hx hb dX0_put_16 rfl (lv_at hl 0 rfl) ?_
  refine lv_lload_n hx hb dX0_put_17 rfl (lv_at hl 1 rfl) ?_
  refine lv_lload_n hx hb dX0_put_18 rfl (lv_at hl 2 rfl) ?_
  refine lv_lload hx hb dX0_put_19 (lv_at hl 3 rfl) ?_
  cases e_1 : f_X2_discriminantOf n a1 a2 a3 with
  | none => rw [e_1, Option.bind_none] at hr; cases hr
  | some r_2 =>
    rw [e_1, Option.bind_some] at hr
    have hPc := hP.sub (ws' := []) [] rfl
    have hDc := hD.sub (ws' := []) [] (by decide) rfl
    have hKc := hK.sub (tys' := []) [] rfl
    have hFc := va_free (wc := []) hD hS hA [] rfl
    refine va_calll (va_runSN (As := [.long a1, .long a2, .long a3]) (rest := [.ref h0]) ⟨hx, hb, hml, hown, hts⟩ (c_X2_discriminantOf l dC dI H.size  a1 a2 a3 n _ e_1) ⟨va_cnB 3 hts gX0_put_X2_discriminantOf_n21 rfl rfl rfl hN.1 (hts (.initialized RX2) (by decide +kernel)) (by decide +kernel) ⟨Nat.le_of_ble_eq_true rfl, Nat.le_of_ble_eq_true rfl⟩, hts (.static yX2_discriminantOf) (by decide +kernel), trivial⟩ ⟨fun a U g mk q => by obtain ⟨q0, q1, qP, qK, qD⟩ := q; exact ⟨q0, q1, qP, va_K.moved (u := U) (U := U.calling g mk a) (Vm.Alike.refl U.vm) qK, qD⟩, fun U hU hW => ⟨rfl, by rw [hU], by rw [hU]; exact hPc, va_K.moved hW.alike hKc, hDc.weaken (fun _ _ _ _ => trivial)⟩⟩ rfl rfl hl.1 rfl (lv_room (Nat.le_of_ble_eq_true rfl)) dX0_put_21 ⟨Nat.zero_le _, Nat.zero_le _⟩) hS (fun q _ h => hFc q h) hFc (fun x_3 _ t H1 locs ht hvm hw hB hz1 hk1 hS => ?_)
    have hw := hw.symm
    subst hw
    obtain ⟨hP1, hK1, hD1⟩ := hB
    rw [ht] at hP1
    obtain ⟨hP, hD⟩ := va_join (wr := [(h0, .inr (0, [.long a1, .long a2, .long a3, .long v3, .long v4]))]) (w1 := []) hP hD [] [0] rfl rfl (by decide) (by decide) hk1 hFc hP1 hD1
    generalize H1 = H at hP hS ⊢
    have hP : va_P (dC, dI) vwCl [(h0, .inr (0, [.long a1, .long a2, .long a3, .long v3, .long v4]))] H := hP
    have hD : va_D A [(h0, .inr (0, [.long a1, .long a2, .long a3, .long v3, .long v4]))] := hD
    refine W.widen (k := 0) (n := 0) (Nat.le_refl _) (Nat.le_refl _) ?_
    refine va_put (D := (dC, dI)) (ci := 0) (v := .long r_2) (ty := .long) (C := RX0) (T := TX0) (N := 5) hx hb hts in_X0_put_X0 tyX0 tyX0_ok nmX0 hown hK hP hD hS 0 rfl rfl 3 (by decide) (hts (.fieldLink RX0 25 "FormRing$Form" "discriminant" "J") (by decide +kernel)) (fun _ h9 => h9) rfl (by decide +kernel) rfl rfl (Nat.le_of_ble_eq_true rfl) dX0_put_24 (fun H locs hP hD hS => ?_)
    have hP : va_P (dC, dI) vwCl [(h0, .inr (0, [.long a1, .long a2, .long a3, .long r_2, .long v4]))] H := hP
    have hD : va_D A [(h0, .inr (0, [.long a1, .long a2, .long a3, .long r_2, .long v4]))] := hD
    refine lv_aload_n hx hb dX0_put_27 rfl (lv_at hl 0 rfl) ?_
    refine lv_aload_n hx hb dX0_put_28 rfl (lv_at hl 0 rfl) ?_
    refine va_get (D := (dC, dI)) (ci := 0) (v := .long r_2) (C := RX0) (T := TX0) (N := 5) hx hb hts in_X0_put_X0 hown hK hP 0 rfl rfl 3 (by decide) (hts (.fieldLink RX0 25 "FormRing$Form" "discriminant" "J") (by decide +kernel)) (fun _ h9 => h9) rfl dX0_put_29 ?_
    cases e_4 : f_X2_wholeRoot n r_2 with
    | none => rw [e_4, Option.bind_none] at hr; cases hr
    | some r_5 =>
      rw [e_4, Option.bind_some] at hr
      have hPc := hP.sub (ws' := []) [] rfl
      have hDc := hD.sub (ws' := []) [] (by decide) rfl
      have hKc := hK.sub (tys' := []) [] rfl
      have hFc := va_free (wc := []) hD hS hA [] rfl
      refine va_calll (va_runSN (As := [.long r_2]) (rest := [.ref h0]) ⟨hx, hb, hml, hown, hts⟩ (c_X2_wholeRoot l dC dI H.size  r_2 n _ e_4) ⟨va_cnB 1 hts gX0_put_X2_wholeRoot_n28 rfl rfl rfl hN.2 (hts (.initialized RX2) (by decide +kernel)) (by decide +kernel) ⟨Nat.le_of_ble_eq_true rfl, Nat.le_of_ble_eq_true rfl⟩, hts (.static yX2_wholeRoot) (by decide +kernel), trivial⟩ ⟨fun a U g mk q => by obtain ⟨q0, q1, qP, qK, qD⟩ := q; exact ⟨q0, q1, qP, va_K.moved (u := U) (U := U.calling g mk a) (Vm.Alike.refl U.vm) qK, qD⟩, fun U hU hW => ⟨rfl, by rw [hU], by rw [hU]; exact hPc, va_K.moved hW.alike hKc, hDc.weaken (fun _ _ _ _ => trivial)⟩⟩ rfl rfl hl.1 rfl (lv_room (Nat.le_of_ble_eq_true rfl)) dX0_put_32 ⟨Nat.zero_le _, Nat.zero_le _⟩) hS (fun q _ h => hFc q h) hFc (fun x_6 _ t H1 locs ht hvm hw hB hz1 hk1 hS => ?_)
      have hw := hw.symm
      subst hw
      obtain ⟨hP1, hK1, hD1⟩ := hB
      rw [ht] at hP1
      obtain ⟨hP, hD⟩ := va_join (wr := [(h0, .inr (0, [.long a1, .long a2, .long a3, .long r_2, .long v4]))]) (w1 := []) hP hD [] [0] rfl rfl (by decide) (by decide) hk1 hFc hP1 hD1
      generalize H1 = H at hP hS ⊢
      have hP : va_P (dC, dI) vwCl [(h0, .inr (0, [.long a1, .long a2, .long a3, .long r_2, .long v4]))] H := hP
      have hD : va_D A [(h0, .inr (0, [.long a1, .long a2, .long a3, .long r_2, .long v4]))] := hD
      refine W.widen (k := 0) (n := 0) (Nat.le_refl _) (Nat.le_refl _) ?_
      refine va_put (D := (dC, dI)) (ci := 0) (v := .long r_5) (ty := .long) (C := RX0) (T := TX0) (N := 5) hx hb hts in_X0_put_X0 tyX0 tyX0_ok nmX0 hown hK hP hD hS 0 rfl rfl 4 (by decide) (hts (.fieldLink RX0 32 "FormRing$Form" "root" "J") (by decide +kernel)) (fun _ h9 => h9) rfl (by decide +kernel) rfl rfl (Nat.le_of_ble_eq_true rfl) dX0_put_35 (fun H locs hP hD hS => ?_)
      have hP : va_P (dC, dI) vwCl [(h0, .inr (0, [.long a1, .long a2, .long a3, .long r_2, .long r_5]))] H := hP
      have hD : va_D A [(h0, .inr (0, [.long a1, .long a2, .long a3, .long r_2, .long r_5]))] := hD
      have ho := Option.some.inj hr
      subst ho
      exact W.vret hx hb hrt (fun t ht hW => ⟨⟨(), rfl, trivial, by rw [ht]; exact hP, va_K.moved hW.alike hK, hD⟩, hS.F ht⟩) hS.2.2 dX0_put_38
