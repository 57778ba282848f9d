def f_X3_canBeTaken (n : Nat) (a1 : Int64) (a2 : Int64) (a3 : Int64) : Option (Int32) := (f_X3_in n a1 (-1073741824) 1073741824).bind (fun r_2 => if r_2 = 0 then (some 0) else ((f_X3_in n a2 (-1073741824) 1073741824).bind (fun r_7 => if r_7 = 0 then (some 0) else ((f_X3_in n a3 (-1073741824) 1073741824).bind (fun r_12 => if r_12 = 0 then (some 0) else ((f_X3_discriminant n a1 a2 a3).bind (fun r_17 => (f_X3_in n r_17 (-1048576) 1048576).bind (fun r_20 => if r_20 = 0 then (some 0) else (if r_17 < 0 then (if 0 < a1 then (some 1) else (some 0)) else ((f_X3_wholeRoot n r_17).bind (fun r_26 => (f_X3_wholeRoot n r_17).bind (fun r_26 => if (r_26 * r_26) = r_17 then (some 0) else (some 1)))))))))))))
set_option maxHeartbeats 4000000 in
set_option maxRecDepth 100000 in
theorem c_X3_canBeTaken (l : Launch) (dC : Nat → ClassId) (dI : Nat → Nat → Nat) (sz : Nat)  (a1 : Int64) (a2 : Int64) (a3 : Int64)  (n : Nat) (out : Int32) (hr : f_X3_canBeTaken n a1 a2 a3 = some out) : Met l yX3_canBeTaken wsX3_canBeTaken ({ frames := 1, cells := 0, slots := 0, locals := 25 }) (va_Pc [.long a1, .long a2, .long a3] (zP dC dI [] [] sz)) (va_Qi (fun r (_ : Unit) => r = out ∧ narrow .boolean (.int r) = .int r) (fun (_ : Unit) t => zB dC dI [] (va_A [] sz) [] t) (va_A [] sz)) 0 0 (va_A [] sz) := by
  refine Met.ofW (cc := cX3_canBeTaken) (maxL := 8) (ret := (some .boolean)) (by decide) rfl ?_
  intro p e s m args below meth c s₁ B hml hv
  obtain ⟨rfl, hsz, hP, hK, hD0⟩ := hv
  have hx := B.exec
  have hb := B.bytes
  have hrt := B.returns
  have hts := atoms_spec (ws := wsX3_canBeTaken) B.pre
  have hown : s.vm.findClass RX3 = some m.cls := findClass_of_methodNamed B.named
  have hlocks := B.notSynchronized
  subst hsz
  have hD := hD0.self (sz := s.heap.size)
  generalize hAe : va_A [] s.heap.size = A at hD ⊢
  have hA : ∀ q : Nat, s.heap.size ≤ q → A q := fun q h => by rw [← hAe]; exact Or.inr h
  have hS : va_S A s.heap s.heap [] := va_S.rf
  have hP : va_P (dC, dI) vwCl [] s.heap := hP
  have hl := lv_entry ([.long a1, .long a2, .long a3]) (n := 8) (Nat.le_of_ble_eq_true rfl)
  rw [lg_entry_eq]
  generalize (lg_sl ([.long a1, .long a2, .long a3]) ++ List.replicate (8 - (lg_sl ([.long a1, .long a2, .long a3])).length) Slot.unset).toArray = ls at hl ⊢
  have hl : lv_has ls 8 [(0, .long a1), (2, .long a2), (4, .long a3)] := hl
  unfold f_X3_canBeTaken at hr
  refine lv_lload_n hx hb dX3_canBeTaken_0 rfl (lv_at hl 0 rfl) ?_
  refine lv_ldc2 (v := (-1073741824)) hx hb hown (hts (.constantLong RX3 49 (-1073741824)) (by decide +kernel)) dX3_canBeTaken_1 ?_
  refine lv_ldc2 (v := 1073741824) hx hb hown (hts (.constantLong RX3 51 (1073741824)) (by decide +kernel)) dX3_canBeTaken_4 ?_
  cases e_1 : f_X3_in n a1 (-1073741824) 1073741824 with
  | none => rw [e_1, Option.bind_none] at hr; cases hr
  | some r_2 =>
    rw [e_1, Option.bind_some] at hr
    have hPc := hP.sub (ws' := []) [] rfl
    have hDc := hD.sub (ws' := []) [] (by decide) rfl
    have hKc := hK.sub (tys' := []) [] rfl
    have hFc := va_free (wc := []) hD hS hA [] rfl
    refine va_calli (va_runS (As := [.long a1, .long (-1073741824), .long 1073741824]) (rest := []) ⟨hx, hb, hml, hown, hts⟩ (c_X3_in l dC dI s.heap.size  a1 (-1073741824) 1073741824 n _ e_1) (va_cwS 3 hts gX3_canBeTaken_X3_in rfl rfl rfl (by decide +kernel) ⟨Nat.le_of_ble_eq_true rfl, Nat.le_of_ble_eq_true rfl⟩) ⟨fun a U g mk q => by obtain ⟨q0, q1, qP, qK, qD⟩ := q; exact ⟨q0, q1, qP, va_K.moved (u := U) (U := U.calling g mk a) (Vm.Alike.refl U.vm) qK, qD⟩, fun U hU hW => ⟨rfl, by rw [hU], by rw [hU]; exact hPc, va_K.moved hW.alike hKc, hDc.weaken (fun _ _ _ _ => trivial)⟩⟩ rfl rfl hl.1 rfl (lv_room (Nat.le_of_ble_eq_true rfl)) dX3_canBeTaken_7 ⟨Nat.zero_le _, Nat.zero_le _⟩) hS (fun q _ h => hFc q h) hFc (fun x_3 _ t H1 locs ht hvm hw hB hz1 hk1 hS => ?_)
    obtain ⟨hw, z_4⟩ := hw
    have hw := hw.symm
    subst hw
    obtain ⟨hP1, hK1, hD1⟩ := hB
    rw [ht] at hP1
    obtain ⟨hP, hD⟩ := va_join (wr := []) (w1 := []) hP hD [] [] rfl rfl (by decide) (by decide) hk1 hFc hP1 hD1
    generalize H1 = H at hP hS ⊢
    have hP : va_P (dC, dI) vwCl [] H := hP
    have hD : va_D A [] := hD
    refine W.widen (k := 0) (n := 0) (Nat.le_refl _) (Nat.le_refl _) ?_
    refine lz_zeq (tgt := 40) hx hb dX3_canBeTaken_10 (by decide) (fun c_5 => ?_) (fun c_5 => ?_)
    · have hr := (if_pos c_5).symm.trans hr
      refine lv_iconst (v := 0) hx hb dX3_canBeTaken_40 (by decide) ?_
      have ho := Option.some.inj hr
      subst ho
      exact W.zret (v := 0) hx hb hrt rfl (fun t ht hW => ⟨⟨0, (), rfl, ⟨rfl, rfl⟩, by rw [ht]; exact hP, va_K.moved hW.alike hK, hD⟩, hS.F ht⟩) hS.2.2 dX3_canBeTaken_41
    · have hr := (if_neg c_5).symm.trans hr
      refine lv_lload_n hx hb dX3_canBeTaken_13 rfl (lv_at hl 1 rfl) ?_
      refine lv_ldc2 (v := (-1073741824)) hx hb hown (hts (.constantLong RX3 49 (-1073741824)) (by decide +kernel)) dX3_canBeTaken_14 ?_
      refine lv_ldc2 (v := 1073741824) hx hb hown (hts (.constantLong RX3 51 (1073741824)) (by decide +kernel)) dX3_canBeTaken_17 ?_
      cases e_6 : f_X3_in n a2 (-1073741824) 1073741824 with
      | none => rw [e_6, Option.bind_none] at hr; cases hr
      | some r_7 =>
        rw [e_6, Option.bind_some] at hr
        have hPc := hP.sub (ws' := []) [] rfl
        have hDc := hD.sub (ws' := []) [] (by decide) rfl
        have hKc := hK.sub (tys' := []) [] rfl
        have hFc := va_free (wc := []) hD hS hA [] rfl
        refine va_calli (va_runS (As := [.long a2, .long (-1073741824), .long 1073741824]) (rest := []) ⟨hx, hb, hml, hown, hts⟩ (c_X3_in l dC dI H.size  a2 (-1073741824) 1073741824 n _ e_6) (va_cwS 3 hts gX3_canBeTaken_X3_in rfl rfl rfl (by decide +kernel) ⟨Nat.le_of_ble_eq_true rfl, Nat.le_of_ble_eq_true rfl⟩) ⟨fun a U g mk q => by obtain ⟨q0, q1, qP, qK, qD⟩ := q; exact ⟨q0, q1, qP, va_K.moved (u := U) (U := U.calling g mk a) (Vm.Alike.refl U.vm) qK, qD⟩, fun U hU hW => ⟨rfl, by rw [hU], by rw [hU]; exact hPc, va_K.moved hW.alike hKc, hDc.weaken (fun _ _ _ _ => trivial)⟩⟩ rfl rfl hl.1 rfl (lv_room (Nat.le_of_ble_eq_true rfl)) dX3_canBeTaken_20 ⟨Nat.zero_le _, Nat.zero_le _⟩) hS (fun q _ h => hFc q h) hFc (fun x_8 _ t H1 locs ht hvm hw hB hz1 hk1 hS => ?_)
        obtain ⟨hw, z_9⟩ := hw
        have hw := hw.symm
        subst hw
        obtain ⟨hP1, hK1, hD1⟩ := hB
        rw [ht] at hP1
        obtain ⟨hP, hD⟩ := va_join (wr := []) (w1 := []) hP hD [] [] rfl rfl (by decide) (by decide) hk1 hFc hP1 hD1
        generalize H1 = H at hP hS ⊢
        have hP : va_P (dC, dI) vwCl [] H := hP
        have hD : va_D A [] := hD
        refine W.widen (k := 0) (n := 0) (Nat.le_refl _) (Nat.le_refl _) ?_
        refine lz_zeq (tgt := 40) hx hb dX3_canBeTaken_23 (by decide) (fun c_10 => ?_) (fun c_10 => ?_)
        · have hr := (if_pos c_10).symm.trans hr
          refine lv_iconst (v := 0) hx hb dX3_canBeTaken_40 (by decide) ?_
          have ho := Option.some.inj hr
          subst ho
          exact W.zret (v := 0) hx hb hrt rfl (fun t ht hW => ⟨⟨0, (), rfl, ⟨rfl, rfl⟩, by rw [ht]; exact hP, va_K.moved hW.alike hK, hD⟩, hS.F ht⟩) hS.2.2 dX3_canBeTaken_41
        · have hr := (if_neg c_10).symm.trans hr
          refine lv_lload hx hb dX3_canBeTaken_26 (lv_at hl 2 rfl) ?_
          refine lv_ldc2 (v := (-1073741824)) hx hb hown (hts (.constantLong RX3 49 (-1073741824)) (by decide +kernel)) dX3_canBeTaken_28 ?_
          refine lv_ldc2 (v := 1073741824) hx hb hown (hts (.constantLong RX3 51 (1073741824)) (by decide +kernel)) dX3_canBeTaken_31 ?_
          cases e_11 : f_X3_in n a3 (-1073741824) 1073741824 with
          | none => rw [e_11, Option.bind_none] at hr; cases hr
          | some r_12 =>
            rw [e_11, Option.bind_some] at hr
            have hPc := hP.sub (ws' := []) [] rfl
            have hDc := hD.sub (ws' := []) [] (by decide) rfl
            have hKc := hK.sub (tys' := []) [] rfl
            have hFc := va_free (wc := []) hD hS hA [] rfl
            refine va_calli (va_runS (As := [.long a3, .long (-1073741824), .long 1073741824]) (rest := []) ⟨hx, hb, hml, hown, hts⟩ (c_X3_in l dC dI H.size  a3 (-1073741824) 1073741824 n _ e_11) (va_cwS 3 hts gX3_canBeTaken_X3_in rfl rfl rfl (by decide +kernel) ⟨Nat.le_of_ble_eq_true rfl, Nat.le_of_ble_eq_true rfl⟩) ⟨fun a U g mk q => by obtain ⟨q0, q1, qP, qK, qD⟩ := q; exact ⟨q0, q1, qP, va_K.moved (u := U) (U := U.calling g mk a) (Vm.Alike.refl U.vm) qK, qD⟩, fun U hU hW => ⟨rfl, by rw [hU], by rw [hU]; exact hPc, va_K.moved hW.alike hKc, hDc.weaken (fun _ _ _ _ => trivial)⟩⟩ rfl rfl hl.1 rfl (lv_room (Nat.le_of_ble_eq_true rfl)) dX3_canBeTaken_34 ⟨Nat.zero_le _, Nat.zero_le _⟩) hS (fun q _ h => hFc q h) hFc (fun x_13 _ t H1 locs ht hvm hw hB hz1 hk1 hS => ?_)
            obtain ⟨hw, z_14⟩ := hw
            have hw := hw.symm
            subst hw
            obtain ⟨hP1, hK1, hD1⟩ := hB
            rw [ht] at hP1
            obtain ⟨hP, hD⟩ := va_join (wr := []) (w1 := []) hP hD [] [] rfl rfl (by decide) (by decide) hk1 hFc hP1 hD1
            generalize H1 = H at hP hS ⊢
            have hP : va_P (dC, dI) vwCl [] H := hP
            have hD : va_D A [] := hD
            refine W.widen (k := 0) (n := 0) (Nat.le_refl _) (Nat.le_refl _) ?_
            refine lz_zne (tgt := 42) hx hb dX3_canBeTaken_37 (by decide) (fun c_15 => ?_) (fun c_15 => ?_)
            · have hr := (if_neg c_15).symm.trans hr
              refine lv_lload_n hx hb dX3_canBeTaken_42 rfl (lv_at hl 0 rfl) ?_
              refine lv_lload_n hx hb dX3_canBeTaken_43 rfl (lv_at hl 1 rfl) ?_
              refine lv_lload hx hb dX3_canBeTaken_44 (lv_at hl 2 rfl) ?_
              cases e_16 : f_X3_discriminant n a1 a2 a3 with
              | none => rw [e_16, Option.bind_none] at hr; cases hr
              | some r_17 =>
                rw [e_16, Option.bind_some] at hr
                have hPc := hP.sub (ws' := []) [] rfl
                have hDc := hD.sub (ws' := []) [] (by decide) rfl
                have hKc := hK.sub (tys' := []) [] rfl
                have hFc := va_free (wc := []) hD hS hA [] rfl
                refine va_calll (va_runS (As := [.long a1, .long a2, .long a3]) (rest := []) ⟨hx, hb, hml, hown, hts⟩ (c_X3_discriminant l dC dI H.size  a1 a2 a3 n _ e_16) (va_cwS 3 hts gX3_canBeTaken_X3_discriminant rfl rfl rfl (by decide +kernel) ⟨Nat.le_of_ble_eq_true rfl, Nat.le_of_ble_eq_true rfl⟩) ⟨fun a U g mk q => by obtain ⟨q0, q1, qP, qK, qD⟩ := q; exact ⟨q0, q1, qP, va_K.moved (u := U) (U := U.calling g mk a) (Vm.Alike.refl U.vm) qK, qD⟩, fun U hU hW => ⟨rfl, by rw [hU], by rw [hU]; exact hPc, va_K.moved hW.alike hKc, hDc.weaken (fun _ _ _ _ => trivial)⟩⟩ rfl rfl hl.1 rfl (lv_room (Nat.le_of_ble_eq_true rfl)) dX3_canBeTaken_46 ⟨Nat.zero_le _, Nat.zero_le _⟩) hS (fun q _ h => hFc q h) hFc (fun x_18 _ t H1 locs ht hvm hw hB hz1 hk1 hS => ?_)
                have hw := hw.symm
                subst hw
                obtain ⟨hP1, hK1, hD1⟩ := hB
                rw [ht] at hP1
                obtain ⟨hP, hD⟩ := va_join (wr := []) (w1 := []) hP hD [] [] rfl rfl (by decide) (by decide) hk1 hFc hP1 hD1
                generalize H1 = H at hP hS ⊢
                have hP : va_P (dC, dI) vwCl [] H := hP
                have hD : va_D A [] := hD
                refine W.widen (k := 0) (n := 0) (Nat.le_refl _) (Nat.le_refl _) ?_
                refine lv_lstore (lv' := [(6, .long r_17), (0, .long a1), (2, .long a2), (4, .long a3)]) hx hb dX3_canBeTaken_49 hl (by decide) rfl (fun ls hl => ?_)
                refine lv_lload hx hb dX3_canBeTaken_51 (lv_at hl 0 rfl) ?_
                refine lv_ldc2 (v := (-1048576)) hx hb hown (hts (.constantLong RX3 61 (-1048576)) (by decide +kernel)) dX3_canBeTaken_53 ?_
                refine lv_ldc2 (v := 1048576) hx hb hown (hts (.constantLong RX3 63 (1048576)) (by decide +kernel)) dX3_canBeTaken_56 ?_
                cases e_19 : f_X3_in n r_17 (-1048576) 1048576 with
                | none => rw [e_19, Option.bind_none] at hr; cases hr
                | some r_20 =>
                  rw [e_19, Option.bind_some] at hr
                  have hPc := hP.sub (ws' := []) [] rfl
                  have hDc := hD.sub (ws' := []) [] (by decide) rfl
                  have hKc := hK.sub (tys' := []) [] rfl
                  have hFc := va_free (wc := []) hD hS hA [] rfl
                  refine va_calli (va_runS (As := [.long r_17, .long (-1048576), .long 1048576]) (rest := []) ⟨hx, hb, hml, hown, hts⟩ (c_X3_in l dC dI H.size  r_17 (-1048576) 1048576 n _ e_19) (va_cwS 3 hts gX3_canBeTaken_X3_in rfl rfl rfl (by decide +kernel) ⟨Nat.le_of_ble_eq_true rfl, Nat.le_of_ble_eq_true rfl⟩) ⟨fun a U g mk q => by obtain ⟨q0, q1, qP, qK, qD⟩ := q; exact ⟨q0, q1, qP, va_K.moved (u := U) (U := U.calling g mk a) (Vm.Alike.refl U.vm) qK, qD⟩, fun U hU hW => ⟨rfl, by rw [hU], by rw [hU]; exact hPc, va_K.moved hW.alike hKc, hDc.weaken (fun _ _ _ _ => trivial)⟩⟩ rfl rfl hl.1 rfl (lv_room (Nat.le_of_ble_eq_true rfl)) dX3_canBeTaken_59 ⟨Nat.zero_le _, Nat.zero_le _⟩) hS (fun q _ h => hFc q h) hFc (fun x_21 _ t H1 locs ht hvm hw hB hz1 hk1 hS => ?_)
                  obtain ⟨hw, z_22⟩ := hw
                  have hw := hw.symm
                  subst hw
                  obtain ⟨hP1, hK1, hD1⟩ := hB
                  rw [ht] at hP1
                  obtain ⟨hP, hD⟩ := va_join (wr := []) (w1 := []) hP hD [] [] rfl rfl (by decide) (by decide) hk1 hFc hP1 hD1
                  generalize H1 = H at hP hS ⊢
                  have hP : va_P (dC, dI) vwCl [] H := hP
                  have hD : va_D A [] := hD
                  refine W.widen (k := 0) (n := 0) (Nat.le_refl _) (Nat.le_refl _) ?_
                  refine lz_zne (tgt := 67) hx hb dX3_canBeTaken_62 (by decide) (fun c_23 => ?_) (fun c_23 => ?_)
                  · have hr := (if_neg c_23).symm.trans hr
                    refine lv_lload hx hb dX3_canBeTaken_67 (lv_at hl 0 rfl) ?_
                    refine lv_lconst (v := 0) hx hb dX3_canBeTaken_69 (by decide) ?_
                    refine lz_lge (tgt := 88) hx hb dX3_canBeTaken_70 dX3_canBeTaken_71 (by decide) (fun c_24 => ?_) (fun c_24 => ?_)
                    · have hr := (if_neg c_24).symm.trans hr
                      refine lv_lload hx hb dX3_canBeTaken_88 (lv_at hl 0 rfl) ?_
                      cases e_25 : f_X3_wholeRoot n r_17 with
                      | none => rw [e_25, Option.bind_none] at hr; cases hr
                      | some r_26 =>
                        rw [e_25, Option.bind_some] at hr
                        have hPc := hP.sub (ws' := []) [] rfl
                        have hDc := hD.sub (ws' := []) [] (by decide) rfl
                        have hKc := hK.sub (tys' := []) [] rfl
                        have hFc := va_free (wc := []) hD hS hA [] rfl
                        refine va_calll (va_runS (As := [.long r_17]) (rest := []) ⟨hx, hb, hml, hown, hts⟩ (c_X3_wholeRoot l dC dI H.size  r_17 n _ e_25) (va_cwS 1 hts gX3_canBeTaken_X3_wholeRoot rfl rfl rfl (by decide +kernel) ⟨Nat.le_of_ble_eq_true rfl, Nat.le_of_ble_eq_true rfl⟩) ⟨fun a U g mk q => by obtain ⟨q0, q1, qP, qK, qD⟩ := q; exact ⟨q0, q1, qP, va_K.moved (u := U) (U := U.calling g mk a) (Vm.Alike.refl U.vm) qK, qD⟩, fun U hU hW => ⟨rfl, by rw [hU], by rw [hU]; exact hPc, va_K.moved hW.alike hKc, hDc.weaken (fun _ _ _ _ => trivial)⟩⟩ rfl rfl hl.1 rfl (lv_room (Nat.le_of_ble_eq_true rfl)) dX3_canBeTaken_90 ⟨Nat.zero_le _, Nat.zero_le _⟩) hS (fun q _ h => hFc q h) hFc (fun x_27 _ t H1 locs ht hvm hw hB hz1 hk1 hS => ?_)
                        have hw := hw.symm
                        subst hw
                        obtain ⟨hP1, hK1, hD1⟩ := hB
                        rw [ht] at hP1
                        obtain ⟨hP, hD⟩ := va_join (wr := []) (w1 := []) hP hD [] [] rfl rfl (by decide) (by decide) hk1 hFc hP1 hD1
                        generalize H1 = H at hP hS ⊢
                        have hP : va_P (dC, dI) vwCl [] H := hP
                        have hD : va_D A [] := hD
                        refine W.widen (k := 0) (n := 0) (Nat.le_refl _) (Nat.le_refl _) ?_
                        refine lv_lload hx hb dX3_canBeTaken_93 (lv_at hl 0 rfl) ?_
                        rw [Option.bind_some] at hr
                        have hPc := hP.sub (ws' := []) [] rfl
                        have hDc := hD.sub (ws' := []) [] (by decide) rfl
                        have hKc := hK.sub (tys' := []) [] rfl
                        have hFc := va_free (wc := []) hD hS hA [] rfl
                        refine va_calll (va_runS (As := [.long r_17]) (rest := [.long r_26]) ⟨hx, hb, hml, hown, hts⟩ (c_X3_wholeRoot l dC dI H.size  r_17 n _ e_25) (va_cwS 1 hts gX3_canBeTaken_X3_wholeRoot rfl rfl rfl (by decide +kernel) ⟨Nat.le_of_ble_eq_true rfl, Nat.le_of_ble_eq_true rfl⟩) ⟨fun a U g mk q => by obtain ⟨q0, q1, qP, qK, qD⟩ := q; exact ⟨q0, q1, qP, va_K.moved (u := U) (U := U.calling g mk a) (Vm.Alike.refl U.vm) qK, qD⟩, fun U hU hW => ⟨rfl, by rw [hU], by rw [hU]; exact hPc, va_K.moved hW.alike hKc, hDc.weaken (fun _ _ _ _ => trivial)⟩⟩ rfl rfl hl.1 rfl (lv_room (Nat.le_of_ble_eq_true rfl)) dX3_canBeTaken_95 ⟨Nat.zero_le _, Nat.zero_le _⟩) hS (fun q _ h => hFc q h) hFc (fun x_30 _ t H1 locs ht hvm hw hB hz1 hk1 hS => ?_)
                        have hw := hw.symm
                        subst hw
                        obtain ⟨hP1, hK1, hD1⟩ := hB
                        rw [ht] at hP1
                        obtain ⟨hP, hD⟩ := va_join (wr := []) (w1 := []) hP hD [] [] rfl rfl (by decide) (by decide) hk1 hFc hP1 hD1
                        generalize H1 = H at hP hS ⊢
                        have hP : va_P (dC, dI) vwCl [] H := hP
                        have hD : va_D A [] := hD
                        refine W.widen (k := 0) (n := 0) (Nat.le_refl _) (Nat.le_refl _) ?_
                        refine lv_lmul hx hb dX3_canBeTaken_98 ?_
                        refine lv_lload hx hb dX3_canBeTaken_99 (lv_at hl 0 rfl) ?_
                        refine lz_leq (tgt := 109) hx hb dX3_canBeTaken_101 dX3_canBeTaken_102 (by decide) (fun c_31 => ?_) (fun c_31 => ?_)
                        · have hr := (if_pos c_31).symm.trans hr
                          refine lv_iconst (v := 0) hx hb dX3_canBeTaken_109 (by decide) ?_
                          have ho := Option.some.inj hr
                          subst ho
                          exact W.zret (v := 0) hx hb hrt rfl (fun t ht hW => ⟨⟨0, (), rfl, ⟨rfl, rfl⟩, by rw [ht]; exact hP, va_K.moved hW.alike hK, hD⟩, hS.F ht⟩) hS.2.2 dX3_canBeTaken_110
                        · have hr := (if_neg c_31).symm.trans hr
                          refine lv_iconst (v := 1) hx hb dX3_canBeTaken_105 (by decide) ?_
                          refine lv_goto (tgt := 110) hx hb dX3_canBeTaken_106 (by decide) ?_
                          have ho := Option.some.inj hr
                          subst ho
                          exact W.zret (v := 1) hx hb hrt rfl (fun t ht hW => ⟨⟨1, (), rfl, ⟨rfl, rfl⟩, by rw [ht]; exact hP, va_K.moved hW.alike hK, hD⟩, hS.F ht⟩) hS.2.2 dX3_canBeTaken_110
                    · have hr := (if_pos c_24).symm.trans hr
                      refine lv_lload_n hx hb dX3_canBeTaken_74 rfl (lv_at hl 1 rfl) ?_
                      refine lv_lconst (v := 0) hx hb dX3_canBeTaken_75 (by decide) ?_
                      refine lz_lle (tgt := 84) hx hb dX3_canBeTaken_76 dX3_canBeTaken_77 (by decide) (fun c_32 => ?_) (fun c_32 => ?_)
                      · have hr := (if_neg c_32).symm.trans hr
                        refine lv_iconst (v := 0) hx hb dX3_canBeTaken_84 (by decide) ?_
                        refine lv_goto (tgt := 110) hx hb dX3_canBeTaken_85 (by decide) ?_
                        have ho := Option.some.inj hr
                        subst ho
                        exact W.zret (v := 0) hx hb hrt rfl (fun t ht hW => ⟨⟨0, (), rfl, ⟨rfl, rfl⟩, by rw [ht]; exact hP, va_K.moved hW.alike hK, hD⟩, hS.F ht⟩) hS.2.2 dX3_canBeTaken_110
                      · have hr := (if_pos c_32).symm.trans hr
                        refine lv_iconst (v := 1) hx hb dX3_canBeTaken_80 (by decide) ?_
                        refine lv_goto (tgt := 110) hx hb dX3_canBeTaken_81 (by decide) ?_
                        have ho := Option.some.inj hr
                        subst ho
                        exact W.zret (v := 1) hx hb hrt rfl (fun t ht hW => ⟨⟨1, (), rfl, ⟨rfl, rfl⟩, by rw [ht]; exact hP, va_K.moved hW.alike hK, hD⟩, hS.F ht⟩) hS.2.2 dX3_canBeTaken_110
                  · have hr := (if_pos c_23).symm.trans hr
                    refine lv_iconst (v := 0) hx hb dX3_canBeTaken_65 (by decide) ?_
                    have ho := Option.some.inj hr
                    subst ho
                    exact W.zret (v := 0) hx hb hrt rfl (fun t ht hW => ⟨⟨0, (), rfl, ⟨rfl, rfl⟩, by rw [ht]; exact hP, va_K.moved hW.alike hK, hD⟩, hS.F ht⟩) hS.2.2 dX3_canBeTaken_66
            · have hr := (if_pos c_15).symm.trans hr
              refine lv_iconst (v := 0) hx hb dX3_canBeTaken_40 (by decide) ?_
              have ho := Option.some.inj hr
              subst ho
              exact W.zret (v := 0) hx hb hrt rfl (fun t ht hW => ⟨⟨0, (), rfl, ⟨rfl, rfl⟩, by rw [ht]; exact hP, va_K.moved hW.alike hK, hD⟩, hS.F ht⟩) hS.2.2 dX3_canBeTaken_41

theorem in_X3_isReduced_X3 : ∀ w ∈ u_ws RX3 TX3 15, w ∈ wsX3_isReduced := by decide +kernel
def f_X3_isReduced (n : Nat) (v6 : Int64) (v7 : Int64) (v8 : Int64) (a1 : Int64) (a2 : Int64) : Option (Int32) := if a1 < 0 then ((f_X3_size n v7).bind (fun r_13 => if v6 < r_13 then (some 0) else (if v8 < v6 then (some 0) else (if v7 < 0 then (if (-v7) < v6 then (if v6 < v8 then (some 1) else (some 0)) else (some 0)) else (some 1))))) else (if v7 < 1 then (some 0) else (if a2 < v7 then (some 0) else ((f_X3_size n v6).bind (fun r_5 => if a2 < ((2 * r_5) + v7) then ((f_X3_size n v6).bind (fun r_5 => if a2 < ((2 * r_5) - v7) then (some 0) else (some 1))) else (some 0)))))
set_option maxHeartbeats 4000000 in
set_option maxRecDepth 100000 in
theorem c_X3_isReduced (l : Launch) (dC : Nat → ClassId) (dI : Nat → Nat → Nat) (sz : Nat) (h0 : Nat) (h1 : Nat) (cI : ClassId) (v0 : Int32) (v1 : Int64) (v2 : Int64) (v3 : Int64) (v4 : Int64) (v5 : Int64) (v6 : Int64) (v7 : Int64) (v8 : Int64) (v9 : Int64) (v10 : Int64) (v11 : Int64) (v12 : Int64) (v13 : Int32) (vR : Nat → Int32) (a1 : Int64) (a2 : Int64)  (n : Nat) (out : Int32) (hr : f_X3_isReduced n v6 v7 v8 a1 a2 = some out) : Met l yX3_isReduced wsX3_isReduced ({ frames := 1, cells := 0, slots := 0, locals := 21 }) (va_Pc [.ref h0, .long a1, .long a2] (zP dC dI [(cI, .int)] [(h0, .inr (3, [.int v0, .long v1, .long v2, .long v3, .long v4, .long v5, .long v6, .long v7, .long v8, .long v9, .long v10, .long v11, .long v12, .int v13, .ref h1])), (h1, .inl (cI, 6600, .inl vR))] sz)) (va_Qi (fun r (_ : Unit) => r = out ∧ narrow .boolean (.int r) = .int r) (fun (_ : Unit) t => zB dC dI [(cI, .int)] (va_A [(h0, .inr (3, [.int v0, .long v1, .long v2, .long v3, .long v4, .long v5, .long v6, .long v7, .long v8, .long v9, .long v10, .long v11, .long v12, .int v13, .ref h1])), (h1, .inl (cI, 6600, .inl vR))] sz) [(h0, .inr (3, [.int v0, .long v1, .long v2, .long v3, .long v4, .long v5, .long v6, .long v7, .long v8, .long v9, .long v10, .long v11, .long v12, .int v13, .ref h1])), (h1, .inl (cI, 6600, .inl vR))] t) (va_A [(h0, .inr (3, [.int v0, .long v1, .long v2, .long v3, .long v4, .long v5, .long v6, .long v7, .long v8, .long v9, .long v10, .long v11, .long v12, .int v13, .ref h1])), (h1, .inl (cI, 6600, .inl vR))] sz)) 0 0 (va_A [(h0, .inr (3, [.int v0, .long v1, .long v2, .long v3, .long v4, .long v5, .long v6, .long v7, .long v8, .long v9, .long v10, .long v11, .long v12, .int v13, .ref h1])), (h1, .inl (cI, 6600, .inl vR))] sz) := by
  refine Met.ofW (cc := cX3_isReduced) (maxL := 5) (ret := (some .boolean)) (by decide) rfl ?_
  intro p e s m args below meth c s₁ B hml hv
  obtain ⟨rfl, hsz, hP, hK, hD0⟩ := hv
  have hx := B.exec
  have hb := B.bytes
  have hrt := B.returns
  have hts := atoms_spec (ws := wsX3_isReduced) B.pre
  have hown : s.vm.findClass RX3 = some m.cls := findClass_of_methodNamed B.named
  have hlocks := B.notSynchronized
  subst hsz
  have hD := hD0.self (sz := s.heap.size)
  generalize hAe : va_A [(h0, .inr (3, [.int v0, .long v1, .long v2, .long v3, .long v4, .long v5, .long v6, .long v7, .long v8, .long v9, .long v10, .long v11, .long v12, .int v13, .ref h1])), (h1, .inl (cI, 6600, .inl vR))] s.heap.size = A at hD ⊢
  have hA : ∀ q : Nat, s.heap.size ≤ q → A q := fun q h => by rw [← hAe]; exact Or.inr h
  have hS : va_S A s.heap s.heap [] := va_S.rf
  have hP : va_P (dC, dI) vwCl [(h0, .inr (3, [.int v0, .long v1, .long v2, .long v3, .long v4, .long v5, .long v6, .long v7, .long v8, .long v9, .long v10, .long v11, .long v12, .int v13, .ref h1])), (h1, .inl (cI, 6600, .inl vR))] s.heap := hP
  have hl := lv_entry ([.ref h0, .long a1, .long a2]) (n := 5) (Nat.le_of_ble_eq_true rfl)
  rw [lg_entry_eq]
  generalize (lg_sl ([.ref h0, .long a1, .long a2]) ++ List.replicate (5 - (lg_sl ([.ref h0, .long a1, .long a2])).length) Slot.unset).toArray = ls at hl ⊢
  have hl : lv_has ls 5 [(0, .ref h0), (1, .long a1), (3, .long a2)] := hl
  unfold f_X3_isReduced at hr
  refine lv_lload_n hx hb dX3_isReduced_0 rfl (lv_at hl 1 rfl) ?_
  refine lv_lconst (v := 0) hx hb dX3_isReduced_1 (by decide) ?_
  refine lz_lge (tgt := 73) hx hb dX3_isReduced_2 dX3_isReduced_3 (by decide) (fun c_1 => ?_) (fun c_1 => ?_)
  · have hr := (if_neg c_1).symm.trans hr
    refine lv_aload_n hx hb dX3_isReduced_73 rfl (lv_at hl 0 rfl) ?_
    refine va_get (D := (dC, dI)) (ci := 3) (v := .long v7) (C := RX3) (T := TX3) (N := 15) hx hb hts in_X3_isReduced_X3 hown hK hP 0 rfl rfl 7 (by decide) (hts (.fieldLink RX3 72 "FormRingModel" "y" "J") (by decide +kernel)) (fun _ h9 => h9) rfl dX3_isReduced_74 ?_
    refine lv_lconst (v := 1) hx hb dX3_isReduced_77 (by decide) ?_
    refine lz_llt (tgt := 137) hx hb dX3_isReduced_78 dX3_isReduced_79 (by decide) (fun c_2 => ?_) (fun c_2 => ?_)
    · have hr := (if_pos c_2).symm.trans hr
      refine lv_iconst (v := 0) hx hb dX3_isReduced_137 (by decide) ?_
      have ho := Option.some.inj hr
      subst ho
      exact W.zret (v := 0) hx hb hrt rfl (fun t ht hW => ⟨⟨0, (), rfl, ⟨rfl, rfl⟩, by rw [ht]; exact hP, va_K.moved hW.alike hK, hD⟩, hS.F ht⟩) hS.2.2 dX3_isReduced_138
    · have hr := (if_neg c_2).symm.trans hr
      refine lv_aload_n hx hb dX3_isReduced_82 rfl (lv_at hl 0 rfl) ?_
      refine va_get (D := (dC, dI)) (ci := 3) (v := .long v7) (C := RX3) (T := TX3) (N := 15) hx hb hts in_X3_isReduced_X3 hown hK hP 0 rfl rfl 7 (by decide) (hts (.fieldLink RX3 72 "FormRingModel" "y" "J") (by decide +kernel)) (fun _ h9 => h9) rfl dX3_isReduced_83 ?_
      refine lv_lload_n hx hb dX3_isReduced_86 rfl (lv_at hl 2 rfl) ?_
      refine lz_lgt (tgt := 137) hx hb dX3_isReduced_87 dX3_isReduced_88 (by decide) (fun c_3 => ?_) (fun c_3 => ?_)
      · have hr := (if_pos c_3).symm.trans hr
        refine lv_iconst (v := 0) hx hb dX3_isReduced_137 (by decide) ?_
        have ho := Option.some.inj hr
        subst ho
        exact W.zret (v := 0) hx hb hrt rfl (fun t ht hW => ⟨⟨0, (), rfl, ⟨rfl, rfl⟩, by rw [ht]; exact hP, va_K.moved hW.alike hK, hD⟩, hS.F ht⟩) hS.2.2 dX3_isReduced_138
      · have hr := (if_neg c_3).symm.trans hr
        refine lv_ldc2 (v := 2) hx hb hown (hts (.constantLong RX3 81 (2)) (by decide +kernel)) dX3_isReduced_91 ?_
        refine lv_aload_n hx hb dX3_isReduced_94 rfl (lv_at hl 0 rfl) ?_
        refine va_get (D := (dC, dI)) (ci := 3) (v := .long v6) (C := RX3) (T := TX3) (N := 15) hx hb hts in_X3_isReduced_X3 hown hK hP 0 rfl rfl 6 (by decide) (hts (.fieldLink RX3 69 "FormRingModel" "x" "J") (by decide +kernel)) (fun _ h9 => h9) rfl dX3_isReduced_95 ?_
        cases e_4 : f_X3_size n v6 with
        | none => rw [e_4, Option.bind_none] at hr; cases hr
        | some r_5 =>
          rw [e_4, Option.bind_some] at hr
          have hPc := hP.sub (ws' := []) [] rfl
          have hDc := hD.sub (ws' := []) [] (by decide) rfl
          have hKc := hK.sub (tys' := []) [] rfl
          have hFc := va_free (wc := []) hD hS hA [] rfl
          refine va_calll (va_runS (As := [.long v6]) (rest := [.long 2]) ⟨hx, hb, hml, hown, hts⟩ (c_X3_size l dC dI s.heap.size  v6 n _ e_4) (va_cwS 1 hts gX3_isReduced_X3_size rfl rfl rfl (by decide +kernel) ⟨Nat.le_of_ble_eq_true rfl, Nat.le_of_ble_eq_true rfl⟩) ⟨fun a U g mk q => by obtain ⟨q0, q1, qP, qK, qD⟩ := q; exact ⟨q0, q1, qP, va_K.moved (u := U) (U := U.calling g mk a) (Vm.Alike.refl U.vm) qK, qD⟩, fun U hU hW => ⟨rfl, by rw [hU], by rw [hU]; exact hPc, va_K.moved hW.alike hKc, hDc.weaken (fun _ _ _ _ => trivial)⟩⟩ rfl rfl hl.1 rfl (lv_room (Nat.le_of_ble_eq_true rfl)) dX3_isReduced_98 ⟨Nat.zero_le _, Nat.zero_le _⟩) hS (fun q _ h => hFc q h) hFc (fun x_6 _ t H1 locs ht hvm hw hB hz1 hk1 hS => ?_)
          have hw := hw.symm
          subst hw
          obtain ⟨hP1, hK1, hD1⟩ := hB
          rw [ht] at hP1
          obtain ⟨hP, hD⟩ := va_join (wr := [(h0, .inr (3, [.int v0, .long v1, .long v2, .long v3, .long v4, .long v5, .long v6, .long v7, .long v8, .long v9, .long v10, .long v11, .long v12, .int v13, .ref h1])), (h1, .inl (cI, 6600, .inl vR))]) (w1 := []) hP hD [] [0, 1] rfl rfl (by decide) (by decide) hk1 hFc hP1 hD1
          generalize H1 = H at hP hS ⊢
          have hP : va_P (dC, dI) vwCl [(h0, .inr (3, [.int v0, .long v1, .long v2, .long v3, .long v4, .long v5, .long v6, .long v7, .long v8, .long v9, .long v10, .long v11, .long v12, .int v13, .ref h1])), (h1, .inl (cI, 6600, .inl vR))] H := hP
          have hD : va_D A [(h0, .inr (3, [.int v0, .long v1, .long v2, .long v3, .long v4, .long v5, .long v6, .long v7, .long v8, .long v9, .long v10, .long v11, .long v12, .int v13, .ref h1])), (h1, .inl (cI, 6600, .inl vR))] := hD
          refine W.widen (k := 0) (n := 0) (Nat.le_refl _) (Nat.le_refl _) ?_
          refine lv_lmul hx hb dX3_isReduced_101 ?_
          refine lv_aload_n hx hb dX3_isReduced_102 rfl (lv_at hl 0 rfl) ?_
          refine va_get (D := (dC, dI)) (ci := 3) (v := .long v7) (C := RX3) (T := TX3) (N := 15) hx hb hts in_X3_isReduced_X3 hown hK hP 0 rfl rfl 7 (by decide) (hts (.fieldLink RX3 72 "FormRingModel" "y" "J") (by decide +kernel)) (fun _ h9 => h9) rfl dX3_isReduced_103 ?_
          refine lv_ladd hx hb dX3_isReduced_106 ?_
          refine lv_lload_n hx hb dX3_isReduced_107 rfl (lv_at hl 2 rfl) ?_
          refine lz_lle (tgt := 137) hx hb dX3_isReduced_108 dX3_isReduced_109 (by decide) (fun c_7 => ?_) (fun c_7 => ?_)
          · have hr := (if_neg c_7).symm.trans hr
            refine lv_iconst (v := 0) hx hb dX3_isReduced_137 (by decide) ?_
            have ho := Option.some.inj hr
            subst ho
            exact W.zret (v := 0) hx hb hrt rfl (fun t ht hW => ⟨⟨0, (), rfl, ⟨rfl, rfl⟩, by rw [ht]; exact hP, va_K.moved hW.alike hK, hD⟩, hS.F ht⟩) hS.2.2 dX3_isReduced_138
          · have hr := (if_pos c_7).symm.trans hr
            refine lv_ldc2 (v := 2) hx hb hown (hts (.constantLong RX3 81 (2)) (by decide +kernel)) dX3_isReduced_112 ?_
            refine lv_aload_n hx hb dX3_isReduced_115 rfl (lv_at hl 0 rfl) ?_
            refine va_get (D := (dC, dI)) (ci := 3) (v := .long v6) (C := RX3) (T := TX3) (N := 15) hx hb hts in_X3_isReduced_X3 hown hK hP 0 rfl rfl 6 (by decide) (hts (.fieldLink RX3 69 "FormRingModel" "x" "J") (by decide +kernel)) (fun _ h9 => h9) rfl dX3_isReduced_116 ?_
            rw [Option.bind_some] at hr
            have hPc := hP.sub (ws' := []) [] rfl
            have hDc := hD.sub (ws' := []) [] (by decide) rfl
            have hKc := hK.sub (tys' := []) [] rfl
            have hFc := va_free (wc := []) hD hS hA [] rfl
            refine va_calll (va_runS (As := [.long v6]) (rest := [.long 2]) ⟨hx, hb, hml, hown, hts⟩ (c_X3_size l dC dI H.size  v6 n _ e_4) (va_cwS 1 hts gX3_isReduced_X3_size rfl rfl rfl (by decide +kernel) ⟨Nat.le_of_ble_eq_true rfl, Nat.le_of_ble_eq_true rfl⟩) ⟨fun a U g mk q => by obtain ⟨q0, q1, qP, qK, qD⟩ := q; exact ⟨q0, q1, qP, va_K.moved (u := U) (U := U.calling g mk a) (Vm.Alike.refl U.vm) qK, qD⟩, fun U hU hW => ⟨rfl, by rw [hU], by rw [hU]; exact hPc, va_K.moved hW.alike hKc, hDc.weaken (fun _ _ _ _ => trivial)⟩⟩ rfl rfl hl.1 rfl (lv_room (Nat.le_of_ble_eq_true rfl)) dX3_isReduced_119 ⟨Nat.zero_le _, Nat.zero_le _⟩) hS (fun q _ h => hFc q h) hFc (fun x_10 _ t H1 locs ht hvm hw hB hz1 hk1 hS => ?_)
            have hw := hw.symm
            subst hw
            obtain ⟨hP1, hK1, hD1⟩ := hB
            rw [ht] at hP1
            obtain ⟨hP, hD⟩ := va_join (wr := [(h0, .inr (3, [.int v0, .long v1, .long v2, .long v3, .long v4, .long v5, .long v6, .long v7, .long v8, .long v9, .long v10, .long v11, .long v12, .int v13, .ref h1])), (h1, .inl (cI, 6600, .inl vR))]) (w1 := []) hP hD [] [0, 1] rfl rfl (by decide) (by decide) hk1 hFc hP1 hD1
            generalize H1 = H at hP hS ⊢
            have hP : va_P (dC, dI) vwCl [(h0, .inr (3, [.int v0, .long v1, .long v2, .long v3, .long v4, .long v5, .long v6, .long v7, .long v8, .long v9, .long v10, .long v11, .long v12, .int v13, .ref h1])), (h1, .inl (cI, 6600, .inl vR))] H := hP
            have hD : va_D A [(h0, .inr (3, [.int v0, .long v1, .long v2, .long v3, .long v4, .long v5, .long v6, .long v7, .long v8, .long v9, .long v10, .long v11, .long v12, .int v13, .ref h1])), (h1, .inl (cI, 6600, .inl vR))] := hD
            refine W.widen (k := 0) (n := 0) (Nat.le_refl _) (Nat.le_refl _) ?_
            refine lv_lmul hx hb dX3_isReduced_122 ?_
            refine lv_aload_n hx hb dX3_isReduced_123 rfl (lv_at hl 0 rfl) ?_
            refine va_get (D := (dC, dI)) (ci := 3) (v := .long v7) (C := RX3) (T := TX3) (N := 15) hx hb hts in_X3_isReduced_X3 hown hK hP 0 rfl rfl 7 (by decide) (hts (.fieldLink RX3 72 "FormRingModel" "y" "J") (by decide +kernel)) (fun _ h9 => h9) rfl dX3_isReduced_124 ?_
            refine lv_lsub hx hb dX3_isReduced_127 ?_
            refine lv_lload_n hx hb dX3_isReduced_128 rfl (lv_at hl 2 rfl) ?_
            refine lz_lgt (tgt := 137) hx hb dX3_isReduced_129 dX3_isReduced_130 (by decide) (fun c_11 => ?_) (fun c_11 => ?_)
            · have hr := (if_pos c_11).symm.trans hr
              refine lv_iconst (v := 0) hx hb dX3_isReduced_137 (by decide) ?_
              have ho := Option.some.inj hr
              subst ho
              exact W.zret (v := 0) hx hb hrt rfl (fun t ht hW => ⟨⟨0, (), rfl, ⟨rfl, rfl⟩, by rw [ht]; exact hP, va_K.moved hW.alike hK, hD⟩, hS.F ht⟩) hS.2.2 dX3_isReduced_138
            · have hr := (if_neg c_11).symm.trans hr
              refine lv_iconst (v := 1) hx hb dX3_isReduced_133 (by decide) ?_
              refine lv_goto (tgt := 138) hx hb dX3_isReduced_134 (by decide) ?_
              have ho := Option.some.inj hr
              subst ho
              exact W.zret (v := 1) hx hb hrt rfl (fun t ht hW => ⟨⟨1, (), rfl, ⟨rfl, rfl⟩, by rw [ht]; exact hP, va_K.moved hW.alike hK, hD⟩, hS.F ht⟩) hS.2.2 dX3_isReduced_138
  · have hr := (if_pos c_1).symm.trans hr
    refine lv_aload_n hx hb dX3_isReduced_6 rfl (lv_at hl 0 rfl) ?_
    refine va_get (D := (dC, dI)) (ci := 3) (v := .long v7) (C := RX3) (T := TX3) (N := 15) hx hb hts in_X3_isReduced_X3 hown hK hP 0 rfl rfl 7 (by decide) (hts (.fieldLink RX3 72 "FormRingModel" "y" "J") (by decide +kernel)) (fun _ h9 => h9) rfl dX3_isReduced_7 ?_
    cases e_12 : f_X3_size n v7 with
    | none => rw [e_12, Option.bind_none] at hr; cases hr
    | some r_13 =>
      rw [e_12, Option.bind_some] at hr
      have hPc := hP.sub (ws' := []) [] rfl
      have hDc := hD.sub (ws' := []) [] (by decide) rfl
      have hKc := hK.sub (tys' := []) [] rfl
      have hFc := va_free (wc := []) hD hS hA [] rfl
      refine va_calll (va_runS (As := [.long v7]) (rest := []) ⟨hx, hb, hml, hown, hts⟩ (c_X3_size l dC dI s.heap.size  v7 n _ e_12) (va_cwS 1 hts gX3_isReduced_X3_size rfl rfl rfl (by decide +kernel) ⟨Nat.le_of_ble_eq_true rfl, Nat.le_of_ble_eq_true rfl⟩) ⟨fun a U g mk q => by obtain ⟨q0, q1, qP, qK, qD⟩ := q; exact ⟨q0, q1, qP, va_K.moved (u := U) (U := U.calling g mk a) (Vm.Alike.refl U.vm) qK, qD⟩, fun U hU hW => ⟨rfl, by rw [hU], by rw [hU]; exact hPc, va_K.moved hW.alike hKc, hDc.weaken (fun _ _ _ _ => trivial)⟩⟩ rfl rfl hl.1 rfl (lv_room (Nat.le_of_ble_eq_true rfl)) dX3_isReduced_10 ⟨Nat.zero_le _, Nat.zero_le _⟩) hS (fun q _ h => hFc q h) hFc (fun x_14 _ t H1 locs ht hvm hw hB hz1 hk1 hS => ?_)
      have hw := hw.symm
      subst hw
      obtain ⟨hP1, hK1, hD1⟩ := hB
      rw [ht] at hP1
      obtain ⟨hP, hD⟩ := va_join (wr := [(h0, .inr (3, [.int v0, .long v1, .long v2, .long v3, .long v4, .long v5, .long v6, .long v7, .long v8, .long v9, .long v10, .long v11, .long v12, .int v13, .ref h1])), (h1, .inl (cI, 6600, .inl vR))]) (w1 := []) hP hD [] [0, 1] rfl rfl (by decide) (by decide) hk1 hFc hP1 hD1
      generalize H1 = H at hP hS ⊢
      have hP : va_P (dC, dI) vwCl [(h0, .inr (3, [.int v0, .long v1, .long v2, .long v3, .long v4, .long v5, .long v6, .long v7, .long v8, .long v9, .long v10, .long v11, .long v12, .int v13, .ref h1])), (h1, .inl (cI, 6600, .inl vR))] H := hP
      have hD : va_D A [(h0, .inr (3, [.int v0, .long v1, .long v2, .long v3, .long v4, .long v5, .long v6, .long v7, .long v8, .long v9, .long v10, .long v11, .long v12, .int v13, .ref h1])), (h1, .inl (cI, 6600, .inl vR))] := hD
      refine W.widen (k := 0) (n := 0) (Nat.le_refl _) (Nat.le_refl _) ?_
      refine lv_aload_n hx hb dX3_isReduced_13 rfl (lv_at hl 0 rfl) ?_
      refine va_get (D := (dC, dI)) (ci := 3) (v := .long v6) (C := RX3) (T := TX3) (N := 15) hx hb hts in_X3_isReduced_X3 hown hK hP 0 rfl rfl 6 (by decide) (hts (.fieldLink RX3 69 "FormRingModel" "x" "J") (by decide +kernel)) (fun _ h9 => h9) rfl dX3_isReduced_14 ?_
      refine lz_lgt (tgt := 71) hx hb dX3_isReduced_17 dX3_isReduced_18 (by decide) (fun c_15 => ?_) (fun c_15 => ?_)
      · have hr := (if_pos c_15).symm.trans hr
        refine lv_iconst (v := 0) hx hb dX3_isReduced_71 (by decide) ?_
        have ho := Option.some.inj hr
        subst ho
        exact W.zret (v := 0) hx hb hrt rfl (fun t ht hW => ⟨⟨0, (), rfl, ⟨rfl, rfl⟩, by rw [ht]; exact hP, va_K.moved hW.alike hK, hD⟩, hS.F ht⟩) hS.2.2 dX3_isReduced_72
      · have hr := (if_neg c_15).symm.trans hr
        refine lv_aload_n hx hb dX3_isReduced_21 rfl (lv_at hl 0 rfl) ?_
        refine va_get (D := (dC, dI)) (ci := 3) (v := .long v6) (C := RX3) (T := TX3) (N := 15) hx hb hts in_X3_isReduced_X3 hown hK hP 0 rfl rfl 6 (by decide) (hts (.fieldLink RX3 69 "FormRingModel" "x" "J") (by decide +kernel)) (fun _ h9 => h9) rfl dX3_isReduced_22 ?_
        refine lv_aload_n hx hb dX3_isReduced_25 rfl (lv_at hl 0 rfl) ?_
        refine va_get (D := (dC, dI)) (ci := 3) (v := .long v8) (C := RX3) (T := TX3) (N := 15) hx hb hts in_X3_isReduced_X3 hown hK hP 0 rfl rfl 8 (by decide) (hts (.fieldLink RX3 75 "FormRingModel" "z" "J") (by decide +kernel)) (fun _ h9 => h9) rfl dX3_isReduced_26 ?_
        refine lz_lgt (tgt := 71) hx hb dX3_isReduced_29 dX3_isReduced_30 (by decide) (fun c_16 => ?_) (fun c_16 => ?_)
        · have hr := (if_pos c_16).symm.trans hr
          refine lv_iconst (v := 0) hx hb dX3_isReduced_71 (by decide) ?_
          have ho := Option.some.inj hr
          subst ho
          exact W.zret (v := 0) hx hb hrt rfl (fun t ht hW => ⟨⟨0, (), rfl, ⟨rfl, rfl⟩, by rw [ht]; exact hP, va_K.moved hW.alike hK, hD⟩, hS.F ht⟩) hS.2.2 dX3_isReduced_72
        · have hr := (if_neg c_16).symm.trans hr
          refine lv_aload_n hx hb dX3_isReduced_33 rfl (lv_at hl 0 rfl) ?_
          refine va_get (D := (dC, dI)) (ci := 3) (v := .long v7) (C := RX3) (T := TX3) (N := 15) hx hb hts in_X3_isReduced_X3 hown hK hP 0 rfl rfl 7 (by decide) (hts (.fieldLink RX3 72 "FormRingModel" "y" "J") (by decide +kernel)) (fun _ h9 => h9) rfl dX3_isReduced_34 ?_
          refine lv_lconst (v := 0) hx hb dX3_isReduced_37 (by decide) ?_
          refine lz_lge (tgt := 67) hx hb dX3_isReduced_38 dX3_isReduced_39 (by decide) (fun c_17 => ?_) (fun c_17 => ?_)
          · have hr := (if_neg c_17).symm.trans hr
            refine lv_iconst (v := 1) hx hb dX3_isReduced_67 (by decide) ?_
            refine lv_goto (tgt := 72) hx hb dX3_isReduced_68 (by decide) ?_
            have ho := Option.some.inj hr
            subst ho
            exact W.zret (v := 1) hx hb hrt rfl (fun t ht hW => ⟨⟨1, (), rfl, ⟨rfl, rfl⟩, by rw [ht]; exact hP, va_K.moved hW.alike hK, hD⟩, hS.F ht⟩) hS.2.2 dX3_isReduced_72
          · have hr := (if_pos c_17).symm.trans hr
            refine lv_aload_n hx hb dX3_isReduced_42 rfl (lv_at hl 0 rfl) ?_
            refine va_get (D := (dC, dI)) (ci := 3) (v := .long v7) (C := RX3) (T := TX3) (N := 15) hx hb hts in_X3_isReduced_X3 hown hK hP 0 rfl rfl 7 (by decide) (hts (.fieldLink RX3 72 "FormRingModel" "y" "J") (by decide +kernel)) (fun _ h9 => h9) rfl dX3_isReduced_43 ?_
            refine lv_lneg hx hb dX3_isReduced_46 ?_
            refine lv_aload_n hx hb dX3_isReduced_47 rfl (lv_at hl 0 rfl) ?_
            refine va_get (D := (dC, dI)) (ci := 3) (v := .long v6) (C := RX3) (T := TX3) (N := 15) hx hb hts in_X3_isReduced_X3 hown hK hP 0 rfl rfl 6 (by decide) (hts (.fieldLink RX3 69 "FormRingModel" "x" "J") (by decide +kernel)) (fun _ h9 => h9) rfl dX3_isReduced_48 ?_
            refine lz_lge (tgt := 71) hx hb dX3_isReduced_51 dX3_isReduced_52 (by decide) (fun c_18 => ?_) (fun c_18 => ?_)
            · have hr := (if_neg c_18).symm.trans hr
              refine lv_iconst (v := 0) hx hb dX3_isReduced_71 (by decide) ?_
              have ho := Option.some.inj hr
              subst ho
              exact W.zret (v := 0) hx hb hrt rfl (fun t ht hW => ⟨⟨0, (), rfl, ⟨rfl, rfl⟩, by rw [ht]; exact hP, va_K.moved hW.alike hK, hD⟩, hS.F ht⟩) hS.2.2 dX3_isReduced_72
            · have hr := (if_pos c_18).symm.trans hr
              refine lv_aload_n hx hb dX3_isReduced_55 rfl (lv_at hl 0 rfl) ?_
              refine va_get (D := (dC, dI)) (ci := 3) (v := .long v6) (C := RX3) (T := TX3) (N := 15) hx hb hts in_X3_isReduced_X3 hown hK hP 0 rfl rfl 6 (by decide) (hts (.fieldLink RX3 69 "FormRingModel" "x" "J") (by decide +kernel)) (fun _ h9 => h9) rfl dX3_isReduced_56 ?_
              refine lv_aload_n hx hb dX3_isReduced_59 rfl (lv_at hl 0 rfl) ?_
              refine va_get (D := (dC, dI)) (ci := 3) (v := .long v8) (C := RX3) (T := TX3) (N := 15) hx hb hts in_X3_isReduced_X3 hown hK hP 0 rfl rfl 8 (by decide) (hts (.fieldLink RX3 75 "FormRingModel" "z" "J") (by decide +kernel)) (fun _ h9 => h9) rfl dX3_isReduced_60 ?_
              refine lz_lge (tgt := 71) hx hb dX3_isReduced_63 dX3_isReduced_64 (by decide) (fun c_19 => ?_) (fun c_19 => ?_)
              · have hr := (if_neg c_19).symm.trans hr
                refine lv_iconst (v := 0) hx hb dX3_isReduced_71 (by decide) ?_
                have ho := Option.some.inj hr
                subst ho
                exact W.zret (v := 0) hx hb hrt rfl (fun t ht hW => ⟨⟨0, (), rfl, ⟨rfl, rfl⟩, by rw [ht]; exact hP, va_K.moved hW.alike hK, hD⟩, hS.F ht⟩) hS.2.2 dX3_isReduced_72
              · have hr := (if_pos c_19).symm.trans hr
                refine lv_iconst (v := 1) hx hb dX3_isReduced_67 (by decide) ?_
                refine lv_goto (tgt := 72) hx hb dX3_isReduced_68 (by decide) ?_
                have ho := Option.some.inj hr
                subst ho
                exact W.zret (v := 1) hx hb hrt rfl (fun t ht hW => ⟨⟨1, (), rfl, ⟨rfl, rfl⟩, by rw [ht]; exact hP, va_K.moved hW.alike hK, hD⟩, hS.F ht⟩) hS.2.2 dX3_isReduced_72

theorem in_X3_step_X3 : ∀ w ∈ u_ws RX3 TX3 15, w ∈ wsX3_step := by decide +kernel
def f_X3_step (n : Nat) (v7 : Int64) (v8 : Int64) (a1 : Int64) (a2 : Int64) : Option (Int64 × Int64 × Int64 × Int64) := (f_X3_size n v8).bind (fun r_2 => if a1 < 0 then ((f_X3_size n v8).bind (fun r_2 => if (2 * r_2) = 0 then none else (if ((r_2 + v7) - (r_2 + v7) / (2 * r_2) * (2 * r_2)) < 0 then (if (2 * v8) = 0 then none else (if (4 * v8) = 0 then none else (some (v8, r_2 - (((r_2 + v7) - (r_2 + v7) / (2 * r_2) * (2 * r_2)) + (2 * r_2)), (((r_2 - (((r_2 + v7) - (r_2 + v7) / (2 * r_2) * (2 * r_2)) + (2 * r_2))) * (r_2 - (((r_2 + v7) - (r_2 + v7) / (2 * r_2) * (2 * r_2)) + (2 * r_2)))) - a1) / (4 * v8), (v7 + (r_2 - (((r_2 + v7) - (r_2 + v7) / (2 * r_2) * (2 * r_2)) + (2 * r_2)))) / (2 * v8))))) else (if (2 * v8) = 0 then none else (if (4 * v8) = 0 then none else (some (v8, r_2 - ((r_2 + v7) - (r_2 + v7) / (2 * r_2) * (2 * r_2)), (((r_2 - ((r_2 + v7) - (r_2 + v7) / (2 * r_2) * (2 * r_2))) * (r_2 - ((r_2 + v7) - (r_2 + v7) / (2 * r_2) * (2 * r_2)))) - a1) / (4 * v8), (v7 + (r_2 - ((r_2 + v7) - (r_2 + v7) / (2 * r_2) * (2 * r_2)))) / (2 * v8)))))))) else ((f_X3_size n v8).bind (fun r_2 => if a2 < r_2 then ((f_X3_size n v8).bind (fun r_2 => if (2 * r_2) = 0 then none else (if ((r_2 + v7) - (r_2 + v7) / (2 * r_2) * (2 * r_2)) < 0 then (if (2 * v8) = 0 then none else (if (4 * v8) = 0 then none else (some (v8, r_2 - (((r_2 + v7) - (r_2 + v7) / (2 * r_2) * (2 * r_2)) + (2 * r_2)), (((r_2 - (((r_2 + v7) - (r_2 + v7) / (2 * r_2) * (2 * r_2)) + (2 * r_2))) * (r_2 - (((r_2 + v7) - (r_2 + v7) / (2 * r_2) * (2 * r_2)) + (2 * r_2)))) - a1) / (4 * v8), (v7 + (r_2 - (((r_2 + v7) - (r_2 + v7) / (2 * r_2) * (2 * r_2)) + (2 * r_2)))) / (2 * v8))))) else (if (2 * v8) = 0 then none else (if (4 * v8) = 0 then none else (some (v8, r_2 - ((r_2 + v7) - (r_2 + v7) / (2 * r_2) * (2 * r_2)), (((r_2 - ((r_2 + v7) - (r_2 + v7) / (2 * r_2) * (2 * r_2))) * (r_2 - ((r_2 + v7) - (r_2 + v7) / (2 * r_2) * (2 * r_2)))) - a1) / (4 * v8), (v7 + (r_2 - ((r_2 + v7) - (r_2 + v7) / (2 * r_2) * (2 * r_2)))) / (2 * v8)))))))) else (if (2 * r_2) = 0 then none else (if ((a2 + v7) - (a2 + v7) / (2 * r_2) * (2 * r_2)) < 0 then (if (2 * v8) = 0 then none else (if (4 * v8) = 0 then none else (some (v8, a2 - (((a2 + v7) - (a2 + v7) / (2 * r_2) * (2 * r_2)) + (2 * r_2)), (((a2 - (((a2 + v7) - (a2 + v7) / (2 * r_2) * (2 * r_2)) + (2 * r_2))) * (a2 - (((a2 + v7) - (a2 + v7) / (2 * r_2) * (2 * r_2)) + (2 * r_2)))) - a1) / (4 * v8), (v7 + (a2 - (((a2 + v7) - (a2 + v7) / (2 * r_2) * (2 * r_2)) + (2 * r_2)))) / (2 * v8))))) else (if (2 * v8) = 0 then none else (if (4 * v8) = 0 then none else (some (v8, a2 - ((a2 + v7) - (a2 + v7) / (2 * r_2) * (2 * r_2)), (((a2 - ((a2 + v7) - (a2 + v7) / (2 * r_2) * (2 * r_2))) * (a2 - ((a2 + v7) - (a2 + v7) / (2 * r_2) * (2 * r_2)))) - a1) / (4 * v8), (v7 + (a2 - ((a2 + v7) - (a2 + v7) / (2 * r_2) * (2 * r_2)))) / (2 * v8))))))))))
set_option maxHeartbeats 4000000 in
set_option maxRecDepth 100000 in
theorem c_X3_step (l : Launch) (dC : Nat → ClassId) (dI : Nat → Nat → Nat) (sz : Nat) (h0 : Nat) (h1 : Nat) (cI : ClassId) (v0 : Int32) (v1 : Int64) (v2 : Int64) (v3 : Int64) (v4 : Int64) (v5 : Int64) (v6 : Int64) (v7 : Int64) (v8 : Int64) (v9 : Int64) (v10 : Int64) (v11 : Int64) (v12 : Int64) (v13 : Int32) (vR : Nat → Int32) (a1 : Int64) (a2 : Int64)  (n : Nat) (out : Int64 × Int64 × Int64 × Int64) (hr : f_X3_step n v7 v8 a1 a2 = some out) : Met l yX3_step wsX3_step ({ frames := 1, cells := 0, slots := 0, locals := 21 }) (va_Pc [.ref h0, .long a1, .long a2] (zP dC dI [(cI, .int)] [(h0, .inr (3, [.int v0, .long v1, .long v2, .long v3, .long v4, .long v5, .long v6, .long v7, .long v8, .long v9, .long v10, .long v11, .long v12, .int v13, .ref h1])), (h1, .inl (cI, 6600, .inl vR))] sz)) (va_Qv (fun (_ : Unit) => True) (fun (_ : Unit) t => zB dC dI [(cI, .int)] (va_A [(h0, .inr (3, [.int v0, .long v1, .long v2, .long v3, .long v4, .long v5, .long v6, .long v7, .long v8, .long v9, .long v10, .long v11, .long v12, .int v13, .ref h1])), (h1, .inl (cI, 6600, .inl vR))] sz) [(h0, .inr (3, [.int v0, .long v1, .long v2, .long v3, .long v4, .long v5, .long out.1, .long out.2.1, .long out.2.2.1, .long out.2.2.2, .long v10, .long v11, .long v12, .int v13, .ref h1])), (h1, .inl (cI, 6600, .inl vR))] t) (va_A [(h0, .inr (3, [.int v0, .long v1, .long v2, .long v3, .long v4, .long v5, .long v6, .long v7, .long v8, .long v9, .long v10, .long v11, .long v12, .int v13, .ref h1])), (h1, .inl (cI, 6600, .inl vR))] sz)) 0 0 (va_A [(h0, .inr (3, [.int v0, .long v1, .long v2, .long v3, .long v4, .long v5, .long v6, .long v7, .long v8, .long v9, .long v10, .long v11, .long v12, .int v13, .ref h1])), (h1, .inl (cI, 6600, .inl vR))] sz) := by
  refine Met.ofW (cc := cX3_step) (maxL := 15) (ret := none) (by decide) rfl ?_
  intro p e s m args below meth c s₁ B hml hv
  obtain ⟨rfl, hsz, hP, hK, hD0⟩ := hv
  have hx := B.exec
  have hb := B.bytes
  have hrt := B.returns
  have hts := atoms_spec (ws := wsX3_step) B.pre
  have hown : s.vm.findClass RX3 = some m.cls := findClass_of_methodNamed B.named
  have hlocks := B.notSynchronized
  subst hsz
  have hD := hD0.self (sz := s.heap.size)
  generalize hAe : va_A [(h0, .inr (3, [.int v0, .long v1, .long v2, .long v3, .long v4, .long v5, .long v6, .long v7, .long v8, .long v9, .long v10, .long v11, .long v12, .int v13, .ref h1])), (h1, .inl (cI, 6600, .inl vR))] s.heap.size = A at hD ⊢
  have hA : ∀ q : Nat, s.heap.size ≤ q → A q := fun q h => by rw [← hAe]; exact Or.inr h
  have hS : va_S A s.heap s.heap [] := va_S.rf
  have hP : va_P (dC, dI) vwCl [(h0, .inr (3, [.int v0, .long v1, .long v2, .long v3, .long v4, .long v5, .long v6, .long v7, .long v8, .long v9, .long v10, .long v11, .long v12, .int v13, .ref h1])), (h1, .inl (cI, 6600, .inl vR))] s.heap := hP
  have hl := lv_entry ([.ref h0, .long a1, .long a2]) (n := 15) (Nat.le_of_ble_eq_true rfl)
  rw [lg_entry_eq]
  generalize (lg_sl ([.ref h0, .long a1, .long a2]) ++ List.replicate (15 - (lg_sl ([.ref h0, .long a1, .long a2])).length) Slot.unset).toArray = ls at hl ⊢
  have hl : lv_has ls 15 [(0, .ref h0), (1, .long a1), (3, .long a2)] := hl
  unfold f_X3_step at hr
  refine lv_ldc2 (v := 2) hx hb hown (hts (.constantLong RX3 81 (2)) (by decide +kernel)) dX3_step_0 ?_
  refine lv_aload_n hx hb dX3_step_3 rfl (lv_at hl 0 rfl) ?_
  refine va_get (D := (dC, dI)) (ci := 3) (v := .long v8) (C := RX3) (T := TX3) (N := 15) hx hb hts in_X3_step_X3 hown hK hP 0 rfl rfl 8 (by decide) (hts (.fieldLink RX3 75 "FormRingModel" "z" "J") (by decide +kernel)) (fun _ h9 => h9) rfl dX3_step_4 ?_
  cases e_1 : f_X3_size n v8 with
  | none => rw [e_1, Option.bind_none] at hr; cases hr
  | some r_2 =>
    rw [e_1, Option.bind_some] at hr
    have hPc := hP.sub (ws' := []) [] rfl
    have hDc := hD.sub (ws' := []) [] (by decide) rfl
    have hKc := hK.sub (tys' := []) [] rfl
    have hFc := va_free (wc := []) hD hS hA [] rfl
    refine va_calll (va_runS (As := [.long v8]) (rest := [.long 2]) ⟨hx, hb, hml, hown, hts⟩ (c_X3_size l dC dI s.heap.size  v8 n _ e_1) (va_cwS 1 hts gX3_step_X3_size rfl rfl rfl (by decide +kernel) ⟨Nat.le_of_ble_eq_true rfl, Nat.le_of_ble_eq_true rfl⟩) ⟨fun a U g mk q => by obtain ⟨q0, q1, qP, qK, qD⟩ := q; exact ⟨q0, q1, qP, va_K.moved (u := U) (U := U.calling g mk a) (Vm.Alike.refl U.vm) qK, qD⟩, fun U hU hW => ⟨rfl, by rw [hU], by rw [hU]; exact hPc, va_K.moved hW.alike hKc, hDc.weaken (fun _ _ _ _ => trivial)⟩⟩ rfl rfl hl.1 rfl (lv_room (Nat.le_of_ble_eq_true rfl)) dX3_step_7 ⟨Nat.zero_le _, Nat.zero_le _⟩) hS (fun q _ h => hFc q h) hFc (fun x_3 _ t H1 locs ht hvm hw hB hz1 hk1 hS => ?_)
    have hw := hw.symm
    subst hw
    obtain ⟨hP1, hK1, hD1⟩ := hB
    rw [ht] at hP1
    obtain ⟨hP, hD⟩ := va_join (wr := [(h0, .inr (3, [.int v0, .long v1, .long v2, .long v3, .long v4, .long v5, .long v6, .long v7, .long v8, .long v9, .long v10, .long v11, .long v12, .int v13, .ref h1])), (h1, .inl (cI, 6600, .inl vR))]) (w1 := []) hP hD [] [0, 1] rfl rfl (by decide) (by decide) hk1 hFc hP1 hD1
    generalize H1 = H at hP hS ⊢
    have hP : va_P (dC, dI) vwCl [(h0, .inr (3, [.int v0, .long v1, .long v2, .long v3, .long v4, .long v5, .long v6, .long v7, .long v8, .long v9, .long v10, .long v11, .long v12, .int v13, .ref h1])), (h1, .inl (cI, 6600, .inl vR))] H := hP
    have hD : va_D A [(h0, .inr (3, [.int v0, .long v1, .long v2, .long v3, .long v4, .long v5, .long v6, .long v7, .long v8, .long v9, .long v10, .long v11, .long v12, .int v13, .ref h1])), (h1, .inl (cI, 6600, .inl vR))] := hD
    refine W.widen (k := 0) (n := 0) (Nat.le_refl _) (Nat.le_refl _) ?_
    refine lv_lmul hx hb dX3_step_10 ?_
    refine lv_lstore (lv' := [(5, .long (2 * r_2)), (0, .ref h0), (1, .long a1), (3, .long a2)]) hx hb dX3_step_11 hl (by decide) rfl (fun ls hl => ?_)
    refine lv_lload_n hx hb dX3_step_13 rfl (lv_at hl 2 rfl) ?_
    refine lv_lconst (v := 0) hx hb dX3_step_14 (by decide) ?_
    refine lz_llt (tgt := 31) hx hb dX3_step_15 dX3_step_16 (by decide) (fun c_4 => ?_) (fun c_4 => ?_)
    · have hr := (if_pos c_4).symm.trans hr
      refine lv_aload_n hx hb dX3_step_31 rfl (lv_at hl 1 rfl) ?_
      refine va_get (D := (dC, dI)) (ci := 3) (v := .long v8) (C := RX3) (T := TX3) (N := 15) hx hb hts in_X3_step_X3 hown hK hP 0 rfl rfl 8 (by decide) (hts (.fieldLink RX3 75 "FormRingModel" "z" "J") (by decide +kernel)) (fun _ h9 => h9) rfl dX3_step_32 ?_
      rw [Option.bind_some] at hr
      have hPc := hP.sub (ws' := []) [] rfl
      have hDc := hD.sub (ws' := []) [] (by decide) rfl
      have hKc := hK.sub (tys' := []) [] rfl
      have hFc := va_free (wc := []) hD hS hA [] rfl
      refine va_calll (va_runS (As := [.long v8]) (rest := []) ⟨hx, hb, hml, hown, hts⟩ (c_X3_size l dC dI H.size  v8 n _ e_1) (va_cwS 1 hts gX3_step_X3_size rfl rfl rfl (by decide +kernel) ⟨Nat.le_of_ble_eq_true rfl, Nat.le_of_ble_eq_true rfl⟩) ⟨fun a U g mk q => by obtain ⟨q0, q1, qP, qK, qD⟩ := q; exact ⟨q0, q1, qP, va_K.moved (u := U) (U := U.calling g mk a) (Vm.Alike.refl U.vm) qK, qD⟩, fun U hU hW => ⟨rfl, by rw [hU], by rw [hU]; exact hPc, va_K.moved hW.alike hKc, hDc.weaken (fun _ _ _ _ => trivial)⟩⟩ rfl rfl hl.1 rfl (lv_room (Nat.le_of_ble_eq_true rfl)) dX3_step_35 ⟨Nat.zero_le _, Nat.zero_le _⟩) hS (fun q _ h => hFc q h) hFc (fun x_7 _ t H1 locs ht hvm hw hB hz1 hk1 hS => ?_)
      have hw := hw.symm
      subst hw
      obtain ⟨hP1, hK1, hD1⟩ := hB
      rw [ht] at hP1
      obtain ⟨hP, hD⟩ := va_join (wr := [(h0, .inr (3, [.int v0, .long v1, .long v2, .long v3, .long v4, .long v5, .long v6, .long v7, .long v8, .long v9, .long v10, .long v11, .long v12, .int v13, .ref h1])), (h1, .inl (cI, 6600, .inl vR))]) (w1 := []) hP hD [] [0, 1] rfl rfl (by decide) (by decide) hk1 hFc hP1 hD1
      generalize H1 = H at hP hS ⊢
      have hP : va_P (dC, dI) vwCl [(h0, .inr (3, [.int v0, .long v1, .long v2, .long v3, .long v4, .long v5, .long v6, .long v7, .long v8, .long v9, .long v10, .long v11, .long v12, .int v13, .ref h1])), (h1, .inl (cI, 6600, .inl vR))] H := hP
      have hD : va_D A [(h0, .inr (3, [.int v0, .long v1, .long v2, .long v3, .long v4, .long v5, .long v6, .long v7, .long v8, .long v9, .long v10, .long v11, .long v12, .int v13, .ref h1])), (h1, .inl (cI, 6600, .inl vR))] := hD
      refine W.widen (k := 0) (n := 0) (Nat.le_refl _) (Nat.le_refl _) ?_
      refine lv_goto (tgt := 42) hx hb dX3_step_38 (by decide) ?_
      refine lv_lstore (lv' := [(7, .long r_2), (5, .long (2 * r_2)), (0, .ref h0), (1, .long a1), (3, .long a2)]) hx hb dX3_step_42 hl (by decide) rfl (fun ls hl => ?_)
      refine lv_lload hx hb dX3_step_44 (lv_at hl 0 rfl) ?_
      refine lv_aload_n hx hb dX3_step_46 rfl (lv_at hl 2 rfl) ?_
      refine va_get (D := (dC, dI)) (ci := 3) (v := .long v7) (C := RX3) (T := TX3) (N := 15) hx hb hts in_X3_step_X3 hown hK hP 0 rfl rfl 7 (by decide) (hts (.fieldLink RX3 72 "FormRingModel" "y" "J") (by decide +kernel)) (fun _ h9 => h9) rfl dX3_step_47 ?_
      refine lv_ladd hx hb dX3_step_50 ?_
      refine lv_lload hx hb dX3_step_51 (lv_at hl 1 rfl) ?_
      by_cases g_8 : (2 * r_2) = 0
      · have hr := (if_pos g_8).symm.trans hr
        cases hr
      have hr := (if_neg g_8).symm.trans hr
      refine lv_lrem hx hb dX3_step_53 g_8 ?_
      refine lv_lstore (lv' := [(9, .long ((r_2 + v7) - (r_2 + v7) / (2 * r_2) * (2 * r_2))), (7, .long r_2), (5, .long (2 * r_2)), (0, .ref h0), (1, .long a1), (3, .long a2)]) hx hb dX3_step_54 hl (by decide) rfl (fun ls hl => ?_)
      refine lv_lload hx hb dX3_step_56 (lv_at hl 0 rfl) ?_
      refine lv_lconst (v := 0) hx hb dX3_step_58 (by decide) ?_
      refine lz_lge (tgt := 70) hx hb dX3_step_59 dX3_step_60 (by decide) (fun c_9 => ?_) (fun c_9 => ?_)
      · have hr := (if_neg c_9).symm.trans hr
        refine lv_lload hx hb dX3_step_70 (lv_at hl 1 rfl) ?_
        refine lv_lload hx hb dX3_step_72 (lv_at hl 0 rfl) ?_
        refine lv_lsub hx hb dX3_step_74 ?_
        refine lv_lstore (lv' := [(11, .long (r_2 - ((r_2 + v7) - (r_2 + v7) / (2 * r_2) * (2 * r_2)))), (9, .long ((r_2 + v7) - (r_2 + v7) / (2 * r_2) * (2 * r_2))), (7, .long r_2), (5, .long (2 * r_2)), (0, .ref h0), (1, .long a1), (3, .long a2)]) hx hb dX3_step_75 hl (by decide) rfl (fun ls hl => ?_)
        refine lv_aload_n hx hb dX3_step_77 rfl (lv_at hl 4 rfl) ?_
        refine lv_aload_n hx hb dX3_step_78 rfl (lv_at hl 4 rfl) ?_
        refine va_get (D := (dC, dI)) (ci := 3) (v := .long v7) (C := RX3) (T := TX3) (N := 15) hx hb hts in_X3_step_X3 hown hK hP 0 rfl rfl 7 (by decide) (hts (.fieldLink RX3 72 "FormRingModel" "y" "J") (by decide +kernel)) (fun _ h9 => h9) rfl dX3_step_79 ?_
        refine lv_lload hx hb dX3_step_82 (lv_at hl 0 rfl) ?_
        refine lv_ladd hx hb dX3_step_84 ?_
        refine lv_ldc2 (v := 2) hx hb hown (hts (.constantLong RX3 81 (2)) (by decide +kernel)) dX3_step_85 ?_
        refine lv_aload_n hx hb dX3_step_88 rfl (lv_at hl 4 rfl) ?_
        refine va_get (D := (dC, dI)) (ci := 3) (v := .long v8) (C := RX3) (T := TX3) (N := 15) hx hb hts in_X3_step_X3 hown hK hP 0 rfl rfl 8 (by decide) (hts (.fieldLink RX3 75 "FormRingModel" "z" "J") (by decide +kernel)) (fun _ h9 => h9) rfl dX3_step_89 ?_
        refine lv_lmul hx hb dX3_step_92 ?_
        by_cases g_10 : (2 * v8) = 0
        · have hr := (if_pos g_10).symm.trans hr
          cases hr
        have hr := (if_neg g_10).symm.trans hr
        refine lv_ldiv hx hb dX3_step_93 g_10 ?_
        refine va_put (D := (dC, dI)) (ci := 3) (v := .long ((v7 + (r_2 - ((r_2 + v7) - (r_2 + v7) / (2 * r_2) * (2 * r_2)))) / (2 * v8))) (ty := .long) (C := RX3) (T := TX3) (N := 15) hx hb hts in_X3_step_X3 tyX3 tyX3_ok nmX3 hown hK hP hD hS 0 rfl rfl 9 (by decide) (hts (.fieldLink RX3 83 "FormRingModel" "turn" "J") (by decide +kernel)) (fun _ h9 => h9) rfl (by decide +kernel) rfl rfl (Nat.le_of_ble_eq_true rfl) dX3_step_94 (fun H locs hP hD hS => ?_)
        have hP : va_P (dC, dI) vwCl [(h0, .inr (3, [.int v0, .long v1, .long v2, .long v3, .long v4, .long v5, .long v6, .long v7, .long v8, .long ((v7 + (r_2 - ((r_2 + v7) - (r_2 + v7) / (2 * r_2) * (2 * r_2)))) / (2 * v8)), .long v10, .long v11, .long v12, .int v13, .ref h1])), (h1, .inl (cI, 6600, .inl vR))] H := hP
        have hD : va_D A [(h0, .inr (3, [.int v0, .long v1, .long v2, .long v3, .long v4, .long v5, .long v6, .long v7, .long v8, .long ((v7 + (r_2 - ((r_2 + v7) - (r_2 + v7) / (2 * r_2) * (2 * r_2)))) / (2 * v8)), .long v10, .long v11, .long v12, .int v13, .ref h1])), (h1, .inl (cI, 6600, .inl vR))] := hD
        refine lv_lload hx hb dX3_step_97 (lv_at hl 0 rfl) ?_
        refine lv_lload hx hb dX3_step_99 (lv_at hl 0 rfl) ?_
        refine lv_lmul hx hb dX3_step_101 ?_
        refine lv_lload_n hx hb dX3_step_102 rfl (lv_at hl 5 rfl) ?_
        refine lv_lsub hx hb dX3_step_103 ?_
        refine lv_ldc2 (v := 4) hx hb hown (hts (.constantLong RX3 47 (4)) (by decide +kernel)) dX3_step_104 ?_
        refine lv_aload_n hx hb dX3_step_107 rfl (lv_at hl 4 rfl) ?_
        refine va_get (D := (dC, dI)) (ci := 3) (v := .long v8) (C := RX3) (T := TX3) (N := 15) hx hb hts in_X3_step_X3 hown hK hP 0 rfl rfl 8 (by decide) (hts (.fieldLink RX3 75 "FormRingModel" "z" "J") (by decide +kernel)) (fun _ h9 => h9) rfl dX3_step_108 ?_
        refine lv_lmul hx hb dX3_step_111 ?_
        by_cases g_11 : (4 * v8) = 0
        · have hr := (if_pos g_11).symm.trans hr
          cases hr
        have hr := (if_neg g_11).symm.trans hr
        refine lv_ldiv hx hb dX3_step_112 g_11 ?_
        refine lv_lstore (lv' := [(13, .long ((((r_2 - ((r_2 + v7) - (r_2 + v7) / (2 * r_2) * (2 * r_2))) * (r_2 - ((r_2 + v7) - (r_2 + v7) / (2 * r_2) * (2 * r_2)))) - a1) / (4 * v8))), (11, .long (r_2 - ((r_2 + v7) - (r_2 + v7) / (2 * r_2) * (2 * r_2)))), (9, .long ((r_2 + v7) - (r_2 + v7) / (2 * r_2) * (2 * r_2))), (7, .long r_2), (5, .long (2 * r_2)), (0, .ref h0), (1, .long a1), (3, .long a2)]) hx hb dX3_step_113 hl (by decide) rfl (fun ls hl => ?_)
        refine lv_aload_n hx hb dX3_step_115 rfl (lv_at hl 5 rfl) ?_
        refine lv_aload_n hx hb dX3_step_116 rfl (lv_at hl 5 rfl) ?_
        refine va_get (D := (dC, dI)) (ci := 3) (v := .long v8) (C := RX3) (T := TX3) (N := 15) hx hb hts in_X3_step_X3 hown hK hP 0 rfl rfl 8 (by decide) (hts (.fieldLink RX3 75 "FormRingModel" "z" "J") (by decide +kernel)) (fun _ h9 => h9) rfl dX3_step_117 ?_
        refine va_put (D := (dC, dI)) (ci := 3) (v := .long v8) (ty := .long) (C := RX3) (T := TX3) (N := 15) hx hb hts in_X3_step_X3 tyX3 tyX3_ok nmX3 hown hK hP hD hS 0 rfl rfl 6 (by decide) (hts (.fieldLink RX3 69 "FormRingModel" "x" "J") (by decide +kernel)) (fun _ h9 => h9) rfl (by decide +kernel) rfl rfl (Nat.le_of_ble_eq_true rfl) dX3_step_120 (fun H locs hP hD hS => ?_)
        have hP : va_P (dC, dI) vwCl [(h0, .inr (3, [.int v0, .long v1, .long v2, .long v3, .long v4, .long v5, .long v8, .long v7, .long v8, .long ((v7 + (r_2 - ((r_2 + v7) - (r_2 + v7) / (2 * r_2) * (2 * r_2)))) / (2 * v8)), .long v10, .long v11, .long v12, .int v13, .ref h1])), (h1, .inl (cI, 6600, .inl vR))] H := hP
        have hD : va_D A [(h0, .inr (3, [.int v0, .long v1, .long v2, .long v3, .long v4, .long v5, .long v8, .long v7, .long v8, .long ((v7 + (r_2 - ((r_2 + v7) - (r_2 + v7) / (2 * r_2) * (2 * r_2)))) / (2 * v8)), .long v10, .long v11, .long v12, .int v13, .ref h1])), (h1, .inl (cI, 6600, .inl vR))] := hD
        refine lv_aload_n hx hb dX3_step_123 rfl (lv_at hl 5 rfl) ?_
        refine lv_lload hx hb dX3_step_124 (lv_at hl 1 rfl) ?_
        refine va_put (D := (dC, dI)) (ci := 3) (v := .long (r_2 - ((r_2 + v7) - (r_2 + v7) / (2 * r_2) * (2 * r_2)))) (ty := .long) (C := RX3) (T := TX3) (N := 15) hx hb hts in_X3_step_X3 tyX3 tyX3_ok nmX3 hown hK hP hD hS 0 rfl rfl 7 (by decide) (hts (.fieldLink RX3 72 "FormRingModel" "y" "J") (by decide +kernel)) (fun _ h9 => h9) rfl (by decide +kernel) rfl rfl (Nat.le_of_ble_eq_true rfl) dX3_step_126 (fun H locs hP hD hS => ?_)
        have hP : va_P (dC, dI) vwCl [(h0, .inr (3, [.int v0, .long v1, .long v2, .long v3, .long v4, .long v5, .long v8, .long (r_2 - ((r_2 + v7) - (r_2 + v7) / (2 * r_2) * (2 * r_2))), .long v8, .long ((v7 + (r_2 - ((r_2 + v7) - (r_2 + v7) / (2 * r_2) * (2 * r_2)))) / (2 * v8)), .long v10, .long v11, .long v12, .int v13, .ref h1])), (h1, .inl (cI, 6600, .inl vR))] H := hP
        have hD : va_D A [(h0, .inr (3, [.int v0, .long v1, .long v2, .long v3, .long v4, .long v5, .long v8, .long (r_2 - ((r_2 + v7) - (r_2 + v7) / (2 * r_2) * (2 * r_2))), .long v8, .long ((v7 + (r_2 - ((r_2 + v7) - (r_2 + v7) / (2 * r_2) * (2 * r_2)))) / (2 * v8)), .long v10, .long v11, .long v12, .int v13, .ref h1])), (h1, .inl (cI, 6600, .inl vR))] := hD
        refine lv_aload_n hx hb dX3_step_129 rfl (lv_at hl 5 rfl) ?_
        refine lv_lload hx hb dX3_step_130 (lv_at hl 0 rfl) ?_
        refine va_put (D := (dC, dI)) (ci := 3) (v := .long ((((r_2 - ((r_2 + v7) - (r_2 + v7) / (2 * r_2) * (2 * r_2))) * (r_2 - ((r_2 + v7) - (r_2 + v7) / (2 * r_2) * (2 * r_2)))) - a1) / (4 * v8))) (ty := .long) (C := RX3) (T := TX3) (N := 15) hx hb hts in_X3_step_X3 tyX3 tyX3_ok nmX3 hown hK hP hD hS 0 rfl rfl 8 (by decide) (hts (.fieldLink RX3 75 "FormRingModel" "z" "J") (by decide +kernel)) (fun _ h9 => h9) rfl (by decide +kernel) rfl rfl (Nat.le_of_ble_eq_true rfl) dX3_step_132 (fun H locs hP hD hS => ?_)
        have hP : va_P (dC, dI) vwCl [(h0, .inr (3, [.int v0, .long v1, .long v2, .long v3, .long v4, .long v5, .long v8, .long (r_2 - ((r_2 + v7) - (r_2 + v7) / (2 * r_2) * (2 * r_2))), .long ((((r_2 - ((r_2 + v7) - (r_2 + v7) / (2 * r_2) * (2 * r_2))) * (r_2 - ((r_2 + v7) - (r_2 + v7) / (2 * r_2) * (2 * r_2)))) - a1) / (4 * v8)), .long ((v7 + (r_2 - ((r_2 + v7) - (r_2 + v7) / (2 * r_2) * (2 * r_2)))) / (2 * v8)), .long v10, .long v11, .long v12, .int v13, .ref h1])), (h1, .inl (cI, 6600, .inl vR))] H := hP
        have hD : va_D A [(h0, .inr (3, [.int v0, .long v1, .long v2, .long v3, .long v4, .long v5, .long v8, .long (r_2 - ((r_2 + v7) - (r_2 + v7) / (2 * r_2) * (2 * r_2))), .long ((((r_2 - ((r_2 + v7) - (r_2 + v7) / (2 * r_2) * (2 * r_2))) * (r_2 - ((r_2 + v7) - (r_2 + v7) / (2 * r_2) * (2 * r_2)))) - a1) / (4 * v8)), .long ((v7 + (r_2 - ((r_2 + v7) - (r_2 + v7) / (2 * r_2) * (2 * r_2)))) / (2 * v8)), .long v10, .long v11, .long v12, .int v13, .ref h1])), (h1, .inl (cI, 6600, .inl vR))] := hD
        have ho := Option.some.inj hr
        subst ho
        exact W.vret hx hb hrt (fun t ht hW => ⟨⟨(), rfl, trivial, by rw [ht]; exact hP, va_K.moved hW.alike hK, hD⟩, hS.F ht⟩) hS.2.2 dX3_step_135
      · have hr := (if_pos c_9).symm.trans hr
        refine lv_lload hx hb dX3_step_63 (lv_at hl 0 rfl) ?_
        refine lv_lload hx hb dX3_step_65 (lv_at hl 2 rfl) ?_
        refine lv_ladd hx hb dX3_step_67 ?_
        refine lv_lstore (lv' := [(9, .long (((r_2 + v7) - (r_2 + v7) / (2 * r_2) * (2 * r_2)) + (2 * r_2))), (7, .long r_2), (5, .long (2 * r_2)), (0, .ref h0), (1, .long a1), (3, .long a2)]) hx hb dX3_step_68 hl (by decide) rfl (fun ls hl => ?_)
        refine lv_lload hx hb dX3_step_70 (lv_at hl 1 rfl) ?_
        refine lv_lload hx hb dX3_step_72 (lv_at hl 0 rfl) ?_
        refine lv_lsub hx hb dX3_step_74 ?_
        refine lv_lstore (lv' := [(11, .long (r_2 - (((r_2 + v7) - (r_2 + v7) / (2 * r_2) * (2 * r_2)) + (2 * r_2)))), (9, .long (((r_2 + v7) - (r_2 + v7) / (2 * r_2) * (2 * r_2)) + (2 * r_2))), (7, .long r_2), (5, .long (2 * r_2)), (0, .ref h0), (1, .long a1), (3, .long a2)]) hx hb dX3_step_75 hl (by decide) rfl (fun ls hl => ?_)
        refine lv_aload_n hx hb dX3_step_77 rfl (lv_at hl 4 rfl) ?_
        refine lv_aload_n hx hb dX3_step_78 rfl (lv_at hl 4 rfl) ?_
        refine va_get (D := (dC, dI)) (ci := 3) (v := .long v7) (C := RX3) (T := TX3) (N := 15) hx hb hts in_X3_step_X3 hown hK hP 0 rfl rfl 7 (by decide) (hts (.fieldLink RX3 72 "FormRingModel" "y" "J") (by decide +kernel)) (fun _ h9 => h9) rfl dX3_step_79 ?_
        refine lv_lload hx hb dX3_step_82 (lv_at hl 0 rfl) ?_
        refine lv_ladd hx hb dX3_step_84 ?_
        refine lv_ldc2 (v := 2) hx hb hown (hts (.constantLong RX3 81 (2)) (by decide +kernel)) dX3_step_85 ?_
        refine lv_aload_n hx hb dX3_step_88 rfl (lv_at hl 4 rfl) ?_
        refine va_get (D := (dC, dI)) (ci := 3) (v := .long v8) (C := RX3) (T := TX3) (N := 15) hx hb hts in_X3_step_X3 hown hK hP 0 rfl rfl 8 (by decide) (hts (.fieldLink RX3 75 "FormRingModel" "z" "J") (by decide +kernel)) (fun _ h9 => h9) rfl dX3_step_89 ?_
        refine lv_lmul hx hb dX3_step_92 ?_
        by_cases g_12 : (2 * v8) = 0
        · have hr := (if_pos g_12).symm.trans hr
          cases hr
        have hr := (if_neg g_12).symm.trans hr
        refine lv_ldiv hx hb dX3_step_93 g_12 ?_
        refine va_put (D := (dC, dI)) (ci := 3) (v := .long ((v7 + (r_2 - (((r_2 + v7) - (r_2 + v7) / (2 * r_2) * (2 * r_2)) + (2 * r_2)))) / (2 * v8))) (ty := .long) (C := RX3) (T := TX3) (N := 15) hx hb hts in_X3_step_X3 tyX3 tyX3_ok nmX3 hown hK hP hD hS 0 rfl rfl 9 (by decide) (hts (.fieldLink RX3 83 "FormRingModel" "turn" "J") (by decide +kernel)) (fun _ h9 => h9) rfl (by decide +kernel) rfl rfl (Nat.le_of_ble_eq_true rfl) dX3_step_94 (fun H locs hP hD hS => ?_)
        have hP : va_P (dC, dI) vwCl [(h0, .inr (3, [.int v0, .long v1, .long v2, .long v3, .long v4, .long v5, .long v6, .long v7, .long v8, .long ((v7 + (r_2 - (((r_2 + v7) - (r_2 + v7) / (2 * r_2) * (2 * r_2)) + (2 * r_2)))) / (2 * v8)), .long v10, .long v11, .long v12, .int v13, .ref h1])), (h1, .inl (cI, 6600, .inl vR))] H := hP
        have hD : va_D A [(h0, .inr (3, [.int v0, .long v1, .long v2, .long v3, .long v4, .long v5, .long v6, .long v7, .long v8, .long ((v7 + (r_2 - (((r_2 + v7) - (r_2 + v7) / (2 * r_2) * (2 * r_2)) + (2 * r_2)))) / (2 * v8)), .long v10, .long v11, .long v12, .int v13, .ref h1])), (h1, .inl (cI, 6600, .inl vR))] := hD
        refine lv_lload hx hb dX3_step_97 (lv_at hl 0 rfl) ?_
        refine lv_lload hx hb dX3_step_99 (lv_at hl 0 rfl) ?_
        refine lv_lmul hx hb dX3_step_101 ?_
        refine lv_lload_n hx hb dX3_step_102 rfl (lv_at hl 5 rfl) ?_
        refine lv_lsub hx hb dX3_step_103 ?_
        refine lv_ldc2 (v := 4) hx hb hown (hts (.constantLong RX3 47 (4)) (by decide +kernel)) dX3_step_104 ?_
        refine lv_aload_n hx hb dX3_step_107 rfl (lv_at hl 4 rfl) ?_
        refine va_get (D := (dC, dI)) (ci := 3) (v := .long v8) (C := RX3) (T := TX3) (N := 15) hx hb hts in_X3_step_X3 hown hK hP 0 rfl rfl 8 (by decide) (hts (.fieldLink RX3 75 "FormRingModel" "z" "J") (by decide +kernel)) (fun _ h9 => h9) rfl dX3_step_108 ?_
        refine lv_lmul hx hb dX3_step_111 ?_
        by_cases g_13 : (4 * v8) = 0
        · have hr := (if_pos g_13).symm.trans hr
          cases hr
        have hr := (if_neg g_13).symm.trans hr
        refine lv_ldiv hx hb dX3_step_112 g_13 ?_
        refine lv_lstore (lv' := [(13, .long ((((r_2 - (((r_2 + v7) - (r_2 + v7) / (2 * r_2) * (2 * r_2)) + (2 * r_2))) * (r_2 - (((r_2 + v7) - (r_2 + v7) / (2 * r_2) * (2 * r_2)) + (2 * r_2)))) - a1) / (4 * v8))), (11, .long (r_2 - (((r_2 + v7) - (r_2 + v7) / (2 * r_2) * (2 * r_2)) + (2 * r_2)))), (9, .long (((r_2 + v7) - (r_2 + v7) / (2 * r_2) * (2 * r_2)) + (2 * r_2))), (7, .long r_2), (5, .long (2 * r_2)), (0, .ref h0), (1, .long a1), (3, .long a2)]) hx hb dX3_step_113 hl (by decide) rfl (fun ls hl => ?_)
        refine lv_aload_n hx hb dX3_step_115 rfl (lv_at hl 5 rfl) ?_
        refine lv_aload_n hx hb dX3_step_116 rfl (lv_at hl 5 rfl) ?_
        refine va_get (D := (dC, dI)) (ci := 3) (v := .long v8) (C := RX3) (T := TX3) (N := 15) hx hb hts in_X3_step_X3 hown hK hP 0 rfl rfl 8 (by decide) (hts (.fieldLink RX3 75 "FormRingModel" "z" "J") (by decide +kernel)) (fun _ h9 => h9) rfl dX3_step_117 ?_
        refine va_put (D := (dC, dI)) (ci := 3) (v := .long v8) (ty := .long) (C := RX3) (T := TX3) (N := 15) hx hb hts in_X3_step_X3 tyX3 tyX3_ok nmX3 hown hK hP hD hS 0 rfl rfl 6 (by decide) (hts (.fieldLink RX3 69 "FormRingModel" "x" "J") (by decide +kernel)) (fun _ h9 => h9) rfl (by decide +kernel) rfl rfl (Nat.le_of_ble_eq_true rfl) dX3_step_120 (fun H locs hP hD hS => ?_)
        have hP : va_P (dC, dI) vwCl [(h0, .inr (3, [.int v0, .long v1, .long v2, .long v3, .long v4, .long v5, .long v8, .long v7, .long v8, .long ((v7 + (r_2 - (((r_2 + v7) - (r_2 + v7) / (2 * r_2) * (2 * r_2)) + (2 * r_2)))) / (2 * v8)), .long v10, .long v11, .long v12, .int v13, .ref h1])), (h1, .inl (cI, 6600, .inl vR))] H := hP
        have hD : va_D A [(h0, .inr (3, [.int v0, .long v1, .long v2, .long v3, .long v4, .long v5, .long v8, .long v7, .long v8, .long ((v7 + (r_2 - (((r_2 + v7) - (r_2 + v7) / (2 * r_2) * (2 * r_2)) + (2 * r_2)))) / (2 * v8)), .long v10, .long v11, .long v12, .int v13, .ref h1])), (h1, .inl (cI, 6600, .inl vR))] := hD
        refine lv_aload_n hx hb dX3_step_123 rfl (lv_at hl 5 rfl) ?_
        refine lv_lload hx hb dX3_step_124 (lv_at hl 1 rfl) ?_
        refine va_put (D := (dC, dI)) (ci := 3) (v := .long (r_2 - (((r_2 + v7) - (r_2 + v7) / (2 * r_2) * (2 * r_2)) + (2 * r_2)))) (ty := .long) (C := RX3) (T := TX3) (N := 15) hx hb hts in_X3_step_X3 tyX3 tyX3_ok nmX3 hown hK hP hD hS 0 rfl rfl 7 (by decide) (hts (.fieldLink RX3 72 "FormRingModel" "y" "J") (by decide +kernel)) (fun _ h9 => h9) rfl (by decide +kernel) rfl rfl (Nat.le_of_ble_eq_true rfl) dX3_step_126 (fun H locs hP hD hS => ?_)
        have hP : va_P (dC, dI) vwCl [(h0, .inr (3, [.int v0, .long v1, .long v2, .long v3, .long v4, .long v5, .long v8, .long (r_2 - (((r_2 + v7) - (r_2 + v7) / (2 * r_2) * (2 * r_2)) + (2 * r_2))), .long v8, .long ((v7 + (r_2 - (((r_2 + v7) - (r_2 + v7) / (2 * r_2) * (2 * r_2)) + (2 * r_2)))) / (2 * v8)), .long v10, .long v11, .long v12, .int v13, .ref h1])), (h1, .inl (cI, 6600, .inl vR))] H := hP
        have hD : va_D A [(h0, .inr (3, [.int v0, .long v1, .long v2, .long v3, .long v4, .long v5, .long v8, .long (r_2 - (((r_2 + v7) - (r_2 + v7) / (2 * r_2) * (2 * r_2)) + (2 * r_2))), .long v8, .long ((v7 + (r_2 - (((r_2 + v7) - (r_2 + v7) / (2 * r_2) * (2 * r_2)) + (2 * r_2)))) / (2 * v8)), .long v10, .long v11, .long v12, .int v13, .ref h1])), (h1, .inl (cI, 6600, .inl vR))] := hD
        refine lv_aload_n hx hb dX3_step_129 rfl (lv_at hl 5 rfl) ?_
        refine lv_lload hx hb dX3_step_130 (lv_at hl 0 rfl) ?_
        refine va_put (D := (dC, dI)) (ci := 3) (v := .long ((((r_2 - (((r_2 + v7) - (r_2 + v7) / (2 * r_2) * (2 * r_2)) + (2 * r_2))) * (r_2 - (((r_2 + v7) - (r_2 + v7) / (2 * r_2) * (2 * r_2)) + (2 * r_2)))) - a1) / (4 * v8))) (ty := .long) (C := RX3) (T := TX3) (N := 15) hx hb hts in_X3_step_X3 tyX3 tyX3_ok nmX3 hown hK hP hD hS 0 rfl rfl 8 (by decide) (hts (.fieldLink RX3 75 "FormRingModel" "z" "J") (by decide +kernel)) (fun _ h9 => h9) rfl (by decide +kernel) rfl rfl (Nat.le_of_ble_eq_true rfl) dX3_step_132 (fun H locs hP hD hS => ?_)
        have hP : va_P (dC, dI) vwCl [(h0, .inr (3, [.int v0, .long v1, .long v2, .long v3, .long v4, .long v5, .long v8, .long (r_2 - (((r_2 + v7) - (r_2 + v7) / (2 * r_2) * (2 * r_2)) + (2 * r_2))), .long ((((r_2 - (((r_2 + v7) - (r_2 + v7) / (2 * r_2) * (2 * r_2)) + (2 * r_2))) * (r_2 - (((r_2 + v7) - (r_2 + v7) / (2 * r_2) * (2 * r_2)) + (2 * r_2)))) - a1) / (4 * v8)), .long ((v7 + (r_2 - (((r_2 + v7) - (r_2 + v7) / (2 * r_2) * (2 * r_2)) + (2 * r_2)))) / (2 * v8)), .long v10, .long v11, .long v12, .int v13, .ref h1])), (h1, .inl (cI, 6600, .inl vR))] H := hP
        have hD : va_D A [(h0, .inr (3, [.int v0, .long v1, .long v2, .long v3, .long v4, .long v5, .long v8, .long (r_2 - (((r_2 + v7) - (r_2 + v7) / (2 * r_2) * (2 * r_2)) + (2 * r_2))), .long ((((r_2 - (((r_2 + v7) - (r_2 + v7) / (2 * r_2) * (2 * r_2)) + (2 * r_2))) * (r_2 - (((r_2 + v7) - (r_2 + v7) / (2 * r_2) * (2 * r_2)) + (2 * r_2)))) - a1) / (4 * v8)), .long ((v7 + (r_2 - (((r_2 + v7) - (r_2 + v7) / (2 * r_2) * (2 * r_2)) + (2 * r_2)))) / (2 * v8)), .long v10, .long v11, .long v12, .int v13, .ref h1])), (h1, .inl (cI, 6600, .inl vR))] := hD
        have ho := Option.some.inj hr
        subst ho
        exact W.vret hx hb hrt (fun t ht hW => ⟨⟨(), rfl, trivial, by rw [ht]; exact hP, va_K.moved hW.alike hK, hD⟩, hS.F ht⟩) hS.2.2 dX3_step_135
    · have hr := (if_neg c_4).symm.trans hr
      refine lv_aload_n hx hb dX3_step_19 rfl (lv_at hl 1 rfl) ?_
      refine va_get (D := (dC, dI)) (ci := 3) (v := .long v8) (C := RX3) (T := TX3) (N := 15) hx hb hts in_X3_step_X3 hown hK hP 0 rfl rfl 8 (by decide) (hts (.fieldLink RX3 75 "FormRingModel" "z" "J") (by decide +kernel)) (fun _ h9 => h9) rfl dX3_step_20 ?_
      rw [Option.bind_some] at hr
      have hPc := hP.sub (ws' := []) [] rfl
      have hDc := hD.sub (ws' := []) [] (by decide) rfl
      have hKc := hK.sub (tys' := []) [] rfl
      have hFc := va_free (wc := []) hD hS hA [] rfl
      refine va_calll (va_runS (As := [.long v8]) (rest := []) ⟨hx, hb, hml, hown, hts⟩ (c_X3_size l dC dI H.size  v8 n _ e_1) (va_cwS 1 hts gX3_step_X3_size rfl rfl rfl (by decide +kernel) ⟨Nat.le_of_ble_eq_true rfl, Nat.le_of_ble_eq_true rfl⟩) ⟨fun a U g mk q => by obtain ⟨q0, q1, qP, qK, qD⟩ := q; exact ⟨q0, q1, qP, va_K.moved (u := U) (U := U.calling g mk a) (Vm.Alike.refl U.vm) qK, qD⟩, fun U hU hW => ⟨rfl, by rw [hU], by rw [hU]; exact hPc, va_K.moved hW.alike hKc, hDc.weaken (fun _ _ _ _ => trivial)⟩⟩ rfl rfl hl.1 rfl (lv_room (Nat.le_of_ble_eq_true rfl)) dX3_step_23 ⟨Nat.zero_le _, Nat.zero_le _⟩) hS (fun q _ h => hFc q h) hFc (fun x_16 _ t H1 locs ht hvm hw hB hz1 hk1 hS => ?_)
      have hw := hw.symm
      subst hw
      obtain ⟨hP1, hK1, hD1⟩ := hB
      rw [ht] at hP1
      obtain ⟨hP, hD⟩ := va_join (wr := [(h0, .inr (3, [.int v0, .long v1, .long v2, .long v3, .long v4, .long v5, .long v6, .long v7, .long v8, .long v9, .long v10, .long v11, .long v12, .int v13, .ref h1])), (h1, .inl (cI, 6600, .inl vR))]) (w1 := []) hP hD [] [0, 1] rfl rfl (by decide) (by decide) hk1 hFc hP1 hD1
      generalize H1 = H at hP hS ⊢
      have hP : va_P (dC, dI) vwCl [(h0, .inr (3, [.int v0, .long v1, .long v2, .long v3, .long v4, .long v5, .long v6, .long v7, .long v8, .long v9, .long v10, .long v11, .long v12, .int v13, .ref h1])), (h1, .inl (cI, 6600, .inl vR))] H := hP
      have hD : va_D A [(h0, .inr (3, [.int v0, .long v1, .long v2, .long v3, .long v4, .long v5, .long v6, .long v7, .long v8, .long v9, .long v10, .long v11, .long v12, .int v13, .ref h1])), (h1, .inl (cI, 6600, .inl vR))] := hD
      refine W.widen (k := 0) (n := 0) (Nat.le_refl _) (Nat.le_refl _) ?_
      refine lv_lload_n hx hb dX3_step_26 rfl (lv_at hl 3 rfl) ?_
      refine lz_lle (tgt := 41) hx hb dX3_step_27 dX3_step_28 (by decide) (fun c_17 => ?_) (fun c_17 => ?_)
      · have hr := (if_neg c_17).symm.trans hr
        refine lv_lload_n hx hb dX3_step_41 rfl (lv_at hl 3 rfl) ?_
        refine lv_lstore (lv' := [(7, .long a2), (5, .long (2 * r_2)), (0, .ref h0), (1, .long a1), (3, .long a2)]) hx hb dX3_step_42 hl (by decide) rfl (fun ls hl => ?_)
        refine lv_lload hx hb dX3_step_44 (lv_at hl 0 rfl) ?_
        refine lv_aload_n hx hb dX3_step_46 rfl (lv_at hl 2 rfl) ?_
        refine va_get (D := (dC, dI)) (ci := 3) (v := .long v7) (C := RX3) (T := TX3) (N := 15) hx hb hts in_X3_step_X3 hown hK hP 0 rfl rfl 7 (by decide) (hts (.fieldLink RX3 72 "FormRingModel" "y" "J") (by decide +kernel)) (fun _ h9 => h9) rfl dX3_step_47 ?_
        refine lv_ladd hx hb dX3_step_50 ?_
        refine lv_lload hx hb dX3_step_51 (lv_at hl 1 rfl) ?_
        by_cases g_18 : (2 * r_2) = 0
        · have hr := (if_pos g_18).symm.trans hr
          cases hr
        have hr := (if_neg g_18).symm.trans hr
        refine lv_lrem hx hb dX3_step_53 g_18 ?_
        refine lv_lstore (lv' := [(9, .long ((a2 + v7) - (a2 + v7) / (2 * r_2) * (2 * r_2))), (7, .long a2), (5, .long (2 * r_2)), (0, .ref h0), (1, .long a1), (3, .long a2)]) hx hb dX3_step_54 hl (by decide) rfl (fun ls hl => ?_)
        refine lv_lload hx hb dX3_step_56 (lv_at hl 0 rfl) ?_
        refine lv_lconst (v := 0) hx hb dX3_step_58 (by decide) ?_
        refine lz_lge (tgt := 70) hx hb dX3_step_59 dX3_step_60 (by decide) (fun c_19 => ?_) (fun c_19 => ?_)
        · have hr := (if_neg c_19).symm.trans hr
          refine lv_lload hx hb dX3_step_70 (lv_at hl 1 rfl) ?_
          refine lv_lload hx hb dX3_step_72 (lv_at hl 0 rfl) ?_
          refine lv_lsub hx hb dX3_step_74 ?_
          refine lv_lstore (lv' := [(11, .long (a2 - ((a2 + v7) - (a2 + v7) / (2 * r_2) * (2 * r_2)))), (9, .long ((a2 + v7) - (a2 + v7) / (2 * r_2) * (2 * r_2))), (7, .long a2), (5, .long (2 * r_2)), (0, .ref h0), (1, .long a1), (3, .long a2)]) hx hb dX3_step_75 hl (by decide) rfl (fun ls hl => ?_)
          refine lv_aload_n hx hb dX3_step_77 rfl (lv_at hl 4 rfl) ?_
          refine lv_aload_n hx hb dX3_step_78 rfl (lv_at hl 4 rfl) ?_
          refine va_get (D := (dC, dI)) (ci := 3) (v := .long v7) (C := RX3) (T := TX3) (N := 15) hx hb hts in_X3_step_X3 hown hK hP 0 rfl rfl 7 (by decide) (hts (.fieldLink RX3 72 "FormRingModel" "y" "J") (by decide +kernel)) (fun _ h9 => h9) rfl dX3_step_79 ?_
          refine lv_lload hx hb dX3_step_82 (lv_at hl 0 rfl) ?_
          refine lv_ladd hx hb dX3_step_84 ?_
          refine lv_ldc2 (v := 2) hx hb hown (hts (.constantLong RX3 81 (2)) (by decide +kernel)) dX3_step_85 ?_
          refine lv_aload_n hx hb dX3_step_88 rfl (lv_at hl 4 rfl) ?_
          refine va_get (D := (dC, dI)) (ci := 3) (v := .long v8) (C := RX3) (T := TX3) (N := 15) hx hb hts in_X3_step_X3 hown hK hP 0 rfl rfl 8 (by decide) (hts (.fieldLink RX3 75 "FormRingModel" "z" "J") (by decide +kernel)) (fun _ h9 => h9) rfl dX3_step_89 ?_
          refine lv_lmul hx hb dX3_step_92 ?_
          by_cases g_20 : (2 * v8) = 0
          · have hr := (if_pos g_20).symm.trans hr
            cases hr
          have hr := (if_neg g_20).symm.trans hr
          refine lv_ldiv hx hb dX3_step_93 g_20 ?_
          refine va_put (D := (dC, dI)) (ci := 3) (v := .long ((v7 + (a2 - ((a2 + v7) - (a2 + v7) / (2 * r_2) * (2 * r_2)))) / (2 * v8))) (ty := .long) (C := RX3) (T := TX3) (N := 15) hx hb hts in_X3_step_X3 tyX3 tyX3_ok nmX3 hown hK hP hD hS 0 rfl rfl 9 (by decide) (hts (.fieldLink RX3 83 "FormRingModel" "turn" "J") (by decide +kernel)) (fun _ h9 => h9) rfl (by decide +kernel) rfl rfl (Nat.le_of_ble_eq_true rfl) dX3_step_94 (fun H locs hP hD hS => ?_)
          have hP : va_P (dC, dI) vwCl [(h0, .inr (3, [.int v0, .long v1, .long v2, .long v3, .long v4, .long v5, .long v6, .long v7, .long v8, .long ((v7 + (a2 - ((a2 + v7) - (a2 + v7) / (2 * r_2) * (2 * r_2)))) / (2 * v8)), .long v10, .long v11, .long v12, .int v13, .ref h1])), (h1, .inl (cI, 6600, .inl vR))] H := hP
          have hD : va_D A [(h0, .inr (3, [.int v0, .long v1, .long v2, .long v3, .long v4, .long v5, .long v6, .long v7, .long v8, .long ((v7 + (a2 - ((a2 + v7) - (a2 + v7) / (2 * r_2) * (2 * r_2)))) / (2 * v8)), .long v10, .long v11, .long v12, .int v13, .ref h1])), (h1, .inl (cI, 6600, .inl vR))] := hD
          refine lv_lload hx hb dX3_step_97 (lv_at hl 0 rfl) ?_
          refine lv_lload hx hb dX3_step_99 (lv_at hl 0 rfl) ?_
          refine lv_lmul hx hb dX3_step_101 ?_
          refine lv_lload_n hx hb dX3_step_102 rfl (lv_at hl 5 rfl) ?_
          refine lv_lsub hx hb dX3_step_103 ?_
          refine lv_ldc2 (v := 4) hx hb hown (hts (.constantLong RX3 47 (4)) (by decide +kernel)) dX3_step_104 ?_
          refine lv_aload_n hx hb dX3_step_107 rfl (lv_at hl 4 rfl) ?_
          refine va_get (D := (dC, dI)) (ci := 3) (v := .long v8) (C := RX3) (T := TX3) (N := 15) hx hb hts in_X3_step_X3 hown hK hP 0 rfl rfl 8 (by decide) (hts (.fieldLink RX3 75 "FormRingModel" "z" "J") (by decide +kernel)) (fun _ h9 => h9) rfl dX3_step_108 ?_
          refine lv_lmul hx hb dX3_step_111 ?_
          by_cases g_21 : (4 * v8) = 0
          · have hr := (if_pos g_21).symm.trans hr
            cases hr
          have hr := (if_neg g_21).symm.trans hr
          refine lv_ldiv hx hb dX3_step_112 g_21 ?_
          refine lv_lstore (lv' := [(13, .long ((((a2 - ((a2 + v7) - (a2 + v7) / (2 * r_2) * (2 * r_2))) * (a2 - ((a2 + v7) - (a2 + v7) / (2 * r_2) * (2 * r_2)))) - a1) / (4 * v8))), (11, .long (a2 - ((a2 + v7) - (a2 + v7) / (2 * r_2) * (2 * r_2)))), (9, .long ((a2 + v7) - (a2 + v7) / (2 * r_2) * (2 * r_2))), (7, .long a2), (5, .long (2 * r_2)), (0, .ref h0), (1, .long a1), (3, .long a2)]) hx hb dX3_step_113 hl (by decide) rfl (fun ls hl => ?_)
          refine lv_aload_n hx hb dX3_step_115 rfl (lv_at hl 5 rfl) ?_
          refine lv_aload_n hx hb dX3_step_116 rfl (lv_at hl 5 rfl) ?_
          refine va_get (D := (dC, dI)) (ci := 3) (v := .long v8) (C := RX3) (T := TX3) (N := 15) hx hb hts in_X3_step_X3 hown hK hP 0 rfl rfl 8 (by decide) (hts (.fieldLink RX3 75 "FormRingModel" "z" "J") (by decide +kernel)) (fun _ h9 => h9) rfl dX3_step_117 ?_
          refine va_put (D := (dC, dI)) (ci := 3) (v := .long v8) (ty := .long) (C := RX3) (T := TX3) (N := 15) hx hb hts in_X3_step_X3 tyX3 tyX3_ok nmX3 hown hK hP hD hS 0 rfl rfl 6 (by decide) (hts (.fieldLink RX3 69 "FormRingModel" "x" "J") (by decide +kernel)) (fun _ h9 => h9) rfl (by decide +kernel) rfl rfl (Nat.le_of_ble_eq_true rfl) dX3_step_120 (fun H locs hP hD hS => ?_)
          have hP : va_P (dC, dI) vwCl [(h0, .inr (3, [.int v0, .long v1, .long v2, .long v3, .long v4, .long v5, .long v8, .long v7, .long v8, .long ((v7 + (a2 - ((a2 + v7) - (a2 + v7) / (2 * r_2) * (2 * r_2)))) / (2 * v8)), .long v10, .long v11, .long v12, .int v13, .ref h1])), (h1, .inl (cI, 6600, .inl vR))] H := hP
          have hD : va_D A [(h0, .inr (3, [.int v0, .long v1, .long v2, .long v3, .long v4, .long v5, .long v8, .long v7, .long v8, .long ((v7 + (a2 - ((a2 + v7) - (a2 + v7) / (2 * r_2) * (2 * r_2)))) / (2 * v8)), .long v10, .long v11, .long v12, .int v13, .ref h1])), (h1, .inl (cI, 6600, .inl vR))] := hD
          refine lv_aload_n hx hb dX3_step_123 rfl (lv_at hl 5 rfl) ?_
          refine lv_lload hx hb dX3_step_124 (lv_at hl 1 rfl) ?_
          refine va_put (D := (dC, dI)) (ci := 3) (v := .long (a2 - ((a2 + v7) - (a2 + v7) / (2 * r_2) * (2 * r_2)))) (ty := .long) (C := RX3) (T := TX3) (N := 15) hx hb hts in_X3_step_X3 tyX3 tyX3_ok nmX3 hown hK hP hD hS 0 rfl rfl 7 (by decide) (hts (.fieldLink RX3 72 "FormRingModel" "y" "J") (by decide +kernel)) (fun _ h9 => h9) rfl (by decide +kernel) rfl rfl (Nat.le_of_ble_eq_true rfl) dX3_step_126 (fun H locs hP hD hS => ?_)
          have hP : va_P (dC, dI) vwCl [(h0, .inr (3, [.int v0, .long v1, .long v2, .long v3, .long v4, .long v5, .long v8, .long (a2 - ((a2 + v7) - (a2 + v7) / (2 * r_2) * (2 * r_2))), .long v8, .long ((v7 + (a2 - ((a2 + v7) - (a2 + v7) / (2 * r_2) * (2 * r_2)))) / (2 * v8)), .long v10, .long v11, .long v12, .int v13, .ref h1])), (h1, .inl (cI, 6600, .inl vR))] H := hP
          have hD : va_D A [(h0, .inr (3, [.int v0, .long v1, .long v2, .long v3, .long v4, .long v5, .long v8, .long (a2 - ((a2 + v7) - (a2 + v7) / (2 * r_2) * (2 * r_2))), .long v8, .long ((v7 + (a2 - ((a2 + v7) - (a2 + v7) / (2 * r_2) * (2 * r_2)))) / (2 * v8)), .long v10, .long v11, .long v12, .int v13, .ref h1])), (h1, .inl (cI, 6600, .inl vR))] := hD
          refine lv_aload_n hx hb dX3_step_129 rfl (lv_at hl 5 rfl) ?_
          refine lv_lload hx hb dX3_step_130 (lv_at hl 0 rfl) ?_
          refine va_put (D := (dC, dI)) (ci := 3) (v := .long ((((a2 - ((a2 + v7) - (a2 + v7) / (2 * r_2) * (2 * r_2))) * (a2 - ((a2 + v7) - (a2 + v7) / (2 * r_2) * (2 * r_2)))) - a1) / (4 * v8))) (ty := .long) (C := RX3) (T := TX3) (N := 15) hx hb hts in_X3_step_X3 tyX3 tyX3_ok nmX3 hown hK hP hD hS 0 rfl rfl 8 (by decide) (hts (.fieldLink RX3 75 "FormRingModel" "z" "J") (by decide +kernel)) (fun _ h9 => h9) rfl (by decide +kernel) rfl rfl (Nat.le_of_ble_eq_true rfl) dX3_step_132 (fun H locs hP hD hS => ?_)
          have hP : va_P (dC, dI) vwCl [(h0, .inr (3, [.int v0, .long v1, .long v2, .long v3, .long v4, .long v5, .long v8, .long (a2 - ((a2 + v7) - (a2 + v7) / (2 * r_2) * (2 * r_2))), .long ((((a2 - ((a2 + v7) - (a2 + v7) / (2 * r_2) * (2 * r_2))) * (a2 - ((a2 + v7) - (a2 + v7) / (2 * r_2) * (2 * r_2)))) - a1) / (4 * v8)), .long ((v7 + (a2 - ((a2 + v7) - (a2 + v7) / (2 * r_2) * (2 * r_2)))) / (2 * v8)), .long v10, .long v11, .long v12, .int v13, .ref h1])), (h1, .inl (cI, 6600, .inl vR))] H := hP
          have hD : va_D A [(h0, .inr (3, [.int v0, .long v1, .long v2, .long v3, .long v4, .long v5, .long v8, .long (a2 - ((a2 + v7) - (a2 + v7) / (2 * r_2) * (2 * r_2))), .long ((((a2 - ((a2 + v7) - (a2 + v7) / (2 * r_2) * (2 * r_2))) * (a2 - ((a2 + v7) - (a2 + v7) / (2 * r_2) * (2 * r_2)))) - a1) / (4 * v8)), .long ((v7 + (a2 - ((a2 + v7) - (a2 + v7) / (2 * r_2) * (2 * r_2)))) / (2 * v8)), .long v10, .long v11, .long v12, .int v13, .ref h1])), (h1, .inl (cI, 6600, .inl vR))] := hD
          have ho := Option.some.inj hr
          subst ho
          exact W.vret hx hb hrt (fun t ht hW => ⟨⟨(), rfl, trivial, by rw [ht]; exact hP, va_K.moved hW.alike hK, hD⟩, hS.F ht⟩) hS.2.2 dX3_step_135
        · have hr := (if_pos c_19).symm.trans hr
          refine lv_lload hx hb dX3_step_63 (lv_at hl 0 rfl) ?_
          refine lv_lload hx hb dX3_step_65 (lv_at hl 2 rfl) ?_
          refine lv_ladd hx hb dX3_step_67 ?_
          refine lv_lstore (lv' := [(9, .long (((a2 + v7) - (a2 + v7) / (2 * r_2) * (2 * r_2)) + (2 * r_2))), (7, .long a2), (5, .long (2 * r_2)), (0, .ref h0), (1, .long a1), (3, .long a2)]) hx hb dX3_step_68 hl (by decide) rfl (fun ls hl => ?_)
          refine lv_lload hx hb dX3_step_70 (lv_at hl 1 rfl) ?_
          refine lv_lload hx hb dX3_step_72 (lv_at hl 0 rfl) ?_
          refine lv_lsub hx hb dX3_step_74 ?_
          refine lv_lstore (lv' := [(11, .long (a2 - (((a2 + v7) - (a2 + v7) / (2 * r_2) * (2 * r_2)) + (2 * r_2)))), (9, .long (((a2 + v7) - (a2 + v7) / (2 * r_2) * (2 * r_2)) + (2 * r_2))), (7, .long a2), (5, .long (2 * r_2)), (0, .ref h0), (1, .long a1), (3, .long a2)]) hx hb dX3_step_75 hl (by decide) rfl (fun ls hl => ?_)
          refine lv_aload_n hx hb dX3_step_77 rfl (lv_at hl 4 rfl) ?_
          refine lv_aload_n hx hb dX3_step_78 rfl (lv_at hl 4 rfl) ?_
          refine va_get (D := (dC, dI)) (ci := 3) (v := .long v7) (C := RX3) (T := TX3) (N := 15) hx hb hts in_X3_step_X3 hown hK hP 0 rfl rfl 7 (by decide) (hts (.fieldLink RX3 72 "FormRingModel" "y" "J") (by decide +kernel)) (fun _ h9 => h9) rfl dX3_step_79 ?_
          refine lv_lload hx hb dX3_step_82 (lv_at hl 0 rfl) ?_
          refine lv_ladd hx hb dX3_step_84 ?_
          refine lv_ldc2 (v := 2) hx hb hown (hts (.constantLong RX3 81 (2)) (by decide +kernel)) dX3_step_85 ?_
          refine lv_aload_n hx hb dX3_step_88 rfl (lv_at hl 4 rfl) ?_
          refine va_get (D := (dC, dI)) (ci := 3) (v := .long v8) (C := RX3) (T := TX3) (N := 15) hx hb hts in_X3_step_X3 hown hK hP 0 rfl rfl 8 (by decide) (hts (.fieldLink RX3 75 "FormRingModel" "z" "J") (by decide +kernel)) (fun _ h9 => h9) rfl dX3_step_89 ?_
          refine lv_lmul hx hb dX3_step_92 ?_
          by_cases g_22 : (2 * v8) = 0
          · have hr := (if_pos g_22).symm.trans hr
            cases hr
          have hr := (if_neg g_22).symm.trans hr
          refine lv_ldiv hx hb dX3_step_93 g_22 ?_
          refine va_put (D := (dC, dI)) (ci := 3) (v := .long ((v7 + (a2 - (((a2 + v7) - (a2 + v7) / (2 * r_2) * (2 * r_2)) + (2 * r_2)))) / (2 * v8))) (ty := .long) (C := RX3) (T := TX3) (N := 15) hx hb hts in_X3_step_X3 tyX3 tyX3_ok nmX3 hown hK hP hD hS 0 rfl rfl 9 (by decide) (hts (.fieldLink RX3 83 "FormRingModel" "turn" "J") (by decide +kernel)) (fun _ h9 => h9) rfl (by decide +kernel) rfl rfl (Nat.le_of_ble_eq_true rfl) dX3_step_94 (fun H locs hP hD hS => ?_)
          have hP : va_P (dC, dI) vwCl [(h0, .inr (3, [.int v0, .long v1, .long v2, .long v3, .long v4, .long v5, .long v6, .long v7, .long v8, .long ((v7 + (a2 - (((a2 + v7) - (a2 + v7) / (2 * r_2) * (2 * r_2)) + (2 * r_2)))) / (2 * v8)), .long v10, .long v11, .long v12, .int v13, .ref h1])), (h1, .inl (cI, 6600, .inl vR))] H := hP
          have hD : va_D A [(h0, .inr (3, [.int v0, .long v1, .long v2, .long v3, .long v4, .long v5, .long v6, .long v7, .long v8, .long ((v7 + (a2 - (((a2 + v7) - (a2 + v7) / (2 * r_2) * (2 * r_2)) + (2 * r_2)))) / (2 * v8)), .long v10, .long v11, .long v12, .int v13, .ref h1])), (h1, .inl (cI, 6600, .inl vR))] := hD
          refine lv_lload hx hb dX3_step_97 (lv_at hl 0 rfl) ?_
          refine lv_lload hx hb dX3_step_99 (lv_at hl 0 rfl) ?_
          refine lv_lmul hx hb dX3_step_101 ?_
          refine lv_lload_n hx hb dX3_step_102 rfl (lv_at hl 5 rfl) ?_
          refine lv_lsub hx hb dX3_step_103 ?_
          refine lv_ldc2 (v := 4) hx hb hown (hts (.constantLong RX3 47 (4)) (by decide +kernel)) dX3_step_104 ?_
          refine lv_aload_n hx hb dX3_step_107 rfl (lv_at hl 4 rfl) ?_
          refine va_get (D := (dC, dI)) (ci := 3) (v := .long v8) (C := RX3) (T := TX3) (N := 15) hx hb hts in_X3_step_X3 hown hK hP 0 rfl rfl 8 (by decide) (hts (.fieldLink RX3 75 "FormRingModel" "z" "J") (by decide +kernel)) (fun _ h9 => h9) rfl dX3_step_108 ?_
          refine lv_lmul hx hb dX3_step_111 ?_
          by_cases g_23 : (4 * v8) = 0
          · have hr := (if_pos g_23).symm.trans hr
            cases hr
          have hr := (if_neg g_23).symm.trans hr
          refine lv_ldiv hx hb dX3_step_112 g_23 ?_
          refine lv_lstore (lv' := [(13, .long ((((a2 - (((a2 + v7) - (a2 + v7) / (2 * r_2) * (2 * r_2)) + (2 * r_2))) * (a2 - (((a2 + v7) - (a2 + v7) / (2 * r_2) * (2 * r_2)) + (2 * r_2)))) - a1) / (4 * v8))), (11, .long (a2 - (((a2 + v7) - (a2 + v7) / (2 * r_2) * (2 * r_2)) + (2 * r_2)))), (9, .long (((a2 + v7) - (a2 + v7) / (2 * r_2) * (2 * r_2)) + (2 * r_2))), (7, .long a2), (5, .long (2 * r_2)), (0, .ref h0), (1, .long a1), (3, .long a2)]) hx hb dX3_step_113 hl (by decide) rfl (fun ls hl => ?_)
          refine lv_aload_n hx hb dX3_step_115 rfl (lv_at hl 5 rfl) ?_
          refine lv_aload_n hx hb dX3_step_116 rfl (lv_at hl 5 rfl) ?_
          refine va_get (D := (dC, dI)) (ci := 3) (v := .long v8) (C := RX3) (T := TX3) (N := 15) hx hb hts in_X3_step_X3 hown hK hP 0 rfl rfl 8 (by decide) (hts (.fieldLink RX3 75 "FormRingModel" "z" "J") (by decide +kernel)) (fun _ h9 => h9) rfl dX3_step_117 ?_
          refine va_put (D := (dC, dI)) (ci := 3) (v := .long v8) (ty := .long) (C := RX3) (T := TX3) (N := 15) hx hb hts in_X3_step_X3 tyX3 tyX3_ok nmX3 hown hK hP hD hS 0 rfl rfl 6 (by decide) (hts (.fieldLink RX3 69 "FormRingModel" "x" "J") (by decide +kernel)) (fun _ h9 => h9) rfl (by decide +kernel) rfl rfl (Nat.le_of_ble_eq_true rfl) dX3_step_120 (fun H locs hP hD hS => ?_)
          have hP : va_P (dC, dI) vwCl [(h0, .inr (3, [.int v0, .long v1, .long v2, .long v3, .long v4, .long v5, .long v8, .long v7, .long v8, .long ((v7 + (a2 - (((a2 + v7) - (a2 + v7) / (2 * r_2) * (2 * r_2)) + (2 * r_2)))) / (2 * v8)), .long v10, .long v11, .long v12, .int v13, .ref h1])), (h1, .inl (cI, 6600, .inl vR))] H := hP
          have hD : va_D A [(h0, .inr (3, [.int v0, .long v1, .long v2, .long v3, .long v4, .long v5, .long v8, .long v7, .long v8, .long ((v7 + (a2 - (((a2 + v7) - (a2 + v7) / (2 * r_2) * (2 * r_2)) + (2 * r_2)))) / (2 * v8)), .long v10, .long v11, .long v12, .int v13, .ref h1])), (h1, .inl (cI, 6600, .inl vR))] := hD
          refine lv_aload_n hx hb dX3_step_123 rfl (lv_at hl 5 rfl) ?_
          refine lv_lload hx hb dX3_step_124 (lv_at hl 1 rfl) ?_
          refine va_put (D := (dC, dI)) (ci := 3) (v := .long (a2 - (((a2 + v7) - (a2 + v7) / (2 * r_2) * (2 * r_2)) + (2 * r_2)))) (ty := .long) (C := RX3) (T := TX3) (N := 15) hx hb hts in_X3_step_X3 tyX3 tyX3_ok nmX3 hown hK hP hD hS 0 rfl rfl 7 (by decide) (hts (.fieldLink RX3 72 "FormRingModel" "y" "J") (by decide +kernel)) (fun _ h9 => h9) rfl (by decide +kernel) rfl rfl (Nat.le_of_ble_eq_true rfl) dX3_step_126 (fun H locs hP hD hS => ?_)
          have hP : va_P (dC, dI) vwCl [(h0, .inr (3, [.int v0, .long v1, .long v2, .long v3, .long v4, .long v5, .long v8, .long (a2 - (((a2 + v7) - (a2 + v7) / (2 * r_2) * (2 * r_2)) + (2 * r_2))), .long v8, .long ((v7 + (a2 - (((a2 + v7) - (a2 + v7) / (2 * r_2) * (2 * r_2)) + (2 * r_2)))) / (2 * v8)), .long v10, .long v11, .long v12, .int v13, .ref h1])), (h1, .inl (cI, 6600, .inl vR))] H := hP
          have hD : va_D A [(h0, .inr (3, [.int v0, .long v1, .long v2, .long v3, .long v4, .long v5, .long v8, .long (a2 - (((a2 + v7) - (a2 + v7) / (2 * r_2) * (2 * r_2)) + (2 * r_2))), .long v8, .long ((v7 + (a2 - (((a2 + v7) - (a2 + v7) / (2 * r_2) * (2 * r_2)) + (2 * r_2)))) / (2 * v8)), .long v10, .long v11, .long v12, .int v13, .ref h1])), (h1, .inl (cI, 6600, .inl vR))] := hD
          refine lv_aload_n hx hb dX3_step_129 rfl (lv_at hl 5 rfl) ?_
          refine lv_lload hx hb dX3_step_130 (lv_at hl 0 rfl) ?_
          refine va_put (D := (dC, dI)) (ci := 3) (v := .long ((((a2 - (((a2 + v7) - (a2 + v7) / (2 * r_2) * (2 * r_2)) + (2 * r_2))) * (a2 - (((a2 + v7) - (a2 + v7) / (2 * r_2) * (2 * r_2)) + (2 * r_2)))) - a1) / (4 * v8))) (ty := .long) (C := RX3) (T := TX3) (N := 15) hx hb hts in_X3_step_X3 tyX3 tyX3_ok nmX3 hown hK hP hD hS 0 rfl rfl 8 (by decide) (hts (.fieldLink RX3 75 "FormRingModel" "z" "J") (by decide +kernel)) (fun _ h9 => h9) rfl (by decide +kernel) rfl rfl (Nat.le_of_ble_eq_true rfl) dX3_step_132 (fun H locs hP hD hS => ?_)
          have hP : va_P (dC, dI) vwCl [(h0, .inr (3, [.int v0, .long v1, .long v2, .long v3, .long v4, .long v5, .long v8, .long (a2 - (((a2 + v7) - (a2 + v7) / (2 * r_2) * (2 * r_2)) + (2 * r_2))), .long ((((a2 - (((a2 + v7) - (a2 + v7) / (2 * r_2) * (2 * r_2)) + (2 * r_2))) * (a2 - (((a2 + v7) - (a2 + v7) / (2 * r_2) * (2 * r_2)) + (2 * r_2)))) - a1) / (4 * v8)), .long ((v7 + (a2 - (((a2 + v7) - (a2 + v7) / (2 * r_2) * (2 * r_2)) + (2 * r_2)))) / (2 * v8)), .long v10, .long v11, .long v12, .int v13, .ref h1])), (h1, .inl (cI, 6600, .inl vR))] H := hP
          have hD : va_D A [(h0, .inr (3, [.int v0, .long v1, .long v2, .long v3, .long v4, .long v5, .long v8, .long (a2 - (((a2 + v7) - (a2 + v7) / (2 * r_2) * (2 * r_2)) + (2 * r_2))), .long ((((a2 - (((a2 + v7) - (a2 + v7) / (2 * r_2) * (2 * r_2)) + (2 * r_2))) * (a2 - (((a2 + v7) - (a2 + v7) / (2 * r_2) * (2 * r_2)) + (2 * r_2)))) - a1) / (4 * v8)), .long ((v7 + (a2 - (((a2 + v7) - (a2 + v7) / (2 * r_2) * (2 * r_2)) + (2 * r_2)))) / (2 * v8)), .long v10, .long v11, .long v12, .int v13, .ref h1])), (h1, .inl (cI, 6600, .inl vR))] := hD
          have ho := Option.some.inj hr
          subst ho
          exact W.vret hx hb hrt (fun t ht hW => ⟨⟨(), rfl, trivial, by rw [ht]; exact hP, va_K.moved hW.alike hK, hD⟩, hS.F ht⟩) hS.2.2 dX3_step_135
      · have hr := (if_pos c_17).symm.trans hr
        refine lv_aload_n hx hb dX3_step_31 rfl (lv_at hl 1 rfl) ?_
        refine va_get (D := (dC, dI)) (ci := 3) (v := .long v8) (C := RX3) (T := TX3) (N := 15) hx hb hts in_X3_step_X3 hown hK hP 0 rfl rfl 8 (by decide) (hts (.fieldLink RX3 75 "FormRingModel" "z" "J") (by decide +kernel)) (fun _ h9 => h9) rfl dX3_step_32 ?_
        rw [Option.bind_some] at hr
        have hPc := hP.sub (ws' := []) [] rfl
        have hDc := hD.sub (ws' := []) [] (by decide) rfl
        have hKc := hK.sub (tys' := []) [] rfl
        have hFc := va_free (wc := []) hD hS hA [] rfl
        refine va_calll (va_runS (As := [.long v8]) (rest := []) ⟨hx, hb, hml, hown, hts⟩ (c_X3_size l dC dI H.size  v8 n _ e_1) (va_cwS 1 hts gX3_step_X3_size rfl rfl rfl (by decide +kernel) ⟨Nat.le_of_ble_eq_true rfl, Nat.le_of_ble_eq_true rfl⟩) ⟨fun a U g mk q => by obtain ⟨q0, q1, qP, qK, qD⟩ := q; exact ⟨q0, q1, qP, va_K.moved (u := U) (U := U.calling g mk a) (Vm.Alike.refl U.vm) qK, qD⟩, fun U hU hW => ⟨rfl, by rw [hU], by rw [hU]; exact hPc, va_K.moved hW.alike hKc, hDc.weaken (fun _ _ _ _ => trivial)⟩⟩ rfl rfl hl.1 rfl (lv_room (Nat.le_of_ble_eq_true rfl)) dX3_step_35 ⟨Nat.zero_le _, Nat.zero_le _⟩) hS (fun q _ h => hFc q h) hFc (fun x_26 _ t H1 locs ht hvm hw hB hz1 hk1 hS => ?_)
        have hw := hw.symm
        subst hw
        obtain ⟨hP1, hK1, hD1⟩ := hB
        rw [ht] at hP1
        obtain ⟨hP, hD⟩ := va_join (wr := [(h0, .inr (3, [.int v0, .long v1, .long v2, .long v3, .long v4, .long v5, .long v6, .long v7, .long v8, .long v9, .long v10, .long v11, .long v12, .int v13, .ref h1])), (h1, .inl (cI, 6600, .inl vR))]) (w1 := []) hP hD [] [0, 1] rfl rfl (by decide) (by decide) hk1 hFc hP1 hD1
        generalize H1 = H at hP hS ⊢
        have hP : va_P (dC, dI) vwCl [(h0, .inr (3, [.int v0, .long v1, .long v2, .long v3, .long v4, .long v5, .long v6, .long v7, .long v8, .long v9, .long v10, .long v11, .long v12, .int v13, .ref h1])), (h1, .inl (cI, 6600, .inl vR))] H := hP
        have hD : va_D A [(h0, .inr (3, [.int v0, .long v1, .long v2, .long v3, .long v4, .long v5, .long v6, .long v7, .long v8, .long v9, .long v10, .long v11, .long v12, .int v13, .ref h1])), (h1, .inl (cI, 6600, .inl vR))] := hD
        refine W.widen (k := 0) (n := 0) (Nat.le_refl _) (Nat.le_refl _) ?_
        refine lv_goto (tgt := 42) hx hb dX3_step_38 (by decide) ?_
        refine lv_lstore (lv' := [(7, .long r_2), (5, .long (2 * r_2)), (0, .ref h0), (1, .long a1), (3, .long a2)]) hx hb dX3_step_42 hl (by decide) rfl (fun ls hl => ?_)
        refine lv_lload hx hb dX3_step_44 (lv_at hl 0 rfl) ?_
        refine lv_aload_n hx hb dX3_step_46 rfl (lv_at hl 2 rfl) ?_
        refine va_get (D := (dC, dI)) (ci := 3) (v := .long v7) (C := RX3) (T := TX3) (N := 15) hx hb hts in_X3_step_X3 hown hK hP 0 rfl rfl 7 (by decide) (hts (.fieldLink RX3 72 "FormRingModel" "y" "J") (by decide +kernel)) (fun _ h9 => h9) rfl dX3_step_47 ?_
        refine lv_ladd hx hb dX3_step_50 ?_
        refine lv_lload hx hb dX3_step_51 (lv_at hl 1 rfl) ?_
        by_cases g_27 : (2 * r_2) = 0
        · have hr := (if_pos g_27).symm.trans hr
          cases hr
        have hr := (if_neg g_27).symm.trans hr
        refine lv_lrem hx hb dX3_step_53 g_27 ?_
        refine lv_lstore (lv' := [(9, .long ((r_2 + v7) - (r_2 + v7) / (2 * r_2) * (2 * r_2))), (7, .long r_2), (5, .long (2 * r_2)), (0, .ref h0), (1, .long a1), (3, .long a2)]) hx hb dX3_step_54 hl (by decide) rfl (fun ls hl => ?_)
        refine lv_lload hx hb dX3_step_56 (lv_at hl 0 rfl) ?_
        refine lv_lconst (v := 0) hx hb dX3_step_58 (by decide) ?_
        refine lz_lge (tgt := 70) hx hb dX3_step_59 dX3_step_60 (by decide) (fun c_28 => ?_) (fun c_28 => ?_)
        · have hr := (if_neg c_28).symm.trans hr
          refine lv_lload hx hb dX3_step_70 (lv_at hl 1 rfl) ?_
          refine lv_lload hx hb dX3_step_72 (lv_at hl 0 rfl) ?_
          refine lv_lsub hx hb dX3_step_74 ?_
          refine lv_lstore (lv' := [(11, .long (r_2 - ((r_2 + v7) - (r_2 + v7) / (2 * r_2) * (2 * r_2)))), (9, .long ((r_2 + v7) - (r_2 + v7) / (2 * r_2) * (2 * r_2))), (7, .long r_2), (5, .long (2 * r_2)), (0, .ref h0), (1, .long a1), (3, .long a2)]) hx hb dX3_step_75 hl (by decide) rfl (fun ls hl => ?_)
          refine lv_aload_n hx hb dX3_step_77 rfl (lv_at hl 4 rfl) ?_
          refine lv_aload_n hx hb dX3_step_78 rfl (lv_at hl 4 rfl) ?_
          refine va_get (D := (dC, dI)) (ci := 3) (v := .long v7) (C := RX3) (T := TX3) (N := 15) hx hb hts in_X3_step_X3 hown hK hP 0 rfl rfl 7 (by decide) (hts (.fieldLink RX3 72 "FormRingModel" "y" "J") (by decide +kernel)) (fun _ h9 => h9) rfl dX3_step_79 ?_
          refine lv_lload hx hb dX3_step_82 (lv_at hl 0 rfl) ?_
          refine lv_ladd hx hb dX3_step_84 ?_
          refine lv_ldc2 (v := 2) hx hb hown (hts (.constantLong RX3 81 (2)) (by decide +kernel)) dX3_step_85 ?_
          refine lv_aload_n hx hb dX3_step_88 rfl (lv_at hl 4 rfl) ?_
          refine va_get (D := (dC, dI)) (ci := 3) (v := .long v8) (C := RX3) (T := TX3) (N := 15) hx hb hts in_X3_step_X3 hown hK hP 0 rfl rfl 8 (by decide) (hts (.fieldLink RX3 75 "FormRingModel" "z" "J") (by decide +kernel)) (fun _ h9 => h9) rfl dX3_step_89 ?_
          refine lv_lmul hx hb dX3_step_92 ?_
          by_cases g_29 : (2 * v8) = 0
          · have hr := (if_pos g_29).symm.trans hr
            cases hr
          have hr := (if_neg g_29).symm.trans hr
          refine lv_ldiv hx hb dX3_step_93 g_29 ?_
          refine va_put (D := (dC, dI)) (ci := 3) (v := .long ((v7 + (r_2 - ((r_2 + v7) - (r_2 + v7) / (2 * r_2) * (2 * r_2)))) / (2 * v8))) (ty := .long) (C := RX3) (T := TX3) (N := 15) hx hb hts in_X3_step_X3 tyX3 tyX3_ok nmX3 hown hK hP hD hS 0 rfl rfl 9 (by decide) (hts (.fieldLink RX3 83 "FormRingModel" "turn" "J") (by decide +kernel)) (fun _ h9 => h9) rfl (by decide +kernel) rfl rfl (Nat.le_of_ble_eq_true rfl) dX3_step_94 (fun H locs hP hD hS => ?_)
          have hP : va_P (dC, dI) vwCl [(h0, .inr (3, [.int v0, .long v1, .long v2, .long v3, .long v4, .long v5, .long v6, .long v7, .long v8, .long ((v7 + (r_2 - ((r_2 + v7) - (r_2 + v7) / (2 * r_2) * (2 * r_2)))) / (2 * v8)), .long v10, .long v11, .long v12, .int v13, .ref h1])), (h1, .inl (cI, 6600, .inl vR))] H := hP
          have hD : va_D A [(h0, .inr (3, [.int v0, .long v1, .long v2, .long v3, .long v4, .long v5, .long v6, .long v7, .long v8, .long ((v7 + (r_2 - ((r_2 + v7) - (r_2 + v7) / (2 * r_2) * (2 * r_2)))) / (2 * v8)), .long v10, .long v11, .long v12, .int v13, .ref h1])), (h1, .inl (cI, 6600, .inl vR))] := hD
          refine lv_lload hx hb dX3_step_97 (lv_at hl 0 rfl) ?_
          refine lv_lload hx hb dX3_step_99 (lv_at hl 0 rfl) ?_
          refine lv_lmul hx hb dX3_step_101 ?_
          refine lv_lload_n hx hb dX3_step_102 rfl (lv_at hl 5 rfl) ?_
          refine lv_lsub hx hb dX3_step_103 ?_
          refine lv_ldc2 (v := 4) hx hb hown (hts (.constantLong RX3 47 (4)) (by decide +kernel)) dX3_step_104 ?_
          refine lv_aload_n hx hb dX3_step_107 rfl (lv_at hl 4 rfl) ?_
          refine va_get (D := (dC, dI)) (ci := 3) (v := .long v8) (C := RX3) (T := TX3) (N := 15) hx hb hts in_X3_step_X3 hown hK hP 0 rfl rfl 8 (by decide) (hts (.fieldLink RX3 75 "FormRingModel" "z" "J") (by decide +kernel)) (fun _ h9 => h9) rfl dX3_step_108 ?_
          refine lv_lmul hx hb dX3_step_111 ?_
          by_cases g_30 : (4 * v8) = 0
          · have hr := (if_pos g_30).symm.trans hr
            cases hr
          have hr := (if_neg g_30).symm.trans hr
          refine lv_ldiv hx hb dX3_step_112 g_30 ?_
          refine lv_lstore (lv' := [(13, .long ((((r_2 - ((r_2 + v7) - (r_2 + v7) / (2 * r_2) * (2 * r_2))) * (r_2 - ((r_2 + v7) - (r_2 + v7) / (2 * r_2) * (2 * r_2)))) - a1) / (4 * v8))), (11, .long (r_2 - ((r_2 + v7) - (r_2 + v7) / (2 * r_2) * (2 * r_2)))), (9, .long ((r_2 + v7) - (r_2 + v7) / (2 * r_2) * (2 * r_2))), (7, .long r_2), (5, .long (2 * r_2)), (0, .ref h0), (1, .long a1), (3, .long a2)]) hx hb dX3_step_113 hl (by decide) rfl (fun ls hl => ?_)
          refine lv_aload_n hx hb dX3_step_115 rfl (lv_at hl 5 rfl) ?_
          refine lv_aload_n hx hb dX3_step_116 rfl (lv_at hl 5 rfl) ?_
          refine va_get (D := (dC, dI)) (ci := 3) (v := .long v8) (C := RX3) (T := TX3) (N := 15) hx hb hts in_X3_step_X3 hown hK hP 0 rfl rfl 8 (by decide) (hts (.fieldLink RX3 75 "FormRingModel" "z" "J") (by decide +kernel)) (fun _ h9 => h9) rfl dX3_step_117 ?_
          refine va_put (D := (dC, dI)) (ci := 3) (v := .long v8) (ty := .long) (C := RX3) (T := TX3) (N := 15) hx hb hts in_X3_step_X3 tyX3 tyX3_ok nmX3 hown hK hP hD hS 0 rfl rfl 6 (by decide) (hts (.fieldLink RX3 69 "FormRingModel" "x" "J") (by decide +kernel)) (fun _ h9 => h9) rfl (by decide +kernel) rfl rfl (Nat.le_of_ble_eq_true rfl) dX3_step_120 (fun H locs hP hD hS => ?_)
          have hP : va_P (dC, dI) vwCl [(h0, .inr (3, [.int v0, .long v1, .long v2, .long v3, .long v4, .long v5, .long v8, .long v7, .long v8, .long ((v7 + (r_2 - ((r_2 + v7) - (r_2 + v7) / (2 * r_2) * (2 * r_2)))) / (2 * v8)), .long v10, .long v11, .long v12, .int v13, .ref h1])), (h1, .inl (cI, 6600, .inl vR))] H := hP
          have hD : va_D A [(h0, .inr (3, [.int v0, .long v1, .long v2, .long v3, .long v4, .long v5, .long v8, .long v7, .long v8, .long ((v7 + (r_2 - ((r_2 + v7) - (r_2 + v7) / (2 * r_2) * (2 * r_2)))) / (2 * v8)), .long v10, .long v11, .long v12, .int v13, .ref h1])), (h1, .inl (cI, 6600, .inl vR))] := hD
          refine lv_aload_n hx hb dX3_step_123 rfl (lv_at hl 5 rfl) ?_
          refine lv_lload hx hb dX3_step_124 (lv_at hl 1 rfl) ?_
          refine va_put (D := (dC, dI)) (ci := 3) (v := .long (r_2 - ((r_2 + v7) - (r_2 + v7) / (2 * r_2) * (2 * r_2)))) (ty := .long) (C := RX3) (T := TX3) (N := 15) hx hb hts in_X3_step_X3 tyX3 tyX3_ok nmX3 hown hK hP hD hS 0 rfl rfl 7 (by decide) (hts (.fieldLink RX3 72 "FormRingModel" "y" "J") (by decide +kernel)) (fun _ h9 => h9) rfl (by decide +kernel) rfl rfl (Nat.le_of_ble_eq_true rfl) dX3_step_126 (fun H locs hP hD hS => ?_)
          have hP : va_P (dC, dI) vwCl [(h0, .inr (3, [.int v0, .long v1, .long v2, .long v3, .long v4, .long v5, .long v8, .long (r_2 - ((r_2 + v7) - (r_2 + v7) / (2 * r_2) * (2 * r_2))), .long v8, .long ((v7 + (r_2 - ((r_2 + v7) - (r_2 + v7) / (2 * r_2) * (2 * r_2)))) / (2 * v8)), .long v10, .long v11, .long v12, .int v13, .ref h1])), (h1, .inl (cI, 6600, .inl vR))] H := hP
          have hD : va_D A [(h0, .inr (3, [.int v0, .long v1, .long v2, .long v3, .long v4, .long v5, .long v8, .long (r_2 - ((r_2 + v7) - (r_2 + v7) / (2 * r_2) * (2 * r_2))), .long v8, .long ((v7 + (r_2 - ((r_2 + v7) - (r_2 + v7) / (2 * r_2) * (2 * r_2)))) / (2 * v8)), .long v10, .long v11, .long v12, .int v13, .ref h1])), (h1, .inl (cI, 6600, .inl vR))] := hD
          refine lv_aload_n hx hb dX3_step_129 rfl (lv_at hl 5 rfl) ?_
          refine lv_lload hx hb dX3_step_130 (lv_at hl 0 rfl) ?_
          refine va_put (D := (dC, dI)) (ci := 3) (v := .long ((((r_2 - ((r_2 + v7) - (r_2 + v7) / (2 * r_2) * (2 * r_2))) * (r_2 - ((r_2 + v7) - (r_2 + v7) / (2 * r_2) * (2 * r_2)))) - a1) / (4 * v8))) (ty := .long) (C := RX3) (T := TX3) (N := 15) hx hb hts in_X3_step_X3 tyX3 tyX3_ok nmX3 hown hK hP hD hS 0 rfl rfl 8 (by decide) (hts (.fieldLink RX3 75 "FormRingModel" "z" "J") (by decide +kernel)) (fun _ h9 => h9) rfl (by decide +kernel) rfl rfl (Nat.le_of_ble_eq_true rfl) dX3_step_132 (fun H locs hP hD hS => ?_)
          have hP : va_P (dC, dI) vwCl [(h0, .inr (3, [.int v0, .long v1, .long v2, .long v3, .long v4, .long v5, .long v8, .long (r_2 - ((r_2 + v7) - (r_2 + v7) / (2 * r_2) * (2 * r_2))), .long ((((r_2 - ((r_2 + v7) - (r_2 + v7) / (2 * r_2) * (2 * r_2))) * (r_2 - ((r_2 + v7) - (r_2 + v7) / (2 * r_2) * (2 * r_2)))) - a1) / (4 * v8)), .long ((v7 + (r_2 - ((r_2 + v7) - (r_2 + v7) / (2 * r_2) * (2 * r_2)))) / (2 * v8)), .long v10, .long v11, .long v12, .int v13, .ref h1])), (h1, .inl (cI, 6600, .inl vR))] H := hP
          have hD : va_D A [(h0, .inr (3, [.int v0, .long v1, .long v2, .long v3, .long v4, .long v5, .long v8, .long (r_2 - ((r_2 + v7) - (r_2 + v7) / (2 * r_2) * (2 * r_2))), .long ((((r_2 - ((r_2 + v7) - (r_2 + v7) / (2 * r_2) * (2 * r_2))) * (r_2 - ((r_2 + v7) - (r_2 + v7) / (2 * r_2) * (2 * r_2)))) - a1) / (4 * v8)), .long ((v7 + (r_2 - ((r_2 + v7) - (r_2 + v7) / (2 * r_2) * (2 * r_2)))) / (2 * v8)), .long v10, .long v11, .long v12, .int v13, .ref h1])), (h1, .inl (cI, 6600, .inl vR))] := hD
          have ho := Option.some.inj hr
          subst ho
          exact W.vret hx hb hrt (fun t ht hW => ⟨⟨(), rfl, trivial, by rw [ht]; exact hP, va_K.moved hW.alike hK, hD⟩, hS.F ht⟩) hS.2.2 dX3_step_135
        · have hr := (if_pos c_28).symm.trans hr
          refine lv_lload hx hb dX3_step_63 (lv_at hl 0 rfl) ?_
          refine lv_lload hx hb dX3_step_65 (lv_at hl 2 rfl) ?_
          refine lv_ladd hx hb dX3_step_67 ?_
          refine lv_lstore (lv' := [(9, .long (((r_2 + v7) - (r_2 + v7) / (2 * r_2) * (2 * r_2)) + (2 * r_2))), (7, .long r_2), (5, .long (2 * r_2)), (0, .ref h0), (1, .long a1), (3, .long a2)]) hx hb dX3_step_68 hl (by decide) rfl (fun ls hl => ?_)
          refine lv_lload hx hb dX3_step_70 (lv_at hl 1 rfl) ?_
          refine lv_lload hx hb dX3_step_72 (lv_at hl 0 rfl) ?_
          refine lv_lsub hx hb dX3_step_74 ?_
          refine lv_lstore (lv' := [(11, .long (r_2 - (((r_2 + v7) - (r_2 + v7) / (2 * r_2) * (2 * r_2)) + (2 * r_2)))), (9, .long (((r_2 + v7) - (r_2 + v7) / (2 * r_2) * (2 * r_2)) + (2 * r_2))), (7, .long r_2), (5, .long (2 * r_2)), (0, .ref h0), (1, .long a1), (3, .long a2)]) hx hb dX3_step_75 hl (by decide) rfl (fun ls hl => ?_)
          refine lv_aload_n hx hb dX3_step_77 rfl (lv_at hl 4 rfl) ?_
          refine lv_aload_n hx hb dX3_step_78 rfl (lv_at hl 4 rfl) ?_
          refine va_get (D := (dC, dI)) (ci := 3) (v := .long v7) (C := RX3) (T := TX3) (N := 15) hx hb hts in_X3_step_X3 hown hK hP 0 rfl rfl 7 (by decide) (hts (.fieldLink RX3 72 "FormRingModel" "y" "J") (by decide +kernel)) (fun _ h9 => h9) rfl dX3_step_79 ?_
          refine lv_lload hx hb dX3_step_82 (lv_at hl 0 rfl) ?_
          refine lv_ladd hx hb dX3_step_84 ?_
          refine lv_ldc2 (v := 2) hx hb hown (hts (.constantLong RX3 81 (2)) (by decide +kernel)) dX3_step_85 ?_
          refine lv_aload_n hx hb dX3_step_88 rfl (lv_at hl 4 rfl) ?_
          refine va_get (D := (dC, dI)) (ci := 3) (v := .long v8) (C := RX3) (T := TX3) (N := 15) hx hb hts in_X3_step_X3 hown hK hP 0 rfl rfl 8 (by decide) (hts (.fieldLink RX3 75 "FormRingModel" "z" "J") (by decide +kernel)) (fun _ h9 => h9) rfl dX3_step_89 ?_
          refine lv_lmul hx hb dX3_step_92 ?_
          by_cases g_31 : (2 * v8) = 0
          · have hr := (if_pos g_31).symm.trans hr
            cases hr
          have hr := (if_neg g_31).symm.trans hr
          refine lv_ldiv hx hb dX3_step_93 g_31 ?_
          refine va_put (D := (dC, dI)) (ci := 3) (v := .long ((v7 + (r_2 - (((r_2 + v7) - (r_2 + v7) / (2 * r_2) * (2 * r_2)) + (2 * r_2)))) / (2 * v8))) (ty := .long) (C := RX3) (T := TX3) (N := 15) hx hb hts in_X3_step_X3 tyX3 tyX3_ok nmX3 hown hK hP hD hS 0 rfl rfl 9 (by decide) (hts (.fieldLink RX3 83 "FormRingModel" "turn" "J") (by decide +kernel)) (fun _ h9 => h9) rfl (by decide +kernel) rfl rfl (Nat.le_of_ble_eq_true rfl) dX3_step_94 (fun H locs hP hD hS => ?_)
          have hP : va_P (dC, dI) vwCl [(h0, .inr (3, [.int v0, .long v1, .long v2, .long v3, .long v4, .long v5, .long v6, .long v7, .long v8, .long ((v7 + (r_2 - (((r_2 + v7) - (r_2 + v7) / (2 * r_2) * (2 * r_2)) + (2 * r_2)))) / (2 * v8)), .long v10, .long v11, .long v12, .int v13, .ref h1])), (h1, .inl (cI, 6600, .inl vR))] H := hP
          have hD : va_D A [(h0, .inr (3, [.int v0, .long v1, .long v2, .long v3, .long v4, .long v5, .long v6, .long v7, .long v8, .long ((v7 + (r_2 - (((r_2 + v7) - (r_2 + v7) / (2 * r_2) * (2 * r_2)) + (2 * r_2)))) / (2 * v8)), .long v10, .long v11, .long v12, .int v13, .ref h1])), (h1, .inl (cI, 6600, .inl vR))] := hD
          refine lv_lload hx hb dX3_step_97 (lv_at hl 0 rfl) ?_
          refine lv_lload hx hb dX3_step_99 (lv_at hl 0 rfl) ?_
          refine lv_lmul hx hb dX3_step_101 ?_
          refine lv_lload_n hx hb dX3_step_102 rfl (lv_at hl 5 rfl) ?_
          refine lv_lsub hx hb dX3_step_103 ?_
          refine lv_ldc2 (v := 4) hx hb hown (hts (.constantLong RX3 47 (4)) (by decide +kernel)) dX3_step_104 ?_
          refine lv_aload_n hx hb dX3_step_107 rfl (lv_at hl 4 rfl) ?_
          refine va_get (D := (dC, dI)) (ci := 3) (v := .long v8) (C := RX3) (T := TX3) (N := 15) hx hb hts in_X3_step_X3 hown hK hP 0 rfl rfl 8 (by decide) (hts (.fieldLink RX3 75 "FormRingModel" "z" "J") (by decide +kernel)) (fun _ h9 => h9) rfl dX3_step_108 ?_
          refine lv_lmul hx hb dX3_step_111 ?_
          by_cases g_32 : (4 * v8) = 0
          · have hr := (if_pos g_32).symm.trans hr
            cases hr
          have hr := (if_neg g_32).symm.trans hr
          refine lv_ldiv hx hb dX3_step_112 g_32 ?_
          refine lv_lstore (lv' := [(13, .long ((((r_2 - (((r_2 + v7) - (r_2 + v7) / (2 * r_2) * (2 * r_2)) + (2 * r_2))) * (r_2 - (((r_2 + v7) - (r_2 + v7) / (2 * r_2) * (2 * r_2)) + (2 * r_2)))) - a1) / (4 * v8))), (11, .long (r_2 - (((r_2 + v7) - (r_2 + v7) / (2 * r_2) * (2 * r_2)) + (2 * r_2)))), (9, .long (((r_2 + v7) - (r_2 + v7) / (2 * r_2) * (2 * r_2)) + (2 * r_2))), (7, .long r_2), (5, .long (2 * r_2)), (0, .ref h0), (1, .long a1), (3, .long a2)]) hx hb dX3_step_113 hl (by decide) rfl (fun ls hl => ?_)
          refine lv_aload_n hx hb dX3_step_115 rfl (lv_at hl 5 rfl) ?_
          refine lv_aload_n hx hb dX3_step_116 rfl (lv_at hl 5 rfl) ?_
          refine va_get (D := (dC, dI)) (ci := 3) (v := .long v8) (C := RX3) (T := TX3) (N := 15) hx hb hts in_X3_step_X3 hown hK hP 0 rfl rfl 8 (by decide) (hts (.fieldLink RX3 75 "FormRingModel" "z" "J") (by decide +kernel)) (fun _ h9 => h9) rfl dX3_step_117 ?_
          refine va_put (D := (dC, dI)) (ci := 3) (v := .long v8) (ty := .long) (C := RX3) (T := TX3) (N := 15) hx hb hts in_X3_step_X3 tyX3 tyX3_ok nmX3 hown hK hP hD hS 0 rfl rfl 6 (by decide) (hts (.fieldLink RX3 69 "FormRingModel" "x" "J") (by decide +kernel)) (fun _ h9 => h9) rfl (by decide +kernel) rfl rfl (Nat.le_of_ble_eq_true rfl) dX3_step_120 (fun H locs hP hD hS => ?_)
          have hP : va_P (dC, dI) vwCl [(h0, .inr (3, [.int v0, .long v1, .long v2, .long v3, .long v4, .long v5, .long v8, .long v7, .long v8, .long ((v7 + (r_2 - (((r_2 + v7) - (r_2 + v7) / (2 * r_2) * (2 * r_2)) + (2 * r_2)))) / (2 * v8)), .long v10, .long v11, .long v12, .int v13, .ref h1])), (h1, .inl (cI, 6600, .inl vR))] H := hP
          have hD : va_D A [(h0, .inr (3, [.int v0, .long v1, .long v2, .long v3, .long v4, .long v5, .long v8, .long v7, .long v8, .long ((v7 + (r_2 - (((r_2 + v7) - (r_2 + v7) / (2 * r_2) * (2 * r_2)) + (2 * r_2)))) / (2 * v8)), .long v10, .long v11, .long v12, .int v13, .ref h1])), (h1, .inl (cI, 6600, .inl vR))] := hD
          refine lv_aload_n hx hb dX3_step_123 rfl (lv_at hl 5 rfl) ?_
          refine lv_lload hx hb dX3_step_124 (lv_at hl 1 rfl) ?_
          refine va_put (D := (dC, dI)) (ci := 3) (v := .long (r_2 - (((r_2 + v7) - (r_2 + v7) / (2 * r_2) * (2 * r_2)) + (2 * r_2)))) (ty := .long) (C := RX3) (T := TX3) (N := 15) hx hb hts in_X3_step_X3 tyX3 tyX3_ok nmX3 hown hK hP hD hS 0 rfl rfl 7 (by decide) (hts (.fieldLink RX3 72 "FormRingModel" "y" "J") (by decide +kernel)) (fun _ h9 => h9) rfl (by decide +kernel) rfl rfl (Nat.le_of_ble_eq_true rfl) dX3_step_126 (fun H locs hP hD hS => ?_)
          have hP : va_P (dC, dI) vwCl [(h0, .inr (3, [.int v0, .long v1, .long v2, .long v3, .long v4, .long v5, .long v8, .long (r_2 - (((r_2 + v7) - (r_2 + v7) / (2 * r_2) * (2 * r_2)) + (2 * r_2))), .long v8, .long ((v7 + (r_2 - (((r_2 + v7) - (r_2 + v7) / (2 * r_2) * (2 * r_2)) + (2 * r_2)))) / (2 * v8)), .long v10, .long v11, .long v12, .int v13, .ref h1])), (h1, .inl (cI, 6600, .inl vR))] H := hP
          have hD : va_D A [(h0, .inr (3, [.int v0, .long v1, .long v2, .long v3, .long v4, .long v5, .long v8, .long (r_2 - (((r_2 + v7) - (r_2 + v7) / (2 * r_2) * (2 * r_2)) + (2 * r_2))), .long v8, .long ((v7 + (r_2 - (((r_2 + v7) - (r_2 + v7) / (2 * r_2) * (2 * r_2)) + (2 * r_2)))) / (2 * v8)), .long v10, .long v11, .long v12, .int v13, .ref h1])), (h1, .inl (cI, 6600, .inl vR))] := hD
          refine lv_aload_n hx hb dX3_step_129 rfl (lv_at hl 5 rfl) ?_
          refine lv_lload hx hb dX3_step_130 (lv_at hl 0 rfl) ?_
          refine va_put (D := (dC, dI)) (ci := 3) (v := .long ((((r_2 - (((r_2 + v7) - (r_2 + v7) / (2 * r_2) * (2 * r_2)) + (2 * r_2))) * (r_2 - (((r_2 + v7) - (r_2 + v7) / (2 * r_2) * (2 * r_2)) + (2 * r_2)))) - a1) / (4 * v8))) (ty := .long) (C := RX3) (T := TX3) (N := 15) hx hb hts in_X3_step_X3 tyX3 tyX3_ok nmX3 hown hK hP hD hS 0 rfl rfl 8 (by decide) (hts (.fieldLink RX3 75 "FormRingModel" "z" "J") (by decide +kernel)) (fun _ h9 => h9) rfl (by decide +kernel) rfl rfl (Nat.le_of_ble_eq_true rfl) dX3_step_132 (fun H locs hP hD hS => ?_)
          have hP : va_P (dC, dI) vwCl [(h0, .inr (3, [.int v0, .long v1, .long v2, .long v3, .long v4, .long v5, .long v8, .long (r_2 - (((r_2 + v7) - (r_2 + v7) / (2 * r_2) * (2 * r_2)) + (2 * r_2))), .long ((((r_2 - (((r_2 + v7) - (r_2 + v7) / (2 * r_2) * (2 * r_2)) + (2 * r_2))) * (r_2 - (((r_2 + v7) - (r_2 + v7) / (2 * r_2) * (2 * r_2)) + (2 * r_2)))) - a1) / (4 * v8)), .long ((v7 + (r_2 - (((r_2 + v7) - (r_2 + v7) / (2 * r_2) * (2 * r_2)) + (2 * r_2)))) / (2 * v8)), .long v10, .long v11, .long v12, .int v13, .ref h1])), (h1, .inl (cI, 6600, .inl vR))] H := hP
          have hD : va_D A [(h0, .inr (3, [.int v0, .long v1, .long v2, .long v3, .long v4, .long v5, .long v8, .long (r_2 - (((r_2 + v7) - (r_2 + v7) / (2 * r_2) * (2 * r_2)) + (2 * r_2))), .long ((((r_2 - (((r_2 + v7) - (r_2 + v7) / (2 * r_2) * (2 * r_2)) + (2 * r_2))) * (r_2 - (((r_2 + v7) - (r_2 + v7) / (2 * r_2) * (2 * r_2)) + (2 * r_2)))) - a1) / (4 * v8)), .long ((v7 + (r_2 - (((r_2 + v7) - (r_2 + v7) / (2 * r_2) * (2 * r_2)) + (2 * r_2)))) / (2 * v8)), .long v10, .long v11, .long v12, .int v13, .ref h1])), (h1, .inl (cI, 6600, .inl vR))] := hD
          have ho := Option.some.inj hr
          subst ho
          exact W.vret hx hb hrt (fun t ht hW => ⟨⟨(), rfl, trivial, by rw [ht]; exact hP, va_K.moved hW.alike hK, hD⟩, hS.F ht⟩) hS.2.2 dX3_step_135

def f_X3_toReduced_0 (n : Nat) : Nat → (a1 : Int64) → (a2 : Int64) → Int64 → Int64 → Int64 → Int64 → Option (Int64 × Int64 × Int64 × Int64)
  | 0, _, _, _, _, _, _ => none
  | k + 1, a1, a2, w0_6, w0_7, w0_8, w0_9 => (f_X3_isReduced n w0_6 w0_7 w0_8 a1 a2).bind (fun r_2 => if r_2 = 0 then ((f_X3_step n w0_7 w0_8 a1 a2).bind (fun r_7 => f_X3_toReduced_0 n k a1 a2 r_7.1 r_7.2.1 r_7.2.2.1 r_7.2.2.2)) else (some (w0_6, w0_7, w0_8, w0_9)))
set_option maxHeartbeats 4000000 in
set_option maxRecDepth 100000 in
theorem k_X3_toReduced_0 {p : Program} {l : Launch} {e : Env} {s : State} {m : MethodId} {args : Array Value} {below : List Frame} {meth : Method} {c : Code} {dC : Nat → ClassId} {dI : Nat → Nat → Nat} {A : Nat → Prop} {h0 : Nat} {h1 : Nat} {cI : ClassId} {v0 : Int32} {v1 : Int64} {v2 : Int64} {v3 : Int64} {v4 : Int64} {v5 : Int64} {v10 : Int64} {v11 : Int64} {v12 : Int64} {v13 : Int32} {vR : Nat → Int32} {a1 : Int64} {a2 : Int64} (hx : p.tables.exec = Jvm.exec) (hb : c.code = cX3_toReduced) (hrt : meth.sig.returnType = none) (hml : c.maxLocals = 5) (hown : s.vm.findClass RX3 = some m.cls) (hlocks : meth.locks = false) (hts : ∀ w ∈ wsX3_toReduced, w.before args s = true) (hA : ∀ q : Nat, s.heap.size ≤ q → A q) (hK : va_K (dC, dI) vwCl [(cI, .int)] s)  (n : Nat) (out : Int64 × Int64 × Int64 × Int64) :
    ∀ (k : Nat) (w0_6 : Int64) (w0_7 : Int64) (w0_8 : Int64) (w0_9 : Int64), f_X3_toReduced_0 n k a1 a2 w0_6 w0_7 w0_8 w0_9 = some out → ∀ (H : Heap) (locs : List Loc) (ls : Array Slot), va_P (dC, dI) vwCl [(h0, .inr (3, [.int v0, .long v1, .long v2, .long v3, .long v4, .long v5, .long w0_6, .long w0_7, .long w0_8, .long w0_9, .long v10, .long v11, .long v12, .int v13, .ref h1])), (h1, .inl (cI, 6600, .inl vR))] H → va_D A [(h0, .inr (3, [.int v0, .long v1, .long v2, .long v3, .long v4, .long v5, .long w0_6, .long w0_7, .long w0_8, .long w0_9, .long v10, .long v11, .long v12, .int v13, .ref h1])), (h1, .inl (cI, 6600, .inl vR))] → va_S A s.heap H locs → lv_has ls 5 [(0, .ref h0), (1, .long a1), (3, .long a2)] → W p l e ({ frames := 2, cells := 0, slots := 0, locals := 55 }) s m args below meth c H locs 0 0 (MQ below (va_Qv (fun (_ : Unit) => True) (fun (_ : Unit) t => zB dC dI [(cI, .int)] A [(h0, .inr (3, [.int v0, .long v1, .long v2, .long v3, .long v4, .long v5, .long out.1, .long out.2.1, .long out.2.2.1, .long out.2.2.2, .long v10, .long v11, .long v12, .int v13, .ref h1])), (h1, .inl (cI, 6600, .inl vR))] t) A) args s 0 0 A) (F0 m 0 ls []) := by
  intro k
  induction k with
  | zero => intro w0_6 w0_7 w0_8 w0_9 hr; rw [f_X3_toReduced_0] at hr; cases hr
  | succ k ih =>
    intro w0_6 w0_7 w0_8 w0_9 hr H locs ls hP hD hS hl
    rw [f_X3_toReduced_0] at hr
    refine lv_aload_n hx hb dX3_toReduced_0 rfl (lv_at hl 0 rfl) ?_
    refine lv_lload_n hx hb dX3_toReduced_1 rfl (lv_at hl 1 rfl) ?_
    refine lv_lload_n hx hb dX3_toReduced_2 rfl (lv_at hl 2 rfl) ?_
    cases e_1 : f_X3_isReduced n w0_6 w0_7 w0_8 a1 a2 with
    | none => rw [e_1, Option.bind_none] at hr; cases hr
    | some r_2 =>
      rw [e_1, Option.bind_some] at hr
      have hPc := hP.sub (ws' := [(h0, .inr (3, [.int v0, .long v1, .long v2, .long v3, .long v4, .long v5, .long w0_6, .long w0_7, .long w0_8, .long w0_9, .long v10, .long v11, .long v12, .int v13, .ref h1])), (h1, .inl (cI, 6600, .inl vR))]) [0, 1] rfl
      have hDc := hD.sub (ws' := [(h0, .inr (3, [.int v0, .long v1, .long v2, .long v3, .long v4, .long v5, .long w0_6, .long w0_7, .long w0_8, .long w0_9, .long v10, .long v11, .long v12, .int v13, .ref h1])), (h1, .inl (cI, 6600, .inl vR))]) [0, 1] (by decide) rfl
      have hKc := hK.sub (tys' := [(cI, .int)]) [0] rfl
      have hFc := va_free (wc := [(h0, .inr (3, [.int v0, .long v1, .long v2, .long v3, .long v4, .long v5, .long w0_6, .long w0_7, .long w0_8, .long w0_9, .long v10, .long v11, .long v12, .int v13, .ref h1])), (h1, .inl (cI, 6600, .inl vR))]) hD hS hA [0, 1] rfl
      refine va_calli (va_runV (As := [.long a1, .long a2]) (rest := []) ⟨hx, hb, hml, hown, hts⟩ (c_X3_isReduced l dC dI H.size h0 h1 cI v0 v1 v2 v3 v4 v5 w0_6 w0_7 w0_8 w0_9 v10 v11 v12 v13 vR a1 a2 n _ e_1) (cwV 2 hts gX3_toReduced_X3_isReduced rfl rfl rfl (by decide +kernel) ⟨Nat.le_of_ble_eq_true rfl, Nat.le_of_ble_eq_true rfl⟩) ⟨fun a U g mk q => by obtain ⟨q0, q1, qP, qK, qD⟩ := q; exact ⟨q0, q1, qP, va_K.moved (u := U) (U := U.calling g mk a) (Vm.Alike.refl U.vm) qK, qD⟩, va_recv hKc hPc (ci := 3) (q0 := 0) rfl rfl, fun U hU hW => ⟨rfl, by rw [hU], by rw [hU]; exact hPc, va_K.moved hW.alike hKc, hDc.weaken (fun _ _ _ _ => trivial)⟩⟩ rfl rfl hl.1 rfl (lv_room (Nat.le_of_ble_eq_true rfl)) dX3_toReduced_3 ⟨Nat.zero_le _, Nat.zero_le _⟩) hS (fun q _ h => hFc q h) hFc (fun x_3 _ t H1 locs ht hvm hw hB hz1 hk1 hS => ?_)
      obtain ⟨hw, z_4⟩ := hw
      have hw := hw.symm
      subst hw
      obtain ⟨hP1, hK1, hD1⟩ := hB
      rw [ht] at hP1
      obtain ⟨hP, hD⟩ := va_join (wr := []) (w1 := [(h0, .inr (3, [.int v0, .long v1, .long v2, .long v3, .long v4, .long v5, .long w0_6, .long w0_7, .long w0_8, .long w0_9, .long v10, .long v11, .long v12, .int v13, .ref h1])), (h1, .inl (cI, 6600, .inl vR))]) hP hD [0, 1] [] rfl rfl (by decide) (by decide) hk1 hFc hP1 hD1
      generalize H1 = H at hP hS ⊢
      have hP : va_P (dC, dI) vwCl [(h0, .inr (3, [.int v0, .long v1, .long v2, .long v3, .long v4, .long v5, .long w0_6, .long w0_7, .long w0_8, .long w0_9, .long v10, .long v11, .long v12, .int v13, .ref h1])), (h1, .inl (cI, 6600, .inl vR))] H := hP
      have hD : va_D A [(h0, .inr (3, [.int v0, .long v1, .long v2, .long v3, .long v4, .long v5, .long w0_6, .long w0_7, .long w0_8, .long w0_9, .long v10, .long v11, .long v12, .int v13, .ref h1])), (h1, .inl (cI, 6600, .inl vR))] := hD
      refine W.widen (k := 0) (n := 0) (Nat.le_refl _) (Nat.le_refl _) ?_
      refine lz_zne (tgt := 18) hx hb dX3_toReduced_6 (by decide) (fun c_5 => ?_) (fun c_5 => ?_)
      · have hr := (if_neg c_5).symm.trans hr
        have ho := Option.some.inj hr
        subst ho
        exact W.vret hx hb hrt (fun t ht hW => ⟨⟨(), rfl, trivial, by rw [ht]; exact hP, va_K.moved hW.alike hK, hD⟩, hS.F ht⟩) hS.2.2 dX3_toReduced_18
      · have hr := (if_pos c_5).symm.trans hr
        refine lv_aload_n hx hb dX3_toReduced_9 rfl (lv_at hl 0 rfl) ?_
        refine lv_lload_n hx hb dX3_toReduced_10 rfl (lv_at hl 1 rfl) ?_
        refine lv_lload_n hx hb dX3_toReduced_11 rfl (lv_at hl 2 rfl) ?_
        cases e_6 : f_X3_step n w0_7 w0_8 a1 a2 with
        | none => rw [e_6, Option.bind_none] at hr; cases hr
        | some r_7 =>
          rw [e_6, Option.bind_some] at hr
          have hPc := hP.sub (ws' := [(h0, .inr (3, [.int v0, .long v1, .long v2, .long v3, .long v4, .long v5, .long w0_6, .long w0_7, .long w0_8, .long w0_9, .long v10, .long v11, .long v12, .int v13, .ref h1])), (h1, .inl (cI, 6600, .inl vR))]) [0, 1] rfl
          have hDc := hD.sub (ws' := [(h0, .inr (3, [.int v0, .long v1, .long v2, .long v3, .long v4, .long v5, .long w0_6, .long w0_7, .long w0_8, .long w0_9, .long v10, .long v11, .long v12, .int v13, .ref h1])), (h1, .inl (cI, 6600, .inl vR))]) [0, 1] (by decide) rfl
          have hKc := hK.sub (tys' := [(cI, .int)]) [0] rfl
          have hFc := va_free (wc := [(h0, .inr (3, [.int v0, .long v1, .long v2, .long v3, .long v4, .long v5, .long w0_6, .long w0_7, .long w0_8, .long w0_9, .long v10, .long v11, .long v12, .int v13, .ref h1])), (h1, .inl (cI, 6600, .inl vR))]) hD hS hA [0, 1] rfl
          refine va_callv (va_runV (As := [.long a1, .long a2]) (rest := []) ⟨hx, hb, hml, hown, hts⟩ (c_X3_step l dC dI H.size h0 h1 cI v0 v1 v2 v3 v4 v5 w0_6 w0_7 w0_8 w0_9 v10 v11 v12 v13 vR a1 a2 n _ e_6) (cwV 2 hts gX3_toReduced_X3_step rfl rfl rfl (by decide +kernel) ⟨Nat.le_of_ble_eq_true rfl, Nat.le_of_ble_eq_true rfl⟩) ⟨fun a U g mk q => by obtain ⟨q0, q1, qP, qK, qD⟩ := q; exact ⟨q0, q1, qP, va_K.moved (u := U) (U := U.calling g mk a) (Vm.Alike.refl U.vm) qK, qD⟩, va_recv hKc hPc (ci := 3) (q0 := 0) rfl rfl, fun U hU hW => ⟨rfl, by rw [hU], by rw [hU]; exact hPc, va_K.moved hW.alike hKc, hDc.weaken (fun _ _ _ _ => trivial)⟩⟩ rfl rfl hl.1 rfl (lv_room (Nat.le_of_ble_eq_true rfl)) dX3_toReduced_12 ⟨Nat.zero_le _, Nat.zero_le _⟩) hS (fun q _ h => hFc q h) hFc (fun _ t H1 locs ht hvm hw hB hz1 hk1 hS => ?_)
          obtain ⟨hP1, hK1, hD1⟩ := hB
          rw [ht] at hP1
          obtain ⟨hP, hD⟩ := va_join (wr := []) (w1 := [(h0, .inr (3, [.int v0, .long v1, .long v2, .long v3, .long v4, .long v5, .long r_7.1, .long r_7.2.1, .long r_7.2.2.1, .long r_7.2.2.2, .long v10, .long v11, .long v12, .int v13, .ref h1])), (h1, .inl (cI, 6600, .inl vR))]) hP hD [0, 1] [] rfl rfl (by decide) (by decide) hk1 hFc hP1 hD1
          generalize H1 = H at hP hS ⊢
          have hP : va_P (dC, dI) vwCl [(h0, .inr (3, [.int v0, .long v1, .long v2, .long v3, .long v4, .long v5, .long r_7.1, .long r_7.2.1, .long r_7.2.2.1, .long r_7.2.2.2, .long v10, .long v11, .long v12, .int v13, .ref h1])), (h1, .inl (cI, 6600, .inl vR))] H := hP
          have hD : va_D A [(h0, .inr (3, [.int v0, .long v1, .long v2, .long v3, .long v4, .long v5, .long r_7.1, .long r_7.2.1, .long r_7.2.2.1, .long r_7.2.2.2, .long v10, .long v11, .long v12, .int v13, .ref h1])), (h1, .inl (cI, 6600, .inl vR))] := hD
          refine W.widen (k := 0) (n := 0) (Nat.le_refl _) (Nat.le_refl _) ?_
          refine lv_goto (tgt := 0) hx hb dX3_toReduced_15 (by decide) ?_
          exact ih r_7.1 r_7.2.1 r_7.2.2.1 r_7.2.2.2 hr _ _ _ hP hD hS (lv_sub hl [0, 1, 2] rfl)
def f_X3_toReduced (n : Nat) (v6 : Int64) (v7 : Int64) (v8 : Int64) (v9 : Int64) (a1 : Int64) (a2 : Int64) : Option (Int64 × Int64 × Int64 × Int64) := f_X3_toReduced_0 n n a1 a2 v6 v7 v8 v9
set_option maxHeartbeats 4000000 in
set_option maxRecDepth 100000 in
theorem c_X3_toReduced (l : Launch) (dC : Nat → ClassId) (dI : Nat → Nat → Nat) (sz : Nat) (h0 : Nat) (h1 : Nat) (cI : ClassId) (v0 : Int32) (v1 : Int64) (v2 : Int64) (v3 : Int64) (v4 : Int64) (v5 : Int64) (v6 : Int64) (v7 : Int64) (v8 : Int64) (v9 : Int64) (v10 : Int64) (v11 : Int64) (v12 : Int64) (v13 : Int32) (vR : Nat → Int32) (a1 : Int64) (a2 : Int64)  (n : Nat) (out : Int64 × Int64 × Int64 × Int64) (hr : f_X3_toReduced n v6 v7 v8 v9 a1 a2 = some out) : Met l yX3_toReduced wsX3_toReduced ({ frames := 2, cells := 0, slots := 0, locals := 55 }) (va_Pc [.ref h0, .long a1, .long a2] (zP dC dI [(cI, .int)] [(h0, .inr (3, [.int v0, .long v1, .long v2, .long v3, .long v4, .long v5, .long v6, .long v7, .long v8, .long v9, .long v10, .long v11, .long v12, .int v13, .ref h1])), (h1, .inl (cI, 6600, .inl vR))] sz)) (va_Qv (fun (_ : Unit) => True) (fun (_ : Unit) t => zB dC dI [(cI, .int)] (va_A [(h0, .inr (3, [.int v0, .long v1, .long v2, .long v3, .long v4, .long v5, .long v6, .long v7, .long v8, .long v9, .long v10, .long v11, .long v12, .int v13, .ref h1])), (h1, .inl (cI, 6600, .inl vR))] sz) [(h0, .inr (3, [.int v0, .long v1, .long v2, .long v3, .long v4, .long v5, .long out.1, .long out.2.1, .long out.2.2.1, .long out.2.2.2, .long v10, .long v11, .long v12, .int v13, .ref h1])), (h1, .inl (cI, 6600, .inl vR))] t) (va_A [(h0, .inr (3, [.int v0, .long v1, .long v2, .long v3, .long v4, .long v5, .long v6, .long v7, .long v8, .long v9, .long v10, .long v11, .long v12, .int v13, .ref h1])), (h1, .inl (cI, 6600, .inl vR))] sz)) 0 0 (va_A [(h0, .inr (3, [.int v0, .long v1, .long v2, .long v3, .long v4, .long v5, .long v6, .long v7, .long v8, .long v9, .long v10, .long v11, .long v12, .int v13, .ref h1])), (h1, .inl (cI, 6600, .inl vR))] sz) := by
  refine Met.ofW (cc := cX3_toReduced) (maxL := 5) (ret := none) (by decide) rfl ?_
  intro p e s m args below meth c s₁ B hml hv
  obtain ⟨rfl, hsz, hP, hK, hD0⟩ := hv
  have hx := B.exec
  have hb := B.bytes
  have hrt := B.returns
  have hts := atoms_spec (ws := wsX3_toReduced) B.pre
  have hown : s.vm.findClass RX3 = some m.cls := findClass_of_methodNamed B.named
  have hlocks := B.notSynchronized
  subst hsz
  have hD := hD0.self (sz := s.heap.size)
  generalize hAe : va_A [(h0, .inr (3, [.int v0, .long v1, .long v2, .long v3, .long v4, .long v5, .long v6, .long v7, .long v8, .long v9, .long v10, .long v11, .long v12, .int v13, .ref h1])), (h1, .inl (cI, 6600, .inl vR))] s.heap.size = A at hD ⊢
  have hA : ∀ q : Nat, s.heap.size ≤ q → A q := fun q h => by rw [← hAe]; exact Or.inr h
  have hS : va_S A s.heap s.heap [] := va_S.rf
  have hP : va_P (dC, dI) vwCl [(h0, .inr (3, [.int v0, .long v1, .long v2, .long v3, .long v4, .long v5, .long v6, .long v7, .long v8, .long v9, .long v10, .long v11, .long v12, .int v13, .ref h1])), (h1, .inl (cI, 6600, .inl vR))] s.heap := hP
  have hl := lv_entry ([.ref h0, .long a1, .long a2]) (n := 5) (Nat.le_of_ble_eq_true rfl)
  rw [lg_entry_eq]
  generalize (lg_sl ([.ref h0, .long a1, .long a2]) ++ List.replicate (5 - (lg_sl ([.ref h0, .long a1, .long a2])).length) Slot.unset).toArray = ls at hl ⊢
  have hl : lv_has ls 5 [(0, .ref h0), (1, .long a1), (3, .long a2)] := hl
  unfold f_X3_toReduced at hr
  exact k_X3_toReduced_0 hx hb hrt hml hown hlocks hts hA hK n out n v6 v7 v8 v9 hr _ _ _ hP hD hS (lv_sub hl [0, 1, 2] rfl)

theorem in_X3_toName_X3 : ∀ w ∈ u_ws RX3 TX3 15, w ∈ wsX3_toName := by decide +kernel
def f_X3_toName_49 (n : Nat) : Nat → (a1 : Int64) → (a2 : Int64) → Int64 → Int64 → Int64 → Int64 → Int64 → Int64 → Int64 → Int64 → Int64 → Int64 → Option (Int64 × Int64 × Int64 × Int64)
  | 0, _, _, _, _, _, _, _, _, _, _, _, _ => none
  | k + 1, a1, a2, u5, u7, u9, u11, u13, u15, w0_6, w0_7, w0_8, w0_9 => if w0_6 = u5 then (if w0_7 = u7 then (if w0_8 = u9 then ((f_X3_begin n u11 u13 u15).bind (fun r_35 => some (r_35.1, r_35.2.1, r_35.2.2, w0_9))) else (if w0_6 < u11 then ((f_X3_step n w0_7 w0_8 a1 a2).bind (fun r_39 => f_X3_toName_49 n k a1 a2 u5 u7 u9 w0_6 w0_7 w0_8 r_39.1 r_39.2.1 r_39.2.2.1 r_39.2.2.2)) else (if w0_6 = u11 then (if w0_7 < u13 then ((f_X3_step n w0_7 w0_8 a1 a2).bind (fun r_50 => f_X3_toName_49 n k a1 a2 u5 u7 u9 w0_6 w0_7 w0_8 r_50.1 r_50.2.1 r_50.2.2.1 r_50.2.2.2)) else ((f_X3_step n w0_7 w0_8 a1 a2).bind (fun r_47 => f_X3_toName_49 n k a1 a2 u5 u7 u9 u11 u13 u15 r_47.1 r_47.2.1 r_47.2.2.1 r_47.2.2.2))) else ((f_X3_step n w0_7 w0_8 a1 a2).bind (fun r_43 => f_X3_toName_49 n k a1 a2 u5 u7 u9 u11 u13 u15 r_43.1 r_43.2.1 r_43.2.2.1 r_43.2.2.2))))) else (if w0_6 < u11 then ((f_X3_step n w0_7 w0_8 a1 a2).bind (fun r_20 => f_X3_toName_49 n k a1 a2 u5 u7 u9 w0_6 w0_7 w0_8 r_20.1 r_20.2.1 r_20.2.2.1 r_20.2.2.2)) else (if w0_6 = u11 then (if w0_7 < u13 then ((f_X3_step n w0_7 w0_8 a1 a2).bind (fun r_31 => f_X3_toName_49 n k a1 a2 u5 u7 u9 w0_6 w0_7 w0_8 r_31.1 r_31.2.1 r_31.2.2.1 r_31.2.2.2)) else ((f_X3_step n w0_7 w0_8 a1 a2).bind (fun r_28 => f_X3_toName_49 n k a1 a2 u5 u7 u9 u11 u13 u15 r_28.1 r_28.2.1 r_28.2.2.1 r_28.2.2.2))) else ((f_X3_step n w0_7 w0_8 a1 a2).bind (fun r_24 => f_X3_toName_49 n k a1 a2 u5 u7 u9 u11 u13 u15 r_24.1 r_24.2.1 r_24.2.2.1 r_24.2.2.2))))) else (if w0_6 < u11 then ((f_X3_step n w0_7 w0_8 a1 a2).bind (fun r_4 => f_X3_toName_49 n k a1 a2 u5 u7 u9 w0_6 w0_7 w0_8 r_4.1 r_4.2.1 r_4.2.2.1 r_4.2.2.2)) else (if w0_6 = u11 then (if w0_7 < u13 then ((f_X3_step n w0_7 w0_8 a1 a2).bind (fun r_15 => f_X3_toName_49 n k a1 a2 u5 u7 u9 w0_6 w0_7 w0_8 r_15.1 r_15.2.1 r_15.2.2.1 r_15.2.2.2)) else ((f_X3_step n w0_7 w0_8 a1 a2).bind (fun r_12 => f_X3_toName_49 n k a1 a2 u5 u7 u9 u11 u13 u15 r_12.1 r_12.2.1 r_12.2.2.1 r_12.2.2.2))) else ((f_X3_step n w0_7 w0_8 a1 a2).bind (fun r_8 => f_X3_toName_49 n k a1 a2 u5 u7 u9 u11 u13 u15 r_8.1 r_8.2.1 r_8.2.2.1 r_8.2.2.2))))
set_option maxHeartbeats 4000000 in
set_option maxRecDepth 100000 in
theorem k_X3_toName_49 {p : Program} {l : Launch} {e : Env} {s : State} {m : MethodId} {args : Array Value} {below : List Frame} {meth : Method} {c : Code} {dC : Nat → ClassId} {dI : Nat → Nat → Nat} {A : Nat → Prop} {h0 : Nat} {h1 : Nat} {cI : ClassId} {v0 : Int32} {v1 : Int64} {v2 : Int64} {v3 : Int64} {v4 : Int64} {v5 : Int64} {v10 : Int64} {v11 : Int64} {v12 : Int64} {v13 : Int32} {vR : Nat → Int32} {a1 : Int64} {a2 : Int64} (hx : p.tables.exec = Jvm.exec) (hb : c.code = cX3_toName) (hrt : meth.sig.returnType = none) (hml : c.maxLocals = 17) (hown : s.vm.findClass RX3 = some m.cls) (hlocks : meth.locks = false) (hts : ∀ w ∈ wsX3_toName, w.before args s = true) (hA : ∀ q : Nat, s.heap.size ≤ q → A q) (hK : va_K (dC, dI) vwCl [(cI, .int)] s)  (n : Nat) (out : Int64 × Int64 × Int64 × Int64) :
    ∀ (k : Nat) (u5 : Int64) (u7 : Int64) (u9 : Int64) (u11 : Int64) (u13 : Int64) (u15 : Int64) (w0_6 : Int64) (w0_7 : Int64) (w0_8 : Int64) (w0_9 : Int64), f_X3_toName_49 n k a1 a2 u5 u7 u9 u11 u13 u15 w0_6 w0_7 w0_8 w0_9 = some out → ∀ (H : Heap) (locs : List Loc) (ls : Array Slot), va_P (dC, dI) vwCl [(h0, .inr (3, [.int v0, .long v1, .long v2, .long v3, .long v4, .long v5, .long w0_6, .long w0_7, .long w0_8, .long w0_9, .long v10, .long v11, .long v12, .int v13, .ref h1])), (h1, .inl (cI, 6600, .inl vR))] H → va_D A [(h0, .inr (3, [.int v0, .long v1, .long v2, .long v3, .long v4, .long v5, .long w0_6, .long w0_7, .long w0_8, .long w0_9, .long v10, .long v11, .long v12, .int v13, .ref h1])), (h1, .inl (cI, 6600, .inl vR))] → va_S A s.heap H locs → lv_has ls 17 [(0, .ref h0), (1, .long a1), (3, .long a2), (5, .long u5), (7, .long u7), (9, .long u9), (11, .long u11), (13, .long u13), (15, .long u15)] → W p l e ({ frames := 2, cells := 0, slots := 0, locals := 55 }) s m args below meth c H locs 0 0 (MQ below (va_Qv (fun (_ : Unit) => True) (fun (_ : Unit) t => zB dC dI [(cI, .int)] A [(h0, .inr (3, [.int v0, .long v1, .long v2, .long v3, .long v4, .long v5, .long out.1, .long out.2.1, .long out.2.2.1, .long out.2.2.2, .long v10, .long v11, .long v12, .int v13, .ref h1])), (h1, .inl (cI, 6600, .inl vR))] t) A) args s 0 0 A) (F0 m 49 ls []) := by
  intro k
  induction k with
  | zero => intro u5 u7 u9 u11 u13 u15 w0_6 w0_7 w0_8 w0_9 hr; rw [f_X3_toName_49] at hr; cases hr
  | succ k ih =>
    intro u5 u7 u9 u11 u13 u15 w0_6 w0_7 w0_8 w0_9 hr H locs ls hP hD hS hl
    rw [f_X3_toName_49] at hr
    refine lv_aload_n hx hb dX3_toName_49 rfl (lv_at hl 0 rfl) ?_
    refine va_get (D := (dC, dI)) (ci := 3) (v := .long w0_6) (C := RX3) (T := TX3) (N := 15) hx hb hts in_X3_toName_X3 hown hK hP 0 rfl rfl 6 (by decide) (hts (.fieldLink RX3 69 "FormRingModel" "x" "J") (by decide +kernel)) (fun _ h9 => h9) rfl dX3_toName_50 ?_
    refine lv_lload hx hb dX3_toName_53 (lv_at hl 3 rfl) ?_
    refine lz_lne (tgt := 79) hx hb dX3_toName_55 dX3_toName_56 (by decide) (fun c_1 => ?_) (fun c_1 => ?_)
    · have hr := (if_neg c_1).symm.trans hr
      refine lv_aload_n hx hb dX3_toName_79 rfl (lv_at hl 0 rfl) ?_
      refine va_get (D := (dC, dI)) (ci := 3) (v := .long w0_6) (C := RX3) (T := TX3) (N := 15) hx hb hts in_X3_toName_X3 hown hK hP 0 rfl rfl 6 (by decide) (hts (.fieldLink RX3 69 "FormRingModel" "x" "J") (by decide +kernel)) (fun _ h9 => h9) rfl dX3_toName_80 ?_
      refine lv_lload hx hb dX3_toName_83 (lv_at hl 6 rfl) ?_
      refine lz_llt (tgt := 109) hx hb dX3_toName_85 dX3_toName_86 (by decide) (fun c_2 => ?_) (fun c_2 => ?_)
      · have hr := (if_pos c_2).symm.trans hr
        refine lv_aload_n hx hb dX3_toName_109 rfl (lv_at hl 0 rfl) ?_
        refine va_get (D := (dC, dI)) (ci := 3) (v := .long w0_6) (C := RX3) (T := TX3) (N := 15) hx hb hts in_X3_toName_X3 hown hK hP 0 rfl rfl 6 (by decide) (hts (.fieldLink RX3 69 "FormRingModel" "x" "J") (by decide +kernel)) (fun _ h9 => h9) rfl dX3_toName_110 ?_
        refine lv_lstore (lv' := [(11, .long w0_6), (0, .ref h0), (1, .long a1), (3, .long a2), (5, .long u5), (7, .long u7), (9, .long u9), (13, .long u13), (15, .long u15)]) hx hb dX3_toName_113 hl (by decide) rfl (fun ls hl => ?_)
        refine lv_aload_n hx hb dX3_toName_115 rfl (lv_at hl 1 rfl) ?_
        refine va_get (D := (dC, dI)) (ci := 3) (v := .long w0_7) (C := RX3) (T := TX3) (N := 15) hx hb hts in_X3_toName_X3 hown hK hP 0 rfl rfl 7 (by decide) (hts (.fieldLink RX3 72 "FormRingModel" "y" "J") (by decide +kernel)) (fun _ h9 => h9) rfl dX3_toName_116 ?_
        refine lv_lstore (lv' := [(13, .long w0_7), (11, .long w0_6), (0, .ref h0), (1, .long a1), (3, .long a2), (5, .long u5), (7, .long u7), (9, .long u9), (15, .long u15)]) hx hb dX3_toName_119 hl (by decide) rfl (fun ls hl => ?_)
        refine lv_aload_n hx hb dX3_toName_121 rfl (lv_at hl 2 rfl) ?_
        refine va_get (D := (dC, dI)) (ci := 3) (v := .long w0_8) (C := RX3) (T := TX3) (N := 15) hx hb hts in_X3_toName_X3 hown hK hP 0 rfl rfl 8 (by decide) (hts (.fieldLink RX3 75 "FormRingModel" "z" "J") (by decide +kernel)) (fun _ h9 => h9) rfl dX3_toName_122 ?_
        refine lv_lstore (lv' := [(15, .long w0_8), (13, .long w0_7), (11, .long w0_6), (0, .ref h0), (1, .long a1), (3, .long a2), (5, .long u5), (7, .long u7), (9, .long u9)]) hx hb dX3_toName_125 hl (by decide) rfl (fun ls hl => ?_)
        refine lv_aload_n hx hb dX3_toName_127 rfl (lv_at hl 3 rfl) ?_
        refine lv_lload_n hx hb dX3_toName_128 rfl (lv_at hl 4 rfl) ?_
        refine lv_lload_n hx hb dX3_toName_129 rfl (lv_at hl 5 rfl) ?_
        cases e_3 : f_X3_step n w0_7 w0_8 a1 a2 with
        | none => rw [e_3, Option.bind_none] at hr; cases hr
        | some r_4 =>
          rw [e_3, Option.bind_some] at hr
          have hPc := hP.sub (ws' := [(h0, .inr (3, [.int v0, .long v1, .long v2, .long v3, .long v4, .long v5, .long w0_6, .long w0_7, .long w0_8, .long w0_9, .long v10, .long v11, .long v12, .int v13, .ref h1])), (h1, .inl (cI, 6600, .inl vR))]) [0, 1] rfl
          have hDc := hD.sub (ws' := [(h0, .inr (3, [.int v0, .long v1, .long v2, .long v3, .long v4, .long v5, .long w0_6, .long w0_7, .long w0_8, .long w0_9, .long v10, .long v11, .long v12, .int v13, .ref h1])), (h1, .inl (cI, 6600, .inl vR))]) [0, 1] (by decide) rfl
          have hKc := hK.sub (tys' := [(cI, .int)]) [0] rfl
          have hFc := va_free (wc := [(h0, .inr (3, [.int v0, .long v1, .long v2, .long v3, .long v4, .long v5, .long w0_6, .long w0_7, .long w0_8, .long w0_9, .long v10, .long v11, .long v12, .int v13, .ref h1])), (h1, .inl (cI, 6600, .inl vR))]) hD hS hA [0, 1] rfl
          refine va_callv (va_runV (As := [.long a1, .long a2]) (rest := []) ⟨hx, hb, hml, hown, hts⟩ (c_X3_step l dC dI H.size h0 h1 cI v0 v1 v2 v3 v4 v5 w0_6 w0_7 w0_8 w0_9 v10 v11 v12 v13 vR a1 a2 n _ e_3) (cwV 2 hts gX3_toName_X3_step rfl rfl rfl (by decide +kernel) ⟨Nat.le_of_ble_eq_true rfl, Nat.le_of_ble_eq_true rfl⟩) ⟨fun a U g mk q => by obtain ⟨q0, q1, qP, qK, qD⟩ := q; exact ⟨q0, q1, qP, va_K.moved (u := U) (U := U.calling g mk a) (Vm.Alike.refl U.vm) qK, qD⟩, va_recv hKc hPc (ci := 3) (q0 := 0) rfl rfl, fun U hU hW => ⟨rfl, by rw [hU], by rw [hU]; exact hPc, va_K.moved hW.alike hKc, hDc.weaken (fun _ _ _ _ => trivial)⟩⟩ rfl rfl hl.1 rfl (lv_room (Nat.le_of_ble_eq_true rfl)) dX3_toName_130 ⟨Nat.zero_le _, Nat.zero_le _⟩) hS (fun q _ h => hFc q h) hFc (fun _ t H1 locs ht hvm hw hB hz1 hk1 hS => ?_)
          obtain ⟨hP1, hK1, hD1⟩ := hB
          rw [ht] at hP1
          obtain ⟨hP, hD⟩ := va_join (wr := []) (w1 := [(h0, .inr (3, [.int v0, .long v1, .long v2, .long v3, .long v4, .long v5, .long r_4.1, .long r_4.2.1, .long r_4.2.2.1, .long r_4.2.2.2, .long v10, .long v11, .long v12, .int v13, .ref h1])), (h1, .inl (cI, 6600, .inl vR))]) hP hD [0, 1] [] rfl rfl (by decide) (by decide) hk1 hFc hP1 hD1
          generalize H1 = H at hP hS ⊢
          have hP : va_P (dC, dI) vwCl [(h0, .inr (3, [.int v0, .long v1, .long v2, .long v3, .long v4, .long v5, .long r_4.1, .long r_4.2.1, .long r_4.2.2.1, .long r_4.2.2.2, .long v10, .long v11, .long v12, .int v13, .ref h1])), (h1, .inl (cI, 6600, .inl vR))] H := hP
          have hD : va_D A [(h0, .inr (3, [.int v0, .long v1, .long v2, .long v3, .long v4, .long v5, .long r_4.1, .long r_4.2.1, .long r_4.2.2.1, .long r_4.2.2.2, .long v10, .long v11, .long v12, .int v13, .ref h1])), (h1, .inl (cI, 6600, .inl vR))] := hD
          refine W.widen (k := 0) (n := 0) (Nat.le_refl _) (Nat.le_refl _) ?_
          refine lv_goto (tgt := 49) hx hb dX3_toName_133 (by decide) ?_
          exact ih u5 u7 u9 w0_6 w0_7 w0_8 r_4.1 r_4.2.1 r_4.2.2.1 r_4.2.2.2 hr _ _ _ hP hD hS (lv_sub hl [3, 4, 5, 6, 7, 8, 2, 1, 0] rfl)
      · have hr := (if_neg c_2).symm.trans hr
        refine lv_aload_n hx hb dX3_toName_89 rfl (lv_at hl 0 rfl) ?_
        refine va_get (D := (dC, dI)) (ci := 3) (v := .long w0_6) (C := RX3) (T := TX3) (N := 15) hx hb hts in_X3_toName_X3 hown hK hP 0 rfl rfl 6 (by decide) (hts (.fieldLink RX3 69 "FormRingModel" "x" "J") (by decide +kernel)) (fun _ h9 => h9) rfl dX3_toName_90 ?_
        refine lv_lload hx hb dX3_toName_93 (lv_at hl 6 rfl) ?_
        refine lz_lne (tgt := 127) hx hb dX3_toName_95 dX3_toName_96 (by decide) (fun c_6 => ?_) (fun c_6 => ?_)
        · have hr := (if_neg c_6).symm.trans hr
          refine lv_aload_n hx hb dX3_toName_127 rfl (lv_at hl 0 rfl) ?_
          refine lv_lload_n hx hb dX3_toName_128 rfl (lv_at hl 1 rfl) ?_
          refine lv_lload_n hx hb dX3_toName_129 rfl (lv_at hl 2 rfl) ?_
          cases e_7 : f_X3_step n w0_7 w0_8 a1 a2 with
          | none => rw [e_7, Option.bind_none] at hr; cases hr
          | some r_8 =>
            rw [e_7, Option.bind_some] at hr
            have hPc := hP.sub (ws' := [(h0, .inr (3, [.int v0, .long v1, .long v2, .long v3, .long v4, .long v5, .long w0_6, .long w0_7, .long w0_8, .long w0_9, .long v10, .long v11, .long v12, .int v13, .ref h1])), (h1, .inl (cI, 6600, .inl vR))]) [0, 1] rfl
            have hDc := hD.sub (ws' := [(h0, .inr (3, [.int v0, .long v1, .long v2, .long v3, .long v4, .long v5, .long w0_6, .long w0_7, .long w0_8, .long w0_9, .long v10, .long v11, .long v12, .int v13, .ref h1])), (h1, .inl (cI, 6600, .inl vR))]) [0, 1] (by decide) rfl
            have hKc := hK.sub (tys' := [(cI, .int)]) [0] rfl
            have hFc := va_free (wc := [(h0, .inr (3, [.int v0, .long v1, .long v2, .long v3, .long v4, .long v5, .long w0_6, .long w0_7, .long w0_8, .long w0_9, .long v10, .long v11, .long v12, .int v13, .ref h1])), (h1, .inl (cI, 6600, .inl vR))]) hD hS hA [0, 1] rfl
            refine va_callv (va_runV (As := [.long a1, .long a2]) (rest := []) ⟨hx, hb, hml, hown, hts⟩ (c_X3_step l dC dI H.size h0 h1 cI v0 v1 v2 v3 v4 v5 w0_6 w0_7 w0_8 w0_9 v10 v11 v12 v13 vR a1 a2 n _ e_7) (cwV 2 hts gX3_toName_X3_step rfl rfl rfl (by decide +kernel) ⟨Nat.le_of_ble_eq_true rfl, Nat.le_of_ble_eq_true rfl⟩) ⟨fun a U g mk q => by obtain ⟨q0, q1, qP, qK, qD⟩ := q; exact ⟨q0, q1, qP, va_K.moved (u := U) (U := U.calling g mk a) (Vm.Alike.refl U.vm) qK, qD⟩, va_recv hKc hPc (ci := 3) (q0 := 0) rfl rfl, fun U hU hW => ⟨rfl, by rw [hU], by rw [hU]; exact hPc, va_K.moved hW.alike hKc, hDc.weaken (fun _ _ _ _ => trivial)⟩⟩ rfl rfl hl.1 rfl (lv_room (Nat.le_of_ble_eq_true rfl)) dX3_toName_130 ⟨Nat.zero_le _, Nat.zero_le _⟩) hS (fun q _ h => hFc q h) hFc (fun _ t H1 locs ht hvm hw hB hz1 hk1 hS => ?_)
            obtain ⟨hP1, hK1, hD1⟩ := hB
            rw [ht] at hP1
            obtain ⟨hP, hD⟩ := va_join (wr := []) (w1 := [(h0, .inr (3, [.int v0, .long v1, .long v2, .long v3, .long v4, .long v5, .long r_8.1, .long r_8.2.1, .long r_8.2.2.1, .long r_8.2.2.2, .long v10, .long v11, .long v12, .int v13, .ref h1])), (h1, .inl (cI, 6600, .inl vR))]) hP hD [0, 1] [] rfl rfl (by decide) (by decide) hk1 hFc hP1 hD1
            generalize H1 = H at hP hS ⊢
            have hP : va_P (dC, dI) vwCl [(h0, .inr (3, [.int v0, .long v1, .long v2, .long v3, .long v4, .long v5, .long r_8.1, .long r_8.2.1, .long r_8.2.2.1, .long r_8.2.2.2, .long v10, .long v11, .long v12, .int v13, .ref h1])), (h1, .inl (cI, 6600, .inl vR))] H := hP
            have hD : va_D A [(h0, .inr (3, [.int v0, .long v1, .long v2, .long v3, .long v4, .long v5, .long r_8.1, .long r_8.2.1, .long r_8.2.2.1, .long r_8.2.2.2, .long v10, .long v11, .long v12, .int v13, .ref h1])), (h1, .inl (cI, 6600, .inl vR))] := hD
            refine W.widen (k := 0) (n := 0) (Nat.le_refl _) (Nat.le_refl _) ?_
            refine lv_goto (tgt := 49) hx hb dX3_toName_133 (by decide) ?_
            exact ih u5 u7 u9 u11 u13 u15 r_8.1 r_8.2.1 r_8.2.2.1 r_8.2.2.2 hr _ _ _ hP hD hS (lv_sub hl [0, 1, 2, 3, 4, 5, 6, 7, 8] rfl)
        · have hr := (if_pos c_6).symm.trans hr
          refine lv_aload_n hx hb dX3_toName_99 rfl (lv_at hl 0 rfl) ?_
          refine va_get (D := (dC, dI)) (ci := 3) (v := .long w0_7) (C := RX3) (T := TX3) (N := 15) hx hb hts in_X3_toName_X3 hown hK hP 0 rfl rfl 7 (by decide) (hts (.fieldLink RX3 72 "FormRingModel" "y" "J") (by decide +kernel)) (fun _ h9 => h9) rfl dX3_toName_100 ?_
          refine lv_lload hx hb dX3_toName_103 (lv_at hl 7 rfl) ?_
          refine lz_lge (tgt := 127) hx hb dX3_toName_105 dX3_toName_106 (by decide) (fun c_10 => ?_) (fun c_10 => ?_)
          · have hr := (if_neg c_10).symm.trans hr
            refine lv_aload_n hx hb dX3_toName_127 rfl (lv_at hl 0 rfl) ?_
            refine lv_lload_n hx hb dX3_toName_128 rfl (lv_at hl 1 rfl) ?_
            refine lv_lload_n hx hb dX3_toName_129 rfl (lv_at hl 2 rfl) ?_
            cases e_11 : f_X3_step n w0_7 w0_8 a1 a2 with
            | none => rw [e_11, Option.bind_none] at hr; cases hr
            | some r_12 =>
              rw [e_11, Option.bind_some] at hr
              have hPc := hP.sub (ws' := [(h0, .inr (3, [.int v0, .long v1, .long v2, .long v3, .long v4, .long v5, .long w0_6, .long w0_7, .long w0_8, .long w0_9, .long v10, .long v11, .long v12, .int v13, .ref h1])), (h1, .inl (cI, 6600, .inl vR))]) [0, 1] rfl
              have hDc := hD.sub (ws' := [(h0, .inr (3, [.int v0, .long v1, .long v2, .long v3, .long v4, .long v5, .long w0_6, .long w0_7, .long w0_8, .long w0_9, .long v10, .long v11, .long v12, .int v13, .ref h1])), (h1, .inl (cI, 6600, .inl vR))]) [0, 1] (by decide) rfl
              have hKc := hK.sub (tys' := [(cI, .int)]) [0] rfl
              have hFc := va_free (wc := [(h0, .inr (3, [.int v0, .long v1, .long v2, .long v3, .long v4, .long v5, .long w0_6, .long w0_7, .long w0_8, .long w0_9, .long v10, .long v11, .long v12, .int v13, .ref h1])), (h1, .inl (cI, 6600, .inl vR))]) hD hS hA [0, 1] rfl
              refine va_callv (va_runV (As := [.long a1, .long a2]) (rest := []) ⟨hx, hb, hml, hown, hts⟩ (c_X3_step l dC dI H.size h0 h1 cI v0 v1 v2 v3 v4 v5 w0_6 w0_7 w0_8 w0_9 v10 v11 v12 v13 vR a1 a2 n _ e_11) (cwV 2 hts gX3_toName_X3_step rfl rfl rfl (by decide +kernel) ⟨Nat.le_of_ble_eq_true rfl, Nat.le_of_ble_eq_true rfl⟩) ⟨fun a U g mk q => by obtain ⟨q0, q1, qP, qK, qD⟩ := q; exact ⟨q0, q1, qP, va_K.moved (u := U) (U := U.calling g mk a) (Vm.Alike.refl U.vm) qK, qD⟩, va_recv hKc hPc (ci := 3) (q0 := 0) rfl rfl, fun U hU hW => ⟨rfl, by rw [hU], by rw [hU]; exact hPc, va_K.moved hW.alike hKc, hDc.weaken (fun _ _ _ _ => trivial)⟩⟩ rfl rfl hl.1 rfl (lv_room (Nat.le_of_ble_eq_true rfl)) dX3_toName_130 ⟨Nat.zero_le _, Nat.zero_le _⟩) hS (fun q _ h => hFc q h) hFc (fun _ t H1 locs ht hvm hw hB hz1 hk1 hS => ?_)
              obtain ⟨hP1, hK1, hD1⟩ := hB
              rw [ht] at hP1
              obtain ⟨hP, hD⟩ := va_join (wr := []) (w1 := [(h0, .inr (3, [.int v0, .long v1, .long v2, .long v3, .long v4, .long v5, .long r_12.1, .long r_12.2.1, .long r_12.2.2.1, .long r_12.2.2.2, .long v10, .long v11, .long v12, .int v13, .ref h1])), (h1, .inl (cI, 6600, .inl vR))]) hP hD [0, 1] [] rfl rfl (by decide) (by decide) hk1 hFc hP1 hD1
              generalize H1 = H at hP hS ⊢
              have hP : va_P (dC, dI) vwCl [(h0, .inr (3, [.int v0, .long v1, .long v2, .long v3, .long v4, .long v5, .long r_12.1, .long r_12.2.1, .long r_12.2.2.1, .long r_12.2.2.2, .long v10, .long v11, .long v12, .int v13, .ref h1])), (h1, .inl (cI, 6600, .inl vR))] H := hP
              have hD : va_D A [(h0, .inr (3, [.int v0, .long v1, .long v2, .long v3, .long v4, .long v5, .long r_12.1, .long r_12.2.1, .long r_12.2.2.1, .long r_12.2.2.2, .long v10, .long v11, .long v12, .int v13, .ref h1])), (h1, .inl (cI, 6600, .inl vR))] := hD
              refine W.widen (k := 0) (n := 0) (Nat.le_refl _) (Nat.le_refl _) ?_
              refine lv_goto (tgt := 49) hx hb dX3_toName_133 (by decide) ?_
              exact ih u5 u7 u9 u11 u13 u15 r_12.1 r_12.2.1 r_12.2.2.1 r_12.2.2.2 hr _ _ _ hP hD hS (lv_sub hl [0, 1, 2, 3, 4, 5, 6, 7, 8] rfl)
          · have hr := (if_pos c_10).symm.trans hr
            refine lv_aload_n hx hb dX3_toName_109 rfl (lv_at hl 0 rfl) ?_
            refine va_get (D := (dC, dI)) (ci := 3) (v := .long w0_6) (C := RX3) (T := TX3) (N := 15) hx hb hts in_X3_toName_X3 hown hK hP 0 rfl rfl 6 (by decide) (hts (.fieldLink RX3 69 "FormRingModel" "x" "J") (by decide +kernel)) (fun _ h9 => h9) rfl dX3_toName_110 ?_
            refine lv_lstore (lv' := [(11, .long w0_6), (0, .ref h0), (1, .long a1), (3, .long a2), (5, .long u5), (7, .long u7), (9, .long u9), (13, .long u13), (15, .long u15)]) hx hb dX3_toName_113 hl (by decide) rfl (fun ls hl => ?_)
            refine lv_aload_n hx hb dX3_toName_115 rfl (lv_at hl 1 rfl) ?_
            refine va_get (D := (dC, dI)) (ci := 3) (v := .long w0_7) (C := RX3) (T := TX3) (N := 15) hx hb hts in_X3_toName_X3 hown hK hP 0 rfl rfl 7 (by decide) (hts (.fieldLink RX3 72 "FormRingModel" "y" "J") (by decide +kernel)) (fun _ h9 => h9) rfl dX3_toName_116 ?_
            refine lv_lstore (lv' := [(13, .long w0_7), (11, .long w0_6), (0, .ref h0), (1, .long a1), (3, .long a2), (5, .long u5), (7, .long u7), (9, .long u9), (15, .long u15)]) hx hb dX3_toName_119 hl (by decide) rfl (fun ls hl => ?_)
            refine lv_aload_n hx hb dX3_toName_121 rfl (lv_at hl 2 rfl) ?_
            refine va_get (D := (dC, dI)) (ci := 3) (v := .long w0_8) (C := RX3) (T := TX3) (N := 15) hx hb hts in_X3_toName_X3 hown hK hP 0 rfl rfl 8 (by decide) (hts (.fieldLink RX3 75 "FormRingModel" "z" "J") (by decide +kernel)) (fun _ h9 => h9) rfl dX3_toName_122 ?_
            refine lv_lstore (lv' := [(15, .long w0_8), (13, .long w0_7), (11, .long w0_6), (0, .ref h0), (1, .long a1), (3, .long a2), (5, .long u5), (7, .long u7), (9, .long u9)]) hx hb dX3_toName_125 hl (by decide) rfl (fun ls hl => ?_)
            refine lv_aload_n hx hb dX3_toName_127 rfl (lv_at hl 3 rfl) ?_
            refine lv_lload_n hx hb dX3_toName_128 rfl (lv_at hl 4 rfl) ?_
            refine lv_lload_n hx hb dX3_toName_129 rfl (lv_at hl 5 rfl) ?_
            cases e_14 : f_X3_step n w0_7 w0_8 a1 a2 with
            | none => rw [e_14, Option.bind_none] at hr; cases hr
            | some r_15 =>
              rw [e_14, Option.bind_some] at hr
              have hPc := hP.sub (ws' := [(h0, .inr (3, [.int v0, .long v1, .long v2, .long v3, .long v4, .long v5, .long w0_6, .long w0_7, .long w0_8, .long w0_9, .long v10, .long v11, .long v12, .int v13, .ref h1])), (h1, .inl (cI, 6600, .inl vR))]) [0, 1] rfl
              have hDc := hD.sub (ws' := [(h0, .inr (3, [.int v0, .long v1, .long v2, .long v3, .long v4, .long v5, .long w0_6, .long w0_7, .long w0_8, .long w0_9, .long v10, .long v11, .long v12, .int v13, .ref h1])), (h1, .inl (cI, 6600, .inl vR))]) [0, 1] (by decide) rfl
              have hKc := hK.sub (tys' := [(cI, .int)]) [0] rfl
              have hFc := va_free (wc := [(h0, .inr (3, [.int v0, .long v1, .long v2, .long v3, .long v4, .long v5, .long w0_6, .long w0_7, .long w0_8, .long w0_9, .long v10, .long v11, .long v12, .int v13, .ref h1])), (h1, .inl (cI, 6600, .inl vR))]) hD hS hA [0, 1] rfl
              refine va_callv (va_runV (As := [.long a1, .long a2]) (rest := []) ⟨hx, hb, hml, hown, hts⟩ (c_X3_step l dC dI H.size h0 h1 cI v0 v1 v2 v3 v4 v5 w0_6 w0_7 w0_8 w0_9 v10 v11 v12 v13 vR a1 a2 n _ e_14) (cwV 2 hts gX3_toName_X3_step rfl rfl rfl (by decide +kernel) ⟨Nat.le_of_ble_eq_true rfl, Nat.le_of_ble_eq_true rfl⟩) ⟨fun a U g mk q => by obtain ⟨q0, q1, qP, qK, qD⟩ := q; exact ⟨q0, q1, qP, va_K.moved (u := U) (U := U.calling g mk a) (Vm.Alike.refl U.vm) qK, qD⟩, va_recv hKc hPc (ci := 3) (q0 := 0) rfl rfl, fun U hU hW => ⟨rfl, by rw [hU], by rw [hU]; exact hPc, va_K.moved hW.alike hKc, hDc.weaken (fun _ _ _ _ => trivial)⟩⟩ rfl rfl hl.1 rfl (lv_room (Nat.le_of_ble_eq_true rfl)) dX3_toName_130 ⟨Nat.zero_le _, Nat.zero_le _⟩) hS (fun q _ h => hFc q h) hFc (fun _ t H1 locs ht hvm hw hB hz1 hk1 hS => ?_)
              obtain ⟨hP1, hK1, hD1⟩ := hB
              rw [ht] at hP1
              obtain ⟨hP, hD⟩ := va_join (wr := []) (w1 := [(h0, .inr (3, [.int v0, .long v1, .long v2, .long v3, .long v4, .long v5, .long r_15.1, .long r_15.2.1, .long r_15.2.2.1, .long r_15.2.2.2, .long v10, .long v11, .long v12, .int v13, .ref h1])), (h1, .inl (cI, 6600, .inl vR))]) hP hD [0, 1] [] rfl rfl (by decide) (by decide) hk1 hFc hP1 hD1
              generalize H1 = H at hP hS ⊢
              have hP : va_P (dC, dI) vwCl [(h0, .inr (3, [.int v0, .long v1, .long v2, .long v3, .long v4, .long v5, .long r_15.1, .long r_15.2.1, .long r_15.2.2.1, .long r_15.2.2.2, .long v10, .long v11, .long v12, .int v13, .ref h1])), (h1, .inl (cI, 6600, .inl vR))] H := hP
              have hD : va_D A [(h0, .inr (3, [.int v0, .long v1, .long v2, .long v3, .long v4, .long v5, .long r_15.1, .long r_15.2.1, .long r_15.2.2.1, .long r_15.2.2.2, .long v10, .long v11, .long v12, .int v13, .ref h1])), (h1, .inl (cI, 6600, .inl vR))] := hD
              refine W.widen (k := 0) (n := 0) (Nat.le_refl _) (Nat.le_refl _) ?_
              refine lv_goto (tgt := 49) hx hb dX3_toName_133 (by decide) ?_
              exact ih u5 u7 u9 w0_6 w0_7 w0_8 r_15.1 r_15.2.1 r_15.2.2.1 r_15.2.2.2 hr _ _ _ hP hD hS (lv_sub hl [3, 4, 5, 6, 7, 8, 2, 1, 0] rfl)
    · have hr := (if_pos c_1).symm.trans hr
      refine lv_aload_n hx hb dX3_toName_59 rfl (lv_at hl 0 rfl) ?_
      refine va_get (D := (dC, dI)) (ci := 3) (v := .long w0_7) (C := RX3) (T := TX3) (N := 15) hx hb hts in_X3_toName_X3 hown hK hP 0 rfl rfl 7 (by decide) (hts (.fieldLink RX3 72 "FormRingModel" "y" "J") (by decide +kernel)) (fun _ h9 => h9) rfl dX3_toName_60 ?_
      refine lv_lload hx hb dX3_toName_63 (lv_at hl 4 rfl) ?_
      refine lz_lne (tgt := 79) hx hb dX3_toName_65 dX3_toName_66 (by decide) (fun c_17 => ?_) (fun c_17 => ?_)
      · have hr := (if_neg c_17).symm.trans hr
        refine lv_aload_n hx hb dX3_toName_79 rfl (lv_at hl 0 rfl) ?_
        refine va_get (D := (dC, dI)) (ci := 3) (v := .long w0_6) (C := RX3) (T := TX3) (N := 15) hx hb hts in_X3_toName_X3 hown hK hP 0 rfl rfl 6 (by decide) (hts (.fieldLink RX3 69 "FormRingModel" "x" "J") (by decide +kernel)) (fun _ h9 => h9) rfl dX3_toName_80 ?_
        refine lv_lload hx hb dX3_toName_83 (lv_at hl 6 rfl) ?_
        refine lz_llt (tgt := 109) hx hb dX3_toName_85 dX3_toName_86 (by decide) (fun c_18 => ?_) (fun c_18 => ?_)
        · have hr := (if_pos c_18).symm.trans hr
          refine lv_aload_n hx hb dX3_toName_109 rfl (lv_at hl 0 rfl) ?_
          refine va_get (D := (dC, dI)) (ci := 3) (v := .long w0_6) (C := RX3) (T := TX3) (N := 15) hx hb hts in_X3_toName_X3 hown hK hP 0 rfl rfl 6 (by decide) (hts (.fieldLink RX3 69 "FormRingModel" "x" "J") (by decide +kernel)) (fun _ h9 => h9) rfl dX3_toName_110 ?_
          refine lv_lstore (lv' := [(11, .long w0_6), (0, .ref h0), (1, .long a1), (3, .long a2), (5, .long u5), (7, .long u7), (9, .long u9), (13, .long u13), (15, .long u15)]) hx hb dX3_toName_113 hl (by decide) rfl (fun ls hl => ?_)
          refine lv_aload_n hx hb dX3_toName_115 rfl (lv_at hl 1 rfl) ?_
          refine va_get (D := (dC, dI)) (ci := 3) (v := .long w0_7) (C := RX3) (T := TX3) (N := 15) hx hb hts in_X3_toName_X3 hown hK hP 0 rfl rfl 7 (by decide) (hts (.fieldLink RX3 72 "FormRingModel" "y" "J") (by decide +kernel)) (fun _ h9 => h9) rfl dX3_toName_116 ?_
          refine lv_lstore (lv' := [(13, .long w0_7), (11, .long w0_6), (0, .ref h0), (1, .long a1), (3, .long a2), (5, .long u5), (7, .long u7), (9, .long u9), (15, .long u15)]) hx hb dX3_toName_119 hl (by decide) rfl (fun ls hl => ?_)
          refine lv_aload_n hx hb dX3_toName_121 rfl (lv_at hl 2 rfl) ?_
          refine va_get (D := (dC, dI)) (ci := 3) (v := .long w0_8) (C := RX3) (T := TX3) (N := 15) hx hb hts in_X3_toName_X3 hown hK hP 0 rfl rfl 8 (by decide) (hts (.fieldLink RX3 75 "FormRingModel" "z" "J") (by decide +kernel)) (fun _ h9 => h9) rfl dX3_toName_122 ?_
          refine lv_lstore (lv' := [(15, .long w0_8), (13, .long w0_7), (11, .long w0_6), (0, .ref h0), (1, .long a1), (3, .long a2), (5, .long u5), (7, .long u7), (9, .long u9)]) hx hb dX3_toName_125 hl (by decide) rfl (fun ls hl => ?_)
          refine lv_aload_n hx hb dX3_toName_127 rfl (lv_at hl 3 rfl) ?_
          refine lv_lload_n hx hb dX3_toName_128 rfl (lv_at hl 4 rfl) ?_
          refine lv_lload_n hx hb dX3_toName_129 rfl (lv_at hl 5 rfl) ?_
          cases e_19 : f_X3_step n w0_7 w0_8 a1 a2 with
          | none => rw [e_19, Option.bind_none] at hr; cases hr
          | some r_20 =>
            rw [e_19, Option.bind_some] at hr
            have hPc := hP.sub (ws' := [(h0, .inr (3, [.int v0, .long v1, .long v2, .long v3, .long v4, .long v5, .long w0_6, .long w0_7, .long w0_8, .long w0_9, .long v10, .long v11, .long v12, .int v13, .ref h1])), (h1, .inl (cI, 6600, .inl vR))]) [0, 1] rfl
            have hDc := hD.sub (ws' := [(h0, .inr (3, [.int v0, .long v1, .long v2, .long v3, .long v4, .long v5, .long w0_6, .long w0_7, .long w0_8, .long w0_9, .long v10, .long v11, .long v12, .int v13, .ref h1])), (h1, .inl (cI, 6600, .inl vR))]) [0, 1] (by decide) rfl
            have hKc := hK.sub (tys' := [(cI, .int)]) [0] rfl
            have hFc := va_free (wc := [(h0, .inr (3, [.int v0, .long v1, .long v2, .long v3, .long v4, .long v5, .long w0_6, .long w0_7, .long w0_8, .long w0_9, .long v10, .long v11, .long v12, .int v13, .ref h1])), (h1, .inl (cI, 6600, .inl vR))]) hD hS hA [0, 1] rfl
            refine va_callv (va_runV (As := [.long a1, .long a2]) (rest := []) ⟨hx, hb, hml, hown, hts⟩ (c_X3_step l dC dI H.size h0 h1 cI v0 v1 v2 v3 v4 v5 w0_6 w0_7 w0_8 w0_9 v10 v11 v12 v13 vR a1 a2 n _ e_19) (cwV 2 hts gX3_toName_X3_step rfl rfl rfl (by decide +kernel) ⟨Nat.le_of_ble_eq_true rfl, Nat.le_of_ble_eq_true rfl⟩) ⟨fun a U g mk q => by obtain ⟨q0, q1, qP, qK, qD⟩ := q; exact ⟨q0, q1, qP, va_K.moved (u := U) (U := U.calling g mk a) (Vm.Alike.refl U.vm) qK, qD⟩, va_recv hKc hPc (ci := 3) (q0 := 0) rfl rfl, fun U hU hW => ⟨rfl, by rw [hU], by rw [hU]; exact hPc, va_K.moved hW.alike hKc, hDc.weaken (fun _ _ _ _ => trivial)⟩⟩ rfl rfl hl.1 rfl (lv_room (Nat.le_of_ble_eq_true rfl)) dX3_toName_130 ⟨Nat.zero_le _, Nat.zero_le _⟩) hS (fun q _ h => hFc q h) hFc (fun _ t H1 locs ht hvm hw hB hz1 hk1 hS => ?_)
            obtain ⟨hP1, hK1, hD1⟩ := hB
            rw [ht] at hP1
            obtain ⟨hP, hD⟩ := va_join (wr := []) (w1 := [(h0, .inr (3, [.int v0, .long v1, .long v2, .long v3, .long v4, .long v5, .long r_20.1, .long r_20.2.1, .long r_20.2.2.1, .long r_20.2.2.2, .long v10, .long v11, .long v12, .int v13, .ref h1])), (h1, .inl (cI, 6600, .inl vR))]) hP hD [0, 1] [] rfl rfl (by decide) (by decide) hk1 hFc hP1 hD1
            generalize H1 = H at hP hS ⊢
            have hP : va_P (dC, dI) vwCl [(h0, .inr (3, [.int v0, .long v1, .long v2, .long v3, .long v4, .long v5, .long r_20.1, .long r_20.2.1, .long r_20.2.2.1, .long r_20.2.2.2, .long v10, .long v11, .long v12, .int v13, .ref h1])), (h1, .inl (cI, 6600, .inl vR))] H := hP
            have hD : va_D A [(h0, .inr (3, [.int v0, .long v1, .long v2, .long v3, .long v4, .long v5, .long r_20.1, .long r_20.2.1, .long r_20.2.2.1, .long r_20.2.2.2, .long v10, .long v11, .long v12, .int v13, .ref h1])), (h1, .inl (cI, 6600, .inl vR))] := hD
            refine W.widen (k := 0) (n := 0) (Nat.le_refl _) (Nat.le_refl _) ?_
            refine lv_goto (tgt := 49) hx hb dX3_toName_133 (by decide) ?_
            exact ih u5 u7 u9 w0_6 w0_7 w0_8 r_20.1 r_20.2.1 r_20.2.2.1 r_20.2.2.2 hr _ _ _ hP hD hS (lv_sub hl [3, 4, 5, 6, 7, 8, 2, 1, 0] rfl)
        · have hr := (if_neg c_18).symm.trans hr
          refine lv_aload_n hx hb dX3_toName_89 rfl (lv_at hl 0 rfl) ?_
          refine va_get (D := (dC, dI)) (ci := 3) (v := .long w0_6) (C := RX3) (T := TX3) (N := 15) hx hb hts in_X3_toName_X3 hown hK hP 0 rfl rfl 6 (by decide) (hts (.fieldLink RX3 69 "FormRingModel" "x" "J") (by decide +kernel)) (fun _ h9 => h9) rfl dX3_toName_90 ?_
          refine lv_lload hx hb dX3_toName_93 (lv_at hl 6 rfl) ?_
          refine lz_lne (tgt := 127) hx hb dX3_toName_95 dX3_toName_96 (by decide) (fun c_22 => ?_) (fun c_22 => ?_)
          · have hr := (if_neg c_22).symm.trans hr
            refine lv_aload_n hx hb dX3_toName_127 rfl (lv_at hl 0 rfl) ?_
            refine lv_lload_n hx hb dX3_toName_128 rfl (lv_at hl 1 rfl) ?_
            refine lv_lload_n hx hb dX3_toName_129 rfl (lv_at hl 2 rfl) ?_
            cases e_23 : f_X3_step n w0_7 w0_8 a1 a2 with
            | none => rw [e_23, Option.bind_none] at hr; cases hr
            | some r_24 =>
              rw [e_23, Option.bind_some] at hr
              have hPc := hP.sub (ws' := [(h0, .inr (3, [.int v0, .long v1, .long v2, .long v3, .long v4, .long v5, .long w0_6, .long w0_7, .long w0_8, .long w0_9, .long v10, .long v11, .long v12, .int v13, .ref h1])), (h1, .inl (cI, 6600, .inl vR))]) [0, 1] rfl
              have hDc := hD.sub (ws' := [(h0, .inr (3, [.int v0, .long v1, .long v2, .long v3, .long v4, .long v5, .long w0_6, .long w0_7, .long w0_8, .long w0_9, .long v10, .long v11, .long v12, .int v13, .ref h1])), (h1, .inl (cI, 6600, .inl vR))]) [0, 1] (by decide) rfl
              have hKc := hK.sub (tys' := [(cI, .int)]) [0] rfl
              have hFc := va_free (wc := [(h0, .inr (3, [.int v0, .long v1, .long v2, .long v3, .long v4, .long v5, .long w0_6, .long w0_7, .long w0_8, .long w0_9, .long v10, .long v11, .long v12, .int v13, .ref h1])), (h1, .inl (cI, 6600, .inl vR))]) hD hS hA [0, 1] rfl
              refine va_callv (va_runV (As := [.long a1, .long a2]) (rest := []) ⟨hx, hb, hml, hown, hts⟩ (c_X3_step l dC dI H.size h0 h1 cI v0 v1 v2 v3 v4 v5 w0_6 w0_7 w0_8 w0_9 v10 v11 v12 v13 vR a1 a2 n _ e_23) (cwV 2 hts gX3_toName_X3_step rfl rfl rfl (by decide +kernel) ⟨Nat.le_of_ble_eq_true rfl, Nat.le_of_ble_eq_true rfl⟩) ⟨fun a U g mk q => by obtain ⟨q0, q1, qP, qK, qD⟩ := q; exact ⟨q0, q1, qP, va_K.moved (u := U) (U := U.calling g mk a) (Vm.Alike.refl U.vm) qK, qD⟩, va_recv hKc hPc (ci := 3) (q0 := 0) rfl rfl, fun U hU hW => ⟨rfl, by rw [hU], by rw [hU]; exact hPc, va_K.moved hW.alike hKc, hDc.weaken (fun _ _ _ _ => trivial)⟩⟩ rfl rfl hl.1 rfl (lv_room (Nat.le_of_ble_eq_true rfl)) dX3_toName_130 ⟨Nat.zero_le _, Nat.zero_le _⟩) hS (fun q _ h => hFc q h) hFc (fun _ t H1 locs ht hvm hw hB hz1 hk1 hS => ?_)
              obtain ⟨hP1, hK1, hD1⟩ := hB
              rw [ht] at hP1
              obtain ⟨hP, hD⟩ := va_join (wr := []) (w1 := [(h0, .inr (3, [.int v0, .long v1, .long v2, .long v3, .long v4, .long v5, .long r_24.1, .long r_24.2.1, .long r_24.2.2.1, .long r_24.2.2.2, .long v10, .long v11, .long v12, .int v13, .ref h1])), (h1, .inl (cI, 6600, .inl vR))]) hP hD [0, 1] [] rfl rfl (by decide) (by decide) hk1 hFc hP1 hD1
              generalize H1 = H at hP hS ⊢
              have hP : va_P (dC, dI) vwCl [(h0, .inr (3, [.int v0, .long v1, .long v2, .long v3, .long v4, .long v5, .long r_24.1, .long r_24.2.1, .long r_24.2.2.1, .long r_24.2.2.2, .long v10, .long v11, .long v12, .int v13, .ref h1])), (h1, .inl (cI, 6600, .inl vR))] H := hP
              have hD : va_D A [(h0, .inr (3, [.int v0, .long v1, .long v2, .long v3, .long v4, .long v5, .long r_24.1, .long r_24.2.1, .long r_24.2.2.1, .long r_24.2.2.2, .long v10, .long v11, .long v12, .int v13, .ref h1])), (h1, .inl (cI, 6600, .inl vR))] := hD
              refine W.widen (k := 0) (n := 0) (Nat.le_refl _) (Nat.le_refl _) ?_
              refine lv_goto (tgt := 49) hx hb dX3_toName_133 (by decide) ?_
              exact ih u5 u7 u9 u11 u13 u15 r_24.1 r_24.2.1 r_24.2.2.1 r_24.2.2.2 hr _ _ _ hP hD hS (lv_sub hl [0, 1, 2, 3, 4, 5, 6, 7, 8] rfl)
          · have hr := (if_pos c_22).symm.trans hr
            refine lv_aload_n hx hb dX3_toName_99 rfl (lv_at hl 0 rfl) ?_
            refine va_get (D := (dC, dI)) (ci := 3) (v := .long w0_7) (C := RX3) (T := TX3) (N := 15) hx hb hts in_X3_toName_X3 hown hK hP 0 rfl rfl 7 (by decide) (hts (.fieldLink RX3 72 "FormRingModel" "y" "J") (by decide +kernel)) (fun _ h9 => h9) rfl dX3_toName_100 ?_
            refine lv_lload hx hb dX3_toName_103 (lv_at hl 7 rfl) ?_
            refine lz_lge (tgt := 127) hx hb dX3_toName_105 dX3_toName_106 (by decide) (fun c_26 => ?_) (fun c_26 => ?_)
            · have hr := (if_neg c_26).symm.trans hr
              refine lv_aload_n hx hb dX3_toName_127 rfl (lv_at hl 0 rfl) ?_
              refine lv_lload_n hx hb dX3_toName_128 rfl (lv_at hl 1 rfl) ?_
              refine lv_lload_n hx hb dX3_toName_129 rfl (lv_at hl 2 rfl) ?_
              cases e_27 : f_X3_step n w0_7 w0_8 a1 a2 with
              | none => rw [e_27, Option.bind_none] at hr; cases hr
              | some r_28 =>
                rw [e_27, Option.bind_some] at hr
                have hPc := hP.sub (ws' := [(h0, .inr (3, [.int v0, .long v1, .long v2, .long v3, .long v4, .long v5, .long w0_6, .long w0_7, .long w0_8, .long w0_9, .long v10, .long v11, .long v12, .int v13, .ref h1])), (h1, .inl (cI, 6600, .inl vR))]) [0, 1] rfl
                have hDc := hD.sub (ws' := [(h0, .inr (3, [.int v0, .long v1, .long v2, .long v3, .long v4, .long v5, .long w0_6, .long w0_7, .long w0_8, .long w0_9, .long v10, .long v11, .long v12, .int v13, .ref h1])), (h1, .inl (cI, 6600, .inl vR))]) [0, 1] (by decide) rfl
                have hKc := hK.sub (tys' := [(cI, .int)]) [0] rfl
                have hFc := va_free (wc := [(h0, .inr (3, [.int v0, .long v1, .long v2, .long v3, .long v4, .long v5, .long w0_6, .long w0_7, .long w0_8, .long w0_9, .long v10, .long v11, .long v12, .int v13, .ref h1])), (h1, .inl (cI, 6600, .inl vR))]) hD hS hA [0, 1] rfl
                refine va_callv (va_runV (As := [.long a1, .long a2]) (rest := []) ⟨hx, hb, hml, hown, hts⟩ (c_X3_step l dC dI H.size h0 h1 cI v0 v1 v2 v3 v4 v5 w0_6 w0_7 w0_8 w0_9 v10 v11 v12 v13 vR a1 a2 n _ e_27) (cwV 2 hts gX3_toName_X3_step rfl rfl rfl (by decide +kernel) ⟨Nat.le_of_ble_eq_true rfl, Nat.le_of_ble_eq_true rfl⟩) ⟨fun a U g mk q => by obtain ⟨q0, q1, qP, qK, qD⟩ := q; exact ⟨q0, q1, qP, va_K.moved (u := U) (U := U.calling g mk a) (Vm.Alike.refl U.vm) qK, qD⟩, va_recv hKc hPc (ci := 3) (q0 := 0) rfl rfl, fun U hU hW => ⟨rfl, by rw [hU], by rw [hU]; exact hPc, va_K.moved hW.alike hKc, hDc.weaken (fun _ _ _ _ => trivial)⟩⟩ rfl rfl hl.1 rfl (lv_room (Nat.le_of_ble_eq_true rfl)) dX3_toName_130 ⟨Nat.zero_le _, Nat.zero_le _⟩) hS (fun q _ h => hFc q h) hFc (fun _ t H1 locs ht hvm hw hB hz1 hk1 hS => ?_)
                obtain ⟨hP1, hK1, hD1⟩ := hB
                rw [ht] at hP1
                obtain ⟨hP, hD⟩ := va_join (wr := []) (w1 := [(h0, .inr (3, [.int v0, .long v1, .long v2, .long v3, .long v4, .long v5, .long r_28.1, .long r_28.2.1, .long r_28.2.2.1, .long r_28.2.2.2, .long v10, .long v11, .long v12, .int v13, .ref h1])), (h1, .inl (cI, 6600, .inl vR))]) hP hD [0, 1] [] rfl rfl (by decide) (by decide) hk1 hFc hP1 hD1
                generalize H1 = H at hP hS ⊢
                have hP : va_P (dC, dI) vwCl [(h0, .inr (3, [.int v0, .long v1, .long v2, .long v3, .long v4, .long v5, .long r_28.1, .long r_28.2.1, .long r_28.2.2.1, .long r_28.2.2.2, .long v10, .long v11, .long v12, .int v13, .ref h1])), (h1, .inl (cI, 6600, .inl vR))] H := hP
                have hD : va_D A [(h0, .inr (3, [.int v0, .long v1, .long v2, .long v3, .long v4, .long v5, .long r_28.1, .long r_28.2.1, .long r_28.2.2.1, .long r_28.2.2.2, .long v10, .long v11, .long v12, .int v13, .ref h1])), (h1, .inl (cI, 6600, .inl vR))] := hD
                refine W.widen (k := 0) (n := 0) (Nat.le_refl _) (Nat.le_refl _) ?_
                refine lv_goto (tgt := 49) hx hb dX3_toName_133 (by decide) ?_
                exact ih u5 u7 u9 u11 u13 u15 r_28.1 r_28.2.1 r_28.2.2.1 r_28.2.2.2 hr _ _ _ hP hD hS (lv_sub hl [0, 1, 2, 3, 4, 5, 6, 7, 8] rfl)
            · have hr := (if_pos c_26).symm.trans hr
              refine lv_aload_n hx hb dX3_toName_109 rfl (lv_at hl 0 rfl) ?_
              refine va_get (D := (dC, dI)) (ci := 3) (v := .long w0_6) (C := RX3) (T := TX3) (N := 15) hx hb hts in_X3_toName_X3 hown hK hP 0 rfl rfl 6 (by decide) (hts (.fieldLink RX3 69 "FormRingModel" "x" "J") (by decide +kernel)) (fun _ h9 => h9) rfl dX3_toName_110 ?_
              refine lv_lstore (lv' := [(11, .long w0_6), (0, .ref h0), (1, .long a1), (3, .long a2), (5, .long u5), (7, .long u7), (9, .long u9), (13, .long u13), (15, .long u15)]) hx hb dX3_toName_113 hl (by decide) rfl (fun ls hl => ?_)
              refine lv_aload_n hx hb dX3_toName_115 rfl (lv_at hl 1 rfl) ?_
              refine va_get (D := (dC, dI)) (ci := 3) (v := .long w0_7) (C := RX3) (T := TX3) (N := 15) hx hb hts in_X3_toName_X3 hown hK hP 0 rfl rfl 7 (by decide) (hts (.fieldLink RX3 72 "FormRingModel" "y" "J") (by decide +kernel)) (fun _ h9 => h9) rfl dX3_toName_116 ?_
              refine lv_lstore (lv' := [(13, .long w0_7), (11, .long w0_6), (0, .ref h0), (1, .long a1), (3, .long a2), (5, .long u5), (7, .long u7), (9, .long u9), (15, .long u15)]) hx hb dX3_toName_119 hl (by decide) rfl (fun ls hl => ?_)
              refine lv_aload_n hx hb dX3_toName_121 rfl (lv_at hl 2 rfl) ?_
              refine va_get (D := (dC, dI)) (ci := 3) (v := .long w0_8) (C := RX3) (T := TX3) (N := 15) hx hb hts in_X3_toName_X3 hown hK hP 0 rfl rfl 8 (by decide) (hts (.fieldLink RX3 75 "FormRingModel" "z" "J") (by decide +kernel)) (fun _ h9 => h9) rfl dX3_toName_122 ?_
              refine lv_lstore (lv' := [(15, .long w0_8), (13, .long w0_7), (11, .long w0_6), (0, .ref h0), (1, .long a1), (3, .long a2), (5, .long u5), (7, .long u7), (9, .long u9)]) hx hb dX3_toName_125 hl (by decide) rfl (fun ls hl => ?_)
              refine lv_aload_n hx hb dX3_toName_127 rfl (lv_at hl 3 rfl) ?_
              refine lv_lload_n hx hb dX3_toName_128 rfl (lv_at hl 4 rfl) ?_
              refine lv_lload_n hx hb dX3_toName_129 rfl (lv_at hl 5 rfl) ?_
              cases e_30 : f_X3_step n w0_7 w0_8 a1 a2 with
              | none => rw [e_30, Option.bind_none] at hr; cases hr
              | some r_31 =>
                rw [e_30, Option.bind_some] at hr
                have hPc := hP.sub (ws' := [(h0, .inr (3, [.int v0, .long v1, .long v2, .long v3, .long v4, .long v5, .long w0_6, .long w0_7, .long w0_8, .long w0_9, .long v10, .long v11, .long v12, .int v13, .ref h1])), (h1, .inl (cI, 6600, .inl vR))]) [0, 1] rfl
                have hDc := hD.sub (ws' := [(h0, .inr (3, [.int v0, .long v1, .long v2, .long v3, .long v4, .long v5, .long w0_6, .long w0_7, .long w0_8, .long w0_9, .long v10, .long v11, .long v12, .int v13, .ref h1])), (h1, .inl (cI, 6600, .inl vR))]) [0, 1] (by decide) rfl
                have hKc := hK.sub (tys' := [(cI, .int)]) [0] rfl
                have hFc := va_free (wc := [(h0, .inr (3, [.int v0, .long v1, .long v2, .long v3, .long v4, .long v5, .long w0_6, .long w0_7, .long w0_8, .long w0_9, .long v10, .long v11, .long v12, .int v13, .ref h1])), (h1, .inl (cI, 6600, .inl vR))]) hD hS hA [0, 1] rfl
                refine va_callv (va_runV (As := [.long a1, .long a2]) (rest := []) ⟨hx, hb, hml, hown, hts⟩ (c_X3_step l dC dI H.size h0 h1 cI v0 v1 v2 v3 v4 v5 w0_6 w0_7 w0_8 w0_9 v10 v11 v12 v13 vR a1 a2 n _ e_30) (cwV 2 hts gX3_toName_X3_step rfl rfl rfl (by decide +kernel) ⟨Nat.le_of_ble_eq_true rfl, Nat.le_of_ble_eq_true rfl⟩) ⟨fun a U g mk q => by obtain ⟨q0, q1, qP, qK, qD⟩ := q; exact ⟨q0, q1, qP, va_K.moved (u := U) (U := U.calling g mk a) (Vm.Alike.refl U.vm) qK, qD⟩, va_recv hKc hPc (ci := 3) (q0 := 0) rfl rfl, fun U hU hW => ⟨rfl, by rw [hU], by rw [hU]; exact hPc, va_K.moved hW.alike hKc, hDc.weaken (fun _ _ _ _ => trivial)⟩⟩ rfl rfl hl.1 rfl (lv_room (Nat.le_of_ble_eq_true rfl)) dX3_toName_130 ⟨Nat.zero_le _, Nat.zero_le _⟩) hS (fun q _ h => hFc q h) hFc (fun _ t H1 locs ht hvm hw hB hz1 hk1 hS => ?_)
                obtain ⟨hP1, hK1, hD1⟩ := hB
                rw [ht] at hP1
                obtain ⟨hP, hD⟩ := va_join (wr := []) (w1 := [(h0, .inr (3, [.int v0, .long v1, .long v2, .long v3, .long v4, .long v5, .long r_31.1, .long r_31.2.1, .long r_31.2.2.1, .long r_31.2.2.2, .long v10, .long v11, .long v12, .int v13, .ref h1])), (h1, .inl (cI, 6600, .inl vR))]) hP hD [0, 1] [] rfl rfl (by decide) (by decide) hk1 hFc hP1 hD1
                generalize H1 = H at hP hS ⊢
                have hP : va_P (dC, dI) vwCl [(h0, .inr (3, [.int v0, .long v1, .long v2, .long v3, .long v4, .long v5, .long r_31.1, .long r_31.2.1, .long r_31.2.2.1, .long r_31.2.2.2, .long v10, .long v11, .long v12, .int v13, .ref h1])), (h1, .inl (cI, 6600, .inl vR))] H := hP
                have hD : va_D A [(h0, .inr (3, [.int v0, .long v1, .long v2, .long v3, .long v4, .long v5, .long r_31.1, .long r_31.2.1, .long r_31.2.2.1, .long r_31.2.2.2, .long v10, .long v11, .long v12, .int v13, .ref h1])), (h1, .inl (cI, 6600, .inl vR))] := hD
                refine W.widen (k := 0) (n := 0) (Nat.le_refl _) (Nat.le_refl _) ?_
                refine lv_goto (tgt := 49) hx hb dX3_toName_133 (by decide) ?_
                exact ih u5 u7 u9 w0_6 w0_7 w0_8 r_31.1 r_31.2.1 r_31.2.2.1 r_31.2.2.2 hr _ _ _ hP hD hS (lv_sub hl [3, 4, 5, 6, 7, 8, 2, 1, 0] rfl)
      · have hr := (if_pos c_17).symm.trans hr
        refine lv_aload_n hx hb dX3_toName_69 rfl (lv_at hl 0 rfl) ?_
        refine va_get (D := (dC, dI)) (ci := 3) (v := .long w0_8) (C := RX3) (T := TX3) (N := 15) hx hb hts in_X3_toName_X3 hown hK hP 0 rfl rfl 8 (by decide) (hts (.fieldLink RX3 75 "FormRingModel" "z" "J") (by decide +kernel)) (fun _ h9 => h9) rfl dX3_toName_70 ?_
        refine lv_lload hx hb dX3_toName_73 (lv_at hl 5 rfl) ?_
        refine lz_leq (tgt := 136) hx hb dX3_toName_75 dX3_toName_76 (by decide) (fun c_33 => ?_) (fun c_33 => ?_)
        · have hr := (if_pos c_33).symm.trans hr
          refine lv_aload_n hx hb dX3_toName_136 rfl (lv_at hl 0 rfl) ?_
          refine lv_lload hx hb dX3_toName_137 (lv_at hl 6 rfl) ?_
          refine lv_lload hx hb dX3_toName_139 (lv_at hl 7 rfl) ?_
          refine lv_lload hx hb dX3_toName_141 (lv_at hl 8 rfl) ?_
          cases e_34 : f_X3_begin n u11 u13 u15 with
          | none => rw [e_34, Option.bind_none] at hr; cases hr
          | some r_35 =>
            rw [e_34, Option.bind_some] at hr
            have hPc := hP.sub (ws' := [(h0, .inr (3, [.int v0, .long v1, .long v2, .long v3, .long v4, .long v5, .long w0_6, .long w0_7, .long w0_8, .long w0_9, .long v10, .long v11, .long v12, .int v13, .ref h1])), (h1, .inl (cI, 6600, .inl vR))]) [0, 1] rfl
            have hDc := hD.sub (ws' := [(h0, .inr (3, [.int v0, .long v1, .long v2, .long v3, .long v4, .long v5, .long w0_6, .long w0_7, .long w0_8, .long w0_9, .long v10, .long v11, .long v12, .int v13, .ref h1])), (h1, .inl (cI, 6600, .inl vR))]) [0, 1] (by decide) rfl
            have hKc := hK.sub (tys' := [(cI, .int)]) [0] rfl
            have hFc := va_free (wc := [(h0, .inr (3, [.int v0, .long v1, .long v2, .long v3, .long v4, .long v5, .long w0_6, .long w0_7, .long w0_8, .long w0_9, .long v10, .long v11, .long v12, .int v13, .ref h1])), (h1, .inl (cI, 6600, .inl vR))]) hD hS hA [0, 1] rfl
            refine va_callv (va_runV (As := [.long u11, .long u13, .long u15]) (rest := []) ⟨hx, hb, hml, hown, hts⟩ (c_X3_begin l dC dI H.size h0 h1 cI v0 v1 v2 v3 v4 v5 w0_6 w0_7 w0_8 w0_9 v10 v11 v12 v13 vR u11 u13 u15 n _ e_34) (cwV 3 hts gX3_toName_X3_begin rfl rfl rfl (by decide +kernel) ⟨Nat.le_of_ble_eq_true rfl, Nat.le_of_ble_eq_true rfl⟩) ⟨fun a U g mk q => by obtain ⟨q0, q1, qP, qK, qD⟩ := q; exact ⟨q0, q1, qP, va_K.moved (u := U) (U := U.calling g mk a) (Vm.Alike.refl U.vm) qK, qD⟩, va_recv hKc hPc (ci := 3) (q0 := 0) rfl rfl, fun U hU hW => ⟨rfl, by rw [hU], by rw [hU]; exact hPc, va_K.moved hW.alike hKc, hDc.weaken (fun _ _ _ _ => trivial)⟩⟩ rfl rfl hl.1 rfl (lv_room (Nat.le_of_ble_eq_true rfl)) dX3_toName_143 ⟨Nat.zero_le _, Nat.zero_le _⟩) hS (fun q _ h => hFc q h) hFc (fun _ t H1 locs ht hvm hw hB hz1 hk1 hS => ?_)
            obtain ⟨hP1, hK1, hD1⟩ := hB
            rw [ht] at hP1
            obtain ⟨hP, hD⟩ := va_join (wr := []) (w1 := [(h0, .inr (3, [.int v0, .long v1, .long v2, .long v3, .long v4, .long v5, .long r_35.1, .long r_35.2.1, .long r_35.2.2, .long w0_9, .long v10, .long v11, .long v12, .int v13, .ref h1])), (h1, .inl (cI, 6600, .inl vR))]) hP hD [0, 1] [] rfl rfl (by decide) (by decide) hk1 hFc hP1 hD1
            generalize H1 = H at hP hS ⊢
            have hP : va_P (dC, dI) vwCl [(h0, .inr (3, [.int v0, .long v1, .long v2, .long v3, .long v4, .long v5, .long r_35.1, .long r_35.2.1, .long r_35.2.2, .long w0_9, .long v10, .long v11, .long v12, .int v13, .ref h1])), (h1, .inl (cI, 6600, .inl vR))] H := hP
            have hD : va_D A [(h0, .inr (3, [.int v0, .long v1, .long v2, .long v3, .long v4, .long v5, .long r_35.1, .long r_35.2.1, .long r_35.2.2, .long w0_9, .long v10, .long v11, .long v12, .int v13, .ref h1])), (h1, .inl (cI, 6600, .inl vR))] := hD
            refine W.widen (k := 0) (n := 0) (Nat.le_refl _) (Nat.le_refl _) ?_
            have ho := Option.some.inj hr
            subst ho
            exact W.vret hx hb hrt (fun t ht hW => ⟨⟨(), rfl, trivial, by rw [ht]; exact hP, va_K.moved hW.alike hK, hD⟩, hS.F ht⟩) hS.2.2 dX3_toName_146
        · have hr := (if_neg c_33).symm.trans hr
          refine lv_aload_n hx hb dX3_toName_79 rfl (lv_at hl 0 rfl) ?_
          refine va_get (D := (dC, dI)) (ci := 3) (v := .long w0_6) (C := RX3) (T := TX3) (N := 15) hx hb hts in_X3_toName_X3 hown hK hP 0 rfl rfl 6 (by decide) (hts (.fieldLink RX3 69 "FormRingModel" "x" "J") (by decide +kernel)) (fun _ h9 => h9) rfl dX3_toName_80 ?_
          refine lv_lload hx hb dX3_toName_83 (lv_at hl 6 rfl) ?_
          refine lz_llt (tgt := 109) hx hb dX3_toName_85 dX3_toName_86 (by decide) (fun c_37 => ?_) (fun c_37 => ?_)
          · have hr := (if_pos c_37).symm.trans hr
            refine lv_aload_n hx hb dX3_toName_109 rfl (lv_at hl 0 rfl) ?_
            refine va_get (D := (dC, dI)) (ci := 3) (v := .long w0_6) (C := RX3) (T := TX3) (N := 15) hx hb hts in_X3_toName_X3 hown hK hP 0 rfl rfl 6 (by decide) (hts (.fieldLink RX3 69 "FormRingModel" "x" "J") (by decide +kernel)) (fun _ h9 => h9) rfl dX3_toName_110 ?_
            refine lv_lstore (lv' := [(11, .long w0_6), (0, .ref h0), (1, .long a1), (3, .long a2), (5, .long u5), (7, .long u7), (9, .long u9), (13, .long u13), (15, .long u15)]) hx hb dX3_toName_113 hl (by decide) rfl (fun ls hl => ?_)
            refine lv_aload_n hx hb dX3_toName_115 rfl (lv_at hl 1 rfl) ?_
            refine va_get (D := (dC, dI)) (ci := 3) (v := .long w0_7) (C := RX3) (T := TX3) (N := 15) hx hb hts in_X3_toName_X3 hown hK hP 0 rfl rfl 7 (by decide) (hts (.fieldLink RX3 72 "FormRingModel" "y" "J") (by decide +kernel)) (fun _ h9 => h9) rfl dX3_toName_116 ?_
            refine lv_lstore (lv' := [(13, .long w0_7), (11, .long w0_6), (0, .ref h0), (1, .long a1), (3, .long a2), (5, .long u5), (7, .long u7), (9, .long u9), (15, .long u15)]) hx hb dX3_toName_119 hl (by decide) rfl (fun ls hl => ?_)
            refine lv_aload_n hx hb dX3_toName_121 rfl (lv_at hl 2 rfl) ?_
            refine va_get (D := (dC, dI)) (ci := 3) (v := .long w0_8) (C := RX3) (T := TX3) (N := 15) hx hb hts in_X3_toName_X3 hown hK hP 0 rfl rfl 8 (by decide) (hts (.fieldLink RX3 75 "FormRingModel" "z" "J") (by decide +kernel)) (fun _ h9 => h9) rfl dX3_toName_122 ?_
            refine lv_lstore (lv' := [(15, .long w0_8), (13, .long w0_7), (11, .long w0_6), (0, .ref h0), (1, .long a1), (3, .long a2), (5, .long u5), (7, .long u7), (9, .long u9)]) hx hb dX3_toName_125 hl (by decide) rfl (fun ls hl => ?_)
            refine lv_aload_n hx hb dX3_toName_127 rfl (lv_at hl 3 rfl) ?_
            refine lv_lload_n hx hb dX3_toName_128 rfl (lv_at hl 4 rfl) ?_
            refine lv_lload_n hx hb dX3_toName_129 rfl (lv_at hl 5 rfl) ?_
            cases e_38 : f_X3_step n w0_7 w0_8 a1 a2 with
            | none => rw [e_38, Option.bind_none] at hr; cases hr
            | some r_39 =>
              rw [e_38, Option.bind_some] at hr
              have hPc := hP.sub (ws' := [(h0, .inr (3, [.int v0, .long v1, .long v2, .long v3, .long v4, .long v5, .long w0_6, .long w0_7, .long w0_8, .long w0_9, .long v10, .long v11, .long v12, .int v13, .ref h1])), (h1, .inl (cI, 6600, .inl vR))]) [0, 1] rfl
              have hDc := hD.sub (ws' := [(h0, .inr (3, [.int v0, .long v1, .long v2, .long v3, .long v4, .long v5, .long w0_6, .long w0_7, .long w0_8, .long w0_9, .long v10, .long v11, .long v12, .int v13, .ref h1])), (h1, .inl (cI, 6600, .inl vR))]) [0, 1] (by decide) rfl
              have hKc := hK.sub (tys' := [(cI, .int)]) [0] rfl
              have hFc := va_free (wc := [(h0, .inr (3, [.int v0, .long v1, .long v2, .long v3, .long v4, .long v5, .long w0_6, .long w0_7, .long w0_8, .long w0_9, .long v10, .long v11, .long v12, .int v13, .ref h1])), (h1, .inl (cI, 6600, .inl vR))]) hD hS hA [0, 1] rfl
              refine va_callv (va_runV (As := [.long a1, .long a2]) (rest := []) ⟨hx, hb, hml, hown, hts⟩ (c_X3_step l dC dI H.size h0 h1 cI v0 v1 v2 v3 v4 v5 w0_6 w0_7 w0_8 w0_9 v10 v11 v12 v13 vR a1 a2 n _ e_38) (cwV 2 hts gX3_toName_X3_step rfl rfl rfl (by decide +kernel) ⟨Nat.le_of_ble_eq_true rfl, Nat.le_of_ble_eq_true rfl⟩) ⟨fun a U g mk q => by obtain ⟨q0, q1, qP, qK, qD⟩ := q; exact ⟨q0, q1, qP, va_K.moved (u := U) (U := U.calling g mk a) (Vm.Alike.refl U.vm) qK, qD⟩, va_recv hKc hPc (ci := 3) (q0 := 0) rfl rfl, fun U hU hW => ⟨rfl, by rw [hU], by rw [hU]; exact hPc, va_K.moved hW.alike hKc, hDc.weaken (fun _ _ _ _ => trivial)⟩⟩ rfl rfl hl.1 rfl (lv_room (Nat.le_of_ble_eq_true rfl)) dX3_toName_130 ⟨Nat.zero_le _, Nat.zero_le _⟩) hS (fun q _ h => hFc q h) hFc (fun _ t H1 locs ht hvm hw hB hz1 hk1 hS => ?_)
              obtain ⟨hP1, hK1, hD1⟩ := hB
              rw [ht] at hP1
              obtain ⟨hP, hD⟩ := va_join (wr := []) (w1 := [(h0, .inr (3, [.int v0, .long v1, .long v2, .long v3, .long v4, .long v5, .long r_39.1, .long r_39.2.1, .long r_39.2.2.1, .long r_39.2.2.2, .long v10, .long v11, .long v12, .int v13, .ref h1])), (h1, .inl (cI, 6600, .inl vR))]) hP hD [0, 1] [] rfl rfl (by decide) (by decide) hk1 hFc hP1 hD1
              generalize H1 = H at hP hS ⊢
              have hP : va_P (dC, dI) vwCl [(h0, .inr (3, [.int v0, .long v1, .long v2, .long v3, .long v4, .long v5, .long r_39.1, .long r_39.2.1, .long r_39.2.2.1, .long r_39.2.2.2, .long v10, .long v11, .long v12, .int v13, .ref h1])), (h1, .inl (cI, 6600, .inl vR))] H := hP
              have hD : va_D A [(h0, .inr (3, [.int v0, .long v1, .long v2, .long v3, .long v4, .long v5, .long r_39.1, .long r_39.2.1, .long r_39.2.2.1, .long r_39.2.2.2, .long v10, .long v11, .long v12, .int v13, .ref h1])), (h1, .inl (cI, 6600, .inl vR))] := hD
              refine W.widen (k := 0) (n := 0) (Nat.le_refl _) (Nat.le_refl _) ?_
              refine lv_goto (tgt := 49) hx hb dX3_toName_133 (by decide) ?_
              exact ih u5 u7 u9 w0_6 w0_7 w0_8 r_39.1 r_39.2.1 r_39.2.2.1 r_39.2.2.2 hr _ _ _ hP hD hS (lv_sub hl [3, 4, 5, 6, 7, 8, 2, 1, 0] rfl)
          · have hr := (if_neg c_37).symm.trans hr
            refine lv_aload_n hx hb dX3_toName_89 rfl (lv_at hl 0 rfl) ?_
            refine va_get (D := (dC, dI)) (ci := 3) (v := .long w0_6) (C := RX3) (T := TX3) (N := 15) hx hb hts in_X3_toName_X3 hown hK hP 0 rfl rfl 6 (by decide) (hts (.fieldLink RX3 69 "FormRingModel" "x" "J") (by decide +kernel)) (fun _ h9 => h9) rfl dX3_toName_90 ?_
            refine lv_lload hx hb dX3_toName_93 (lv_at hl 6 rfl) ?_
            refine lz_lne (tgt := 127) hx hb dX3_toName_95 dX3_toName_96 (by decide) (fun c_41 => ?_) (fun c_41 => ?_)
            · have hr := (if_neg c_41).symm.trans hr
              refine lv_aload_n hx hb dX3_toName_127 rfl (lv_at hl 0 rfl) ?_
              refine lv_lload_n hx hb dX3_toName_128 rfl (lv_at hl 1 rfl) ?_
              refine lv_lload_n hx hb dX3_toName_129 rfl (lv_at hl 2 rfl) ?_
              cases e_42 : f_X3_step n w0_7 w0_8 a1 a2 with
              | none => rw [e_42, Option.bind_none] at hr; cases hr
              | some r_43 =>
                rw [e_42, Option.bind_some] at hr
                have hPc := hP.sub (ws' := [(h0, .inr (3, [.int v0, .long v1, .long v2, .long v3, .long v4, .long v5, .long w0_6, .long w0_7, .long w0_8, .long w0_9, .long v10, .long v11, .long v12, .int v13, .ref h1])), (h1, .inl (cI, 6600, .inl vR))]) [0, 1] rfl
                have hDc := hD.sub (ws' := [(h0, .inr (3, [.int v0, .long v1, .long v2, .long v3, .long v4, .long v5, .long w0_6, .long w0_7, .long w0_8, .long w0_9, .long v10, .long v11, .long v12, .int v13, .ref h1])), (h1, .inl (cI, 6600, .inl vR))]) [0, 1] (by decide) rfl
                have hKc := hK.sub (tys' := [(cI, .int)]) [0] rfl
                have hFc := va_free (wc := [(h0, .inr (3, [.int v0, .long v1, .long v2, .long v3, .long v4, .long v5, .long w0_6, .long w0_7, .long w0_8, .long w0_9, .long v10, .long v11, .long v12, .int v13, .ref h1])), (h1, .inl (cI, 6600, .inl vR))]) hD hS hA [0, 1] rfl
                refine va_callv (va_runV (As := [.long a1, .long a2]) (rest := []) ⟨hx, hb, hml, hown, hts⟩ (c_X3_step l dC dI H.size h0 h1 cI v0 v1 v2 v3 v4 v5 w0_6 w0_7 w0_8 w0_9 v10 v11 v12 v13 vR a1 a2 n _ e_42) (cwV 2 hts gX3_toName_X3_step rfl rfl rfl (by decide +kernel) ⟨Nat.le_of_ble_eq_true rfl, Nat.le_of_ble_eq_true rfl⟩) ⟨fun a U g mk q => by obtain ⟨q0, q1, qP, qK, qD⟩ := q; exact ⟨q0, q1, qP, va_K.moved (u := U) (U := U.calling g mk a) (Vm.Alike.refl U.vm) qK, qD⟩, va_recv hKc hPc (ci := 3) (q0 := 0) rfl rfl, fun U hU hW => ⟨rfl, by rw [hU], by rw [hU]; exact hPc, va_K.moved hW.alike hKc, hDc.weaken (fun _ _ _ _ => trivial)⟩⟩ rfl rfl hl.1 rfl (lv_room (Nat.le_of_ble_eq_true rfl)) dX3_toName_130 ⟨Nat.zero_le _, Nat.zero_le _⟩) hS (fun q _ h => hFc q h) hFc (fun _ t H1 locs ht hvm hw hB hz1 hk1 hS => ?_)
                obtain ⟨hP1, hK1, hD1⟩ := hB
                rw [ht] at hP1
                obtain ⟨hP, hD⟩ := va_join (wr := []) (w1 := [(h0, .inr (3, [.int v0, .long v1, .long v2, .long v3, .long v4, .long v5, .long r_43.1, .long r_43.2.1, .long r_43.2.2.1, .long r_43.2.2.2, .long v10, .long v11, .long v12, .int v13, .ref h1])), (h1, .inl (cI, 6600, .inl vR))]) hP hD [0, 1] [] rfl rfl (by decide) (by decide) hk1 hFc hP1 hD1
                generalize H1 = H at hP hS ⊢
                have hP : va_P (dC, dI) vwCl [(h0, .inr (3, [.int v0, .long v1, .long v2, .long v3, .long v4, .long v5, .long r_43.1, .long r_43.2.1, .long r_43.2.2.1, .long r_43.2.2.2, .long v10, .long v11, .long v12, .int v13, .ref h1])), (h1, .inl (cI, 6600, .inl vR))] H := hP
                have hD : va_D A [(h0, .inr (3, [.int v0, .long v1, .long v2, .long v3, .long v4, .long v5, .long r_43.1, .long r_43.2.1, .long r_43.2.2.1, .long r_43.2.2.2, .long v10, .long v11, .long v12, .int v13, .ref h1])), (h1, .inl (cI, 6600, .inl vR))] := hD
                refine W.widen (k := 0) (n := 0) (Nat.le_refl _) (Nat.le_refl _) ?_
                refine lv_goto (tgt := 49) hx hb dX3_toName_133 (by decide) ?_
                exact ih u5 u7 u9 u11 u13 u15 r_43.1 r_43.2.1 r_43.2.2.1 r_43.2.2.2 hr _ _ _ hP hD hS (lv_sub hl [0, 1, 2, 3, 4, 5, 6, 7, 8] rfl)
            · have hr := (if_pos c_41).symm.trans hr
              refine lv_aload_n hx hb dX3_toName_99 rfl (lv_at hl 0 rfl) ?_
              refine va_get (D := (dC, dI)) (ci := 3) (v := .long w0_7) (C := RX3) (T := TX3) (N := 15) hx hb hts in_X3_toName_X3 hown hK hP 0 rfl rfl 7 (by decide) (hts (.fieldLink RX3 72 "FormRingModel" "y" "J") (by decide +kernel)) (fun _ h9 => h9) rfl dX3_toName_100 ?_
              refine lv_lload hx hb dX3_toName_103 (lv_at hl 7 rfl) ?_
              refine lz_lge (tgt := 127) hx hb dX3_toName_105 dX3_toName_106 (by decide) (fun c_45 => ?_) (fun c_45 => ?_)
              · have hr := (if_neg c_45).symm.trans hr
                refine lv_aload_n hx hb dX3_toName_127 rfl (lv_at hl 0 rfl) ?_
                refine lv_lload_n hx hb dX3_toName_128 rfl (lv_at hl 1 rfl) ?_
                refine lv_lload_n hx hb dX3_toName_129 rfl (lv_at hl 2 rfl) ?_
                cases e_46 : f_X3_step n w0_7 w0_8 a1 a2 with
                | none => rw [e_46, Option.bind_none] at hr; cases hr
                | some r_47 =>
                  rw [e_46, Option.bind_some] at hr
                  have hPc := hP.sub (ws' := [(h0, .inr (3, [.int v0, .long v1, .long v2, .long v3, .long v4, .long v5, .long w0_6, .long w0_7, .long w0_8, .long w0_9, .long v10, .long v11, .long v12, .int v13, .ref h1])), (h1, .inl (cI, 6600, .inl vR))]) [0, 1] rfl
                  have hDc := hD.sub (ws' := [(h0, .inr (3, [.int v0, .long v1, .long v2, .long v3, .long v4, .long v5, .long w0_6, .long w0_7, .long w0_8, .long w0_9, .long v10, .long v11, .long v12, .int v13, .ref h1])), (h1, .inl (cI, 6600, .inl vR))]) [0, 1] (by decide) rfl
                  have hKc := hK.sub (tys' := [(cI, .int)]) [0] rfl
                  have hFc := va_free (wc := [(h0, .inr (3, [.int v0, .long v1, .long v2, .long v3, .long v4, .long v5, .long w0_6, .long w0_7, .long w0_8, .long w0_9, .long v10, .long v11, .long v12, .int v13, .ref h1])), (h1, .inl (cI, 6600, .inl vR))]) hD hS hA [0, 1] rfl
                  refine va_callv (va_runV (As := [.long a1, .long a2]) (rest := []) ⟨hx, hb, hml, hown, hts⟩ (c_X3_step l dC dI H.size h0 h1 cI v0 v1 v2 v3 v4 v5 w0_6 w0_7 w0_8 w0_9 v10 v11 v12 v13 vR a1 a2 n _ e_46) (cwV 2 hts gX3_toName_X3_step rfl rfl rfl (by decide +kernel) ⟨Nat.le_of_ble_eq_true rfl, Nat.le_of_ble_eq_true rfl⟩) ⟨fun a U g mk q => by obtain ⟨q0, q1, qP, qK, qD⟩ := q; exact ⟨q0, q1, qP, va_K.moved (u := U) (U := U.calling g mk a) (Vm.Alike.refl U.vm) qK, qD⟩, va_recv hKc hPc (ci := 3) (q0 := 0) rfl rfl, fun U hU hW => ⟨rfl, by rw [hU], by rw [hU]; exact hPc, va_K.moved hW.alike hKc, hDc.weaken (fun _ _ _ _ => trivial)⟩⟩ rfl rfl hl.1 rfl (lv_room (Nat.le_of_ble_eq_true rfl)) dX3_toName_130 ⟨Nat.zero_le _, Nat.zero_le _⟩) hS (fun q _ h => hFc q h) hFc (fun _ t H1 locs ht hvm hw hB hz1 hk1 hS => ?_)
                  obtain ⟨hP1, hK1, hD1⟩ := hB
                  rw [ht] at hP1
                  obtain ⟨hP, hD⟩ := va_join (wr := []) (w1 := [(h0, .inr (3, [.int v0, .long v1, .long v2, .long v3, .long v4, .long v5, .long r_47.1, .long r_47.2.1, .long r_47.2.2.1, .long r_47.2.2.2, .long v10, .long v11, .long v12, .int v13, .ref h1])), (h1, .inl (cI, 6600, .inl vR))]) hP hD [0, 1] [] rfl rfl (by decide) (by decide) hk1 hFc hP1 hD1
                  generalize H1 = H at hP hS ⊢
                  have hP : va_P (dC, dI) vwCl [(h0, .inr (3, [.int v0, .long v1, .long v2, .long v3, .long v4, .long v5, .long r_47.1, .long r_47.2.1, .long r_47.2.2.1, .long r_47.2.2.2, .long v10, .long v11, .long v12, .int v13, .ref h1])), (h1, .inl (cI, 6600, .inl vR))] H := hP
                  have hD : va_D A [(h0, .inr (3, [.int v0, .long v1, .long v2, .long v3, .long v4, .long v5, .long r_47.1, .long r_47.2.1, .long r_47.2.2.1, .long r_47.2.2.2, .long v10, .long v11, .long v12, .int v13, .ref h1])), (h1, .inl (cI, 6600, .inl vR))] := hD
                  refine W.widen (k := 0) (n := 0) (Nat.le_refl _) (Nat.le_refl _) ?_
                  refine lv_goto (tgt := 49) hx hb dX3_toName_133 (by decide) ?_
                  exact ih u5 u7 u9 u11 u13 u15 r_47.1 r_47.2.1 r_47.2.2.1 r_47.2.2.2 hr _ _ _ hP hD hS (lv_sub hl [0, 1, 2, 3, 4, 5, 6, 7, 8] rfl)
              · have hr := (if_pos c_45).symm.trans hr
                refine lv_aload_n hx hb dX3_toName_109 rfl (lv_at hl 0 rfl) ?_
                refine va_get (D := (dC, dI)) (ci := 3) (v := .long w0_6) (C := RX3) (T := TX3) (N := 15) hx hb hts in_X3_toName_X3 hown hK hP 0 rfl rfl 6 (by decide) (hts (.fieldLink RX3 69 "FormRingModel" "x" "J") (by decide +kernel)) (fun _ h9 => h9) rfl dX3_toName_110 ?_
                refine lv_lstore (lv' := [(11, .long w0_6), (0, .ref h0), (1, .long a1), (3, .long a2), (5, .long u5), (7, .long u7), (9, .long u9), (13, .long u13), (15, .long u15)]) hx hb dX3_toName_113 hl (by decide) rfl (fun ls hl => ?_)
                refine lv_aload_n hx hb dX3_toName_115 rfl (lv_at hl 1 rfl) ?_
                refine va_get (D := (dC, dI)) (ci := 3) (v := .long w0_7) (C := RX3) (T := TX3) (N := 15) hx hb hts in_X3_toName_X3 hown hK hP 0 rfl rfl 7 (by decide) (hts (.fieldLink RX3 72 "FormRingModel" "y" "J") (by decide +kernel)) (fun _ h9 => h9) rfl dX3_toName_116 ?_
                refine lv_lstore (lv' := [(13, .long w0_7), (11, .long w0_6), (0, .ref h0), (1, .long a1), (3, .long a2), (5, .long u5), (7, .long u7), (9, .long u9), (15, .long u15)]) hx hb dX3_toName_119 hl (by decide) rfl (fun ls hl => ?_)
                refine lv_aload_n hx hb dX3_toName_121 rfl (lv_at hl 2 rfl) ?_
                refine va_get (D := (dC, dI)) (ci := 3) (v := .long w0_8) (C := RX3) (T := TX3) (N := 15) hx hb hts in_X3_toName_X3 hown hK hP 0 rfl rfl 8 (by decide) (hts (.fieldLink RX3 75 "FormRingModel" "z" "J") (by decide +kernel)) (fun _ h9 => h9) rfl dX3_toName_122 ?_
                refine lv_lstore (lv' := [(15, .long w0_8), (13, .long w0_7), (11, .long w0_6), (0, .ref h0), (1, .long a1), (3, .long a2), (5, .long u5), (7, .long u7), (9, .long u9)]) hx hb dX3_toName_125 hl (by decide) rfl (fun ls hl => ?_)
                refine lv_aload_n hx hb dX3_toName_127 rfl (lv_at hl 3 rfl) ?_
                refine lv_lload_n hx hb dX3_toName_128 rfl (lv_at hl 4 rfl) ?_
                refine lv_lload_n hx hb dX3_toName_129 rfl (lv_at hl 5 rfl) ?_
                cases e_49 : f_X3_step n w0_7 w0_8 a1 a2 with
                | none => rw [e_49, Option.bind_none] at hr; cases hr
                | some r_50 =>
                  rw [e_49, Option.bind_some] at hr
                  have hPc := hP.sub (ws' := [(h0, .inr (3, [.int v0, .long v1, .long v2, .long v3, .long v4, .long v5, .long w0_6, .long w0_7, .long w0_8, .long w0_9, .long v10, .long v11, .long v12, .int v13, .ref h1])), (h1, .inl (cI, 6600, .inl vR))]) [0, 1] rfl
                  have hDc := hD.sub (ws' := [(h0, .inr (3, [.int v0, .long v1, .long v2, .long v3, .long v4, .long v5, .long w0_6, .long w0_7, .long w0_8, .long w0_9, .long v10, .long v11, .long v12, .int v13, .ref h1])), (h1, .inl (cI, 6600, .inl vR))]) [0, 1] (by decide) rfl
                  have hKc := hK.sub (tys' := [(cI, .int)]) [0] rfl
                  have hFc := va_free (wc := [(h0, .inr (3, [.int v0, .long v1, .long v2, .long v3, .long v4, .long v5, .long w0_6, .long w0_7, .long w0_8, .long w0_9, .long v10, .long v11, .long v12, .int v13, .ref h1])), (h1, .inl (cI, 6600, .inl vR))]) hD hS hA [0, 1] rfl
                  refine va_callv (va_runV (As := [.long a1, .long a2]) (rest := []) ⟨hx, hb, hml, hown, hts⟩ (c_X3_step l dC dI H.size h0 h1 cI v0 v1 v2 v3 v4 v5 w0_6 w0_7 w0_8 w0_9 v10 v11 v12 v13 vR a1 a2 n _ e_49) (cwV 2 hts gX3_toName_X3_step rfl rfl rfl (by decide +kernel) ⟨Nat.le_of_ble_eq_true rfl, Nat.le_of_ble_eq_true rfl⟩) ⟨fun a U g mk q => by obtain ⟨q0, q1, qP, qK, qD⟩ := q; exact ⟨q0, q1, qP, va_K.moved (u := U) (U := U.calling g mk a) (Vm.Alike.refl U.vm) qK, qD⟩, va_recv hKc hPc (ci := 3) (q0 := 0) rfl rfl, fun U hU hW => ⟨rfl, by rw [hU], by rw [hU]; exact hPc, va_K.moved hW.alike hKc, hDc.weaken (fun _ _ _ _ => trivial)⟩⟩ rfl rfl hl.1 rfl (lv_room (Nat.le_of_ble_eq_true rfl)) dX3_toName_130 ⟨Nat.zero_le _, Nat.zero_le _⟩) hS (fun q _ h => hFc q h) hFc (fun _ t H1 locs ht hvm hw hB hz1 hk1 hS => ?_)
                  obtain ⟨hP1, hK1, hD1⟩ := hB
                  rw [ht] at hP1
                  obtain ⟨hP, hD⟩ := va_join (wr := []) (w1 := [(h0, .inr (3, [.int v0, .long v1, .long v2, .long v3, .long v4, .long v5, .long r_50.1, .long r_50.2.1, .long r_50.2.2.1, .long r_50.2.2.2, .long v10, .long v11, .long v12, .int v13, .ref h1])), (h1, .inl (cI, 6600, .inl vR))]) hP hD [0, 1] [] rfl rfl (by decide) (by decide) hk1 hFc hP1 hD1
                  generalize H1 = H at hP hS ⊢
                  have hP : va_P (dC, dI) vwCl [(h0, .inr (3, [.int v0, .long v1, .long v2, .long v3, .long v4, .long v5, .long r_50.1, .long r_50.2.1, .long r_50.2.2.1, .long r_50.2.2.2, .long v10, .long v11, .long v12, .int v13, .ref h1])), (h1, .inl (cI, 6600, .inl vR))] H := hP
                  have hD : va_D A [(h0, .inr (3, [.int v0, .long v1, .long v2, .long v3, .long v4, .long v5, .long r_50.1, .long r_50.2.1, .long r_50.2.2.1, .long r_50.2.2.2, .long v10, .long v11, .long v12, .int v13, .ref h1])), (h1, .inl (cI, 6600, .inl vR))] := hD
                  refine W.widen (k := 0) (n := 0) (Nat.le_refl _) (Nat.le_refl _) ?_
                  refine lv_goto (tgt := 49) hx hb dX3_toName_133 (by decide) ?_
                  exact ih u5 u7 u9 w0_6 w0_7 w0_8 r_50.1 r_50.2.1 r_50.2.2.1 r_50.2.2.2 hr _ _ _ hP hD hS (lv_sub hl [3, 4, 5, 6, 7, 8, 2, 1, 0] rfl)
def f_X3_toName (n : Nat) (v6 : Int64) (v7 : Int64) (v8 : Int64) (v9 : Int64) (a1 : Int64) (a2 : Int64) : Option (Int64 × Int64 × Int64 × Int64) := if a1 < 0 then (some (v6, v7, v8, v9)) else ((f_X3_step n v7 v8 a1 a2).bind (fun r_3 => f_X3_toName_49 n n a1 a2 v6 v7 v8 v6 v7 v8 r_3.1 r_3.2.1 r_3.2.2.1 r_3.2.2.2))
set_option maxHeartbeats 4000000 in
set_option maxRecDepth 100000 in
theorem c_X3_toName (l : Launch) (dC : Nat → ClassId) (dI : Nat → Nat → Nat) (sz : Nat) (h0 : Nat) (h1 : Nat) (cI : ClassId) (v0 : Int32) (v1 : Int64) (v2 : Int64) (v3 : Int64) (v4 : Int64) (v5 : Int64) (v6 : Int64) (v7 : Int64) (v8 : Int64) (v9 : Int64) (v10 : Int64) (v11 : Int64) (v12 : Int64) (v13 : Int32) (vR : Nat → Int32) (a1 : Int64) (a2 : Int64)  (n : Nat) (out : Int64 × Int64 × Int64 × Int64) (hr : f_X3_toName n v6 v7 v8 v9 a1 a2 = some out) : Met l yX3_toName wsX3_toName ({ frames := 2, cells := 0, slots := 0, locals := 55 }) (va_Pc [.ref h0, .long a1, .long a2] (zP dC dI [(cI, .int)] [(h0, .inr (3, [.int v0, .long v1, .long v2, .long v3, .long v4, .long v5, .long v6, .long v7, .long v8, .long v9, .long v10, .long v11, .long v12, .int v13, .ref h1])), (h1, .inl (cI, 6600, .inl vR))] sz)) (va_Qv (fun (_ : Unit) => True) (fun (_ : Unit) t => zB dC dI [(cI, .int)] (va_A [(h0, .inr (3, [.int v0, .long v1, .long v2, .long v3, .long v4, .long v5, .long v6, .long v7, .long v8, .long v9, .long v10, .long v11, .long v12, .int v13, .ref h1])), (h1, .inl (cI, 6600, .inl vR))] sz) [(h0, .inr (3, [.int v0, .long v1, .long v2, .long v3, .long v4, .long v5, .long out.1, .long out.2.1, .long out.2.2.1, .long out.2.2.2, .long v10, .long v11, .long v12, .int v13, .ref h1])), (h1, .inl (cI, 6600, .inl vR))] t) (va_A [(h0, .inr (3, [.int v0, .long v1, .long v2, .long v3, .long v4, .long v5, .long v6, .long v7, .long v8, .long v9, .long v10, .long v11, .long v12, .int v13, .ref h1])), (h1, .inl (cI, 6600, .inl vR))] sz)) 0 0 (va_A [(h0, .inr (3, [.int v0, .long v1, .long v2, .long v3, .long v4, .long v5, .long v6, .long v7, .long v8, .long v9, .long v10, .long v11, .long v12, .int v13, .ref h1])), (h1, .inl (cI, 6600, .inl vR))] sz) := by
  refine Met.ofW (cc := cX3_toName) (maxL := 17) (ret := none) (by decide) rfl ?_
  intro p e s m args below meth c s₁ B hml hv
  obtain ⟨rfl, hsz, hP, hK, hD0⟩ := hv
  have hx := B.exec
  have hb := B.bytes
  have hrt := B.returns
  have hts := atoms_spec (ws := wsX3_toName) B.pre
  have hown : s.vm.findClass RX3 = some m.cls := findClass_of_methodNamed B.named
  have hlocks := B.notSynchronized
  subst hsz
  have hD := hD0.self (sz := s.heap.size)
  generalize hAe : va_A [(h0, .inr (3, [.int v0, .long v1, .long v2, .long v3, .long v4, .long v5, .long v6, .long v7, .long v8, .long v9, .long v10, .long v11, .long v12, .int v13, .ref h1])), (h1, .inl (cI, 6600, .inl vR))] s.heap.size = A at hD ⊢
  have hA : ∀ q : Nat, s.heap.size ≤ q → A q := fun q h => by rw [← hAe]; exact Or.inr h
  have hS : va_S A s.heap s.heap [] := va_S.rf
  have hP : va_P (dC, dI) vwCl [(h0, .inr (3, [.int v0, .long v1, .long v2, .long v3, .long v4, .long v5, .long v6, .long v7, .long v8, .long v9, .long v10, .long v11, .long v12, .int v13, .ref h1])), (h1, .inl (cI, 6600, .inl vR))] s.heap := hP
  have hl := lv_entry ([.ref h0, .long a1, .long a2]) (n := 17) (Nat.le_of_ble_eq_true rfl)
  rw [lg_entry_eq]
  generalize (lg_sl ([.ref h0, .long a1, .long a2]) ++ List.replicate (17 - (lg_sl ([.ref h0, .long a1, .long a2])).length) Slot.unset).toArray = ls at hl ⊢
  have hl : lv_has ls 17 [(0, .ref h0), (1, .long a1), (3, .long a2)] := hl
  unfold f_X3_toName at hr
  refine lv_lload_n hx hb dX3_toName_0 rfl (lv_at hl 1 rfl) ?_
  refine lv_lconst (v := 0) hx hb dX3_toName_1 (by decide) ?_
  refine lz_lge (tgt := 7) hx hb dX3_toName_2 dX3_toName_3 (by decide) (fun c_1 => ?_) (fun c_1 => ?_)
  · have hr := (if_neg c_1).symm.trans hr
    refine lv_aload_n hx hb dX3_toName_7 rfl (lv_at hl 0 rfl) ?_
    refine va_get (D := (dC, dI)) (ci := 3) (v := .long v6) (C := RX3) (T := TX3) (N := 15) hx hb hts in_X3_toName_X3 hown hK hP 0 rfl rfl 6 (by decide) (hts (.fieldLink RX3 69 "FormRingModel" "x" "J") (by decide +kernel)) (fun _ h9 => h9) rfl dX3_toName_8 ?_
    refine lv_lstore (lv' := [(5, .long v6), (0, .ref h0), (1, .long a1), (3, .long a2)]) hx hb dX3_toName_11 hl (by decide) rfl (fun ls hl => ?_)
    refine lv_aload_n hx hb dX3_toName_13 rfl (lv_at hl 1 rfl) ?_
    refine va_get (D := (dC, dI)) (ci := 3) (v := .long v7) (C := RX3) (T := TX3) (N := 15) hx hb hts in_X3_toName_X3 hown hK hP 0 rfl rfl 7 (by decide) (hts (.fieldLink RX3 72 "FormRingModel" "y" "J") (by decide +kernel)) (fun _ h9 => h9) rfl dX3_toName_14 ?_
    refine lv_lstore (lv' := [(7, .long v7), (5, .long v6), (0, .ref h0), (1, .long a1), (3, .long a2)]) hx hb dX3_toName_17 hl (by decide) rfl (fun ls hl => ?_)
    refine lv_aload_n hx hb dX3_toName_19 rfl (lv_at hl 2 rfl) ?_
    refine va_get (D := (dC, dI)) (ci := 3) (v := .long v8) (C := RX3) (T := TX3) (N := 15) hx hb hts in_X3_toName_X3 hown hK hP 0 rfl rfl 8 (by decide) (hts (.fieldLink RX3 75 "FormRingModel" "z" "J") (by decide +kernel)) (fun _ h9 => h9) rfl dX3_toName_20 ?_
    refine lv_lstore (lv' := [(9, .long v8), (7, .long v7), (5, .long v6), (0, .ref h0), (1, .long a1), (3, .long a2)]) hx hb dX3_toName_23 hl (by decide) rfl (fun ls hl => ?_)
    refine lv_aload_n hx hb dX3_toName_25 rfl (lv_at hl 3 rfl) ?_
    refine va_get (D := (dC, dI)) (ci := 3) (v := .long v6) (C := RX3) (T := TX3) (N := 15) hx hb hts in_X3_toName_X3 hown hK hP 0 rfl rfl 6 (by decide) (hts (.fieldLink RX3 69 "FormRingModel" "x" "J") (by decide +kernel)) (fun _ h9 => h9) rfl dX3_toName_26 ?_
    refine lv_lstore (lv' := [(11, .long v6), (9, .long v8), (7, .long v7), (5, .long v6), (0, .ref h0), (1, .long a1), (3, .long a2)]) hx hb dX3_toName_29 hl (by decide) rfl (fun ls hl => ?_)
    refine lv_aload_n hx hb dX3_toName_31 rfl (lv_at hl 4 rfl) ?_
    refine va_get (D := (dC, dI)) (ci := 3) (v := .long v7) (C := RX3) (T := TX3) (N := 15) hx hb hts in_X3_toName_X3 hown hK hP 0 rfl rfl 7 (by decide) (hts (.fieldLink RX3 72 "FormRingModel" "y" "J") (by decide +kernel)) (fun _ h9 => h9) rfl dX3_toName_32 ?_
    refine lv_lstore (lv' := [(13, .long v7), (11, .long v6), (9, .long v8), (7, .long v7), (5, .long v6), (0, .ref h0), (1, .long a1), (3, .long a2)]) hx hb dX3_toName_35 hl (by decide) rfl (fun ls hl => ?_)
    refine lv_aload_n hx hb dX3_toName_37 rfl (lv_at hl 5 rfl) ?_
    refine va_get (D := (dC, dI)) (ci := 3) (v := .long v8) (C := RX3) (T := TX3) (N := 15) hx hb hts in_X3_toName_X3 hown hK hP 0 rfl rfl 8 (by decide) (hts (.fieldLink RX3 75 "FormRingModel" "z" "J") (by decide +kernel)) (fun _ h9 => h9) rfl dX3_toName_38 ?_
    refine lv_lstore (lv' := [(15, .long v8), (13, .long v7), (11, .long v6), (9, .long v8), (7, .long v7), (5, .long v6), (0, .ref h0), (1, .long a1), (3, .long a2)]) hx hb dX3_toName_41 hl (by decide) rfl (fun ls hl => ?_)
    refine lv_aload_n hx hb dX3_toName_43 rfl (lv_at hl 6 rfl) ?_
    refine lv_lload_n hx hb dX3_toName_44 rfl (lv_at hl 7 rfl) ?_
    refine lv_lload_n hx hb dX3_toName_45 rfl (lv_at hl 8 rfl) ?_
    cases e_2 : f_X3_step n v7 v8 a1 a2 with
    | none => rw [e_2, Option.bind_none] at hr; cases hr
    | some r_3 =>
      rw [e_2, Option.bind_some] at hr
      have hPc := hP.sub (ws' := [(h0, .inr (3, [.int v0, .long v1, .long v2, .long v3, .long v4, .long v5, .long v6, .long v7, .long v8, .long v9, .long v10, .long v11, .long v12, .int v13, .ref h1])), (h1, .inl (cI, 6600, .inl vR))]) [0, 1] rfl
      have hDc := hD.sub (ws' := [(h0, .inr (3, [.int v0, .long v1, .long v2, .long v3, .long v4, .long v5, .long v6, .long v7, .long v8, .long v9, .long v10, .long v11, .long v12, .int v13, .ref h1])), (h1, .inl (cI, 6600, .inl vR))]) [0, 1] (by decide) rfl
      have hKc := hK.sub (tys' := [(cI, .int)]) [0] rfl
      have hFc := va_free (wc := [(h0, .inr (3, [.int v0, .long v1, .long v2, .long v3, .long v4, .long v5, .long v6, .long v7, .long v8, .long v9, .long v10, .long v11, .long v12, .int v13, .ref h1])), (h1, .inl (cI, 6600, .inl vR))]) hD hS hA [0, 1] rfl
      refine va_callv (va_runV (As := [.long a1, .long a2]) (rest := []) ⟨hx, hb, hml, hown, hts⟩ (c_X3_step l dC dI s.heap.size h0 h1 cI v0 v1 v2 v3 v4 v5 v6 v7 v8 v9 v10 v11 v12 v13 vR a1 a2 n _ e_2) (cwV 2 hts gX3_toName_X3_step rfl rfl rfl (by decide +kernel) ⟨Nat.le_of_ble_eq_true rfl, Nat.le_of_ble_eq_true rfl⟩) ⟨fun a U g mk q => by obtain ⟨q0, q1, qP, qK, qD⟩ := q; exact ⟨q0, q1, qP, va_K.moved (u := U) (U := U.calling g mk a) (Vm.Alike.refl U.vm) qK, qD⟩, va_recv hKc hPc (ci := 3) (q0 := 0) rfl rfl, fun U hU hW => ⟨rfl, by rw [hU], by rw [hU]; exact hPc, va_K.moved hW.alike hKc, hDc.weaken (fun _ _ _ _ => trivial)⟩⟩ rfl rfl hl.1 rfl (lv_room (Nat.le_of_ble_eq_true rfl)) dX3_toName_46 ⟨Nat.zero_le _, Nat.zero_le _⟩) hS (fun q _ h => hFc q h) hFc (fun _ t H1 locs ht hvm hw hB hz1 hk1 hS => ?_)
      obtain ⟨hP1, hK1, hD1⟩ := hB
      rw [ht] at hP1
      obtain ⟨hP, hD⟩ := va_join (wr := []) (w1 := [(h0, .inr (3, [.int v0, .long v1, .long v2, .long v3, .long v4, .long v5, .long r_3.1, .long r_3.2.1, .long r_3.2.2.1, .long r_3.2.2.2, .long v10, .long v11, .long v12, .int v13, .ref h1])), (h1, .inl (cI, 6600, .inl vR))]) hP hD [0, 1] [] rfl rfl (by decide) (by decide) hk1 hFc hP1 hD1
      generalize H1 = H at hP hS ⊢
      have hP : va_P (dC, dI) vwCl [(h0, .inr (3, [.int v0, .long v1, .long v2, .long v3, .long v4, .long v5, .long r_3.1, .long r_3.2.1, .long r_3.2.2.1, .long r_3.2.2.2, .long v10, .long v11, .long v12, .int v13, .ref h1])), (h1, .inl (cI, 6600, .inl vR))] H := hP
      have hD : va_D A [(h0, .inr (3, [.int v0, .long v1, .long v2, .long v3, .long v4, .long v5, .long r_3.1, .long r_3.2.1, .long r_3.2.2.1, .long r_3.2.2.2, .long v10, .long v11, .long v12, .int v13, .ref h1])), (h1, .inl (cI, 6600, .inl vR))] := hD
      refine W.widen (k := 0) (n := 0) (Nat.le_refl _) (Nat.le_refl _) ?_
      exact k_X3_toName_49 hx hb hrt hml hown hlocks hts hA hK n out n v6 v7 v8 v6 v7 v8 r_3.1 r_3.2.1 r_3.2.2.1 r_3.2.2.2 hr _ _ _ hP hD hS (lv_sub hl [6, 7, 8, 5, 4, 3, 2, 1, 0] rfl)
  · have hr := (if_pos c_1).symm.trans hr
    have ho := Option.some.inj hr
    subst ho
    exact W.vret hx hb hrt (fun t ht hW => ⟨⟨(), rfl, trivial, by rw [ht]; exact hP, va_K.moved hW.alike hK, hD⟩, hS.F ht⟩) hS.2.2 dX3_toName_6
