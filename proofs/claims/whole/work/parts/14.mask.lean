theorem in_X3_form_X3 : ∀ w ∈ u_ws RX3 TX3 15, w ∈ wsX3_form := by decide +kernel
def f_X3_form_33 (n : Nat) (v1 : Int64) (v2 : Int64) (v3 : Int64) (v4 : Int64) (v5 : Int64) (v10 : Int64) (v11 : Int64) (v12 : Int64) (a1 : Int32) (a2 : Int32) (w0_0 : Int32) (w0_6 : Int64) (w0_7 : Int64) (w0_8 : Int64) (w0_9 : Int64) : Option (Int32 × Int32 × Int64 × Int64 × Int64 × Int64) := if 0 < w0_0 then (some (0, w0_0, w0_6, w0_7, w0_8, w0_9)) else (if a1 = 2 then ((f_X3_part n a2 v10 v11 v12).bind (fun r_17 => some (r_17, w0_0, w0_6, w0_7, w0_8, w0_9))) else ((f_X3_begin n v1 v2 v3).bind (fun r_4 => if a1 = 1 then ((f_X3_toReduced n r_4.1 r_4.2.1 r_4.2.2 w0_9 v4 v5).bind (fun r_11 => (f_X3_part n a2 r_11.1 r_11.2.1 r_11.2.2.1).bind (fun r_14 => some (r_14, w0_0, r_11.1, r_11.2.1, r_11.2.2.1, r_11.2.2.2)))) else ((f_X3_part n a2 r_4.1 r_4.2.1 r_4.2.2).bind (fun r_8 => some (r_8, w0_0, r_4.1, r_4.2.1, r_4.2.2, w0_9))))))
set_option maxHeartbeats 4000000 in
set_option maxRecDepth 100000 in
theorem k_X3_form_33 {p : Program} {l : Launch} {e : Env} {s : State} {m : MethodId} {args : Array Value} {below : List Frame} {meth : Method} {c : Code} {dC : Nat → ClassId} {dI : Nat → Nat → Nat} {A : Nat → Prop} {h0 : Nat} {h1 : Nat} {cI : ClassId} {v1 : Int64} {v2 : Int64} {v3 : Int64} {v4 : Int64} {v5 : Int64} {v10 : Int64} {v11 : Int64} {v12 : Int64} {v13 : Int32} {vR : Nat → Int32} {a1 : Int32} {a2 : Int32} (hx : p.tables.exec = Jvm.exec) (hb : c.code = cX3_form) (hrt : meth.sig.returnType = (some .int)) (hml : c.maxLocals = 3) (hown : s.vm.findClass RX3 = some m.cls) (hlocks : meth.locks = false) (hts : ∀ w ∈ wsX3_form, w.before args s = true) (hA : ∀ q : Nat, s.heap.size ≤ q → A q) (hK : va_K (dC, dI) vwCl [(cI, .int)] s)  (n : Nat) (out : Int32 × Int32 × Int64 × Int64 × Int64 × Int64) :
    ∀ (w0_0 : Int32) (w0_6 : Int64) (w0_7 : Int64) (w0_8 : Int64) (w0_9 : Int64), f_X3_form_33 n v1 v2 v3 v4 v5 v10 v11 v12 a1 a2 w0_0 w0_6 w0_7 w0_8 w0_9 = some out → ∀ (H : Heap) (locs : List Loc) (ls : Array Slot), va_P (dC, dI) vwCl [(h0, .inr (3, [.int w0_0, .long v1, .long v2, .long v3, .long v4, .long v5, .long w0_6, .long w0_7, .long w0_8, .long w0_9, .long v10, .long v11, .long v12, .int v13, .ref h1])), (h1, .inl (cI, 6600, .inl vR))] H → va_D A [(h0, .inr (3, [.int w0_0, .long v1, .long v2, .long v3, .long v4, .long v5, .long w0_6, .long w0_7, .long w0_8, .long w0_9, .long v10, .long v11, .long v12, .int v13, .ref h1])), (h1, .inl (cI, 6600, .inl vR))] → va_S A s.heap H locs → lv_has ls 3 [(0, .ref h0), (1, .int a1), (2, .int a2)] → W p l e ({ frames := 3, cells := 0, slots := 0, locals := 79 }) s m args below meth c H locs 0 0 (MQ below (va_Qi (fun r (_ : Unit) => r = out.1) (fun (_ : Unit) t => zB dC dI [(cI, .int)] A [(h0, .inr (3, [.int out.2.1, .long v1, .long v2, .long v3, .long v4, .long v5, .long out.2.2.1, .long out.2.2.2.1, .long out.2.2.2.2.1, .long out.2.2.2.2.2, .long v10, .long v11, .long v12, .int v13, .ref h1])), (h1, .inl (cI, 6600, .inl vR))] t) A) args s 0 0 A) (F0 m 33 ls []) := by
  intro w0_0 w0_6 w0_7 w0_8 w0_9 hr H locs ls hP hD hS hl
  unfold f_X3_form_33 at hr
  refine lv_aload_n hx hb dX3_form_33 rfl (lv_at hl 0 rfl) ?_
  refine va_get (D := (dC, dI)) (ci := 3) (v := .int w0_0) (C := RX3) (T := TX3) (N := 15) hx hb hts in_X3_form_X3 hown hK hP 0 rfl rfl 0 (by decide) (hts (.fieldLink RX3 44 "FormRingModel" "code" "I") (by decide +kernel)) (fun _ h9 => h9) rfl dX3_form_34 ?_
  refine lz_zle (tgt := 42) hx hb dX3_form_37 (by decide) (fun c_1 => ?_) (fun c_1 => ?_)
  · have hr := (if_neg c_1).symm.trans hr
    refine lv_iload_n hx hb dX3_form_42 rfl (lv_at hl 1 rfl) ?_
    refine lv_iconst (v := 2) hx hb dX3_form_43 (by decide) ?_
    refine lz_ine (tgt := 64) hx hb dX3_form_44 (by decide) (fun c_2 => ?_) (fun c_2 => ?_)
    · have hr := (if_neg c_2).symm.trans hr
      refine lv_aload_n hx hb dX3_form_64 rfl (lv_at hl 0 rfl) ?_
      refine lv_aload_n hx hb dX3_form_65 rfl (lv_at hl 0 rfl) ?_
      refine va_get (D := (dC, dI)) (ci := 3) (v := .long v1) (C := RX3) (T := TX3) (N := 15) hx hb hts in_X3_form_X3 hown hK hP 0 rfl rfl 1 (by decide) (hts (.fieldLink RX3 7 "FormRingModel" "a" "J") (by decide +kernel)) (fun _ h9 => h9) rfl dX3_form_66 ?_
      refine lv_aload_n hx hb dX3_form_69 rfl (lv_at hl 0 rfl) ?_
      refine va_get (D := (dC, dI)) (ci := 3) (v := .long v2) (C := RX3) (T := TX3) (N := 15) hx hb hts in_X3_form_X3 hown hK hP 0 rfl rfl 2 (by decide) (hts (.fieldLink RX3 129 "FormRingModel" "b" "J") (by decide +kernel)) (fun _ h9 => h9) rfl dX3_form_70 ?_
      refine lv_aload_n hx hb dX3_form_73 rfl (lv_at hl 0 rfl) ?_
      refine va_get (D := (dC, dI)) (ci := 3) (v := .long v3) (C := RX3) (T := TX3) (N := 15) hx hb hts in_X3_form_X3 hown hK hP 0 rfl rfl 3 (by decide) (hts (.fieldLink RX3 13 "FormRingModel" "c" "J") (by decide +kernel)) (fun _ h9 => h9) rfl dX3_form_74 ?_
      cases e_3 : f_X3_begin n v1 v2 v3 with
      | none => rw [e_3, Option.bind_none] at hr; cases hr
      | some r_4 =>
        rw [e_3, Option.bind_some] at hr
        have hPc := hP.sub (ws' := [(h0, .inr (3, [.int w0_0, .long v1, .long v2, .long v3, .long v4, .long v5, .long w0_6, .long w0_7, .long w0_8, .long w0_9, .long v10, .long v11, .long v12, .int v13, .ref h1])), (h1, .inl (cI, 6600, .inl vR))]) [0, 1] rfl
        have hDc := hD.sub (ws' := [(h0, .inr (3, [.int w0_0, .long v1, .long v2, .long v3, .long v4, .long v5, .long w0_6, .long w0_7, .long w0_8, .long w0_9, .long v10, .long v11, .long v12, .int v13, .ref h1])), (h1, .inl (cI, 6600, .inl vR))]) [0, 1] (by decide) rfl
        have hKc := hK.sub (tys' := [(cI, .int)]) [0] rfl
        have hFc := va_free (wc := [(h0, .inr (3, [.int w0_0, .long v1, .long v2, .long v3, .long v4, .long v5, .long w0_6, .long w0_7, .long w0_8, .long w0_9, .long v10, .long v11, .long v12, .int v13, .ref h1])), (h1, .inl (cI, 6600, .inl vR))]) hD hS hA [0, 1] rfl
        refine va_callv (va_runV (As := [.long v1, .long v2, .long v3]) (rest := []) ⟨hx, hb, hml, hown, hts⟩ (c_X3_begin l dC dI H.size h0 h1 cI w0_0 v1 v2 v3 v4 v5 w0_6 w0_7 w0_8 w0_9 v10 v11 v12 v13 vR v1 v2 v3 n _ e_3) (cwV 3 hts gX3_form_X3_begin rfl rfl rfl (by decide +kernel) ⟨Nat.le_of_ble_eq_true rfl, Nat.le_of_ble_eq_true rfl⟩) ⟨fun a U g mk q => by obtain ⟨q0, q1, qP, qK, qD⟩ := q; exact ⟨q0, q1, qP, va_K.moved (u := U) (U := U.calling g mk a) (Vm.Alike.refl U.vm) qK, qD⟩, va_recv hKc hPc (ci := 3) (q0 := 0) rfl rfl, fun U hU hW => ⟨rfl, by rw [hU], by rw [hU]; exact hPc, va_K.moved hW.alike hKc, hDc.weaken (fun _ _ _ _ => trivial)⟩⟩ rfl rfl hl.1 rfl (lv_room (Nat.le_of_ble_eq_true rfl)) dX3_form_77 ⟨Nat.zero_le _, Nat.zero_le _⟩) hS (fun q _ h => hFc q h) hFc (fun _ t H1 locs ht hvm hw hB hz1 hk1 hS => ?_)
        obtain ⟨hP1, hK1, hD1⟩ := hB
        rw [ht] at hP1
        obtain ⟨hP, hD⟩ := va_join (wr := []) (w1 := [(h0, .inr (3, [.int w0_0, .long v1, .long v2, .long v3, .long v4, .long v5, .long r_4.1, .long r_4.2.1, .long r_4.2.2, .long w0_9, .long v10, .long v11, .long v12, .int v13, .ref h1])), (h1, .inl (cI, 6600, .inl vR))]) hP hD [0, 1] [] rfl rfl (by decide) (by decide) hk1 hFc hP1 hD1
        generalize H1 = H at hP hS ⊢
        have hP : va_P (dC, dI) vwCl [(h0, .inr (3, [.int w0_0, .long v1, .long v2, .long v3, .long v4, .long v5, .long r_4.1, .long r_4.2.1, .long r_4.2.2, .long w0_9, .long v10, .long v11, .long v12, .int v13, .ref h1])), (h1, .inl (cI, 6600, .inl vR))] H := hP
        have hD : va_D A [(h0, .inr (3, [.int w0_0, .long v1, .long v2, .long v3, .long v4, .long v5, .long r_4.1, .long r_4.2.1, .long r_4.2.2, .long w0_9, .long v10, .long v11, .long v12, .int v13, .ref h1])), (h1, .inl (cI, 6600, .inl vR))] := hD
        refine W.widen (k := 0) (n := 0) (Nat.le_refl _) (Nat.le_refl _) ?_
        refine lv_iload_n hx hb dX3_form_80 rfl (lv_at hl 1 rfl) ?_
        refine lv_iconst (v := 1) hx hb dX3_form_81 (by decide) ?_
        refine lz_ine (tgt := 97) hx hb dX3_form_82 (by decide) (fun c_6 => ?_) (fun c_6 => ?_)
        · have hr := (if_neg c_6).symm.trans hr
          refine lv_iload_n hx hb dX3_form_97 rfl (lv_at hl 2 rfl) ?_
          refine lv_aload_n hx hb dX3_form_98 rfl (lv_at hl 0 rfl) ?_
          refine va_get (D := (dC, dI)) (ci := 3) (v := .long r_4.1) (C := RX3) (T := TX3) (N := 15) hx hb hts in_X3_form_X3 hown hK hP 0 rfl rfl 6 (by decide) (hts (.fieldLink RX3 69 "FormRingModel" "x" "J") (by decide +kernel)) (fun _ h9 => h9) rfl dX3_form_99 ?_
          refine lv_aload_n hx hb dX3_form_102 rfl (lv_at hl 0 rfl) ?_
          refine va_get (D := (dC, dI)) (ci := 3) (v := .long r_4.2.1) (C := RX3) (T := TX3) (N := 15) hx hb hts in_X3_form_X3 hown hK hP 0 rfl rfl 7 (by decide) (hts (.fieldLink RX3 72 "FormRingModel" "y" "J") (by decide +kernel)) (fun _ h9 => h9) rfl dX3_form_103 ?_
          refine lv_aload_n hx hb dX3_form_106 rfl (lv_at hl 0 rfl) ?_
          refine va_get (D := (dC, dI)) (ci := 3) (v := .long r_4.2.2) (C := RX3) (T := TX3) (N := 15) hx hb hts in_X3_form_X3 hown hK hP 0 rfl rfl 8 (by decide) (hts (.fieldLink RX3 75 "FormRingModel" "z" "J") (by decide +kernel)) (fun _ h9 => h9) rfl dX3_form_107 ?_
          cases e_7 : f_X3_part n a2 r_4.1 r_4.2.1 r_4.2.2 with
          | none => rw [e_7, Option.bind_none] at hr; cases hr
          | some r_8 =>
            rw [e_7, Option.bind_some] at hr
            have hPc := hP.sub (ws' := []) [] rfl
            have hDc := hD.sub (ws' := []) [] (by decide) rfl
            have hKc := hK.sub (tys' := []) [] rfl
            have hFc := va_free (wc := []) hD hS hA [] rfl
            refine va_calli (va_runS (As := [.int a2, .long r_4.1, .long r_4.2.1, .long r_4.2.2]) (rest := []) ⟨hx, hb, hml, hown, hts⟩ (c_X3_part l dC dI H.size  a2 r_4.1 r_4.2.1 r_4.2.2 n _ e_7) (va_cwS 4 hts gX3_form_X3_part rfl rfl rfl (by decide +kernel) ⟨Nat.le_of_ble_eq_true rfl, Nat.le_of_ble_eq_true rfl⟩) ⟨fun a U g mk q => by obtain ⟨q0, q1, qP, qK, qD⟩ := q; exact ⟨q0, q1, qP, va_K.moved (u := U) (U := U.calling g mk a) (Vm.Alike.refl U.vm) qK, qD⟩, fun U hU hW => ⟨rfl, by rw [hU], by rw [hU]; exact hPc, va_K.moved hW.alike hKc, hDc.weaken (fun _ _ _ _ => trivial)⟩⟩ rfl rfl hl.1 rfl (lv_room (Nat.le_of_ble_eq_true rfl)) dX3_form_110 ⟨Nat.zero_le _, Nat.zero_le _⟩) hS (fun q _ h => hFc q h) hFc (fun x_9 _ t H1 locs ht hvm hw hB hz1 hk1 hS => ?_)
            have hw := hw.symm
            subst hw
            obtain ⟨hP1, hK1, hD1⟩ := hB
            rw [ht] at hP1
            obtain ⟨hP, hD⟩ := va_join (wr := [(h0, .inr (3, [.int w0_0, .long v1, .long v2, .long v3, .long v4, .long v5, .long r_4.1, .long r_4.2.1, .long r_4.2.2, .long w0_9, .long v10, .long v11, .long v12, .int v13, .ref h1])), (h1, .inl (cI, 6600, .inl vR))]) (w1 := []) hP hD [] [0, 1] rfl rfl (by decide) (by decide) hk1 hFc hP1 hD1
            generalize H1 = H at hP hS ⊢
            have hP : va_P (dC, dI) vwCl [(h0, .inr (3, [.int w0_0, .long v1, .long v2, .long v3, .long v4, .long v5, .long r_4.1, .long r_4.2.1, .long r_4.2.2, .long w0_9, .long v10, .long v11, .long v12, .int v13, .ref h1])), (h1, .inl (cI, 6600, .inl vR))] H := hP
            have hD : va_D A [(h0, .inr (3, [.int w0_0, .long v1, .long v2, .long v3, .long v4, .long v5, .long r_4.1, .long r_4.2.1, .long r_4.2.2, .long w0_9, .long v10, .long v11, .long v12, .int v13, .ref h1])), (h1, .inl (cI, 6600, .inl vR))] := hD
            refine W.widen (k := 0) (n := 0) (Nat.le_refl _) (Nat.le_refl _) ?_
            have ho := Option.some.inj hr
            subst ho
            exact W.iret (v := r_8) hx hb hrt (fun t ht hW => ⟨⟨r_8, (), rfl, rfl, by rw [ht]; exact hP, va_K.moved hW.alike hK, hD⟩, hS.F ht⟩) hS.2.2 dX3_form_113
        · have hr := (if_pos c_6).symm.trans hr
          refine lv_aload_n hx hb dX3_form_85 rfl (lv_at hl 0 rfl) ?_
          refine lv_aload_n hx hb dX3_form_86 rfl (lv_at hl 0 rfl) ?_
          refine va_get (D := (dC, dI)) (ci := 3) (v := .long v4) (C := RX3) (T := TX3) (N := 15) hx hb hts in_X3_form_X3 hown hK hP 0 rfl rfl 4 (by decide) (hts (.fieldLink RX3 18 "FormRingModel" "d" "J") (by decide +kernel)) (fun _ h9 => h9) rfl dX3_form_87 ?_
          refine lv_aload_n hx hb dX3_form_90 rfl (lv_at hl 0 rfl) ?_
          refine va_get (D := (dC, dI)) (ci := 3) (v := .long v5) (C := RX3) (T := TX3) (N := 15) hx hb hts in_X3_form_X3 hown hK hP 0 rfl rfl 5 (by decide) (hts (.fieldLink RX3 23 "FormRingModel" "w" "J") (by decide +kernel)) (fun _ h9 => h9) rfl dX3_form_91 ?_
          cases e_10 : f_X3_toReduced n r_4.1 r_4.2.1 r_4.2.2 w0_9 v4 v5 with
          | none => rw [e_10, Option.bind_none] at hr; cases hr
          | some r_11 =>
            rw [e_10, Option.bind_some] at hr
            have hPc := hP.sub (ws' := [(h0, .inr (3, [.int w0_0, .long v1, .long v2, .long v3, .long v4, .long v5, .long r_4.1, .long r_4.2.1, .long r_4.2.2, .long w0_9, .long v10, .long v11, .long v12, .int v13, .ref h1])), (h1, .inl (cI, 6600, .inl vR))]) [0, 1] rfl
            have hDc := hD.sub (ws' := [(h0, .inr (3, [.int w0_0, .long v1, .long v2, .long v3, .long v4, .long v5, .long r_4.1, .long r_4.2.1, .long r_4.2.2, .long w0_9, .long v10, .long v11, .long v12, .int v13, .ref h1])), (h1, .inl (cI, 6600, .inl vR))]) [0, 1] (by decide) rfl
            have hKc := hK.sub (tys' := [(cI, .int)]) [0] rfl
            have hFc := va_free (wc := [(h0, .inr (3, [.int w0_0, .long v1, .long v2, .long v3, .long v4, .long v5, .long r_4.1, .long r_4.2.1, .long r_4.2.2, .long w0_9, .long v10, .long v11, .long v12, .int v13, .ref h1])), (h1, .inl (cI, 6600, .inl vR))]) hD hS hA [0, 1] rfl
            refine va_callv (va_runV (As := [.long v4, .long v5]) (rest := []) ⟨hx, hb, hml, hown, hts⟩ (c_X3_toReduced l dC dI H.size h0 h1 cI w0_0 v1 v2 v3 v4 v5 r_4.1 r_4.2.1 r_4.2.2 w0_9 v10 v11 v12 v13 vR v4 v5 n _ e_10) (cwV 2 hts gX3_form_X3_toReduced rfl rfl rfl (by decide +kernel) ⟨Nat.le_of_ble_eq_true rfl, Nat.le_of_ble_eq_true rfl⟩) ⟨fun a U g mk q => by obtain ⟨q0, q1, qP, qK, qD⟩ := q; exact ⟨q0, q1, qP, va_K.moved (u := U) (U := U.calling g mk a) (Vm.Alike.refl U.vm) qK, qD⟩, va_recv hKc hPc (ci := 3) (q0 := 0) rfl rfl, fun U hU hW => ⟨rfl, by rw [hU], by rw [hU]; exact hPc, va_K.moved hW.alike hKc, hDc.weaken (fun _ _ _ _ => trivial)⟩⟩ rfl rfl hl.1 rfl (lv_room (Nat.le_of_ble_eq_true rfl)) dX3_form_94 ⟨Nat.zero_le _, Nat.zero_le _⟩) hS (fun q _ h => hFc q h) hFc (fun _ t H1 locs ht hvm hw hB hz1 hk1 hS => ?_)
            obtain ⟨hP1, hK1, hD1⟩ := hB
            rw [ht] at hP1
            obtain ⟨hP, hD⟩ := va_join (wr := []) (w1 := [(h0, .inr (3, [.int w0_0, .long v1, .long v2, .long v3, .long v4, .long v5, .long r_11.1, .long r_11.2.1, .long r_11.2.2.1, .long r_11.2.2.2, .long v10, .long v11, .long v12, .int v13, .ref h1])), (h1, .inl (cI, 6600, .inl vR))]) hP hD [0, 1] [] rfl rfl (by decide) (by decide) hk1 hFc hP1 hD1
            generalize H1 = H at hP hS ⊢
            have hP : va_P (dC, dI) vwCl [(h0, .inr (3, [.int w0_0, .long v1, .long v2, .long v3, .long v4, .long v5, .long r_11.1, .long r_11.2.1, .long r_11.2.2.1, .long r_11.2.2.2, .long v10, .long v11, .long v12, .int v13, .ref h1])), (h1, .inl (cI, 6600, .inl vR))] H := hP
            have hD : va_D A [(h0, .inr (3, [.int w0_0, .long v1, .long v2, .long v3, .long v4, .long v5, .long r_11.1, .long r_11.2.1, .long r_11.2.2.1, .long r_11.2.2.2, .long v10, .long v11, .long v12, .int v13, .ref h1])), (h1, .inl (cI, 6600, .inl vR))] := hD
            refine W.widen (k := 0) (n := 0) (Nat.le_refl _) (Nat.le_refl _) ?_
            refine lv_iload_n hx hb dX3_form_97 rfl (lv_at hl 2 rfl) ?_
            refine lv_aload_n hx hb dX3_form_98 rfl (lv_at hl 0 rfl) ?_
            refine va_get (D := (dC, dI)) (ci := 3) (v := .long r_11.1) (C := RX3) (T := TX3) (N := 15) hx hb hts in_X3_form_X3 hown hK hP 0 rfl rfl 6 (by decide) (hts (.fieldLink RX3 69 "FormRingModel" "x" "J") (by decide +kernel)) (fun _ h9 => h9) rfl dX3_form_99 ?_
            refine lv_aload_n hx hb dX3_form_102 rfl (lv_at hl 0 rfl) ?_
            refine va_get (D := (dC, dI)) (ci := 3) (v := .long r_11.2.1) (C := RX3) (T := TX3) (N := 15) hx hb hts in_X3_form_X3 hown hK hP 0 rfl rfl 7 (by decide) (hts (.fieldLink RX3 72 "FormRingModel" "y" "J") (by decide +kernel)) (fun _ h9 => h9) rfl dX3_form_103 ?_
            refine lv_aload_n hx hb dX3_form_106 rfl (lv_at hl 0 rfl) ?_
            refine va_get (D := (dC, dI)) (ci := 3) (v := .long r_11.2.2.1) (C := RX3) (T := TX3) (N := 15) hx hb hts in_X3_form_X3 hown hK hP 0 rfl rfl 8 (by decide) (hts (.fieldLink RX3 75 "FormRingModel" "z" "J") (by decide +kernel)) (fun _ h9 => h9) rfl dX3_form_107 ?_
            cases e_13 : f_X3_part n a2 r_11.1 r_11.2.1 r_11.2.2.1 with
            | none => rw [e_13, Option.bind_none] at hr; cases hr
            | some r_14 =>
              rw [e_13, Option.bind_some] at hr
              have hPc := hP.sub (ws' := []) [] rfl
              have hDc := hD.sub (ws' := []) [] (by decide) rfl
              have hKc := hK.sub (tys' := []) [] rfl
              have hFc := va_free (wc := []) hD hS hA [] rfl
              refine va_calli (va_runS (As := [.int a2, .long r_11.1, .long r_11.2.1, .long r_11.2.2.1]) (rest := []) ⟨hx, hb, hml, hown, hts⟩ (c_X3_part l dC dI H.size  a2 r_11.1 r_11.2.1 r_11.2.2.1 n _ e_13) (va_cwS 4 hts gX3_form_X3_part rfl rfl rfl (by decide +kernel) ⟨Nat.le_of_ble_eq_true rfl, Nat.le_of_ble_eq_true rfl⟩) ⟨fun a U g mk q => by obtain ⟨q0, q1, qP, qK, qD⟩ := q; exact ⟨q0, q1, qP, va_K.moved (u := U) (U := U.calling g mk a) (Vm.Alike.refl U.vm) qK, qD⟩, fun U hU hW => ⟨rfl, by rw [hU], by rw [hU]; exact hPc, va_K.moved hW.alike hKc, hDc.weaken (fun _ _ _ _ => trivial)⟩⟩ rfl rfl hl.1 rfl (lv_room (Nat.le_of_ble_eq_true rfl)) dX3_form_110 ⟨Nat.zero_le _, Nat.zero_le _⟩) hS (fun q _ h => hFc q h) hFc (fun x_15 _ t H1 locs ht hvm hw hB hz1 hk1 hS => ?_)
              have hw := hw.symm
              subst hw
              obtain ⟨hP1, hK1, hD1⟩ := hB
              rw [ht] at hP1
              obtain ⟨hP, hD⟩ := va_join (wr := [(h0, .inr (3, [.int w0_0, .long v1, .long v2, .long v3, .long v4, .long v5, .long r_11.1, .long r_11.2.1, .long r_11.2.2.1, .long r_11.2.2.2, .long v10, .long v11, .long v12, .int v13, .ref h1])), (h1, .inl (cI, 6600, .inl vR))]) (w1 := []) hP hD [] [0, 1] rfl rfl (by decide) (by decide) hk1 hFc hP1 hD1
              generalize H1 = H at hP hS ⊢
              have hP : va_P (dC, dI) vwCl [(h0, .inr (3, [.int w0_0, .long v1, .long v2, .long v3, .long v4, .long v5, .long r_11.1, .long r_11.2.1, .long r_11.2.2.1, .long r_11.2.2.2, .long v10, .long v11, .long v12, .int v13, .ref h1])), (h1, .inl (cI, 6600, .inl vR))] H := hP
              have hD : va_D A [(h0, .inr (3, [.int w0_0, .long v1, .long v2, .long v3, .long v4, .long v5, .long r_11.1, .long r_11.2.1, .long r_11.2.2.1, .long r_11.2.2.2, .long v10, .long v11, .long v12, .int v13, .ref h1])), (h1, .inl (cI, 6600, .inl vR))] := hD
              refine W.widen (k := 0) (n := 0) (Nat.le_refl _) (Nat.le_refl _) ?_
              have ho := Option.some.inj hr
              subst ho
              exact W.iret (v := r_14) hx hb hrt (fun t ht hW => ⟨⟨r_14, (), rfl, rfl, by rw [ht]; exact hP, va_K.moved hW.alike hK, hD⟩, hS.F ht⟩) hS.2.2 dX3_form_113
    · have hr := (if_pos c_2).symm.trans hr
      refine lv_iload_n hx hb dX3_form_47 rfl (lv_at hl 2 rfl) ?_
      refine lv_aload_n hx hb dX3_form_48 rfl (lv_at hl 0 rfl) ?_
      refine va_get (D := (dC, dI)) (ci := 3) (v := .long v10) (C := RX3) (T := TX3) (N := 15) hx hb hts in_X3_form_X3 hown hK hP 0 rfl rfl 10 (by decide) (hts (.fieldLink RX3 26 "FormRingModel" "nameA" "J") (by decide +kernel)) (fun _ h9 => h9) rfl dX3_form_49 ?_
      refine lv_aload_n hx hb dX3_form_52 rfl (lv_at hl 0 rfl) ?_
      refine va_get (D := (dC, dI)) (ci := 3) (v := .long v11) (C := RX3) (T := TX3) (N := 15) hx hb hts in_X3_form_X3 hown hK hP 0 rfl rfl 11 (by decide) (hts (.fieldLink RX3 94 "FormRingModel" "nameB" "J") (by decide +kernel)) (fun _ h9 => h9) rfl dX3_form_53 ?_
      refine lv_aload_n hx hb dX3_form_56 rfl (lv_at hl 0 rfl) ?_
      refine va_get (D := (dC, dI)) (ci := 3) (v := .long v12) (C := RX3) (T := TX3) (N := 15) hx hb hts in_X3_form_X3 hown hK hP 0 rfl rfl 12 (by decide) (hts (.fieldLink RX3 29 "FormRingModel" "nameC" "J") (by decide +kernel)) (fun _ h9 => h9) rfl dX3_form_57 ?_
      cases e_16 : f_X3_part n a2 v10 v11 v12 with
      | none => rw [e_16, Option.bind_none] at hr; cases hr
      | some r_17 =>
        rw [e_16, Option.bind_some] at hr
        have hPc := hP.sub (ws' := []) [] rfl
        have hDc := hD.sub (ws' := []) [] (by decide) rfl
        have hKc := hK.sub (tys' := []) [] rfl
        have hFc := va_free (wc := []) hD hS hA [] rfl
        refine va_calli (va_runS (As := [.int a2, .long v10, .long v11, .long v12]) (rest := []) ⟨hx, hb, hml, hown, hts⟩ (c_X3_part l dC dI H.size  a2 v10 v11 v12 n _ e_16) (va_cwS 4 hts gX3_form_X3_part rfl rfl rfl (by decide +kernel) ⟨Nat.le_of_ble_eq_true rfl, Nat.le_of_ble_eq_true rfl⟩) ⟨fun a U g mk q => by obtain ⟨q0, q1, qP, qK, qD⟩ := q; exact ⟨q0, q1, qP, va_K.moved (u := U) (U := U.calling g mk a) (Vm.Alike.refl U.vm) qK, qD⟩, fun U hU hW => ⟨rfl, by rw [hU], by rw [hU]; exact hPc, va_K.moved hW.alike hKc, hDc.weaken (fun _ _ _ _ => trivial)⟩⟩ rfl rfl hl.1 rfl (lv_room (Nat.le_of_ble_eq_true rfl)) dX3_form_60 ⟨Nat.zero_le _, Nat.zero_le _⟩) hS (fun q _ h => hFc q h) hFc (fun x_18 _ t H1 locs ht hvm hw hB hz1 hk1 hS => ?_)
        have hw := hw.symm
        subst hw
        obtain ⟨hP1, hK1, hD1⟩ := hB
        rw [ht] at hP1
        obtain ⟨hP, hD⟩ := va_join (wr := [(h0, .inr (3, [.int w0_0, .long v1, .long v2, .long v3, .long v4, .long v5, .long w0_6, .long w0_7, .long w0_8, .long w0_9, .long v10, .long v11, .long v12, .int v13, .ref h1])), (h1, .inl (cI, 6600, .inl vR))]) (w1 := []) hP hD [] [0, 1] rfl rfl (by decide) (by decide) hk1 hFc hP1 hD1
        generalize H1 = H at hP hS ⊢
        have hP : va_P (dC, dI) vwCl [(h0, .inr (3, [.int w0_0, .long v1, .long v2, .long v3, .long v4, .long v5, .long w0_6, .long w0_7, .long w0_8, .long w0_9, .long v10, .long v11, .long v12, .int v13, .ref h1])), (h1, .inl (cI, 6600, .inl vR))] H := hP
        have hD : va_D A [(h0, .inr (3, [.int w0_0, .long v1, .long v2, .long v3, .long v4, .long v5, .long w0_6, .long w0_7, .long w0_8, .long w0_9, .long v10, .long v11, .long v12, .int v13, .ref h1])), (h1, .inl (cI, 6600, .inl vR))] := hD
        refine W.widen (k := 0) (n := 0) (Nat.le_refl _) (Nat.le_refl _) ?_
        have ho := Option.some.inj hr
        subst ho
        exact W.iret (v := r_17) hx hb hrt (fun t ht hW => ⟨⟨r_17, (), rfl, rfl, by rw [ht]; exact hP, va_K.moved hW.alike hK, hD⟩, hS.F ht⟩) hS.2.2 dX3_form_63
  · have hr := (if_pos c_1).symm.trans hr
    refine lv_iconst (v := 0) hx hb dX3_form_40 (by decide) ?_
    have ho := Option.some.inj hr
    subst ho
    exact W.iret (v := 0) hx hb hrt (fun t ht hW => ⟨⟨0, (), rfl, rfl, by rw [ht]; exact hP, va_K.moved hW.alike hK, hD⟩, hS.F ht⟩) hS.2.2 dX3_form_41
def f_X3_form (n : Nat) (v1 : Int64) (v2 : Int64) (v3 : Int64) (v4 : Int64) (v5 : Int64) (v6 : Int64) (v7 : Int64) (v8 : Int64) (v9 : Int64) (v10 : Int64) (v11 : Int64) (v12 : Int64) (a1 : Int32) (a2 : Int32) : Option (Int32 × Int32 × Int64 × Int64 × Int64 × Int64) := (f_X3_in n a1.toInt64 0 2).bind (fun r_2 => if r_2 = 0 then (f_X3_form_33 n v1 v2 v3 v4 v5 v10 v11 v12 a1 a2 1 v6 v7 v8 v9) else ((f_X3_in n a2.toInt64 0 2).bind (fun r_7 => if r_7 = 0 then (f_X3_form_33 n v1 v2 v3 v4 v5 v10 v11 v12 a1 a2 1 v6 v7 v8 v9) else (f_X3_form_33 n v1 v2 v3 v4 v5 v10 v11 v12 a1 a2 0 v6 v7 v8 v9))))
set_option maxHeartbeats 4000000 in
set_option maxRecDepth 100000 in
theorem c_X3_form (l : Launch) (dC : Nat → ClassId) (dI : Nat → Nat → Nat) (sz : Nat) (h0 : Nat) (h1 : Nat) (cI : ClassId) (v0 : Int32) (v1 : Int64) (v2 : Int64) (v3 : Int64) (v4 : Int64) (v5 : Int64) (v6 : Int64) (v7 : Int64) (v8 : Int64) (v9 : Int64) (v10 : Int64) (v11 : Int64) (v12 : Int64) (v13 : Int32) (vR : Nat → Int32) (a1 : Int32) (a2 : Int32)  (n : Nat) (out : Int32 × Int32 × Int64 × Int64 × Int64 × Int64) (hr : f_X3_form n v1 v2 v3 v4 v5 v6 v7 v8 v9 v10 v11 v12 a1 a2 = some out) : Met l yX3_form wsX3_form ({ frames := 3, cells := 0, slots := 0, locals := 79 }) (va_Pc [.ref h0, .int a1, .int a2] (zP dC dI [(cI, .int)] [(h0, .inr (3, [.int v0, .long v1, .long v2, .long v3, .long v4, .long v5, .long v6, .long v7, .long v8, .long v9, .long v10, .long v11, .long v12, .int v13, .ref h1])), (h1, .inl (cI, 6600, .inl vR))] sz)) (va_Qi (fun r (_ : Unit) => r = out.1) (fun (_ : Unit) t => zB dC dI [(cI, .int)] (va_A [(h0, .inr (3, [.int v0, .long v1, .long v2, .long v3, .long v4, .long v5, .long v6, .long v7, .long v8, .long v9, .long v10, .long v11, .long v12, .int v13, .ref h1])), (h1, .inl (cI, 6600, .inl vR))] sz) [(h0, .inr (3, [.int out.2.1, .long v1, .long v2, .long v3, .long v4, .long v5, .long out.2.2.1, .long out.2.2.2.1, .long out.2.2.2.2.1, .long out.2.2.2.2.2, .long v10, .long v11, .long v12, .int v13, .ref h1])), (h1, .inl (cI, 6600, .inl vR))] t) (va_A [(h0, .inr (3, [.int v0, .long v1, .long v2, .long v3, .long v4, .long v5, .long v6, .long v7, .long v8, .long v9, .long v10, .long v11, .long v12, .int v13, .ref h1])), (h1, .inl (cI, 6600, .inl vR))] sz)) 0 0 (va_A [(h0, .inr (3, [.int v0, .long v1, .long v2, .long v3, .long v4, .long v5, .long v6, .long v7, .long v8, .long v9, .long v10, .long v11, .long v12, .int v13, .ref h1])), (h1, .inl (cI, 6600, .inl vR))] sz) := by
  refine Met.ofW (cc := cX3_form) (maxL := 3) (ret := (some .int)) (by decide) rfl ?_
  intro p e s m args below meth c s₁ B hml hv
  obtain ⟨rfl, hsz, hP, hK, hD0⟩ := hv
  have hx := B.exec
  have hb := B.bytes
  have hrt := B.returns
  have hts := atoms_spec (ws := wsX3_form) B.pre
  have hown : s.vm.findClass RX3 = some m.cls := findClass_of_methodNamed B.named
  have hlocks := B.notSynchronized
  subst hsz
  have hD := hD0.self (sz := s.heap.size)
  generalize hAe : va_A [(h0, .inr (3, [.int v0, .long v1, .long v2, .long v3, .long v4, .long v5, .long v6, .long v7, .long v8, .long v9, .long v10, .long v11, .long v12, .int v13, .ref h1])), (h1, .inl (cI, 6600, .inl vR))] s.heap.size = A at hD ⊢
  have hA : ∀ q : Nat, s.heap.size ≤ q → A q := fun q h => by rw [← hAe]; exact Or.inr h
  have hS : va_S A s.heap s.heap [] := va_S.rf
  have hP : va_P (dC, dI) vwCl [(h0, .inr (3, [.int v0, .long v1, .long v2, .long v3, .long v4, .long v5, .long v6, .long v7, .long v8, .long v9, .long v10, .long v11, .long v12, .int v13, .ref h1])), (h1, .inl (cI, 6600, .inl vR))] s.heap := hP
  have hl := lv_entry ([.ref h0, .int a1, .int a2]) (n := 3) (Nat.le_of_ble_eq_true rfl)
  rw [lg_entry_eq]
  generalize (lg_sl ([.ref h0, .int a1, .int a2]) ++ List.replicate (3 - (lg_sl ([.ref h0, .int a1, .int a2])).length) Slot.unset).toArray = ls at hl ⊢
  have hl : lv_has ls 3 [(0, .ref h0), (1, .int a1), (2, .int a2)] := hl
  unfold f_X3_form at hr
  refine lv_aload_n hx hb dX3_form_0 rfl (lv_at hl 0 rfl) ?_
  refine lv_iload_n hx hb dX3_form_1 rfl (lv_at hl 1 rfl) ?_
  refine lv_i2l hx hb dX3_form_2 rfl ?_
  refine lv_lconst (v := 0) hx hb dX3_form_3 (by decide) ?_
  refine lv_ldc2 (v := 2) hx hb hown (hts (.constantLong RX3 81 (2)) (by decide +kernel)) dX3_form_4 ?_
  cases e_1 : f_X3_in n a1.toInt64 0 2 with
  | none => rw [e_1, Option.bind_none] at hr; cases hr
  | some r_2 =>
    rw [e_1, Option.bind_some] at hr
    have hPc := hP.sub (ws' := []) [] rfl
    have hDc := hD.sub (ws' := []) [] (by decide) rfl
    have hKc := hK.sub (tys' := []) [] rfl
    have hFc := va_free (wc := []) hD hS hA [] rfl
    refine va_calli (va_runS (As := [.long a1.toInt64, .long 0, .long 2]) (rest := [.ref h0]) ⟨hx, hb, hml, hown, hts⟩ (c_X3_in l dC dI s.heap.size  a1.toInt64 0 2 n _ e_1) (va_cwS 3 hts gX3_form_X3_in rfl rfl rfl (by decide +kernel) ⟨Nat.le_of_ble_eq_true rfl, Nat.le_of_ble_eq_true rfl⟩) ⟨fun a U g mk q => by obtain ⟨q0, q1, qP, qK, qD⟩ := q; exact ⟨q0, q1, qP, va_K.moved (u := U) (U := U.calling g mk a) (Vm.Alike.refl U.vm) qK, qD⟩, fun U hU hW => ⟨rfl, by rw [hU], by rw [hU]; exact hPc, va_K.moved hW.alike hKc, hDc.weaken (fun _ _ _ _ => trivial)⟩⟩ rfl rfl hl.1 rfl (lv_room (Nat.le_of_ble_eq_true rfl)) dX3_form_7 ⟨Nat.zero_le _, Nat.zero_le _⟩) hS (fun q _ h => hFc q h) hFc (fun x_3 _ t H1 locs ht hvm hw hB hz1 hk1 hS => ?_)
    obtain ⟨hw, z_4⟩ := hw
    have hw := hw.symm
    subst hw
    obtain ⟨hP1, hK1, hD1⟩ := hB
    rw [ht] at hP1
    obtain ⟨hP, hD⟩ := va_join (wr := [(h0, .inr (3, [.int v0, .long v1, .long v2, .long v3, .long v4, .long v5, .long v6, .long v7, .long v8, .long v9, .long v10, .long v11, .long v12, .int v13, .ref h1])), (h1, .inl (cI, 6600, .inl vR))]) (w1 := []) hP hD [] [0, 1] rfl rfl (by decide) (by decide) hk1 hFc hP1 hD1
    generalize H1 = H at hP hS ⊢
    have hP : va_P (dC, dI) vwCl [(h0, .inr (3, [.int v0, .long v1, .long v2, .long v3, .long v4, .long v5, .long v6, .long v7, .long v8, .long v9, .long v10, .long v11, .long v12, .int v13, .ref h1])), (h1, .inl (cI, 6600, .inl vR))] H := hP
    have hD : va_D A [(h0, .inr (3, [.int v0, .long v1, .long v2, .long v3, .long v4, .long v5, .long v6, .long v7, .long v8, .long v9, .long v10, .long v11, .long v12, .int v13, .ref h1])), (h1, .inl (cI, 6600, .inl vR))] := hD
    refine W.widen (k := 0) (n := 0) (Nat.le_refl _) (Nat.le_refl _) ?_
    refine lz_zeq (tgt := 29) hx hb dX3_form_10 (by decide) (fun c_5 => ?_) (fun c_5 => ?_)
    · have hr := (if_pos c_5).symm.trans hr
      refine lv_iconst (v := 1) hx hb dX3_form_29 (by decide) ?_
      refine va_put (D := (dC, dI)) (ci := 3) (v := .int 1) (ty := .int) (C := RX3) (T := TX3) (N := 15) hx hb hts in_X3_form_X3 tyX3 tyX3_ok nmX3 hown hK hP hD hS 0 rfl rfl 0 (by decide) (hts (.fieldLink RX3 44 "FormRingModel" "code" "I") (by decide +kernel)) (fun _ h9 => h9) rfl (by decide +kernel) rfl rfl (Nat.le_of_ble_eq_true rfl) dX3_form_30 (fun H locs hP hD hS => ?_)
      have hP : va_P (dC, dI) vwCl [(h0, .inr (3, [.int 1, .long v1, .long v2, .long v3, .long v4, .long v5, .long v6, .long v7, .long v8, .long v9, .long v10, .long v11, .long v12, .int v13, .ref h1])), (h1, .inl (cI, 6600, .inl vR))] H := hP
      have hD : va_D A [(h0, .inr (3, [.int 1, .long v1, .long v2, .long v3, .long v4, .long v5, .long v6, .long v7, .long v8, .long v9, .long v10, .long v11, .long v12, .int v13, .ref h1])), (h1, .inl (cI, 6600, .inl vR))] := hD
      exact k_X3_form_33 hx hb hrt hml hown hlocks hts hA hK n out 1 v6 v7 v8 v9 hr _ _ _ hP hD hS (lv_sub hl [0, 1, 2] rfl)
    · have hr := (if_neg c_5).symm.trans hr
      refine lv_iload_n hx hb dX3_form_13 rfl (lv_at hl 2 rfl) ?_
      refine lv_i2l hx hb dX3_form_14 rfl ?_
      refine lv_lconst (v := 0) hx hb dX3_form_15 (by decide) ?_
      refine lv_ldc2 (v := 2) hx hb hown (hts (.constantLong RX3 81 (2)) (by decide +kernel)) dX3_form_16 ?_
      cases e_6 : f_X3_in n a2.toInt64 0 2 with
      | none => rw [e_6, Option.bind_none] at hr; cases hr
      | some r_7 =>
        rw [e_6, Option.bind_some] at hr
        have hPc := hP.sub (ws' := []) [] rfl
        have hDc := hD.sub (ws' := []) [] (by decide) rfl
        have hKc := hK.sub (tys' := []) [] rfl
        have hFc := va_free (wc := []) hD hS hA [] rfl
        refine va_calli (va_runS (As := [.long a2.toInt64, .long 0, .long 2]) (rest := [.ref h0]) ⟨hx, hb, hml, hown, hts⟩ (c_X3_in l dC dI H.size  a2.toInt64 0 2 n _ e_6) (va_cwS 3 hts gX3_form_X3_in rfl rfl rfl (by decide +kernel) ⟨Nat.le_of_ble_eq_true rfl, Nat.le_of_ble_eq_true rfl⟩) ⟨fun a U g mk q => by obtain ⟨q0, q1, qP, qK, qD⟩ := q; exact ⟨q0, q1, qP, va_K.moved (u := U) (U := U.calling g mk a) (Vm.Alike.refl U.vm) qK, qD⟩, fun U hU hW => ⟨rfl, by rw [hU], by rw [hU]; exact hPc, va_K.moved hW.alike hKc, hDc.weaken (fun _ _ _ _ => trivial)⟩⟩ rfl rfl hl.1 rfl (lv_room (Nat.le_of_ble_eq_true rfl)) dX3_form_19 ⟨Nat.zero_le _, Nat.zero_le _⟩) hS (fun q _ h => hFc q h) hFc (fun x_8 _ t H1 locs ht hvm hw hB hz1 hk1 hS => ?_)
        obtain ⟨hw, z_9⟩ := hw
        have hw := hw.symm
        subst hw
        obtain ⟨hP1, hK1, hD1⟩ := hB
        rw [ht] at hP1
        obtain ⟨hP, hD⟩ := va_join (wr := [(h0, .inr (3, [.int v0, .long v1, .long v2, .long v3, .long v4, .long v5, .long v6, .long v7, .long v8, .long v9, .long v10, .long v11, .long v12, .int v13, .ref h1])), (h1, .inl (cI, 6600, .inl vR))]) (w1 := []) hP hD [] [0, 1] rfl rfl (by decide) (by decide) hk1 hFc hP1 hD1
        generalize H1 = H at hP hS ⊢
        have hP : va_P (dC, dI) vwCl [(h0, .inr (3, [.int v0, .long v1, .long v2, .long v3, .long v4, .long v5, .long v6, .long v7, .long v8, .long v9, .long v10, .long v11, .long v12, .int v13, .ref h1])), (h1, .inl (cI, 6600, .inl vR))] H := hP
        have hD : va_D A [(h0, .inr (3, [.int v0, .long v1, .long v2, .long v3, .long v4, .long v5, .long v6, .long v7, .long v8, .long v9, .long v10, .long v11, .long v12, .int v13, .ref h1])), (h1, .inl (cI, 6600, .inl vR))] := hD
        refine W.widen (k := 0) (n := 0) (Nat.le_refl _) (Nat.le_refl _) ?_
        refine lz_zeq (tgt := 29) hx hb dX3_form_22 (by decide) (fun c_10 => ?_) (fun c_10 => ?_)
        · have hr := (if_pos c_10).symm.trans hr
          refine lv_iconst (v := 1) hx hb dX3_form_29 (by decide) ?_
          refine va_put (D := (dC, dI)) (ci := 3) (v := .int 1) (ty := .int) (C := RX3) (T := TX3) (N := 15) hx hb hts in_X3_form_X3 tyX3 tyX3_ok nmX3 hown hK hP hD hS 0 rfl rfl 0 (by decide) (hts (.fieldLink RX3 44 "FormRingModel" "code" "I") (by decide +kernel)) (fun _ h9 => h9) rfl (by decide +kernel) rfl rfl (Nat.le_of_ble_eq_true rfl) dX3_form_30 (fun H locs hP hD hS => ?_)
          have hP : va_P (dC, dI) vwCl [(h0, .inr (3, [.int 1, .long v1, .long v2, .long v3, .long v4, .long v5, .long v6, .long v7, .long v8, .long v9, .long v10, .long v11, .long v12, .int v13, .ref h1])), (h1, .inl (cI, 6600, .inl vR))] H := hP
          have hD : va_D A [(h0, .inr (3, [.int 1, .long v1, .long v2, .long v3, .long v4, .long v5, .long v6, .long v7, .long v8, .long v9, .long v10, .long v11, .long v12, .int v13, .ref h1])), (h1, .inl (cI, 6600, .inl vR))] := hD
          exact k_X3_form_33 hx hb hrt hml hown hlocks hts hA hK n out 1 v6 v7 v8 v9 hr _ _ _ hP hD hS (lv_sub hl [0, 1, 2] rfl)
        · have hr := (if_neg c_10).symm.trans hr
          refine lv_iconst (v := 0) hx hb dX3_form_25 (by decide) ?_
          refine lv_goto (tgt := 30) hx hb dX3_form_26 (by decide) ?_
          refine va_put (D := (dC, dI)) (ci := 3) (v := .int 0) (ty := .int) (C := RX3) (T := TX3) (N := 15) hx hb hts in_X3_form_X3 tyX3 tyX3_ok nmX3 hown hK hP hD hS 0 rfl rfl 0 (by decide) (hts (.fieldLink RX3 44 "FormRingModel" "code" "I") (by decide +kernel)) (fun _ h9 => h9) rfl (by decide +kernel) rfl rfl (Nat.le_of_ble_eq_true rfl) dX3_form_30 (fun H locs hP hD hS => ?_)
          have hP : va_P (dC, dI) vwCl [(h0, .inr (3, [.int 0, .long v1, .long v2, .long v3, .long v4, .long v5, .long v6, .long v7, .long v8, .long v9, .long v10, .long v11, .long v12, .int v13, .ref h1])), (h1, .inl (cI, 6600, .inl vR))] H := hP
          have hD : va_D A [(h0, .inr (3, [.int 0, .long v1, .long v2, .long v3, .long v4, .long v5, .long v6, .long v7, .long v8, .long v9, .long v10, .long v11, .long v12, .int v13, .ref h1])), (h1, .inl (cI, 6600, .inl vR))] := hD
          exact k_X3_form_33 hx hb hrt hml hown hlocks hts hA hK n out 0 v6 v7 v8 v9 hr _ _ _ hP hD hS (lv_sub hl [0, 1, 2] rfl)

theorem in_X3_stepsToReduced_X3 : ∀ w ∈ u_ws RX3 TX3 15, w ∈ wsX3_stepsToReduced := by decide +kernel
def f_X3_stepsToReduced_18 (n : Nat) : Nat → (v4 : Int64) → (v5 : Int64) → Int32 → Int64 → Int64 → Int64 → Int64 → Option (Int32 × Int64 × Int64 × Int64 × Int64)
  | 0, _, _, _, _, _, _, _ => none
  | k + 1, v4, v5, u1, w0_6, w0_7, w0_8, w0_9 => (f_X3_isReduced n w0_6 w0_7 w0_8 v4 v5).bind (fun r_2 => if r_2 = 0 then ((f_X3_step n w0_7 w0_8 v4 v5).bind (fun r_7 => f_X3_stepsToReduced_18 n k v4 v5 (u1 + 1) r_7.1 r_7.2.1 r_7.2.2.1 r_7.2.2.2)) else (some (u1, w0_6, w0_7, w0_8, w0_9)))
set_option maxHeartbeats 4000000 in
set_option maxRecDepth 100000 in
theorem k_X3_stepsToReduced_18 {p : Program} {l : Launch} {e : Env} {s : State} {m : MethodId} {args : Array Value} {below : List Frame} {meth : Method} {c : Code} {dC : Nat → ClassId} {dI : Nat → Nat → Nat} {A : Nat → Prop} {h0 : Nat} {h1 : Nat} {cI : ClassId} {v0 : Int32} {v1 : Int64} {v2 : Int64} {v3 : Int64} {v4 : Int64} {v5 : Int64} {v10 : Int64} {v11 : Int64} {v12 : Int64} {v13 : Int32} {vR : Nat → Int32}  (hx : p.tables.exec = Jvm.exec) (hb : c.code = cX3_stepsToReduced) (hrt : meth.sig.returnType = (some .int)) (hml : c.maxLocals = 2) (hown : s.vm.findClass RX3 = some m.cls) (hlocks : meth.locks = false) (hts : ∀ w ∈ wsX3_stepsToReduced, w.before args s = true) (hA : ∀ q : Nat, s.heap.size ≤ q → A q) (hK : va_K (dC, dI) vwCl [(cI, .int)] s)  (n : Nat) (out : Int32 × Int64 × Int64 × Int64 × Int64) :
    ∀ (k : Nat) (u1 : Int32) (w0_6 : Int64) (w0_7 : Int64) (w0_8 : Int64) (w0_9 : Int64), f_X3_stepsToReduced_18 n k v4 v5 u1 w0_6 w0_7 w0_8 w0_9 = some out → ∀ (H : Heap) (locs : List Loc) (ls : Array Slot), va_P (dC, dI) vwCl [(h0, .inr (3, [.int v0, .long v1, .long v2, .long v3, .long v4, .long v5, .long w0_6, .long w0_7, .long w0_8, .long w0_9, .long v10, .long v11, .long v12, .int v13, .ref h1])), (h1, .inl (cI, 6600, .inl vR))] H → va_D A [(h0, .inr (3, [.int v0, .long v1, .long v2, .long v3, .long v4, .long v5, .long w0_6, .long w0_7, .long w0_8, .long w0_9, .long v10, .long v11, .long v12, .int v13, .ref h1])), (h1, .inl (cI, 6600, .inl vR))] → va_S A s.heap H locs → lv_has ls 2 [(0, .ref h0), (1, .int u1)] → W p l e ({ frames := 2, cells := 0, slots := 0, locals := 55 }) s m args below meth c H locs 0 0 (MQ below (va_Qi (fun r (_ : Unit) => r = out.1) (fun (_ : Unit) t => zB dC dI [(cI, .int)] A [(h0, .inr (3, [.int v0, .long v1, .long v2, .long v3, .long v4, .long v5, .long out.2.1, .long out.2.2.1, .long out.2.2.2.1, .long out.2.2.2.2, .long v10, .long v11, .long v12, .int v13, .ref h1])), (h1, .inl (cI, 6600, .inl vR))] t) A) args s 0 0 A) (F0 m 18 ls []) := by
  intro k
  induction k with
  | zero => intro u1 w0_6 w0_7 w0_8 w0_9 hr; rw [f_X3_stepsToReduced_18] at hr; cases hr
  | succ k ih =>
    intro u1 w0_6 w0_7 w0_8 w0_9 hr H locs ls hP hD hS hl
    rw [f_X3_stepsToReduced_18] at hr
    refine lv_aload_n hx hb dX3_stepsToReduced_18 rfl (lv_at hl 0 rfl) ?_
    refine lv_aload_n hx hb dX3_stepsToReduced_19 rfl (lv_at hl 0 rfl) ?_
    refine va_get (D := (dC, dI)) (ci := 3) (v := .long v4) (C := RX3) (T := TX3) (N := 15) hx hb hts in_X3_stepsToReduced_X3 hown hK hP 0 rfl rfl 4 (by decide) (hts (.fieldLink RX3 18 "FormRingModel" "d" "J") (by decide +kernel)) (fun _ h9 => h9) rfl dX3_stepsToReduced_20 ?_
    refine lv_aload_n hx hb dX3_stepsToReduced_23 rfl (lv_at hl 0 rfl) ?_
    refine va_get (D := (dC, dI)) (ci := 3) (v := .long v5) (C := RX3) (T := TX3) (N := 15) hx hb hts in_X3_stepsToReduced_X3 hown hK hP 0 rfl rfl 5 (by decide) (hts (.fieldLink RX3 23 "FormRingModel" "w" "J") (by decide +kernel)) (fun _ h9 => h9) rfl dX3_stepsToReduced_24 ?_
    cases e_1 : f_X3_isReduced n w0_6 w0_7 w0_8 v4 v5 with
    | none => rw [e_1, Option.bind_none] at hr; cases hr
    | some r_2 =>
      rw [e_1, Option.bind_some] at hr
      have hPc := hP.sub (ws' := [(h0, .inr (3, [.int v0, .long v1, .long v2, .long v3, .long v4, .long v5, .long w0_6, .long w0_7, .long w0_8, .long w0_9, .long v10, .long v11, .long v12, .int v13, .ref h1])), (h1, .inl (cI, 6600, .inl vR))]) [0, 1] rfl
      have hDc := hD.sub (ws' := [(h0, .inr (3, [.int v0, .long v1, .long v2, .long v3, .long v4, .long v5, .long w0_6, .long w0_7, .long w0_8, .long w0_9, .long v10, .long v11, .long v12, .int v13, .ref h1])), (h1, .inl (cI, 6600, .inl vR))]) [0, 1] (by decide) rfl
      have hKc := hK.sub (tys' := [(cI, .int)]) [0] rfl
      have hFc := va_free (wc := [(h0, .inr (3, [.int v0, .long v1, .long v2, .long v3, .long v4, .long v5, .long w0_6, .long w0_7, .long w0_8, .long w0_9, .long v10, .long v11, .long v12, .int v13, .ref h1])), (h1, .inl (cI, 6600, .inl vR))]) hD hS hA [0, 1] rfl
      refine va_calli (va_runV (As := [.long v4, .long v5]) (rest := []) ⟨hx, hb, hml, hown, hts⟩ (c_X3_isReduced l dC dI H.size h0 h1 cI v0 v1 v2 v3 v4 v5 w0_6 w0_7 w0_8 w0_9 v10 v11 v12 v13 vR v4 v5 n _ e_1) (cwV 2 hts gX3_stepsToReduced_X3_isReduced rfl rfl rfl (by decide +kernel) ⟨Nat.le_of_ble_eq_true rfl, Nat.le_of_ble_eq_true rfl⟩) ⟨fun a U g mk q => by obtain ⟨q0, q1, qP, qK, qD⟩ := q; exact ⟨q0, q1, qP, va_K.moved (u := U) (U := U.calling g mk a) (Vm.Alike.refl U.vm) qK, qD⟩, va_recv hKc hPc (ci := 3) (q0 := 0) rfl rfl, fun U hU hW => ⟨rfl, by rw [hU], by rw [hU]; exact hPc, va_K.moved hW.alike hKc, hDc.weaken (fun _ _ _ _ => trivial)⟩⟩ rfl rfl hl.1 rfl (lv_room (Nat.le_of_ble_eq_true rfl)) dX3_stepsToReduced_27 ⟨Nat.zero_le _, Nat.zero_le _⟩) hS (fun q _ h => hFc q h) hFc (fun x_3 _ t H1 locs ht hvm hw hB hz1 hk1 hS => ?_)
      obtain ⟨hw, z_4⟩ := hw
      have hw := hw.symm
      subst hw
      obtain ⟨hP1, hK1, hD1⟩ := hB
      rw [ht] at hP1
      obtain ⟨hP, hD⟩ := va_join (wr := []) (w1 := [(h0, .inr (3, [.int v0, .long v1, .long v2, .long v3, .long v4, .long v5, .long w0_6, .long w0_7, .long w0_8, .long w0_9, .long v10, .long v11, .long v12, .int v13, .ref h1])), (h1, .inl (cI, 6600, .inl vR))]) hP hD [0, 1] [] rfl rfl (by decide) (by decide) hk1 hFc hP1 hD1
      generalize H1 = H at hP hS ⊢
      have hP : va_P (dC, dI) vwCl [(h0, .inr (3, [.int v0, .long v1, .long v2, .long v3, .long v4, .long v5, .long w0_6, .long w0_7, .long w0_8, .long w0_9, .long v10, .long v11, .long v12, .int v13, .ref h1])), (h1, .inl (cI, 6600, .inl vR))] H := hP
      have hD : va_D A [(h0, .inr (3, [.int v0, .long v1, .long v2, .long v3, .long v4, .long v5, .long w0_6, .long w0_7, .long w0_8, .long w0_9, .long v10, .long v11, .long v12, .int v13, .ref h1])), (h1, .inl (cI, 6600, .inl vR))] := hD
      refine W.widen (k := 0) (n := 0) (Nat.le_refl _) (Nat.le_refl _) ?_
      refine lz_zne (tgt := 51) hx hb dX3_stepsToReduced_30 (by decide) (fun c_5 => ?_) (fun c_5 => ?_)
      · have hr := (if_neg c_5).symm.trans hr
        refine lv_iload_n hx hb dX3_stepsToReduced_51 rfl (lv_at hl 1 rfl) ?_
        have ho := Option.some.inj hr
        subst ho
        exact W.iret (v := u1) hx hb hrt (fun t ht hW => ⟨⟨u1, (), rfl, rfl, by rw [ht]; exact hP, va_K.moved hW.alike hK, hD⟩, hS.F ht⟩) hS.2.2 dX3_stepsToReduced_52
      · have hr := (if_pos c_5).symm.trans hr
        refine lv_aload_n hx hb dX3_stepsToReduced_33 rfl (lv_at hl 0 rfl) ?_
        refine lv_aload_n hx hb dX3_stepsToReduced_34 rfl (lv_at hl 0 rfl) ?_
        refine va_get (D := (dC, dI)) (ci := 3) (v := .long v4) (C := RX3) (T := TX3) (N := 15) hx hb hts in_X3_stepsToReduced_X3 hown hK hP 0 rfl rfl 4 (by decide) (hts (.fieldLink RX3 18 "FormRingModel" "d" "J") (by decide +kernel)) (fun _ h9 => h9) rfl dX3_stepsToReduced_35 ?_
        refine lv_aload_n hx hb dX3_stepsToReduced_38 rfl (lv_at hl 0 rfl) ?_
        refine va_get (D := (dC, dI)) (ci := 3) (v := .long v5) (C := RX3) (T := TX3) (N := 15) hx hb hts in_X3_stepsToReduced_X3 hown hK hP 0 rfl rfl 5 (by decide) (hts (.fieldLink RX3 23 "FormRingModel" "w" "J") (by decide +kernel)) (fun _ h9 => h9) rfl dX3_stepsToReduced_39 ?_
        cases e_6 : f_X3_step n w0_7 w0_8 v4 v5 with
        | none => rw [e_6, Option.bind_none] at hr; cases hr
        | some r_7 =>
          rw [e_6, Option.bind_some] at hr
          have hPc := hP.sub (ws' := [(h0, .inr (3, [.int v0, .long v1, .long v2, .long v3, .long v4, .long v5, .long w0_6, .long w0_7, .long w0_8, .long w0_9, .long v10, .long v11, .long v12, .int v13, .ref h1])), (h1, .inl (cI, 6600, .inl vR))]) [0, 1] rfl
          have hDc := hD.sub (ws' := [(h0, .inr (3, [.int v0, .long v1, .long v2, .long v3, .long v4, .long v5, .long w0_6, .long w0_7, .long w0_8, .long w0_9, .long v10, .long v11, .long v12, .int v13, .ref h1])), (h1, .inl (cI, 6600, .inl vR))]) [0, 1] (by decide) rfl
          have hKc := hK.sub (tys' := [(cI, .int)]) [0] rfl
          have hFc := va_free (wc := [(h0, .inr (3, [.int v0, .long v1, .long v2, .long v3, .long v4, .long v5, .long w0_6, .long w0_7, .long w0_8, .long w0_9, .long v10, .long v11, .long v12, .int v13, .ref h1])), (h1, .inl (cI, 6600, .inl vR))]) hD hS hA [0, 1] rfl
          refine va_callv (va_runV (As := [.long v4, .long v5]) (rest := []) ⟨hx, hb, hml, hown, hts⟩ (c_X3_step l dC dI H.size h0 h1 cI v0 v1 v2 v3 v4 v5 w0_6 w0_7 w0_8 w0_9 v10 v11 v12 v13 vR v4 v5 n _ e_6) (cwV 2 hts gX3_stepsToReduced_X3_step rfl rfl rfl (by decide +kernel) ⟨Nat.le_of_ble_eq_true rfl, Nat.le_of_ble_eq_true rfl⟩) ⟨fun a U g mk q => by obtain ⟨q0, q1, qP, qK, qD⟩ := q; exact ⟨q0, q1, qP, va_K.moved (u := U) (U := U.calling g mk a) (Vm.Alike.refl U.vm) qK, qD⟩, va_recv hKc hPc (ci := 3) (q0 := 0) rfl rfl, fun U hU hW => ⟨rfl, by rw [hU], by rw [hU]; exact hPc, va_K.moved hW.alike hKc, hDc.weaken (fun _ _ _ _ => trivial)⟩⟩ rfl rfl hl.1 rfl (lv_room (Nat.le_of_ble_eq_true rfl)) dX3_stepsToReduced_42 ⟨Nat.zero_le _, Nat.zero_le _⟩) hS (fun q _ h => hFc q h) hFc (fun _ t H1 locs ht hvm hw hB hz1 hk1 hS => ?_)
          obtain ⟨hP1, hK1, hD1⟩ := hB
          rw [ht] at hP1
          obtain ⟨hP, hD⟩ := va_join (wr := []) (w1 := [(h0, .inr (3, [.int v0, .long v1, .long v2, .long v3, .long v4, .long v5, .long r_7.1, .long r_7.2.1, .long r_7.2.2.1, .long r_7.2.2.2, .long v10, .long v11, .long v12, .int v13, .ref h1])), (h1, .inl (cI, 6600, .inl vR))]) hP hD [0, 1] [] rfl rfl (by decide) (by decide) hk1 hFc hP1 hD1
          generalize H1 = H at hP hS ⊢
          have hP : va_P (dC, dI) vwCl [(h0, .inr (3, [.int v0, .long v1, .long v2, .long v3, .long v4, .long v5, .long r_7.1, .long r_7.2.1, .long r_7.2.2.1, .long r_7.2.2.2, .long v10, .long v11, .long v12, .int v13, .ref h1])), (h1, .inl (cI, 6600, .inl vR))] H := hP
          have hD : va_D A [(h0, .inr (3, [.int v0, .long v1, .long v2, .long v3, .long v4, .long v5, .long r_7.1, .long r_7.2.1, .long r_7.2.2.1, .long r_7.2.2.2, .long v10, .long v11, .long v12, .int v13, .ref h1])), (h1, .inl (cI, 6600, .inl vR))] := hD
          refine W.widen (k := 0) (n := 0) (Nat.le_refl _) (Nat.le_refl _) ?_
          refine lv_iinc (v := u1 + 1) (lv' := [(1, .int (u1 + 1)), (0, .ref h0)]) hx hb dX3_stepsToReduced_45 hl (k := 1) rfl rfl (by decide) rfl (fun ls hl => ?_)
          refine lv_goto (tgt := 18) hx hb dX3_stepsToReduced_48 (by decide) ?_
          exact ih (u1 + 1) r_7.1 r_7.2.1 r_7.2.2.1 r_7.2.2.2 hr _ _ _ hP hD hS (lv_sub hl [1, 0] rfl)
def f_X3_stepsToReduced (n : Nat) (v1 : Int64) (v2 : Int64) (v3 : Int64) (v4 : Int64) (v5 : Int64) (v9 : Int64) : Option (Int32 × Int64 × Int64 × Int64 × Int64) := (f_X3_begin n v1 v2 v3).bind (fun r_2 => f_X3_stepsToReduced_18 n n v4 v5 0 r_2.1 r_2.2.1 r_2.2.2 v9)
set_option maxHeartbeats 4000000 in
set_option maxRecDepth 100000 in
theorem c_X3_stepsToReduced (l : Launch) (dC : Nat → ClassId) (dI : Nat → Nat → Nat) (sz : Nat) (h0 : Nat) (h1 : Nat) (cI : ClassId) (v0 : Int32) (v1 : Int64) (v2 : Int64) (v3 : Int64) (v4 : Int64) (v5 : Int64) (v6 : Int64) (v7 : Int64) (v8 : Int64) (v9 : Int64) (v10 : Int64) (v11 : Int64) (v12 : Int64) (v13 : Int32) (vR : Nat → Int32)   (n : Nat) (out : Int32 × Int64 × Int64 × Int64 × Int64) (hr : f_X3_stepsToReduced n v1 v2 v3 v4 v5 v9 = some out) : Met l yX3_stepsToReduced wsX3_stepsToReduced ({ frames := 2, cells := 0, slots := 0, locals := 55 }) (va_Pc [.ref h0] (zP dC dI [(cI, .int)] [(h0, .inr (3, [.int v0, .long v1, .long v2, .long v3, .long v4, .long v5, .long v6, .long v7, .long v8, .long v9, .long v10, .long v11, .long v12, .int v13, .ref h1])), (h1, .inl (cI, 6600, .inl vR))] sz)) (va_Qi (fun r (_ : Unit) => r = out.1) (fun (_ : Unit) t => zB dC dI [(cI, .int)] (va_A [(h0, .inr (3, [.int v0, .long v1, .long v2, .long v3, .long v4, .long v5, .long v6, .long v7, .long v8, .long v9, .long v10, .long v11, .long v12, .int v13, .ref h1])), (h1, .inl (cI, 6600, .inl vR))] sz) [(h0, .inr (3, [.int v0, .long v1, .long v2, .long v3, .long v4, .long v5, .long out.2.1, .long out.2.2.1, .long out.2.2.2.1, .long out.2.2.2.2, .long v10, .long v11, .long v12, .int v13, .ref h1])), (h1, .inl (cI, 6600, .inl vR))] t) (va_A [(h0, .inr (3, [.int v0, .long v1, .long v2, .long v3, .long v4, .long v5, .long v6, .long v7, .long v8, .long v9, .long v10, .long v11, .long v12, .int v13, .ref h1])), (h1, .inl (cI, 6600, .inl vR))] sz)) 0 0 (va_A [(h0, .inr (3, [.int v0, .long v1, .long v2, .long v3, .long v4, .long v5, .long v6, .long v7, .long v8, .long v9, .long v10, .long v11, .long v12, .int v13, .ref h1])), (h1, .inl (cI, 6600, .inl vR))] sz) := by
  refine Met.ofW (cc := cX3_stepsToReduced) (maxL := 2) (ret := (some .int)) (by decide) rfl ?_
  intro p e s m args below meth c s₁ B hml hv
  obtain ⟨rfl, hsz, hP, hK, hD0⟩ := hv
  have hx := B.exec
  have hb := B.bytes
  have hrt := B.returns
  have hts := atoms_spec (ws := wsX3_stepsToReduced) B.pre
  have hown : s.vm.findClass RX3 = some m.cls := findClass_of_methodNamed B.named
  have hlocks := B.notSynchronized
  subst hsz
  have hD := hD0.self (sz := s.heap.size)
  generalize hAe : va_A [(h0, .inr (3, [.int v0, .long v1, .long v2, .long v3, .long v4, .long v5, .long v6, .long v7, .long v8, .long v9, .long v10, .long v11, .long v12, .int v13, .ref h1])), (h1, .inl (cI, 6600, .inl vR))] s.heap.size = A at hD ⊢
  have hA : ∀ q : Nat, s.heap.size ≤ q → A q := fun q h => by rw [← hAe]; exact Or.inr h
  have hS : va_S A s.heap s.heap [] := va_S.rf
  have hP : va_P (dC, dI) vwCl [(h0, .inr (3, [.int v0, .long v1, .long v2, .long v3, .long v4, .long v5, .long v6, .long v7, .long v8, .long v9, .long v10, .long v11, .long v12, .int v13, .ref h1])), (h1, .inl (cI, 6600, .inl vR))] s.heap := hP
  have hl := lv_entry ([.ref h0]) (n := 2) (Nat.le_of_ble_eq_true rfl)
  rw [lg_entry_eq]
  generalize (lg_sl ([.ref h0]) ++ List.replicate (2 - (lg_sl ([.ref h0])).length) Slot.unset).toArray = ls at hl ⊢
  have hl : lv_has ls 2 [(0, .ref h0)] := hl
  unfold f_X3_stepsToReduced at hr
  refine lv_iconst (v := 0) hx hb dX3_stepsToReduced_0 (by decide) ?_
  refine lv_istore_n (lv' := [(1, .int 0), (0, .ref h0)]) hx hb dX3_stepsToReduced_1 rfl hl (by decide) rfl (fun ls hl => ?_)
  refine lv_aload_n hx hb dX3_stepsToReduced_2 rfl (lv_at hl 1 rfl) ?_
  refine lv_aload_n hx hb dX3_stepsToReduced_3 rfl (lv_at hl 1 rfl) ?_
  refine va_get (D := (dC, dI)) (ci := 3) (v := .long v1) (C := RX3) (T := TX3) (N := 15) hx hb hts in_X3_stepsToReduced_X3 hown hK hP 0 rfl rfl 1 (by decide) (hts (.fieldLink RX3 7 "FormRingModel" "a" "J") (by decide +kernel)) (fun _ h9 => h9) rfl dX3_stepsToReduced_4 ?_
  refine lv_aload_n hx hb dX3_stepsToReduced_7 rfl (lv_at hl 1 rfl) ?_
  refine va_get (D := (dC, dI)) (ci := 3) (v := .long v2) (C := RX3) (T := TX3) (N := 15) hx hb hts in_X3_stepsToReduced_X3 hown hK hP 0 rfl rfl 2 (by decide) (hts (.fieldLink RX3 129 "FormRingModel" "b" "J") (by decide +kernel)) (fun _ h9 => h9) rfl dX3_stepsToReduced_8 ?_
  refine lv_aload_n hx hb dX3_stepsToReduced_11 rfl (lv_at hl 1 rfl) ?_
  refine va_get (D := (dC, dI)) (ci := 3) (v := .long v3) (C := RX3) (T := TX3) (N := 15) hx hb hts in_X3_stepsToReduced_X3 hown hK hP 0 rfl rfl 3 (by decide) (hts (.fieldLink RX3 13 "FormRingModel" "c" "J") (by decide +kernel)) (fun _ h9 => h9) rfl dX3_stepsToReduced_12 ?_
  cases e_1 : f_X3_begin n v1 v2 v3 with
  | none => rw [e_1, Option.bind_none] at hr; cases hr
  | some r_2 =>
    rw [e_1, Option.bind_some] at hr
    have hPc := hP.sub (ws' := [(h0, .inr (3, [.int v0, .long v1, .long v2, .long v3, .long v4, .long v5, .long v6, .long v7, .long v8, .long v9, .long v10, .long v11, .long v12, .int v13, .ref h1])), (h1, .inl (cI, 6600, .inl vR))]) [0, 1] rfl
    have hDc := hD.sub (ws' := [(h0, .inr (3, [.int v0, .long v1, .long v2, .long v3, .long v4, .long v5, .long v6, .long v7, .long v8, .long v9, .long v10, .long v11, .long v12, .int v13, .ref h1])), (h1, .inl (cI, 6600, .inl vR))]) [0, 1] (by decide) rfl
    have hKc := hK.sub (tys' := [(cI, .int)]) [0] rfl
    have hFc := va_free (wc := [(h0, .inr (3, [.int v0, .long v1, .long v2, .long v3, .long v4, .long v5, .long v6, .long v7, .long v8, .long v9, .long v10, .long v11, .long v12, .int v13, .ref h1])), (h1, .inl (cI, 6600, .inl vR))]) hD hS hA [0, 1] rfl
    refine va_callv (va_runV (As := [.long v1, .long v2, .long v3]) (rest := []) ⟨hx, hb, hml, hown, hts⟩ (c_X3_begin l dC dI s.heap.size h0 h1 cI v0 v1 v2 v3 v4 v5 v6 v7 v8 v9 v10 v11 v12 v13 vR v1 v2 v3 n _ e_1) (cwV 3 hts gX3_stepsToReduced_X3_begin rfl rfl rfl (by decide +kernel) ⟨Nat.le_of_ble_eq_true rfl, Nat.le_of_ble_eq_true rfl⟩) ⟨fun a U g mk q => by obtain ⟨q0, q1, qP, qK, qD⟩ := q; exact ⟨q0, q1, qP, va_K.moved (u := U) (U := U.calling g mk a) (Vm.Alike.refl U.vm) qK, qD⟩, va_recv hKc hPc (ci := 3) (q0 := 0) rfl rfl, fun U hU hW => ⟨rfl, by rw [hU], by rw [hU]; exact hPc, va_K.moved hW.alike hKc, hDc.weaken (fun _ _ _ _ => trivial)⟩⟩ rfl rfl hl.1 rfl (lv_room (Nat.le_of_ble_eq_true rfl)) dX3_stepsToReduced_15 ⟨Nat.zero_le _, Nat.zero_le _⟩) hS (fun q _ h => hFc q h) hFc (fun _ t H1 locs ht hvm hw hB hz1 hk1 hS => ?_)
    obtain ⟨hP1, hK1, hD1⟩ := hB
    rw [ht] at hP1
    obtain ⟨hP, hD⟩ := va_join (wr := []) (w1 := [(h0, .inr (3, [.int v0, .long v1, .long v2, .long v3, .long v4, .long v5, .long r_2.1, .long r_2.2.1, .long r_2.2.2, .long v9, .long v10, .long v11, .long v12, .int v13, .ref h1])), (h1, .inl (cI, 6600, .inl vR))]) hP hD [0, 1] [] rfl rfl (by decide) (by decide) hk1 hFc hP1 hD1
    generalize H1 = H at hP hS ⊢
    have hP : va_P (dC, dI) vwCl [(h0, .inr (3, [.int v0, .long v1, .long v2, .long v3, .long v4, .long v5, .long r_2.1, .long r_2.2.1, .long r_2.2.2, .long v9, .long v10, .long v11, .long v12, .int v13, .ref h1])), (h1, .inl (cI, 6600, .inl vR))] H := hP
    have hD : va_D A [(h0, .inr (3, [.int v0, .long v1, .long v2, .long v3, .long v4, .long v5, .long r_2.1, .long r_2.2.1, .long r_2.2.2, .long v9, .long v10, .long v11, .long v12, .int v13, .ref h1])), (h1, .inl (cI, 6600, .inl vR))] := hD
    refine W.widen (k := 0) (n := 0) (Nat.le_refl _) (Nat.le_refl _) ?_
    exact k_X3_stepsToReduced_18 hx hb hrt hml hown hlocks hts hA hK n out n 0 r_2.1 r_2.2.1 r_2.2.2 v9 hr _ _ _ hP hD hS (lv_sub hl [1, 0] rfl)

theorem in_X3_ringSize_X3 : ∀ w ∈ u_ws RX3 TX3 15, w ∈ wsX3_ringSize := by decide +kernel
def f_X3_ringSize_41 (n : Nat) : Nat → (v4 : Int64) → (v5 : Int64) → (v10 : Int64) → (v11 : Int64) → Int32 → Int64 → Int64 → Int64 → Int64 → Option (Int32 × Int64 × Int64 × Int64 × Int64)
  | 0, _, _, _, _, _, _, _, _, _ => none
  | k + 1, v4, v5, v10, v11, u1, w0_6, w0_7, w0_8, w0_9 => (f_X3_isName n w0_6 w0_7 v10 v11).bind (fun r_2 => if r_2 = 0 then ((f_X3_step n w0_7 w0_8 v4 v5).bind (fun r_7 => f_X3_ringSize_41 n k v4 v5 v10 v11 (u1 + 1) r_7.1 r_7.2.1 r_7.2.2.1 r_7.2.2.2)) else (some (u1, w0_6, w0_7, w0_8, w0_9)))
set_option maxHeartbeats 4000000 in
set_option maxRecDepth 100000 in
theorem k_X3_ringSize_41 {p : Program} {l : Launch} {e : Env} {s : State} {m : MethodId} {args : Array Value} {below : List Frame} {meth : Method} {c : Code} {dC : Nat → ClassId} {dI : Nat → Nat → Nat} {A : Nat → Prop} {h0 : Nat} {h1 : Nat} {cI : ClassId} {v0 : Int32} {v1 : Int64} {v2 : Int64} {v3 : Int64} {v4 : Int64} {v5 : Int64} {v10 : Int64} {v11 : Int64} {v12 : Int64} {v13 : Int32} {vR : Nat → Int32}  (hx : p.tables.exec = Jvm.exec) (hb : c.code = cX3_ringSize) (hrt : meth.sig.returnType = (some .int)) (hml : c.maxLocals = 2) (hown : s.vm.findClass RX3 = some m.cls) (hlocks : meth.locks = false) (hts : ∀ w ∈ wsX3_ringSize, w.before args s = true) (hA : ∀ q : Nat, s.heap.size ≤ q → A q) (hK : va_K (dC, dI) vwCl [(cI, .int)] s)  (n : Nat) (out : Int32 × Int64 × Int64 × Int64 × Int64) :
    ∀ (k : Nat) (u1 : Int32) (w0_6 : Int64) (w0_7 : Int64) (w0_8 : Int64) (w0_9 : Int64), f_X3_ringSize_41 n k v4 v5 v10 v11 u1 w0_6 w0_7 w0_8 w0_9 = some out → ∀ (H : Heap) (locs : List Loc) (ls : Array Slot), va_P (dC, dI) vwCl [(h0, .inr (3, [.int v0, .long v1, .long v2, .long v3, .long v4, .long v5, .long w0_6, .long w0_7, .long w0_8, .long w0_9, .long v10, .long v11, .long v12, .int v13, .ref h1])), (h1, .inl (cI, 6600, .inl vR))] H → va_D A [(h0, .inr (3, [.int v0, .long v1, .long v2, .long v3, .long v4, .long v5, .long w0_6, .long w0_7, .long w0_8, .long w0_9, .long v10, .long v11, .long v12, .int v13, .ref h1])), (h1, .inl (cI, 6600, .inl vR))] → va_S A s.heap H locs → lv_has ls 2 [(0, .ref h0), (1, .int u1)] → W p l e ({ frames := 2, cells := 0, slots := 0, locals := 55 }) s m args below meth c H locs 0 0 (MQ below (va_Qi (fun r (_ : Unit) => r = out.1) (fun (_ : Unit) t => zB dC dI [(cI, .int)] A [(h0, .inr (3, [.int v0, .long v1, .long v2, .long v3, .long v4, .long v5, .long out.2.1, .long out.2.2.1, .long out.2.2.2.1, .long out.2.2.2.2, .long v10, .long v11, .long v12, .int v13, .ref h1])), (h1, .inl (cI, 6600, .inl vR))] t) A) args s 0 0 A) (F0 m 41 ls []) := by
  intro k
  induction k with
  | zero => intro u1 w0_6 w0_7 w0_8 w0_9 hr; rw [f_X3_ringSize_41] at hr; cases hr
  | succ k ih =>
    intro u1 w0_6 w0_7 w0_8 w0_9 hr H locs ls hP hD hS hl
    rw [f_X3_ringSize_41] at hr
    refine lv_aload_n hx hb dX3_ringSize_41 rfl (lv_at hl 0 rfl) ?_
    cases e_1 : f_X3_isName n w0_6 w0_7 v10 v11 with
    | none => rw [e_1, Option.bind_none] at hr; cases hr
    | some r_2 =>
      rw [e_1, Option.bind_some] at hr
      have hPc := hP.sub (ws' := [(h0, .inr (3, [.int v0, .long v1, .long v2, .long v3, .long v4, .long v5, .long w0_6, .long w0_7, .long w0_8, .long w0_9, .long v10, .long v11, .long v12, .int v13, .ref h1])), (h1, .inl (cI, 6600, .inl vR))]) [0, 1] rfl
      have hDc := hD.sub (ws' := [(h0, .inr (3, [.int v0, .long v1, .long v2, .long v3, .long v4, .long v5, .long w0_6, .long w0_7, .long w0_8, .long w0_9, .long v10, .long v11, .long v12, .int v13, .ref h1])), (h1, .inl (cI, 6600, .inl vR))]) [0, 1] (by decide) rfl
      have hKc := hK.sub (tys' := [(cI, .int)]) [0] rfl
      have hFc := va_free (wc := [(h0, .inr (3, [.int v0, .long v1, .long v2, .long v3, .long v4, .long v5, .long w0_6, .long w0_7, .long w0_8, .long w0_9, .long v10, .long v11, .long v12, .int v13, .ref h1])), (h1, .inl (cI, 6600, .inl vR))]) hD hS hA [0, 1] rfl
      refine va_calli (va_runV (As := []) (rest := []) ⟨hx, hb, hml, hown, hts⟩ (c_X3_isName l dC dI H.size h0 h1 cI v0 v1 v2 v3 v4 v5 w0_6 w0_7 w0_8 w0_9 v10 v11 v12 v13 vR  n _ e_1) (cwV 0 hts gX3_ringSize_X3_isName rfl rfl rfl (by decide +kernel) ⟨Nat.le_of_ble_eq_true rfl, Nat.le_of_ble_eq_true rfl⟩) ⟨fun a U g mk q => by obtain ⟨q0, q1, qP, qK, qD⟩ := q; exact ⟨q0, q1, qP, va_K.moved (u := U) (U := U.calling g mk a) (Vm.Alike.refl U.vm) qK, qD⟩, va_recv hKc hPc (ci := 3) (q0 := 0) rfl rfl, fun U hU hW => ⟨rfl, by rw [hU], by rw [hU]; exact hPc, va_K.moved hW.alike hKc, hDc.weaken (fun _ _ _ _ => trivial)⟩⟩ rfl rfl hl.1 rfl (lv_room (Nat.le_of_ble_eq_true rfl)) dX3_ringSize_42 ⟨Nat.zero_le _, Nat.zero_le _⟩) hS (fun q _ h => hFc q h) hFc (fun x_3 _ t H1 locs ht hvm hw hB hz1 hk1 hS => ?_)
      obtain ⟨hw, z_4⟩ := hw
      have hw := hw.symm
      subst hw
      obtain ⟨hP1, hK1, hD1⟩ := hB
      rw [ht] at hP1
      obtain ⟨hP, hD⟩ := va_join (wr := []) (w1 := [(h0, .inr (3, [.int v0, .long v1, .long v2, .long v3, .long v4, .long v5, .long w0_6, .long w0_7, .long w0_8, .long w0_9, .long v10, .long v11, .long v12, .int v13, .ref h1])), (h1, .inl (cI, 6600, .inl vR))]) hP hD [0, 1] [] rfl rfl (by decide) (by decide) hk1 hFc hP1 hD1
      generalize H1 = H at hP hS ⊢
      have hP : va_P (dC, dI) vwCl [(h0, .inr (3, [.int v0, .long v1, .long v2, .long v3, .long v4, .long v5, .long w0_6, .long w0_7, .long w0_8, .long w0_9, .long v10, .long v11, .long v12, .int v13, .ref h1])), (h1, .inl (cI, 6600, .inl vR))] H := hP
      have hD : va_D A [(h0, .inr (3, [.int v0, .long v1, .long v2, .long v3, .long v4, .long v5, .long w0_6, .long w0_7, .long w0_8, .long w0_9, .long v10, .long v11, .long v12, .int v13, .ref h1])), (h1, .inl (cI, 6600, .inl vR))] := hD
      refine W.widen (k := 0) (n := 0) (Nat.le_refl _) (Nat.le_refl _) ?_
      refine lz_zne (tgt := 66) hx hb dX3_ringSize_45 (by decide) (fun c_5 => ?_) (fun c_5 => ?_)
      · have hr := (if_neg c_5).symm.trans hr
        refine lv_iload_n hx hb dX3_ringSize_66 rfl (lv_at hl 1 rfl) ?_
        have ho := Option.some.inj hr
        subst ho
        exact W.iret (v := u1) hx hb hrt (fun t ht hW => ⟨⟨u1, (), rfl, rfl, by rw [ht]; exact hP, va_K.moved hW.alike hK, hD⟩, hS.F ht⟩) hS.2.2 dX3_ringSize_67
      · have hr := (if_pos c_5).symm.trans hr
        refine lv_aload_n hx hb dX3_ringSize_48 rfl (lv_at hl 0 rfl) ?_
        refine lv_aload_n hx hb dX3_ringSize_49 rfl (lv_at hl 0 rfl) ?_
        refine va_get (D := (dC, dI)) (ci := 3) (v := .long v4) (C := RX3) (T := TX3) (N := 15) hx hb hts in_X3_ringSize_X3 hown hK hP 0 rfl rfl 4 (by decide) (hts (.fieldLink RX3 18 "FormRingModel" "d" "J") (by decide +kernel)) (fun _ h9 => h9) rfl dX3_ringSize_50 ?_
        refine lv_aload_n hx hb dX3_ringSize_53 rfl (lv_at hl 0 rfl) ?_
        refine va_get (D := (dC, dI)) (ci := 3) (v := .long v5) (C := RX3) (T := TX3) (N := 15) hx hb hts in_X3_ringSize_X3 hown hK hP 0 rfl rfl 5 (by decide) (hts (.fieldLink RX3 23 "FormRingModel" "w" "J") (by decide +kernel)) (fun _ h9 => h9) rfl dX3_ringSize_54 ?_
        cases e_6 : f_X3_step n w0_7 w0_8 v4 v5 with
        | none => rw [e_6, Option.bind_none] at hr; cases hr
        | some r_7 =>
          rw [e_6, Option.bind_some] at hr
          have hPc := hP.sub (ws' := [(h0, .inr (3, [.int v0, .long v1, .long v2, .long v3, .long v4, .long v5, .long w0_6, .long w0_7, .long w0_8, .long w0_9, .long v10, .long v11, .long v12, .int v13, .ref h1])), (h1, .inl (cI, 6600, .inl vR))]) [0, 1] rfl
          have hDc := hD.sub (ws' := [(h0, .inr (3, [.int v0, .long v1, .long v2, .long v3, .long v4, .long v5, .long w0_6, .long w0_7, .long w0_8, .long w0_9, .long v10, .long v11, .long v12, .int v13, .ref h1])), (h1, .inl (cI, 6600, .inl vR))]) [0, 1] (by decide) rfl
          have hKc := hK.sub (tys' := [(cI, .int)]) [0] rfl
          have hFc := va_free (wc := [(h0, .inr (3, [.int v0, .long v1, .long v2, .long v3, .long v4, .long v5, .long w0_6, .long w0_7, .long w0_8, .long w0_9, .long v10, .long v11, .long v12, .int v13, .ref h1])), (h1, .inl (cI, 6600, .inl vR))]) hD hS hA [0, 1] rfl
          refine va_callv (va_runV (As := [.long v4, .long v5]) (rest := []) ⟨hx, hb, hml, hown, hts⟩ (c_X3_step l dC dI H.size h0 h1 cI v0 v1 v2 v3 v4 v5 w0_6 w0_7 w0_8 w0_9 v10 v11 v12 v13 vR v4 v5 n _ e_6) (cwV 2 hts gX3_ringSize_X3_step rfl rfl rfl (by decide +kernel) ⟨Nat.le_of_ble_eq_true rfl, Nat.le_of_ble_eq_true rfl⟩) ⟨fun a U g mk q => by obtain ⟨q0, q1, qP, qK, qD⟩ := q; exact ⟨q0, q1, qP, va_K.moved (u := U) (U := U.calling g mk a) (Vm.Alike.refl U.vm) qK, qD⟩, va_recv hKc hPc (ci := 3) (q0 := 0) rfl rfl, fun U hU hW => ⟨rfl, by rw [hU], by rw [hU]; exact hPc, va_K.moved hW.alike hKc, hDc.weaken (fun _ _ _ _ => trivial)⟩⟩ rfl rfl hl.1 rfl (lv_room (Nat.le_of_ble_eq_true rfl)) dX3_ringSize_57 ⟨Nat.zero_le _, Nat.zero_le _⟩) hS (fun q _ h => hFc q h) hFc (fun _ t H1 locs ht hvm hw hB hz1 hk1 hS => ?_)
          obtain ⟨hP1, hK1, hD1⟩ := hB
          rw [ht] at hP1
          obtain ⟨hP, hD⟩ := va_join (wr := []) (w1 := [(h0, .inr (3, [.int v0, .long v1, .long v2, .long v3, .long v4, .long v5, .long r_7.1, .long r_7.2.1, .long r_7.2.2.1, .long r_7.2.2.2, .long v10, .long v11, .long v12, .int v13, .ref h1])), (h1, .inl (cI, 6600, .inl vR))]) hP hD [0, 1] [] rfl rfl (by decide) (by decide) hk1 hFc hP1 hD1
          generalize H1 = H at hP hS ⊢
          have hP : va_P (dC, dI) vwCl [(h0, .inr (3, [.int v0, .long v1, .long v2, .long v3, .long v4, .long v5, .long r_7.1, .long r_7.2.1, .long r_7.2.2.1, .long r_7.2.2.2, .long v10, .long v11, .long v12, .int v13, .ref h1])), (h1, .inl (cI, 6600, .inl vR))] H := hP
          have hD : va_D A [(h0, .inr (3, [.int v0, .long v1, .long v2, .long v3, .long v4, .long v5, .long r_7.1, .long r_7.2.1, .long r_7.2.2.1, .long r_7.2.2.2, .long v10, .long v11, .long v12, .int v13, .ref h1])), (h1, .inl (cI, 6600, .inl vR))] := hD
          refine W.widen (k := 0) (n := 0) (Nat.le_refl _) (Nat.le_refl _) ?_
          refine lv_iinc (v := u1 + 1) (lv' := [(1, .int (u1 + 1)), (0, .ref h0)]) hx hb dX3_ringSize_60 hl (k := 1) rfl rfl (by decide) rfl (fun ls hl => ?_)
          refine lv_goto (tgt := 41) hx hb dX3_ringSize_63 (by decide) ?_
          exact ih (u1 + 1) r_7.1 r_7.2.1 r_7.2.2.1 r_7.2.2.2 hr _ _ _ hP hD hS (lv_sub hl [1, 0] rfl)
def f_X3_ringSize (n : Nat) (v4 : Int64) (v5 : Int64) (v6 : Int64) (v7 : Int64) (v8 : Int64) (v9 : Int64) (v10 : Int64) (v11 : Int64) (v12 : Int64) : Option (Int32 × Int64 × Int64 × Int64 × Int64) := if v4 < 0 then (some (1, v6, v7, v8, v9)) else ((f_X3_begin n v10 v11 v12).bind (fun r_3 => (f_X3_step n r_3.2.1 r_3.2.2 v4 v5).bind (fun r_6 => f_X3_ringSize_41 n n v4 v5 v10 v11 1 r_6.1 r_6.2.1 r_6.2.2.1 r_6.2.2.2)))
set_option maxHeartbeats 4000000 in
set_option maxRecDepth 100000 in
theorem c_X3_ringSize (l : Launch) (dC : Nat → ClassId) (dI : Nat → Nat → Nat) (sz : Nat) (h0 : Nat) (h1 : Nat) (cI : ClassId) (v0 : Int32) (v1 : Int64) (v2 : Int64) (v3 : Int64) (v4 : Int64) (v5 : Int64) (v6 : Int64) (v7 : Int64) (v8 : Int64) (v9 : Int64) (v10 : Int64) (v11 : Int64) (v12 : Int64) (v13 : Int32) (vR : Nat → Int32)   (n : Nat) (out : Int32 × Int64 × Int64 × Int64 × Int64) (hr : f_X3_ringSize n v4 v5 v6 v7 v8 v9 v10 v11 v12 = some out) : Met l yX3_ringSize wsX3_ringSize ({ frames := 2, cells := 0, slots := 0, locals := 55 }) (va_Pc [.ref h0] (zP dC dI [(cI, .int)] [(h0, .inr (3, [.int v0, .long v1, .long v2, .long v3, .long v4, .long v5, .long v6, .long v7, .long v8, .long v9, .long v10, .long v11, .long v12, .int v13, .ref h1])), (h1, .inl (cI, 6600, .inl vR))] sz)) (va_Qi (fun r (_ : Unit) => r = out.1) (fun (_ : Unit) t => zB dC dI [(cI, .int)] (va_A [(h0, .inr (3, [.int v0, .long v1, .long v2, .long v3, .long v4, .long v5, .long v6, .long v7, .long v8, .long v9, .long v10, .long v11, .long v12, .int v13, .ref h1])), (h1, .inl (cI, 6600, .inl vR))] sz) [(h0, .inr (3, [.int v0, .long v1, .long v2, .long v3, .long v4, .long v5, .long out.2.1, .long out.2.2.1, .long out.2.2.2.1, .long out.2.2.2.2, .long v10, .long v11, .long v12, .int v13, .ref h1])), (h1, .inl (cI, 6600, .inl vR))] t) (va_A [(h0, .inr (3, [.int v0, .long v1, .long v2, .long v3, .long v4, .long v5, .long v6, .long v7, .long v8, .long v9, .long v10, .long v11, .long v12, .int v13, .ref h1])), (h1, .inl (cI, 6600, .inl vR))] sz)) 0 0 (va_A [(h0, .inr (3, [.int v0, .long v1, .long v2, .long v3, .long v4, .long v5, .long v6, .long v7, .long v8, .long v9, .long v10, .long v11, .long v12, .int v13, .ref h1])), (h1, .inl (cI, 6600, .inl vR))] sz) := by
  refine Met.ofW (cc := cX3_ringSize) (maxL := 2) (ret := (some .int)) (by decide) rfl ?_
  intro p e s m args below meth c s₁ B hml hv
  obtain ⟨rfl, hsz, hP, hK, hD0⟩ := hv
  have hx := B.exec
  have hb := B.bytes
  have hrt := B.returns
  have hts := atoms_spec (ws := wsX3_ringSize) B.pre
  have hown : s.vm.findClass RX3 = some m.cls := findClass_of_methodNamed B.named
  have hlocks := B.notSynchronized
  subst hsz
  have hD := hD0.self (sz := s.heap.size)
  generalize hAe : va_A [(h0, .inr (3, [.int v0, .long v1, .long v2, .long v3, .long v4, .long v5, .long v6, .long v7, .long v8, .long v9, .long v10, .long v11, .long v12, .int v13, .ref h1])), (h1, .inl (cI, 6600, .inl vR))] s.heap.size = A at hD ⊢
  have hA : ∀ q : Nat, s.heap.size ≤ q → A q := fun q h => by rw [← hAe]; exact Or.inr h
  have hS : va_S A s.heap s.heap [] := va_S.rf
  have hP : va_P (dC, dI) vwCl [(h0, .inr (3, [.int v0, .long v1, .long v2, .long v3, .long v4, .long v5, .long v6, .long v7, .long v8, .long v9, .long v10, .long v11, .long v12, .int v13, .ref h1])), (h1, .inl (cI, 6600, .inl vR))] s.heap := hP
  have hl := lv_entry ([.ref h0]) (n := 2) (Nat.le_of_ble_eq_true rfl)
  rw [lg_entry_eq]
  generalize (lg_sl ([.ref h0]) ++ List.replicate (2 - (lg_sl ([.ref h0])).length) Slot.unset).toArray = ls at hl ⊢
  have hl : lv_has ls 2 [(0, .ref h0)] := hl
  unfold f_X3_ringSize at hr
  refine lv_aload_n hx hb dX3_ringSize_0 rfl (lv_at hl 0 rfl) ?_
  refine va_get (D := (dC, dI)) (ci := 3) (v := .long v4) (C := RX3) (T := TX3) (N := 15) hx hb hts in_X3_ringSize_X3 hown hK hP 0 rfl rfl 4 (by decide) (hts (.fieldLink RX3 18 "FormRingModel" "d" "J") (by decide +kernel)) (fun _ h9 => h9) rfl dX3_ringSize_1 ?_
  refine lv_lconst (v := 0) hx hb dX3_ringSize_4 (by decide) ?_
  refine lz_lge (tgt := 11) hx hb dX3_ringSize_5 dX3_ringSize_6 (by decide) (fun c_1 => ?_) (fun c_1 => ?_)
  · have hr := (if_neg c_1).symm.trans hr
    refine lv_aload_n hx hb dX3_ringSize_11 rfl (lv_at hl 0 rfl) ?_
    refine lv_aload_n hx hb dX3_ringSize_12 rfl (lv_at hl 0 rfl) ?_
    refine va_get (D := (dC, dI)) (ci := 3) (v := .long v10) (C := RX3) (T := TX3) (N := 15) hx hb hts in_X3_ringSize_X3 hown hK hP 0 rfl rfl 10 (by decide) (hts (.fieldLink RX3 26 "FormRingModel" "nameA" "J") (by decide +kernel)) (fun _ h9 => h9) rfl dX3_ringSize_13 ?_
    refine lv_aload_n hx hb dX3_ringSize_16 rfl (lv_at hl 0 rfl) ?_
    refine va_get (D := (dC, dI)) (ci := 3) (v := .long v11) (C := RX3) (T := TX3) (N := 15) hx hb hts in_X3_ringSize_X3 hown hK hP 0 rfl rfl 11 (by decide) (hts (.fieldLink RX3 94 "FormRingModel" "nameB" "J") (by decide +kernel)) (fun _ h9 => h9) rfl dX3_ringSize_17 ?_
    refine lv_aload_n hx hb dX3_ringSize_20 rfl (lv_at hl 0 rfl) ?_
    refine va_get (D := (dC, dI)) (ci := 3) (v := .long v12) (C := RX3) (T := TX3) (N := 15) hx hb hts in_X3_ringSize_X3 hown hK hP 0 rfl rfl 12 (by decide) (hts (.fieldLink RX3 29 "FormRingModel" "nameC" "J") (by decide +kernel)) (fun _ h9 => h9) rfl dX3_ringSize_21 ?_
    cases e_2 : f_X3_begin n v10 v11 v12 with
    | none => rw [e_2, Option.bind_none] at hr; cases hr
    | some r_3 =>
      rw [e_2, Option.bind_some] at hr
      have hPc := hP.sub (ws' := [(h0, .inr (3, [.int v0, .long v1, .long v2, .long v3, .long v4, .long v5, .long v6, .long v7, .long v8, .long v9, .long v10, .long v11, .long v12, .int v13, .ref h1])), (h1, .inl (cI, 6600, .inl vR))]) [0, 1] rfl
      have hDc := hD.sub (ws' := [(h0, .inr (3, [.int v0, .long v1, .long v2, .long v3, .long v4, .long v5, .long v6, .long v7, .long v8, .long v9, .long v10, .long v11, .long v12, .int v13, .ref h1])), (h1, .inl (cI, 6600, .inl vR))]) [0, 1] (by decide) rfl
      have hKc := hK.sub (tys' := [(cI, .int)]) [0] rfl
      have hFc := va_free (wc := [(h0, .inr (3, [.int v0, .long v1, .long v2, .long v3, .long v4, .long v5, .long v6, .long v7, .long v8, .long v9, .long v10, .long v11, .long v12, .int v13, .ref h1])), (h1, .inl (cI, 6600, .inl vR))]) hD hS hA [0, 1] rfl
      refine va_callv (va_runV (As := [.long v10, .long v11, .long v12]) (rest := []) ⟨hx, hb, hml, hown, hts⟩ (c_X3_begin l dC dI s.heap.size h0 h1 cI v0 v1 v2 v3 v4 v5 v6 v7 v8 v9 v10 v11 v12 v13 vR v10 v11 v12 n _ e_2) (cwV 3 hts gX3_ringSize_X3_begin rfl rfl rfl (by decide +kernel) ⟨Nat.le_of_ble_eq_true rfl, Nat.le_of_ble_eq_true rfl⟩) ⟨fun a U g mk q => by obtain ⟨q0, q1, qP, qK, qD⟩ := q; exact ⟨q0, q1, qP, va_K.moved (u := U) (U := U.calling g mk a) (Vm.Alike.refl U.vm) qK, qD⟩, va_recv hKc hPc (ci := 3) (q0 := 0) rfl rfl, fun U hU hW => ⟨rfl, by rw [hU], by rw [hU]; exact hPc, va_K.moved hW.alike hKc, hDc.weaken (fun _ _ _ _ => trivial)⟩⟩ rfl rfl hl.1 rfl (lv_room (Nat.le_of_ble_eq_true rfl)) dX3_ringSize_24 ⟨Nat.zero_le _, Nat.zero_le _⟩) hS (fun q _ h => hFc q h) hFc (fun _ t H1 locs ht hvm hw hB hz1 hk1 hS => ?_)
      obtain ⟨hP1, hK1, hD1⟩ := hB
      rw [ht] at hP1
      obtain ⟨hP, hD⟩ := va_join (wr := []) (w1 := [(h0, .inr (3, [.int v0, .long v1, .long v2, .long v3, .long v4, .long v5, .long r_3.1, .long r_3.2.1, .long r_3.2.2, .long v9, .long v10, .long v11, .long v12, .int v13, .ref h1])), (h1, .inl (cI, 6600, .inl vR))]) hP hD [0, 1] [] rfl rfl (by decide) (by decide) hk1 hFc hP1 hD1
      generalize H1 = H at hP hS ⊢
      have hP : va_P (dC, dI) vwCl [(h0, .inr (3, [.int v0, .long v1, .long v2, .long v3, .long v4, .long v5, .long r_3.1, .long r_3.2.1, .long r_3.2.2, .long v9, .long v10, .long v11, .long v12, .int v13, .ref h1])), (h1, .inl (cI, 6600, .inl vR))] H := hP
      have hD : va_D A [(h0, .inr (3, [.int v0, .long v1, .long v2, .long v3, .long v4, .long v5, .long r_3.1, .long r_3.2.1, .long r_3.2.2, .long v9, .long v10, .long v11, .long v12, .int v13, .ref h1])), (h1, .inl (cI, 6600, .inl vR))] := hD
      refine W.widen (k := 0) (n := 0) (Nat.le_refl _) (Nat.le_refl _) ?_
      refine lv_aload_n hx hb dX3_ringSize_27 rfl (lv_at hl 0 rfl) ?_
      refine lv_aload_n hx hb dX3_ringSize_28 rfl (lv_at hl 0 rfl) ?_
      refine va_get (D := (dC, dI)) (ci := 3) (v := .long v4) (C := RX3) (T := TX3) (N := 15) hx hb hts in_X3_ringSize_X3 hown hK hP 0 rfl rfl 4 (by decide) (hts (.fieldLink RX3 18 "FormRingModel" "d" "J") (by decide +kernel)) (fun _ h9 => h9) rfl dX3_ringSize_29 ?_
      refine lv_aload_n hx hb dX3_ringSize_32 rfl (lv_at hl 0 rfl) ?_
      refine va_get (D := (dC, dI)) (ci := 3) (v := .long v5) (C := RX3) (T := TX3) (N := 15) hx hb hts in_X3_ringSize_X3 hown hK hP 0 rfl rfl 5 (by decide) (hts (.fieldLink RX3 23 "FormRingModel" "w" "J") (by decide +kernel)) (fun _ h9 => h9) rfl dX3_ringSize_33 ?_
      cases e_5 : f_X3_step n r_3.2.1 r_3.2.2 v4 v5 with
      | none => rw [e_5, Option.bind_none] at hr; cases hr
      | some r_6 =>
        rw [e_5, Option.bind_some] at hr
        have hPc := hP.sub (ws' := [(h0, .inr (3, [.int v0, .long v1, .long v2, .long v3, .long v4, .long v5, .long r_3.1, .long r_3.2.1, .long r_3.2.2, .long v9, .long v10, .long v11, .long v12, .int v13, .ref h1])), (h1, .inl (cI, 6600, .inl vR))]) [0, 1] rfl
        have hDc := hD.sub (ws' := [(h0, .inr (3, [.int v0, .long v1, .long v2, .long v3, .long v4, .long v5, .long r_3.1, .long r_3.2.1, .long r_3.2.2, .long v9, .long v10, .long v11, .long v12, .int v13, .ref h1])), (h1, .inl (cI, 6600, .inl vR))]) [0, 1] (by decide) rfl
        have hKc := hK.sub (tys' := [(cI, .int)]) [0] rfl
        have hFc := va_free (wc := [(h0, .inr (3, [.int v0, .long v1, .long v2, .long v3, .long v4, .long v5, .long r_3.1, .long r_3.2.1, .long r_3.2.2, .long v9, .long v10, .long v11, .long v12, .int v13, .ref h1])), (h1, .inl (cI, 6600, .inl vR))]) hD hS hA [0, 1] rfl
        refine va_callv (va_runV (As := [.long v4, .long v5]) (rest := []) ⟨hx, hb, hml, hown, hts⟩ (c_X3_step l dC dI H.size h0 h1 cI v0 v1 v2 v3 v4 v5 r_3.1 r_3.2.1 r_3.2.2 v9 v10 v11 v12 v13 vR v4 v5 n _ e_5) (cwV 2 hts gX3_ringSize_X3_step rfl rfl rfl (by decide +kernel) ⟨Nat.le_of_ble_eq_true rfl, Nat.le_of_ble_eq_true rfl⟩) ⟨fun a U g mk q => by obtain ⟨q0, q1, qP, qK, qD⟩ := q; exact ⟨q0, q1, qP, va_K.moved (u := U) (U := U.calling g mk a) (Vm.Alike.refl U.vm) qK, qD⟩, va_recv hKc hPc (ci := 3) (q0 := 0) rfl rfl, fun U hU hW => ⟨rfl, by rw [hU], by rw [hU]; exact hPc, va_K.moved hW.alike hKc, hDc.weaken (fun _ _ _ _ => trivial)⟩⟩ rfl rfl hl.1 rfl (lv_room (Nat.le_of_ble_eq_true rfl)) dX3_ringSize_36 ⟨Nat.zero_le _, Nat.zero_le _⟩) hS (fun q _ h => hFc q h) hFc (fun _ t H1 locs ht hvm hw hB hz1 hk1 hS => ?_)
        obtain ⟨hP1, hK1, hD1⟩ := hB
        rw [ht] at hP1
        obtain ⟨hP, hD⟩ := va_join (wr := []) (w1 := [(h0, .inr (3, [.int v0, .long v1, .long v2, .long v3, .long v4, .long v5, .long r_6.1, .long r_6.2.1, .long r_6.2.2.1, .long r_6.2.2.2, .long v10, .long v11, .long v12, .int v13, .ref h1])), (h1, .inl (cI, 6600, .inl vR))]) hP hD [0, 1] [] rfl rfl (by decide) (by decide) hk1 hFc hP1 hD1
        generalize H1 = H at hP hS ⊢
        have hP : va_P (dC, dI) vwCl [(h0, .inr (3, [.int v0, .long v1, .long v2, .long v3, .long v4, .long v5, .long r_6.1, .long r_6.2.1, .long r_6.2.2.1, .long r_6.2.2.2, .long v10, .long v11, .long v12, .int v13, .ref h1])), (h1, .inl (cI, 6600, .inl vR))] H := hP
        have hD : va_D A [(h0, .inr (3, [.int v0, .long v1, .long v2, .long v3, .long v4, .long v5, .long r_6.1, .long r_6.2.1, .long r_6.2.2.1, .long r_6.2.2.2, .long v10, .long v11, .long v12, .int v13, .ref h1])), (h1, .inl (cI, 6600, .inl vR))] := hD
        refine W.widen (k := 0) (n := 0) (Nat.le_refl _) (Nat.le_refl _) ?_
        refine lv_iconst (v := 1) hx hb dX3_ringSize_39 (by decide) ?_
        refine lv_istore_n (lv' := [(1, .int 1), (0, .ref h0)]) hx hb dX3_ringSize_40 rfl hl (by decide) rfl (fun ls hl => ?_)
        exact k_X3_ringSize_41 hx hb hrt hml hown hlocks hts hA hK n out n 1 r_6.1 r_6.2.1 r_6.2.2.1 r_6.2.2.2 hr _ _ _ hP hD hS (lv_sub hl [1, 0] rfl)
  · have hr := (if_pos c_1).symm.trans hr
    refine lv_iconst (v := 1) hx hb dX3_ringSize_9 (by decide) ?_
    have ho := Option.some.inj hr
    subst ho
    exact W.iret (v := 1) hx hb hrt (fun t ht hW => ⟨⟨1, (), rfl, rfl, by rw [ht]; exact hP, va_K.moved hW.alike hK, hD⟩, hS.F ht⟩) hS.2.2 dX3_ringSize_10

theorem in_X3_stepsToName_X3 : ∀ w ∈ u_ws RX3 TX3 15, w ∈ wsX3_stepsToName := by decide +kernel
def f_X3_stepsToName_5 (n : Nat) : Nat → (v4 : Int64) → (v5 : Int64) → (v10 : Int64) → (v11 : Int64) → Int32 → Int64 → Int64 → Int64 → Int64 → Option (Int32 × Int64 × Int64 × Int64 × Int64)
  | 0, _, _, _, _, _, _, _, _, _ => none
  | k + 1, v4, v5, v10, v11, u1, w0_6, w0_7, w0_8, w0_9 => (f_X3_isName n w0_6 w0_7 v10 v11).bind (fun r_2 => if r_2 = 0 then ((f_X3_step n w0_7 w0_8 v4 v5).bind (fun r_7 => f_X3_stepsToName_5 n k v4 v5 v10 v11 (u1 + 1) r_7.1 r_7.2.1 r_7.2.2.1 r_7.2.2.2)) else (some (u1, w0_6, w0_7, w0_8, w0_9)))
set_option maxHeartbeats 4000000 in
set_option maxRecDepth 100000 in
theorem k_X3_stepsToName_5 {p : Program} {l : Launch} {e : Env} {s : State} {m : MethodId} {args : Array Value} {below : List Frame} {meth : Method} {c : Code} {dC : Nat → ClassId} {dI : Nat → Nat → Nat} {A : Nat → Prop} {h0 : Nat} {h1 : Nat} {cI : ClassId} {v0 : Int32} {v1 : Int64} {v2 : Int64} {v3 : Int64} {v4 : Int64} {v5 : Int64} {v10 : Int64} {v11 : Int64} {v12 : Int64} {v13 : Int32} {vR : Nat → Int32}  (hx : p.tables.exec = Jvm.exec) (hb : c.code = cX3_stepsToName) (hrt : meth.sig.returnType = (some .int)) (hml : c.maxLocals = 2) (hown : s.vm.findClass RX3 = some m.cls) (hlocks : meth.locks = false) (hts : ∀ w ∈ wsX3_stepsToName, w.before args s = true) (hA : ∀ q : Nat, s.heap.size ≤ q → A q) (hK : va_K (dC, dI) vwCl [(cI, .int)] s)  (n : Nat) (out : Int32 × Int64 × Int64 × Int64 × Int64) :
    ∀ (k : Nat) (u1 : Int32) (w0_6 : Int64) (w0_7 : Int64) (w0_8 : Int64) (w0_9 : Int64), f_X3_stepsToName_5 n k v4 v5 v10 v11 u1 w0_6 w0_7 w0_8 w0_9 = some out → ∀ (H : Heap) (locs : List Loc) (ls : Array Slot), va_P (dC, dI) vwCl [(h0, .inr (3, [.int v0, .long v1, .long v2, .long v3, .long v4, .long v5, .long w0_6, .long w0_7, .long w0_8, .long w0_9, .long v10, .long v11, .long v12, .int v13, .ref h1])), (h1, .inl (cI, 6600, .inl vR))] H → va_D A [(h0, .inr (3, [.int v0, .long v1, .long v2, .long v3, .long v4, .long v5, .long w0_6, .long w0_7, .long w0_8, .long w0_9, .long v10, .long v11, .long v12, .int v13, .ref h1])), (h1, .inl (cI, 6600, .inl vR))] → va_S A s.heap H locs → lv_has ls 2 [(0, .ref h0), (1, .int u1)] → W p l e ({ frames := 3, cells := 0, slots := 0, locals := 76 }) s m args below meth c H locs 0 0 (MQ below (va_Qi (fun r (_ : Unit) => r = out.1) (fun (_ : Unit) t => zB dC dI [(cI, .int)] A [(h0, .inr (3, [.int v0, .long v1, .long v2, .long v3, .long v4, .long v5, .long out.2.1, .long out.2.2.1, .long out.2.2.2.1, .long out.2.2.2.2, .long v10, .long v11, .long v12, .int v13, .ref h1])), (h1, .inl (cI, 6600, .inl vR))] t) A) args s 0 0 A) (F0 m 5 ls []) := by
  intro k
  induction k with
  | zero => intro u1 w0_6 w0_7 w0_8 w0_9 hr; rw [f_X3_stepsToName_5] at hr; cases hr
  | succ k ih =>
    intro u1 w0_6 w0_7 w0_8 w0_9 hr H locs ls hP hD hS hl
    rw [f_X3_stepsToName_5] at hr
    refine lv_aload_n hx hb dX3_stepsToName_5 rfl (lv_at hl 0 rfl) ?_
    cases e_1 : f_X3_isName n w0_6 w0_7 v10 v11 with
    | none => rw [e_1, Option.bind_none] at hr; cases hr
    | some r_2 =>
      rw [e_1, Option.bind_some] at hr
      have hPc := hP.sub (ws' := [(h0, .inr (3, [.int v0, .long v1, .long v2, .long v3, .long v4, .long v5, .long w0_6, .long w0_7, .long w0_8, .long w0_9, .long v10, .long v11, .long v12, .int v13, .ref h1])), (h1, .inl (cI, 6600, .inl vR))]) [0, 1] rfl
      have hDc := hD.sub (ws' := [(h0, .inr (3, [.int v0, .long v1, .long v2, .long v3, .long v4, .long v5, .long w0_6, .long w0_7, .long w0_8, .long w0_9, .long v10, .long v11, .long v12, .int v13, .ref h1])), (h1, .inl (cI, 6600, .inl vR))]) [0, 1] (by decide) rfl
      have hKc := hK.sub (tys' := [(cI, .int)]) [0] rfl
      have hFc := va_free (wc := [(h0, .inr (3, [.int v0, .long v1, .long v2, .long v3, .long v4, .long v5, .long w0_6, .long w0_7, .long w0_8, .long w0_9, .long v10, .long v11, .long v12, .int v13, .ref h1])), (h1, .inl (cI, 6600, .inl vR))]) hD hS hA [0, 1] rfl
      refine va_calli (va_runV (As := []) (rest := []) ⟨hx, hb, hml, hown, hts⟩ (c_X3_isName l dC dI H.size h0 h1 cI v0 v1 v2 v3 v4 v5 w0_6 w0_7 w0_8 w0_9 v10 v11 v12 v13 vR  n _ e_1) (cwV 0 hts gX3_stepsToName_X3_isName rfl rfl rfl (by decide +kernel) ⟨Nat.le_of_ble_eq_true rfl, Nat.le_of_ble_eq_true rfl⟩) ⟨fun a U g mk q => by obtain ⟨q0, q1, qP, qK, qD⟩ := q; exact ⟨q0, q1, qP, va_K.moved (u := U) (U := U.calling g mk a) (Vm.Alike.refl U.vm) qK, qD⟩, va_recv hKc hPc (ci := 3) (q0 := 0) rfl rfl, fun U hU hW => ⟨rfl, by rw [hU], by rw [hU]; exact hPc, va_K.moved hW.alike hKc, hDc.weaken (fun _ _ _ _ => trivial)⟩⟩ rfl rfl hl.1 rfl (lv_room (Nat.le_of_ble_eq_true rfl)) dX3_stepsToName_6 ⟨Nat.zero_le _, Nat.zero_le _⟩) hS (fun q _ h => hFc q h) hFc (fun x_3 _ t H1 locs ht hvm hw hB hz1 hk1 hS => ?_)
      obtain ⟨hw, z_4⟩ := hw
      have hw := hw.symm
      subst hw
      obtain ⟨hP1, hK1, hD1⟩ := hB
      rw [ht] at hP1
      obtain ⟨hP, hD⟩ := va_join (wr := []) (w1 := [(h0, .inr (3, [.int v0, .long v1, .long v2, .long v3, .long v4, .long v5, .long w0_6, .long w0_7, .long w0_8, .long w0_9, .long v10, .long v11, .long v12, .int v13, .ref h1])), (h1, .inl (cI, 6600, .inl vR))]) hP hD [0, 1] [] rfl rfl (by decide) (by decide) hk1 hFc hP1 hD1
      generalize H1 = H at hP hS ⊢
      have hP : va_P (dC, dI) vwCl [(h0, .inr (3, [.int v0, .long v1, .long v2, .long v3, .long v4, .long v5, .long w0_6, .long w0_7, .long w0_8, .long w0_9, .long v10, .long v11, .long v12, .int v13, .ref h1])), (h1, .inl (cI, 6600, .inl vR))] H := hP
      have hD : va_D A [(h0, .inr (3, [.int v0, .long v1, .long v2, .long v3, .long v4, .long v5, .long w0_6, .long w0_7, .long w0_8, .long w0_9, .long v10, .long v11, .long v12, .int v13, .ref h1])), (h1, .inl (cI, 6600, .inl vR))] := hD
      refine W.widen (k := 0) (n := 0) (Nat.le_refl _) (Nat.le_refl _) ?_
      refine lz_zne (tgt := 30) hx hb dX3_stepsToName_9 (by decide) (fun c_5 => ?_) (fun c_5 => ?_)
      · have hr := (if_neg c_5).symm.trans hr
        refine lv_iload_n hx hb dX3_stepsToName_30 rfl (lv_at hl 1 rfl) ?_
        have ho := Option.some.inj hr
        subst ho
        exact W.iret (v := u1) hx hb hrt (fun t ht hW => ⟨⟨u1, (), rfl, rfl, by rw [ht]; exact hP, va_K.moved hW.alike hK, hD⟩, hS.F ht⟩) hS.2.2 dX3_stepsToName_31
      · have hr := (if_pos c_5).symm.trans hr
        refine lv_aload_n hx hb dX3_stepsToName_12 rfl (lv_at hl 0 rfl) ?_
        refine lv_aload_n hx hb dX3_stepsToName_13 rfl (lv_at hl 0 rfl) ?_
        refine va_get (D := (dC, dI)) (ci := 3) (v := .long v4) (C := RX3) (T := TX3) (N := 15) hx hb hts in_X3_stepsToName_X3 hown hK hP 0 rfl rfl 4 (by decide) (hts (.fieldLink RX3 18 "FormRingModel" "d" "J") (by decide +kernel)) (fun _ h9 => h9) rfl dX3_stepsToName_14 ?_
        refine lv_aload_n hx hb dX3_stepsToName_17 rfl (lv_at hl 0 rfl) ?_
        refine va_get (D := (dC, dI)) (ci := 3) (v := .long v5) (C := RX3) (T := TX3) (N := 15) hx hb hts in_X3_stepsToName_X3 hown hK hP 0 rfl rfl 5 (by decide) (hts (.fieldLink RX3 23 "FormRingModel" "w" "J") (by decide +kernel)) (fun _ h9 => h9) rfl dX3_stepsToName_18 ?_
        cases e_6 : f_X3_step n w0_7 w0_8 v4 v5 with
        | none => rw [e_6, Option.bind_none] at hr; cases hr
        | some r_7 =>
          rw [e_6, Option.bind_some] at hr
          have hPc := hP.sub (ws' := [(h0, .inr (3, [.int v0, .long v1, .long v2, .long v3, .long v4, .long v5, .long w0_6, .long w0_7, .long w0_8, .long w0_9, .long v10, .long v11, .long v12, .int v13, .ref h1])), (h1, .inl (cI, 6600, .inl vR))]) [0, 1] rfl
          have hDc := hD.sub (ws' := [(h0, .inr (3, [.int v0, .long v1, .long v2, .long v3, .long v4, .long v5, .long w0_6, .long w0_7, .long w0_8, .long w0_9, .long v10, .long v11, .long v12, .int v13, .ref h1])), (h1, .inl (cI, 6600, .inl vR))]) [0, 1] (by decide) rfl
          have hKc := hK.sub (tys' := [(cI, .int)]) [0] rfl
          have hFc := va_free (wc := [(h0, .inr (3, [.int v0, .long v1, .long v2, .long v3, .long v4, .long v5, .long w0_6, .long w0_7, .long w0_8, .long w0_9, .long v10, .long v11, .long v12, .int v13, .ref h1])), (h1, .inl (cI, 6600, .inl vR))]) hD hS hA [0, 1] rfl
          refine va_callv (va_runV (As := [.long v4, .long v5]) (rest := []) ⟨hx, hb, hml, hown, hts⟩ (c_X3_step l dC dI H.size h0 h1 cI v0 v1 v2 v3 v4 v5 w0_6 w0_7 w0_8 w0_9 v10 v11 v12 v13 vR v4 v5 n _ e_6) (cwV 2 hts gX3_stepsToName_X3_step rfl rfl rfl (by decide +kernel) ⟨Nat.le_of_ble_eq_true rfl, Nat.le_of_ble_eq_true rfl⟩) ⟨fun a U g mk q => by obtain ⟨q0, q1, qP, qK, qD⟩ := q; exact ⟨q0, q1, qP, va_K.moved (u := U) (U := U.calling g mk a) (Vm.Alike.refl U.vm) qK, qD⟩, va_recv hKc hPc (ci := 3) (q0 := 0) rfl rfl, fun U hU hW => ⟨rfl, by rw [hU], by rw [hU]; exact hPc, va_K.moved hW.alike hKc, hDc.weaken (fun _ _ _ _ => trivial)⟩⟩ rfl rfl hl.1 rfl (lv_room (Nat.le_of_ble_eq_true rfl)) dX3_stepsToName_21 ⟨Nat.zero_le _, Nat.zero_le _⟩) hS (fun q _ h => hFc q h) hFc (fun _ t H1 locs ht hvm hw hB hz1 hk1 hS => ?_)
          obtain ⟨hP1, hK1, hD1⟩ := hB
          rw [ht] at hP1
          obtain ⟨hP, hD⟩ := va_join (wr := []) (w1 := [(h0, .inr (3, [.int v0, .long v1, .long v2, .long v3, .long v4, .long v5, .long r_7.1, .long r_7.2.1, .long r_7.2.2.1, .long r_7.2.2.2, .long v10, .long v11, .long v12, .int v13, .ref h1])), (h1, .inl (cI, 6600, .inl vR))]) hP hD [0, 1] [] rfl rfl (by decide) (by decide) hk1 hFc hP1 hD1
          generalize H1 = H at hP hS ⊢
          have hP : va_P (dC, dI) vwCl [(h0, .inr (3, [.int v0, .long v1, .long v2, .long v3, .long v4, .long v5, .long r_7.1, .long r_7.2.1, .long r_7.2.2.1, .long r_7.2.2.2, .long v10, .long v11, .long v12, .int v13, .ref h1])), (h1, .inl (cI, 6600, .inl vR))] H := hP
          have hD : va_D A [(h0, .inr (3, [.int v0, .long v1, .long v2, .long v3, .long v4, .long v5, .long r_7.1, .long r_7.2.1, .long r_7.2.2.1, .long r_7.2.2.2, .long v10, .long v11, .long v12, .int v13, .ref h1])), (h1, .inl (cI, 6600, .inl vR))] := hD
          refine W.widen (k := 0) (n := 0) (Nat.le_refl _) (Nat.le_refl _) ?_
          refine lv_iinc (v := u1 + 1) (lv' := [(1, .int (u1 + 1)), (0, .ref h0)]) hx hb dX3_stepsToName_24 hl (k := 1) rfl rfl (by decide) rfl (fun ls hl => ?_)
          refine lv_goto (tgt := 5) hx hb dX3_stepsToName_27 (by decide) ?_
          exact ih (u1 + 1) r_7.1 r_7.2.1 r_7.2.2.1 r_7.2.2.2 hr _ _ _ hP hD hS (lv_sub hl [1, 0] rfl)
def f_X3_stepsToName (n : Nat) (v1 : Int64) (v2 : Int64) (v3 : Int64) (v4 : Int64) (v5 : Int64) (v9 : Int64) (v10 : Int64) (v11 : Int64) : Option (Int32 × Int64 × Int64 × Int64 × Int64) := (f_X3_stepsToReduced n v1 v2 v3 v4 v5 v9).bind (fun r_2 => f_X3_stepsToName_5 n n v4 v5 v10 v11 r_2.1 r_2.2.1 r_2.2.2.1 r_2.2.2.2.1 r_2.2.2.2.2)
set_option maxHeartbeats 4000000 in
set_option maxRecDepth 100000 in
theorem c_X3_stepsToName (l : Launch) (dC : Nat → ClassId) (dI : Nat → Nat → Nat) (sz : Nat) (h0 : Nat) (h1 : Nat) (cI : ClassId) (v0 : Int32) (v1 : Int64) (v2 : Int64) (v3 : Int64) (v4 : Int64) (v5 : Int64) (v6 : Int64) (v7 : Int64) (v8 : Int64) (v9 : Int64) (v10 : Int64) (v11 : Int64) (v12 : Int64) (v13 : Int32) (vR : Nat → Int32)   (n : Nat) (out : Int32 × Int64 × Int64 × Int64 × Int64) (hr : f_X3_stepsToName n v1 v2 v3 v4 v5 v9 v10 v11 = some out) : Met l yX3_stepsToName wsX3_stepsToName ({ frames := 3, cells := 0, slots := 0, locals := 76 }) (va_Pc [.ref h0] (zP dC dI [(cI, .int)] [(h0, .inr (3, [.int v0, .long v1, .long v2, .long v3, .long v4, .long v5, .long v6, .long v7, .long v8, .long v9, .long v10, .long v11, .long v12, .int v13, .ref h1])), (h1, .inl (cI, 6600, .inl vR))] sz)) (va_Qi (fun r (_ : Unit) => r = out.1) (fun (_ : Unit) t => zB dC dI [(cI, .int)] (va_A [(h0, .inr (3, [.int v0, .long v1, .long v2, .long v3, .long v4, .long v5, .long v6, .long v7, .long v8, .long v9, .long v10, .long v11, .long v12, .int v13, .ref h1])), (h1, .inl (cI, 6600, .inl vR))] sz) [(h0, .inr (3, [.int v0, .long v1, .long v2, .long v3, .long v4, .long v5, .long out.2.1, .long out.2.2.1, .long out.2.2.2.1, .long out.2.2.2.2, .long v10, .long v11, .long v12, .int v13, .ref h1])), (h1, .inl (cI, 6600, .inl vR))] t) (va_A [(h0, .inr (3, [.int v0, .long v1, .long v2, .long v3, .long v4, .long v5, .long v6, .long v7, .long v8, .long v9, .long v10, .long v11, .long v12, .int v13, .ref h1])), (h1, .inl (cI, 6600, .inl vR))] sz)) 0 0 (va_A [(h0, .inr (3, [.int v0, .long v1, .long v2, .long v3, .long v4, .long v5, .long v6, .long v7, .long v8, .long v9, .long v10, .long v11, .long v12, .int v13, .ref h1])), (h1, .inl (cI, 6600, .inl vR))] sz) := by
  refine Met.ofW (cc := cX3_stepsToName) (maxL := 2) (ret := (some .int)) (by decide) rfl ?_
  intro p e s m args below meth c s₁ B hml hv
  obtain ⟨rfl, hsz, hP, hK, hD0⟩ := hv
  have hx := B.exec
  have hb := B.bytes
  have hrt := B.returns
  have hts := atoms_spec (ws := wsX3_stepsToName) B.pre
  have hown : s.vm.findClass RX3 = some m.cls := findClass_of_methodNamed B.named
  have hlocks := B.notSynchronized
  subst hsz
  have hD := hD0.self (sz := s.heap.size)
  generalize hAe : va_A [(h0, .inr (3, [.int v0, .long v1, .long v2, .long v3, .long v4, .long v5, .long v6, .long v7, .long v8, .long v9, .long v10, .long v11, .long v12, .int v13, .ref h1])), (h1, .inl (cI, 6600, .inl vR))] s.heap.size = A at hD ⊢
  have hA : ∀ q : Nat, s.heap.size ≤ q → A q := fun q h => by rw [← hAe]; exact Or.inr h
  have hS : va_S A s.heap s.heap [] := va_S.rf
  have hP : va_P (dC, dI) vwCl [(h0, .inr (3, [.int v0, .long v1, .long v2, .long v3, .long v4, .long v5, .long v6, .long v7, .long v8, .long v9, .long v10, .long v11, .long v12, .int v13, .ref h1])), (h1, .inl (cI, 6600, .inl vR))] s.heap := hP
  have hl := lv_entry ([.ref h0]) (n := 2) (Nat.le_of_ble_eq_true rfl)
  rw [lg_entry_eq]
  generalize (lg_sl ([.ref h0]) ++ List.replicate (2 - (lg_sl ([.ref h0])).length) Slot.unset).toArray = ls at hl ⊢
  have hl : lv_has ls 2 [(0, .ref h0)] := hl
  unfold f_X3_stepsToName at hr
  refine lv_aload_n hx hb dX3_stepsToName_0 rfl (lv_at hl 0 rfl) ?_
  cases e_1 : f_X3_stepsToReduced n v1 v2 v3 v4 v5 v9 with
  | none => rw [e_1, Option.bind_none] at hr; cases hr
  | some r_2 =>
    rw [e_1, Option.bind_some] at hr
    have hPc := hP.sub (ws' := [(h0, .inr (3, [.int v0, .long v1, .long v2, .long v3, .long v4, .long v5, .long v6, .long v7, .long v8, .long v9, .long v10, .long v11, .long v12, .int v13, .ref h1])), (h1, .inl (cI, 6600, .inl vR))]) [0, 1] rfl
    have hDc := hD.sub (ws' := [(h0, .inr (3, [.int v0, .long v1, .long v2, .long v3, .long v4, .long v5, .long v6, .long v7, .long v8, .long v9, .long v10, .long v11, .long v12, .int v13, .ref h1])), (h1, .inl (cI, 6600, .inl vR))]) [0, 1] (by decide) rfl
    have hKc := hK.sub (tys' := [(cI, .int)]) [0] rfl
    have hFc := va_free (wc := [(h0, .inr (3, [.int v0, .long v1, .long v2, .long v3, .long v4, .long v5, .long v6, .long v7, .long v8, .long v9, .long v10, .long v11, .long v12, .int v13, .ref h1])), (h1, .inl (cI, 6600, .inl vR))]) hD hS hA [0, 1] rfl
    refine va_calli (va_runV (As := []) (rest := []) ⟨hx, hb, hml, hown, hts⟩ (c_X3_stepsToReduced l dC dI s.heap.size h0 h1 cI v0 v1 v2 v3 v4 v5 v6 v7 v8 v9 v10 v11 v12 v13 vR  n _ e_1) (cwV 0 hts gX3_stepsToName_X3_stepsToReduced rfl rfl rfl (by decide +kernel) ⟨Nat.le_of_ble_eq_true rfl, Nat.le_of_ble_eq_true rfl⟩) ⟨fun a U g mk q => by obtain ⟨q0, q1, qP, qK, qD⟩ := q; exact ⟨q0, q1, qP, va_K.moved (u := U) (U := U.calling g mk a) (Vm.Alike.refl U.vm) qK, qD⟩, va_recv hKc hPc (ci := 3) (q0 := 0) rfl rfl, fun U hU hW => ⟨rfl, by rw [hU], by rw [hU]; exact hPc, va_K.moved hW.alike hKc, hDc.weaken (fun _ _ _ _ => trivial)⟩⟩ rfl rfl hl.1 rfl (lv_room (Nat.le_of_ble_eq_true rfl)) dX3_stepsToName_1 ⟨Nat.zero_le _, Nat.zero_le _⟩) hS (fun q _ h => hFc q h) hFc (fun x_3 _ t H1 locs ht hvm hw hB hz1 hk1 hS => ?_)
    have hw := hw.symm
    subst hw
    obtain ⟨hP1, hK1, hD1⟩ := hB
    rw [ht] at hP1
    obtain ⟨hP, hD⟩ := va_join (wr := []) (w1 := [(h0, .inr (3, [.int v0, .long v1, .long v2, .long v3, .long v4, .long v5, .long r_2.2.1, .long r_2.2.2.1, .long r_2.2.2.2.1, .long r_2.2.2.2.2, .long v10, .long v11, .long v12, .int v13, .ref h1])), (h1, .inl (cI, 6600, .inl vR))]) hP hD [0, 1] [] rfl rfl (by decide) (by decide) hk1 hFc hP1 hD1
    generalize H1 = H at hP hS ⊢
    have hP : va_P (dC, dI) vwCl [(h0, .inr (3, [.int v0, .long v1, .long v2, .long v3, .long v4, .long v5, .long r_2.2.1, .long r_2.2.2.1, .long r_2.2.2.2.1, .long r_2.2.2.2.2, .long v10, .long v11, .long v12, .int v13, .ref h1])), (h1, .inl (cI, 6600, .inl vR))] H := hP
    have hD : va_D A [(h0, .inr (3, [.int v0, .long v1, .long v2, .long v3, .long v4, .long v5, .long r_2.2.1, .long r_2.2.2.1, .long r_2.2.2.2.1, .long r_2.2.2.2.2, .long v10, .long v11, .long v12, .int v13, .ref h1])), (h1, .inl (cI, 6600, .inl vR))] := hD
    refine W.widen (k := 0) (n := 0) (Nat.le_refl _) (Nat.le_refl _) ?_
    refine lv_istore_n (lv' := [(1, .int r_2.1), (0, .ref h0)]) hx hb dX3_stepsToName_4 rfl hl (by decide) rfl (fun ls hl => ?_)
    exact k_X3_stepsToName_5 hx hb hrt hml hown hlocks hts hA hK n out n r_2.1 r_2.2.1 r_2.2.2.1 r_2.2.2.2.1 r_2.2.2.2.2 hr _ _ _ hP hD hS (lv_sub hl [1, 0] rfl)

theorem in_X3_ring_X3 : ∀ w ∈ u_ws RX3 TX3 15, w ∈ wsX3_ring := by decide +kernel
def f_X3_ring_64 (n : Nat) : Nat → (v4 : Int64) → (v5 : Int64) → (a1 : Int32) → (a2 : Int32) → Int32 → Int32 → Int64 → Int64 → Int64 → Int64 → Option (Int32 × Int32 × Int64 × Int64 × Int64 × Int64)
  | 0, _, _, _, _, _, _, _, _, _, _ => none
  | k + 1, v4, v5, a1, a2, u3, w0_0, w0_6, w0_7, w0_8, w0_9 => if u3 < a1 then ((f_X3_step n w0_7 w0_8 v4 v5).bind (fun r_6 => f_X3_ring_64 n k v4 v5 a1 a2 (u3 + 1) w0_0 r_6.1 r_6.2.1 r_6.2.2.1 r_6.2.2.2)) else ((f_X3_part n a2 w0_6 w0_7 w0_8).bind (fun r_3 => some (r_3, w0_0, w0_6, w0_7, w0_8, w0_9)))
set_option maxHeartbeats 4000000 in
set_option maxRecDepth 100000 in
theorem k_X3_ring_64 {p : Program} {l : Launch} {e : Env} {s : State} {m : MethodId} {args : Array Value} {below : List Frame} {meth : Method} {c : Code} {dC : Nat → ClassId} {dI : Nat → Nat → Nat} {A : Nat → Prop} {h0 : Nat} {h1 : Nat} {cI : ClassId} {v1 : Int64} {v2 : Int64} {v3 : Int64} {v4 : Int64} {v5 : Int64} {v10 : Int64} {v11 : Int64} {v12 : Int64} {v13 : Int32} {vR : Nat → Int32} {a1 : Int32} {a2 : Int32} (hx : p.tables.exec = Jvm.exec) (hb : c.code = cX3_ring) (hrt : meth.sig.returnType = (some .int)) (hml : c.maxLocals = 4) (hown : s.vm.findClass RX3 = some m.cls) (hlocks : meth.locks = false) (hts : ∀ w ∈ wsX3_ring, w.before args s = true) (hA : ∀ q : Nat, s.heap.size ≤ q → A q) (hK : va_K (dC, dI) vwCl [(cI, .int)] s)  (n : Nat) (out : Int32 × Int32 × Int64 × Int64 × Int64 × Int64) :
    ∀ (k : Nat) (u3 : Int32) (w0_0 : Int32) (w0_6 : Int64) (w0_7 : Int64) (w0_8 : Int64) (w0_9 : Int64), f_X3_ring_64 n k v4 v5 a1 a2 u3 w0_0 w0_6 w0_7 w0_8 w0_9 = some out → ∀ (H : Heap) (locs : List Loc) (ls : Array Slot), va_P (dC, dI) vwCl [(h0, .inr (3, [.int w0_0, .long v1, .long v2, .long v3, .long v4, .long v5, .long w0_6, .long w0_7, .long w0_8, .long w0_9, .long v10, .long v11, .long v12, .int v13, .ref h1])), (h1, .inl (cI, 6600, .inl vR))] H → va_D A [(h0, .inr (3, [.int w0_0, .long v1, .long v2, .long v3, .long v4, .long v5, .long w0_6, .long w0_7, .long w0_8, .long w0_9, .long v10, .long v11, .long v12, .int v13, .ref h1])), (h1, .inl (cI, 6600, .inl vR))] → va_S A s.heap H locs → lv_has ls 4 [(0, .ref h0), (1, .int a1), (2, .int a2), (3, .int u3)] → W p l e ({ frames := 3, cells := 0, slots := 0, locals := 76 }) s m args below meth c H locs 0 0 (MQ below (va_Qi (fun r (_ : Unit) => r = out.1) (fun (_ : Unit) t => zB dC dI [(cI, .int)] A [(h0, .inr (3, [.int out.2.1, .long v1, .long v2, .long v3, .long v4, .long v5, .long out.2.2.1, .long out.2.2.2.1, .long out.2.2.2.2.1, .long out.2.2.2.2.2, .long v10, .long v11, .long v12, .int v13, .ref h1])), (h1, .inl (cI, 6600, .inl vR))] t) A) args s 0 0 A) (F0 m 64 ls []) := by
  intro k
  induction k with
  | zero => intro u3 w0_0 w0_6 w0_7 w0_8 w0_9 hr; rw [f_X3_ring_64] at hr; cases hr
  | succ k ih =>
    intro u3 w0_0 w0_6 w0_7 w0_8 w0_9 hr H locs ls hP hD hS hl
    rw [f_X3_ring_64] at hr
    refine lv_iload_n hx hb dX3_ring_64 rfl (lv_at hl 3 rfl) ?_
    refine lv_iload_n hx hb dX3_ring_65 rfl (lv_at hl 1 rfl) ?_
    refine lz_ige (tgt := 87) hx hb dX3_ring_66 (by decide) (fun c_1 => ?_) (fun c_1 => ?_)
    · have hr := (if_neg c_1).symm.trans hr
      refine lv_iload_n hx hb dX3_ring_87 rfl (lv_at hl 2 rfl) ?_
      refine lv_aload_n hx hb dX3_ring_88 rfl (lv_at hl 0 rfl) ?_
      refine va_get (D := (dC, dI)) (ci := 3) (v := .long w0_6) (C := RX3) (T := TX3) (N := 15) hx hb hts in_X3_ring_X3 hown hK hP 0 rfl rfl 6 (by decide) (hts (.fieldLink RX3 69 "FormRingModel" "x" "J") (by decide +kernel)) (fun _ h9 => h9) rfl dX3_ring_89 ?_
      refine lv_aload_n hx hb dX3_ring_92 rfl (lv_at hl 0 rfl) ?_
      refine va_get (D := (dC, dI)) (ci := 3) (v := .long w0_7) (C := RX3) (T := TX3) (N := 15) hx hb hts in_X3_ring_X3 hown hK hP 0 rfl rfl 7 (by decide) (hts (.fieldLink RX3 72 "FormRingModel" "y" "J") (by decide +kernel)) (fun _ h9 => h9) rfl dX3_ring_93 ?_
      refine lv_aload_n hx hb dX3_ring_96 rfl (lv_at hl 0 rfl) ?_
      refine va_get (D := (dC, dI)) (ci := 3) (v := .long w0_8) (C := RX3) (T := TX3) (N := 15) hx hb hts in_X3_ring_X3 hown hK hP 0 rfl rfl 8 (by decide) (hts (.fieldLink RX3 75 "FormRingModel" "z" "J") (by decide +kernel)) (fun _ h9 => h9) rfl dX3_ring_97 ?_
      cases e_2 : f_X3_part n a2 w0_6 w0_7 w0_8 with
      | none => rw [e_2, Option.bind_none] at hr; cases hr
      | some r_3 =>
        rw [e_2, Option.bind_some] at hr
        have hPc := hP.sub (ws' := []) [] rfl
        have hDc := hD.sub (ws' := []) [] (by decide) rfl
        have hKc := hK.sub (tys' := []) [] rfl
        have hFc := va_free (wc := []) hD hS hA [] rfl
        refine va_calli (va_runS (As := [.int a2, .long w0_6, .long w0_7, .long w0_8]) (rest := []) ⟨hx, hb, hml, hown, hts⟩ (c_X3_part l dC dI H.size  a2 w0_6 w0_7 w0_8 n _ e_2) (va_cwS 4 hts gX3_ring_X3_part rfl rfl rfl (by decide +kernel) ⟨Nat.le_of_ble_eq_true rfl, Nat.le_of_ble_eq_true rfl⟩) ⟨fun a U g mk q => by obtain ⟨q0, q1, qP, qK, qD⟩ := q; exact ⟨q0, q1, qP, va_K.moved (u := U) (U := U.calling g mk a) (Vm.Alike.refl U.vm) qK, qD⟩, fun U hU hW => ⟨rfl, by rw [hU], by rw [hU]; exact hPc, va_K.moved hW.alike hKc, hDc.weaken (fun _ _ _ _ => trivial)⟩⟩ rfl rfl hl.1 rfl (lv_room (Nat.le_of_ble_eq_true rfl)) dX3_ring_100 ⟨Nat.zero_le _, Nat.zero_le _⟩) hS (fun q _ h => hFc q h) hFc (fun x_4 _ t H1 locs ht hvm hw hB hz1 hk1 hS => ?_)
        have hw := hw.symm
        subst hw
        obtain ⟨hP1, hK1, hD1⟩ := hB
        rw [ht] at hP1
        obtain ⟨hP, hD⟩ := va_join (wr := [(h0, .inr (3, [.int w0_0, .long v1, .long v2, .long v3, .long v4, .long v5, .long w0_6, .long w0_7, .long w0_8, .long w0_9, .long v10, .long v11, .long v12, .int v13, .ref h1])), (h1, .inl (cI, 6600, .inl vR))]) (w1 := []) hP hD [] [0, 1] rfl rfl (by decide) (by decide) hk1 hFc hP1 hD1
        generalize H1 = H at hP hS ⊢
        have hP : va_P (dC, dI) vwCl [(h0, .inr (3, [.int w0_0, .long v1, .long v2, .long v3, .long v4, .long v5, .long w0_6, .long w0_7, .long w0_8, .long w0_9, .long v10, .long v11, .long v12, .int v13, .ref h1])), (h1, .inl (cI, 6600, .inl vR))] H := hP
        have hD : va_D A [(h0, .inr (3, [.int w0_0, .long v1, .long v2, .long v3, .long v4, .long v5, .long w0_6, .long w0_7, .long w0_8, .long w0_9, .long v10, .long v11, .long v12, .int v13, .ref h1])), (h1, .inl (cI, 6600, .inl vR))] := hD
        refine W.widen (k := 0) (n := 0) (Nat.le_refl _) (Nat.le_refl _) ?_
        have ho := Option.some.inj hr
        subst ho
        exact W.iret (v := r_3) hx hb hrt (fun t ht hW => ⟨⟨r_3, (), rfl, rfl, by rw [ht]; exact hP, va_K.moved hW.alike hK, hD⟩, hS.F ht⟩) hS.2.2 dX3_ring_103
    · have hr := (if_pos c_1).symm.trans hr
      refine lv_aload_n hx hb dX3_ring_69 rfl (lv_at hl 0 rfl) ?_
      refine lv_aload_n hx hb dX3_ring_70 rfl (lv_at hl 0 rfl) ?_
      refine va_get (D := (dC, dI)) (ci := 3) (v := .long v4) (C := RX3) (T := TX3) (N := 15) hx hb hts in_X3_ring_X3 hown hK hP 0 rfl rfl 4 (by decide) (hts (.fieldLink RX3 18 "FormRingModel" "d" "J") (by decide +kernel)) (fun _ h9 => h9) rfl dX3_ring_71 ?_
      refine lv_aload_n hx hb dX3_ring_74 rfl (lv_at hl 0 rfl) ?_
      refine va_get (D := (dC, dI)) (ci := 3) (v := .long v5) (C := RX3) (T := TX3) (N := 15) hx hb hts in_X3_ring_X3 hown hK hP 0 rfl rfl 5 (by decide) (hts (.fieldLink RX3 23 "FormRingModel" "w" "J") (by decide +kernel)) (fun _ h9 => h9) rfl dX3_ring_75 ?_
      cases e_5 : f_X3_step n w0_7 w0_8 v4 v5 with
      | none => rw [e_5, Option.bind_none] at hr; cases hr
      | some r_6 =>
        rw [e_5, Option.bind_some] at hr
        have hPc := hP.sub (ws' := [(h0, .inr (3, [.int w0_0, .long v1, .long v2, .long v3, .long v4, .long v5, .long w0_6, .long w0_7, .long w0_8, .long w0_9, .long v10, .long v11, .long v12, .int v13, .ref h1])), (h1, .inl (cI, 6600, .inl vR))]) [0, 1] rfl
        have hDc := hD.sub (ws' := [(h0, .inr (3, [.int w0_0, .long v1, .long v2, .long v3, .long v4, .long v5, .long w0_6, .long w0_7, .long w0_8, .long w0_9, .long v10, .long v11, .long v12, .int v13, .ref h1])), (h1, .inl (cI, 6600, .inl vR))]) [0, 1] (by decide) rfl
        have hKc := hK.sub (tys' := [(cI, .int)]) [0] rfl
        have hFc := va_free (wc := [(h0, .inr (3, [.int w0_0, .long v1, .long v2, .long v3, .long v4, .long v5, .long w0_6, .long w0_7, .long w0_8, .long w0_9, .long v10, .long v11, .long v12, .int v13, .ref h1])), (h1, .inl (cI, 6600, .inl vR))]) hD hS hA [0, 1] rfl
        refine va_callv (va_runV (As := [.long v4, .long v5]) (rest := []) ⟨hx, hb, hml, hown, hts⟩ (c_X3_step l dC dI H.size h0 h1 cI w0_0 v1 v2 v3 v4 v5 w0_6 w0_7 w0_8 w0_9 v10 v11 v12 v13 vR v4 v5 n _ e_5) (cwV 2 hts gX3_ring_X3_step rfl rfl rfl (by decide +kernel) ⟨Nat.le_of_ble_eq_true rfl, Nat.le_of_ble_eq_true rfl⟩) ⟨fun a U g mk q => by obtain ⟨q0, q1, qP, qK, qD⟩ := q; exact ⟨q0, q1, qP, va_K.moved (u := U) (U := U.calling g mk a) (Vm.Alike.refl U.vm) qK, qD⟩, va_recv hKc hPc (ci := 3) (q0 := 0) rfl rfl, fun U hU hW => ⟨rfl, by rw [hU], by rw [hU]; exact hPc, va_K.moved hW.alike hKc, hDc.weaken (fun _ _ _ _ => trivial)⟩⟩ rfl rfl hl.1 rfl (lv_room (Nat.le_of_ble_eq_true rfl)) dX3_ring_78 ⟨Nat.zero_le _, Nat.zero_le _⟩) hS (fun q _ h => hFc q h) hFc (fun _ t H1 locs ht hvm hw hB hz1 hk1 hS => ?_)
        obtain ⟨hP1, hK1, hD1⟩ := hB
        rw [ht] at hP1
        obtain ⟨hP, hD⟩ := va_join (wr := []) (w1 := [(h0, .inr (3, [.int w0_0, .long v1, .long v2, .long v3, .long v4, .long v5, .long r_6.1, .long r_6.2.1, .long r_6.2.2.1, .long r_6.2.2.2, .long v10, .long v11, .long v12, .int v13, .ref h1])), (h1, .inl (cI, 6600, .inl vR))]) hP hD [0, 1] [] rfl rfl (by decide) (by decide) hk1 hFc hP1 hD1
        generalize H1 = H at hP hS ⊢
        have hP : va_P (dC, dI) vwCl [(h0, .inr (3, [.int w0_0, .long v1, .long v2, .long v3, .long v4, .long v5, .long r_6.1, .long r_6.2.1, .long r_6.2.2.1, .long r_6.2.2.2, .long v10, .long v11, .long v12, .int v13, .ref h1])), (h1, .inl (cI, 6600, .inl vR))] H := hP
        have hD : va_D A [(h0, .inr (3, [.int w0_0, .long v1, .long v2, .long v3, .long v4, .long v5, .long r_6.1, .long r_6.2.1, .long r_6.2.2.1, .long r_6.2.2.2, .long v10, .long v11, .long v12, .int v13, .ref h1])), (h1, .inl (cI, 6600, .inl vR))] := hD
        refine W.widen (k := 0) (n := 0) (Nat.le_refl _) (Nat.le_refl _) ?_
        refine lv_iinc (v := u3 + 1) (lv' := [(3, .int (u3 + 1)), (0, .ref h0), (1, .int a1), (2, .int a2)]) hx hb dX3_ring_81 hl (k := 3) rfl rfl (by decide) rfl (fun ls hl => ?_)
        refine lv_goto (tgt := 64) hx hb dX3_ring_84 (by decide) ?_
        exact ih (u3 + 1) w0_0 r_6.1 r_6.2.1 r_6.2.2.1 r_6.2.2.2 hr _ _ _ hP hD hS (lv_sub hl [1, 2, 3, 0] rfl)
def f_X3_ring_37 (n : Nat) (v4 : Int64) (v5 : Int64) (v10 : Int64) (v11 : Int64) (v12 : Int64) (a1 : Int32) (a2 : Int32) (w0_0 : Int32) (w0_6 : Int64) (w0_7 : Int64) (w0_8 : Int64) (w0_9 : Int64) : Option (Int32 × Int32 × Int64 × Int64 × Int64 × Int64) := if 0 < w0_0 then (some (0, w0_0, w0_6, w0_7, w0_8, w0_9)) else ((f_X3_begin n v10 v11 v12).bind (fun r_3 => f_X3_ring_64 n n v4 v5 a1 a2 0 w0_0 r_3.1 r_3.2.1 r_3.2.2 w0_9))
set_option maxHeartbeats 4000000 in
set_option maxRecDepth 100000 in
theorem k_X3_ring_37 {p : Program} {l : Launch} {e : Env} {s : State} {m : MethodId} {args : Array Value} {below : List Frame} {meth : Method} {c : Code} {dC : Nat → ClassId} {dI : Nat → Nat → Nat} {A : Nat → Prop} {h0 : Nat} {h1 : Nat} {cI : ClassId} {v1 : Int64} {v2 : Int64} {v3 : Int64} {v4 : Int64} {v5 : Int64} {v10 : Int64} {v11 : Int64} {v12 : Int64} {v13 : Int32} {vR : Nat → Int32} {a1 : Int32} {a2 : Int32} (hx : p.tables.exec = Jvm.exec) (hb : c.code = cX3_ring) (hrt : meth.sig.returnType = (some .int)) (hml : c.maxLocals = 4) (hown : s.vm.findClass RX3 = some m.cls) (hlocks : meth.locks = false) (hts : ∀ w ∈ wsX3_ring, w.before args s = true) (hA : ∀ q : Nat, s.heap.size ≤ q → A q) (hK : va_K (dC, dI) vwCl [(cI, .int)] s)  (n : Nat) (out : Int32 × Int32 × Int64 × Int64 × Int64 × Int64) :
    ∀ (w0_0 : Int32) (w0_6 : Int64) (w0_7 : Int64) (w0_8 : Int64) (w0_9 : Int64), f_X3_ring_37 n v4 v5 v10 v11 v12 a1 a2 w0_0 w0_6 w0_7 w0_8 w0_9 = some out → ∀ (H : Heap) (locs : List Loc) (ls : Array Slot), va_P (dC, dI) vwCl [(h0, .inr (3, [.int w0_0, .long v1, .long v2, .long v3, .long v4, .long v5, .long w0_6, .long w0_7, .long w0_8, .long w0_9, .long v10, .long v11, .long v12, .int v13, .ref h1])), (h1, .inl (cI, 6600, .inl vR))] H → va_D A [(h0, .inr (3, [.int w0_0, .long v1, .long v2, .long v3, .long v4, .long v5, .long w0_6, .long w0_7, .long w0_8, .long w0_9, .long v10, .long v11, .long v12, .int v13, .ref h1])), (h1, .inl (cI, 6600, .inl vR))] → va_S A s.heap H locs → lv_has ls 4 [(0, .ref h0), (1, .int a1), (2, .int a2)] → W p l e ({ frames := 3, cells := 0, slots := 0, locals := 76 }) s m args below meth c H locs 0 0 (MQ below (va_Qi (fun r (_ : Unit) => r = out.1) (fun (_ : Unit) t => zB dC dI [(cI, .int)] A [(h0, .inr (3, [.int out.2.1, .long v1, .long v2, .long v3, .long v4, .long v5, .long out.2.2.1, .long out.2.2.2.1, .long out.2.2.2.2.1, .long out.2.2.2.2.2, .long v10, .long v11, .long v12, .int v13, .ref h1])), (h1, .inl (cI, 6600, .inl vR))] t) A) args s 0 0 A) (F0 m 37 ls []) := by
  intro w0_0 w0_6 w0_7 w0_8 w0_9 hr H locs ls hP hD hS hl
  unfold f_X3_ring_37 at hr
  refine lv_aload_n hx hb dX3_ring_37 rfl (lv_at hl 0 rfl) ?_
  refine va_get (D := (dC, dI)) (ci := 3) (v := .int w0_0) (C := RX3) (T := TX3) (N := 15) hx hb hts in_X3_ring_X3 hown hK hP 0 rfl rfl 0 (by decide) (hts (.fieldLink RX3 44 "FormRingModel" "code" "I") (by decide +kernel)) (fun _ h9 => h9) rfl dX3_ring_38 ?_
  refine lz_zle (tgt := 46) hx hb dX3_ring_41 (by decide) (fun c_1 => ?_) (fun c_1 => ?_)
  · have hr := (if_neg c_1).symm.trans hr
    refine lv_aload_n hx hb dX3_ring_46 rfl (lv_at hl 0 rfl) ?_
    refine lv_aload_n hx hb dX3_ring_47 rfl (lv_at hl 0 rfl) ?_
    refine va_get (D := (dC, dI)) (ci := 3) (v := .long v10) (C := RX3) (T := TX3) (N := 15) hx hb hts in_X3_ring_X3 hown hK hP 0 rfl rfl 10 (by decide) (hts (.fieldLink RX3 26 "FormRingModel" "nameA" "J") (by decide +kernel)) (fun _ h9 => h9) rfl dX3_ring_48 ?_
    refine lv_aload_n hx hb dX3_ring_51 rfl (lv_at hl 0 rfl) ?_
    refine va_get (D := (dC, dI)) (ci := 3) (v := .long v11) (C := RX3) (T := TX3) (N := 15) hx hb hts in_X3_ring_X3 hown hK hP 0 rfl rfl 11 (by decide) (hts (.fieldLink RX3 94 "FormRingModel" "nameB" "J") (by decide +kernel)) (fun _ h9 => h9) rfl dX3_ring_52 ?_
    refine lv_aload_n hx hb dX3_ring_55 rfl (lv_at hl 0 rfl) ?_
    refine va_get (D := (dC, dI)) (ci := 3) (v := .long v12) (C := RX3) (T := TX3) (N := 15) hx hb hts in_X3_ring_X3 hown hK hP 0 rfl rfl 12 (by decide) (hts (.fieldLink RX3 29 "FormRingModel" "nameC" "J") (by decide +kernel)) (fun _ h9 => h9) rfl dX3_ring_56 ?_
    cases e_2 : f_X3_begin n v10 v11 v12 with
    | none => rw [e_2, Option.bind_none] at hr; cases hr
    | some r_3 =>
      rw [e_2, Option.bind_some] at hr
      have hPc := hP.sub (ws' := [(h0, .inr (3, [.int w0_0, .long v1, .long v2, .long v3, .long v4, .long v5, .long w0_6, .long w0_7, .long w0_8, .long w0_9, .long v10, .long v11, .long v12, .int v13, .ref h1])), (h1, .inl (cI, 6600, .inl vR))]) [0, 1] rfl
      have hDc := hD.sub (ws' := [(h0, .inr (3, [.int w0_0, .long v1, .long v2, .long v3, .long v4, .long v5, .long w0_6, .long w0_7, .long w0_8, .long w0_9, .long v10, .long v11, .long v12, .int v13, .ref h1])), (h1, .inl (cI, 6600, .inl vR))]) [0, 1] (by decide) rfl
      have hKc := hK.sub (tys' := [(cI, .int)]) [0] rfl
      have hFc := va_free (wc := [(h0, .inr (3, [.int w0_0, .long v1, .long v2, .long v3, .long v4, .long v5, .long w0_6, .long w0_7, .long w0_8, .long w0_9, .long v10, .long v11, .long v12, .int v13, .ref h1])), (h1, .inl (cI, 6600, .inl vR))]) hD hS hA [0, 1] rfl
      refine va_callv (va_runV (As := [.long v10, .long v11, .long v12]) (rest := []) ⟨hx, hb, hml, hown, hts⟩ (c_X3_begin l dC dI H.size h0 h1 cI w0_0 v1 v2 v3 v4 v5 w0_6 w0_7 w0_8 w0_9 v10 v11 v12 v13 vR v10 v11 v12 n _ e_2) (cwV 3 hts gX3_ring_X3_begin rfl rfl rfl (by decide +kernel) ⟨Nat.le_of_ble_eq_true rfl, Nat.le_of_ble_eq_true rfl⟩) ⟨fun a U g mk q => by obtain ⟨q0, q1, qP, qK, qD⟩ := q; exact ⟨q0, q1, qP, va_K.moved (u := U) (U := U.calling g mk a) (Vm.Alike.refl U.vm) qK, qD⟩, va_recv hKc hPc (ci := 3) (q0 := 0) rfl rfl, fun U hU hW => ⟨rfl, by rw [hU], by rw [hU]; exact hPc, va_K.moved hW.alike hKc, hDc.weaken (fun _ _ _ _ => trivial)⟩⟩ rfl rfl hl.1 rfl (lv_room (Nat.le_of_ble_eq_true rfl)) dX3_ring_59 ⟨Nat.zero_le _, Nat.zero_le _⟩) hS (fun q _ h => hFc q h) hFc (fun _ t H1 locs ht hvm hw hB hz1 hk1 hS => ?_)
      obtain ⟨hP1, hK1, hD1⟩ := hB
      rw [ht] at hP1
      obtain ⟨hP, hD⟩ := va_join (wr := []) (w1 := [(h0, .inr (3, [.int w0_0, .long v1, .long v2, .long v3, .long v4, .long v5, .long r_3.1, .long r_3.2.1, .long r_3.2.2, .long w0_9, .long v10, .long v11, .long v12, .int v13, .ref h1])), (h1, .inl (cI, 6600, .inl vR))]) hP hD [0, 1] [] rfl rfl (by decide) (by decide) hk1 hFc hP1 hD1
      generalize H1 = H at hP hS ⊢
      have hP : va_P (dC, dI) vwCl [(h0, .inr (3, [.int w0_0, .long v1, .long v2, .long v3, .long v4, .long v5, .long r_3.1, .long r_3.2.1, .long r_3.2.2, .long w0_9, .long v10, .long v11, .long v12, .int v13, .ref h1])), (h1, .inl (cI, 6600, .inl vR))] H := hP
      have hD : va_D A [(h0, .inr (3, [.int w0_0, .long v1, .long v2, .long v3, .long v4, .long v5, .long r_3.1, .long r_3.2.1, .long r_3.2.2, .long w0_9, .long v10, .long v11, .long v12, .int v13, .ref h1])), (h1, .inl (cI, 6600, .inl vR))] := hD
      refine W.widen (k := 0) (n := 0) (Nat.le_refl _) (Nat.le_refl _) ?_
      refine lv_iconst (v := 0) hx hb dX3_ring_62 (by decide) ?_
      refine lv_istore_n (lv' := [(3, .int 0), (0, .ref h0), (1, .int a1), (2, .int a2)]) hx hb dX3_ring_63 rfl hl (by decide) rfl (fun ls hl => ?_)
      exact k_X3_ring_64 hx hb hrt hml hown hlocks hts hA hK n out n 0 w0_0 r_3.1 r_3.2.1 r_3.2.2 w0_9 hr _ _ _ hP hD hS (lv_sub hl [1, 2, 3, 0] rfl)
  · have hr := (if_pos c_1).symm.trans hr
    refine lv_iconst (v := 0) hx hb dX3_ring_44 (by decide) ?_
    have ho := Option.some.inj hr
    subst ho
    exact W.iret (v := 0) hx hb hrt (fun t ht hW => ⟨⟨0, (), rfl, rfl, by rw [ht]; exact hP, va_K.moved hW.alike hK, hD⟩, hS.F ht⟩) hS.2.2 dX3_ring_45
def f_X3_ring (n : Nat) (v4 : Int64) (v5 : Int64) (v6 : Int64) (v7 : Int64) (v8 : Int64) (v9 : Int64) (v10 : Int64) (v11 : Int64) (v12 : Int64) (a1 : Int32) (a2 : Int32) : Option (Int32 × Int32 × Int64 × Int64 × Int64 × Int64) := (f_X3_ringSize n v4 v5 v6 v7 v8 v9 v10 v11 v12).bind (fun r_2 => (f_X3_in n a1.toInt64 0 ((r_2.1 - 1).toInt64)).bind (fun r_5 => if r_5 = 0 then (f_X3_ring_37 n v4 v5 v10 v11 v12 a1 a2 1 r_2.2.1 r_2.2.2.1 r_2.2.2.2.1 r_2.2.2.2.2) else ((f_X3_in n a2.toInt64 0 2).bind (fun r_10 => if r_10 = 0 then (f_X3_ring_37 n v4 v5 v10 v11 v12 a1 a2 1 r_2.2.1 r_2.2.2.1 r_2.2.2.2.1 r_2.2.2.2.2) else (f_X3_ring_37 n v4 v5 v10 v11 v12 a1 a2 0 r_2.2.1 r_2.2.2.1 r_2.2.2.2.1 r_2.2.2.2.2)))))
set_option maxHeartbeats 4000000 in
set_option maxRecDepth 100000 in
theorem c_X3_ring (l : Launch) (dC : Nat → ClassId) (dI : Nat → Nat → Nat) (sz : Nat) (h0 : Nat) (h1 : Nat) (cI : ClassId) (v0 : Int32) (v1 : Int64) (v2 : Int64) (v3 : Int64) (v4 : Int64) (v5 : Int64) (v6 : Int64) (v7 : Int64) (v8 : Int64) (v9 : Int64) (v10 : Int64) (v11 : Int64) (v12 : Int64) (v13 : Int32) (vR : Nat → Int32) (a1 : Int32) (a2 : Int32)  (n : Nat) (out : Int32 × Int32 × Int64 × Int64 × Int64 × Int64) (hr : f_X3_ring n v4 v5 v6 v7 v8 v9 v10 v11 v12 a1 a2 = some out) : Met l yX3_ring wsX3_ring ({ frames := 3, cells := 0, slots := 0, locals := 76 }) (va_Pc [.ref h0, .int a1, .int a2] (zP dC dI [(cI, .int)] [(h0, .inr (3, [.int v0, .long v1, .long v2, .long v3, .long v4, .long v5, .long v6, .long v7, .long v8, .long v9, .long v10, .long v11, .long v12, .int v13, .ref h1])), (h1, .inl (cI, 6600, .inl vR))] sz)) (va_Qi (fun r (_ : Unit) => r = out.1) (fun (_ : Unit) t => zB dC dI [(cI, .int)] (va_A [(h0, .inr (3, [.int v0, .long v1, .long v2, .long v3, .long v4, .long v5, .long v6, .long v7, .long v8, .long v9, .long v10, .long v11, .long v12, .int v13, .ref h1])), (h1, .inl (cI, 6600, .inl vR))] sz) [(h0, .inr (3, [.int out.2.1, .long v1, .long v2, .long v3, .long v4, .long v5, .long out.2.2.1, .long out.2.2.2.1, .long out.2.2.2.2.1, .long out.2.2.2.2.2, .long v10, .long v11, .long v12, .int v13, .ref h1])), (h1, .inl (cI, 6600, .inl vR))] t) (va_A [(h0, .inr (3, [.int v0, .long v1, .long v2, .long v3, .long v4, .long v5, .long v6, .long v7, .long v8, .long v9, .long v10, .long v11, .long v12, .int v13, .ref h1])), (h1, .inl (cI, 6600, .inl vR))] sz)) 0 0 (va_A [(h0, .inr (3, [.int v0, .long v1, .long v2, .long v3, .long v4, .long v5, .long v6, .long v7, .long v8, .long v9, .long v10, .long v11, .long v12, .int v13, .ref h1])), (h1, .inl (cI, 6600, .inl vR))] sz) := by
  refine Met.ofW (cc := cX3_ring) (maxL := 4) (ret := (some .int)) (by decide) rfl ?_
  intro p e s m args below meth c s₁ B hml hv
  obtain ⟨rfl, hsz, hP, hK, hD0⟩ := hv
  have hx := B.exec
  have hb := B.bytes
  have hrt := B.returns
  have hts := atoms_spec (ws := wsX3_ring) B.pre
  have hown : s.vm.findClass RX3 = some m.cls := findClass_of_methodNamed B.named
  have hlocks := B.notSynchronized
  subst hsz
  have hD := hD0.self (sz := s.heap.size)
  generalize hAe : va_A [(h0, .inr (3, [.int v0, .long v1, .long v2, .long v3, .long v4, .long v5, .long v6, .long v7, .long v8, .long v9, .long v10, .long v11, .long v12, .int v13, .ref h1])), (h1, .inl (cI, 6600, .inl vR))] s.heap.size = A at hD ⊢
  have hA : ∀ q : Nat, s.heap.size ≤ q → A q := fun q h => by rw [← hAe]; exact Or.inr h
  have hS : va_S A s.heap s.heap [] := va_S.rf
  have hP : va_P (dC, dI) vwCl [(h0, .inr (3, [.int v0, .long v1, .long v2, .long v3, .long v4, .long v5, .long v6, .long v7, .long v8, .long v9, .long v10, .long v11, .long v12, .int v13, .ref h1])), (h1, .inl (cI, 6600, .inl vR))] s.heap := hP
  have hl := lv_entry ([.ref h0, .int a1, .int a2]) (n := 4) (Nat.le_of_ble_eq_true rfl)
  rw [lg_entry_eq]
  generalize (lg_sl ([.ref h0, .int a1, .int a2]) ++ List.replicate (4 - (lg_sl ([.ref h0, .int a1, .int a2])).length) Slot.unset).toArray = ls at hl ⊢
  have hl : lv_has ls 4 [(0, .ref h0), (1, .int a1), (2, .int a2)] := hl
  unfold f_X3_ring at hr
  refine lv_aload_n hx hb dX3_ring_0 rfl (lv_at hl 0 rfl) ?_
  refine lv_iload_n hx hb dX3_ring_1 rfl (lv_at hl 1 rfl) ?_
  refine lv_i2l hx hb dX3_ring_2 rfl ?_
  refine lv_lconst (v := 0) hx hb dX3_ring_3 (by decide) ?_
  refine lv_aload_n hx hb dX3_ring_4 rfl (lv_at hl 0 rfl) ?_
  cases e_1 : f_X3_ringSize n v4 v5 v6 v7 v8 v9 v10 v11 v12 with
  | none => rw [e_1, Option.bind_none] at hr; cases hr
  | some r_2 =>
    rw [e_1, Option.bind_some] at hr
    have hPc := hP.sub (ws' := [(h0, .inr (3, [.int v0, .long v1, .long v2, .long v3, .long v4, .long v5, .long v6, .long v7, .long v8, .long v9, .long v10, .long v11, .long v12, .int v13, .ref h1])), (h1, .inl (cI, 6600, .inl vR))]) [0, 1] rfl
    have hDc := hD.sub (ws' := [(h0, .inr (3, [.int v0, .long v1, .long v2, .long v3, .long v4, .long v5, .long v6, .long v7, .long v8, .long v9, .long v10, .long v11, .long v12, .int v13, .ref h1])), (h1, .inl (cI, 6600, .inl vR))]) [0, 1] (by decide) rfl
    have hKc := hK.sub (tys' := [(cI, .int)]) [0] rfl
    have hFc := va_free (wc := [(h0, .inr (3, [.int v0, .long v1, .long v2, .long v3, .long v4, .long v5, .long v6, .long v7, .long v8, .long v9, .long v10, .long v11, .long v12, .int v13, .ref h1])), (h1, .inl (cI, 6600, .inl vR))]) hD hS hA [0, 1] rfl
    refine va_calli (va_runV (As := []) (rest := [.long 0, .long a1.toInt64, .ref h0]) ⟨hx, hb, hml, hown, hts⟩ (c_X3_ringSize l dC dI s.heap.size h0 h1 cI v0 v1 v2 v3 v4 v5 v6 v7 v8 v9 v10 v11 v12 v13 vR  n _ e_1) (cwV 0 hts gX3_ring_X3_ringSize rfl rfl rfl (by decide +kernel) ⟨Nat.le_of_ble_eq_true rfl, Nat.le_of_ble_eq_true rfl⟩) ⟨fun a U g mk q => by obtain ⟨q0, q1, qP, qK, qD⟩ := q; exact ⟨q0, q1, qP, va_K.moved (u := U) (U := U.calling g mk a) (Vm.Alike.refl U.vm) qK, qD⟩, va_recv hKc hPc (ci := 3) (q0 := 0) rfl rfl, fun U hU hW => ⟨rfl, by rw [hU], by rw [hU]; exact hPc, va_K.moved hW.alike hKc, hDc.weaken (fun _ _ _ _ => trivial)⟩⟩ rfl rfl hl.1 rfl (lv_room (Nat.le_of_ble_eq_true rfl)) dX3_ring_5 ⟨Nat.zero_le _, Nat.zero_le _⟩) hS (fun q _ h => hFc q h) hFc (fun x_3 _ t H1 locs ht hvm hw hB hz1 hk1 hS => ?_)
    have hw := hw.symm
    subst hw
    obtain ⟨hP1, hK1, hD1⟩ := hB
    rw [ht] at hP1
    obtain ⟨hP, hD⟩ := va_join (wr := []) (w1 := [(h0, .inr (3, [.int v0, .long v1, .long v2, .long v3, .long v4, .long v5, .long r_2.2.1, .long r_2.2.2.1, .long r_2.2.2.2.1, .long r_2.2.2.2.2, .long v10, .long v11, .long v12, .int v13, .ref h1])), (h1, .inl (cI, 6600, .inl vR))]) hP hD [0, 1] [] rfl rfl (by decide) (by decide) hk1 hFc hP1 hD1
    generalize H1 = H at hP hS ⊢
    have hP : va_P (dC, dI) vwCl [(h0, .inr (3, [.int v0, .long v1, .long v2, .long v3, .long v4, .long v5, .long r_2.2.1, .long r_2.2.2.1, .long r_2.2.2.2.1, .long r_2.2.2.2.2, .long v10, .long v11, .long v12, .int v13, .ref h1])), (h1, .inl (cI, 6600, .inl vR))] H := hP
    have hD : va_D A [(h0, .inr (3, [.int v0, .long v1, .long v2, .long v3, .long v4, .long v5, .long r_2.2.1, .long r_2.2.2.1, .long r_2.2.2.2.1, .long r_2.2.2.2.2, .long v10, .long v11, .long v12, .int v13, .ref h1])), (h1, .inl (cI, 6600, .inl vR))] := hD
    refine W.widen (k := 0) (n := 0) (Nat.le_refl _) (Nat.le_refl _) ?_
    refine lv_iconst (v := 1) hx hb dX3_ring_8 (by decide) ?_
    refine lv_isub hx hb dX3_ring_9 ?_
    refine lv_i2l hx hb dX3_ring_10 rfl ?_
    cases e_4 : f_X3_in n a1.toInt64 0 ((r_2.1 - 1).toInt64) with
    | none => rw [e_4, Option.bind_none] at hr; cases hr
    | some r_5 =>
      rw [e_4, Option.bind_some] at hr
      have hPc := hP.sub (ws' := []) [] rfl
      have hDc := hD.sub (ws' := []) [] (by decide) rfl
      have hKc := hK.sub (tys' := []) [] rfl
      have hFc := va_free (wc := []) hD hS hA [] rfl
      refine va_calli (va_runS (As := [.long a1.toInt64, .long 0, .long ((r_2.1 - 1).toInt64)]) (rest := [.ref h0]) ⟨hx, hb, hml, hown, hts⟩ (c_X3_in l dC dI H.size  a1.toInt64 0 ((r_2.1 - 1).toInt64) n _ e_4) (va_cwS 3 hts gX3_ring_X3_in rfl rfl rfl (by decide +kernel) ⟨Nat.le_of_ble_eq_true rfl, Nat.le_of_ble_eq_true rfl⟩) ⟨fun a U g mk q => by obtain ⟨q0, q1, qP, qK, qD⟩ := q; exact ⟨q0, q1, qP, va_K.moved (u := U) (U := U.calling g mk a) (Vm.Alike.refl U.vm) qK, qD⟩, fun U hU hW => ⟨rfl, by rw [hU], by rw [hU]; exact hPc, va_K.moved hW.alike hKc, hDc.weaken (fun _ _ _ _ => trivial)⟩⟩ rfl rfl hl.1 rfl (lv_room (Nat.le_of_ble_eq_true rfl)) dX3_ring_11 ⟨Nat.zero_le _, Nat.zero_le _⟩) hS (fun q _ h => hFc q h) hFc (fun x_6 _ t H1 locs ht hvm hw hB hz1 hk1 hS => ?_)
      obtain ⟨hw, z_7⟩ := hw
      have hw := hw.symm
      subst hw
      obtain ⟨hP1, hK1, hD1⟩ := hB
      rw [ht] at hP1
      obtain ⟨hP, hD⟩ := va_join (wr := [(h0, .inr (3, [.int v0, .long v1, .long v2, .long v3, .long v4, .long v5, .long r_2.2.1, .long r_2.2.2.1, .long r_2.2.2.2.1, .long r_2.2.2.2.2, .long v10, .long v11, .long v12, .int v13, .ref h1])), (h1, .inl (cI, 6600, .inl vR))]) (w1 := []) hP hD [] [0, 1] rfl rfl (by decide) (by decide) hk1 hFc hP1 hD1
      generalize H1 = H at hP hS ⊢
      have hP : va_P (dC, dI) vwCl [(h0, .inr (3, [.int v0, .long v1, .long v2, .long v3, .long v4, .long v5, .long r_2.2.1, .long r_2.2.2.1, .long r_2.2.2.2.1, .long r_2.2.2.2.2, .long v10, .long v11, .long v12, .int v13, .ref h1])), (h1, .inl (cI, 6600, .inl vR))] H := hP
      have hD : va_D A [(h0, .inr (3, [.int v0, .long v1, .long v2, .long v3, .long v4, .long v5, .long r_2.2.1, .long r_2.2.2.1, .long r_2.2.2.2.1, .long r_2.2.2.2.2, .long v10, .long v11, .long v12, .int v13, .ref h1])), (h1, .inl (cI, 6600, .inl vR))] := hD
      refine W.widen (k := 0) (n := 0) (Nat.le_refl _) (Nat.le_refl _) ?_
      refine lz_zeq (tgt := 33) hx hb dX3_ring_14 (by decide) (fun c_8 => ?_) (fun c_8 => ?_)
      · have hr := (if_pos c_8).symm.trans hr
        refine lv_iconst (v := 1) hx hb dX3_ring_33 (by decide) ?_
        refine va_put (D := (dC, dI)) (ci := 3) (v := .int 1) (ty := .int) (C := RX3) (T := TX3) (N := 15) hx hb hts in_X3_ring_X3 tyX3 tyX3_ok nmX3 hown hK hP hD hS 0 rfl rfl 0 (by decide) (hts (.fieldLink RX3 44 "FormRingModel" "code" "I") (by decide +kernel)) (fun _ h9 => h9) rfl (by decide +kernel) rfl rfl (Nat.le_of_ble_eq_true rfl) dX3_ring_34 (fun H locs hP hD hS => ?_)
        have hP : va_P (dC, dI) vwCl [(h0, .inr (3, [.int 1, .long v1, .long v2, .long v3, .long v4, .long v5, .long r_2.2.1, .long r_2.2.2.1, .long r_2.2.2.2.1, .long r_2.2.2.2.2, .long v10, .long v11, .long v12, .int v13, .ref h1])), (h1, .inl (cI, 6600, .inl vR))] H := hP
        have hD : va_D A [(h0, .inr (3, [.int 1, .long v1, .long v2, .long v3, .long v4, .long v5, .long r_2.2.1, .long r_2.2.2.1, .long r_2.2.2.2.1, .long r_2.2.2.2.2, .long v10, .long v11, .long v12, .int v13, .ref h1])), (h1, .inl (cI, 6600, .inl vR))] := hD
        exact k_X3_ring_37 hx hb hrt hml hown hlocks hts hA hK n out 1 r_2.2.1 r_2.2.2.1 r_2.2.2.2.1 r_2.2.2.2.2 hr _ _ _ hP hD hS (lv_sub hl [0, 1, 2] rfl)
      · have hr := (if_neg c_8).symm.trans hr
        refine lv_iload_n hx hb dX3_ring_17 rfl (lv_at hl 2 rfl) ?_
        refine lv_i2l hx hb dX3_ring_18 rfl ?_
        refine lv_lconst (v := 0) hx hb dX3_ring_19 (by decide) ?_
        refine lv_ldc2 (v := 2) hx hb hown (hts (.constantLong RX3 81 (2)) (by decide +kernel)) dX3_ring_20 ?_
        cases e_9 : f_X3_in n a2.toInt64 0 2 with
        | none => rw [e_9, Option.bind_none] at hr; cases hr
        | some r_10 =>
          rw [e_9, Option.bind_some] at hr
          have hPc := hP.sub (ws' := []) [] rfl
          have hDc := hD.sub (ws' := []) [] (by decide) rfl
          have hKc := hK.sub (tys' := []) [] rfl
          have hFc := va_free (wc := []) hD hS hA [] rfl
          refine va_calli (va_runS (As := [.long a2.toInt64, .long 0, .long 2]) (rest := [.ref h0]) ⟨hx, hb, hml, hown, hts⟩ (c_X3_in l dC dI H.size  a2.toInt64 0 2 n _ e_9) (va_cwS 3 hts gX3_ring_X3_in rfl rfl rfl (by decide +kernel) ⟨Nat.le_of_ble_eq_true rfl, Nat.le_of_ble_eq_true rfl⟩) ⟨fun a U g mk q => by obtain ⟨q0, q1, qP, qK, qD⟩ := q; exact ⟨q0, q1, qP, va_K.moved (u := U) (U := U.calling g mk a) (Vm.Alike.refl U.vm) qK, qD⟩, fun U hU hW => ⟨rfl, by rw [hU], by rw [hU]; exact hPc, va_K.moved hW.alike hKc, hDc.weaken (fun _ _ _ _ => trivial)⟩⟩ rfl rfl hl.1 rfl (lv_room (Nat.le_of_ble_eq_true rfl)) dX3_ring_23 ⟨Nat.zero_le _, Nat.zero_le _⟩) hS (fun q _ h => hFc q h) hFc (fun x_11 _ t H1 locs ht hvm hw hB hz1 hk1 hS => ?_)
          obtain ⟨hw, z_12⟩ := hw
          have hw := hw.symm
          subst hw
          obtain ⟨hP1, hK1, hD1⟩ := hB
          rw [ht] at hP1
          obtain ⟨hP, hD⟩ := va_join (wr := [(h0, .inr (3, [.int v0, .long v1, .long v2, .long v3, .long v4, .long v5, .long r_2.2.1, .long r_2.2.2.1, .long r_2.2.2.2.1, .long r_2.2.2.2.2, .long v10, .long v11, .long v12, .int v13, .ref h1])), (h1, .inl (cI, 6600, .inl vR))]) (w1 := []) hP hD [] [0, 1] rfl rfl (by decide) (by decide) hk1 hFc hP1 hD1
          generalize H1 = H at hP hS ⊢
          have hP : va_P (dC, dI) vwCl [(h0, .inr (3, [.int v0, .long v1, .long v2, .long v3, .long v4, .long v5, .long r_2.2.1, .long r_2.2.2.1, .long r_2.2.2.2.1, .long r_2.2.2.2.2, .long v10, .long v11, .long v12, .int v13, .ref h1])), (h1, .inl (cI, 6600, .inl vR))] H := hP
          have hD : va_D A [(h0, .inr (3, [.int v0, .long v1, .long v2, .long v3, .long v4, .long v5, .long r_2.2.1, .long r_2.2.2.1, .long r_2.2.2.2.1, .long r_2.2.2.2.2, .long v10, .long v11, .long v12, .int v13, .ref h1])), (h1, .inl (cI, 6600, .inl vR))] := hD
          refine W.widen (k := 0) (n := 0) (Nat.le_refl _) (Nat.le_refl _) ?_
          refine lz_zeq (tgt := 33) hx hb dX3_ring_26 (by decide) (fun c_13 => ?_) (fun c_13 => ?_)
          · have hr := (if_pos c_13).symm.trans hr
            refine lv_iconst (v := 1) hx hb dX3_ring_33 (by decide) ?_
            refine va_put (D := (dC, dI)) (ci := 3) (v := .int 1) (ty := .int) (C := RX3) (T := TX3) (N := 15) hx hb hts in_X3_ring_X3 tyX3 tyX3_ok nmX3 hown hK hP hD hS 0 rfl rfl 0 (by decide) (hts (.fieldLink RX3 44 "FormRingModel" "code" "I") (by decide +kernel)) (fun _ h9 => h9) rfl (by decide +kernel) rfl rfl (Nat.le_of_ble_eq_true rfl) dX3_ring_34 (fun H locs hP hD hS => ?_)
            have hP : va_P (dC, dI) vwCl [(h0, .inr (3, [.int 1, .long v1, .long v2, .long v3, .long v4, .long v5, .long r_2.2.1, .long r_2.2.2.1, .long r_2.2.2.2.1, .long r_2.2.2.2.2, .long v10, .long v11, .long v12, .int v13, .ref h1])), (h1, .inl (cI, 6600, .inl vR))] H := hP
            have hD : va_D A [(h0, .inr (3, [.int 1, .long v1, .long v2, .long v3, .long v4, .long v5, .long r_2.2.1, .long r_2.2.2.1, .long r_2.2.2.2.1, .long r_2.2.2.2.2, .long v10, .long v11, .long v12, .int v13, .ref h1])), (h1, .inl (cI, 6600, .inl vR))] := hD
            exact k_X3_ring_37 hx hb hrt hml hown hlocks hts hA hK n out 1 r_2.2.1 r_2.2.2.1 r_2.2.2.2.1 r_2.2.2.2.2 hr _ _ _ hP hD hS (lv_sub hl [0, 1, 2] rfl)
          · have hr := (if_neg c_13).symm.trans hr
            refine lv_iconst (v := 0) hx hb dX3_ring_29 (by decide) ?_
            refine lv_goto (tgt := 34) hx hb dX3_ring_30 (by decide) ?_
            refine va_put (D := (dC, dI)) (ci := 3) (v := .int 0) (ty := .int) (C := RX3) (T := TX3) (N := 15) hx hb hts in_X3_ring_X3 tyX3 tyX3_ok nmX3 hown hK hP hD hS 0 rfl rfl 0 (by decide) (hts (.fieldLink RX3 44 "FormRingModel" "code" "I") (by decide +kernel)) (fun _ h9 => h9) rfl (by decide +kernel) rfl rfl (Nat.le_of_ble_eq_true rfl) dX3_ring_34 (fun H locs hP hD hS => ?_)
            have hP : va_P (dC, dI) vwCl [(h0, .inr (3, [.int 0, .long v1, .long v2, .long v3, .long v4, .long v5, .long r_2.2.1, .long r_2.2.2.1, .long r_2.2.2.2.1, .long r_2.2.2.2.2, .long v10, .long v11, .long v12, .int v13, .ref h1])), (h1, .inl (cI, 6600, .inl vR))] H := hP
            have hD : va_D A [(h0, .inr (3, [.int 0, .long v1, .long v2, .long v3, .long v4, .long v5, .long r_2.2.1, .long r_2.2.2.1, .long r_2.2.2.2.1, .long r_2.2.2.2.2, .long v10, .long v11, .long v12, .int v13, .ref h1])), (h1, .inl (cI, 6600, .inl vR))] := hD
            exact k_X3_ring_37 hx hb hrt hml hown hlocks hts hA hK n out 0 r_2.2.1 r_2.2.2.1 r_2.2.2.2.1 r_2.2.2.2.2 hr _ _ _ hP hD hS (lv_sub hl [0, 1, 2] rfl)

theorem in_X3_together_X3 : ∀ w ∈ u_ws RX3 TX3 15, w ∈ wsX3_together := by decide +kernel
def f_X3_together_21 (n : Nat) (v4 : Int64) (v5 : Int64) (v10 : Int64) (v11 : Int64) (a1 : Int32) (a2 : Int32) (a3 : Int32) (w0_0 : Int32) (w0_6 : Int64) (w0_7 : Int64) (w0_8 : Int64) (w0_9 : Int64) : Option (Int32 × Int32 × Int64 × Int64 × Int64 × Int64) := if 0 < w0_0 then (some (0, w0_0, w0_6, w0_7, w0_8, w0_9)) else ((f_X3_discriminant n a1.toInt64 a2.toInt64 a3.toInt64).bind (fun r_3 => if r_3 = v4 then ((f_X3_begin n a1.toInt64 a2.toInt64 a3.toInt64).bind (fun r_7 => (f_X3_toReduced n r_7.1 r_7.2.1 r_7.2.2 w0_9 v4 v5).bind (fun r_10 => (f_X3_toName n r_10.1 r_10.2.1 r_10.2.2.1 r_10.2.2.2 v4 v5).bind (fun r_13 => (f_X3_isName n r_13.1 r_13.2.1 v10 v11).bind (fun r_16 => some (r_16, w0_0, r_13.1, r_13.2.1, r_13.2.2.1, r_13.2.2.2)))))) else (some (0, w0_0, w0_6, w0_7, w0_8, w0_9))))
set_option maxHeartbeats 4000000 in
set_option maxRecDepth 100000 in
theorem k_X3_together_21 {p : Program} {l : Launch} {e : Env} {s : State} {m : MethodId} {args : Array Value} {below : List Frame} {meth : Method} {c : Code} {dC : Nat → ClassId} {dI : Nat → Nat → Nat} {A : Nat → Prop} {h0 : Nat} {h1 : Nat} {cI : ClassId} {v1 : Int64} {v2 : Int64} {v3 : Int64} {v4 : Int64} {v5 : Int64} {v10 : Int64} {v11 : Int64} {v12 : Int64} {v13 : Int32} {vR : Nat → Int32} {a1 : Int32} {a2 : Int32} {a3 : Int32} (hx : p.tables.exec = Jvm.exec) (hb : c.code = cX3_together) (hrt : meth.sig.returnType = (some .boolean)) (hml : c.maxLocals = 4) (hown : s.vm.findClass RX3 = some m.cls) (hlocks : meth.locks = false) (hts : ∀ w ∈ wsX3_together, w.before args s = true) (hA : ∀ q : Nat, s.heap.size ≤ q → A q) (hK : va_K (dC, dI) vwCl [(cI, .int)] s)  (n : Nat) (out : Int32 × Int32 × Int64 × Int64 × Int64 × Int64) :
    ∀ (w0_0 : Int32) (w0_6 : Int64) (w0_7 : Int64) (w0_8 : Int64) (w0_9 : Int64), f_X3_together_21 n v4 v5 v10 v11 a1 a2 a3 w0_0 w0_6 w0_7 w0_8 w0_9 = some out → ∀ (H : Heap) (locs : List Loc) (ls : Array Slot), va_P (dC, dI) vwCl [(h0, .inr (3, [.int w0_0, .long v1, .long v2, .long v3, .long v4, .long v5, .long w0_6, .long w0_7, .long w0_8, .long w0_9, .long v10, .long v11, .long v12, .int v13, .ref h1])), (h1, .inl (cI, 6600, .inl vR))] H → va_D A [(h0, .inr (3, [.int w0_0, .long v1, .long v2, .long v3, .long v4, .long v5, .long w0_6, .long w0_7, .long w0_8, .long w0_9, .long v10, .long v11, .long v12, .int v13, .ref h1])), (h1, .inl (cI, 6600, .inl vR))] → va_S A s.heap H locs → lv_has ls 4 [(0, .ref h0), (1, .int a1), (2, .int a2), (3, .int a3)] → W p l e ({ frames := 3, cells := 0, slots := 0, locals := 91 }) s m args below meth c H locs 0 0 (MQ below (va_Qi (fun r (_ : Unit) => r = out.1 ∧ narrow .boolean (.int r) = .int r) (fun (_ : Unit) t => zB dC dI [(cI, .int)] A [(h0, .inr (3, [.int out.2.1, .long v1, .long v2, .long v3, .long v4, .long v5, .long out.2.2.1, .long out.2.2.2.1, .long out.2.2.2.2.1, .long out.2.2.2.2.2, .long v10, .long v11, .long v12, .int v13, .ref h1])), (h1, .inl (cI, 6600, .inl vR))] t) A) args s 0 0 A) (F0 m 21 ls []) := by
  intro w0_0 w0_6 w0_7 w0_8 w0_9 hr H locs ls hP hD hS hl
  unfold f_X3_together_21 at hr
  refine lv_aload_n hx hb dX3_together_21 rfl (lv_at hl 0 rfl) ?_
  refine va_get (D := (dC, dI)) (ci := 3) (v := .int w0_0) (C := RX3) (T := TX3) (N := 15) hx hb hts in_X3_together_X3 hown hK hP 0 rfl rfl 0 (by decide) (hts (.fieldLink RX3 44 "FormRingModel" "code" "I") (by decide +kernel)) (fun _ h9 => h9) rfl dX3_together_22 ?_
  refine lz_zgt (tgt := 45) hx hb dX3_together_25 (by decide) (fun c_1 => ?_) (fun c_1 => ?_)
  · have hr := (if_pos c_1).symm.trans hr
    refine lv_iconst (v := 0) hx hb dX3_together_45 (by decide) ?_
    have ho := Option.some.inj hr
    subst ho
    exact W.zret (v := 0) hx hb hrt rfl (fun t ht hW => ⟨⟨0, (), rfl, ⟨rfl, rfl⟩, by rw [ht]; exact hP, va_K.moved hW.alike hK, hD⟩, hS.F ht⟩) hS.2.2 dX3_together_46
  · have hr := (if_neg c_1).symm.trans hr
    refine lv_iload_n hx hb dX3_together_28 rfl (lv_at hl 1 rfl) ?_
    refine lv_i2l hx hb dX3_together_29 rfl ?_
    refine lv_iload_n hx hb dX3_together_30 rfl (lv_at hl 2 rfl) ?_
    refine lv_i2l hx hb dX3_together_31 rfl ?_
    refine lv_iload_n hx hb dX3_together_32 rfl (lv_at hl 3 rfl) ?_
    refine lv_i2l hx hb dX3_together_33 rfl ?_
    cases e_2 : f_X3_discriminant n a1.toInt64 a2.toInt64 a3.toInt64 with
    | none => rw [e_2, Option.bind_none] at hr; cases hr
    | some r_3 =>
      rw [e_2, Option.bind_some] at hr
      have hPc := hP.sub (ws' := []) [] rfl
      have hDc := hD.sub (ws' := []) [] (by decide) rfl
      have hKc := hK.sub (tys' := []) [] rfl
      have hFc := va_free (wc := []) hD hS hA [] rfl
      refine va_calll (va_runS (As := [.long a1.toInt64, .long a2.toInt64, .long a3.toInt64]) (rest := []) ⟨hx, hb, hml, hown, hts⟩ (c_X3_discriminant l dC dI H.size  a1.toInt64 a2.toInt64 a3.toInt64 n _ e_2) (va_cwS 3 hts gX3_together_X3_discriminant rfl rfl rfl (by decide +kernel) ⟨Nat.le_of_ble_eq_true rfl, Nat.le_of_ble_eq_true rfl⟩) ⟨fun a U g mk q => by obtain ⟨q0, q1, qP, qK, qD⟩ := q; exact ⟨q0, q1, qP, va_K.moved (u := U) (U := U.calling g mk a) (Vm.Alike.refl U.vm) qK, qD⟩, fun U hU hW => ⟨rfl, by rw [hU], by rw [hU]; exact hPc, va_K.moved hW.alike hKc, hDc.weaken (fun _ _ _ _ => trivial)⟩⟩ rfl rfl hl.1 rfl (lv_room (Nat.le_of_ble_eq_true rfl)) dX3_together_34 ⟨Nat.zero_le _, Nat.zero_le _⟩) hS (fun q _ h => hFc q h) hFc (fun x_4 _ t H1 locs ht hvm hw hB hz1 hk1 hS => ?_)
      have hw := hw.symm
      subst hw
      obtain ⟨hP1, hK1, hD1⟩ := hB
      rw [ht] at hP1
      obtain ⟨hP, hD⟩ := va_join (wr := [(h0, .inr (3, [.int w0_0, .long v1, .long v2, .long v3, .long v4, .long v5, .long w0_6, .long w0_7, .long w0_8, .long w0_9, .long v10, .long v11, .long v12, .int v13, .ref h1])), (h1, .inl (cI, 6600, .inl vR))]) (w1 := []) hP hD [] [0, 1] rfl rfl (by decide) (by decide) hk1 hFc hP1 hD1
      generalize H1 = H at hP hS ⊢
      have hP : va_P (dC, dI) vwCl [(h0, .inr (3, [.int w0_0, .long v1, .long v2, .long v3, .long v4, .long v5, .long w0_6, .long w0_7, .long w0_8, .long w0_9, .long v10, .long v11, .long v12, .int v13, .ref h1])), (h1, .inl (cI, 6600, .inl vR))] H := hP
      have hD : va_D A [(h0, .inr (3, [.int w0_0, .long v1, .long v2, .long v3, .long v4, .long v5, .long w0_6, .long w0_7, .long w0_8, .long w0_9, .long v10, .long v11, .long v12, .int v13, .ref h1])), (h1, .inl (cI, 6600, .inl vR))] := hD
      refine W.widen (k := 0) (n := 0) (Nat.le_refl _) (Nat.le_refl _) ?_
      refine lv_aload_n hx hb dX3_together_37 rfl (lv_at hl 0 rfl) ?_
      refine va_get (D := (dC, dI)) (ci := 3) (v := .long v4) (C := RX3) (T := TX3) (N := 15) hx hb hts in_X3_together_X3 hown hK hP 0 rfl rfl 4 (by decide) (hts (.fieldLink RX3 18 "FormRingModel" "d" "J") (by decide +kernel)) (fun _ h9 => h9) rfl dX3_together_38 ?_
      refine lz_leq (tgt := 47) hx hb dX3_together_41 dX3_together_42 (by decide) (fun c_5 => ?_) (fun c_5 => ?_)
      · have hr := (if_pos c_5).symm.trans hr
        refine lv_aload_n hx hb dX3_together_47 rfl (lv_at hl 0 rfl) ?_
        refine lv_iload_n hx hb dX3_together_48 rfl (lv_at hl 1 rfl) ?_
        refine lv_i2l hx hb dX3_together_49 rfl ?_
        refine lv_iload_n hx hb dX3_together_50 rfl (lv_at hl 2 rfl) ?_
        refine lv_i2l hx hb dX3_together_51 rfl ?_
        refine lv_iload_n hx hb dX3_together_52 rfl (lv_at hl 3 rfl) ?_
        refine lv_i2l hx hb dX3_together_53 rfl ?_
        cases e_6 : f_X3_begin n a1.toInt64 a2.toInt64 a3.toInt64 with
        | none => rw [e_6, Option.bind_none] at hr; cases hr
        | some r_7 =>
          rw [e_6, Option.bind_some] at hr
          have hPc := hP.sub (ws' := [(h0, .inr (3, [.int w0_0, .long v1, .long v2, .long v3, .long v4, .long v5, .long w0_6, .long w0_7, .long w0_8, .long w0_9, .long v10, .long v11, .long v12, .int v13, .ref h1])), (h1, .inl (cI, 6600, .inl vR))]) [0, 1] rfl
          have hDc := hD.sub (ws' := [(h0, .inr (3, [.int w0_0, .long v1, .long v2, .long v3, .long v4, .long v5, .long w0_6, .long w0_7, .long w0_8, .long w0_9, .long v10, .long v11, .long v12, .int v13, .ref h1])), (h1, .inl (cI, 6600, .inl vR))]) [0, 1] (by decide) rfl
          have hKc := hK.sub (tys' := [(cI, .int)]) [0] rfl
          have hFc := va_free (wc := [(h0, .inr (3, [.int w0_0, .long v1, .long v2, .long v3, .long v4, .long v5, .long w0_6, .long w0_7, .long w0_8, .long w0_9, .long v10, .long v11, .long v12, .int v13, .ref h1])), (h1, .inl (cI, 6600, .inl vR))]) hD hS hA [0, 1] rfl
          refine va_callv (va_runV (As := [.long a1.toInt64, .long a2.toInt64, .long a3.toInt64]) (rest := []) ⟨hx, hb, hml, hown, hts⟩ (c_X3_begin l dC dI H.size h0 h1 cI w0_0 v1 v2 v3 v4 v5 w0_6 w0_7 w0_8 w0_9 v10 v11 v12 v13 vR a1.toInt64 a2.toInt64 a3.toInt64 n _ e_6) (cwV 3 hts gX3_together_X3_begin rfl rfl rfl (by decide +kernel) ⟨Nat.le_of_ble_eq_true rfl, Nat.le_of_ble_eq_true rfl⟩) ⟨fun a U g mk q => by obtain ⟨q0, q1, qP, qK, qD⟩ := q; exact ⟨q0, q1, qP, va_K.moved (u := U) (U := U.calling g mk a) (Vm.Alike.refl U.vm) qK, qD⟩, va_recv hKc hPc (ci := 3) (q0 := 0) rfl rfl, fun U hU hW => ⟨rfl, by rw [hU], by rw [hU]; exact hPc, va_K.moved hW.alike hKc, hDc.weaken (fun _ _ _ _ => trivial)⟩⟩ rfl rfl hl.1 rfl (lv_room (Nat.le_of_ble_eq_true rfl)) dX3_together_54 ⟨Nat.zero_le _, Nat.zero_le _⟩) hS (fun q _ h => hFc q h) hFc (fun _ t H1 locs ht hvm hw hB hz1 hk1 hS => ?_)
          obtain ⟨hP1, hK1, hD1⟩ := hB
          rw [ht] at hP1
          obtain ⟨hP, hD⟩ := va_join (wr := []) (w1 := [(h0, .inr (3, [.int w0_0, .long v1, .long v2, .long v3, .long v4, .long v5, .long r_7.1, .long r_7.2.1, .long r_7.2.2, .long w0_9, .long v10, .long v11, .long v12, .int v13, .ref h1])), (h1, .inl (cI, 6600, .inl vR))]) hP hD [0, 1] [] rfl rfl (by decide) (by decide) hk1 hFc hP1 hD1
          generalize H1 = H at hP hS ⊢
          have hP : va_P (dC, dI) vwCl [(h0, .inr (3, [.int w0_0, .long v1, .long v2, .long v3, .long v4, .long v5, .long r_7.1, .long r_7.2.1, .long r_7.2.2, .long w0_9, .long v10, .long v11, .long v12, .int v13, .ref h1])), (h1, .inl (cI, 6600, .inl vR))] H := hP
          have hD : va_D A [(h0, .inr (3, [.int w0_0, .long v1, .long v2, .long v3, .long v4, .long v5, .long r_7.1, .long r_7.2.1, .long r_7.2.2, .long w0_9, .long v10, .long v11, .long v12, .int v13, .ref h1])), (h1, .inl (cI, 6600, .inl vR))] := hD
          refine W.widen (k := 0) (n := 0) (Nat.le_refl _) (Nat.le_refl _) ?_
          refine lv_aload_n hx hb dX3_together_57 rfl (lv_at hl 0 rfl) ?_
          refine lv_aload_n hx hb dX3_together_58 rfl (lv_at hl 0 rfl) ?_
          refine va_get (D := (dC, dI)) (ci := 3) (v := .long v4) (C := RX3) (T := TX3) (N := 15) hx hb hts in_X3_together_X3 hown hK hP 0 rfl rfl 4 (by decide) (hts (.fieldLink RX3 18 "FormRingModel" "d" "J") (by decide +kernel)) (fun _ h9 => h9) rfl dX3_together_59 ?_
          refine lv_aload_n hx hb dX3_together_62 rfl (lv_at hl 0 rfl) ?_
          refine va_get (D := (dC, dI)) (ci := 3) (v := .long v5) (C := RX3) (T := TX3) (N := 15) hx hb hts in_X3_together_X3 hown hK hP 0 rfl rfl 5 (by decide) (hts (.fieldLink RX3 23 "FormRingModel" "w" "J") (by decide +kernel)) (fun _ h9 => h9) rfl dX3_together_63 ?_
          cases e_9 : f_X3_toReduced n r_7.1 r_7.2.1 r_7.2.2 w0_9 v4 v5 with
          | none => rw [e_9, Option.bind_none] at hr; cases hr
          | some r_10 =>
            rw [e_9, Option.bind_some] at hr
            have hPc := hP.sub (ws' := [(h0, .inr (3, [.int w0_0, .long v1, .long v2, .long v3, .long v4, .long v5, .long r_7.1, .long r_7.2.1, .long r_7.2.2, .long w0_9, .long v10, .long v11, .long v12, .int v13, .ref h1])), (h1, .inl (cI, 6600, .inl vR))]) [0, 1] rfl
            have hDc := hD.sub (ws' := [(h0, .inr (3, [.int w0_0, .long v1, .long v2, .long v3, .long v4, .long v5, .long r_7.1, .long r_7.2.1, .long r_7.2.2, .long w0_9, .long v10, .long v11, .long v12, .int v13, .ref h1])), (h1, .inl (cI, 6600, .inl vR))]) [0, 1] (by decide) rfl
            have hKc := hK.sub (tys' := [(cI, .int)]) [0] rfl
            have hFc := va_free (wc := [(h0, .inr (3, [.int w0_0, .long v1, .long v2, .long v3, .long v4, .long v5, .long r_7.1, .long r_7.2.1, .long r_7.2.2, .long w0_9, .long v10, .long v11, .long v12, .int v13, .ref h1])), (h1, .inl (cI, 6600, .inl vR))]) hD hS hA [0, 1] rfl
            refine va_callv (va_runV (As := [.long v4, .long v5]) (rest := []) ⟨hx, hb, hml, hown, hts⟩ (c_X3_toReduced l dC dI H.size h0 h1 cI w0_0 v1 v2 v3 v4 v5 r_7.1 r_7.2.1 r_7.2.2 w0_9 v10 v11 v12 v13 vR v4 v5 n _ e_9) (cwV 2 hts gX3_together_X3_toReduced rfl rfl rfl (by decide +kernel) ⟨Nat.le_of_ble_eq_true rfl, Nat.le_of_ble_eq_true rfl⟩) ⟨fun a U g mk q => by obtain ⟨q0, q1, qP, qK, qD⟩ := q; exact ⟨q0, q1, qP, va_K.moved (u := U) (U := U.calling g mk a) (Vm.Alike.refl U.vm) qK, qD⟩, va_recv hKc hPc (ci := 3) (q0 := 0) rfl rfl, fun U hU hW => ⟨rfl, by rw [hU], by rw [hU]; exact hPc, va_K.moved hW.alike hKc, hDc.weaken (fun _ _ _ _ => trivial)⟩⟩ rfl rfl hl.1 rfl (lv_room (Nat.le_of_ble_eq_true rfl)) dX3_together_66 ⟨Nat.zero_le _, Nat.zero_le _⟩) hS (fun q _ h => hFc q h) hFc (fun _ t H1 locs ht hvm hw hB hz1 hk1 hS => ?_)
            obtain ⟨hP1, hK1, hD1⟩ := hB
            rw [ht] at hP1
            obtain ⟨hP, hD⟩ := va_join (wr := []) (w1 := [(h0, .inr (3, [.int w0_0, .long v1, .long v2, .long v3, .long v4, .long v5, .long r_10.1, .long r_10.2.1, .long r_10.2.2.1, .long r_10.2.2.2, .long v10, .long v11, .long v12, .int v13, .ref h1])), (h1, .inl (cI, 6600, .inl vR))]) hP hD [0, 1] [] rfl rfl (by decide) (by decide) hk1 hFc hP1 hD1
            generalize H1 = H at hP hS ⊢
            have hP : va_P (dC, dI) vwCl [(h0, .inr (3, [.int w0_0, .long v1, .long v2, .long v3, .long v4, .long v5, .long r_10.1, .long r_10.2.1, .long r_10.2.2.1, .long r_10.2.2.2, .long v10, .long v11, .long v12, .int v13, .ref h1])), (h1, .inl (cI, 6600, .inl vR))] H := hP
            have hD : va_D A [(h0, .inr (3, [.int w0_0, .long v1, .long v2, .long v3, .long v4, .long v5, .long r_10.1, .long r_10.2.1, .long r_10.2.2.1, .long r_10.2.2.2, .long v10, .long v11, .long v12, .int v13, .ref h1])), (h1, .inl (cI, 6600, .inl vR))] := hD
            refine W.widen (k := 0) (n := 0) (Nat.le_refl _) (Nat.le_refl _) ?_
            refine lv_aload_n hx hb dX3_together_69 rfl (lv_at hl 0 rfl) ?_
            refine lv_aload_n hx hb dX3_together_70 rfl (lv_at hl 0 rfl) ?_
            refine va_get (D := (dC, dI)) (ci := 3) (v := .long v4) (C := RX3) (T := TX3) (N := 15) hx hb hts in_X3_together_X3 hown hK hP 0 rfl rfl 4 (by decide) (hts (.fieldLink RX3 18 "FormRingModel" "d" "J") (by decide +kernel)) (fun _ h9 => h9) rfl dX3_together_71 ?_
            refine lv_aload_n hx hb dX3_together_74 rfl (lv_at hl 0 rfl) ?_
            refine va_get (D := (dC, dI)) (ci := 3) (v := .long v5) (C := RX3) (T := TX3) (N := 15) hx hb hts in_X3_together_X3 hown hK hP 0 rfl rfl 5 (by decide) (hts (.fieldLink RX3 23 "FormRingModel" "w" "J") (by decide +kernel)) (fun _ h9 => h9) rfl dX3_together_75 ?_
            cases e_12 : f_X3_toName n r_10.1 r_10.2.1 r_10.2.2.1 r_10.2.2.2 v4 v5 with
            | none => rw [e_12, Option.bind_none] at hr; cases hr
            | some r_13 =>
              rw [e_12, Option.bind_some] at hr
              have hPc := hP.sub (ws' := [(h0, .inr (3, [.int w0_0, .long v1, .long v2, .long v3, .long v4, .long v5, .long r_10.1, .long r_10.2.1, .long r_10.2.2.1, .long r_10.2.2.2, .long v10, .long v11, .long v12, .int v13, .ref h1])), (h1, .inl (cI, 6600, .inl vR))]) [0, 1] rfl
              have hDc := hD.sub (ws' := [(h0, .inr (3, [.int w0_0, .long v1, .long v2, .long v3, .long v4, .long v5, .long r_10.1, .long r_10.2.1, .long r_10.2.2.1, .long r_10.2.2.2, .long v10, .long v11, .long v12, .int v13, .ref h1])), (h1, .inl (cI, 6600, .inl vR))]) [0, 1] (by decide) rfl
              have hKc := hK.sub (tys' := [(cI, .int)]) [0] rfl
              have hFc := va_free (wc := [(h0, .inr (3, [.int w0_0, .long v1, .long v2, .long v3, .long v4, .long v5, .long r_10.1, .long r_10.2.1, .long r_10.2.2.1, .long r_10.2.2.2, .long v10, .long v11, .long v12, .int v13, .ref h1])), (h1, .inl (cI, 6600, .inl vR))]) hD hS hA [0, 1] rfl
              refine va_callv (va_runV (As := [.long v4, .long v5]) (rest := []) ⟨hx, hb, hml, hown, hts⟩ (c_X3_toName l dC dI H.size h0 h1 cI w0_0 v1 v2 v3 v4 v5 r_10.1 r_10.2.1 r_10.2.2.1 r_10.2.2.2 v10 v11 v12 v13 vR v4 v5 n _ e_12) (cwV 2 hts gX3_together_X3_toName rfl rfl rfl (by decide +kernel) ⟨Nat.le_of_ble_eq_true rfl, Nat.le_of_ble_eq_true rfl⟩) ⟨fun a U g mk q => by obtain ⟨q0, q1, qP, qK, qD⟩ := q; exact ⟨q0, q1, qP, va_K.moved (u := U) (U := U.calling g mk a) (Vm.Alike.refl U.vm) qK, qD⟩, va_recv hKc hPc (ci := 3) (q0 := 0) rfl rfl, fun U hU hW => ⟨rfl, by rw [hU], by rw [hU]; exact hPc, va_K.moved hW.alike hKc, hDc.weaken (fun _ _ _ _ => trivial)⟩⟩ rfl rfl hl.1 rfl (lv_room (Nat.le_of_ble_eq_true rfl)) dX3_together_78 ⟨Nat.zero_le _, Nat.zero_le _⟩) hS (fun q _ h => hFc q h) hFc (fun _ t H1 locs ht hvm hw hB hz1 hk1 hS => ?_)
              obtain ⟨hP1, hK1, hD1⟩ := hB
              rw [ht] at hP1
              obtain ⟨hP, hD⟩ := va_join (wr := []) (w1 := [(h0, .inr (3, [.int w0_0, .long v1, .long v2, .long v3, .long v4, .long v5, .long r_13.1, .long r_13.2.1, .long r_13.2.2.1, .long r_13.2.2.2, .long v10, .long v11, .long v12, .int v13, .ref h1])), (h1, .inl (cI, 6600, .inl vR))]) hP hD [0, 1] [] rfl rfl (by decide) (by decide) hk1 hFc hP1 hD1
              generalize H1 = H at hP hS ⊢
              have hP : va_P (dC, dI) vwCl [(h0, .inr (3, [.int w0_0, .long v1, .long v2, .long v3, .long v4, .long v5, .long r_13.1, .long r_13.2.1, .long r_13.2.2.1, .long r_13.2.2.2, .long v10, .long v11, .long v12, .int v13, .ref h1])), (h1, .inl (cI, 6600, .inl vR))] H := hP
              have hD : va_D A [(h0, .inr (3, [.int w0_0, .long v1, .long v2, .long v3, .long v4, .long v5, .long r_13.1, .long r_13.2.1, .long r_13.2.2.1, .long r_13.2.2.2, .long v10, .long v11, .long v12, .int v13, .ref h1])), (h1, .inl (cI, 6600, .inl vR))] := hD
              refine W.widen (k := 0) (n := 0) (Nat.le_refl _) (Nat.le_refl _) ?_
              refine lv_aload_n hx hb dX3_together_81 rfl (lv_at hl 0 rfl) ?_
              cases e_15 : f_X3_isName n r_13.1 r_13.2.1 v10 v11 with
              | none => rw [e_15, Option.bind_none] at hr; cases hr
              | some r_16 =>
                rw [e_15, Option.bind_some] at hr
                have hPc := hP.sub (ws' := [(h0, .inr (3, [.int w0_0, .long v1, .long v2, .long v3, .long v4, .long v5, .long r_13.1, .long r_13.2.1, .long r_13.2.2.1, .long r_13.2.2.2, .long v10, .long v11, .long v12, .int v13, .ref h1])), (h1, .inl (cI, 6600, .inl vR))]) [0, 1] rfl
                have hDc := hD.sub (ws' := [(h0, .inr (3, [.int w0_0, .long v1, .long v2, .long v3, .long v4, .long v5, .long r_13.1, .long r_13.2.1, .long r_13.2.2.1, .long r_13.2.2.2, .long v10, .long v11, .long v12, .int v13, .ref h1])), (h1, .inl (cI, 6600, .inl vR))]) [0, 1] (by decide) rfl
                have hKc := hK.sub (tys' := [(cI, .int)]) [0] rfl
                have hFc := va_free (wc := [(h0, .inr (3, [.int w0_0, .long v1, .long v2, .long v3, .long v4, .long v5, .long r_13.1, .long r_13.2.1, .long r_13.2.2.1, .long r_13.2.2.2, .long v10, .long v11, .long v12, .int v13, .ref h1])), (h1, .inl (cI, 6600, .inl vR))]) hD hS hA [0, 1] rfl
                refine va_calli (va_runV (As := []) (rest := []) ⟨hx, hb, hml, hown, hts⟩ (c_X3_isName l dC dI H.size h0 h1 cI w0_0 v1 v2 v3 v4 v5 r_13.1 r_13.2.1 r_13.2.2.1 r_13.2.2.2 v10 v11 v12 v13 vR  n _ e_15) (cwV 0 hts gX3_together_X3_isName rfl rfl rfl (by decide +kernel) ⟨Nat.le_of_ble_eq_true rfl, Nat.le_of_ble_eq_true rfl⟩) ⟨fun a U g mk q => by obtain ⟨q0, q1, qP, qK, qD⟩ := q; exact ⟨q0, q1, qP, va_K.moved (u := U) (U := U.calling g mk a) (Vm.Alike.refl U.vm) qK, qD⟩, va_recv hKc hPc (ci := 3) (q0 := 0) rfl rfl, fun U hU hW => ⟨rfl, by rw [hU], by rw [hU]; exact hPc, va_K.moved hW.alike hKc, hDc.weaken (fun _ _ _ _ => trivial)⟩⟩ rfl rfl hl.1 rfl (lv_room (Nat.le_of_ble_eq_true rfl)) dX3_together_82 ⟨Nat.zero_le _, Nat.zero_le _⟩) hS (fun q _ h => hFc q h) hFc (fun x_17 _ t H1 locs ht hvm hw hB hz1 hk1 hS => ?_)
                obtain ⟨hw, z_18⟩ := hw
                have hw := hw.symm
                subst hw
                obtain ⟨hP1, hK1, hD1⟩ := hB
                rw [ht] at hP1
                obtain ⟨hP, hD⟩ := va_join (wr := []) (w1 := [(h0, .inr (3, [.int w0_0, .long v1, .long v2, .long v3, .long v4, .long v5, .long r_13.1, .long r_13.2.1, .long r_13.2.2.1, .long r_13.2.2.2, .long v10, .long v11, .long v12, .int v13, .ref h1])), (h1, .inl (cI, 6600, .inl vR))]) hP hD [0, 1] [] rfl rfl (by decide) (by decide) hk1 hFc hP1 hD1
                generalize H1 = H at hP hS ⊢
                have hP : va_P (dC, dI) vwCl [(h0, .inr (3, [.int w0_0, .long v1, .long v2, .long v3, .long v4, .long v5, .long r_13.1, .long r_13.2.1, .long r_13.2.2.1, .long r_13.2.2.2, .long v10, .long v11, .long v12, .int v13, .ref h1])), (h1, .inl (cI, 6600, .inl vR))] H := hP
                have hD : va_D A [(h0, .inr (3, [.int w0_0, .long v1, .long v2, .long v3, .long v4, .long v5, .long r_13.1, .long r_13.2.1, .long r_13.2.2.1, .long r_13.2.2.2, .long v10, .long v11, .long v12, .int v13, .ref h1])), (h1, .inl (cI, 6600, .inl vR))] := hD
                refine W.widen (k := 0) (n := 0) (Nat.le_refl _) (Nat.le_refl _) ?_
                have ho := Option.some.inj hr
                subst ho
                exact W.zret (v := r_16) hx hb hrt z_18 (fun t ht hW => ⟨⟨r_16, (), rfl, ⟨rfl, z_18⟩, by rw [ht]; exact hP, va_K.moved hW.alike hK, hD⟩, hS.F ht⟩) hS.2.2 dX3_together_85
      · have hr := (if_neg c_5).symm.trans hr
        refine lv_iconst (v := 0) hx hb dX3_together_45 (by decide) ?_
        have ho := Option.some.inj hr
        subst ho
        exact W.zret (v := 0) hx hb hrt rfl (fun t ht hW => ⟨⟨0, (), rfl, ⟨rfl, rfl⟩, by rw [ht]; exact hP, va_K.moved hW.alike hK, hD⟩, hS.F ht⟩) hS.2.2 dX3_together_46
def f_X3_together (n : Nat) (v4 : Int64) (v5 : Int64) (v6 : Int64) (v7 : Int64) (v8 : Int64) (v9 : Int64) (v10 : Int64) (v11 : Int64) (a1 : Int32) (a2 : Int32) (a3 : Int32) : Option (Int32 × Int32 × Int64 × Int64 × Int64 × Int64) := (f_X3_canBeTaken n a1.toInt64 a2.toInt64 a3.toInt64).bind (fun r_2 => if r_2 = 0 then (f_X3_together_21 n v4 v5 v10 v11 a1 a2 a3 1 v6 v7 v8 v9) else (f_X3_together_21 n v4 v5 v10 v11 a1 a2 a3 0 v6 v7 v8 v9))
set_option maxHeartbeats 4000000 in
set_option maxRecDepth 100000 in
theorem c_X3_together (l : Launch) (dC : Nat → ClassId) (dI : Nat → Nat → Nat) (sz : Nat) (h0 : Nat) (h1 : Nat) (cI : ClassId) (v0 : Int32) (v1 : Int64) (v2 : Int64) (v3 : Int64) (v4 : Int64) (v5 : Int64) (v6 : Int64) (v7 : Int64) (v8 : Int64) (v9 : Int64) (v10 : Int64) (v11 : Int64) (v12 : Int64) (v13 : Int32) (vR : Nat → Int32) (a1 : Int32) (a2 : Int32) (a3 : Int32)  (n : Nat) (out : Int32 × Int32 × Int64 × Int64 × Int64 × Int64) (hr : f_X3_together n v4 v5 v6 v7 v8 v9 v10 v11 a1 a2 a3 = some out) : Met l yX3_together wsX3_together ({ frames := 3, cells := 0, slots := 0, locals := 91 }) (va_Pc [.ref h0, .int a1, .int a2, .int a3] (zP dC dI [(cI, .int)] [(h0, .inr (3, [.int v0, .long v1, .long v2, .long v3, .long v4, .long v5, .long v6, .long v7, .long v8, .long v9, .long v10, .long v11, .long v12, .int v13, .ref h1])), (h1, .inl (cI, 6600, .inl vR))] sz)) (va_Qi (fun r (_ : Unit) => r = out.1 ∧ narrow .boolean (.int r) = .int r) (fun (_ : Unit) t => zB dC dI [(cI, .int)] (va_A [(h0, .inr (3, [.int v0, .long v1, .long v2, .long v3, .long v4, .long v5, .long v6, .long v7, .long v8, .long v9, .long v10, .long v11, .long v12, .int v13, .ref h1])), (h1, .inl (cI, 6600, .inl vR))] sz) [(h0, .inr (3, [.int out.2.1, .long v1, .long v2, .long v3, .long v4, .long v5, .long out.2.2.1, .long out.2.2.2.1, .long out.2.2.2.2.1, .long out.2.2.2.2.2, .long v10, .long v11, .long v12, .int v13, .ref h1])), (h1, .inl (cI, 6600, .inl vR))] t) (va_A [(h0, .inr (3, [.int v0, .long v1, .long v2, .long v3, .long v4, .long v5, .long v6, .long v7, .long v8, .long v9, .long v10, .long v11, .long v12, .int v13, .ref h1])), (h1, .inl (cI, 6600, .inl vR))] sz)) 0 0 (va_A [(h0, .inr (3, [.int v0, .long v1, .long v2, .long v3, .long v4, .long v5, .long v6, .long v7, .long v8, .long v9, .long v10, .long v11, .long v12, .int v13, .ref h1])), (h1, .inl (cI, 6600, .inl vR))] sz) := by
  refine Met.ofW (cc := cX3_together) (maxL := 4) (ret := (some .boolean)) (by decide) rfl ?_
  intro p e s m args below meth c s₁ B hml hv
  obtain ⟨rfl, hsz, hP, hK, hD0⟩ := hv
  have hx := B.exec
  have hb := B.bytes
  have hrt := B.returns
  have hts := atoms_spec (ws := wsX3_together) B.pre
  have hown : s.vm.findClass RX3 = some m.cls := findClass_of_methodNamed B.named
  have hlocks := B.notSynchronized
  subst hsz
  have hD := hD0.self (sz := s.heap.size)
  generalize hAe : va_A [(h0, .inr (3, [.int v0, .long v1, .long v2, .long v3, .long v4, .long v5, .long v6, .long v7, .long v8, .long v9, .long v10, .long v11, .long v12, .int v13, .ref h1])), (h1, .inl (cI, 6600, .inl vR))] s.heap.size = A at hD ⊢
  have hA : ∀ q : Nat, s.heap.size ≤ q → A q := fun q h => by rw [← hAe]; exact Or.inr h
  have hS : va_S A s.heap s.heap [] := va_S.rf
  have hP : va_P (dC, dI) vwCl [(h0, .inr (3, [.int v0, .long v1, .long v2, .long v3, .long v4, .long v5, .long v6, .long v7, .long v8, .long v9, .long v10, .long v11, .long v12, .int v13, .ref h1])), (h1, .inl (cI, 6600, .inl vR))] s.heap := hP
  have hl := lv_entry ([.ref h0, .int a1, .int a2, .int a3]) (n := 4) (Nat.le_of_ble_eq_true rfl)
  rw [lg_entry_eq]
  generalize (lg_sl ([.ref h0, .int a1, .int a2, .int a3]) ++ List.replicate (4 - (lg_sl ([.ref h0, .int a1, .int a2, .int a3])).length) Slot.unset).toArray = ls at hl ⊢
  have hl : lv_has ls 4 [(0, .ref h0), (1, .int a1), (2, .int a2), (3, .int a3)] := hl
  unfold f_X3_together at hr
  refine lv_aload_n hx hb dX3_together_0 rfl (lv_at hl 0 rfl) ?_
  refine lv_iload_n hx hb dX3_together_1 rfl (lv_at hl 1 rfl) ?_
  refine lv_i2l hx hb dX3_together_2 rfl ?_
  refine lv_iload_n hx hb dX3_together_3 rfl (lv_at hl 2 rfl) ?_
  refine lv_i2l hx hb dX3_together_4 rfl ?_
  refine lv_iload_n hx hb dX3_together_5 rfl (lv_at hl 3 rfl) ?_
  refine lv_i2l hx hb dX3_together_6 rfl ?_
  cases e_1 : f_X3_canBeTaken n a1.toInt64 a2.toInt64 a3.toInt64 with
  | none => rw [e_1, Option.bind_none] at hr; cases hr
  | some r_2 =>
    rw [e_1, Option.bind_some] at hr
    have hPc := hP.sub (ws' := []) [] rfl
    have hDc := hD.sub (ws' := []) [] (by decide) rfl
    have hKc := hK.sub (tys' := []) [] rfl
    have hFc := va_free (wc := []) hD hS hA [] rfl
    refine va_calli (va_runS (As := [.long a1.toInt64, .long a2.toInt64, .long a3.toInt64]) (rest := [.ref h0]) ⟨hx, hb, hml, hown, hts⟩ (c_X3_canBeTaken l dC dI s.heap.size  a1.toInt64 a2.toInt64 a3.toInt64 n _ e_1) (va_cwS 3 hts gX3_together_X3_canBeTaken rfl rfl rfl (by decide +kernel) ⟨Nat.le_of_ble_eq_true rfl, Nat.le_of_ble_eq_true rfl⟩) ⟨fun a U g mk q => by obtain ⟨q0, q1, qP, qK, qD⟩ := q; exact ⟨q0, q1, qP, va_K.moved (u := U) (U := U.calling g mk a) (Vm.Alike.refl U.vm) qK, qD⟩, fun U hU hW => ⟨rfl, by rw [hU], by rw [hU]; exact hPc, va_K.moved hW.alike hKc, hDc.weaken (fun _ _ _ _ => trivial)⟩⟩ rfl rfl hl.1 rfl (lv_room (Nat.le_of_ble_eq_true rfl)) dX3_together_7 ⟨Nat.zero_le _, Nat.zero_le _⟩) hS (fun q _ h => hFc q h) hFc (fun x_3 _ t H1 locs ht hvm hw hB hz1 hk1 hS => ?_)
    obtain ⟨hw, z_4⟩ := hw
    have hw := hw.symm
    subst hw
    obtain ⟨hP1, hK1, hD1⟩ := hB
    rw [ht] at hP1
    obtain ⟨hP, hD⟩ := va_join (wr := [(h0, .inr (3, [.int v0, .long v1, .long v2, .long v3, .long v4, .long v5, .long v6, .long v7, .long v8, .long v9, .long v10, .long v11, .long v12, .int v13, .ref h1])), (h1, .inl (cI, 6600, .inl vR))]) (w1 := []) hP hD [] [0, 1] rfl rfl (by decide) (by decide) hk1 hFc hP1 hD1
    generalize H1 = H at hP hS ⊢
    have hP : va_P (dC, dI) vwCl [(h0, .inr (3, [.int v0, .long v1, .long v2, .long v3, .long v4, .long v5, .long v6, .long v7, .long v8, .long v9, .long v10, .long v11, .long v12, .int v13, .ref h1])), (h1, .inl (cI, 6600, .inl vR))] H := hP
    have hD : va_D A [(h0, .inr (3, [.int v0, .long v1, .long v2, .long v3, .long v4, .long v5, .long v6, .long v7, .long v8, .long v9, .long v10, .long v11, .long v12, .int v13, .ref h1])), (h1, .inl (cI, 6600, .inl vR))] := hD
    refine W.widen (k := 0) (n := 0) (Nat.le_refl _) (Nat.le_refl _) ?_
    refine lz_zeq (tgt := 17) hx hb dX3_together_10 (by decide) (fun c_5 => ?_) (fun c_5 => ?_)
    · have hr := (if_pos c_5).symm.trans hr
      refine lv_iconst (v := 1) hx hb dX3_together_17 (by decide) ?_
      refine va_put (D := (dC, dI)) (ci := 3) (v := .int 1) (ty := .int) (C := RX3) (T := TX3) (N := 15) hx hb hts in_X3_together_X3 tyX3 tyX3_ok nmX3 hown hK hP hD hS 0 rfl rfl 0 (by decide) (hts (.fieldLink RX3 44 "FormRingModel" "code" "I") (by decide +kernel)) (fun _ h9 => h9) rfl (by decide +kernel) rfl rfl (Nat.le_of_ble_eq_true rfl) dX3_together_18 (fun H locs hP hD hS => ?_)
      have hP : va_P (dC, dI) vwCl [(h0, .inr (3, [.int 1, .long v1, .long v2, .long v3, .long v4, .long v5, .long v6, .long v7, .long v8, .long v9, .long v10, .long v11, .long v12, .int v13, .ref h1])), (h1, .inl (cI, 6600, .inl vR))] H := hP
      have hD : va_D A [(h0, .inr (3, [.int 1, .long v1, .long v2, .long v3, .long v4, .long v5, .long v6, .long v7, .long v8, .long v9, .long v10, .long v11, .long v12, .int v13, .ref h1])), (h1, .inl (cI, 6600, .inl vR))] := hD
      exact k_X3_together_21 hx hb hrt hml hown hlocks hts hA hK n out 1 v6 v7 v8 v9 hr _ _ _ hP hD hS (lv_sub hl [0, 1, 2, 3] rfl)
    · have hr := (if_neg c_5).symm.trans hr
      refine lv_iconst (v := 0) hx hb dX3_together_13 (by decide) ?_
      refine lv_goto (tgt := 18) hx hb dX3_together_14 (by decide) ?_
      refine va_put (D := (dC, dI)) (ci := 3) (v := .int 0) (ty := .int) (C := RX3) (T := TX3) (N := 15) hx hb hts in_X3_together_X3 tyX3 tyX3_ok nmX3 hown hK hP hD hS 0 rfl rfl 0 (by decide) (hts (.fieldLink RX3 44 "FormRingModel" "code" "I") (by decide +kernel)) (fun _ h9 => h9) rfl (by decide +kernel) rfl rfl (Nat.le_of_ble_eq_true rfl) dX3_together_18 (fun H locs hP hD hS => ?_)
      have hP : va_P (dC, dI) vwCl [(h0, .inr (3, [.int 0, .long v1, .long v2, .long v3, .long v4, .long v5, .long v6, .long v7, .long v8, .long v9, .long v10, .long v11, .long v12, .int v13, .ref h1])), (h1, .inl (cI, 6600, .inl vR))] H := hP
      have hD : va_D A [(h0, .inr (3, [.int 0, .long v1, .long v2, .long v3, .long v4, .long v5, .long v6, .long v7, .long v8, .long v9, .long v10, .long v11, .long v12, .int v13, .ref h1])), (h1, .inl (cI, 6600, .inl vR))] := hD
      exact k_X3_together_21 hx hb hrt hml hown hlocks hts hA hK n out 0 v6 v7 v8 v9 hr _ _ _ hP hD hS (lv_sub hl [0, 1, 2, 3] rfl)
