theorem in_X2_findName_X0 : ∀ w ∈ u_ws RX0 TX0 5, w ∈ wsX2_findName := by decide +kernel
theorem in_X2_findName_X2 : ∀ w ∈ u_ws RX2 TX2 9, w ∈ wsX2_findName := by decide +kernel
def f_X2_findName_45 (n : Nat) : Nat → (s5 : Int32) → (re0 : Int64) → (re1 : Int64) → (re2 : Int64) → (wa3 : Int64) → (wa4 : Int64) → Int32 → Int32 → Int64 → Int64 → Int64 → Int64 → Int64 → Int64 → Int64 → Int64 → Option (Int32 × Int32 × Int64 × Int64 × Int64 × Int64 × Int64 × Int64 × Int64 × Int64)
  | 0, _, _, _, _, _, _, _, _, _, _, _, _, _, _, _, _ => none
  | k + 1, s5, re0, re1, re2, wa3, wa4, w0_6, w0_7, w3_0, w3_1, w3_2, w3_3, w3_4, w4_0, w4_1, w4_2 => if w0_7 < 1000000 then ((f_X0_isSame n w4_0 w4_1 w4_2 re0 re1 re2).bind (fun r_3 => if r_3 = 0 then ((f_X0_isBefore n w4_0 w4_1 w3_0 w3_1).bind (fun r_8 => if r_8 = 0 then ((f_X0_goOn n w4_0 w4_1 w4_2 wa3 wa4).bind (fun r_13 => f_X2_findName_45 n k s5 re0 re1 re2 wa3 wa4 w0_6 (w0_7 + 1) w3_0 w3_1 w3_2 w3_3 w3_4 r_13.2.1 r_13.2.2.1 r_13.2.2.2)) else ((f_X0_copy n w4_0 w4_1 w4_2 wa3 wa4).bind (fun r_16 => (f_X0_goOn n w4_0 w4_1 w4_2 wa3 wa4).bind (fun r_19 => f_X2_findName_45 n k s5 re0 re1 re2 wa3 wa4 (s5 + w0_7) (w0_7 + 1) r_16.1 r_16.2.1 r_16.2.2.1 r_16.2.2.2.1 r_16.2.2.2.2 r_19.2.1 r_19.2.2.1 r_19.2.2.2))))) else (some (w0_6, w0_7, w3_0, w3_1, w3_2, w3_3, w3_4, w4_0, w4_1, w4_2)))) else (some (w0_6, w0_7, w3_0, w3_1, w3_2, w3_3, w3_4, w4_0, w4_1, w4_2))
set_option maxHeartbeats 4000000 in
set_option maxRecDepth 100000 in
theorem k_X2_findName_45 {p : Program} {l : Launch} {e : Env} {s : State} {m : MethodId} {args : Array Value} {below : List Frame} {meth : Method} {c : Code} {dC : Nat → ClassId} {dI : Nat → Nat → Nat} {A : Nat → Prop} {h0 : Nat} {g1 : Nat} {g2 : Nat} {g3 : Nat} {g4 : Nat} {g5 : Nat} {s5 : Int32} {s8 : Int32} {ha0 : Int64} {ha1 : Int64} {ha2 : Int64} {ha3 : Int64} {ha4 : Int64} {re0 : Int64} {re1 : Int64} {re2 : Int64} {re3 : Int64} {re4 : Int64} {wa3 : Int64} {wa4 : Int64}  (hx : p.tables.exec = Jvm.exec) (hb : c.code = cX2_findName) (hrt : meth.sig.returnType = none) (hml : c.maxLocals = 1) (hown : s.vm.findClass RX2 = some m.cls) (hlocks : meth.locks = false) (hts : ∀ w ∈ wsX2_findName, w.before args s = true) (hA : ∀ q : Nat, s.heap.size ≤ q → A q) (hK : va_K (dC, dI) vwCl [] s)  (n : Nat) (out : Int32 × Int32 × Int64 × Int64 × Int64 × Int64 × Int64 × Int64 × Int64 × Int64) :
    ∀ (k : Nat) (w0_6 : Int32) (w0_7 : Int32) (w3_0 : Int64) (w3_1 : Int64) (w3_2 : Int64) (w3_3 : Int64) (w3_4 : Int64) (w4_0 : Int64) (w4_1 : Int64) (w4_2 : Int64), f_X2_findName_45 n k s5 re0 re1 re2 wa3 wa4 w0_6 w0_7 w3_0 w3_1 w3_2 w3_3 w3_4 w4_0 w4_1 w4_2 = some out → ∀ (H : Heap) (locs : List Loc) (ls : Array Slot), va_P (dC, dI) vwCl [(h0, .inr (2, [.ref g1, .ref g2, .ref g3, .ref g4, .ref g5, .int s5, .int w0_6, .int w0_7, .int s8])), (g1, .inr (0, [.long ha0, .long ha1, .long ha2, .long ha3, .long ha4])), (g2, .inr (0, [.long re0, .long re1, .long re2, .long re3, .long re4])), (g3, .inr (0, [.long w3_0, .long w3_1, .long w3_2, .long w3_3, .long w3_4])), (g4, .inr (0, [.long w4_0, .long w4_1, .long w4_2, .long wa3, .long wa4]))] H → va_D A [(h0, .inr (2, [.ref g1, .ref g2, .ref g3, .ref g4, .ref g5, .int s5, .int w0_6, .int w0_7, .int s8])), (g1, .inr (0, [.long ha0, .long ha1, .long ha2, .long ha3, .long ha4])), (g2, .inr (0, [.long re0, .long re1, .long re2, .long re3, .long re4])), (g3, .inr (0, [.long w3_0, .long w3_1, .long w3_2, .long w3_3, .long w3_4])), (g4, .inr (0, [.long w4_0, .long w4_1, .long w4_2, .long wa3, .long wa4]))] → va_S A s.heap H locs → lv_has ls 1 [(0, .ref h0)] → W p l e ({ frames := 3, cells := 0, slots := 0, locals := 77 }) s m args below meth c H locs 0 0 (MQ below (va_Qv (fun (_ : Unit) => True) (fun (_ : Unit) t => zB dC dI [] A [(h0, .inr (2, [.ref g1, .ref g2, .ref g3, .ref g4, .ref g5, .int s5, .int out.1, .int out.2.1, .int s8])), (g1, .inr (0, [.long ha0, .long ha1, .long ha2, .long ha3, .long ha4])), (g2, .inr (0, [.long re0, .long re1, .long re2, .long re3, .long re4])), (g3, .inr (0, [.long out.2.2.1, .long out.2.2.2.1, .long out.2.2.2.2.1, .long out.2.2.2.2.2.1, .long out.2.2.2.2.2.2.1])), (g4, .inr (0, [.long out.2.2.2.2.2.2.2.1, .long out.2.2.2.2.2.2.2.2.1, .long out.2.2.2.2.2.2.2.2.2, .long wa3, .long wa4]))] t) A) args s 0 0 A) (F0 m 45 ls []) := by
  intro k
  induction k with
  | zero => intro w0_6 w0_7 w3_0 w3_1 w3_2 w3_3 w3_4 w4_0 w4_1 w4_2 hr; rw [f_X2_findName_45] at hr; cases hr
  | succ k ih =>
    intro w0_6 w0_7 w3_0 w3_1 w3_2 w3_3 w3_4 w4_0 w4_1 w4_2 hr H locs ls hP hD hS hl
    rw [f_X2_findName_45] at hr
    refine lv_aload_n hx hb dX2_findName_45 rfl (lv_at hl 0 rfl) ?_
    refine va_get (D := (dC, dI)) (ci := 2) (v := .int w0_7) (C := RX2) (T := TX2) (N := 9) hx hb hts in_X2_findName_X2 hown hK hP 0 rfl rfl 7 (by decide) (hts (.fieldLink RX2 81 "FormRing" "ringSize" "I") (by decide +kernel)) (fun _ h9 => h9) rfl dX2_findName_46 ?_
    refine lv_ldc (v := 1000000) hx hb hown (hts (.constant RX2 159 (1000000)) (by decide +kernel)) dX2_findName_49 ?_
    refine lz_ige (tgt := 127) hx hb dX2_findName_51 (by decide) (fun c_1 => ?_) (fun c_1 => ?_)
    · have hr := (if_neg c_1).symm.trans hr
      have ho := Option.some.inj hr
      subst ho
      exact W.vret hx hb hrt (fun t ht hW => ⟨⟨(), rfl, trivial, by rw [ht]; exact hP, va_K.moved hW.alike hK, hD⟩, hS.F ht⟩) hS.2.2 dX2_findName_127
    · have hr := (if_pos c_1).symm.trans hr
      refine lv_aload_n hx hb dX2_findName_54 rfl (lv_at hl 0 rfl) ?_
      refine va_get (D := (dC, dI)) (ci := 2) (v := .ref g4) (C := RX2) (T := TX2) (N := 9) hx hb hts in_X2_findName_X2 hown hK hP 0 rfl rfl 3 (by decide) (hts (.fieldLink RX2 22 "FormRing" "walker" "LFormRing$Form;") (by decide +kernel)) (fun _ h9 => h9) rfl dX2_findName_55 ?_
      refine lv_aload_n hx hb dX2_findName_58 rfl (lv_at hl 0 rfl) ?_
      refine va_get (D := (dC, dI)) (ci := 2) (v := .ref g2) (C := RX2) (T := TX2) (N := 9) hx hb hts in_X2_findName_X2 hown hK hP 0 rfl rfl 1 (by decide) (hts (.fieldLink RX2 16 "FormRing" "reduced" "LFormRing$Form;") (by decide +kernel)) (fun _ h9 => h9) rfl dX2_findName_59 ?_
      cases e_2 : f_X0_isSame n w4_0 w4_1 w4_2 re0 re1 re2 with
      | none => rw [e_2, Option.bind_none] at hr; cases hr
      | some r_3 =>
        rw [e_2, Option.bind_some] at hr
        have hPc := hP.sub (ws' := [(g4, .inr (0, [.long w4_0, .long w4_1, .long w4_2, .long wa3, .long wa4])), (g2, .inr (0, [.long re0, .long re1, .long re2, .long re3, .long re4]))]) [4, 2] rfl
        have hDc := hD.sub (ws' := [(g4, .inr (0, [.long w4_0, .long w4_1, .long w4_2, .long wa3, .long wa4])), (g2, .inr (0, [.long re0, .long re1, .long re2, .long re3, .long re4]))]) [4, 2] (by decide) rfl
        have hKc := hK.sub (tys' := []) [] rfl
        have hFc := va_free (wc := [(g4, .inr (0, [.long w4_0, .long w4_1, .long w4_2, .long wa3, .long wa4])), (g2, .inr (0, [.long re0, .long re1, .long re2, .long re3, .long re4]))]) hD hS hA [4, 2] rfl
        refine va_calli (va_runV (As := [.ref g2]) (rest := []) ⟨hx, hb, hml, hown, hts⟩ (c_X0_isSame l dC dI H.size g4 w4_0 w4_1 w4_2 wa3 wa4 g2 re0 re1 re2 re3 re4  n _ e_2) (cwV 1 hts gX2_findName_X0_isSame rfl rfl rfl (by decide +kernel) ⟨Nat.le_of_ble_eq_true rfl, Nat.le_of_ble_eq_true rfl⟩) ⟨fun a U g mk q => by obtain ⟨q0, q1, qP, qK, qD⟩ := q; exact ⟨q0, q1, qP, va_K.moved (u := U) (U := U.calling g mk a) (Vm.Alike.refl U.vm) qK, qD⟩, va_recv hKc hPc (ci := 0) (q0 := 0) rfl rfl, fun U hU hW => ⟨rfl, by rw [hU], by rw [hU]; exact hPc, va_K.moved hW.alike hKc, hDc.weaken (fun _ _ _ _ => trivial)⟩⟩ rfl rfl hl.1 rfl (lv_room (Nat.le_of_ble_eq_true rfl)) dX2_findName_62 ⟨Nat.zero_le _, Nat.zero_le _⟩) hS (fun q _ h => hFc q h) hFc (fun x_4 _ t H1 locs ht hvm hw hB hz1 hk1 hS => ?_)
        obtain ⟨hw, z_5⟩ := hw
        have hw := hw.symm
        subst hw
        obtain ⟨hP1, hK1, hD1⟩ := hB
        rw [ht] at hP1
        obtain ⟨hP, hD⟩ := va_join (wr := [(h0, .inr (2, [.ref g1, .ref g2, .ref g3, .ref g4, .ref g5, .int s5, .int w0_6, .int w0_7, .int s8])), (g1, .inr (0, [.long ha0, .long ha1, .long ha2, .long ha3, .long ha4])), (g3, .inr (0, [.long w3_0, .long w3_1, .long w3_2, .long w3_3, .long w3_4]))]) (w1 := [(g4, .inr (0, [.long w4_0, .long w4_1, .long w4_2, .long wa3, .long wa4])), (g2, .inr (0, [.long re0, .long re1, .long re2, .long re3, .long re4]))]) hP hD [4, 2] [0, 1, 3] rfl rfl (by decide) (by decide) hk1 hFc hP1 hD1
        generalize H1 = H at hP hS ⊢
        have hP := hP.sub (ws' := [(h0, .inr (2, [.ref g1, .ref g2, .ref g3, .ref g4, .ref g5, .int s5, .int w0_6, .int w0_7, .int s8])), (g1, .inr (0, [.long ha0, .long ha1, .long ha2, .long ha3, .long ha4])), (g2, .inr (0, [.long re0, .long re1, .long re2, .long re3, .long re4])), (g3, .inr (0, [.long w3_0, .long w3_1, .long w3_2, .long w3_3, .long w3_4])), (g4, .inr (0, [.long w4_0, .long w4_1, .long w4_2, .long wa3, .long wa4]))]) [0, 1, 4, 2, 3] rfl
        have hD := hD.sub (ws' := [(h0, .inr (2, [.ref g1, .ref g2, .ref g3, .ref g4, .ref g5, .int s5, .int w0_6, .int w0_7, .int s8])), (g1, .inr (0, [.long ha0, .long ha1, .long ha2, .long ha3, .long ha4])), (g2, .inr (0, [.long re0, .long re1, .long re2, .long re3, .long re4])), (g3, .inr (0, [.long w3_0, .long w3_1, .long w3_2, .long w3_3, .long w3_4])), (g4, .inr (0, [.long w4_0, .long w4_1, .long w4_2, .long wa3, .long wa4]))]) [0, 1, 4, 2, 3] (by decide) rfl
        have hP : va_P (dC, dI) vwCl [(h0, .inr (2, [.ref g1, .ref g2, .ref g3, .ref g4, .ref g5, .int s5, .int w0_6, .int w0_7, .int s8])), (g1, .inr (0, [.long ha0, .long ha1, .long ha2, .long ha3, .long ha4])), (g2, .inr (0, [.long re0, .long re1, .long re2, .long re3, .long re4])), (g3, .inr (0, [.long w3_0, .long w3_1, .long w3_2, .long w3_3, .long w3_4])), (g4, .inr (0, [.long w4_0, .long w4_1, .long w4_2, .long wa3, .long wa4]))] H := hP
        have hD : va_D A [(h0, .inr (2, [.ref g1, .ref g2, .ref g3, .ref g4, .ref g5, .int s5, .int w0_6, .int w0_7, .int s8])), (g1, .inr (0, [.long ha0, .long ha1, .long ha2, .long ha3, .long ha4])), (g2, .inr (0, [.long re0, .long re1, .long re2, .long re3, .long re4])), (g3, .inr (0, [.long w3_0, .long w3_1, .long w3_2, .long w3_3, .long w3_4])), (g4, .inr (0, [.long w4_0, .long w4_1, .long w4_2, .long wa3, .long wa4]))] := hD
        refine W.widen (k := 0) (n := 0) (Nat.le_refl _) (Nat.le_refl _) ?_
        refine lz_zne (tgt := 127) hx hb dX2_findName_65 (by decide) (fun c_6 => ?_) (fun c_6 => ?_)
        · have hr := (if_neg c_6).symm.trans hr
          have ho := Option.some.inj hr
          subst ho
          exact W.vret hx hb hrt (fun t ht hW => ⟨⟨(), rfl, trivial, by rw [ht]; exact hP, va_K.moved hW.alike hK, hD⟩, hS.F ht⟩) hS.2.2 dX2_findName_127
        · have hr := (if_pos c_6).symm.trans hr
          refine lv_aload_n hx hb dX2_findName_68 rfl (lv_at hl 0 rfl) ?_
          refine va_get (D := (dC, dI)) (ci := 2) (v := .ref g4) (C := RX2) (T := TX2) (N := 9) hx hb hts in_X2_findName_X2 hown hK hP 0 rfl rfl 3 (by decide) (hts (.fieldLink RX2 22 "FormRing" "walker" "LFormRing$Form;") (by decide +kernel)) (fun _ h9 => h9) rfl dX2_findName_69 ?_
          refine lv_aload_n hx hb dX2_findName_72 rfl (lv_at hl 0 rfl) ?_
          refine va_get (D := (dC, dI)) (ci := 2) (v := .ref g3) (C := RX2) (T := TX2) (N := 9) hx hb hts in_X2_findName_X2 hown hK hP 0 rfl rfl 2 (by decide) (hts (.fieldLink RX2 19 "FormRing" "name" "LFormRing$Form;") (by decide +kernel)) (fun _ h9 => h9) rfl dX2_findName_73 ?_
          cases e_7 : f_X0_isBefore n w4_0 w4_1 w3_0 w3_1 with
          | none => rw [e_7, Option.bind_none] at hr; cases hr
          | some r_8 =>
            rw [e_7, Option.bind_some] at hr
            have hPc := hP.sub (ws' := [(g4, .inr (0, [.long w4_0, .long w4_1, .long w4_2, .long wa3, .long wa4])), (g3, .inr (0, [.long w3_0, .long w3_1, .long w3_2, .long w3_3, .long w3_4]))]) [4, 3] rfl
            have hDc := hD.sub (ws' := [(g4, .inr (0, [.long w4_0, .long w4_1, .long w4_2, .long wa3, .long wa4])), (g3, .inr (0, [.long w3_0, .long w3_1, .long w3_2, .long w3_3, .long w3_4]))]) [4, 3] (by decide) rfl
            have hKc := hK.sub (tys' := []) [] rfl
            have hFc := va_free (wc := [(g4, .inr (0, [.long w4_0, .long w4_1, .long w4_2, .long wa3, .long wa4])), (g3, .inr (0, [.long w3_0, .long w3_1, .long w3_2, .long w3_3, .long w3_4]))]) hD hS hA [4, 3] rfl
            refine va_calli (va_runV (As := [.ref g3]) (rest := []) ⟨hx, hb, hml, hown, hts⟩ (c_X0_isBefore l dC dI H.size g4 w4_0 w4_1 w4_2 wa3 wa4 g3 w3_0 w3_1 w3_2 w3_3 w3_4  n _ e_7) (cwV 1 hts gX2_findName_X0_isBefore rfl rfl rfl (by decide +kernel) ⟨Nat.le_of_ble_eq_true rfl, Nat.le_of_ble_eq_true rfl⟩) ⟨fun a U g mk q => by obtain ⟨q0, q1, qP, qK, qD⟩ := q; exact ⟨q0, q1, qP, va_K.moved (u := U) (U := U.calling g mk a) (Vm.Alike.refl U.vm) qK, qD⟩, va_recv hKc hPc (ci := 0) (q0 := 0) rfl rfl, fun U hU hW => ⟨rfl, by rw [hU], by rw [hU]; exact hPc, va_K.moved hW.alike hKc, hDc.weaken (fun _ _ _ _ => trivial)⟩⟩ rfl rfl hl.1 rfl (lv_room (Nat.le_of_ble_eq_true rfl)) dX2_findName_76 ⟨Nat.zero_le _, Nat.zero_le _⟩) hS (fun q _ h => hFc q h) hFc (fun x_9 _ t H1 locs ht hvm hw hB hz1 hk1 hS => ?_)
            obtain ⟨hw, z_10⟩ := hw
            have hw := hw.symm
            subst hw
            obtain ⟨hP1, hK1, hD1⟩ := hB
            rw [ht] at hP1
            obtain ⟨hP, hD⟩ := va_join (wr := [(h0, .inr (2, [.ref g1, .ref g2, .ref g3, .ref g4, .ref g5, .int s5, .int w0_6, .int w0_7, .int s8])), (g1, .inr (0, [.long ha0, .long ha1, .long ha2, .long ha3, .long ha4])), (g2, .inr (0, [.long re0, .long re1, .long re2, .long re3, .long re4]))]) (w1 := [(g4, .inr (0, [.long w4_0, .long w4_1, .long w4_2, .long wa3, .long wa4])), (g3, .inr (0, [.long w3_0, .long w3_1, .long w3_2, .long w3_3, .long w3_4]))]) hP hD [4, 3] [0, 1, 2] rfl rfl (by decide) (by decide) hk1 hFc hP1 hD1
            generalize H1 = H at hP hS ⊢
            have hP := hP.sub (ws' := [(h0, .inr (2, [.ref g1, .ref g2, .ref g3, .ref g4, .ref g5, .int s5, .int w0_6, .int w0_7, .int s8])), (g1, .inr (0, [.long ha0, .long ha1, .long ha2, .long ha3, .long ha4])), (g2, .inr (0, [.long re0, .long re1, .long re2, .long re3, .long re4])), (g3, .inr (0, [.long w3_0, .long w3_1, .long w3_2, .long w3_3, .long w3_4])), (g4, .inr (0, [.long w4_0, .long w4_1, .long w4_2, .long wa3, .long wa4]))]) [0, 1, 2, 4, 3] rfl
            have hD := hD.sub (ws' := [(h0, .inr (2, [.ref g1, .ref g2, .ref g3, .ref g4, .ref g5, .int s5, .int w0_6, .int w0_7, .int s8])), (g1, .inr (0, [.long ha0, .long ha1, .long ha2, .long ha3, .long ha4])), (g2, .inr (0, [.long re0, .long re1, .long re2, .long re3, .long re4])), (g3, .inr (0, [.long w3_0, .long w3_1, .long w3_2, .long w3_3, .long w3_4])), (g4, .inr (0, [.long w4_0, .long w4_1, .long w4_2, .long wa3, .long wa4]))]) [0, 1, 2, 4, 3] (by decide) rfl
            have hP : va_P (dC, dI) vwCl [(h0, .inr (2, [.ref g1, .ref g2, .ref g3, .ref g4, .ref g5, .int s5, .int w0_6, .int w0_7, .int s8])), (g1, .inr (0, [.long ha0, .long ha1, .long ha2, .long ha3, .long ha4])), (g2, .inr (0, [.long re0, .long re1, .long re2, .long re3, .long re4])), (g3, .inr (0, [.long w3_0, .long w3_1, .long w3_2, .long w3_3, .long w3_4])), (g4, .inr (0, [.long w4_0, .long w4_1, .long w4_2, .long wa3, .long wa4]))] H := hP
            have hD : va_D A [(h0, .inr (2, [.ref g1, .ref g2, .ref g3, .ref g4, .ref g5, .int s5, .int w0_6, .int w0_7, .int s8])), (g1, .inr (0, [.long ha0, .long ha1, .long ha2, .long ha3, .long ha4])), (g2, .inr (0, [.long re0, .long re1, .long re2, .long re3, .long re4])), (g3, .inr (0, [.long w3_0, .long w3_1, .long w3_2, .long w3_3, .long w3_4])), (g4, .inr (0, [.long w4_0, .long w4_1, .long w4_2, .long wa3, .long wa4]))] := hD
            refine W.widen (k := 0) (n := 0) (Nat.le_refl _) (Nat.le_refl _) ?_
            refine lz_zeq (tgt := 106) hx hb dX2_findName_79 (by decide) (fun c_11 => ?_) (fun c_11 => ?_)
            · have hr := (if_pos c_11).symm.trans hr
              refine lv_aload_n hx hb dX2_findName_106 rfl (lv_at hl 0 rfl) ?_
              refine va_get (D := (dC, dI)) (ci := 2) (v := .ref g4) (C := RX2) (T := TX2) (N := 9) hx hb hts in_X2_findName_X2 hown hK hP 0 rfl rfl 3 (by decide) (hts (.fieldLink RX2 22 "FormRing" "walker" "LFormRing$Form;") (by decide +kernel)) (fun _ h9 => h9) rfl dX2_findName_107 ?_
              cases e_12 : f_X0_goOn n w4_0 w4_1 w4_2 wa3 wa4 with
              | none => rw [e_12, Option.bind_none] at hr; cases hr
              | some r_13 =>
                rw [e_12, Option.bind_some] at hr
                have hPc := hP.sub (ws' := [(g4, .inr (0, [.long w4_0, .long w4_1, .long w4_2, .long wa3, .long wa4]))]) [4] rfl
                have hDc := hD.sub (ws' := [(g4, .inr (0, [.long w4_0, .long w4_1, .long w4_2, .long wa3, .long wa4]))]) [4] (by decide) rfl
                have hKc := hK.sub (tys' := []) [] rfl
                have hFc := va_free (wc := [(g4, .inr (0, [.long w4_0, .long w4_1, .long w4_2, .long wa3, .long wa4]))]) hD hS hA [4] rfl
                refine va_calll (va_runV (As := []) (rest := []) ⟨hx, hb, hml, hown, hts⟩ (c_X0_goOn l dC dI H.size g4 w4_0 w4_1 w4_2 wa3 wa4  n _ e_12) (cwV 0 hts gX2_findName_X0_goOn rfl rfl rfl (by decide +kernel) ⟨Nat.le_of_ble_eq_true rfl, Nat.le_of_ble_eq_true rfl⟩) ⟨fun a U g mk q => by obtain ⟨q0, q1, qP, qK, qD⟩ := q; exact ⟨q0, q1, qP, va_K.moved (u := U) (U := U.calling g mk a) (Vm.Alike.refl U.vm) qK, qD⟩, va_recv hKc hPc (ci := 0) (q0 := 0) rfl rfl, fun U hU hW => ⟨rfl, by rw [hU], by rw [hU]; exact hPc, va_K.moved hW.alike hKc, hDc.weaken (fun _ _ _ _ => trivial)⟩⟩ rfl rfl hl.1 rfl (lv_room (Nat.le_of_ble_eq_true rfl)) dX2_findName_110 ⟨Nat.zero_le _, Nat.zero_le _⟩) hS (fun q _ h => hFc q h) hFc (fun x_14 _ t H1 locs ht hvm hw hB hz1 hk1 hS => ?_)
                have hw := hw.symm
                subst hw
                obtain ⟨hP1, hK1, hD1⟩ := hB
                rw [ht] at hP1
                obtain ⟨hP, hD⟩ := va_join (wr := [(h0, .inr (2, [.ref g1, .ref g2, .ref g3, .ref g4, .ref g5, .int s5, .int w0_6, .int w0_7, .int s8])), (g1, .inr (0, [.long ha0, .long ha1, .long ha2, .long ha3, .long ha4])), (g2, .inr (0, [.long re0, .long re1, .long re2, .long re3, .long re4])), (g3, .inr (0, [.long w3_0, .long w3_1, .long w3_2, .long w3_3, .long w3_4]))]) (w1 := [(g4, .inr (0, [.long r_13.2.1, .long r_13.2.2.1, .long r_13.2.2.2, .long wa3, .long wa4]))]) hP hD [4] [0, 1, 2, 3] rfl rfl (by decide) (by decide) hk1 hFc hP1 hD1
                generalize H1 = H at hP hS ⊢
                have hP : va_P (dC, dI) vwCl [(h0, .inr (2, [.ref g1, .ref g2, .ref g3, .ref g4, .ref g5, .int s5, .int w0_6, .int w0_7, .int s8])), (g1, .inr (0, [.long ha0, .long ha1, .long ha2, .long ha3, .long ha4])), (g2, .inr (0, [.long re0, .long re1, .long re2, .long re3, .long re4])), (g3, .inr (0, [.long w3_0, .long w3_1, .long w3_2, .long w3_3, .long w3_4])), (g4, .inr (0, [.long r_13.2.1, .long r_13.2.2.1, .long r_13.2.2.2, .long wa3, .long wa4]))] H := hP
                have hD : va_D A [(h0, .inr (2, [.ref g1, .ref g2, .ref g3, .ref g4, .ref g5, .int s5, .int w0_6, .int w0_7, .int s8])), (g1, .inr (0, [.long ha0, .long ha1, .long ha2, .long ha3, .long ha4])), (g2, .inr (0, [.long re0, .long re1, .long re2, .long re3, .long re4])), (g3, .inr (0, [.long w3_0, .long w3_1, .long w3_2, .long w3_3, .long w3_4])), (g4, .inr (0, [.long r_13.2.1, .long r_13.2.2.1, .long r_13.2.2.2, .long wa3, .long wa4]))] := hD
                refine W.widen (k := 0) (n := 0) (Nat.le_refl _) (Nat.le_refl _) ?_
                refine lv_pop2_2 hx hb dX2_findName_113 rfl ?_
                refine lv_aload_n hx hb dX2_findName_114 rfl (lv_at hl 0 rfl) ?_
                refine lv_dup hx hb dX2_findName_115 rfl ?_
                refine va_get (D := (dC, dI)) (ci := 2) (v := .int w0_7) (C := RX2) (T := TX2) (N := 9) hx hb hts in_X2_findName_X2 hown hK hP 0 rfl rfl 7 (by decide) (hts (.fieldLink RX2 81 "FormRing" "ringSize" "I") (by decide +kernel)) (fun _ h9 => h9) rfl dX2_findName_116 ?_
                refine lv_iconst (v := 1) hx hb dX2_findName_119 (by decide) ?_
                refine lv_iadd hx hb dX2_findName_120 ?_
                refine va_put (D := (dC, dI)) (ci := 2) (v := .int (w0_7 + 1)) (ty := .int) (C := RX2) (T := TX2) (N := 9) hx hb hts in_X2_findName_X2 tyX2 tyX2_ok nmX2 hown hK hP hD hS 0 rfl rfl 7 (by decide) (hts (.fieldLink RX2 81 "FormRing" "ringSize" "I") (by decide +kernel)) (fun _ h9 => h9) rfl (by decide +kernel) rfl rfl (Nat.le_of_ble_eq_true rfl) dX2_findName_121 (fun H locs hP hD hS => ?_)
                have hP : va_P (dC, dI) vwCl [(h0, .inr (2, [.ref g1, .ref g2, .ref g3, .ref g4, .ref g5, .int s5, .int w0_6, .int (w0_7 + 1), .int s8])), (g1, .inr (0, [.long ha0, .long ha1, .long ha2, .long ha3, .long ha4])), (g2, .inr (0, [.long re0, .long re1, .long re2, .long re3, .long re4])), (g3, .inr (0, [.long w3_0, .long w3_1, .long w3_2, .long w3_3, .long w3_4])), (g4, .inr (0, [.long r_13.2.1, .long r_13.2.2.1, .long r_13.2.2.2, .long wa3, .long wa4]))] H := hP
                have hD : va_D A [(h0, .inr (2, [.ref g1, .ref g2, .ref g3, .ref g4, .ref g5, .int s5, .int w0_6, .int (w0_7 + 1), .int s8])), (g1, .inr (0, [.long ha0, .long ha1, .long ha2, .long ha3, .long ha4])), (g2, .inr (0, [.long re0, .long re1, .long re2, .long re3, .long re4])), (g3, .inr (0, [.long w3_0, .long w3_1, .long w3_2, .long w3_3, .long w3_4])), (g4, .inr (0, [.long r_13.2.1, .long r_13.2.2.1, .long r_13.2.2.2, .long wa3, .long wa4]))] := hD
                refine lv_goto (tgt := 45) hx hb dX2_findName_124 (by decide) ?_
                exact ih w0_6 (w0_7 + 1) w3_0 w3_1 w3_2 w3_3 w3_4 r_13.2.1 r_13.2.2.1 r_13.2.2.2 hr _ _ _ hP hD hS (lv_sub hl [0] rfl)
            · have hr := (if_neg c_11).symm.trans hr
              refine lv_aload_n hx hb dX2_findName_82 rfl (lv_at hl 0 rfl) ?_
              refine va_get (D := (dC, dI)) (ci := 2) (v := .ref g3) (C := RX2) (T := TX2) (N := 9) hx hb hts in_X2_findName_X2 hown hK hP 0 rfl rfl 2 (by decide) (hts (.fieldLink RX2 19 "FormRing" "name" "LFormRing$Form;") (by decide +kernel)) (fun _ h9 => h9) rfl dX2_findName_83 ?_
              refine lv_aload_n hx hb dX2_findName_86 rfl (lv_at hl 0 rfl) ?_
              refine va_get (D := (dC, dI)) (ci := 2) (v := .ref g4) (C := RX2) (T := TX2) (N := 9) hx hb hts in_X2_findName_X2 hown hK hP 0 rfl rfl 3 (by decide) (hts (.fieldLink RX2 22 "FormRing" "walker" "LFormRing$Form;") (by decide +kernel)) (fun _ h9 => h9) rfl dX2_findName_87 ?_
              cases e_15 : f_X0_copy n w4_0 w4_1 w4_2 wa3 wa4 with
              | none => rw [e_15, Option.bind_none] at hr; cases hr
              | some r_16 =>
                rw [e_15, Option.bind_some] at hr
                have hPc := hP.sub (ws' := [(g3, .inr (0, [.long w3_0, .long w3_1, .long w3_2, .long w3_3, .long w3_4])), (g4, .inr (0, [.long w4_0, .long w4_1, .long w4_2, .long wa3, .long wa4]))]) [3, 4] rfl
                have hDc := hD.sub (ws' := [(g3, .inr (0, [.long w3_0, .long w3_1, .long w3_2, .long w3_3, .long w3_4])), (g4, .inr (0, [.long w4_0, .long w4_1, .long w4_2, .long wa3, .long wa4]))]) [3, 4] (by decide) rfl
                have hKc := hK.sub (tys' := []) [] rfl
                have hFc := va_free (wc := [(g3, .inr (0, [.long w3_0, .long w3_1, .long w3_2, .long w3_3, .long w3_4])), (g4, .inr (0, [.long w4_0, .long w4_1, .long w4_2, .long wa3, .long wa4]))]) hD hS hA [3, 4] rfl
                refine va_callv (va_runV (As := [.ref g4]) (rest := []) ⟨hx, hb, hml, hown, hts⟩ (c_X0_copy l dC dI H.size g3 w3_0 w3_1 w3_2 w3_3 w3_4 g4 w4_0 w4_1 w4_2 wa3 wa4  n _ e_15) (cwV 1 hts gX2_findName_X0_copy rfl rfl rfl (by decide +kernel) ⟨Nat.le_of_ble_eq_true rfl, Nat.le_of_ble_eq_true rfl⟩) ⟨fun a U g mk q => by obtain ⟨q0, q1, qP, qK, qD⟩ := q; exact ⟨q0, q1, qP, va_K.moved (u := U) (U := U.calling g mk a) (Vm.Alike.refl U.vm) qK, qD⟩, va_recv hKc hPc (ci := 0) (q0 := 0) rfl rfl, fun U hU hW => ⟨rfl, by rw [hU], by rw [hU]; exact hPc, va_K.moved hW.alike hKc, hDc.weaken (fun _ _ _ _ => trivial)⟩⟩ rfl rfl hl.1 rfl (lv_room (Nat.le_of_ble_eq_true rfl)) dX2_findName_90 ⟨Nat.zero_le _, Nat.zero_le _⟩) hS (fun q _ h => hFc q h) hFc (fun _ t H1 locs ht hvm hw hB hz1 hk1 hS => ?_)
                obtain ⟨hP1, hK1, hD1⟩ := hB
                rw [ht] at hP1
                obtain ⟨hP, hD⟩ := va_join (wr := [(h0, .inr (2, [.ref g1, .ref g2, .ref g3, .ref g4, .ref g5, .int s5, .int w0_6, .int w0_7, .int s8])), (g1, .inr (0, [.long ha0, .long ha1, .long ha2, .long ha3, .long ha4])), (g2, .inr (0, [.long re0, .long re1, .long re2, .long re3, .long re4]))]) (w1 := [(g3, .inr (0, [.long r_16.1, .long r_16.2.1, .long r_16.2.2.1, .long r_16.2.2.2.1, .long r_16.2.2.2.2])), (g4, .inr (0, [.long w4_0, .long w4_1, .long w4_2, .long wa3, .long wa4]))]) hP hD [3, 4] [0, 1, 2] rfl rfl (by decide) (by decide) hk1 hFc hP1 hD1
                generalize H1 = H at hP hS ⊢
                have hP : va_P (dC, dI) vwCl [(h0, .inr (2, [.ref g1, .ref g2, .ref g3, .ref g4, .ref g5, .int s5, .int w0_6, .int w0_7, .int s8])), (g1, .inr (0, [.long ha0, .long ha1, .long ha2, .long ha3, .long ha4])), (g2, .inr (0, [.long re0, .long re1, .long re2, .long re3, .long re4])), (g3, .inr (0, [.long r_16.1, .long r_16.2.1, .long r_16.2.2.1, .long r_16.2.2.2.1, .long r_16.2.2.2.2])), (g4, .inr (0, [.long w4_0, .long w4_1, .long w4_2, .long wa3, .long wa4]))] H := hP
                have hD : va_D A [(h0, .inr (2, [.ref g1, .ref g2, .ref g3, .ref g4, .ref g5, .int s5, .int w0_6, .int w0_7, .int s8])), (g1, .inr (0, [.long ha0, .long ha1, .long ha2, .long ha3, .long ha4])), (g2, .inr (0, [.long re0, .long re1, .long re2, .long re3, .long re4])), (g3, .inr (0, [.long r_16.1, .long r_16.2.1, .long r_16.2.2.1, .long r_16.2.2.2.1, .long r_16.2.2.2.2])), (g4, .inr (0, [.long w4_0, .long w4_1, .long w4_2, .long wa3, .long wa4]))] := hD
                refine W.widen (k := 0) (n := 0) (Nat.le_refl _) (Nat.le_refl _) ?_
                refine lv_aload_n hx hb dX2_findName_93 rfl (lv_at hl 0 rfl) ?_
                refine lv_aload_n hx hb dX2_findName_94 rfl (lv_at hl 0 rfl) ?_
                refine va_get (D := (dC, dI)) (ci := 2) (v := .int s5) (C := RX2) (T := TX2) (N := 9) hx hb hts in_X2_findName_X2 hown hK hP 0 rfl rfl 5 (by decide) (hts (.fieldLink RX2 74 "FormRing" "stepsToReduced" "I") (by decide +kernel)) (fun _ h9 => h9) rfl dX2_findName_95 ?_
                refine lv_aload_n hx hb dX2_findName_98 rfl (lv_at hl 0 rfl) ?_
                refine va_get (D := (dC, dI)) (ci := 2) (v := .int w0_7) (C := RX2) (T := TX2) (N := 9) hx hb hts in_X2_findName_X2 hown hK hP 0 rfl rfl 7 (by decide) (hts (.fieldLink RX2 81 "FormRing" "ringSize" "I") (by decide +kernel)) (fun _ h9 => h9) rfl dX2_findName_99 ?_
                refine lv_iadd hx hb dX2_findName_102 ?_
                refine va_put (D := (dC, dI)) (ci := 2) (v := .int (s5 + w0_7)) (ty := .int) (C := RX2) (T := TX2) (N := 9) hx hb hts in_X2_findName_X2 tyX2 tyX2_ok nmX2 hown hK hP hD hS 0 rfl rfl 6 (by decide) (hts (.fieldLink RX2 78 "FormRing" "stepsToName" "I") (by decide +kernel)) (fun _ h9 => h9) rfl (by decide +kernel) rfl rfl (Nat.le_of_ble_eq_true rfl) dX2_findName_103 (fun H locs hP hD hS => ?_)
                have hP : va_P (dC, dI) vwCl [(h0, .inr (2, [.ref g1, .ref g2, .ref g3, .ref g4, .ref g5, .int s5, .int (s5 + w0_7), .int w0_7, .int s8])), (g1, .inr (0, [.long ha0, .long ha1, .long ha2, .long ha3, .long ha4])), (g2, .inr (0, [.long re0, .long re1, .long re2, .long re3, .long re4])), (g3, .inr (0, [.long r_16.1, .long r_16.2.1, .long r_16.2.2.1, .long r_16.2.2.2.1, .long r_16.2.2.2.2])), (g4, .inr (0, [.long w4_0, .long w4_1, .long w4_2, .long wa3, .long wa4]))] H := hP
                have hD : va_D A [(h0, .inr (2, [.ref g1, .ref g2, .ref g3, .ref g4, .ref g5, .int s5, .int (s5 + w0_7), .int w0_7, .int s8])), (g1, .inr (0, [.long ha0, .long ha1, .long ha2, .long ha3, .long ha4])), (g2, .inr (0, [.long re0, .long re1, .long re2, .long re3, .long re4])), (g3, .inr (0, [.long r_16.1, .long r_16.2.1, .long r_16.2.2.1, .long r_16.2.2.2.1, .long r_16.2.2.2.2])), (g4, .inr (0, [.long w4_0, .long w4_1, .long w4_2, .long wa3, .long wa4]))] := hD
                refine lv_aload_n hx hb dX2_findName_106 rfl (lv_at hl 0 rfl) ?_
                refine va_get (D := (dC, dI)) (ci := 2) (v := .ref g4) (C := RX2) (T := TX2) (N := 9) hx hb hts in_X2_findName_X2 hown hK hP 0 rfl rfl 3 (by decide) (hts (.fieldLink RX2 22 "FormRing" "walker" "LFormRing$Form;") (by decide +kernel)) (fun _ h9 => h9) rfl dX2_findName_107 ?_
                cases e_18 : f_X0_goOn n w4_0 w4_1 w4_2 wa3 wa4 with
                | none => rw [e_18, Option.bind_none] at hr; cases hr
                | some r_19 =>
                  rw [e_18, Option.bind_some] at hr
                  have hPc := hP.sub (ws' := [(g4, .inr (0, [.long w4_0, .long w4_1, .long w4_2, .long wa3, .long wa4]))]) [4] rfl
                  have hDc := hD.sub (ws' := [(g4, .inr (0, [.long w4_0, .long w4_1, .long w4_2, .long wa3, .long wa4]))]) [4] (by decide) rfl
                  have hKc := hK.sub (tys' := []) [] rfl
                  have hFc := va_free (wc := [(g4, .inr (0, [.long w4_0, .long w4_1, .long w4_2, .long wa3, .long wa4]))]) hD hS hA [4] rfl
                  refine va_calll (va_runV (As := []) (rest := []) ⟨hx, hb, hml, hown, hts⟩ (c_X0_goOn l dC dI H.size g4 w4_0 w4_1 w4_2 wa3 wa4  n _ e_18) (cwV 0 hts gX2_findName_X0_goOn rfl rfl rfl (by decide +kernel) ⟨Nat.le_of_ble_eq_true rfl, Nat.le_of_ble_eq_true rfl⟩) ⟨fun a U g mk q => by obtain ⟨q0, q1, qP, qK, qD⟩ := q; exact ⟨q0, q1, qP, va_K.moved (u := U) (U := U.calling g mk a) (Vm.Alike.refl U.vm) qK, qD⟩, va_recv hKc hPc (ci := 0) (q0 := 0) rfl rfl, fun U hU hW => ⟨rfl, by rw [hU], by rw [hU]; exact hPc, va_K.moved hW.alike hKc, hDc.weaken (fun _ _ _ _ => trivial)⟩⟩ rfl rfl hl.1 rfl (lv_room (Nat.le_of_ble_eq_true rfl)) dX2_findName_110 ⟨Nat.zero_le _, Nat.zero_le _⟩) hS (fun q _ h => hFc q h) hFc (fun x_20 _ t H1 locs ht hvm hw hB hz1 hk1 hS => ?_)
                  have hw := hw.symm
                  subst hw
                  obtain ⟨hP1, hK1, hD1⟩ := hB
                  rw [ht] at hP1
                  obtain ⟨hP, hD⟩ := va_join (wr := [(h0, .inr (2, [.ref g1, .ref g2, .ref g3, .ref g4, .ref g5, .int s5, .int (s5 + w0_7), .int w0_7, .int s8])), (g1, .inr (0, [.long ha0, .long ha1, .long ha2, .long ha3, .long ha4])), (g2, .inr (0, [.long re0, .long re1, .long re2, .long re3, .long re4])), (g3, .inr (0, [.long r_16.1, .long r_16.2.1, .long r_16.2.2.1, .long r_16.2.2.2.1, .long r_16.2.2.2.2]))]) (w1 := [(g4, .inr (0, [.long r_19.2.1, .long r_19.2.2.1, .long r_19.2.2.2, .long wa3, .long wa4]))]) hP hD [4] [0, 1, 2, 3] rfl rfl (by decide) (by decide) hk1 hFc hP1 hD1
                  generalize H1 = H at hP hS ⊢
                  have hP : va_P (dC, dI) vwCl [(h0, .inr (2, [.ref g1, .ref g2, .ref g3, .ref g4, .ref g5, .int s5, .int (s5 + w0_7), .int w0_7, .int s8])), (g1, .inr (0, [.long ha0, .long ha1, .long ha2, .long ha3, .long ha4])), (g2, .inr (0, [.long re0, .long re1, .long re2, .long re3, .long re4])), (g3, .inr (0, [.long r_16.1, .long r_16.2.1, .long r_16.2.2.1, .long r_16.2.2.2.1, .long r_16.2.2.2.2])), (g4, .inr (0, [.long r_19.2.1, .long r_19.2.2.1, .long r_19.2.2.2, .long wa3, .long wa4]))] H := hP
                  have hD : va_D A [(h0, .inr (2, [.ref g1, .ref g2, .ref g3, .ref g4, .ref g5, .int s5, .int (s5 + w0_7), .int w0_7, .int s8])), (g1, .inr (0, [.long ha0, .long ha1, .long ha2, .long ha3, .long ha4])), (g2, .inr (0, [.long re0, .long re1, .long re2, .long re3, .long re4])), (g3, .inr (0, [.long r_16.1, .long r_16.2.1, .long r_16.2.2.1, .long r_16.2.2.2.1, .long r_16.2.2.2.2])), (g4, .inr (0, [.long r_19.2.1, .long r_19.2.2.1, .long r_19.2.2.2, .long wa3, .long wa4]))] := hD
                  refine W.widen (k := 0) (n := 0) (Nat.le_refl _) (Nat.le_refl _) ?_
                  refine lv_pop2_2 hx hb dX2_findName_113 rfl ?_
                  refine lv_aload_n hx hb dX2_findName_114 rfl (lv_at hl 0 rfl) ?_
                  refine lv_dup hx hb dX2_findName_115 rfl ?_
                  refine va_get (D := (dC, dI)) (ci := 2) (v := .int w0_7) (C := RX2) (T := TX2) (N := 9) hx hb hts in_X2_findName_X2 hown hK hP 0 rfl rfl 7 (by decide) (hts (.fieldLink RX2 81 "FormRing" "ringSize" "I") (by decide +kernel)) (fun _ h9 => h9) rfl dX2_findName_116 ?_
                  refine lv_iconst (v := 1) hx hb dX2_findName_119 (by decide) ?_
                  refine lv_iadd hx hb dX2_findName_120 ?_
                  refine va_put (D := (dC, dI)) (ci := 2) (v := .int (w0_7 + 1)) (ty := .int) (C := RX2) (T := TX2) (N := 9) hx hb hts in_X2_findName_X2 tyX2 tyX2_ok nmX2 hown hK hP hD hS 0 rfl rfl 7 (by decide) (hts (.fieldLink RX2 81 "FormRing" "ringSize" "I") (by decide +kernel)) (fun _ h9 => h9) rfl (by decide +kernel) rfl rfl (Nat.le_of_ble_eq_true rfl) dX2_findName_121 (fun H locs hP hD hS => ?_)
                  have hP : va_P (dC, dI) vwCl [(h0, .inr (2, [.ref g1, .ref g2, .ref g3, .ref g4, .ref g5, .int s5, .int (s5 + w0_7), .int (w0_7 + 1), .int s8])), (g1, .inr (0, [.long ha0, .long ha1, .long ha2, .long ha3, .long ha4])), (g2, .inr (0, [.long re0, .long re1, .long re2, .long re3, .long re4])), (g3, .inr (0, [.long r_16.1, .long r_16.2.1, .long r_16.2.2.1, .long r_16.2.2.2.1, .long r_16.2.2.2.2])), (g4, .inr (0, [.long r_19.2.1, .long r_19.2.2.1, .long r_19.2.2.2, .long wa3, .long wa4]))] H := hP
                  have hD : va_D A [(h0, .inr (2, [.ref g1, .ref g2, .ref g3, .ref g4, .ref g5, .int s5, .int (s5 + w0_7), .int (w0_7 + 1), .int s8])), (g1, .inr (0, [.long ha0, .long ha1, .long ha2, .long ha3, .long ha4])), (g2, .inr (0, [.long re0, .long re1, .long re2, .long re3, .long re4])), (g3, .inr (0, [.long r_16.1, .long r_16.2.1, .long r_16.2.2.1, .long r_16.2.2.2.1, .long r_16.2.2.2.2])), (g4, .inr (0, [.long r_19.2.1, .long r_19.2.2.1, .long r_19.2.2.2, .long wa3, .long wa4]))] := hD
                  refine lv_goto (tgt := 45) hx hb dX2_findName_124 (by decide) ?_
                  exact ih (s5 + w0_7) (w0_7 + 1) r_16.1 r_16.2.1 r_16.2.2.1 r_16.2.2.2.1 r_16.2.2.2.2 r_19.2.1 r_19.2.2.1 r_19.2.2.2 hr _ _ _ hP hD hS (lv_sub hl [0] rfl)
def f_X2_findName (n : Nat) (s5 : Int32) (ha3 : Int64) (re0 : Int64) (re1 : Int64) (re2 : Int64) (re3 : Int64) (re4 : Int64) (wa0 : Int64) (wa1 : Int64) (wa2 : Int64) (wa3 : Int64) (wa4 : Int64) : Option (Int32 × Int32 × Int64 × Int64 × Int64 × Int64 × Int64 × Int64 × Int64 × Int64) := (f_X0_copy n re0 re1 re2 re3 re4).bind (fun r_2 => if ha3 < 0 then (some (s5, 1, r_2.1, r_2.2.1, r_2.2.2.1, r_2.2.2.2.1, r_2.2.2.2.2, wa0, wa1, wa2)) else ((f_X0_goOn n wa0 wa1 wa2 wa3 wa4).bind (fun r_6 => f_X2_findName_45 n n s5 re0 re1 re2 wa3 wa4 s5 1 r_2.1 r_2.2.1 r_2.2.2.1 r_2.2.2.2.1 r_2.2.2.2.2 r_6.2.1 r_6.2.2.1 r_6.2.2.2)))
set_option maxHeartbeats 4000000 in
set_option maxRecDepth 100000 in
theorem c_X2_findName (l : Launch) (dC : Nat → ClassId) (dI : Nat → Nat → Nat) (sz : Nat) (h0 : Nat) (g1 : Nat) (g2 : Nat) (g3 : Nat) (g4 : Nat) (g5 : Nat) (s5 : Int32) (s6 : Int32) (s7 : Int32) (s8 : Int32) (ha0 : Int64) (ha1 : Int64) (ha2 : Int64) (ha3 : Int64) (ha4 : Int64) (re0 : Int64) (re1 : Int64) (re2 : Int64) (re3 : Int64) (re4 : Int64) (na0 : Int64) (na1 : Int64) (na2 : Int64) (na3 : Int64) (na4 : Int64) (wa0 : Int64) (wa1 : Int64) (wa2 : Int64) (wa3 : Int64) (wa4 : Int64)   (n : Nat) (out : Int32 × Int32 × Int64 × Int64 × Int64 × Int64 × Int64 × Int64 × Int64 × Int64) (hr : f_X2_findName n s5 ha3 re0 re1 re2 re3 re4 wa0 wa1 wa2 wa3 wa4 = some out) : Met l yX2_findName wsX2_findName ({ frames := 3, cells := 0, slots := 0, locals := 77 }) (va_Pc [.ref h0] (zP dC dI [] [(h0, .inr (2, [.ref g1, .ref g2, .ref g3, .ref g4, .ref g5, .int s5, .int s6, .int s7, .int s8])), (g1, .inr (0, [.long ha0, .long ha1, .long ha2, .long ha3, .long ha4])), (g2, .inr (0, [.long re0, .long re1, .long re2, .long re3, .long re4])), (g3, .inr (0, [.long na0, .long na1, .long na2, .long na3, .long na4])), (g4, .inr (0, [.long wa0, .long wa1, .long wa2, .long wa3, .long wa4]))] sz)) (va_Qv (fun (_ : Unit) => True) (fun (_ : Unit) t => zB dC dI [] (va_A [(h0, .inr (2, [.ref g1, .ref g2, .ref g3, .ref g4, .ref g5, .int s5, .int s6, .int s7, .int s8])), (g1, .inr (0, [.long ha0, .long ha1, .long ha2, .long ha3, .long ha4])), (g2, .inr (0, [.long re0, .long re1, .long re2, .long re3, .long re4])), (g3, .inr (0, [.long na0, .long na1, .long na2, .long na3, .long na4])), (g4, .inr (0, [.long wa0, .long wa1, .long wa2, .long wa3, .long wa4]))] sz) [(h0, .inr (2, [.ref g1, .ref g2, .ref g3, .ref g4, .ref g5, .int s5, .int out.1, .int out.2.1, .int s8])), (g1, .inr (0, [.long ha0, .long ha1, .long ha2, .long ha3, .long ha4])), (g2, .inr (0, [.long re0, .long re1, .long re2, .long re3, .long re4])), (g3, .inr (0, [.long out.2.2.1, .long out.2.2.2.1, .long out.2.2.2.2.1, .long out.2.2.2.2.2.1, .long out.2.2.2.2.2.2.1])), (g4, .inr (0, [.long out.2.2.2.2.2.2.2.1, .long out.2.2.2.2.2.2.2.2.1, .long out.2.2.2.2.2.2.2.2.2, .long wa3, .long wa4]))] t) (va_A [(h0, .inr (2, [.ref g1, .ref g2, .ref g3, .ref g4, .ref g5, .int s5, .int s6, .int s7, .int s8])), (g1, .inr (0, [.long ha0, .long ha1, .long ha2, .long ha3, .long ha4])), (g2, .inr (0, [.long re0, .long re1, .long re2, .long re3, .long re4])), (g3, .inr (0, [.long na0, .long na1, .long na2, .long na3, .long na4])), (g4, .inr (0, [.long wa0, .long wa1, .long wa2, .long wa3, .long wa4]))] sz)) 0 0 (va_A [(h0, .inr (2, [.ref g1, .ref g2, .ref g3, .ref g4, .ref g5, .int s5, .int s6, .int s7, .int s8])), (g1, .inr (0, [.long ha0, .long ha1, .long ha2, .long ha3, .long ha4])), (g2, .inr (0, [.long re0, .long re1, .long re2, .long re3, .long re4])), (g3, .inr (0, [.long na0, .long na1, .long na2, .long na3, .long na4])), (g4, .inr (0, [.long wa0, .long wa1, .long wa2, .long wa3, .long wa4]))] sz) := by
  refine Met.ofW (cc := cX2_findName) (maxL := 1) (ret := none) (by decide +kernel) rfl ?_
  intro p e s m args below meth c s₁ B hml hv
  obtain ⟨rfl, hsz, hP, hK, hD0⟩ := hv
  have hx := B.exec
  have hb := B.bytes
  have hrt := B.returns
  have hts := atoms_spec (ws := wsX2_findName) B.pre
  have hown : s.vm.findClass RX2 = some m.cls := findClass_of_methodNamed B.named
  have hlocks := B.notSynchronized
  subst hsz
  have hD := hD0.self (sz := s.heap.size)
  generalize hAe : va_A [(h0, .inr (2, [.ref g1, .ref g2, .ref g3, .ref g4, .ref g5, .int s5, .int s6, .int s7, .int s8])), (g1, .inr (0, [.long ha0, .long ha1, .long ha2, .long ha3, .long ha4])), (g2, .inr (0, [.long re0, .long re1, .long re2, .long re3, .long re4])), (g3, .inr (0, [.long na0, .long na1, .long na2, .long na3, .long na4])), (g4, .inr (0, [.long wa0, .long wa1, .long wa2, .long wa3, .long wa4]))] s.heap.size = A at hD ⊢
  have hA : ∀ q : Nat, s.heap.size ≤ q → A q := fun q h => by rw [← hAe]; exact Or.inr h
  have hS : va_S A s.heap s.heap [] := va_S.rf
  have hP : va_P (dC, dI) vwCl [(h0, .inr (2, [.ref g1, .ref g2, .ref g3, .ref g4, .ref g5, .int s5, .int s6, .int s7, .int s8])), (g1, .inr (0, [.long ha0, .long ha1, .long ha2, .long ha3, .long ha4])), (g2, .inr (0, [.long re0, .long re1, .long re2, .long re3, .long re4])), (g3, .inr (0, [.long na0, .long na1, .long na2, .long na3, .long na4])), (g4, .inr (0, [.long wa0, .long wa1, .long wa2, .long wa3, .long wa4]))] s.heap := hP
  have hl := lv_entry ([.ref h0]) (n := 1) (Nat.le_of_ble_eq_true rfl)
  rw [lg_entry_eq]
  generalize (lg_sl ([.ref h0]) ++ List.replicate (1 - (lg_sl ([.ref h0])).length) Slot.unset).toArray = ls at hl ⊢
  have hl : lv_has ls 1 [(0, .ref h0)] := hl
  unfold f_X2_findName at hr
  refine lv_aload_n hx hb dX2_findName_0 rfl (lv_at hl 0 rfl) ?_
  refine va_get (D := (dC, dI)) (ci := 2) (v := .ref g3) (C := RX2) (T := TX2) (N := 9) hx hb hts in_X2_findName_X2 hown hK hP 0 rfl rfl 2 (by decide) (hts (.fieldLink RX2 19 "FormRing" "name" "LFormRing$Form;") (by decide +kernel)) (fun _ h9 => h9) rfl dX2_findName_1 ?_
  refine lv_aload_n hx hb dX2_findName_4 rfl (lv_at hl 0 rfl) ?_
  refine va_get (D := (dC, dI)) (ci := 2) (v := .ref g2) (C := RX2) (T := TX2) (N := 9) hx hb hts in_X2_findName_X2 hown hK hP 0 rfl rfl 1 (by decide) (hts (.fieldLink RX2 16 "FormRing" "reduced" "LFormRing$Form;") (by decide +kernel)) (fun _ h9 => h9) rfl dX2_findName_5 ?_
  cases e_1 : f_X0_copy n re0 re1 re2 re3 re4 with
  | none => rw [e_1, Option.bind_none] at hr; cases hr
  | some r_2 =>
    rw [e_1, Option.bind_some] at hr
    have hPc := hP.sub (ws' := [(g3, .inr (0, [.long na0, .long na1, .long na2, .long na3, .long na4])), (g2, .inr (0, [.long re0, .long re1, .long re2, .long re3, .long re4]))]) [3, 2] rfl
    have hDc := hD.sub (ws' := [(g3, .inr (0, [.long na0, .long na1, .long na2, .long na3, .long na4])), (g2, .inr (0, [.long re0, .long re1, .long re2, .long re3, .long re4]))]) [3, 2] (by decide) rfl
    have hKc := hK.sub (tys' := []) [] rfl
    have hFc := va_free (wc := [(g3, .inr (0, [.long na0, .long na1, .long na2, .long na3, .long na4])), (g2, .inr (0, [.long re0, .long re1, .long re2, .long re3, .long re4]))]) hD hS hA [3, 2] rfl
    refine va_callv (va_runV (As := [.ref g2]) (rest := []) ⟨hx, hb, hml, hown, hts⟩ (c_X0_copy l dC dI s.heap.size g3 na0 na1 na2 na3 na4 g2 re0 re1 re2 re3 re4  n _ e_1) (cwV 1 hts gX2_findName_X0_copy rfl rfl rfl (by decide +kernel) ⟨Nat.le_of_ble_eq_true rfl, Nat.le_of_ble_eq_true rfl⟩) ⟨fun a U g mk q => by obtain ⟨q0, q1, qP, qK, qD⟩ := q; exact ⟨q0, q1, qP, va_K.moved (u := U) (U := U.calling g mk a) (Vm.Alike.refl U.vm) qK, qD⟩, va_recv hKc hPc (ci := 0) (q0 := 0) rfl rfl, fun U hU hW => ⟨rfl, by rw [hU], by rw [hU]; exact hPc, va_K.moved hW.alike hKc, hDc.weaken (fun _ _ _ _ => trivial)⟩⟩ rfl rfl hl.1 rfl (lv_room (Nat.le_of_ble_eq_true rfl)) dX2_findName_8 ⟨Nat.zero_le _, Nat.zero_le _⟩) hS (fun q _ h => hFc q h) hFc (fun _ t H1 locs ht hvm hw hB hz1 hk1 hS => ?_)
    obtain ⟨hP1, hK1, hD1⟩ := hB
    rw [ht] at hP1
    obtain ⟨hP, hD⟩ := va_join (wr := [(h0, .inr (2, [.ref g1, .ref g2, .ref g3, .ref g4, .ref g5, .int s5, .int s6, .int s7, .int s8])), (g1, .inr (0, [.long ha0, .long ha1, .long ha2, .long ha3, .long ha4])), (g4, .inr (0, [.long wa0, .long wa1, .long wa2, .long wa3, .long wa4]))]) (w1 := [(g3, .inr (0, [.long r_2.1, .long r_2.2.1, .long r_2.2.2.1, .long r_2.2.2.2.1, .long r_2.2.2.2.2])), (g2, .inr (0, [.long re0, .long re1, .long re2, .long re3, .long re4]))]) hP hD [3, 2] [0, 1, 4] rfl rfl (by decide) (by decide) hk1 hFc hP1 hD1
    generalize H1 = H at hP hS ⊢
    have hP := hP.sub (ws' := [(h0, .inr (2, [.ref g1, .ref g2, .ref g3, .ref g4, .ref g5, .int s5, .int s6, .int s7, .int s8])), (g1, .inr (0, [.long ha0, .long ha1, .long ha2, .long ha3, .long ha4])), (g2, .inr (0, [.long re0, .long re1, .long re2, .long re3, .long re4])), (g3, .inr (0, [.long r_2.1, .long r_2.2.1, .long r_2.2.2.1, .long r_2.2.2.2.1, .long r_2.2.2.2.2])), (g4, .inr (0, [.long wa0, .long wa1, .long wa2, .long wa3, .long wa4]))]) [0, 1, 4, 3, 2] rfl
    have hD := hD.sub (ws' := [(h0, .inr (2, [.ref g1, .ref g2, .ref g3, .ref g4, .ref g5, .int s5, .int s6, .int s7, .int s8])), (g1, .inr (0, [.long ha0, .long ha1, .long ha2, .long ha3, .long ha4])), (g2, .inr (0, [.long re0, .long re1, .long re2, .long re3, .long re4])), (g3, .inr (0, [.long r_2.1, .long r_2.2.1, .long r_2.2.2.1, .long r_2.2.2.2.1, .long r_2.2.2.2.2])), (g4, .inr (0, [.long wa0, .long wa1, .long wa2, .long wa3, .long wa4]))]) [0, 1, 4, 3, 2] (by decide) rfl
    have hP : va_P (dC, dI) vwCl [(h0, .inr (2, [.ref g1, .ref g2, .ref g3, .ref g4, .ref g5, .int s5, .int s6, .int s7, .int s8])), (g1, .inr (0, [.long ha0, .long ha1, .long ha2, .long ha3, .long ha4])), (g2, .inr (0, [.long re0, .long re1, .long re2, .long re3, .long re4])), (g3, .inr (0, [.long r_2.1, .long r_2.2.1, .long r_2.2.2.1, .long r_2.2.2.2.1, .long r_2.2.2.2.2])), (g4, .inr (0, [.long wa0, .long wa1, .long wa2, .long wa3, .long wa4]))] H := hP
    have hD : va_D A [(h0, .inr (2, [.ref g1, .ref g2, .ref g3, .ref g4, .ref g5, .int s5, .int s6, .int s7, .int s8])), (g1, .inr (0, [.long ha0, .long ha1, .long ha2, .long ha3, .long ha4])), (g2, .inr (0, [.long re0, .long re1, .long re2, .long re3, .long re4])), (g3, .inr (0, [.long r_2.1, .long r_2.2.1, .long r_2.2.2.1, .long r_2.2.2.2.1, .long r_2.2.2.2.2])), (g4, .inr (0, [.long wa0, .long wa1, .long wa2, .long wa3, .long wa4]))] := hD
    refine W.widen (k := 0) (n := 0) (Nat.le_refl _) (Nat.le_refl _) ?_
    refine lv_aload_n hx hb dX2_findName_11 rfl (lv_at hl 0 rfl) ?_
    refine lv_aload_n hx hb dX2_findName_12 rfl (lv_at hl 0 rfl) ?_
    refine va_get (D := (dC, dI)) (ci := 2) (v := .int s5) (C := RX2) (T := TX2) (N := 9) hx hb hts in_X2_findName_X2 hown hK hP 0 rfl rfl 5 (by decide) (hts (.fieldLink RX2 74 "FormRing" "stepsToReduced" "I") (by decide +kernel)) (fun _ h9 => h9) rfl dX2_findName_13 ?_
    refine va_put (D := (dC, dI)) (ci := 2) (v := .int s5) (ty := .int) (C := RX2) (T := TX2) (N := 9) hx hb hts in_X2_findName_X2 tyX2 tyX2_ok nmX2 hown hK hP hD hS 0 rfl rfl 6 (by decide) (hts (.fieldLink RX2 78 "FormRing" "stepsToName" "I") (by decide +kernel)) (fun _ h9 => h9) rfl (by decide +kernel) rfl rfl (Nat.le_of_ble_eq_true rfl) dX2_findName_16 (fun H locs hP hD hS => ?_)
    have hP : va_P (dC, dI) vwCl [(h0, .inr (2, [.ref g1, .ref g2, .ref g3, .ref g4, .ref g5, .int s5, .int s5, .int s7, .int s8])), (g1, .inr (0, [.long ha0, .long ha1, .long ha2, .long ha3, .long ha4])), (g2, .inr (0, [.long re0, .long re1, .long re2, .long re3, .long re4])), (g3, .inr (0, [.long r_2.1, .long r_2.2.1, .long r_2.2.2.1, .long r_2.2.2.2.1, .long r_2.2.2.2.2])), (g4, .inr (0, [.long wa0, .long wa1, .long wa2, .long wa3, .long wa4]))] H := hP
    have hD : va_D A [(h0, .inr (2, [.ref g1, .ref g2, .ref g3, .ref g4, .ref g5, .int s5, .int s5, .int s7, .int s8])), (g1, .inr (0, [.long ha0, .long ha1, .long ha2, .long ha3, .long ha4])), (g2, .inr (0, [.long re0, .long re1, .long re2, .long re3, .long re4])), (g3, .inr (0, [.long r_2.1, .long r_2.2.1, .long r_2.2.2.1, .long r_2.2.2.2.1, .long r_2.2.2.2.2])), (g4, .inr (0, [.long wa0, .long wa1, .long wa2, .long wa3, .long wa4]))] := hD
    refine lv_aload_n hx hb dX2_findName_19 rfl (lv_at hl 0 rfl) ?_
    refine lv_iconst (v := 1) hx hb dX2_findName_20 (by decide) ?_
    refine va_put (D := (dC, dI)) (ci := 2) (v := .int 1) (ty := .int) (C := RX2) (T := TX2) (N := 9) hx hb hts in_X2_findName_X2 tyX2 tyX2_ok nmX2 hown hK hP hD hS 0 rfl rfl 7 (by decide) (hts (.fieldLink RX2 81 "FormRing" "ringSize" "I") (by decide +kernel)) (fun _ h9 => h9) rfl (by decide +kernel) rfl rfl (Nat.le_of_ble_eq_true rfl) dX2_findName_21 (fun H locs hP hD hS => ?_)
    have hP : va_P (dC, dI) vwCl [(h0, .inr (2, [.ref g1, .ref g2, .ref g3, .ref g4, .ref g5, .int s5, .int s5, .int 1, .int s8])), (g1, .inr (0, [.long ha0, .long ha1, .long ha2, .long ha3, .long ha4])), (g2, .inr (0, [.long re0, .long re1, .long re2, .long re3, .long re4])), (g3, .inr (0, [.long r_2.1, .long r_2.2.1, .long r_2.2.2.1, .long r_2.2.2.2.1, .long r_2.2.2.2.2])), (g4, .inr (0, [.long wa0, .long wa1, .long wa2, .long wa3, .long wa4]))] H := hP
    have hD : va_D A [(h0, .inr (2, [.ref g1, .ref g2, .ref g3, .ref g4, .ref g5, .int s5, .int s5, .int 1, .int s8])), (g1, .inr (0, [.long ha0, .long ha1, .long ha2, .long ha3, .long ha4])), (g2, .inr (0, [.long re0, .long re1, .long re2, .long re3, .long re4])), (g3, .inr (0, [.long r_2.1, .long r_2.2.1, .long r_2.2.2.1, .long r_2.2.2.2.1, .long r_2.2.2.2.2])), (g4, .inr (0, [.long wa0, .long wa1, .long wa2, .long wa3, .long wa4]))] := hD
    refine lv_aload_n hx hb dX2_findName_24 rfl (lv_at hl 0 rfl) ?_
    refine va_get (D := (dC, dI)) (ci := 2) (v := .ref g1) (C := RX2) (T := TX2) (N := 9) hx hb hts in_X2_findName_X2 hown hK hP 0 rfl rfl 0 (by decide) (hts (.fieldLink RX2 10 "FormRing" "hand" "LFormRing$Form;") (by decide +kernel)) (fun _ h9 => h9) rfl dX2_findName_25 ?_
    refine va_get (D := (dC, dI)) (ci := 0) (v := .long ha3) (C := RX0) (T := TX0) (N := 5) hx hb hts in_X2_findName_X0 hown hK hP 1 rfl rfl 3 (by decide) (hts (.fieldLink RX2 50 "FormRing$Form" "discriminant" "J") (by decide +kernel)) (fun _ h9 => h9) rfl dX2_findName_28 ?_
    refine lv_lconst (v := 0) hx hb dX2_findName_31 (by decide) ?_
    refine lz_lge (tgt := 37) hx hb dX2_findName_32 dX2_findName_33 (by decide) (fun c_4 => ?_) (fun c_4 => ?_)
    · have hr := (if_neg c_4).symm.trans hr
      refine lv_aload_n hx hb dX2_findName_37 rfl (lv_at hl 0 rfl) ?_
      refine va_get (D := (dC, dI)) (ci := 2) (v := .ref g4) (C := RX2) (T := TX2) (N := 9) hx hb hts in_X2_findName_X2 hown hK hP 0 rfl rfl 3 (by decide) (hts (.fieldLink RX2 22 "FormRing" "walker" "LFormRing$Form;") (by decide +kernel)) (fun _ h9 => h9) rfl dX2_findName_38 ?_
      cases e_5 : f_X0_goOn n wa0 wa1 wa2 wa3 wa4 with
      | none => rw [e_5, Option.bind_none] at hr; cases hr
      | some r_6 =>
        rw [e_5, Option.bind_some] at hr
        have hPc := hP.sub (ws' := [(g4, .inr (0, [.long wa0, .long wa1, .long wa2, .long wa3, .long wa4]))]) [4] rfl
        have hDc := hD.sub (ws' := [(g4, .inr (0, [.long wa0, .long wa1, .long wa2, .long wa3, .long wa4]))]) [4] (by decide) rfl
        have hKc := hK.sub (tys' := []) [] rfl
        have hFc := va_free (wc := [(g4, .inr (0, [.long wa0, .long wa1, .long wa2, .long wa3, .long wa4]))]) hD hS hA [4] rfl
        refine va_calll (va_runV (As := []) (rest := []) ⟨hx, hb, hml, hown, hts⟩ (c_X0_goOn l dC dI H.size g4 wa0 wa1 wa2 wa3 wa4  n _ e_5) (cwV 0 hts gX2_findName_X0_goOn rfl rfl rfl (by decide +kernel) ⟨Nat.le_of_ble_eq_true rfl, Nat.le_of_ble_eq_true rfl⟩) ⟨fun a U g mk q => by obtain ⟨q0, q1, qP, qK, qD⟩ := q; exact ⟨q0, q1, qP, va_K.moved (u := U) (U := U.calling g mk a) (Vm.Alike.refl U.vm) qK, qD⟩, va_recv hKc hPc (ci := 0) (q0 := 0) rfl rfl, fun U hU hW => ⟨rfl, by rw [hU], by rw [hU]; exact hPc, va_K.moved hW.alike hKc, hDc.weaken (fun _ _ _ _ => trivial)⟩⟩ rfl rfl hl.1 rfl (lv_room (Nat.le_of_ble_eq_true rfl)) dX2_findName_41 ⟨Nat.zero_le _, Nat.zero_le _⟩) hS (fun q _ h => hFc q h) hFc (fun x_7 _ t H1 locs ht hvm hw hB hz1 hk1 hS => ?_)
        have hw := hw.symm
        subst hw
        obtain ⟨hP1, hK1, hD1⟩ := hB
        rw [ht] at hP1
        obtain ⟨hP, hD⟩ := va_join (wr := [(h0, .inr (2, [.ref g1, .ref g2, .ref g3, .ref g4, .ref g5, .int s5, .int s5, .int 1, .int s8])), (g1, .inr (0, [.long ha0, .long ha1, .long ha2, .long ha3, .long ha4])), (g2, .inr (0, [.long re0, .long re1, .long re2, .long re3, .long re4])), (g3, .inr (0, [.long r_2.1, .long r_2.2.1, .long r_2.2.2.1, .long r_2.2.2.2.1, .long r_2.2.2.2.2]))]) (w1 := [(g4, .inr (0, [.long r_6.2.1, .long r_6.2.2.1, .long r_6.2.2.2, .long wa3, .long wa4]))]) hP hD [4] [0, 1, 2, 3] rfl rfl (by decide) (by decide) hk1 hFc hP1 hD1
        generalize H1 = H at hP hS ⊢
        have hP : va_P (dC, dI) vwCl [(h0, .inr (2, [.ref g1, .ref g2, .ref g3, .ref g4, .ref g5, .int s5, .int s5, .int 1, .int s8])), (g1, .inr (0, [.long ha0, .long ha1, .long ha2, .long ha3, .long ha4])), (g2, .inr (0, [.long re0, .long re1, .long re2, .long re3, .long re4])), (g3, .inr (0, [.long r_2.1, .long r_2.2.1, .long r_2.2.2.1, .long r_2.2.2.2.1, .long r_2.2.2.2.2])), (g4, .inr (0, [.long r_6.2.1, .long r_6.2.2.1, .long r_6.2.2.2, .long wa3, .long wa4]))] H := hP
        have hD : va_D A [(h0, .inr (2, [.ref g1, .ref g2, .ref g3, .ref g4, .ref g5, .int s5, .int s5, .int 1, .int s8])), (g1, .inr (0, [.long ha0, .long ha1, .long ha2, .long ha3, .long ha4])), (g2, .inr (0, [.long re0, .long re1, .long re2, .long re3, .long re4])), (g3, .inr (0, [.long r_2.1, .long r_2.2.1, .long r_2.2.2.1, .long r_2.2.2.2.1, .long r_2.2.2.2.2])), (g4, .inr (0, [.long r_6.2.1, .long r_6.2.2.1, .long r_6.2.2.2, .long wa3, .long wa4]))] := hD
        refine W.widen (k := 0) (n := 0) (Nat.le_refl _) (Nat.le_refl _) ?_
        refine lv_pop2_2 hx hb dX2_findName_44 rfl ?_
        exact k_X2_findName_45 hx hb hrt hml hown hlocks hts hA hK n out n s5 1 r_2.1 r_2.2.1 r_2.2.2.1 r_2.2.2.2.1 r_2.2.2.2.2 r_6.2.1 r_6.2.2.1 r_6.2.2.2 hr _ _ _ hP hD hS (lv_sub hl [0] rfl)
    · have hr := (if_pos c_4).symm.trans hr
      have ho := Option.some.inj hr
      subst ho
      exact W.vret hx hb hrt (fun t ht hW => ⟨⟨(), rfl, trivial, by rw [ht]; exact hP, va_K.moved hW.alike hK, hD⟩, hS.F ht⟩) hS.2.2 dX2_findName_36

theorem in_X2_settle_X2 : ∀ w ∈ u_ws RX2 TX2 9, w ∈ wsX2_settle := by decide +kernel
def f_X2_settle (n : Nat) (ha0 : Int64) (ha1 : Int64) (ha2 : Int64) (ha3 : Int64) (ha4 : Int64) : Option (Int32 × Int32 × Int32 × Int32 × Int64 × Int64 × Int64 × Int64 × Int64 × Int64 × Int64 × Int64 × Int64 × Int64 × Int64 × Int64 × Int64 × Int64 × Int64) := (f_X0_copy n ha0 ha1 ha2 ha3 ha4).bind (fun r_2 => (f_X0_goToReduced n r_2.1 r_2.2.1 r_2.2.2.1 r_2.2.2.2.1 r_2.2.2.2.2).bind (fun r_5 => (f_X0_copy n r_5.2.1 r_5.2.2.1 r_5.2.2.2 r_2.2.2.2.1 r_2.2.2.2.2).bind (fun r_8 => (f_X2_findName n r_5.1 ha3 r_8.1 r_8.2.1 r_8.2.2.1 r_8.2.2.2.1 r_8.2.2.2.2 r_5.2.1 r_5.2.2.1 r_5.2.2.2 r_2.2.2.2.1 r_2.2.2.2.2).bind (fun r_11 => some (r_5.1, r_11.1, r_11.2.1, 0, r_8.1, r_8.2.1, r_8.2.2.1, r_8.2.2.2.1, r_8.2.2.2.2, r_11.2.2.1, r_11.2.2.2.1, r_11.2.2.2.2.1, r_11.2.2.2.2.2.1, r_11.2.2.2.2.2.2.1, r_11.2.2.2.2.2.2.2.1, r_11.2.2.2.2.2.2.2.2.1, r_11.2.2.2.2.2.2.2.2.2, r_2.2.2.2.1, r_2.2.2.2.2)))))
set_option maxHeartbeats 4000000 in
set_option maxRecDepth 100000 in
theorem c_X2_settle (l : Launch) (dC : Nat → ClassId) (dI : Nat → Nat → Nat) (sz : Nat) (h0 : Nat) (g1 : Nat) (g2 : Nat) (g3 : Nat) (g4 : Nat) (g5 : Nat) (s5 : Int32) (s6 : Int32) (s7 : Int32) (s8 : Int32) (ha0 : Int64) (ha1 : Int64) (ha2 : Int64) (ha3 : Int64) (ha4 : Int64) (re0 : Int64) (re1 : Int64) (re2 : Int64) (re3 : Int64) (re4 : Int64) (na0 : Int64) (na1 : Int64) (na2 : Int64) (na3 : Int64) (na4 : Int64) (wa0 : Int64) (wa1 : Int64) (wa2 : Int64) (wa3 : Int64) (wa4 : Int64)   (n : Nat) (out : Int32 × Int32 × Int32 × Int32 × Int64 × Int64 × Int64 × Int64 × Int64 × Int64 × Int64 × Int64 × Int64 × Int64 × Int64 × Int64 × Int64 × Int64 × Int64) (hr : f_X2_settle n ha0 ha1 ha2 ha3 ha4 = some out) : Met l yX2_settle wsX2_settle ({ frames := 4, cells := 0, slots := 0, locals := 98 }) (va_Pc [.ref h0] (zP dC dI [] [(h0, .inr (2, [.ref g1, .ref g2, .ref g3, .ref g4, .ref g5, .int s5, .int s6, .int s7, .int s8])), (g1, .inr (0, [.long ha0, .long ha1, .long ha2, .long ha3, .long ha4])), (g2, .inr (0, [.long re0, .long re1, .long re2, .long re3, .long re4])), (g3, .inr (0, [.long na0, .long na1, .long na2, .long na3, .long na4])), (g4, .inr (0, [.long wa0, .long wa1, .long wa2, .long wa3, .long wa4]))] sz)) (va_Qv (fun (_ : Unit) => True) (fun (_ : Unit) t => zB dC dI [] (va_A [(h0, .inr (2, [.ref g1, .ref g2, .ref g3, .ref g4, .ref g5, .int s5, .int s6, .int s7, .int s8])), (g1, .inr (0, [.long ha0, .long ha1, .long ha2, .long ha3, .long ha4])), (g2, .inr (0, [.long re0, .long re1, .long re2, .long re3, .long re4])), (g3, .inr (0, [.long na0, .long na1, .long na2, .long na3, .long na4])), (g4, .inr (0, [.long wa0, .long wa1, .long wa2, .long wa3, .long wa4]))] sz) [(h0, .inr (2, [.ref g1, .ref g2, .ref g3, .ref g4, .ref g5, .int out.1, .int out.2.1, .int out.2.2.1, .int out.2.2.2.1])), (g1, .inr (0, [.long ha0, .long ha1, .long ha2, .long ha3, .long ha4])), (g2, .inr (0, [.long out.2.2.2.2.1, .long out.2.2.2.2.2.1, .long out.2.2.2.2.2.2.1, .long out.2.2.2.2.2.2.2.1, .long out.2.2.2.2.2.2.2.2.1])), (g3, .inr (0, [.long out.2.2.2.2.2.2.2.2.2.1, .long out.2.2.2.2.2.2.2.2.2.2.1, .long out.2.2.2.2.2.2.2.2.2.2.2.1, .long out.2.2.2.2.2.2.2.2.2.2.2.2.1, .long out.2.2.2.2.2.2.2.2.2.2.2.2.2.1])), (g4, .inr (0, [.long out.2.2.2.2.2.2.2.2.2.2.2.2.2.2.1, .long out.2.2.2.2.2.2.2.2.2.2.2.2.2.2.2.1, .long out.2.2.2.2.2.2.2.2.2.2.2.2.2.2.2.2.1, .long out.2.2.2.2.2.2.2.2.2.2.2.2.2.2.2.2.2.1, .long out.2.2.2.2.2.2.2.2.2.2.2.2.2.2.2.2.2.2]))] t) (va_A [(h0, .inr (2, [.ref g1, .ref g2, .ref g3, .ref g4, .ref g5, .int s5, .int s6, .int s7, .int s8])), (g1, .inr (0, [.long ha0, .long ha1, .long ha2, .long ha3, .long ha4])), (g2, .inr (0, [.long re0, .long re1, .long re2, .long re3, .long re4])), (g3, .inr (0, [.long na0, .long na1, .long na2, .long na3, .long na4])), (g4, .inr (0, [.long wa0, .long wa1, .long wa2, .long wa3, .long wa4]))] sz)) 0 0 (va_A [(h0, .inr (2, [.ref g1, .ref g2, .ref g3, .ref g4, .ref g5, .int s5, .int s6, .int s7, .int s8])), (g1, .inr (0, [.long ha0, .long ha1, .long ha2, .long ha3, .long ha4])), (g2, .inr (0, [.long re0, .long re1, .long re2, .long re3, .long re4])), (g3, .inr (0, [.long na0, .long na1, .long na2, .long na3, .long na4])), (g4, .inr (0, [.long wa0, .long wa1, .long wa2, .long wa3, .long wa4]))] sz) := by
  refine Met.ofW (cc := cX2_settle) (maxL := 1) (ret := none) (by decide +kernel) rfl ?_
  intro p e s m args below meth c s₁ B hml hv
  obtain ⟨rfl, hsz, hP, hK, hD0⟩ := hv
  have hx := B.exec
  have hb := B.bytes
  have hrt := B.returns
  have hts := atoms_spec (ws := wsX2_settle) B.pre
  have hown : s.vm.findClass RX2 = some m.cls := findClass_of_methodNamed B.named
  have hlocks := B.notSynchronized
  subst hsz
  have hD := hD0.self (sz := s.heap.size)
  generalize hAe : va_A [(h0, .inr (2, [.ref g1, .ref g2, .ref g3, .ref g4, .ref g5, .int s5, .int s6, .int s7, .int s8])), (g1, .inr (0, [.long ha0, .long ha1, .long ha2, .long ha3, .long ha4])), (g2, .inr (0, [.long re0, .long re1, .long re2, .long re3, .long re4])), (g3, .inr (0, [.long na0, .long na1, .long na2, .long na3, .long na4])), (g4, .inr (0, [.long wa0, .long wa1, .long wa2, .long wa3, .long wa4]))] s.heap.size = A at hD ⊢
  have hA : ∀ q : Nat, s.heap.size ≤ q → A q := fun q h => by rw [← hAe]; exact Or.inr h
  have hS : va_S A s.heap s.heap [] := va_S.rf
  have hP : va_P (dC, dI) vwCl [(h0, .inr (2, [.ref g1, .ref g2, .ref g3, .ref g4, .ref g5, .int s5, .int s6, .int s7, .int s8])), (g1, .inr (0, [.long ha0, .long ha1, .long ha2, .long ha3, .long ha4])), (g2, .inr (0, [.long re0, .long re1, .long re2, .long re3, .long re4])), (g3, .inr (0, [.long na0, .long na1, .long na2, .long na3, .long na4])), (g4, .inr (0, [.long wa0, .long wa1, .long wa2, .long wa3, .long wa4]))] s.heap := hP
  have hl := lv_entry ([.ref h0]) (n := 1) (Nat.le_of_ble_eq_true rfl)
  rw [lg_entry_eq]
  generalize (lg_sl ([.ref h0]) ++ List.replicate (1 - (lg_sl ([.ref h0])).length) Slot.unset).toArray = ls at hl ⊢
  have hl : lv_has ls 1 [(0, .ref h0)] := hl
  unfold f_X2_settle at hr
  refine lv_aload_n hx hb dX2_settle_0 rfl (lv_at hl 0 rfl) ?_
  refine lv_iconst (v := 0) hx hb dX2_settle_1 (by decide) ?_
  refine va_put (D := (dC, dI)) (ci := 2) (v := .int 0) (ty := .boolean) (C := RX2) (T := TX2) (N := 9) hx hb hts in_X2_settle_X2 tyX2 tyX2_ok nmX2 hown hK hP hD hS 0 rfl rfl 8 (by decide) (hts (.fieldLink RX2 152 "FormRing" "matrixMade" "Z") (by decide +kernel)) (fun _ h9 => h9) rfl (by decide +kernel) rfl rfl (Nat.le_of_ble_eq_true rfl) dX2_settle_2 (fun H locs hP hD hS => ?_)
  have hP : va_P (dC, dI) vwCl [(h0, .inr (2, [.ref g1, .ref g2, .ref g3, .ref g4, .ref g5, .int s5, .int s6, .int s7, .int 0])), (g1, .inr (0, [.long ha0, .long ha1, .long ha2, .long ha3, .long ha4])), (g2, .inr (0, [.long re0, .long re1, .long re2, .long re3, .long re4])), (g3, .inr (0, [.long na0, .long na1, .long na2, .long na3, .long na4])), (g4, .inr (0, [.long wa0, .long wa1, .long wa2, .long wa3, .long wa4]))] H := hP
  have hD : va_D A [(h0, .inr (2, [.ref g1, .ref g2, .ref g3, .ref g4, .ref g5, .int s5, .int s6, .int s7, .int 0])), (g1, .inr (0, [.long ha0, .long ha1, .long ha2, .long ha3, .long ha4])), (g2, .inr (0, [.long re0, .long re1, .long re2, .long re3, .long re4])), (g3, .inr (0, [.long na0, .long na1, .long na2, .long na3, .long na4])), (g4, .inr (0, [.long wa0, .long wa1, .long wa2, .long wa3, .long wa4]))] := hD
  refine lv_aload_n hx hb dX2_settle_5 rfl (lv_at hl 0 rfl) ?_
  refine va_get (D := (dC, dI)) (ci := 2) (v := .ref g4) (C := RX2) (T := TX2) (N := 9) hx hb hts in_X2_settle_X2 hown hK hP 0 rfl rfl 3 (by decide) (hts (.fieldLink RX2 22 "FormRing" "walker" "LFormRing$Form;") (by decide +kernel)) (fun _ h9 => h9) rfl dX2_settle_6 ?_
  refine lv_aload_n hx hb dX2_settle_9 rfl (lv_at hl 0 rfl) ?_
  refine va_get (D := (dC, dI)) (ci := 2) (v := .ref g1) (C := RX2) (T := TX2) (N := 9) hx hb hts in_X2_settle_X2 hown hK hP 0 rfl rfl 0 (by decide) (hts (.fieldLink RX2 10 "FormRing" "hand" "LFormRing$Form;") (by decide +kernel)) (fun _ h9 => h9) rfl dX2_settle_10 ?_
  cases e_1 : f_X0_copy n ha0 ha1 ha2 ha3 ha4 with
  | none => rw [e_1, Option.bind_none] at hr; cases hr
  | some r_2 =>
    rw [e_1, Option.bind_some] at hr
    have hPc := hP.sub (ws' := [(g4, .inr (0, [.long wa0, .long wa1, .long wa2, .long wa3, .long wa4])), (g1, .inr (0, [.long ha0, .long ha1, .long ha2, .long ha3, .long ha4]))]) [4, 1] rfl
    have hDc := hD.sub (ws' := [(g4, .inr (0, [.long wa0, .long wa1, .long wa2, .long wa3, .long wa4])), (g1, .inr (0, [.long ha0, .long ha1, .long ha2, .long ha3, .long ha4]))]) [4, 1] (by decide) rfl
    have hKc := hK.sub (tys' := []) [] rfl
    have hFc := va_free (wc := [(g4, .inr (0, [.long wa0, .long wa1, .long wa2, .long wa3, .long wa4])), (g1, .inr (0, [.long ha0, .long ha1, .long ha2, .long ha3, .long ha4]))]) hD hS hA [4, 1] rfl
    refine va_callv (va_runV (As := [.ref g1]) (rest := []) ⟨hx, hb, hml, hown, hts⟩ (c_X0_copy l dC dI H.size g4 wa0 wa1 wa2 wa3 wa4 g1 ha0 ha1 ha2 ha3 ha4  n _ e_1) (cwV 1 hts gX2_settle_X0_copy rfl rfl rfl (by decide +kernel) ⟨Nat.le_of_ble_eq_true rfl, Nat.le_of_ble_eq_true rfl⟩) ⟨fun a U g mk q => by obtain ⟨q0, q1, qP, qK, qD⟩ := q; exact ⟨q0, q1, qP, va_K.moved (u := U) (U := U.calling g mk a) (Vm.Alike.refl U.vm) qK, qD⟩, va_recv hKc hPc (ci := 0) (q0 := 0) rfl rfl, fun U hU hW => ⟨rfl, by rw [hU], by rw [hU]; exact hPc, va_K.moved hW.alike hKc, hDc.weaken (fun _ _ _ _ => trivial)⟩⟩ rfl rfl hl.1 rfl (lv_room (Nat.le_of_ble_eq_true rfl)) dX2_settle_13 ⟨Nat.zero_le _, Nat.zero_le _⟩) hS (fun q _ h => hFc q h) hFc (fun _ t H1 locs ht hvm hw hB hz1 hk1 hS => ?_)
    obtain ⟨hP1, hK1, hD1⟩ := hB
    rw [ht] at hP1
    obtain ⟨hP, hD⟩ := va_join (wr := [(h0, .inr (2, [.ref g1, .ref g2, .ref g3, .ref g4, .ref g5, .int s5, .int s6, .int s7, .int 0])), (g2, .inr (0, [.long re0, .long re1, .long re2, .long re3, .long re4])), (g3, .inr (0, [.long na0, .long na1, .long na2, .long na3, .long na4]))]) (w1 := [(g4, .inr (0, [.long r_2.1, .long r_2.2.1, .long r_2.2.2.1, .long r_2.2.2.2.1, .long r_2.2.2.2.2])), (g1, .inr (0, [.long ha0, .long ha1, .long ha2, .long ha3, .long ha4]))]) hP hD [4, 1] [0, 2, 3] rfl rfl (by decide) (by decide) hk1 hFc hP1 hD1
    generalize H1 = H at hP hS ⊢
    have hP := hP.sub (ws' := [(h0, .inr (2, [.ref g1, .ref g2, .ref g3, .ref g4, .ref g5, .int s5, .int s6, .int s7, .int 0])), (g1, .inr (0, [.long ha0, .long ha1, .long ha2, .long ha3, .long ha4])), (g2, .inr (0, [.long re0, .long re1, .long re2, .long re3, .long re4])), (g3, .inr (0, [.long na0, .long na1, .long na2, .long na3, .long na4])), (g4, .inr (0, [.long r_2.1, .long r_2.2.1, .long r_2.2.2.1, .long r_2.2.2.2.1, .long r_2.2.2.2.2]))]) [0, 4, 1, 2, 3] rfl
    have hD := hD.sub (ws' := [(h0, .inr (2, [.ref g1, .ref g2, .ref g3, .ref g4, .ref g5, .int s5, .int s6, .int s7, .int 0])), (g1, .inr (0, [.long ha0, .long ha1, .long ha2, .long ha3, .long ha4])), (g2, .inr (0, [.long re0, .long re1, .long re2, .long re3, .long re4])), (g3, .inr (0, [.long na0, .long na1, .long na2, .long na3, .long na4])), (g4, .inr (0, [.long r_2.1, .long r_2.2.1, .long r_2.2.2.1, .long r_2.2.2.2.1, .long r_2.2.2.2.2]))]) [0, 4, 1, 2, 3] (by decide) rfl
    have hP : va_P (dC, dI) vwCl [(h0, .inr (2, [.ref g1, .ref g2, .ref g3, .ref g4, .ref g5, .int s5, .int s6, .int s7, .int 0])), (g1, .inr (0, [.long ha0, .long ha1, .long ha2, .long ha3, .long ha4])), (g2, .inr (0, [.long re0, .long re1, .long re2, .long re3, .long re4])), (g3, .inr (0, [.long na0, .long na1, .long na2, .long na3, .long na4])), (g4, .inr (0, [.long r_2.1, .long r_2.2.1, .long r_2.2.2.1, .long r_2.2.2.2.1, .long r_2.2.2.2.2]))] H := hP
    have hD : va_D A [(h0, .inr (2, [.ref g1, .ref g2, .ref g3, .ref g4, .ref g5, .int s5, .int s6, .int s7, .int 0])), (g1, .inr (0, [.long ha0, .long ha1, .long ha2, .long ha3, .long ha4])), (g2, .inr (0, [.long re0, .long re1, .long re2, .long re3, .long re4])), (g3, .inr (0, [.long na0, .long na1, .long na2, .long na3, .long na4])), (g4, .inr (0, [.long r_2.1, .long r_2.2.1, .long r_2.2.2.1, .long r_2.2.2.2.1, .long r_2.2.2.2.2]))] := hD
    refine W.widen (k := 0) (n := 0) (Nat.le_refl _) (Nat.le_refl _) ?_
    refine lv_aload_n hx hb dX2_settle_16 rfl (lv_at hl 0 rfl) ?_
    refine lv_aload_n hx hb dX2_settle_17 rfl (lv_at hl 0 rfl) ?_
    refine va_get (D := (dC, dI)) (ci := 2) (v := .ref g4) (C := RX2) (T := TX2) (N := 9) hx hb hts in_X2_settle_X2 hown hK hP 0 rfl rfl 3 (by decide) (hts (.fieldLink RX2 22 "FormRing" "walker" "LFormRing$Form;") (by decide +kernel)) (fun _ h9 => h9) rfl dX2_settle_18 ?_
    cases e_4 : f_X0_goToReduced n r_2.1 r_2.2.1 r_2.2.2.1 r_2.2.2.2.1 r_2.2.2.2.2 with
    | none => rw [e_4, Option.bind_none] at hr; cases hr
    | some r_5 =>
      rw [e_4, Option.bind_some] at hr
      have hPc := hP.sub (ws' := [(g4, .inr (0, [.long r_2.1, .long r_2.2.1, .long r_2.2.2.1, .long r_2.2.2.2.1, .long r_2.2.2.2.2]))]) [4] rfl
      have hDc := hD.sub (ws' := [(g4, .inr (0, [.long r_2.1, .long r_2.2.1, .long r_2.2.2.1, .long r_2.2.2.2.1, .long r_2.2.2.2.2]))]) [4] (by decide) rfl
      have hKc := hK.sub (tys' := []) [] rfl
      have hFc := va_free (wc := [(g4, .inr (0, [.long r_2.1, .long r_2.2.1, .long r_2.2.2.1, .long r_2.2.2.2.1, .long r_2.2.2.2.2]))]) hD hS hA [4] rfl
      refine va_calli (va_runV (As := []) (rest := [.ref h0]) ⟨hx, hb, hml, hown, hts⟩ (c_X0_goToReduced l dC dI H.size g4 r_2.1 r_2.2.1 r_2.2.2.1 r_2.2.2.2.1 r_2.2.2.2.2  n _ e_4) (cwV 0 hts gX2_settle_X0_goToReduced rfl rfl rfl (by decide +kernel) ⟨Nat.le_of_ble_eq_true rfl, Nat.le_of_ble_eq_true rfl⟩) ⟨fun a U g mk q => by obtain ⟨q0, q1, qP, qK, qD⟩ := q; exact ⟨q0, q1, qP, va_K.moved (u := U) (U := U.calling g mk a) (Vm.Alike.refl U.vm) qK, qD⟩, va_recv hKc hPc (ci := 0) (q0 := 0) rfl rfl, fun U hU hW => ⟨rfl, by rw [hU], by rw [hU]; exact hPc, va_K.moved hW.alike hKc, hDc.weaken (fun _ _ _ _ => trivial)⟩⟩ rfl rfl hl.1 rfl (lv_room (Nat.le_of_ble_eq_true rfl)) dX2_settle_21 ⟨Nat.zero_le _, Nat.zero_le _⟩) hS (fun q _ h => hFc q h) hFc (fun x_6 _ t H1 locs ht hvm hw hB hz1 hk1 hS => ?_)
      have hw := hw.symm
      subst hw
      obtain ⟨hP1, hK1, hD1⟩ := hB
      rw [ht] at hP1
      obtain ⟨hP, hD⟩ := va_join (wr := [(h0, .inr (2, [.ref g1, .ref g2, .ref g3, .ref g4, .ref g5, .int s5, .int s6, .int s7, .int 0])), (g1, .inr (0, [.long ha0, .long ha1, .long ha2, .long ha3, .long ha4])), (g2, .inr (0, [.long re0, .long re1, .long re2, .long re3, .long re4])), (g3, .inr (0, [.long na0, .long na1, .long na2, .long na3, .long na4]))]) (w1 := [(g4, .inr (0, [.long r_5.2.1, .long r_5.2.2.1, .long r_5.2.2.2, .long r_2.2.2.2.1, .long r_2.2.2.2.2]))]) hP hD [4] [0, 1, 2, 3] rfl rfl (by decide) (by decide) hk1 hFc hP1 hD1
      generalize H1 = H at hP hS ⊢
      have hP : va_P (dC, dI) vwCl [(h0, .inr (2, [.ref g1, .ref g2, .ref g3, .ref g4, .ref g5, .int s5, .int s6, .int s7, .int 0])), (g1, .inr (0, [.long ha0, .long ha1, .long ha2, .long ha3, .long ha4])), (g2, .inr (0, [.long re0, .long re1, .long re2, .long re3, .long re4])), (g3, .inr (0, [.long na0, .long na1, .long na2, .long na3, .long na4])), (g4, .inr (0, [.long r_5.2.1, .long r_5.2.2.1, .long r_5.2.2.2, .long r_2.2.2.2.1, .long r_2.2.2.2.2]))] H := hP
      have hD : va_D A [(h0, .inr (2, [.ref g1, .ref g2, .ref g3, .ref g4, .ref g5, .int s5, .int s6, .int s7, .int 0])), (g1, .inr (0, [.long ha0, .long ha1, .long ha2, .long ha3, .long ha4])), (g2, .inr (0, [.long re0, .long re1, .long re2, .long re3, .long re4])), (g3, .inr (0, [.long na0, .long na1, .long na2, .long na3, .long na4])), (g4, .inr (0, [.long r_5.2.1, .long r_5.2.2.1, .long r_5.2.2.2, .long r_2.2.2.2.1, .long r_2.2.2.2.2]))] := hD
      refine W.widen (k := 0) (n := 0) (Nat.le_refl _) (Nat.le_refl _) ?_
      refine va_put (D := (dC, dI)) (ci := 2) (v := .int r_5.1) (ty := .int) (C := RX2) (T := TX2) (N := 9) hx hb hts in_X2_settle_X2 tyX2 tyX2_ok nmX2 hown hK hP hD hS 0 rfl rfl 5 (by decide) (hts (.fieldLink RX2 74 "FormRing" "stepsToReduced" "I") (by decide +kernel)) (fun _ h9 => h9) rfl (by decide +kernel) rfl rfl (Nat.le_of_ble_eq_true rfl) dX2_settle_24 (fun H locs hP hD hS => ?_)
      have hP : va_P (dC, dI) vwCl [(h0, .inr (2, [.ref g1, .ref g2, .ref g3, .ref g4, .ref g5, .int r_5.1, .int s6, .int s7, .int 0])), (g1, .inr (0, [.long ha0, .long ha1, .long ha2, .long ha3, .long ha4])), (g2, .inr (0, [.long re0, .long re1, .long re2, .long re3, .long re4])), (g3, .inr (0, [.long na0, .long na1, .long na2, .long na3, .long na4])), (g4, .inr (0, [.long r_5.2.1, .long r_5.2.2.1, .long r_5.2.2.2, .long r_2.2.2.2.1, .long r_2.2.2.2.2]))] H := hP
      have hD : va_D A [(h0, .inr (2, [.ref g1, .ref g2, .ref g3, .ref g4, .ref g5, .int r_5.1, .int s6, .int s7, .int 0])), (g1, .inr (0, [.long ha0, .long ha1, .long ha2, .long ha3, .long ha4])), (g2, .inr (0, [.long re0, .long re1, .long re2, .long re3, .long re4])), (g3, .inr (0, [.long na0, .long na1, .long na2, .long na3, .long na4])), (g4, .inr (0, [.long r_5.2.1, .long r_5.2.2.1, .long r_5.2.2.2, .long r_2.2.2.2.1, .long r_2.2.2.2.2]))] := hD
      refine lv_aload_n hx hb dX2_settle_27 rfl (lv_at hl 0 rfl) ?_
      refine va_get (D := (dC, dI)) (ci := 2) (v := .ref g2) (C := RX2) (T := TX2) (N := 9) hx hb hts in_X2_settle_X2 hown hK hP 0 rfl rfl 1 (by decide) (hts (.fieldLink RX2 16 "FormRing" "reduced" "LFormRing$Form;") (by decide +kernel)) (fun _ h9 => h9) rfl dX2_settle_28 ?_
      refine lv_aload_n hx hb dX2_settle_31 rfl (lv_at hl 0 rfl) ?_
      refine va_get (D := (dC, dI)) (ci := 2) (v := .ref g4) (C := RX2) (T := TX2) (N := 9) hx hb hts in_X2_settle_X2 hown hK hP 0 rfl rfl 3 (by decide) (hts (.fieldLink RX2 22 "FormRing" "walker" "LFormRing$Form;") (by decide +kernel)) (fun _ h9 => h9) rfl dX2_settle_32 ?_
      cases e_7 : f_X0_copy n r_5.2.1 r_5.2.2.1 r_5.2.2.2 r_2.2.2.2.1 r_2.2.2.2.2 with
      | none => rw [e_7, Option.bind_none] at hr; cases hr
      | some r_8 =>
        rw [e_7, Option.bind_some] at hr
        have hPc := hP.sub (ws' := [(g2, .inr (0, [.long re0, .long re1, .long re2, .long re3, .long re4])), (g4, .inr (0, [.long r_5.2.1, .long r_5.2.2.1, .long r_5.2.2.2, .long r_2.2.2.2.1, .long r_2.2.2.2.2]))]) [2, 4] rfl
        have hDc := hD.sub (ws' := [(g2, .inr (0, [.long re0, .long re1, .long re2, .long re3, .long re4])), (g4, .inr (0, [.long r_5.2.1, .long r_5.2.2.1, .long r_5.2.2.2, .long r_2.2.2.2.1, .long r_2.2.2.2.2]))]) [2, 4] (by decide) rfl
        have hKc := hK.sub (tys' := []) [] rfl
        have hFc := va_free (wc := [(g2, .inr (0, [.long re0, .long re1, .long re2, .long re3, .long re4])), (g4, .inr (0, [.long r_5.2.1, .long r_5.2.2.1, .long r_5.2.2.2, .long r_2.2.2.2.1, .long r_2.2.2.2.2]))]) hD hS hA [2, 4] rfl
        refine va_callv (va_runV (As := [.ref g4]) (rest := []) ⟨hx, hb, hml, hown, hts⟩ (c_X0_copy l dC dI H.size g2 re0 re1 re2 re3 re4 g4 r_5.2.1 r_5.2.2.1 r_5.2.2.2 r_2.2.2.2.1 r_2.2.2.2.2  n _ e_7) (cwV 1 hts gX2_settle_X0_copy rfl rfl rfl (by decide +kernel) ⟨Nat.le_of_ble_eq_true rfl, Nat.le_of_ble_eq_true rfl⟩) ⟨fun a U g mk q => by obtain ⟨q0, q1, qP, qK, qD⟩ := q; exact ⟨q0, q1, qP, va_K.moved (u := U) (U := U.calling g mk a) (Vm.Alike.refl U.vm) qK, qD⟩, va_recv hKc hPc (ci := 0) (q0 := 0) rfl rfl, fun U hU hW => ⟨rfl, by rw [hU], by rw [hU]; exact hPc, va_K.moved hW.alike hKc, hDc.weaken (fun _ _ _ _ => trivial)⟩⟩ rfl rfl hl.1 rfl (lv_room (Nat.le_of_ble_eq_true rfl)) dX2_settle_35 ⟨Nat.zero_le _, Nat.zero_le _⟩) hS (fun q _ h => hFc q h) hFc (fun _ t H1 locs ht hvm hw hB hz1 hk1 hS => ?_)
        obtain ⟨hP1, hK1, hD1⟩ := hB
        rw [ht] at hP1
        obtain ⟨hP, hD⟩ := va_join (wr := [(h0, .inr (2, [.ref g1, .ref g2, .ref g3, .ref g4, .ref g5, .int r_5.1, .int s6, .int s7, .int 0])), (g1, .inr (0, [.long ha0, .long ha1, .long ha2, .long ha3, .long ha4])), (g3, .inr (0, [.long na0, .long na1, .long na2, .long na3, .long na4]))]) (w1 := [(g2, .inr (0, [.long r_8.1, .long r_8.2.1, .long r_8.2.2.1, .long r_8.2.2.2.1, .long r_8.2.2.2.2])), (g4, .inr (0, [.long r_5.2.1, .long r_5.2.2.1, .long r_5.2.2.2, .long r_2.2.2.2.1, .long r_2.2.2.2.2]))]) hP hD [2, 4] [0, 1, 3] rfl rfl (by decide) (by decide) hk1 hFc hP1 hD1
        generalize H1 = H at hP hS ⊢
        have hP := hP.sub (ws' := [(h0, .inr (2, [.ref g1, .ref g2, .ref g3, .ref g4, .ref g5, .int r_5.1, .int s6, .int s7, .int 0])), (g1, .inr (0, [.long ha0, .long ha1, .long ha2, .long ha3, .long ha4])), (g2, .inr (0, [.long r_8.1, .long r_8.2.1, .long r_8.2.2.1, .long r_8.2.2.2.1, .long r_8.2.2.2.2])), (g3, .inr (0, [.long na0, .long na1, .long na2, .long na3, .long na4])), (g4, .inr (0, [.long r_5.2.1, .long r_5.2.2.1, .long r_5.2.2.2, .long r_2.2.2.2.1, .long r_2.2.2.2.2]))]) [0, 1, 3, 2, 4] rfl
        have hD := hD.sub (ws' := [(h0, .inr (2, [.ref g1, .ref g2, .ref g3, .ref g4, .ref g5, .int r_5.1, .int s6, .int s7, .int 0])), (g1, .inr (0, [.long ha0, .long ha1, .long ha2, .long ha3, .long ha4])), (g2, .inr (0, [.long r_8.1, .long r_8.2.1, .long r_8.2.2.1, .long r_8.2.2.2.1, .long r_8.2.2.2.2])), (g3, .inr (0, [.long na0, .long na1, .long na2, .long na3, .long na4])), (g4, .inr (0, [.long r_5.2.1, .long r_5.2.2.1, .long r_5.2.2.2, .long r_2.2.2.2.1, .long r_2.2.2.2.2]))]) [0, 1, 3, 2, 4] (by decide) rfl
        have hP : va_P (dC, dI) vwCl [(h0, .inr (2, [.ref g1, .ref g2, .ref g3, .ref g4, .ref g5, .int r_5.1, .int s6, .int s7, .int 0])), (g1, .inr (0, [.long ha0, .long ha1, .long ha2, .long ha3, .long ha4])), (g2, .inr (0, [.long r_8.1, .long r_8.2.1, .long r_8.2.2.1, .long r_8.2.2.2.1, .long r_8.2.2.2.2])), (g3, .inr (0, [.long na0, .long na1, .long na2, .long na3, .long na4])), (g4, .inr (0, [.long r_5.2.1, .long r_5.2.2.1, .long r_5.2.2.2, .long r_2.2.2.2.1, .long r_2.2.2.2.2]))] H := hP
        have hD : va_D A [(h0, .inr (2, [.ref g1, .ref g2, .ref g3, .ref g4, .ref g5, .int r_5.1, .int s6, .int s7, .int 0])), (g1, .inr (0, [.long ha0, .long ha1, .long ha2, .long ha3, .long ha4])), (g2, .inr (0, [.long r_8.1, .long r_8.2.1, .long r_8.2.2.1, .long r_8.2.2.2.1, .long r_8.2.2.2.2])), (g3, .inr (0, [.long na0, .long na1, .long na2, .long na3, .long na4])), (g4, .inr (0, [.long r_5.2.1, .long r_5.2.2.1, .long r_5.2.2.2, .long r_2.2.2.2.1, .long r_2.2.2.2.2]))] := hD
        refine W.widen (k := 0) (n := 0) (Nat.le_refl _) (Nat.le_refl _) ?_
        refine lv_aload_n hx hb dX2_settle_38 rfl (lv_at hl 0 rfl) ?_
        cases e_10 : f_X2_findName n r_5.1 ha3 r_8.1 r_8.2.1 r_8.2.2.1 r_8.2.2.2.1 r_8.2.2.2.2 r_5.2.1 r_5.2.2.1 r_5.2.2.2 r_2.2.2.2.1 r_2.2.2.2.2 with
        | none => rw [e_10, Option.bind_none] at hr; cases hr
        | some r_11 =>
          rw [e_10, Option.bind_some] at hr
          have hPc := hP.sub (ws' := [(h0, .inr (2, [.ref g1, .ref g2, .ref g3, .ref g4, .ref g5, .int r_5.1, .int s6, .int s7, .int 0])), (g1, .inr (0, [.long ha0, .long ha1, .long ha2, .long ha3, .long ha4])), (g2, .inr (0, [.long r_8.1, .long r_8.2.1, .long r_8.2.2.1, .long r_8.2.2.2.1, .long r_8.2.2.2.2])), (g3, .inr (0, [.long na0, .long na1, .long na2, .long na3, .long na4])), (g4, .inr (0, [.long r_5.2.1, .long r_5.2.2.1, .long r_5.2.2.2, .long r_2.2.2.2.1, .long r_2.2.2.2.2]))]) [0, 1, 2, 3, 4] rfl
          have hDc := hD.sub (ws' := [(h0, .inr (2, [.ref g1, .ref g2, .ref g3, .ref g4, .ref g5, .int r_5.1, .int s6, .int s7, .int 0])), (g1, .inr (0, [.long ha0, .long ha1, .long ha2, .long ha3, .long ha4])), (g2, .inr (0, [.long r_8.1, .long r_8.2.1, .long r_8.2.2.1, .long r_8.2.2.2.1, .long r_8.2.2.2.2])), (g3, .inr (0, [.long na0, .long na1, .long na2, .long na3, .long na4])), (g4, .inr (0, [.long r_5.2.1, .long r_5.2.2.1, .long r_5.2.2.2, .long r_2.2.2.2.1, .long r_2.2.2.2.2]))]) [0, 1, 2, 3, 4] (by decide) rfl
          have hKc := hK.sub (tys' := []) [] rfl
          have hFc := va_free (wc := [(h0, .inr (2, [.ref g1, .ref g2, .ref g3, .ref g4, .ref g5, .int r_5.1, .int s6, .int s7, .int 0])), (g1, .inr (0, [.long ha0, .long ha1, .long ha2, .long ha3, .long ha4])), (g2, .inr (0, [.long r_8.1, .long r_8.2.1, .long r_8.2.2.1, .long r_8.2.2.2.1, .long r_8.2.2.2.2])), (g3, .inr (0, [.long na0, .long na1, .long na2, .long na3, .long na4])), (g4, .inr (0, [.long r_5.2.1, .long r_5.2.2.1, .long r_5.2.2.2, .long r_2.2.2.2.1, .long r_2.2.2.2.2]))]) hD hS hA [0, 1, 2, 3, 4] rfl
          refine va_callv (va_runV (As := []) (rest := []) ⟨hx, hb, hml, hown, hts⟩ (c_X2_findName l dC dI H.size h0 g1 g2 g3 g4 g5 r_5.1 s6 s7 0 ha0 ha1 ha2 ha3 ha4 r_8.1 r_8.2.1 r_8.2.2.1 r_8.2.2.2.1 r_8.2.2.2.2 na0 na1 na2 na3 na4 r_5.2.1 r_5.2.2.1 r_5.2.2.2 r_2.2.2.2.1 r_2.2.2.2.2  n _ e_10) (cwV 0 hts gX2_settle_X2_findName rfl rfl rfl (by decide +kernel) ⟨Nat.le_of_ble_eq_true rfl, Nat.le_of_ble_eq_true rfl⟩) ⟨fun a U g mk q => by obtain ⟨q0, q1, qP, qK, qD⟩ := q; exact ⟨q0, q1, qP, va_K.moved (u := U) (U := U.calling g mk a) (Vm.Alike.refl U.vm) qK, qD⟩, va_recv hKc hPc (ci := 2) (q0 := 0) rfl rfl, fun U hU hW => ⟨rfl, by rw [hU], by rw [hU]; exact hPc, va_K.moved hW.alike hKc, hDc.weaken (fun _ _ _ _ => trivial)⟩⟩ rfl rfl hl.1 rfl (lv_room (Nat.le_of_ble_eq_true rfl)) dX2_settle_39 ⟨Nat.zero_le _, Nat.zero_le _⟩) hS (fun q _ h => hFc q h) hFc (fun _ t H1 locs ht hvm hw hB hz1 hk1 hS => ?_)
          obtain ⟨hP1, hK1, hD1⟩ := hB
          rw [ht] at hP1
          obtain ⟨hP, hD⟩ := va_join (wr := []) (w1 := [(h0, .inr (2, [.ref g1, .ref g2, .ref g3, .ref g4, .ref g5, .int r_5.1, .int r_11.1, .int r_11.2.1, .int 0])), (g1, .inr (0, [.long ha0, .long ha1, .long ha2, .long ha3, .long ha4])), (g2, .inr (0, [.long r_8.1, .long r_8.2.1, .long r_8.2.2.1, .long r_8.2.2.2.1, .long r_8.2.2.2.2])), (g3, .inr (0, [.long r_11.2.2.1, .long r_11.2.2.2.1, .long r_11.2.2.2.2.1, .long r_11.2.2.2.2.2.1, .long r_11.2.2.2.2.2.2.1])), (g4, .inr (0, [.long r_11.2.2.2.2.2.2.2.1, .long r_11.2.2.2.2.2.2.2.2.1, .long r_11.2.2.2.2.2.2.2.2.2, .long r_2.2.2.2.1, .long r_2.2.2.2.2]))]) hP hD [0, 1, 2, 3, 4] [] rfl rfl (by decide) (by decide) hk1 hFc hP1 hD1
          generalize H1 = H at hP hS ⊢
          have hP : va_P (dC, dI) vwCl [(h0, .inr (2, [.ref g1, .ref g2, .ref g3, .ref g4, .ref g5, .int r_5.1, .int r_11.1, .int r_11.2.1, .int 0])), (g1, .inr (0, [.long ha0, .long ha1, .long ha2, .long ha3, .long ha4])), (g2, .inr (0, [.long r_8.1, .long r_8.2.1, .long r_8.2.2.1, .long r_8.2.2.2.1, .long r_8.2.2.2.2])), (g3, .inr (0, [.long r_11.2.2.1, .long r_11.2.2.2.1, .long r_11.2.2.2.2.1, .long r_11.2.2.2.2.2.1, .long r_11.2.2.2.2.2.2.1])), (g4, .inr (0, [.long r_11.2.2.2.2.2.2.2.1, .long r_11.2.2.2.2.2.2.2.2.1, .long r_11.2.2.2.2.2.2.2.2.2, .long r_2.2.2.2.1, .long r_2.2.2.2.2]))] H := hP
          have hD : va_D A [(h0, .inr (2, [.ref g1, .ref g2, .ref g3, .ref g4, .ref g5, .int r_5.1, .int r_11.1, .int r_11.2.1, .int 0])), (g1, .inr (0, [.long ha0, .long ha1, .long ha2, .long ha3, .long ha4])), (g2, .inr (0, [.long r_8.1, .long r_8.2.1, .long r_8.2.2.1, .long r_8.2.2.2.1, .long r_8.2.2.2.2])), (g3, .inr (0, [.long r_11.2.2.1, .long r_11.2.2.2.1, .long r_11.2.2.2.2.1, .long r_11.2.2.2.2.2.1, .long r_11.2.2.2.2.2.2.1])), (g4, .inr (0, [.long r_11.2.2.2.2.2.2.2.1, .long r_11.2.2.2.2.2.2.2.2.1, .long r_11.2.2.2.2.2.2.2.2.2, .long r_2.2.2.2.1, .long r_2.2.2.2.2]))] := hD
          refine W.widen (k := 0) (n := 0) (Nat.le_refl _) (Nat.le_refl _) ?_
          have ho := Option.some.inj hr
          subst ho
          exact W.vret hx hb hrt (fun t ht hW => ⟨⟨(), rfl, trivial, by rw [ht]; exact hP, va_K.moved hW.alike hK, hD⟩, hS.F ht⟩) hS.2.2 dX2_settle_42

theorem in_X2_count_X0 : ∀ w ∈ u_ws RX0 TX0 5, w ∈ wsX2_count := by decide +kernel
theorem in_X2_count_X2 : ∀ w ∈ u_ws RX2 TX2 9, w ∈ wsX2_count := by decide +kernel
def f_X2_count (n : Nat) (s5 : Int32) (s6 : Int32) (s7 : Int32) (ha0 : Int64) (ha1 : Int64) (ha2 : Int64) (ha3 : Int64) (ha4 : Int64) (a1 : Int32) : Option (Int32) := if a1 = 0 then (some ha3.toInt32) else (if a1 = 1 then (some ha4.toInt32) else (if a1 = 2 then ((f_X0_greatestDivisor n ha0 ha1 ha2).bind (fun r_5 => some r_5)) else (if a1 = 3 then (some s5) else (if a1 = 4 then (some s6) else (if a1 = 5 then (some s7) else (some (-1)))))))
set_option maxHeartbeats 4000000 in
set_option maxRecDepth 100000 in
theorem c_X2_count (l : Launch) (dC : Nat → ClassId) (dI : Nat → Nat → Nat) (sz : Nat) (h0 : Nat) (g1 : Nat) (g2 : Nat) (g3 : Nat) (g4 : Nat) (g5 : Nat) (s5 : Int32) (s6 : Int32) (s7 : Int32) (s8 : Int32) (ha0 : Int64) (ha1 : Int64) (ha2 : Int64) (ha3 : Int64) (ha4 : Int64) (a1 : Int32)  (n : Nat) (out : Int32) (hr : f_X2_count n s5 s6 s7 ha0 ha1 ha2 ha3 ha4 a1 = some out) : Met l yX2_count wsX2_count ({ frames := 2, cells := 0, slots := 0, locals := 50 }) (va_Pc [.ref h0, .int a1] (zP dC dI [] [(h0, .inr (2, [.ref g1, .ref g2, .ref g3, .ref g4, .ref g5, .int s5, .int s6, .int s7, .int s8])), (g1, .inr (0, [.long ha0, .long ha1, .long ha2, .long ha3, .long ha4]))] sz)) (va_Qi (fun r (_ : Unit) => r = out) (fun (_ : Unit) t => zB dC dI [] (va_A [(h0, .inr (2, [.ref g1, .ref g2, .ref g3, .ref g4, .ref g5, .int s5, .int s6, .int s7, .int s8])), (g1, .inr (0, [.long ha0, .long ha1, .long ha2, .long ha3, .long ha4]))] sz) [(h0, .inr (2, [.ref g1, .ref g2, .ref g3, .ref g4, .ref g5, .int s5, .int s6, .int s7, .int s8])), (g1, .inr (0, [.long ha0, .long ha1, .long ha2, .long ha3, .long ha4]))] t) (va_A [(h0, .inr (2, [.ref g1, .ref g2, .ref g3, .ref g4, .ref g5, .int s5, .int s6, .int s7, .int s8])), (g1, .inr (0, [.long ha0, .long ha1, .long ha2, .long ha3, .long ha4]))] sz)) 0 0 (va_A [(h0, .inr (2, [.ref g1, .ref g2, .ref g3, .ref g4, .ref g5, .int s5, .int s6, .int s7, .int s8])), (g1, .inr (0, [.long ha0, .long ha1, .long ha2, .long ha3, .long ha4]))] sz) := by
  refine Met.ofW (cc := cX2_count) (maxL := 2) (ret := (some .int)) (by decide +kernel) rfl ?_
  intro p e s m args below meth c s₁ B hml hv
  obtain ⟨rfl, hsz, hP, hK, hD0⟩ := hv
  have hx := B.exec
  have hb := B.bytes
  have hrt := B.returns
  have hts := atoms_spec (ws := wsX2_count) B.pre
  have hown : s.vm.findClass RX2 = some m.cls := findClass_of_methodNamed B.named
  have hlocks := B.notSynchronized
  subst hsz
  have hD := hD0.self (sz := s.heap.size)
  generalize hAe : va_A [(h0, .inr (2, [.ref g1, .ref g2, .ref g3, .ref g4, .ref g5, .int s5, .int s6, .int s7, .int s8])), (g1, .inr (0, [.long ha0, .long ha1, .long ha2, .long ha3, .long ha4]))] s.heap.size = A at hD ⊢
  have hA : ∀ q : Nat, s.heap.size ≤ q → A q := fun q h => by rw [← hAe]; exact Or.inr h
  have hS : va_S A s.heap s.heap [] := va_S.rf
  have hP : va_P (dC, dI) vwCl [(h0, .inr (2, [.ref g1, .ref g2, .ref g3, .ref g4, .ref g5, .int s5, .int s6, .int s7, .int s8])), (g1, .inr (0, [.long ha0, .long ha1, .long ha2, .long ha3, .long ha4]))] s.heap := hP
  have hl := lv_entry ([.ref h0, .int a1]) (n := 2) (Nat.le_of_ble_eq_true rfl)
  rw [lg_entry_eq]
  generalize (lg_sl ([.ref h0, .int a1]) ++ List.replicate (2 - (lg_sl ([.ref h0, .int a1])).length) Slot.unset).toArray = ls at hl ⊢
  have hl : lv_has ls 2 [(0, .ref h0), (1, .int a1)] := hl
  unfold f_X2_count at hr
  refine lv_iload_n hx hb dX2_count_0 rfl (lv_at hl 1 rfl) ?_
  by_cases c_1 : a1 = 0
  · have hr := (if_pos c_1).symm.trans hr
    refine lv_tableIn (off := 39) (tgt := 40) hx hb dX2_count_1 (by rw [c_1]; decide) (by rw [c_1]; decide) (by rw [c_1]; rfl) (by decide) ?_
    refine lv_aload_n hx hb dX2_count_40 rfl (lv_at hl 0 rfl) ?_
    refine va_get (D := (dC, dI)) (ci := 2) (v := .ref g1) (C := RX2) (T := TX2) (N := 9) hx hb hts in_X2_count_X2 hown hK hP 0 rfl rfl 0 (by decide) (hts (.fieldLink RX2 10 "FormRing" "hand" "LFormRing$Form;") (by decide +kernel)) (fun _ h9 => h9) rfl dX2_count_41 ?_
    refine va_get (D := (dC, dI)) (ci := 0) (v := .long ha3) (C := RX0) (T := TX0) (N := 5) hx hb hts in_X2_count_X0 hown hK hP 1 rfl rfl 3 (by decide) (hts (.fieldLink RX2 50 "FormRing$Form" "discriminant" "J") (by decide +kernel)) (fun _ h9 => h9) rfl dX2_count_44 ?_
    refine lv_l2i hx hb dX2_count_47 rfl ?_
    have ho := Option.some.inj hr
    subst ho
    exact W.iret (v := ha3.toInt32) hx hb hrt (fun t ht hW => ⟨⟨ha3.toInt32, (), rfl, rfl, by rw [ht]; exact hP, va_K.moved hW.alike hK, hD⟩, hS.F ht⟩) hS.2.2 dX2_count_48
  have hr := (if_neg c_1).symm.trans hr
  by_cases c_2 : a1 = 1
  · have hr := (if_pos c_2).symm.trans hr
    refine lv_tableIn (off := 48) (tgt := 49) hx hb dX2_count_1 (by rw [c_2]; decide) (by rw [c_2]; decide) (by rw [c_2]; rfl) (by decide) ?_
    refine lv_aload_n hx hb dX2_count_49 rfl (lv_at hl 0 rfl) ?_
    refine va_get (D := (dC, dI)) (ci := 2) (v := .ref g1) (C := RX2) (T := TX2) (N := 9) hx hb hts in_X2_count_X2 hown hK hP 0 rfl rfl 0 (by decide) (hts (.fieldLink RX2 10 "FormRing" "hand" "LFormRing$Form;") (by decide +kernel)) (fun _ h9 => h9) rfl dX2_count_50 ?_
    refine va_get (D := (dC, dI)) (ci := 0) (v := .long ha4) (C := RX0) (T := TX0) (N := 5) hx hb hts in_X2_count_X0 hown hK hP 1 rfl rfl 4 (by decide) (hts (.fieldLink RX2 67 "FormRing$Form" "root" "J") (by decide +kernel)) (fun _ h9 => h9) rfl dX2_count_53 ?_
    refine lv_l2i hx hb dX2_count_56 rfl ?_
    have ho := Option.some.inj hr
    subst ho
    exact W.iret (v := ha4.toInt32) hx hb hrt (fun t ht hW => ⟨⟨ha4.toInt32, (), rfl, rfl, by rw [ht]; exact hP, va_K.moved hW.alike hK, hD⟩, hS.F ht⟩) hS.2.2 dX2_count_57
  have hr := (if_neg c_2).symm.trans hr
  by_cases c_3 : a1 = 2
  · have hr := (if_pos c_3).symm.trans hr
    refine lv_tableIn (off := 57) (tgt := 58) hx hb dX2_count_1 (by rw [c_3]; decide) (by rw [c_3]; decide) (by rw [c_3]; rfl) (by decide) ?_
    refine lv_aload_n hx hb dX2_count_58 rfl (lv_at hl 0 rfl) ?_
    refine va_get (D := (dC, dI)) (ci := 2) (v := .ref g1) (C := RX2) (T := TX2) (N := 9) hx hb hts in_X2_count_X2 hown hK hP 0 rfl rfl 0 (by decide) (hts (.fieldLink RX2 10 "FormRing" "hand" "LFormRing$Form;") (by decide +kernel)) (fun _ h9 => h9) rfl dX2_count_59 ?_
    cases e_4 : f_X0_greatestDivisor n ha0 ha1 ha2 with
    | none => rw [e_4, Option.bind_none] at hr; cases hr
    | some r_5 =>
      rw [e_4, Option.bind_some] at hr
      have hPc := hP.sub (ws' := [(g1, .inr (0, [.long ha0, .long ha1, .long ha2, .long ha3, .long ha4]))]) [1] rfl
      have hDc := hD.sub (ws' := [(g1, .inr (0, [.long ha0, .long ha1, .long ha2, .long ha3, .long ha4]))]) [1] (by decide) rfl
      have hKc := hK.sub (tys' := []) [] rfl
      have hFc := va_free (wc := [(g1, .inr (0, [.long ha0, .long ha1, .long ha2, .long ha3, .long ha4]))]) hD hS hA [1] rfl
      refine va_calli (va_runV (As := []) (rest := []) ⟨hx, hb, hml, hown, hts⟩ (c_X0_greatestDivisor l dC dI s.heap.size g1 ha0 ha1 ha2 ha3 ha4  n _ e_4) (cwV 0 hts gX2_count_X0_greatestDivisor rfl rfl rfl (by decide +kernel) ⟨Nat.le_of_ble_eq_true rfl, Nat.le_of_ble_eq_true rfl⟩) ⟨fun a U g mk q => by obtain ⟨q0, q1, qP, qK, qD⟩ := q; exact ⟨q0, q1, qP, va_K.moved (u := U) (U := U.calling g mk a) (Vm.Alike.refl U.vm) qK, qD⟩, va_recv hKc hPc (ci := 0) (q0 := 0) rfl rfl, fun U hU hW => ⟨rfl, by rw [hU], by rw [hU]; exact hPc, va_K.moved hW.alike hKc, hDc.weaken (fun _ _ _ _ => trivial)⟩⟩ rfl rfl hl.1 rfl (lv_room (Nat.le_of_ble_eq_true rfl)) dX2_count_62 ⟨Nat.zero_le _, Nat.zero_le _⟩) hS (fun q _ h => hFc q h) hFc (fun x_6 _ t H1 locs ht hvm hw hB hz1 hk1 hS => ?_)
      have hw := hw.symm
      subst hw
      obtain ⟨hP1, hK1, hD1⟩ := hB
      rw [ht] at hP1
      obtain ⟨hP, hD⟩ := va_join (wr := [(h0, .inr (2, [.ref g1, .ref g2, .ref g3, .ref g4, .ref g5, .int s5, .int s6, .int s7, .int s8]))]) (w1 := [(g1, .inr (0, [.long ha0, .long ha1, .long ha2, .long ha3, .long ha4]))]) hP hD [1] [0] rfl rfl (by decide) (by decide) hk1 hFc hP1 hD1
      generalize H1 = H at hP hS ⊢
      have hP : va_P (dC, dI) vwCl [(h0, .inr (2, [.ref g1, .ref g2, .ref g3, .ref g4, .ref g5, .int s5, .int s6, .int s7, .int s8])), (g1, .inr (0, [.long ha0, .long ha1, .long ha2, .long ha3, .long ha4]))] H := hP
      have hD : va_D A [(h0, .inr (2, [.ref g1, .ref g2, .ref g3, .ref g4, .ref g5, .int s5, .int s6, .int s7, .int s8])), (g1, .inr (0, [.long ha0, .long ha1, .long ha2, .long ha3, .long ha4]))] := hD
      refine W.widen (k := 0) (n := 0) (Nat.le_refl _) (Nat.le_refl _) ?_
      have ho := Option.some.inj hr
      subst ho
      exact W.iret (v := r_5) hx hb hrt (fun t ht hW => ⟨⟨r_5, (), rfl, rfl, by rw [ht]; exact hP, va_K.moved hW.alike hK, hD⟩, hS.F ht⟩) hS.2.2 dX2_count_65
  have hr := (if_neg c_3).symm.trans hr
  by_cases c_7 : a1 = 3
  · have hr := (if_pos c_7).symm.trans hr
    refine lv_tableIn (off := 65) (tgt := 66) hx hb dX2_count_1 (by rw [c_7]; decide) (by rw [c_7]; decide) (by rw [c_7]; rfl) (by decide) ?_
    refine lv_aload_n hx hb dX2_count_66 rfl (lv_at hl 0 rfl) ?_
    refine va_get (D := (dC, dI)) (ci := 2) (v := .int s5) (C := RX2) (T := TX2) (N := 9) hx hb hts in_X2_count_X2 hown hK hP 0 rfl rfl 5 (by decide) (hts (.fieldLink RX2 74 "FormRing" "stepsToReduced" "I") (by decide +kernel)) (fun _ h9 => h9) rfl dX2_count_67 ?_
    have ho := Option.some.inj hr
    subst ho
    exact W.iret (v := s5) hx hb hrt (fun t ht hW => ⟨⟨s5, (), rfl, rfl, by rw [ht]; exact hP, va_K.moved hW.alike hK, hD⟩, hS.F ht⟩) hS.2.2 dX2_count_70
  have hr := (if_neg c_7).symm.trans hr
  by_cases c_8 : a1 = 4
  · have hr := (if_pos c_8).symm.trans hr
    refine lv_tableIn (off := 70) (tgt := 71) hx hb dX2_count_1 (by rw [c_8]; decide) (by rw [c_8]; decide) (by rw [c_8]; rfl) (by decide) ?_
    refine lv_aload_n hx hb dX2_count_71 rfl (lv_at hl 0 rfl) ?_
    refine va_get (D := (dC, dI)) (ci := 2) (v := .int s6) (C := RX2) (T := TX2) (N := 9) hx hb hts in_X2_count_X2 hown hK hP 0 rfl rfl 6 (by decide) (hts (.fieldLink RX2 78 "FormRing" "stepsToName" "I") (by decide +kernel)) (fun _ h9 => h9) rfl dX2_count_72 ?_
    have ho := Option.some.inj hr
    subst ho
    exact W.iret (v := s6) hx hb hrt (fun t ht hW => ⟨⟨s6, (), rfl, rfl, by rw [ht]; exact hP, va_K.moved hW.alike hK, hD⟩, hS.F ht⟩) hS.2.2 dX2_count_75
  have hr := (if_neg c_8).symm.trans hr
  by_cases c_9 : a1 = 5
  · have hr := (if_pos c_9).symm.trans hr
    refine lv_tableIn (off := 75) (tgt := 76) hx hb dX2_count_1 (by rw [c_9]; decide) (by rw [c_9]; decide) (by rw [c_9]; rfl) (by decide) ?_
    refine lv_aload_n hx hb dX2_count_76 rfl (lv_at hl 0 rfl) ?_
    refine va_get (D := (dC, dI)) (ci := 2) (v := .int s7) (C := RX2) (T := TX2) (N := 9) hx hb hts in_X2_count_X2 hown hK hP 0 rfl rfl 7 (by decide) (hts (.fieldLink RX2 81 "FormRing" "ringSize" "I") (by decide +kernel)) (fun _ h9 => h9) rfl dX2_count_77 ?_
    have ho := Option.some.inj hr
    subst ho
    exact W.iret (v := s7) hx hb hrt (fun t ht hW => ⟨⟨s7, (), rfl, rfl, by rw [ht]; exact hP, va_K.moved hW.alike hK, hD⟩, hS.F ht⟩) hS.2.2 dX2_count_80
  have hr := (if_neg c_9).symm.trans hr
  refine lv_tableOut (tgt := 81) hx hb dX2_count_1 (lz_sw5 c_1 c_2 c_3 c_7 c_8 c_9) (by decide) ?_
  refine lv_iconst (v := (-1)) hx hb dX2_count_81 (by decide) ?_
  have ho := Option.some.inj hr
  subst ho
  exact W.iret (v := (-1)) hx hb hrt (fun t ht hW => ⟨⟨(-1), (), rfl, rfl, by rw [ht]; exact hP, va_K.moved hW.alike hK, hD⟩, hS.F ht⟩) hS.2.2 dX2_count_82
