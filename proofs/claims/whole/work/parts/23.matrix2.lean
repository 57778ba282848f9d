theorem in_X1_begin_X1 : ∀ w ∈ u_ws RX1 TX1 7, w ∈ wsX1_begin := by decide +kernel
def f_X1_begin (n : Nat) (z0 : Nat → Int32) (z1 : Nat → Int32) (z2 : Nat → Int32) (z3 : Nat → Int32) : Option ((Nat → Int32) × (Nat → Int32) × (Nat → Int32) × (Nat → Int32) × Int32 × Int64 × Int64 × Int64 × Int64) := if (0 : Int32) < 0 ∨ 256 ≤ (0 : Int32).toNatClampNeg then none else (if (0 : Int32) < 0 ∨ 256 ≤ (0 : Int32).toNatClampNeg then none else (if (0 : Int32) < 0 ∨ 256 ≤ (0 : Int32).toNatClampNeg then none else (if (0 : Int32) < 0 ∨ 256 ≤ (0 : Int32).toNatClampNeg then none else ((f_X1_forgetWaiting n).bind (fun r_18 => some (upd z0 (0 : Int32).toNatClampNeg 1, upd z1 (0 : Int32).toNatClampNeg 0, upd z2 (0 : Int32).toNatClampNeg 0, upd z3 (0 : Int32).toNatClampNeg 1, 1, r_18.1, r_18.2.1, r_18.2.2.1, r_18.2.2.2))))))
set_option maxHeartbeats 4000000 in
set_option maxRecDepth 100000 in
theorem c_X1_begin (l : Launch) (dC : Nat → ClassId) (dI : Nat → Nat → Nat) (sz : Nat) (h0 : Nat) (gN : Nat) (gS : Nat) (m2 : Int32) (m3 : Int64) (m4 : Int64) (m5 : Int64) (m6 : Int64) (cI : ClassId) (cO : ClassId) (F : Nat → Option Nat) (q0 : Nat) (q1 : Nat) (q2 : Nat) (q3 : Nat) (z0 : Nat → Int32) (z1 : Nat → Int32) (z2 : Nat → Int32) (z3 : Nat → Int32)  (hF : F 0 = some q0 ∧ F 1 = some q1 ∧ F 2 = some q2 ∧ F 3 = some q3) (n : Nat) (out : (Nat → Int32) × (Nat → Int32) × (Nat → Int32) × (Nat → Int32) × Int32 × Int64 × Int64 × Int64 × Int64) (hr : f_X1_begin n z0 z1 z2 z3 = some out) : Met l yX1_begin wsX1_begin ({ frames := 1, cells := 0, slots := 0, locals := 20 }) (va_Pc [.ref h0] (zP dC dI [(cI, .int), (cO, .array .int)] [(h0, .inr (1, [.ref gN, .ref gS, .int m2, .long m3, .long m4, .long m5, .long m6])), (gN, .inl (cO, 4, .inr (.inr (.inr (.inr F))))), (q0, .inl (cI, 256, .inl z0)), (q1, .inl (cI, 256, .inl z1)), (q2, .inl (cI, 256, .inl z2)), (q3, .inl (cI, 256, .inl z3))] sz)) (va_Qv (fun (_ : Unit) => True) (fun (_ : Unit) t => zB dC dI [(cI, .int), (cO, .array .int)] (va_A [(h0, .inr (1, [.ref gN, .ref gS, .int m2, .long m3, .long m4, .long m5, .long m6])), (gN, .inl (cO, 4, .inr (.inr (.inr (.inr F))))), (q0, .inl (cI, 256, .inl z0)), (q1, .inl (cI, 256, .inl z1)), (q2, .inl (cI, 256, .inl z2)), (q3, .inl (cI, 256, .inl z3))] sz) [(h0, .inr (1, [.ref gN, .ref gS, .int out.2.2.2.2.1, .long out.2.2.2.2.2.1, .long out.2.2.2.2.2.2.1, .long out.2.2.2.2.2.2.2.1, .long out.2.2.2.2.2.2.2.2])), (gN, .inl (cO, 4, .inr (.inr (.inr (.inr F))))), (q0, .inl (cI, 256, .inl out.1)), (q1, .inl (cI, 256, .inl out.2.1)), (q2, .inl (cI, 256, .inl out.2.2.1)), (q3, .inl (cI, 256, .inl out.2.2.2.1))] t) (va_A [(h0, .inr (1, [.ref gN, .ref gS, .int m2, .long m3, .long m4, .long m5, .long m6])), (gN, .inl (cO, 4, .inr (.inr (.inr (.inr F))))), (q0, .inl (cI, 256, .inl z0)), (q1, .inl (cI, 256, .inl z1)), (q2, .inl (cI, 256, .inl z2)), (q3, .inl (cI, 256, .inl z3))] sz)) 0 0 (va_A [(h0, .inr (1, [.ref gN, .ref gS, .int m2, .long m3, .long m4, .long m5, .long m6])), (gN, .inl (cO, 4, .inr (.inr (.inr (.inr F))))), (q0, .inl (cI, 256, .inl z0)), (q1, .inl (cI, 256, .inl z1)), (q2, .inl (cI, 256, .inl z2)), (q3, .inl (cI, 256, .inl z3))] sz) := by
  refine Met.ofW (cc := cX1_begin) (maxL := 2) (ret := none) (by decide +kernel) rfl ?_
  intro p e s m args below meth c s₁ B hml hv
  obtain ⟨rfl, hsz, hP, hK, hD0⟩ := hv
  have hx := B.exec
  have hb := B.bytes
  have hrt := B.returns
  have hts := atoms_spec (ws := wsX1_begin) B.pre
  have hown : s.vm.findClass RX1 = some m.cls := findClass_of_methodNamed B.named
  have hlocks := B.notSynchronized
  subst hsz
  have hD := hD0.self (sz := s.heap.size)
  generalize hAe : va_A [(h0, .inr (1, [.ref gN, .ref gS, .int m2, .long m3, .long m4, .long m5, .long m6])), (gN, .inl (cO, 4, .inr (.inr (.inr (.inr F))))), (q0, .inl (cI, 256, .inl z0)), (q1, .inl (cI, 256, .inl z1)), (q2, .inl (cI, 256, .inl z2)), (q3, .inl (cI, 256, .inl z3))] s.heap.size = A at hD ⊢
  have hA : ∀ q : Nat, s.heap.size ≤ q → A q := fun q h => by rw [← hAe]; exact Or.inr h
  have hS : va_S A s.heap s.heap [] := va_S.rf
  have hP : va_P (dC, dI) vwCl [(h0, .inr (1, [.ref gN, .ref gS, .int m2, .long m3, .long m4, .long m5, .long m6])), (gN, .inl (cO, 4, .inr (.inr (.inr (.inr F))))), (q0, .inl (cI, 256, .inl z0)), (q1, .inl (cI, 256, .inl z1)), (q2, .inl (cI, 256, .inl z2)), (q3, .inl (cI, 256, .inl z3))] s.heap := hP
  have hl := lv_entry ([.ref h0]) (n := 2) (Nat.le_of_ble_eq_true rfl)
  rw [lg_entry_eq]
  generalize (lg_sl ([.ref h0]) ++ List.replicate (2 - (lg_sl ([.ref h0])).length) Slot.unset).toArray = ls at hl ⊢
  have hl : lv_has ls 2 [(0, .ref h0)] := hl
  unfold f_X1_begin at hr
  refine lv_aload_n hx hb dX1_begin_0 rfl (lv_at hl 0 rfl) ?_
  refine lv_iconst (v := 1) hx hb dX1_begin_1 (by decide) ?_
  refine va_put (D := (dC, dI)) (ci := 1) (v := .int 1) (ty := .int) (C := RX1) (T := TX1) (N := 7) hx hb hts in_X1_begin_X1 tyX1 tyX1_ok nmX1 hown hK hP hD hS 0 rfl rfl 2 (by decide) (hts (.fieldLink RX1 23 "FormRing$Matrix" "length" "I") (by decide +kernel)) (fun _ h9 => h9) rfl (by decide +kernel) rfl rfl (Nat.le_of_ble_eq_true rfl) dX1_begin_2 (fun H locs hP hD hS => ?_)
  have hP : va_P (dC, dI) vwCl [(h0, .inr (1, [.ref gN, .ref gS, .int 1, .long m3, .long m4, .long m5, .long m6])), (gN, .inl (cO, 4, .inr (.inr (.inr (.inr F))))), (q0, .inl (cI, 256, .inl z0)), (q1, .inl (cI, 256, .inl z1)), (q2, .inl (cI, 256, .inl z2)), (q3, .inl (cI, 256, .inl z3))] H := hP
  have hD : va_D A [(h0, .inr (1, [.ref gN, .ref gS, .int 1, .long m3, .long m4, .long m5, .long m6])), (gN, .inl (cO, 4, .inr (.inr (.inr (.inr F))))), (q0, .inl (cI, 256, .inl z0)), (q1, .inl (cI, 256, .inl z1)), (q2, .inl (cI, 256, .inl z2)), (q3, .inl (cI, 256, .inl z3))] := hD
  refine lv_iconst (v := 0) hx hb dX1_begin_5 (by decide) ?_
  refine lv_istore_n (lv' := [(1, .int 0), (0, .ref h0)]) hx hb dX1_begin_6 rfl hl (by decide) rfl (fun ls hl => ?_)
  refine lv_iload_n hx hb dX1_begin_7 rfl (lv_at hl 0 rfl) ?_
  refine lv_iconst (v := 4) hx hb dX1_begin_8 (by decide) ?_
  refine lz_ige (tgt := 40) hx hb dX1_begin_9 (by decide) (fun c_1 => absurd c_1 (by decide)) (fun c_1 => ?_)
  refine lv_aload_n hx hb dX1_begin_12 rfl (lv_at hl 1 rfl) ?_
  refine va_get (D := (dC, dI)) (ci := 1) (v := .ref gN) (C := RX1) (T := TX1) (N := 7) hx hb hts in_X1_begin_X1 hown hK hP 0 rfl rfl 0 (by decide) (hts (.fieldLink RX1 13 "FormRing$Matrix" "numbers" "[[I") (by decide +kernel)) (fun _ h9 => h9) rfl dX1_begin_13 ?_
  refine lv_iload_n hx hb dX1_begin_16 rfl (lv_at hl 0 rfl) ?_
  refine zz_ald hx hb hK hP 1 1 rfl rfl (q := q0) hF.1 zz_in0 dX1_begin_17 ?_
  refine lv_iconst (v := 0) hx hb dX1_begin_18 (by decide) ?_
  refine lv_iload_n hx hb dX1_begin_19 rfl (lv_at hl 0 rfl) ?_
  refine lz_zeq (tgt := 28) hx hb dX1_begin_20 (by decide) (fun c_2 => ?_) (fun c_2 => absurd c_2 (by decide))
  refine lv_iconst (v := 1) hx hb dX1_begin_28 (by decide) ?_
  refine lv_goto (tgt := 33) hx hb dX1_begin_29 (by decide) ?_
  by_cases g_3 : (0 : Int32) < 0 ∨ 256 ≤ (0 : Int32).toNatClampNeg
  · have hr := (if_pos g_3).symm.trans hr
    cases hr
  have hr := (if_neg g_3).symm.trans hr
  refine va_iast hx hb hK hP hD hS 2 0 rfl rfl g_3 dX1_begin_33 (fun H locs hP hD hS => ?_)
  have hP : va_P (dC, dI) vwCl [(h0, .inr (1, [.ref gN, .ref gS, .int 1, .long m3, .long m4, .long m5, .long m6])), (gN, .inl (cO, 4, .inr (.inr (.inr (.inr F))))), (q0, .inl (cI, 256, .inl (upd z0 (0 : Int32).toNatClampNeg 1))), (q1, .inl (cI, 256, .inl z1)), (q2, .inl (cI, 256, .inl z2)), (q3, .inl (cI, 256, .inl z3))] H := hP
  have hD : va_D A [(h0, .inr (1, [.ref gN, .ref gS, .int 1, .long m3, .long m4, .long m5, .long m6])), (gN, .inl (cO, 4, .inr (.inr (.inr (.inr F))))), (q0, .inl (cI, 256, .inl (upd z0 (0 : Int32).toNatClampNeg 1))), (q1, .inl (cI, 256, .inl z1)), (q2, .inl (cI, 256, .inl z2)), (q3, .inl (cI, 256, .inl z3))] := hD
  refine lv_iinc (v := 1) (lv' := [(1, .int 1), (0, .ref h0)]) hx hb dX1_begin_34 hl (k := 0) rfl (by decide) (by decide) rfl (fun ls hl => ?_)
  refine lv_goto (tgt := 7) hx hb dX1_begin_37 (by decide) ?_
  refine lv_iload_n hx hb dX1_begin_7 rfl (lv_at hl 0 rfl) ?_
  refine lv_iconst (v := 4) hx hb dX1_begin_8 (by decide) ?_
  refine lz_ige (tgt := 40) hx hb dX1_begin_9 (by decide) (fun c_4 => absurd c_4 (by decide)) (fun c_4 => ?_)
  refine lv_aload_n hx hb dX1_begin_12 rfl (lv_at hl 1 rfl) ?_
  refine va_get (D := (dC, dI)) (ci := 1) (v := .ref gN) (C := RX1) (T := TX1) (N := 7) hx hb hts in_X1_begin_X1 hown hK hP 0 rfl rfl 0 (by decide) (hts (.fieldLink RX1 13 "FormRing$Matrix" "numbers" "[[I") (by decide +kernel)) (fun _ h9 => h9) rfl dX1_begin_13 ?_
  refine lv_iload_n hx hb dX1_begin_16 rfl (lv_at hl 0 rfl) ?_
  refine zz_ald hx hb hK hP 1 1 rfl rfl (q := q1) hF.2.1 zz_in1 dX1_begin_17 ?_
  refine lv_iconst (v := 0) hx hb dX1_begin_18 (by decide) ?_
  refine lv_iload_n hx hb dX1_begin_19 rfl (lv_at hl 0 rfl) ?_
  refine lz_zeq (tgt := 28) hx hb dX1_begin_20 (by decide) (fun c_5 => absurd c_5 (by decide)) (fun c_5 => ?_)
  refine lv_iload_n hx hb dX1_begin_23 rfl (lv_at hl 0 rfl) ?_
  refine lv_iconst (v := 3) hx hb dX1_begin_24 (by decide) ?_
  refine lz_ine (tgt := 32) hx hb dX1_begin_25 (by decide) (fun c_6 => ?_) (fun c_6 => absurd c_6 (by decide))
  refine lv_iconst (v := 0) hx hb dX1_begin_32 (by decide) ?_
  by_cases g_7 : (0 : Int32) < 0 ∨ 256 ≤ (0 : Int32).toNatClampNeg
  · have hr := (if_pos g_7).symm.trans hr
    cases hr
  have hr := (if_neg g_7).symm.trans hr
  refine va_iast hx hb hK hP hD hS 3 0 rfl rfl g_7 dX1_begin_33 (fun H locs hP hD hS => ?_)
  have hP : va_P (dC, dI) vwCl [(h0, .inr (1, [.ref gN, .ref gS, .int 1, .long m3, .long m4, .long m5, .long m6])), (gN, .inl (cO, 4, .inr (.inr (.inr (.inr F))))), (q0, .inl (cI, 256, .inl (upd z0 (0 : Int32).toNatClampNeg 1))), (q1, .inl (cI, 256, .inl (upd z1 (0 : Int32).toNatClampNeg 0))), (q2, .inl (cI, 256, .inl z2)), (q3, .inl (cI, 256, .inl z3))] H := hP
  have hD : va_D A [(h0, .inr (1, [.ref gN, .ref gS, .int 1, .long m3, .long m4, .long m5, .long m6])), (gN, .inl (cO, 4, .inr (.inr (.inr (.inr F))))), (q0, .inl (cI, 256, .inl (upd z0 (0 : Int32).toNatClampNeg 1))), (q1, .inl (cI, 256, .inl (upd z1 (0 : Int32).toNatClampNeg 0))), (q2, .inl (cI, 256, .inl z2)), (q3, .inl (cI, 256, .inl z3))] := hD
  refine lv_iinc (v := 2) (lv' := [(1, .int 2), (0, .ref h0)]) hx hb dX1_begin_34 hl (k := 0) rfl (by decide) (by decide) rfl (fun ls hl => ?_)
  refine lv_goto (tgt := 7) hx hb dX1_begin_37 (by decide) ?_
  refine lv_iload_n hx hb dX1_begin_7 rfl (lv_at hl 0 rfl) ?_
  refine lv_iconst (v := 4) hx hb dX1_begin_8 (by decide) ?_
  refine lz_ige (tgt := 40) hx hb dX1_begin_9 (by decide) (fun c_8 => absurd c_8 (by decide)) (fun c_8 => ?_)
  refine lv_aload_n hx hb dX1_begin_12 rfl (lv_at hl 1 rfl) ?_
  refine va_get (D := (dC, dI)) (ci := 1) (v := .ref gN) (C := RX1) (T := TX1) (N := 7) hx hb hts in_X1_begin_X1 hown hK hP 0 rfl rfl 0 (by decide) (hts (.fieldLink RX1 13 "FormRing$Matrix" "numbers" "[[I") (by decide +kernel)) (fun _ h9 => h9) rfl dX1_begin_13 ?_
  refine lv_iload_n hx hb dX1_begin_16 rfl (lv_at hl 0 rfl) ?_
  refine zz_ald hx hb hK hP 1 1 rfl rfl (q := q2) hF.2.2.1 zz_in2 dX1_begin_17 ?_
  refine lv_iconst (v := 0) hx hb dX1_begin_18 (by decide) ?_
  refine lv_iload_n hx hb dX1_begin_19 rfl (lv_at hl 0 rfl) ?_
  refine lz_zeq (tgt := 28) hx hb dX1_begin_20 (by decide) (fun c_9 => absurd c_9 (by decide)) (fun c_9 => ?_)
  refine lv_iload_n hx hb dX1_begin_23 rfl (lv_at hl 0 rfl) ?_
  refine lv_iconst (v := 3) hx hb dX1_begin_24 (by decide) ?_
  refine lz_ine (tgt := 32) hx hb dX1_begin_25 (by decide) (fun c_10 => ?_) (fun c_10 => absurd c_10 (by decide))
  refine lv_iconst (v := 0) hx hb dX1_begin_32 (by decide) ?_
  by_cases g_11 : (0 : Int32) < 0 ∨ 256 ≤ (0 : Int32).toNatClampNeg
  · have hr := (if_pos g_11).symm.trans hr
    cases hr
  have hr := (if_neg g_11).symm.trans hr
  refine va_iast hx hb hK hP hD hS 4 0 rfl rfl g_11 dX1_begin_33 (fun H locs hP hD hS => ?_)
  have hP : va_P (dC, dI) vwCl [(h0, .inr (1, [.ref gN, .ref gS, .int 1, .long m3, .long m4, .long m5, .long m6])), (gN, .inl (cO, 4, .inr (.inr (.inr (.inr F))))), (q0, .inl (cI, 256, .inl (upd z0 (0 : Int32).toNatClampNeg 1))), (q1, .inl (cI, 256, .inl (upd z1 (0 : Int32).toNatClampNeg 0))), (q2, .inl (cI, 256, .inl (upd z2 (0 : Int32).toNatClampNeg 0))), (q3, .inl (cI, 256, .inl z3))] H := hP
  have hD : va_D A [(h0, .inr (1, [.ref gN, .ref gS, .int 1, .long m3, .long m4, .long m5, .long m6])), (gN, .inl (cO, 4, .inr (.inr (.inr (.inr F))))), (q0, .inl (cI, 256, .inl (upd z0 (0 : Int32).toNatClampNeg 1))), (q1, .inl (cI, 256, .inl (upd z1 (0 : Int32).toNatClampNeg 0))), (q2, .inl (cI, 256, .inl (upd z2 (0 : Int32).toNatClampNeg 0))), (q3, .inl (cI, 256, .inl z3))] := hD
  refine lv_iinc (v := 3) (lv' := [(1, .int 3), (0, .ref h0)]) hx hb dX1_begin_34 hl (k := 0) rfl (by decide) (by decide) rfl (fun ls hl => ?_)
  refine lv_goto (tgt := 7) hx hb dX1_begin_37 (by decide) ?_
  refine lv_iload_n hx hb dX1_begin_7 rfl (lv_at hl 0 rfl) ?_
  refine lv_iconst (v := 4) hx hb dX1_begin_8 (by decide) ?_
  refine lz_ige (tgt := 40) hx hb dX1_begin_9 (by decide) (fun c_12 => absurd c_12 (by decide)) (fun c_12 => ?_)
  refine lv_aload_n hx hb dX1_begin_12 rfl (lv_at hl 1 rfl) ?_
  refine va_get (D := (dC, dI)) (ci := 1) (v := .ref gN) (C := RX1) (T := TX1) (N := 7) hx hb hts in_X1_begin_X1 hown hK hP 0 rfl rfl 0 (by decide) (hts (.fieldLink RX1 13 "FormRing$Matrix" "numbers" "[[I") (by decide +kernel)) (fun _ h9 => h9) rfl dX1_begin_13 ?_
  refine lv_iload_n hx hb dX1_begin_16 rfl (lv_at hl 0 rfl) ?_
  refine zz_ald hx hb hK hP 1 1 rfl rfl (q := q3) hF.2.2.2 zz_in3 dX1_begin_17 ?_
  refine lv_iconst (v := 0) hx hb dX1_begin_18 (by decide) ?_
  refine lv_iload_n hx hb dX1_begin_19 rfl (lv_at hl 0 rfl) ?_
  refine lz_zeq (tgt := 28) hx hb dX1_begin_20 (by decide) (fun c_13 => absurd c_13 (by decide)) (fun c_13 => ?_)
  refine lv_iload_n hx hb dX1_begin_23 rfl (lv_at hl 0 rfl) ?_
  refine lv_iconst (v := 3) hx hb dX1_begin_24 (by decide) ?_
  refine lz_ine (tgt := 32) hx hb dX1_begin_25 (by decide) (fun c_14 => absurd c_14 (by decide)) (fun c_14 => ?_)
  refine lv_iconst (v := 1) hx hb dX1_begin_28 (by decide) ?_
  refine lv_goto (tgt := 33) hx hb dX1_begin_29 (by decide) ?_
  by_cases g_15 : (0 : Int32) < 0 ∨ 256 ≤ (0 : Int32).toNatClampNeg
  · have hr := (if_pos g_15).symm.trans hr
    cases hr
  have hr := (if_neg g_15).symm.trans hr
  refine va_iast hx hb hK hP hD hS 5 0 rfl rfl g_15 dX1_begin_33 (fun H locs hP hD hS => ?_)
  have hP : va_P (dC, dI) vwCl [(h0, .inr (1, [.ref gN, .ref gS, .int 1, .long m3, .long m4, .long m5, .long m6])), (gN, .inl (cO, 4, .inr (.inr (.inr (.inr F))))), (q0, .inl (cI, 256, .inl (upd z0 (0 : Int32).toNatClampNeg 1))), (q1, .inl (cI, 256, .inl (upd z1 (0 : Int32).toNatClampNeg 0))), (q2, .inl (cI, 256, .inl (upd z2 (0 : Int32).toNatClampNeg 0))), (q3, .inl (cI, 256, .inl (upd z3 (0 : Int32).toNatClampNeg 1)))] H := hP
  have hD : va_D A [(h0, .inr (1, [.ref gN, .ref gS, .int 1, .long m3, .long m4, .long m5, .long m6])), (gN, .inl (cO, 4, .inr (.inr (.inr (.inr F))))), (q0, .inl (cI, 256, .inl (upd z0 (0 : Int32).toNatClampNeg 1))), (q1, .inl (cI, 256, .inl (upd z1 (0 : Int32).toNatClampNeg 0))), (q2, .inl (cI, 256, .inl (upd z2 (0 : Int32).toNatClampNeg 0))), (q3, .inl (cI, 256, .inl (upd z3 (0 : Int32).toNatClampNeg 1)))] := hD
  refine lv_iinc (v := 4) (lv' := [(1, .int 4), (0, .ref h0)]) hx hb dX1_begin_34 hl (k := 0) rfl (by decide) (by decide) rfl (fun ls hl => ?_)
  refine lv_goto (tgt := 7) hx hb dX1_begin_37 (by decide) ?_
  refine lv_iload_n hx hb dX1_begin_7 rfl (lv_at hl 0 rfl) ?_
  refine lv_iconst (v := 4) hx hb dX1_begin_8 (by decide) ?_
  refine lz_ige (tgt := 40) hx hb dX1_begin_9 (by decide) (fun c_16 => ?_) (fun c_16 => absurd c_16 (by decide))
  refine lv_aload_n hx hb dX1_begin_40 rfl (lv_at hl 1 rfl) ?_
  cases e_17 : f_X1_forgetWaiting n with
  | none => rw [e_17, Option.bind_none] at hr; cases hr
  | some r_18 =>
    rw [e_17, Option.bind_some] at hr
    have hPc := hP.sub (ws' := [(h0, .inr (1, [.ref gN, .ref gS, .int 1, .long m3, .long m4, .long m5, .long m6]))]) [0] rfl
    have hDc := hD.sub (ws' := [(h0, .inr (1, [.ref gN, .ref gS, .int 1, .long m3, .long m4, .long m5, .long m6]))]) [0] (by decide) rfl
    have hKc := hK.sub (tys' := []) [] rfl
    have hFc := va_free (wc := [(h0, .inr (1, [.ref gN, .ref gS, .int 1, .long m3, .long m4, .long m5, .long m6]))]) hD hS hA [0] rfl
    refine va_callv (va_runV (As := []) (rest := []) ⟨hx, hb, hml, hown, hts⟩ (c_X1_forgetWaiting l dC dI H.size h0 gN gS 1 m3 m4 m5 m6  n _ e_17) (cwV 0 hts gX1_begin_X1_forgetWaiting rfl rfl rfl (by decide +kernel) ⟨Nat.le_of_ble_eq_true rfl, Nat.le_of_ble_eq_true rfl⟩) ⟨fun a U g mk q => by obtain ⟨q0, q1, qP, qK, qD⟩ := q; exact ⟨q0, q1, qP, va_K.moved (u := U) (U := U.calling g mk a) (Vm.Alike.refl U.vm) qK, qD⟩, va_recv hKc hPc (ci := 1) (q0 := 0) rfl rfl, fun U hU hW => ⟨rfl, by rw [hU], by rw [hU]; exact hPc, va_K.moved hW.alike hKc, hDc.weaken (fun _ _ _ _ => trivial)⟩⟩ rfl rfl hl.1 rfl (lv_room (Nat.le_of_ble_eq_true rfl)) dX1_begin_41 ⟨Nat.zero_le _, Nat.zero_le _⟩) hS (fun q _ h => hFc q h) hFc (fun _ t H1 locs ht hvm hw hB hz1 hk1 hS => ?_)
    obtain ⟨hP1, hK1, hD1⟩ := hB
    rw [ht] at hP1
    obtain ⟨hP, hD⟩ := va_join (wr := [(gN, .inl (cO, 4, .inr (.inr (.inr (.inr F))))), (q0, .inl (cI, 256, .inl (upd z0 (0 : Int32).toNatClampNeg 1))), (q1, .inl (cI, 256, .inl (upd z1 (0 : Int32).toNatClampNeg 0))), (q2, .inl (cI, 256, .inl (upd z2 (0 : Int32).toNatClampNeg 0))), (q3, .inl (cI, 256, .inl (upd z3 (0 : Int32).toNatClampNeg 1)))]) (w1 := [(h0, .inr (1, [.ref gN, .ref gS, .int 1, .long r_18.1, .long r_18.2.1, .long r_18.2.2.1, .long r_18.2.2.2]))]) hP hD [0] [1, 2, 3, 4, 5] rfl rfl (by decide) (by decide) hk1 hFc hP1 hD1
    generalize H1 = H at hP hS ⊢
    have hP := hP.sub (ws' := [(h0, .inr (1, [.ref gN, .ref gS, .int 1, .long r_18.1, .long r_18.2.1, .long r_18.2.2.1, .long r_18.2.2.2])), (gN, .inl (cO, 4, .inr (.inr (.inr (.inr F))))), (q0, .inl (cI, 256, .inl (upd z0 (0 : Int32).toNatClampNeg 1))), (q1, .inl (cI, 256, .inl (upd z1 (0 : Int32).toNatClampNeg 0))), (q2, .inl (cI, 256, .inl (upd z2 (0 : Int32).toNatClampNeg 0))), (q3, .inl (cI, 256, .inl (upd z3 (0 : Int32).toNatClampNeg 1)))]) [5, 0, 1, 2, 3, 4] rfl
    have hD := hD.sub (ws' := [(h0, .inr (1, [.ref gN, .ref gS, .int 1, .long r_18.1, .long r_18.2.1, .long r_18.2.2.1, .long r_18.2.2.2])), (gN, .inl (cO, 4, .inr (.inr (.inr (.inr F))))), (q0, .inl (cI, 256, .inl (upd z0 (0 : Int32).toNatClampNeg 1))), (q1, .inl (cI, 256, .inl (upd z1 (0 : Int32).toNatClampNeg 0))), (q2, .inl (cI, 256, .inl (upd z2 (0 : Int32).toNatClampNeg 0))), (q3, .inl (cI, 256, .inl (upd z3 (0 : Int32).toNatClampNeg 1)))]) [5, 0, 1, 2, 3, 4] (by decide) rfl
    have hP : va_P (dC, dI) vwCl [(h0, .inr (1, [.ref gN, .ref gS, .int 1, .long r_18.1, .long r_18.2.1, .long r_18.2.2.1, .long r_18.2.2.2])), (gN, .inl (cO, 4, .inr (.inr (.inr (.inr F))))), (q0, .inl (cI, 256, .inl (upd z0 (0 : Int32).toNatClampNeg 1))), (q1, .inl (cI, 256, .inl (upd z1 (0 : Int32).toNatClampNeg 0))), (q2, .inl (cI, 256, .inl (upd z2 (0 : Int32).toNatClampNeg 0))), (q3, .inl (cI, 256, .inl (upd z3 (0 : Int32).toNatClampNeg 1)))] H := hP
    have hD : va_D A [(h0, .inr (1, [.ref gN, .ref gS, .int 1, .long r_18.1, .long r_18.2.1, .long r_18.2.2.1, .long r_18.2.2.2])), (gN, .inl (cO, 4, .inr (.inr (.inr (.inr F))))), (q0, .inl (cI, 256, .inl (upd z0 (0 : Int32).toNatClampNeg 1))), (q1, .inl (cI, 256, .inl (upd z1 (0 : Int32).toNatClampNeg 0))), (q2, .inl (cI, 256, .inl (upd z2 (0 : Int32).toNatClampNeg 0))), (q3, .inl (cI, 256, .inl (upd z3 (0 : Int32).toNatClampNeg 1)))] := hD
    refine W.widen (k := 0) (n := 0) (Nat.le_refl _) (Nat.le_refl _) ?_
    have ho := Option.some.inj hr
    subst ho
    exact W.vret hx hb hrt (fun t ht hW => ⟨⟨(), rfl, trivial, by rw [ht]; exact hP, va_K.moved hW.alike hK, hD⟩, hS.F ht⟩) hS.2.2 dX1_begin_44

theorem in_X1_lengthen_X1 : ∀ w ∈ u_ws RX1 TX1 7, w ∈ wsX1_lengthen := by decide +kernel
def f_X1_lengthen (n : Nat) (m2 : Int32) (z0 : Nat → Int32) (z1 : Nat → Int32) (z2 : Nat → Int32) (z3 : Nat → Int32) : Option ((Nat → Int32) × (Nat → Int32) × (Nat → Int32) × (Nat → Int32) × Int32) := if m2 < 256 then (if (m2 - 1) < 0 ∨ 256 ≤ (m2 - 1).toNatClampNeg then none else (if m2 < 0 ∨ 256 ≤ m2.toNatClampNeg then none else (if (m2 - 1) < 0 ∨ 256 ≤ (m2 - 1).toNatClampNeg then none else (if m2 < 0 ∨ 256 ≤ m2.toNatClampNeg then none else (if (m2 - 1) < 0 ∨ 256 ≤ (m2 - 1).toNatClampNeg then none else (if m2 < 0 ∨ 256 ≤ m2.toNatClampNeg then none else (if (m2 - 1) < 0 ∨ 256 ≤ (m2 - 1).toNatClampNeg then none else (if m2 < 0 ∨ 256 ≤ m2.toNatClampNeg then none else (some (upd z0 m2.toNatClampNeg ((z0 (m2 - 1).toNatClampNeg) >>> ((31 : Int32) &&& 31)), upd z1 m2.toNatClampNeg ((z1 (m2 - 1).toNatClampNeg) >>> ((31 : Int32) &&& 31)), upd z2 m2.toNatClampNeg ((z2 (m2 - 1).toNatClampNeg) >>> ((31 : Int32) &&& 31)), upd z3 m2.toNatClampNeg ((z3 (m2 - 1).toNatClampNeg) >>> ((31 : Int32) &&& 31)), m2 + 1)))))))))) else (some (z0, z1, z2, z3, m2))
set_option maxHeartbeats 4000000 in
set_option maxRecDepth 100000 in
theorem c_X1_lengthen (l : Launch) (dC : Nat → ClassId) (dI : Nat → Nat → Nat) (sz : Nat) (h0 : Nat) (gN : Nat) (gS : Nat) (m2 : Int32) (m3 : Int64) (m4 : Int64) (m5 : Int64) (m6 : Int64) (cI : ClassId) (cO : ClassId) (F : Nat → Option Nat) (q0 : Nat) (q1 : Nat) (q2 : Nat) (q3 : Nat) (z0 : Nat → Int32) (z1 : Nat → Int32) (z2 : Nat → Int32) (z3 : Nat → Int32)  (hF : F 0 = some q0 ∧ F 1 = some q1 ∧ F 2 = some q2 ∧ F 3 = some q3) (n : Nat) (out : (Nat → Int32) × (Nat → Int32) × (Nat → Int32) × (Nat → Int32) × Int32) (hr : f_X1_lengthen n m2 z0 z1 z2 z3 = some out) : Met l yX1_lengthen wsX1_lengthen ({ frames := 0, cells := 0, slots := 0, locals := 0 }) (va_Pc [.ref h0] (zP dC dI [(cI, .int), (cO, .array .int)] [(h0, .inr (1, [.ref gN, .ref gS, .int m2, .long m3, .long m4, .long m5, .long m6])), (gN, .inl (cO, 4, .inr (.inr (.inr (.inr F))))), (q0, .inl (cI, 256, .inl z0)), (q1, .inl (cI, 256, .inl z1)), (q2, .inl (cI, 256, .inl z2)), (q3, .inl (cI, 256, .inl z3))] sz)) (va_Qv (fun (_ : Unit) => True) (fun (_ : Unit) t => zB dC dI [(cI, .int), (cO, .array .int)] (va_A [(h0, .inr (1, [.ref gN, .ref gS, .int m2, .long m3, .long m4, .long m5, .long m6])), (gN, .inl (cO, 4, .inr (.inr (.inr (.inr F))))), (q0, .inl (cI, 256, .inl z0)), (q1, .inl (cI, 256, .inl z1)), (q2, .inl (cI, 256, .inl z2)), (q3, .inl (cI, 256, .inl z3))] sz) [(h0, .inr (1, [.ref gN, .ref gS, .int out.2.2.2.2, .long m3, .long m4, .long m5, .long m6])), (gN, .inl (cO, 4, .inr (.inr (.inr (.inr F))))), (q0, .inl (cI, 256, .inl out.1)), (q1, .inl (cI, 256, .inl out.2.1)), (q2, .inl (cI, 256, .inl out.2.2.1)), (q3, .inl (cI, 256, .inl out.2.2.2.1))] t) (va_A [(h0, .inr (1, [.ref gN, .ref gS, .int m2, .long m3, .long m4, .long m5, .long m6])), (gN, .inl (cO, 4, .inr (.inr (.inr (.inr F))))), (q0, .inl (cI, 256, .inl z0)), (q1, .inl (cI, 256, .inl z1)), (q2, .inl (cI, 256, .inl z2)), (q3, .inl (cI, 256, .inl z3))] sz)) 0 0 (va_A [(h0, .inr (1, [.ref gN, .ref gS, .int m2, .long m3, .long m4, .long m5, .long m6])), (gN, .inl (cO, 4, .inr (.inr (.inr (.inr F))))), (q0, .inl (cI, 256, .inl z0)), (q1, .inl (cI, 256, .inl z1)), (q2, .inl (cI, 256, .inl z2)), (q3, .inl (cI, 256, .inl z3))] sz) := by
  refine Met.ofW (cc := cX1_lengthen) (maxL := 2) (ret := none) (by decide +kernel) rfl ?_
  intro p e s m args below meth c s₁ B hml hv
  obtain ⟨rfl, hsz, hP, hK, hD0⟩ := hv
  have hx := B.exec
  have hb := B.bytes
  have hrt := B.returns
  have hts := atoms_spec (ws := wsX1_lengthen) B.pre
  have hown : s.vm.findClass RX1 = some m.cls := findClass_of_methodNamed B.named
  have hlocks := B.notSynchronized
  subst hsz
  have hD := hD0.self (sz := s.heap.size)
  generalize hAe : va_A [(h0, .inr (1, [.ref gN, .ref gS, .int m2, .long m3, .long m4, .long m5, .long m6])), (gN, .inl (cO, 4, .inr (.inr (.inr (.inr F))))), (q0, .inl (cI, 256, .inl z0)), (q1, .inl (cI, 256, .inl z1)), (q2, .inl (cI, 256, .inl z2)), (q3, .inl (cI, 256, .inl z3))] s.heap.size = A at hD ⊢
  have hA : ∀ q : Nat, s.heap.size ≤ q → A q := fun q h => by rw [← hAe]; exact Or.inr h
  have hS : va_S A s.heap s.heap [] := va_S.rf
  have hP : va_P (dC, dI) vwCl [(h0, .inr (1, [.ref gN, .ref gS, .int m2, .long m3, .long m4, .long m5, .long m6])), (gN, .inl (cO, 4, .inr (.inr (.inr (.inr F))))), (q0, .inl (cI, 256, .inl z0)), (q1, .inl (cI, 256, .inl z1)), (q2, .inl (cI, 256, .inl z2)), (q3, .inl (cI, 256, .inl z3))] s.heap := hP
  have hl := lv_entry ([.ref h0]) (n := 2) (Nat.le_of_ble_eq_true rfl)
  rw [lg_entry_eq]
  generalize (lg_sl ([.ref h0]) ++ List.replicate (2 - (lg_sl ([.ref h0])).length) Slot.unset).toArray = ls at hl ⊢
  have hl : lv_has ls 2 [(0, .ref h0)] := hl
  unfold f_X1_lengthen at hr
  refine lv_aload_n hx hb dX1_lengthen_0 rfl (lv_at hl 0 rfl) ?_
  refine va_get (D := (dC, dI)) (ci := 1) (v := .int m2) (C := RX1) (T := TX1) (N := 7) hx hb hts in_X1_lengthen_X1 hown hK hP 0 rfl rfl 2 (by decide) (hts (.fieldLink RX1 23 "FormRing$Matrix" "length" "I") (by decide +kernel)) (fun _ h9 => h9) rfl dX1_lengthen_1 ?_
  refine lv_sipush (v := 256) hx hb dX1_lengthen_4 (by decide) ?_
  refine lz_ilt (tgt := 11) hx hb dX1_lengthen_7 (by decide) (fun c_1 => ?_) (fun c_1 => ?_)
  · have hr := (if_pos c_1).symm.trans hr
    refine lv_iconst (v := 0) hx hb dX1_lengthen_11 (by decide) ?_
    refine lv_istore_n (lv' := [(1, .int 0), (0, .ref h0)]) hx hb dX1_lengthen_12 rfl hl (by decide) rfl (fun ls hl => ?_)
    refine lv_iload_n hx hb dX1_lengthen_13 rfl (lv_at hl 0 rfl) ?_
    refine lv_iconst (v := 4) hx hb dX1_lengthen_14 (by decide) ?_
    refine lz_ige (tgt := 51) hx hb dX1_lengthen_15 (by decide) (fun c_2 => absurd c_2 (by decide)) (fun c_2 => ?_)
    refine lv_aload_n hx hb dX1_lengthen_18 rfl (lv_at hl 1 rfl) ?_
    refine va_get (D := (dC, dI)) (ci := 1) (v := .ref gN) (C := RX1) (T := TX1) (N := 7) hx hb hts in_X1_lengthen_X1 hown hK hP 0 rfl rfl 0 (by decide) (hts (.fieldLink RX1 13 "FormRing$Matrix" "numbers" "[[I") (by decide +kernel)) (fun _ h9 => h9) rfl dX1_lengthen_19 ?_
    refine lv_iload_n hx hb dX1_lengthen_22 rfl (lv_at hl 0 rfl) ?_
    refine zz_ald hx hb hK hP 1 1 rfl rfl (q := q0) hF.1 zz_in0 dX1_lengthen_23 ?_
    refine lv_aload_n hx hb dX1_lengthen_24 rfl (lv_at hl 1 rfl) ?_
    refine va_get (D := (dC, dI)) (ci := 1) (v := .int m2) (C := RX1) (T := TX1) (N := 7) hx hb hts in_X1_lengthen_X1 hown hK hP 0 rfl rfl 2 (by decide) (hts (.fieldLink RX1 23 "FormRing$Matrix" "length" "I") (by decide +kernel)) (fun _ h9 => h9) rfl dX1_lengthen_25 ?_
    refine lv_aload_n hx hb dX1_lengthen_28 rfl (lv_at hl 1 rfl) ?_
    refine va_get (D := (dC, dI)) (ci := 1) (v := .ref gN) (C := RX1) (T := TX1) (N := 7) hx hb hts in_X1_lengthen_X1 hown hK hP 0 rfl rfl 0 (by decide) (hts (.fieldLink RX1 13 "FormRing$Matrix" "numbers" "[[I") (by decide +kernel)) (fun _ h9 => h9) rfl dX1_lengthen_29 ?_
    refine lv_iload_n hx hb dX1_lengthen_32 rfl (lv_at hl 0 rfl) ?_
    refine zz_ald hx hb hK hP 1 1 rfl rfl (q := q0) hF.1 zz_in0 dX1_lengthen_33 ?_
    refine lv_aload_n hx hb dX1_lengthen_34 rfl (lv_at hl 1 rfl) ?_
    refine va_get (D := (dC, dI)) (ci := 1) (v := .int m2) (C := RX1) (T := TX1) (N := 7) hx hb hts in_X1_lengthen_X1 hown hK hP 0 rfl rfl 2 (by decide) (hts (.fieldLink RX1 23 "FormRing$Matrix" "length" "I") (by decide +kernel)) (fun _ h9 => h9) rfl dX1_lengthen_35 ?_
    refine lv_iconst (v := 1) hx hb dX1_lengthen_38 (by decide) ?_
    refine lv_isub hx hb dX1_lengthen_39 ?_
    by_cases g_3 : (m2 - 1) < 0 ∨ 256 ≤ (m2 - 1).toNatClampNeg
    · have hr := (if_pos g_3).symm.trans hr
      cases hr
    have hr := (if_neg g_3).symm.trans hr
    refine va_iald hx hb hK hP 2 0 rfl rfl g_3 dX1_lengthen_40 ?_
    refine lv_bipush (v := 31) hx hb dX1_lengthen_41 (by decide) ?_
    refine lv_ishr hx hb dX1_lengthen_43 ?_
    by_cases g_4 : m2 < 0 ∨ 256 ≤ m2.toNatClampNeg
    · have hr := (if_pos g_4).symm.trans hr
      cases hr
    have hr := (if_neg g_4).symm.trans hr
    refine va_iast hx hb hK hP hD hS 2 0 rfl rfl g_4 dX1_lengthen_44 (fun H locs hP hD hS => ?_)
    have hP : va_P (dC, dI) vwCl [(h0, .inr (1, [.ref gN, .ref gS, .int m2, .long m3, .long m4, .long m5, .long m6])), (gN, .inl (cO, 4, .inr (.inr (.inr (.inr F))))), (q0, .inl (cI, 256, .inl (upd z0 m2.toNatClampNeg ((z0 (m2 - 1).toNatClampNeg) >>> ((31 : Int32) &&& 31))))), (q1, .inl (cI, 256, .inl z1)), (q2, .inl (cI, 256, .inl z2)), (q3, .inl (cI, 256, .inl z3))] H := hP
    have hD : va_D A [(h0, .inr (1, [.ref gN, .ref gS, .int m2, .long m3, .long m4, .long m5, .long m6])), (gN, .inl (cO, 4, .inr (.inr (.inr (.inr F))))), (q0, .inl (cI, 256, .inl (upd z0 m2.toNatClampNeg ((z0 (m2 - 1).toNatClampNeg) >>> ((31 : Int32) &&& 31))))), (q1, .inl (cI, 256, .inl z1)), (q2, .inl (cI, 256, .inl z2)), (q3, .inl (cI, 256, .inl z3))] := hD
    refine lv_iinc (v := 1) (lv' := [(1, .int 1), (0, .ref h0)]) hx hb dX1_lengthen_45 hl (k := 0) rfl (by decide) (by decide) rfl (fun ls hl => ?_)
    refine lv_goto (tgt := 13) hx hb dX1_lengthen_48 (by decide) ?_
    refine lv_iload_n hx hb dX1_lengthen_13 rfl (lv_at hl 0 rfl) ?_
    refine lv_iconst (v := 4) hx hb dX1_lengthen_14 (by decide) ?_
    refine lz_ige (tgt := 51) hx hb dX1_lengthen_15 (by decide) (fun c_5 => absurd c_5 (by decide)) (fun c_5 => ?_)
    refine lv_aload_n hx hb dX1_lengthen_18 rfl (lv_at hl 1 rfl) ?_
    refine va_get (D := (dC, dI)) (ci := 1) (v := .ref gN) (C := RX1) (T := TX1) (N := 7) hx hb hts in_X1_lengthen_X1 hown hK hP 0 rfl rfl 0 (by decide) (hts (.fieldLink RX1 13 "FormRing$Matrix" "numbers" "[[I") (by decide +kernel)) (fun _ h9 => h9) rfl dX1_lengthen_19 ?_
    refine lv_iload_n hx hb dX1_lengthen_22 rfl (lv_at hl 0 rfl) ?_
    refine zz_ald hx hb hK hP 1 1 rfl rfl (q := q1) hF.2.1 zz_in1 dX1_lengthen_23 ?_
    refine lv_aload_n hx hb dX1_lengthen_24 rfl (lv_at hl 1 rfl) ?_
    refine va_get (D := (dC, dI)) (ci := 1) (v := .int m2) (C := RX1) (T := TX1) (N := 7) hx hb hts in_X1_lengthen_X1 hown hK hP 0 rfl rfl 2 (by decide) (hts (.fieldLink RX1 23 "FormRing$Matrix" "length" "I") (by decide +kernel)) (fun _ h9 => h9) rfl dX1_lengthen_25 ?_
    refine lv_aload_n hx hb dX1_lengthen_28 rfl (lv_at hl 1 rfl) ?_
    refine va_get (D := (dC, dI)) (ci := 1) (v := .ref gN) (C := RX1) (T := TX1) (N := 7) hx hb hts in_X1_lengthen_X1 hown hK hP 0 rfl rfl 0 (by decide) (hts (.fieldLink RX1 13 "FormRing$Matrix" "numbers" "[[I") (by decide +kernel)) (fun _ h9 => h9) rfl dX1_lengthen_29 ?_
    refine lv_iload_n hx hb dX1_lengthen_32 rfl (lv_at hl 0 rfl) ?_
    refine zz_ald hx hb hK hP 1 1 rfl rfl (q := q1) hF.2.1 zz_in1 dX1_lengthen_33 ?_
    refine lv_aload_n hx hb dX1_lengthen_34 rfl (lv_at hl 1 rfl) ?_
    refine va_get (D := (dC, dI)) (ci := 1) (v := .int m2) (C := RX1) (T := TX1) (N := 7) hx hb hts in_X1_lengthen_X1 hown hK hP 0 rfl rfl 2 (by decide) (hts (.fieldLink RX1 23 "FormRing$Matrix" "length" "I") (by decide +kernel)) (fun _ h9 => h9) rfl dX1_lengthen_35 ?_
    refine lv_iconst (v := 1) hx hb dX1_lengthen_38 (by decide) ?_
    refine lv_isub hx hb dX1_lengthen_39 ?_
    by_cases g_6 : (m2 - 1) < 0 ∨ 256 ≤ (m2 - 1).toNatClampNeg
    · have hr := (if_pos g_6).symm.trans hr
      cases hr
    have hr := (if_neg g_6).symm.trans hr
    refine va_iald hx hb hK hP 3 0 rfl rfl g_6 dX1_lengthen_40 ?_
    refine lv_bipush (v := 31) hx hb dX1_lengthen_41 (by decide) ?_
    refine lv_ishr hx hb dX1_lengthen_43 ?_
    by_cases g_7 : m2 < 0 ∨ 256 ≤ m2.toNatClampNeg
    · have hr := (if_pos g_7).symm.trans hr
      cases hr
    have hr := (if_neg g_7).symm.trans hr
    refine va_iast hx hb hK hP hD hS 3 0 rfl rfl g_7 dX1_lengthen_44 (fun H locs hP hD hS => ?_)
    have hP : va_P (dC, dI) vwCl [(h0, .inr (1, [.ref gN, .ref gS, .int m2, .long m3, .long m4, .long m5, .long m6])), (gN, .inl (cO, 4, .inr (.inr (.inr (.inr F))))), (q0, .inl (cI, 256, .inl (upd z0 m2.toNatClampNeg ((z0 (m2 - 1).toNatClampNeg) >>> ((31 : Int32) &&& 31))))), (q1, .inl (cI, 256, .inl (upd z1 m2.toNatClampNeg ((z1 (m2 - 1).toNatClampNeg) >>> ((31 : Int32) &&& 31))))), (q2, .inl (cI, 256, .inl z2)), (q3, .inl (cI, 256, .inl z3))] H := hP
    have hD : va_D A [(h0, .inr (1, [.ref gN, .ref gS, .int m2, .long m3, .long m4, .long m5, .long m6])), (gN, .inl (cO, 4, .inr (.inr (.inr (.inr F))))), (q0, .inl (cI, 256, .inl (upd z0 m2.toNatClampNeg ((z0 (m2 - 1).toNatClampNeg) >>> ((31 : Int32) &&& 31))))), (q1, .inl (cI, 256, .inl (upd z1 m2.toNatClampNeg ((z1 (m2 - 1).toNatClampNeg) >>> ((31 : Int32) &&& 31))))), (q2, .inl (cI, 256, .inl z2)), (q3, .inl (cI, 256, .inl z3))] := hD
    refine lv_iinc (v := 2) (lv' := [(1, .int 2), (0, .ref h0)]) hx hb dX1_lengthen_45 hl (k := 0) rfl (by decide) (by decide) rfl (fun ls hl => ?_)
    refine lv_goto (tgt := 13) hx hb dX1_lengthen_48 (by decide) ?_
    refine lv_iload_n hx hb dX1_lengthen_13 rfl (lv_at hl 0 rfl) ?_
    refine lv_iconst (v := 4) hx hb dX1_lengthen_14 (by decide) ?_
    refine lz_ige (tgt := 51) hx hb dX1_lengthen_15 (by decide) (fun c_8 => absurd c_8 (by decide)) (fun c_8 => ?_)
    refine lv_aload_n hx hb dX1_lengthen_18 rfl (lv_at hl 1 rfl) ?_
    refine va_get (D := (dC, dI)) (ci := 1) (v := .ref gN) (C := RX1) (T := TX1) (N := 7) hx hb hts in_X1_lengthen_X1 hown hK hP 0 rfl rfl 0 (by decide) (hts (.fieldLink RX1 13 "FormRing$Matrix" "numbers" "[[I") (by decide +kernel)) (fun _ h9 => h9) rfl dX1_lengthen_19 ?_
    refine lv_iload_n hx hb dX1_lengthen_22 rfl (lv_at hl 0 rfl) ?_
    refine zz_ald hx hb hK hP 1 1 rfl rfl (q := q2) hF.2.2.1 zz_in2 dX1_lengthen_23 ?_
    refine lv_aload_n hx hb dX1_lengthen_24 rfl (lv_at hl 1 rfl) ?_
    refine va_get (D := (dC, dI)) (ci := 1) (v := .int m2) (C := RX1) (T := TX1) (N := 7) hx hb hts in_X1_lengthen_X1 hown hK hP 0 rfl rfl 2 (by decide) (hts (.fieldLink RX1 23 "FormRing$Matrix" "length" "I") (by decide +kernel)) (fun _ h9 => h9) rfl dX1_lengthen_25 ?_
    refine lv_aload_n hx hb dX1_lengthen_28 rfl (lv_at hl 1 rfl) ?_
    refine va_get (D := (dC, dI)) (ci := 1) (v := .ref gN) (C := RX1) (T := TX1) (N := 7) hx hb hts in_X1_lengthen_X1 hown hK hP 0 rfl rfl 0 (by decide) (hts (.fieldLink RX1 13 "FormRing$Matrix" "numbers" "[[I") (by decide +kernel)) (fun _ h9 => h9) rfl dX1_lengthen_29 ?_
    refine lv_iload_n hx hb dX1_lengthen_32 rfl (lv_at hl 0 rfl) ?_
    refine zz_ald hx hb hK hP 1 1 rfl rfl (q := q2) hF.2.2.1 zz_in2 dX1_lengthen_33 ?_
    refine lv_aload_n hx hb dX1_lengthen_34 rfl (lv_at hl 1 rfl) ?_
    refine va_get (D := (dC, dI)) (ci := 1) (v := .int m2) (C := RX1) (T := TX1) (N := 7) hx hb hts in_X1_lengthen_X1 hown hK hP 0 rfl rfl 2 (by decide) (hts (.fieldLink RX1 23 "FormRing$Matrix" "length" "I") (by decide +kernel)) (fun _ h9 => h9) rfl dX1_lengthen_35 ?_
    refine lv_iconst (v := 1) hx hb dX1_lengthen_38 (by decide) ?_
    refine lv_isub hx hb dX1_lengthen_39 ?_
    by_cases g_9 : (m2 - 1) < 0 ∨ 256 ≤ (m2 - 1).toNatClampNeg
    · have hr := (if_pos g_9).symm.trans hr
      cases hr
    have hr := (if_neg g_9).symm.trans hr
    refine va_iald hx hb hK hP 4 0 rfl rfl g_9 dX1_lengthen_40 ?_
    refine lv_bipush (v := 31) hx hb dX1_lengthen_41 (by decide) ?_
    refine lv_ishr hx hb dX1_lengthen_43 ?_
    by_cases g_10 : m2 < 0 ∨ 256 ≤ m2.toNatClampNeg
    · have hr := (if_pos g_10).symm.trans hr
      cases hr
    have hr := (if_neg g_10).symm.trans hr
    refine va_iast hx hb hK hP hD hS 4 0 rfl rfl g_10 dX1_lengthen_44 (fun H locs hP hD hS => ?_)
    have hP : va_P (dC, dI) vwCl [(h0, .inr (1, [.ref gN, .ref gS, .int m2, .long m3, .long m4, .long m5, .long m6])), (gN, .inl (cO, 4, .inr (.inr (.inr (.inr F))))), (q0, .inl (cI, 256, .inl (upd z0 m2.toNatClampNeg ((z0 (m2 - 1).toNatClampNeg) >>> ((31 : Int32) &&& 31))))), (q1, .inl (cI, 256, .inl (upd z1 m2.toNatClampNeg ((z1 (m2 - 1).toNatClampNeg) >>> ((31 : Int32) &&& 31))))), (q2, .inl (cI, 256, .inl (upd z2 m2.toNatClampNeg ((z2 (m2 - 1).toNatClampNeg) >>> ((31 : Int32) &&& 31))))), (q3, .inl (cI, 256, .inl z3))] H := hP
    have hD : va_D A [(h0, .inr (1, [.ref gN, .ref gS, .int m2, .long m3, .long m4, .long m5, .long m6])), (gN, .inl (cO, 4, .inr (.inr (.inr (.inr F))))), (q0, .inl (cI, 256, .inl (upd z0 m2.toNatClampNeg ((z0 (m2 - 1).toNatClampNeg) >>> ((31 : Int32) &&& 31))))), (q1, .inl (cI, 256, .inl (upd z1 m2.toNatClampNeg ((z1 (m2 - 1).toNatClampNeg) >>> ((31 : Int32) &&& 31))))), (q2, .inl (cI, 256, .inl (upd z2 m2.toNatClampNeg ((z2 (m2 - 1).toNatClampNeg) >>> ((31 : Int32) &&& 31))))), (q3, .inl (cI, 256, .inl z3))] := hD
    refine lv_iinc (v := 3) (lv' := [(1, .int 3), (0, .ref h0)]) hx hb dX1_lengthen_45 hl (k := 0) rfl (by decide) (by decide) rfl (fun ls hl => ?_)
    refine lv_goto (tgt := 13) hx hb dX1_lengthen_48 (by decide) ?_
    refine lv_iload_n hx hb dX1_lengthen_13 rfl (lv_at hl 0 rfl) ?_
    refine lv_iconst (v := 4) hx hb dX1_lengthen_14 (by decide) ?_
    refine lz_ige (tgt := 51) hx hb dX1_lengthen_15 (by decide) (fun c_11 => absurd c_11 (by decide)) (fun c_11 => ?_)
    refine lv_aload_n hx hb dX1_lengthen_18 rfl (lv_at hl 1 rfl) ?_
    refine va_get (D := (dC, dI)) (ci := 1) (v := .ref gN) (C := RX1) (T := TX1) (N := 7) hx hb hts in_X1_lengthen_X1 hown hK hP 0 rfl rfl 0 (by decide) (hts (.fieldLink RX1 13 "FormRing$Matrix" "numbers" "[[I") (by decide +kernel)) (fun _ h9 => h9) rfl dX1_lengthen_19 ?_
    refine lv_iload_n hx hb dX1_lengthen_22 rfl (lv_at hl 0 rfl) ?_
    refine zz_ald hx hb hK hP 1 1 rfl rfl (q := q3) hF.2.2.2 zz_in3 dX1_lengthen_23 ?_
    refine lv_aload_n hx hb dX1_lengthen_24 rfl (lv_at hl 1 rfl) ?_
    refine va_get (D := (dC, dI)) (ci := 1) (v := .int m2) (C := RX1) (T := TX1) (N := 7) hx hb hts in_X1_lengthen_X1 hown hK hP 0 rfl rfl 2 (by decide) (hts (.fieldLink RX1 23 "FormRing$Matrix" "length" "I") (by decide +kernel)) (fun _ h9 => h9) rfl dX1_lengthen_25 ?_
    refine lv_aload_n hx hb dX1_lengthen_28 rfl (lv_at hl 1 rfl) ?_
    refine va_get (D := (dC, dI)) (ci := 1) (v := .ref gN) (C := RX1) (T := TX1) (N := 7) hx hb hts in_X1_lengthen_X1 hown hK hP 0 rfl rfl 0 (by decide) (hts (.fieldLink RX1 13 "FormRing$Matrix" "numbers" "[[I") (by decide +kernel)) (fun _ h9 => h9) rfl dX1_lengthen_29 ?_
    refine lv_iload_n hx hb dX1_lengthen_32 rfl (lv_at hl 0 rfl) ?_
    refine zz_ald hx hb hK hP 1 1 rfl rfl (q := q3) hF.2.2.2 zz_in3 dX1_lengthen_33 ?_
    refine lv_aload_n hx hb dX1_lengthen_34 rfl (lv_at hl 1 rfl) ?_
    refine va_get (D := (dC, dI)) (ci := 1) (v := .int m2) (C := RX1) (T := TX1) (N := 7) hx hb hts in_X1_lengthen_X1 hown hK hP 0 rfl rfl 2 (by decide) (hts (.fieldLink RX1 23 "FormRing$Matrix" "length" "I") (by decide +kernel)) (fun _ h9 => h9) rfl dX1_lengthen_35 ?_
    refine lv_iconst (v := 1) hx hb dX1_lengthen_38 (by decide) ?_
    refine lv_isub hx hb dX1_lengthen_39 ?_
    by_cases g_12 : (m2 - 1) < 0 ∨ 256 ≤ (m2 - 1).toNatClampNeg
    · have hr := (if_pos g_12).symm.trans hr
      cases hr
    have hr := (if_neg g_12).symm.trans hr
    refine va_iald hx hb hK hP 5 0 rfl rfl g_12 dX1_lengthen_40 ?_
    refine lv_bipush (v := 31) hx hb dX1_lengthen_41 (by decide) ?_
    refine lv_ishr hx hb dX1_lengthen_43 ?_
    by_cases g_13 : m2 < 0 ∨ 256 ≤ m2.toNatClampNeg
    · have hr := (if_pos g_13).symm.trans hr
      cases hr
    have hr := (if_neg g_13).symm.trans hr
    refine va_iast hx hb hK hP hD hS 5 0 rfl rfl g_13 dX1_lengthen_44 (fun H locs hP hD hS => ?_)
    have hP : va_P (dC, dI) vwCl [(h0, .inr (1, [.ref gN, .ref gS, .int m2, .long m3, .long m4, .long m5, .long m6])), (gN, .inl (cO, 4, .inr (.inr (.inr (.inr F))))), (q0, .inl (cI, 256, .inl (upd z0 m2.toNatClampNeg ((z0 (m2 - 1).toNatClampNeg) >>> ((31 : Int32) &&& 31))))), (q1, .inl (cI, 256, .inl (upd z1 m2.toNatClampNeg ((z1 (m2 - 1).toNatClampNeg) >>> ((31 : Int32) &&& 31))))), (q2, .inl (cI, 256, .inl (upd z2 m2.toNatClampNeg ((z2 (m2 - 1).toNatClampNeg) >>> ((31 : Int32) &&& 31))))), (q3, .inl (cI, 256, .inl (upd z3 m2.toNatClampNeg ((z3 (m2 - 1).toNatClampNeg) >>> ((31 : Int32) &&& 31)))))] H := hP
    have hD : va_D A [(h0, .inr (1, [.ref gN, .ref gS, .int m2, .long m3, .long m4, .long m5, .long m6])), (gN, .inl (cO, 4, .inr (.inr (.inr (.inr F))))), (q0, .inl (cI, 256, .inl (upd z0 m2.toNatClampNeg ((z0 (m2 - 1).toNatClampNeg) >>> ((31 : Int32) &&& 31))))), (q1, .inl (cI, 256, .inl (upd z1 m2.toNatClampNeg ((z1 (m2 - 1).toNatClampNeg) >>> ((31 : Int32) &&& 31))))), (q2, .inl (cI, 256, .inl (upd z2 m2.toNatClampNeg ((z2 (m2 - 1).toNatClampNeg) >>> ((31 : Int32) &&& 31))))), (q3, .inl (cI, 256, .inl (upd z3 m2.toNatClampNeg ((z3 (m2 - 1).toNatClampNeg) >>> ((31 : Int32) &&& 31)))))] := hD
    refine lv_iinc (v := 4) (lv' := [(1, .int 4), (0, .ref h0)]) hx hb dX1_lengthen_45 hl (k := 0) rfl (by decide) (by decide) rfl (fun ls hl => ?_)
    refine lv_goto (tgt := 13) hx hb dX1_lengthen_48 (by decide) ?_
    refine lv_iload_n hx hb dX1_lengthen_13 rfl (lv_at hl 0 rfl) ?_
    refine lv_iconst (v := 4) hx hb dX1_lengthen_14 (by decide) ?_
    refine lz_ige (tgt := 51) hx hb dX1_lengthen_15 (by decide) (fun c_14 => ?_) (fun c_14 => absurd c_14 (by decide))
    refine lv_aload_n hx hb dX1_lengthen_51 rfl (lv_at hl 1 rfl) ?_
    refine lv_dup hx hb dX1_lengthen_52 rfl ?_
    refine va_get (D := (dC, dI)) (ci := 1) (v := .int m2) (C := RX1) (T := TX1) (N := 7) hx hb hts in_X1_lengthen_X1 hown hK hP 0 rfl rfl 2 (by decide) (hts (.fieldLink RX1 23 "FormRing$Matrix" "length" "I") (by decide +kernel)) (fun _ h9 => h9) rfl dX1_lengthen_53 ?_
    refine lv_iconst (v := 1) hx hb dX1_lengthen_56 (by decide) ?_
    refine lv_iadd hx hb dX1_lengthen_57 ?_
    refine va_put (D := (dC, dI)) (ci := 1) (v := .int (m2 + 1)) (ty := .int) (C := RX1) (T := TX1) (N := 7) hx hb hts in_X1_lengthen_X1 tyX1 tyX1_ok nmX1 hown hK hP hD hS 0 rfl rfl 2 (by decide) (hts (.fieldLink RX1 23 "FormRing$Matrix" "length" "I") (by decide +kernel)) (fun _ h9 => h9) rfl (by decide +kernel) rfl rfl (Nat.le_of_ble_eq_true rfl) dX1_lengthen_58 (fun H locs hP hD hS => ?_)
    have hP : va_P (dC, dI) vwCl [(h0, .inr (1, [.ref gN, .ref gS, .int (m2 + 1), .long m3, .long m4, .long m5, .long m6])), (gN, .inl (cO, 4, .inr (.inr (.inr (.inr F))))), (q0, .inl (cI, 256, .inl (upd z0 m2.toNatClampNeg ((z0 (m2 - 1).toNatClampNeg) >>> ((31 : Int32) &&& 31))))), (q1, .inl (cI, 256, .inl (upd z1 m2.toNatClampNeg ((z1 (m2 - 1).toNatClampNeg) >>> ((31 : Int32) &&& 31))))), (q2, .inl (cI, 256, .inl (upd z2 m2.toNatClampNeg ((z2 (m2 - 1).toNatClampNeg) >>> ((31 : Int32) &&& 31))))), (q3, .inl (cI, 256, .inl (upd z3 m2.toNatClampNeg ((z3 (m2 - 1).toNatClampNeg) >>> ((31 : Int32) &&& 31)))))] H := hP
    have hD : va_D A [(h0, .inr (1, [.ref gN, .ref gS, .int (m2 + 1), .long m3, .long m4, .long m5, .long m6])), (gN, .inl (cO, 4, .inr (.inr (.inr (.inr F))))), (q0, .inl (cI, 256, .inl (upd z0 m2.toNatClampNeg ((z0 (m2 - 1).toNatClampNeg) >>> ((31 : Int32) &&& 31))))), (q1, .inl (cI, 256, .inl (upd z1 m2.toNatClampNeg ((z1 (m2 - 1).toNatClampNeg) >>> ((31 : Int32) &&& 31))))), (q2, .inl (cI, 256, .inl (upd z2 m2.toNatClampNeg ((z2 (m2 - 1).toNatClampNeg) >>> ((31 : Int32) &&& 31))))), (q3, .inl (cI, 256, .inl (upd z3 m2.toNatClampNeg ((z3 (m2 - 1).toNatClampNeg) >>> ((31 : Int32) &&& 31)))))] := hD
    have ho := Option.some.inj hr
    subst ho
    exact W.vret hx hb hrt (fun t ht hW => ⟨⟨(), rfl, trivial, by rw [ht]; exact hP, va_K.moved hW.alike hK, hD⟩, hS.F ht⟩) hS.2.2 dX1_lengthen_61
  · have hr := (if_neg c_1).symm.trans hr
    have ho := Option.some.inj hr
    subst ho
    exact W.vret hx hb hrt (fun t ht hW => ⟨⟨(), rfl, trivial, by rw [ht]; exact hP, va_K.moved hW.alike hK, hD⟩, hS.F ht⟩) hS.2.2 dX1_lengthen_10

theorem in_X1_shorten_X1 : ∀ w ∈ u_ws RX1 TX1 7, w ∈ wsX1_shorten := by decide +kernel
def f_X1_shorten (n : Nat) (m2 : Int32) (z0 : Nat → Int32) (z1 : Nat → Int32) (z2 : Nat → Int32) (z3 : Nat → Int32) : Option (Int32) := if m2 < 2 then (some m2) else (if (m2 - 1) < 0 ∨ 256 ≤ (m2 - 1).toNatClampNeg then none else (if (m2 - 2) < 0 ∨ 256 ≤ (m2 - 2).toNatClampNeg then none else (if (z0 (m2 - 1).toNatClampNeg) = ((z0 (m2 - 2).toNatClampNeg) >>> ((31 : Int32) &&& 31)) then (if (m2 - 1) < 0 ∨ 256 ≤ (m2 - 1).toNatClampNeg then none else (if (m2 - 2) < 0 ∨ 256 ≤ (m2 - 2).toNatClampNeg then none else (if (z1 (m2 - 1).toNatClampNeg) = ((z1 (m2 - 2).toNatClampNeg) >>> ((31 : Int32) &&& 31)) then (if (m2 - 1) < 0 ∨ 256 ≤ (m2 - 1).toNatClampNeg then none else (if (m2 - 2) < 0 ∨ 256 ≤ (m2 - 2).toNatClampNeg then none else (if (z2 (m2 - 1).toNatClampNeg) = ((z2 (m2 - 2).toNatClampNeg) >>> ((31 : Int32) &&& 31)) then (if (m2 - 1) < 0 ∨ 256 ≤ (m2 - 1).toNatClampNeg then none else (if (m2 - 2) < 0 ∨ 256 ≤ (m2 - 2).toNatClampNeg then none else (if (z3 (m2 - 1).toNatClampNeg) = ((z3 (m2 - 2).toNatClampNeg) >>> ((31 : Int32) &&& 31)) then (some (m2 - 1)) else (some m2)))) else (some m2)))) else (some m2)))) else (some m2))))
set_option maxHeartbeats 4000000 in
set_option maxRecDepth 100000 in
theorem c_X1_shorten (l : Launch) (dC : Nat → ClassId) (dI : Nat → Nat → Nat) (sz : Nat) (h0 : Nat) (gN : Nat) (gS : Nat) (m2 : Int32) (m3 : Int64) (m4 : Int64) (m5 : Int64) (m6 : Int64) (cI : ClassId) (cO : ClassId) (F : Nat → Option Nat) (q0 : Nat) (q1 : Nat) (q2 : Nat) (q3 : Nat) (z0 : Nat → Int32) (z1 : Nat → Int32) (z2 : Nat → Int32) (z3 : Nat → Int32)  (hF : F 0 = some q0 ∧ F 1 = some q1 ∧ F 2 = some q2 ∧ F 3 = some q3) (n : Nat) (out : Int32) (hr : f_X1_shorten n m2 z0 z1 z2 z3 = some out) : Met l yX1_shorten wsX1_shorten ({ frames := 0, cells := 0, slots := 0, locals := 0 }) (va_Pc [.ref h0] (zP dC dI [(cI, .int), (cO, .array .int)] [(h0, .inr (1, [.ref gN, .ref gS, .int m2, .long m3, .long m4, .long m5, .long m6])), (gN, .inl (cO, 4, .inr (.inr (.inr (.inr F))))), (q0, .inl (cI, 256, .inl z0)), (q1, .inl (cI, 256, .inl z1)), (q2, .inl (cI, 256, .inl z2)), (q3, .inl (cI, 256, .inl z3))] sz)) (va_Qv (fun (_ : Unit) => True) (fun (_ : Unit) t => zB dC dI [(cI, .int), (cO, .array .int)] (va_A [(h0, .inr (1, [.ref gN, .ref gS, .int m2, .long m3, .long m4, .long m5, .long m6])), (gN, .inl (cO, 4, .inr (.inr (.inr (.inr F))))), (q0, .inl (cI, 256, .inl z0)), (q1, .inl (cI, 256, .inl z1)), (q2, .inl (cI, 256, .inl z2)), (q3, .inl (cI, 256, .inl z3))] sz) [(h0, .inr (1, [.ref gN, .ref gS, .int out, .long m3, .long m4, .long m5, .long m6])), (gN, .inl (cO, 4, .inr (.inr (.inr (.inr F))))), (q0, .inl (cI, 256, .inl z0)), (q1, .inl (cI, 256, .inl z1)), (q2, .inl (cI, 256, .inl z2)), (q3, .inl (cI, 256, .inl z3))] t) (va_A [(h0, .inr (1, [.ref gN, .ref gS, .int m2, .long m3, .long m4, .long m5, .long m6])), (gN, .inl (cO, 4, .inr (.inr (.inr (.inr F))))), (q0, .inl (cI, 256, .inl z0)), (q1, .inl (cI, 256, .inl z1)), (q2, .inl (cI, 256, .inl z2)), (q3, .inl (cI, 256, .inl z3))] sz)) 0 0 (va_A [(h0, .inr (1, [.ref gN, .ref gS, .int m2, .long m3, .long m4, .long m5, .long m6])), (gN, .inl (cO, 4, .inr (.inr (.inr (.inr F))))), (q0, .inl (cI, 256, .inl z0)), (q1, .inl (cI, 256, .inl z1)), (q2, .inl (cI, 256, .inl z2)), (q3, .inl (cI, 256, .inl z3))] sz) := by
  refine Met.ofW (cc := cX1_shorten) (maxL := 2) (ret := none) (by decide +kernel) rfl ?_
  intro p e s m args below meth c s₁ B hml hv
  obtain ⟨rfl, hsz, hP, hK, hD0⟩ := hv
  have hx := B.exec
  have hb := B.bytes
  have hrt := B.returns
  have hts := atoms_spec (ws := wsX1_shorten) B.pre
  have hown : s.vm.findClass RX1 = some m.cls := findClass_of_methodNamed B.named
  have hlocks := B.notSynchronized
  subst hsz
  have hD := hD0.self (sz := s.heap.size)
  generalize hAe : va_A [(h0, .inr (1, [.ref gN, .ref gS, .int m2, .long m3, .long m4, .long m5, .long m6])), (gN, .inl (cO, 4, .inr (.inr (.inr (.inr F))))), (q0, .inl (cI, 256, .inl z0)), (q1, .inl (cI, 256, .inl z1)), (q2, .inl (cI, 256, .inl z2)), (q3, .inl (cI, 256, .inl z3))] s.heap.size = A at hD ⊢
  have hA : ∀ q : Nat, s.heap.size ≤ q → A q := fun q h => by rw [← hAe]; exact Or.inr h
  have hS : va_S A s.heap s.heap [] := va_S.rf
  have hP : va_P (dC, dI) vwCl [(h0, .inr (1, [.ref gN, .ref gS, .int m2, .long m3, .long m4, .long m5, .long m6])), (gN, .inl (cO, 4, .inr (.inr (.inr (.inr F))))), (q0, .inl (cI, 256, .inl z0)), (q1, .inl (cI, 256, .inl z1)), (q2, .inl (cI, 256, .inl z2)), (q3, .inl (cI, 256, .inl z3))] s.heap := hP
  have hl := lv_entry ([.ref h0]) (n := 2) (Nat.le_of_ble_eq_true rfl)
  rw [lg_entry_eq]
  generalize (lg_sl ([.ref h0]) ++ List.replicate (2 - (lg_sl ([.ref h0])).length) Slot.unset).toArray = ls at hl ⊢
  have hl : lv_has ls 2 [(0, .ref h0)] := hl
  unfold f_X1_shorten at hr
  refine lv_aload_n hx hb dX1_shorten_0 rfl (lv_at hl 0 rfl) ?_
  refine va_get (D := (dC, dI)) (ci := 1) (v := .int m2) (C := RX1) (T := TX1) (N := 7) hx hb hts in_X1_shorten_X1 hown hK hP 0 rfl rfl 2 (by decide) (hts (.fieldLink RX1 23 "FormRing$Matrix" "length" "I") (by decide +kernel)) (fun _ h9 => h9) rfl dX1_shorten_1 ?_
  refine lv_iconst (v := 2) hx hb dX1_shorten_4 (by decide) ?_
  refine lz_ige (tgt := 9) hx hb dX1_shorten_5 (by decide) (fun c_1 => ?_) (fun c_1 => ?_)
  · have hr := (if_neg c_1).symm.trans hr
    refine lv_iconst (v := 0) hx hb dX1_shorten_9 (by decide) ?_
    refine lv_istore_n (lv' := [(1, .int 0), (0, .ref h0)]) hx hb dX1_shorten_10 rfl hl (by decide) rfl (fun ls hl => ?_)
    refine lv_iload_n hx hb dX1_shorten_11 rfl (lv_at hl 0 rfl) ?_
    refine lv_iconst (v := 4) hx hb dX1_shorten_12 (by decide) ?_
    refine lz_ige (tgt := 55) hx hb dX1_shorten_13 (by decide) (fun c_2 => absurd c_2 (by decide)) (fun c_2 => ?_)
    refine lv_aload_n hx hb dX1_shorten_16 rfl (lv_at hl 1 rfl) ?_
    refine va_get (D := (dC, dI)) (ci := 1) (v := .ref gN) (C := RX1) (T := TX1) (N := 7) hx hb hts in_X1_shorten_X1 hown hK hP 0 rfl rfl 0 (by decide) (hts (.fieldLink RX1 13 "FormRing$Matrix" "numbers" "[[I") (by decide +kernel)) (fun _ h9 => h9) rfl dX1_shorten_17 ?_
    refine lv_iload_n hx hb dX1_shorten_20 rfl (lv_at hl 0 rfl) ?_
    refine zz_ald hx hb hK hP 1 1 rfl rfl (q := q0) hF.1 zz_in0 dX1_shorten_21 ?_
    refine lv_aload_n hx hb dX1_shorten_22 rfl (lv_at hl 1 rfl) ?_
    refine va_get (D := (dC, dI)) (ci := 1) (v := .int m2) (C := RX1) (T := TX1) (N := 7) hx hb hts in_X1_shorten_X1 hown hK hP 0 rfl rfl 2 (by decide) (hts (.fieldLink RX1 23 "FormRing$Matrix" "length" "I") (by decide +kernel)) (fun _ h9 => h9) rfl dX1_shorten_23 ?_
    refine lv_iconst (v := 1) hx hb dX1_shorten_26 (by decide) ?_
    refine lv_isub hx hb dX1_shorten_27 ?_
    by_cases g_3 : (m2 - 1) < 0 ∨ 256 ≤ (m2 - 1).toNatClampNeg
    · have hr := (if_pos g_3).symm.trans hr
      cases hr
    have hr := (if_neg g_3).symm.trans hr
    refine va_iald hx hb hK hP 2 0 rfl rfl g_3 dX1_shorten_28 ?_
    refine lv_aload_n hx hb dX1_shorten_29 rfl (lv_at hl 1 rfl) ?_
    refine va_get (D := (dC, dI)) (ci := 1) (v := .ref gN) (C := RX1) (T := TX1) (N := 7) hx hb hts in_X1_shorten_X1 hown hK hP 0 rfl rfl 0 (by decide) (hts (.fieldLink RX1 13 "FormRing$Matrix" "numbers" "[[I") (by decide +kernel)) (fun _ h9 => h9) rfl dX1_shorten_30 ?_
    refine lv_iload_n hx hb dX1_shorten_33 rfl (lv_at hl 0 rfl) ?_
    refine zz_ald hx hb hK hP 1 1 rfl rfl (q := q0) hF.1 zz_in0 dX1_shorten_34 ?_
    refine lv_aload_n hx hb dX1_shorten_35 rfl (lv_at hl 1 rfl) ?_
    refine va_get (D := (dC, dI)) (ci := 1) (v := .int m2) (C := RX1) (T := TX1) (N := 7) hx hb hts in_X1_shorten_X1 hown hK hP 0 rfl rfl 2 (by decide) (hts (.fieldLink RX1 23 "FormRing$Matrix" "length" "I") (by decide +kernel)) (fun _ h9 => h9) rfl dX1_shorten_36 ?_
    refine lv_iconst (v := 2) hx hb dX1_shorten_39 (by decide) ?_
    refine lv_isub hx hb dX1_shorten_40 ?_
    by_cases g_4 : (m2 - 2) < 0 ∨ 256 ≤ (m2 - 2).toNatClampNeg
    · have hr := (if_pos g_4).symm.trans hr
      cases hr
    have hr := (if_neg g_4).symm.trans hr
    refine va_iald hx hb hK hP 2 0 rfl rfl g_4 dX1_shorten_41 ?_
    refine lv_bipush (v := 31) hx hb dX1_shorten_42 (by decide) ?_
    refine lv_ishr hx hb dX1_shorten_44 ?_
    refine lz_ieq (tgt := 49) hx hb dX1_shorten_45 (by decide) (fun c_5 => ?_) (fun c_5 => ?_)
    · have hr := (if_pos c_5).symm.trans hr
      refine lv_iinc (v := 1) (lv' := [(1, .int 1), (0, .ref h0)]) hx hb dX1_shorten_49 hl (k := 0) rfl (by decide) (by decide) rfl (fun ls hl => ?_)
      refine lv_goto (tgt := 11) hx hb dX1_shorten_52 (by decide) ?_
      refine lv_iload_n hx hb dX1_shorten_11 rfl (lv_at hl 0 rfl) ?_
      refine lv_iconst (v := 4) hx hb dX1_shorten_12 (by decide) ?_
      refine lz_ige (tgt := 55) hx hb dX1_shorten_13 (by decide) (fun c_6 => absurd c_6 (by decide)) (fun c_6 => ?_)
      refine lv_aload_n hx hb dX1_shorten_16 rfl (lv_at hl 1 rfl) ?_
      refine va_get (D := (dC, dI)) (ci := 1) (v := .ref gN) (C := RX1) (T := TX1) (N := 7) hx hb hts in_X1_shorten_X1 hown hK hP 0 rfl rfl 0 (by decide) (hts (.fieldLink RX1 13 "FormRing$Matrix" "numbers" "[[I") (by decide +kernel)) (fun _ h9 => h9) rfl dX1_shorten_17 ?_
      refine lv_iload_n hx hb dX1_shorten_20 rfl (lv_at hl 0 rfl) ?_
      refine zz_ald hx hb hK hP 1 1 rfl rfl (q := q1) hF.2.1 zz_in1 dX1_shorten_21 ?_
      refine lv_aload_n hx hb dX1_shorten_22 rfl (lv_at hl 1 rfl) ?_
      refine va_get (D := (dC, dI)) (ci := 1) (v := .int m2) (C := RX1) (T := TX1) (N := 7) hx hb hts in_X1_shorten_X1 hown hK hP 0 rfl rfl 2 (by decide) (hts (.fieldLink RX1 23 "FormRing$Matrix" "length" "I") (by decide +kernel)) (fun _ h9 => h9) rfl dX1_shorten_23 ?_
      refine lv_iconst (v := 1) hx hb dX1_shorten_26 (by decide) ?_
      refine lv_isub hx hb dX1_shorten_27 ?_
      by_cases g_7 : (m2 - 1) < 0 ∨ 256 ≤ (m2 - 1).toNatClampNeg
      · have hr := (if_pos g_7).symm.trans hr
        cases hr
      have hr := (if_neg g_7).symm.trans hr
      refine va_iald hx hb hK hP 3 0 rfl rfl g_7 dX1_shorten_28 ?_
      refine lv_aload_n hx hb dX1_shorten_29 rfl (lv_at hl 1 rfl) ?_
      refine va_get (D := (dC, dI)) (ci := 1) (v := .ref gN) (C := RX1) (T := TX1) (N := 7) hx hb hts in_X1_shorten_X1 hown hK hP 0 rfl rfl 0 (by decide) (hts (.fieldLink RX1 13 "FormRing$Matrix" "numbers" "[[I") (by decide +kernel)) (fun _ h9 => h9) rfl dX1_shorten_30 ?_
      refine lv_iload_n hx hb dX1_shorten_33 rfl (lv_at hl 0 rfl) ?_
      refine zz_ald hx hb hK hP 1 1 rfl rfl (q := q1) hF.2.1 zz_in1 dX1_shorten_34 ?_
      refine lv_aload_n hx hb dX1_shorten_35 rfl (lv_at hl 1 rfl) ?_
      refine va_get (D := (dC, dI)) (ci := 1) (v := .int m2) (C := RX1) (T := TX1) (N := 7) hx hb hts in_X1_shorten_X1 hown hK hP 0 rfl rfl 2 (by decide) (hts (.fieldLink RX1 23 "FormRing$Matrix" "length" "I") (by decide +kernel)) (fun _ h9 => h9) rfl dX1_shorten_36 ?_
      refine lv_iconst (v := 2) hx hb dX1_shorten_39 (by decide) ?_
      refine lv_isub hx hb dX1_shorten_40 ?_
      by_cases g_8 : (m2 - 2) < 0 ∨ 256 ≤ (m2 - 2).toNatClampNeg
      · have hr := (if_pos g_8).symm.trans hr
        cases hr
      have hr := (if_neg g_8).symm.trans hr
      refine va_iald hx hb hK hP 3 0 rfl rfl g_8 dX1_shorten_41 ?_
      refine lv_bipush (v := 31) hx hb dX1_shorten_42 (by decide) ?_
      refine lv_ishr hx hb dX1_shorten_44 ?_
      refine lz_ieq (tgt := 49) hx hb dX1_shorten_45 (by decide) (fun c_9 => ?_) (fun c_9 => ?_)
      · have hr := (if_pos c_9).symm.trans hr
        refine lv_iinc (v := 2) (lv' := [(1, .int 2), (0, .ref h0)]) hx hb dX1_shorten_49 hl (k := 0) rfl (by decide) (by decide) rfl (fun ls hl => ?_)
        refine lv_goto (tgt := 11) hx hb dX1_shorten_52 (by decide) ?_
        refine lv_iload_n hx hb dX1_shorten_11 rfl (lv_at hl 0 rfl) ?_
        refine lv_iconst (v := 4) hx hb dX1_shorten_12 (by decide) ?_
        refine lz_ige (tgt := 55) hx hb dX1_shorten_13 (by decide) (fun c_10 => absurd c_10 (by decide)) (fun c_10 => ?_)
        refine lv_aload_n hx hb dX1_shorten_16 rfl (lv_at hl 1 rfl) ?_
        refine va_get (D := (dC, dI)) (ci := 1) (v := .ref gN) (C := RX1) (T := TX1) (N := 7) hx hb hts in_X1_shorten_X1 hown hK hP 0 rfl rfl 0 (by decide) (hts (.fieldLink RX1 13 "FormRing$Matrix" "numbers" "[[I") (by decide +kernel)) (fun _ h9 => h9) rfl dX1_shorten_17 ?_
        refine lv_iload_n hx hb dX1_shorten_20 rfl (lv_at hl 0 rfl) ?_
        refine zz_ald hx hb hK hP 1 1 rfl rfl (q := q2) hF.2.2.1 zz_in2 dX1_shorten_21 ?_
        refine lv_aload_n hx hb dX1_shorten_22 rfl (lv_at hl 1 rfl) ?_
        refine va_get (D := (dC, dI)) (ci := 1) (v := .int m2) (C := RX1) (T := TX1) (N := 7) hx hb hts in_X1_shorten_X1 hown hK hP 0 rfl rfl 2 (by decide) (hts (.fieldLink RX1 23 "FormRing$Matrix" "length" "I") (by decide +kernel)) (fun _ h9 => h9) rfl dX1_shorten_23 ?_
        refine lv_iconst (v := 1) hx hb dX1_shorten_26 (by decide) ?_
        refine lv_isub hx hb dX1_shorten_27 ?_
        by_cases g_11 : (m2 - 1) < 0 ∨ 256 ≤ (m2 - 1).toNatClampNeg
        · have hr := (if_pos g_11).symm.trans hr
          cases hr
        have hr := (if_neg g_11).symm.trans hr
        refine va_iald hx hb hK hP 4 0 rfl rfl g_11 dX1_shorten_28 ?_
        refine lv_aload_n hx hb dX1_shorten_29 rfl (lv_at hl 1 rfl) ?_
        refine va_get (D := (dC, dI)) (ci := 1) (v := .ref gN) (C := RX1) (T := TX1) (N := 7) hx hb hts in_X1_shorten_X1 hown hK hP 0 rfl rfl 0 (by decide) (hts (.fieldLink RX1 13 "FormRing$Matrix" "numbers" "[[I") (by decide +kernel)) (fun _ h9 => h9) rfl dX1_shorten_30 ?_
        refine lv_iload_n hx hb dX1_shorten_33 rfl (lv_at hl 0 rfl) ?_
        refine zz_ald hx hb hK hP 1 1 rfl rfl (q := q2) hF.2.2.1 zz_in2 dX1_shorten_34 ?_
        refine lv_aload_n hx hb dX1_shorten_35 rfl (lv_at hl 1 rfl) ?_
        refine va_get (D := (dC, dI)) (ci := 1) (v := .int m2) (C := RX1) (T := TX1) (N := 7) hx hb hts in_X1_shorten_X1 hown hK hP 0 rfl rfl 2 (by decide) (hts (.fieldLink RX1 23 "FormRing$Matrix" "length" "I") (by decide +kernel)) (fun _ h9 => h9) rfl dX1_shorten_36 ?_
        refine lv_iconst (v := 2) hx hb dX1_shorten_39 (by decide) ?_
        refine lv_isub hx hb dX1_shorten_40 ?_
        by_cases g_12 : (m2 - 2) < 0 ∨ 256 ≤ (m2 - 2).toNatClampNeg
        · have hr := (if_pos g_12).symm.trans hr
          cases hr
        have hr := (if_neg g_12).symm.trans hr
        refine va_iald hx hb hK hP 4 0 rfl rfl g_12 dX1_shorten_41 ?_
        refine lv_bipush (v := 31) hx hb dX1_shorten_42 (by decide) ?_
        refine lv_ishr hx hb dX1_shorten_44 ?_
        refine lz_ieq (tgt := 49) hx hb dX1_shorten_45 (by decide) (fun c_13 => ?_) (fun c_13 => ?_)
        · have hr := (if_pos c_13).symm.trans hr
          refine lv_iinc (v := 3) (lv' := [(1, .int 3), (0, .ref h0)]) hx hb dX1_shorten_49 hl (k := 0) rfl (by decide) (by decide) rfl (fun ls hl => ?_)
          refine lv_goto (tgt := 11) hx hb dX1_shorten_52 (by decide) ?_
          refine lv_iload_n hx hb dX1_shorten_11 rfl (lv_at hl 0 rfl) ?_
          refine lv_iconst (v := 4) hx hb dX1_shorten_12 (by decide) ?_
          refine lz_ige (tgt := 55) hx hb dX1_shorten_13 (by decide) (fun c_14 => absurd c_14 (by decide)) (fun c_14 => ?_)
          refine lv_aload_n hx hb dX1_shorten_16 rfl (lv_at hl 1 rfl) ?_
          refine va_get (D := (dC, dI)) (ci := 1) (v := .ref gN) (C := RX1) (T := TX1) (N := 7) hx hb hts in_X1_shorten_X1 hown hK hP 0 rfl rfl 0 (by decide) (hts (.fieldLink RX1 13 "FormRing$Matrix" "numbers" "[[I") (by decide +kernel)) (fun _ h9 => h9) rfl dX1_shorten_17 ?_
          refine lv_iload_n hx hb dX1_shorten_20 rfl (lv_at hl 0 rfl) ?_
          refine zz_ald hx hb hK hP 1 1 rfl rfl (q := q3) hF.2.2.2 zz_in3 dX1_shorten_21 ?_
          refine lv_aload_n hx hb dX1_shorten_22 rfl (lv_at hl 1 rfl) ?_
          refine va_get (D := (dC, dI)) (ci := 1) (v := .int m2) (C := RX1) (T := TX1) (N := 7) hx hb hts in_X1_shorten_X1 hown hK hP 0 rfl rfl 2 (by decide) (hts (.fieldLink RX1 23 "FormRing$Matrix" "length" "I") (by decide +kernel)) (fun _ h9 => h9) rfl dX1_shorten_23 ?_
          refine lv_iconst (v := 1) hx hb dX1_shorten_26 (by decide) ?_
          refine lv_isub hx hb dX1_shorten_27 ?_
          by_cases g_15 : (m2 - 1) < 0 ∨ 256 ≤ (m2 - 1).toNatClampNeg
          · have hr := (if_pos g_15).symm.trans hr
            cases hr
          have hr := (if_neg g_15).symm.trans hr
          refine va_iald hx hb hK hP 5 0 rfl rfl g_15 dX1_shorten_28 ?_
          refine lv_aload_n hx hb dX1_shorten_29 rfl (lv_at hl 1 rfl) ?_
          refine va_get (D := (dC, dI)) (ci := 1) (v := .ref gN) (C := RX1) (T := TX1) (N := 7) hx hb hts in_X1_shorten_X1 hown hK hP 0 rfl rfl 0 (by decide) (hts (.fieldLink RX1 13 "FormRing$Matrix" "numbers" "[[I") (by decide +kernel)) (fun _ h9 => h9) rfl dX1_shorten_30 ?_
          refine lv_iload_n hx hb dX1_shorten_33 rfl (lv_at hl 0 rfl) ?_
          refine zz_ald hx hb hK hP 1 1 rfl rfl (q := q3) hF.2.2.2 zz_in3 dX1_shorten_34 ?_
          refine lv_aload_n hx hb dX1_shorten_35 rfl (lv_at hl 1 rfl) ?_
          refine va_get (D := (dC, dI)) (ci := 1) (v := .int m2) (C := RX1) (T := TX1) (N := 7) hx hb hts in_X1_shorten_X1 hown hK hP 0 rfl rfl 2 (by decide) (hts (.fieldLink RX1 23 "FormRing$Matrix" "length" "I") (by decide +kernel)) (fun _ h9 => h9) rfl dX1_shorten_36 ?_
          refine lv_iconst (v := 2) hx hb dX1_shorten_39 (by decide) ?_
          refine lv_isub hx hb dX1_shorten_40 ?_
          by_cases g_16 : (m2 - 2) < 0 ∨ 256 ≤ (m2 - 2).toNatClampNeg
          · have hr := (if_pos g_16).symm.trans hr
            cases hr
          have hr := (if_neg g_16).symm.trans hr
          refine va_iald hx hb hK hP 5 0 rfl rfl g_16 dX1_shorten_41 ?_
          refine lv_bipush (v := 31) hx hb dX1_shorten_42 (by decide) ?_
          refine lv_ishr hx hb dX1_shorten_44 ?_
          refine lz_ieq (tgt := 49) hx hb dX1_shorten_45 (by decide) (fun c_17 => ?_) (fun c_17 => ?_)
          · have hr := (if_pos c_17).symm.trans hr
            refine lv_iinc (v := 4) (lv' := [(1, .int 4), (0, .ref h0)]) hx hb dX1_shorten_49 hl (k := 0) rfl (by decide) (by decide) rfl (fun ls hl => ?_)
            refine lv_goto (tgt := 11) hx hb dX1_shorten_52 (by decide) ?_
            refine lv_iload_n hx hb dX1_shorten_11 rfl (lv_at hl 0 rfl) ?_
            refine lv_iconst (v := 4) hx hb dX1_shorten_12 (by decide) ?_
            refine lz_ige (tgt := 55) hx hb dX1_shorten_13 (by decide) (fun c_18 => ?_) (fun c_18 => absurd c_18 (by decide))
            refine lv_aload_n hx hb dX1_shorten_55 rfl (lv_at hl 1 rfl) ?_
            refine lv_dup hx hb dX1_shorten_56 rfl ?_
            refine va_get (D := (dC, dI)) (ci := 1) (v := .int m2) (C := RX1) (T := TX1) (N := 7) hx hb hts in_X1_shorten_X1 hown hK hP 0 rfl rfl 2 (by decide) (hts (.fieldLink RX1 23 "FormRing$Matrix" "length" "I") (by decide +kernel)) (fun _ h9 => h9) rfl dX1_shorten_57 ?_
            refine lv_iconst (v := 1) hx hb dX1_shorten_60 (by decide) ?_
            refine lv_isub hx hb dX1_shorten_61 ?_
            refine va_put (D := (dC, dI)) (ci := 1) (v := .int (m2 - 1)) (ty := .int) (C := RX1) (T := TX1) (N := 7) hx hb hts in_X1_shorten_X1 tyX1 tyX1_ok nmX1 hown hK hP hD hS 0 rfl rfl 2 (by decide) (hts (.fieldLink RX1 23 "FormRing$Matrix" "length" "I") (by decide +kernel)) (fun _ h9 => h9) rfl (by decide +kernel) rfl rfl (Nat.le_of_ble_eq_true rfl) dX1_shorten_62 (fun H locs hP hD hS => ?_)
            have hP : va_P (dC, dI) vwCl [(h0, .inr (1, [.ref gN, .ref gS, .int (m2 - 1), .long m3, .long m4, .long m5, .long m6])), (gN, .inl (cO, 4, .inr (.inr (.inr (.inr F))))), (q0, .inl (cI, 256, .inl z0)), (q1, .inl (cI, 256, .inl z1)), (q2, .inl (cI, 256, .inl z2)), (q3, .inl (cI, 256, .inl z3))] H := hP
            have hD : va_D A [(h0, .inr (1, [.ref gN, .ref gS, .int (m2 - 1), .long m3, .long m4, .long m5, .long m6])), (gN, .inl (cO, 4, .inr (.inr (.inr (.inr F))))), (q0, .inl (cI, 256, .inl z0)), (q1, .inl (cI, 256, .inl z1)), (q2, .inl (cI, 256, .inl z2)), (q3, .inl (cI, 256, .inl z3))] := hD
            have ho := Option.some.inj hr
            subst ho
            exact W.vret hx hb hrt (fun t ht hW => ⟨⟨(), rfl, trivial, by rw [ht]; exact hP, va_K.moved hW.alike hK, hD⟩, hS.F ht⟩) hS.2.2 dX1_shorten_65
          · have hr := (if_neg c_17).symm.trans hr
            have ho := Option.some.inj hr
            subst ho
            exact W.vret hx hb hrt (fun t ht hW => ⟨⟨(), rfl, trivial, by rw [ht]; exact hP, va_K.moved hW.alike hK, hD⟩, hS.F ht⟩) hS.2.2 dX1_shorten_48
        · have hr := (if_neg c_13).symm.trans hr
          have ho := Option.some.inj hr
          subst ho
          exact W.vret hx hb hrt (fun t ht hW => ⟨⟨(), rfl, trivial, by rw [ht]; exact hP, va_K.moved hW.alike hK, hD⟩, hS.F ht⟩) hS.2.2 dX1_shorten_48
      · have hr := (if_neg c_9).symm.trans hr
        have ho := Option.some.inj hr
        subst ho
        exact W.vret hx hb hrt (fun t ht hW => ⟨⟨(), rfl, trivial, by rw [ht]; exact hP, va_K.moved hW.alike hK, hD⟩, hS.F ht⟩) hS.2.2 dX1_shorten_48
    · have hr := (if_neg c_5).symm.trans hr
      have ho := Option.some.inj hr
      subst ho
      exact W.vret hx hb hrt (fun t ht hW => ⟨⟨(), rfl, trivial, by rw [ht]; exact hP, va_K.moved hW.alike hK, hD⟩, hS.F ht⟩) hS.2.2 dX1_shorten_48
  · have hr := (if_pos c_1).symm.trans hr
    have ho := Option.some.inj hr
    subst ho
    exact W.vret hx hb hrt (fun t ht hW => ⟨⟨(), rfl, trivial, by rw [ht]; exact hP, va_K.moved hW.alike hK, hD⟩, hS.F ht⟩) hS.2.2 dX1_shorten_8

theorem in_X1_multiplyWaiting_X1 : ∀ w ∈ u_ws RX1 TX1 7, w ∈ wsX1_multiplyWaiting := by decide +kernel
def f_X1_multiplyWaiting (n : Nat) (m2 : Int32) (m3 : Int64) (m4 : Int64) (m5 : Int64) (m6 : Int64) (z0 : Nat → Int32) (z1 : Nat → Int32) (z2 : Nat → Int32) (z3 : Nat → Int32) : Option ((Nat → Int32) × (Nat → Int32) × (Nat → Int32) × (Nat → Int32) × Int32 × Int64 × Int64 × Int64 × Int64) := (f_X1_lengthen n m2 z0 z1 z2 z3).bind (fun r_2 => (f_X1_multiplyColumn n r_2.2.2.2.2 m3 m4 m5 m6 r_2.1 r_2.2.2.1).bind (fun r_5 => (f_X1_multiplyColumn n r_2.2.2.2.2 m3 m4 m5 m6 r_2.2.1 r_2.2.2.2.1).bind (fun r_8 => (f_X1_shorten n r_2.2.2.2.2 r_5.1 r_8.1 r_5.2 r_8.2).bind (fun r_11 => (f_X1_forgetWaiting n).bind (fun r_14 => some (r_5.1, r_8.1, r_5.2, r_8.2, r_11, r_14.1, r_14.2.1, r_14.2.2.1, r_14.2.2.2))))))
set_option maxHeartbeats 4000000 in
set_option maxRecDepth 100000 in
theorem c_X1_multiplyWaiting (l : Launch) (dC : Nat → ClassId) (dI : Nat → Nat → Nat) (sz : Nat) (h0 : Nat) (gN : Nat) (gS : Nat) (m2 : Int32) (m3 : Int64) (m4 : Int64) (m5 : Int64) (m6 : Int64) (cI : ClassId) (cO : ClassId) (F : Nat → Option Nat) (q0 : Nat) (q1 : Nat) (q2 : Nat) (q3 : Nat) (z0 : Nat → Int32) (z1 : Nat → Int32) (z2 : Nat → Int32) (z3 : Nat → Int32)  (hF : F 0 = some q0 ∧ F 1 = some q1 ∧ F 2 = some q2 ∧ F 3 = some q3) (n : Nat) (out : (Nat → Int32) × (Nat → Int32) × (Nat → Int32) × (Nat → Int32) × Int32 × Int64 × Int64 × Int64 × Int64) (hr : f_X1_multiplyWaiting n m2 m3 m4 m5 m6 z0 z1 z2 z3 = some out) : Met l yX1_multiplyWaiting wsX1_multiplyWaiting ({ frames := 1, cells := 0, slots := 0, locals := 31 }) (va_Pc [.ref h0] (zP dC dI [(cI, .int), (cO, .array .int)] [(h0, .inr (1, [.ref gN, .ref gS, .int m2, .long m3, .long m4, .long m5, .long m6])), (gN, .inl (cO, 4, .inr (.inr (.inr (.inr F))))), (q0, .inl (cI, 256, .inl z0)), (q1, .inl (cI, 256, .inl z1)), (q2, .inl (cI, 256, .inl z2)), (q3, .inl (cI, 256, .inl z3))] sz)) (va_Qv (fun (_ : Unit) => True) (fun (_ : Unit) t => zB dC dI [(cI, .int), (cO, .array .int)] (va_A [(h0, .inr (1, [.ref gN, .ref gS, .int m2, .long m3, .long m4, .long m5, .long m6])), (gN, .inl (cO, 4, .inr (.inr (.inr (.inr F))))), (q0, .inl (cI, 256, .inl z0)), (q1, .inl (cI, 256, .inl z1)), (q2, .inl (cI, 256, .inl z2)), (q3, .inl (cI, 256, .inl z3))] sz) [(h0, .inr (1, [.ref gN, .ref gS, .int out.2.2.2.2.1, .long out.2.2.2.2.2.1, .long out.2.2.2.2.2.2.1, .long out.2.2.2.2.2.2.2.1, .long out.2.2.2.2.2.2.2.2])), (gN, .inl (cO, 4, .inr (.inr (.inr (.inr F))))), (q0, .inl (cI, 256, .inl out.1)), (q1, .inl (cI, 256, .inl out.2.1)), (q2, .inl (cI, 256, .inl out.2.2.1)), (q3, .inl (cI, 256, .inl out.2.2.2.1))] t) (va_A [(h0, .inr (1, [.ref gN, .ref gS, .int m2, .long m3, .long m4, .long m5, .long m6])), (gN, .inl (cO, 4, .inr (.inr (.inr (.inr F))))), (q0, .inl (cI, 256, .inl z0)), (q1, .inl (cI, 256, .inl z1)), (q2, .inl (cI, 256, .inl z2)), (q3, .inl (cI, 256, .inl z3))] sz)) 0 0 (va_A [(h0, .inr (1, [.ref gN, .ref gS, .int m2, .long m3, .long m4, .long m5, .long m6])), (gN, .inl (cO, 4, .inr (.inr (.inr (.inr F))))), (q0, .inl (cI, 256, .inl z0)), (q1, .inl (cI, 256, .inl z1)), (q2, .inl (cI, 256, .inl z2)), (q3, .inl (cI, 256, .inl z3))] sz) := by
  refine Met.ofW (cc := cX1_multiplyWaiting) (maxL := 1) (ret := none) (by decide +kernel) rfl ?_
  intro p e s m args below meth c s₁ B hml hv
  obtain ⟨rfl, hsz, hP, hK, hD0⟩ := hv
  have hx := B.exec
  have hb := B.bytes
  have hrt := B.returns
  have hts := atoms_spec (ws := wsX1_multiplyWaiting) B.pre
  have hown : s.vm.findClass RX1 = some m.cls := findClass_of_methodNamed B.named
  have hlocks := B.notSynchronized
  subst hsz
  have hD := hD0.self (sz := s.heap.size)
  generalize hAe : va_A [(h0, .inr (1, [.ref gN, .ref gS, .int m2, .long m3, .long m4, .long m5, .long m6])), (gN, .inl (cO, 4, .inr (.inr (.inr (.inr F))))), (q0, .inl (cI, 256, .inl z0)), (q1, .inl (cI, 256, .inl z1)), (q2, .inl (cI, 256, .inl z2)), (q3, .inl (cI, 256, .inl z3))] s.heap.size = A at hD ⊢
  have hA : ∀ q : Nat, s.heap.size ≤ q → A q := fun q h => by rw [← hAe]; exact Or.inr h
  have hS : va_S A s.heap s.heap [] := va_S.rf
  have hP : va_P (dC, dI) vwCl [(h0, .inr (1, [.ref gN, .ref gS, .int m2, .long m3, .long m4, .long m5, .long m6])), (gN, .inl (cO, 4, .inr (.inr (.inr (.inr F))))), (q0, .inl (cI, 256, .inl z0)), (q1, .inl (cI, 256, .inl z1)), (q2, .inl (cI, 256, .inl z2)), (q3, .inl (cI, 256, .inl z3))] s.heap := hP
  have hl := lv_entry ([.ref h0]) (n := 1) (Nat.le_of_ble_eq_true rfl)
  rw [lg_entry_eq]
  generalize (lg_sl ([.ref h0]) ++ List.replicate (1 - (lg_sl ([.ref h0])).length) Slot.unset).toArray = ls at hl ⊢
  have hl : lv_has ls 1 [(0, .ref h0)] := hl
  unfold f_X1_multiplyWaiting at hr
  refine lv_aload_n hx hb dX1_multiplyWaiting_0 rfl (lv_at hl 0 rfl) ?_
  cases e_1 : f_X1_lengthen n m2 z0 z1 z2 z3 with
  | none => rw [e_1, Option.bind_none] at hr; cases hr
  | some r_2 =>
    rw [e_1, Option.bind_some] at hr
    have hPc := hP.sub (ws' := [(h0, .inr (1, [.ref gN, .ref gS, .int m2, .long m3, .long m4, .long m5, .long m6])), (gN, .inl (cO, 4, .inr (.inr (.inr (.inr F))))), (q0, .inl (cI, 256, .inl z0)), (q1, .inl (cI, 256, .inl z1)), (q2, .inl (cI, 256, .inl z2)), (q3, .inl (cI, 256, .inl z3))]) [0, 1, 2, 3, 4, 5] rfl
    have hDc := hD.sub (ws' := [(h0, .inr (1, [.ref gN, .ref gS, .int m2, .long m3, .long m4, .long m5, .long m6])), (gN, .inl (cO, 4, .inr (.inr (.inr (.inr F))))), (q0, .inl (cI, 256, .inl z0)), (q1, .inl (cI, 256, .inl z1)), (q2, .inl (cI, 256, .inl z2)), (q3, .inl (cI, 256, .inl z3))]) [0, 1, 2, 3, 4, 5] (by decide) rfl
    have hKc := hK.sub (tys' := [(cI, .int), (cO, .array .int)]) [0, 1] rfl
    have hFc := va_free (wc := [(h0, .inr (1, [.ref gN, .ref gS, .int m2, .long m3, .long m4, .long m5, .long m6])), (gN, .inl (cO, 4, .inr (.inr (.inr (.inr F))))), (q0, .inl (cI, 256, .inl z0)), (q1, .inl (cI, 256, .inl z1)), (q2, .inl (cI, 256, .inl z2)), (q3, .inl (cI, 256, .inl z3))]) hD hS hA [0, 1, 2, 3, 4, 5] rfl
    refine va_callv (va_runV (As := []) (rest := []) ⟨hx, hb, hml, hown, hts⟩ (c_X1_lengthen l dC dI s.heap.size h0 gN gS m2 m3 m4 m5 m6 cI cO F q0 q1 q2 q3 z0 z1 z2 z3  hF n _ e_1) (cwV 0 hts gX1_multiplyWaiting_X1_lengthen rfl rfl rfl (by decide +kernel) ⟨Nat.le_of_ble_eq_true rfl, Nat.le_of_ble_eq_true rfl⟩) ⟨fun a U g mk q => by obtain ⟨q0, q1, qP, qK, qD⟩ := q; exact ⟨q0, q1, qP, va_K.moved (u := U) (U := U.calling g mk a) (Vm.Alike.refl U.vm) qK, qD⟩, va_recv hKc hPc (ci := 1) (q0 := 0) rfl rfl, fun U hU hW => ⟨rfl, by rw [hU], by rw [hU]; exact hPc, va_K.moved hW.alike hKc, hDc.weaken (fun _ _ _ _ => trivial)⟩⟩ rfl rfl hl.1 rfl (lv_room (Nat.le_of_ble_eq_true rfl)) dX1_multiplyWaiting_1 ⟨Nat.zero_le _, Nat.zero_le _⟩) hS (fun q _ h => hFc q h) hFc (fun _ t H1 locs ht hvm hw hB hz1 hk1 hS => ?_)
    obtain ⟨hP1, hK1, hD1⟩ := hB
    rw [ht] at hP1
    obtain ⟨hP, hD⟩ := va_join (wr := []) (w1 := [(h0, .inr (1, [.ref gN, .ref gS, .int r_2.2.2.2.2, .long m3, .long m4, .long m5, .long m6])), (gN, .inl (cO, 4, .inr (.inr (.inr (.inr F))))), (q0, .inl (cI, 256, .inl r_2.1)), (q1, .inl (cI, 256, .inl r_2.2.1)), (q2, .inl (cI, 256, .inl r_2.2.2.1)), (q3, .inl (cI, 256, .inl r_2.2.2.2.1))]) hP hD [0, 1, 2, 3, 4, 5] [] rfl rfl (by decide) (by decide) hk1 hFc hP1 hD1
    generalize H1 = H at hP hS ⊢
    have hP : va_P (dC, dI) vwCl [(h0, .inr (1, [.ref gN, .ref gS, .int r_2.2.2.2.2, .long m3, .long m4, .long m5, .long m6])), (gN, .inl (cO, 4, .inr (.inr (.inr (.inr F))))), (q0, .inl (cI, 256, .inl r_2.1)), (q1, .inl (cI, 256, .inl r_2.2.1)), (q2, .inl (cI, 256, .inl r_2.2.2.1)), (q3, .inl (cI, 256, .inl r_2.2.2.2.1))] H := hP
    have hD : va_D A [(h0, .inr (1, [.ref gN, .ref gS, .int r_2.2.2.2.2, .long m3, .long m4, .long m5, .long m6])), (gN, .inl (cO, 4, .inr (.inr (.inr (.inr F))))), (q0, .inl (cI, 256, .inl r_2.1)), (q1, .inl (cI, 256, .inl r_2.2.1)), (q2, .inl (cI, 256, .inl r_2.2.2.1)), (q3, .inl (cI, 256, .inl r_2.2.2.2.1))] := hD
    refine W.widen (k := 0) (n := 0) (Nat.le_refl _) (Nat.le_refl _) ?_
    refine lv_aload_n hx hb dX1_multiplyWaiting_4 rfl (lv_at hl 0 rfl) ?_
    refine lv_aload_n hx hb dX1_multiplyWaiting_5 rfl (lv_at hl 0 rfl) ?_
    refine va_get (D := (dC, dI)) (ci := 1) (v := .ref gN) (C := RX1) (T := TX1) (N := 7) hx hb hts in_X1_multiplyWaiting_X1 hown hK hP 0 rfl rfl 0 (by decide) (hts (.fieldLink RX1 13 "FormRing$Matrix" "numbers" "[[I") (by decide +kernel)) (fun _ h9 => h9) rfl dX1_multiplyWaiting_6 ?_
    refine lv_iconst (v := 0) hx hb dX1_multiplyWaiting_9 (by decide) ?_
    refine zz_ald hx hb hK hP 1 1 rfl rfl (q := q0) hF.1 zz_in0 dX1_multiplyWaiting_10 ?_
    refine lv_aload_n hx hb dX1_multiplyWaiting_11 rfl (lv_at hl 0 rfl) ?_
    refine va_get (D := (dC, dI)) (ci := 1) (v := .ref gN) (C := RX1) (T := TX1) (N := 7) hx hb hts in_X1_multiplyWaiting_X1 hown hK hP 0 rfl rfl 0 (by decide) (hts (.fieldLink RX1 13 "FormRing$Matrix" "numbers" "[[I") (by decide +kernel)) (fun _ h9 => h9) rfl dX1_multiplyWaiting_12 ?_
    refine lv_iconst (v := 2) hx hb dX1_multiplyWaiting_15 (by decide) ?_
    refine zz_ald hx hb hK hP 1 1 rfl rfl (q := q2) hF.2.2.1 zz_in2 dX1_multiplyWaiting_16 ?_
    cases e_4 : f_X1_multiplyColumn n r_2.2.2.2.2 m3 m4 m5 m6 r_2.1 r_2.2.2.1 with
    | none => rw [e_4, Option.bind_none] at hr; cases hr
    | some r_5 =>
      rw [e_4, Option.bind_some] at hr
      have hPc := hP.sub (ws' := [(h0, .inr (1, [.ref gN, .ref gS, .int r_2.2.2.2.2, .long m3, .long m4, .long m5, .long m6])), (q0, .inl (cI, 256, .inl r_2.1)), (q2, .inl (cI, 256, .inl r_2.2.2.1))]) [0, 2, 4] rfl
      have hDc := hD.sub (ws' := [(h0, .inr (1, [.ref gN, .ref gS, .int r_2.2.2.2.2, .long m3, .long m4, .long m5, .long m6])), (q0, .inl (cI, 256, .inl r_2.1)), (q2, .inl (cI, 256, .inl r_2.2.2.1))]) [0, 2, 4] (by decide) rfl
      have hKc := hK.sub (tys' := [(cI, .int)]) [0] rfl
      have hFc := va_free (wc := [(h0, .inr (1, [.ref gN, .ref gS, .int r_2.2.2.2.2, .long m3, .long m4, .long m5, .long m6])), (q0, .inl (cI, 256, .inl r_2.1)), (q2, .inl (cI, 256, .inl r_2.2.2.1))]) hD hS hA [0, 2, 4] rfl
      refine va_callv (va_runV (As := [.ref q0, .ref q2]) (rest := []) ⟨hx, hb, hml, hown, hts⟩ (c_X1_multiplyColumn l dC dI H.size h0 gN gS r_2.2.2.2.2 m3 m4 m5 m6 cI q0 q2 r_2.1 r_2.2.2.1  n _ e_4) (cwV 2 hts gX1_multiplyWaiting_X1_multiplyColumn rfl rfl rfl (by decide +kernel) ⟨Nat.le_of_ble_eq_true rfl, Nat.le_of_ble_eq_true rfl⟩) ⟨fun a U g mk q => by obtain ⟨q0, q1, qP, qK, qD⟩ := q; exact ⟨q0, q1, qP, va_K.moved (u := U) (U := U.calling g mk a) (Vm.Alike.refl U.vm) qK, qD⟩, va_recv hKc hPc (ci := 1) (q0 := 0) rfl rfl, fun U hU hW => ⟨rfl, by rw [hU], by rw [hU]; exact hPc, va_K.moved hW.alike hKc, hDc.weaken (fun _ _ _ _ => trivial)⟩⟩ rfl rfl hl.1 rfl (lv_room (Nat.le_of_ble_eq_true rfl)) dX1_multiplyWaiting_17 ⟨Nat.zero_le _, Nat.zero_le _⟩) hS (fun q _ h => hFc q h) hFc (fun _ t H1 locs ht hvm hw hB hz1 hk1 hS => ?_)
      obtain ⟨hP1, hK1, hD1⟩ := hB
      rw [ht] at hP1
      obtain ⟨hP, hD⟩ := va_join (wr := [(gN, .inl (cO, 4, .inr (.inr (.inr (.inr F))))), (q1, .inl (cI, 256, .inl r_2.2.1)), (q3, .inl (cI, 256, .inl r_2.2.2.2.1))]) (w1 := [(h0, .inr (1, [.ref gN, .ref gS, .int r_2.2.2.2.2, .long m3, .long m4, .long m5, .long m6])), (q0, .inl (cI, 256, .inl r_5.1)), (q2, .inl (cI, 256, .inl r_5.2))]) hP hD [0, 2, 4] [1, 3, 5] rfl rfl (by decide) (by decide) hk1 hFc hP1 hD1
      generalize H1 = H at hP hS ⊢
      have hP := hP.sub (ws' := [(h0, .inr (1, [.ref gN, .ref gS, .int r_2.2.2.2.2, .long m3, .long m4, .long m5, .long m6])), (gN, .inl (cO, 4, .inr (.inr (.inr (.inr F))))), (q0, .inl (cI, 256, .inl r_5.1)), (q1, .inl (cI, 256, .inl r_2.2.1)), (q2, .inl (cI, 256, .inl r_5.2)), (q3, .inl (cI, 256, .inl r_2.2.2.2.1))]) [3, 0, 4, 1, 5, 2] rfl
      have hD := hD.sub (ws' := [(h0, .inr (1, [.ref gN, .ref gS, .int r_2.2.2.2.2, .long m3, .long m4, .long m5, .long m6])), (gN, .inl (cO, 4, .inr (.inr (.inr (.inr F))))), (q0, .inl (cI, 256, .inl r_5.1)), (q1, .inl (cI, 256, .inl r_2.2.1)), (q2, .inl (cI, 256, .inl r_5.2)), (q3, .inl (cI, 256, .inl r_2.2.2.2.1))]) [3, 0, 4, 1, 5, 2] (by decide) rfl
      have hP : va_P (dC, dI) vwCl [(h0, .inr (1, [.ref gN, .ref gS, .int r_2.2.2.2.2, .long m3, .long m4, .long m5, .long m6])), (gN, .inl (cO, 4, .inr (.inr (.inr (.inr F))))), (q0, .inl (cI, 256, .inl r_5.1)), (q1, .inl (cI, 256, .inl r_2.2.1)), (q2, .inl (cI, 256, .inl r_5.2)), (q3, .inl (cI, 256, .inl r_2.2.2.2.1))] H := hP
      have hD : va_D A [(h0, .inr (1, [.ref gN, .ref gS, .int r_2.2.2.2.2, .long m3, .long m4, .long m5, .long m6])), (gN, .inl (cO, 4, .inr (.inr (.inr (.inr F))))), (q0, .inl (cI, 256, .inl r_5.1)), (q1, .inl (cI, 256, .inl r_2.2.1)), (q2, .inl (cI, 256, .inl r_5.2)), (q3, .inl (cI, 256, .inl r_2.2.2.2.1))] := hD
      refine W.widen (k := 0) (n := 0) (Nat.le_refl _) (Nat.le_refl _) ?_
      refine lv_aload_n hx hb dX1_multiplyWaiting_20 rfl (lv_at hl 0 rfl) ?_
      refine lv_aload_n hx hb dX1_multiplyWaiting_21 rfl (lv_at hl 0 rfl) ?_
      refine va_get (D := (dC, dI)) (ci := 1) (v := .ref gN) (C := RX1) (T := TX1) (N := 7) hx hb hts in_X1_multiplyWaiting_X1 hown hK hP 0 rfl rfl 0 (by decide) (hts (.fieldLink RX1 13 "FormRing$Matrix" "numbers" "[[I") (by decide +kernel)) (fun _ h9 => h9) rfl dX1_multiplyWaiting_22 ?_
      refine lv_iconst (v := 1) hx hb dX1_multiplyWaiting_25 (by decide) ?_
      refine zz_ald hx hb hK hP 1 1 rfl rfl (q := q1) hF.2.1 zz_in1 dX1_multiplyWaiting_26 ?_
      refine lv_aload_n hx hb dX1_multiplyWaiting_27 rfl (lv_at hl 0 rfl) ?_
      refine va_get (D := (dC, dI)) (ci := 1) (v := .ref gN) (C := RX1) (T := TX1) (N := 7) hx hb hts in_X1_multiplyWaiting_X1 hown hK hP 0 rfl rfl 0 (by decide) (hts (.fieldLink RX1 13 "FormRing$Matrix" "numbers" "[[I") (by decide +kernel)) (fun _ h9 => h9) rfl dX1_multiplyWaiting_28 ?_
      refine lv_iconst (v := 3) hx hb dX1_multiplyWaiting_31 (by decide) ?_
      refine zz_ald hx hb hK hP 1 1 rfl rfl (q := q3) hF.2.2.2 zz_in3 dX1_multiplyWaiting_32 ?_
      cases e_7 : f_X1_multiplyColumn n r_2.2.2.2.2 m3 m4 m5 m6 r_2.2.1 r_2.2.2.2.1 with
      | none => rw [e_7, Option.bind_none] at hr; cases hr
      | some r_8 =>
        rw [e_7, Option.bind_some] at hr
        have hPc := hP.sub (ws' := [(h0, .inr (1, [.ref gN, .ref gS, .int r_2.2.2.2.2, .long m3, .long m4, .long m5, .long m6])), (q1, .inl (cI, 256, .inl r_2.2.1)), (q3, .inl (cI, 256, .inl r_2.2.2.2.1))]) [0, 3, 5] rfl
        have hDc := hD.sub (ws' := [(h0, .inr (1, [.ref gN, .ref gS, .int r_2.2.2.2.2, .long m3, .long m4, .long m5, .long m6])), (q1, .inl (cI, 256, .inl r_2.2.1)), (q3, .inl (cI, 256, .inl r_2.2.2.2.1))]) [0, 3, 5] (by decide) rfl
        have hKc := hK.sub (tys' := [(cI, .int)]) [0] rfl
        have hFc := va_free (wc := [(h0, .inr (1, [.ref gN, .ref gS, .int r_2.2.2.2.2, .long m3, .long m4, .long m5, .long m6])), (q1, .inl (cI, 256, .inl r_2.2.1)), (q3, .inl (cI, 256, .inl r_2.2.2.2.1))]) hD hS hA [0, 3, 5] rfl
        refine va_callv (va_runV (As := [.ref q1, .ref q3]) (rest := []) ⟨hx, hb, hml, hown, hts⟩ (c_X1_multiplyColumn l dC dI H.size h0 gN gS r_2.2.2.2.2 m3 m4 m5 m6 cI q1 q3 r_2.2.1 r_2.2.2.2.1  n _ e_7) (cwV 2 hts gX1_multiplyWaiting_X1_multiplyColumn rfl rfl rfl (by decide +kernel) ⟨Nat.le_of_ble_eq_true rfl, Nat.le_of_ble_eq_true rfl⟩) ⟨fun a U g mk q => by obtain ⟨q0, q1, qP, qK, qD⟩ := q; exact ⟨q0, q1, qP, va_K.moved (u := U) (U := U.calling g mk a) (Vm.Alike.refl U.vm) qK, qD⟩, va_recv hKc hPc (ci := 1) (q0 := 0) rfl rfl, fun U hU hW => ⟨rfl, by rw [hU], by rw [hU]; exact hPc, va_K.moved hW.alike hKc, hDc.weaken (fun _ _ _ _ => trivial)⟩⟩ rfl rfl hl.1 rfl (lv_room (Nat.le_of_ble_eq_true rfl)) dX1_multiplyWaiting_33 ⟨Nat.zero_le _, Nat.zero_le _⟩) hS (fun q _ h => hFc q h) hFc (fun _ t H1 locs ht hvm hw hB hz1 hk1 hS => ?_)
        obtain ⟨hP1, hK1, hD1⟩ := hB
        rw [ht] at hP1
        obtain ⟨hP, hD⟩ := va_join (wr := [(gN, .inl (cO, 4, .inr (.inr (.inr (.inr F))))), (q0, .inl (cI, 256, .inl r_5.1)), (q2, .inl (cI, 256, .inl r_5.2))]) (w1 := [(h0, .inr (1, [.ref gN, .ref gS, .int r_2.2.2.2.2, .long m3, .long m4, .long m5, .long m6])), (q1, .inl (cI, 256, .inl r_8.1)), (q3, .inl (cI, 256, .inl r_8.2))]) hP hD [0, 3, 5] [1, 2, 4] rfl rfl (by decide) (by decide) hk1 hFc hP1 hD1
        generalize H1 = H at hP hS ⊢
        have hP := hP.sub (ws' := [(h0, .inr (1, [.ref gN, .ref gS, .int r_2.2.2.2.2, .long m3, .long m4, .long m5, .long m6])), (gN, .inl (cO, 4, .inr (.inr (.inr (.inr F))))), (q0, .inl (cI, 256, .inl r_5.1)), (q1, .inl (cI, 256, .inl r_8.1)), (q2, .inl (cI, 256, .inl r_5.2)), (q3, .inl (cI, 256, .inl r_8.2))]) [3, 0, 1, 4, 2, 5] rfl
        have hD := hD.sub (ws' := [(h0, .inr (1, [.ref gN, .ref gS, .int r_2.2.2.2.2, .long m3, .long m4, .long m5, .long m6])), (gN, .inl (cO, 4, .inr (.inr (.inr (.inr F))))), (q0, .inl (cI, 256, .inl r_5.1)), (q1, .inl (cI, 256, .inl r_8.1)), (q2, .inl (cI, 256, .inl r_5.2)), (q3, .inl (cI, 256, .inl r_8.2))]) [3, 0, 1, 4, 2, 5] (by decide) rfl
        have hP : va_P (dC, dI) vwCl [(h0, .inr (1, [.ref gN, .ref gS, .int r_2.2.2.2.2, .long m3, .long m4, .long m5, .long m6])), (gN, .inl (cO, 4, .inr (.inr (.inr (.inr F))))), (q0, .inl (cI, 256, .inl r_5.1)), (q1, .inl (cI, 256, .inl r_8.1)), (q2, .inl (cI, 256, .inl r_5.2)), (q3, .inl (cI, 256, .inl r_8.2))] H := hP
        have hD : va_D A [(h0, .inr (1, [.ref gN, .ref gS, .int r_2.2.2.2.2, .long m3, .long m4, .long m5, .long m6])), (gN, .inl (cO, 4, .inr (.inr (.inr (.inr F))))), (q0, .inl (cI, 256, .inl r_5.1)), (q1, .inl (cI, 256, .inl r_8.1)), (q2, .inl (cI, 256, .inl r_5.2)), (q3, .inl (cI, 256, .inl r_8.2))] := hD
        refine W.widen (k := 0) (n := 0) (Nat.le_refl _) (Nat.le_refl _) ?_
        refine lv_aload_n hx hb dX1_multiplyWaiting_36 rfl (lv_at hl 0 rfl) ?_
        cases e_10 : f_X1_shorten n r_2.2.2.2.2 r_5.1 r_8.1 r_5.2 r_8.2 with
        | none => rw [e_10, Option.bind_none] at hr; cases hr
        | some r_11 =>
          rw [e_10, Option.bind_some] at hr
          have hPc := hP.sub (ws' := [(h0, .inr (1, [.ref gN, .ref gS, .int r_2.2.2.2.2, .long m3, .long m4, .long m5, .long m6])), (gN, .inl (cO, 4, .inr (.inr (.inr (.inr F))))), (q0, .inl (cI, 256, .inl r_5.1)), (q1, .inl (cI, 256, .inl r_8.1)), (q2, .inl (cI, 256, .inl r_5.2)), (q3, .inl (cI, 256, .inl r_8.2))]) [0, 1, 2, 3, 4, 5] rfl
          have hDc := hD.sub (ws' := [(h0, .inr (1, [.ref gN, .ref gS, .int r_2.2.2.2.2, .long m3, .long m4, .long m5, .long m6])), (gN, .inl (cO, 4, .inr (.inr (.inr (.inr F))))), (q0, .inl (cI, 256, .inl r_5.1)), (q1, .inl (cI, 256, .inl r_8.1)), (q2, .inl (cI, 256, .inl r_5.2)), (q3, .inl (cI, 256, .inl r_8.2))]) [0, 1, 2, 3, 4, 5] (by decide) rfl
          have hKc := hK.sub (tys' := [(cI, .int), (cO, .array .int)]) [0, 1] rfl
          have hFc := va_free (wc := [(h0, .inr (1, [.ref gN, .ref gS, .int r_2.2.2.2.2, .long m3, .long m4, .long m5, .long m6])), (gN, .inl (cO, 4, .inr (.inr (.inr (.inr F))))), (q0, .inl (cI, 256, .inl r_5.1)), (q1, .inl (cI, 256, .inl r_8.1)), (q2, .inl (cI, 256, .inl r_5.2)), (q3, .inl (cI, 256, .inl r_8.2))]) hD hS hA [0, 1, 2, 3, 4, 5] rfl
          refine va_callv (va_runV (As := []) (rest := []) ⟨hx, hb, hml, hown, hts⟩ (c_X1_shorten l dC dI H.size h0 gN gS r_2.2.2.2.2 m3 m4 m5 m6 cI cO F q0 q1 q2 q3 r_5.1 r_8.1 r_5.2 r_8.2  hF n _ e_10) (cwV 0 hts gX1_multiplyWaiting_X1_shorten rfl rfl rfl (by decide +kernel) ⟨Nat.le_of_ble_eq_true rfl, Nat.le_of_ble_eq_true rfl⟩) ⟨fun a U g mk q => by obtain ⟨q0, q1, qP, qK, qD⟩ := q; exact ⟨q0, q1, qP, va_K.moved (u := U) (U := U.calling g mk a) (Vm.Alike.refl U.vm) qK, qD⟩, va_recv hKc hPc (ci := 1) (q0 := 0) rfl rfl, fun U hU hW => ⟨rfl, by rw [hU], by rw [hU]; exact hPc, va_K.moved hW.alike hKc, hDc.weaken (fun _ _ _ _ => trivial)⟩⟩ rfl rfl hl.1 rfl (lv_room (Nat.le_of_ble_eq_true rfl)) dX1_multiplyWaiting_37 ⟨Nat.zero_le _, Nat.zero_le _⟩) hS (fun q _ h => hFc q h) hFc (fun _ t H1 locs ht hvm hw hB hz1 hk1 hS => ?_)
          obtain ⟨hP1, hK1, hD1⟩ := hB
          rw [ht] at hP1
          obtain ⟨hP, hD⟩ := va_join (wr := []) (w1 := [(h0, .inr (1, [.ref gN, .ref gS, .int r_11, .long m3, .long m4, .long m5, .long m6])), (gN, .inl (cO, 4, .inr (.inr (.inr (.inr F))))), (q0, .inl (cI, 256, .inl r_5.1)), (q1, .inl (cI, 256, .inl r_8.1)), (q2, .inl (cI, 256, .inl r_5.2)), (q3, .inl (cI, 256, .inl r_8.2))]) hP hD [0, 1, 2, 3, 4, 5] [] rfl rfl (by decide) (by decide) hk1 hFc hP1 hD1
          generalize H1 = H at hP hS ⊢
          have hP : va_P (dC, dI) vwCl [(h0, .inr (1, [.ref gN, .ref gS, .int r_11, .long m3, .long m4, .long m5, .long m6])), (gN, .inl (cO, 4, .inr (.inr (.inr (.inr F))))), (q0, .inl (cI, 256, .inl r_5.1)), (q1, .inl (cI, 256, .inl r_8.1)), (q2, .inl (cI, 256, .inl r_5.2)), (q3, .inl (cI, 256, .inl r_8.2))] H := hP
          have hD : va_D A [(h0, .inr (1, [.ref gN, .ref gS, .int r_11, .long m3, .long m4, .long m5, .long m6])), (gN, .inl (cO, 4, .inr (.inr (.inr (.inr F))))), (q0, .inl (cI, 256, .inl r_5.1)), (q1, .inl (cI, 256, .inl r_8.1)), (q2, .inl (cI, 256, .inl r_5.2)), (q3, .inl (cI, 256, .inl r_8.2))] := hD
          refine W.widen (k := 0) (n := 0) (Nat.le_refl _) (Nat.le_refl _) ?_
          refine lv_aload_n hx hb dX1_multiplyWaiting_40 rfl (lv_at hl 0 rfl) ?_
          cases e_13 : f_X1_forgetWaiting n with
          | none => rw [e_13, Option.bind_none] at hr; cases hr
          | some r_14 =>
            rw [e_13, Option.bind_some] at hr
            have hPc := hP.sub (ws' := [(h0, .inr (1, [.ref gN, .ref gS, .int r_11, .long m3, .long m4, .long m5, .long m6]))]) [0] rfl
            have hDc := hD.sub (ws' := [(h0, .inr (1, [.ref gN, .ref gS, .int r_11, .long m3, .long m4, .long m5, .long m6]))]) [0] (by decide) rfl
            have hKc := hK.sub (tys' := []) [] rfl
            have hFc := va_free (wc := [(h0, .inr (1, [.ref gN, .ref gS, .int r_11, .long m3, .long m4, .long m5, .long m6]))]) hD hS hA [0] rfl
            refine va_callv (va_runV (As := []) (rest := []) ⟨hx, hb, hml, hown, hts⟩ (c_X1_forgetWaiting l dC dI H.size h0 gN gS r_11 m3 m4 m5 m6  n _ e_13) (cwV 0 hts gX1_multiplyWaiting_X1_forgetWaiting rfl rfl rfl (by decide +kernel) ⟨Nat.le_of_ble_eq_true rfl, Nat.le_of_ble_eq_true rfl⟩) ⟨fun a U g mk q => by obtain ⟨q0, q1, qP, qK, qD⟩ := q; exact ⟨q0, q1, qP, va_K.moved (u := U) (U := U.calling g mk a) (Vm.Alike.refl U.vm) qK, qD⟩, va_recv hKc hPc (ci := 1) (q0 := 0) rfl rfl, fun U hU hW => ⟨rfl, by rw [hU], by rw [hU]; exact hPc, va_K.moved hW.alike hKc, hDc.weaken (fun _ _ _ _ => trivial)⟩⟩ rfl rfl hl.1 rfl (lv_room (Nat.le_of_ble_eq_true rfl)) dX1_multiplyWaiting_41 ⟨Nat.zero_le _, Nat.zero_le _⟩) hS (fun q _ h => hFc q h) hFc (fun _ t H1 locs ht hvm hw hB hz1 hk1 hS => ?_)
            obtain ⟨hP1, hK1, hD1⟩ := hB
            rw [ht] at hP1
            obtain ⟨hP, hD⟩ := va_join (wr := [(gN, .inl (cO, 4, .inr (.inr (.inr (.inr F))))), (q0, .inl (cI, 256, .inl r_5.1)), (q1, .inl (cI, 256, .inl r_8.1)), (q2, .inl (cI, 256, .inl r_5.2)), (q3, .inl (cI, 256, .inl r_8.2))]) (w1 := [(h0, .inr (1, [.ref gN, .ref gS, .int r_11, .long r_14.1, .long r_14.2.1, .long r_14.2.2.1, .long r_14.2.2.2]))]) hP hD [0] [1, 2, 3, 4, 5] rfl rfl (by decide) (by decide) hk1 hFc hP1 hD1
            generalize H1 = H at hP hS ⊢
            have hP := hP.sub (ws' := [(h0, .inr (1, [.ref gN, .ref gS, .int r_11, .long r_14.1, .long r_14.2.1, .long r_14.2.2.1, .long r_14.2.2.2])), (gN, .inl (cO, 4, .inr (.inr (.inr (.inr F))))), (q0, .inl (cI, 256, .inl r_5.1)), (q1, .inl (cI, 256, .inl r_8.1)), (q2, .inl (cI, 256, .inl r_5.2)), (q3, .inl (cI, 256, .inl r_8.2))]) [5, 0, 1, 2, 3, 4] rfl
            have hD := hD.sub (ws' := [(h0, .inr (1, [.ref gN, .ref gS, .int r_11, .long r_14.1, .long r_14.2.1, .long r_14.2.2.1, .long r_14.2.2.2])), (gN, .inl (cO, 4, .inr (.inr (.inr (.inr F))))), (q0, .inl (cI, 256, .inl r_5.1)), (q1, .inl (cI, 256, .inl r_8.1)), (q2, .inl (cI, 256, .inl r_5.2)), (q3, .inl (cI, 256, .inl r_8.2))]) [5, 0, 1, 2, 3, 4] (by decide) rfl
            have hP : va_P (dC, dI) vwCl [(h0, .inr (1, [.ref gN, .ref gS, .int r_11, .long r_14.1, .long r_14.2.1, .long r_14.2.2.1, .long r_14.2.2.2])), (gN, .inl (cO, 4, .inr (.inr (.inr (.inr F))))), (q0, .inl (cI, 256, .inl r_5.1)), (q1, .inl (cI, 256, .inl r_8.1)), (q2, .inl (cI, 256, .inl r_5.2)), (q3, .inl (cI, 256, .inl r_8.2))] H := hP
            have hD : va_D A [(h0, .inr (1, [.ref gN, .ref gS, .int r_11, .long r_14.1, .long r_14.2.1, .long r_14.2.2.1, .long r_14.2.2.2])), (gN, .inl (cO, 4, .inr (.inr (.inr (.inr F))))), (q0, .inl (cI, 256, .inl r_5.1)), (q1, .inl (cI, 256, .inl r_8.1)), (q2, .inl (cI, 256, .inl r_5.2)), (q3, .inl (cI, 256, .inl r_8.2))] := hD
            refine W.widen (k := 0) (n := 0) (Nat.le_refl _) (Nat.le_refl _) ?_
            have ho := Option.some.inj hr
            subst ho
            exact W.vret hx hb hrt (fun t ht hW => ⟨⟨(), rfl, trivial, by rw [ht]; exact hP, va_K.moved hW.alike hK, hD⟩, hS.F ht⟩) hS.2.2 dX1_multiplyWaiting_44

theorem in_X1_undoStep_X1 : ∀ w ∈ u_ws RX1 TX1 7, w ∈ wsX1_undoStep := by decide +kernel
def f_X1_undoStep_38 (n : Nat) (a1 : Int64) (w2 : Nat → Int32) (w3 : Nat → Int32) (w4 : Nat → Int32) (w5 : Nat → Int32) (w0_2 : Int32) (w0_3 : Int64) (w0_4 : Int64) (w0_5 : Int64) (w0_6 : Int64) : Option ((Nat → Int32) × (Nat → Int32) × (Nat → Int32) × (Nat → Int32) × Int32 × Int64 × Int64 × Int64 × Int64) := some (w2, w3, w4, w5, w0_2, (a1 * w0_3) + w0_5, (a1 * w0_4) + w0_6, -w0_3, -w0_4)
set_option maxHeartbeats 4000000 in
set_option maxRecDepth 100000 in
theorem k_X1_undoStep_38 {p : Program} {l : Launch} {e : Env} {s : State} {m : MethodId} {args : Array Value} {below : List Frame} {meth : Method} {c : Code} {dC : Nat → ClassId} {dI : Nat → Nat → Nat} {A : Nat → Prop} {h0 : Nat} {gN : Nat} {gS : Nat} {cI : ClassId} {cO : ClassId} {F : Nat → Option Nat} {q0 : Nat} {q1 : Nat} {q2 : Nat} {q3 : Nat} {a1 : Int64} (hx : p.tables.exec = Jvm.exec) (hb : c.code = cX1_undoStep) (hrt : meth.sig.returnType = none) (hml : c.maxLocals = 7) (hown : s.vm.findClass RX1 = some m.cls) (hlocks : meth.locks = false) (hts : ∀ w ∈ wsX1_undoStep, w.before args s = true) (hA : ∀ q : Nat, s.heap.size ≤ q → A q) (hK : va_K (dC, dI) vwCl [(cI, .int), (cO, .array .int)] s) (hF : F 0 = some q0 ∧ F 1 = some q1 ∧ F 2 = some q2 ∧ F 3 = some q3) (n : Nat) (out : (Nat → Int32) × (Nat → Int32) × (Nat → Int32) × (Nat → Int32) × Int32 × Int64 × Int64 × Int64 × Int64) :
    ∀ (w2 : Nat → Int32) (w3 : Nat → Int32) (w4 : Nat → Int32) (w5 : Nat → Int32) (w0_2 : Int32) (w0_3 : Int64) (w0_4 : Int64) (w0_5 : Int64) (w0_6 : Int64), f_X1_undoStep_38 n a1 w2 w3 w4 w5 w0_2 w0_3 w0_4 w0_5 w0_6 = some out → ∀ (H : Heap) (locs : List Loc) (ls : Array Slot), va_P (dC, dI) vwCl [(h0, .inr (1, [.ref gN, .ref gS, .int w0_2, .long w0_3, .long w0_4, .long w0_5, .long w0_6])), (gN, .inl (cO, 4, .inr (.inr (.inr (.inr F))))), (q0, .inl (cI, 256, .inl w2)), (q1, .inl (cI, 256, .inl w3)), (q2, .inl (cI, 256, .inl w4)), (q3, .inl (cI, 256, .inl w5))] H → va_D A [(h0, .inr (1, [.ref gN, .ref gS, .int w0_2, .long w0_3, .long w0_4, .long w0_5, .long w0_6])), (gN, .inl (cO, 4, .inr (.inr (.inr (.inr F))))), (q0, .inl (cI, 256, .inl w2)), (q1, .inl (cI, 256, .inl w3)), (q2, .inl (cI, 256, .inl w4)), (q3, .inl (cI, 256, .inl w5))] → va_S A s.heap H locs → lv_has ls 7 [(0, .ref h0), (1, .long a1)] → W p l e ({ frames := 2, cells := 0, slots := 0, locals := 51 }) s m args below meth c H locs 0 0 (MQ below (va_Qv (fun (_ : Unit) => True) (fun (_ : Unit) t => zB dC dI [(cI, .int), (cO, .array .int)] A [(h0, .inr (1, [.ref gN, .ref gS, .int out.2.2.2.2.1, .long out.2.2.2.2.2.1, .long out.2.2.2.2.2.2.1, .long out.2.2.2.2.2.2.2.1, .long out.2.2.2.2.2.2.2.2])), (gN, .inl (cO, 4, .inr (.inr (.inr (.inr F))))), (q0, .inl (cI, 256, .inl out.1)), (q1, .inl (cI, 256, .inl out.2.1)), (q2, .inl (cI, 256, .inl out.2.2.1)), (q3, .inl (cI, 256, .inl out.2.2.2.1))] t) A) args s 0 0 A) (F0 m 38 ls []) := by
  intro w2 w3 w4 w5 w0_2 w0_3 w0_4 w0_5 w0_6 hr H locs ls hP hD hS hl
  unfold f_X1_undoStep_38 at hr
  refine lv_lload_n hx hb dX1_undoStep_38 rfl (lv_at hl 1 rfl) ?_
  refine lv_aload_n hx hb dX1_undoStep_39 rfl (lv_at hl 0 rfl) ?_
  refine va_get (D := (dC, dI)) (ci := 1) (v := .long w0_3) (C := RX1) (T := TX1) (N := 7) hx hb hts in_X1_undoStep_X1 hown hK hP 0 rfl rfl 3 (by decide) (hts (.fieldLink RX1 30 "FormRing$Matrix" "waiting0" "J") (by decide +kernel)) (fun _ h9 => h9) rfl dX1_undoStep_40 ?_
  refine lv_lmul hx hb dX1_undoStep_43 ?_
  refine lv_aload_n hx hb dX1_undoStep_44 rfl (lv_at hl 0 rfl) ?_
  refine va_get (D := (dC, dI)) (ci := 1) (v := .long w0_5) (C := RX1) (T := TX1) (N := 7) hx hb hts in_X1_undoStep_X1 hown hK hP 0 rfl rfl 5 (by decide) (hts (.fieldLink RX1 34 "FormRing$Matrix" "waiting2" "J") (by decide +kernel)) (fun _ h9 => h9) rfl dX1_undoStep_45 ?_
  refine lv_ladd hx hb dX1_undoStep_48 ?_
  refine lv_lstore_n (lv' := [(3, .long ((a1 * w0_3) + w0_5)), (0, .ref h0), (1, .long a1)]) hx hb dX1_undoStep_49 rfl hl (by decide) rfl (fun ls hl => ?_)
  refine lv_lload_n hx hb dX1_undoStep_50 rfl (lv_at hl 2 rfl) ?_
  refine lv_aload_n hx hb dX1_undoStep_51 rfl (lv_at hl 1 rfl) ?_
  refine va_get (D := (dC, dI)) (ci := 1) (v := .long w0_4) (C := RX1) (T := TX1) (N := 7) hx hb hts in_X1_undoStep_X1 hown hK hP 0 rfl rfl 4 (by decide) (hts (.fieldLink RX1 41 "FormRing$Matrix" "waiting1" "J") (by decide +kernel)) (fun _ h9 => h9) rfl dX1_undoStep_52 ?_
  refine lv_lmul hx hb dX1_undoStep_55 ?_
  refine lv_aload_n hx hb dX1_undoStep_56 rfl (lv_at hl 1 rfl) ?_
  refine va_get (D := (dC, dI)) (ci := 1) (v := .long w0_6) (C := RX1) (T := TX1) (N := 7) hx hb hts in_X1_undoStep_X1 hown hK hP 0 rfl rfl 6 (by decide) (hts (.fieldLink RX1 44 "FormRing$Matrix" "waiting3" "J") (by decide +kernel)) (fun _ h9 => h9) rfl dX1_undoStep_57 ?_
  refine lv_ladd hx hb dX1_undoStep_60 ?_
  refine lv_lstore (lv' := [(5, .long ((a1 * w0_4) + w0_6)), (3, .long ((a1 * w0_3) + w0_5)), (0, .ref h0), (1, .long a1)]) hx hb dX1_undoStep_61 hl (by decide) rfl (fun ls hl => ?_)
  refine lv_aload_n hx hb dX1_undoStep_63 rfl (lv_at hl 2 rfl) ?_
  refine lv_aload_n hx hb dX1_undoStep_64 rfl (lv_at hl 2 rfl) ?_
  refine va_get (D := (dC, dI)) (ci := 1) (v := .long w0_3) (C := RX1) (T := TX1) (N := 7) hx hb hts in_X1_undoStep_X1 hown hK hP 0 rfl rfl 3 (by decide) (hts (.fieldLink RX1 30 "FormRing$Matrix" "waiting0" "J") (by decide +kernel)) (fun _ h9 => h9) rfl dX1_undoStep_65 ?_
  refine lv_lneg hx hb dX1_undoStep_68 ?_
  refine va_put (D := (dC, dI)) (ci := 1) (v := .long (-w0_3)) (ty := .long) (C := RX1) (T := TX1) (N := 7) hx hb hts in_X1_undoStep_X1 tyX1 tyX1_ok nmX1 hown hK hP hD hS 0 rfl rfl 5 (by decide) (hts (.fieldLink RX1 34 "FormRing$Matrix" "waiting2" "J") (by decide +kernel)) (fun _ h9 => h9) rfl (by decide +kernel) rfl rfl (Nat.le_of_ble_eq_true rfl) dX1_undoStep_69 (fun H locs hP hD hS => ?_)
  have hP : va_P (dC, dI) vwCl [(h0, .inr (1, [.ref gN, .ref gS, .int w0_2, .long w0_3, .long w0_4, .long (-w0_3), .long w0_6])), (gN, .inl (cO, 4, .inr (.inr (.inr (.inr F))))), (q0, .inl (cI, 256, .inl w2)), (q1, .inl (cI, 256, .inl w3)), (q2, .inl (cI, 256, .inl w4)), (q3, .inl (cI, 256, .inl w5))] H := hP
  have hD : va_D A [(h0, .inr (1, [.ref gN, .ref gS, .int w0_2, .long w0_3, .long w0_4, .long (-w0_3), .long w0_6])), (gN, .inl (cO, 4, .inr (.inr (.inr (.inr F))))), (q0, .inl (cI, 256, .inl w2)), (q1, .inl (cI, 256, .inl w3)), (q2, .inl (cI, 256, .inl w4)), (q3, .inl (cI, 256, .inl w5))] := hD
  refine lv_aload_n hx hb dX1_undoStep_72 rfl (lv_at hl 2 rfl) ?_
  refine lv_aload_n hx hb dX1_undoStep_73 rfl (lv_at hl 2 rfl) ?_
  refine va_get (D := (dC, dI)) (ci := 1) (v := .long w0_4) (C := RX1) (T := TX1) (N := 7) hx hb hts in_X1_undoStep_X1 hown hK hP 0 rfl rfl 4 (by decide) (hts (.fieldLink RX1 41 "FormRing$Matrix" "waiting1" "J") (by decide +kernel)) (fun _ h9 => h9) rfl dX1_undoStep_74 ?_
  refine lv_lneg hx hb dX1_undoStep_77 ?_
  refine va_put (D := (dC, dI)) (ci := 1) (v := .long (-w0_4)) (ty := .long) (C := RX1) (T := TX1) (N := 7) hx hb hts in_X1_undoStep_X1 tyX1 tyX1_ok nmX1 hown hK hP hD hS 0 rfl rfl 6 (by decide) (hts (.fieldLink RX1 44 "FormRing$Matrix" "waiting3" "J") (by decide +kernel)) (fun _ h9 => h9) rfl (by decide +kernel) rfl rfl (Nat.le_of_ble_eq_true rfl) dX1_undoStep_78 (fun H locs hP hD hS => ?_)
  have hP : va_P (dC, dI) vwCl [(h0, .inr (1, [.ref gN, .ref gS, .int w0_2, .long w0_3, .long w0_4, .long (-w0_3), .long (-w0_4)])), (gN, .inl (cO, 4, .inr (.inr (.inr (.inr F))))), (q0, .inl (cI, 256, .inl w2)), (q1, .inl (cI, 256, .inl w3)), (q2, .inl (cI, 256, .inl w4)), (q3, .inl (cI, 256, .inl w5))] H := hP
  have hD : va_D A [(h0, .inr (1, [.ref gN, .ref gS, .int w0_2, .long w0_3, .long w0_4, .long (-w0_3), .long (-w0_4)])), (gN, .inl (cO, 4, .inr (.inr (.inr (.inr F))))), (q0, .inl (cI, 256, .inl w2)), (q1, .inl (cI, 256, .inl w3)), (q2, .inl (cI, 256, .inl w4)), (q3, .inl (cI, 256, .inl w5))] := hD
  refine lv_aload_n hx hb dX1_undoStep_81 rfl (lv_at hl 2 rfl) ?_
  refine lv_lload_n hx hb dX1_undoStep_82 rfl (lv_at hl 1 rfl) ?_
  refine va_put (D := (dC, dI)) (ci := 1) (v := .long ((a1 * w0_3) + w0_5)) (ty := .long) (C := RX1) (T := TX1) (N := 7) hx hb hts in_X1_undoStep_X1 tyX1 tyX1_ok nmX1 hown hK hP hD hS 0 rfl rfl 3 (by decide) (hts (.fieldLink RX1 30 "FormRing$Matrix" "waiting0" "J") (by decide +kernel)) (fun _ h9 => h9) rfl (by decide +kernel) rfl rfl (Nat.le_of_ble_eq_true rfl) dX1_undoStep_83 (fun H locs hP hD hS => ?_)
  have hP : va_P (dC, dI) vwCl [(h0, .inr (1, [.ref gN, .ref gS, .int w0_2, .long ((a1 * w0_3) + w0_5), .long w0_4, .long (-w0_3), .long (-w0_4)])), (gN, .inl (cO, 4, .inr (.inr (.inr (.inr F))))), (q0, .inl (cI, 256, .inl w2)), (q1, .inl (cI, 256, .inl w3)), (q2, .inl (cI, 256, .inl w4)), (q3, .inl (cI, 256, .inl w5))] H := hP
  have hD : va_D A [(h0, .inr (1, [.ref gN, .ref gS, .int w0_2, .long ((a1 * w0_3) + w0_5), .long w0_4, .long (-w0_3), .long (-w0_4)])), (gN, .inl (cO, 4, .inr (.inr (.inr (.inr F))))), (q0, .inl (cI, 256, .inl w2)), (q1, .inl (cI, 256, .inl w3)), (q2, .inl (cI, 256, .inl w4)), (q3, .inl (cI, 256, .inl w5))] := hD
  refine lv_aload_n hx hb dX1_undoStep_86 rfl (lv_at hl 2 rfl) ?_
  refine lv_lload hx hb dX1_undoStep_87 (lv_at hl 0 rfl) ?_
  refine va_put (D := (dC, dI)) (ci := 1) (v := .long ((a1 * w0_4) + w0_6)) (ty := .long) (C := RX1) (T := TX1) (N := 7) hx hb hts in_X1_undoStep_X1 tyX1 tyX1_ok nmX1 hown hK hP hD hS 0 rfl rfl 4 (by decide) (hts (.fieldLink RX1 41 "FormRing$Matrix" "waiting1" "J") (by decide +kernel)) (fun _ h9 => h9) rfl (by decide +kernel) rfl rfl (Nat.le_of_ble_eq_true rfl) dX1_undoStep_89 (fun H locs hP hD hS => ?_)
  have hP : va_P (dC, dI) vwCl [(h0, .inr (1, [.ref gN, .ref gS, .int w0_2, .long ((a1 * w0_3) + w0_5), .long ((a1 * w0_4) + w0_6), .long (-w0_3), .long (-w0_4)])), (gN, .inl (cO, 4, .inr (.inr (.inr (.inr F))))), (q0, .inl (cI, 256, .inl w2)), (q1, .inl (cI, 256, .inl w3)), (q2, .inl (cI, 256, .inl w4)), (q3, .inl (cI, 256, .inl w5))] H := hP
  have hD : va_D A [(h0, .inr (1, [.ref gN, .ref gS, .int w0_2, .long ((a1 * w0_3) + w0_5), .long ((a1 * w0_4) + w0_6), .long (-w0_3), .long (-w0_4)])), (gN, .inl (cO, 4, .inr (.inr (.inr (.inr F))))), (q0, .inl (cI, 256, .inl w2)), (q1, .inl (cI, 256, .inl w3)), (q2, .inl (cI, 256, .inl w4)), (q3, .inl (cI, 256, .inl w5))] := hD
  have ho := Option.some.inj hr
  subst ho
  exact W.vret hx hb hrt (fun t ht hW => ⟨⟨(), rfl, trivial, by rw [ht]; exact hP, va_K.moved hW.alike hK, hD⟩, hS.F ht⟩) hS.2.2 dX1_undoStep_92
def f_X1_undoStep (n : Nat) (m2 : Int32) (m3 : Int64) (m4 : Int64) (m5 : Int64) (m6 : Int64) (z0 : Nat → Int32) (z1 : Nat → Int32) (z2 : Nat → Int32) (z3 : Nat → Int32) (a1 : Int64) : Option ((Nat → Int32) × (Nat → Int32) × (Nat → Int32) × (Nat → Int32) × Int32 × Int64 × Int64 × Int64 × Int64) := (f_X1_isTooGreat n ((a1 * m3) + m5)).bind (fun r_2 => if r_2 = 0 then ((f_X1_isTooGreat n ((a1 * m4) + m6)).bind (fun r_10 => if r_10 = 0 then (f_X1_undoStep_38 n a1 z0 z1 z2 z3 m2 m3 m4 m5 m6) else ((f_X1_multiplyWaiting n m2 m3 m4 m5 m6 z0 z1 z2 z3).bind (fun r_15 => f_X1_undoStep_38 n a1 r_15.1 r_15.2.1 r_15.2.2.1 r_15.2.2.2.1 r_15.2.2.2.2.1 r_15.2.2.2.2.2.1 r_15.2.2.2.2.2.2.1 r_15.2.2.2.2.2.2.2.1 r_15.2.2.2.2.2.2.2.2)))) else ((f_X1_multiplyWaiting n m2 m3 m4 m5 m6 z0 z1 z2 z3).bind (fun r_7 => f_X1_undoStep_38 n a1 r_7.1 r_7.2.1 r_7.2.2.1 r_7.2.2.2.1 r_7.2.2.2.2.1 r_7.2.2.2.2.2.1 r_7.2.2.2.2.2.2.1 r_7.2.2.2.2.2.2.2.1 r_7.2.2.2.2.2.2.2.2)))
set_option maxHeartbeats 4000000 in
set_option maxRecDepth 100000 in
theorem c_X1_undoStep (l : Launch) (dC : Nat → ClassId) (dI : Nat → Nat → Nat) (sz : Nat) (h0 : Nat) (gN : Nat) (gS : Nat) (m2 : Int32) (m3 : Int64) (m4 : Int64) (m5 : Int64) (m6 : Int64) (cI : ClassId) (cO : ClassId) (F : Nat → Option Nat) (q0 : Nat) (q1 : Nat) (q2 : Nat) (q3 : Nat) (z0 : Nat → Int32) (z1 : Nat → Int32) (z2 : Nat → Int32) (z3 : Nat → Int32) (a1 : Int64) (hF : F 0 = some q0 ∧ F 1 = some q1 ∧ F 2 = some q2 ∧ F 3 = some q3) (n : Nat) (out : (Nat → Int32) × (Nat → Int32) × (Nat → Int32) × (Nat → Int32) × Int32 × Int64 × Int64 × Int64 × Int64) (hr : f_X1_undoStep n m2 m3 m4 m5 m6 z0 z1 z2 z3 a1 = some out) : Met l yX1_undoStep wsX1_undoStep ({ frames := 2, cells := 0, slots := 0, locals := 51 }) (va_Pc [.ref h0, .long a1] (zP dC dI [(cI, .int), (cO, .array .int)] [(h0, .inr (1, [.ref gN, .ref gS, .int m2, .long m3, .long m4, .long m5, .long m6])), (gN, .inl (cO, 4, .inr (.inr (.inr (.inr F))))), (q0, .inl (cI, 256, .inl z0)), (q1, .inl (cI, 256, .inl z1)), (q2, .inl (cI, 256, .inl z2)), (q3, .inl (cI, 256, .inl z3))] sz)) (va_Qv (fun (_ : Unit) => True) (fun (_ : Unit) t => zB dC dI [(cI, .int), (cO, .array .int)] (va_A [(h0, .inr (1, [.ref gN, .ref gS, .int m2, .long m3, .long m4, .long m5, .long m6])), (gN, .inl (cO, 4, .inr (.inr (.inr (.inr F))))), (q0, .inl (cI, 256, .inl z0)), (q1, .inl (cI, 256, .inl z1)), (q2, .inl (cI, 256, .inl z2)), (q3, .inl (cI, 256, .inl z3))] sz) [(h0, .inr (1, [.ref gN, .ref gS, .int out.2.2.2.2.1, .long out.2.2.2.2.2.1, .long out.2.2.2.2.2.2.1, .long out.2.2.2.2.2.2.2.1, .long out.2.2.2.2.2.2.2.2])), (gN, .inl (cO, 4, .inr (.inr (.inr (.inr F))))), (q0, .inl (cI, 256, .inl out.1)), (q1, .inl (cI, 256, .inl out.2.1)), (q2, .inl (cI, 256, .inl out.2.2.1)), (q3, .inl (cI, 256, .inl out.2.2.2.1))] t) (va_A [(h0, .inr (1, [.ref gN, .ref gS, .int m2, .long m3, .long m4, .long m5, .long m6])), (gN, .inl (cO, 4, .inr (.inr (.inr (.inr F))))), (q0, .inl (cI, 256, .inl z0)), (q1, .inl (cI, 256, .inl z1)), (q2, .inl (cI, 256, .inl z2)), (q3, .inl (cI, 256, .inl z3))] sz)) 0 0 (va_A [(h0, .inr (1, [.ref gN, .ref gS, .int m2, .long m3, .long m4, .long m5, .long m6])), (gN, .inl (cO, 4, .inr (.inr (.inr (.inr F))))), (q0, .inl (cI, 256, .inl z0)), (q1, .inl (cI, 256, .inl z1)), (q2, .inl (cI, 256, .inl z2)), (q3, .inl (cI, 256, .inl z3))] sz) := by
  refine Met.ofW (cc := cX1_undoStep) (maxL := 7) (ret := none) (by decide +kernel) rfl ?_
  intro p e s m args below meth c s₁ B hml hv
  obtain ⟨rfl, hsz, hP, hK, hD0⟩ := hv
  have hx := B.exec
  have hb := B.bytes
  have hrt := B.returns
  have hts := atoms_spec (ws := wsX1_undoStep) B.pre
  have hown : s.vm.findClass RX1 = some m.cls := findClass_of_methodNamed B.named
  have hlocks := B.notSynchronized
  subst hsz
  have hD := hD0.self (sz := s.heap.size)
  generalize hAe : va_A [(h0, .inr (1, [.ref gN, .ref gS, .int m2, .long m3, .long m4, .long m5, .long m6])), (gN, .inl (cO, 4, .inr (.inr (.inr (.inr F))))), (q0, .inl (cI, 256, .inl z0)), (q1, .inl (cI, 256, .inl z1)), (q2, .inl (cI, 256, .inl z2)), (q3, .inl (cI, 256, .inl z3))] s.heap.size = A at hD ⊢
  have hA : ∀ q : Nat, s.heap.size ≤ q → A q := fun q h => by rw [← hAe]; exact Or.inr h
  have hS : va_S A s.heap s.heap [] := va_S.rf
  have hP : va_P (dC, dI) vwCl [(h0, .inr (1, [.ref gN, .ref gS, .int m2, .long m3, .long m4, .long m5, .long m6])), (gN, .inl (cO, 4, .inr (.inr (.inr (.inr F))))), (q0, .inl (cI, 256, .inl z0)), (q1, .inl (cI, 256, .inl z1)), (q2, .inl (cI, 256, .inl z2)), (q3, .inl (cI, 256, .inl z3))] s.heap := hP
  have hl := lv_entry ([.ref h0, .long a1]) (n := 7) (Nat.le_of_ble_eq_true rfl)
  rw [lg_entry_eq]
  generalize (lg_sl ([.ref h0, .long a1]) ++ List.replicate (7 - (lg_sl ([.ref h0, .long a1])).length) Slot.unset).toArray = ls at hl ⊢
  have hl : lv_has ls 7 [(0, .ref h0), (1, .long a1)] := hl
  unfold f_X1_undoStep at hr
  refine lv_lload_n hx hb dX1_undoStep_0 rfl (lv_at hl 1 rfl) ?_
  refine lv_aload_n hx hb dX1_undoStep_1 rfl (lv_at hl 0 rfl) ?_
  refine va_get (D := (dC, dI)) (ci := 1) (v := .long m3) (C := RX1) (T := TX1) (N := 7) hx hb hts in_X1_undoStep_X1 hown hK hP 0 rfl rfl 3 (by decide) (hts (.fieldLink RX1 30 "FormRing$Matrix" "waiting0" "J") (by decide +kernel)) (fun _ h9 => h9) rfl dX1_undoStep_2 ?_
  refine lv_lmul hx hb dX1_undoStep_5 ?_
  refine lv_aload_n hx hb dX1_undoStep_6 rfl (lv_at hl 0 rfl) ?_
  refine va_get (D := (dC, dI)) (ci := 1) (v := .long m5) (C := RX1) (T := TX1) (N := 7) hx hb hts in_X1_undoStep_X1 hown hK hP 0 rfl rfl 5 (by decide) (hts (.fieldLink RX1 34 "FormRing$Matrix" "waiting2" "J") (by decide +kernel)) (fun _ h9 => h9) rfl dX1_undoStep_7 ?_
  refine lv_ladd hx hb dX1_undoStep_10 ?_
  cases e_1 : f_X1_isTooGreat n ((a1 * m3) + m5) with
  | none => rw [e_1, Option.bind_none] at hr; cases hr
  | some r_2 =>
    rw [e_1, Option.bind_some] at hr
    have hPc := hP.sub (ws' := []) [] rfl
    have hDc := hD.sub (ws' := []) [] (by decide) rfl
    have hKc := hK.sub (tys' := []) [] rfl
    have hFc := va_free (wc := []) hD hS hA [] rfl
    refine va_calli (va_runS (As := [.long ((a1 * m3) + m5)]) (rest := []) ⟨hx, hb, hml, hown, hts⟩ (c_X1_isTooGreat l dC dI s.heap.size  ((a1 * m3) + m5) n _ e_1) (va_cwS 1 hts gX1_undoStep_X1_isTooGreat rfl rfl rfl (by decide +kernel) ⟨Nat.le_of_ble_eq_true rfl, Nat.le_of_ble_eq_true rfl⟩) ⟨fun a U g mk q => by obtain ⟨q0, q1, qP, qK, qD⟩ := q; exact ⟨q0, q1, qP, va_K.moved (u := U) (U := U.calling g mk a) (Vm.Alike.refl U.vm) qK, qD⟩, fun U hU hW => ⟨rfl, by rw [hU], by rw [hU]; exact hPc, va_K.moved hW.alike hKc, hDc.weaken (fun _ _ _ _ => trivial)⟩⟩ rfl rfl hl.1 rfl (lv_room (Nat.le_of_ble_eq_true rfl)) dX1_undoStep_11 ⟨Nat.zero_le _, Nat.zero_le _⟩) hS (fun q _ h => hFc q h) hFc (fun x_3 _ t H1 locs ht hvm hw hB hz1 hk1 hS => ?_)
    obtain ⟨hw, z_4⟩ := hw
    have hw := hw.symm
    subst hw
    obtain ⟨hP1, hK1, hD1⟩ := hB
    rw [ht] at hP1
    obtain ⟨hP, hD⟩ := va_join (wr := [(h0, .inr (1, [.ref gN, .ref gS, .int m2, .long m3, .long m4, .long m5, .long m6])), (gN, .inl (cO, 4, .inr (.inr (.inr (.inr F))))), (q0, .inl (cI, 256, .inl z0)), (q1, .inl (cI, 256, .inl z1)), (q2, .inl (cI, 256, .inl z2)), (q3, .inl (cI, 256, .inl z3))]) (w1 := []) hP hD [] [0, 1, 2, 3, 4, 5] rfl rfl (by decide) (by decide) hk1 hFc hP1 hD1
    generalize H1 = H at hP hS ⊢
    have hP : va_P (dC, dI) vwCl [(h0, .inr (1, [.ref gN, .ref gS, .int m2, .long m3, .long m4, .long m5, .long m6])), (gN, .inl (cO, 4, .inr (.inr (.inr (.inr F))))), (q0, .inl (cI, 256, .inl z0)), (q1, .inl (cI, 256, .inl z1)), (q2, .inl (cI, 256, .inl z2)), (q3, .inl (cI, 256, .inl z3))] H := hP
    have hD : va_D A [(h0, .inr (1, [.ref gN, .ref gS, .int m2, .long m3, .long m4, .long m5, .long m6])), (gN, .inl (cO, 4, .inr (.inr (.inr (.inr F))))), (q0, .inl (cI, 256, .inl z0)), (q1, .inl (cI, 256, .inl z1)), (q2, .inl (cI, 256, .inl z2)), (q3, .inl (cI, 256, .inl z3))] := hD
    refine W.widen (k := 0) (n := 0) (Nat.le_refl _) (Nat.le_refl _) ?_
    refine lz_zne (tgt := 34) hx hb dX1_undoStep_14 (by decide) (fun c_5 => ?_) (fun c_5 => ?_)
    · have hr := (if_neg c_5).symm.trans hr
      refine lv_aload_n hx hb dX1_undoStep_34 rfl (lv_at hl 0 rfl) ?_
      cases e_6 : f_X1_multiplyWaiting n m2 m3 m4 m5 m6 z0 z1 z2 z3 with
      | none => rw [e_6, Option.bind_none] at hr; cases hr
      | some r_7 =>
        rw [e_6, Option.bind_some] at hr
        have hPc := hP.sub (ws' := [(h0, .inr (1, [.ref gN, .ref gS, .int m2, .long m3, .long m4, .long m5, .long m6])), (gN, .inl (cO, 4, .inr (.inr (.inr (.inr F))))), (q0, .inl (cI, 256, .inl z0)), (q1, .inl (cI, 256, .inl z1)), (q2, .inl (cI, 256, .inl z2)), (q3, .inl (cI, 256, .inl z3))]) [0, 1, 2, 3, 4, 5] rfl
        have hDc := hD.sub (ws' := [(h0, .inr (1, [.ref gN, .ref gS, .int m2, .long m3, .long m4, .long m5, .long m6])), (gN, .inl (cO, 4, .inr (.inr (.inr (.inr F))))), (q0, .inl (cI, 256, .inl z0)), (q1, .inl (cI, 256, .inl z1)), (q2, .inl (cI, 256, .inl z2)), (q3, .inl (cI, 256, .inl z3))]) [0, 1, 2, 3, 4, 5] (by decide) rfl
        have hKc := hK.sub (tys' := [(cI, .int), (cO, .array .int)]) [0, 1] rfl
        have hFc := va_free (wc := [(h0, .inr (1, [.ref gN, .ref gS, .int m2, .long m3, .long m4, .long m5, .long m6])), (gN, .inl (cO, 4, .inr (.inr (.inr (.inr F))))), (q0, .inl (cI, 256, .inl z0)), (q1, .inl (cI, 256, .inl z1)), (q2, .inl (cI, 256, .inl z2)), (q3, .inl (cI, 256, .inl z3))]) hD hS hA [0, 1, 2, 3, 4, 5] rfl
        refine va_callv (va_runV (As := []) (rest := []) ⟨hx, hb, hml, hown, hts⟩ (c_X1_multiplyWaiting l dC dI H.size h0 gN gS m2 m3 m4 m5 m6 cI cO F q0 q1 q2 q3 z0 z1 z2 z3  hF n _ e_6) (cwV 0 hts gX1_undoStep_X1_multiplyWaiting rfl rfl rfl (by decide +kernel) ⟨Nat.le_of_ble_eq_true rfl, Nat.le_of_ble_eq_true rfl⟩) ⟨fun a U g mk q => by obtain ⟨q0, q1, qP, qK, qD⟩ := q; exact ⟨q0, q1, qP, va_K.moved (u := U) (U := U.calling g mk a) (Vm.Alike.refl U.vm) qK, qD⟩, va_recv hKc hPc (ci := 1) (q0 := 0) rfl rfl, fun U hU hW => ⟨rfl, by rw [hU], by rw [hU]; exact hPc, va_K.moved hW.alike hKc, hDc.weaken (fun _ _ _ _ => trivial)⟩⟩ rfl rfl hl.1 rfl (lv_room (Nat.le_of_ble_eq_true rfl)) dX1_undoStep_35 ⟨Nat.zero_le _, Nat.zero_le _⟩) hS (fun q _ h => hFc q h) hFc (fun _ t H1 locs ht hvm hw hB hz1 hk1 hS => ?_)
        obtain ⟨hP1, hK1, hD1⟩ := hB
        rw [ht] at hP1
        obtain ⟨hP, hD⟩ := va_join (wr := []) (w1 := [(h0, .inr (1, [.ref gN, .ref gS, .int r_7.2.2.2.2.1, .long r_7.2.2.2.2.2.1, .long r_7.2.2.2.2.2.2.1, .long r_7.2.2.2.2.2.2.2.1, .long r_7.2.2.2.2.2.2.2.2])), (gN, .inl (cO, 4, .inr (.inr (.inr (.inr F))))), (q0, .inl (cI, 256, .inl r_7.1)), (q1, .inl (cI, 256, .inl r_7.2.1)), (q2, .inl (cI, 256, .inl r_7.2.2.1)), (q3, .inl (cI, 256, .inl r_7.2.2.2.1))]) hP hD [0, 1, 2, 3, 4, 5] [] rfl rfl (by decide) (by decide) hk1 hFc hP1 hD1
        generalize H1 = H at hP hS ⊢
        have hP : va_P (dC, dI) vwCl [(h0, .inr (1, [.ref gN, .ref gS, .int r_7.2.2.2.2.1, .long r_7.2.2.2.2.2.1, .long r_7.2.2.2.2.2.2.1, .long r_7.2.2.2.2.2.2.2.1, .long r_7.2.2.2.2.2.2.2.2])), (gN, .inl (cO, 4, .inr (.inr (.inr (.inr F))))), (q0, .inl (cI, 256, .inl r_7.1)), (q1, .inl (cI, 256, .inl r_7.2.1)), (q2, .inl (cI, 256, .inl r_7.2.2.1)), (q3, .inl (cI, 256, .inl r_7.2.2.2.1))] H := hP
        have hD : va_D A [(h0, .inr (1, [.ref gN, .ref gS, .int r_7.2.2.2.2.1, .long r_7.2.2.2.2.2.1, .long r_7.2.2.2.2.2.2.1, .long r_7.2.2.2.2.2.2.2.1, .long r_7.2.2.2.2.2.2.2.2])), (gN, .inl (cO, 4, .inr (.inr (.inr (.inr F))))), (q0, .inl (cI, 256, .inl r_7.1)), (q1, .inl (cI, 256, .inl r_7.2.1)), (q2, .inl (cI, 256, .inl r_7.2.2.1)), (q3, .inl (cI, 256, .inl r_7.2.2.2.1))] := hD
        refine W.widen (k := 0) (n := 0) (Nat.le_refl _) (Nat.le_refl _) ?_
        exact k_X1_undoStep_38 hx hb hrt hml hown hlocks hts hA hK hF n out r_7.1 r_7.2.1 r_7.2.2.1 r_7.2.2.2.1 r_7.2.2.2.2.1 r_7.2.2.2.2.2.1 r_7.2.2.2.2.2.2.1 r_7.2.2.2.2.2.2.2.1 r_7.2.2.2.2.2.2.2.2 hr _ _ _ hP hD hS (lv_sub hl [0, 1] rfl)
    · have hr := (if_pos c_5).symm.trans hr
      refine lv_lload_n hx hb dX1_undoStep_17 rfl (lv_at hl 1 rfl) ?_
      refine lv_aload_n hx hb dX1_undoStep_18 rfl (lv_at hl 0 rfl) ?_
      refine va_get (D := (dC, dI)) (ci := 1) (v := .long m4) (C := RX1) (T := TX1) (N := 7) hx hb hts in_X1_undoStep_X1 hown hK hP 0 rfl rfl 4 (by decide) (hts (.fieldLink RX1 41 "FormRing$Matrix" "waiting1" "J") (by decide +kernel)) (fun _ h9 => h9) rfl dX1_undoStep_19 ?_
      refine lv_lmul hx hb dX1_undoStep_22 ?_
      refine lv_aload_n hx hb dX1_undoStep_23 rfl (lv_at hl 0 rfl) ?_
      refine va_get (D := (dC, dI)) (ci := 1) (v := .long m6) (C := RX1) (T := TX1) (N := 7) hx hb hts in_X1_undoStep_X1 hown hK hP 0 rfl rfl 6 (by decide) (hts (.fieldLink RX1 44 "FormRing$Matrix" "waiting3" "J") (by decide +kernel)) (fun _ h9 => h9) rfl dX1_undoStep_24 ?_
      refine lv_ladd hx hb dX1_undoStep_27 ?_
      cases e_9 : f_X1_isTooGreat n ((a1 * m4) + m6) with
      | none => rw [e_9, Option.bind_none] at hr; cases hr
      | some r_10 =>
        rw [e_9, Option.bind_some] at hr
        have hPc := hP.sub (ws' := []) [] rfl
        have hDc := hD.sub (ws' := []) [] (by decide) rfl
        have hKc := hK.sub (tys' := []) [] rfl
        have hFc := va_free (wc := []) hD hS hA [] rfl
        refine va_calli (va_runS (As := [.long ((a1 * m4) + m6)]) (rest := []) ⟨hx, hb, hml, hown, hts⟩ (c_X1_isTooGreat l dC dI H.size  ((a1 * m4) + m6) n _ e_9) (va_cwS 1 hts gX1_undoStep_X1_isTooGreat rfl rfl rfl (by decide +kernel) ⟨Nat.le_of_ble_eq_true rfl, Nat.le_of_ble_eq_true rfl⟩) ⟨fun a U g mk q => by obtain ⟨q0, q1, qP, qK, qD⟩ := q; exact ⟨q0, q1, qP, va_K.moved (u := U) (U := U.calling g mk a) (Vm.Alike.refl U.vm) qK, qD⟩, fun U hU hW => ⟨rfl, by rw [hU], by rw [hU]; exact hPc, va_K.moved hW.alike hKc, hDc.weaken (fun _ _ _ _ => trivial)⟩⟩ rfl rfl hl.1 rfl (lv_room (Nat.le_of_ble_eq_true rfl)) dX1_undoStep_28 ⟨Nat.zero_le _, Nat.zero_le _⟩) hS (fun q _ h => hFc q h) hFc (fun x_11 _ t H1 locs ht hvm hw hB hz1 hk1 hS => ?_)
        obtain ⟨hw, z_12⟩ := hw
        have hw := hw.symm
        subst hw
        obtain ⟨hP1, hK1, hD1⟩ := hB
        rw [ht] at hP1
        obtain ⟨hP, hD⟩ := va_join (wr := [(h0, .inr (1, [.ref gN, .ref gS, .int m2, .long m3, .long m4, .long m5, .long m6])), (gN, .inl (cO, 4, .inr (.inr (.inr (.inr F))))), (q0, .inl (cI, 256, .inl z0)), (q1, .inl (cI, 256, .inl z1)), (q2, .inl (cI, 256, .inl z2)), (q3, .inl (cI, 256, .inl z3))]) (w1 := []) hP hD [] [0, 1, 2, 3, 4, 5] rfl rfl (by decide) (by decide) hk1 hFc hP1 hD1
        generalize H1 = H at hP hS ⊢
        have hP : va_P (dC, dI) vwCl [(h0, .inr (1, [.ref gN, .ref gS, .int m2, .long m3, .long m4, .long m5, .long m6])), (gN, .inl (cO, 4, .inr (.inr (.inr (.inr F))))), (q0, .inl (cI, 256, .inl z0)), (q1, .inl (cI, 256, .inl z1)), (q2, .inl (cI, 256, .inl z2)), (q3, .inl (cI, 256, .inl z3))] H := hP
        have hD : va_D A [(h0, .inr (1, [.ref gN, .ref gS, .int m2, .long m3, .long m4, .long m5, .long m6])), (gN, .inl (cO, 4, .inr (.inr (.inr (.inr F))))), (q0, .inl (cI, 256, .inl z0)), (q1, .inl (cI, 256, .inl z1)), (q2, .inl (cI, 256, .inl z2)), (q3, .inl (cI, 256, .inl z3))] := hD
        refine W.widen (k := 0) (n := 0) (Nat.le_refl _) (Nat.le_refl _) ?_
        refine lz_zeq (tgt := 38) hx hb dX1_undoStep_31 (by decide) (fun c_13 => ?_) (fun c_13 => ?_)
        · have hr := (if_pos c_13).symm.trans hr
          exact k_X1_undoStep_38 hx hb hrt hml hown hlocks hts hA hK hF n out z0 z1 z2 z3 m2 m3 m4 m5 m6 hr _ _ _ hP hD hS (lv_sub hl [0, 1] rfl)
        · have hr := (if_neg c_13).symm.trans hr
          refine lv_aload_n hx hb dX1_undoStep_34 rfl (lv_at hl 0 rfl) ?_
          cases e_14 : f_X1_multiplyWaiting n m2 m3 m4 m5 m6 z0 z1 z2 z3 with
          | none => rw [e_14, Option.bind_none] at hr; cases hr
          | some r_15 =>
            rw [e_14, Option.bind_some] at hr
            have hPc := hP.sub (ws' := [(h0, .inr (1, [.ref gN, .ref gS, .int m2, .long m3, .long m4, .long m5, .long m6])), (gN, .inl (cO, 4, .inr (.inr (.inr (.inr F))))), (q0, .inl (cI, 256, .inl z0)), (q1, .inl (cI, 256, .inl z1)), (q2, .inl (cI, 256, .inl z2)), (q3, .inl (cI, 256, .inl z3))]) [0, 1, 2, 3, 4, 5] rfl
            have hDc := hD.sub (ws' := [(h0, .inr (1, [.ref gN, .ref gS, .int m2, .long m3, .long m4, .long m5, .long m6])), (gN, .inl (cO, 4, .inr (.inr (.inr (.inr F))))), (q0, .inl (cI, 256, .inl z0)), (q1, .inl (cI, 256, .inl z1)), (q2, .inl (cI, 256, .inl z2)), (q3, .inl (cI, 256, .inl z3))]) [0, 1, 2, 3, 4, 5] (by decide) rfl
            have hKc := hK.sub (tys' := [(cI, .int), (cO, .array .int)]) [0, 1] rfl
            have hFc := va_free (wc := [(h0, .inr (1, [.ref gN, .ref gS, .int m2, .long m3, .long m4, .long m5, .long m6])), (gN, .inl (cO, 4, .inr (.inr (.inr (.inr F))))), (q0, .inl (cI, 256, .inl z0)), (q1, .inl (cI, 256, .inl z1)), (q2, .inl (cI, 256, .inl z2)), (q3, .inl (cI, 256, .inl z3))]) hD hS hA [0, 1, 2, 3, 4, 5] rfl
            refine va_callv (va_runV (As := []) (rest := []) ⟨hx, hb, hml, hown, hts⟩ (c_X1_multiplyWaiting l dC dI H.size h0 gN gS m2 m3 m4 m5 m6 cI cO F q0 q1 q2 q3 z0 z1 z2 z3  hF n _ e_14) (cwV 0 hts gX1_undoStep_X1_multiplyWaiting rfl rfl rfl (by decide +kernel) ⟨Nat.le_of_ble_eq_true rfl, Nat.le_of_ble_eq_true rfl⟩) ⟨fun a U g mk q => by obtain ⟨q0, q1, qP, qK, qD⟩ := q; exact ⟨q0, q1, qP, va_K.moved (u := U) (U := U.calling g mk a) (Vm.Alike.refl U.vm) qK, qD⟩, va_recv hKc hPc (ci := 1) (q0 := 0) rfl rfl, fun U hU hW => ⟨rfl, by rw [hU], by rw [hU]; exact hPc, va_K.moved hW.alike hKc, hDc.weaken (fun _ _ _ _ => trivial)⟩⟩ rfl rfl hl.1 rfl (lv_room (Nat.le_of_ble_eq_true rfl)) dX1_undoStep_35 ⟨Nat.zero_le _, Nat.zero_le _⟩) hS (fun q _ h => hFc q h) hFc (fun _ t H1 locs ht hvm hw hB hz1 hk1 hS => ?_)
            obtain ⟨hP1, hK1, hD1⟩ := hB
            rw [ht] at hP1
            obtain ⟨hP, hD⟩ := va_join (wr := []) (w1 := [(h0, .inr (1, [.ref gN, .ref gS, .int r_15.2.2.2.2.1, .long r_15.2.2.2.2.2.1, .long r_15.2.2.2.2.2.2.1, .long r_15.2.2.2.2.2.2.2.1, .long r_15.2.2.2.2.2.2.2.2])), (gN, .inl (cO, 4, .inr (.inr (.inr (.inr F))))), (q0, .inl (cI, 256, .inl r_15.1)), (q1, .inl (cI, 256, .inl r_15.2.1)), (q2, .inl (cI, 256, .inl r_15.2.2.1)), (q3, .inl (cI, 256, .inl r_15.2.2.2.1))]) hP hD [0, 1, 2, 3, 4, 5] [] rfl rfl (by decide) (by decide) hk1 hFc hP1 hD1
            generalize H1 = H at hP hS ⊢
            have hP : va_P (dC, dI) vwCl [(h0, .inr (1, [.ref gN, .ref gS, .int r_15.2.2.2.2.1, .long r_15.2.2.2.2.2.1, .long r_15.2.2.2.2.2.2.1, .long r_15.2.2.2.2.2.2.2.1, .long r_15.2.2.2.2.2.2.2.2])), (gN, .inl (cO, 4, .inr (.inr (.inr (.inr F))))), (q0, .inl (cI, 256, .inl r_15.1)), (q1, .inl (cI, 256, .inl r_15.2.1)), (q2, .inl (cI, 256, .inl r_15.2.2.1)), (q3, .inl (cI, 256, .inl r_15.2.2.2.1))] H := hP
            have hD : va_D A [(h0, .inr (1, [.ref gN, .ref gS, .int r_15.2.2.2.2.1, .long r_15.2.2.2.2.2.1, .long r_15.2.2.2.2.2.2.1, .long r_15.2.2.2.2.2.2.2.1, .long r_15.2.2.2.2.2.2.2.2])), (gN, .inl (cO, 4, .inr (.inr (.inr (.inr F))))), (q0, .inl (cI, 256, .inl r_15.1)), (q1, .inl (cI, 256, .inl r_15.2.1)), (q2, .inl (cI, 256, .inl r_15.2.2.1)), (q3, .inl (cI, 256, .inl r_15.2.2.2.1))] := hD
            refine W.widen (k := 0) (n := 0) (Nat.le_refl _) (Nat.le_refl _) ?_
            exact k_X1_undoStep_38 hx hb hrt hml hown hlocks hts hA hK hF n out r_15.1 r_15.2.1 r_15.2.2.1 r_15.2.2.2.1 r_15.2.2.2.2.1 r_15.2.2.2.2.2.1 r_15.2.2.2.2.2.2.1 r_15.2.2.2.2.2.2.2.1 r_15.2.2.2.2.2.2.2.2 hr _ _ _ hP hD hS (lv_sub hl [0, 1] rfl)

theorem in_X1_finish_X1 : ∀ w ∈ u_ws RX1 TX1 7, w ∈ wsX1_finish := by decide +kernel
def f_X1_finish (n : Nat) (m2 : Int32) (m3 : Int64) (m4 : Int64) (m5 : Int64) (m6 : Int64) (z0 : Nat → Int32) (z1 : Nat → Int32) (z2 : Nat → Int32) (z3 : Nat → Int32) (sg : Nat → Int32) : Option ((Nat → Int32) × (Nat → Int32) × (Nat → Int32) × (Nat → Int32) × (Nat → Int32) × Int32 × Int64 × Int64 × Int64 × Int64) := (f_X1_multiplyWaiting n m2 m3 m4 m5 m6 z0 z1 z2 z3).bind (fun r_2 => (f_X1_findSign n r_2.2.2.2.2.1 r_2.1).bind (fun r_6 => if (0 : Int32) < 0 ∨ 4 ≤ (0 : Int32).toNatClampNeg then none else (if (0 : Int32) < 0 ∨ 4 ≤ (0 : Int32).toNatClampNeg then none else (if ((upd sg (0 : Int32).toNatClampNeg r_6) (0 : Int32).toNatClampNeg) < 0 then ((f_X1_negate n r_2.2.2.2.2.1 r_2.1).bind (fun r_90 => (f_X1_findSign n r_2.2.2.2.2.1 r_2.2.1).bind (fun r_94 => if (1 : Int32) < 0 ∨ 4 ≤ (1 : Int32).toNatClampNeg then none else (if (1 : Int32) < 0 ∨ 4 ≤ (1 : Int32).toNatClampNeg then none else (if ((upd (upd sg (0 : Int32).toNatClampNeg r_6) (1 : Int32).toNatClampNeg r_94) (1 : Int32).toNatClampNeg) < 0 then ((f_X1_negate n r_2.2.2.2.2.1 r_2.2.1).bind (fun r_134 => (f_X1_findSign n r_2.2.2.2.2.1 r_2.2.2.1).bind (fun r_138 => if (2 : Int32) < 0 ∨ 4 ≤ (2 : Int32).toNatClampNeg then none else (if (2 : Int32) < 0 ∨ 4 ≤ (2 : Int32).toNatClampNeg then none else (if ((upd (upd (upd sg (0 : Int32).toNatClampNeg r_6) (1 : Int32).toNatClampNeg r_94) (2 : Int32).toNatClampNeg r_138) (2 : Int32).toNatClampNeg) < 0 then ((f_X1_negate n r_2.2.2.2.2.1 r_2.2.2.1).bind (fun r_156 => (f_X1_findSign n r_2.2.2.2.2.1 r_2.2.2.2.1).bind (fun r_160 => if (3 : Int32) < 0 ∨ 4 ≤ (3 : Int32).toNatClampNeg then none else (if (3 : Int32) < 0 ∨ 4 ≤ (3 : Int32).toNatClampNeg then none else (if ((upd (upd (upd (upd sg (0 : Int32).toNatClampNeg r_6) (1 : Int32).toNatClampNeg r_94) (2 : Int32).toNatClampNeg r_138) (3 : Int32).toNatClampNeg r_160) (3 : Int32).toNatClampNeg) < 0 then ((f_X1_negate n r_2.2.2.2.2.1 r_2.2.2.2.1).bind (fun r_167 => some (r_90, r_134, r_156, r_167, upd (upd (upd (upd sg (0 : Int32).toNatClampNeg r_6) (1 : Int32).toNatClampNeg r_94) (2 : Int32).toNatClampNeg r_138) (3 : Int32).toNatClampNeg r_160, r_2.2.2.2.2.1, r_2.2.2.2.2.2.1, r_2.2.2.2.2.2.2.1, r_2.2.2.2.2.2.2.2.1, r_2.2.2.2.2.2.2.2.2))) else (some (r_90, r_134, r_156, r_2.2.2.2.1, upd (upd (upd (upd sg (0 : Int32).toNatClampNeg r_6) (1 : Int32).toNatClampNeg r_94) (2 : Int32).toNatClampNeg r_138) (3 : Int32).toNatClampNeg r_160, r_2.2.2.2.2.1, r_2.2.2.2.2.2.1, r_2.2.2.2.2.2.2.1, r_2.2.2.2.2.2.2.2.1, r_2.2.2.2.2.2.2.2.2))))))) else ((f_X1_findSign n r_2.2.2.2.2.1 r_2.2.2.2.1).bind (fun r_145 => if (3 : Int32) < 0 ∨ 4 ≤ (3 : Int32).toNatClampNeg then none else (if (3 : Int32) < 0 ∨ 4 ≤ (3 : Int32).toNatClampNeg then none else (if ((upd (upd (upd (upd sg (0 : Int32).toNatClampNeg r_6) (1 : Int32).toNatClampNeg r_94) (2 : Int32).toNatClampNeg r_138) (3 : Int32).toNatClampNeg r_145) (3 : Int32).toNatClampNeg) < 0 then ((f_X1_negate n r_2.2.2.2.2.1 r_2.2.2.2.1).bind (fun r_152 => some (r_90, r_134, r_2.2.2.1, r_152, upd (upd (upd (upd sg (0 : Int32).toNatClampNeg r_6) (1 : Int32).toNatClampNeg r_94) (2 : Int32).toNatClampNeg r_138) (3 : Int32).toNatClampNeg r_145, r_2.2.2.2.2.1, r_2.2.2.2.2.2.1, r_2.2.2.2.2.2.2.1, r_2.2.2.2.2.2.2.2.1, r_2.2.2.2.2.2.2.2.2))) else (some (r_90, r_134, r_2.2.2.1, r_2.2.2.2.1, upd (upd (upd (upd sg (0 : Int32).toNatClampNeg r_6) (1 : Int32).toNatClampNeg r_94) (2 : Int32).toNatClampNeg r_138) (3 : Int32).toNatClampNeg r_145, r_2.2.2.2.2.1, r_2.2.2.2.2.2.1, r_2.2.2.2.2.2.2.1, r_2.2.2.2.2.2.2.2.1, r_2.2.2.2.2.2.2.2.2))))))))))) else ((f_X1_findSign n r_2.2.2.2.2.1 r_2.2.2.1).bind (fun r_101 => if (2 : Int32) < 0 ∨ 4 ≤ (2 : Int32).toNatClampNeg then none else (if (2 : Int32) < 0 ∨ 4 ≤ (2 : Int32).toNatClampNeg then none else (if ((upd (upd (upd sg (0 : Int32).toNatClampNeg r_6) (1 : Int32).toNatClampNeg r_94) (2 : Int32).toNatClampNeg r_101) (2 : Int32).toNatClampNeg) < 0 then ((f_X1_negate n r_2.2.2.2.2.1 r_2.2.2.1).bind (fun r_119 => (f_X1_findSign n r_2.2.2.2.2.1 r_2.2.2.2.1).bind (fun r_123 => if (3 : Int32) < 0 ∨ 4 ≤ (3 : Int32).toNatClampNeg then none else (if (3 : Int32) < 0 ∨ 4 ≤ (3 : Int32).toNatClampNeg then none else (if ((upd (upd (upd (upd sg (0 : Int32).toNatClampNeg r_6) (1 : Int32).toNatClampNeg r_94) (2 : Int32).toNatClampNeg r_101) (3 : Int32).toNatClampNeg r_123) (3 : Int32).toNatClampNeg) < 0 then ((f_X1_negate n r_2.2.2.2.2.1 r_2.2.2.2.1).bind (fun r_130 => some (r_90, r_2.2.1, r_119, r_130, upd (upd (upd (upd sg (0 : Int32).toNatClampNeg r_6) (1 : Int32).toNatClampNeg r_94) (2 : Int32).toNatClampNeg r_101) (3 : Int32).toNatClampNeg r_123, r_2.2.2.2.2.1, r_2.2.2.2.2.2.1, r_2.2.2.2.2.2.2.1, r_2.2.2.2.2.2.2.2.1, r_2.2.2.2.2.2.2.2.2))) else (some (r_90, r_2.2.1, r_119, r_2.2.2.2.1, upd (upd (upd (upd sg (0 : Int32).toNatClampNeg r_6) (1 : Int32).toNatClampNeg r_94) (2 : Int32).toNatClampNeg r_101) (3 : Int32).toNatClampNeg r_123, r_2.2.2.2.2.1, r_2.2.2.2.2.2.1, r_2.2.2.2.2.2.2.1, r_2.2.2.2.2.2.2.2.1, r_2.2.2.2.2.2.2.2.2))))))) else ((f_X1_findSign n r_2.2.2.2.2.1 r_2.2.2.2.1).bind (fun r_108 => if (3 : Int32) < 0 ∨ 4 ≤ (3 : Int32).toNatClampNeg then none else (if (3 : Int32) < 0 ∨ 4 ≤ (3 : Int32).toNatClampNeg then none else (if ((upd (upd (upd (upd sg (0 : Int32).toNatClampNeg r_6) (1 : Int32).toNatClampNeg r_94) (2 : Int32).toNatClampNeg r_101) (3 : Int32).toNatClampNeg r_108) (3 : Int32).toNatClampNeg) < 0 then ((f_X1_negate n r_2.2.2.2.2.1 r_2.2.2.2.1).bind (fun r_115 => some (r_90, r_2.2.1, r_2.2.2.1, r_115, upd (upd (upd (upd sg (0 : Int32).toNatClampNeg r_6) (1 : Int32).toNatClampNeg r_94) (2 : Int32).toNatClampNeg r_101) (3 : Int32).toNatClampNeg r_108, r_2.2.2.2.2.1, r_2.2.2.2.2.2.1, r_2.2.2.2.2.2.2.1, r_2.2.2.2.2.2.2.2.1, r_2.2.2.2.2.2.2.2.2))) else (some (r_90, r_2.2.1, r_2.2.2.1, r_2.2.2.2.1, upd (upd (upd (upd sg (0 : Int32).toNatClampNeg r_6) (1 : Int32).toNatClampNeg r_94) (2 : Int32).toNatClampNeg r_101) (3 : Int32).toNatClampNeg r_108, r_2.2.2.2.2.1, r_2.2.2.2.2.2.1, r_2.2.2.2.2.2.2.1, r_2.2.2.2.2.2.2.2.1, r_2.2.2.2.2.2.2.2.2))))))))))))))) else ((f_X1_findSign n r_2.2.2.2.2.1 r_2.2.1).bind (fun r_13 => if (1 : Int32) < 0 ∨ 4 ≤ (1 : Int32).toNatClampNeg then none else (if (1 : Int32) < 0 ∨ 4 ≤ (1 : Int32).toNatClampNeg then none else (if ((upd (upd sg (0 : Int32).toNatClampNeg r_6) (1 : Int32).toNatClampNeg r_13) (1 : Int32).toNatClampNeg) < 0 then ((f_X1_negate n r_2.2.2.2.2.1 r_2.2.1).bind (fun r_53 => (f_X1_findSign n r_2.2.2.2.2.1 r_2.2.2.1).bind (fun r_57 => if (2 : Int32) < 0 ∨ 4 ≤ (2 : Int32).toNatClampNeg then none else (if (2 : Int32) < 0 ∨ 4 ≤ (2 : Int32).toNatClampNeg then none else (if ((upd (upd (upd sg (0 : Int32).toNatClampNeg r_6) (1 : Int32).toNatClampNeg r_13) (2 : Int32).toNatClampNeg r_57) (2 : Int32).toNatClampNeg) < 0 then ((f_X1_negate n r_2.2.2.2.2.1 r_2.2.2.1).bind (fun r_75 => (f_X1_findSign n r_2.2.2.2.2.1 r_2.2.2.2.1).bind (fun r_79 => if (3 : Int32) < 0 ∨ 4 ≤ (3 : Int32).toNatClampNeg then none else (if (3 : Int32) < 0 ∨ 4 ≤ (3 : Int32).toNatClampNeg then none else (if ((upd (upd (upd (upd sg (0 : Int32).toNatClampNeg r_6) (1 : Int32).toNatClampNeg r_13) (2 : Int32).toNatClampNeg r_57) (3 : Int32).toNatClampNeg r_79) (3 : Int32).toNatClampNeg) < 0 then ((f_X1_negate n r_2.2.2.2.2.1 r_2.2.2.2.1).bind (fun r_86 => some (r_2.1, r_53, r_75, r_86, upd (upd (upd (upd sg (0 : Int32).toNatClampNeg r_6) (1 : Int32).toNatClampNeg r_13) (2 : Int32).toNatClampNeg r_57) (3 : Int32).toNatClampNeg r_79, r_2.2.2.2.2.1, r_2.2.2.2.2.2.1, r_2.2.2.2.2.2.2.1, r_2.2.2.2.2.2.2.2.1, r_2.2.2.2.2.2.2.2.2))) else (some (r_2.1, r_53, r_75, r_2.2.2.2.1, upd (upd (upd (upd sg (0 : Int32).toNatClampNeg r_6) (1 : Int32).toNatClampNeg r_13) (2 : Int32).toNatClampNeg r_57) (3 : Int32).toNatClampNeg r_79, r_2.2.2.2.2.1, r_2.2.2.2.2.2.1, r_2.2.2.2.2.2.2.1, r_2.2.2.2.2.2.2.2.1, r_2.2.2.2.2.2.2.2.2))))))) else ((f_X1_findSign n r_2.2.2.2.2.1 r_2.2.2.2.1).bind (fun r_64 => if (3 : Int32) < 0 ∨ 4 ≤ (3 : Int32).toNatClampNeg then none else (if (3 : Int32) < 0 ∨ 4 ≤ (3 : Int32).toNatClampNeg then none else (if ((upd (upd (upd (upd sg (0 : Int32).toNatClampNeg r_6) (1 : Int32).toNatClampNeg r_13) (2 : Int32).toNatClampNeg r_57) (3 : Int32).toNatClampNeg r_64) (3 : Int32).toNatClampNeg) < 0 then ((f_X1_negate n r_2.2.2.2.2.1 r_2.2.2.2.1).bind (fun r_71 => some (r_2.1, r_53, r_2.2.2.1, r_71, upd (upd (upd (upd sg (0 : Int32).toNatClampNeg r_6) (1 : Int32).toNatClampNeg r_13) (2 : Int32).toNatClampNeg r_57) (3 : Int32).toNatClampNeg r_64, r_2.2.2.2.2.1, r_2.2.2.2.2.2.1, r_2.2.2.2.2.2.2.1, r_2.2.2.2.2.2.2.2.1, r_2.2.2.2.2.2.2.2.2))) else (some (r_2.1, r_53, r_2.2.2.1, r_2.2.2.2.1, upd (upd (upd (upd sg (0 : Int32).toNatClampNeg r_6) (1 : Int32).toNatClampNeg r_13) (2 : Int32).toNatClampNeg r_57) (3 : Int32).toNatClampNeg r_64, r_2.2.2.2.2.1, r_2.2.2.2.2.2.1, r_2.2.2.2.2.2.2.1, r_2.2.2.2.2.2.2.2.1, r_2.2.2.2.2.2.2.2.2))))))))))) else ((f_X1_findSign n r_2.2.2.2.2.1 r_2.2.2.1).bind (fun r_20 => if (2 : Int32) < 0 ∨ 4 ≤ (2 : Int32).toNatClampNeg then none else (if (2 : Int32) < 0 ∨ 4 ≤ (2 : Int32).toNatClampNeg then none else (if ((upd (upd (upd sg (0 : Int32).toNatClampNeg r_6) (1 : Int32).toNatClampNeg r_13) (2 : Int32).toNatClampNeg r_20) (2 : Int32).toNatClampNeg) < 0 then ((f_X1_negate n r_2.2.2.2.2.1 r_2.2.2.1).bind (fun r_38 => (f_X1_findSign n r_2.2.2.2.2.1 r_2.2.2.2.1).bind (fun r_42 => if (3 : Int32) < 0 ∨ 4 ≤ (3 : Int32).toNatClampNeg then none else (if (3 : Int32) < 0 ∨ 4 ≤ (3 : Int32).toNatClampNeg then none else (if ((upd (upd (upd (upd sg (0 : Int32).toNatClampNeg r_6) (1 : Int32).toNatClampNeg r_13) (2 : Int32).toNatClampNeg r_20) (3 : Int32).toNatClampNeg r_42) (3 : Int32).toNatClampNeg) < 0 then ((f_X1_negate n r_2.2.2.2.2.1 r_2.2.2.2.1).bind (fun r_49 => some (r_2.1, r_2.2.1, r_38, r_49, upd (upd (upd (upd sg (0 : Int32).toNatClampNeg r_6) (1 : Int32).toNatClampNeg r_13) (2 : Int32).toNatClampNeg r_20) (3 : Int32).toNatClampNeg r_42, r_2.2.2.2.2.1, r_2.2.2.2.2.2.1, r_2.2.2.2.2.2.2.1, r_2.2.2.2.2.2.2.2.1, r_2.2.2.2.2.2.2.2.2))) else (some (r_2.1, r_2.2.1, r_38, r_2.2.2.2.1, upd (upd (upd (upd sg (0 : Int32).toNatClampNeg r_6) (1 : Int32).toNatClampNeg r_13) (2 : Int32).toNatClampNeg r_20) (3 : Int32).toNatClampNeg r_42, r_2.2.2.2.2.1, r_2.2.2.2.2.2.1, r_2.2.2.2.2.2.2.1, r_2.2.2.2.2.2.2.2.1, r_2.2.2.2.2.2.2.2.2))))))) else ((f_X1_findSign n r_2.2.2.2.2.1 r_2.2.2.2.1).bind (fun r_27 => if (3 : Int32) < 0 ∨ 4 ≤ (3 : Int32).toNatClampNeg then none else (if (3 : Int32) < 0 ∨ 4 ≤ (3 : Int32).toNatClampNeg then none else (if ((upd (upd (upd (upd sg (0 : Int32).toNatClampNeg r_6) (1 : Int32).toNatClampNeg r_13) (2 : Int32).toNatClampNeg r_20) (3 : Int32).toNatClampNeg r_27) (3 : Int32).toNatClampNeg) < 0 then ((f_X1_negate n r_2.2.2.2.2.1 r_2.2.2.2.1).bind (fun r_34 => some (r_2.1, r_2.2.1, r_2.2.2.1, r_34, upd (upd (upd (upd sg (0 : Int32).toNatClampNeg r_6) (1 : Int32).toNatClampNeg r_13) (2 : Int32).toNatClampNeg r_20) (3 : Int32).toNatClampNeg r_27, r_2.2.2.2.2.1, r_2.2.2.2.2.2.1, r_2.2.2.2.2.2.2.1, r_2.2.2.2.2.2.2.2.1, r_2.2.2.2.2.2.2.2.2))) else (some (r_2.1, r_2.2.1, r_2.2.2.1, r_2.2.2.2.1, upd (upd (upd (upd sg (0 : Int32).toNatClampNeg r_6) (1 : Int32).toNatClampNeg r_13) (2 : Int32).toNatClampNeg r_20) (3 : Int32).toNatClampNeg r_27, r_2.2.2.2.2.1, r_2.2.2.2.2.2.1, r_2.2.2.2.2.2.2.1, r_2.2.2.2.2.2.2.2.1, r_2.2.2.2.2.2.2.2.2))))))))))))))))))
set_option maxHeartbeats 4000000 in
set_option maxRecDepth 100000 in
theorem c_X1_finish (l : Launch) (dC : Nat → ClassId) (dI : Nat → Nat → Nat) (sz : Nat) (h0 : Nat) (gN : Nat) (gS : Nat) (m2 : Int32) (m3 : Int64) (m4 : Int64) (m5 : Int64) (m6 : Int64) (cI : ClassId) (cO : ClassId) (F : Nat → Option Nat) (q0 : Nat) (q1 : Nat) (q2 : Nat) (q3 : Nat) (z0 : Nat → Int32) (z1 : Nat → Int32) (z2 : Nat → Int32) (z3 : Nat → Int32) (sg : Nat → Int32)  (hF : F 0 = some q0 ∧ F 1 = some q1 ∧ F 2 = some q2 ∧ F 3 = some q3) (n : Nat) (out : (Nat → Int32) × (Nat → Int32) × (Nat → Int32) × (Nat → Int32) × (Nat → Int32) × Int32 × Int64 × Int64 × Int64 × Int64) (hr : f_X1_finish n m2 m3 m4 m5 m6 z0 z1 z2 z3 sg = some out) : Met l yX1_finish wsX1_finish ({ frames := 2, cells := 0, slots := 0, locals := 51 }) (va_Pc [.ref h0] (zP dC dI [(cI, .int), (cO, .array .int)] [(h0, .inr (1, [.ref gN, .ref gS, .int m2, .long m3, .long m4, .long m5, .long m6])), (gN, .inl (cO, 4, .inr (.inr (.inr (.inr F))))), (q0, .inl (cI, 256, .inl z0)), (q1, .inl (cI, 256, .inl z1)), (q2, .inl (cI, 256, .inl z2)), (q3, .inl (cI, 256, .inl z3)), (gS, .inl (cI, 4, .inl sg))] sz)) (va_Qv (fun (_ : Unit) => True) (fun (_ : Unit) t => zB dC dI [(cI, .int), (cO, .array .int)] (va_A [(h0, .inr (1, [.ref gN, .ref gS, .int m2, .long m3, .long m4, .long m5, .long m6])), (gN, .inl (cO, 4, .inr (.inr (.inr (.inr F))))), (q0, .inl (cI, 256, .inl z0)), (q1, .inl (cI, 256, .inl z1)), (q2, .inl (cI, 256, .inl z2)), (q3, .inl (cI, 256, .inl z3)), (gS, .inl (cI, 4, .inl sg))] sz) [(h0, .inr (1, [.ref gN, .ref gS, .int out.2.2.2.2.2.1, .long out.2.2.2.2.2.2.1, .long out.2.2.2.2.2.2.2.1, .long out.2.2.2.2.2.2.2.2.1, .long out.2.2.2.2.2.2.2.2.2])), (gN, .inl (cO, 4, .inr (.inr (.inr (.inr F))))), (q0, .inl (cI, 256, .inl out.1)), (q1, .inl (cI, 256, .inl out.2.1)), (q2, .inl (cI, 256, .inl out.2.2.1)), (q3, .inl (cI, 256, .inl out.2.2.2.1)), (gS, .inl (cI, 4, .inl out.2.2.2.2.1))] t) (va_A [(h0, .inr (1, [.ref gN, .ref gS, .int m2, .long m3, .long m4, .long m5, .long m6])), (gN, .inl (cO, 4, .inr (.inr (.inr (.inr F))))), (q0, .inl (cI, 256, .inl z0)), (q1, .inl (cI, 256, .inl z1)), (q2, .inl (cI, 256, .inl z2)), (q3, .inl (cI, 256, .inl z3)), (gS, .inl (cI, 4, .inl sg))] sz)) 0 0 (va_A [(h0, .inr (1, [.ref gN, .ref gS, .int m2, .long m3, .long m4, .long m5, .long m6])), (gN, .inl (cO, 4, .inr (.inr (.inr (.inr F))))), (q0, .inl (cI, 256, .inl z0)), (q1, .inl (cI, 256, .inl z1)), (q2, .inl (cI, 256, .inl z2)), (q3, .inl (cI, 256, .inl z3)), (gS, .inl (cI, 4, .inl sg))] sz) := by
  refine Met.ofW (cc := cX1_finish) (maxL := 2) (ret := none) (by decide +kernel) rfl ?_
  intro p e s m args below meth c s₁ B hml hv
  obtain ⟨rfl, hsz, hP, hK, hD0⟩ := hv
  have hx := B.exec
  have hb := B.bytes
  have hrt := B.returns
  have hts := atoms_spec (ws := wsX1_finish) B.pre
  have hown : s.vm.findClass RX1 = some m.cls := findClass_of_methodNamed B.named
  have hlocks := B.notSynchronized
  subst hsz
  have hD := hD0.self (sz := s.heap.size)
  generalize hAe : va_A [(h0, .inr (1, [.ref gN, .ref gS, .int m2, .long m3, .long m4, .long m5, .long m6])), (gN, .inl (cO, 4, .inr (.inr (.inr (.inr F))))), (q0, .inl (cI, 256, .inl z0)), (q1, .inl (cI, 256, .inl z1)), (q2, .inl (cI, 256, .inl z2)), (q3, .inl (cI, 256, .inl z3)), (gS, .inl (cI, 4, .inl sg))] s.heap.size = A at hD ⊢
  have hA : ∀ q : Nat, s.heap.size ≤ q → A q := fun q h => by rw [← hAe]; exact Or.inr h
  have hS : va_S A s.heap s.heap [] := va_S.rf
  have hP : va_P (dC, dI) vwCl [(h0, .inr (1, [.ref gN, .ref gS, .int m2, .long m3, .long m4, .long m5, .long m6])), (gN, .inl (cO, 4, .inr (.inr (.inr (.inr F))))), (q0, .inl (cI, 256, .inl z0)), (q1, .inl (cI, 256, .inl z1)), (q2, .inl (cI, 256, .inl z2)), (q3, .inl (cI, 256, .inl z3)), (gS, .inl (cI, 4, .inl sg))] s.heap := hP
  have hl := lv_entry ([.ref h0]) (n := 2) (Nat.le_of_ble_eq_true rfl)
  rw [lg_entry_eq]
  generalize (lg_sl ([.ref h0]) ++ List.replicate (2 - (lg_sl ([.ref h0])).length) Slot.unset).toArray = ls at hl ⊢
  have hl : lv_has ls 2 [(0, .ref h0)] := hl
  unfold f_X1_finish at hr
  refine lv_aload_n hx hb dX1_finish_0 rfl (lv_at hl 0 rfl) ?_
  cases e_1 : f_X1_multiplyWaiting n m2 m3 m4 m5 m6 z0 z1 z2 z3 with
  | none => rw [e_1, Option.bind_none] at hr; cases hr
  | some r_2 =>
    rw [e_1, Option.bind_some] at hr
    have hPc := hP.sub (ws' := [(h0, .inr (1, [.ref gN, .ref gS, .int m2, .long m3, .long m4, .long m5, .long m6])), (gN, .inl (cO, 4, .inr (.inr (.inr (.inr F))))), (q0, .inl (cI, 256, .inl z0)), (q1, .inl (cI, 256, .inl z1)), (q2, .inl (cI, 256, .inl z2)), (q3, .inl (cI, 256, .inl z3))]) [0, 1, 2, 3, 4, 5] rfl
    have hDc := hD.sub (ws' := [(h0, .inr (1, [.ref gN, .ref gS, .int m2, .long m3, .long m4, .long m5, .long m6])), (gN, .inl (cO, 4, .inr (.inr (.inr (.inr F))))), (q0, .inl (cI, 256, .inl z0)), (q1, .inl (cI, 256, .inl z1)), (q2, .inl (cI, 256, .inl z2)), (q3, .inl (cI, 256, .inl z3))]) [0, 1, 2, 3, 4, 5] (by decide) rfl
    have hKc := hK.sub (tys' := [(cI, .int), (cO, .array .int)]) [0, 1] rfl
    have hFc := va_free (wc := [(h0, .inr (1, [.ref gN, .ref gS, .int m2, .long m3, .long m4, .long m5, .long m6])), (gN, .inl (cO, 4, .inr (.inr (.inr (.inr F))))), (q0, .inl (cI, 256, .inl z0)), (q1, .inl (cI, 256, .inl z1)), (q2, .inl (cI, 256, .inl z2)), (q3, .inl (cI, 256, .inl z3))]) hD hS hA [0, 1, 2, 3, 4, 5] rfl
    refine va_callv (va_runV (As := []) (rest := []) ⟨hx, hb, hml, hown, hts⟩ (c_X1_multiplyWaiting l dC dI s.heap.size h0 gN gS m2 m3 m4 m5 m6 cI cO F q0 q1 q2 q3 z0 z1 z2 z3  hF n _ e_1) (cwV 0 hts gX1_finish_X1_multiplyWaiting rfl rfl rfl (by decide +kernel) ⟨Nat.le_of_ble_eq_true rfl, Nat.le_of_ble_eq_true rfl⟩) ⟨fun a U g mk q => by obtain ⟨q0, q1, qP, qK, qD⟩ := q; exact ⟨q0, q1, qP, va_K.moved (u := U) (U := U.calling g mk a) (Vm.Alike.refl U.vm) qK, qD⟩, va_recv hKc hPc (ci := 1) (q0 := 0) rfl rfl, fun U hU hW => ⟨rfl, by rw [hU], by rw [hU]; exact hPc, va_K.moved hW.alike hKc, hDc.weaken (fun _ _ _ _ => trivial)⟩⟩ rfl rfl hl.1 rfl (lv_room (Nat.le_of_ble_eq_true rfl)) dX1_finish_1 ⟨Nat.zero_le _, Nat.zero_le _⟩) hS (fun q _ h => hFc q h) hFc (fun _ t H1 locs ht hvm hw hB hz1 hk1 hS => ?_)
    obtain ⟨hP1, hK1, hD1⟩ := hB
    rw [ht] at hP1
    obtain ⟨hP, hD⟩ := va_join (wr := [(gS, .inl (cI, 4, .inl sg))]) (w1 := [(h0, .inr (1, [.ref gN, .ref gS, .int r_2.2.2.2.2.1, .long r_2.2.2.2.2.2.1, .long r_2.2.2.2.2.2.2.1, .long r_2.2.2.2.2.2.2.2.1, .long r_2.2.2.2.2.2.2.2.2])), (gN, .inl (cO, 4, .inr (.inr (.inr (.inr F))))), (q0, .inl (cI, 256, .inl r_2.1)), (q1, .inl (cI, 256, .inl r_2.2.1)), (q2, .inl (cI, 256, .inl r_2.2.2.1)), (q3, .inl (cI, 256, .inl r_2.2.2.2.1))]) hP hD [0, 1, 2, 3, 4, 5] [6] rfl rfl (by decide) (by decide) hk1 hFc hP1 hD1
    generalize H1 = H at hP hS ⊢
    have hP := hP.sub (ws' := [(h0, .inr (1, [.ref gN, .ref gS, .int r_2.2.2.2.2.1, .long r_2.2.2.2.2.2.1, .long r_2.2.2.2.2.2.2.1, .long r_2.2.2.2.2.2.2.2.1, .long r_2.2.2.2.2.2.2.2.2])), (gN, .inl (cO, 4, .inr (.inr (.inr (.inr F))))), (q0, .inl (cI, 256, .inl r_2.1)), (q1, .inl (cI, 256, .inl r_2.2.1)), (q2, .inl (cI, 256, .inl r_2.2.2.1)), (q3, .inl (cI, 256, .inl r_2.2.2.2.1)), (gS, .inl (cI, 4, .inl sg))]) [1, 2, 3, 4, 5, 6, 0] rfl
    have hD := hD.sub (ws' := [(h0, .inr (1, [.ref gN, .ref gS, .int r_2.2.2.2.2.1, .long r_2.2.2.2.2.2.1, .long r_2.2.2.2.2.2.2.1, .long r_2.2.2.2.2.2.2.2.1, .long r_2.2.2.2.2.2.2.2.2])), (gN, .inl (cO, 4, .inr (.inr (.inr (.inr F))))), (q0, .inl (cI, 256, .inl r_2.1)), (q1, .inl (cI, 256, .inl r_2.2.1)), (q2, .inl (cI, 256, .inl r_2.2.2.1)), (q3, .inl (cI, 256, .inl r_2.2.2.2.1)), (gS, .inl (cI, 4, .inl sg))]) [1, 2, 3, 4, 5, 6, 0] (by decide) rfl
    have hP : va_P (dC, dI) vwCl [(h0, .inr (1, [.ref gN, .ref gS, .int r_2.2.2.2.2.1, .long r_2.2.2.2.2.2.1, .long r_2.2.2.2.2.2.2.1, .long r_2.2.2.2.2.2.2.2.1, .long r_2.2.2.2.2.2.2.2.2])), (gN, .inl (cO, 4, .inr (.inr (.inr (.inr F))))), (q0, .inl (cI, 256, .inl r_2.1)), (q1, .inl (cI, 256, .inl r_2.2.1)), (q2, .inl (cI, 256, .inl r_2.2.2.1)), (q3, .inl (cI, 256, .inl r_2.2.2.2.1)), (gS, .inl (cI, 4, .inl sg))] H := hP
    have hD : va_D A [(h0, .inr (1, [.ref gN, .ref gS, .int r_2.2.2.2.2.1, .long r_2.2.2.2.2.2.1, .long r_2.2.2.2.2.2.2.1, .long r_2.2.2.2.2.2.2.2.1, .long r_2.2.2.2.2.2.2.2.2])), (gN, .inl (cO, 4, .inr (.inr (.inr (.inr F))))), (q0, .inl (cI, 256, .inl r_2.1)), (q1, .inl (cI, 256, .inl r_2.2.1)), (q2, .inl (cI, 256, .inl r_2.2.2.1)), (q3, .inl (cI, 256, .inl r_2.2.2.2.1)), (gS, .inl (cI, 4, .inl sg))] := hD
    refine W.widen (k := 0) (n := 0) (Nat.le_refl _) (Nat.le_refl _) ?_
    refine lv_iconst (v := 0) hx hb dX1_finish_4 (by decide) ?_
    refine lv_istore_n (lv' := [(1, .int 0), (0, .ref h0)]) hx hb dX1_finish_5 rfl hl (by decide) rfl (fun ls hl => ?_)
    refine lv_iload_n hx hb dX1_finish_6 rfl (lv_at hl 0 rfl) ?_
    refine lv_iconst (v := 4) hx hb dX1_finish_7 (by decide) ?_
    refine lz_ige (tgt := 52) hx hb dX1_finish_8 (by decide) (fun c_4 => absurd c_4 (by decide)) (fun c_4 => ?_)
    refine lv_aload_n hx hb dX1_finish_11 rfl (lv_at hl 1 rfl) ?_
    refine va_get (D := (dC, dI)) (ci := 1) (v := .ref gS) (C := RX1) (T := TX1) (N := 7) hx hb hts in_X1_finish_X1 hown hK hP 0 rfl rfl 1 (by decide) (hts (.fieldLink RX1 16 "FormRing$Matrix" "signs" "[I") (by decide +kernel)) (fun _ h9 => h9) rfl dX1_finish_12 ?_
    refine lv_iload_n hx hb dX1_finish_15 rfl (lv_at hl 0 rfl) ?_
    refine lv_aload_n hx hb dX1_finish_16 rfl (lv_at hl 1 rfl) ?_
    refine lv_aload_n hx hb dX1_finish_17 rfl (lv_at hl 1 rfl) ?_
    refine va_get (D := (dC, dI)) (ci := 1) (v := .ref gN) (C := RX1) (T := TX1) (N := 7) hx hb hts in_X1_finish_X1 hown hK hP 0 rfl rfl 0 (by decide) (hts (.fieldLink RX1 13 "FormRing$Matrix" "numbers" "[[I") (by decide +kernel)) (fun _ h9 => h9) rfl dX1_finish_18 ?_
    refine lv_iload_n hx hb dX1_finish_21 rfl (lv_at hl 0 rfl) ?_
    refine zz_ald hx hb hK hP 1 1 rfl rfl (q := q0) hF.1 zz_in0 dX1_finish_22 ?_
    cases e_5 : f_X1_findSign n r_2.2.2.2.2.1 r_2.1 with
    | none => rw [e_5, Option.bind_none] at hr; cases hr
    | some r_6 =>
      rw [e_5, Option.bind_some] at hr
      have hPc := hP.sub (ws' := [(h0, .inr (1, [.ref gN, .ref gS, .int r_2.2.2.2.2.1, .long r_2.2.2.2.2.2.1, .long r_2.2.2.2.2.2.2.1, .long r_2.2.2.2.2.2.2.2.1, .long r_2.2.2.2.2.2.2.2.2])), (q0, .inl (cI, 256, .inl r_2.1))]) [0, 2] rfl
      have hDc := hD.sub (ws' := [(h0, .inr (1, [.ref gN, .ref gS, .int r_2.2.2.2.2.1, .long r_2.2.2.2.2.2.1, .long r_2.2.2.2.2.2.2.1, .long r_2.2.2.2.2.2.2.2.1, .long r_2.2.2.2.2.2.2.2.2])), (q0, .inl (cI, 256, .inl r_2.1))]) [0, 2] (by decide) rfl
      have hKc := hK.sub (tys' := [(cI, .int)]) [0] rfl
      have hFc := va_free (wc := [(h0, .inr (1, [.ref gN, .ref gS, .int r_2.2.2.2.2.1, .long r_2.2.2.2.2.2.1, .long r_2.2.2.2.2.2.2.1, .long r_2.2.2.2.2.2.2.2.1, .long r_2.2.2.2.2.2.2.2.2])), (q0, .inl (cI, 256, .inl r_2.1))]) hD hS hA [0, 2] rfl
      refine va_calli (va_runV (As := [.ref q0]) (rest := [.int 0, .ref gS]) ⟨hx, hb, hml, hown, hts⟩ (c_X1_findSign l dC dI H.size h0 gN gS r_2.2.2.2.2.1 r_2.2.2.2.2.2.1 r_2.2.2.2.2.2.2.1 r_2.2.2.2.2.2.2.2.1 r_2.2.2.2.2.2.2.2.2 cI q0 r_2.1  n _ e_5) (cwV 1 hts gX1_finish_X1_findSign rfl rfl rfl (by decide +kernel) ⟨Nat.le_of_ble_eq_true rfl, Nat.le_of_ble_eq_true rfl⟩) ⟨fun a U g mk q => by obtain ⟨q0, q1, qP, qK, qD⟩ := q; exact ⟨q0, q1, qP, va_K.moved (u := U) (U := U.calling g mk a) (Vm.Alike.refl U.vm) qK, qD⟩, va_recv hKc hPc (ci := 1) (q0 := 0) rfl rfl, fun U hU hW => ⟨rfl, by rw [hU], by rw [hU]; exact hPc, va_K.moved hW.alike hKc, hDc.weaken (fun _ _ _ _ => trivial)⟩⟩ rfl rfl hl.1 rfl (lv_room (Nat.le_of_ble_eq_true rfl)) dX1_finish_23 ⟨Nat.zero_le _, Nat.zero_le _⟩) hS (fun q _ h => hFc q h) hFc (fun x_7 _ t H1 locs ht hvm hw hB hz1 hk1 hS => ?_)
      have hw := hw.symm
      subst hw
      obtain ⟨hP1, hK1, hD1⟩ := hB
      rw [ht] at hP1
      obtain ⟨hP, hD⟩ := va_join (wr := [(gN, .inl (cO, 4, .inr (.inr (.inr (.inr F))))), (q1, .inl (cI, 256, .inl r_2.2.1)), (q2, .inl (cI, 256, .inl r_2.2.2.1)), (q3, .inl (cI, 256, .inl r_2.2.2.2.1)), (gS, .inl (cI, 4, .inl sg))]) (w1 := [(h0, .inr (1, [.ref gN, .ref gS, .int r_2.2.2.2.2.1, .long r_2.2.2.2.2.2.1, .long r_2.2.2.2.2.2.2.1, .long r_2.2.2.2.2.2.2.2.1, .long r_2.2.2.2.2.2.2.2.2])), (q0, .inl (cI, 256, .inl r_2.1))]) hP hD [0, 2] [1, 3, 4, 5, 6] rfl rfl (by decide) (by decide) hk1 hFc hP1 hD1
      generalize H1 = H at hP hS ⊢
      have hP := hP.sub (ws' := [(h0, .inr (1, [.ref gN, .ref gS, .int r_2.2.2.2.2.1, .long r_2.2.2.2.2.2.1, .long r_2.2.2.2.2.2.2.1, .long r_2.2.2.2.2.2.2.2.1, .long r_2.2.2.2.2.2.2.2.2])), (gN, .inl (cO, 4, .inr (.inr (.inr (.inr F))))), (q0, .inl (cI, 256, .inl r_2.1)), (q1, .inl (cI, 256, .inl r_2.2.1)), (q2, .inl (cI, 256, .inl r_2.2.2.1)), (q3, .inl (cI, 256, .inl r_2.2.2.2.1)), (gS, .inl (cI, 4, .inl sg))]) [5, 0, 6, 1, 2, 3, 4] rfl
      have hD := hD.sub (ws' := [(h0, .inr (1, [.ref gN, .ref gS, .int r_2.2.2.2.2.1, .long r_2.2.2.2.2.2.1, .long r_2.2.2.2.2.2.2.1, .long r_2.2.2.2.2.2.2.2.1, .long r_2.2.2.2.2.2.2.2.2])), (gN, .inl (cO, 4, .inr (.inr (.inr (.inr F))))), (q0, .inl (cI, 256, .inl r_2.1)), (q1, .inl (cI, 256, .inl r_2.2.1)), (q2, .inl (cI, 256, .inl r_2.2.2.1)), (q3, .inl (cI, 256, .inl r_2.2.2.2.1)), (gS, .inl (cI, 4, .inl sg))]) [5, 0, 6, 1, 2, 3, 4] (by decide) rfl
      have hP : va_P (dC, dI) vwCl [(h0, .inr (1, [.ref gN, .ref gS, .int r_2.2.2.2.2.1, .long r_2.2.2.2.2.2.1, .long r_2.2.2.2.2.2.2.1, .long r_2.2.2.2.2.2.2.2.1, .long r_2.2.2.2.2.2.2.2.2])), (gN, .inl (cO, 4, .inr (.inr (.inr (.inr F))))), (q0, .inl (cI, 256, .inl r_2.1)), (q1, .inl (cI, 256, .inl r_2.2.1)), (q2, .inl (cI, 256, .inl r_2.2.2.1)), (q3, .inl (cI, 256, .inl r_2.2.2.2.1)), (gS, .inl (cI, 4, .inl sg))] H := hP
      have hD : va_D A [(h0, .inr (1, [.ref gN, .ref gS, .int r_2.2.2.2.2.1, .long r_2.2.2.2.2.2.1, .long r_2.2.2.2.2.2.2.1, .long r_2.2.2.2.2.2.2.2.1, .long r_2.2.2.2.2.2.2.2.2])), (gN, .inl (cO, 4, .inr (.inr (.inr (.inr F))))), (q0, .inl (cI, 256, .inl r_2.1)), (q1, .inl (cI, 256, .inl r_2.2.1)), (q2, .inl (cI, 256, .inl r_2.2.2.1)), (q3, .inl (cI, 256, .inl r_2.2.2.2.1)), (gS, .inl (cI, 4, .inl sg))] := hD
      refine W.widen (k := 0) (n := 0) (Nat.le_refl _) (Nat.le_refl _) ?_
      by_cases g_8 : (0 : Int32) < 0 ∨ 4 ≤ (0 : Int32).toNatClampNeg
      · have hr := (if_pos g_8).symm.trans hr
        cases hr
      have hr := (if_neg g_8).symm.trans hr
      refine va_iast hx hb hK hP hD hS 6 0 rfl rfl g_8 dX1_finish_26 (fun H locs hP hD hS => ?_)
      have hP : va_P (dC, dI) vwCl [(h0, .inr (1, [.ref gN, .ref gS, .int r_2.2.2.2.2.1, .long r_2.2.2.2.2.2.1, .long r_2.2.2.2.2.2.2.1, .long r_2.2.2.2.2.2.2.2.1, .long r_2.2.2.2.2.2.2.2.2])), (gN, .inl (cO, 4, .inr (.inr (.inr (.inr F))))), (q0, .inl (cI, 256, .inl r_2.1)), (q1, .inl (cI, 256, .inl r_2.2.1)), (q2, .inl (cI, 256, .inl r_2.2.2.1)), (q3, .inl (cI, 256, .inl r_2.2.2.2.1)), (gS, .inl (cI, 4, .inl (upd sg (0 : Int32).toNatClampNeg r_6)))] H := hP
      have hD : va_D A [(h0, .inr (1, [.ref gN, .ref gS, .int r_2.2.2.2.2.1, .long r_2.2.2.2.2.2.1, .long r_2.2.2.2.2.2.2.1, .long r_2.2.2.2.2.2.2.2.1, .long r_2.2.2.2.2.2.2.2.2])), (gN, .inl (cO, 4, .inr (.inr (.inr (.inr F))))), (q0, .inl (cI, 256, .inl r_2.1)), (q1, .inl (cI, 256, .inl r_2.2.1)), (q2, .inl (cI, 256, .inl r_2.2.2.1)), (q3, .inl (cI, 256, .inl r_2.2.2.2.1)), (gS, .inl (cI, 4, .inl (upd sg (0 : Int32).toNatClampNeg r_6)))] := hD
      refine lv_aload_n hx hb dX1_finish_27 rfl (lv_at hl 1 rfl) ?_
      refine va_get (D := (dC, dI)) (ci := 1) (v := .ref gS) (C := RX1) (T := TX1) (N := 7) hx hb hts in_X1_finish_X1 hown hK hP 0 rfl rfl 1 (by decide) (hts (.fieldLink RX1 16 "FormRing$Matrix" "signs" "[I") (by decide +kernel)) (fun _ h9 => h9) rfl dX1_finish_28 ?_
      refine lv_iload_n hx hb dX1_finish_31 rfl (lv_at hl 0 rfl) ?_
      by_cases g_9 : (0 : Int32) < 0 ∨ 4 ≤ (0 : Int32).toNatClampNeg
      · have hr := (if_pos g_9).symm.trans hr
        cases hr
      have hr := (if_neg g_9).symm.trans hr
      refine va_iald hx hb hK hP 6 0 rfl rfl g_9 dX1_finish_32 ?_
      refine lz_zge (tgt := 46) hx hb dX1_finish_33 (by decide) (fun c_10 => ?_) (fun c_10 => ?_)
      · have hr := (if_neg c_10).symm.trans hr
        refine lv_iinc (v := 1) (lv' := [(1, .int 1), (0, .ref h0)]) hx hb dX1_finish_46 hl (k := 0) rfl (by decide) (by decide) rfl (fun ls hl => ?_)
        refine lv_goto (tgt := 6) hx hb dX1_finish_49 (by decide) ?_
        refine lv_iload_n hx hb dX1_finish_6 rfl (lv_at hl 0 rfl) ?_
        refine lv_iconst (v := 4) hx hb dX1_finish_7 (by decide) ?_
        refine lz_ige (tgt := 52) hx hb dX1_finish_8 (by decide) (fun c_11 => absurd c_11 (by decide)) (fun c_11 => ?_)
        refine lv_aload_n hx hb dX1_finish_11 rfl (lv_at hl 1 rfl) ?_
        refine va_get (D := (dC, dI)) (ci := 1) (v := .ref gS) (C := RX1) (T := TX1) (N := 7) hx hb hts in_X1_finish_X1 hown hK hP 0 rfl rfl 1 (by decide) (hts (.fieldLink RX1 16 "FormRing$Matrix" "signs" "[I") (by decide +kernel)) (fun _ h9 => h9) rfl dX1_finish_12 ?_
        refine lv_iload_n hx hb dX1_finish_15 rfl (lv_at hl 0 rfl) ?_
        refine lv_aload_n hx hb dX1_finish_16 rfl (lv_at hl 1 rfl) ?_
        refine lv_aload_n hx hb dX1_finish_17 rfl (lv_at hl 1 rfl) ?_
        refine va_get (D := (dC, dI)) (ci := 1) (v := .ref gN) (C := RX1) (T := TX1) (N := 7) hx hb hts in_X1_finish_X1 hown hK hP 0 rfl rfl 0 (by decide) (hts (.fieldLink RX1 13 "FormRing$Matrix" "numbers" "[[I") (by decide +kernel)) (fun _ h9 => h9) rfl dX1_finish_18 ?_
        refine lv_iload_n hx hb dX1_finish_21 rfl (lv_at hl 0 rfl) ?_
        refine zz_ald hx hb hK hP 1 1 rfl rfl (q := q1) hF.2.1 zz_in1 dX1_finish_22 ?_
        cases e_12 : f_X1_findSign n r_2.2.2.2.2.1 r_2.2.1 with
        | none => rw [e_12, Option.bind_none] at hr; cases hr
        | some r_13 =>
          rw [e_12, Option.bind_some] at hr
          have hPc := hP.sub (ws' := [(h0, .inr (1, [.ref gN, .ref gS, .int r_2.2.2.2.2.1, .long r_2.2.2.2.2.2.1, .long r_2.2.2.2.2.2.2.1, .long r_2.2.2.2.2.2.2.2.1, .long r_2.2.2.2.2.2.2.2.2])), (q1, .inl (cI, 256, .inl r_2.2.1))]) [0, 3] rfl
          have hDc := hD.sub (ws' := [(h0, .inr (1, [.ref gN, .ref gS, .int r_2.2.2.2.2.1, .long r_2.2.2.2.2.2.1, .long r_2.2.2.2.2.2.2.1, .long r_2.2.2.2.2.2.2.2.1, .long r_2.2.2.2.2.2.2.2.2])), (q1, .inl (cI, 256, .inl r_2.2.1))]) [0, 3] (by decide) rfl
          have hKc := hK.sub (tys' := [(cI, .int)]) [0] rfl
          have hFc := va_free (wc := [(h0, .inr (1, [.ref gN, .ref gS, .int r_2.2.2.2.2.1, .long r_2.2.2.2.2.2.1, .long r_2.2.2.2.2.2.2.1, .long r_2.2.2.2.2.2.2.2.1, .long r_2.2.2.2.2.2.2.2.2])), (q1, .inl (cI, 256, .inl r_2.2.1))]) hD hS hA [0, 3] rfl
          refine va_calli (va_runV (As := [.ref q1]) (rest := [.int 1, .ref gS]) ⟨hx, hb, hml, hown, hts⟩ (c_X1_findSign l dC dI H.size h0 gN gS r_2.2.2.2.2.1 r_2.2.2.2.2.2.1 r_2.2.2.2.2.2.2.1 r_2.2.2.2.2.2.2.2.1 r_2.2.2.2.2.2.2.2.2 cI q1 r_2.2.1  n _ e_12) (cwV 1 hts gX1_finish_X1_findSign rfl rfl rfl (by decide +kernel) ⟨Nat.le_of_ble_eq_true rfl, Nat.le_of_ble_eq_true rfl⟩) ⟨fun a U g mk q => by obtain ⟨q0, q1, qP, qK, qD⟩ := q; exact ⟨q0, q1, qP, va_K.moved (u := U) (U := U.calling g mk a) (Vm.Alike.refl U.vm) qK, qD⟩, va_recv hKc hPc (ci := 1) (q0 := 0) rfl rfl, fun U hU hW => ⟨rfl, by rw [hU], by rw [hU]; exact hPc, va_K.moved hW.alike hKc, hDc.weaken (fun _ _ _ _ => trivial)⟩⟩ rfl rfl hl.1 rfl (lv_room (Nat.le_of_ble_eq_true rfl)) dX1_finish_23 ⟨Nat.zero_le _, Nat.zero_le _⟩) hS (fun q _ h => hFc q h) hFc (fun x_14 _ t H1 locs ht hvm hw hB hz1 hk1 hS => ?_)
          have hw := hw.symm
          subst hw
          obtain ⟨hP1, hK1, hD1⟩ := hB
          rw [ht] at hP1
          obtain ⟨hP, hD⟩ := va_join (wr := [(gN, .inl (cO, 4, .inr (.inr (.inr (.inr F))))), (q0, .inl (cI, 256, .inl r_2.1)), (q2, .inl (cI, 256, .inl r_2.2.2.1)), (q3, .inl (cI, 256, .inl r_2.2.2.2.1)), (gS, .inl (cI, 4, .inl (upd sg (0 : Int32).toNatClampNeg r_6)))]) (w1 := [(h0, .inr (1, [.ref gN, .ref gS, .int r_2.2.2.2.2.1, .long r_2.2.2.2.2.2.1, .long r_2.2.2.2.2.2.2.1, .long r_2.2.2.2.2.2.2.2.1, .long r_2.2.2.2.2.2.2.2.2])), (q1, .inl (cI, 256, .inl r_2.2.1))]) hP hD [0, 3] [1, 2, 4, 5, 6] rfl rfl (by decide) (by decide) hk1 hFc hP1 hD1
          generalize H1 = H at hP hS ⊢
          have hP := hP.sub (ws' := [(h0, .inr (1, [.ref gN, .ref gS, .int r_2.2.2.2.2.1, .long r_2.2.2.2.2.2.1, .long r_2.2.2.2.2.2.2.1, .long r_2.2.2.2.2.2.2.2.1, .long r_2.2.2.2.2.2.2.2.2])), (gN, .inl (cO, 4, .inr (.inr (.inr (.inr F))))), (q0, .inl (cI, 256, .inl r_2.1)), (q1, .inl (cI, 256, .inl r_2.2.1)), (q2, .inl (cI, 256, .inl r_2.2.2.1)), (q3, .inl (cI, 256, .inl r_2.2.2.2.1)), (gS, .inl (cI, 4, .inl (upd sg (0 : Int32).toNatClampNeg r_6)))]) [5, 0, 1, 6, 2, 3, 4] rfl
          have hD := hD.sub (ws' := [(h0, .inr (1, [.ref gN, .ref gS, .int r_2.2.2.2.2.1, .long r_2.2.2.2.2.2.1, .long r_2.2.2.2.2.2.2.1, .long r_2.2.2.2.2.2.2.2.1, .long r_2.2.2.2.2.2.2.2.2])), (gN, .inl (cO, 4, .inr (.inr (.inr (.inr F))))), (q0, .inl (cI, 256, .inl r_2.1)), (q1, .inl (cI, 256, .inl r_2.2.1)), (q2, .inl (cI, 256, .inl r_2.2.2.1)), (q3, .inl (cI, 256, .inl r_2.2.2.2.1)), (gS, .inl (cI, 4, .inl (upd sg (0 : Int32).toNatClampNeg r_6)))]) [5, 0, 1, 6, 2, 3, 4] (by decide) rfl
          have hP : va_P (dC, dI) vwCl [(h0, .inr (1, [.ref gN, .ref gS, .int r_2.2.2.2.2.1, .long r_2.2.2.2.2.2.1, .long r_2.2.2.2.2.2.2.1, .long r_2.2.2.2.2.2.2.2.1, .long r_2.2.2.2.2.2.2.2.2])), (gN, .inl (cO, 4, .inr (.inr (.inr (.inr F))))), (q0, .inl (cI, 256, .inl r_2.1)), (q1, .inl (cI, 256, .inl r_2.2.1)), (q2, .inl (cI, 256, .inl r_2.2.2.1)), (q3, .inl (cI, 256, .inl r_2.2.2.2.1)), (gS, .inl (cI, 4, .inl (upd sg (0 : Int32).toNatClampNeg r_6)))] H := hP
          have hD : va_D A [(h0, .inr (1, [.ref gN, .ref gS, .int r_2.2.2.2.2.1, .long r_2.2.2.2.2.2.1, .long r_2.2.2.2.2.2.2.1, .long r_2.2.2.2.2.2.2.2.1, .long r_2.2.2.2.2.2.2.2.2])), (gN, .inl (cO, 4, .inr (.inr (.inr (.inr F))))), (q0, .inl (cI, 256, .inl r_2.1)), (q1, .inl (cI, 256, .inl r_2.2.1)), (q2, .inl (cI, 256, .inl r_2.2.2.1)), (q3, .inl (cI, 256, .inl r_2.2.2.2.1)), (gS, .inl (cI, 4, .inl (upd sg (0 : Int32).toNatClampNeg r_6)))] := hD
          refine W.widen (k := 0) (n := 0) (Nat.le_refl _) (Nat.le_refl _) ?_
          by_cases g_15 : (1 : Int32) < 0 ∨ 4 ≤ (1 : Int32).toNatClampNeg
          · have hr := (if_pos g_15).symm.trans hr
            cases hr
          have hr := (if_neg g_15).symm.trans hr
          refine va_iast hx hb hK hP hD hS 6 0 rfl rfl g_15 dX1_finish_26 (fun H locs hP hD hS => ?_)
          have hP : va_P (dC, dI) vwCl [(h0, .inr (1, [.ref gN, .ref gS, .int r_2.2.2.2.2.1, .long r_2.2.2.2.2.2.1, .long r_2.2.2.2.2.2.2.1, .long r_2.2.2.2.2.2.2.2.1, .long r_2.2.2.2.2.2.2.2.2])), (gN, .inl (cO, 4, .inr (.inr (.inr (.inr F))))), (q0, .inl (cI, 256, .inl r_2.1)), (q1, .inl (cI, 256, .inl r_2.2.1)), (q2, .inl (cI, 256, .inl r_2.2.2.1)), (q3, .inl (cI, 256, .inl r_2.2.2.2.1)), (gS, .inl (cI, 4, .inl (upd (upd sg (0 : Int32).toNatClampNeg r_6) (1 : Int32).toNatClampNeg r_13)))] H := hP
          have hD : va_D A [(h0, .inr (1, [.ref gN, .ref gS, .int r_2.2.2.2.2.1, .long r_2.2.2.2.2.2.1, .long r_2.2.2.2.2.2.2.1, .long r_2.2.2.2.2.2.2.2.1, .long r_2.2.2.2.2.2.2.2.2])), (gN, .inl (cO, 4, .inr (.inr (.inr (.inr F))))), (q0, .inl (cI, 256, .inl r_2.1)), (q1, .inl (cI, 256, .inl r_2.2.1)), (q2, .inl (cI, 256, .inl r_2.2.2.1)), (q3, .inl (cI, 256, .inl r_2.2.2.2.1)), (gS, .inl (cI, 4, .inl (upd (upd sg (0 : Int32).toNatClampNeg r_6) (1 : Int32).toNatClampNeg r_13)))] := hD
          refine lv_aload_n hx hb dX1_finish_27 rfl (lv_at hl 1 rfl) ?_
          refine va_get (D := (dC, dI)) (ci := 1) (v := .ref gS) (C := RX1) (T := TX1) (N := 7) hx hb hts in_X1_finish_X1 hown hK hP 0 rfl rfl 1 (by decide) (hts (.fieldLink RX1 16 "FormRing$Matrix" "signs" "[I") (by decide +kernel)) (fun _ h9 => h9) rfl dX1_finish_28 ?_
          refine lv_iload_n hx hb dX1_finish_31 rfl (lv_at hl 0 rfl) ?_
          by_cases g_16 : (1 : Int32) < 0 ∨ 4 ≤ (1 : Int32).toNatClampNeg
          · have hr := (if_pos g_16).symm.trans hr
            cases hr
          have hr := (if_neg g_16).symm.trans hr
          refine va_iald hx hb hK hP 6 0 rfl rfl g_16 dX1_finish_32 ?_
          refine lz_zge (tgt := 46) hx hb dX1_finish_33 (by decide) (fun c_17 => ?_) (fun c_17 => ?_)
          · have hr := (if_neg c_17).symm.trans hr
            refine lv_iinc (v := 2) (lv' := [(1, .int 2), (0, .ref h0)]) hx hb dX1_finish_46 hl (k := 0) rfl (by decide) (by decide) rfl (fun ls hl => ?_)
            refine lv_goto (tgt := 6) hx hb dX1_finish_49 (by decide) ?_
            refine lv_iload_n hx hb dX1_finish_6 rfl (lv_at hl 0 rfl) ?_
            refine lv_iconst (v := 4) hx hb dX1_finish_7 (by decide) ?_
            refine lz_ige (tgt := 52) hx hb dX1_finish_8 (by decide) (fun c_18 => absurd c_18 (by decide)) (fun c_18 => ?_)
            refine lv_aload_n hx hb dX1_finish_11 rfl (lv_at hl 1 rfl) ?_
            refine va_get (D := (dC, dI)) (ci := 1) (v := .ref gS) (C := RX1) (T := TX1) (N := 7) hx hb hts in_X1_finish_X1 hown hK hP 0 rfl rfl 1 (by decide) (hts (.fieldLink RX1 16 "FormRing$Matrix" "signs" "[I") (by decide +kernel)) (fun _ h9 => h9) rfl dX1_finish_12 ?_
            refine lv_iload_n hx hb dX1_finish_15 rfl (lv_at hl 0 rfl) ?_
            refine lv_aload_n hx hb dX1_finish_16 rfl (lv_at hl 1 rfl) ?_
            refine lv_aload_n hx hb dX1_finish_17 rfl (lv_at hl 1 rfl) ?_
            refine va_get (D := (dC, dI)) (ci := 1) (v := .ref gN) (C := RX1) (T := TX1) (N := 7) hx hb hts in_X1_finish_X1 hown hK hP 0 rfl rfl 0 (by decide) (hts (.fieldLink RX1 13 "FormRing$Matrix" "numbers" "[[I") (by decide +kernel)) (fun _ h9 => h9) rfl dX1_finish_18 ?_
            refine lv_iload_n hx hb dX1_finish_21 rfl (lv_at hl 0 rfl) ?_
            refine zz_ald hx hb hK hP 1 1 rfl rfl (q := q2) hF.2.2.1 zz_in2 dX1_finish_22 ?_
            cases e_19 : f_X1_findSign n r_2.2.2.2.2.1 r_2.2.2.1 with
            | none => rw [e_19, Option.bind_none] at hr; cases hr
            | some r_20 =>
              rw [e_19, Option.bind_some] at hr
              have hPc := hP.sub (ws' := [(h0, .inr (1, [.ref gN, .ref gS, .int r_2.2.2.2.2.1, .long r_2.2.2.2.2.2.1, .long r_2.2.2.2.2.2.2.1, .long r_2.2.2.2.2.2.2.2.1, .long r_2.2.2.2.2.2.2.2.2])), (q2, .inl (cI, 256, .inl r_2.2.2.1))]) [0, 4] rfl
              have hDc := hD.sub (ws' := [(h0, .inr (1, [.ref gN, .ref gS, .int r_2.2.2.2.2.1, .long r_2.2.2.2.2.2.1, .long r_2.2.2.2.2.2.2.1, .long r_2.2.2.2.2.2.2.2.1, .long r_2.2.2.2.2.2.2.2.2])), (q2, .inl (cI, 256, .inl r_2.2.2.1))]) [0, 4] (by decide) rfl
              have hKc := hK.sub (tys' := [(cI, .int)]) [0] rfl
              have hFc := va_free (wc := [(h0, .inr (1, [.ref gN, .ref gS, .int r_2.2.2.2.2.1, .long r_2.2.2.2.2.2.1, .long r_2.2.2.2.2.2.2.1, .long r_2.2.2.2.2.2.2.2.1, .long r_2.2.2.2.2.2.2.2.2])), (q2, .inl (cI, 256, .inl r_2.2.2.1))]) hD hS hA [0, 4] rfl
              refine va_calli (va_runV (As := [.ref q2]) (rest := [.int 2, .ref gS]) ⟨hx, hb, hml, hown, hts⟩ (c_X1_findSign l dC dI H.size h0 gN gS r_2.2.2.2.2.1 r_2.2.2.2.2.2.1 r_2.2.2.2.2.2.2.1 r_2.2.2.2.2.2.2.2.1 r_2.2.2.2.2.2.2.2.2 cI q2 r_2.2.2.1  n _ e_19) (cwV 1 hts gX1_finish_X1_findSign rfl rfl rfl (by decide +kernel) ⟨Nat.le_of_ble_eq_true rfl, Nat.le_of_ble_eq_true rfl⟩) ⟨fun a U g mk q => by obtain ⟨q0, q1, qP, qK, qD⟩ := q; exact ⟨q0, q1, qP, va_K.moved (u := U) (U := U.calling g mk a) (Vm.Alike.refl U.vm) qK, qD⟩, va_recv hKc hPc (ci := 1) (q0 := 0) rfl rfl, fun U hU hW => ⟨rfl, by rw [hU], by rw [hU]; exact hPc, va_K.moved hW.alike hKc, hDc.weaken (fun _ _ _ _ => trivial)⟩⟩ rfl rfl hl.1 rfl (lv_room (Nat.le_of_ble_eq_true rfl)) dX1_finish_23 ⟨Nat.zero_le _, Nat.zero_le _⟩) hS (fun q _ h => hFc q h) hFc (fun x_21 _ t H1 locs ht hvm hw hB hz1 hk1 hS => ?_)
              have hw := hw.symm
              subst hw
              obtain ⟨hP1, hK1, hD1⟩ := hB
              rw [ht] at hP1
              obtain ⟨hP, hD⟩ := va_join (wr := [(gN, .inl (cO, 4, .inr (.inr (.inr (.inr F))))), (q0, .inl (cI, 256, .inl r_2.1)), (q1, .inl (cI, 256, .inl r_2.2.1)), (q3, .inl (cI, 256, .inl r_2.2.2.2.1)), (gS, .inl (cI, 4, .inl (upd (upd sg (0 : Int32).toNatClampNeg r_6) (1 : Int32).toNatClampNeg r_13)))]) (w1 := [(h0, .inr (1, [.ref gN, .ref gS, .int r_2.2.2.2.2.1, .long r_2.2.2.2.2.2.1, .long r_2.2.2.2.2.2.2.1, .long r_2.2.2.2.2.2.2.2.1, .long r_2.2.2.2.2.2.2.2.2])), (q2, .inl (cI, 256, .inl r_2.2.2.1))]) hP hD [0, 4] [1, 2, 3, 5, 6] rfl rfl (by decide) (by decide) hk1 hFc hP1 hD1
              generalize H1 = H at hP hS ⊢
              have hP := hP.sub (ws' := [(h0, .inr (1, [.ref gN, .ref gS, .int r_2.2.2.2.2.1, .long r_2.2.2.2.2.2.1, .long r_2.2.2.2.2.2.2.1, .long r_2.2.2.2.2.2.2.2.1, .long r_2.2.2.2.2.2.2.2.2])), (gN, .inl (cO, 4, .inr (.inr (.inr (.inr F))))), (q0, .inl (cI, 256, .inl r_2.1)), (q1, .inl (cI, 256, .inl r_2.2.1)), (q2, .inl (cI, 256, .inl r_2.2.2.1)), (q3, .inl (cI, 256, .inl r_2.2.2.2.1)), (gS, .inl (cI, 4, .inl (upd (upd sg (0 : Int32).toNatClampNeg r_6) (1 : Int32).toNatClampNeg r_13)))]) [5, 0, 1, 2, 6, 3, 4] rfl
              have hD := hD.sub (ws' := [(h0, .inr (1, [.ref gN, .ref gS, .int r_2.2.2.2.2.1, .long r_2.2.2.2.2.2.1, .long r_2.2.2.2.2.2.2.1, .long r_2.2.2.2.2.2.2.2.1, .long r_2.2.2.2.2.2.2.2.2])), (gN, .inl (cO, 4, .inr (.inr (.inr (.inr F))))), (q0, .inl (cI, 256, .inl r_2.1)), (q1, .inl (cI, 256, .inl r_2.2.1)), (q2, .inl (cI, 256, .inl r_2.2.2.1)), (q3, .inl (cI, 256, .inl r_2.2.2.2.1)), (gS, .inl (cI, 4, .inl (upd (upd sg (0 : Int32).toNatClampNeg r_6) (1 : Int32).toNatClampNeg r_13)))]) [5, 0, 1, 2, 6, 3, 4] (by decide) rfl
              have hP : va_P (dC, dI) vwCl [(h0, .inr (1, [.ref gN, .ref gS, .int r_2.2.2.2.2.1, .long r_2.2.2.2.2.2.1, .long r_2.2.2.2.2.2.2.1, .long r_2.2.2.2.2.2.2.2.1, .long r_2.2.2.2.2.2.2.2.2])), (gN, .inl (cO, 4, .inr (.inr (.inr (.inr F))))), (q0, .inl (cI, 256, .inl r_2.1)), (q1, .inl (cI, 256, .inl r_2.2.1)), (q2, .inl (cI, 256, .inl r_2.2.2.1)), (q3, .inl (cI, 256, .inl r_2.2.2.2.1)), (gS, .inl (cI, 4, .inl (upd (upd sg (0 : Int32).toNatClampNeg r_6) (1 : Int32).toNatClampNeg r_13)))] H := hP
              have hD : va_D A [(h0, .inr (1, [.ref gN, .ref gS, .int r_2.2.2.2.2.1, .long r_2.2.2.2.2.2.1, .long r_2.2.2.2.2.2.2.1, .long r_2.2.2.2.2.2.2.2.1, .long r_2.2.2.2.2.2.2.2.2])), (gN, .inl (cO, 4, .inr (.inr (.inr (.inr F))))), (q0, .inl (cI, 256, .inl r_2.1)), (q1, .inl (cI, 256, .inl r_2.2.1)), (q2, .inl (cI, 256, .inl r_2.2.2.1)), (q3, .inl (cI, 256, .inl r_2.2.2.2.1)), (gS, .inl (cI, 4, .inl (upd (upd sg (0 : Int32).toNatClampNeg r_6) (1 : Int32).toNatClampNeg r_13)))] := hD
              refine W.widen (k := 0) (n := 0) (Nat.le_refl _) (Nat.le_refl _) ?_
              by_cases g_22 : (2 : Int32) < 0 ∨ 4 ≤ (2 : Int32).toNatClampNeg
              · have hr := (if_pos g_22).symm.trans hr
                cases hr
              have hr := (if_neg g_22).symm.trans hr
              refine va_iast hx hb hK hP hD hS 6 0 rfl rfl g_22 dX1_finish_26 (fun H locs hP hD hS => ?_)
              have hP : va_P (dC, dI) vwCl [(h0, .inr (1, [.ref gN, .ref gS, .int r_2.2.2.2.2.1, .long r_2.2.2.2.2.2.1, .long r_2.2.2.2.2.2.2.1, .long r_2.2.2.2.2.2.2.2.1, .long r_2.2.2.2.2.2.2.2.2])), (gN, .inl (cO, 4, .inr (.inr (.inr (.inr F))))), (q0, .inl (cI, 256, .inl r_2.1)), (q1, .inl (cI, 256, .inl r_2.2.1)), (q2, .inl (cI, 256, .inl r_2.2.2.1)), (q3, .inl (cI, 256, .inl r_2.2.2.2.1)), (gS, .inl (cI, 4, .inl (upd (upd (upd sg (0 : Int32).toNatClampNeg r_6) (1 : Int32).toNatClampNeg r_13) (2 : Int32).toNatClampNeg r_20)))] H := hP
              have hD : va_D A [(h0, .inr (1, [.ref gN, .ref gS, .int r_2.2.2.2.2.1, .long r_2.2.2.2.2.2.1, .long r_2.2.2.2.2.2.2.1, .long r_2.2.2.2.2.2.2.2.1, .long r_2.2.2.2.2.2.2.2.2])), (gN, .inl (cO, 4, .inr (.inr (.inr (.inr F))))), (q0, .inl (cI, 256, .inl r_2.1)), (q1, .inl (cI, 256, .inl r_2.2.1)), (q2, .inl (cI, 256, .inl r_2.2.2.1)), (q3, .inl (cI, 256, .inl r_2.2.2.2.1)), (gS, .inl (cI, 4, .inl (upd (upd (upd sg (0 : Int32).toNatClampNeg r_6) (1 : Int32).toNatClampNeg r_13) (2 : Int32).toNatClampNeg r_20)))] := hD
              refine lv_aload_n hx hb dX1_finish_27 rfl (lv_at hl 1 rfl) ?_
              refine va_get (D := (dC, dI)) (ci := 1) (v := .ref gS) (C := RX1) (T := TX1) (N := 7) hx hb hts in_X1_finish_X1 hown hK hP 0 rfl rfl 1 (by decide) (hts (.fieldLink RX1 16 "FormRing$Matrix" "signs" "[I") (by decide +kernel)) (fun _ h9 => h9) rfl dX1_finish_28 ?_
              refine lv_iload_n hx hb dX1_finish_31 rfl (lv_at hl 0 rfl) ?_
              by_cases g_23 : (2 : Int32) < 0 ∨ 4 ≤ (2 : Int32).toNatClampNeg
              · have hr := (if_pos g_23).symm.trans hr
                cases hr
              have hr := (if_neg g_23).symm.trans hr
              refine va_iald hx hb hK hP 6 0 rfl rfl g_23 dX1_finish_32 ?_
              refine lz_zge (tgt := 46) hx hb dX1_finish_33 (by decide) (fun c_24 => ?_) (fun c_24 => ?_)
              · have hr := (if_neg c_24).symm.trans hr
                refine lv_iinc (v := 3) (lv' := [(1, .int 3), (0, .ref h0)]) hx hb dX1_finish_46 hl (k := 0) rfl (by decide) (by decide) rfl (fun ls hl => ?_)
                refine lv_goto (tgt := 6) hx hb dX1_finish_49 (by decide) ?_
                refine lv_iload_n hx hb dX1_finish_6 rfl (lv_at hl 0 rfl) ?_
                refine lv_iconst (v := 4) hx hb dX1_finish_7 (by decide) ?_
                refine lz_ige (tgt := 52) hx hb dX1_finish_8 (by decide) (fun c_25 => absurd c_25 (by decide)) (fun c_25 => ?_)
                refine lv_aload_n hx hb dX1_finish_11 rfl (lv_at hl 1 rfl) ?_
                refine va_get (D := (dC, dI)) (ci := 1) (v := .ref gS) (C := RX1) (T := TX1) (N := 7) hx hb hts in_X1_finish_X1 hown hK hP 0 rfl rfl 1 (by decide) (hts (.fieldLink RX1 16 "FormRing$Matrix" "signs" "[I") (by decide +kernel)) (fun _ h9 => h9) rfl dX1_finish_12 ?_
                refine lv_iload_n hx hb dX1_finish_15 rfl (lv_at hl 0 rfl) ?_
                refine lv_aload_n hx hb dX1_finish_16 rfl (lv_at hl 1 rfl) ?_
                refine lv_aload_n hx hb dX1_finish_17 rfl (lv_at hl 1 rfl) ?_
                refine va_get (D := (dC, dI)) (ci := 1) (v := .ref gN) (C := RX1) (T := TX1) (N := 7) hx hb hts in_X1_finish_X1 hown hK hP 0 rfl rfl 0 (by decide) (hts (.fieldLink RX1 13 "FormRing$Matrix" "numbers" "[[I") (by decide +kernel)) (fun _ h9 => h9) rfl dX1_finish_18 ?_
                refine lv_iload_n hx hb dX1_finish_21 rfl (lv_at hl 0 rfl) ?_
                refine zz_ald hx hb hK hP 1 1 rfl rfl (q := q3) hF.2.2.2 zz_in3 dX1_finish_22 ?_
                cases e_26 : f_X1_findSign n r_2.2.2.2.2.1 r_2.2.2.2.1 with
                | none => rw [e_26, Option.bind_none] at hr; cases hr
                | some r_27 =>
                  rw [e_26, Option.bind_some] at hr
                  have hPc := hP.sub (ws' := [(h0, .inr (1, [.ref gN, .ref gS, .int r_2.2.2.2.2.1, .long r_2.2.2.2.2.2.1, .long r_2.2.2.2.2.2.2.1, .long r_2.2.2.2.2.2.2.2.1, .long r_2.2.2.2.2.2.2.2.2])), (q3, .inl (cI, 256, .inl r_2.2.2.2.1))]) [0, 5] rfl
                  have hDc := hD.sub (ws' := [(h0, .inr (1, [.ref gN, .ref gS, .int r_2.2.2.2.2.1, .long r_2.2.2.2.2.2.1, .long r_2.2.2.2.2.2.2.1, .long r_2.2.2.2.2.2.2.2.1, .long r_2.2.2.2.2.2.2.2.2])), (q3, .inl (cI, 256, .inl r_2.2.2.2.1))]) [0, 5] (by decide) rfl
                  have hKc := hK.sub (tys' := [(cI, .int)]) [0] rfl
                  have hFc := va_free (wc := [(h0, .inr (1, [.ref gN, .ref gS, .int r_2.2.2.2.2.1, .long r_2.2.2.2.2.2.1, .long r_2.2.2.2.2.2.2.1, .long r_2.2.2.2.2.2.2.2.1, .long r_2.2.2.2.2.2.2.2.2])), (q3, .inl (cI, 256, .inl r_2.2.2.2.1))]) hD hS hA [0, 5] rfl
                  refine va_calli (va_runV (As := [.ref q3]) (rest := [.int 3, .ref gS]) ⟨hx, hb, hml, hown, hts⟩ (c_X1_findSign l dC dI H.size h0 gN gS r_2.2.2.2.2.1 r_2.2.2.2.2.2.1 r_2.2.2.2.2.2.2.1 r_2.2.2.2.2.2.2.2.1 r_2.2.2.2.2.2.2.2.2 cI q3 r_2.2.2.2.1  n _ e_26) (cwV 1 hts gX1_finish_X1_findSign rfl rfl rfl (by decide +kernel) ⟨Nat.le_of_ble_eq_true rfl, Nat.le_of_ble_eq_true rfl⟩) ⟨fun a U g mk q => by obtain ⟨q0, q1, qP, qK, qD⟩ := q; exact ⟨q0, q1, qP, va_K.moved (u := U) (U := U.calling g mk a) (Vm.Alike.refl U.vm) qK, qD⟩, va_recv hKc hPc (ci := 1) (q0 := 0) rfl rfl, fun U hU hW => ⟨rfl, by rw [hU], by rw [hU]; exact hPc, va_K.moved hW.alike hKc, hDc.weaken (fun _ _ _ _ => trivial)⟩⟩ rfl rfl hl.1 rfl (lv_room (Nat.le_of_ble_eq_true rfl)) dX1_finish_23 ⟨Nat.zero_le _, Nat.zero_le _⟩) hS (fun q _ h => hFc q h) hFc (fun x_28 _ t H1 locs ht hvm hw hB hz1 hk1 hS => ?_)
                  have hw := hw.symm
                  subst hw
                  obtain ⟨hP1, hK1, hD1⟩ := hB
                  rw [ht] at hP1
                  obtain ⟨hP, hD⟩ := va_join (wr := [(gN, .inl (cO, 4, .inr (.inr (.inr (.inr F))))), (q0, .inl (cI, 256, .inl r_2.1)), (q1, .inl (cI, 256, .inl r_2.2.1)), (q2, .inl (cI, 256, .inl r_2.2.2.1)), (gS, .inl (cI, 4, .inl (upd (upd (upd sg (0 : Int32).toNatClampNeg r_6) (1 : Int32).toNatClampNeg r_13) (2 : Int32).toNatClampNeg r_20)))]) (w1 := [(h0, .inr (1, [.ref gN, .ref gS, .int r_2.2.2.2.2.1, .long r_2.2.2.2.2.2.1, .long r_2.2.2.2.2.2.2.1, .long r_2.2.2.2.2.2.2.2.1, .long r_2.2.2.2.2.2.2.2.2])), (q3, .inl (cI, 256, .inl r_2.2.2.2.1))]) hP hD [0, 5] [1, 2, 3, 4, 6] rfl rfl (by decide) (by decide) hk1 hFc hP1 hD1
                  generalize H1 = H at hP hS ⊢
                  have hP := hP.sub (ws' := [(h0, .inr (1, [.ref gN, .ref gS, .int r_2.2.2.2.2.1, .long r_2.2.2.2.2.2.1, .long r_2.2.2.2.2.2.2.1, .long r_2.2.2.2.2.2.2.2.1, .long r_2.2.2.2.2.2.2.2.2])), (gN, .inl (cO, 4, .inr (.inr (.inr (.inr F))))), (q0, .inl (cI, 256, .inl r_2.1)), (q1, .inl (cI, 256, .inl r_2.2.1)), (q2, .inl (cI, 256, .inl r_2.2.2.1)), (q3, .inl (cI, 256, .inl r_2.2.2.2.1)), (gS, .inl (cI, 4, .inl (upd (upd (upd sg (0 : Int32).toNatClampNeg r_6) (1 : Int32).toNatClampNeg r_13) (2 : Int32).toNatClampNeg r_20)))]) [5, 0, 1, 2, 3, 6, 4] rfl
                  have hD := hD.sub (ws' := [(h0, .inr (1, [.ref gN, .ref gS, .int r_2.2.2.2.2.1, .long r_2.2.2.2.2.2.1, .long r_2.2.2.2.2.2.2.1, .long r_2.2.2.2.2.2.2.2.1, .long r_2.2.2.2.2.2.2.2.2])), (gN, .inl (cO, 4, .inr (.inr (.inr (.inr F))))), (q0, .inl (cI, 256, .inl r_2.1)), (q1, .inl (cI, 256, .inl r_2.2.1)), (q2, .inl (cI, 256, .inl r_2.2.2.1)), (q3, .inl (cI, 256, .inl r_2.2.2.2.1)), (gS, .inl (cI, 4, .inl (upd (upd (upd sg (0 : Int32).toNatClampNeg r_6) (1 : Int32).toNatClampNeg r_13) (2 : Int32).toNatClampNeg r_20)))]) [5, 0, 1, 2, 3, 6, 4] (by decide) rfl
                  have hP : va_P (dC, dI) vwCl [(h0, .inr (1, [.ref gN, .ref gS, .int r_2.2.2.2.2.1, .long r_2.2.2.2.2.2.1, .long r_2.2.2.2.2.2.2.1, .long r_2.2.2.2.2.2.2.2.1, .long r_2.2.2.2.2.2.2.2.2])), (gN, .inl (cO, 4, .inr (.inr (.inr (.inr F))))), (q0, .inl (cI, 256, .inl r_2.1)), (q1, .inl (cI, 256, .inl r_2.2.1)), (q2, .inl (cI, 256, .inl r_2.2.2.1)), (q3, .inl (cI, 256, .inl r_2.2.2.2.1)), (gS, .inl (cI, 4, .inl (upd (upd (upd sg (0 : Int32).toNatClampNeg r_6) (1 : Int32).toNatClampNeg r_13) (2 : Int32).toNatClampNeg r_20)))] H := hP
                  have hD : va_D A [(h0, .inr (1, [.ref gN, .ref gS, .int r_2.2.2.2.2.1, .long r_2.2.2.2.2.2.1, .long r_2.2.2.2.2.2.2.1, .long r_2.2.2.2.2.2.2.2.1, .long r_2.2.2.2.2.2.2.2.2])), (gN, .inl (cO, 4, .inr (.inr (.inr (.inr F))))), (q0, .inl (cI, 256, .inl r_2.1)), (q1, .inl (cI, 256, .inl r_2.2.1)), (q2, .inl (cI, 256, .inl r_2.2.2.1)), (q3, .inl (cI, 256, .inl r_2.2.2.2.1)), (gS, .inl (cI, 4, .inl (upd (upd (upd sg (0 : Int32).toNatClampNeg r_6) (1 : Int32).toNatClampNeg r_13) (2 : Int32).toNatClampNeg r_20)))] := hD
                  refine W.widen (k := 0) (n := 0) (Nat.le_refl _) (Nat.le_refl _) ?_
                  by_cases g_29 : (3 : Int32) < 0 ∨ 4 ≤ (3 : Int32).toNatClampNeg
                  · have hr := (if_pos g_29).symm.trans hr
                    cases hr
                  have hr := (if_neg g_29).symm.trans hr
                  refine va_iast hx hb hK hP hD hS 6 0 rfl rfl g_29 dX1_finish_26 (fun H locs hP hD hS => ?_)
                  have hP : va_P (dC, dI) vwCl [(h0, .inr (1, [.ref gN, .ref gS, .int r_2.2.2.2.2.1, .long r_2.2.2.2.2.2.1, .long r_2.2.2.2.2.2.2.1, .long r_2.2.2.2.2.2.2.2.1, .long r_2.2.2.2.2.2.2.2.2])), (gN, .inl (cO, 4, .inr (.inr (.inr (.inr F))))), (q0, .inl (cI, 256, .inl r_2.1)), (q1, .inl (cI, 256, .inl r_2.2.1)), (q2, .inl (cI, 256, .inl r_2.2.2.1)), (q3, .inl (cI, 256, .inl r_2.2.2.2.1)), (gS, .inl (cI, 4, .inl (upd (upd (upd (upd sg (0 : Int32).toNatClampNeg r_6) (1 : Int32).toNatClampNeg r_13) (2 : Int32).toNatClampNeg r_20) (3 : Int32).toNatClampNeg r_27)))] H := hP
                  have hD : va_D A [(h0, .inr (1, [.ref gN, .ref gS, .int r_2.2.2.2.2.1, .long r_2.2.2.2.2.2.1, .long r_2.2.2.2.2.2.2.1, .long r_2.2.2.2.2.2.2.2.1, .long r_2.2.2.2.2.2.2.2.2])), (gN, .inl (cO, 4, .inr (.inr (.inr (.inr F))))), (q0, .inl (cI, 256, .inl r_2.1)), (q1, .inl (cI, 256, .inl r_2.2.1)), (q2, .inl (cI, 256, .inl r_2.2.2.1)), (q3, .inl (cI, 256, .inl r_2.2.2.2.1)), (gS, .inl (cI, 4, .inl (upd (upd (upd (upd sg (0 : Int32).toNatClampNeg r_6) (1 : Int32).toNatClampNeg r_13) (2 : Int32).toNatClampNeg r_20) (3 : Int32).toNatClampNeg r_27)))] := hD
                  refine lv_aload_n hx hb dX1_finish_27 rfl (lv_at hl 1 rfl) ?_
                  refine va_get (D := (dC, dI)) (ci := 1) (v := .ref gS) (C := RX1) (T := TX1) (N := 7) hx hb hts in_X1_finish_X1 hown hK hP 0 rfl rfl 1 (by decide) (hts (.fieldLink RX1 16 "FormRing$Matrix" "signs" "[I") (by decide +kernel)) (fun _ h9 => h9) rfl dX1_finish_28 ?_
                  refine lv_iload_n hx hb dX1_finish_31 rfl (lv_at hl 0 rfl) ?_
                  by_cases g_30 : (3 : Int32) < 0 ∨ 4 ≤ (3 : Int32).toNatClampNeg
                  · have hr := (if_pos g_30).symm.trans hr
                    cases hr
                  have hr := (if_neg g_30).symm.trans hr
                  refine va_iald hx hb hK hP 6 0 rfl rfl g_30 dX1_finish_32 ?_
                  refine lz_zge (tgt := 46) hx hb dX1_finish_33 (by decide) (fun c_31 => ?_) (fun c_31 => ?_)
                  · have hr := (if_neg c_31).symm.trans hr
                    refine lv_iinc (v := 4) (lv' := [(1, .int 4), (0, .ref h0)]) hx hb dX1_finish_46 hl (k := 0) rfl (by decide) (by decide) rfl (fun ls hl => ?_)
                    refine lv_goto (tgt := 6) hx hb dX1_finish_49 (by decide) ?_
                    refine lv_iload_n hx hb dX1_finish_6 rfl (lv_at hl 0 rfl) ?_
                    refine lv_iconst (v := 4) hx hb dX1_finish_7 (by decide) ?_
                    refine lz_ige (tgt := 52) hx hb dX1_finish_8 (by decide) (fun c_32 => ?_) (fun c_32 => absurd c_32 (by decide))
                    have ho := Option.some.inj hr
                    subst ho
                    exact W.vret hx hb hrt (fun t ht hW => ⟨⟨(), rfl, trivial, by rw [ht]; exact hP, va_K.moved hW.alike hK, hD⟩, hS.F ht⟩) hS.2.2 dX1_finish_52
                  · have hr := (if_pos c_31).symm.trans hr
                    refine lv_aload_n hx hb dX1_finish_36 rfl (lv_at hl 1 rfl) ?_
                    refine lv_aload_n hx hb dX1_finish_37 rfl (lv_at hl 1 rfl) ?_
                    refine va_get (D := (dC, dI)) (ci := 1) (v := .ref gN) (C := RX1) (T := TX1) (N := 7) hx hb hts in_X1_finish_X1 hown hK hP 0 rfl rfl 0 (by decide) (hts (.fieldLink RX1 13 "FormRing$Matrix" "numbers" "[[I") (by decide +kernel)) (fun _ h9 => h9) rfl dX1_finish_38 ?_
                    refine lv_iload_n hx hb dX1_finish_41 rfl (lv_at hl 0 rfl) ?_
                    refine zz_ald hx hb hK hP 1 1 rfl rfl (q := q3) hF.2.2.2 zz_in3 dX1_finish_42 ?_
                    cases e_33 : f_X1_negate n r_2.2.2.2.2.1 r_2.2.2.2.1 with
                    | none => rw [e_33, Option.bind_none] at hr; cases hr
                    | some r_34 =>
                      rw [e_33, Option.bind_some] at hr
                      have hPc := hP.sub (ws' := [(h0, .inr (1, [.ref gN, .ref gS, .int r_2.2.2.2.2.1, .long r_2.2.2.2.2.2.1, .long r_2.2.2.2.2.2.2.1, .long r_2.2.2.2.2.2.2.2.1, .long r_2.2.2.2.2.2.2.2.2])), (q3, .inl (cI, 256, .inl r_2.2.2.2.1))]) [0, 5] rfl
                      have hDc := hD.sub (ws' := [(h0, .inr (1, [.ref gN, .ref gS, .int r_2.2.2.2.2.1, .long r_2.2.2.2.2.2.1, .long r_2.2.2.2.2.2.2.1, .long r_2.2.2.2.2.2.2.2.1, .long r_2.2.2.2.2.2.2.2.2])), (q3, .inl (cI, 256, .inl r_2.2.2.2.1))]) [0, 5] (by decide) rfl
                      have hKc := hK.sub (tys' := [(cI, .int)]) [0] rfl
                      have hFc := va_free (wc := [(h0, .inr (1, [.ref gN, .ref gS, .int r_2.2.2.2.2.1, .long r_2.2.2.2.2.2.1, .long r_2.2.2.2.2.2.2.1, .long r_2.2.2.2.2.2.2.2.1, .long r_2.2.2.2.2.2.2.2.2])), (q3, .inl (cI, 256, .inl r_2.2.2.2.1))]) hD hS hA [0, 5] rfl
                      refine va_callv (va_runV (As := [.ref q3]) (rest := []) ⟨hx, hb, hml, hown, hts⟩ (c_X1_negate l dC dI H.size h0 gN gS r_2.2.2.2.2.1 r_2.2.2.2.2.2.1 r_2.2.2.2.2.2.2.1 r_2.2.2.2.2.2.2.2.1 r_2.2.2.2.2.2.2.2.2 cI q3 r_2.2.2.2.1  n _ e_33) (cwV 1 hts gX1_finish_X1_negate rfl rfl rfl (by decide +kernel) ⟨Nat.le_of_ble_eq_true rfl, Nat.le_of_ble_eq_true rfl⟩) ⟨fun a U g mk q => by obtain ⟨q0, q1, qP, qK, qD⟩ := q; exact ⟨q0, q1, qP, va_K.moved (u := U) (U := U.calling g mk a) (Vm.Alike.refl U.vm) qK, qD⟩, va_recv hKc hPc (ci := 1) (q0 := 0) rfl rfl, fun U hU hW => ⟨rfl, by rw [hU], by rw [hU]; exact hPc, va_K.moved hW.alike hKc, hDc.weaken (fun _ _ _ _ => trivial)⟩⟩ rfl rfl hl.1 rfl (lv_room (Nat.le_of_ble_eq_true rfl)) dX1_finish_43 ⟨Nat.zero_le _, Nat.zero_le _⟩) hS (fun q _ h => hFc q h) hFc (fun _ t H1 locs ht hvm hw hB hz1 hk1 hS => ?_)
                      obtain ⟨hP1, hK1, hD1⟩ := hB
                      rw [ht] at hP1
                      obtain ⟨hP, hD⟩ := va_join (wr := [(gN, .inl (cO, 4, .inr (.inr (.inr (.inr F))))), (q0, .inl (cI, 256, .inl r_2.1)), (q1, .inl (cI, 256, .inl r_2.2.1)), (q2, .inl (cI, 256, .inl r_2.2.2.1)), (gS, .inl (cI, 4, .inl (upd (upd (upd (upd sg (0 : Int32).toNatClampNeg r_6) (1 : Int32).toNatClampNeg r_13) (2 : Int32).toNatClampNeg r_20) (3 : Int32).toNatClampNeg r_27)))]) (w1 := [(h0, .inr (1, [.ref gN, .ref gS, .int r_2.2.2.2.2.1, .long r_2.2.2.2.2.2.1, .long r_2.2.2.2.2.2.2.1, .long r_2.2.2.2.2.2.2.2.1, .long r_2.2.2.2.2.2.2.2.2])), (q3, .inl (cI, 256, .inl r_34))]) hP hD [0, 5] [1, 2, 3, 4, 6] rfl rfl (by decide) (by decide) hk1 hFc hP1 hD1
                      generalize H1 = H at hP hS ⊢
                      have hP := hP.sub (ws' := [(h0, .inr (1, [.ref gN, .ref gS, .int r_2.2.2.2.2.1, .long r_2.2.2.2.2.2.1, .long r_2.2.2.2.2.2.2.1, .long r_2.2.2.2.2.2.2.2.1, .long r_2.2.2.2.2.2.2.2.2])), (gN, .inl (cO, 4, .inr (.inr (.inr (.inr F))))), (q0, .inl (cI, 256, .inl r_2.1)), (q1, .inl (cI, 256, .inl r_2.2.1)), (q2, .inl (cI, 256, .inl r_2.2.2.1)), (q3, .inl (cI, 256, .inl r_34)), (gS, .inl (cI, 4, .inl (upd (upd (upd (upd sg (0 : Int32).toNatClampNeg r_6) (1 : Int32).toNatClampNeg r_13) (2 : Int32).toNatClampNeg r_20) (3 : Int32).toNatClampNeg r_27)))]) [5, 0, 1, 2, 3, 6, 4] rfl
                      have hD := hD.sub (ws' := [(h0, .inr (1, [.ref gN, .ref gS, .int r_2.2.2.2.2.1, .long r_2.2.2.2.2.2.1, .long r_2.2.2.2.2.2.2.1, .long r_2.2.2.2.2.2.2.2.1, .long r_2.2.2.2.2.2.2.2.2])), (gN, .inl (cO, 4, .inr (.inr (.inr (.inr F))))), (q0, .inl (cI, 256, .inl r_2.1)), (q1, .inl (cI, 256, .inl r_2.2.1)), (q2, .inl (cI, 256, .inl r_2.2.2.1)), (q3, .inl (cI, 256, .inl r_34)), (gS, .inl (cI, 4, .inl (upd (upd (upd (upd sg (0 : Int32).toNatClampNeg r_6) (1 : Int32).toNatClampNeg r_13) (2 : Int32).toNatClampNeg r_20) (3 : Int32).toNatClampNeg r_27)))]) [5, 0, 1, 2, 3, 6, 4] (by decide) rfl
                      have hP : va_P (dC, dI) vwCl [(h0, .inr (1, [.ref gN, .ref gS, .int r_2.2.2.2.2.1, .long r_2.2.2.2.2.2.1, .long r_2.2.2.2.2.2.2.1, .long r_2.2.2.2.2.2.2.2.1, .long r_2.2.2.2.2.2.2.2.2])), (gN, .inl (cO, 4, .inr (.inr (.inr (.inr F))))), (q0, .inl (cI, 256, .inl r_2.1)), (q1, .inl (cI, 256, .inl r_2.2.1)), (q2, .inl (cI, 256, .inl r_2.2.2.1)), (q3, .inl (cI, 256, .inl r_34)), (gS, .inl (cI, 4, .inl (upd (upd (upd (upd sg (0 : Int32).toNatClampNeg r_6) (1 : Int32).toNatClampNeg r_13) (2 : Int32).toNatClampNeg r_20) (3 : Int32).toNatClampNeg r_27)))] H := hP
                      have hD : va_D A [(h0, .inr (1, [.ref gN, .ref gS, .int r_2.2.2.2.2.1, .long r_2.2.2.2.2.2.1, .long r_2.2.2.2.2.2.2.1, .long r_2.2.2.2.2.2.2.2.1, .long r_2.2.2.2.2.2.2.2.2])), (gN, .inl (cO, 4, .inr (.inr (.inr (.inr F))))), (q0, .inl (cI, 256, .inl r_2.1)), (q1, .inl (cI, 256, .inl r_2.2.1)), (q2, .inl (cI, 256, .inl r_2.2.2.1)), (q3, .inl (cI, 256, .inl r_34)), (gS, .inl (cI, 4, .inl (upd (upd (upd (upd sg (0 : Int32).toNatClampNeg r_6) (1 : Int32).toNatClampNeg r_13) (2 : Int32).toNatClampNeg r_20) (3 : Int32).toNatClampNeg r_27)))] := hD
                      refine W.widen (k := 0) (n := 0) (Nat.le_refl _) (Nat.le_refl _) ?_
                      refine lv_iinc (v := 4) (lv' := [(1, .int 4), (0, .ref h0)]) hx hb dX1_finish_46 hl (k := 0) rfl (by decide) (by decide) rfl (fun ls hl => ?_)
                      refine lv_goto (tgt := 6) hx hb dX1_finish_49 (by decide) ?_
                      refine lv_iload_n hx hb dX1_finish_6 rfl (lv_at hl 0 rfl) ?_
                      refine lv_iconst (v := 4) hx hb dX1_finish_7 (by decide) ?_
                      refine lz_ige (tgt := 52) hx hb dX1_finish_8 (by decide) (fun c_36 => ?_) (fun c_36 => absurd c_36 (by decide))
                      have ho := Option.some.inj hr
                      subst ho
                      exact W.vret hx hb hrt (fun t ht hW => ⟨⟨(), rfl, trivial, by rw [ht]; exact hP, va_K.moved hW.alike hK, hD⟩, hS.F ht⟩) hS.2.2 dX1_finish_52
              · have hr := (if_pos c_24).symm.trans hr
                refine lv_aload_n hx hb dX1_finish_36 rfl (lv_at hl 1 rfl) ?_
                refine lv_aload_n hx hb dX1_finish_37 rfl (lv_at hl 1 rfl) ?_
                refine va_get (D := (dC, dI)) (ci := 1) (v := .ref gN) (C := RX1) (T := TX1) (N := 7) hx hb hts in_X1_finish_X1 hown hK hP 0 rfl rfl 0 (by decide) (hts (.fieldLink RX1 13 "FormRing$Matrix" "numbers" "[[I") (by decide +kernel)) (fun _ h9 => h9) rfl dX1_finish_38 ?_
                refine lv_iload_n hx hb dX1_finish_41 rfl (lv_at hl 0 rfl) ?_
                refine zz_ald hx hb hK hP 1 1 rfl rfl (q := q2) hF.2.2.1 zz_in2 dX1_finish_42 ?_
                cases e_37 : f_X1_negate n r_2.2.2.2.2.1 r_2.2.2.1 with
                | none => rw [e_37, Option.bind_none] at hr; cases hr
                | some r_38 =>
                  rw [e_37, Option.bind_some] at hr
                  have hPc := hP.sub (ws' := [(h0, .inr (1, [.ref gN, .ref gS, .int r_2.2.2.2.2.1, .long r_2.2.2.2.2.2.1, .long r_2.2.2.2.2.2.2.1, .long r_2.2.2.2.2.2.2.2.1, .long r_2.2.2.2.2.2.2.2.2])), (q2, .inl (cI, 256, .inl r_2.2.2.1))]) [0, 4] rfl
                  have hDc := hD.sub (ws' := [(h0, .inr (1, [.ref gN, .ref gS, .int r_2.2.2.2.2.1, .long r_2.2.2.2.2.2.1, .long r_2.2.2.2.2.2.2.1, .long r_2.2.2.2.2.2.2.2.1, .long r_2.2.2.2.2.2.2.2.2])), (q2, .inl (cI, 256, .inl r_2.2.2.1))]) [0, 4] (by decide) rfl
                  have hKc := hK.sub (tys' := [(cI, .int)]) [0] rfl
                  have hFc := va_free (wc := [(h0, .inr (1, [.ref gN, .ref gS, .int r_2.2.2.2.2.1, .long r_2.2.2.2.2.2.1, .long r_2.2.2.2.2.2.2.1, .long r_2.2.2.2.2.2.2.2.1, .long r_2.2.2.2.2.2.2.2.2])), (q2, .inl (cI, 256, .inl r_2.2.2.1))]) hD hS hA [0, 4] rfl
                  refine va_callv (va_runV (As := [.ref q2]) (rest := []) ⟨hx, hb, hml, hown, hts⟩ (c_X1_negate l dC dI H.size h0 gN gS r_2.2.2.2.2.1 r_2.2.2.2.2.2.1 r_2.2.2.2.2.2.2.1 r_2.2.2.2.2.2.2.2.1 r_2.2.2.2.2.2.2.2.2 cI q2 r_2.2.2.1  n _ e_37) (cwV 1 hts gX1_finish_X1_negate rfl rfl rfl (by decide +kernel) ⟨Nat.le_of_ble_eq_true rfl, Nat.le_of_ble_eq_true rfl⟩) ⟨fun a U g mk q => by obtain ⟨q0, q1, qP, qK, qD⟩ := q; exact ⟨q0, q1, qP, va_K.moved (u := U) (U := U.calling g mk a) (Vm.Alike.refl U.vm) qK, qD⟩, va_recv hKc hPc (ci := 1) (q0 := 0) rfl rfl, fun U hU hW => ⟨rfl, by rw [hU], by rw [hU]; exact hPc, va_K.moved hW.alike hKc, hDc.weaken (fun _ _ _ _ => trivial)⟩⟩ rfl rfl hl.1 rfl (lv_room (Nat.le_of_ble_eq_true rfl)) dX1_finish_43 ⟨Nat.zero_le _, Nat.zero_le _⟩) hS (fun q _ h => hFc q h) hFc (fun _ t H1 locs ht hvm hw hB hz1 hk1 hS => ?_)
                  obtain ⟨hP1, hK1, hD1⟩ := hB
                  rw [ht] at hP1
                  obtain ⟨hP, hD⟩ := va_join (wr := [(gN, .inl (cO, 4, .inr (.inr (.inr (.inr F))))), (q0, .inl (cI, 256, .inl r_2.1)), (q1, .inl (cI, 256, .inl r_2.2.1)), (q3, .inl (cI, 256, .inl r_2.2.2.2.1)), (gS, .inl (cI, 4, .inl (upd (upd (upd sg (0 : Int32).toNatClampNeg r_6) (1 : Int32).toNatClampNeg r_13) (2 : Int32).toNatClampNeg r_20)))]) (w1 := [(h0, .inr (1, [.ref gN, .ref gS, .int r_2.2.2.2.2.1, .long r_2.2.2.2.2.2.1, .long r_2.2.2.2.2.2.2.1, .long r_2.2.2.2.2.2.2.2.1, .long r_2.2.2.2.2.2.2.2.2])), (q2, .inl (cI, 256, .inl r_38))]) hP hD [0, 4] [1, 2, 3, 5, 6] rfl rfl (by decide) (by decide) hk1 hFc hP1 hD1
                  generalize H1 = H at hP hS ⊢
                  have hP := hP.sub (ws' := [(h0, .inr (1, [.ref gN, .ref gS, .int r_2.2.2.2.2.1, .long r_2.2.2.2.2.2.1, .long r_2.2.2.2.2.2.2.1, .long r_2.2.2.2.2.2.2.2.1, .long r_2.2.2.2.2.2.2.2.2])), (gN, .inl (cO, 4, .inr (.inr (.inr (.inr F))))), (q0, .inl (cI, 256, .inl r_2.1)), (q1, .inl (cI, 256, .inl r_2.2.1)), (q2, .inl (cI, 256, .inl r_38)), (q3, .inl (cI, 256, .inl r_2.2.2.2.1)), (gS, .inl (cI, 4, .inl (upd (upd (upd sg (0 : Int32).toNatClampNeg r_6) (1 : Int32).toNatClampNeg r_13) (2 : Int32).toNatClampNeg r_20)))]) [5, 0, 1, 2, 6, 3, 4] rfl
                  have hD := hD.sub (ws' := [(h0, .inr (1, [.ref gN, .ref gS, .int r_2.2.2.2.2.1, .long r_2.2.2.2.2.2.1, .long r_2.2.2.2.2.2.2.1, .long r_2.2.2.2.2.2.2.2.1, .long r_2.2.2.2.2.2.2.2.2])), (gN, .inl (cO, 4, .inr (.inr (.inr (.inr F))))), (q0, .inl (cI, 256, .inl r_2.1)), (q1, .inl (cI, 256, .inl r_2.2.1)), (q2, .inl (cI, 256, .inl r_38)), (q3, .inl (cI, 256, .inl r_2.2.2.2.1)), (gS, .inl (cI, 4, .inl (upd (upd (upd sg (0 : Int32).toNatClampNeg r_6) (1 : Int32).toNatClampNeg r_13) (2 : Int32).toNatClampNeg r_20)))]) [5, 0, 1, 2, 6, 3, 4] (by decide) rfl
                  have hP : va_P (dC, dI) vwCl [(h0, .inr (1, [.ref gN, .ref gS, .int r_2.2.2.2.2.1, .long r_2.2.2.2.2.2.1, .long r_2.2.2.2.2.2.2.1, .long r_2.2.2.2.2.2.2.2.1, .long r_2.2.2.2.2.2.2.2.2])), (gN, .inl (cO, 4, .inr (.inr (.inr (.inr F))))), (q0, .inl (cI, 256, .inl r_2.1)), (q1, .inl (cI, 256, .inl r_2.2.1)), (q2, .inl (cI, 256, .inl r_38)), (q3, .inl (cI, 256, .inl r_2.2.2.2.1)), (gS, .inl (cI, 4, .inl (upd (upd (upd sg (0 : Int32).toNatClampNeg r_6) (1 : Int32).toNatClampNeg r_13) (2 : Int32).toNatClampNeg r_20)))] H := hP
                  have hD : va_D A [(h0, .inr (1, [.ref gN, .ref gS, .int r_2.2.2.2.2.1, .long r_2.2.2.2.2.2.1, .long r_2.2.2.2.2.2.2.1, .long r_2.2.2.2.2.2.2.2.1, .long r_2.2.2.2.2.2.2.2.2])), (gN, .inl (cO, 4, .inr (.inr (.inr (.inr F))))), (q0, .inl (cI, 256, .inl r_2.1)), (q1, .inl (cI, 256, .inl r_2.2.1)), (q2, .inl (cI, 256, .inl r_38)), (q3, .inl (cI, 256, .inl r_2.2.2.2.1)), (gS, .inl (cI, 4, .inl (upd (upd (upd sg (0 : Int32).toNatClampNeg r_6) (1 : Int32).toNatClampNeg r_13) (2 : Int32).toNatClampNeg r_20)))] := hD
                  refine W.widen (k := 0) (n := 0) (Nat.le_refl _) (Nat.le_refl _) ?_
                  refine lv_iinc (v := 3) (lv' := [(1, .int 3), (0, .ref h0)]) hx hb dX1_finish_46 hl (k := 0) rfl (by decide) (by decide) rfl (fun ls hl => ?_)
                  refine lv_goto (tgt := 6) hx hb dX1_finish_49 (by decide) ?_
                  refine lv_iload_n hx hb dX1_finish_6 rfl (lv_at hl 0 rfl) ?_
                  refine lv_iconst (v := 4) hx hb dX1_finish_7 (by decide) ?_
                  refine lz_ige (tgt := 52) hx hb dX1_finish_8 (by decide) (fun c_40 => absurd c_40 (by decide)) (fun c_40 => ?_)
                  refine lv_aload_n hx hb dX1_finish_11 rfl (lv_at hl 1 rfl) ?_
                  refine va_get (D := (dC, dI)) (ci := 1) (v := .ref gS) (C := RX1) (T := TX1) (N := 7) hx hb hts in_X1_finish_X1 hown hK hP 0 rfl rfl 1 (by decide) (hts (.fieldLink RX1 16 "FormRing$Matrix" "signs" "[I") (by decide +kernel)) (fun _ h9 => h9) rfl dX1_finish_12 ?_
                  refine lv_iload_n hx hb dX1_finish_15 rfl (lv_at hl 0 rfl) ?_
                  refine lv_aload_n hx hb dX1_finish_16 rfl (lv_at hl 1 rfl) ?_
                  refine lv_aload_n hx hb dX1_finish_17 rfl (lv_at hl 1 rfl) ?_
                  refine va_get (D := (dC, dI)) (ci := 1) (v := .ref gN) (C := RX1) (T := TX1) (N := 7) hx hb hts in_X1_finish_X1 hown hK hP 0 rfl rfl 0 (by decide) (hts (.fieldLink RX1 13 "FormRing$Matrix" "numbers" "[[I") (by decide +kernel)) (fun _ h9 => h9) rfl dX1_finish_18 ?_
                  refine lv_iload_n hx hb dX1_finish_21 rfl (lv_at hl 0 rfl) ?_
                  refine zz_ald hx hb hK hP 1 1 rfl rfl (q := q3) hF.2.2.2 zz_in3 dX1_finish_22 ?_
                  cases e_41 : f_X1_findSign n r_2.2.2.2.2.1 r_2.2.2.2.1 with
                  | none => rw [e_41, Option.bind_none] at hr; cases hr
                  | some r_42 =>
                    rw [e_41, Option.bind_some] at hr
                    have hPc := hP.sub (ws' := [(h0, .inr (1, [.ref gN, .ref gS, .int r_2.2.2.2.2.1, .long r_2.2.2.2.2.2.1, .long r_2.2.2.2.2.2.2.1, .long r_2.2.2.2.2.2.2.2.1, .long r_2.2.2.2.2.2.2.2.2])), (q3, .inl (cI, 256, .inl r_2.2.2.2.1))]) [0, 5] rfl
                    have hDc := hD.sub (ws' := [(h0, .inr (1, [.ref gN, .ref gS, .int r_2.2.2.2.2.1, .long r_2.2.2.2.2.2.1, .long r_2.2.2.2.2.2.2.1, .long r_2.2.2.2.2.2.2.2.1, .long r_2.2.2.2.2.2.2.2.2])), (q3, .inl (cI, 256, .inl r_2.2.2.2.1))]) [0, 5] (by decide) rfl
                    have hKc := hK.sub (tys' := [(cI, .int)]) [0] rfl
                    have hFc := va_free (wc := [(h0, .inr (1, [.ref gN, .ref gS, .int r_2.2.2.2.2.1, .long r_2.2.2.2.2.2.1, .long r_2.2.2.2.2.2.2.1, .long r_2.2.2.2.2.2.2.2.1, .long r_2.2.2.2.2.2.2.2.2])), (q3, .inl (cI, 256, .inl r_2.2.2.2.1))]) hD hS hA [0, 5] rfl
                    refine va_calli (va_runV (As := [.ref q3]) (rest := [.int 3, .ref gS]) ⟨hx, hb, hml, hown, hts⟩ (c_X1_findSign l dC dI H.size h0 gN gS r_2.2.2.2.2.1 r_2.2.2.2.2.2.1 r_2.2.2.2.2.2.2.1 r_2.2.2.2.2.2.2.2.1 r_2.2.2.2.2.2.2.2.2 cI q3 r_2.2.2.2.1  n _ e_41) (cwV 1 hts gX1_finish_X1_findSign rfl rfl rfl (by decide +kernel) ⟨Nat.le_of_ble_eq_true rfl, Nat.le_of_ble_eq_true rfl⟩) ⟨fun a U g mk q => by obtain ⟨q0, q1, qP, qK, qD⟩ := q; exact ⟨q0, q1, qP, va_K.moved (u := U) (U := U.calling g mk a) (Vm.Alike.refl U.vm) qK, qD⟩, va_recv hKc hPc (ci := 1) (q0 := 0) rfl rfl, fun U hU hW => ⟨rfl, by rw [hU], by rw [hU]; exact hPc, va_K.moved hW.alike hKc, hDc.weaken (fun _ _ _ _ => trivial)⟩⟩ rfl rfl hl.1 rfl (lv_room (Nat.le_of_ble_eq_true rfl)) dX1_finish_23 ⟨Nat.zero_le _, Nat.zero_le _⟩) hS (fun q _ h => hFc q h) hFc (fun x_43 _ t H1 locs ht hvm hw hB hz1 hk1 hS => ?_)
                    have hw := hw.symm
                    subst hw
                    obtain ⟨hP1, hK1, hD1⟩ := hB
                    rw [ht] at hP1
                    obtain ⟨hP, hD⟩ := va_join (wr := [(gN, .inl (cO, 4, .inr (.inr (.inr (.inr F))))), (q0, .inl (cI, 256, .inl r_2.1)), (q1, .inl (cI, 256, .inl r_2.2.1)), (q2, .inl (cI, 256, .inl r_38)), (gS, .inl (cI, 4, .inl (upd (upd (upd sg (0 : Int32).toNatClampNeg r_6) (1 : Int32).toNatClampNeg r_13) (2 : Int32).toNatClampNeg r_20)))]) (w1 := [(h0, .inr (1, [.ref gN, .ref gS, .int r_2.2.2.2.2.1, .long r_2.2.2.2.2.2.1, .long r_2.2.2.2.2.2.2.1, .long r_2.2.2.2.2.2.2.2.1, .long r_2.2.2.2.2.2.2.2.2])), (q3, .inl (cI, 256, .inl r_2.2.2.2.1))]) hP hD [0, 5] [1, 2, 3, 4, 6] rfl rfl (by decide) (by decide) hk1 hFc hP1 hD1
                    generalize H1 = H at hP hS ⊢
                    have hP := hP.sub (ws' := [(h0, .inr (1, [.ref gN, .ref gS, .int r_2.2.2.2.2.1, .long r_2.2.2.2.2.2.1, .long r_2.2.2.2.2.2.2.1, .long r_2.2.2.2.2.2.2.2.1, .long r_2.2.2.2.2.2.2.2.2])), (gN, .inl (cO, 4, .inr (.inr (.inr (.inr F))))), (q0, .inl (cI, 256, .inl r_2.1)), (q1, .inl (cI, 256, .inl r_2.2.1)), (q2, .inl (cI, 256, .inl r_38)), (q3, .inl (cI, 256, .inl r_2.2.2.2.1)), (gS, .inl (cI, 4, .inl (upd (upd (upd sg (0 : Int32).toNatClampNeg r_6) (1 : Int32).toNatClampNeg r_13) (2 : Int32).toNatClampNeg r_20)))]) [5, 0, 1, 2, 3, 6, 4] rfl
                    have hD := hD.sub (ws' := [(h0, .inr (1, [.ref gN, .ref gS, .int r_2.2.2.2.2.1, .long r_2.2.2.2.2.2.1, .long r_2.2.2.2.2.2.2.1, .long r_2.2.2.2.2.2.2.2.1, .long r_2.2.2.2.2.2.2.2.2])), (gN, .inl (cO, 4, .inr (.inr (.inr (.inr F))))), (q0, .inl (cI, 256, .inl r_2.1)), (q1, .inl (cI, 256, .inl r_2.2.1)), (q2, .inl (cI, 256, .inl r_38)), (q3, .inl (cI, 256, .inl r_2.2.2.2.1)), (gS, .inl (cI, 4, .inl (upd (upd (upd sg (0 : Int32).toNatClampNeg r_6) (1 : Int32).toNatClampNeg r_13) (2 : Int32).toNatClampNeg r_20)))]) [5, 0, 1, 2, 3, 6, 4] (by decide) rfl
                    have hP : va_P (dC, dI) vwCl [(h0, .inr (1, [.ref gN, .ref gS, .int r_2.2.2.2.2.1, .long r_2.2.2.2.2.2.1, .long r_2.2.2.2.2.2.2.1, .long r_2.2.2.2.2.2.2.2.1, .long r_2.2.2.2.2.2.2.2.2])), (gN, .inl (cO, 4, .inr (.inr (.inr (.inr F))))), (q0, .inl (cI, 256, .inl r_2.1)), (q1, .inl (cI, 256, .inl r_2.2.1)), (q2, .inl (cI, 256, .inl r_38)), (q3, .inl (cI, 256, .inl r_2.2.2.2.1)), (gS, .inl (cI, 4, .inl (upd (upd (upd sg (0 : Int32).toNatClampNeg r_6) (1 : Int32).toNatClampNeg r_13) (2 : Int32).toNatClampNeg r_20)))] H := hP
                    have hD : va_D A [(h0, .inr (1, [.ref gN, .ref gS, .int r_2.2.2.2.2.1, .long r_2.2.2.2.2.2.1, .long r_2.2.2.2.2.2.2.1, .long r_2.2.2.2.2.2.2.2.1, .long r_2.2.2.2.2.2.2.2.2])), (gN, .inl (cO, 4, .inr (.inr (.inr (.inr F))))), (q0, .inl (cI, 256, .inl r_2.1)), (q1, .inl (cI, 256, .inl r_2.2.1)), (q2, .inl (cI, 256, .inl r_38)), (q3, .inl (cI, 256, .inl r_2.2.2.2.1)), (gS, .inl (cI, 4, .inl (upd (upd (upd sg (0 : Int32).toNatClampNeg r_6) (1 : Int32).toNatClampNeg r_13) (2 : Int32).toNatClampNeg r_20)))] := hD
                    refine W.widen (k := 0) (n := 0) (Nat.le_refl _) (Nat.le_refl _) ?_
                    by_cases g_44 : (3 : Int32) < 0 ∨ 4 ≤ (3 : Int32).toNatClampNeg
                    · have hr := (if_pos g_44).symm.trans hr
                      cases hr
                    have hr := (if_neg g_44).symm.trans hr
                    refine va_iast hx hb hK hP hD hS 6 0 rfl rfl g_44 dX1_finish_26 (fun H locs hP hD hS => ?_)
                    have hP : va_P (dC, dI) vwCl [(h0, .inr (1, [.ref gN, .ref gS, .int r_2.2.2.2.2.1, .long r_2.2.2.2.2.2.1, .long r_2.2.2.2.2.2.2.1, .long r_2.2.2.2.2.2.2.2.1, .long r_2.2.2.2.2.2.2.2.2])), (gN, .inl (cO, 4, .inr (.inr (.inr (.inr F))))), (q0, .inl (cI, 256, .inl r_2.1)), (q1, .inl (cI, 256, .inl r_2.2.1)), (q2, .inl (cI, 256, .inl r_38)), (q3, .inl (cI, 256, .inl r_2.2.2.2.1)), (gS, .inl (cI, 4, .inl (upd (upd (upd (upd sg (0 : Int32).toNatClampNeg r_6) (1 : Int32).toNatClampNeg r_13) (2 : Int32).toNatClampNeg r_20) (3 : Int32).toNatClampNeg r_42)))] H := hP
                    have hD : va_D A [(h0, .inr (1, [.ref gN, .ref gS, .int r_2.2.2.2.2.1, .long r_2.2.2.2.2.2.1, .long r_2.2.2.2.2.2.2.1, .long r_2.2.2.2.2.2.2.2.1, .long r_2.2.2.2.2.2.2.2.2])), (gN, .inl (cO, 4, .inr (.inr (.inr (.inr F))))), (q0, .inl (cI, 256, .inl r_2.1)), (q1, .inl (cI, 256, .inl r_2.2.1)), (q2, .inl (cI, 256, .inl r_38)), (q3, .inl (cI, 256, .inl r_2.2.2.2.1)), (gS, .inl (cI, 4, .inl (upd (upd (upd (upd sg (0 : Int32).toNatClampNeg r_6) (1 : Int32).toNatClampNeg r_13) (2 : Int32).toNatClampNeg r_20) (3 : Int32).toNatClampNeg r_42)))] := hD
                    refine lv_aload_n hx hb dX1_finish_27 rfl (lv_at hl 1 rfl) ?_
                    refine va_get (D := (dC, dI)) (ci := 1) (v := .ref gS) (C := RX1) (T := TX1) (N := 7) hx hb hts in_X1_finish_X1 hown hK hP 0 rfl rfl 1 (by decide) (hts (.fieldLink RX1 16 "FormRing$Matrix" "signs" "[I") (by decide +kernel)) (fun _ h9 => h9) rfl dX1_finish_28 ?_
                    refine lv_iload_n hx hb dX1_finish_31 rfl (lv_at hl 0 rfl) ?_
                    by_cases g_45 : (3 : Int32) < 0 ∨ 4 ≤ (3 : Int32).toNatClampNeg
                    · have hr := (if_pos g_45).symm.trans hr
                      cases hr
                    have hr := (if_neg g_45).symm.trans hr
                    refine va_iald hx hb hK hP 6 0 rfl rfl g_45 dX1_finish_32 ?_
                    refine lz_zge (tgt := 46) hx hb dX1_finish_33 (by decide) (fun c_46 => ?_) (fun c_46 => ?_)
                    · have hr := (if_neg c_46).symm.trans hr
                      refine lv_iinc (v := 4) (lv' := [(1, .int 4), (0, .ref h0)]) hx hb dX1_finish_46 hl (k := 0) rfl (by decide) (by decide) rfl (fun ls hl => ?_)
                      refine lv_goto (tgt := 6) hx hb dX1_finish_49 (by decide) ?_
                      refine lv_iload_n hx hb dX1_finish_6 rfl (lv_at hl 0 rfl) ?_
                      refine lv_iconst (v := 4) hx hb dX1_finish_7 (by decide) ?_
                      refine lz_ige (tgt := 52) hx hb dX1_finish_8 (by decide) (fun c_47 => ?_) (fun c_47 => absurd c_47 (by decide))
                      have ho := Option.some.inj hr
                      subst ho
                      exact W.vret hx hb hrt (fun t ht hW => ⟨⟨(), rfl, trivial, by rw [ht]; exact hP, va_K.moved hW.alike hK, hD⟩, hS.F ht⟩) hS.2.2 dX1_finish_52
                    · have hr := (if_pos c_46).symm.trans hr
                      refine lv_aload_n hx hb dX1_finish_36 rfl (lv_at hl 1 rfl) ?_
                      refine lv_aload_n hx hb dX1_finish_37 rfl (lv_at hl 1 rfl) ?_
                      refine va_get (D := (dC, dI)) (ci := 1) (v := .ref gN) (C := RX1) (T := TX1) (N := 7) hx hb hts in_X1_finish_X1 hown hK hP 0 rfl rfl 0 (by decide) (hts (.fieldLink RX1 13 "FormRing$Matrix" "numbers" "[[I") (by decide +kernel)) (fun _ h9 => h9) rfl dX1_finish_38 ?_
                      refine lv_iload_n hx hb dX1_finish_41 rfl (lv_at hl 0 rfl) ?_
                      refine zz_ald hx hb hK hP 1 1 rfl rfl (q := q3) hF.2.2.2 zz_in3 dX1_finish_42 ?_
                      cases e_48 : f_X1_negate n r_2.2.2.2.2.1 r_2.2.2.2.1 with
                      | none => rw [e_48, Option.bind_none] at hr; cases hr
                      | some r_49 =>
                        rw [e_48, Option.bind_some] at hr
                        have hPc := hP.sub (ws' := [(h0, .inr (1, [.ref gN, .ref gS, .int r_2.2.2.2.2.1, .long r_2.2.2.2.2.2.1, .long r_2.2.2.2.2.2.2.1, .long r_2.2.2.2.2.2.2.2.1, .long r_2.2.2.2.2.2.2.2.2])), (q3, .inl (cI, 256, .inl r_2.2.2.2.1))]) [0, 5] rfl
                        have hDc := hD.sub (ws' := [(h0, .inr (1, [.ref gN, .ref gS, .int r_2.2.2.2.2.1, .long r_2.2.2.2.2.2.1, .long r_2.2.2.2.2.2.2.1, .long r_2.2.2.2.2.2.2.2.1, .long r_2.2.2.2.2.2.2.2.2])), (q3, .inl (cI, 256, .inl r_2.2.2.2.1))]) [0, 5] (by decide) rfl
                        have hKc := hK.sub (tys' := [(cI, .int)]) [0] rfl
                        have hFc := va_free (wc := [(h0, .inr (1, [.ref gN, .ref gS, .int r_2.2.2.2.2.1, .long r_2.2.2.2.2.2.1, .long r_2.2.2.2.2.2.2.1, .long r_2.2.2.2.2.2.2.2.1, .long r_2.2.2.2.2.2.2.2.2])), (q3, .inl (cI, 256, .inl r_2.2.2.2.1))]) hD hS hA [0, 5] rfl
                        refine va_callv (va_runV (As := [.ref q3]) (rest := []) ⟨hx, hb, hml, hown, hts⟩ (c_X1_negate l dC dI H.size h0 gN gS r_2.2.2.2.2.1 r_2.2.2.2.2.2.1 r_2.2.2.2.2.2.2.1 r_2.2.2.2.2.2.2.2.1 r_2.2.2.2.2.2.2.2.2 cI q3 r_2.2.2.2.1  n _ e_48) (cwV 1 hts gX1_finish_X1_negate rfl rfl rfl (by decide +kernel) ⟨Nat.le_of_ble_eq_true rfl, Nat.le_of_ble_eq_true rfl⟩) ⟨fun a U g mk q => by obtain ⟨q0, q1, qP, qK, qD⟩ := q; exact ⟨q0, q1, qP, va_K.moved (u := U) (U := U.calling g mk a) (Vm.Alike.refl U.vm) qK, qD⟩, va_recv hKc hPc (ci := 1) (q0 := 0) rfl rfl, fun U hU hW => ⟨rfl, by rw [hU], by rw [hU]; exact hPc, va_K.moved hW.alike hKc, hDc.weaken (fun _ _ _ _ => trivial)⟩⟩ rfl rfl hl.1 rfl (lv_room (Nat.le_of_ble_eq_true rfl)) dX1_finish_43 ⟨Nat.zero_le _, Nat.zero_le _⟩) hS (fun q _ h => hFc q h) hFc (fun _ t H1 locs ht hvm hw hB hz1 hk1 hS => ?_)
                        obtain ⟨hP1, hK1, hD1⟩ := hB
                        rw [ht] at hP1
                        obtain ⟨hP, hD⟩ := va_join (wr := [(gN, .inl (cO, 4, .inr (.inr (.inr (.inr F))))), (q0, .inl (cI, 256, .inl r_2.1)), (q1, .inl (cI, 256, .inl r_2.2.1)), (q2, .inl (cI, 256, .inl r_38)), (gS, .inl (cI, 4, .inl (upd (upd (upd (upd sg (0 : Int32).toNatClampNeg r_6) (1 : Int32).toNatClampNeg r_13) (2 : Int32).toNatClampNeg r_20) (3 : Int32).toNatClampNeg r_42)))]) (w1 := [(h0, .inr (1, [.ref gN, .ref gS, .int r_2.2.2.2.2.1, .long r_2.2.2.2.2.2.1, .long r_2.2.2.2.2.2.2.1, .long r_2.2.2.2.2.2.2.2.1, .long r_2.2.2.2.2.2.2.2.2])), (q3, .inl (cI, 256, .inl r_49))]) hP hD [0, 5] [1, 2, 3, 4, 6] rfl rfl (by decide) (by decide) hk1 hFc hP1 hD1
                        generalize H1 = H at hP hS ⊢
                        have hP := hP.sub (ws' := [(h0, .inr (1, [.ref gN, .ref gS, .int r_2.2.2.2.2.1, .long r_2.2.2.2.2.2.1, .long r_2.2.2.2.2.2.2.1, .long r_2.2.2.2.2.2.2.2.1, .long r_2.2.2.2.2.2.2.2.2])), (gN, .inl (cO, 4, .inr (.inr (.inr (.inr F))))), (q0, .inl (cI, 256, .inl r_2.1)), (q1, .inl (cI, 256, .inl r_2.2.1)), (q2, .inl (cI, 256, .inl r_38)), (q3, .inl (cI, 256, .inl r_49)), (gS, .inl (cI, 4, .inl (upd (upd (upd (upd sg (0 : Int32).toNatClampNeg r_6) (1 : Int32).toNatClampNeg r_13) (2 : Int32).toNatClampNeg r_20) (3 : Int32).toNatClampNeg r_42)))]) [5, 0, 1, 2, 3, 6, 4] rfl
                        have hD := hD.sub (ws' := [(h0, .inr (1, [.ref gN, .ref gS, .int r_2.2.2.2.2.1, .long r_2.2.2.2.2.2.1, .long r_2.2.2.2.2.2.2.1, .long r_2.2.2.2.2.2.2.2.1, .long r_2.2.2.2.2.2.2.2.2])), (gN, .inl (cO, 4, .inr (.inr (.inr (.inr F))))), (q0, .inl (cI, 256, .inl r_2.1)), (q1, .inl (cI, 256, .inl r_2.2.1)), (q2, .inl (cI, 256, .inl r_38)), (q3, .inl (cI, 256, .inl r_49)), (gS, .inl (cI, 4, .inl (upd (upd (upd (upd sg (0 : Int32).toNatClampNeg r_6) (1 : Int32).toNatClampNeg r_13) (2 : Int32).toNatClampNeg r_20) (3 : Int32).toNatClampNeg r_42)))]) [5, 0, 1, 2, 3, 6, 4] (by decide) rfl
                        have hP : va_P (dC, dI) vwCl [(h0, .inr (1, [.ref gN, .ref gS, .int r_2.2.2.2.2.1, .long r_2.2.2.2.2.2.1, .long r_2.2.2.2.2.2.2.1, .long r_2.2.2.2.2.2.2.2.1, .long r_2.2.2.2.2.2.2.2.2])), (gN, .inl (cO, 4, .inr (.inr (.inr (.inr F))))), (q0, .inl (cI, 256, .inl r_2.1)), (q1, .inl (cI, 256, .inl r_2.2.1)), (q2, .inl (cI, 256, .inl r_38)), (q3, .inl (cI, 256, .inl r_49)), (gS, .inl (cI, 4, .inl (upd (upd (upd (upd sg (0 : Int32).toNatClampNeg r_6) (1 : Int32).toNatClampNeg r_13) (2 : Int32).toNatClampNeg r_20) (3 : Int32).toNatClampNeg r_42)))] H := hP
                        have hD : va_D A [(h0, .inr (1, [.ref gN, .ref gS, .int r_2.2.2.2.2.1, .long r_2.2.2.2.2.2.1, .long r_2.2.2.2.2.2.2.1, .long r_2.2.2.2.2.2.2.2.1, .long r_2.2.2.2.2.2.2.2.2])), (gN, .inl (cO, 4, .inr (.inr (.inr (.inr F))))), (q0, .inl (cI, 256, .inl r_2.1)), (q1, .inl (cI, 256, .inl r_2.2.1)), (q2, .inl (cI, 256, .inl r_38)), (q3, .inl (cI, 256, .inl r_49)), (gS, .inl (cI, 4, .inl (upd (upd (upd (upd sg (0 : Int32).toNatClampNeg r_6) (1 : Int32).toNatClampNeg r_13) (2 : Int32).toNatClampNeg r_20) (3 : Int32).toNatClampNeg r_42)))] := hD
                        refine W.widen (k := 0) (n := 0) (Nat.le_refl _) (Nat.le_refl _) ?_
                        refine lv_iinc (v := 4) (lv' := [(1, .int 4), (0, .ref h0)]) hx hb dX1_finish_46 hl (k := 0) rfl (by decide) (by decide) rfl (fun ls hl => ?_)
                        refine lv_goto (tgt := 6) hx hb dX1_finish_49 (by decide) ?_
                        refine lv_iload_n hx hb dX1_finish_6 rfl (lv_at hl 0 rfl) ?_
                        refine lv_iconst (v := 4) hx hb dX1_finish_7 (by decide) ?_
                        refine lz_ige (tgt := 52) hx hb dX1_finish_8 (by decide) (fun c_51 => ?_) (fun c_51 => absurd c_51 (by decide))
                        have ho := Option.some.inj hr
                        subst ho
                        exact W.vret hx hb hrt (fun t ht hW => ⟨⟨(), rfl, trivial, by rw [ht]; exact hP, va_K.moved hW.alike hK, hD⟩, hS.F ht⟩) hS.2.2 dX1_finish_52
          · have hr := (if_pos c_17).symm.trans hr
            refine lv_aload_n hx hb dX1_finish_36 rfl (lv_at hl 1 rfl) ?_
            refine lv_aload_n hx hb dX1_finish_37 rfl (lv_at hl 1 rfl) ?_
            refine va_get (D := (dC, dI)) (ci := 1) (v := .ref gN) (C := RX1) (T := TX1) (N := 7) hx hb hts in_X1_finish_X1 hown hK hP 0 rfl rfl 0 (by decide) (hts (.fieldLink RX1 13 "FormRing$Matrix" "numbers" "[[I") (by decide +kernel)) (fun _ h9 => h9) rfl dX1_finish_38 ?_
            refine lv_iload_n hx hb dX1_finish_41 rfl (lv_at hl 0 rfl) ?_
            refine zz_ald hx hb hK hP 1 1 rfl rfl (q := q1) hF.2.1 zz_in1 dX1_finish_42 ?_
            cases e_52 : f_X1_negate n r_2.2.2.2.2.1 r_2.2.1 with
            | none => rw [e_52, Option.bind_none] at hr; cases hr
            | some r_53 =>
              rw [e_52, Option.bind_some] at hr
              have hPc := hP.sub (ws' := [(h0, .inr (1, [.ref gN, .ref gS, .int r_2.2.2.2.2.1, .long r_2.2.2.2.2.2.1, .long r_2.2.2.2.2.2.2.1, .long r_2.2.2.2.2.2.2.2.1, .long r_2.2.2.2.2.2.2.2.2])), (q1, .inl (cI, 256, .inl r_2.2.1))]) [0, 3] rfl
              have hDc := hD.sub (ws' := [(h0, .inr (1, [.ref gN, .ref gS, .int r_2.2.2.2.2.1, .long r_2.2.2.2.2.2.1, .long r_2.2.2.2.2.2.2.1, .long r_2.2.2.2.2.2.2.2.1, .long r_2.2.2.2.2.2.2.2.2])), (q1, .inl (cI, 256, .inl r_2.2.1))]) [0, 3] (by decide) rfl
              have hKc := hK.sub (tys' := [(cI, .int)]) [0] rfl
              have hFc := va_free (wc := [(h0, .inr (1, [.ref gN, .ref gS, .int r_2.2.2.2.2.1, .long r_2.2.2.2.2.2.1, .long r_2.2.2.2.2.2.2.1, .long r_2.2.2.2.2.2.2.2.1, .long r_2.2.2.2.2.2.2.2.2])), (q1, .inl (cI, 256, .inl r_2.2.1))]) hD hS hA [0, 3] rfl
              refine va_callv (va_runV (As := [.ref q1]) (rest := []) ⟨hx, hb, hml, hown, hts⟩ (c_X1_negate l dC dI H.size h0 gN gS r_2.2.2.2.2.1 r_2.2.2.2.2.2.1 r_2.2.2.2.2.2.2.1 r_2.2.2.2.2.2.2.2.1 r_2.2.2.2.2.2.2.2.2 cI q1 r_2.2.1  n _ e_52) (cwV 1 hts gX1_finish_X1_negate rfl rfl rfl (by decide +kernel) ⟨Nat.le_of_ble_eq_true rfl, Nat.le_of_ble_eq_true rfl⟩) ⟨fun a U g mk q => by obtain ⟨q0, q1, qP, qK, qD⟩ := q; exact ⟨q0, q1, qP, va_K.moved (u := U) (U := U.calling g mk a) (Vm.Alike.refl U.vm) qK, qD⟩, va_recv hKc hPc (ci := 1) (q0 := 0) rfl rfl, fun U hU hW => ⟨rfl, by rw [hU], by rw [hU]; exact hPc, va_K.moved hW.alike hKc, hDc.weaken (fun _ _ _ _ => trivial)⟩⟩ rfl rfl hl.1 rfl (lv_room (Nat.le_of_ble_eq_true rfl)) dX1_finish_43 ⟨Nat.zero_le _, Nat.zero_le _⟩) hS (fun q _ h => hFc q h) hFc (fun _ t H1 locs ht hvm hw hB hz1 hk1 hS => ?_)
              obtain ⟨hP1, hK1, hD1⟩ := hB
              rw [ht] at hP1
              obtain ⟨hP, hD⟩ := va_join (wr := [(gN, .inl (cO, 4, .inr (.inr (.inr (.inr F))))), (q0, .inl (cI, 256, .inl r_2.1)), (q2, .inl (cI, 256, .inl r_2.2.2.1)), (q3, .inl (cI, 256, .inl r_2.2.2.2.1)), (gS, .inl (cI, 4, .inl (upd (upd sg (0 : Int32).toNatClampNeg r_6) (1 : Int32).toNatClampNeg r_13)))]) (w1 := [(h0, .inr (1, [.ref gN, .ref gS, .int r_2.2.2.2.2.1, .long r_2.2.2.2.2.2.1, .long r_2.2.2.2.2.2.2.1, .long r_2.2.2.2.2.2.2.2.1, .long r_2.2.2.2.2.2.2.2.2])), (q1, .inl (cI, 256, .inl r_53))]) hP hD [0, 3] [1, 2, 4, 5, 6] rfl rfl (by decide) (by decide) hk1 hFc hP1 hD1
              generalize H1 = H at hP hS ⊢
              have hP := hP.sub (ws' := [(h0, .inr (1, [.ref gN, .ref gS, .int r_2.2.2.2.2.1, .long r_2.2.2.2.2.2.1, .long r_2.2.2.2.2.2.2.1, .long r_2.2.2.2.2.2.2.2.1, .long r_2.2.2.2.2.2.2.2.2])), (gN, .inl (cO, 4, .inr (.inr (.inr (.inr F))))), (q0, .inl (cI, 256, .inl r_2.1)), (q1, .inl (cI, 256, .inl r_53)), (q2, .inl (cI, 256, .inl r_2.2.2.1)), (q3, .inl (cI, 256, .inl r_2.2.2.2.1)), (gS, .inl (cI, 4, .inl (upd (upd sg (0 : Int32).toNatClampNeg r_6) (1 : Int32).toNatClampNeg r_13)))]) [5, 0, 1, 6, 2, 3, 4] rfl
              have hD := hD.sub (ws' := [(h0, .inr (1, [.ref gN, .ref gS, .int r_2.2.2.2.2.1, .long r_2.2.2.2.2.2.1, .long r_2.2.2.2.2.2.2.1, .long r_2.2.2.2.2.2.2.2.1, .long r_2.2.2.2.2.2.2.2.2])), (gN, .inl (cO, 4, .inr (.inr (.inr (.inr F))))), (q0, .inl (cI, 256, .inl r_2.1)), (q1, .inl (cI, 256, .inl r_53)), (q2, .inl (cI, 256, .inl r_2.2.2.1)), (q3, .inl (cI, 256, .inl r_2.2.2.2.1)), (gS, .inl (cI, 4, .inl (upd (upd sg (0 : Int32).toNatClampNeg r_6) (1 : Int32).toNatClampNeg r_13)))]) [5, 0, 1, 6, 2, 3, 4] (by decide) rfl
              have hP : va_P (dC, dI) vwCl [(h0, .inr (1, [.ref gN, .ref gS, .int r_2.2.2.2.2.1, .long r_2.2.2.2.2.2.1, .long r_2.2.2.2.2.2.2.1, .long r_2.2.2.2.2.2.2.2.1, .long r_2.2.2.2.2.2.2.2.2])), (gN, .inl (cO, 4, .inr (.inr (.inr (.inr F))))), (q0, .inl (cI, 256, .inl r_2.1)), (q1, .inl (cI, 256, .inl r_53)), (q2, .inl (cI, 256, .inl r_2.2.2.1)), (q3, .inl (cI, 256, .inl r_2.2.2.2.1)), (gS, .inl (cI, 4, .inl (upd (upd sg (0 : Int32).toNatClampNeg r_6) (1 : Int32).toNatClampNeg r_13)))] H := hP
              have hD : va_D A [(h0, .inr (1, [.ref gN, .ref gS, .int r_2.2.2.2.2.1, .long r_2.2.2.2.2.2.1, .long r_2.2.2.2.2.2.2.1, .long r_2.2.2.2.2.2.2.2.1, .long r_2.2.2.2.2.2.2.2.2])), (gN, .inl (cO, 4, .inr (.inr (.inr (.inr F))))), (q0, .inl (cI, 256, .inl r_2.1)), (q1, .inl (cI, 256, .inl r_53)), (q2, .inl (cI, 256, .inl r_2.2.2.1)), (q3, .inl (cI, 256, .inl r_2.2.2.2.1)), (gS, .inl (cI, 4, .inl (upd (upd sg (0 : Int32).toNatClampNeg r_6) (1 : Int32).toNatClampNeg r_13)))] := hD
              refine W.widen (k := 0) (n := 0) (Nat.le_refl _) (Nat.le_refl _) ?_
              refine lv_iinc (v := 2) (lv' := [(1, .int 2), (0, .ref h0)]) hx hb dX1_finish_46 hl (k := 0) rfl (by decide) (by decide) rfl (fun ls hl => ?_)
              refine lv_goto (tgt := 6) hx hb dX1_finish_49 (by decide) ?_
              refine lv_iload_n hx hb dX1_finish_6 rfl (lv_at hl 0 rfl) ?_
              refine lv_iconst (v := 4) hx hb dX1_finish_7 (by decide) ?_
              refine lz_ige (tgt := 52) hx hb dX1_finish_8 (by decide) (fun c_55 => absurd c_55 (by decide)) (fun c_55 => ?_)
              refine lv_aload_n hx hb dX1_finish_11 rfl (lv_at hl 1 rfl) ?_
              refine va_get (D := (dC, dI)) (ci := 1) (v := .ref gS) (C := RX1) (T := TX1) (N := 7) hx hb hts in_X1_finish_X1 hown hK hP 0 rfl rfl 1 (by decide) (hts (.fieldLink RX1 16 "FormRing$Matrix" "signs" "[I") (by decide +kernel)) (fun _ h9 => h9) rfl dX1_finish_12 ?_
              refine lv_iload_n hx hb dX1_finish_15 rfl (lv_at hl 0 rfl) ?_
              refine lv_aload_n hx hb dX1_finish_16 rfl (lv_at hl 1 rfl) ?_
              refine lv_aload_n hx hb dX1_finish_17 rfl (lv_at hl 1 rfl) ?_
              refine va_get (D := (dC, dI)) (ci := 1) (v := .ref gN) (C := RX1) (T := TX1) (N := 7) hx hb hts in_X1_finish_X1 hown hK hP 0 rfl rfl 0 (by decide) (hts (.fieldLink RX1 13 "FormRing$Matrix" "numbers" "[[I") (by decide +kernel)) (fun _ h9 => h9) rfl dX1_finish_18 ?_
              refine lv_iload_n hx hb dX1_finish_21 rfl (lv_at hl 0 rfl) ?_
              refine zz_ald hx hb hK hP 1 1 rfl rfl (q := q2) hF.2.2.1 zz_in2 dX1_finish_22 ?_
              cases e_56 : f_X1_findSign n r_2.2.2.2.2.1 r_2.2.2.1 with
              | none => rw [e_56, Option.bind_none] at hr; cases hr
              | some r_57 =>
                rw [e_56, Option.bind_some] at hr
                have hPc := hP.sub (ws' := [(h0, .inr (1, [.ref gN, .ref gS, .int r_2.2.2.2.2.1, .long r_2.2.2.2.2.2.1, .long r_2.2.2.2.2.2.2.1, .long r_2.2.2.2.2.2.2.2.1, .long r_2.2.2.2.2.2.2.2.2])), (q2, .inl (cI, 256, .inl r_2.2.2.1))]) [0, 4] rfl
                have hDc := hD.sub (ws' := [(h0, .inr (1, [.ref gN, .ref gS, .int r_2.2.2.2.2.1, .long r_2.2.2.2.2.2.1, .long r_2.2.2.2.2.2.2.1, .long r_2.2.2.2.2.2.2.2.1, .long r_2.2.2.2.2.2.2.2.2])), (q2, .inl (cI, 256, .inl r_2.2.2.1))]) [0, 4] (by decide) rfl
                have hKc := hK.sub (tys' := [(cI, .int)]) [0] rfl
                have hFc := va_free (wc := [(h0, .inr (1, [.ref gN, .ref gS, .int r_2.2.2.2.2.1, .long r_2.2.2.2.2.2.1, .long r_2.2.2.2.2.2.2.1, .long r_2.2.2.2.2.2.2.2.1, .long r_2.2.2.2.2.2.2.2.2])), (q2, .inl (cI, 256, .inl r_2.2.2.1))]) hD hS hA [0, 4] rfl
                refine va_calli (va_runV (As := [.ref q2]) (rest := [.int 2, .ref gS]) ⟨hx, hb, hml, hown, hts⟩ (c_X1_findSign l dC dI H.size h0 gN gS r_2.2.2.2.2.1 r_2.2.2.2.2.2.1 r_2.2.2.2.2.2.2.1 r_2.2.2.2.2.2.2.2.1 r_2.2.2.2.2.2.2.2.2 cI q2 r_2.2.2.1  n _ e_56) (cwV 1 hts gX1_finish_X1_findSign rfl rfl rfl (by decide +kernel) ⟨Nat.le_of_ble_eq_true rfl, Nat.le_of_ble_eq_true rfl⟩) ⟨fun a U g mk q => by obtain ⟨q0, q1, qP, qK, qD⟩ := q; exact ⟨q0, q1, qP, va_K.moved (u := U) (U := U.calling g mk a) (Vm.Alike.refl U.vm) qK, qD⟩, va_recv hKc hPc (ci := 1) (q0 := 0) rfl rfl, fun U hU hW => ⟨rfl, by rw [hU], by rw [hU]; exact hPc, va_K.moved hW.alike hKc, hDc.weaken (fun _ _ _ _ => trivial)⟩⟩ rfl rfl hl.1 rfl (lv_room (Nat.le_of_ble_eq_true rfl)) dX1_finish_23 ⟨Nat.zero_le _, Nat.zero_le _⟩) hS (fun q _ h => hFc q h) hFc (fun x_58 _ t H1 locs ht hvm hw hB hz1 hk1 hS => ?_)
                have hw := hw.symm
                subst hw
                obtain ⟨hP1, hK1, hD1⟩ := hB
                rw [ht] at hP1
                obtain ⟨hP, hD⟩ := va_join (wr := [(gN, .inl (cO, 4, .inr (.inr (.inr (.inr F))))), (q0, .inl (cI, 256, .inl r_2.1)), (q1, .inl (cI, 256, .inl r_53)), (q3, .inl (cI, 256, .inl r_2.2.2.2.1)), (gS, .inl (cI, 4, .inl (upd (upd sg (0 : Int32).toNatClampNeg r_6) (1 : Int32).toNatClampNeg r_13)))]) (w1 := [(h0, .inr (1, [.ref gN, .ref gS, .int r_2.2.2.2.2.1, .long r_2.2.2.2.2.2.1, .long r_2.2.2.2.2.2.2.1, .long r_2.2.2.2.2.2.2.2.1, .long r_2.2.2.2.2.2.2.2.2])), (q2, .inl (cI, 256, .inl r_2.2.2.1))]) hP hD [0, 4] [1, 2, 3, 5, 6] rfl rfl (by decide) (by decide) hk1 hFc hP1 hD1
                generalize H1 = H at hP hS ⊢
                have hP := hP.sub (ws' := [(h0, .inr (1, [.ref gN, .ref gS, .int r_2.2.2.2.2.1, .long r_2.2.2.2.2.2.1, .long r_2.2.2.2.2.2.2.1, .long r_2.2.2.2.2.2.2.2.1, .long r_2.2.2.2.2.2.2.2.2])), (gN, .inl (cO, 4, .inr (.inr (.inr (.inr F))))), (q0, .inl (cI, 256, .inl r_2.1)), (q1, .inl (cI, 256, .inl r_53)), (q2, .inl (cI, 256, .inl r_2.2.2.1)), (q3, .inl (cI, 256, .inl r_2.2.2.2.1)), (gS, .inl (cI, 4, .inl (upd (upd sg (0 : Int32).toNatClampNeg r_6) (1 : Int32).toNatClampNeg r_13)))]) [5, 0, 1, 2, 6, 3, 4] rfl
                have hD := hD.sub (ws' := [(h0, .inr (1, [.ref gN, .ref gS, .int r_2.2.2.2.2.1, .long r_2.2.2.2.2.2.1, .long r_2.2.2.2.2.2.2.1, .long r_2.2.2.2.2.2.2.2.1, .long r_2.2.2.2.2.2.2.2.2])), (gN, .inl (cO, 4, .inr (.inr (.inr (.inr F))))), (q0, .inl (cI, 256, .inl r_2.1)), (q1, .inl (cI, 256, .inl r_53)), (q2, .inl (cI, 256, .inl r_2.2.2.1)), (q3, .inl (cI, 256, .inl r_2.2.2.2.1)), (gS, .inl (cI, 4, .inl (upd (upd sg (0 : Int32).toNatClampNeg r_6) (1 : Int32).toNatClampNeg r_13)))]) [5, 0, 1, 2, 6, 3, 4] (by decide) rfl
                have hP : va_P (dC, dI) vwCl [(h0, .inr (1, [.ref gN, .ref gS, .int r_2.2.2.2.2.1, .long r_2.2.2.2.2.2.1, .long r_2.2.2.2.2.2.2.1, .long r_2.2.2.2.2.2.2.2.1, .long r_2.2.2.2.2.2.2.2.2])), (gN, .inl (cO, 4, .inr (.inr (.inr (.inr F))))), (q0, .inl (cI, 256, .inl r_2.1)), (q1, .inl (cI, 256, .inl r_53)), (q2, .inl (cI, 256, .inl r_2.2.2.1)), (q3, .inl (cI, 256, .inl r_2.2.2.2.1)), (gS, .inl (cI, 4, .inl (upd (upd sg (0 : Int32).toNatClampNeg r_6) (1 : Int32).toNatClampNeg r_13)))] H := hP
                have hD : va_D A [(h0, .inr (1, [.ref gN, .ref gS, .int r_2.2.2.2.2.1, .long r_2.2.2.2.2.2.1, .long r_2.2.2.2.2.2.2.1, .long r_2.2.2.2.2.2.2.2.1, .long r_2.2.2.2.2.2.2.2.2])), (gN, .inl (cO, 4, .inr (.inr (.inr (.inr F))))), (q0, .inl (cI, 256, .inl r_2.1)), (q1, .inl (cI, 256, .inl r_53)), (q2, .inl (cI, 256, .inl r_2.2.2.1)), (q3, .inl (cI, 256, .inl r_2.2.2.2.1)), (gS, .inl (cI, 4, .inl (upd (upd sg (0 : Int32).toNatClampNeg r_6) (1 : Int32).toNatClampNeg r_13)))] := hD
                refine W.widen (k := 0) (n := 0) (Nat.le_refl _) (Nat.le_refl _) ?_
                by_cases g_59 : (2 : Int32) < 0 ∨ 4 ≤ (2 : Int32).toNatClampNeg
                · have hr := (if_pos g_59).symm.trans hr
                  cases hr
                have hr := (if_neg g_59).symm.trans hr
                refine va_iast hx hb hK hP hD hS 6 0 rfl rfl g_59 dX1_finish_26 (fun H locs hP hD hS => ?_)
                have hP : va_P (dC, dI) vwCl [(h0, .inr (1, [.ref gN, .ref gS, .int r_2.2.2.2.2.1, .long r_2.2.2.2.2.2.1, .long r_2.2.2.2.2.2.2.1, .long r_2.2.2.2.2.2.2.2.1, .long r_2.2.2.2.2.2.2.2.2])), (gN, .inl (cO, 4, .inr (.inr (.inr (.inr F))))), (q0, .inl (cI, 256, .inl r_2.1)), (q1, .inl (cI, 256, .inl r_53)), (q2, .inl (cI, 256, .inl r_2.2.2.1)), (q3, .inl (cI, 256, .inl r_2.2.2.2.1)), (gS, .inl (cI, 4, .inl (upd (upd (upd sg (0 : Int32).toNatClampNeg r_6) (1 : Int32).toNatClampNeg r_13) (2 : Int32).toNatClampNeg r_57)))] H := hP
                have hD : va_D A [(h0, .inr (1, [.ref gN, .ref gS, .int r_2.2.2.2.2.1, .long r_2.2.2.2.2.2.1, .long r_2.2.2.2.2.2.2.1, .long r_2.2.2.2.2.2.2.2.1, .long r_2.2.2.2.2.2.2.2.2])), (gN, .inl (cO, 4, .inr (.inr (.inr (.inr F))))), (q0, .inl (cI, 256, .inl r_2.1)), (q1, .inl (cI, 256, .inl r_53)), (q2, .inl (cI, 256, .inl r_2.2.2.1)), (q3, .inl (cI, 256, .inl r_2.2.2.2.1)), (gS, .inl (cI, 4, .inl (upd (upd (upd sg (0 : Int32).toNatClampNeg r_6) (1 : Int32).toNatClampNeg r_13) (2 : Int32).toNatClampNeg r_57)))] := hD
                refine lv_aload_n hx hb dX1_finish_27 rfl (lv_at hl 1 rfl) ?_
                refine va_get (D := (dC, dI)) (ci := 1) (v := .ref gS) (C := RX1) (T := TX1) (N := 7) hx hb hts in_X1_finish_X1 hown hK hP 0 rfl rfl 1 (by decide) (hts (.fieldLink RX1 16 "FormRing$Matrix" "signs" "[I") (by decide +kernel)) (fun _ h9 => h9) rfl dX1_finish_28 ?_
                refine lv_iload_n hx hb dX1_finish_31 rfl (lv_at hl 0 rfl) ?_
                by_cases g_60 : (2 : Int32) < 0 ∨ 4 ≤ (2 : Int32).toNatClampNeg
                · have hr := (if_pos g_60).symm.trans hr
                  cases hr
                have hr := (if_neg g_60).symm.trans hr
                refine va_iald hx hb hK hP 6 0 rfl rfl g_60 dX1_finish_32 ?_
                refine lz_zge (tgt := 46) hx hb dX1_finish_33 (by decide) (fun c_61 => ?_) (fun c_61 => ?_)
                · have hr := (if_neg c_61).symm.trans hr
                  refine lv_iinc (v := 3) (lv' := [(1, .int 3), (0, .ref h0)]) hx hb dX1_finish_46 hl (k := 0) rfl (by decide) (by decide) rfl (fun ls hl => ?_)
                  refine lv_goto (tgt := 6) hx hb dX1_finish_49 (by decide) ?_
                  refine lv_iload_n hx hb dX1_finish_6 rfl (lv_at hl 0 rfl) ?_
                  refine lv_iconst (v := 4) hx hb dX1_finish_7 (by decide) ?_
                  refine lz_ige (tgt := 52) hx hb dX1_finish_8 (by decide) (fun c_62 => absurd c_62 (by decide)) (fun c_62 => ?_)
                  refine lv_aload_n hx hb dX1_finish_11 rfl (lv_at hl 1 rfl) ?_
                  refine va_get (D := (dC, dI)) (ci := 1) (v := .ref gS) (C := RX1) (T := TX1) (N := 7) hx hb hts in_X1_finish_X1 hown hK hP 0 rfl rfl 1 (by decide) (hts (.fieldLink RX1 16 "FormRing$Matrix" "signs" "[I") (by decide +kernel)) (fun _ h9 => h9) rfl dX1_finish_12 ?_
                  refine lv_iload_n hx hb dX1_finish_15 rfl (lv_at hl 0 rfl) ?_
                  refine lv_aload_n hx hb dX1_finish_16 rfl (lv_at hl 1 rfl) ?_
                  refine lv_aload_n hx hb dX1_finish_17 rfl (lv_at hl 1 rfl) ?_
                  refine va_get (D := (dC, dI)) (ci := 1) (v := .ref gN) (C := RX1) (T := TX1) (N := 7) hx hb hts in_X1_finish_X1 hown hK hP 0 rfl rfl 0 (by decide) (hts (.fieldLink RX1 13 "FormRing$Matrix" "numbers" "[[I") (by decide +kernel)) (fun _ h9 => h9) rfl dX1_finish_18 ?_
                  refine lv_iload_n hx hb dX1_finish_21 rfl (lv_at hl 0 rfl) ?_
                  refine zz_ald hx hb hK hP 1 1 rfl rfl (q := q3) hF.2.2.2 zz_in3 dX1_finish_22 ?_
                  cases e_63 : f_X1_findSign n r_2.2.2.2.2.1 r_2.2.2.2.1 with
                  | none => rw [e_63, Option.bind_none] at hr; cases hr
                  | some r_64 =>
                    rw [e_63, Option.bind_some] at hr
                    have hPc := hP.sub (ws' := [(h0, .inr (1, [.ref gN, .ref gS, .int r_2.2.2.2.2.1, .long r_2.2.2.2.2.2.1, .long r_2.2.2.2.2.2.2.1, .long r_2.2.2.2.2.2.2.2.1, .long r_2.2.2.2.2.2.2.2.2])), (q3, .inl (cI, 256, .inl r_2.2.2.2.1))]) [0, 5] rfl
                    have hDc := hD.sub (ws' := [(h0, .inr (1, [.ref gN, .ref gS, .int r_2.2.2.2.2.1, .long r_2.2.2.2.2.2.1, .long r_2.2.2.2.2.2.2.1, .long r_2.2.2.2.2.2.2.2.1, .long r_2.2.2.2.2.2.2.2.2])), (q3, .inl (cI, 256, .inl r_2.2.2.2.1))]) [0, 5] (by decide) rfl
                    have hKc := hK.sub (tys' := [(cI, .int)]) [0] rfl
                    have hFc := va_free (wc := [(h0, .inr (1, [.ref gN, .ref gS, .int r_2.2.2.2.2.1, .long r_2.2.2.2.2.2.1, .long r_2.2.2.2.2.2.2.1, .long r_2.2.2.2.2.2.2.2.1, .long r_2.2.2.2.2.2.2.2.2])), (q3, .inl (cI, 256, .inl r_2.2.2.2.1))]) hD hS hA [0, 5] rfl
                    refine va_calli (va_runV (As := [.ref q3]) (rest := [.int 3, .ref gS]) ⟨hx, hb, hml, hown, hts⟩ (c_X1_findSign l dC dI H.size h0 gN gS r_2.2.2.2.2.1 r_2.2.2.2.2.2.1 r_2.2.2.2.2.2.2.1 r_2.2.2.2.2.2.2.2.1 r_2.2.2.2.2.2.2.2.2 cI q3 r_2.2.2.2.1  n _ e_63) (cwV 1 hts gX1_finish_X1_findSign rfl rfl rfl (by decide +kernel) ⟨Nat.le_of_ble_eq_true rfl, Nat.le_of_ble_eq_true rfl⟩) ⟨fun a U g mk q => by obtain ⟨q0, q1, qP, qK, qD⟩ := q; exact ⟨q0, q1, qP, va_K.moved (u := U) (U := U.calling g mk a) (Vm.Alike.refl U.vm) qK, qD⟩, va_recv hKc hPc (ci := 1) (q0 := 0) rfl rfl, fun U hU hW => ⟨rfl, by rw [hU], by rw [hU]; exact hPc, va_K.moved hW.alike hKc, hDc.weaken (fun _ _ _ _ => trivial)⟩⟩ rfl rfl hl.1 rfl (lv_room (Nat.le_of_ble_eq_true rfl)) dX1_finish_23 ⟨Nat.zero_le _, Nat.zero_le _⟩) hS (fun q _ h => hFc q h) hFc (fun x_65 _ t H1 locs ht hvm hw hB hz1 hk1 hS => ?_)
                    have hw := hw.symm
                    subst hw
                    obtain ⟨hP1, hK1, hD1⟩ := hB
                    rw [ht] at hP1
                    obtain ⟨hP, hD⟩ := va_join (wr := [(gN, .inl (cO, 4, .inr (.inr (.inr (.inr F))))), (q0, .inl (cI, 256, .inl r_2.1)), (q1, .inl (cI, 256, .inl r_53)), (q2, .inl (cI, 256, .inl r_2.2.2.1)), (gS, .inl (cI, 4, .inl (upd (upd (upd sg (0 : Int32).toNatClampNeg r_6) (1 : Int32).toNatClampNeg r_13) (2 : Int32).toNatClampNeg r_57)))]) (w1 := [(h0, .inr (1, [.ref gN, .ref gS, .int r_2.2.2.2.2.1, .long r_2.2.2.2.2.2.1, .long r_2.2.2.2.2.2.2.1, .long r_2.2.2.2.2.2.2.2.1, .long r_2.2.2.2.2.2.2.2.2])), (q3, .inl (cI, 256, .inl r_2.2.2.2.1))]) hP hD [0, 5] [1, 2, 3, 4, 6] rfl rfl (by decide) (by decide) hk1 hFc hP1 hD1
                    generalize H1 = H at hP hS ⊢
                    have hP := hP.sub (ws' := [(h0, .inr (1, [.ref gN, .ref gS, .int r_2.2.2.2.2.1, .long r_2.2.2.2.2.2.1, .long r_2.2.2.2.2.2.2.1, .long r_2.2.2.2.2.2.2.2.1, .long r_2.2.2.2.2.2.2.2.2])), (gN, .inl (cO, 4, .inr (.inr (.inr (.inr F))))), (q0, .inl (cI, 256, .inl r_2.1)), (q1, .inl (cI, 256, .inl r_53)), (q2, .inl (cI, 256, .inl r_2.2.2.1)), (q3, .inl (cI, 256, .inl r_2.2.2.2.1)), (gS, .inl (cI, 4, .inl (upd (upd (upd sg (0 : Int32).toNatClampNeg r_6) (1 : Int32).toNatClampNeg r_13) (2 : Int32).toNatClampNeg r_57)))]) [5, 0, 1, 2, 3, 6, 4] rfl
                    have hD := hD.sub (ws' := [(h0, .inr (1, [.ref gN, .ref gS, .int r_2.2.2.2.2.1, .long r_2.2.2.2.2.2.1, .long r_2.2.2.2.2.2.2.1, .long r_2.2.2.2.2.2.2.2.1, .long r_2.2.2.2.2.2.2.2.2])), (gN, .inl (cO, 4, .inr (.inr (.inr (.inr F))))), (q0, .inl (cI, 256, .inl r_2.1)), (q1, .inl (cI, 256, .inl r_53)), (q2, .inl (cI, 256, .inl r_2.2.2.1)), (q3, .inl (cI, 256, .inl r_2.2.2.2.1)), (gS, .inl (cI, 4, .inl (upd (upd (upd sg (0 : Int32).toNatClampNeg r_6) (1 : Int32).toNatClampNeg r_13) (2 : Int32).toNatClampNeg r_57)))]) [5, 0, 1, 2, 3, 6, 4] (by decide) rfl
                    have hP : va_P (dC, dI) vwCl [(h0, .inr (1, [.ref gN, .ref gS, .int r_2.2.2.2.2.1, .long r_2.2.2.2.2.2.1, .long r_2.2.2.2.2.2.2.1, .long r_2.2.2.2.2.2.2.2.1, .long r_2.2.2.2.2.2.2.2.2])), (gN, .inl (cO, 4, .inr (.inr (.inr (.inr F))))), (q0, .inl (cI, 256, .inl r_2.1)), (q1, .inl (cI, 256, .inl r_53)), (q2, .inl (cI, 256, .inl r_2.2.2.1)), (q3, .inl (cI, 256, .inl r_2.2.2.2.1)), (gS, .inl (cI, 4, .inl (upd (upd (upd sg (0 : Int32).toNatClampNeg r_6) (1 : Int32).toNatClampNeg r_13) (2 : Int32).toNatClampNeg r_57)))] H := hP
                    have hD : va_D A [(h0, .inr (1, [.ref gN, .ref gS, .int r_2.2.2.2.2.1, .long r_2.2.2.2.2.2.1, .long r_2.2.2.2.2.2.2.1, .long r_2.2.2.2.2.2.2.2.1, .long r_2.2.2.2.2.2.2.2.2])), (gN, .inl (cO, 4, .inr (.inr (.inr (.inr F))))), (q0, .inl (cI, 256, .inl r_2.1)), (q1, .inl (cI, 256, .inl r_53)), (q2, .inl (cI, 256, .inl r_2.2.2.1)), (q3, .inl (cI, 256, .inl r_2.2.2.2.1)), (gS, .inl (cI, 4, .inl (upd (upd (upd sg (0 : Int32).toNatClampNeg r_6) (1 : Int32).toNatClampNeg r_13) (2 : Int32).toNatClampNeg r_57)))] := hD
                    refine W.widen (k := 0) (n := 0) (Nat.le_refl _) (Nat.le_refl _) ?_
                    by_cases g_66 : (3 : Int32) < 0 ∨ 4 ≤ (3 : Int32).toNatClampNeg
                    · have hr := (if_pos g_66).symm.trans hr
                      cases hr
                    have hr := (if_neg g_66).symm.trans hr
                    refine va_iast hx hb hK hP hD hS 6 0 rfl rfl g_66 dX1_finish_26 (fun H locs hP hD hS => ?_)
                    have hP : va_P (dC, dI) vwCl [(h0, .inr (1, [.ref gN, .ref gS, .int r_2.2.2.2.2.1, .long r_2.2.2.2.2.2.1, .long r_2.2.2.2.2.2.2.1, .long r_2.2.2.2.2.2.2.2.1, .long r_2.2.2.2.2.2.2.2.2])), (gN, .inl (cO, 4, .inr (.inr (.inr (.inr F))))), (q0, .inl (cI, 256, .inl r_2.1)), (q1, .inl (cI, 256, .inl r_53)), (q2, .inl (cI, 256, .inl r_2.2.2.1)), (q3, .inl (cI, 256, .inl r_2.2.2.2.1)), (gS, .inl (cI, 4, .inl (upd (upd (upd (upd sg (0 : Int32).toNatClampNeg r_6) (1 : Int32).toNatClampNeg r_13) (2 : Int32).toNatClampNeg r_57) (3 : Int32).toNatClampNeg r_64)))] H := hP
                    have hD : va_D A [(h0, .inr (1, [.ref gN, .ref gS, .int r_2.2.2.2.2.1, .long r_2.2.2.2.2.2.1, .long r_2.2.2.2.2.2.2.1, .long r_2.2.2.2.2.2.2.2.1, .long r_2.2.2.2.2.2.2.2.2])), (gN, .inl (cO, 4, .inr (.inr (.inr (.inr F))))), (q0, .inl (cI, 256, .inl r_2.1)), (q1, .inl (cI, 256, .inl r_53)), (q2, .inl (cI, 256, .inl r_2.2.2.1)), (q3, .inl (cI, 256, .inl r_2.2.2.2.1)), (gS, .inl (cI, 4, .inl (upd (upd (upd (upd sg (0 : Int32).toNatClampNeg r_6) (1 : Int32).toNatClampNeg r_13) (2 : Int32).toNatClampNeg r_57) (3 : Int32).toNatClampNeg r_64)))] := hD
                    refine lv_aload_n hx hb dX1_finish_27 rfl (lv_at hl 1 rfl) ?_
                    refine va_get (D := (dC, dI)) (ci := 1) (v := .ref gS) (C := RX1) (T := TX1) (N := 7) hx hb hts in_X1_finish_X1 hown hK hP 0 rfl rfl 1 (by decide) (hts (.fieldLink RX1 16 "FormRing$Matrix" "signs" "[I") (by decide +kernel)) (fun _ h9 => h9) rfl dX1_finish_28 ?_
                    refine lv_iload_n hx hb dX1_finish_31 rfl (lv_at hl 0 rfl) ?_
                    by_cases g_67 : (3 : Int32) < 0 ∨ 4 ≤ (3 : Int32).toNatClampNeg
                    · have hr := (if_pos g_67).symm.trans hr
                      cases hr
                    have hr := (if_neg g_67).symm.trans hr
                    refine va_iald hx hb hK hP 6 0 rfl rfl g_67 dX1_finish_32 ?_
                    refine lz_zge (tgt := 46) hx hb dX1_finish_33 (by decide) (fun c_68 => ?_) (fun c_68 => ?_)
                    · have hr := (if_neg c_68).symm.trans hr
                      refine lv_iinc (v := 4) (lv' := [(1, .int 4), (0, .ref h0)]) hx hb dX1_finish_46 hl (k := 0) rfl (by decide) (by decide) rfl (fun ls hl => ?_)
                      refine lv_goto (tgt := 6) hx hb dX1_finish_49 (by decide) ?_
                      refine lv_iload_n hx hb dX1_finish_6 rfl (lv_at hl 0 rfl) ?_
                      refine lv_iconst (v := 4) hx hb dX1_finish_7 (by decide) ?_
                      refine lz_ige (tgt := 52) hx hb dX1_finish_8 (by decide) (fun c_69 => ?_) (fun c_69 => absurd c_69 (by decide))
                      have ho := Option.some.inj hr
                      subst ho
                      exact W.vret hx hb hrt (fun t ht hW => ⟨⟨(), rfl, trivial, by rw [ht]; exact hP, va_K.moved hW.alike hK, hD⟩, hS.F ht⟩) hS.2.2 dX1_finish_52
                    · have hr := (if_pos c_68).symm.trans hr
                      refine lv_aload_n hx hb dX1_finish_36 rfl (lv_at hl 1 rfl) ?_
                      refine lv_aload_n hx hb dX1_finish_37 rfl (lv_at hl 1 rfl) ?_
                      refine va_get (D := (dC, dI)) (ci := 1) (v := .ref gN) (C := RX1) (T := TX1) (N := 7) hx hb hts in_X1_finish_X1 hown hK hP 0 rfl rfl 0 (by decide) (hts (.fieldLink RX1 13 "FormRing$Matrix" "numbers" "[[I") (by decide +kernel)) (fun _ h9 => h9) rfl dX1_finish_38 ?_
                      refine lv_iload_n hx hb dX1_finish_41 rfl (lv_at hl 0 rfl) ?_
                      refine zz_ald hx hb hK hP 1 1 rfl rfl (q := q3) hF.2.2.2 zz_in3 dX1_finish_42 ?_
                      cases e_70 : f_X1_negate n r_2.2.2.2.2.1 r_2.2.2.2.1 with
                      | none => rw [e_70, Option.bind_none] at hr; cases hr
                      | some r_71 =>
                        rw [e_70, Option.bind_some] at hr
                        have hPc := hP.sub (ws' := [(h0, .inr (1, [.ref gN, .ref gS, .int r_2.2.2.2.2.1, .long r_2.2.2.2.2.2.1, .long r_2.2.2.2.2.2.2.1, .long r_2.2.2.2.2.2.2.2.1, .long r_2.2.2.2.2.2.2.2.2])), (q3, .inl (cI, 256, .inl r_2.2.2.2.1))]) [0, 5] rfl
                        have hDc := hD.sub (ws' := [(h0, .inr (1, [.ref gN, .ref gS, .int r_2.2.2.2.2.1, .long r_2.2.2.2.2.2.1, .long r_2.2.2.2.2.2.2.1, .long r_2.2.2.2.2.2.2.2.1, .long r_2.2.2.2.2.2.2.2.2])), (q3, .inl (cI, 256, .inl r_2.2.2.2.1))]) [0, 5] (by decide) rfl
                        have hKc := hK.sub (tys' := [(cI, .int)]) [0] rfl
                        have hFc := va_free (wc := [(h0, .inr (1, [.ref gN, .ref gS, .int r_2.2.2.2.2.1, .long r_2.2.2.2.2.2.1, .long r_2.2.2.2.2.2.2.1, .long r_2.2.2.2.2.2.2.2.1, .long r_2.2.2.2.2.2.2.2.2])), (q3, .inl (cI, 256, .inl r_2.2.2.2.1))]) hD hS hA [0, 5] rfl
                        refine va_callv (va_runV (As := [.ref q3]) (rest := []) ⟨hx, hb, hml, hown, hts⟩ (c_X1_negate l dC dI H.size h0 gN gS r_2.2.2.2.2.1 r_2.2.2.2.2.2.1 r_2.2.2.2.2.2.2.1 r_2.2.2.2.2.2.2.2.1 r_2.2.2.2.2.2.2.2.2 cI q3 r_2.2.2.2.1  n _ e_70) (cwV 1 hts gX1_finish_X1_negate rfl rfl rfl (by decide +kernel) ⟨Nat.le_of_ble_eq_true rfl, Nat.le_of_ble_eq_true rfl⟩) ⟨fun a U g mk q => by obtain ⟨q0, q1, qP, qK, qD⟩ := q; exact ⟨q0, q1, qP, va_K.moved (u := U) (U := U.calling g mk a) (Vm.Alike.refl U.vm) qK, qD⟩, va_recv hKc hPc (ci := 1) (q0 := 0) rfl rfl, fun U hU hW => ⟨rfl, by rw [hU], by rw [hU]; exact hPc, va_K.moved hW.alike hKc, hDc.weaken (fun _ _ _ _ => trivial)⟩⟩ rfl rfl hl.1 rfl (lv_room (Nat.le_of_ble_eq_true rfl)) dX1_finish_43 ⟨Nat.zero_le _, Nat.zero_le _⟩) hS (fun q _ h => hFc q h) hFc (fun _ t H1 locs ht hvm hw hB hz1 hk1 hS => ?_)
                        obtain ⟨hP1, hK1, hD1⟩ := hB
                        rw [ht] at hP1
                        obtain ⟨hP, hD⟩ := va_join (wr := [(gN, .inl (cO, 4, .inr (.inr (.inr (.inr F))))), (q0, .inl (cI, 256, .inl r_2.1)), (q1, .inl (cI, 256, .inl r_53)), (q2, .inl (cI, 256, .inl r_2.2.2.1)), (gS, .inl (cI, 4, .inl (upd (upd (upd (upd sg (0 : Int32).toNatClampNeg r_6) (1 : Int32).toNatClampNeg r_13) (2 : Int32).toNatClampNeg r_57) (3 : Int32).toNatClampNeg r_64)))]) (w1 := [(h0, .inr (1, [.ref gN, .ref gS, .int r_2.2.2.2.2.1, .long r_2.2.2.2.2.2.1, .long r_2.2.2.2.2.2.2.1, .long r_2.2.2.2.2.2.2.2.1, .long r_2.2.2.2.2.2.2.2.2])), (q3, .inl (cI, 256, .inl r_71))]) hP hD [0, 5] [1, 2, 3, 4, 6] rfl rfl (by decide) (by decide) hk1 hFc hP1 hD1
                        generalize H1 = H at hP hS ⊢
                        have hP := hP.sub (ws' := [(h0, .inr (1, [.ref gN, .ref gS, .int r_2.2.2.2.2.1, .long r_2.2.2.2.2.2.1, .long r_2.2.2.2.2.2.2.1, .long r_2.2.2.2.2.2.2.2.1, .long r_2.2.2.2.2.2.2.2.2])), (gN, .inl (cO, 4, .inr (.inr (.inr (.inr F))))), (q0, .inl (cI, 256, .inl r_2.1)), (q1, .inl (cI, 256, .inl r_53)), (q2, .inl (cI, 256, .inl r_2.2.2.1)), (q3, .inl (cI, 256, .inl r_71)), (gS, .inl (cI, 4, .inl (upd (upd (upd (upd sg (0 : Int32).toNatClampNeg r_6) (1 : Int32).toNatClampNeg r_13) (2 : Int32).toNatClampNeg r_57) (3 : Int32).toNatClampNeg r_64)))]) [5, 0, 1, 2, 3, 6, 4] rfl
                        have hD := hD.sub (ws' := [(h0, .inr (1, [.ref gN, .ref gS, .int r_2.2.2.2.2.1, .long r_2.2.2.2.2.2.1, .long r_2.2.2.2.2.2.2.1, .long r_2.2.2.2.2.2.2.2.1, .long r_2.2.2.2.2.2.2.2.2])), (gN, .inl (cO, 4, .inr (.inr (.inr (.inr F))))), (q0, .inl (cI, 256, .inl r_2.1)), (q1, .inl (cI, 256, .inl r_53)), (q2, .inl (cI, 256, .inl r_2.2.2.1)), (q3, .inl (cI, 256, .inl r_71)), (gS, .inl (cI, 4, .inl (upd (upd (upd (upd sg (0 : Int32).toNatClampNeg r_6) (1 : Int32).toNatClampNeg r_13) (2 : Int32).toNatClampNeg r_57) (3 : Int32).toNatClampNeg r_64)))]) [5, 0, 1, 2, 3, 6, 4] (by decide) rfl
                        have hP : va_P (dC, dI) vwCl [(h0, .inr (1, [.ref gN, .ref gS, .int r_2.2.2.2.2.1, .long r_2.2.2.2.2.2.1, .long r_2.2.2.2.2.2.2.1, .long r_2.2.2.2.2.2.2.2.1, .long r_2.2.2.2.2.2.2.2.2])), (gN, .inl (cO, 4, .inr (.inr (.inr (.inr F))))), (q0, .inl (cI, 256, .inl r_2.1)), (q1, .inl (cI, 256, .inl r_53)), (q2, .inl (cI, 256, .inl r_2.2.2.1)), (q3, .inl (cI, 256, .inl r_71)), (gS, .inl (cI, 4, .inl (upd (upd (upd (upd sg (0 : Int32).toNatClampNeg r_6) (1 : Int32).toNatClampNeg r_13) (2 : Int32).toNatClampNeg r_57) (3 : Int32).toNatClampNeg r_64)))] H := hP
                        have hD : va_D A [(h0, .inr (1, [.ref gN, .ref gS, .int r_2.2.2.2.2.1, .long r_2.2.2.2.2.2.1, .long r_2.2.2.2.2.2.2.1, .long r_2.2.2.2.2.2.2.2.1, .long r_2.2.2.2.2.2.2.2.2])), (gN, .inl (cO, 4, .inr (.inr (.inr (.inr F))))), (q0, .inl (cI, 256, .inl r_2.1)), (q1, .inl (cI, 256, .inl r_53)), (q2, .inl (cI, 256, .inl r_2.2.2.1)), (q3, .inl (cI, 256, .inl r_71)), (gS, .inl (cI, 4, .inl (upd (upd (upd (upd sg (0 : Int32).toNatClampNeg r_6) (1 : Int32).toNatClampNeg r_13) (2 : Int32).toNatClampNeg r_57) (3 : Int32).toNatClampNeg r_64)))] := hD
                        refine W.widen (k := 0) (n := 0) (Nat.le_refl _) (Nat.le_refl _) ?_
                        refine lv_iinc (v := 4) (lv' := [(1, .int 4), (0, .ref h0)]) hx hb dX1_finish_46 hl (k := 0) rfl (by decide) (by decide) rfl (fun ls hl => ?_)
                        refine lv_goto (tgt := 6) hx hb dX1_finish_49 (by decide) ?_
                        refine lv_iload_n hx hb dX1_finish_6 rfl (lv_at hl 0 rfl) ?_
                        refine lv_iconst (v := 4) hx hb dX1_finish_7 (by decide) ?_
                        refine lz_ige (tgt := 52) hx hb dX1_finish_8 (by decide) (fun c_73 => ?_) (fun c_73 => absurd c_73 (by decide))
                        have ho := Option.some.inj hr
                        subst ho
                        exact W.vret hx hb hrt (fun t ht hW => ⟨⟨(), rfl, trivial, by rw [ht]; exact hP, va_K.moved hW.alike hK, hD⟩, hS.F ht⟩) hS.2.2 dX1_finish_52
                · have hr := (if_pos c_61).symm.trans hr
                  refine lv_aload_n hx hb dX1_finish_36 rfl (lv_at hl 1 rfl) ?_
                  refine lv_aload_n hx hb dX1_finish_37 rfl (lv_at hl 1 rfl) ?_
                  refine va_get (D := (dC, dI)) (ci := 1) (v := .ref gN) (C := RX1) (T := TX1) (N := 7) hx hb hts in_X1_finish_X1 hown hK hP 0 rfl rfl 0 (by decide) (hts (.fieldLink RX1 13 "FormRing$Matrix" "numbers" "[[I") (by decide +kernel)) (fun _ h9 => h9) rfl dX1_finish_38 ?_
                  refine lv_iload_n hx hb dX1_finish_41 rfl (lv_at hl 0 rfl) ?_
                  refine zz_ald hx hb hK hP 1 1 rfl rfl (q := q2) hF.2.2.1 zz_in2 dX1_finish_42 ?_
                  cases e_74 : f_X1_negate n r_2.2.2.2.2.1 r_2.2.2.1 with
                  | none => rw [e_74, Option.bind_none] at hr; cases hr
                  | some r_75 =>
                    rw [e_74, Option.bind_some] at hr
                    have hPc := hP.sub (ws' := [(h0, .inr (1, [.ref gN, .ref gS, .int r_2.2.2.2.2.1, .long r_2.2.2.2.2.2.1, .long r_2.2.2.2.2.2.2.1, .long r_2.2.2.2.2.2.2.2.1, .long r_2.2.2.2.2.2.2.2.2])), (q2, .inl (cI, 256, .inl r_2.2.2.1))]) [0, 4] rfl
                    have hDc := hD.sub (ws' := [(h0, .inr (1, [.ref gN, .ref gS, .int r_2.2.2.2.2.1, .long r_2.2.2.2.2.2.1, .long r_2.2.2.2.2.2.2.1, .long r_2.2.2.2.2.2.2.2.1, .long r_2.2.2.2.2.2.2.2.2])), (q2, .inl (cI, 256, .inl r_2.2.2.1))]) [0, 4] (by decide) rfl
                    have hKc := hK.sub (tys' := [(cI, .int)]) [0] rfl
                    have hFc := va_free (wc := [(h0, .inr (1, [.ref gN, .ref gS, .int r_2.2.2.2.2.1, .long r_2.2.2.2.2.2.1, .long r_2.2.2.2.2.2.2.1, .long r_2.2.2.2.2.2.2.2.1, .long r_2.2.2.2.2.2.2.2.2])), (q2, .inl (cI, 256, .inl r_2.2.2.1))]) hD hS hA [0, 4] rfl
                    refine va_callv (va_runV (As := [.ref q2]) (rest := []) ⟨hx, hb, hml, hown, hts⟩ (c_X1_negate l dC dI H.size h0 gN gS r_2.2.2.2.2.1 r_2.2.2.2.2.2.1 r_2.2.2.2.2.2.2.1 r_2.2.2.2.2.2.2.2.1 r_2.2.2.2.2.2.2.2.2 cI q2 r_2.2.2.1  n _ e_74) (cwV 1 hts gX1_finish_X1_negate rfl rfl rfl (by decide +kernel) ⟨Nat.le_of_ble_eq_true rfl, Nat.le_of_ble_eq_true rfl⟩) ⟨fun a U g mk q => by obtain ⟨q0, q1, qP, qK, qD⟩ := q; exact ⟨q0, q1, qP, va_K.moved (u := U) (U := U.calling g mk a) (Vm.Alike.refl U.vm) qK, qD⟩, va_recv hKc hPc (ci := 1) (q0 := 0) rfl rfl, fun U hU hW => ⟨rfl, by rw [hU], by rw [hU]; exact hPc, va_K.moved hW.alike hKc, hDc.weaken (fun _ _ _ _ => trivial)⟩⟩ rfl rfl hl.1 rfl (lv_room (Nat.le_of_ble_eq_true rfl)) dX1_finish_43 ⟨Nat.zero_le _, Nat.zero_le _⟩) hS (fun q _ h => hFc q h) hFc (fun _ t H1 locs ht hvm hw hB hz1 hk1 hS => ?_)
                    obtain ⟨hP1, hK1, hD1⟩ := hB
                    rw [ht] at hP1
                    obtain ⟨hP, hD⟩ := va_join (wr := [(gN, .inl (cO, 4, .inr (.inr (.inr (.inr F))))), (q0, .inl (cI, 256, .inl r_2.1)), (q1, .inl (cI, 256, .inl r_53)), (q3, .inl (cI, 256, .inl r_2.2.2.2.1)), (gS, .inl (cI, 4, .inl (upd (upd (upd sg (0 : Int32).toNatClampNeg r_6) (1 : Int32).toNatClampNeg r_13) (2 : Int32).toNatClampNeg r_57)))]) (w1 := [(h0, .inr (1, [.ref gN, .ref gS, .int r_2.2.2.2.2.1, .long r_2.2.2.2.2.2.1, .long r_2.2.2.2.2.2.2.1, .long r_2.2.2.2.2.2.2.2.1, .long r_2.2.2.2.2.2.2.2.2])), (q2, .inl (cI, 256, .inl r_75))]) hP hD [0, 4] [1, 2, 3, 5, 6] rfl rfl (by decide) (by decide) hk1 hFc hP1 hD1
                    generalize H1 = H at hP hS ⊢
                    have hP := hP.sub (ws' := [(h0, .inr (1, [.ref gN, .ref gS, .int r_2.2.2.2.2.1, .long r_2.2.2.2.2.2.1, .long r_2.2.2.2.2.2.2.1, .long r_2.2.2.2.2.2.2.2.1, .long r_2.2.2.2.2.2.2.2.2])), (gN, .inl (cO, 4, .inr (.inr (.inr (.inr F))))), (q0, .inl (cI, 256, .inl r_2.1)), (q1, .inl (cI, 256, .inl r_53)), (q2, .inl (cI, 256, .inl r_75)), (q3, .inl (cI, 256, .inl r_2.2.2.2.1)), (gS, .inl (cI, 4, .inl (upd (upd (upd sg (0 : Int32).toNatClampNeg r_6) (1 : Int32).toNatClampNeg r_13) (2 : Int32).toNatClampNeg r_57)))]) [5, 0, 1, 2, 6, 3, 4] rfl
                    have hD := hD.sub (ws' := [(h0, .inr (1, [.ref gN, .ref gS, .int r_2.2.2.2.2.1, .long r_2.2.2.2.2.2.1, .long r_2.2.2.2.2.2.2.1, .long r_2.2.2.2.2.2.2.2.1, .long r_2.2.2.2.2.2.2.2.2])), (gN, .inl (cO, 4, .inr (.inr (.inr (.inr F))))), (q0, .inl (cI, 256, .inl r_2.1)), (q1, .inl (cI, 256, .inl r_53)), (q2, .inl (cI, 256, .inl r_75)), (q3, .inl (cI, 256, .inl r_2.2.2.2.1)), (gS, .inl (cI, 4, .inl (upd (upd (upd sg (0 : Int32).toNatClampNeg r_6) (1 : Int32).toNatClampNeg r_13) (2 : Int32).toNatClampNeg r_57)))]) [5, 0, 1, 2, 6, 3, 4] (by decide) rfl
                    have hP : va_P (dC, dI) vwCl [(h0, .inr (1, [.ref gN, .ref gS, .int r_2.2.2.2.2.1, .long r_2.2.2.2.2.2.1, .long r_2.2.2.2.2.2.2.1, .long r_2.2.2.2.2.2.2.2.1, .long r_2.2.2.2.2.2.2.2.2])), (gN, .inl (cO, 4, .inr (.inr (.inr (.inr F))))), (q0, .inl (cI, 256, .inl r_2.1)), (q1, .inl (cI, 256, .inl r_53)), (q2, .inl (cI, 256, .inl r_75)), (q3, .inl (cI, 256, .inl r_2.2.2.2.1)), (gS, .inl (cI, 4, .inl (upd (upd (upd sg (0 : Int32).toNatClampNeg r_6) (1 : Int32).toNatClampNeg r_13) (2 : Int32).toNatClampNeg r_57)))] H := hP
                    have hD : va_D A [(h0, .inr (1, [.ref gN, .ref gS, .int r_2.2.2.2.2.1, .long r_2.2.2.2.2.2.1, .long r_2.2.2.2.2.2.2.1, .long r_2.2.2.2.2.2.2.2.1, .long r_2.2.2.2.2.2.2.2.2])), (gN, .inl (cO, 4, .inr (.inr (.inr (.inr F))))), (q0, .inl (cI, 256, .inl r_2.1)), (q1, .inl (cI, 256, .inl r_53)), (q2, .inl (cI, 256, .inl r_75)), (q3, .inl (cI, 256, .inl r_2.2.2.2.1)), (gS, .inl (cI, 4, .inl (upd (upd (upd sg (0 : Int32).toNatClampNeg r_6) (1 : Int32).toNatClampNeg r_13) (2 : Int32).toNatClampNeg r_57)))] := hD
                    refine W.widen (k := 0) (n := 0) (Nat.le_refl _) (Nat.le_refl _) ?_
                    refine lv_iinc (v := 3) (lv' := [(1, .int 3), (0, .ref h0)]) hx hb dX1_finish_46 hl (k := 0) rfl (by decide) (by decide) rfl (fun ls hl => ?_)
                    refine lv_goto (tgt := 6) hx hb dX1_finish_49 (by decide) ?_
                    refine lv_iload_n hx hb dX1_finish_6 rfl (lv_at hl 0 rfl) ?_
                    refine lv_iconst (v := 4) hx hb dX1_finish_7 (by decide) ?_
                    refine lz_ige (tgt := 52) hx hb dX1_finish_8 (by decide) (fun c_77 => absurd c_77 (by decide)) (fun c_77 => ?_)
                    refine lv_aload_n hx hb dX1_finish_11 rfl (lv_at hl 1 rfl) ?_
                    refine va_get (D := (dC, dI)) (ci := 1) (v := .ref gS) (C := RX1) (T := TX1) (N := 7) hx hb hts in_X1_finish_X1 hown hK hP 0 rfl rfl 1 (by decide) (hts (.fieldLink RX1 16 "FormRing$Matrix" "signs" "[I") (by decide +kernel)) (fun _ h9 => h9) rfl dX1_finish_12 ?_
                    refine lv_iload_n hx hb dX1_finish_15 rfl (lv_at hl 0 rfl) ?_
                    refine lv_aload_n hx hb dX1_finish_16 rfl (lv_at hl 1 rfl) ?_
                    refine lv_aload_n hx hb dX1_finish_17 rfl (lv_at hl 1 rfl) ?_
                    refine va_get (D := (dC, dI)) (ci := 1) (v := .ref gN) (C := RX1) (T := TX1) (N := 7) hx hb hts in_X1_finish_X1 hown hK hP 0 rfl rfl 0 (by decide) (hts (.fieldLink RX1 13 "FormRing$Matrix" "numbers" "[[I") (by decide +kernel)) (fun _ h9 => h9) rfl dX1_finish_18 ?_
                    refine lv_iload_n hx hb dX1_finish_21 rfl (lv_at hl 0 rfl) ?_
                    refine zz_ald hx hb hK hP 1 1 rfl rfl (q := q3) hF.2.2.2 zz_in3 dX1_finish_22 ?_
                    cases e_78 : f_X1_findSign n r_2.2.2.2.2.1 r_2.2.2.2.1 with
                    | none => rw [e_78, Option.bind_none] at hr; cases hr
                    | some r_79 =>
                      rw [e_78, Option.bind_some] at hr
                      have hPc := hP.sub (ws' := [(h0, .inr (1, [.ref gN, .ref gS, .int r_2.2.2.2.2.1, .long r_2.2.2.2.2.2.1, .long r_2.2.2.2.2.2.2.1, .long r_2.2.2.2.2.2.2.2.1, .long r_2.2.2.2.2.2.2.2.2])), (q3, .inl (cI, 256, .inl r_2.2.2.2.1))]) [0, 5] rfl
                      have hDc := hD.sub (ws' := [(h0, .inr (1, [.ref gN, .ref gS, .int r_2.2.2.2.2.1, .long r_2.2.2.2.2.2.1, .long r_2.2.2.2.2.2.2.1, .long r_2.2.2.2.2.2.2.2.1, .long r_2.2.2.2.2.2.2.2.2])), (q3, .inl (cI, 256, .inl r_2.2.2.2.1))]) [0, 5] (by decide) rfl
                      have hKc := hK.sub (tys' := [(cI, .int)]) [0] rfl
                      have hFc := va_free (wc := [(h0, .inr (1, [.ref gN, .ref gS, .int r_2.2.2.2.2.1, .long r_2.2.2.2.2.2.1, .long r_2.2.2.2.2.2.2.1, .long r_2.2.2.2.2.2.2.2.1, .long r_2.2.2.2.2.2.2.2.2])), (q3, .inl (cI, 256, .inl r_2.2.2.2.1))]) hD hS hA [0, 5] rfl
                      refine va_calli (va_runV (As := [.ref q3]) (rest := [.int 3, .ref gS]) ⟨hx, hb, hml, hown, hts⟩ (c_X1_findSign l dC dI H.size h0 gN gS r_2.2.2.2.2.1 r_2.2.2.2.2.2.1 r_2.2.2.2.2.2.2.1 r_2.2.2.2.2.2.2.2.1 r_2.2.2.2.2.2.2.2.2 cI q3 r_2.2.2.2.1  n _ e_78) (cwV 1 hts gX1_finish_X1_findSign rfl rfl rfl (by decide +kernel) ⟨Nat.le_of_ble_eq_true rfl, Nat.le_of_ble_eq_true rfl⟩) ⟨fun a U g mk q => by obtain ⟨q0, q1, qP, qK, qD⟩ := q; exact ⟨q0, q1, qP, va_K.moved (u := U) (U := U.calling g mk a) (Vm.Alike.refl U.vm) qK, qD⟩, va_recv hKc hPc (ci := 1) (q0 := 0) rfl rfl, fun U hU hW => ⟨rfl, by rw [hU], by rw [hU]; exact hPc, va_K.moved hW.alike hKc, hDc.weaken (fun _ _ _ _ => trivial)⟩⟩ rfl rfl hl.1 rfl (lv_room (Nat.le_of_ble_eq_true rfl)) dX1_finish_23 ⟨Nat.zero_le _, Nat.zero_le _⟩) hS (fun q _ h => hFc q h) hFc (fun x_80 _ t H1 locs ht hvm hw hB hz1 hk1 hS => ?_)
                      have hw := hw.symm
                      subst hw
                      obtain ⟨hP1, hK1, hD1⟩ := hB
                      rw [ht] at hP1
                      obtain ⟨hP, hD⟩ := va_join (wr := [(gN, .inl (cO, 4, .inr (.inr (.inr (.inr F))))), (q0, .inl (cI, 256, .inl r_2.1)), (q1, .inl (cI, 256, .inl r_53)), (q2, .inl (cI, 256, .inl r_75)), (gS, .inl (cI, 4, .inl (upd (upd (upd sg (0 : Int32).toNatClampNeg r_6) (1 : Int32).toNatClampNeg r_13) (2 : Int32).toNatClampNeg r_57)))]) (w1 := [(h0, .inr (1, [.ref gN, .ref gS, .int r_2.2.2.2.2.1, .long r_2.2.2.2.2.2.1, .long r_2.2.2.2.2.2.2.1, .long r_2.2.2.2.2.2.2.2.1, .long r_2.2.2.2.2.2.2.2.2])), (q3, .inl (cI, 256, .inl r_2.2.2.2.1))]) hP hD [0, 5] [1, 2, 3, 4, 6] rfl rfl (by decide) (by decide) hk1 hFc hP1 hD1
                      generalize H1 = H at hP hS ⊢
                      have hP := hP.sub (ws' := [(h0, .inr (1, [.ref gN, .ref gS, .int r_2.2.2.2.2.1, .long r_2.2.2.2.2.2.1, .long r_2.2.2.2.2.2.2.1, .long r_2.2.2.2.2.2.2.2.1, .long r_2.2.2.2.2.2.2.2.2])), (gN, .inl (cO, 4, .inr (.inr (.inr (.inr F))))), (q0, .inl (cI, 256, .inl r_2.1)), (q1, .inl (cI, 256, .inl r_53)), (q2, .inl (cI, 256, .inl r_75)), (q3, .inl (cI, 256, .inl r_2.2.2.2.1)), (gS, .inl (cI, 4, .inl (upd (upd (upd sg (0 : Int32).toNatClampNeg r_6) (1 : Int32).toNatClampNeg r_13) (2 : Int32).toNatClampNeg r_57)))]) [5, 0, 1, 2, 3, 6, 4] rfl
                      have hD := hD.sub (ws' := [(h0, .inr (1, [.ref gN, .ref gS, .int r_2.2.2.2.2.1, .long r_2.2.2.2.2.2.1, .long r_2.2.2.2.2.2.2.1, .long r_2.2.2.2.2.2.2.2.1, .long r_2.2.2.2.2.2.2.2.2])), (gN, .inl (cO, 4, .inr (.inr (.inr (.inr F))))), (q0, .inl (cI, 256, .inl r_2.1)), (q1, .inl (cI, 256, .inl r_53)), (q2, .inl (cI, 256, .inl r_75)), (q3, .inl (cI, 256, .inl r_2.2.2.2.1)), (gS, .inl (cI, 4, .inl (upd (upd (upd sg (0 : Int32).toNatClampNeg r_6) (1 : Int32).toNatClampNeg r_13) (2 : Int32).toNatClampNeg r_57)))]) [5, 0, 1, 2, 3, 6, 4] (by decide) rfl
                      have hP : va_P (dC, dI) vwCl [(h0, .inr (1, [.ref gN, .ref gS, .int r_2.2.2.2.2.1, .long r_2.2.2.2.2.2.1, .long r_2.2.2.2.2.2.2.1, .long r_2.2.2.2.2.2.2.2.1, .long r_2.2.2.2.2.2.2.2.2])), (gN, .inl (cO, 4, .inr (.inr (.inr (.inr F))))), (q0, .inl (cI, 256, .inl r_2.1)), (q1, .inl (cI, 256, .inl r_53)), (q2, .inl (cI, 256, .inl r_75)), (q3, .inl (cI, 256, .inl r_2.2.2.2.1)), (gS, .inl (cI, 4, .inl (upd (upd (upd sg (0 : Int32).toNatClampNeg r_6) (1 : Int32).toNatClampNeg r_13) (2 : Int32).toNatClampNeg r_57)))] H := hP
                      have hD : va_D A [(h0, .inr (1, [.ref gN, .ref gS, .int r_2.2.2.2.2.1, .long r_2.2.2.2.2.2.1, .long r_2.2.2.2.2.2.2.1, .long r_2.2.2.2.2.2.2.2.1, .long r_2.2.2.2.2.2.2.2.2])), (gN, .inl (cO, 4, .inr (.inr (.inr (.inr F))))), (q0, .inl (cI, 256, .inl r_2.1)), (q1, .inl (cI, 256, .inl r_53)), (q2, .inl (cI, 256, .inl r_75)), (q3, .inl (cI, 256, .inl r_2.2.2.2.1)), (gS, .inl (cI, 4, .inl (upd (upd (upd sg (0 : Int32).toNatClampNeg r_6) (1 : Int32).toNatClampNeg r_13) (2 : Int32).toNatClampNeg r_57)))] := hD
                      refine W.widen (k := 0) (n := 0) (Nat.le_refl _) (Nat.le_refl _) ?_
                      by_cases g_81 : (3 : Int32) < 0 ∨ 4 ≤ (3 : Int32).toNatClampNeg
                      · have hr := (if_pos g_81).symm.trans hr
                        cases hr
                      have hr := (if_neg g_81).symm.trans hr
                      refine va_iast hx hb hK hP hD hS 6 0 rfl rfl g_81 dX1_finish_26 (fun H locs hP hD hS => ?_)
                      have hP : va_P (dC, dI) vwCl [(h0, .inr (1, [.ref gN, .ref gS, .int r_2.2.2.2.2.1, .long r_2.2.2.2.2.2.1, .long r_2.2.2.2.2.2.2.1, .long r_2.2.2.2.2.2.2.2.1, .long r_2.2.2.2.2.2.2.2.2])), (gN, .inl (cO, 4, .inr (.inr (.inr (.inr F))))), (q0, .inl (cI, 256, .inl r_2.1)), (q1, .inl (cI, 256, .inl r_53)), (q2, .inl (cI, 256, .inl r_75)), (q3, .inl (cI, 256, .inl r_2.2.2.2.1)), (gS, .inl (cI, 4, .inl (upd (upd (upd (upd sg (0 : Int32).toNatClampNeg r_6) (1 : Int32).toNatClampNeg r_13) (2 : Int32).toNatClampNeg r_57) (3 : Int32).toNatClampNeg r_79)))] H := hP
                      have hD : va_D A [(h0, .inr (1, [.ref gN, .ref gS, .int r_2.2.2.2.2.1, .long r_2.2.2.2.2.2.1, .long r_2.2.2.2.2.2.2.1, .long r_2.2.2.2.2.2.2.2.1, .long r_2.2.2.2.2.2.2.2.2])), (gN, .inl (cO, 4, .inr (.inr (.inr (.inr F))))), (q0, .inl (cI, 256, .inl r_2.1)), (q1, .inl (cI, 256, .inl r_53)), (q2, .inl (cI, 256, .inl r_75)), (q3, .inl (cI, 256, .inl r_2.2.2.2.1)), (gS, .inl (cI, 4, .inl (upd (upd (upd (upd sg (0 : Int32).toNatClampNeg r_6) (1 : Int32).toNatClampNeg r_13) (2 : Int32).toNatClampNeg r_57) (3 : Int32).toNatClampNeg r_79)))] := hD
                      refine lv_aload_n hx hb dX1_finish_27 rfl (lv_at hl 1 rfl) ?_
                      refine va_get (D := (dC, dI)) (ci := 1) (v := .ref gS) (C := RX1) (T := TX1) (N := 7) hx hb hts in_X1_finish_X1 hown hK hP 0 rfl rfl 1 (by decide) (hts (.fieldLink RX1 16 "FormRing$Matrix" "signs" "[I") (by decide +kernel)) (fun _ h9 => h9) rfl dX1_finish_28 ?_
                      refine lv_iload_n hx hb dX1_finish_31 rfl (lv_at hl 0 rfl) ?_
                      by_cases g_82 : (3 : Int32) < 0 ∨ 4 ≤ (3 : Int32).toNatClampNeg
                      · have hr := (if_pos g_82).symm.trans hr
                        cases hr
                      have hr := (if_neg g_82).symm.trans hr
                      refine va_iald hx hb hK hP 6 0 rfl rfl g_82 dX1_finish_32 ?_
                      refine lz_zge (tgt := 46) hx hb dX1_finish_33 (by decide) (fun c_83 => ?_) (fun c_83 => ?_)
                      · have hr := (if_neg c_83).symm.trans hr
                        refine lv_iinc (v := 4) (lv' := [(1, .int 4), (0, .ref h0)]) hx hb dX1_finish_46 hl (k := 0) rfl (by decide) (by decide) rfl (fun ls hl => ?_)
                        refine lv_goto (tgt := 6) hx hb dX1_finish_49 (by decide) ?_
                        refine lv_iload_n hx hb dX1_finish_6 rfl (lv_at hl 0 rfl) ?_
                        refine lv_iconst (v := 4) hx hb dX1_finish_7 (by decide) ?_
                        refine lz_ige (tgt := 52) hx hb dX1_finish_8 (by decide) (fun c_84 => ?_) (fun c_84 => absurd c_84 (by decide))
                        have ho := Option.some.inj hr
                        subst ho
                        exact W.vret hx hb hrt (fun t ht hW => ⟨⟨(), rfl, trivial, by rw [ht]; exact hP, va_K.moved hW.alike hK, hD⟩, hS.F ht⟩) hS.2.2 dX1_finish_52
                      · have hr := (if_pos c_83).symm.trans hr
                        refine lv_aload_n hx hb dX1_finish_36 rfl (lv_at hl 1 rfl) ?_
                        refine lv_aload_n hx hb dX1_finish_37 rfl (lv_at hl 1 rfl) ?_
                        refine va_get (D := (dC, dI)) (ci := 1) (v := .ref gN) (C := RX1) (T := TX1) (N := 7) hx hb hts in_X1_finish_X1 hown hK hP 0 rfl rfl 0 (by decide) (hts (.fieldLink RX1 13 "FormRing$Matrix" "numbers" "[[I") (by decide +kernel)) (fun _ h9 => h9) rfl dX1_finish_38 ?_
                        refine lv_iload_n hx hb dX1_finish_41 rfl (lv_at hl 0 rfl) ?_
                        refine zz_ald hx hb hK hP 1 1 rfl rfl (q := q3) hF.2.2.2 zz_in3 dX1_finish_42 ?_
                        cases e_85 : f_X1_negate n r_2.2.2.2.2.1 r_2.2.2.2.1 with
                        | none => rw [e_85, Option.bind_none] at hr; cases hr
                        | some r_86 =>
                          rw [e_85, Option.bind_some] at hr
                          have hPc := hP.sub (ws' := [(h0, .inr (1, [.ref gN, .ref gS, .int r_2.2.2.2.2.1, .long r_2.2.2.2.2.2.1, .long r_2.2.2.2.2.2.2.1, .long r_2.2.2.2.2.2.2.2.1, .long r_2.2.2.2.2.2.2.2.2])), (q3, .inl (cI, 256, .inl r_2.2.2.2.1))]) [0, 5] rfl
                          have hDc := hD.sub (ws' := [(h0, .inr (1, [.ref gN, .ref gS, .int r_2.2.2.2.2.1, .long r_2.2.2.2.2.2.1, .long r_2.2.2.2.2.2.2.1, .long r_2.2.2.2.2.2.2.2.1, .long r_2.2.2.2.2.2.2.2.2])), (q3, .inl (cI, 256, .inl r_2.2.2.2.1))]) [0, 5] (by decide) rfl
                          have hKc := hK.sub (tys' := [(cI, .int)]) [0] rfl
                          have hFc := va_free (wc := [(h0, .inr (1, [.ref gN, .ref gS, .int r_2.2.2.2.2.1, .long r_2.2.2.2.2.2.1, .long r_2.2.2.2.2.2.2.1, .long r_2.2.2.2.2.2.2.2.1, .long r_2.2.2.2.2.2.2.2.2])), (q3, .inl (cI, 256, .inl r_2.2.2.2.1))]) hD hS hA [0, 5] rfl
                          refine va_callv (va_runV (As := [.ref q3]) (rest := []) ⟨hx, hb, hml, hown, hts⟩ (c_X1_negate l dC dI H.size h0 gN gS r_2.2.2.2.2.1 r_2.2.2.2.2.2.1 r_2.2.2.2.2.2.2.1 r_2.2.2.2.2.2.2.2.1 r_2.2.2.2.2.2.2.2.2 cI q3 r_2.2.2.2.1  n _ e_85) (cwV 1 hts gX1_finish_X1_negate rfl rfl rfl (by decide +kernel) ⟨Nat.le_of_ble_eq_true rfl, Nat.le_of_ble_eq_true rfl⟩) ⟨fun a U g mk q => by obtain ⟨q0, q1, qP, qK, qD⟩ := q; exact ⟨q0, q1, qP, va_K.moved (u := U) (U := U.calling g mk a) (Vm.Alike.refl U.vm) qK, qD⟩, va_recv hKc hPc (ci := 1) (q0 := 0) rfl rfl, fun U hU hW => ⟨rfl, by rw [hU], by rw [hU]; exact hPc, va_K.moved hW.alike hKc, hDc.weaken (fun _ _ _ _ => trivial)⟩⟩ rfl rfl hl.1 rfl (lv_room (Nat.le_of_ble_eq_true rfl)) dX1_finish_43 ⟨Nat.zero_le _, Nat.zero_le _⟩) hS (fun q _ h => hFc q h) hFc (fun _ t H1 locs ht hvm hw hB hz1 hk1 hS => ?_)
                          obtain ⟨hP1, hK1, hD1⟩ := hB
                          rw [ht] at hP1
                          obtain ⟨hP, hD⟩ := va_join (wr := [(gN, .inl (cO, 4, .inr (.inr (.inr (.inr F))))), (q0, .inl (cI, 256, .inl r_2.1)), (q1, .inl (cI, 256, .inl r_53)), (q2, .inl (cI, 256, .inl r_75)), (gS, .inl (cI, 4, .inl (upd (upd (upd (upd sg (0 : Int32).toNatClampNeg r_6) (1 : Int32).toNatClampNeg r_13) (2 : Int32).toNatClampNeg r_57) (3 : Int32).toNatClampNeg r_79)))]) (w1 := [(h0, .inr (1, [.ref gN, .ref gS, .int r_2.2.2.2.2.1, .long r_2.2.2.2.2.2.1, .long r_2.2.2.2.2.2.2.1, .long r_2.2.2.2.2.2.2.2.1, .long r_2.2.2.2.2.2.2.2.2])), (q3, .inl (cI, 256, .inl r_86))]) hP hD [0, 5] [1, 2, 3, 4, 6] rfl rfl (by decide) (by decide) hk1 hFc hP1 hD1
                          generalize H1 = H at hP hS ⊢
                          have hP := hP.sub (ws' := [(h0, .inr (1, [.ref gN, .ref gS, .int r_2.2.2.2.2.1, .long r_2.2.2.2.2.2.1, .long r_2.2.2.2.2.2.2.1, .long r_2.2.2.2.2.2.2.2.1, .long r_2.2.2.2.2.2.2.2.2])), (gN, .inl (cO, 4, .inr (.inr (.inr (.inr F))))), (q0, .inl (cI, 256, .inl r_2.1)), (q1, .inl (cI, 256, .inl r_53)), (q2, .inl (cI, 256, .inl r_75)), (q3, .inl (cI, 256, .inl r_86)), (gS, .inl (cI, 4, .inl (upd (upd (upd (upd sg (0 : Int32).toNatClampNeg r_6) (1 : Int32).toNatClampNeg r_13) (2 : Int32).toNatClampNeg r_57) (3 : Int32).toNatClampNeg r_79)))]) [5, 0, 1, 2, 3, 6, 4] rfl
                          have hD := hD.sub (ws' := [(h0, .inr (1, [.ref gN, .ref gS, .int r_2.2.2.2.2.1, .long r_2.2.2.2.2.2.1, .long r_2.2.2.2.2.2.2.1, .long r_2.2.2.2.2.2.2.2.1, .long r_2.2.2.2.2.2.2.2.2])), (gN, .inl (cO, 4, .inr (.inr (.inr (.inr F))))), (q0, .inl (cI, 256, .inl r_2.1)), (q1, .inl (cI, 256, .inl r_53)), (q2, .inl (cI, 256, .inl r_75)), (q3, .inl (cI, 256, .inl r_86)), (gS, .inl (cI, 4, .inl (upd (upd (upd (upd sg (0 : Int32).toNatClampNeg r_6) (1 : Int32).toNatClampNeg r_13) (2 : Int32).toNatClampNeg r_57) (3 : Int32).toNatClampNeg r_79)))]) [5, 0, 1, 2, 3, 6, 4] (by decide) rfl
                          have hP : va_P (dC, dI) vwCl [(h0, .inr (1, [.ref gN, .ref gS, .int r_2.2.2.2.2.1, .long r_2.2.2.2.2.2.1, .long r_2.2.2.2.2.2.2.1, .long r_2.2.2.2.2.2.2.2.1, .long r_2.2.2.2.2.2.2.2.2])), (gN, .inl (cO, 4, .inr (.inr (.inr (.inr F))))), (q0, .inl (cI, 256, .inl r_2.1)), (q1, .inl (cI, 256, .inl r_53)), (q2, .inl (cI, 256, .inl r_75)), (q3, .inl (cI, 256, .inl r_86)), (gS, .inl (cI, 4, .inl (upd (upd (upd (upd sg (0 : Int32).toNatClampNeg r_6) (1 : Int32).toNatClampNeg r_13) (2 : Int32).toNatClampNeg r_57) (3 : Int32).toNatClampNeg r_79)))] H := hP
                          have hD : va_D A [(h0, .inr (1, [.ref gN, .ref gS, .int r_2.2.2.2.2.1, .long r_2.2.2.2.2.2.1, .long r_2.2.2.2.2.2.2.1, .long r_2.2.2.2.2.2.2.2.1, .long r_2.2.2.2.2.2.2.2.2])), (gN, .inl (cO, 4, .inr (.inr (.inr (.inr F))))), (q0, .inl (cI, 256, .inl r_2.1)), (q1, .inl (cI, 256, .inl r_53)), (q2, .inl (cI, 256, .inl r_75)), (q3, .inl (cI, 256, .inl r_86)), (gS, .inl (cI, 4, .inl (upd (upd (upd (upd sg (0 : Int32).toNatClampNeg r_6) (1 : Int32).toNatClampNeg r_13) (2 : Int32).toNatClampNeg r_57) (3 : Int32).toNatClampNeg r_79)))] := hD
                          refine W.widen (k := 0) (n := 0) (Nat.le_refl _) (Nat.le_refl _) ?_
                          refine lv_iinc (v := 4) (lv' := [(1, .int 4), (0, .ref h0)]) hx hb dX1_finish_46 hl (k := 0) rfl (by decide) (by decide) rfl (fun ls hl => ?_)
                          refine lv_goto (tgt := 6) hx hb dX1_finish_49 (by decide) ?_
                          refine lv_iload_n hx hb dX1_finish_6 rfl (lv_at hl 0 rfl) ?_
                          refine lv_iconst (v := 4) hx hb dX1_finish_7 (by decide) ?_
                          refine lz_ige (tgt := 52) hx hb dX1_finish_8 (by decide) (fun c_88 => ?_) (fun c_88 => absurd c_88 (by decide))
                          have ho := Option.some.inj hr
                          subst ho
                          exact W.vret hx hb hrt (fun t ht hW => ⟨⟨(), rfl, trivial, by rw [ht]; exact hP, va_K.moved hW.alike hK, hD⟩, hS.F ht⟩) hS.2.2 dX1_finish_52
      · have hr := (if_pos c_10).symm.trans hr
        refine lv_aload_n hx hb dX1_finish_36 rfl (lv_at hl 1 rfl) ?_
        refine lv_aload_n hx hb dX1_finish_37 rfl (lv_at hl 1 rfl) ?_
        refine va_get (D := (dC, dI)) (ci := 1) (v := .ref gN) (C := RX1) (T := TX1) (N := 7) hx hb hts in_X1_finish_X1 hown hK hP 0 rfl rfl 0 (by decide) (hts (.fieldLink RX1 13 "FormRing$Matrix" "numbers" "[[I") (by decide +kernel)) (fun _ h9 => h9) rfl dX1_finish_38 ?_
        refine lv_iload_n hx hb dX1_finish_41 rfl (lv_at hl 0 rfl) ?_
        refine zz_ald hx hb hK hP 1 1 rfl rfl (q := q0) hF.1 zz_in0 dX1_finish_42 ?_
        cases e_89 : f_X1_negate n r_2.2.2.2.2.1 r_2.1 with
        | none => rw [e_89, Option.bind_none] at hr; cases hr
        | some r_90 =>
          rw [e_89, Option.bind_some] at hr
          have hPc := hP.sub (ws' := [(h0, .inr (1, [.ref gN, .ref gS, .int r_2.2.2.2.2.1, .long r_2.2.2.2.2.2.1, .long r_2.2.2.2.2.2.2.1, .long r_2.2.2.2.2.2.2.2.1, .long r_2.2.2.2.2.2.2.2.2])), (q0, .inl (cI, 256, .inl r_2.1))]) [0, 2] rfl
          have hDc := hD.sub (ws' := [(h0, .inr (1, [.ref gN, .ref gS, .int r_2.2.2.2.2.1, .long r_2.2.2.2.2.2.1, .long r_2.2.2.2.2.2.2.1, .long r_2.2.2.2.2.2.2.2.1, .long r_2.2.2.2.2.2.2.2.2])), (q0, .inl (cI, 256, .inl r_2.1))]) [0, 2] (by decide) rfl
          have hKc := hK.sub (tys' := [(cI, .int)]) [0] rfl
          have hFc := va_free (wc := [(h0, .inr (1, [.ref gN, .ref gS, .int r_2.2.2.2.2.1, .long r_2.2.2.2.2.2.1, .long r_2.2.2.2.2.2.2.1, .long r_2.2.2.2.2.2.2.2.1, .long r_2.2.2.2.2.2.2.2.2])), (q0, .inl (cI, 256, .inl r_2.1))]) hD hS hA [0, 2] rfl
          refine va_callv (va_runV (As := [.ref q0]) (rest := []) ⟨hx, hb, hml, hown, hts⟩ (c_X1_negate l dC dI H.size h0 gN gS r_2.2.2.2.2.1 r_2.2.2.2.2.2.1 r_2.2.2.2.2.2.2.1 r_2.2.2.2.2.2.2.2.1 r_2.2.2.2.2.2.2.2.2 cI q0 r_2.1  n _ e_89) (cwV 1 hts gX1_finish_X1_negate rfl rfl rfl (by decide +kernel) ⟨Nat.le_of_ble_eq_true rfl, Nat.le_of_ble_eq_true rfl⟩) ⟨fun a U g mk q => by obtain ⟨q0, q1, qP, qK, qD⟩ := q; exact ⟨q0, q1, qP, va_K.moved (u := U) (U := U.calling g mk a) (Vm.Alike.refl U.vm) qK, qD⟩, va_recv hKc hPc (ci := 1) (q0 := 0) rfl rfl, fun U hU hW => ⟨rfl, by rw [hU], by rw [hU]; exact hPc, va_K.moved hW.alike hKc, hDc.weaken (fun _ _ _ _ => trivial)⟩⟩ rfl rfl hl.1 rfl (lv_room (Nat.le_of_ble_eq_true rfl)) dX1_finish_43 ⟨Nat.zero_le _, Nat.zero_le _⟩) hS (fun q _ h => hFc q h) hFc (fun _ t H1 locs ht hvm hw hB hz1 hk1 hS => ?_)
          obtain ⟨hP1, hK1, hD1⟩ := hB
          rw [ht] at hP1
          obtain ⟨hP, hD⟩ := va_join (wr := [(gN, .inl (cO, 4, .inr (.inr (.inr (.inr F))))), (q1, .inl (cI, 256, .inl r_2.2.1)), (q2, .inl (cI, 256, .inl r_2.2.2.1)), (q3, .inl (cI, 256, .inl r_2.2.2.2.1)), (gS, .inl (cI, 4, .inl (upd sg (0 : Int32).toNatClampNeg r_6)))]) (w1 := [(h0, .inr (1, [.ref gN, .ref gS, .int r_2.2.2.2.2.1, .long r_2.2.2.2.2.2.1, .long r_2.2.2.2.2.2.2.1, .long r_2.2.2.2.2.2.2.2.1, .long r_2.2.2.2.2.2.2.2.2])), (q0, .inl (cI, 256, .inl r_90))]) hP hD [0, 2] [1, 3, 4, 5, 6] rfl rfl (by decide) (by decide) hk1 hFc hP1 hD1
          generalize H1 = H at hP hS ⊢
          have hP := hP.sub (ws' := [(h0, .inr (1, [.ref gN, .ref gS, .int r_2.2.2.2.2.1, .long r_2.2.2.2.2.2.1, .long r_2.2.2.2.2.2.2.1, .long r_2.2.2.2.2.2.2.2.1, .long r_2.2.2.2.2.2.2.2.2])), (gN, .inl (cO, 4, .inr (.inr (.inr (.inr F))))), (q0, .inl (cI, 256, .inl r_90)), (q1, .inl (cI, 256, .inl r_2.2.1)), (q2, .inl (cI, 256, .inl r_2.2.2.1)), (q3, .inl (cI, 256, .inl r_2.2.2.2.1)), (gS, .inl (cI, 4, .inl (upd sg (0 : Int32).toNatClampNeg r_6)))]) [5, 0, 6, 1, 2, 3, 4] rfl
          have hD := hD.sub (ws' := [(h0, .inr (1, [.ref gN, .ref gS, .int r_2.2.2.2.2.1, .long r_2.2.2.2.2.2.1, .long r_2.2.2.2.2.2.2.1, .long r_2.2.2.2.2.2.2.2.1, .long r_2.2.2.2.2.2.2.2.2])), (gN, .inl (cO, 4, .inr (.inr (.inr (.inr F))))), (q0, .inl (cI, 256, .inl r_90)), (q1, .inl (cI, 256, .inl r_2.2.1)), (q2, .inl (cI, 256, .inl r_2.2.2.1)), (q3, .inl (cI, 256, .inl r_2.2.2.2.1)), (gS, .inl (cI, 4, .inl (upd sg (0 : Int32).toNatClampNeg r_6)))]) [5, 0, 6, 1, 2, 3, 4] (by decide) rfl
          have hP : va_P (dC, dI) vwCl [(h0, .inr (1, [.ref gN, .ref gS, .int r_2.2.2.2.2.1, .long r_2.2.2.2.2.2.1, .long r_2.2.2.2.2.2.2.1, .long r_2.2.2.2.2.2.2.2.1, .long r_2.2.2.2.2.2.2.2.2])), (gN, .inl (cO, 4, .inr (.inr (.inr (.inr F))))), (q0, .inl (cI, 256, .inl r_90)), (q1, .inl (cI, 256, .inl r_2.2.1)), (q2, .inl (cI, 256, .inl r_2.2.2.1)), (q3, .inl (cI, 256, .inl r_2.2.2.2.1)), (gS, .inl (cI, 4, .inl (upd sg (0 : Int32).toNatClampNeg r_6)))] H := hP
          have hD : va_D A [(h0, .inr (1, [.ref gN, .ref gS, .int r_2.2.2.2.2.1, .long r_2.2.2.2.2.2.1, .long r_2.2.2.2.2.2.2.1, .long r_2.2.2.2.2.2.2.2.1, .long r_2.2.2.2.2.2.2.2.2])), (gN, .inl (cO, 4, .inr (.inr (.inr (.inr F))))), (q0, .inl (cI, 256, .inl r_90)), (q1, .inl (cI, 256, .inl r_2.2.1)), (q2, .inl (cI, 256, .inl r_2.2.2.1)), (q3, .inl (cI, 256, .inl r_2.2.2.2.1)), (gS, .inl (cI, 4, .inl (upd sg (0 : Int32).toNatClampNeg r_6)))] := hD
          refine W.widen (k := 0) (n := 0) (Nat.le_refl _) (Nat.le_refl _) ?_
          refine lv_iinc (v := 1) (lv' := [(1, .int 1), (0, .ref h0)]) hx hb dX1_finish_46 hl (k := 0) rfl (by decide) (by decide) rfl (fun ls hl => ?_)
          refine lv_goto (tgt := 6) hx hb dX1_finish_49 (by decide) ?_
          refine lv_iload_n hx hb dX1_finish_6 rfl (lv_at hl 0 rfl) ?_
          refine lv_iconst (v := 4) hx hb dX1_finish_7 (by decide) ?_
          refine lz_ige (tgt := 52) hx hb dX1_finish_8 (by decide) (fun c_92 => absurd c_92 (by decide)) (fun c_92 => ?_)
          refine lv_aload_n hx hb dX1_finish_11 rfl (lv_at hl 1 rfl) ?_
          refine va_get (D := (dC, dI)) (ci := 1) (v := .ref gS) (C := RX1) (T := TX1) (N := 7) hx hb hts in_X1_finish_X1 hown hK hP 0 rfl rfl 1 (by decide) (hts (.fieldLink RX1 16 "FormRing$Matrix" "signs" "[I") (by decide +kernel)) (fun _ h9 => h9) rfl dX1_finish_12 ?_
          refine lv_iload_n hx hb dX1_finish_15 rfl (lv_at hl 0 rfl) ?_
          refine lv_aload_n hx hb dX1_finish_16 rfl (lv_at hl 1 rfl) ?_
          refine lv_aload_n hx hb dX1_finish_17 rfl (lv_at hl 1 rfl) ?_
          refine va_get (D := (dC, dI)) (ci := 1) (v := .ref gN) (C := RX1) (T := TX1) (N := 7) hx hb hts in_X1_finish_X1 hown hK hP 0 rfl rfl 0 (by decide) (hts (.fieldLink RX1 13 "FormRing$Matrix" "numbers" "[[I") (by decide +kernel)) (fun _ h9 => h9) rfl dX1_finish_18 ?_
          refine lv_iload_n hx hb dX1_finish_21 rfl (lv_at hl 0 rfl) ?_
          refine zz_ald hx hb hK hP 1 1 rfl rfl (q := q1) hF.2.1 zz_in1 dX1_finish_22 ?_
          cases e_93 : f_X1_findSign n r_2.2.2.2.2.1 r_2.2.1 with
          | none => rw [e_93, Option.bind_none] at hr; cases hr
          | some r_94 =>
            rw [e_93, Option.bind_some] at hr
            have hPc := hP.sub (ws' := [(h0, .inr (1, [.ref gN, .ref gS, .int r_2.2.2.2.2.1, .long r_2.2.2.2.2.2.1, .long r_2.2.2.2.2.2.2.1, .long r_2.2.2.2.2.2.2.2.1, .long r_2.2.2.2.2.2.2.2.2])), (q1, .inl (cI, 256, .inl r_2.2.1))]) [0, 3] rfl
            have hDc := hD.sub (ws' := [(h0, .inr (1, [.ref gN, .ref gS, .int r_2.2.2.2.2.1, .long r_2.2.2.2.2.2.1, .long r_2.2.2.2.2.2.2.1, .long r_2.2.2.2.2.2.2.2.1, .long r_2.2.2.2.2.2.2.2.2])), (q1, .inl (cI, 256, .inl r_2.2.1))]) [0, 3] (by decide) rfl
            have hKc := hK.sub (tys' := [(cI, .int)]) [0] rfl
            have hFc := va_free (wc := [(h0, .inr (1, [.ref gN, .ref gS, .int r_2.2.2.2.2.1, .long r_2.2.2.2.2.2.1, .long r_2.2.2.2.2.2.2.1, .long r_2.2.2.2.2.2.2.2.1, .long r_2.2.2.2.2.2.2.2.2])), (q1, .inl (cI, 256, .inl r_2.2.1))]) hD hS hA [0, 3] rfl
            refine va_calli (va_runV (As := [.ref q1]) (rest := [.int 1, .ref gS]) ⟨hx, hb, hml, hown, hts⟩ (c_X1_findSign l dC dI H.size h0 gN gS r_2.2.2.2.2.1 r_2.2.2.2.2.2.1 r_2.2.2.2.2.2.2.1 r_2.2.2.2.2.2.2.2.1 r_2.2.2.2.2.2.2.2.2 cI q1 r_2.2.1  n _ e_93) (cwV 1 hts gX1_finish_X1_findSign rfl rfl rfl (by decide +kernel) ⟨Nat.le_of_ble_eq_true rfl, Nat.le_of_ble_eq_true rfl⟩) ⟨fun a U g mk q => by obtain ⟨q0, q1, qP, qK, qD⟩ := q; exact ⟨q0, q1, qP, va_K.moved (u := U) (U := U.calling g mk a) (Vm.Alike.refl U.vm) qK, qD⟩, va_recv hKc hPc (ci := 1) (q0 := 0) rfl rfl, fun U hU hW => ⟨rfl, by rw [hU], by rw [hU]; exact hPc, va_K.moved hW.alike hKc, hDc.weaken (fun _ _ _ _ => trivial)⟩⟩ rfl rfl hl.1 rfl (lv_room (Nat.le_of_ble_eq_true rfl)) dX1_finish_23 ⟨Nat.zero_le _, Nat.zero_le _⟩) hS (fun q _ h => hFc q h) hFc (fun x_95 _ t H1 locs ht hvm hw hB hz1 hk1 hS => ?_)
            have hw := hw.symm
            subst hw
            obtain ⟨hP1, hK1, hD1⟩ := hB
            rw [ht] at hP1
            obtain ⟨hP, hD⟩ := va_join (wr := [(gN, .inl (cO, 4, .inr (.inr (.inr (.inr F))))), (q0, .inl (cI, 256, .inl r_90)), (q2, .inl (cI, 256, .inl r_2.2.2.1)), (q3, .inl (cI, 256, .inl r_2.2.2.2.1)), (gS, .inl (cI, 4, .inl (upd sg (0 : Int32).toNatClampNeg r_6)))]) (w1 := [(h0, .inr (1, [.ref gN, .ref gS, .int r_2.2.2.2.2.1, .long r_2.2.2.2.2.2.1, .long r_2.2.2.2.2.2.2.1, .long r_2.2.2.2.2.2.2.2.1, .long r_2.2.2.2.2.2.2.2.2])), (q1, .inl (cI, 256, .inl r_2.2.1))]) hP hD [0, 3] [1, 2, 4, 5, 6] rfl rfl (by decide) (by decide) hk1 hFc hP1 hD1
            generalize H1 = H at hP hS ⊢
            have hP := hP.sub (ws' := [(h0, .inr (1, [.ref gN, .ref gS, .int r_2.2.2.2.2.1, .long r_2.2.2.2.2.2.1, .long r_2.2.2.2.2.2.2.1, .long r_2.2.2.2.2.2.2.2.1, .long r_2.2.2.2.2.2.2.2.2])), (gN, .inl (cO, 4, .inr (.inr (.inr (.inr F))))), (q0, .inl (cI, 256, .inl r_90)), (q1, .inl (cI, 256, .inl r_2.2.1)), (q2, .inl (cI, 256, .inl r_2.2.2.1)), (q3, .inl (cI, 256, .inl r_2.2.2.2.1)), (gS, .inl (cI, 4, .inl (upd sg (0 : Int32).toNatClampNeg r_6)))]) [5, 0, 1, 6, 2, 3, 4] rfl
            have hD := hD.sub (ws' := [(h0, .inr (1, [.ref gN, .ref gS, .int r_2.2.2.2.2.1, .long r_2.2.2.2.2.2.1, .long r_2.2.2.2.2.2.2.1, .long r_2.2.2.2.2.2.2.2.1, .long r_2.2.2.2.2.2.2.2.2])), (gN, .inl (cO, 4, .inr (.inr (.inr (.inr F))))), (q0, .inl (cI, 256, .inl r_90)), (q1, .inl (cI, 256, .inl r_2.2.1)), (q2, .inl (cI, 256, .inl r_2.2.2.1)), (q3, .inl (cI, 256, .inl r_2.2.2.2.1)), (gS, .inl (cI, 4, .inl (upd sg (0 : Int32).toNatClampNeg r_6)))]) [5, 0, 1, 6, 2, 3, 4] (by decide) rfl
            have hP : va_P (dC, dI) vwCl [(h0, .inr (1, [.ref gN, .ref gS, .int r_2.2.2.2.2.1, .long r_2.2.2.2.2.2.1, .long r_2.2.2.2.2.2.2.1, .long r_2.2.2.2.2.2.2.2.1, .long r_2.2.2.2.2.2.2.2.2])), (gN, .inl (cO, 4, .inr (.inr (.inr (.inr F))))), (q0, .inl (cI, 256, .inl r_90)), (q1, .inl (cI, 256, .inl r_2.2.1)), (q2, .inl (cI, 256, .inl r_2.2.2.1)), (q3, .inl (cI, 256, .inl r_2.2.2.2.1)), (gS, .inl (cI, 4, .inl (upd sg (0 : Int32).toNatClampNeg r_6)))] H := hP
            have hD : va_D A [(h0, .inr (1, [.ref gN, .ref gS, .int r_2.2.2.2.2.1, .long r_2.2.2.2.2.2.1, .long r_2.2.2.2.2.2.2.1, .long r_2.2.2.2.2.2.2.2.1, .long r_2.2.2.2.2.2.2.2.2])), (gN, .inl (cO, 4, .inr (.inr (.inr (.inr F))))), (q0, .inl (cI, 256, .inl r_90)), (q1, .inl (cI, 256, .inl r_2.2.1)), (q2, .inl (cI, 256, .inl r_2.2.2.1)), (q3, .inl (cI, 256, .inl r_2.2.2.2.1)), (gS, .inl (cI, 4, .inl (upd sg (0 : Int32).toNatClampNeg r_6)))] := hD
            refine W.widen (k := 0) (n := 0) (Nat.le_refl _) (Nat.le_refl _) ?_
            by_cases g_96 : (1 : Int32) < 0 ∨ 4 ≤ (1 : Int32).toNatClampNeg
            · have hr := (if_pos g_96).symm.trans hr
              cases hr
            have hr := (if_neg g_96).symm.trans hr
            refine va_iast hx hb hK hP hD hS 6 0 rfl rfl g_96 dX1_finish_26 (fun H locs hP hD hS => ?_)
            have hP : va_P (dC, dI) vwCl [(h0, .inr (1, [.ref gN, .ref gS, .int r_2.2.2.2.2.1, .long r_2.2.2.2.2.2.1, .long r_2.2.2.2.2.2.2.1, .long r_2.2.2.2.2.2.2.2.1, .long r_2.2.2.2.2.2.2.2.2])), (gN, .inl (cO, 4, .inr (.inr (.inr (.inr F))))), (q0, .inl (cI, 256, .inl r_90)), (q1, .inl (cI, 256, .inl r_2.2.1)), (q2, .inl (cI, 256, .inl r_2.2.2.1)), (q3, .inl (cI, 256, .inl r_2.2.2.2.1)), (gS, .inl (cI, 4, .inl (upd (upd sg (0 : Int32).toNatClampNeg r_6) (1 : Int32).toNatClampNeg r_94)))] H := hP
            have hD : va_D A [(h0, .inr (1, [.ref gN, .ref gS, .int r_2.2.2.2.2.1, .long r_2.2.2.2.2.2.1, .long r_2.2.2.2.2.2.2.1, .long r_2.2.2.2.2.2.2.2.1, .long r_2.2.2.2.2.2.2.2.2])), (gN, .inl (cO, 4, .inr (.inr (.inr (.inr F))))), (q0, .inl (cI, 256, .inl r_90)), (q1, .inl (cI, 256, .inl r_2.2.1)), (q2, .inl (cI, 256, .inl r_2.2.2.1)), (q3, .inl (cI, 256, .inl r_2.2.2.2.1)), (gS, .inl (cI, 4, .inl (upd (upd sg (0 : Int32).toNatClampNeg r_6) (1 : Int32).toNatClampNeg r_94)))] := hD
            refine lv_aload_n hx hb dX1_finish_27 rfl (lv_at hl 1 rfl) ?_
            refine va_get (D := (dC, dI)) (ci := 1) (v := .ref gS) (C := RX1) (T := TX1) (N := 7) hx hb hts in_X1_finish_X1 hown hK hP 0 rfl rfl 1 (by decide) (hts (.fieldLink RX1 16 "FormRing$Matrix" "signs" "[I") (by decide +kernel)) (fun _ h9 => h9) rfl dX1_finish_28 ?_
            refine lv_iload_n hx hb dX1_finish_31 rfl (lv_at hl 0 rfl) ?_
            by_cases g_97 : (1 : Int32) < 0 ∨ 4 ≤ (1 : Int32).toNatClampNeg
            · have hr := (if_pos g_97).symm.trans hr
              cases hr
            have hr := (if_neg g_97).symm.trans hr
            refine va_iald hx hb hK hP 6 0 rfl rfl g_97 dX1_finish_32 ?_
            refine lz_zge (tgt := 46) hx hb dX1_finish_33 (by decide) (fun c_98 => ?_) (fun c_98 => ?_)
            · have hr := (if_neg c_98).symm.trans hr
              refine lv_iinc (v := 2) (lv' := [(1, .int 2), (0, .ref h0)]) hx hb dX1_finish_46 hl (k := 0) rfl (by decide) (by decide) rfl (fun ls hl => ?_)
              refine lv_goto (tgt := 6) hx hb dX1_finish_49 (by decide) ?_
              refine lv_iload_n hx hb dX1_finish_6 rfl (lv_at hl 0 rfl) ?_
              refine lv_iconst (v := 4) hx hb dX1_finish_7 (by decide) ?_
              refine lz_ige (tgt := 52) hx hb dX1_finish_8 (by decide) (fun c_99 => absurd c_99 (by decide)) (fun c_99 => ?_)
              refine lv_aload_n hx hb dX1_finish_11 rfl (lv_at hl 1 rfl) ?_
              refine va_get (D := (dC, dI)) (ci := 1) (v := .ref gS) (C := RX1) (T := TX1) (N := 7) hx hb hts in_X1_finish_X1 hown hK hP 0 rfl rfl 1 (by decide) (hts (.fieldLink RX1 16 "FormRing$Matrix" "signs" "[I") (by decide +kernel)) (fun _ h9 => h9) rfl dX1_finish_12 ?_
              refine lv_iload_n hx hb dX1_finish_15 rfl (lv_at hl 0 rfl) ?_
              refine lv_aload_n hx hb dX1_finish_16 rfl (lv_at hl 1 rfl) ?_
              refine lv_aload_n hx hb dX1_finish_17 rfl (lv_at hl 1 rfl) ?_
              refine va_get (D := (dC, dI)) (ci := 1) (v := .ref gN) (C := RX1) (T := TX1) (N := 7) hx hb hts in_X1_finish_X1 hown hK hP 0 rfl rfl 0 (by decide) (hts (.fieldLink RX1 13 "FormRing$Matrix" "numbers" "[[I") (by decide +kernel)) (fun _ h9 => h9) rfl dX1_finish_18 ?_
              refine lv_iload_n hx hb dX1_finish_21 rfl (lv_at hl 0 rfl) ?_
              refine zz_ald hx hb hK hP 1 1 rfl rfl (q := q2) hF.2.2.1 zz_in2 dX1_finish_22 ?_
              cases e_100 : f_X1_findSign n r_2.2.2.2.2.1 r_2.2.2.1 with
              | none => rw [e_100, Option.bind_none] at hr; cases hr
              | some r_101 =>
                rw [e_100, Option.bind_some] at hr
                have hPc := hP.sub (ws' := [(h0, .inr (1, [.ref gN, .ref gS, .int r_2.2.2.2.2.1, .long r_2.2.2.2.2.2.1, .long r_2.2.2.2.2.2.2.1, .long r_2.2.2.2.2.2.2.2.1, .long r_2.2.2.2.2.2.2.2.2])), (q2, .inl (cI, 256, .inl r_2.2.2.1))]) [0, 4] rfl
                have hDc := hD.sub (ws' := [(h0, .inr (1, [.ref gN, .ref gS, .int r_2.2.2.2.2.1, .long r_2.2.2.2.2.2.1, .long r_2.2.2.2.2.2.2.1, .long r_2.2.2.2.2.2.2.2.1, .long r_2.2.2.2.2.2.2.2.2])), (q2, .inl (cI, 256, .inl r_2.2.2.1))]) [0, 4] (by decide) rfl
                have hKc := hK.sub (tys' := [(cI, .int)]) [0] rfl
                have hFc := va_free (wc := [(h0, .inr (1, [.ref gN, .ref gS, .int r_2.2.2.2.2.1, .long r_2.2.2.2.2.2.1, .long r_2.2.2.2.2.2.2.1, .long r_2.2.2.2.2.2.2.2.1, .long r_2.2.2.2.2.2.2.2.2])), (q2, .inl (cI, 256, .inl r_2.2.2.1))]) hD hS hA [0, 4] rfl
                refine va_calli (va_runV (As := [.ref q2]) (rest := [.int 2, .ref gS]) ⟨hx, hb, hml, hown, hts⟩ (c_X1_findSign l dC dI H.size h0 gN gS r_2.2.2.2.2.1 r_2.2.2.2.2.2.1 r_2.2.2.2.2.2.2.1 r_2.2.2.2.2.2.2.2.1 r_2.2.2.2.2.2.2.2.2 cI q2 r_2.2.2.1  n _ e_100) (cwV 1 hts gX1_finish_X1_findSign rfl rfl rfl (by decide +kernel) ⟨Nat.le_of_ble_eq_true rfl, Nat.le_of_ble_eq_true rfl⟩) ⟨fun a U g mk q => by obtain ⟨q0, q1, qP, qK, qD⟩ := q; exact ⟨q0, q1, qP, va_K.moved (u := U) (U := U.calling g mk a) (Vm.Alike.refl U.vm) qK, qD⟩, va_recv hKc hPc (ci := 1) (q0 := 0) rfl rfl, fun U hU hW => ⟨rfl, by rw [hU], by rw [hU]; exact hPc, va_K.moved hW.alike hKc, hDc.weaken (fun _ _ _ _ => trivial)⟩⟩ rfl rfl hl.1 rfl (lv_room (Nat.le_of_ble_eq_true rfl)) dX1_finish_23 ⟨Nat.zero_le _, Nat.zero_le _⟩) hS (fun q _ h => hFc q h) hFc (fun x_102 _ t H1 locs ht hvm hw hB hz1 hk1 hS => ?_)
                have hw := hw.symm
                subst hw
                obtain ⟨hP1, hK1, hD1⟩ := hB
                rw [ht] at hP1
                obtain ⟨hP, hD⟩ := va_join (wr := [(gN, .inl (cO, 4, .inr (.inr (.inr (.inr F))))), (q0, .inl (cI, 256, .inl r_90)), (q1, .inl (cI, 256, .inl r_2.2.1)), (q3, .inl (cI, 256, .inl r_2.2.2.2.1)), (gS, .inl (cI, 4, .inl (upd (upd sg (0 : Int32).toNatClampNeg r_6) (1 : Int32).toNatClampNeg r_94)))]) (w1 := [(h0, .inr (1, [.ref gN, .ref gS, .int r_2.2.2.2.2.1, .long r_2.2.2.2.2.2.1, .long r_2.2.2.2.2.2.2.1, .long r_2.2.2.2.2.2.2.2.1, .long r_2.2.2.2.2.2.2.2.2])), (q2, .inl (cI, 256, .inl r_2.2.2.1))]) hP hD [0, 4] [1, 2, 3, 5, 6] rfl rfl (by decide) (by decide) hk1 hFc hP1 hD1
                generalize H1 = H at hP hS ⊢
                have hP := hP.sub (ws' := [(h0, .inr (1, [.ref gN, .ref gS, .int r_2.2.2.2.2.1, .long r_2.2.2.2.2.2.1, .long r_2.2.2.2.2.2.2.1, .long r_2.2.2.2.2.2.2.2.1, .long r_2.2.2.2.2.2.2.2.2])), (gN, .inl (cO, 4, .inr (.inr (.inr (.inr F))))), (q0, .inl (cI, 256, .inl r_90)), (q1, .inl (cI, 256, .inl r_2.2.1)), (q2, .inl (cI, 256, .inl r_2.2.2.1)), (q3, .inl (cI, 256, .inl r_2.2.2.2.1)), (gS, .inl (cI, 4, .inl (upd (upd sg (0 : Int32).toNatClampNeg r_6) (1 : Int32).toNatClampNeg r_94)))]) [5, 0, 1, 2, 6, 3, 4] rfl
                have hD := hD.sub (ws' := [(h0, .inr (1, [.ref gN, .ref gS, .int r_2.2.2.2.2.1, .long r_2.2.2.2.2.2.1, .long r_2.2.2.2.2.2.2.1, .long r_2.2.2.2.2.2.2.2.1, .long r_2.2.2.2.2.2.2.2.2])), (gN, .inl (cO, 4, .inr (.inr (.inr (.inr F))))), (q0, .inl (cI, 256, .inl r_90)), (q1, .inl (cI, 256, .inl r_2.2.1)), (q2, .inl (cI, 256, .inl r_2.2.2.1)), (q3, .inl (cI, 256, .inl r_2.2.2.2.1)), (gS, .inl (cI, 4, .inl (upd (upd sg (0 : Int32).toNatClampNeg r_6) (1 : Int32).toNatClampNeg r_94)))]) [5, 0, 1, 2, 6, 3, 4] (by decide) rfl
                have hP : va_P (dC, dI) vwCl [(h0, .inr (1, [.ref gN, .ref gS, .int r_2.2.2.2.2.1, .long r_2.2.2.2.2.2.1, .long r_2.2.2.2.2.2.2.1, .long r_2.2.2.2.2.2.2.2.1, .long r_2.2.2.2.2.2.2.2.2])), (gN, .inl (cO, 4, .inr (.inr (.inr (.inr F))))), (q0, .inl (cI, 256, .inl r_90)), (q1, .inl (cI, 256, .inl r_2.2.1)), (q2, .inl (cI, 256, .inl r_2.2.2.1)), (q3, .inl (cI, 256, .inl r_2.2.2.2.1)), (gS, .inl (cI, 4, .inl (upd (upd sg (0 : Int32).toNatClampNeg r_6) (1 : Int32).toNatClampNeg r_94)))] H := hP
                have hD : va_D A [(h0, .inr (1, [.ref gN, .ref gS, .int r_2.2.2.2.2.1, .long r_2.2.2.2.2.2.1, .long r_2.2.2.2.2.2.2.1, .long r_2.2.2.2.2.2.2.2.1, .long r_2.2.2.2.2.2.2.2.2])), (gN, .inl (cO, 4, .inr (.inr (.inr (.inr F))))), (q0, .inl (cI, 256, .inl r_90)), (q1, .inl (cI, 256, .inl r_2.2.1)), (q2, .inl (cI, 256, .inl r_2.2.2.1)), (q3, .inl (cI, 256, .inl r_2.2.2.2.1)), (gS, .inl (cI, 4, .inl (upd (upd sg (0 : Int32).toNatClampNeg r_6) (1 : Int32).toNatClampNeg r_94)))] := hD
                refine W.widen (k := 0) (n := 0) (Nat.le_refl _) (Nat.le_refl _) ?_
                by_cases g_103 : (2 : Int32) < 0 ∨ 4 ≤ (2 : Int32).toNatClampNeg
                · have hr := (if_pos g_103).symm.trans hr
                  cases hr
                have hr := (if_neg g_103).symm.trans hr
                refine va_iast hx hb hK hP hD hS 6 0 rfl rfl g_103 dX1_finish_26 (fun H locs hP hD hS => ?_)
                have hP : va_P (dC, dI) vwCl [(h0, .inr (1, [.ref gN, .ref gS, .int r_2.2.2.2.2.1, .long r_2.2.2.2.2.2.1, .long r_2.2.2.2.2.2.2.1, .long r_2.2.2.2.2.2.2.2.1, .long r_2.2.2.2.2.2.2.2.2])), (gN, .inl (cO, 4, .inr (.inr (.inr (.inr F))))), (q0, .inl (cI, 256, .inl r_90)), (q1, .inl (cI, 256, .inl r_2.2.1)), (q2, .inl (cI, 256, .inl r_2.2.2.1)), (q3, .inl (cI, 256, .inl r_2.2.2.2.1)), (gS, .inl (cI, 4, .inl (upd (upd (upd sg (0 : Int32).toNatClampNeg r_6) (1 : Int32).toNatClampNeg r_94) (2 : Int32).toNatClampNeg r_101)))] H := hP
                have hD : va_D A [(h0, .inr (1, [.ref gN, .ref gS, .int r_2.2.2.2.2.1, .long r_2.2.2.2.2.2.1, .long r_2.2.2.2.2.2.2.1, .long r_2.2.2.2.2.2.2.2.1, .long r_2.2.2.2.2.2.2.2.2])), (gN, .inl (cO, 4, .inr (.inr (.inr (.inr F))))), (q0, .inl (cI, 256, .inl r_90)), (q1, .inl (cI, 256, .inl r_2.2.1)), (q2, .inl (cI, 256, .inl r_2.2.2.1)), (q3, .inl (cI, 256, .inl r_2.2.2.2.1)), (gS, .inl (cI, 4, .inl (upd (upd (upd sg (0 : Int32).toNatClampNeg r_6) (1 : Int32).toNatClampNeg r_94) (2 : Int32).toNatClampNeg r_101)))] := hD
                refine lv_aload_n hx hb dX1_finish_27 rfl (lv_at hl 1 rfl) ?_
                refine va_get (D := (dC, dI)) (ci := 1) (v := .ref gS) (C := RX1) (T := TX1) (N := 7) hx hb hts in_X1_finish_X1 hown hK hP 0 rfl rfl 1 (by decide) (hts (.fieldLink RX1 16 "FormRing$Matrix" "signs" "[I") (by decide +kernel)) (fun _ h9 => h9) rfl dX1_finish_28 ?_
                refine lv_iload_n hx hb dX1_finish_31 rfl (lv_at hl 0 rfl) ?_
                by_cases g_104 : (2 : Int32) < 0 ∨ 4 ≤ (2 : Int32).toNatClampNeg
                · have hr := (if_pos g_104).symm.trans hr
                  cases hr
                have hr := (if_neg g_104).symm.trans hr
                refine va_iald hx hb hK hP 6 0 rfl rfl g_104 dX1_finish_32 ?_
                refine lz_zge (tgt := 46) hx hb dX1_finish_33 (by decide) (fun c_105 => ?_) (fun c_105 => ?_)
                · have hr := (if_neg c_105).symm.trans hr
                  refine lv_iinc (v := 3) (lv' := [(1, .int 3), (0, .ref h0)]) hx hb dX1_finish_46 hl (k := 0) rfl (by decide) (by decide) rfl (fun ls hl => ?_)
                  refine lv_goto (tgt := 6) hx hb dX1_finish_49 (by decide) ?_
                  refine lv_iload_n hx hb dX1_finish_6 rfl (lv_at hl 0 rfl) ?_
                  refine lv_iconst (v := 4) hx hb dX1_finish_7 (by decide) ?_
                  refine lz_ige (tgt := 52) hx hb dX1_finish_8 (by decide) (fun c_106 => absurd c_106 (by decide)) (fun c_106 => ?_)
                  refine lv_aload_n hx hb dX1_finish_11 rfl (lv_at hl 1 rfl) ?_
                  refine va_get (D := (dC, dI)) (ci := 1) (v := .ref gS) (C := RX1) (T := TX1) (N := 7) hx hb hts in_X1_finish_X1 hown hK hP 0 rfl rfl 1 (by decide) (hts (.fieldLink RX1 16 "FormRing$Matrix" "signs" "[I") (by decide +kernel)) (fun _ h9 => h9) rfl dX1_finish_12 ?_
                  refine lv_iload_n hx hb dX1_finish_15 rfl (lv_at hl 0 rfl) ?_
                  refine lv_aload_n hx hb dX1_finish_16 rfl (lv_at hl 1 rfl) ?_
                  refine lv_aload_n hx hb dX1_finish_17 rfl (lv_at hl 1 rfl) ?_
                  refine va_get (D := (dC, dI)) (ci := 1) (v := .ref gN) (C := RX1) (T := TX1) (N := 7) hx hb hts in_X1_finish_X1 hown hK hP 0 rfl rfl 0 (by decide) (hts (.fieldLink RX1 13 "FormRing$Matrix" "numbers" "[[I") (by decide +kernel)) (fun _ h9 => h9) rfl dX1_finish_18 ?_
                  refine lv_iload_n hx hb dX1_finish_21 rfl (lv_at hl 0 rfl) ?_
                  refine zz_ald hx hb hK hP 1 1 rfl rfl (q := q3) hF.2.2.2 zz_in3 dX1_finish_22 ?_
                  cases e_107 : f_X1_findSign n r_2.2.2.2.2.1 r_2.2.2.2.1 with
                  | none => rw [e_107, Option.bind_none] at hr; cases hr
                  | some r_108 =>
                    rw [e_107, Option.bind_some] at hr
                    have hPc := hP.sub (ws' := [(h0, .inr (1, [.ref gN, .ref gS, .int r_2.2.2.2.2.1, .long r_2.2.2.2.2.2.1, .long r_2.2.2.2.2.2.2.1, .long r_2.2.2.2.2.2.2.2.1, .long r_2.2.2.2.2.2.2.2.2])), (q3, .inl (cI, 256, .inl r_2.2.2.2.1))]) [0, 5] rfl
                    have hDc := hD.sub (ws' := [(h0, .inr (1, [.ref gN, .ref gS, .int r_2.2.2.2.2.1, .long r_2.2.2.2.2.2.1, .long r_2.2.2.2.2.2.2.1, .long r_2.2.2.2.2.2.2.2.1, .long r_2.2.2.2.2.2.2.2.2])), (q3, .inl (cI, 256, .inl r_2.2.2.2.1))]) [0, 5] (by decide) rfl
                    have hKc := hK.sub (tys' := [(cI, .int)]) [0] rfl
                    have hFc := va_free (wc := [(h0, .inr (1, [.ref gN, .ref gS, .int r_2.2.2.2.2.1, .long r_2.2.2.2.2.2.1, .long r_2.2.2.2.2.2.2.1, .long r_2.2.2.2.2.2.2.2.1, .long r_2.2.2.2.2.2.2.2.2])), (q3, .inl (cI, 256, .inl r_2.2.2.2.1))]) hD hS hA [0, 5] rfl
                    refine va_calli (va_runV (As := [.ref q3]) (rest := [.int 3, .ref gS]) ⟨hx, hb, hml, hown, hts⟩ (c_X1_findSign l dC dI H.size h0 gN gS r_2.2.2.2.2.1 r_2.2.2.2.2.2.1 r_2.2.2.2.2.2.2.1 r_2.2.2.2.2.2.2.2.1 r_2.2.2.2.2.2.2.2.2 cI q3 r_2.2.2.2.1  n _ e_107) (cwV 1 hts gX1_finish_X1_findSign rfl rfl rfl (by decide +kernel) ⟨Nat.le_of_ble_eq_true rfl, Nat.le_of_ble_eq_true rfl⟩) ⟨fun a U g mk q => by obtain ⟨q0, q1, qP, qK, qD⟩ := q; exact ⟨q0, q1, qP, va_K.moved (u := U) (U := U.calling g mk a) (Vm.Alike.refl U.vm) qK, qD⟩, va_recv hKc hPc (ci := 1) (q0 := 0) rfl rfl, fun U hU hW => ⟨rfl, by rw [hU], by rw [hU]; exact hPc, va_K.moved hW.alike hKc, hDc.weaken (fun _ _ _ _ => trivial)⟩⟩ rfl rfl hl.1 rfl (lv_room (Nat.le_of_ble_eq_true rfl)) dX1_finish_23 ⟨Nat.zero_le _, Nat.zero_le _⟩) hS (fun q _ h => hFc q h) hFc (fun x_109 _ t H1 locs ht hvm hw hB hz1 hk1 hS => ?_)
                    have hw := hw.symm
                    subst hw
                    obtain ⟨hP1, hK1, hD1⟩ := hB
                    rw [ht] at hP1
                    obtain ⟨hP, hD⟩ := va_join (wr := [(gN, .inl (cO, 4, .inr (.inr (.inr (.inr F))))), (q0, .inl (cI, 256, .inl r_90)), (q1, .inl (cI, 256, .inl r_2.2.1)), (q2, .inl (cI, 256, .inl r_2.2.2.1)), (gS, .inl (cI, 4, .inl (upd (upd (upd sg (0 : Int32).toNatClampNeg r_6) (1 : Int32).toNatClampNeg r_94) (2 : Int32).toNatClampNeg r_101)))]) (w1 := [(h0, .inr (1, [.ref gN, .ref gS, .int r_2.2.2.2.2.1, .long r_2.2.2.2.2.2.1, .long r_2.2.2.2.2.2.2.1, .long r_2.2.2.2.2.2.2.2.1, .long r_2.2.2.2.2.2.2.2.2])), (q3, .inl (cI, 256, .inl r_2.2.2.2.1))]) hP hD [0, 5] [1, 2, 3, 4, 6] rfl rfl (by decide) (by decide) hk1 hFc hP1 hD1
                    generalize H1 = H at hP hS ⊢
                    have hP := hP.sub (ws' := [(h0, .inr (1, [.ref gN, .ref gS, .int r_2.2.2.2.2.1, .long r_2.2.2.2.2.2.1, .long r_2.2.2.2.2.2.2.1, .long r_2.2.2.2.2.2.2.2.1, .long r_2.2.2.2.2.2.2.2.2])), (gN, .inl (cO, 4, .inr (.inr (.inr (.inr F))))), (q0, .inl (cI, 256, .inl r_90)), (q1, .inl (cI, 256, .inl r_2.2.1)), (q2, .inl (cI, 256, .inl r_2.2.2.1)), (q3, .inl (cI, 256, .inl r_2.2.2.2.1)), (gS, .inl (cI, 4, .inl (upd (upd (upd sg (0 : Int32).toNatClampNeg r_6) (1 : Int32).toNatClampNeg r_94) (2 : Int32).toNatClampNeg r_101)))]) [5, 0, 1, 2, 3, 6, 4] rfl
                    have hD := hD.sub (ws' := [(h0, .inr (1, [.ref gN, .ref gS, .int r_2.2.2.2.2.1, .long r_2.2.2.2.2.2.1, .long r_2.2.2.2.2.2.2.1, .long r_2.2.2.2.2.2.2.2.1, .long r_2.2.2.2.2.2.2.2.2])), (gN, .inl (cO, 4, .inr (.inr (.inr (.inr F))))), (q0, .inl (cI, 256, .inl r_90)), (q1, .inl (cI, 256, .inl r_2.2.1)), (q2, .inl (cI, 256, .inl r_2.2.2.1)), (q3, .inl (cI, 256, .inl r_2.2.2.2.1)), (gS, .inl (cI, 4, .inl (upd (upd (upd sg (0 : Int32).toNatClampNeg r_6) (1 : Int32).toNatClampNeg r_94) (2 : Int32).toNatClampNeg r_101)))]) [5, 0, 1, 2, 3, 6, 4] (by decide) rfl
                    have hP : va_P (dC, dI) vwCl [(h0, .inr (1, [.ref gN, .ref gS, .int r_2.2.2.2.2.1, .long r_2.2.2.2.2.2.1, .long r_2.2.2.2.2.2.2.1, .long r_2.2.2.2.2.2.2.2.1, .long r_2.2.2.2.2.2.2.2.2])), (gN, .inl (cO, 4, .inr (.inr (.inr (.inr F))))), (q0, .inl (cI, 256, .inl r_90)), (q1, .inl (cI, 256, .inl r_2.2.1)), (q2, .inl (cI, 256, .inl r_2.2.2.1)), (q3, .inl (cI, 256, .inl r_2.2.2.2.1)), (gS, .inl (cI, 4, .inl (upd (upd (upd sg (0 : Int32).toNatClampNeg r_6) (1 : Int32).toNatClampNeg r_94) (2 : Int32).toNatClampNeg r_101)))] H := hP
                    have hD : va_D A [(h0, .inr (1, [.ref gN, .ref gS, .int r_2.2.2.2.2.1, .long r_2.2.2.2.2.2.1, .long r_2.2.2.2.2.2.2.1, .long r_2.2.2.2.2.2.2.2.1, .long r_2.2.2.2.2.2.2.2.2])), (gN, .inl (cO, 4, .inr (.inr (.inr (.inr F))))), (q0, .inl (cI, 256, .inl r_90)), (q1, .inl (cI, 256, .inl r_2.2.1)), (q2, .inl (cI, 256, .inl r_2.2.2.1)), (q3, .inl (cI, 256, .inl r_2.2.2.2.1)), (gS, .inl (cI, 4, .inl (upd (upd (upd sg (0 : Int32).toNatClampNeg r_6) (1 : Int32).toNatClampNeg r_94) (2 : Int32).toNatClampNeg r_101)))] := hD
                    refine W.widen (k := 0) (n := 0) (Nat.le_refl _) (Nat.le_refl _) ?_
                    by_cases g_110 : (3 : Int32) < 0 ∨ 4 ≤ (3 : Int32).toNatClampNeg
                    · have hr := (if_pos g_110).symm.trans hr
                      cases hr
                    have hr := (if_neg g_110).symm.trans hr
                    refine va_iast hx hb hK hP hD hS 6 0 rfl rfl g_110 dX1_finish_26 (fun H locs hP hD hS => ?_)
                    have hP : va_P (dC, dI) vwCl [(h0, .inr (1, [.ref gN, .ref gS, .int r_2.2.2.2.2.1, .long r_2.2.2.2.2.2.1, .long r_2.2.2.2.2.2.2.1, .long r_2.2.2.2.2.2.2.2.1, .long r_2.2.2.2.2.2.2.2.2])), (gN, .inl (cO, 4, .inr (.inr (.inr (.inr F))))), (q0, .inl (cI, 256, .inl r_90)), (q1, .inl (cI, 256, .inl r_2.2.1)), (q2, .inl (cI, 256, .inl r_2.2.2.1)), (q3, .inl (cI, 256, .inl r_2.2.2.2.1)), (gS, .inl (cI, 4, .inl (upd (upd (upd (upd sg (0 : Int32).toNatClampNeg r_6) (1 : Int32).toNatClampNeg r_94) (2 : Int32).toNatClampNeg r_101) (3 : Int32).toNatClampNeg r_108)))] H := hP
                    have hD : va_D A [(h0, .inr (1, [.ref gN, .ref gS, .int r_2.2.2.2.2.1, .long r_2.2.2.2.2.2.1, .long r_2.2.2.2.2.2.2.1, .long r_2.2.2.2.2.2.2.2.1, .long r_2.2.2.2.2.2.2.2.2])), (gN, .inl (cO, 4, .inr (.inr (.inr (.inr F))))), (q0, .inl (cI, 256, .inl r_90)), (q1, .inl (cI, 256, .inl r_2.2.1)), (q2, .inl (cI, 256, .inl r_2.2.2.1)), (q3, .inl (cI, 256, .inl r_2.2.2.2.1)), (gS, .inl (cI, 4, .inl (upd (upd (upd (upd sg (0 : Int32).toNatClampNeg r_6) (1 : Int32).toNatClampNeg r_94) (2 : Int32).toNatClampNeg r_101) (3 : Int32).toNatClampNeg r_108)))] := hD
                    refine lv_aload_n hx hb dX1_finish_27 rfl (lv_at hl 1 rfl) ?_
                    refine va_get (D := (dC, dI)) (ci := 1) (v := .ref gS) (C := RX1) (T := TX1) (N := 7) hx hb hts in_X1_finish_X1 hown hK hP 0 rfl rfl 1 (by decide) (hts (.fieldLink RX1 16 "FormRing$Matrix" "signs" "[I") (by decide +kernel)) (fun _ h9 => h9) rfl dX1_finish_28 ?_
                    refine lv_iload_n hx hb dX1_finish_31 rfl (lv_at hl 0 rfl) ?_
                    by_cases g_111 : (3 : Int32) < 0 ∨ 4 ≤ (3 : Int32).toNatClampNeg
                    · have hr := (if_pos g_111).symm.trans hr
                      cases hr
                    have hr := (if_neg g_111).symm.trans hr
                    refine va_iald hx hb hK hP 6 0 rfl rfl g_111 dX1_finish_32 ?_
                    refine lz_zge (tgt := 46) hx hb dX1_finish_33 (by decide) (fun c_112 => ?_) (fun c_112 => ?_)
                    · have hr := (if_neg c_112).symm.trans hr
                      refine lv_iinc (v := 4) (lv' := [(1, .int 4), (0, .ref h0)]) hx hb dX1_finish_46 hl (k := 0) rfl (by decide) (by decide) rfl (fun ls hl => ?_)
                      refine lv_goto (tgt := 6) hx hb dX1_finish_49 (by decide) ?_
                      refine lv_iload_n hx hb dX1_finish_6 rfl (lv_at hl 0 rfl) ?_
                      refine lv_iconst (v := 4) hx hb dX1_finish_7 (by decide) ?_
                      refine lz_ige (tgt := 52) hx hb dX1_finish_8 (by decide) (fun c_113 => ?_) (fun c_113 => absurd c_113 (by decide))
                      have ho := Option.some.inj hr
                      subst ho
                      exact W.vret hx hb hrt (fun t ht hW => ⟨⟨(), rfl, trivial, by rw [ht]; exact hP, va_K.moved hW.alike hK, hD⟩, hS.F ht⟩) hS.2.2 dX1_finish_52
                    · have hr := (if_pos c_112).symm.trans hr
                      refine lv_aload_n hx hb dX1_finish_36 rfl (lv_at hl 1 rfl) ?_
                      refine lv_aload_n hx hb dX1_finish_37 rfl (lv_at hl 1 rfl) ?_
                      refine va_get (D := (dC, dI)) (ci := 1) (v := .ref gN) (C := RX1) (T := TX1) (N := 7) hx hb hts in_X1_finish_X1 hown hK hP 0 rfl rfl 0 (by decide) (hts (.fieldLink RX1 13 "FormRing$Matrix" "numbers" "[[I") (by decide +kernel)) (fun _ h9 => h9) rfl dX1_finish_38 ?_
                      refine lv_iload_n hx hb dX1_finish_41 rfl (lv_at hl 0 rfl) ?_
                      refine zz_ald hx hb hK hP 1 1 rfl rfl (q := q3) hF.2.2.2 zz_in3 dX1_finish_42 ?_
                      cases e_114 : f_X1_negate n r_2.2.2.2.2.1 r_2.2.2.2.1 with
                      | none => rw [e_114, Option.bind_none] at hr; cases hr
                      | some r_115 =>
                        rw [e_114, Option.bind_some] at hr
                        have hPc := hP.sub (ws' := [(h0, .inr (1, [.ref gN, .ref gS, .int r_2.2.2.2.2.1, .long r_2.2.2.2.2.2.1, .long r_2.2.2.2.2.2.2.1, .long r_2.2.2.2.2.2.2.2.1, .long r_2.2.2.2.2.2.2.2.2])), (q3, .inl (cI, 256, .inl r_2.2.2.2.1))]) [0, 5] rfl
                        have hDc := hD.sub (ws' := [(h0, .inr (1, [.ref gN, .ref gS, .int r_2.2.2.2.2.1, .long r_2.2.2.2.2.2.1, .long r_2.2.2.2.2.2.2.1, .long r_2.2.2.2.2.2.2.2.1, .long r_2.2.2.2.2.2.2.2.2])), (q3, .inl (cI, 256, .inl r_2.2.2.2.1))]) [0, 5] (by decide) rfl
                        have hKc := hK.sub (tys' := [(cI, .int)]) [0] rfl
                        have hFc := va_free (wc := [(h0, .inr (1, [.ref gN, .ref gS, .int r_2.2.2.2.2.1, .long r_2.2.2.2.2.2.1, .long r_2.2.2.2.2.2.2.1, .long r_2.2.2.2.2.2.2.2.1, .long r_2.2.2.2.2.2.2.2.2])), (q3, .inl (cI, 256, .inl r_2.2.2.2.1))]) hD hS hA [0, 5] rfl
                        refine va_callv (va_runV (As := [.ref q3]) (rest := []) ⟨hx, hb, hml, hown, hts⟩ (c_X1_negate l dC dI H.size h0 gN gS r_2.2.2.2.2.1 r_2.2.2.2.2.2.1 r_2.2.2.2.2.2.2.1 r_2.2.2.2.2.2.2.2.1 r_2.2.2.2.2.2.2.2.2 cI q3 r_2.2.2.2.1  n _ e_114) (cwV 1 hts gX1_finish_X1_negate rfl rfl rfl (by decide +kernel) ⟨Nat.le_of_ble_eq_true rfl, Nat.le_of_ble_eq_true rfl⟩) ⟨fun a U g mk q => by obtain ⟨q0, q1, qP, qK, qD⟩ := q; exact ⟨q0, q1, qP, va_K.moved (u := U) (U := U.calling g mk a) (Vm.Alike.refl U.vm) qK, qD⟩, va_recv hKc hPc (ci := 1) (q0 := 0) rfl rfl, fun U hU hW => ⟨rfl, by rw [hU], by rw [hU]; exact hPc, va_K.moved hW.alike hKc, hDc.weaken (fun _ _ _ _ => trivial)⟩⟩ rfl rfl hl.1 rfl (lv_room (Nat.le_of_ble_eq_true rfl)) dX1_finish_43 ⟨Nat.zero_le _, Nat.zero_le _⟩) hS (fun q _ h => hFc q h) hFc (fun _ t H1 locs ht hvm hw hB hz1 hk1 hS => ?_)
                        obtain ⟨hP1, hK1, hD1⟩ := hB
                        rw [ht] at hP1
                        obtain ⟨hP, hD⟩ := va_join (wr := [(gN, .inl (cO, 4, .inr (.inr (.inr (.inr F))))), (q0, .inl (cI, 256, .inl r_90)), (q1, .inl (cI, 256, .inl r_2.2.1)), (q2, .inl (cI, 256, .inl r_2.2.2.1)), (gS, .inl (cI, 4, .inl (upd (upd (upd (upd sg (0 : Int32).toNatClampNeg r_6) (1 : Int32).toNatClampNeg r_94) (2 : Int32).toNatClampNeg r_101) (3 : Int32).toNatClampNeg r_108)))]) (w1 := [(h0, .inr (1, [.ref gN, .ref gS, .int r_2.2.2.2.2.1, .long r_2.2.2.2.2.2.1, .long r_2.2.2.2.2.2.2.1, .long r_2.2.2.2.2.2.2.2.1, .long r_2.2.2.2.2.2.2.2.2])), (q3, .inl (cI, 256, .inl r_115))]) hP hD [0, 5] [1, 2, 3, 4, 6] rfl rfl (by decide) (by decide) hk1 hFc hP1 hD1
                        generalize H1 = H at hP hS ⊢
                        have hP := hP.sub (ws' := [(h0, .inr (1, [.ref gN, .ref gS, .int r_2.2.2.2.2.1, .long r_2.2.2.2.2.2.1, .long r_2.2.2.2.2.2.2.1, .long r_2.2.2.2.2.2.2.2.1, .long r_2.2.2.2.2.2.2.2.2])), (gN, .inl (cO, 4, .inr (.inr (.inr (.inr F))))), (q0, .inl (cI, 256, .inl r_90)), (q1, .inl (cI, 256, .inl r_2.2.1)), (q2, .inl (cI, 256, .inl r_2.2.2.1)), (q3, .inl (cI, 256, .inl r_115)), (gS, .inl (cI, 4, .inl (upd (upd (upd (upd sg (0 : Int32).toNatClampNeg r_6) (1 : Int32).toNatClampNeg r_94) (2 : Int32).toNatClampNeg r_101) (3 : Int32).toNatClampNeg r_108)))]) [5, 0, 1, 2, 3, 6, 4] rfl
                        have hD := hD.sub (ws' := [(h0, .inr (1, [.ref gN, .ref gS, .int r_2.2.2.2.2.1, .long r_2.2.2.2.2.2.1, .long r_2.2.2.2.2.2.2.1, .long r_2.2.2.2.2.2.2.2.1, .long r_2.2.2.2.2.2.2.2.2])), (gN, .inl (cO, 4, .inr (.inr (.inr (.inr F))))), (q0, .inl (cI, 256, .inl r_90)), (q1, .inl (cI, 256, .inl r_2.2.1)), (q2, .inl (cI, 256, .inl r_2.2.2.1)), (q3, .inl (cI, 256, .inl r_115)), (gS, .inl (cI, 4, .inl (upd (upd (upd (upd sg (0 : Int32).toNatClampNeg r_6) (1 : Int32).toNatClampNeg r_94) (2 : Int32).toNatClampNeg r_101) (3 : Int32).toNatClampNeg r_108)))]) [5, 0, 1, 2, 3, 6, 4] (by decide) rfl
                        have hP : va_P (dC, dI) vwCl [(h0, .inr (1, [.ref gN, .ref gS, .int r_2.2.2.2.2.1, .long r_2.2.2.2.2.2.1, .long r_2.2.2.2.2.2.2.1, .long r_2.2.2.2.2.2.2.2.1, .long r_2.2.2.2.2.2.2.2.2])), (gN, .inl (cO, 4, .inr (.inr (.inr (.inr F))))), (q0, .inl (cI, 256, .inl r_90)), (q1, .inl (cI, 256, .inl r_2.2.1)), (q2, .inl (cI, 256, .inl r_2.2.2.1)), (q3, .inl (cI, 256, .inl r_115)), (gS, .inl (cI, 4, .inl (upd (upd (upd (upd sg (0 : Int32).toNatClampNeg r_6) (1 : Int32).toNatClampNeg r_94) (2 : Int32).toNatClampNeg r_101) (3 : Int32).toNatClampNeg r_108)))] H := hP
                        have hD : va_D A [(h0, .inr (1, [.ref gN, .ref gS, .int r_2.2.2.2.2.1, .long r_2.2.2.2.2.2.1, .long r_2.2.2.2.2.2.2.1, .long r_2.2.2.2.2.2.2.2.1, .long r_2.2.2.2.2.2.2.2.2])), (gN, .inl (cO, 4, .inr (.inr (.inr (.inr F))))), (q0, .inl (cI, 256, .inl r_90)), (q1, .inl (cI, 256, .inl r_2.2.1)), (q2, .inl (cI, 256, .inl r_2.2.2.1)), (q3, .inl (cI, 256, .inl r_115)), (gS, .inl (cI, 4, .inl (upd (upd (upd (upd sg (0 : Int32).toNatClampNeg r_6) (1 : Int32).toNatClampNeg r_94) (2 : Int32).toNatClampNeg r_101) (3 : Int32).toNatClampNeg r_108)))] := hD
                        refine W.widen (k := 0) (n := 0) (Nat.le_refl _) (Nat.le_refl _) ?_
                        refine lv_iinc (v := 4) (lv' := [(1, .int 4), (0, .ref h0)]) hx hb dX1_finish_46 hl (k := 0) rfl (by decide) (by decide) rfl (fun ls hl => ?_)
                        refine lv_goto (tgt := 6) hx hb dX1_finish_49 (by decide) ?_
                        refine lv_iload_n hx hb dX1_finish_6 rfl (lv_at hl 0 rfl) ?_
                        refine lv_iconst (v := 4) hx hb dX1_finish_7 (by decide) ?_
                        refine lz_ige (tgt := 52) hx hb dX1_finish_8 (by decide) (fun c_117 => ?_) (fun c_117 => absurd c_117 (by decide))
                        have ho := Option.some.inj hr
                        subst ho
                        exact W.vret hx hb hrt (fun t ht hW => ⟨⟨(), rfl, trivial, by rw [ht]; exact hP, va_K.moved hW.alike hK, hD⟩, hS.F ht⟩) hS.2.2 dX1_finish_52
                · have hr := (if_pos c_105).symm.trans hr
                  refine lv_aload_n hx hb dX1_finish_36 rfl (lv_at hl 1 rfl) ?_
                  refine lv_aload_n hx hb dX1_finish_37 rfl (lv_at hl 1 rfl) ?_
                  refine va_get (D := (dC, dI)) (ci := 1) (v := .ref gN) (C := RX1) (T := TX1) (N := 7) hx hb hts in_X1_finish_X1 hown hK hP 0 rfl rfl 0 (by decide) (hts (.fieldLink RX1 13 "FormRing$Matrix" "numbers" "[[I") (by decide +kernel)) (fun _ h9 => h9) rfl dX1_finish_38 ?_
                  refine lv_iload_n hx hb dX1_finish_41 rfl (lv_at hl 0 rfl) ?_
                  refine zz_ald hx hb hK hP 1 1 rfl rfl (q := q2) hF.2.2.1 zz_in2 dX1_finish_42 ?_
                  cases e_118 : f_X1_negate n r_2.2.2.2.2.1 r_2.2.2.1 with
                  | none => rw [e_118, Option.bind_none] at hr; cases hr
                  | some r_119 =>
                    rw [e_118, Option.bind_some] at hr
                    have hPc := hP.sub (ws' := [(h0, .inr (1, [.ref gN, .ref gS, .int r_2.2.2.2.2.1, .long r_2.2.2.2.2.2.1, .long r_2.2.2.2.2.2.2.1, .long r_2.2.2.2.2.2.2.2.1, .long r_2.2.2.2.2.2.2.2.2])), (q2, .inl (cI, 256, .inl r_2.2.2.1))]) [0, 4] rfl
                    have hDc := hD.sub (ws' := [(h0, .inr (1, [.ref gN, .ref gS, .int r_2.2.2.2.2.1, .long r_2.2.2.2.2.2.1, .long r_2.2.2.2.2.2.2.1, .long r_2.2.2.2.2.2.2.2.1, .long r_2.2.2.2.2.2.2.2.2])), (q2, .inl (cI, 256, .inl r_2.2.2.1))]) [0, 4] (by decide) rfl
                    have hKc := hK.sub (tys' := [(cI, .int)]) [0] rfl
                    have hFc := va_free (wc := [(h0, .inr (1, [.ref gN, .ref gS, .int r_2.2.2.2.2.1, .long r_2.2.2.2.2.2.1, .long r_2.2.2.2.2.2.2.1, .long r_2.2.2.2.2.2.2.2.1, .long r_2.2.2.2.2.2.2.2.2])), (q2, .inl (cI, 256, .inl r_2.2.2.1))]) hD hS hA [0, 4] rfl
                    refine va_callv (va_runV (As := [.ref q2]) (rest := []) ⟨hx, hb, hml, hown, hts⟩ (c_X1_negate l dC dI H.size h0 gN gS r_2.2.2.2.2.1 r_2.2.2.2.2.2.1 r_2.2.2.2.2.2.2.1 r_2.2.2.2.2.2.2.2.1 r_2.2.2.2.2.2.2.2.2 cI q2 r_2.2.2.1  n _ e_118) (cwV 1 hts gX1_finish_X1_negate rfl rfl rfl (by decide +kernel) ⟨Nat.le_of_ble_eq_true rfl, Nat.le_of_ble_eq_true rfl⟩) ⟨fun a U g mk q => by obtain ⟨q0, q1, qP, qK, qD⟩ := q; exact ⟨q0, q1, qP, va_K.moved (u := U) (U := U.calling g mk a) (Vm.Alike.refl U.vm) qK, qD⟩, va_recv hKc hPc (ci := 1) (q0 := 0) rfl rfl, fun U hU hW => ⟨rfl, by rw [hU], by rw [hU]; exact hPc, va_K.moved hW.alike hKc, hDc.weaken (fun _ _ _ _ => trivial)⟩⟩ rfl rfl hl.1 rfl (lv_room (Nat.le_of_ble_eq_true rfl)) dX1_finish_43 ⟨Nat.zero_le _, Nat.zero_le _⟩) hS (fun q _ h => hFc q h) hFc (fun _ t H1 locs ht hvm hw hB hz1 hk1 hS => ?_)
                    obtain ⟨hP1, hK1, hD1⟩ := hB
                    rw [ht] at hP1
                    obtain ⟨hP, hD⟩ := va_join (wr := [(gN, .inl (cO, 4, .inr (.inr (.inr (.inr F))))), (q0, .inl (cI, 256, .inl r_90)), (q1, .inl (cI, 256, .inl r_2.2.1)), (q3, .inl (cI, 256, .inl r_2.2.2.2.1)), (gS, .inl (cI, 4, .inl (upd (upd (upd sg (0 : Int32).toNatClampNeg r_6) (1 : Int32).toNatClampNeg r_94) (2 : Int32).toNatClampNeg r_101)))]) (w1 := [(h0, .inr (1, [.ref gN, .ref gS, .int r_2.2.2.2.2.1, .long r_2.2.2.2.2.2.1, .long r_2.2.2.2.2.2.2.1, .long r_2.2.2.2.2.2.2.2.1, .long r_2.2.2.2.2.2.2.2.2])), (q2, .inl (cI, 256, .inl r_119))]) hP hD [0, 4] [1, 2, 3, 5, 6] rfl rfl (by decide) (by decide) hk1 hFc hP1 hD1
                    generalize H1 = H at hP hS ⊢
                    have hP := hP.sub (ws' := [(h0, .inr (1, [.ref gN, .ref gS, .int r_2.2.2.2.2.1, .long r_2.2.2.2.2.2.1, .long r_2.2.2.2.2.2.2.1, .long r_2.2.2.2.2.2.2.2.1, .long r_2.2.2.2.2.2.2.2.2])), (gN, .inl (cO, 4, .inr (.inr (.inr (.inr F))))), (q0, .inl (cI, 256, .inl r_90)), (q1, .inl (cI, 256, .inl r_2.2.1)), (q2, .inl (cI, 256, .inl r_119)), (q3, .inl (cI, 256, .inl r_2.2.2.2.1)), (gS, .inl (cI, 4, .inl (upd (upd (upd sg (0 : Int32).toNatClampNeg r_6) (1 : Int32).toNatClampNeg r_94) (2 : Int32).toNatClampNeg r_101)))]) [5, 0, 1, 2, 6, 3, 4] rfl
                    have hD := hD.sub (ws' := [(h0, .inr (1, [.ref gN, .ref gS, .int r_2.2.2.2.2.1, .long r_2.2.2.2.2.2.1, .long r_2.2.2.2.2.2.2.1, .long r_2.2.2.2.2.2.2.2.1, .long r_2.2.2.2.2.2.2.2.2])), (gN, .inl (cO, 4, .inr (.inr (.inr (.inr F))))), (q0, .inl (cI, 256, .inl r_90)), (q1, .inl (cI, 256, .inl r_2.2.1)), (q2, .inl (cI, 256, .inl r_119)), (q3, .inl (cI, 256, .inl r_2.2.2.2.1)), (gS, .inl (cI, 4, .inl (upd (upd (upd sg (0 : Int32).toNatClampNeg r_6) (1 : Int32).toNatClampNeg r_94) (2 : Int32).toNatClampNeg r_101)))]) [5, 0, 1, 2, 6, 3, 4] (by decide) rfl
                    have hP : va_P (dC, dI) vwCl [(h0, .inr (1, [.ref gN, .ref gS, .int r_2.2.2.2.2.1, .long r_2.2.2.2.2.2.1, .long r_2.2.2.2.2.2.2.1, .long r_2.2.2.2.2.2.2.2.1, .long r_2.2.2.2.2.2.2.2.2])), (gN, .inl (cO, 4, .inr (.inr (.inr (.inr F))))), (q0, .inl (cI, 256, .inl r_90)), (q1, .inl (cI, 256, .inl r_2.2.1)), (q2, .inl (cI, 256, .inl r_119)), (q3, .inl (cI, 256, .inl r_2.2.2.2.1)), (gS, .inl (cI, 4, .inl (upd (upd (upd sg (0 : Int32).toNatClampNeg r_6) (1 : Int32).toNatClampNeg r_94) (2 : Int32).toNatClampNeg r_101)))] H := hP
                    have hD : va_D A [(h0, .inr (1, [.ref gN, .ref gS, .int r_2.2.2.2.2.1, .long r_2.2.2.2.2.2.1, .long r_2.2.2.2.2.2.2.1, .long r_2.2.2.2.2.2.2.2.1, .long r_2.2.2.2.2.2.2.2.2])), (gN, .inl (cO, 4, .inr (.inr (.inr (.inr F))))), (q0, .inl (cI, 256, .inl r_90)), (q1, .inl (cI, 256, .inl r_2.2.1)), (q2, .inl (cI, 256, .inl r_119)), (q3, .inl (cI, 256, .inl r_2.2.2.2.1)), (gS, .inl (cI, 4, .inl (upd (upd (upd sg (0 : Int32).toNatClampNeg r_6) (1 : Int32).toNatClampNeg r_94) (2 : Int32).toNatClampNeg r_101)))] := hD
                    refine W.widen (k := 0) (n := 0) (Nat.le_refl _) (Nat.le_refl _) ?_
                    refine lv_iinc (v := 3) (lv' := [(1, .int 3), (0, .ref h0)]) hx hb dX1_finish_46 hl (k := 0) rfl (by decide) (by decide) rfl (fun ls hl => ?_)
                    refine lv_goto (tgt := 6) hx hb dX1_finish_49 (by decide) ?_
                    refine lv_iload_n hx hb dX1_finish_6 rfl (lv_at hl 0 rfl) ?_
                    refine lv_iconst (v := 4) hx hb dX1_finish_7 (by decide) ?_
                    refine lz_ige (tgt := 52) hx hb dX1_finish_8 (by decide) (fun c_121 => absurd c_121 (by decide)) (fun c_121 => ?_)
                    refine lv_aload_n hx hb dX1_finish_11 rfl (lv_at hl 1 rfl) ?_
                    refine va_get (D := (dC, dI)) (ci := 1) (v := .ref gS) (C := RX1) (T := TX1) (N := 7) hx hb hts in_X1_finish_X1 hown hK hP 0 rfl rfl 1 (by decide) (hts (.fieldLink RX1 16 "FormRing$Matrix" "signs" "[I") (by decide +kernel)) (fun _ h9 => h9) rfl dX1_finish_12 ?_
                    refine lv_iload_n hx hb dX1_finish_15 rfl (lv_at hl 0 rfl) ?_
                    refine lv_aload_n hx hb dX1_finish_16 rfl (lv_at hl 1 rfl) ?_
                    refine lv_aload_n hx hb dX1_finish_17 rfl (lv_at hl 1 rfl) ?_
                    refine va_get (D := (dC, dI)) (ci := 1) (v := .ref gN) (C := RX1) (T := TX1) (N := 7) hx hb hts in_X1_finish_X1 hown hK hP 0 rfl rfl 0 (by decide) (hts (.fieldLink RX1 13 "FormRing$Matrix" "numbers" "[[I") (by decide +kernel)) (fun _ h9 => h9) rfl dX1_finish_18 ?_
                    refine lv_iload_n hx hb dX1_finish_21 rfl (lv_at hl 0 rfl) ?_
                    refine zz_ald hx hb hK hP 1 1 rfl rfl (q := q3) hF.2.2.2 zz_in3 dX1_finish_22 ?_
                    cases e_122 : f_X1_findSign n r_2.2.2.2.2.1 r_2.2.2.2.1 with
                    | none => rw [e_122, Option.bind_none] at hr; cases hr
                    | some r_123 =>
                      rw [e_122, Option.bind_some] at hr
                      have hPc := hP.sub (ws' := [(h0, .inr (1, [.ref gN, .ref gS, .int r_2.2.2.2.2.1, .long r_2.2.2.2.2.2.1, .long r_2.2.2.2.2.2.2.1, .long r_2.2.2.2.2.2.2.2.1, .long r_2.2.2.2.2.2.2.2.2])), (q3, .inl (cI, 256, .inl r_2.2.2.2.1))]) [0, 5] rfl
                      have hDc := hD.sub (ws' := [(h0, .inr (1, [.ref gN, .ref gS, .int r_2.2.2.2.2.1, .long r_2.2.2.2.2.2.1, .long r_2.2.2.2.2.2.2.1, .long r_2.2.2.2.2.2.2.2.1, .long r_2.2.2.2.2.2.2.2.2])), (q3, .inl (cI, 256, .inl r_2.2.2.2.1))]) [0, 5] (by decide) rfl
                      have hKc := hK.sub (tys' := [(cI, .int)]) [0] rfl
                      have hFc := va_free (wc := [(h0, .inr (1, [.ref gN, .ref gS, .int r_2.2.2.2.2.1, .long r_2.2.2.2.2.2.1, .long r_2.2.2.2.2.2.2.1, .long r_2.2.2.2.2.2.2.2.1, .long r_2.2.2.2.2.2.2.2.2])), (q3, .inl (cI, 256, .inl r_2.2.2.2.1))]) hD hS hA [0, 5] rfl
                      refine va_calli (va_runV (As := [.ref q3]) (rest := [.int 3, .ref gS]) ⟨hx, hb, hml, hown, hts⟩ (c_X1_findSign l dC dI H.size h0 gN gS r_2.2.2.2.2.1 r_2.2.2.2.2.2.1 r_2.2.2.2.2.2.2.1 r_2.2.2.2.2.2.2.2.1 r_2.2.2.2.2.2.2.2.2 cI q3 r_2.2.2.2.1  n _ e_122) (cwV 1 hts gX1_finish_X1_findSign rfl rfl rfl (by decide +kernel) ⟨Nat.le_of_ble_eq_true rfl, Nat.le_of_ble_eq_true rfl⟩) ⟨fun a U g mk q => by obtain ⟨q0, q1, qP, qK, qD⟩ := q; exact ⟨q0, q1, qP, va_K.moved (u := U) (U := U.calling g mk a) (Vm.Alike.refl U.vm) qK, qD⟩, va_recv hKc hPc (ci := 1) (q0 := 0) rfl rfl, fun U hU hW => ⟨rfl, by rw [hU], by rw [hU]; exact hPc, va_K.moved hW.alike hKc, hDc.weaken (fun _ _ _ _ => trivial)⟩⟩ rfl rfl hl.1 rfl (lv_room (Nat.le_of_ble_eq_true rfl)) dX1_finish_23 ⟨Nat.zero_le _, Nat.zero_le _⟩) hS (fun q _ h => hFc q h) hFc (fun x_124 _ t H1 locs ht hvm hw hB hz1 hk1 hS => ?_)
                      have hw := hw.symm
                      subst hw
                      obtain ⟨hP1, hK1, hD1⟩ := hB
                      rw [ht] at hP1
                      obtain ⟨hP, hD⟩ := va_join (wr := [(gN, .inl (cO, 4, .inr (.inr (.inr (.inr F))))), (q0, .inl (cI, 256, .inl r_90)), (q1, .inl (cI, 256, .inl r_2.2.1)), (q2, .inl (cI, 256, .inl r_119)), (gS, .inl (cI, 4, .inl (upd (upd (upd sg (0 : Int32).toNatClampNeg r_6) (1 : Int32).toNatClampNeg r_94) (2 : Int32).toNatClampNeg r_101)))]) (w1 := [(h0, .inr (1, [.ref gN, .ref gS, .int r_2.2.2.2.2.1, .long r_2.2.2.2.2.2.1, .long r_2.2.2.2.2.2.2.1, .long r_2.2.2.2.2.2.2.2.1, .long r_2.2.2.2.2.2.2.2.2])), (q3, .inl (cI, 256, .inl r_2.2.2.2.1))]) hP hD [0, 5] [1, 2, 3, 4, 6] rfl rfl (by decide) (by decide) hk1 hFc hP1 hD1
                      generalize H1 = H at hP hS ⊢
                      have hP := hP.sub (ws' := [(h0, .inr (1, [.ref gN, .ref gS, .int r_2.2.2.2.2.1, .long r_2.2.2.2.2.2.1, .long r_2.2.2.2.2.2.2.1, .long r_2.2.2.2.2.2.2.2.1, .long r_2.2.2.2.2.2.2.2.2])), (gN, .inl (cO, 4, .inr (.inr (.inr (.inr F))))), (q0, .inl (cI, 256, .inl r_90)), (q1, .inl (cI, 256, .inl r_2.2.1)), (q2, .inl (cI, 256, .inl r_119)), (q3, .inl (cI, 256, .inl r_2.2.2.2.1)), (gS, .inl (cI, 4, .inl (upd (upd (upd sg (0 : Int32).toNatClampNeg r_6) (1 : Int32).toNatClampNeg r_94) (2 : Int32).toNatClampNeg r_101)))]) [5, 0, 1, 2, 3, 6, 4] rfl
                      have hD := hD.sub (ws' := [(h0, .inr (1, [.ref gN, .ref gS, .int r_2.2.2.2.2.1, .long r_2.2.2.2.2.2.1, .long r_2.2.2.2.2.2.2.1, .long r_2.2.2.2.2.2.2.2.1, .long r_2.2.2.2.2.2.2.2.2])), (gN, .inl (cO, 4, .inr (.inr (.inr (.inr F))))), (q0, .inl (cI, 256, .inl r_90)), (q1, .inl (cI, 256, .inl r_2.2.1)), (q2, .inl (cI, 256, .inl r_119)), (q3, .inl (cI, 256, .inl r_2.2.2.2.1)), (gS, .inl (cI, 4, .inl (upd (upd (upd sg (0 : Int32).toNatClampNeg r_6) (1 : Int32).toNatClampNeg r_94) (2 : Int32).toNatClampNeg r_101)))]) [5, 0, 1, 2, 3, 6, 4] (by decide) rfl
                      have hP : va_P (dC, dI) vwCl [(h0, .inr (1, [.ref gN, .ref gS, .int r_2.2.2.2.2.1, .long r_2.2.2.2.2.2.1, .long r_2.2.2.2.2.2.2.1, .long r_2.2.2.2.2.2.2.2.1, .long r_2.2.2.2.2.2.2.2.2])), (gN, .inl (cO, 4, .inr (.inr (.inr (.inr F))))), (q0, .inl (cI, 256, .inl r_90)), (q1, .inl (cI, 256, .inl r_2.2.1)), (q2, .inl (cI, 256, .inl r_119)), (q3, .inl (cI, 256, .inl r_2.2.2.2.1)), (gS, .inl (cI, 4, .inl (upd (upd (upd sg (0 : Int32).toNatClampNeg r_6) (1 : Int32).toNatClampNeg r_94) (2 : Int32).toNatClampNeg r_101)))] H := hP
                      have hD : va_D A [(h0, .inr (1, [.ref gN, .ref gS, .int r_2.2.2.2.2.1, .long r_2.2.2.2.2.2.1, .long r_2.2.2.2.2.2.2.1, .long r_2.2.2.2.2.2.2.2.1, .long r_2.2.2.2.2.2.2.2.2])), (gN, .inl (cO, 4, .inr (.inr (.inr (.inr F))))), (q0, .inl (cI, 256, .inl r_90)), (q1, .inl (cI, 256, .inl r_2.2.1)), (q2, .inl (cI, 256, .inl r_119)), (q3, .inl (cI, 256, .inl r_2.2.2.2.1)), (gS, .inl (cI, 4, .inl (upd (upd (upd sg (0 : Int32).toNatClampNeg r_6) (1 : Int32).toNatClampNeg r_94) (2 : Int32).toNatClampNeg r_101)))] := hD
                      refine W.widen (k := 0) (n := 0) (Nat.le_refl _) (Nat.le_refl _) ?_
                      by_cases g_125 : (3 : Int32) < 0 ∨ 4 ≤ (3 : Int32).toNatClampNeg
                      · have hr := (if_pos g_125).symm.trans hr
                        cases hr
                      have hr := (if_neg g_125).symm.trans hr
                      refine va_iast hx hb hK hP hD hS 6 0 rfl rfl g_125 dX1_finish_26 (fun H locs hP hD hS => ?_)
                      have hP : va_P (dC, dI) vwCl [(h0, .inr (1, [.ref gN, .ref gS, .int r_2.2.2.2.2.1, .long r_2.2.2.2.2.2.1, .long r_2.2.2.2.2.2.2.1, .long r_2.2.2.2.2.2.2.2.1, .long r_2.2.2.2.2.2.2.2.2])), (gN, .inl (cO, 4, .inr (.inr (.inr (.inr F))))), (q0, .inl (cI, 256, .inl r_90)), (q1, .inl (cI, 256, .inl r_2.2.1)), (q2, .inl (cI, 256, .inl r_119)), (q3, .inl (cI, 256, .inl r_2.2.2.2.1)), (gS, .inl (cI, 4, .inl (upd (upd (upd (upd sg (0 : Int32).toNatClampNeg r_6) (1 : Int32).toNatClampNeg r_94) (2 : Int32).toNatClampNeg r_101) (3 : Int32).toNatClampNeg r_123)))] H := hP
                      have hD : va_D A [(h0, .inr (1, [.ref gN, .ref gS, .int r_2.2.2.2.2.1, .long r_2.2.2.2.2.2.1, .long r_2.2.2.2.2.2.2.1, .long r_2.2.2.2.2.2.2.2.1, .long r_2.2.2.2.2.2.2.2.2])), (gN, .inl (cO, 4, .inr (.inr (.inr (.inr F))))), (q0, .inl (cI, 256, .inl r_90)), (q1, .inl (cI, 256, .inl r_2.2.1)), (q2, .inl (cI, 256, .inl r_119)), (q3, .inl (cI, 256, .inl r_2.2.2.2.1)), (gS, .inl (cI, 4, .inl (upd (upd (upd (upd sg (0 : Int32).toNatClampNeg r_6) (1 : Int32).toNatClampNeg r_94) (2 : Int32).toNatClampNeg r_101) (3 : Int32).toNatClampNeg r_123)))] := hD
                      refine lv_aload_n hx hb dX1_finish_27 rfl (lv_at hl 1 rfl) ?_
                      refine va_get (D := (dC, dI)) (ci := 1) (v := .ref gS) (C := RX1) (T := TX1) (N := 7) hx hb hts in_X1_finish_X1 hown hK hP 0 rfl rfl 1 (by decide) (hts (.fieldLink RX1 16 "FormRing$Matrix" "signs" "[I") (by decide +kernel)) (fun _ h9 => h9) rfl dX1_finish_28 ?_
                      refine lv_iload_n hx hb dX1_finish_31 rfl (lv_at hl 0 rfl) ?_
                      by_cases g_126 : (3 : Int32) < 0 ∨ 4 ≤ (3 : Int32).toNatClampNeg
                      · have hr := (if_pos g_126).symm.trans hr
                        cases hr
                      have hr := (if_neg g_126).symm.trans hr
                      refine va_iald hx hb hK hP 6 0 rfl rfl g_126 dX1_finish_32 ?_
                      refine lz_zge (tgt := 46) hx hb dX1_finish_33 (by decide) (fun c_127 => ?_) (fun c_127 => ?_)
                      · have hr := (if_neg c_127).symm.trans hr
                        refine lv_iinc (v := 4) (lv' := [(1, .int 4), (0, .ref h0)]) hx hb dX1_finish_46 hl (k := 0) rfl (by decide) (by decide) rfl (fun ls hl => ?_)
                        refine lv_goto (tgt := 6) hx hb dX1_finish_49 (by decide) ?_
                        refine lv_iload_n hx hb dX1_finish_6 rfl (lv_at hl 0 rfl) ?_
                        refine lv_iconst (v := 4) hx hb dX1_finish_7 (by decide) ?_
                        refine lz_ige (tgt := 52) hx hb dX1_finish_8 (by decide) (fun c_128 => ?_) (fun c_128 => absurd c_128 (by decide))
                        have ho := Option.some.inj hr
                        subst ho
                        exact W.vret hx hb hrt (fun t ht hW => ⟨⟨(), rfl, trivial, by rw [ht]; exact hP, va_K.moved hW.alike hK, hD⟩, hS.F ht⟩) hS.2.2 dX1_finish_52
                      · have hr := (if_pos c_127).symm.trans hr
                        refine lv_aload_n hx hb dX1_finish_36 rfl (lv_at hl 1 rfl) ?_
                        refine lv_aload_n hx hb dX1_finish_37 rfl (lv_at hl 1 rfl) ?_
                        refine va_get (D := (dC, dI)) (ci := 1) (v := .ref gN) (C := RX1) (T := TX1) (N := 7) hx hb hts in_X1_finish_X1 hown hK hP 0 rfl rfl 0 (by decide) (hts (.fieldLink RX1 13 "FormRing$Matrix" "numbers" "[[I") (by decide +kernel)) (fun _ h9 => h9) rfl dX1_finish_38 ?_
                        refine lv_iload_n hx hb dX1_finish_41 rfl (lv_at hl 0 rfl) ?_
                        refine zz_ald hx hb hK hP 1 1 rfl rfl (q := q3) hF.2.2.2 zz_in3 dX1_finish_42 ?_
                        cases e_129 : f_X1_negate n r_2.2.2.2.2.1 r_2.2.2.2.1 with
                        | none => rw [e_129, Option.bind_none] at hr; cases hr
                        | some r_130 =>
                          rw [e_129, Option.bind_some] at hr
                          have hPc := hP.sub (ws' := [(h0, .inr (1, [.ref gN, .ref gS, .int r_2.2.2.2.2.1, .long r_2.2.2.2.2.2.1, .long r_2.2.2.2.2.2.2.1, .long r_2.2.2.2.2.2.2.2.1, .long r_2.2.2.2.2.2.2.2.2])), (q3, .inl (cI, 256, .inl r_2.2.2.2.1))]) [0, 5] rfl
                          have hDc := hD.sub (ws' := [(h0, .inr (1, [.ref gN, .ref gS, .int r_2.2.2.2.2.1, .long r_2.2.2.2.2.2.1, .long r_2.2.2.2.2.2.2.1, .long r_2.2.2.2.2.2.2.2.1, .long r_2.2.2.2.2.2.2.2.2])), (q3, .inl (cI, 256, .inl r_2.2.2.2.1))]) [0, 5] (by decide) rfl
                          have hKc := hK.sub (tys' := [(cI, .int)]) [0] rfl
                          have hFc := va_free (wc := [(h0, .inr (1, [.ref gN, .ref gS, .int r_2.2.2.2.2.1, .long r_2.2.2.2.2.2.1, .long r_2.2.2.2.2.2.2.1, .long r_2.2.2.2.2.2.2.2.1, .long r_2.2.2.2.2.2.2.2.2])), (q3, .inl (cI, 256, .inl r_2.2.2.2.1))]) hD hS hA [0, 5] rfl
                          refine va_callv (va_runV (As := [.ref q3]) (rest := []) ⟨hx, hb, hml, hown, hts⟩ (c_X1_negate l dC dI H.size h0 gN gS r_2.2.2.2.2.1 r_2.2.2.2.2.2.1 r_2.2.2.2.2.2.2.1 r_2.2.2.2.2.2.2.2.1 r_2.2.2.2.2.2.2.2.2 cI q3 r_2.2.2.2.1  n _ e_129) (cwV 1 hts gX1_finish_X1_negate rfl rfl rfl (by decide +kernel) ⟨Nat.le_of_ble_eq_true rfl, Nat.le_of_ble_eq_true rfl⟩) ⟨fun a U g mk q => by obtain ⟨q0, q1, qP, qK, qD⟩ := q; exact ⟨q0, q1, qP, va_K.moved (u := U) (U := U.calling g mk a) (Vm.Alike.refl U.vm) qK, qD⟩, va_recv hKc hPc (ci := 1) (q0 := 0) rfl rfl, fun U hU hW => ⟨rfl, by rw [hU], by rw [hU]; exact hPc, va_K.moved hW.alike hKc, hDc.weaken (fun _ _ _ _ => trivial)⟩⟩ rfl rfl hl.1 rfl (lv_room (Nat.le_of_ble_eq_true rfl)) dX1_finish_43 ⟨Nat.zero_le _, Nat.zero_le _⟩) hS (fun q _ h => hFc q h) hFc (fun _ t H1 locs ht hvm hw hB hz1 hk1 hS => ?_)
                          obtain ⟨hP1, hK1, hD1⟩ := hB
                          rw [ht] at hP1
                          obtain ⟨hP, hD⟩ := va_join (wr := [(gN, .inl (cO, 4, .inr (.inr (.inr (.inr F))))), (q0, .inl (cI, 256, .inl r_90)), (q1, .inl (cI, 256, .inl r_2.2.1)), (q2, .inl (cI, 256, .inl r_119)), (gS, .inl (cI, 4, .inl (upd (upd (upd (upd sg (0 : Int32).toNatClampNeg r_6) (1 : Int32).toNatClampNeg r_94) (2 : Int32).toNatClampNeg r_101) (3 : Int32).toNatClampNeg r_123)))]) (w1 := [(h0, .inr (1, [.ref gN, .ref gS, .int r_2.2.2.2.2.1, .long r_2.2.2.2.2.2.1, .long r_2.2.2.2.2.2.2.1, .long r_2.2.2.2.2.2.2.2.1, .long r_2.2.2.2.2.2.2.2.2])), (q3, .inl (cI, 256, .inl r_130))]) hP hD [0, 5] [1, 2, 3, 4, 6] rfl rfl (by decide) (by decide) hk1 hFc hP1 hD1
                          generalize H1 = H at hP hS ⊢
                          have hP := hP.sub (ws' := [(h0, .inr (1, [.ref gN, .ref gS, .int r_2.2.2.2.2.1, .long r_2.2.2.2.2.2.1, .long r_2.2.2.2.2.2.2.1, .long r_2.2.2.2.2.2.2.2.1, .long r_2.2.2.2.2.2.2.2.2])), (gN, .inl (cO, 4, .inr (.inr (.inr (.inr F))))), (q0, .inl (cI, 256, .inl r_90)), (q1, .inl (cI, 256, .inl r_2.2.1)), (q2, .inl (cI, 256, .inl r_119)), (q3, .inl (cI, 256, .inl r_130)), (gS, .inl (cI, 4, .inl (upd (upd (upd (upd sg (0 : Int32).toNatClampNeg r_6) (1 : Int32).toNatClampNeg r_94) (2 : Int32).toNatClampNeg r_101) (3 : Int32).toNatClampNeg r_123)))]) [5, 0, 1, 2, 3, 6, 4] rfl
                          have hD := hD.sub (ws' := [(h0, .inr (1, [.ref gN, .ref gS, .int r_2.2.2.2.2.1, .long r_2.2.2.2.2.2.1, .long r_2.2.2.2.2.2.2.1, .long r_2.2.2.2.2.2.2.2.1, .long r_2.2.2.2.2.2.2.2.2])), (gN, .inl (cO, 4, .inr (.inr (.inr (.inr F))))), (q0, .inl (cI, 256, .inl r_90)), (q1, .inl (cI, 256, .inl r_2.2.1)), (q2, .inl (cI, 256, .inl r_119)), (q3, .inl (cI, 256, .inl r_130)), (gS, .inl (cI, 4, .inl (upd (upd (upd (upd sg (0 : Int32).toNatClampNeg r_6) (1 : Int32).toNatClampNeg r_94) (2 : Int32).toNatClampNeg r_101) (3 : Int32).toNatClampNeg r_123)))]) [5, 0, 1, 2, 3, 6, 4] (by decide) rfl
                          have hP : va_P (dC, dI) vwCl [(h0, .inr (1, [.ref gN, .ref gS, .int r_2.2.2.2.2.1, .long r_2.2.2.2.2.2.1, .long r_2.2.2.2.2.2.2.1, .long r_2.2.2.2.2.2.2.2.1, .long r_2.2.2.2.2.2.2.2.2])), (gN, .inl (cO, 4, .inr (.inr (.inr (.inr F))))), (q0, .inl (cI, 256, .inl r_90)), (q1, .inl (cI, 256, .inl r_2.2.1)), (q2, .inl (cI, 256, .inl r_119)), (q3, .inl (cI, 256, .inl r_130)), (gS, .inl (cI, 4, .inl (upd (upd (upd (upd sg (0 : Int32).toNatClampNeg r_6) (1 : Int32).toNatClampNeg r_94) (2 : Int32).toNatClampNeg r_101) (3 : Int32).toNatClampNeg r_123)))] H := hP
                          have hD : va_D A [(h0, .inr (1, [.ref gN, .ref gS, .int r_2.2.2.2.2.1, .long r_2.2.2.2.2.2.1, .long r_2.2.2.2.2.2.2.1, .long r_2.2.2.2.2.2.2.2.1, .long r_2.2.2.2.2.2.2.2.2])), (gN, .inl (cO, 4, .inr (.inr (.inr (.inr F))))), (q0, .inl (cI, 256, .inl r_90)), (q1, .inl (cI, 256, .inl r_2.2.1)), (q2, .inl (cI, 256, .inl r_119)), (q3, .inl (cI, 256, .inl r_130)), (gS, .inl (cI, 4, .inl (upd (upd (upd (upd sg (0 : Int32).toNatClampNeg r_6) (1 : Int32).toNatClampNeg r_94) (2 : Int32).toNatClampNeg r_101) (3 : Int32).toNatClampNeg r_123)))] := hD
                          refine W.widen (k := 0) (n := 0) (Nat.le_refl _) (Nat.le_refl _) ?_
                          refine lv_iinc (v := 4) (lv' := [(1, .int 4), (0, .ref h0)]) hx hb dX1_finish_46 hl (k := 0) rfl (by decide) (by decide) rfl (fun ls hl => ?_)
                          refine lv_goto (tgt := 6) hx hb dX1_finish_49 (by decide) ?_
                          refine lv_iload_n hx hb dX1_finish_6 rfl (lv_at hl 0 rfl) ?_
                          refine lv_iconst (v := 4) hx hb dX1_finish_7 (by decide) ?_
                          refine lz_ige (tgt := 52) hx hb dX1_finish_8 (by decide) (fun c_132 => ?_) (fun c_132 => absurd c_132 (by decide))
                          have ho := Option.some.inj hr
                          subst ho
                          exact W.vret hx hb hrt (fun t ht hW => ⟨⟨(), rfl, trivial, by rw [ht]; exact hP, va_K.moved hW.alike hK, hD⟩, hS.F ht⟩) hS.2.2 dX1_finish_52
            · have hr := (if_pos c_98).symm.trans hr
              refine lv_aload_n hx hb dX1_finish_36 rfl (lv_at hl 1 rfl) ?_
              refine lv_aload_n hx hb dX1_finish_37 rfl (lv_at hl 1 rfl) ?_
              refine va_get (D := (dC, dI)) (ci := 1) (v := .ref gN) (C := RX1) (T := TX1) (N := 7) hx hb hts in_X1_finish_X1 hown hK hP 0 rfl rfl 0 (by decide) (hts (.fieldLink RX1 13 "FormRing$Matrix" "numbers" "[[I") (by decide +kernel)) (fun _ h9 => h9) rfl dX1_finish_38 ?_
              refine lv_iload_n hx hb dX1_finish_41 rfl (lv_at hl 0 rfl) ?_
              refine zz_ald hx hb hK hP 1 1 rfl rfl (q := q1) hF.2.1 zz_in1 dX1_finish_42 ?_
              cases e_133 : f_X1_negate n r_2.2.2.2.2.1 r_2.2.1 with
              | none => rw [e_133, Option.bind_none] at hr; cases hr
              | some r_134 =>
                rw [e_133, Option.bind_some] at hr
                have hPc := hP.sub (ws' := [(h0, .inr (1, [.ref gN, .ref gS, .int r_2.2.2.2.2.1, .long r_2.2.2.2.2.2.1, .long r_2.2.2.2.2.2.2.1, .long r_2.2.2.2.2.2.2.2.1, .long r_2.2.2.2.2.2.2.2.2])), (q1, .inl (cI, 256, .inl r_2.2.1))]) [0, 3] rfl
                have hDc := hD.sub (ws' := [(h0, .inr (1, [.ref gN, .ref gS, .int r_2.2.2.2.2.1, .long r_2.2.2.2.2.2.1, .long r_2.2.2.2.2.2.2.1, .long r_2.2.2.2.2.2.2.2.1, .long r_2.2.2.2.2.2.2.2.2])), (q1, .inl (cI, 256, .inl r_2.2.1))]) [0, 3] (by decide) rfl
                have hKc := hK.sub (tys' := [(cI, .int)]) [0] rfl
                have hFc := va_free (wc := [(h0, .inr (1, [.ref gN, .ref gS, .int r_2.2.2.2.2.1, .long r_2.2.2.2.2.2.1, .long r_2.2.2.2.2.2.2.1, .long r_2.2.2.2.2.2.2.2.1, .long r_2.2.2.2.2.2.2.2.2])), (q1, .inl (cI, 256, .inl r_2.2.1))]) hD hS hA [0, 3] rfl
                refine va_callv (va_runV (As := [.ref q1]) (rest := []) ⟨hx, hb, hml, hown, hts⟩ (c_X1_negate l dC dI H.size h0 gN gS r_2.2.2.2.2.1 r_2.2.2.2.2.2.1 r_2.2.2.2.2.2.2.1 r_2.2.2.2.2.2.2.2.1 r_2.2.2.2.2.2.2.2.2 cI q1 r_2.2.1  n _ e_133) (cwV 1 hts gX1_finish_X1_negate rfl rfl rfl (by decide +kernel) ⟨Nat.le_of_ble_eq_true rfl, Nat.le_of_ble_eq_true rfl⟩) ⟨fun a U g mk q => by obtain ⟨q0, q1, qP, qK, qD⟩ := q; exact ⟨q0, q1, qP, va_K.moved (u := U) (U := U.calling g mk a) (Vm.Alike.refl U.vm) qK, qD⟩, va_recv hKc hPc (ci := 1) (q0 := 0) rfl rfl, fun U hU hW => ⟨rfl, by rw [hU], by rw [hU]; exact hPc, va_K.moved hW.alike hKc, hDc.weaken (fun _ _ _ _ => trivial)⟩⟩ rfl rfl hl.1 rfl (lv_room (Nat.le_of_ble_eq_true rfl)) dX1_finish_43 ⟨Nat.zero_le _, Nat.zero_le _⟩) hS (fun q _ h => hFc q h) hFc (fun _ t H1 locs ht hvm hw hB hz1 hk1 hS => ?_)
                obtain ⟨hP1, hK1, hD1⟩ := hB
                rw [ht] at hP1
                obtain ⟨hP, hD⟩ := va_join (wr := [(gN, .inl (cO, 4, .inr (.inr (.inr (.inr F))))), (q0, .inl (cI, 256, .inl r_90)), (q2, .inl (cI, 256, .inl r_2.2.2.1)), (q3, .inl (cI, 256, .inl r_2.2.2.2.1)), (gS, .inl (cI, 4, .inl (upd (upd sg (0 : Int32).toNatClampNeg r_6) (1 : Int32).toNatClampNeg r_94)))]) (w1 := [(h0, .inr (1, [.ref gN, .ref gS, .int r_2.2.2.2.2.1, .long r_2.2.2.2.2.2.1, .long r_2.2.2.2.2.2.2.1, .long r_2.2.2.2.2.2.2.2.1, .long r_2.2.2.2.2.2.2.2.2])), (q1, .inl (cI, 256, .inl r_134))]) hP hD [0, 3] [1, 2, 4, 5, 6] rfl rfl (by decide) (by decide) hk1 hFc hP1 hD1
                generalize H1 = H at hP hS ⊢
                have hP := hP.sub (ws' := [(h0, .inr (1, [.ref gN, .ref gS, .int r_2.2.2.2.2.1, .long r_2.2.2.2.2.2.1, .long r_2.2.2.2.2.2.2.1, .long r_2.2.2.2.2.2.2.2.1, .long r_2.2.2.2.2.2.2.2.2])), (gN, .inl (cO, 4, .inr (.inr (.inr (.inr F))))), (q0, .inl (cI, 256, .inl r_90)), (q1, .inl (cI, 256, .inl r_134)), (q2, .inl (cI, 256, .inl r_2.2.2.1)), (q3, .inl (cI, 256, .inl r_2.2.2.2.1)), (gS, .inl (cI, 4, .inl (upd (upd sg (0 : Int32).toNatClampNeg r_6) (1 : Int32).toNatClampNeg r_94)))]) [5, 0, 1, 6, 2, 3, 4] rfl
                have hD := hD.sub (ws' := [(h0, .inr (1, [.ref gN, .ref gS, .int r_2.2.2.2.2.1, .long r_2.2.2.2.2.2.1, .long r_2.2.2.2.2.2.2.1, .long r_2.2.2.2.2.2.2.2.1, .long r_2.2.2.2.2.2.2.2.2])), (gN, .inl (cO, 4, .inr (.inr (.inr (.inr F))))), (q0, .inl (cI, 256, .inl r_90)), (q1, .inl (cI, 256, .inl r_134)), (q2, .inl (cI, 256, .inl r_2.2.2.1)), (q3, .inl (cI, 256, .inl r_2.2.2.2.1)), (gS, .inl (cI, 4, .inl (upd (upd sg (0 : Int32).toNatClampNeg r_6) (1 : Int32).toNatClampNeg r_94)))]) [5, 0, 1, 6, 2, 3, 4] (by decide) rfl
                have hP : va_P (dC, dI) vwCl [(h0, .inr (1, [.ref gN, .ref gS, .int r_2.2.2.2.2.1, .long r_2.2.2.2.2.2.1, .long r_2.2.2.2.2.2.2.1, .long r_2.2.2.2.2.2.2.2.1, .long r_2.2.2.2.2.2.2.2.2])), (gN, .inl (cO, 4, .inr (.inr (.inr (.inr F))))), (q0, .inl (cI, 256, .inl r_90)), (q1, .inl (cI, 256, .inl r_134)), (q2, .inl (cI, 256, .inl r_2.2.2.1)), (q3, .inl (cI, 256, .inl r_2.2.2.2.1)), (gS, .inl (cI, 4, .inl (upd (upd sg (0 : Int32).toNatClampNeg r_6) (1 : Int32).toNatClampNeg r_94)))] H := hP
                have hD : va_D A [(h0, .inr (1, [.ref gN, .ref gS, .int r_2.2.2.2.2.1, .long r_2.2.2.2.2.2.1, .long r_2.2.2.2.2.2.2.1, .long r_2.2.2.2.2.2.2.2.1, .long r_2.2.2.2.2.2.2.2.2])), (gN, .inl (cO, 4, .inr (.inr (.inr (.inr F))))), (q0, .inl (cI, 256, .inl r_90)), (q1, .inl (cI, 256, .inl r_134)), (q2, .inl (cI, 256, .inl r_2.2.2.1)), (q3, .inl (cI, 256, .inl r_2.2.2.2.1)), (gS, .inl (cI, 4, .inl (upd (upd sg (0 : Int32).toNatClampNeg r_6) (1 : Int32).toNatClampNeg r_94)))] := hD
                refine W.widen (k := 0) (n := 0) (Nat.le_refl _) (Nat.le_refl _) ?_
                refine lv_iinc (v := 2) (lv' := [(1, .int 2), (0, .ref h0)]) hx hb dX1_finish_46 hl (k := 0) rfl (by decide) (by decide) rfl (fun ls hl => ?_)
                refine lv_goto (tgt := 6) hx hb dX1_finish_49 (by decide) ?_
                refine lv_iload_n hx hb dX1_finish_6 rfl (lv_at hl 0 rfl) ?_
                refine lv_iconst (v := 4) hx hb dX1_finish_7 (by decide) ?_
                refine lz_ige (tgt := 52) hx hb dX1_finish_8 (by decide) (fun c_136 => absurd c_136 (by decide)) (fun c_136 => ?_)
                refine lv_aload_n hx hb dX1_finish_11 rfl (lv_at hl 1 rfl) ?_
                refine va_get (D := (dC, dI)) (ci := 1) (v := .ref gS) (C := RX1) (T := TX1) (N := 7) hx hb hts in_X1_finish_X1 hown hK hP 0 rfl rfl 1 (by decide) (hts (.fieldLink RX1 16 "FormRing$Matrix" "signs" "[I") (by decide +kernel)) (fun _ h9 => h9) rfl dX1_finish_12 ?_
                refine lv_iload_n hx hb dX1_finish_15 rfl (lv_at hl 0 rfl) ?_
                refine lv_aload_n hx hb dX1_finish_16 rfl (lv_at hl 1 rfl) ?_
                refine lv_aload_n hx hb dX1_finish_17 rfl (lv_at hl 1 rfl) ?_
                refine va_get (D := (dC, dI)) (ci := 1) (v := .ref gN) (C := RX1) (T := TX1) (N := 7) hx hb hts in_X1_finish_X1 hown hK hP 0 rfl rfl 0 (by decide) (hts (.fieldLink RX1 13 "FormRing$Matrix" "numbers" "[[I") (by decide +kernel)) (fun _ h9 => h9) rfl dX1_finish_18 ?_
                refine lv_iload_n hx hb dX1_finish_21 rfl (lv_at hl 0 rfl) ?_
                refine zz_ald hx hb hK hP 1 1 rfl rfl (q := q2) hF.2.2.1 zz_in2 dX1_finish_22 ?_
                cases e_137 : f_X1_findSign n r_2.2.2.2.2.1 r_2.2.2.1 with
                | none => rw [e_137, Option.bind_none] at hr; cases hr
                | some r_138 =>
                  rw [e_137, Option.bind_some] at hr
                  have hPc := hP.sub (ws' := [(h0, .inr (1, [.ref gN, .ref gS, .int r_2.2.2.2.2.1, .long r_2.2.2.2.2.2.1, .long r_2.2.2.2.2.2.2.1, .long r_2.2.2.2.2.2.2.2.1, .long r_2.2.2.2.2.2.2.2.2])), (q2, .inl (cI, 256, .inl r_2.2.2.1))]) [0, 4] rfl
                  have hDc := hD.sub (ws' := [(h0, .inr (1, [.ref gN, .ref gS, .int r_2.2.2.2.2.1, .long r_2.2.2.2.2.2.1, .long r_2.2.2.2.2.2.2.1, .long r_2.2.2.2.2.2.2.2.1, .long r_2.2.2.2.2.2.2.2.2])), (q2, .inl (cI, 256, .inl r_2.2.2.1))]) [0, 4] (by decide) rfl
                  have hKc := hK.sub (tys' := [(cI, .int)]) [0] rfl
                  have hFc := va_free (wc := [(h0, .inr (1, [.ref gN, .ref gS, .int r_2.2.2.2.2.1, .long r_2.2.2.2.2.2.1, .long r_2.2.2.2.2.2.2.1, .long r_2.2.2.2.2.2.2.2.1, .long r_2.2.2.2.2.2.2.2.2])), (q2, .inl (cI, 256, .inl r_2.2.2.1))]) hD hS hA [0, 4] rfl
                  refine va_calli (va_runV (As := [.ref q2]) (rest := [.int 2, .ref gS]) ⟨hx, hb, hml, hown, hts⟩ (c_X1_findSign l dC dI H.size h0 gN gS r_2.2.2.2.2.1 r_2.2.2.2.2.2.1 r_2.2.2.2.2.2.2.1 r_2.2.2.2.2.2.2.2.1 r_2.2.2.2.2.2.2.2.2 cI q2 r_2.2.2.1  n _ e_137) (cwV 1 hts gX1_finish_X1_findSign rfl rfl rfl (by decide +kernel) ⟨Nat.le_of_ble_eq_true rfl, Nat.le_of_ble_eq_true rfl⟩) ⟨fun a U g mk q => by obtain ⟨q0, q1, qP, qK, qD⟩ := q; exact ⟨q0, q1, qP, va_K.moved (u := U) (U := U.calling g mk a) (Vm.Alike.refl U.vm) qK, qD⟩, va_recv hKc hPc (ci := 1) (q0 := 0) rfl rfl, fun U hU hW => ⟨rfl, by rw [hU], by rw [hU]; exact hPc, va_K.moved hW.alike hKc, hDc.weaken (fun _ _ _ _ => trivial)⟩⟩ rfl rfl hl.1 rfl (lv_room (Nat.le_of_ble_eq_true rfl)) dX1_finish_23 ⟨Nat.zero_le _, Nat.zero_le _⟩) hS (fun q _ h => hFc q h) hFc (fun x_139 _ t H1 locs ht hvm hw hB hz1 hk1 hS => ?_)
                  have hw := hw.symm
                  subst hw
                  obtain ⟨hP1, hK1, hD1⟩ := hB
                  rw [ht] at hP1
                  obtain ⟨hP, hD⟩ := va_join (wr := [(gN, .inl (cO, 4, .inr (.inr (.inr (.inr F))))), (q0, .inl (cI, 256, .inl r_90)), (q1, .inl (cI, 256, .inl r_134)), (q3, .inl (cI, 256, .inl r_2.2.2.2.1)), (gS, .inl (cI, 4, .inl (upd (upd sg (0 : Int32).toNatClampNeg r_6) (1 : Int32).toNatClampNeg r_94)))]) (w1 := [(h0, .inr (1, [.ref gN, .ref gS, .int r_2.2.2.2.2.1, .long r_2.2.2.2.2.2.1, .long r_2.2.2.2.2.2.2.1, .long r_2.2.2.2.2.2.2.2.1, .long r_2.2.2.2.2.2.2.2.2])), (q2, .inl (cI, 256, .inl r_2.2.2.1))]) hP hD [0, 4] [1, 2, 3, 5, 6] rfl rfl (by decide) (by decide) hk1 hFc hP1 hD1
                  generalize H1 = H at hP hS ⊢
                  have hP := hP.sub (ws' := [(h0, .inr (1, [.ref gN, .ref gS, .int r_2.2.2.2.2.1, .long r_2.2.2.2.2.2.1, .long r_2.2.2.2.2.2.2.1, .long r_2.2.2.2.2.2.2.2.1, .long r_2.2.2.2.2.2.2.2.2])), (gN, .inl (cO, 4, .inr (.inr (.inr (.inr F))))), (q0, .inl (cI, 256, .inl r_90)), (q1, .inl (cI, 256, .inl r_134)), (q2, .inl (cI, 256, .inl r_2.2.2.1)), (q3, .inl (cI, 256, .inl r_2.2.2.2.1)), (gS, .inl (cI, 4, .inl (upd (upd sg (0 : Int32).toNatClampNeg r_6) (1 : Int32).toNatClampNeg r_94)))]) [5, 0, 1, 2, 6, 3, 4] rfl
                  have hD := hD.sub (ws' := [(h0, .inr (1, [.ref gN, .ref gS, .int r_2.2.2.2.2.1, .long r_2.2.2.2.2.2.1, .long r_2.2.2.2.2.2.2.1, .long r_2.2.2.2.2.2.2.2.1, .long r_2.2.2.2.2.2.2.2.2])), (gN, .inl (cO, 4, .inr (.inr (.inr (.inr F))))), (q0, .inl (cI, 256, .inl r_90)), (q1, .inl (cI, 256, .inl r_134)), (q2, .inl (cI, 256, .inl r_2.2.2.1)), (q3, .inl (cI, 256, .inl r_2.2.2.2.1)), (gS, .inl (cI, 4, .inl (upd (upd sg (0 : Int32).toNatClampNeg r_6) (1 : Int32).toNatClampNeg r_94)))]) [5, 0, 1, 2, 6, 3, 4] (by decide) rfl
                  have hP : va_P (dC, dI) vwCl [(h0, .inr (1, [.ref gN, .ref gS, .int r_2.2.2.2.2.1, .long r_2.2.2.2.2.2.1, .long r_2.2.2.2.2.2.2.1, .long r_2.2.2.2.2.2.2.2.1, .long r_2.2.2.2.2.2.2.2.2])), (gN, .inl (cO, 4, .inr (.inr (.inr (.inr F))))), (q0, .inl (cI, 256, .inl r_90)), (q1, .inl (cI, 256, .inl r_134)), (q2, .inl (cI, 256, .inl r_2.2.2.1)), (q3, .inl (cI, 256, .inl r_2.2.2.2.1)), (gS, .inl (cI, 4, .inl (upd (upd sg (0 : Int32).toNatClampNeg r_6) (1 : Int32).toNatClampNeg r_94)))] H := hP
                  have hD : va_D A [(h0, .inr (1, [.ref gN, .ref gS, .int r_2.2.2.2.2.1, .long r_2.2.2.2.2.2.1, .long r_2.2.2.2.2.2.2.1, .long r_2.2.2.2.2.2.2.2.1, .long r_2.2.2.2.2.2.2.2.2])), (gN, .inl (cO, 4, .inr (.inr (.inr (.inr F))))), (q0, .inl (cI, 256, .inl r_90)), (q1, .inl (cI, 256, .inl r_134)), (q2, .inl (cI, 256, .inl r_2.2.2.1)), (q3, .inl (cI, 256, .inl r_2.2.2.2.1)), (gS, .inl (cI, 4, .inl (upd (upd sg (0 : Int32).toNatClampNeg r_6) (1 : Int32).toNatClampNeg r_94)))] := hD
                  refine W.widen (k := 0) (n := 0) (Nat.le_refl _) (Nat.le_refl _) ?_
                  by_cases g_140 : (2 : Int32) < 0 ∨ 4 ≤ (2 : Int32).toNatClampNeg
                  · have hr := (if_pos g_140).symm.trans hr
                    cases hr
                  have hr := (if_neg g_140).symm.trans hr
                  refine va_iast hx hb hK hP hD hS 6 0 rfl rfl g_140 dX1_finish_26 (fun H locs hP hD hS => ?_)
                  have hP : va_P (dC, dI) vwCl [(h0, .inr (1, [.ref gN, .ref gS, .int r_2.2.2.2.2.1, .long r_2.2.2.2.2.2.1, .long r_2.2.2.2.2.2.2.1, .long r_2.2.2.2.2.2.2.2.1, .long r_2.2.2.2.2.2.2.2.2])), (gN, .inl (cO, 4, .inr (.inr (.inr (.inr F))))), (q0, .inl (cI, 256, .inl r_90)), (q1, .inl (cI, 256, .inl r_134)), (q2, .inl (cI, 256, .inl r_2.2.2.1)), (q3, .inl (cI, 256, .inl r_2.2.2.2.1)), (gS, .inl (cI, 4, .inl (upd (upd (upd sg (0 : Int32).toNatClampNeg r_6) (1 : Int32).toNatClampNeg r_94) (2 : Int32).toNatClampNeg r_138)))] H := hP
                  have hD : va_D A [(h0, .inr (1, [.ref gN, .ref gS, .int r_2.2.2.2.2.1, .long r_2.2.2.2.2.2.1, .long r_2.2.2.2.2.2.2.1, .long r_2.2.2.2.2.2.2.2.1, .long r_2.2.2.2.2.2.2.2.2])), (gN, .inl (cO, 4, .inr (.inr (.inr (.inr F))))), (q0, .inl (cI, 256, .inl r_90)), (q1, .inl (cI, 256, .inl r_134)), (q2, .inl (cI, 256, .inl r_2.2.2.1)), (q3, .inl (cI, 256, .inl r_2.2.2.2.1)), (gS, .inl (cI, 4, .inl (upd (upd (upd sg (0 : Int32).toNatClampNeg r_6) (1 : Int32).toNatClampNeg r_94) (2 : Int32).toNatClampNeg r_138)))] := hD
                  refine lv_aload_n hx hb dX1_finish_27 rfl (lv_at hl 1 rfl) ?_
                  refine va_get (D := (dC, dI)) (ci := 1) (v := .ref gS) (C := RX1) (T := TX1) (N := 7) hx hb hts in_X1_finish_X1 hown hK hP 0 rfl rfl 1 (by decide) (hts (.fieldLink RX1 16 "FormRing$Matrix" "signs" "[I") (by decide +kernel)) (fun _ h9 => h9) rfl dX1_finish_28 ?_
                  refine lv_iload_n hx hb dX1_finish_31 rfl (lv_at hl 0 rfl) ?_
                  by_cases g_141 : (2 : Int32) < 0 ∨ 4 ≤ (2 : Int32).toNatClampNeg
                  · have hr := (if_pos g_141).symm.trans hr
                    cases hr
                  have hr := (if_neg g_141).symm.trans hr
                  refine va_iald hx hb hK hP 6 0 rfl rfl g_141 dX1_finish_32 ?_
                  refine lz_zge (tgt := 46) hx hb dX1_finish_33 (by decide) (fun c_142 => ?_) (fun c_142 => ?_)
                  · have hr := (if_neg c_142).symm.trans hr
                    refine lv_iinc (v := 3) (lv' := [(1, .int 3), (0, .ref h0)]) hx hb dX1_finish_46 hl (k := 0) rfl (by decide) (by decide) rfl (fun ls hl => ?_)
                    refine lv_goto (tgt := 6) hx hb dX1_finish_49 (by decide) ?_
                    refine lv_iload_n hx hb dX1_finish_6 rfl (lv_at hl 0 rfl) ?_
                    refine lv_iconst (v := 4) hx hb dX1_finish_7 (by decide) ?_
                    refine lz_ige (tgt := 52) hx hb dX1_finish_8 (by decide) (fun c_143 => absurd c_143 (by decide)) (fun c_143 => ?_)
                    refine lv_aload_n hx hb dX1_finish_11 rfl (lv_at hl 1 rfl) ?_
                    refine va_get (D := (dC, dI)) (ci := 1) (v := .ref gS) (C := RX1) (T := TX1) (N := 7) hx hb hts in_X1_finish_X1 hown hK hP 0 rfl rfl 1 (by decide) (hts (.fieldLink RX1 16 "FormRing$Matrix" "signs" "[I") (by decide +kernel)) (fun _ h9 => h9) rfl dX1_finish_12 ?_
                    refine lv_iload_n hx hb dX1_finish_15 rfl (lv_at hl 0 rfl) ?_
                    refine lv_aload_n hx hb dX1_finish_16 rfl (lv_at hl 1 rfl) ?_
                    refine lv_aload_n hx hb dX1_finish_17 rfl (lv_at hl 1 rfl) ?_
                    refine va_get (D := (dC, dI)) (ci := 1) (v := .ref gN) (C := RX1) (T := TX1) (N := 7) hx hb hts in_X1_finish_X1 hown hK hP 0 rfl rfl 0 (by decide) (hts (.fieldLink RX1 13 "FormRing$Matrix" "numbers" "[[I") (by decide +kernel)) (fun _ h9 => h9) rfl dX1_finish_18 ?_
                    refine lv_iload_n hx hb dX1_finish_21 rfl (lv_at hl 0 rfl) ?_
                    refine zz_ald hx hb hK hP 1 1 rfl rfl (q := q3) hF.2.2.2 zz_in3 dX1_finish_22 ?_
                    cases e_144 : f_X1_findSign n r_2.2.2.2.2.1 r_2.2.2.2.1 with
                    | none => rw [e_144, Option.bind_none] at hr; cases hr
                    | some r_145 =>
                      rw [e_144, Option.bind_some] at hr
                      have hPc := hP.sub (ws' := [(h0, .inr (1, [.ref gN, .ref gS, .int r_2.2.2.2.2.1, .long r_2.2.2.2.2.2.1, .long r_2.2.2.2.2.2.2.1, .long r_2.2.2.2.2.2.2.2.1, .long r_2.2.2.2.2.2.2.2.2])), (q3, .inl (cI, 256, .inl r_2.2.2.2.1))]) [0, 5] rfl
                      have hDc := hD.sub (ws' := [(h0, .inr (1, [.ref gN, .ref gS, .int r_2.2.2.2.2.1, .long r_2.2.2.2.2.2.1, .long r_2.2.2.2.2.2.2.1, .long r_2.2.2.2.2.2.2.2.1, .long r_2.2.2.2.2.2.2.2.2])), (q3, .inl (cI, 256, .inl r_2.2.2.2.1))]) [0, 5] (by decide) rfl
                      have hKc := hK.sub (tys' := [(cI, .int)]) [0] rfl
                      have hFc := va_free (wc := [(h0, .inr (1, [.ref gN, .ref gS, .int r_2.2.2.2.2.1, .long r_2.2.2.2.2.2.1, .long r_2.2.2.2.2.2.2.1, .long r_2.2.2.2.2.2.2.2.1, .long r_2.2.2.2.2.2.2.2.2])), (q3, .inl (cI, 256, .inl r_2.2.2.2.1))]) hD hS hA [0, 5] rfl
                      refine va_calli (va_runV (As := [.ref q3]) (rest := [.int 3, .ref gS]) ⟨hx, hb, hml, hown, hts⟩ (c_X1_findSign l dC dI H.size h0 gN gS r_2.2.2.2.2.1 r_2.2.2.2.2.2.1 r_2.2.2.2.2.2.2.1 r_2.2.2.2.2.2.2.2.1 r_2.2.2.2.2.2.2.2.2 cI q3 r_2.2.2.2.1  n _ e_144) (cwV 1 hts gX1_finish_X1_findSign rfl rfl rfl (by decide +kernel) ⟨Nat.le_of_ble_eq_true rfl, Nat.le_of_ble_eq_true rfl⟩) ⟨fun a U g mk q => by obtain ⟨q0, q1, qP, qK, qD⟩ := q; exact ⟨q0, q1, qP, va_K.moved (u := U) (U := U.calling g mk a) (Vm.Alike.refl U.vm) qK, qD⟩, va_recv hKc hPc (ci := 1) (q0 := 0) rfl rfl, fun U hU hW => ⟨rfl, by rw [hU], by rw [hU]; exact hPc, va_K.moved hW.alike hKc, hDc.weaken (fun _ _ _ _ => trivial)⟩⟩ rfl rfl hl.1 rfl (lv_room (Nat.le_of_ble_eq_true rfl)) dX1_finish_23 ⟨Nat.zero_le _, Nat.zero_le _⟩) hS (fun q _ h => hFc q h) hFc (fun x_146 _ t H1 locs ht hvm hw hB hz1 hk1 hS => ?_)
                      have hw := hw.symm
                      subst hw
                      obtain ⟨hP1, hK1, hD1⟩ := hB
                      rw [ht] at hP1
                      obtain ⟨hP, hD⟩ := va_join (wr := [(gN, .inl (cO, 4, .inr (.inr (.inr (.inr F))))), (q0, .inl (cI, 256, .inl r_90)), (q1, .inl (cI, 256, .inl r_134)), (q2, .inl (cI, 256, .inl r_2.2.2.1)), (gS, .inl (cI, 4, .inl (upd (upd (upd sg (0 : Int32).toNatClampNeg r_6) (1 : Int32).toNatClampNeg r_94) (2 : Int32).toNatClampNeg r_138)))]) (w1 := [(h0, .inr (1, [.ref gN, .ref gS, .int r_2.2.2.2.2.1, .long r_2.2.2.2.2.2.1, .long r_2.2.2.2.2.2.2.1, .long r_2.2.2.2.2.2.2.2.1, .long r_2.2.2.2.2.2.2.2.2])), (q3, .inl (cI, 256, .inl r_2.2.2.2.1))]) hP hD [0, 5] [1, 2, 3, 4, 6] rfl rfl (by decide) (by decide) hk1 hFc hP1 hD1
                      generalize H1 = H at hP hS ⊢
                      have hP := hP.sub (ws' := [(h0, .inr (1, [.ref gN, .ref gS, .int r_2.2.2.2.2.1, .long r_2.2.2.2.2.2.1, .long r_2.2.2.2.2.2.2.1, .long r_2.2.2.2.2.2.2.2.1, .long r_2.2.2.2.2.2.2.2.2])), (gN, .inl (cO, 4, .inr (.inr (.inr (.inr F))))), (q0, .inl (cI, 256, .inl r_90)), (q1, .inl (cI, 256, .inl r_134)), (q2, .inl (cI, 256, .inl r_2.2.2.1)), (q3, .inl (cI, 256, .inl r_2.2.2.2.1)), (gS, .inl (cI, 4, .inl (upd (upd (upd sg (0 : Int32).toNatClampNeg r_6) (1 : Int32).toNatClampNeg r_94) (2 : Int32).toNatClampNeg r_138)))]) [5, 0, 1, 2, 3, 6, 4] rfl
                      have hD := hD.sub (ws' := [(h0, .inr (1, [.ref gN, .ref gS, .int r_2.2.2.2.2.1, .long r_2.2.2.2.2.2.1, .long r_2.2.2.2.2.2.2.1, .long r_2.2.2.2.2.2.2.2.1, .long r_2.2.2.2.2.2.2.2.2])), (gN, .inl (cO, 4, .inr (.inr (.inr (.inr F))))), (q0, .inl (cI, 256, .inl r_90)), (q1, .inl (cI, 256, .inl r_134)), (q2, .inl (cI, 256, .inl r_2.2.2.1)), (q3, .inl (cI, 256, .inl r_2.2.2.2.1)), (gS, .inl (cI, 4, .inl (upd (upd (upd sg (0 : Int32).toNatClampNeg r_6) (1 : Int32).toNatClampNeg r_94) (2 : Int32).toNatClampNeg r_138)))]) [5, 0, 1, 2, 3, 6, 4] (by decide) rfl
                      have hP : va_P (dC, dI) vwCl [(h0, .inr (1, [.ref gN, .ref gS, .int r_2.2.2.2.2.1, .long r_2.2.2.2.2.2.1, .long r_2.2.2.2.2.2.2.1, .long r_2.2.2.2.2.2.2.2.1, .long r_2.2.2.2.2.2.2.2.2])), (gN, .inl (cO, 4, .inr (.inr (.inr (.inr F))))), (q0, .inl (cI, 256, .inl r_90)), (q1, .inl (cI, 256, .inl r_134)), (q2, .inl (cI, 256, .inl r_2.2.2.1)), (q3, .inl (cI, 256, .inl r_2.2.2.2.1)), (gS, .inl (cI, 4, .inl (upd (upd (upd sg (0 : Int32).toNatClampNeg r_6) (1 : Int32).toNatClampNeg r_94) (2 : Int32).toNatClampNeg r_138)))] H := hP
                      have hD : va_D A [(h0, .inr (1, [.ref gN, .ref gS, .int r_2.2.2.2.2.1, .long r_2.2.2.2.2.2.1, .long r_2.2.2.2.2.2.2.1, .long r_2.2.2.2.2.2.2.2.1, .long r_2.2.2.2.2.2.2.2.2])), (gN, .inl (cO, 4, .inr (.inr (.inr (.inr F))))), (q0, .inl (cI, 256, .inl r_90)), (q1, .inl (cI, 256, .inl r_134)), (q2, .inl (cI, 256, .inl r_2.2.2.1)), (q3, .inl (cI, 256, .inl r_2.2.2.2.1)), (gS, .inl (cI, 4, .inl (upd (upd (upd sg (0 : Int32).toNatClampNeg r_6) (1 : Int32).toNatClampNeg r_94) (2 : Int32).toNatClampNeg r_138)))] := hD
                      refine W.widen (k := 0) (n := 0) (Nat.le_refl _) (Nat.le_refl _) ?_
                      by_cases g_147 : (3 : Int32) < 0 ∨ 4 ≤ (3 : Int32).toNatClampNeg
                      · have hr := (if_pos g_147).symm.trans hr
                        cases hr
                      have hr := (if_neg g_147).symm.trans hr
                      refine va_iast hx hb hK hP hD hS 6 0 rfl rfl g_147 dX1_finish_26 (fun H locs hP hD hS => ?_)
                      have hP : va_P (dC, dI) vwCl [(h0, .inr (1, [.ref gN, .ref gS, .int r_2.2.2.2.2.1, .long r_2.2.2.2.2.2.1, .long r_2.2.2.2.2.2.2.1, .long r_2.2.2.2.2.2.2.2.1, .long r_2.2.2.2.2.2.2.2.2])), (gN, .inl (cO, 4, .inr (.inr (.inr (.inr F))))), (q0, .inl (cI, 256, .inl r_90)), (q1, .inl (cI, 256, .inl r_134)), (q2, .inl (cI, 256, .inl r_2.2.2.1)), (q3, .inl (cI, 256, .inl r_2.2.2.2.1)), (gS, .inl (cI, 4, .inl (upd (upd (upd (upd sg (0 : Int32).toNatClampNeg r_6) (1 : Int32).toNatClampNeg r_94) (2 : Int32).toNatClampNeg r_138) (3 : Int32).toNatClampNeg r_145)))] H := hP
                      have hD : va_D A [(h0, .inr (1, [.ref gN, .ref gS, .int r_2.2.2.2.2.1, .long r_2.2.2.2.2.2.1, .long r_2.2.2.2.2.2.2.1, .long r_2.2.2.2.2.2.2.2.1, .long r_2.2.2.2.2.2.2.2.2])), (gN, .inl (cO, 4, .inr (.inr (.inr (.inr F))))), (q0, .inl (cI, 256, .inl r_90)), (q1, .inl (cI, 256, .inl r_134)), (q2, .inl (cI, 256, .inl r_2.2.2.1)), (q3, .inl (cI, 256, .inl r_2.2.2.2.1)), (gS, .inl (cI, 4, .inl (upd (upd (upd (upd sg (0 : Int32).toNatClampNeg r_6) (1 : Int32).toNatClampNeg r_94) (2 : Int32).toNatClampNeg r_138) (3 : Int32).toNatClampNeg r_145)))] := hD
                      refine lv_aload_n hx hb dX1_finish_27 rfl (lv_at hl 1 rfl) ?_
                      refine va_get (D := (dC, dI)) (ci := 1) (v := .ref gS) (C := RX1) (T := TX1) (N := 7) hx hb hts in_X1_finish_X1 hown hK hP 0 rfl rfl 1 (by decide) (hts (.fieldLink RX1 16 "FormRing$Matrix" "signs" "[I") (by decide +kernel)) (fun _ h9 => h9) rfl dX1_finish_28 ?_
                      refine lv_iload_n hx hb dX1_finish_31 rfl (lv_at hl 0 rfl) ?_
                      by_cases g_148 : (3 : Int32) < 0 ∨ 4 ≤ (3 : Int32).toNatClampNeg
                      · have hr := (if_pos g_148).symm.trans hr
                        cases hr
                      have hr := (if_neg g_148).symm.trans hr
                      refine va_iald hx hb hK hP 6 0 rfl rfl g_148 dX1_finish_32 ?_
                      refine lz_zge (tgt := 46) hx hb dX1_finish_33 (by decide) (fun c_149 => ?_) (fun c_149 => ?_)
                      · have hr := (if_neg c_149).symm.trans hr
                        refine lv_iinc (v := 4) (lv' := [(1, .int 4), (0, .ref h0)]) hx hb dX1_finish_46 hl (k := 0) rfl (by decide) (by decide) rfl (fun ls hl => ?_)
                        refine lv_goto (tgt := 6) hx hb dX1_finish_49 (by decide) ?_
                        refine lv_iload_n hx hb dX1_finish_6 rfl (lv_at hl 0 rfl) ?_
                        refine lv_iconst (v := 4) hx hb dX1_finish_7 (by decide) ?_
                        refine lz_ige (tgt := 52) hx hb dX1_finish_8 (by decide) (fun c_150 => ?_) (fun c_150 => absurd c_150 (by decide))
                        have ho := Option.some.inj hr
                        subst ho
                        exact W.vret hx hb hrt (fun t ht hW => ⟨⟨(), rfl, trivial, by rw [ht]; exact hP, va_K.moved hW.alike hK, hD⟩, hS.F ht⟩) hS.2.2 dX1_finish_52
                      · have hr := (if_pos c_149).symm.trans hr
                        refine lv_aload_n hx hb dX1_finish_36 rfl (lv_at hl 1 rfl) ?_
                        refine lv_aload_n hx hb dX1_finish_37 rfl (lv_at hl 1 rfl) ?_
                        refine va_get (D := (dC, dI)) (ci := 1) (v := .ref gN) (C := RX1) (T := TX1) (N := 7) hx hb hts in_X1_finish_X1 hown hK hP 0 rfl rfl 0 (by decide) (hts (.fieldLink RX1 13 "FormRing$Matrix" "numbers" "[[I") (by decide +kernel)) (fun _ h9 => h9) rfl dX1_finish_38 ?_
                        refine lv_iload_n hx hb dX1_finish_41 rfl (lv_at hl 0 rfl) ?_
                        refine zz_ald hx hb hK hP 1 1 rfl rfl (q := q3) hF.2.2.2 zz_in3 dX1_finish_42 ?_
                        cases e_151 : f_X1_negate n r_2.2.2.2.2.1 r_2.2.2.2.1 with
                        | none => rw [e_151, Option.bind_none] at hr; cases hr
                        | some r_152 =>
                          rw [e_151, Option.bind_some] at hr
                          have hPc := hP.sub (ws' := [(h0, .inr (1, [.ref gN, .ref gS, .int r_2.2.2.2.2.1, .long r_2.2.2.2.2.2.1, .long r_2.2.2.2.2.2.2.1, .long r_2.2.2.2.2.2.2.2.1, .long r_2.2.2.2.2.2.2.2.2])), (q3, .inl (cI, 256, .inl r_2.2.2.2.1))]) [0, 5] rfl
                          have hDc := hD.sub (ws' := [(h0, .inr (1, [.ref gN, .ref gS, .int r_2.2.2.2.2.1, .long r_2.2.2.2.2.2.1, .long r_2.2.2.2.2.2.2.1, .long r_2.2.2.2.2.2.2.2.1, .long r_2.2.2.2.2.2.2.2.2])), (q3, .inl (cI, 256, .inl r_2.2.2.2.1))]) [0, 5] (by decide) rfl
                          have hKc := hK.sub (tys' := [(cI, .int)]) [0] rfl
                          have hFc := va_free (wc := [(h0, .inr (1, [.ref gN, .ref gS, .int r_2.2.2.2.2.1, .long r_2.2.2.2.2.2.1, .long r_2.2.2.2.2.2.2.1, .long r_2.2.2.2.2.2.2.2.1, .long r_2.2.2.2.2.2.2.2.2])), (q3, .inl (cI, 256, .inl r_2.2.2.2.1))]) hD hS hA [0, 5] rfl
                          refine va_callv (va_runV (As := [.ref q3]) (rest := []) ⟨hx, hb, hml, hown, hts⟩ (c_X1_negate l dC dI H.size h0 gN gS r_2.2.2.2.2.1 r_2.2.2.2.2.2.1 r_2.2.2.2.2.2.2.1 r_2.2.2.2.2.2.2.2.1 r_2.2.2.2.2.2.2.2.2 cI q3 r_2.2.2.2.1  n _ e_151) (cwV 1 hts gX1_finish_X1_negate rfl rfl rfl (by decide +kernel) ⟨Nat.le_of_ble_eq_true rfl, Nat.le_of_ble_eq_true rfl⟩) ⟨fun a U g mk q => by obtain ⟨q0, q1, qP, qK, qD⟩ := q; exact ⟨q0, q1, qP, va_K.moved (u := U) (U := U.calling g mk a) (Vm.Alike.refl U.vm) qK, qD⟩, va_recv hKc hPc (ci := 1) (q0 := 0) rfl rfl, fun U hU hW => ⟨rfl, by rw [hU], by rw [hU]; exact hPc, va_K.moved hW.alike hKc, hDc.weaken (fun _ _ _ _ => trivial)⟩⟩ rfl rfl hl.1 rfl (lv_room (Nat.le_of_ble_eq_true rfl)) dX1_finish_43 ⟨Nat.zero_le _, Nat.zero_le _⟩) hS (fun q _ h => hFc q h) hFc (fun _ t H1 locs ht hvm hw hB hz1 hk1 hS => ?_)
                          obtain ⟨hP1, hK1, hD1⟩ := hB
                          rw [ht] at hP1
                          obtain ⟨hP, hD⟩ := va_join (wr := [(gN, .inl (cO, 4, .inr (.inr (.inr (.inr F))))), (q0, .inl (cI, 256, .inl r_90)), (q1, .inl (cI, 256, .inl r_134)), (q2, .inl (cI, 256, .inl r_2.2.2.1)), (gS, .inl (cI, 4, .inl (upd (upd (upd (upd sg (0 : Int32).toNatClampNeg r_6) (1 : Int32).toNatClampNeg r_94) (2 : Int32).toNatClampNeg r_138) (3 : Int32).toNatClampNeg r_145)))]) (w1 := [(h0, .inr (1, [.ref gN, .ref gS, .int r_2.2.2.2.2.1, .long r_2.2.2.2.2.2.1, .long r_2.2.2.2.2.2.2.1, .long r_2.2.2.2.2.2.2.2.1, .long r_2.2.2.2.2.2.2.2.2])), (q3, .inl (cI, 256, .inl r_152))]) hP hD [0, 5] [1, 2, 3, 4, 6] rfl rfl (by decide) (by decide) hk1 hFc hP1 hD1
                          generalize H1 = H at hP hS ⊢
                          have hP := hP.sub (ws' := [(h0, .inr (1, [.ref gN, .ref gS, .int r_2.2.2.2.2.1, .long r_2.2.2.2.2.2.1, .long r_2.2.2.2.2.2.2.1, .long r_2.2.2.2.2.2.2.2.1, .long r_2.2.2.2.2.2.2.2.2])), (gN, .inl (cO, 4, .inr (.inr (.inr (.inr F))))), (q0, .inl (cI, 256, .inl r_90)), (q1, .inl (cI, 256, .inl r_134)), (q2, .inl (cI, 256, .inl r_2.2.2.1)), (q3, .inl (cI, 256, .inl r_152)), (gS, .inl (cI, 4, .inl (upd (upd (upd (upd sg (0 : Int32).toNatClampNeg r_6) (1 : Int32).toNatClampNeg r_94) (2 : Int32).toNatClampNeg r_138) (3 : Int32).toNatClampNeg r_145)))]) [5, 0, 1, 2, 3, 6, 4] rfl
                          have hD := hD.sub (ws' := [(h0, .inr (1, [.ref gN, .ref gS, .int r_2.2.2.2.2.1, .long r_2.2.2.2.2.2.1, .long r_2.2.2.2.2.2.2.1, .long r_2.2.2.2.2.2.2.2.1, .long r_2.2.2.2.2.2.2.2.2])), (gN, .inl (cO, 4, .inr (.inr (.inr (.inr F))))), (q0, .inl (cI, 256, .inl r_90)), (q1, .inl (cI, 256, .inl r_134)), (q2, .inl (cI, 256, .inl r_2.2.2.1)), (q3, .inl (cI, 256, .inl r_152)), (gS, .inl (cI, 4, .inl (upd (upd (upd (upd sg (0 : Int32).toNatClampNeg r_6) (1 : Int32).toNatClampNeg r_94) (2 : Int32).toNatClampNeg r_138) (3 : Int32).toNatClampNeg r_145)))]) [5, 0, 1, 2, 3, 6, 4] (by decide) rfl
                          have hP : va_P (dC, dI) vwCl [(h0, .inr (1, [.ref gN, .ref gS, .int r_2.2.2.2.2.1, .long r_2.2.2.2.2.2.1, .long r_2.2.2.2.2.2.2.1, .long r_2.2.2.2.2.2.2.2.1, .long r_2.2.2.2.2.2.2.2.2])), (gN, .inl (cO, 4, .inr (.inr (.inr (.inr F))))), (q0, .inl (cI, 256, .inl r_90)), (q1, .inl (cI, 256, .inl r_134)), (q2, .inl (cI, 256, .inl r_2.2.2.1)), (q3, .inl (cI, 256, .inl r_152)), (gS, .inl (cI, 4, .inl (upd (upd (upd (upd sg (0 : Int32).toNatClampNeg r_6) (1 : Int32).toNatClampNeg r_94) (2 : Int32).toNatClampNeg r_138) (3 : Int32).toNatClampNeg r_145)))] H := hP
                          have hD : va_D A [(h0, .inr (1, [.ref gN, .ref gS, .int r_2.2.2.2.2.1, .long r_2.2.2.2.2.2.1, .long r_2.2.2.2.2.2.2.1, .long r_2.2.2.2.2.2.2.2.1, .long r_2.2.2.2.2.2.2.2.2])), (gN, .inl (cO, 4, .inr (.inr (.inr (.inr F))))), (q0, .inl (cI, 256, .inl r_90)), (q1, .inl (cI, 256, .inl r_134)), (q2, .inl (cI, 256, .inl r_2.2.2.1)), (q3, .inl (cI, 256, .inl r_152)), (gS, .inl (cI, 4, .inl (upd (upd (upd (upd sg (0 : Int32).toNatClampNeg r_6) (1 : Int32).toNatClampNeg r_94) (2 : Int32).toNatClampNeg r_138) (3 : Int32).toNatClampNeg r_145)))] := hD
                          refine W.widen (k := 0) (n := 0) (Nat.le_refl _) (Nat.le_refl _) ?_
                          refine lv_iinc (v := 4) (lv' := [(1, .int 4), (0, .ref h0)]) hx hb dX1_finish_46 hl (k := 0) rfl (by decide) (by decide) rfl (fun ls hl => ?_)
                          refine lv_goto (tgt := 6) hx hb dX1_finish_49 (by decide) ?_
                          refine lv_iload_n hx hb dX1_finish_6 rfl (lv_at hl 0 rfl) ?_
                          refine lv_iconst (v := 4) hx hb dX1_finish_7 (by decide) ?_
                          refine lz_ige (tgt := 52) hx hb dX1_finish_8 (by decide) (fun c_154 => ?_) (fun c_154 => absurd c_154 (by decide))
                          have ho := Option.some.inj hr
                          subst ho
                          exact W.vret hx hb hrt (fun t ht hW => ⟨⟨(), rfl, trivial, by rw [ht]; exact hP, va_K.moved hW.alike hK, hD⟩, hS.F ht⟩) hS.2.2 dX1_finish_52
                  · have hr := (if_pos c_142).symm.trans hr
                    refine lv_aload_n hx hb dX1_finish_36 rfl (lv_at hl 1 rfl) ?_
                    refine lv_aload_n hx hb dX1_finish_37 rfl (lv_at hl 1 rfl) ?_
                    refine va_get (D := (dC, dI)) (ci := 1) (v := .ref gN) (C := RX1) (T := TX1) (N := 7) hx hb hts in_X1_finish_X1 hown hK hP 0 rfl rfl 0 (by decide) (hts (.fieldLink RX1 13 "FormRing$Matrix" "numbers" "[[I") (by decide +kernel)) (fun _ h9 => h9) rfl dX1_finish_38 ?_
                    refine lv_iload_n hx hb dX1_finish_41 rfl (lv_at hl 0 rfl) ?_
                    refine zz_ald hx hb hK hP 1 1 rfl rfl (q := q2) hF.2.2.1 zz_in2 dX1_finish_42 ?_
                    cases e_155 : f_X1_negate n r_2.2.2.2.2.1 r_2.2.2.1 with
                    | none => rw [e_155, Option.bind_none] at hr; cases hr
                    | some r_156 =>
                      rw [e_155, Option.bind_some] at hr
                      have hPc := hP.sub (ws' := [(h0, .inr (1, [.ref gN, .ref gS, .int r_2.2.2.2.2.1, .long r_2.2.2.2.2.2.1, .long r_2.2.2.2.2.2.2.1, .long r_2.2.2.2.2.2.2.2.1, .long r_2.2.2.2.2.2.2.2.2])), (q2, .inl (cI, 256, .inl r_2.2.2.1))]) [0, 4] rfl
                      have hDc := hD.sub (ws' := [(h0, .inr (1, [.ref gN, .ref gS, .int r_2.2.2.2.2.1, .long r_2.2.2.2.2.2.1, .long r_2.2.2.2.2.2.2.1, .long r_2.2.2.2.2.2.2.2.1, .long r_2.2.2.2.2.2.2.2.2])), (q2, .inl (cI, 256, .inl r_2.2.2.1))]) [0, 4] (by decide) rfl
                      have hKc := hK.sub (tys' := [(cI, .int)]) [0] rfl
                      have hFc := va_free (wc := [(h0, .inr (1, [.ref gN, .ref gS, .int r_2.2.2.2.2.1, .long r_2.2.2.2.2.2.1, .long r_2.2.2.2.2.2.2.1, .long r_2.2.2.2.2.2.2.2.1, .long r_2.2.2.2.2.2.2.2.2])), (q2, .inl (cI, 256, .inl r_2.2.2.1))]) hD hS hA [0, 4] rfl
                      refine va_callv (va_runV (As := [.ref q2]) (rest := []) ⟨hx, hb, hml, hown, hts⟩ (c_X1_negate l dC dI H.size h0 gN gS r_2.2.2.2.2.1 r_2.2.2.2.2.2.1 r_2.2.2.2.2.2.2.1 r_2.2.2.2.2.2.2.2.1 r_2.2.2.2.2.2.2.2.2 cI q2 r_2.2.2.1  n _ e_155) (cwV 1 hts gX1_finish_X1_negate rfl rfl rfl (by decide +kernel) ⟨Nat.le_of_ble_eq_true rfl, Nat.le_of_ble_eq_true rfl⟩) ⟨fun a U g mk q => by obtain ⟨q0, q1, qP, qK, qD⟩ := q; exact ⟨q0, q1, qP, va_K.moved (u := U) (U := U.calling g mk a) (Vm.Alike.refl U.vm) qK, qD⟩, va_recv hKc hPc (ci := 1) (q0 := 0) rfl rfl, fun U hU hW => ⟨rfl, by rw [hU], by rw [hU]; exact hPc, va_K.moved hW.alike hKc, hDc.weaken (fun _ _ _ _ => trivial)⟩⟩ rfl rfl hl.1 rfl (lv_room (Nat.le_of_ble_eq_true rfl)) dX1_finish_43 ⟨Nat.zero_le _, Nat.zero_le _⟩) hS (fun q _ h => hFc q h) hFc (fun _ t H1 locs ht hvm hw hB hz1 hk1 hS => ?_)
                      obtain ⟨hP1, hK1, hD1⟩ := hB
                      rw [ht] at hP1
                      obtain ⟨hP, hD⟩ := va_join (wr := [(gN, .inl (cO, 4, .inr (.inr (.inr (.inr F))))), (q0, .inl (cI, 256, .inl r_90)), (q1, .inl (cI, 256, .inl r_134)), (q3, .inl (cI, 256, .inl r_2.2.2.2.1)), (gS, .inl (cI, 4, .inl (upd (upd (upd sg (0 : Int32).toNatClampNeg r_6) (1 : Int32).toNatClampNeg r_94) (2 : Int32).toNatClampNeg r_138)))]) (w1 := [(h0, .inr (1, [.ref gN, .ref gS, .int r_2.2.2.2.2.1, .long r_2.2.2.2.2.2.1, .long r_2.2.2.2.2.2.2.1, .long r_2.2.2.2.2.2.2.2.1, .long r_2.2.2.2.2.2.2.2.2])), (q2, .inl (cI, 256, .inl r_156))]) hP hD [0, 4] [1, 2, 3, 5, 6] rfl rfl (by decide) (by decide) hk1 hFc hP1 hD1
                      generalize H1 = H at hP hS ⊢
                      have hP := hP.sub (ws' := [(h0, .inr (1, [.ref gN, .ref gS, .int r_2.2.2.2.2.1, .long r_2.2.2.2.2.2.1, .long r_2.2.2.2.2.2.2.1, .long r_2.2.2.2.2.2.2.2.1, .long r_2.2.2.2.2.2.2.2.2])), (gN, .inl (cO, 4, .inr (.inr (.inr (.inr F))))), (q0, .inl (cI, 256, .inl r_90)), (q1, .inl (cI, 256, .inl r_134)), (q2, .inl (cI, 256, .inl r_156)), (q3, .inl (cI, 256, .inl r_2.2.2.2.1)), (gS, .inl (cI, 4, .inl (upd (upd (upd sg (0 : Int32).toNatClampNeg r_6) (1 : Int32).toNatClampNeg r_94) (2 : Int32).toNatClampNeg r_138)))]) [5, 0, 1, 2, 6, 3, 4] rfl
                      have hD := hD.sub (ws' := [(h0, .inr (1, [.ref gN, .ref gS, .int r_2.2.2.2.2.1, .long r_2.2.2.2.2.2.1, .long r_2.2.2.2.2.2.2.1, .long r_2.2.2.2.2.2.2.2.1, .long r_2.2.2.2.2.2.2.2.2])), (gN, .inl (cO, 4, .inr (.inr (.inr (.inr F))))), (q0, .inl (cI, 256, .inl r_90)), (q1, .inl (cI, 256, .inl r_134)), (q2, .inl (cI, 256, .inl r_156)), (q3, .inl (cI, 256, .inl r_2.2.2.2.1)), (gS, .inl (cI, 4, .inl (upd (upd (upd sg (0 : Int32).toNatClampNeg r_6) (1 : Int32).toNatClampNeg r_94) (2 : Int32).toNatClampNeg r_138)))]) [5, 0, 1, 2, 6, 3, 4] (by decide) rfl
                      have hP : va_P (dC, dI) vwCl [(h0, .inr (1, [.ref gN, .ref gS, .int r_2.2.2.2.2.1, .long r_2.2.2.2.2.2.1, .long r_2.2.2.2.2.2.2.1, .long r_2.2.2.2.2.2.2.2.1, .long r_2.2.2.2.2.2.2.2.2])), (gN, .inl (cO, 4, .inr (.inr (.inr (.inr F))))), (q0, .inl (cI, 256, .inl r_90)), (q1, .inl (cI, 256, .inl r_134)), (q2, .inl (cI, 256, .inl r_156)), (q3, .inl (cI, 256, .inl r_2.2.2.2.1)), (gS, .inl (cI, 4, .inl (upd (upd (upd sg (0 : Int32).toNatClampNeg r_6) (1 : Int32).toNatClampNeg r_94) (2 : Int32).toNatClampNeg r_138)))] H := hP
                      have hD : va_D A [(h0, .inr (1, [.ref gN, .ref gS, .int r_2.2.2.2.2.1, .long r_2.2.2.2.2.2.1, .long r_2.2.2.2.2.2.2.1, .long r_2.2.2.2.2.2.2.2.1, .long r_2.2.2.2.2.2.2.2.2])), (gN, .inl (cO, 4, .inr (.inr (.inr (.inr F))))), (q0, .inl (cI, 256, .inl r_90)), (q1, .inl (cI, 256, .inl r_134)), (q2, .inl (cI, 256, .inl r_156)), (q3, .inl (cI, 256, .inl r_2.2.2.2.1)), (gS, .inl (cI, 4, .inl (upd (upd (upd sg (0 : Int32).toNatClampNeg r_6) (1 : Int32).toNatClampNeg r_94) (2 : Int32).toNatClampNeg r_138)))] := hD
                      refine W.widen (k := 0) (n := 0) (Nat.le_refl _) (Nat.le_refl _) ?_
                      refine lv_iinc (v := 3) (lv' := [(1, .int 3), (0, .ref h0)]) hx hb dX1_finish_46 hl (k := 0) rfl (by decide) (by decide) rfl (fun ls hl => ?_)
                      refine lv_goto (tgt := 6) hx hb dX1_finish_49 (by decide) ?_
                      refine lv_iload_n hx hb dX1_finish_6 rfl (lv_at hl 0 rfl) ?_
                      refine lv_iconst (v := 4) hx hb dX1_finish_7 (by decide) ?_
                      refine lz_ige (tgt := 52) hx hb dX1_finish_8 (by decide) (fun c_158 => absurd c_158 (by decide)) (fun c_158 => ?_)
                      refine lv_aload_n hx hb dX1_finish_11 rfl (lv_at hl 1 rfl) ?_
                      refine va_get (D := (dC, dI)) (ci := 1) (v := .ref gS) (C := RX1) (T := TX1) (N := 7) hx hb hts in_X1_finish_X1 hown hK hP 0 rfl rfl 1 (by decide) (hts (.fieldLink RX1 16 "FormRing$Matrix" "signs" "[I") (by decide +kernel)) (fun _ h9 => h9) rfl dX1_finish_12 ?_
                      refine lv_iload_n hx hb dX1_finish_15 rfl (lv_at hl 0 rfl) ?_
                      refine lv_aload_n hx hb dX1_finish_16 rfl (lv_at hl 1 rfl) ?_
                      refine lv_aload_n hx hb dX1_finish_17 rfl (lv_at hl 1 rfl) ?_
                      refine va_get (D := (dC, dI)) (ci := 1) (v := .ref gN) (C := RX1) (T := TX1) (N := 7) hx hb hts in_X1_finish_X1 hown hK hP 0 rfl rfl 0 (by decide) (hts (.fieldLink RX1 13 "FormRing$Matrix" "numbers" "[[I") (by decide +kernel)) (fun _ h9 => h9) rfl dX1_finish_18 ?_
                      refine lv_iload_n hx hb dX1_finish_21 rfl (lv_at hl 0 rfl) ?_
                      refine zz_ald hx hb hK hP 1 1 rfl rfl (q := q3) hF.2.2.2 zz_in3 dX1_finish_22 ?_
                      cases e_159 : f_X1_findSign n r_2.2.2.2.2.1 r_2.2.2.2.1 with
                      | none => rw [e_159, Option.bind_none] at hr; cases hr
                      | some r_160 =>
                        rw [e_159, Option.bind_some] at hr
                        have hPc := hP.sub (ws' := [(h0, .inr (1, [.ref gN, .ref gS, .int r_2.2.2.2.2.1, .long r_2.2.2.2.2.2.1, .long r_2.2.2.2.2.2.2.1, .long r_2.2.2.2.2.2.2.2.1, .long r_2.2.2.2.2.2.2.2.2])), (q3, .inl (cI, 256, .inl r_2.2.2.2.1))]) [0, 5] rfl
                        have hDc := hD.sub (ws' := [(h0, .inr (1, [.ref gN, .ref gS, .int r_2.2.2.2.2.1, .long r_2.2.2.2.2.2.1, .long r_2.2.2.2.2.2.2.1, .long r_2.2.2.2.2.2.2.2.1, .long r_2.2.2.2.2.2.2.2.2])), (q3, .inl (cI, 256, .inl r_2.2.2.2.1))]) [0, 5] (by decide) rfl
                        have hKc := hK.sub (tys' := [(cI, .int)]) [0] rfl
                        have hFc := va_free (wc := [(h0, .inr (1, [.ref gN, .ref gS, .int r_2.2.2.2.2.1, .long r_2.2.2.2.2.2.1, .long r_2.2.2.2.2.2.2.1, .long r_2.2.2.2.2.2.2.2.1, .long r_2.2.2.2.2.2.2.2.2])), (q3, .inl (cI, 256, .inl r_2.2.2.2.1))]) hD hS hA [0, 5] rfl
                        refine va_calli (va_runV (As := [.ref q3]) (rest := [.int 3, .ref gS]) ⟨hx, hb, hml, hown, hts⟩ (c_X1_findSign l dC dI H.size h0 gN gS r_2.2.2.2.2.1 r_2.2.2.2.2.2.1 r_2.2.2.2.2.2.2.1 r_2.2.2.2.2.2.2.2.1 r_2.2.2.2.2.2.2.2.2 cI q3 r_2.2.2.2.1  n _ e_159) (cwV 1 hts gX1_finish_X1_findSign rfl rfl rfl (by decide +kernel) ⟨Nat.le_of_ble_eq_true rfl, Nat.le_of_ble_eq_true rfl⟩) ⟨fun a U g mk q => by obtain ⟨q0, q1, qP, qK, qD⟩ := q; exact ⟨q0, q1, qP, va_K.moved (u := U) (U := U.calling g mk a) (Vm.Alike.refl U.vm) qK, qD⟩, va_recv hKc hPc (ci := 1) (q0 := 0) rfl rfl, fun U hU hW => ⟨rfl, by rw [hU], by rw [hU]; exact hPc, va_K.moved hW.alike hKc, hDc.weaken (fun _ _ _ _ => trivial)⟩⟩ rfl rfl hl.1 rfl (lv_room (Nat.le_of_ble_eq_true rfl)) dX1_finish_23 ⟨Nat.zero_le _, Nat.zero_le _⟩) hS (fun q _ h => hFc q h) hFc (fun x_161 _ t H1 locs ht hvm hw hB hz1 hk1 hS => ?_)
                        have hw := hw.symm
                        subst hw
                        obtain ⟨hP1, hK1, hD1⟩ := hB
                        rw [ht] at hP1
                        obtain ⟨hP, hD⟩ := va_join (wr := [(gN, .inl (cO, 4, .inr (.inr (.inr (.inr F))))), (q0, .inl (cI, 256, .inl r_90)), (q1, .inl (cI, 256, .inl r_134)), (q2, .inl (cI, 256, .inl r_156)), (gS, .inl (cI, 4, .inl (upd (upd (upd sg (0 : Int32).toNatClampNeg r_6) (1 : Int32).toNatClampNeg r_94) (2 : Int32).toNatClampNeg r_138)))]) (w1 := [(h0, .inr (1, [.ref gN, .ref gS, .int r_2.2.2.2.2.1, .long r_2.2.2.2.2.2.1, .long r_2.2.2.2.2.2.2.1, .long r_2.2.2.2.2.2.2.2.1, .long r_2.2.2.2.2.2.2.2.2])), (q3, .inl (cI, 256, .inl r_2.2.2.2.1))]) hP hD [0, 5] [1, 2, 3, 4, 6] rfl rfl (by decide) (by decide) hk1 hFc hP1 hD1
                        generalize H1 = H at hP hS ⊢
                        have hP := hP.sub (ws' := [(h0, .inr (1, [.ref gN, .ref gS, .int r_2.2.2.2.2.1, .long r_2.2.2.2.2.2.1, .long r_2.2.2.2.2.2.2.1, .long r_2.2.2.2.2.2.2.2.1, .long r_2.2.2.2.2.2.2.2.2])), (gN, .inl (cO, 4, .inr (.inr (.inr (.inr F))))), (q0, .inl (cI, 256, .inl r_90)), (q1, .inl (cI, 256, .inl r_134)), (q2, .inl (cI, 256, .inl r_156)), (q3, .inl (cI, 256, .inl r_2.2.2.2.1)), (gS, .inl (cI, 4, .inl (upd (upd (upd sg (0 : Int32).toNatClampNeg r_6) (1 : Int32).toNatClampNeg r_94) (2 : Int32).toNatClampNeg r_138)))]) [5, 0, 1, 2, 3, 6, 4] rfl
                        have hD := hD.sub (ws' := [(h0, .inr (1, [.ref gN, .ref gS, .int r_2.2.2.2.2.1, .long r_2.2.2.2.2.2.1, .long r_2.2.2.2.2.2.2.1, .long r_2.2.2.2.2.2.2.2.1, .long r_2.2.2.2.2.2.2.2.2])), (gN, .inl (cO, 4, .inr (.inr (.inr (.inr F))))), (q0, .inl (cI, 256, .inl r_90)), (q1, .inl (cI, 256, .inl r_134)), (q2, .inl (cI, 256, .inl r_156)), (q3, .inl (cI, 256, .inl r_2.2.2.2.1)), (gS, .inl (cI, 4, .inl (upd (upd (upd sg (0 : Int32).toNatClampNeg r_6) (1 : Int32).toNatClampNeg r_94) (2 : Int32).toNatClampNeg r_138)))]) [5, 0, 1, 2, 3, 6, 4] (by decide) rfl
                        have hP : va_P (dC, dI) vwCl [(h0, .inr (1, [.ref gN, .ref gS, .int r_2.2.2.2.2.1, .long r_2.2.2.2.2.2.1, .long r_2.2.2.2.2.2.2.1, .long r_2.2.2.2.2.2.2.2.1, .long r_2.2.2.2.2.2.2.2.2])), (gN, .inl (cO, 4, .inr (.inr (.inr (.inr F))))), (q0, .inl (cI, 256, .inl r_90)), (q1, .inl (cI, 256, .inl r_134)), (q2, .inl (cI, 256, .inl r_156)), (q3, .inl (cI, 256, .inl r_2.2.2.2.1)), (gS, .inl (cI, 4, .inl (upd (upd (upd sg (0 : Int32).toNatClampNeg r_6) (1 : Int32).toNatClampNeg r_94) (2 : Int32).toNatClampNeg r_138)))] H := hP
                        have hD : va_D A [(h0, .inr (1, [.ref gN, .ref gS, .int r_2.2.2.2.2.1, .long r_2.2.2.2.2.2.1, .long r_2.2.2.2.2.2.2.1, .long r_2.2.2.2.2.2.2.2.1, .long r_2.2.2.2.2.2.2.2.2])), (gN, .inl (cO, 4, .inr (.inr (.inr (.inr F))))), (q0, .inl (cI, 256, .inl r_90)), (q1, .inl (cI, 256, .inl r_134)), (q2, .inl (cI, 256, .inl r_156)), (q3, .inl (cI, 256, .inl r_2.2.2.2.1)), (gS, .inl (cI, 4, .inl (upd (upd (upd sg (0 : Int32).toNatClampNeg r_6) (1 : Int32).toNatClampNeg r_94) (2 : Int32).toNatClampNeg r_138)))] := hD
                        refine W.widen (k := 0) (n := 0) (Nat.le_refl _) (Nat.le_refl _) ?_
                        by_cases g_162 : (3 : Int32) < 0 ∨ 4 ≤ (3 : Int32).toNatClampNeg
                        · have hr := (if_pos g_162).symm.trans hr
                          cases hr
                        have hr := (if_neg g_162).symm.trans hr
                        refine va_iast hx hb hK hP hD hS 6 0 rfl rfl g_162 dX1_finish_26 (fun H locs hP hD hS => ?_)
                        have hP : va_P (dC, dI) vwCl [(h0, .inr (1, [.ref gN, .ref gS, .int r_2.2.2.2.2.1, .long r_2.2.2.2.2.2.1, .long r_2.2.2.2.2.2.2.1, .long r_2.2.2.2.2.2.2.2.1, .long r_2.2.2.2.2.2.2.2.2])), (gN, .inl (cO, 4, .inr (.inr (.inr (.inr F))))), (q0, .inl (cI, 256, .inl r_90)), (q1, .inl (cI, 256, .inl r_134)), (q2, .inl (cI, 256, .inl r_156)), (q3, .inl (cI, 256, .inl r_2.2.2.2.1)), (gS, .inl (cI, 4, .inl (upd (upd (upd (upd sg (0 : Int32).toNatClampNeg r_6) (1 : Int32).toNatClampNeg r_94) (2 : Int32).toNatClampNeg r_138) (3 : Int32).toNatClampNeg r_160)))] H := hP
                        have hD : va_D A [(h0, .inr (1, [.ref gN, .ref gS, .int r_2.2.2.2.2.1, .long r_2.2.2.2.2.2.1, .long r_2.2.2.2.2.2.2.1, .long r_2.2.2.2.2.2.2.2.1, .long r_2.2.2.2.2.2.2.2.2])), (gN, .inl (cO, 4, .inr (.inr (.inr (.inr F))))), (q0, .inl (cI, 256, .inl r_90)), (q1, .inl (cI, 256, .inl r_134)), (q2, .inl (cI, 256, .inl r_156)), (q3, .inl (cI, 256, .inl r_2.2.2.2.1)), (gS, .inl (cI, 4, .inl (upd (upd (upd (upd sg (0 : Int32).toNatClampNeg r_6) (1 : Int32).toNatClampNeg r_94) (2 : Int32).toNatClampNeg r_138) (3 : Int32).toNatClampNeg r_160)))] := hD
                        refine lv_aload_n hx hb dX1_finish_27 rfl (lv_at hl 1 rfl) ?_
                        refine va_get (D := (dC, dI)) (ci := 1) (v := .ref gS) (C := RX1) (T := TX1) (N := 7) hx hb hts in_X1_finish_X1 hown hK hP 0 rfl rfl 1 (by decide) (hts (.fieldLink RX1 16 "FormRing$Matrix" "signs" "[I") (by decide +kernel)) (fun _ h9 => h9) rfl dX1_finish_28 ?_
                        refine lv_iload_n hx hb dX1_finish_31 rfl (lv_at hl 0 rfl) ?_
                        by_cases g_163 : (3 : Int32) < 0 ∨ 4 ≤ (3 : Int32).toNatClampNeg
                        · have hr := (if_pos g_163).symm.trans hr
                          cases hr
                        have hr := (if_neg g_163).symm.trans hr
                        refine va_iald hx hb hK hP 6 0 rfl rfl g_163 dX1_finish_32 ?_
                        refine lz_zge (tgt := 46) hx hb dX1_finish_33 (by decide) (fun c_164 => ?_) (fun c_164 => ?_)
                        · have hr := (if_neg c_164).symm.trans hr
                          refine lv_iinc (v := 4) (lv' := [(1, .int 4), (0, .ref h0)]) hx hb dX1_finish_46 hl (k := 0) rfl (by decide) (by decide) rfl (fun ls hl => ?_)
                          refine lv_goto (tgt := 6) hx hb dX1_finish_49 (by decide) ?_
                          refine lv_iload_n hx hb dX1_finish_6 rfl (lv_at hl 0 rfl) ?_
                          refine lv_iconst (v := 4) hx hb dX1_finish_7 (by decide) ?_
                          refine lz_ige (tgt := 52) hx hb dX1_finish_8 (by decide) (fun c_165 => ?_) (fun c_165 => absurd c_165 (by decide))
                          have ho := Option.some.inj hr
                          subst ho
                          exact W.vret hx hb hrt (fun t ht hW => ⟨⟨(), rfl, trivial, by rw [ht]; exact hP, va_K.moved hW.alike hK, hD⟩, hS.F ht⟩) hS.2.2 dX1_finish_52
                        · have hr := (if_pos c_164).symm.trans hr
                          refine lv_aload_n hx hb dX1_finish_36 rfl (lv_at hl 1 rfl) ?_
                          refine lv_aload_n hx hb dX1_finish_37 rfl (lv_at hl 1 rfl) ?_
                          refine va_get (D := (dC, dI)) (ci := 1) (v := .ref gN) (C := RX1) (T := TX1) (N := 7) hx hb hts in_X1_finish_X1 hown hK hP 0 rfl rfl 0 (by decide) (hts (.fieldLink RX1 13 "FormRing$Matrix" "numbers" "[[I") (by decide +kernel)) (fun _ h9 => h9) rfl dX1_finish_38 ?_
                          refine lv_iload_n hx hb dX1_finish_41 rfl (lv_at hl 0 rfl) ?_
                          refine zz_ald hx hb hK hP 1 1 rfl rfl (q := q3) hF.2.2.2 zz_in3 dX1_finish_42 ?_
                          cases e_166 : f_X1_negate n r_2.2.2.2.2.1 r_2.2.2.2.1 with
                          | none => rw [e_166, Option.bind_none] at hr; cases hr
                          | some r_167 =>
                            rw [e_166, Option.bind_some] at hr
                            have hPc := hP.sub (ws' := [(h0, .inr (1, [.ref gN, .ref gS, .int r_2.2.2.2.2.1, .long r_2.2.2.2.2.2.1, .long r_2.2.2.2.2.2.2.1, .long r_2.2.2.2.2.2.2.2.1, .long r_2.2.2.2.2.2.2.2.2])), (q3, .inl (cI, 256, .inl r_2.2.2.2.1))]) [0, 5] rfl
                            have hDc := hD.sub (ws' := [(h0, .inr (1, [.ref gN, .ref gS, .int r_2.2.2.2.2.1, .long r_2.2.2.2.2.2.1, .long r_2.2.2.2.2.2.2.1, .long r_2.2.2.2.2.2.2.2.1, .long r_2.2.2.2.2.2.2.2.2])), (q3, .inl (cI, 256, .inl r_2.2.2.2.1))]) [0, 5] (by decide) rfl
                            have hKc := hK.sub (tys' := [(cI, .int)]) [0] rfl
                            have hFc := va_free (wc := [(h0, .inr (1, [.ref gN, .ref gS, .int r_2.2.2.2.2.1, .long r_2.2.2.2.2.2.1, .long r_2.2.2.2.2.2.2.1, .long r_2.2.2.2.2.2.2.2.1, .long r_2.2.2.2.2.2.2.2.2])), (q3, .inl (cI, 256, .inl r_2.2.2.2.1))]) hD hS hA [0, 5] rfl
                            refine va_callv (va_runV (As := [.ref q3]) (rest := []) ⟨hx, hb, hml, hown, hts⟩ (c_X1_negate l dC dI H.size h0 gN gS r_2.2.2.2.2.1 r_2.2.2.2.2.2.1 r_2.2.2.2.2.2.2.1 r_2.2.2.2.2.2.2.2.1 r_2.2.2.2.2.2.2.2.2 cI q3 r_2.2.2.2.1  n _ e_166) (cwV 1 hts gX1_finish_X1_negate rfl rfl rfl (by decide +kernel) ⟨Nat.le_of_ble_eq_true rfl, Nat.le_of_ble_eq_true rfl⟩) ⟨fun a U g mk q => by obtain ⟨q0, q1, qP, qK, qD⟩ := q; exact ⟨q0, q1, qP, va_K.moved (u := U) (U := U.calling g mk a) (Vm.Alike.refl U.vm) qK, qD⟩, va_recv hKc hPc (ci := 1) (q0 := 0) rfl rfl, fun U hU hW => ⟨rfl, by rw [hU], by rw [hU]; exact hPc, va_K.moved hW.alike hKc, hDc.weaken (fun _ _ _ _ => trivial)⟩⟩ rfl rfl hl.1 rfl (lv_room (Nat.le_of_ble_eq_true rfl)) dX1_finish_43 ⟨Nat.zero_le _, Nat.zero_le _⟩) hS (fun q _ h => hFc q h) hFc (fun _ t H1 locs ht hvm hw hB hz1 hk1 hS => ?_)
                            obtain ⟨hP1, hK1, hD1⟩ := hB
                            rw [ht] at hP1
                            obtain ⟨hP, hD⟩ := va_join (wr := [(gN, .inl (cO, 4, .inr (.inr (.inr (.inr F))))), (q0, .inl (cI, 256, .inl r_90)), (q1, .inl (cI, 256, .inl r_134)), (q2, .inl (cI, 256, .inl r_156)), (gS, .inl (cI, 4, .inl (upd (upd (upd (upd sg (0 : Int32).toNatClampNeg r_6) (1 : Int32).toNatClampNeg r_94) (2 : Int32).toNatClampNeg r_138) (3 : Int32).toNatClampNeg r_160)))]) (w1 := [(h0, .inr (1, [.ref gN, .ref gS, .int r_2.2.2.2.2.1, .long r_2.2.2.2.2.2.1, .long r_2.2.2.2.2.2.2.1, .long r_2.2.2.2.2.2.2.2.1, .long r_2.2.2.2.2.2.2.2.2])), (q3, .inl (cI, 256, .inl r_167))]) hP hD [0, 5] [1, 2, 3, 4, 6] rfl rfl (by decide) (by decide) hk1 hFc hP1 hD1
                            generalize H1 = H at hP hS ⊢
                            have hP := hP.sub (ws' := [(h0, .inr (1, [.ref gN, .ref gS, .int r_2.2.2.2.2.1, .long r_2.2.2.2.2.2.1, .long r_2.2.2.2.2.2.2.1, .long r_2.2.2.2.2.2.2.2.1, .long r_2.2.2.2.2.2.2.2.2])), (gN, .inl (cO, 4, .inr (.inr (.inr (.inr F))))), (q0, .inl (cI, 256, .inl r_90)), (q1, .inl (cI, 256, .inl r_134)), (q2, .inl (cI, 256, .inl r_156)), (q3, .inl (cI, 256, .inl r_167)), (gS, .inl (cI, 4, .inl (upd (upd (upd (upd sg (0 : Int32).toNatClampNeg r_6) (1 : Int32).toNatClampNeg r_94) (2 : Int32).toNatClampNeg r_138) (3 : Int32).toNatClampNeg r_160)))]) [5, 0, 1, 2, 3, 6, 4] rfl
                            have hD := hD.sub (ws' := [(h0, .inr (1, [.ref gN, .ref gS, .int r_2.2.2.2.2.1, .long r_2.2.2.2.2.2.1, .long r_2.2.2.2.2.2.2.1, .long r_2.2.2.2.2.2.2.2.1, .long r_2.2.2.2.2.2.2.2.2])), (gN, .inl (cO, 4, .inr (.inr (.inr (.inr F))))), (q0, .inl (cI, 256, .inl r_90)), (q1, .inl (cI, 256, .inl r_134)), (q2, .inl (cI, 256, .inl r_156)), (q3, .inl (cI, 256, .inl r_167)), (gS, .inl (cI, 4, .inl (upd (upd (upd (upd sg (0 : Int32).toNatClampNeg r_6) (1 : Int32).toNatClampNeg r_94) (2 : Int32).toNatClampNeg r_138) (3 : Int32).toNatClampNeg r_160)))]) [5, 0, 1, 2, 3, 6, 4] (by decide) rfl
                            have hP : va_P (dC, dI) vwCl [(h0, .inr (1, [.ref gN, .ref gS, .int r_2.2.2.2.2.1, .long r_2.2.2.2.2.2.1, .long r_2.2.2.2.2.2.2.1, .long r_2.2.2.2.2.2.2.2.1, .long r_2.2.2.2.2.2.2.2.2])), (gN, .inl (cO, 4, .inr (.inr (.inr (.inr F))))), (q0, .inl (cI, 256, .inl r_90)), (q1, .inl (cI, 256, .inl r_134)), (q2, .inl (cI, 256, .inl r_156)), (q3, .inl (cI, 256, .inl r_167)), (gS, .inl (cI, 4, .inl (upd (upd (upd (upd sg (0 : Int32).toNatClampNeg r_6) (1 : Int32).toNatClampNeg r_94) (2 : Int32).toNatClampNeg r_138) (3 : Int32).toNatClampNeg r_160)))] H := hP
                            have hD : va_D A [(h0, .inr (1, [.ref gN, .ref gS, .int r_2.2.2.2.2.1, .long r_2.2.2.2.2.2.1, .long r_2.2.2.2.2.2.2.1, .long r_2.2.2.2.2.2.2.2.1, .long r_2.2.2.2.2.2.2.2.2])), (gN, .inl (cO, 4, .inr (.inr (.inr (.inr F))))), (q0, .inl (cI, 256, .inl r_90)), (q1, .inl (cI, 256, .inl r_134)), (q2, .inl (cI, 256, .inl r_156)), (q3, .inl (cI, 256, .inl r_167)), (gS, .inl (cI, 4, .inl (upd (upd (upd (upd sg (0 : Int32).toNatClampNeg r_6) (1 : Int32).toNatClampNeg r_94) (2 : Int32).toNatClampNeg r_138) (3 : Int32).toNatClampNeg r_160)))] := hD
                            refine W.widen (k := 0) (n := 0) (Nat.le_refl _) (Nat.le_refl _) ?_
                            refine lv_iinc (v := 4) (lv' := [(1, .int 4), (0, .ref h0)]) hx hb dX1_finish_46 hl (k := 0) rfl (by decide) (by decide) rfl (fun ls hl => ?_)
                            refine lv_goto (tgt := 6) hx hb dX1_finish_49 (by decide) ?_
                            refine lv_iload_n hx hb dX1_finish_6 rfl (lv_at hl 0 rfl) ?_
                            refine lv_iconst (v := 4) hx hb dX1_finish_7 (by decide) ?_
                            refine lz_ige (tgt := 52) hx hb dX1_finish_8 (by decide) (fun c_169 => ?_) (fun c_169 => absurd c_169 (by decide))
                            have ho := Option.some.inj hr
                            subst ho
                            exact W.vret hx hb hrt (fun t ht hW => ⟨⟨(), rfl, trivial, by rw [ht]; exact hP, va_K.moved hW.alike hK, hD⟩, hS.F ht⟩) hS.2.2 dX1_finish_52
