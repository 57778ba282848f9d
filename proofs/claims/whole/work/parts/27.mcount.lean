def f_X3_commonD (n : Nat) : Nat → Int64 → Int64 → Option Int64
  | 0, _, _ => none
  | k + 1, a1, a2 => if a2 = 0 then ((f_X3_size n a1).bind (fun r_7 => some r_7)) else (if a2 = 0 then none else ((f_X3_commonD n k a2 (a1 - a1 / a2 * a2)).bind (fun r_4 => some r_4)))
set_option maxHeartbeats 4000000 in
set_option maxRecDepth 100000 in
theorem c_X3_commonD (l : Launch) (dC : Nat → ClassId) (dI : Nat → Nat → Nat) (n : Nat) : ∀ (k sz : Nat) (a1 a2 out : Int64), f_X3_commonD n k a1 a2 = some out → Met l yX3_common wsX3_common ({ frames := k, cells := 0, slots := 0, locals := 23 * k }) (va_Pc [.long a1, .long a2] (zP dC dI [] [] sz)) (va_Ql (fun r (_ : Unit) => r = out) (fun (_ : Unit) t => zB dC dI [] (va_A [] sz) [] t) (va_A [] sz)) 0 0 (va_A [] sz) := by
  intro k
  induction k with
  | zero => intro sz a1 a2 out hr; cases hr
  | succ k ih =>
    intro sz a1 a2 out hr
    refine Met.ofW (cc := cX3_common) (maxL := 4) (ret := (some .long)) (by decide +kernel) rfl ?_
    intro p e s m args below meth c s₁ B hml hv
    obtain ⟨rfl, hsz, hP, hK, hD0⟩ := hv
    have hx := B.exec
    have hb := B.bytes
    have hrt := B.returns
    have hts := atoms_spec (ws := wsX3_common) B.pre
    have hown : s.vm.findClass RX3 = some m.cls := findClass_of_methodNamed B.named
    have hlocks := B.notSynchronized
    subst hsz
    have hD := hD0.self (sz := s.heap.size)
    generalize hAe : va_A [] s.heap.size = A at hD ⊢
    have hA : ∀ q : Nat, s.heap.size ≤ q → A q := fun q h => by rw [← hAe]; exact Or.inr h
    have hS : va_S A s.heap s.heap [] := va_S.rf
    have hP : va_P (dC, dI) vwCl [] s.heap := hP
    have hl := lv_entry ([.long a1, .long a2]) (n := 4) (Nat.le_of_ble_eq_true rfl)
    rw [lg_entry_eq]
    generalize (lg_sl ([.long a1, .long a2]) ++ List.replicate (4 - (lg_sl ([.long a1, .long a2])).length) Slot.unset).toArray = ls at hl ⊢
    have hl : lv_has ls 4 [(0, .long a1), (2, .long a2)] := hl
    rw [f_X3_commonD] at hr
    refine lv_lload_n hx hb dX3_common_0 rfl (lv_at hl 1 rfl) ?_
    refine lv_lconst (v := 0) hx hb dX3_common_1 (by decide) ?_
    refine lz_lne (tgt := 13) hx hb dX3_common_2 dX3_common_3 (by decide) (fun c_1 => ?_) (fun c_1 => ?_)
    · have hr := (if_neg c_1).symm.trans hr
      refine lv_lload_n hx hb dX3_common_13 rfl (lv_at hl 1 rfl) ?_
      refine lv_lload_n hx hb dX3_common_14 rfl (lv_at hl 0 rfl) ?_
      refine lv_lload_n hx hb dX3_common_15 rfl (lv_at hl 1 rfl) ?_
      by_cases g_2 : a2 = 0
      · have hr := (if_pos g_2).symm.trans hr
        cases hr
      have hr := (if_neg g_2).symm.trans hr
      refine lv_lrem hx hb dX3_common_16 g_2 ?_
      cases e_3 : f_X3_commonD n k a2 (a1 - a1 / a2 * a2) with
      | none => rw [e_3, Option.bind_none] at hr; cases hr
      | some r_4 =>
        rw [e_3, Option.bind_some] at hr
        have hPc := hP.sub (ws' := []) [] rfl
        have hDc := hD.sub (ws' := []) [] (by decide) rfl
        have hKc := hK.sub (tys' := []) [] rfl
        have hFc := va_free (wc := []) hD hS hA [] rfl
        refine va_calll (va_runS (As := [.long a2, .long (a1 - a1 / a2 * a2)]) (rest := []) ⟨hx, hb, hml, hown, hts⟩ (ih s.heap.size  a2 (a1 - a1 / a2 * a2) _ e_3) (va_cwS 2 hts gX3_common_X3_common rfl rfl rfl (by decide +kernel) ⟨Nat.le_refl _, by show 8 + (4 + 11) + 23 * k ≤ 23 * (k + 1); omega⟩) ⟨fun a U g mk q => by obtain ⟨q0, q1, qP, qK, qD⟩ := q; exact ⟨q0, q1, qP, va_K.moved (u := U) (U := U.calling g mk a) (Vm.Alike.refl U.vm) qK, qD⟩, fun U hU hW => ⟨rfl, by rw [hU], by rw [hU]; exact hPc, va_K.moved hW.alike hKc, hDc.weaken (fun _ _ _ _ => trivial)⟩⟩ rfl rfl hl.1 rfl (lv_room (Nat.le_of_ble_eq_true rfl)) dX3_common_17 ⟨Nat.zero_le _, Nat.zero_le _⟩) hS (fun q _ h => hFc q h) hFc (fun x_5 _ t H1 locs ht hvm hw hB hz1 hk1 hS => ?_)
        have hw := hw.symm
        subst hw
        obtain ⟨hP1, hK1, hD1⟩ := hB
        rw [ht] at hP1
        obtain ⟨hP, hD⟩ := va_join (wr := []) (w1 := []) hP hD [] [] rfl rfl (by decide) (by decide) hk1 hFc hP1 hD1
        generalize H1 = H at hP hS ⊢
        have hP : va_P (dC, dI) vwCl [] H := hP
        have hD : va_D A [] := hD
        refine W.widen (k := 0) (n := 0) (Nat.le_refl _) (Nat.le_refl _) ?_
        have ho := Option.some.inj hr
        subst ho
        exact W.lret (v := r_4) hx hb hrt (fun t ht hW => ⟨⟨r_4, (), rfl, rfl, by rw [ht]; exact hP, va_K.moved hW.alike hK, hD⟩, hS.F ht⟩) hS.2.2 dX3_common_20
    · have hr := (if_pos c_1).symm.trans hr
      refine lv_lload_n hx hb dX3_common_6 rfl (lv_at hl 0 rfl) ?_
      cases e_6 : f_X3_size n a1 with
      | none => rw [e_6, Option.bind_none] at hr; cases hr
      | some r_7 =>
        rw [e_6, Option.bind_some] at hr
        have hPc := hP.sub (ws' := []) [] rfl
        have hDc := hD.sub (ws' := []) [] (by decide) rfl
        have hKc := hK.sub (tys' := []) [] rfl
        have hFc := va_free (wc := []) hD hS hA [] rfl
        refine va_calll (va_runS (As := [.long a1]) (rest := []) ⟨hx, hb, hml, hown, hts⟩ (c_X3_size l dC dI s.heap.size  a1 n _ e_6) (va_cwS 1 hts gX3_common_X3_size rfl rfl rfl (by decide +kernel) ⟨Nat.succ_le_succ (Nat.zero_le k), by show 8 + (2 + 11) + 0 ≤ 23 * (k + 1); omega⟩) ⟨fun a U g mk q => by obtain ⟨q0, q1, qP, qK, qD⟩ := q; exact ⟨q0, q1, qP, va_K.moved (u := U) (U := U.calling g mk a) (Vm.Alike.refl U.vm) qK, qD⟩, fun U hU hW => ⟨rfl, by rw [hU], by rw [hU]; exact hPc, va_K.moved hW.alike hKc, hDc.weaken (fun _ _ _ _ => trivial)⟩⟩ rfl rfl hl.1 rfl (lv_room (Nat.le_of_ble_eq_true rfl)) dX3_common_7 ⟨Nat.zero_le _, Nat.zero_le _⟩) hS (fun q _ h => hFc q h) hFc (fun x_8 _ t H1 locs ht hvm hw hB hz1 hk1 hS => ?_)
        have hw := hw.symm
        subst hw
        obtain ⟨hP1, hK1, hD1⟩ := hB
        rw [ht] at hP1
        obtain ⟨hP, hD⟩ := va_join (wr := []) (w1 := []) hP hD [] [] rfl rfl (by decide) (by decide) hk1 hFc hP1 hD1
        generalize H1 = H at hP hS ⊢
        have hP : va_P (dC, dI) vwCl [] H := hP
        have hD : va_D A [] := hD
        refine W.widen (k := 0) (n := 0) (Nat.le_refl _) (Nat.le_refl _) ?_
        refine lv_goto (tgt := 20) hx hb dX3_common_10 (by decide) ?_
        have ho := Option.some.inj hr
        subst ho
        exact W.lret (v := r_7) hx hb hrt (fun t ht hW => ⟨⟨r_7, (), rfl, rfl, by rw [ht]; exact hP, va_K.moved hW.alike hK, hD⟩, hS.F ht⟩) hS.2.2 dX3_common_20

/-- Euclid's way at most sixty deep -/
def f_X3_common (n : Nat) (a1 : Int64) (a2 : Int64) : Option Int64 := f_X3_commonD n 60 a1 a2
theorem c_X3_common (l : Launch) (dC : Nat → ClassId) (dI : Nat → Nat → Nat) (sz : Nat)  (a1 : Int64) (a2 : Int64)  (n : Nat) (out : Int64) (hr : f_X3_common n a1 a2 = some out) : Met l yX3_common wsX3_common ({ frames := 60, cells := 0, slots := 0, locals := 1380 }) (va_Pc [.long a1, .long a2] (zP dC dI [] [] sz)) (va_Ql (fun r (_ : Unit) => r = out) (fun (_ : Unit) t => zB dC dI [] (va_A [] sz) [] t) (va_A [] sz)) 0 0 (va_A [] sz) := c_X3_commonD l dC dI n 60 sz a1 a2 out hr

theorem in_X3_count_X3 : ∀ w ∈ u_ws RX3 TX3 15, w ∈ wsX3_count := by decide +kernel
def f_X3_count (n : Nat) (v1 : Int64) (v2 : Int64) (v3 : Int64) (v4 : Int64) (v5 : Int64) (v6 : Int64) (v7 : Int64) (v8 : Int64) (v9 : Int64) (v10 : Int64) (v11 : Int64) (v12 : Int64) (a1 : Int32) : Option (Int32 × Int32 × Int64 × Int64 × Int64 × Int64) := if a1 = 0 then (some (v4.toInt32, 0, v6, v7, v8, v9)) else (if a1 = 1 then (some (v5.toInt32, 0, v6, v7, v8, v9)) else (if a1 = 2 then ((f_X3_common n v1 v2).bind (fun r_5 => (f_X3_common n r_5 v3).bind (fun r_8 => some (r_8.toInt32, 0, v6, v7, v8, v9)))) else (if a1 = 3 then ((f_X3_stepsToReduced n v1 v2 v3 v4 v5 v9).bind (fun r_12 => some (r_12.1, 0, r_12.2.1, r_12.2.2.1, r_12.2.2.2.1, r_12.2.2.2.2))) else (if a1 = 4 then ((f_X3_stepsToName n v1 v2 v3 v4 v5 v9 v10 v11).bind (fun r_16 => some (r_16.1, 0, r_16.2.1, r_16.2.2.1, r_16.2.2.2.1, r_16.2.2.2.2))) else (if a1 = 5 then ((f_X3_ringSize n v4 v5 v6 v7 v8 v9 v10 v11 v12).bind (fun r_20 => some (r_20.1, 0, r_20.2.1, r_20.2.2.1, r_20.2.2.2.1, r_20.2.2.2.2))) else (some ((-1), 0, v6, v7, v8, v9)))))))
set_option maxHeartbeats 4000000 in
set_option maxRecDepth 100000 in
theorem c_X3_count (l : Launch) (dC : Nat → ClassId) (dI : Nat → Nat → Nat) (sz : Nat) (h0 : Nat) (h1 : Nat) (cI : ClassId) (v0 : Int32) (v1 : Int64) (v2 : Int64) (v3 : Int64) (v4 : Int64) (v5 : Int64) (v6 : Int64) (v7 : Int64) (v8 : Int64) (v9 : Int64) (v10 : Int64) (v11 : Int64) (v12 : Int64) (v13 : Int32) (vR : Nat → Int32) (a1 : Int32)  (n : Nat) (out : Int32 × Int32 × Int64 × Int64 × Int64 × Int64) (hr : f_X3_count n v1 v2 v3 v4 v5 v6 v7 v8 v9 v10 v11 v12 a1 = some out) : Met l yX3_count wsX3_count ({ frames := 61, cells := 0, slots := 0, locals := 1403 }) (va_Pc [.ref h0, .int a1] (zP dC dI [(cI, .int)] [(h0, .inr (3, [.int v0, .long v1, .long v2, .long v3, .long v4, .long v5, .long v6, .long v7, .long v8, .long v9, .long v10, .long v11, .long v12, .int v13, .ref h1])), (h1, .inl (cI, 6600, .inl vR))] sz)) (va_Qi (fun r (_ : Unit) => r = out.1) (fun (_ : Unit) t => zB dC dI [(cI, .int)] (va_A [(h0, .inr (3, [.int v0, .long v1, .long v2, .long v3, .long v4, .long v5, .long v6, .long v7, .long v8, .long v9, .long v10, .long v11, .long v12, .int v13, .ref h1])), (h1, .inl (cI, 6600, .inl vR))] sz) [(h0, .inr (3, [.int out.2.1, .long v1, .long v2, .long v3, .long v4, .long v5, .long out.2.2.1, .long out.2.2.2.1, .long out.2.2.2.2.1, .long out.2.2.2.2.2, .long v10, .long v11, .long v12, .int v13, .ref h1])), (h1, .inl (cI, 6600, .inl vR))] t) (va_A [(h0, .inr (3, [.int v0, .long v1, .long v2, .long v3, .long v4, .long v5, .long v6, .long v7, .long v8, .long v9, .long v10, .long v11, .long v12, .int v13, .ref h1])), (h1, .inl (cI, 6600, .inl vR))] sz)) 0 0 (va_A [(h0, .inr (3, [.int v0, .long v1, .long v2, .long v3, .long v4, .long v5, .long v6, .long v7, .long v8, .long v9, .long v10, .long v11, .long v12, .int v13, .ref h1])), (h1, .inl (cI, 6600, .inl vR))] sz) := by
  refine Met.ofW (cc := cX3_count) (maxL := 2) (ret := (some .int)) (by decide +kernel) rfl ?_
  intro p e s m args below meth c s₁ B hml hv
  obtain ⟨rfl, hsz, hP, hK, hD0⟩ := hv
  have hx := B.exec
  have hb := B.bytes
  have hrt := B.returns
  have hts := atoms_spec (ws := wsX3_count) B.pre
  have hown : s.vm.findClass RX3 = some m.cls := findClass_of_methodNamed B.named
  have hlocks := B.notSynchronized
  subst hsz
  have hD := hD0.self (sz := s.heap.size)
  generalize hAe : va_A [(h0, .inr (3, [.int v0, .long v1, .long v2, .long v3, .long v4, .long v5, .long v6, .long v7, .long v8, .long v9, .long v10, .long v11, .long v12, .int v13, .ref h1])), (h1, .inl (cI, 6600, .inl vR))] s.heap.size = A at hD ⊢
  have hA : ∀ q : Nat, s.heap.size ≤ q → A q := fun q h => by rw [← hAe]; exact Or.inr h
  have hS : va_S A s.heap s.heap [] := va_S.rf
  have hP : va_P (dC, dI) vwCl [(h0, .inr (3, [.int v0, .long v1, .long v2, .long v3, .long v4, .long v5, .long v6, .long v7, .long v8, .long v9, .long v10, .long v11, .long v12, .int v13, .ref h1])), (h1, .inl (cI, 6600, .inl vR))] s.heap := hP
  have hl := lv_entry ([.ref h0, .int a1]) (n := 2) (Nat.le_of_ble_eq_true rfl)
  rw [lg_entry_eq]
  generalize (lg_sl ([.ref h0, .int a1]) ++ List.replicate (2 - (lg_sl ([.ref h0, .int a1])).length) Slot.unset).toArray = ls at hl ⊢
  have hl : lv_has ls 2 [(0, .ref h0), (1, .int a1)] := hl
  unfold f_X3_count at hr
  refine lv_aload_n hx hb dX3_count_0 rfl (lv_at hl 0 rfl) ?_
  refine lv_iconst (v := 0) hx hb dX3_count_1 (by decide) ?_
  refine va_put (D := (dC, dI)) (ci := 3) (v := .int 0) (ty := .int) (C := RX3) (T := TX3) (N := 15) hx hb hts in_X3_count_X3 tyX3 tyX3_ok nmX3 hown hK hP hD hS 0 rfl rfl 0 (by decide) (hts (.fieldLink RX3 44 "FormRingModel" "code" "I") (by decide +kernel)) (fun _ h9 => h9) rfl (by decide +kernel) rfl rfl (Nat.le_of_ble_eq_true rfl) dX3_count_2 (fun H locs hP hD hS => ?_)
  have hP : va_P (dC, dI) vwCl [(h0, .inr (3, [.int 0, .long v1, .long v2, .long v3, .long v4, .long v5, .long v6, .long v7, .long v8, .long v9, .long v10, .long v11, .long v12, .int v13, .ref h1])), (h1, .inl (cI, 6600, .inl vR))] H := hP
  have hD : va_D A [(h0, .inr (3, [.int 0, .long v1, .long v2, .long v3, .long v4, .long v5, .long v6, .long v7, .long v8, .long v9, .long v10, .long v11, .long v12, .int v13, .ref h1])), (h1, .inl (cI, 6600, .inl vR))] := hD
  refine lv_iload_n hx hb dX3_count_5 rfl (lv_at hl 1 rfl) ?_
  by_cases c_1 : a1 = 0
  · have hr := (if_pos c_1).symm.trans hr
    refine lv_tableIn (off := 38) (tgt := 44) hx hb dX3_count_6 (by rw [c_1]; decide) (by rw [c_1]; decide) (by rw [c_1]; rfl) (by decide) ?_
    refine lv_aload_n hx hb dX3_count_44 rfl (lv_at hl 0 rfl) ?_
    refine va_get (D := (dC, dI)) (ci := 3) (v := .long v4) (C := RX3) (T := TX3) (N := 15) hx hb hts in_X3_count_X3 hown hK hP 0 rfl rfl 4 (by decide) (hts (.fieldLink RX3 18 "FormRingModel" "d" "J") (by decide +kernel)) (fun _ h9 => h9) rfl dX3_count_45 ?_
    refine lv_l2i hx hb dX3_count_48 rfl ?_
    have ho := Option.some.inj hr
    subst ho
    exact W.iret (v := v4.toInt32) hx hb hrt (fun t ht hW => ⟨⟨v4.toInt32, (), rfl, rfl, by rw [ht]; exact hP, va_K.moved hW.alike hK, hD⟩, hS.F ht⟩) hS.2.2 dX3_count_49
  have hr := (if_neg c_1).symm.trans hr
  by_cases c_2 : a1 = 1
  · have hr := (if_pos c_2).symm.trans hr
    refine lv_tableIn (off := 44) (tgt := 50) hx hb dX3_count_6 (by rw [c_2]; decide) (by rw [c_2]; decide) (by rw [c_2]; rfl) (by decide) ?_
    refine lv_aload_n hx hb dX3_count_50 rfl (lv_at hl 0 rfl) ?_
    refine va_get (D := (dC, dI)) (ci := 3) (v := .long v5) (C := RX3) (T := TX3) (N := 15) hx hb hts in_X3_count_X3 hown hK hP 0 rfl rfl 5 (by decide) (hts (.fieldLink RX3 23 "FormRingModel" "w" "J") (by decide +kernel)) (fun _ h9 => h9) rfl dX3_count_51 ?_
    refine lv_l2i hx hb dX3_count_54 rfl ?_
    have ho := Option.some.inj hr
    subst ho
    exact W.iret (v := v5.toInt32) hx hb hrt (fun t ht hW => ⟨⟨v5.toInt32, (), rfl, rfl, by rw [ht]; exact hP, va_K.moved hW.alike hK, hD⟩, hS.F ht⟩) hS.2.2 dX3_count_55
  have hr := (if_neg c_2).symm.trans hr
  by_cases c_3 : a1 = 2
  · have hr := (if_pos c_3).symm.trans hr
    refine lv_tableIn (off := 50) (tgt := 56) hx hb dX3_count_6 (by rw [c_3]; decide) (by rw [c_3]; decide) (by rw [c_3]; rfl) (by decide) ?_
    refine lv_aload_n hx hb dX3_count_56 rfl (lv_at hl 0 rfl) ?_
    refine va_get (D := (dC, dI)) (ci := 3) (v := .long v1) (C := RX3) (T := TX3) (N := 15) hx hb hts in_X3_count_X3 hown hK hP 0 rfl rfl 1 (by decide) (hts (.fieldLink RX3 7 "FormRingModel" "a" "J") (by decide +kernel)) (fun _ h9 => h9) rfl dX3_count_57 ?_
    refine lv_aload_n hx hb dX3_count_60 rfl (lv_at hl 0 rfl) ?_
    refine va_get (D := (dC, dI)) (ci := 3) (v := .long v2) (C := RX3) (T := TX3) (N := 15) hx hb hts in_X3_count_X3 hown hK hP 0 rfl rfl 2 (by decide) (hts (.fieldLink RX3 129 "FormRingModel" "b" "J") (by decide +kernel)) (fun _ h9 => h9) rfl dX3_count_61 ?_
    cases e_4 : f_X3_common n v1 v2 with
    | none => rw [e_4, Option.bind_none] at hr; cases hr
    | some r_5 =>
      rw [e_4, Option.bind_some] at hr
      have hPc := hP.sub (ws' := []) [] rfl
      have hDc := hD.sub (ws' := []) [] (by decide) rfl
      have hKc := hK.sub (tys' := []) [] rfl
      have hFc := va_free (wc := []) hD hS hA [] rfl
      refine va_calll (va_runS (As := [.long v1, .long v2]) (rest := []) ⟨hx, hb, hml, hown, hts⟩ (c_X3_common l dC dI H.size  v1 v2 n _ e_4) (va_cwS 2 hts gX3_count_X3_common rfl rfl rfl (by decide +kernel) ⟨Nat.le_of_ble_eq_true rfl, Nat.le_of_ble_eq_true rfl⟩) ⟨fun a U g mk q => by obtain ⟨q0, q1, qP, qK, qD⟩ := q; exact ⟨q0, q1, qP, va_K.moved (u := U) (U := U.calling g mk a) (Vm.Alike.refl U.vm) qK, qD⟩, fun U hU hW => ⟨rfl, by rw [hU], by rw [hU]; exact hPc, va_K.moved hW.alike hKc, hDc.weaken (fun _ _ _ _ => trivial)⟩⟩ rfl rfl hl.1 rfl (lv_room (Nat.le_of_ble_eq_true rfl)) dX3_count_64 ⟨Nat.zero_le _, Nat.zero_le _⟩) hS (fun q _ h => hFc q h) hFc (fun x_6 _ t H1 locs ht hvm hw hB hz1 hk1 hS => ?_)
      have hw := hw.symm
      subst hw
      obtain ⟨hP1, hK1, hD1⟩ := hB
      rw [ht] at hP1
      obtain ⟨hP, hD⟩ := va_join (wr := [(h0, .inr (3, [.int 0, .long v1, .long v2, .long v3, .long v4, .long v5, .long v6, .long v7, .long v8, .long v9, .long v10, .long v11, .long v12, .int v13, .ref h1])), (h1, .inl (cI, 6600, .inl vR))]) (w1 := []) hP hD [] [0, 1] rfl rfl (by decide) (by decide) hk1 hFc hP1 hD1
      generalize H1 = H at hP hS ⊢
      have hP : va_P (dC, dI) vwCl [(h0, .inr (3, [.int 0, .long v1, .long v2, .long v3, .long v4, .long v5, .long v6, .long v7, .long v8, .long v9, .long v10, .long v11, .long v12, .int v13, .ref h1])), (h1, .inl (cI, 6600, .inl vR))] H := hP
      have hD : va_D A [(h0, .inr (3, [.int 0, .long v1, .long v2, .long v3, .long v4, .long v5, .long v6, .long v7, .long v8, .long v9, .long v10, .long v11, .long v12, .int v13, .ref h1])), (h1, .inl (cI, 6600, .inl vR))] := hD
      refine W.widen (k := 0) (n := 0) (Nat.le_refl _) (Nat.le_refl _) ?_
      refine lv_aload_n hx hb dX3_count_67 rfl (lv_at hl 0 rfl) ?_
      refine va_get (D := (dC, dI)) (ci := 3) (v := .long v3) (C := RX3) (T := TX3) (N := 15) hx hb hts in_X3_count_X3 hown hK hP 0 rfl rfl 3 (by decide) (hts (.fieldLink RX3 13 "FormRingModel" "c" "J") (by decide +kernel)) (fun _ h9 => h9) rfl dX3_count_68 ?_
      cases e_7 : f_X3_common n r_5 v3 with
      | none => rw [e_7, Option.bind_none] at hr; cases hr
      | some r_8 =>
        rw [e_7, Option.bind_some] at hr
        have hPc := hP.sub (ws' := []) [] rfl
        have hDc := hD.sub (ws' := []) [] (by decide) rfl
        have hKc := hK.sub (tys' := []) [] rfl
        have hFc := va_free (wc := []) hD hS hA [] rfl
        refine va_calll (va_runS (As := [.long r_5, .long v3]) (rest := []) ⟨hx, hb, hml, hown, hts⟩ (c_X3_common l dC dI H.size  r_5 v3 n _ e_7) (va_cwS 2 hts gX3_count_X3_common rfl rfl rfl (by decide +kernel) ⟨Nat.le_of_ble_eq_true rfl, Nat.le_of_ble_eq_true rfl⟩) ⟨fun a U g mk q => by obtain ⟨q0, q1, qP, qK, qD⟩ := q; exact ⟨q0, q1, qP, va_K.moved (u := U) (U := U.calling g mk a) (Vm.Alike.refl U.vm) qK, qD⟩, fun U hU hW => ⟨rfl, by rw [hU], by rw [hU]; exact hPc, va_K.moved hW.alike hKc, hDc.weaken (fun _ _ _ _ => trivial)⟩⟩ rfl rfl hl.1 rfl (lv_room (Nat.le_of_ble_eq_true rfl)) dX3_count_71 ⟨Nat.zero_le _, Nat.zero_le _⟩) hS (fun q _ h => hFc q h) hFc (fun x_9 _ t H1 locs ht hvm hw hB hz1 hk1 hS => ?_)
        have hw := hw.symm
        subst hw
        obtain ⟨hP1, hK1, hD1⟩ := hB
        rw [ht] at hP1
        obtain ⟨hP, hD⟩ := va_join (wr := [(h0, .inr (3, [.int 0, .long v1, .long v2, .long v3, .long v4, .long v5, .long v6, .long v7, .long v8, .long v9, .long v10, .long v11, .long v12, .int v13, .ref h1])), (h1, .inl (cI, 6600, .inl vR))]) (w1 := []) hP hD [] [0, 1] rfl rfl (by decide) (by decide) hk1 hFc hP1 hD1
        generalize H1 = H at hP hS ⊢
        have hP : va_P (dC, dI) vwCl [(h0, .inr (3, [.int 0, .long v1, .long v2, .long v3, .long v4, .long v5, .long v6, .long v7, .long v8, .long v9, .long v10, .long v11, .long v12, .int v13, .ref h1])), (h1, .inl (cI, 6600, .inl vR))] H := hP
        have hD : va_D A [(h0, .inr (3, [.int 0, .long v1, .long v2, .long v3, .long v4, .long v5, .long v6, .long v7, .long v8, .long v9, .long v10, .long v11, .long v12, .int v13, .ref h1])), (h1, .inl (cI, 6600, .inl vR))] := hD
        refine W.widen (k := 0) (n := 0) (Nat.le_refl _) (Nat.le_refl _) ?_
        refine lv_l2i hx hb dX3_count_74 rfl ?_
        have ho := Option.some.inj hr
        subst ho
        exact W.iret (v := r_8.toInt32) hx hb hrt (fun t ht hW => ⟨⟨r_8.toInt32, (), rfl, rfl, by rw [ht]; exact hP, va_K.moved hW.alike hK, hD⟩, hS.F ht⟩) hS.2.2 dX3_count_75
  have hr := (if_neg c_3).symm.trans hr
  by_cases c_10 : a1 = 3
  · have hr := (if_pos c_10).symm.trans hr
    refine lv_tableIn (off := 70) (tgt := 76) hx hb dX3_count_6 (by rw [c_10]; decide) (by rw [c_10]; decide) (by rw [c_10]; rfl) (by decide) ?_
    refine lv_aload_n hx hb dX3_count_76 rfl (lv_at hl 0 rfl) ?_
    cases e_11 : f_X3_stepsToReduced n v1 v2 v3 v4 v5 v9 with
    | none => rw [e_11, Option.bind_none] at hr; cases hr
    | some r_12 =>
      rw [e_11, Option.bind_some] at hr
      have hPc := hP.sub (ws' := [(h0, .inr (3, [.int 0, .long v1, .long v2, .long v3, .long v4, .long v5, .long v6, .long v7, .long v8, .long v9, .long v10, .long v11, .long v12, .int v13, .ref h1])), (h1, .inl (cI, 6600, .inl vR))]) [0, 1] rfl
      have hDc := hD.sub (ws' := [(h0, .inr (3, [.int 0, .long v1, .long v2, .long v3, .long v4, .long v5, .long v6, .long v7, .long v8, .long v9, .long v10, .long v11, .long v12, .int v13, .ref h1])), (h1, .inl (cI, 6600, .inl vR))]) [0, 1] (by decide) rfl
      have hKc := hK.sub (tys' := [(cI, .int)]) [0] rfl
      have hFc := va_free (wc := [(h0, .inr (3, [.int 0, .long v1, .long v2, .long v3, .long v4, .long v5, .long v6, .long v7, .long v8, .long v9, .long v10, .long v11, .long v12, .int v13, .ref h1])), (h1, .inl (cI, 6600, .inl vR))]) hD hS hA [0, 1] rfl
      refine va_calli (va_runV (As := []) (rest := []) ⟨hx, hb, hml, hown, hts⟩ (c_X3_stepsToReduced l dC dI H.size h0 h1 cI 0 v1 v2 v3 v4 v5 v6 v7 v8 v9 v10 v11 v12 v13 vR  n _ e_11) (cwV 0 hts gX3_count_X3_stepsToReduced rfl rfl rfl (by decide +kernel) ⟨Nat.le_of_ble_eq_true rfl, Nat.le_of_ble_eq_true rfl⟩) ⟨fun a U g mk q => by obtain ⟨q0, q1, qP, qK, qD⟩ := q; exact ⟨q0, q1, qP, va_K.moved (u := U) (U := U.calling g mk a) (Vm.Alike.refl U.vm) qK, qD⟩, va_recv hKc hPc (ci := 3) (q0 := 0) rfl rfl, fun U hU hW => ⟨rfl, by rw [hU], by rw [hU]; exact hPc, va_K.moved hW.alike hKc, hDc.weaken (fun _ _ _ _ => trivial)⟩⟩ rfl rfl hl.1 rfl (lv_room (Nat.le_of_ble_eq_true rfl)) dX3_count_77 ⟨Nat.zero_le _, Nat.zero_le _⟩) hS (fun q _ h => hFc q h) hFc (fun x_13 _ t H1 locs ht hvm hw hB hz1 hk1 hS => ?_)
      have hw := hw.symm
      subst hw
      obtain ⟨hP1, hK1, hD1⟩ := hB
      rw [ht] at hP1
      obtain ⟨hP, hD⟩ := va_join (wr := []) (w1 := [(h0, .inr (3, [.int 0, .long v1, .long v2, .long v3, .long v4, .long v5, .long r_12.2.1, .long r_12.2.2.1, .long r_12.2.2.2.1, .long r_12.2.2.2.2, .long v10, .long v11, .long v12, .int v13, .ref h1])), (h1, .inl (cI, 6600, .inl vR))]) hP hD [0, 1] [] rfl rfl (by decide) (by decide) hk1 hFc hP1 hD1
      generalize H1 = H at hP hS ⊢
      have hP : va_P (dC, dI) vwCl [(h0, .inr (3, [.int 0, .long v1, .long v2, .long v3, .long v4, .long v5, .long r_12.2.1, .long r_12.2.2.1, .long r_12.2.2.2.1, .long r_12.2.2.2.2, .long v10, .long v11, .long v12, .int v13, .ref h1])), (h1, .inl (cI, 6600, .inl vR))] H := hP
      have hD : va_D A [(h0, .inr (3, [.int 0, .long v1, .long v2, .long v3, .long v4, .long v5, .long r_12.2.1, .long r_12.2.2.1, .long r_12.2.2.2.1, .long r_12.2.2.2.2, .long v10, .long v11, .long v12, .int v13, .ref h1])), (h1, .inl (cI, 6600, .inl vR))] := hD
      refine W.widen (k := 0) (n := 0) (Nat.le_refl _) (Nat.le_refl _) ?_
      have ho := Option.some.inj hr
      subst ho
      exact W.iret (v := r_12.1) hx hb hrt (fun t ht hW => ⟨⟨r_12.1, (), rfl, rfl, by rw [ht]; exact hP, va_K.moved hW.alike hK, hD⟩, hS.F ht⟩) hS.2.2 dX3_count_80
  have hr := (if_neg c_10).symm.trans hr
  by_cases c_14 : a1 = 4
  · have hr := (if_pos c_14).symm.trans hr
    refine lv_tableIn (off := 75) (tgt := 81) hx hb dX3_count_6 (by rw [c_14]; decide) (by rw [c_14]; decide) (by rw [c_14]; rfl) (by decide) ?_
    refine lv_aload_n hx hb dX3_count_81 rfl (lv_at hl 0 rfl) ?_
    cases e_15 : f_X3_stepsToName n v1 v2 v3 v4 v5 v9 v10 v11 with
    | none => rw [e_15, Option.bind_none] at hr; cases hr
    | some r_16 =>
      rw [e_15, Option.bind_some] at hr
      have hPc := hP.sub (ws' := [(h0, .inr (3, [.int 0, .long v1, .long v2, .long v3, .long v4, .long v5, .long v6, .long v7, .long v8, .long v9, .long v10, .long v11, .long v12, .int v13, .ref h1])), (h1, .inl (cI, 6600, .inl vR))]) [0, 1] rfl
      have hDc := hD.sub (ws' := [(h0, .inr (3, [.int 0, .long v1, .long v2, .long v3, .long v4, .long v5, .long v6, .long v7, .long v8, .long v9, .long v10, .long v11, .long v12, .int v13, .ref h1])), (h1, .inl (cI, 6600, .inl vR))]) [0, 1] (by decide) rfl
      have hKc := hK.sub (tys' := [(cI, .int)]) [0] rfl
      have hFc := va_free (wc := [(h0, .inr (3, [.int 0, .long v1, .long v2, .long v3, .long v4, .long v5, .long v6, .long v7, .long v8, .long v9, .long v10, .long v11, .long v12, .int v13, .ref h1])), (h1, .inl (cI, 6600, .inl vR))]) hD hS hA [0, 1] rfl
      refine va_calli (va_runV (As := []) (rest := []) ⟨hx, hb, hml, hown, hts⟩ (c_X3_stepsToName l dC dI H.size h0 h1 cI 0 v1 v2 v3 v4 v5 v6 v7 v8 v9 v10 v11 v12 v13 vR  n _ e_15) (cwV 0 hts gX3_count_X3_stepsToName rfl rfl rfl (by decide +kernel) ⟨Nat.le_of_ble_eq_true rfl, Nat.le_of_ble_eq_true rfl⟩) ⟨fun a U g mk q => by obtain ⟨q0, q1, qP, qK, qD⟩ := q; exact ⟨q0, q1, qP, va_K.moved (u := U) (U := U.calling g mk a) (Vm.Alike.refl U.vm) qK, qD⟩, va_recv hKc hPc (ci := 3) (q0 := 0) rfl rfl, fun U hU hW => ⟨rfl, by rw [hU], by rw [hU]; exact hPc, va_K.moved hW.alike hKc, hDc.weaken (fun _ _ _ _ => trivial)⟩⟩ rfl rfl hl.1 rfl (lv_room (Nat.le_of_ble_eq_true rfl)) dX3_count_82 ⟨Nat.zero_le _, Nat.zero_le _⟩) hS (fun q _ h => hFc q h) hFc (fun x_17 _ t H1 locs ht hvm hw hB hz1 hk1 hS => ?_)
      have hw := hw.symm
      subst hw
      obtain ⟨hP1, hK1, hD1⟩ := hB
      rw [ht] at hP1
      obtain ⟨hP, hD⟩ := va_join (wr := []) (w1 := [(h0, .inr (3, [.int 0, .long v1, .long v2, .long v3, .long v4, .long v5, .long r_16.2.1, .long r_16.2.2.1, .long r_16.2.2.2.1, .long r_16.2.2.2.2, .long v10, .long v11, .long v12, .int v13, .ref h1])), (h1, .inl (cI, 6600, .inl vR))]) hP hD [0, 1] [] rfl rfl (by decide) (by decide) hk1 hFc hP1 hD1
      generalize H1 = H at hP hS ⊢
      have hP : va_P (dC, dI) vwCl [(h0, .inr (3, [.int 0, .long v1, .long v2, .long v3, .long v4, .long v5, .long r_16.2.1, .long r_16.2.2.1, .long r_16.2.2.2.1, .long r_16.2.2.2.2, .long v10, .long v11, .long v12, .int v13, .ref h1])), (h1, .inl (cI, 6600, .inl vR))] H := hP
      have hD : va_D A [(h0, .inr (3, [.int 0, .long v1, .long v2, .long v3, .long v4, .long v5, .long r_16.2.1, .long r_16.2.2.1, .long r_16.2.2.2.1, .long r_16.2.2.2.2, .long v10, .long v11, .long v12, .int v13, .ref h1])), (h1, .inl (cI, 6600, .inl vR))] := hD
      refine W.widen (k := 0) (n := 0) (Nat.le_refl _) (Nat.le_refl _) ?_
      have ho := Option.some.inj hr
      subst ho
      exact W.iret (v := r_16.1) hx hb hrt (fun t ht hW => ⟨⟨r_16.1, (), rfl, rfl, by rw [ht]; exact hP, va_K.moved hW.alike hK, hD⟩, hS.F ht⟩) hS.2.2 dX3_count_85
  have hr := (if_neg c_14).symm.trans hr
  by_cases c_18 : a1 = 5
  · have hr := (if_pos c_18).symm.trans hr
    refine lv_tableIn (off := 80) (tgt := 86) hx hb dX3_count_6 (by rw [c_18]; decide) (by rw [c_18]; decide) (by rw [c_18]; rfl) (by decide) ?_
    refine lv_aload_n hx hb dX3_count_86 rfl (lv_at hl 0 rfl) ?_
    cases e_19 : f_X3_ringSize n v4 v5 v6 v7 v8 v9 v10 v11 v12 with
    | none => rw [e_19, Option.bind_none] at hr; cases hr
    | some r_20 =>
      rw [e_19, Option.bind_some] at hr
      have hPc := hP.sub (ws' := [(h0, .inr (3, [.int 0, .long v1, .long v2, .long v3, .long v4, .long v5, .long v6, .long v7, .long v8, .long v9, .long v10, .long v11, .long v12, .int v13, .ref h1])), (h1, .inl (cI, 6600, .inl vR))]) [0, 1] rfl
      have hDc := hD.sub (ws' := [(h0, .inr (3, [.int 0, .long v1, .long v2, .long v3, .long v4, .long v5, .long v6, .long v7, .long v8, .long v9, .long v10, .long v11, .long v12, .int v13, .ref h1])), (h1, .inl (cI, 6600, .inl vR))]) [0, 1] (by decide) rfl
      have hKc := hK.sub (tys' := [(cI, .int)]) [0] rfl
      have hFc := va_free (wc := [(h0, .inr (3, [.int 0, .long v1, .long v2, .long v3, .long v4, .long v5, .long v6, .long v7, .long v8, .long v9, .long v10, .long v11, .long v12, .int v13, .ref h1])), (h1, .inl (cI, 6600, .inl vR))]) hD hS hA [0, 1] rfl
      refine va_calli (va_runV (As := []) (rest := []) ⟨hx, hb, hml, hown, hts⟩ (c_X3_ringSize l dC dI H.size h0 h1 cI 0 v1 v2 v3 v4 v5 v6 v7 v8 v9 v10 v11 v12 v13 vR  n _ e_19) (cwV 0 hts gX3_count_X3_ringSize rfl rfl rfl (by decide +kernel) ⟨Nat.le_of_ble_eq_true rfl, Nat.le_of_ble_eq_true rfl⟩) ⟨fun a U g mk q => by obtain ⟨q0, q1, qP, qK, qD⟩ := q; exact ⟨q0, q1, qP, va_K.moved (u := U) (U := U.calling g mk a) (Vm.Alike.refl U.vm) qK, qD⟩, va_recv hKc hPc (ci := 3) (q0 := 0) rfl rfl, fun U hU hW => ⟨rfl, by rw [hU], by rw [hU]; exact hPc, va_K.moved hW.alike hKc, hDc.weaken (fun _ _ _ _ => trivial)⟩⟩ rfl rfl hl.1 rfl (lv_room (Nat.le_of_ble_eq_true rfl)) dX3_count_87 ⟨Nat.zero_le _, Nat.zero_le _⟩) hS (fun q _ h => hFc q h) hFc (fun x_21 _ t H1 locs ht hvm hw hB hz1 hk1 hS => ?_)
      have hw := hw.symm
      subst hw
      obtain ⟨hP1, hK1, hD1⟩ := hB
      rw [ht] at hP1
      obtain ⟨hP, hD⟩ := va_join (wr := []) (w1 := [(h0, .inr (3, [.int 0, .long v1, .long v2, .long v3, .long v4, .long v5, .long r_20.2.1, .long r_20.2.2.1, .long r_20.2.2.2.1, .long r_20.2.2.2.2, .long v10, .long v11, .long v12, .int v13, .ref h1])), (h1, .inl (cI, 6600, .inl vR))]) hP hD [0, 1] [] rfl rfl (by decide) (by decide) hk1 hFc hP1 hD1
      generalize H1 = H at hP hS ⊢
      have hP : va_P (dC, dI) vwCl [(h0, .inr (3, [.int 0, .long v1, .long v2, .long v3, .long v4, .long v5, .long r_20.2.1, .long r_20.2.2.1, .long r_20.2.2.2.1, .long r_20.2.2.2.2, .long v10, .long v11, .long v12, .int v13, .ref h1])), (h1, .inl (cI, 6600, .inl vR))] H := hP
      have hD : va_D A [(h0, .inr (3, [.int 0, .long v1, .long v2, .long v3, .long v4, .long v5, .long r_20.2.1, .long r_20.2.2.1, .long r_20.2.2.2.1, .long r_20.2.2.2.2, .long v10, .long v11, .long v12, .int v13, .ref h1])), (h1, .inl (cI, 6600, .inl vR))] := hD
      refine W.widen (k := 0) (n := 0) (Nat.le_refl _) (Nat.le_refl _) ?_
      have ho := Option.some.inj hr
      subst ho
      exact W.iret (v := r_20.1) hx hb hrt (fun t ht hW => ⟨⟨r_20.1, (), rfl, rfl, by rw [ht]; exact hP, va_K.moved hW.alike hK, hD⟩, hS.F ht⟩) hS.2.2 dX3_count_90
  have hr := (if_neg c_18).symm.trans hr
  refine lv_tableOut (tgt := 91) hx hb dX3_count_6 (lz_sw5 c_1 c_2 c_3 c_10 c_14 c_18) (by decide) ?_
  refine lv_iconst (v := (-1)) hx hb dX3_count_91 (by decide) ?_
  have ho := Option.some.inj hr
  subst ho
  exact W.iret (v := (-1)) hx hb hrt (fun t ht hW => ⟨⟨(-1), (), rfl, rfl, by rw [ht]; exact hP, va_K.moved hW.alike hK, hD⟩, hS.F ht⟩) hS.2.2 dX3_count_92
