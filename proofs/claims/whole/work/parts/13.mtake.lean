theorem in_X3_take_X3 : ∀ w ∈ u_ws RX3 TX3 15, w ∈ wsX3_take := by decide +kernel
def f_X3_take_174 (n : Nat) (K : Int32 → (Nat → Int32) → Int32 → Int64 → Int64 → Int64 → Int64 → Int64 → Int64 → Int64 → Int64 → Int64 → Int64 → Int64 → Int64 → Int32 → Option (Int32 × (Nat → Int32) × Int32 × Int64 × Int64 × Int64 × Int64 × Int64 × Int64 × Int64 × Int64 × Int64 × Int64 × Int64 × Int64 × Int32)) : Nat → Int32 → Int32 → (Nat → Int32) → Int32 → Int64 → Int64 → Int64 → Int64 → Int64 → Int64 → Int64 → Int64 → Int64 → Int64 → Int64 → Int64 → Int32 → Option (Int32 × (Nat → Int32) × Int32 × Int64 × Int64 × Int64 × Int64 × Int64 × Int64 × Int64 × Int64 × Int64 × Int64 × Int64 × Int64 × Int32)
  | 0, _, _, _, _, _, _, _, _, _, _, _, _, _, _, _, _, _ => none
  | k + 1, u4, u5, w1, w0_0, w0_1, w0_2, w0_3, w0_4, w0_5, w0_6, w0_7, w0_8, w0_9, w0_10, w0_11, w0_12, w0_13 => if u5 < w0_13 then (if u5 = 0 then (if u4 = 0 then ((f_X3_put n w1 u4 u5 1).bind (fun r_8 => f_X3_take_174 n K k u4 (u5 + 1) r_8 w0_0 w0_1 w0_2 w0_3 w0_4 w0_5 w0_6 w0_7 w0_8 w0_9 w0_10 w0_11 w0_12 w0_13)) else (if u4 = 3 then ((f_X3_put n w1 u4 u5 1).bind (fun r_15 => f_X3_take_174 n K k u4 (u5 + 1) r_15 w0_0 w0_1 w0_2 w0_3 w0_4 w0_5 w0_6 w0_7 w0_8 w0_9 w0_10 w0_11 w0_12 w0_13)) else ((f_X3_put n w1 u4 u5 0).bind (fun r_12 => f_X3_take_174 n K k u4 (u5 + 1) r_12 w0_0 w0_1 w0_2 w0_3 w0_4 w0_5 w0_6 w0_7 w0_8 w0_9 w0_10 w0_11 w0_12 w0_13)))) else ((f_X3_put n w1 u4 u5 0).bind (fun r_4 => f_X3_take_174 n K k u4 (u5 + 1) r_4 w0_0 w0_1 w0_2 w0_3 w0_4 w0_5 w0_6 w0_7 w0_8 w0_9 w0_10 w0_11 w0_12 w0_13))) else (K (u4 + 1) w1 w0_0 w0_1 w0_2 w0_3 w0_4 w0_5 w0_6 w0_7 w0_8 w0_9 w0_10 w0_11 w0_12 w0_13)
set_option maxHeartbeats 4000000 in
set_option maxRecDepth 100000 in
theorem k_X3_take_174 {p : Program} {l : Launch} {e : Env} {s : State} {m : MethodId} {args : Array Value} {below : List Frame} {meth : Method} {c : Code} {dC : Nat → ClassId} {dI : Nat → Nat → Nat} {A : Nat → Prop} {h0 : Nat} {h1 : Nat} {cI : ClassId} {a1 : Int32} {a2 : Int32} {a3 : Int32} (hx : p.tables.exec = Jvm.exec) (hb : c.code = cX3_take) (hrt : meth.sig.returnType = (some .int)) (hml : c.maxLocals = 6) (hown : s.vm.findClass RX3 = some m.cls) (hlocks : meth.locks = false) (hts : ∀ w ∈ wsX3_take, w.before args s = true) (hA : ∀ q : Nat, s.heap.size ≤ q → A q) (hK : va_K (dC, dI) vwCl [(cI, .int)] s)  (n : Nat) (out : Int32 × (Nat → Int32) × Int32 × Int64 × Int64 × Int64 × Int64 × Int64 × Int64 × Int64 × Int64 × Int64 × Int64 × Int64 × Int64 × Int32) {K : Int32 → (Nat → Int32) → Int32 → Int64 → Int64 → Int64 → Int64 → Int64 → Int64 → Int64 → Int64 → Int64 → Int64 → Int64 → Int64 → Int32 → Option (Int32 × (Nat → Int32) × Int32 × Int64 × Int64 × Int64 × Int64 × Int64 × Int64 × Int64 × Int64 × Int64 × Int64 × Int64 × Int64 × Int32)} (hk9 : ∀ (u4 : Int32) (w1 : Nat → Int32) (w0_0 : Int32) (w0_1 : Int64) (w0_2 : Int64) (w0_3 : Int64) (w0_4 : Int64) (w0_5 : Int64) (w0_6 : Int64) (w0_7 : Int64) (w0_8 : Int64) (w0_9 : Int64) (w0_10 : Int64) (w0_11 : Int64) (w0_12 : Int64) (w0_13 : Int32), K u4 w1 w0_0 w0_1 w0_2 w0_3 w0_4 w0_5 w0_6 w0_7 w0_8 w0_9 w0_10 w0_11 w0_12 w0_13 = some out → ∀ (H : Heap) (locs : List Loc) (ls : Array Slot), va_P (dC, dI) vwCl [(h0, .inr (3, [.int w0_0, .long w0_1, .long w0_2, .long w0_3, .long w0_4, .long w0_5, .long w0_6, .long w0_7, .long w0_8, .long w0_9, .long w0_10, .long w0_11, .long w0_12, .int w0_13, .ref h1])), (h1, .inl (cI, 6600, .inl w1))] H → va_D A [(h0, .inr (3, [.int w0_0, .long w0_1, .long w0_2, .long w0_3, .long w0_4, .long w0_5, .long w0_6, .long w0_7, .long w0_8, .long w0_9, .long w0_10, .long w0_11, .long w0_12, .int w0_13, .ref h1])), (h1, .inl (cI, 6600, .inl w1))] → va_S A s.heap H locs → lv_has ls 6 [(0, .ref h0), (1, .int a1), (2, .int a2), (3, .int a3), (4, .int u4)] → W p l e ({ frames := 4, cells := 0, slots := 0, locals := 91 }) s m args below meth c H locs 0 0 (MQ below (va_Qi (fun r (_ : Unit) => r = out.1) (fun (_ : Unit) t => zB dC dI [(cI, .int)] A [(h0, .inr (3, [.int out.2.2.1, .long out.2.2.2.1, .long out.2.2.2.2.1, .long out.2.2.2.2.2.1, .long out.2.2.2.2.2.2.1, .long out.2.2.2.2.2.2.2.1, .long out.2.2.2.2.2.2.2.2.1, .long out.2.2.2.2.2.2.2.2.2.1, .long out.2.2.2.2.2.2.2.2.2.2.1, .long out.2.2.2.2.2.2.2.2.2.2.2.1, .long out.2.2.2.2.2.2.2.2.2.2.2.2.1, .long out.2.2.2.2.2.2.2.2.2.2.2.2.2.1, .long out.2.2.2.2.2.2.2.2.2.2.2.2.2.2.1, .int out.2.2.2.2.2.2.2.2.2.2.2.2.2.2.2, .ref h1])), (h1, .inl (cI, 6600, .inl out.2.1))] t) A) args s 0 0 A) (F0 m 165 ls [])) :
    ∀ (k : Nat) (u4 : Int32) (u5 : Int32) (w1 : Nat → Int32) (w0_0 : Int32) (w0_1 : Int64) (w0_2 : Int64) (w0_3 : Int64) (w0_4 : Int64) (w0_5 : Int64) (w0_6 : Int64) (w0_7 : Int64) (w0_8 : Int64) (w0_9 : Int64) (w0_10 : Int64) (w0_11 : Int64) (w0_12 : Int64) (w0_13 : Int32), f_X3_take_174 n K k u4 u5 w1 w0_0 w0_1 w0_2 w0_3 w0_4 w0_5 w0_6 w0_7 w0_8 w0_9 w0_10 w0_11 w0_12 w0_13 = some out → ∀ (H : Heap) (locs : List Loc) (ls : Array Slot), va_P (dC, dI) vwCl [(h0, .inr (3, [.int w0_0, .long w0_1, .long w0_2, .long w0_3, .long w0_4, .long w0_5, .long w0_6, .long w0_7, .long w0_8, .long w0_9, .long w0_10, .long w0_11, .long w0_12, .int w0_13, .ref h1])), (h1, .inl (cI, 6600, .inl w1))] H → va_D A [(h0, .inr (3, [.int w0_0, .long w0_1, .long w0_2, .long w0_3, .long w0_4, .long w0_5, .long w0_6, .long w0_7, .long w0_8, .long w0_9, .long w0_10, .long w0_11, .long w0_12, .int w0_13, .ref h1])), (h1, .inl (cI, 6600, .inl w1))] → va_S A s.heap H locs → lv_has ls 6 [(0, .ref h0), (1, .int a1), (2, .int a2), (3, .int a3), (4, .int u4), (5, .int u5)] → W p l e ({ frames := 4, cells := 0, slots := 0, locals := 91 }) s m args below meth c H locs 0 0 (MQ below (va_Qi (fun r (_ : Unit) => r = out.1) (fun (_ : Unit) t => zB dC dI [(cI, .int)] A [(h0, .inr (3, [.int out.2.2.1, .long out.2.2.2.1, .long out.2.2.2.2.1, .long out.2.2.2.2.2.1, .long out.2.2.2.2.2.2.1, .long out.2.2.2.2.2.2.2.1, .long out.2.2.2.2.2.2.2.2.1, .long out.2.2.2.2.2.2.2.2.2.1, .long out.2.2.2.2.2.2.2.2.2.2.1, .long out.2.2.2.2.2.2.2.2.2.2.2.1, .long out.2.2.2.2.2.2.2.2.2.2.2.2.1, .long out.2.2.2.2.2.2.2.2.2.2.2.2.2.1, .long out.2.2.2.2.2.2.2.2.2.2.2.2.2.2.1, .int out.2.2.2.2.2.2.2.2.2.2.2.2.2.2.2, .ref h1])), (h1, .inl (cI, 6600, .inl out.2.1))] t) A) args s 0 0 A) (F0 m 174 ls []) := by
  intro k
  induction k with
  | zero => intro u4 u5 w1 w0_0 w0_1 w0_2 w0_3 w0_4 w0_5 w0_6 w0_7 w0_8 w0_9 w0_10 w0_11 w0_12 w0_13 hr; rw [f_X3_take_174] at hr; cases hr
  | succ k ih =>
    intro u4 u5 w1 w0_0 w0_1 w0_2 w0_3 w0_4 w0_5 w0_6 w0_7 w0_8 w0_9 w0_10 w0_11 w0_12 w0_13 hr H locs ls hP hD hS hl
    rw [f_X3_take_174] at hr
    refine lv_iload hx hb dX3_take_174 (lv_at hl 5 rfl) ?_
    refine lv_aload_n hx hb dX3_take_176 rfl (lv_at hl 0 rfl) ?_
    refine va_get (D := (dC, dI)) (ci := 3) (v := .int w0_13) (C := RX3) (T := TX3) (N := 15) hx hb hts in_X3_take_X3 hown hK hP 0 rfl rfl 13 (by decide) (hts (.fieldLink RX3 32 "FormRingModel" "digits" "I") (by decide +kernel)) (fun _ h9 => h9) rfl dX3_take_177 ?_
    refine lz_ige (tgt := 218) hx hb dX3_take_180 (by decide) (fun c_1 => ?_) (fun c_1 => ?_)
    · have hr := (if_neg c_1).symm.trans hr
      refine lv_iinc (v := u4 + 1) (lv' := [(4, .int (u4 + 1)), (0, .ref h0), (1, .int a1), (2, .int a2), (3, .int a3), (5, .int u5)]) hx hb dX3_take_218 hl (k := 4) rfl rfl (by decide) rfl (fun ls hl => ?_)
      refine lv_goto (tgt := 165) hx hb dX3_take_221 (by decide) ?_
      exact hk9 (u4 + 1) w1 w0_0 w0_1 w0_2 w0_3 w0_4 w0_5 w0_6 w0_7 w0_8 w0_9 w0_10 w0_11 w0_12 w0_13 hr _ _ _ hP hD hS (lv_sub hl [1, 2, 3, 4, 0] rfl)
    · have hr := (if_pos c_1).symm.trans hr
      refine lv_aload_n hx hb dX3_take_183 rfl (lv_at hl 0 rfl) ?_
      refine lv_iload hx hb dX3_take_184 (lv_at hl 4 rfl) ?_
      refine lv_iload hx hb dX3_take_186 (lv_at hl 5 rfl) ?_
      refine lv_iload hx hb dX3_take_188 (lv_at hl 5 rfl) ?_
      refine lz_zne (tgt := 208) hx hb dX3_take_190 (by decide) (fun c_2 => ?_) (fun c_2 => ?_)
      · have hr := (if_neg c_2).symm.trans hr
        refine lv_iconst (v := 0) hx hb dX3_take_208 (by decide) ?_
        cases e_3 : f_X3_put n w1 u4 u5 0 with
        | none => rw [e_3, Option.bind_none] at hr; cases hr
        | some r_4 =>
          rw [e_3, Option.bind_some] at hr
          have hPc := hP.sub (ws' := [(h0, .inr (3, [.int w0_0, .long w0_1, .long w0_2, .long w0_3, .long w0_4, .long w0_5, .long w0_6, .long w0_7, .long w0_8, .long w0_9, .long w0_10, .long w0_11, .long w0_12, .int w0_13, .ref h1])), (h1, .inl (cI, 6600, .inl w1))]) [0, 1] rfl
          have hDc := hD.sub (ws' := [(h0, .inr (3, [.int w0_0, .long w0_1, .long w0_2, .long w0_3, .long w0_4, .long w0_5, .long w0_6, .long w0_7, .long w0_8, .long w0_9, .long w0_10, .long w0_11, .long w0_12, .int w0_13, .ref h1])), (h1, .inl (cI, 6600, .inl w1))]) [0, 1] (by decide) rfl
          have hKc := hK.sub (tys' := [(cI, .int)]) [0] rfl
          have hFc := va_free (wc := [(h0, .inr (3, [.int w0_0, .long w0_1, .long w0_2, .long w0_3, .long w0_4, .long w0_5, .long w0_6, .long w0_7, .long w0_8, .long w0_9, .long w0_10, .long w0_11, .long w0_12, .int w0_13, .ref h1])), (h1, .inl (cI, 6600, .inl w1))]) hD hS hA [0, 1] rfl
          refine va_callv (va_runV (As := [.int u4, .int u5, .int 0]) (rest := []) ⟨hx, hb, hml, hown, hts⟩ (c_X3_put l dC dI H.size h0 h1 cI w0_0 w0_1 w0_2 w0_3 w0_4 w0_5 w0_6 w0_7 w0_8 w0_9 w0_10 w0_11 w0_12 w0_13 w1 u4 u5 0 n _ e_3) (cwV 3 hts gX3_take_X3_put rfl rfl rfl (by decide +kernel) ⟨Nat.le_of_ble_eq_true rfl, Nat.le_of_ble_eq_true rfl⟩) ⟨fun a U g mk q => by obtain ⟨q0, q1, qP, qK, qD⟩ := q; exact ⟨q0, q1, qP, va_K.moved (u := U) (U := U.calling g mk a) (Vm.Alike.refl U.vm) qK, qD⟩, va_recv hKc hPc (ci := 3) (q0 := 0) rfl rfl, fun U hU hW => ⟨rfl, by rw [hU], by rw [hU]; exact hPc, va_K.moved hW.alike hKc, hDc.weaken (fun _ _ _ _ => trivial)⟩⟩ rfl rfl hl.1 rfl (lv_room (Nat.le_of_ble_eq_true rfl)) dX3_take_209 ⟨Nat.zero_le _, Nat.zero_le _⟩) hS (fun q _ h => hFc q h) hFc (fun _ t H1 locs ht hvm hw hB hz1 hk1 hS => ?_)
          obtain ⟨hP1, hK1, hD1⟩ := hB
          rw [ht] at hP1
          obtain ⟨hP, hD⟩ := va_join (wr := []) (w1 := [(h0, .inr (3, [.int w0_0, .long w0_1, .long w0_2, .long w0_3, .long w0_4, .long w0_5, .long w0_6, .long w0_7, .long w0_8, .long w0_9, .long w0_10, .long w0_11, .long w0_12, .int w0_13, .ref h1])), (h1, .inl (cI, 6600, .inl r_4))]) hP hD [0, 1] [] rfl rfl (by decide) (by decide) hk1 hFc hP1 hD1
          generalize H1 = H at hP hS ⊢
          have hP : va_P (dC, dI) vwCl [(h0, .inr (3, [.int w0_0, .long w0_1, .long w0_2, .long w0_3, .long w0_4, .long w0_5, .long w0_6, .long w0_7, .long w0_8, .long w0_9, .long w0_10, .long w0_11, .long w0_12, .int w0_13, .ref h1])), (h1, .inl (cI, 6600, .inl r_4))] H := hP
          have hD : va_D A [(h0, .inr (3, [.int w0_0, .long w0_1, .long w0_2, .long w0_3, .long w0_4, .long w0_5, .long w0_6, .long w0_7, .long w0_8, .long w0_9, .long w0_10, .long w0_11, .long w0_12, .int w0_13, .ref h1])), (h1, .inl (cI, 6600, .inl r_4))] := hD
          refine W.widen (k := 0) (n := 0) (Nat.le_refl _) (Nat.le_refl _) ?_
          refine lv_iinc (v := u5 + 1) (lv' := [(5, .int (u5 + 1)), (0, .ref h0), (1, .int a1), (2, .int a2), (3, .int a3), (4, .int u4)]) hx hb dX3_take_212 hl (k := 5) rfl rfl (by decide) rfl (fun ls hl => ?_)
          refine lv_goto (tgt := 174) hx hb dX3_take_215 (by decide) ?_
          exact ih u4 (u5 + 1) r_4 w0_0 w0_1 w0_2 w0_3 w0_4 w0_5 w0_6 w0_7 w0_8 w0_9 w0_10 w0_11 w0_12 w0_13 hr _ _ _ hP hD hS (lv_sub hl [1, 2, 3, 4, 5, 0] rfl)
      · have hr := (if_pos c_2).symm.trans hr
        refine lv_iload hx hb dX3_take_193 (lv_at hl 4 rfl) ?_
        refine lz_zeq (tgt := 204) hx hb dX3_take_195 (by decide) (fun c_6 => ?_) (fun c_6 => ?_)
        · have hr := (if_pos c_6).symm.trans hr
          refine lv_iconst (v := 1) hx hb dX3_take_204 (by decide) ?_
          refine lv_goto (tgt := 209) hx hb dX3_take_205 (by decide) ?_
          cases e_7 : f_X3_put n w1 u4 u5 1 with
          | none => rw [e_7, Option.bind_none] at hr; cases hr
          | some r_8 =>
            rw [e_7, Option.bind_some] at hr
            have hPc := hP.sub (ws' := [(h0, .inr (3, [.int w0_0, .long w0_1, .long w0_2, .long w0_3, .long w0_4, .long w0_5, .long w0_6, .long w0_7, .long w0_8, .long w0_9, .long w0_10, .long w0_11, .long w0_12, .int w0_13, .ref h1])), (h1, .inl (cI, 6600, .inl w1))]) [0, 1] rfl
            have hDc := hD.sub (ws' := [(h0, .inr (3, [.int w0_0, .long w0_1, .long w0_2, .long w0_3, .long w0_4, .long w0_5, .long w0_6, .long w0_7, .long w0_8, .long w0_9, .long w0_10, .long w0_11, .long w0_12, .int w0_13, .ref h1])), (h1, .inl (cI, 6600, .inl w1))]) [0, 1] (by decide) rfl
            have hKc := hK.sub (tys' := [(cI, .int)]) [0] rfl
            have hFc := va_free (wc := [(h0, .inr (3, [.int w0_0, .long w0_1, .long w0_2, .long w0_3, .long w0_4, .long w0_5, .long w0_6, .long w0_7, .long w0_8, .long w0_9, .long w0_10, .long w0_11, .long w0_12, .int w0_13, .ref h1])), (h1, .inl (cI, 6600, .inl w1))]) hD hS hA [0, 1] rfl
            refine va_callv (va_runV (As := [.int u4, .int u5, .int 1]) (rest := []) ⟨hx, hb, hml, hown, hts⟩ (c_X3_put l dC dI H.size h0 h1 cI w0_0 w0_1 w0_2 w0_3 w0_4 w0_5 w0_6 w0_7 w0_8 w0_9 w0_10 w0_11 w0_12 w0_13 w1 u4 u5 1 n _ e_7) (cwV 3 hts gX3_take_X3_put rfl rfl rfl (by decide +kernel) ⟨Nat.le_of_ble_eq_true rfl, Nat.le_of_ble_eq_true rfl⟩) ⟨fun a U g mk q => by obtain ⟨q0, q1, qP, qK, qD⟩ := q; exact ⟨q0, q1, qP, va_K.moved (u := U) (U := U.calling g mk a) (Vm.Alike.refl U.vm) qK, qD⟩, va_recv hKc hPc (ci := 3) (q0 := 0) rfl rfl, fun U hU hW => ⟨rfl, by rw [hU], by rw [hU]; exact hPc, va_K.moved hW.alike hKc, hDc.weaken (fun _ _ _ _ => trivial)⟩⟩ rfl rfl hl.1 rfl (lv_room (Nat.le_of_ble_eq_true rfl)) dX3_take_209 ⟨Nat.zero_le _, Nat.zero_le _⟩) hS (fun q _ h => hFc q h) hFc (fun _ t H1 locs ht hvm hw hB hz1 hk1 hS => ?_)
            obtain ⟨hP1, hK1, hD1⟩ := hB
            rw [ht] at hP1
            obtain ⟨hP, hD⟩ := va_join (wr := []) (w1 := [(h0, .inr (3, [.int w0_0, .long w0_1, .long w0_2, .long w0_3, .long w0_4, .long w0_5, .long w0_6, .long w0_7, .long w0_8, .long w0_9, .long w0_10, .long w0_11, .long w0_12, .int w0_13, .ref h1])), (h1, .inl (cI, 6600, .inl r_8))]) hP hD [0, 1] [] rfl rfl (by decide) (by decide) hk1 hFc hP1 hD1
            generalize H1 = H at hP hS ⊢
            have hP : va_P (dC, dI) vwCl [(h0, .inr (3, [.int w0_0, .long w0_1, .long w0_2, .long w0_3, .long w0_4, .long w0_5, .long w0_6, .long w0_7, .long w0_8, .long w0_9, .long w0_10, .long w0_11, .long w0_12, .int w0_13, .ref h1])), (h1, .inl (cI, 6600, .inl r_8))] H := hP
            have hD : va_D A [(h0, .inr (3, [.int w0_0, .long w0_1, .long w0_2, .long w0_3, .long w0_4, .long w0_5, .long w0_6, .long w0_7, .long w0_8, .long w0_9, .long w0_10, .long w0_11, .long w0_12, .int w0_13, .ref h1])), (h1, .inl (cI, 6600, .inl r_8))] := hD
            refine W.widen (k := 0) (n := 0) (Nat.le_refl _) (Nat.le_refl _) ?_
            refine lv_iinc (v := u5 + 1) (lv' := [(5, .int (u5 + 1)), (0, .ref h0), (1, .int a1), (2, .int a2), (3, .int a3), (4, .int u4)]) hx hb dX3_take_212 hl (k := 5) rfl rfl (by decide) rfl (fun ls hl => ?_)
            refine lv_goto (tgt := 174) hx hb dX3_take_215 (by decide) ?_
            exact ih u4 (u5 + 1) r_8 w0_0 w0_1 w0_2 w0_3 w0_4 w0_5 w0_6 w0_7 w0_8 w0_9 w0_10 w0_11 w0_12 w0_13 hr _ _ _ hP hD hS (lv_sub hl [1, 2, 3, 4, 5, 0] rfl)
        · have hr := (if_neg c_6).symm.trans hr
          refine lv_iload hx hb dX3_take_198 (lv_at hl 4 rfl) ?_
          refine lv_iconst (v := 3) hx hb dX3_take_200 (by decide) ?_
          refine lz_ine (tgt := 208) hx hb dX3_take_201 (by decide) (fun c_10 => ?_) (fun c_10 => ?_)
          · have hr := (if_neg c_10).symm.trans hr
            refine lv_iconst (v := 0) hx hb dX3_take_208 (by decide) ?_
            cases e_11 : f_X3_put n w1 u4 u5 0 with
            | none => rw [e_11, Option.bind_none] at hr; cases hr
            | some r_12 =>
              rw [e_11, Option.bind_some] at hr
              have hPc := hP.sub (ws' := [(h0, .inr (3, [.int w0_0, .long w0_1, .long w0_2, .long w0_3, .long w0_4, .long w0_5, .long w0_6, .long w0_7, .long w0_8, .long w0_9, .long w0_10, .long w0_11, .long w0_12, .int w0_13, .ref h1])), (h1, .inl (cI, 6600, .inl w1))]) [0, 1] rfl
              have hDc := hD.sub (ws' := [(h0, .inr (3, [.int w0_0, .long w0_1, .long w0_2, .long w0_3, .long w0_4, .long w0_5, .long w0_6, .long w0_7, .long w0_8, .long w0_9, .long w0_10, .long w0_11, .long w0_12, .int w0_13, .ref h1])), (h1, .inl (cI, 6600, .inl w1))]) [0, 1] (by decide) rfl
              have hKc := hK.sub (tys' := [(cI, .int)]) [0] rfl
              have hFc := va_free (wc := [(h0, .inr (3, [.int w0_0, .long w0_1, .long w0_2, .long w0_3, .long w0_4, .long w0_5, .long w0_6, .long w0_7, .long w0_8, .long w0_9, .long w0_10, .long w0_11, .long w0_12, .int w0_13, .ref h1])), (h1, .inl (cI, 6600, .inl w1))]) hD hS hA [0, 1] rfl
              refine va_callv (va_runV (As := [.int u4, .int u5, .int 0]) (rest := []) ⟨hx, hb, hml, hown, hts⟩ (c_X3_put l dC dI H.size h0 h1 cI w0_0 w0_1 w0_2 w0_3 w0_4 w0_5 w0_6 w0_7 w0_8 w0_9 w0_10 w0_11 w0_12 w0_13 w1 u4 u5 0 n _ e_11) (cwV 3 hts gX3_take_X3_put rfl rfl rfl (by decide +kernel) ⟨Nat.le_of_ble_eq_true rfl, Nat.le_of_ble_eq_true rfl⟩) ⟨fun a U g mk q => by obtain ⟨q0, q1, qP, qK, qD⟩ := q; exact ⟨q0, q1, qP, va_K.moved (u := U) (U := U.calling g mk a) (Vm.Alike.refl U.vm) qK, qD⟩, va_recv hKc hPc (ci := 3) (q0 := 0) rfl rfl, fun U hU hW => ⟨rfl, by rw [hU], by rw [hU]; exact hPc, va_K.moved hW.alike hKc, hDc.weaken (fun _ _ _ _ => trivial)⟩⟩ rfl rfl hl.1 rfl (lv_room (Nat.le_of_ble_eq_true rfl)) dX3_take_209 ⟨Nat.zero_le _, Nat.zero_le _⟩) hS (fun q _ h => hFc q h) hFc (fun _ t H1 locs ht hvm hw hB hz1 hk1 hS => ?_)
              obtain ⟨hP1, hK1, hD1⟩ := hB
              rw [ht] at hP1
              obtain ⟨hP, hD⟩ := va_join (wr := []) (w1 := [(h0, .inr (3, [.int w0_0, .long w0_1, .long w0_2, .long w0_3, .long w0_4, .long w0_5, .long w0_6, .long w0_7, .long w0_8, .long w0_9, .long w0_10, .long w0_11, .long w0_12, .int w0_13, .ref h1])), (h1, .inl (cI, 6600, .inl r_12))]) hP hD [0, 1] [] rfl rfl (by decide) (by decide) hk1 hFc hP1 hD1
              generalize H1 = H at hP hS ⊢
              have hP : va_P (dC, dI) vwCl [(h0, .inr (3, [.int w0_0, .long w0_1, .long w0_2, .long w0_3, .long w0_4, .long w0_5, .long w0_6, .long w0_7, .long w0_8, .long w0_9, .long w0_10, .long w0_11, .long w0_12, .int w0_13, .ref h1])), (h1, .inl (cI, 6600, .inl r_12))] H := hP
              have hD : va_D A [(h0, .inr (3, [.int w0_0, .long w0_1, .long w0_2, .long w0_3, .long w0_4, .long w0_5, .long w0_6, .long w0_7, .long w0_8, .long w0_9, .long w0_10, .long w0_11, .long w0_12, .int w0_13, .ref h1])), (h1, .inl (cI, 6600, .inl r_12))] := hD
              refine W.widen (k := 0) (n := 0) (Nat.le_refl _) (Nat.le_refl _) ?_
              refine lv_iinc (v := u5 + 1) (lv' := [(5, .int (u5 + 1)), (0, .ref h0), (1, .int a1), (2, .int a2), (3, .int a3), (4, .int u4)]) hx hb dX3_take_212 hl (k := 5) rfl rfl (by decide) rfl (fun ls hl => ?_)
              refine lv_goto (tgt := 174) hx hb dX3_take_215 (by decide) ?_
              exact ih u4 (u5 + 1) r_12 w0_0 w0_1 w0_2 w0_3 w0_4 w0_5 w0_6 w0_7 w0_8 w0_9 w0_10 w0_11 w0_12 w0_13 hr _ _ _ hP hD hS (lv_sub hl [1, 2, 3, 4, 5, 0] rfl)
          · have hr := (if_pos c_10).symm.trans hr
            refine lv_iconst (v := 1) hx hb dX3_take_204 (by decide) ?_
            refine lv_goto (tgt := 209) hx hb dX3_take_205 (by decide) ?_
            cases e_14 : f_X3_put n w1 u4 u5 1 with
            | none => rw [e_14, Option.bind_none] at hr; cases hr
            | some r_15 =>
              rw [e_14, Option.bind_some] at hr
              have hPc := hP.sub (ws' := [(h0, .inr (3, [.int w0_0, .long w0_1, .long w0_2, .long w0_3, .long w0_4, .long w0_5, .long w0_6, .long w0_7, .long w0_8, .long w0_9, .long w0_10, .long w0_11, .long w0_12, .int w0_13, .ref h1])), (h1, .inl (cI, 6600, .inl w1))]) [0, 1] rfl
              have hDc := hD.sub (ws' := [(h0, .inr (3, [.int w0_0, .long w0_1, .long w0_2, .long w0_3, .long w0_4, .long w0_5, .long w0_6, .long w0_7, .long w0_8, .long w0_9, .long w0_10, .long w0_11, .long w0_12, .int w0_13, .ref h1])), (h1, .inl (cI, 6600, .inl w1))]) [0, 1] (by decide) rfl
              have hKc := hK.sub (tys' := [(cI, .int)]) [0] rfl
              have hFc := va_free (wc := [(h0, .inr (3, [.int w0_0, .long w0_1, .long w0_2, .long w0_3, .long w0_4, .long w0_5, .long w0_6, .long w0_7, .long w0_8, .long w0_9, .long w0_10, .long w0_11, .long w0_12, .int w0_13, .ref h1])), (h1, .inl (cI, 6600, .inl w1))]) hD hS hA [0, 1] rfl
              refine va_callv (va_runV (As := [.int u4, .int u5, .int 1]) (rest := []) ⟨hx, hb, hml, hown, hts⟩ (c_X3_put l dC dI H.size h0 h1 cI w0_0 w0_1 w0_2 w0_3 w0_4 w0_5 w0_6 w0_7 w0_8 w0_9 w0_10 w0_11 w0_12 w0_13 w1 u4 u5 1 n _ e_14) (cwV 3 hts gX3_take_X3_put rfl rfl rfl (by decide +kernel) ⟨Nat.le_of_ble_eq_true rfl, Nat.le_of_ble_eq_true rfl⟩) ⟨fun a U g mk q => by obtain ⟨q0, q1, qP, qK, qD⟩ := q; exact ⟨q0, q1, qP, va_K.moved (u := U) (U := U.calling g mk a) (Vm.Alike.refl U.vm) qK, qD⟩, va_recv hKc hPc (ci := 3) (q0 := 0) rfl rfl, fun U hU hW => ⟨rfl, by rw [hU], by rw [hU]; exact hPc, va_K.moved hW.alike hKc, hDc.weaken (fun _ _ _ _ => trivial)⟩⟩ rfl rfl hl.1 rfl (lv_room (Nat.le_of_ble_eq_true rfl)) dX3_take_209 ⟨Nat.zero_le _, Nat.zero_le _⟩) hS (fun q _ h => hFc q h) hFc (fun _ t H1 locs ht hvm hw hB hz1 hk1 hS => ?_)
              obtain ⟨hP1, hK1, hD1⟩ := hB
              rw [ht] at hP1
              obtain ⟨hP, hD⟩ := va_join (wr := []) (w1 := [(h0, .inr (3, [.int w0_0, .long w0_1, .long w0_2, .long w0_3, .long w0_4, .long w0_5, .long w0_6, .long w0_7, .long w0_8, .long w0_9, .long w0_10, .long w0_11, .long w0_12, .int w0_13, .ref h1])), (h1, .inl (cI, 6600, .inl r_15))]) hP hD [0, 1] [] rfl rfl (by decide) (by decide) hk1 hFc hP1 hD1
              generalize H1 = H at hP hS ⊢
              have hP : va_P (dC, dI) vwCl [(h0, .inr (3, [.int w0_0, .long w0_1, .long w0_2, .long w0_3, .long w0_4, .long w0_5, .long w0_6, .long w0_7, .long w0_8, .long w0_9, .long w0_10, .long w0_11, .long w0_12, .int w0_13, .ref h1])), (h1, .inl (cI, 6600, .inl r_15))] H := hP
              have hD : va_D A [(h0, .inr (3, [.int w0_0, .long w0_1, .long w0_2, .long w0_3, .long w0_4, .long w0_5, .long w0_6, .long w0_7, .long w0_8, .long w0_9, .long w0_10, .long w0_11, .long w0_12, .int w0_13, .ref h1])), (h1, .inl (cI, 6600, .inl r_15))] := hD
              refine W.widen (k := 0) (n := 0) (Nat.le_refl _) (Nat.le_refl _) ?_
              refine lv_iinc (v := u5 + 1) (lv' := [(5, .int (u5 + 1)), (0, .ref h0), (1, .int a1), (2, .int a2), (3, .int a3), (4, .int u4)]) hx hb dX3_take_212 hl (k := 5) rfl rfl (by decide) rfl (fun ls hl => ?_)
              refine lv_goto (tgt := 174) hx hb dX3_take_215 (by decide) ?_
              exact ih u4 (u5 + 1) r_15 w0_0 w0_1 w0_2 w0_3 w0_4 w0_5 w0_6 w0_7 w0_8 w0_9 w0_10 w0_11 w0_12 w0_13 hr _ _ _ hP hD hS (lv_sub hl [1, 2, 3, 4, 5, 0] rfl)
def f_X3_take_269 (n : Nat) : Nat → Int32 → (Nat → Int32) → Int32 → Int64 → Int64 → Int64 → Int64 → Int64 → Int64 → Int64 → Int64 → Int64 → Int64 → Int64 → Int64 → Int32 → Option (Int32 × (Nat → Int32) × Int32 × Int64 × Int64 × Int64 × Int64 × Int64 × Int64 × Int64 × Int64 × Int64 × Int64 × Int64 × Int64 × Int32)
  | 0, _, _, _, _, _, _, _, _, _, _, _, _, _, _, _, _ => none
  | k + 1, u4, w1, w0_0, w0_1, w0_2, w0_3, w0_4, w0_5, w0_6, w0_7, w0_8, w0_9, w0_10, w0_11, w0_12, w0_13 => if u4 = 0 then ((f_X3_step n w0_7 w0_8 w0_4 w0_5).bind (fun r_3 => (f_X3_turnBack n w0_13 w1 r_3.2.2.2).bind (fun r_6 => (f_X3_isReduced n r_3.1 r_3.2.1 r_3.2.2.1 w0_4 w0_5).bind (fun r_9 => if r_9 = 0 then (f_X3_take_269 n k 0 r_6.1 w0_0 w0_1 w0_2 w0_3 w0_4 w0_5 r_3.1 r_3.2.1 r_3.2.2.1 r_3.2.2.2 w0_10 w0_11 w0_12 r_6.2) else ((f_X3_isName n r_3.1 r_3.2.1 w0_10 w0_11).bind (fun r_14 => if r_14 = 0 then (f_X3_take_269 n k 0 r_6.1 w0_0 w0_1 w0_2 w0_3 w0_4 w0_5 r_3.1 r_3.2.1 r_3.2.2.1 r_3.2.2.2 w0_10 w0_11 w0_12 r_6.2) else (f_X3_take_269 n k 1 r_6.1 w0_0 w0_1 w0_2 w0_3 w0_4 w0_5 r_3.1 r_3.2.1 r_3.2.2.1 r_3.2.2.2 w0_10 w0_11 w0_12 r_6.2))))))) else (some (w0_4.toInt32, w1, w0_0, w0_1, w0_2, w0_3, w0_4, w0_5, w0_6, w0_7, w0_8, w0_9, w0_10, w0_11, w0_12, w0_13))
set_option maxHeartbeats 4000000 in
set_option maxRecDepth 100000 in
theorem k_X3_take_269 {p : Program} {l : Launch} {e : Env} {s : State} {m : MethodId} {args : Array Value} {below : List Frame} {meth : Method} {c : Code} {dC : Nat → ClassId} {dI : Nat → Nat → Nat} {A : Nat → Prop} {h0 : Nat} {h1 : Nat} {cI : ClassId} {a1 : Int32} {a2 : Int32} {a3 : Int32} (hx : p.tables.exec = Jvm.exec) (hb : c.code = cX3_take) (hrt : meth.sig.returnType = (some .int)) (hml : c.maxLocals = 6) (hown : s.vm.findClass RX3 = some m.cls) (hlocks : meth.locks = false) (hts : ∀ w ∈ wsX3_take, w.before args s = true) (hA : ∀ q : Nat, s.heap.size ≤ q → A q) (hK : va_K (dC, dI) vwCl [(cI, .int)] s)  (n : Nat) (out : Int32 × (Nat → Int32) × Int32 × Int64 × Int64 × Int64 × Int64 × Int64 × Int64 × Int64 × Int64 × Int64 × Int64 × Int64 × Int64 × Int32) :
    ∀ (k : Nat) (u4 : Int32) (w1 : Nat → Int32) (w0_0 : Int32) (w0_1 : Int64) (w0_2 : Int64) (w0_3 : Int64) (w0_4 : Int64) (w0_5 : Int64) (w0_6 : Int64) (w0_7 : Int64) (w0_8 : Int64) (w0_9 : Int64) (w0_10 : Int64) (w0_11 : Int64) (w0_12 : Int64) (w0_13 : Int32), f_X3_take_269 n k u4 w1 w0_0 w0_1 w0_2 w0_3 w0_4 w0_5 w0_6 w0_7 w0_8 w0_9 w0_10 w0_11 w0_12 w0_13 = some out → ∀ (H : Heap) (locs : List Loc) (ls : Array Slot), va_P (dC, dI) vwCl [(h0, .inr (3, [.int w0_0, .long w0_1, .long w0_2, .long w0_3, .long w0_4, .long w0_5, .long w0_6, .long w0_7, .long w0_8, .long w0_9, .long w0_10, .long w0_11, .long w0_12, .int w0_13, .ref h1])), (h1, .inl (cI, 6600, .inl w1))] H → va_D A [(h0, .inr (3, [.int w0_0, .long w0_1, .long w0_2, .long w0_3, .long w0_4, .long w0_5, .long w0_6, .long w0_7, .long w0_8, .long w0_9, .long w0_10, .long w0_11, .long w0_12, .int w0_13, .ref h1])), (h1, .inl (cI, 6600, .inl w1))] → va_S A s.heap H locs → lv_has ls 6 [(0, .ref h0), (1, .int a1), (2, .int a2), (3, .int a3), (4, .int u4)] → W p l e ({ frames := 4, cells := 0, slots := 0, locals := 91 }) s m args below meth c H locs 0 0 (MQ below (va_Qi (fun r (_ : Unit) => r = out.1) (fun (_ : Unit) t => zB dC dI [(cI, .int)] A [(h0, .inr (3, [.int out.2.2.1, .long out.2.2.2.1, .long out.2.2.2.2.1, .long out.2.2.2.2.2.1, .long out.2.2.2.2.2.2.1, .long out.2.2.2.2.2.2.2.1, .long out.2.2.2.2.2.2.2.2.1, .long out.2.2.2.2.2.2.2.2.2.1, .long out.2.2.2.2.2.2.2.2.2.2.1, .long out.2.2.2.2.2.2.2.2.2.2.2.1, .long out.2.2.2.2.2.2.2.2.2.2.2.2.1, .long out.2.2.2.2.2.2.2.2.2.2.2.2.2.1, .long out.2.2.2.2.2.2.2.2.2.2.2.2.2.2.1, .int out.2.2.2.2.2.2.2.2.2.2.2.2.2.2.2, .ref h1])), (h1, .inl (cI, 6600, .inl out.2.1))] t) A) args s 0 0 A) (F0 m 269 ls []) := by
  intro k
  induction k with
  | zero => intro u4 w1 w0_0 w0_1 w0_2 w0_3 w0_4 w0_5 w0_6 w0_7 w0_8 w0_9 w0_10 w0_11 w0_12 w0_13 hr; rw [f_X3_take_269] at hr; cases hr
  | succ k ih =>
    intro u4 w1 w0_0 w0_1 w0_2 w0_3 w0_4 w0_5 w0_6 w0_7 w0_8 w0_9 w0_10 w0_11 w0_12 w0_13 hr H locs ls hP hD hS hl
    rw [f_X3_take_269] at hr
    refine lv_iload hx hb dX3_take_269 (lv_at hl 4 rfl) ?_
    refine lz_zne (tgt := 326) hx hb dX3_take_271 (by decide) (fun c_1 => ?_) (fun c_1 => ?_)
    · have hr := (if_neg c_1).symm.trans hr
      refine lv_aload_n hx hb dX3_take_326 rfl (lv_at hl 0 rfl) ?_
      refine va_get (D := (dC, dI)) (ci := 3) (v := .long w0_4) (C := RX3) (T := TX3) (N := 15) hx hb hts in_X3_take_X3 hown hK hP 0 rfl rfl 4 (by decide) (hts (.fieldLink RX3 18 "FormRingModel" "d" "J") (by decide +kernel)) (fun _ h9 => h9) rfl dX3_take_327 ?_
      refine lv_l2i hx hb dX3_take_330 rfl ?_
      have ho := Option.some.inj hr
      subst ho
      exact W.iret (v := w0_4.toInt32) hx hb hrt (fun t ht hW => ⟨⟨w0_4.toInt32, (), rfl, rfl, by rw [ht]; exact hP, va_K.moved hW.alike hK, hD⟩, hS.F ht⟩) hS.2.2 dX3_take_331
    · have hr := (if_pos c_1).symm.trans hr
      refine lv_aload_n hx hb dX3_take_274 rfl (lv_at hl 0 rfl) ?_
      refine lv_aload_n hx hb dX3_take_275 rfl (lv_at hl 0 rfl) ?_
      refine va_get (D := (dC, dI)) (ci := 3) (v := .long w0_4) (C := RX3) (T := TX3) (N := 15) hx hb hts in_X3_take_X3 hown hK hP 0 rfl rfl 4 (by decide) (hts (.fieldLink RX3 18 "FormRingModel" "d" "J") (by decide +kernel)) (fun _ h9 => h9) rfl dX3_take_276 ?_
      refine lv_aload_n hx hb dX3_take_279 rfl (lv_at hl 0 rfl) ?_
      refine va_get (D := (dC, dI)) (ci := 3) (v := .long w0_5) (C := RX3) (T := TX3) (N := 15) hx hb hts in_X3_take_X3 hown hK hP 0 rfl rfl 5 (by decide) (hts (.fieldLink RX3 23 "FormRingModel" "w" "J") (by decide +kernel)) (fun _ h9 => h9) rfl dX3_take_280 ?_
      cases e_2 : f_X3_step n w0_7 w0_8 w0_4 w0_5 with
      | none => rw [e_2, Option.bind_none] at hr; cases hr
      | some r_3 =>
        rw [e_2, Option.bind_some] at hr
        have hPc := hP.sub (ws' := [(h0, .inr (3, [.int w0_0, .long w0_1, .long w0_2, .long w0_3, .long w0_4, .long w0_5, .long w0_6, .long w0_7, .long w0_8, .long w0_9, .long w0_10, .long w0_11, .long w0_12, .int w0_13, .ref h1])), (h1, .inl (cI, 6600, .inl w1))]) [0, 1] rfl
        have hDc := hD.sub (ws' := [(h0, .inr (3, [.int w0_0, .long w0_1, .long w0_2, .long w0_3, .long w0_4, .long w0_5, .long w0_6, .long w0_7, .long w0_8, .long w0_9, .long w0_10, .long w0_11, .long w0_12, .int w0_13, .ref h1])), (h1, .inl (cI, 6600, .inl w1))]) [0, 1] (by decide) rfl
        have hKc := hK.sub (tys' := [(cI, .int)]) [0] rfl
        have hFc := va_free (wc := [(h0, .inr (3, [.int w0_0, .long w0_1, .long w0_2, .long w0_3, .long w0_4, .long w0_5, .long w0_6, .long w0_7, .long w0_8, .long w0_9, .long w0_10, .long w0_11, .long w0_12, .int w0_13, .ref h1])), (h1, .inl (cI, 6600, .inl w1))]) hD hS hA [0, 1] rfl
        refine va_callv (va_runV (As := [.long w0_4, .long w0_5]) (rest := []) ⟨hx, hb, hml, hown, hts⟩ (c_X3_step l dC dI H.size h0 h1 cI w0_0 w0_1 w0_2 w0_3 w0_4 w0_5 w0_6 w0_7 w0_8 w0_9 w0_10 w0_11 w0_12 w0_13 w1 w0_4 w0_5 n _ e_2) (cwV 2 hts gX3_take_X3_step rfl rfl rfl (by decide +kernel) ⟨Nat.le_of_ble_eq_true rfl, Nat.le_of_ble_eq_true rfl⟩) ⟨fun a U g mk q => by obtain ⟨q0, q1, qP, qK, qD⟩ := q; exact ⟨q0, q1, qP, va_K.moved (u := U) (U := U.calling g mk a) (Vm.Alike.refl U.vm) qK, qD⟩, va_recv hKc hPc (ci := 3) (q0 := 0) rfl rfl, fun U hU hW => ⟨rfl, by rw [hU], by rw [hU]; exact hPc, va_K.moved hW.alike hKc, hDc.weaken (fun _ _ _ _ => trivial)⟩⟩ rfl rfl hl.1 rfl (lv_room (Nat.le_of_ble_eq_true rfl)) dX3_take_283 ⟨Nat.zero_le _, Nat.zero_le _⟩) hS (fun q _ h => hFc q h) hFc (fun _ t H1 locs ht hvm hw hB hz1 hk1 hS => ?_)
        obtain ⟨hP1, hK1, hD1⟩ := hB
        rw [ht] at hP1
        obtain ⟨hP, hD⟩ := va_join (wr := []) (w1 := [(h0, .inr (3, [.int w0_0, .long w0_1, .long w0_2, .long w0_3, .long w0_4, .long w0_5, .long r_3.1, .long r_3.2.1, .long r_3.2.2.1, .long r_3.2.2.2, .long w0_10, .long w0_11, .long w0_12, .int w0_13, .ref h1])), (h1, .inl (cI, 6600, .inl w1))]) hP hD [0, 1] [] rfl rfl (by decide) (by decide) hk1 hFc hP1 hD1
        generalize H1 = H at hP hS ⊢
        have hP : va_P (dC, dI) vwCl [(h0, .inr (3, [.int w0_0, .long w0_1, .long w0_2, .long w0_3, .long w0_4, .long w0_5, .long r_3.1, .long r_3.2.1, .long r_3.2.2.1, .long r_3.2.2.2, .long w0_10, .long w0_11, .long w0_12, .int w0_13, .ref h1])), (h1, .inl (cI, 6600, .inl w1))] H := hP
        have hD : va_D A [(h0, .inr (3, [.int w0_0, .long w0_1, .long w0_2, .long w0_3, .long w0_4, .long w0_5, .long r_3.1, .long r_3.2.1, .long r_3.2.2.1, .long r_3.2.2.2, .long w0_10, .long w0_11, .long w0_12, .int w0_13, .ref h1])), (h1, .inl (cI, 6600, .inl w1))] := hD
        refine W.widen (k := 0) (n := 0) (Nat.le_refl _) (Nat.le_refl _) ?_
        refine lv_aload_n hx hb dX3_take_286 rfl (lv_at hl 0 rfl) ?_
        refine lv_aload_n hx hb dX3_take_287 rfl (lv_at hl 0 rfl) ?_
        refine va_get (D := (dC, dI)) (ci := 3) (v := .long r_3.2.2.2) (C := RX3) (T := TX3) (N := 15) hx hb hts in_X3_take_X3 hown hK hP 0 rfl rfl 9 (by decide) (hts (.fieldLink RX3 83 "FormRingModel" "turn" "J") (by decide +kernel)) (fun _ h9 => h9) rfl dX3_take_288 ?_
        cases e_5 : f_X3_turnBack n w0_13 w1 r_3.2.2.2 with
        | none => rw [e_5, Option.bind_none] at hr; cases hr
        | some r_6 =>
          rw [e_5, Option.bind_some] at hr
          have hPc := hP.sub (ws' := [(h0, .inr (3, [.int w0_0, .long w0_1, .long w0_2, .long w0_3, .long w0_4, .long w0_5, .long r_3.1, .long r_3.2.1, .long r_3.2.2.1, .long r_3.2.2.2, .long w0_10, .long w0_11, .long w0_12, .int w0_13, .ref h1])), (h1, .inl (cI, 6600, .inl w1))]) [0, 1] rfl
          have hDc := hD.sub (ws' := [(h0, .inr (3, [.int w0_0, .long w0_1, .long w0_2, .long w0_3, .long w0_4, .long w0_5, .long r_3.1, .long r_3.2.1, .long r_3.2.2.1, .long r_3.2.2.2, .long w0_10, .long w0_11, .long w0_12, .int w0_13, .ref h1])), (h1, .inl (cI, 6600, .inl w1))]) [0, 1] (by decide) rfl
          have hKc := hK.sub (tys' := [(cI, .int)]) [0] rfl
          have hFc := va_free (wc := [(h0, .inr (3, [.int w0_0, .long w0_1, .long w0_2, .long w0_3, .long w0_4, .long w0_5, .long r_3.1, .long r_3.2.1, .long r_3.2.2.1, .long r_3.2.2.2, .long w0_10, .long w0_11, .long w0_12, .int w0_13, .ref h1])), (h1, .inl (cI, 6600, .inl w1))]) hD hS hA [0, 1] rfl
          refine va_callv (va_runV (As := [.long r_3.2.2.2]) (rest := []) ⟨hx, hb, hml, hown, hts⟩ (c_X3_turnBack l dC dI H.size h0 h1 cI w0_0 w0_1 w0_2 w0_3 w0_4 w0_5 r_3.1 r_3.2.1 r_3.2.2.1 r_3.2.2.2 w0_10 w0_11 w0_12 w0_13 w1 r_3.2.2.2 n _ e_5) (cwV 1 hts gX3_take_X3_turnBack rfl rfl rfl (by decide +kernel) ⟨Nat.le_of_ble_eq_true rfl, Nat.le_of_ble_eq_true rfl⟩) ⟨fun a U g mk q => by obtain ⟨q0, q1, qP, qK, qD⟩ := q; exact ⟨q0, q1, qP, va_K.moved (u := U) (U := U.calling g mk a) (Vm.Alike.refl U.vm) qK, qD⟩, va_recv hKc hPc (ci := 3) (q0 := 0) rfl rfl, fun U hU hW => ⟨rfl, by rw [hU], by rw [hU]; exact hPc, va_K.moved hW.alike hKc, hDc.weaken (fun _ _ _ _ => trivial)⟩⟩ rfl rfl hl.1 rfl (lv_room (Nat.le_of_ble_eq_true rfl)) dX3_take_291 ⟨Nat.zero_le _, Nat.zero_le _⟩) hS (fun q _ h => hFc q h) hFc (fun _ t H1 locs ht hvm hw hB hz1 hk1 hS => ?_)
          obtain ⟨hP1, hK1, hD1⟩ := hB
          rw [ht] at hP1
          obtain ⟨hP, hD⟩ := va_join (wr := []) (w1 := [(h0, .inr (3, [.int w0_0, .long w0_1, .long w0_2, .long w0_3, .long w0_4, .long w0_5, .long r_3.1, .long r_3.2.1, .long r_3.2.2.1, .long r_3.2.2.2, .long w0_10, .long w0_11, .long w0_12, .int r_6.2, .ref h1])), (h1, .inl (cI, 6600, .inl r_6.1))]) hP hD [0, 1] [] rfl rfl (by decide) (by decide) hk1 hFc hP1 hD1
          generalize H1 = H at hP hS ⊢
          have hP : va_P (dC, dI) vwCl [(h0, .inr (3, [.int w0_0, .long w0_1, .long w0_2, .long w0_3, .long w0_4, .long w0_5, .long r_3.1, .long r_3.2.1, .long r_3.2.2.1, .long r_3.2.2.2, .long w0_10, .long w0_11, .long w0_12, .int r_6.2, .ref h1])), (h1, .inl (cI, 6600, .inl r_6.1))] H := hP
          have hD : va_D A [(h0, .inr (3, [.int w0_0, .long w0_1, .long w0_2, .long w0_3, .long w0_4, .long w0_5, .long r_3.1, .long r_3.2.1, .long r_3.2.2.1, .long r_3.2.2.2, .long w0_10, .long w0_11, .long w0_12, .int r_6.2, .ref h1])), (h1, .inl (cI, 6600, .inl r_6.1))] := hD
          refine W.widen (k := 0) (n := 0) (Nat.le_refl _) (Nat.le_refl _) ?_
          refine lv_aload_n hx hb dX3_take_294 rfl (lv_at hl 0 rfl) ?_
          refine lv_aload_n hx hb dX3_take_295 rfl (lv_at hl 0 rfl) ?_
          refine va_get (D := (dC, dI)) (ci := 3) (v := .long w0_4) (C := RX3) (T := TX3) (N := 15) hx hb hts in_X3_take_X3 hown hK hP 0 rfl rfl 4 (by decide) (hts (.fieldLink RX3 18 "FormRingModel" "d" "J") (by decide +kernel)) (fun _ h9 => h9) rfl dX3_take_296 ?_
          refine lv_aload_n hx hb dX3_take_299 rfl (lv_at hl 0 rfl) ?_
          refine va_get (D := (dC, dI)) (ci := 3) (v := .long w0_5) (C := RX3) (T := TX3) (N := 15) hx hb hts in_X3_take_X3 hown hK hP 0 rfl rfl 5 (by decide) (hts (.fieldLink RX3 23 "FormRingModel" "w" "J") (by decide +kernel)) (fun _ h9 => h9) rfl dX3_take_300 ?_
          cases e_8 : f_X3_isReduced n r_3.1 r_3.2.1 r_3.2.2.1 w0_4 w0_5 with
          | none => rw [e_8, Option.bind_none] at hr; cases hr
          | some r_9 =>
            rw [e_8, Option.bind_some] at hr
            have hPc := hP.sub (ws' := [(h0, .inr (3, [.int w0_0, .long w0_1, .long w0_2, .long w0_3, .long w0_4, .long w0_5, .long r_3.1, .long r_3.2.1, .long r_3.2.2.1, .long r_3.2.2.2, .long w0_10, .long w0_11, .long w0_12, .int r_6.2, .ref h1])), (h1, .inl (cI, 6600, .inl r_6.1))]) [0, 1] rfl
            have hDc := hD.sub (ws' := [(h0, .inr (3, [.int w0_0, .long w0_1, .long w0_2, .long w0_3, .long w0_4, .long w0_5, .long r_3.1, .long r_3.2.1, .long r_3.2.2.1, .long r_3.2.2.2, .long w0_10, .long w0_11, .long w0_12, .int r_6.2, .ref h1])), (h1, .inl (cI, 6600, .inl r_6.1))]) [0, 1] (by decide) rfl
            have hKc := hK.sub (tys' := [(cI, .int)]) [0] rfl
            have hFc := va_free (wc := [(h0, .inr (3, [.int w0_0, .long w0_1, .long w0_2, .long w0_3, .long w0_4, .long w0_5, .long r_3.1, .long r_3.2.1, .long r_3.2.2.1, .long r_3.2.2.2, .long w0_10, .long w0_11, .long w0_12, .int r_6.2, .ref h1])), (h1, .inl (cI, 6600, .inl r_6.1))]) hD hS hA [0, 1] rfl
            refine va_calli (va_runV (As := [.long w0_4, .long w0_5]) (rest := []) ⟨hx, hb, hml, hown, hts⟩ (c_X3_isReduced l dC dI H.size h0 h1 cI w0_0 w0_1 w0_2 w0_3 w0_4 w0_5 r_3.1 r_3.2.1 r_3.2.2.1 r_3.2.2.2 w0_10 w0_11 w0_12 r_6.2 r_6.1 w0_4 w0_5 n _ e_8) (cwV 2 hts gX3_take_X3_isReduced rfl rfl rfl (by decide +kernel) ⟨Nat.le_of_ble_eq_true rfl, Nat.le_of_ble_eq_true rfl⟩) ⟨fun a U g mk q => by obtain ⟨q0, q1, qP, qK, qD⟩ := q; exact ⟨q0, q1, qP, va_K.moved (u := U) (U := U.calling g mk a) (Vm.Alike.refl U.vm) qK, qD⟩, va_recv hKc hPc (ci := 3) (q0 := 0) rfl rfl, fun U hU hW => ⟨rfl, by rw [hU], by rw [hU]; exact hPc, va_K.moved hW.alike hKc, hDc.weaken (fun _ _ _ _ => trivial)⟩⟩ rfl rfl hl.1 rfl (lv_room (Nat.le_of_ble_eq_true rfl)) dX3_take_303 ⟨Nat.zero_le _, Nat.zero_le _⟩) hS (fun q _ h => hFc q h) hFc (fun x_10 _ t H1 locs ht hvm hw hB hz1 hk1 hS => ?_)
            obtain ⟨hw, z_11⟩ := hw
            have hw := hw.symm
            subst hw
            obtain ⟨hP1, hK1, hD1⟩ := hB
            rw [ht] at hP1
            obtain ⟨hP, hD⟩ := va_join (wr := []) (w1 := [(h0, .inr (3, [.int w0_0, .long w0_1, .long w0_2, .long w0_3, .long w0_4, .long w0_5, .long r_3.1, .long r_3.2.1, .long r_3.2.2.1, .long r_3.2.2.2, .long w0_10, .long w0_11, .long w0_12, .int r_6.2, .ref h1])), (h1, .inl (cI, 6600, .inl r_6.1))]) hP hD [0, 1] [] rfl rfl (by decide) (by decide) hk1 hFc hP1 hD1
            generalize H1 = H at hP hS ⊢
            have hP : va_P (dC, dI) vwCl [(h0, .inr (3, [.int w0_0, .long w0_1, .long w0_2, .long w0_3, .long w0_4, .long w0_5, .long r_3.1, .long r_3.2.1, .long r_3.2.2.1, .long r_3.2.2.2, .long w0_10, .long w0_11, .long w0_12, .int r_6.2, .ref h1])), (h1, .inl (cI, 6600, .inl r_6.1))] H := hP
            have hD : va_D A [(h0, .inr (3, [.int w0_0, .long w0_1, .long w0_2, .long w0_3, .long w0_4, .long w0_5, .long r_3.1, .long r_3.2.1, .long r_3.2.2.1, .long r_3.2.2.2, .long w0_10, .long w0_11, .long w0_12, .int r_6.2, .ref h1])), (h1, .inl (cI, 6600, .inl r_6.1))] := hD
            refine W.widen (k := 0) (n := 0) (Nat.le_refl _) (Nat.le_refl _) ?_
            refine lz_zeq (tgt := 320) hx hb dX3_take_306 (by decide) (fun c_12 => ?_) (fun c_12 => ?_)
            · have hr := (if_pos c_12).symm.trans hr
              refine lv_iconst (v := 0) hx hb dX3_take_320 (by decide) ?_
              refine lv_istore (lv' := [(4, .int 0), (0, .ref h0), (1, .int a1), (2, .int a2), (3, .int a3)]) hx hb dX3_take_321 hl (by decide) rfl (fun ls hl => ?_)
              refine lv_goto (tgt := 269) hx hb dX3_take_323 (by decide) ?_
              exact ih 0 r_6.1 w0_0 w0_1 w0_2 w0_3 w0_4 w0_5 r_3.1 r_3.2.1 r_3.2.2.1 r_3.2.2.2 w0_10 w0_11 w0_12 r_6.2 hr _ _ _ hP hD hS (lv_sub hl [1, 2, 3, 4, 0] rfl)
            · have hr := (if_neg c_12).symm.trans hr
              refine lv_aload_n hx hb dX3_take_309 rfl (lv_at hl 0 rfl) ?_
              cases e_13 : f_X3_isName n r_3.1 r_3.2.1 w0_10 w0_11 with
              | none => rw [e_13, Option.bind_none] at hr; cases hr
              | some r_14 =>
                rw [e_13, Option.bind_some] at hr
                have hPc := hP.sub (ws' := [(h0, .inr (3, [.int w0_0, .long w0_1, .long w0_2, .long w0_3, .long w0_4, .long w0_5, .long r_3.1, .long r_3.2.1, .long r_3.2.2.1, .long r_3.2.2.2, .long w0_10, .long w0_11, .long w0_12, .int r_6.2, .ref h1])), (h1, .inl (cI, 6600, .inl r_6.1))]) [0, 1] rfl
                have hDc := hD.sub (ws' := [(h0, .inr (3, [.int w0_0, .long w0_1, .long w0_2, .long w0_3, .long w0_4, .long w0_5, .long r_3.1, .long r_3.2.1, .long r_3.2.2.1, .long r_3.2.2.2, .long w0_10, .long w0_11, .long w0_12, .int r_6.2, .ref h1])), (h1, .inl (cI, 6600, .inl r_6.1))]) [0, 1] (by decide) rfl
                have hKc := hK.sub (tys' := [(cI, .int)]) [0] rfl
                have hFc := va_free (wc := [(h0, .inr (3, [.int w0_0, .long w0_1, .long w0_2, .long w0_3, .long w0_4, .long w0_5, .long r_3.1, .long r_3.2.1, .long r_3.2.2.1, .long r_3.2.2.2, .long w0_10, .long w0_11, .long w0_12, .int r_6.2, .ref h1])), (h1, .inl (cI, 6600, .inl r_6.1))]) hD hS hA [0, 1] rfl
                refine va_calli (va_runV (As := []) (rest := []) ⟨hx, hb, hml, hown, hts⟩ (c_X3_isName l dC dI H.size h0 h1 cI w0_0 w0_1 w0_2 w0_3 w0_4 w0_5 r_3.1 r_3.2.1 r_3.2.2.1 r_3.2.2.2 w0_10 w0_11 w0_12 r_6.2 r_6.1  n _ e_13) (cwV 0 hts gX3_take_X3_isName rfl rfl rfl (by decide +kernel) ⟨Nat.le_of_ble_eq_true rfl, Nat.le_of_ble_eq_true rfl⟩) ⟨fun a U g mk q => by obtain ⟨q0, q1, qP, qK, qD⟩ := q; exact ⟨q0, q1, qP, va_K.moved (u := U) (U := U.calling g mk a) (Vm.Alike.refl U.vm) qK, qD⟩, va_recv hKc hPc (ci := 3) (q0 := 0) rfl rfl, fun U hU hW => ⟨rfl, by rw [hU], by rw [hU]; exact hPc, va_K.moved hW.alike hKc, hDc.weaken (fun _ _ _ _ => trivial)⟩⟩ rfl rfl hl.1 rfl (lv_room (Nat.le_of_ble_eq_true rfl)) dX3_take_310 ⟨Nat.zero_le _, Nat.zero_le _⟩) hS (fun q _ h => hFc q h) hFc (fun x_15 _ t H1 locs ht hvm hw hB hz1 hk1 hS => ?_)
                obtain ⟨hw, z_16⟩ := hw
                have hw := hw.symm
                subst hw
                obtain ⟨hP1, hK1, hD1⟩ := hB
                rw [ht] at hP1
                obtain ⟨hP, hD⟩ := va_join (wr := []) (w1 := [(h0, .inr (3, [.int w0_0, .long w0_1, .long w0_2, .long w0_3, .long w0_4, .long w0_5, .long r_3.1, .long r_3.2.1, .long r_3.2.2.1, .long r_3.2.2.2, .long w0_10, .long w0_11, .long w0_12, .int r_6.2, .ref h1])), (h1, .inl (cI, 6600, .inl r_6.1))]) hP hD [0, 1] [] rfl rfl (by decide) (by decide) hk1 hFc hP1 hD1
                generalize H1 = H at hP hS ⊢
                have hP : va_P (dC, dI) vwCl [(h0, .inr (3, [.int w0_0, .long w0_1, .long w0_2, .long w0_3, .long w0_4, .long w0_5, .long r_3.1, .long r_3.2.1, .long r_3.2.2.1, .long r_3.2.2.2, .long w0_10, .long w0_11, .long w0_12, .int r_6.2, .ref h1])), (h1, .inl (cI, 6600, .inl r_6.1))] H := hP
                have hD : va_D A [(h0, .inr (3, [.int w0_0, .long w0_1, .long w0_2, .long w0_3, .long w0_4, .long w0_5, .long r_3.1, .long r_3.2.1, .long r_3.2.2.1, .long r_3.2.2.2, .long w0_10, .long w0_11, .long w0_12, .int r_6.2, .ref h1])), (h1, .inl (cI, 6600, .inl r_6.1))] := hD
                refine W.widen (k := 0) (n := 0) (Nat.le_refl _) (Nat.le_refl _) ?_
                refine lz_zeq (tgt := 320) hx hb dX3_take_313 (by decide) (fun c_17 => ?_) (fun c_17 => ?_)
                · have hr := (if_pos c_17).symm.trans hr
                  refine lv_iconst (v := 0) hx hb dX3_take_320 (by decide) ?_
                  refine lv_istore (lv' := [(4, .int 0), (0, .ref h0), (1, .int a1), (2, .int a2), (3, .int a3)]) hx hb dX3_take_321 hl (by decide) rfl (fun ls hl => ?_)
                  refine lv_goto (tgt := 269) hx hb dX3_take_323 (by decide) ?_
                  exact ih 0 r_6.1 w0_0 w0_1 w0_2 w0_3 w0_4 w0_5 r_3.1 r_3.2.1 r_3.2.2.1 r_3.2.2.2 w0_10 w0_11 w0_12 r_6.2 hr _ _ _ hP hD hS (lv_sub hl [1, 2, 3, 4, 0] rfl)
                · have hr := (if_neg c_17).symm.trans hr
                  refine lv_iconst (v := 1) hx hb dX3_take_316 (by decide) ?_
                  refine lv_goto (tgt := 321) hx hb dX3_take_317 (by decide) ?_
                  refine lv_istore (lv' := [(4, .int 1), (0, .ref h0), (1, .int a1), (2, .int a2), (3, .int a3)]) hx hb dX3_take_321 hl (by decide) rfl (fun ls hl => ?_)
                  refine lv_goto (tgt := 269) hx hb dX3_take_323 (by decide) ?_
                  exact ih 1 r_6.1 w0_0 w0_1 w0_2 w0_3 w0_4 w0_5 r_3.1 r_3.2.1 r_3.2.2.1 r_3.2.2.2 w0_10 w0_11 w0_12 r_6.2 hr _ _ _ hP hD hS (lv_sub hl [1, 2, 3, 4, 0] rfl)
def f_X3_take_165 (n : Nat) : Nat → Int32 → (Nat → Int32) → Int32 → Int64 → Int64 → Int64 → Int64 → Int64 → Int64 → Int64 → Int64 → Int64 → Int64 → Int64 → Int64 → Int32 → Option (Int32 × (Nat → Int32) × Int32 × Int64 × Int64 × Int64 × Int64 × Int64 × Int64 × Int64 × Int64 × Int64 × Int64 × Int64 × Int64 × Int32)
  | 0, _, _, _, _, _, _, _, _, _, _, _, _, _, _, _, _ => none
  | k + 1, u4, w1, w0_0, w0_1, w0_2, w0_3, w0_4, w0_5, w0_6, w0_7, w0_8, w0_9, w0_10, w0_11, w0_12, w0_13 => if u4 < 4 then (f_X3_take_174 n (fun u4 w1 w0_0 w0_1 w0_2 w0_3 w0_4 w0_5 w0_6 w0_7 w0_8 w0_9 w0_10 w0_11 w0_12 w0_13 => f_X3_take_165 n k u4 w1 w0_0 w0_1 w0_2 w0_3 w0_4 w0_5 w0_6 w0_7 w0_8 w0_9 w0_10 w0_11 w0_12 w0_13) n u4 0 w1 w0_0 w0_1 w0_2 w0_3 w0_4 w0_5 w0_6 w0_7 w0_8 w0_9 w0_10 w0_11 w0_12 w0_13) else ((f_X3_begin n w0_1 w0_2 w0_3).bind (fun r_3 => (f_X3_isReduced n r_3.1 r_3.2.1 r_3.2.2 w0_4 w0_5).bind (fun r_6 => if r_6 = 0 then (f_X3_take_269 n n 0 w1 w0_0 w0_1 w0_2 w0_3 w0_4 w0_5 r_3.1 r_3.2.1 r_3.2.2 w0_9 w0_10 w0_11 w0_12 w0_13) else ((f_X3_isName n r_3.1 r_3.2.1 w0_10 w0_11).bind (fun r_11 => if r_11 = 0 then (f_X3_take_269 n n 0 w1 w0_0 w0_1 w0_2 w0_3 w0_4 w0_5 r_3.1 r_3.2.1 r_3.2.2 w0_9 w0_10 w0_11 w0_12 w0_13) else (f_X3_take_269 n n 1 w1 w0_0 w0_1 w0_2 w0_3 w0_4 w0_5 r_3.1 r_3.2.1 r_3.2.2 w0_9 w0_10 w0_11 w0_12 w0_13))))))
set_option maxHeartbeats 4000000 in
set_option maxRecDepth 100000 in
theorem k_X3_take_165 {p : Program} {l : Launch} {e : Env} {s : State} {m : MethodId} {args : Array Value} {below : List Frame} {meth : Method} {c : Code} {dC : Nat → ClassId} {dI : Nat → Nat → Nat} {A : Nat → Prop} {h0 : Nat} {h1 : Nat} {cI : ClassId} {a1 : Int32} {a2 : Int32} {a3 : Int32} (hx : p.tables.exec = Jvm.exec) (hb : c.code = cX3_take) (hrt : meth.sig.returnType = (some .int)) (hml : c.maxLocals = 6) (hown : s.vm.findClass RX3 = some m.cls) (hlocks : meth.locks = false) (hts : ∀ w ∈ wsX3_take, w.before args s = true) (hA : ∀ q : Nat, s.heap.size ≤ q → A q) (hK : va_K (dC, dI) vwCl [(cI, .int)] s)  (n : Nat) (out : Int32 × (Nat → Int32) × Int32 × Int64 × Int64 × Int64 × Int64 × Int64 × Int64 × Int64 × Int64 × Int64 × Int64 × Int64 × Int64 × Int32) :
    ∀ (k : Nat) (u4 : Int32) (w1 : Nat → Int32) (w0_0 : Int32) (w0_1 : Int64) (w0_2 : Int64) (w0_3 : Int64) (w0_4 : Int64) (w0_5 : Int64) (w0_6 : Int64) (w0_7 : Int64) (w0_8 : Int64) (w0_9 : Int64) (w0_10 : Int64) (w0_11 : Int64) (w0_12 : Int64) (w0_13 : Int32), f_X3_take_165 n k u4 w1 w0_0 w0_1 w0_2 w0_3 w0_4 w0_5 w0_6 w0_7 w0_8 w0_9 w0_10 w0_11 w0_12 w0_13 = some out → ∀ (H : Heap) (locs : List Loc) (ls : Array Slot), va_P (dC, dI) vwCl [(h0, .inr (3, [.int w0_0, .long w0_1, .long w0_2, .long w0_3, .long w0_4, .long w0_5, .long w0_6, .long w0_7, .long w0_8, .long w0_9, .long w0_10, .long w0_11, .long w0_12, .int w0_13, .ref h1])), (h1, .inl (cI, 6600, .inl w1))] H → va_D A [(h0, .inr (3, [.int w0_0, .long w0_1, .long w0_2, .long w0_3, .long w0_4, .long w0_5, .long w0_6, .long w0_7, .long w0_8, .long w0_9, .long w0_10, .long w0_11, .long w0_12, .int w0_13, .ref h1])), (h1, .inl (cI, 6600, .inl w1))] → va_S A s.heap H locs → lv_has ls 6 [(0, .ref h0), (1, .int a1), (2, .int a2), (3, .int a3), (4, .int u4)] → W p l e ({ frames := 4, cells := 0, slots := 0, locals := 91 }) s m args below meth c H locs 0 0 (MQ below (va_Qi (fun r (_ : Unit) => r = out.1) (fun (_ : Unit) t => zB dC dI [(cI, .int)] A [(h0, .inr (3, [.int out.2.2.1, .long out.2.2.2.1, .long out.2.2.2.2.1, .long out.2.2.2.2.2.1, .long out.2.2.2.2.2.2.1, .long out.2.2.2.2.2.2.2.1, .long out.2.2.2.2.2.2.2.2.1, .long out.2.2.2.2.2.2.2.2.2.1, .long out.2.2.2.2.2.2.2.2.2.2.1, .long out.2.2.2.2.2.2.2.2.2.2.2.1, .long out.2.2.2.2.2.2.2.2.2.2.2.2.1, .long out.2.2.2.2.2.2.2.2.2.2.2.2.2.1, .long out.2.2.2.2.2.2.2.2.2.2.2.2.2.2.1, .int out.2.2.2.2.2.2.2.2.2.2.2.2.2.2.2, .ref h1])), (h1, .inl (cI, 6600, .inl out.2.1))] t) A) args s 0 0 A) (F0 m 165 ls []) := by
  intro k
  induction k with
  | zero => intro u4 w1 w0_0 w0_1 w0_2 w0_3 w0_4 w0_5 w0_6 w0_7 w0_8 w0_9 w0_10 w0_11 w0_12 w0_13 hr; rw [f_X3_take_165] at hr; cases hr
  | succ k ih =>
    intro u4 w1 w0_0 w0_1 w0_2 w0_3 w0_4 w0_5 w0_6 w0_7 w0_8 w0_9 w0_10 w0_11 w0_12 w0_13 hr H locs ls hP hD hS hl
    rw [f_X3_take_165] at hr
    refine lv_iload hx hb dX3_take_165 (lv_at hl 4 rfl) ?_
    refine lv_iconst (v := 4) hx hb dX3_take_167 (by decide) ?_
    refine lz_ige (tgt := 224) hx hb dX3_take_168 (by decide) (fun c_1 => ?_) (fun c_1 => ?_)
    · have hr := (if_neg c_1).symm.trans hr
      refine lv_aload_n hx hb dX3_take_224 rfl (lv_at hl 0 rfl) ?_
      refine lv_aload_n hx hb dX3_take_225 rfl (lv_at hl 0 rfl) ?_
      refine va_get (D := (dC, dI)) (ci := 3) (v := .long w0_1) (C := RX3) (T := TX3) (N := 15) hx hb hts in_X3_take_X3 hown hK hP 0 rfl rfl 1 (by decide) (hts (.fieldLink RX3 7 "FormRingModel" "a" "J") (by decide +kernel)) (fun _ h9 => h9) rfl dX3_take_226 ?_
      refine lv_aload_n hx hb dX3_take_229 rfl (lv_at hl 0 rfl) ?_
      refine va_get (D := (dC, dI)) (ci := 3) (v := .long w0_2) (C := RX3) (T := TX3) (N := 15) hx hb hts in_X3_take_X3 hown hK hP 0 rfl rfl 2 (by decide) (hts (.fieldLink RX3 129 "FormRingModel" "b" "J") (by decide +kernel)) (fun _ h9 => h9) rfl dX3_take_230 ?_
      refine lv_aload_n hx hb dX3_take_233 rfl (lv_at hl 0 rfl) ?_
      refine va_get (D := (dC, dI)) (ci := 3) (v := .long w0_3) (C := RX3) (T := TX3) (N := 15) hx hb hts in_X3_take_X3 hown hK hP 0 rfl rfl 3 (by decide) (hts (.fieldLink RX3 13 "FormRingModel" "c" "J") (by decide +kernel)) (fun _ h9 => h9) rfl dX3_take_234 ?_
      cases e_2 : f_X3_begin n w0_1 w0_2 w0_3 with
      | none => rw [e_2, Option.bind_none] at hr; cases hr
      | some r_3 =>
        rw [e_2, Option.bind_some] at hr
        have hPc := hP.sub (ws' := [(h0, .inr (3, [.int w0_0, .long w0_1, .long w0_2, .long w0_3, .long w0_4, .long w0_5, .long w0_6, .long w0_7, .long w0_8, .long w0_9, .long w0_10, .long w0_11, .long w0_12, .int w0_13, .ref h1])), (h1, .inl (cI, 6600, .inl w1))]) [0, 1] rfl
        have hDc := hD.sub (ws' := [(h0, .inr (3, [.int w0_0, .long w0_1, .long w0_2, .long w0_3, .long w0_4, .long w0_5, .long w0_6, .long w0_7, .long w0_8, .long w0_9, .long w0_10, .long w0_11, .long w0_12, .int w0_13, .ref h1])), (h1, .inl (cI, 6600, .inl w1))]) [0, 1] (by decide) rfl
        have hKc := hK.sub (tys' := [(cI, .int)]) [0] rfl
        have hFc := va_free (wc := [(h0, .inr (3, [.int w0_0, .long w0_1, .long w0_2, .long w0_3, .long w0_4, .long w0_5, .long w0_6, .long w0_7, .long w0_8, .long w0_9, .long w0_10, .long w0_11, .long w0_12, .int w0_13, .ref h1])), (h1, .inl (cI, 6600, .inl w1))]) hD hS hA [0, 1] rfl
        refine va_callv (va_runV (As := [.long w0_1, .long w0_2, .long w0_3]) (rest := []) ⟨hx, hb, hml, hown, hts⟩ (c_X3_begin l dC dI H.size h0 h1 cI w0_0 w0_1 w0_2 w0_3 w0_4 w0_5 w0_6 w0_7 w0_8 w0_9 w0_10 w0_11 w0_12 w0_13 w1 w0_1 w0_2 w0_3 n _ e_2) (cwV 3 hts gX3_take_X3_begin rfl rfl rfl (by decide +kernel) ⟨Nat.le_of_ble_eq_true rfl, Nat.le_of_ble_eq_true rfl⟩) ⟨fun a U g mk q => by obtain ⟨q0, q1, qP, qK, qD⟩ := q; exact ⟨q0, q1, qP, va_K.moved (u := U) (U := U.calling g mk a) (Vm.Alike.refl U.vm) qK, qD⟩, va_recv hKc hPc (ci := 3) (q0 := 0) rfl rfl, fun U hU hW => ⟨rfl, by rw [hU], by rw [hU]; exact hPc, va_K.moved hW.alike hKc, hDc.weaken (fun _ _ _ _ => trivial)⟩⟩ rfl rfl hl.1 rfl (lv_room (Nat.le_of_ble_eq_true rfl)) dX3_take_237 ⟨Nat.zero_le _, Nat.zero_le _⟩) hS (fun q _ h => hFc q h) hFc (fun _ t H1 locs ht hvm hw hB hz1 hk1 hS => ?_)
        obtain ⟨hP1, hK1, hD1⟩ := hB
        rw [ht] at hP1
        obtain ⟨hP, hD⟩ := va_join (wr := []) (w1 := [(h0, .inr (3, [.int w0_0, .long w0_1, .long w0_2, .long w0_3, .long w0_4, .long w0_5, .long r_3.1, .long r_3.2.1, .long r_3.2.2, .long w0_9, .long w0_10, .long w0_11, .long w0_12, .int w0_13, .ref h1])), (h1, .inl (cI, 6600, .inl w1))]) hP hD [0, 1] [] rfl rfl (by decide) (by decide) hk1 hFc hP1 hD1
        generalize H1 = H at hP hS ⊢
        have hP : va_P (dC, dI) vwCl [(h0, .inr (3, [.int w0_0, .long w0_1, .long w0_2, .long w0_3, .long w0_4, .long w0_5, .long r_3.1, .long r_3.2.1, .long r_3.2.2, .long w0_9, .long w0_10, .long w0_11, .long w0_12, .int w0_13, .ref h1])), (h1, .inl (cI, 6600, .inl w1))] H := hP
        have hD : va_D A [(h0, .inr (3, [.int w0_0, .long w0_1, .long w0_2, .long w0_3, .long w0_4, .long w0_5, .long r_3.1, .long r_3.2.1, .long r_3.2.2, .long w0_9, .long w0_10, .long w0_11, .long w0_12, .int w0_13, .ref h1])), (h1, .inl (cI, 6600, .inl w1))] := hD
        refine W.widen (k := 0) (n := 0) (Nat.le_refl _) (Nat.le_refl _) ?_
        refine lv_aload_n hx hb dX3_take_240 rfl (lv_at hl 0 rfl) ?_
        refine lv_aload_n hx hb dX3_take_241 rfl (lv_at hl 0 rfl) ?_
        refine va_get (D := (dC, dI)) (ci := 3) (v := .long w0_4) (C := RX3) (T := TX3) (N := 15) hx hb hts in_X3_take_X3 hown hK hP 0 rfl rfl 4 (by decide) (hts (.fieldLink RX3 18 "FormRingModel" "d" "J") (by decide +kernel)) (fun _ h9 => h9) rfl dX3_take_242 ?_
        refine lv_aload_n hx hb dX3_take_245 rfl (lv_at hl 0 rfl) ?_
        refine va_get (D := (dC, dI)) (ci := 3) (v := .long w0_5) (C := RX3) (T := TX3) (N := 15) hx hb hts in_X3_take_X3 hown hK hP 0 rfl rfl 5 (by decide) (hts (.fieldLink RX3 23 "FormRingModel" "w" "J") (by decide +kernel)) (fun _ h9 => h9) rfl dX3_take_246 ?_
        cases e_5 : f_X3_isReduced n r_3.1 r_3.2.1 r_3.2.2 w0_4 w0_5 with
        | none => rw [e_5, Option.bind_none] at hr; cases hr
        | some r_6 =>
          rw [e_5, Option.bind_some] at hr
          have hPc := hP.sub (ws' := [(h0, .inr (3, [.int w0_0, .long w0_1, .long w0_2, .long w0_3, .long w0_4, .long w0_5, .long r_3.1, .long r_3.2.1, .long r_3.2.2, .long w0_9, .long w0_10, .long w0_11, .long w0_12, .int w0_13, .ref h1])), (h1, .inl (cI, 6600, .inl w1))]) [0, 1] rfl
          have hDc := hD.sub (ws' := [(h0, .inr (3, [.int w0_0, .long w0_1, .long w0_2, .long w0_3, .long w0_4, .long w0_5, .long r_3.1, .long r_3.2.1, .long r_3.2.2, .long w0_9, .long w0_10, .long w0_11, .long w0_12, .int w0_13, .ref h1])), (h1, .inl (cI, 6600, .inl w1))]) [0, 1] (by decide) rfl
          have hKc := hK.sub (tys' := [(cI, .int)]) [0] rfl
          have hFc := va_free (wc := [(h0, .inr (3, [.int w0_0, .long w0_1, .long w0_2, .long w0_3, .long w0_4, .long w0_5, .long r_3.1, .long r_3.2.1, .long r_3.2.2, .long w0_9, .long w0_10, .long w0_11, .long w0_12, .int w0_13, .ref h1])), (h1, .inl (cI, 6600, .inl w1))]) hD hS hA [0, 1] rfl
          refine va_calli (va_runV (As := [.long w0_4, .long w0_5]) (rest := []) ⟨hx, hb, hml, hown, hts⟩ (c_X3_isReduced l dC dI H.size h0 h1 cI w0_0 w0_1 w0_2 w0_3 w0_4 w0_5 r_3.1 r_3.2.1 r_3.2.2 w0_9 w0_10 w0_11 w0_12 w0_13 w1 w0_4 w0_5 n _ e_5) (cwV 2 hts gX3_take_X3_isReduced rfl rfl rfl (by decide +kernel) ⟨Nat.le_of_ble_eq_true rfl, Nat.le_of_ble_eq_true rfl⟩) ⟨fun a U g mk q => by obtain ⟨q0, q1, qP, qK, qD⟩ := q; exact ⟨q0, q1, qP, va_K.moved (u := U) (U := U.calling g mk a) (Vm.Alike.refl U.vm) qK, qD⟩, va_recv hKc hPc (ci := 3) (q0 := 0) rfl rfl, fun U hU hW => ⟨rfl, by rw [hU], by rw [hU]; exact hPc, va_K.moved hW.alike hKc, hDc.weaken (fun _ _ _ _ => trivial)⟩⟩ rfl rfl hl.1 rfl (lv_room (Nat.le_of_ble_eq_true rfl)) dX3_take_249 ⟨Nat.zero_le _, Nat.zero_le _⟩) hS (fun q _ h => hFc q h) hFc (fun x_7 _ t H1 locs ht hvm hw hB hz1 hk1 hS => ?_)
          obtain ⟨hw, z_8⟩ := hw
          have hw := hw.symm
          subst hw
          obtain ⟨hP1, hK1, hD1⟩ := hB
          rw [ht] at hP1
          obtain ⟨hP, hD⟩ := va_join (wr := []) (w1 := [(h0, .inr (3, [.int w0_0, .long w0_1, .long w0_2, .long w0_3, .long w0_4, .long w0_5, .long r_3.1, .long r_3.2.1, .long r_3.2.2, .long w0_9, .long w0_10, .long w0_11, .long w0_12, .int w0_13, .ref h1])), (h1, .inl (cI, 6600, .inl w1))]) hP hD [0, 1] [] rfl rfl (by decide) (by decide) hk1 hFc hP1 hD1
          generalize H1 = H at hP hS ⊢
          have hP : va_P (dC, dI) vwCl [(h0, .inr (3, [.int w0_0, .long w0_1, .long w0_2, .long w0_3, .long w0_4, .long w0_5, .long r_3.1, .long r_3.2.1, .long r_3.2.2, .long w0_9, .long w0_10, .long w0_11, .long w0_12, .int w0_13, .ref h1])), (h1, .inl (cI, 6600, .inl w1))] H := hP
          have hD : va_D A [(h0, .inr (3, [.int w0_0, .long w0_1, .long w0_2, .long w0_3, .long w0_4, .long w0_5, .long r_3.1, .long r_3.2.1, .long r_3.2.2, .long w0_9, .long w0_10, .long w0_11, .long w0_12, .int w0_13, .ref h1])), (h1, .inl (cI, 6600, .inl w1))] := hD
          refine W.widen (k := 0) (n := 0) (Nat.le_refl _) (Nat.le_refl _) ?_
          refine lz_zeq (tgt := 266) hx hb dX3_take_252 (by decide) (fun c_9 => ?_) (fun c_9 => ?_)
          · have hr := (if_pos c_9).symm.trans hr
            refine lv_iconst (v := 0) hx hb dX3_take_266 (by decide) ?_
            refine lv_istore (lv' := [(4, .int 0), (0, .ref h0), (1, .int a1), (2, .int a2), (3, .int a3)]) hx hb dX3_take_267 hl (by decide) rfl (fun ls hl => ?_)
            exact k_X3_take_269 hx hb hrt hml hown hlocks hts hA hK n out n 0 w1 w0_0 w0_1 w0_2 w0_3 w0_4 w0_5 r_3.1 r_3.2.1 r_3.2.2 w0_9 w0_10 w0_11 w0_12 w0_13 hr _ _ _ hP hD hS (lv_sub hl [1, 2, 3, 4, 0] rfl)
          · have hr := (if_neg c_9).symm.trans hr
            refine lv_aload_n hx hb dX3_take_255 rfl (lv_at hl 0 rfl) ?_
            cases e_10 : f_X3_isName n r_3.1 r_3.2.1 w0_10 w0_11 with
            | none => rw [e_10, Option.bind_none] at hr; cases hr
            | some r_11 =>
              rw [e_10, Option.bind_some] at hr
              have hPc := hP.sub (ws' := [(h0, .inr (3, [.int w0_0, .long w0_1, .long w0_2, .long w0_3, .long w0_4, .long w0_5, .long r_3.1, .long r_3.2.1, .long r_3.2.2, .long w0_9, .long w0_10, .long w0_11, .long w0_12, .int w0_13, .ref h1])), (h1, .inl (cI, 6600, .inl w1))]) [0, 1] rfl
              have hDc := hD.sub (ws' := [(h0, .inr (3, [.int w0_0, .long w0_1, .long w0_2, .long w0_3, .long w0_4, .long w0_5, .long r_3.1, .long r_3.2.1, .long r_3.2.2, .long w0_9, .long w0_10, .long w0_11, .long w0_12, .int w0_13, .ref h1])), (h1, .inl (cI, 6600, .inl w1))]) [0, 1] (by decide) rfl
              have hKc := hK.sub (tys' := [(cI, .int)]) [0] rfl
              have hFc := va_free (wc := [(h0, .inr (3, [.int w0_0, .long w0_1, .long w0_2, .long w0_3, .long w0_4, .long w0_5, .long r_3.1, .long r_3.2.1, .long r_3.2.2, .long w0_9, .long w0_10, .long w0_11, .long w0_12, .int w0_13, .ref h1])), (h1, .inl (cI, 6600, .inl w1))]) hD hS hA [0, 1] rfl
              refine va_calli (va_runV (As := []) (rest := []) ⟨hx, hb, hml, hown, hts⟩ (c_X3_isName l dC dI H.size h0 h1 cI w0_0 w0_1 w0_2 w0_3 w0_4 w0_5 r_3.1 r_3.2.1 r_3.2.2 w0_9 w0_10 w0_11 w0_12 w0_13 w1  n _ e_10) (cwV 0 hts gX3_take_X3_isName rfl rfl rfl (by decide +kernel) ⟨Nat.le_of_ble_eq_true rfl, Nat.le_of_ble_eq_true rfl⟩) ⟨fun a U g mk q => by obtain ⟨q0, q1, qP, qK, qD⟩ := q; exact ⟨q0, q1, qP, va_K.moved (u := U) (U := U.calling g mk a) (Vm.Alike.refl U.vm) qK, qD⟩, va_recv hKc hPc (ci := 3) (q0 := 0) rfl rfl, fun U hU hW => ⟨rfl, by rw [hU], by rw [hU]; exact hPc, va_K.moved hW.alike hKc, hDc.weaken (fun _ _ _ _ => trivial)⟩⟩ rfl rfl hl.1 rfl (lv_room (Nat.le_of_ble_eq_true rfl)) dX3_take_256 ⟨Nat.zero_le _, Nat.zero_le _⟩) hS (fun q _ h => hFc q h) hFc (fun x_12 _ t H1 locs ht hvm hw hB hz1 hk1 hS => ?_)
              obtain ⟨hw, z_13⟩ := hw
              have hw := hw.symm
              subst hw
              obtain ⟨hP1, hK1, hD1⟩ := hB
              rw [ht] at hP1
              obtain ⟨hP, hD⟩ := va_join (wr := []) (w1 := [(h0, .inr (3, [.int w0_0, .long w0_1, .long w0_2, .long w0_3, .long w0_4, .long w0_5, .long r_3.1, .long r_3.2.1, .long r_3.2.2, .long w0_9, .long w0_10, .long w0_11, .long w0_12, .int w0_13, .ref h1])), (h1, .inl (cI, 6600, .inl w1))]) hP hD [0, 1] [] rfl rfl (by decide) (by decide) hk1 hFc hP1 hD1
              generalize H1 = H at hP hS ⊢
              have hP : va_P (dC, dI) vwCl [(h0, .inr (3, [.int w0_0, .long w0_1, .long w0_2, .long w0_3, .long w0_4, .long w0_5, .long r_3.1, .long r_3.2.1, .long r_3.2.2, .long w0_9, .long w0_10, .long w0_11, .long w0_12, .int w0_13, .ref h1])), (h1, .inl (cI, 6600, .inl w1))] H := hP
              have hD : va_D A [(h0, .inr (3, [.int w0_0, .long w0_1, .long w0_2, .long w0_3, .long w0_4, .long w0_5, .long r_3.1, .long r_3.2.1, .long r_3.2.2, .long w0_9, .long w0_10, .long w0_11, .long w0_12, .int w0_13, .ref h1])), (h1, .inl (cI, 6600, .inl w1))] := hD
              refine W.widen (k := 0) (n := 0) (Nat.le_refl _) (Nat.le_refl _) ?_
              refine lz_zeq (tgt := 266) hx hb dX3_take_259 (by decide) (fun c_14 => ?_) (fun c_14 => ?_)
              · have hr := (if_pos c_14).symm.trans hr
                refine lv_iconst (v := 0) hx hb dX3_take_266 (by decide) ?_
                refine lv_istore (lv' := [(4, .int 0), (0, .ref h0), (1, .int a1), (2, .int a2), (3, .int a3)]) hx hb dX3_take_267 hl (by decide) rfl (fun ls hl => ?_)
                exact k_X3_take_269 hx hb hrt hml hown hlocks hts hA hK n out n 0 w1 w0_0 w0_1 w0_2 w0_3 w0_4 w0_5 r_3.1 r_3.2.1 r_3.2.2 w0_9 w0_10 w0_11 w0_12 w0_13 hr _ _ _ hP hD hS (lv_sub hl [1, 2, 3, 4, 0] rfl)
              · have hr := (if_neg c_14).symm.trans hr
                refine lv_iconst (v := 1) hx hb dX3_take_262 (by decide) ?_
                refine lv_goto (tgt := 267) hx hb dX3_take_263 (by decide) ?_
                refine lv_istore (lv' := [(4, .int 1), (0, .ref h0), (1, .int a1), (2, .int a2), (3, .int a3)]) hx hb dX3_take_267 hl (by decide) rfl (fun ls hl => ?_)
                exact k_X3_take_269 hx hb hrt hml hown hlocks hts hA hK n out n 1 w1 w0_0 w0_1 w0_2 w0_3 w0_4 w0_5 r_3.1 r_3.2.1 r_3.2.2 w0_9 w0_10 w0_11 w0_12 w0_13 hr _ _ _ hP hD hS (lv_sub hl [1, 2, 3, 4, 0] rfl)
    · have hr := (if_pos c_1).symm.trans hr
      refine lv_iconst (v := 0) hx hb dX3_take_171 (by decide) ?_
      refine lv_istore (lv' := [(5, .int 0), (0, .ref h0), (1, .int a1), (2, .int a2), (3, .int a3), (4, .int u4)]) hx hb dX3_take_172 hl (by decide) rfl (fun ls hl => ?_)
      exact k_X3_take_174 hx hb hrt hml hown hlocks hts hA hK n out ih n u4 0 w1 w0_0 w0_1 w0_2 w0_3 w0_4 w0_5 w0_6 w0_7 w0_8 w0_9 w0_10 w0_11 w0_12 w0_13 hr _ _ _ hP hD hS (lv_sub hl [1, 2, 3, 4, 5, 0] rfl)
def f_X3_take_90 (n : Nat)  (t0 : Int64) (w1 : Nat → Int32) (w0_0 : Int32) (w0_1 : Int64) (w0_2 : Int64) (w0_3 : Int64) (w0_4 : Int64) (w0_5 : Int64) (w0_6 : Int64) (w0_7 : Int64) (w0_8 : Int64) (w0_9 : Int64) (w0_10 : Int64) (w0_11 : Int64) (w0_12 : Int64) (w0_13 : Int32) : Option (Int32 × (Nat → Int32) × Int32 × Int64 × Int64 × Int64 × Int64 × Int64 × Int64 × Int64 × Int64 × Int64 × Int64 × Int64 × Int64 × Int32) := (f_X3_begin n w0_1 w0_2 w0_3).bind (fun r_2 => (f_X3_toReduced n r_2.1 r_2.2.1 r_2.2.2 w0_9 w0_4 t0).bind (fun r_5 => (f_X3_toName n r_5.1 r_5.2.1 r_5.2.2.1 r_5.2.2.2 w0_4 t0).bind (fun r_8 => f_X3_take_165 n n 0 w1 w0_0 w0_1 w0_2 w0_3 w0_4 t0 r_8.1 r_8.2.1 r_8.2.2.1 r_8.2.2.2 r_8.1 r_8.2.1 r_8.2.2.1 4)))
set_option maxHeartbeats 4000000 in
set_option maxRecDepth 100000 in
theorem k_X3_take_90 {p : Program} {l : Launch} {e : Env} {s : State} {m : MethodId} {args : Array Value} {below : List Frame} {meth : Method} {c : Code} {dC : Nat → ClassId} {dI : Nat → Nat → Nat} {A : Nat → Prop} {h0 : Nat} {h1 : Nat} {cI : ClassId} {a1 : Int32} {a2 : Int32} {a3 : Int32} (hx : p.tables.exec = Jvm.exec) (hb : c.code = cX3_take) (hrt : meth.sig.returnType = (some .int)) (hml : c.maxLocals = 6) (hown : s.vm.findClass RX3 = some m.cls) (hlocks : meth.locks = false) (hts : ∀ w ∈ wsX3_take, w.before args s = true) (hA : ∀ q : Nat, s.heap.size ≤ q → A q) (hK : va_K (dC, dI) vwCl [(cI, .int)] s)  (n : Nat) (out : Int32 × (Nat → Int32) × Int32 × Int64 × Int64 × Int64 × Int64 × Int64 × Int64 × Int64 × Int64 × Int64 × Int64 × Int64 × Int64 × Int32) :
    ∀ (t0 : Int64) (w1 : Nat → Int32) (w0_0 : Int32) (w0_1 : Int64) (w0_2 : Int64) (w0_3 : Int64) (w0_4 : Int64) (w0_5 : Int64) (w0_6 : Int64) (w0_7 : Int64) (w0_8 : Int64) (w0_9 : Int64) (w0_10 : Int64) (w0_11 : Int64) (w0_12 : Int64) (w0_13 : Int32), f_X3_take_90 n t0 w1 w0_0 w0_1 w0_2 w0_3 w0_4 w0_5 w0_6 w0_7 w0_8 w0_9 w0_10 w0_11 w0_12 w0_13 = some out → ∀ (H : Heap) (locs : List Loc) (ls : Array Slot), va_P (dC, dI) vwCl [(h0, .inr (3, [.int w0_0, .long w0_1, .long w0_2, .long w0_3, .long w0_4, .long w0_5, .long w0_6, .long w0_7, .long w0_8, .long w0_9, .long w0_10, .long w0_11, .long w0_12, .int w0_13, .ref h1])), (h1, .inl (cI, 6600, .inl w1))] H → va_D A [(h0, .inr (3, [.int w0_0, .long w0_1, .long w0_2, .long w0_3, .long w0_4, .long w0_5, .long w0_6, .long w0_7, .long w0_8, .long w0_9, .long w0_10, .long w0_11, .long w0_12, .int w0_13, .ref h1])), (h1, .inl (cI, 6600, .inl w1))] → va_S A s.heap H locs → lv_has ls 6 [(0, .ref h0), (1, .int a1), (2, .int a2), (3, .int a3)] → W p l e ({ frames := 4, cells := 0, slots := 0, locals := 91 }) s m args below meth c H locs 0 0 (MQ below (va_Qi (fun r (_ : Unit) => r = out.1) (fun (_ : Unit) t => zB dC dI [(cI, .int)] A [(h0, .inr (3, [.int out.2.2.1, .long out.2.2.2.1, .long out.2.2.2.2.1, .long out.2.2.2.2.2.1, .long out.2.2.2.2.2.2.1, .long out.2.2.2.2.2.2.2.1, .long out.2.2.2.2.2.2.2.2.1, .long out.2.2.2.2.2.2.2.2.2.1, .long out.2.2.2.2.2.2.2.2.2.2.1, .long out.2.2.2.2.2.2.2.2.2.2.2.1, .long out.2.2.2.2.2.2.2.2.2.2.2.2.1, .long out.2.2.2.2.2.2.2.2.2.2.2.2.2.1, .long out.2.2.2.2.2.2.2.2.2.2.2.2.2.2.1, .int out.2.2.2.2.2.2.2.2.2.2.2.2.2.2.2, .ref h1])), (h1, .inl (cI, 6600, .inl out.2.1))] t) A) args s 0 0 A) (F0 m 90 ls [.long t0, .ref h0]) := by
  intro t0 w1 w0_0 w0_1 w0_2 w0_3 w0_4 w0_5 w0_6 w0_7 w0_8 w0_9 w0_10 w0_11 w0_12 w0_13 hr H locs ls hP hD hS hl
  unfold f_X3_take_90 at hr
  refine va_put (D := (dC, dI)) (ci := 3) (v := .long t0) (ty := .long) (C := RX3) (T := TX3) (N := 15) hx hb hts in_X3_take_X3 tyX3 tyX3_ok nmX3 hown hK hP hD hS 0 rfl rfl 5 (by decide) (hts (.fieldLink RX3 23 "FormRingModel" "w" "J") (by decide +kernel)) (fun _ h9 => h9) rfl (by decide +kernel) rfl rfl (Nat.le_of_ble_eq_true rfl) dX3_take_90 (fun H locs hP hD hS => ?_)
  have hP : va_P (dC, dI) vwCl [(h0, .inr (3, [.int w0_0, .long w0_1, .long w0_2, .long w0_3, .long w0_4, .long t0, .long w0_6, .long w0_7, .long w0_8, .long w0_9, .long w0_10, .long w0_11, .long w0_12, .int w0_13, .ref h1])), (h1, .inl (cI, 6600, .inl w1))] H := hP
  have hD : va_D A [(h0, .inr (3, [.int w0_0, .long w0_1, .long w0_2, .long w0_3, .long w0_4, .long t0, .long w0_6, .long w0_7, .long w0_8, .long w0_9, .long w0_10, .long w0_11, .long w0_12, .int w0_13, .ref h1])), (h1, .inl (cI, 6600, .inl w1))] := hD
  refine lv_aload_n hx hb dX3_take_93 rfl (lv_at hl 0 rfl) ?_
  refine lv_aload_n hx hb dX3_take_94 rfl (lv_at hl 0 rfl) ?_
  refine va_get (D := (dC, dI)) (ci := 3) (v := .long w0_1) (C := RX3) (T := TX3) (N := 15) hx hb hts in_X3_take_X3 hown hK hP 0 rfl rfl 1 (by decide) (hts (.fieldLink RX3 7 "FormRingModel" "a" "J") (by decide +kernel)) (fun _ h9 => h9) rfl dX3_take_95 ?_
  refine lv_aload_n hx hb dX3_take_98 rfl (lv_at hl 0 rfl) ?_
  refine va_get (D := (dC, dI)) (ci := 3) (v := .long w0_2) (C := RX3) (T := TX3) (N := 15) hx hb hts in_X3_take_X3 hown hK hP 0 rfl rfl 2 (by decide) (hts (.fieldLink RX3 129 "FormRingModel" "b" "J") (by decide +kernel)) (fun _ h9 => h9) rfl dX3_take_99 ?_
  refine lv_aload_n hx hb dX3_take_102 rfl (lv_at hl 0 rfl) ?_
  refine va_get (D := (dC, dI)) (ci := 3) (v := .long w0_3) (C := RX3) (T := TX3) (N := 15) hx hb hts in_X3_take_X3 hown hK hP 0 rfl rfl 3 (by decide) (hts (.fieldLink RX3 13 "FormRingModel" "c" "J") (by decide +kernel)) (fun _ h9 => h9) rfl dX3_take_103 ?_
  cases e_1 : f_X3_begin n w0_1 w0_2 w0_3 with
  | none => rw [e_1, Option.bind_none] at hr; cases hr
  | some r_2 =>
    rw [e_1, Option.bind_some] at hr
    have hPc := hP.sub (ws' := [(h0, .inr (3, [.int w0_0, .long w0_1, .long w0_2, .long w0_3, .long w0_4, .long t0, .long w0_6, .long w0_7, .long w0_8, .long w0_9, .long w0_10, .long w0_11, .long w0_12, .int w0_13, .ref h1])), (h1, .inl (cI, 6600, .inl w1))]) [0, 1] rfl
    have hDc := hD.sub (ws' := [(h0, .inr (3, [.int w0_0, .long w0_1, .long w0_2, .long w0_3, .long w0_4, .long t0, .long w0_6, .long w0_7, .long w0_8, .long w0_9, .long w0_10, .long w0_11, .long w0_12, .int w0_13, .ref h1])), (h1, .inl (cI, 6600, .inl w1))]) [0, 1] (by decide) rfl
    have hKc := hK.sub (tys' := [(cI, .int)]) [0] rfl
    have hFc := va_free (wc := [(h0, .inr (3, [.int w0_0, .long w0_1, .long w0_2, .long w0_3, .long w0_4, .long t0, .long w0_6, .long w0_7, .long w0_8, .long w0_9, .long w0_10, .long w0_11, .long w0_12, .int w0_13, .ref h1])), (h1, .inl (cI, 6600, .inl w1))]) hD hS hA [0, 1] rfl
    refine va_callv (va_runV (As := [.long w0_1, .long w0_2, .long w0_3]) (rest := []) ⟨hx, hb, hml, hown, hts⟩ (c_X3_begin l dC dI H.size h0 h1 cI w0_0 w0_1 w0_2 w0_3 w0_4 t0 w0_6 w0_7 w0_8 w0_9 w0_10 w0_11 w0_12 w0_13 w1 w0_1 w0_2 w0_3 n _ e_1) (cwV 3 hts gX3_take_X3_begin rfl rfl rfl (by decide +kernel) ⟨Nat.le_of_ble_eq_true rfl, Nat.le_of_ble_eq_true rfl⟩) ⟨fun a U g mk q => by obtain ⟨q0, q1, qP, qK, qD⟩ := q; exact ⟨q0, q1, qP, va_K.moved (u := U) (U := U.calling g mk a) (Vm.Alike.refl U.vm) qK, qD⟩, va_recv hKc hPc (ci := 3) (q0 := 0) rfl rfl, fun U hU hW => ⟨rfl, by rw [hU], by rw [hU]; exact hPc, va_K.moved hW.alike hKc, hDc.weaken (fun _ _ _ _ => trivial)⟩⟩ rfl rfl hl.1 rfl (lv_room (Nat.le_of_ble_eq_true rfl)) dX3_take_106 ⟨Nat.zero_le _, Nat.zero_le _⟩) hS (fun q _ h => hFc q h) hFc (fun _ t H1 locs ht hvm hw hB hz1 hk1 hS => ?_)
    obtain ⟨hP1, hK1, hD1⟩ := hB
    rw [ht] at hP1
    obtain ⟨hP, hD⟩ := va_join (wr := []) (w1 := [(h0, .inr (3, [.int w0_0, .long w0_1, .long w0_2, .long w0_3, .long w0_4, .long t0, .long r_2.1, .long r_2.2.1, .long r_2.2.2, .long w0_9, .long w0_10, .long w0_11, .long w0_12, .int w0_13, .ref h1])), (h1, .inl (cI, 6600, .inl w1))]) hP hD [0, 1] [] rfl rfl (by decide) (by decide) hk1 hFc hP1 hD1
    generalize H1 = H at hP hS ⊢
    have hP : va_P (dC, dI) vwCl [(h0, .inr (3, [.int w0_0, .long w0_1, .long w0_2, .long w0_3, .long w0_4, .long t0, .long r_2.1, .long r_2.2.1, .long r_2.2.2, .long w0_9, .long w0_10, .long w0_11, .long w0_12, .int w0_13, .ref h1])), (h1, .inl (cI, 6600, .inl w1))] H := hP
    have hD : va_D A [(h0, .inr (3, [.int w0_0, .long w0_1, .long w0_2, .long w0_3, .long w0_4, .long t0, .long r_2.1, .long r_2.2.1, .long r_2.2.2, .long w0_9, .long w0_10, .long w0_11, .long w0_12, .int w0_13, .ref h1])), (h1, .inl (cI, 6600, .inl w1))] := hD
    refine W.widen (k := 0) (n := 0) (Nat.le_refl _) (Nat.le_refl _) ?_
    refine lv_aload_n hx hb dX3_take_109 rfl (lv_at hl 0 rfl) ?_
    refine lv_aload_n hx hb dX3_take_110 rfl (lv_at hl 0 rfl) ?_
    refine va_get (D := (dC, dI)) (ci := 3) (v := .long w0_4) (C := RX3) (T := TX3) (N := 15) hx hb hts in_X3_take_X3 hown hK hP 0 rfl rfl 4 (by decide) (hts (.fieldLink RX3 18 "FormRingModel" "d" "J") (by decide +kernel)) (fun _ h9 => h9) rfl dX3_take_111 ?_
    refine lv_aload_n hx hb dX3_take_114 rfl (lv_at hl 0 rfl) ?_
    refine va_get (D := (dC, dI)) (ci := 3) (v := .long t0) (C := RX3) (T := TX3) (N := 15) hx hb hts in_X3_take_X3 hown hK hP 0 rfl rfl 5 (by decide) (hts (.fieldLink RX3 23 "FormRingModel" "w" "J") (by decide +kernel)) (fun _ h9 => h9) rfl dX3_take_115 ?_
    cases e_4 : f_X3_toReduced n r_2.1 r_2.2.1 r_2.2.2 w0_9 w0_4 t0 with
    | none => rw [e_4, Option.bind_none] at hr; cases hr
    | some r_5 =>
      rw [e_4, Option.bind_some] at hr
      have hPc := hP.sub (ws' := [(h0, .inr (3, [.int w0_0, .long w0_1, .long w0_2, .long w0_3, .long w0_4, .long t0, .long r_2.1, .long r_2.2.1, .long r_2.2.2, .long w0_9, .long w0_10, .long w0_11, .long w0_12, .int w0_13, .ref h1])), (h1, .inl (cI, 6600, .inl w1))]) [0, 1] rfl
      have hDc := hD.sub (ws' := [(h0, .inr (3, [.int w0_0, .long w0_1, .long w0_2, .long w0_3, .long w0_4, .long t0, .long r_2.1, .long r_2.2.1, .long r_2.2.2, .long w0_9, .long w0_10, .long w0_11, .long w0_12, .int w0_13, .ref h1])), (h1, .inl (cI, 6600, .inl w1))]) [0, 1] (by decide) rfl
      have hKc := hK.sub (tys' := [(cI, .int)]) [0] rfl
      have hFc := va_free (wc := [(h0, .inr (3, [.int w0_0, .long w0_1, .long w0_2, .long w0_3, .long w0_4, .long t0, .long r_2.1, .long r_2.2.1, .long r_2.2.2, .long w0_9, .long w0_10, .long w0_11, .long w0_12, .int w0_13, .ref h1])), (h1, .inl (cI, 6600, .inl w1))]) hD hS hA [0, 1] rfl
      refine va_callv (va_runV (As := [.long w0_4, .long t0]) (rest := []) ⟨hx, hb, hml, hown, hts⟩ (c_X3_toReduced l dC dI H.size h0 h1 cI w0_0 w0_1 w0_2 w0_3 w0_4 t0 r_2.1 r_2.2.1 r_2.2.2 w0_9 w0_10 w0_11 w0_12 w0_13 w1 w0_4 t0 n _ e_4) (cwV 2 hts gX3_take_X3_toReduced rfl rfl rfl (by decide +kernel) ⟨Nat.le_of_ble_eq_true rfl, Nat.le_of_ble_eq_true rfl⟩) ⟨fun a U g mk q => by obtain ⟨q0, q1, qP, qK, qD⟩ := q; exact ⟨q0, q1, qP, va_K.moved (u := U) (U := U.calling g mk a) (Vm.Alike.refl U.vm) qK, qD⟩, va_recv hKc hPc (ci := 3) (q0 := 0) rfl rfl, fun U hU hW => ⟨rfl, by rw [hU], by rw [hU]; exact hPc, va_K.moved hW.alike hKc, hDc.weaken (fun _ _ _ _ => trivial)⟩⟩ rfl rfl hl.1 rfl (lv_room (Nat.le_of_ble_eq_true rfl)) dX3_take_118 ⟨Nat.zero_le _, Nat.zero_le _⟩) hS (fun q _ h => hFc q h) hFc (fun _ t H1 locs ht hvm hw hB hz1 hk1 hS => ?_)
      obtain ⟨hP1, hK1, hD1⟩ := hB
      rw [ht] at hP1
      obtain ⟨hP, hD⟩ := va_join (wr := []) (w1 := [(h0, .inr (3, [.int w0_0, .long w0_1, .long w0_2, .long w0_3, .long w0_4, .long t0, .long r_5.1, .long r_5.2.1, .long r_5.2.2.1, .long r_5.2.2.2, .long w0_10, .long w0_11, .long w0_12, .int w0_13, .ref h1])), (h1, .inl (cI, 6600, .inl w1))]) hP hD [0, 1] [] rfl rfl (by decide) (by decide) hk1 hFc hP1 hD1
      generalize H1 = H at hP hS ⊢
      have hP : va_P (dC, dI) vwCl [(h0, .inr (3, [.int w0_0, .long w0_1, .long w0_2, .long w0_3, .long w0_4, .long t0, .long r_5.1, .long r_5.2.1, .long r_5.2.2.1, .long r_5.2.2.2, .long w0_10, .long w0_11, .long w0_12, .int w0_13, .ref h1])), (h1, .inl (cI, 6600, .inl w1))] H := hP
      have hD : va_D A [(h0, .inr (3, [.int w0_0, .long w0_1, .long w0_2, .long w0_3, .long w0_4, .long t0, .long r_5.1, .long r_5.2.1, .long r_5.2.2.1, .long r_5.2.2.2, .long w0_10, .long w0_11, .long w0_12, .int w0_13, .ref h1])), (h1, .inl (cI, 6600, .inl w1))] := hD
      refine W.widen (k := 0) (n := 0) (Nat.le_refl _) (Nat.le_refl _) ?_
      refine lv_aload_n hx hb dX3_take_121 rfl (lv_at hl 0 rfl) ?_
      refine lv_aload_n hx hb dX3_take_122 rfl (lv_at hl 0 rfl) ?_
      refine va_get (D := (dC, dI)) (ci := 3) (v := .long w0_4) (C := RX3) (T := TX3) (N := 15) hx hb hts in_X3_take_X3 hown hK hP 0 rfl rfl 4 (by decide) (hts (.fieldLink RX3 18 "FormRingModel" "d" "J") (by decide +kernel)) (fun _ h9 => h9) rfl dX3_take_123 ?_
      refine lv_aload_n hx hb dX3_take_126 rfl (lv_at hl 0 rfl) ?_
      refine va_get (D := (dC, dI)) (ci := 3) (v := .long t0) (C := RX3) (T := TX3) (N := 15) hx hb hts in_X3_take_X3 hown hK hP 0 rfl rfl 5 (by decide) (hts (.fieldLink RX3 23 "FormRingModel" "w" "J") (by decide +kernel)) (fun _ h9 => h9) rfl dX3_take_127 ?_
      cases e_7 : f_X3_toName n r_5.1 r_5.2.1 r_5.2.2.1 r_5.2.2.2 w0_4 t0 with
      | none => rw [e_7, Option.bind_none] at hr; cases hr
      | some r_8 =>
        rw [e_7, Option.bind_some] at hr
        have hPc := hP.sub (ws' := [(h0, .inr (3, [.int w0_0, .long w0_1, .long w0_2, .long w0_3, .long w0_4, .long t0, .long r_5.1, .long r_5.2.1, .long r_5.2.2.1, .long r_5.2.2.2, .long w0_10, .long w0_11, .long w0_12, .int w0_13, .ref h1])), (h1, .inl (cI, 6600, .inl w1))]) [0, 1] rfl
        have hDc := hD.sub (ws' := [(h0, .inr (3, [.int w0_0, .long w0_1, .long w0_2, .long w0_3, .long w0_4, .long t0, .long r_5.1, .long r_5.2.1, .long r_5.2.2.1, .long r_5.2.2.2, .long w0_10, .long w0_11, .long w0_12, .int w0_13, .ref h1])), (h1, .inl (cI, 6600, .inl w1))]) [0, 1] (by decide) rfl
        have hKc := hK.sub (tys' := [(cI, .int)]) [0] rfl
        have hFc := va_free (wc := [(h0, .inr (3, [.int w0_0, .long w0_1, .long w0_2, .long w0_3, .long w0_4, .long t0, .long r_5.1, .long r_5.2.1, .long r_5.2.2.1, .long r_5.2.2.2, .long w0_10, .long w0_11, .long w0_12, .int w0_13, .ref h1])), (h1, .inl (cI, 6600, .inl w1))]) hD hS hA [0, 1] rfl
        refine va_callv (va_runV (As := [.long w0_4, .long t0]) (rest := []) ⟨hx, hb, hml, hown, hts⟩ (c_X3_toName l dC dI H.size h0 h1 cI w0_0 w0_1 w0_2 w0_3 w0_4 t0 r_5.1 r_5.2.1 r_5.2.2.1 r_5.2.2.2 w0_10 w0_11 w0_12 w0_13 w1 w0_4 t0 n _ e_7) (cwV 2 hts gX3_take_X3_toName rfl rfl rfl (by decide +kernel) ⟨Nat.le_of_ble_eq_true rfl, Nat.le_of_ble_eq_true rfl⟩) ⟨fun a U g mk q => by obtain ⟨q0, q1, qP, qK, qD⟩ := q; exact ⟨q0, q1, qP, va_K.moved (u := U) (U := U.calling g mk a) (Vm.Alike.refl U.vm) qK, qD⟩, va_recv hKc hPc (ci := 3) (q0 := 0) rfl rfl, fun U hU hW => ⟨rfl, by rw [hU], by rw [hU]; exact hPc, va_K.moved hW.alike hKc, hDc.weaken (fun _ _ _ _ => trivial)⟩⟩ rfl rfl hl.1 rfl (lv_room (Nat.le_of_ble_eq_true rfl)) dX3_take_130 ⟨Nat.zero_le _, Nat.zero_le _⟩) hS (fun q _ h => hFc q h) hFc (fun _ t H1 locs ht hvm hw hB hz1 hk1 hS => ?_)
        obtain ⟨hP1, hK1, hD1⟩ := hB
        rw [ht] at hP1
        obtain ⟨hP, hD⟩ := va_join (wr := []) (w1 := [(h0, .inr (3, [.int w0_0, .long w0_1, .long w0_2, .long w0_3, .long w0_4, .long t0, .long r_8.1, .long r_8.2.1, .long r_8.2.2.1, .long r_8.2.2.2, .long w0_10, .long w0_11, .long w0_12, .int w0_13, .ref h1])), (h1, .inl (cI, 6600, .inl w1))]) hP hD [0, 1] [] rfl rfl (by decide) (by decide) hk1 hFc hP1 hD1
        generalize H1 = H at hP hS ⊢
        have hP : va_P (dC, dI) vwCl [(h0, .inr (3, [.int w0_0, .long w0_1, .long w0_2, .long w0_3, .long w0_4, .long t0, .long r_8.1, .long r_8.2.1, .long r_8.2.2.1, .long r_8.2.2.2, .long w0_10, .long w0_11, .long w0_12, .int w0_13, .ref h1])), (h1, .inl (cI, 6600, .inl w1))] H := hP
        have hD : va_D A [(h0, .inr (3, [.int w0_0, .long w0_1, .long w0_2, .long w0_3, .long w0_4, .long t0, .long r_8.1, .long r_8.2.1, .long r_8.2.2.1, .long r_8.2.2.2, .long w0_10, .long w0_11, .long w0_12, .int w0_13, .ref h1])), (h1, .inl (cI, 6600, .inl w1))] := hD
        refine W.widen (k := 0) (n := 0) (Nat.le_refl _) (Nat.le_refl _) ?_
        refine lv_aload_n hx hb dX3_take_133 rfl (lv_at hl 0 rfl) ?_
        refine lv_aload_n hx hb dX3_take_134 rfl (lv_at hl 0 rfl) ?_
        refine va_get (D := (dC, dI)) (ci := 3) (v := .long r_8.1) (C := RX3) (T := TX3) (N := 15) hx hb hts in_X3_take_X3 hown hK hP 0 rfl rfl 6 (by decide) (hts (.fieldLink RX3 69 "FormRingModel" "x" "J") (by decide +kernel)) (fun _ h9 => h9) rfl dX3_take_135 ?_
        refine va_put (D := (dC, dI)) (ci := 3) (v := .long r_8.1) (ty := .long) (C := RX3) (T := TX3) (N := 15) hx hb hts in_X3_take_X3 tyX3 tyX3_ok nmX3 hown hK hP hD hS 0 rfl rfl 10 (by decide) (hts (.fieldLink RX3 26 "FormRingModel" "nameA" "J") (by decide +kernel)) (fun _ h9 => h9) rfl (by decide +kernel) rfl rfl (Nat.le_of_ble_eq_true rfl) dX3_take_138 (fun H locs hP hD hS => ?_)
        have hP : va_P (dC, dI) vwCl [(h0, .inr (3, [.int w0_0, .long w0_1, .long w0_2, .long w0_3, .long w0_4, .long t0, .long r_8.1, .long r_8.2.1, .long r_8.2.2.1, .long r_8.2.2.2, .long r_8.1, .long w0_11, .long w0_12, .int w0_13, .ref h1])), (h1, .inl (cI, 6600, .inl w1))] H := hP
        have hD : va_D A [(h0, .inr (3, [.int w0_0, .long w0_1, .long w0_2, .long w0_3, .long w0_4, .long t0, .long r_8.1, .long r_8.2.1, .long r_8.2.2.1, .long r_8.2.2.2, .long r_8.1, .long w0_11, .long w0_12, .int w0_13, .ref h1])), (h1, .inl (cI, 6600, .inl w1))] := hD
        refine lv_aload_n hx hb dX3_take_141 rfl (lv_at hl 0 rfl) ?_
        refine lv_aload_n hx hb dX3_take_142 rfl (lv_at hl 0 rfl) ?_
        refine va_get (D := (dC, dI)) (ci := 3) (v := .long r_8.2.1) (C := RX3) (T := TX3) (N := 15) hx hb hts in_X3_take_X3 hown hK hP 0 rfl rfl 7 (by decide) (hts (.fieldLink RX3 72 "FormRingModel" "y" "J") (by decide +kernel)) (fun _ h9 => h9) rfl dX3_take_143 ?_
        refine va_put (D := (dC, dI)) (ci := 3) (v := .long r_8.2.1) (ty := .long) (C := RX3) (T := TX3) (N := 15) hx hb hts in_X3_take_X3 tyX3 tyX3_ok nmX3 hown hK hP hD hS 0 rfl rfl 11 (by decide) (hts (.fieldLink RX3 94 "FormRingModel" "nameB" "J") (by decide +kernel)) (fun _ h9 => h9) rfl (by decide +kernel) rfl rfl (Nat.le_of_ble_eq_true rfl) dX3_take_146 (fun H locs hP hD hS => ?_)
        have hP : va_P (dC, dI) vwCl [(h0, .inr (3, [.int w0_0, .long w0_1, .long w0_2, .long w0_3, .long w0_4, .long t0, .long r_8.1, .long r_8.2.1, .long r_8.2.2.1, .long r_8.2.2.2, .long r_8.1, .long r_8.2.1, .long w0_12, .int w0_13, .ref h1])), (h1, .inl (cI, 6600, .inl w1))] H := hP
        have hD : va_D A [(h0, .inr (3, [.int w0_0, .long w0_1, .long w0_2, .long w0_3, .long w0_4, .long t0, .long r_8.1, .long r_8.2.1, .long r_8.2.2.1, .long r_8.2.2.2, .long r_8.1, .long r_8.2.1, .long w0_12, .int w0_13, .ref h1])), (h1, .inl (cI, 6600, .inl w1))] := hD
        refine lv_aload_n hx hb dX3_take_149 rfl (lv_at hl 0 rfl) ?_
        refine lv_aload_n hx hb dX3_take_150 rfl (lv_at hl 0 rfl) ?_
        refine va_get (D := (dC, dI)) (ci := 3) (v := .long r_8.2.2.1) (C := RX3) (T := TX3) (N := 15) hx hb hts in_X3_take_X3 hown hK hP 0 rfl rfl 8 (by decide) (hts (.fieldLink RX3 75 "FormRingModel" "z" "J") (by decide +kernel)) (fun _ h9 => h9) rfl dX3_take_151 ?_
        refine va_put (D := (dC, dI)) (ci := 3) (v := .long r_8.2.2.1) (ty := .long) (C := RX3) (T := TX3) (N := 15) hx hb hts in_X3_take_X3 tyX3 tyX3_ok nmX3 hown hK hP hD hS 0 rfl rfl 12 (by decide) (hts (.fieldLink RX3 29 "FormRingModel" "nameC" "J") (by decide +kernel)) (fun _ h9 => h9) rfl (by decide +kernel) rfl rfl (Nat.le_of_ble_eq_true rfl) dX3_take_154 (fun H locs hP hD hS => ?_)
        have hP : va_P (dC, dI) vwCl [(h0, .inr (3, [.int w0_0, .long w0_1, .long w0_2, .long w0_3, .long w0_4, .long t0, .long r_8.1, .long r_8.2.1, .long r_8.2.2.1, .long r_8.2.2.2, .long r_8.1, .long r_8.2.1, .long r_8.2.2.1, .int w0_13, .ref h1])), (h1, .inl (cI, 6600, .inl w1))] H := hP
        have hD : va_D A [(h0, .inr (3, [.int w0_0, .long w0_1, .long w0_2, .long w0_3, .long w0_4, .long t0, .long r_8.1, .long r_8.2.1, .long r_8.2.2.1, .long r_8.2.2.2, .long r_8.1, .long r_8.2.1, .long r_8.2.2.1, .int w0_13, .ref h1])), (h1, .inl (cI, 6600, .inl w1))] := hD
        refine lv_aload_n hx hb dX3_take_157 rfl (lv_at hl 0 rfl) ?_
        refine lv_iconst (v := 4) hx hb dX3_take_158 (by decide) ?_
        refine va_put (D := (dC, dI)) (ci := 3) (v := .int 4) (ty := .int) (C := RX3) (T := TX3) (N := 15) hx hb hts in_X3_take_X3 tyX3 tyX3_ok nmX3 hown hK hP hD hS 0 rfl rfl 13 (by decide) (hts (.fieldLink RX3 32 "FormRingModel" "digits" "I") (by decide +kernel)) (fun _ h9 => h9) rfl (by decide +kernel) rfl rfl (Nat.le_of_ble_eq_true rfl) dX3_take_159 (fun H locs hP hD hS => ?_)
        have hP : va_P (dC, dI) vwCl [(h0, .inr (3, [.int w0_0, .long w0_1, .long w0_2, .long w0_3, .long w0_4, .long t0, .long r_8.1, .long r_8.2.1, .long r_8.2.2.1, .long r_8.2.2.2, .long r_8.1, .long r_8.2.1, .long r_8.2.2.1, .int 4, .ref h1])), (h1, .inl (cI, 6600, .inl w1))] H := hP
        have hD : va_D A [(h0, .inr (3, [.int w0_0, .long w0_1, .long w0_2, .long w0_3, .long w0_4, .long t0, .long r_8.1, .long r_8.2.1, .long r_8.2.2.1, .long r_8.2.2.2, .long r_8.1, .long r_8.2.1, .long r_8.2.2.1, .int 4, .ref h1])), (h1, .inl (cI, 6600, .inl w1))] := hD
        refine lv_iconst (v := 0) hx hb dX3_take_162 (by decide) ?_
        refine lv_istore (lv' := [(4, .int 0), (0, .ref h0), (1, .int a1), (2, .int a2), (3, .int a3)]) hx hb dX3_take_163 hl (by decide) rfl (fun ls hl => ?_)
        exact k_X3_take_165 hx hb hrt hml hown hlocks hts hA hK n out n 0 w1 w0_0 w0_1 w0_2 w0_3 w0_4 t0 r_8.1 r_8.2.1 r_8.2.2.1 r_8.2.2.2 r_8.1 r_8.2.1 r_8.2.2.1 4 hr _ _ _ hP hD hS (lv_sub hl [1, 2, 3, 4, 0] rfl)
def f_X3_take_21 (n : Nat) (a1 : Int32) (a2 : Int32) (a3 : Int32) (w1 : Nat → Int32) (w0_0 : Int32) (w0_1 : Int64) (w0_2 : Int64) (w0_3 : Int64) (w0_4 : Int64) (w0_5 : Int64) (w0_6 : Int64) (w0_7 : Int64) (w0_8 : Int64) (w0_9 : Int64) (w0_10 : Int64) (w0_11 : Int64) (w0_12 : Int64) (w0_13 : Int32) : Option (Int32 × (Nat → Int32) × Int32 × Int64 × Int64 × Int64 × Int64 × Int64 × Int64 × Int64 × Int64 × Int64 × Int64 × Int64 × Int64 × Int32) := if 0 < w0_0 then (some (0, w1, w0_0, w0_1, w0_2, w0_3, w0_4, w0_5, w0_6, w0_7, w0_8, w0_9, w0_10, w0_11, w0_12, w0_13)) else ((f_X3_discriminant n a1.toInt64 a2.toInt64 a3.toInt64).bind (fun r_3 => if r_3 < 0 then (f_X3_take_90 n (-1) w1 w0_0 a1.toInt64 a2.toInt64 a3.toInt64 r_3 w0_5 w0_6 w0_7 w0_8 w0_9 w0_10 w0_11 w0_12 w0_13) else ((f_X3_wholeRoot n r_3).bind (fun r_7 => f_X3_take_90 n r_7 w1 w0_0 a1.toInt64 a2.toInt64 a3.toInt64 r_3 w0_5 w0_6 w0_7 w0_8 w0_9 w0_10 w0_11 w0_12 w0_13))))
set_option maxHeartbeats 4000000 in
set_option maxRecDepth 100000 in
theorem k_X3_take_21 {p : Program} {l : Launch} {e : Env} {s : State} {m : MethodId} {args : Array Value} {below : List Frame} {meth : Method} {c : Code} {dC : Nat → ClassId} {dI : Nat → Nat → Nat} {A : Nat → Prop} {h0 : Nat} {h1 : Nat} {cI : ClassId} {a1 : Int32} {a2 : Int32} {a3 : Int32} (hx : p.tables.exec = Jvm.exec) (hb : c.code = cX3_take) (hrt : meth.sig.returnType = (some .int)) (hml : c.maxLocals = 6) (hown : s.vm.findClass RX3 = some m.cls) (hlocks : meth.locks = false) (hts : ∀ w ∈ wsX3_take, w.before args s = true) (hA : ∀ q : Nat, s.heap.size ≤ q → A q) (hK : va_K (dC, dI) vwCl [(cI, .int)] s)  (n : Nat) (out : Int32 × (Nat → Int32) × Int32 × Int64 × Int64 × Int64 × Int64 × Int64 × Int64 × Int64 × Int64 × Int64 × Int64 × Int64 × Int64 × Int32) :
    ∀ (w1 : Nat → Int32) (w0_0 : Int32) (w0_1 : Int64) (w0_2 : Int64) (w0_3 : Int64) (w0_4 : Int64) (w0_5 : Int64) (w0_6 : Int64) (w0_7 : Int64) (w0_8 : Int64) (w0_9 : Int64) (w0_10 : Int64) (w0_11 : Int64) (w0_12 : Int64) (w0_13 : Int32), f_X3_take_21 n a1 a2 a3 w1 w0_0 w0_1 w0_2 w0_3 w0_4 w0_5 w0_6 w0_7 w0_8 w0_9 w0_10 w0_11 w0_12 w0_13 = some out → ∀ (H : Heap) (locs : List Loc) (ls : Array Slot), va_P (dC, dI) vwCl [(h0, .inr (3, [.int w0_0, .long w0_1, .long w0_2, .long w0_3, .long w0_4, .long w0_5, .long w0_6, .long w0_7, .long w0_8, .long w0_9, .long w0_10, .long w0_11, .long w0_12, .int w0_13, .ref h1])), (h1, .inl (cI, 6600, .inl w1))] H → va_D A [(h0, .inr (3, [.int w0_0, .long w0_1, .long w0_2, .long w0_3, .long w0_4, .long w0_5, .long w0_6, .long w0_7, .long w0_8, .long w0_9, .long w0_10, .long w0_11, .long w0_12, .int w0_13, .ref h1])), (h1, .inl (cI, 6600, .inl w1))] → va_S A s.heap H locs → lv_has ls 6 [(0, .ref h0), (1, .int a1), (2, .int a2), (3, .int a3)] → W p l e ({ frames := 4, cells := 0, slots := 0, locals := 91 }) s m args below meth c H locs 0 0 (MQ below (va_Qi (fun r (_ : Unit) => r = out.1) (fun (_ : Unit) t => zB dC dI [(cI, .int)] A [(h0, .inr (3, [.int out.2.2.1, .long out.2.2.2.1, .long out.2.2.2.2.1, .long out.2.2.2.2.2.1, .long out.2.2.2.2.2.2.1, .long out.2.2.2.2.2.2.2.1, .long out.2.2.2.2.2.2.2.2.1, .long out.2.2.2.2.2.2.2.2.2.1, .long out.2.2.2.2.2.2.2.2.2.2.1, .long out.2.2.2.2.2.2.2.2.2.2.2.1, .long out.2.2.2.2.2.2.2.2.2.2.2.2.1, .long out.2.2.2.2.2.2.2.2.2.2.2.2.2.1, .long out.2.2.2.2.2.2.2.2.2.2.2.2.2.2.1, .int out.2.2.2.2.2.2.2.2.2.2.2.2.2.2.2, .ref h1])), (h1, .inl (cI, 6600, .inl out.2.1))] t) A) args s 0 0 A) (F0 m 21 ls []) := by
  intro w1 w0_0 w0_1 w0_2 w0_3 w0_4 w0_5 w0_6 w0_7 w0_8 w0_9 w0_10 w0_11 w0_12 w0_13 hr H locs ls hP hD hS hl
  unfold f_X3_take_21 at hr
  refine lv_aload_n hx hb dX3_take_21 rfl (lv_at hl 0 rfl) ?_
  refine va_get (D := (dC, dI)) (ci := 3) (v := .int w0_0) (C := RX3) (T := TX3) (N := 15) hx hb hts in_X3_take_X3 hown hK hP 0 rfl rfl 0 (by decide) (hts (.fieldLink RX3 44 "FormRingModel" "code" "I") (by decide +kernel)) (fun _ h9 => h9) rfl dX3_take_22 ?_
  refine lz_zle (tgt := 30) hx hb dX3_take_25 (by decide) (fun c_1 => ?_) (fun c_1 => ?_)
  · have hr := (if_neg c_1).symm.trans hr
    refine lv_aload_n hx hb dX3_take_30 rfl (lv_at hl 0 rfl) ?_
    refine lv_iload_n hx hb dX3_take_31 rfl (lv_at hl 1 rfl) ?_
    refine lv_i2l hx hb dX3_take_32 rfl ?_
    refine va_put (D := (dC, dI)) (ci := 3) (v := .long a1.toInt64) (ty := .long) (C := RX3) (T := TX3) (N := 15) hx hb hts in_X3_take_X3 tyX3 tyX3_ok nmX3 hown hK hP hD hS 0 rfl rfl 1 (by decide) (hts (.fieldLink RX3 7 "FormRingModel" "a" "J") (by decide +kernel)) (fun _ h9 => h9) rfl (by decide +kernel) rfl rfl (Nat.le_of_ble_eq_true rfl) dX3_take_33 (fun H locs hP hD hS => ?_)
    have hP : va_P (dC, dI) vwCl [(h0, .inr (3, [.int w0_0, .long a1.toInt64, .long w0_2, .long w0_3, .long w0_4, .long w0_5, .long w0_6, .long w0_7, .long w0_8, .long w0_9, .long w0_10, .long w0_11, .long w0_12, .int w0_13, .ref h1])), (h1, .inl (cI, 6600, .inl w1))] H := hP
    have hD : va_D A [(h0, .inr (3, [.int w0_0, .long a1.toInt64, .long w0_2, .long w0_3, .long w0_4, .long w0_5, .long w0_6, .long w0_7, .long w0_8, .long w0_9, .long w0_10, .long w0_11, .long w0_12, .int w0_13, .ref h1])), (h1, .inl (cI, 6600, .inl w1))] := hD
    refine lv_aload_n hx hb dX3_take_36 rfl (lv_at hl 0 rfl) ?_
    refine lv_iload_n hx hb dX3_take_37 rfl (lv_at hl 2 rfl) ?_
    refine lv_i2l hx hb dX3_take_38 rfl ?_
    refine va_put (D := (dC, dI)) (ci := 3) (v := .long a2.toInt64) (ty := .long) (C := RX3) (T := TX3) (N := 15) hx hb hts in_X3_take_X3 tyX3 tyX3_ok nmX3 hown hK hP hD hS 0 rfl rfl 2 (by decide) (hts (.fieldLink RX3 129 "FormRingModel" "b" "J") (by decide +kernel)) (fun _ h9 => h9) rfl (by decide +kernel) rfl rfl (Nat.le_of_ble_eq_true rfl) dX3_take_39 (fun H locs hP hD hS => ?_)
    have hP : va_P (dC, dI) vwCl [(h0, .inr (3, [.int w0_0, .long a1.toInt64, .long a2.toInt64, .long w0_3, .long w0_4, .long w0_5, .long w0_6, .long w0_7, .long w0_8, .long w0_9, .long w0_10, .long w0_11, .long w0_12, .int w0_13, .ref h1])), (h1, .inl (cI, 6600, .inl w1))] H := hP
    have hD : va_D A [(h0, .inr (3, [.int w0_0, .long a1.toInt64, .long a2.toInt64, .long w0_3, .long w0_4, .long w0_5, .long w0_6, .long w0_7, .long w0_8, .long w0_9, .long w0_10, .long w0_11, .long w0_12, .int w0_13, .ref h1])), (h1, .inl (cI, 6600, .inl w1))] := hD
    refine lv_aload_n hx hb dX3_take_42 rfl (lv_at hl 0 rfl) ?_
    refine lv_iload_n hx hb dX3_take_43 rfl (lv_at hl 3 rfl) ?_
    refine lv_i2l hx hb dX3_take_44 rfl ?_
    refine va_put (D := (dC, dI)) (ci := 3) (v := .long a3.toInt64) (ty := .long) (C := RX3) (T := TX3) (N := 15) hx hb hts in_X3_take_X3 tyX3 tyX3_ok nmX3 hown hK hP hD hS 0 rfl rfl 3 (by decide) (hts (.fieldLink RX3 13 "FormRingModel" "c" "J") (by decide +kernel)) (fun _ h9 => h9) rfl (by decide +kernel) rfl rfl (Nat.le_of_ble_eq_true rfl) dX3_take_45 (fun H locs hP hD hS => ?_)
    have hP : va_P (dC, dI) vwCl [(h0, .inr (3, [.int w0_0, .long a1.toInt64, .long a2.toInt64, .long a3.toInt64, .long w0_4, .long w0_5, .long w0_6, .long w0_7, .long w0_8, .long w0_9, .long w0_10, .long w0_11, .long w0_12, .int w0_13, .ref h1])), (h1, .inl (cI, 6600, .inl w1))] H := hP
    have hD : va_D A [(h0, .inr (3, [.int w0_0, .long a1.toInt64, .long a2.toInt64, .long a3.toInt64, .long w0_4, .long w0_5, .long w0_6, .long w0_7, .long w0_8, .long w0_9, .long w0_10, .long w0_11, .long w0_12, .int w0_13, .ref h1])), (h1, .inl (cI, 6600, .inl w1))] := hD
    refine lv_aload_n hx hb dX3_take_48 rfl (lv_at hl 0 rfl) ?_
    refine lv_aload_n hx hb dX3_take_49 rfl (lv_at hl 0 rfl) ?_
    refine va_get (D := (dC, dI)) (ci := 3) (v := .long a1.toInt64) (C := RX3) (T := TX3) (N := 15) hx hb hts in_X3_take_X3 hown hK hP 0 rfl rfl 1 (by decide) (hts (.fieldLink RX3 7 "FormRingModel" "a" "J") (by decide +kernel)) (fun _ h9 => h9) rfl dX3_take_50 ?_
    refine lv_aload_n hx hb dX3_take_53 rfl (lv_at hl 0 rfl) ?_
    refine va_get (D := (dC, dI)) (ci := 3) (v := .long a2.toInt64) (C := RX3) (T := TX3) (N := 15) hx hb hts in_X3_take_X3 hown hK hP 0 rfl rfl 2 (by decide) (hts (.fieldLink RX3 129 "FormRingModel" "b" "J") (by decide +kernel)) (fun _ h9 => h9) rfl dX3_take_54 ?_
    refine lv_aload_n hx hb dX3_take_57 rfl (lv_at hl 0 rfl) ?_
    refine va_get (D := (dC, dI)) (ci := 3) (v := .long a3.toInt64) (C := RX3) (T := TX3) (N := 15) hx hb hts in_X3_take_X3 hown hK hP 0 rfl rfl 3 (by decide) (hts (.fieldLink RX3 13 "FormRingModel" "c" "J") (by decide +kernel)) (fun _ h9 => h9) rfl dX3_take_58 ?_
    cases e_2 : f_X3_discriminant n a1.toInt64 a2.toInt64 a3.toInt64 with
    | none => rw [e_2, Option.bind_none] at hr; cases hr
    | some r_3 =>
      rw [e_2, Option.bind_some] at hr
      have hPc := hP.sub (ws' := []) [] rfl
      have hDc := hD.sub (ws' := []) [] (by decide) rfl
      have hKc := hK.sub (tys' := []) [] rfl
      have hFc := va_free (wc := []) hD hS hA [] rfl
      refine va_calll (va_runS (As := [.long a1.toInt64, .long a2.toInt64, .long a3.toInt64]) (rest := [.ref h0]) ⟨hx, hb, hml, hown, hts⟩ (c_X3_discriminant l dC dI H.size  a1.toInt64 a2.toInt64 a3.toInt64 n _ e_2) (va_cwS 3 hts gX3_take_X3_discriminant rfl rfl rfl (by decide +kernel) ⟨Nat.le_of_ble_eq_true rfl, Nat.le_of_ble_eq_true rfl⟩) ⟨fun a U g mk q => by obtain ⟨q0, q1, qP, qK, qD⟩ := q; exact ⟨q0, q1, qP, va_K.moved (u := U) (U := U.calling g mk a) (Vm.Alike.refl U.vm) qK, qD⟩, fun U hU hW => ⟨rfl, by rw [hU], by rw [hU]; exact hPc, va_K.moved hW.alike hKc, hDc.weaken (fun _ _ _ _ => trivial)⟩⟩ rfl rfl hl.1 rfl (lv_room (Nat.le_of_ble_eq_true rfl)) dX3_take_61 ⟨Nat.zero_le _, Nat.zero_le _⟩) hS (fun q _ h => hFc q h) hFc (fun x_4 _ t H1 locs ht hvm hw hB hz1 hk1 hS => ?_)
      have hw := hw.symm
      subst hw
      obtain ⟨hP1, hK1, hD1⟩ := hB
      rw [ht] at hP1
      obtain ⟨hP, hD⟩ := va_join (wr := [(h0, .inr (3, [.int w0_0, .long a1.toInt64, .long a2.toInt64, .long a3.toInt64, .long w0_4, .long w0_5, .long w0_6, .long w0_7, .long w0_8, .long w0_9, .long w0_10, .long w0_11, .long w0_12, .int w0_13, .ref h1])), (h1, .inl (cI, 6600, .inl w1))]) (w1 := []) hP hD [] [0, 1] rfl rfl (by decide) (by decide) hk1 hFc hP1 hD1
      generalize H1 = H at hP hS ⊢
      have hP : va_P (dC, dI) vwCl [(h0, .inr (3, [.int w0_0, .long a1.toInt64, .long a2.toInt64, .long a3.toInt64, .long w0_4, .long w0_5, .long w0_6, .long w0_7, .long w0_8, .long w0_9, .long w0_10, .long w0_11, .long w0_12, .int w0_13, .ref h1])), (h1, .inl (cI, 6600, .inl w1))] H := hP
      have hD : va_D A [(h0, .inr (3, [.int w0_0, .long a1.toInt64, .long a2.toInt64, .long a3.toInt64, .long w0_4, .long w0_5, .long w0_6, .long w0_7, .long w0_8, .long w0_9, .long w0_10, .long w0_11, .long w0_12, .int w0_13, .ref h1])), (h1, .inl (cI, 6600, .inl w1))] := hD
      refine W.widen (k := 0) (n := 0) (Nat.le_refl _) (Nat.le_refl _) ?_
      refine va_put (D := (dC, dI)) (ci := 3) (v := .long r_3) (ty := .long) (C := RX3) (T := TX3) (N := 15) hx hb hts in_X3_take_X3 tyX3 tyX3_ok nmX3 hown hK hP hD hS 0 rfl rfl 4 (by decide) (hts (.fieldLink RX3 18 "FormRingModel" "d" "J") (by decide +kernel)) (fun _ h9 => h9) rfl (by decide +kernel) rfl rfl (Nat.le_of_ble_eq_true rfl) dX3_take_64 (fun H locs hP hD hS => ?_)
      have hP : va_P (dC, dI) vwCl [(h0, .inr (3, [.int w0_0, .long a1.toInt64, .long a2.toInt64, .long a3.toInt64, .long r_3, .long w0_5, .long w0_6, .long w0_7, .long w0_8, .long w0_9, .long w0_10, .long w0_11, .long w0_12, .int w0_13, .ref h1])), (h1, .inl (cI, 6600, .inl w1))] H := hP
      have hD : va_D A [(h0, .inr (3, [.int w0_0, .long a1.toInt64, .long a2.toInt64, .long a3.toInt64, .long r_3, .long w0_5, .long w0_6, .long w0_7, .long w0_8, .long w0_9, .long w0_10, .long w0_11, .long w0_12, .int w0_13, .ref h1])), (h1, .inl (cI, 6600, .inl w1))] := hD
      refine lv_aload_n hx hb dX3_take_67 rfl (lv_at hl 0 rfl) ?_
      refine lv_aload_n hx hb dX3_take_68 rfl (lv_at hl 0 rfl) ?_
      refine va_get (D := (dC, dI)) (ci := 3) (v := .long r_3) (C := RX3) (T := TX3) (N := 15) hx hb hts in_X3_take_X3 hown hK hP 0 rfl rfl 4 (by decide) (hts (.fieldLink RX3 18 "FormRingModel" "d" "J") (by decide +kernel)) (fun _ h9 => h9) rfl dX3_take_69 ?_
      refine lv_lconst (v := 0) hx hb dX3_take_72 (by decide) ?_
      refine lz_lge (tgt := 83) hx hb dX3_take_73 dX3_take_74 (by decide) (fun c_5 => ?_) (fun c_5 => ?_)
      · have hr := (if_neg c_5).symm.trans hr
        refine lv_aload_n hx hb dX3_take_83 rfl (lv_at hl 0 rfl) ?_
        refine va_get (D := (dC, dI)) (ci := 3) (v := .long r_3) (C := RX3) (T := TX3) (N := 15) hx hb hts in_X3_take_X3 hown hK hP 0 rfl rfl 4 (by decide) (hts (.fieldLink RX3 18 "FormRingModel" "d" "J") (by decide +kernel)) (fun _ h9 => h9) rfl dX3_take_84 ?_
        cases e_6 : f_X3_wholeRoot n r_3 with
        | none => rw [e_6, Option.bind_none] at hr; cases hr
        | some r_7 =>
          rw [e_6, Option.bind_some] at hr
          have hPc := hP.sub (ws' := []) [] rfl
          have hDc := hD.sub (ws' := []) [] (by decide) rfl
          have hKc := hK.sub (tys' := []) [] rfl
          have hFc := va_free (wc := []) hD hS hA [] rfl
          refine va_calll (va_runS (As := [.long r_3]) (rest := [.ref h0]) ⟨hx, hb, hml, hown, hts⟩ (c_X3_wholeRoot l dC dI H.size  r_3 n _ e_6) (va_cwS 1 hts gX3_take_X3_wholeRoot rfl rfl rfl (by decide +kernel) ⟨Nat.le_of_ble_eq_true rfl, Nat.le_of_ble_eq_true rfl⟩) ⟨fun a U g mk q => by obtain ⟨q0, q1, qP, qK, qD⟩ := q; exact ⟨q0, q1, qP, va_K.moved (u := U) (U := U.calling g mk a) (Vm.Alike.refl U.vm) qK, qD⟩, fun U hU hW => ⟨rfl, by rw [hU], by rw [hU]; exact hPc, va_K.moved hW.alike hKc, hDc.weaken (fun _ _ _ _ => trivial)⟩⟩ rfl rfl hl.1 rfl (lv_room (Nat.le_of_ble_eq_true rfl)) dX3_take_87 ⟨Nat.zero_le _, Nat.zero_le _⟩) hS (fun q _ h => hFc q h) hFc (fun x_8 _ t H1 locs ht hvm hw hB hz1 hk1 hS => ?_)
          have hw := hw.symm
          subst hw
          obtain ⟨hP1, hK1, hD1⟩ := hB
          rw [ht] at hP1
          obtain ⟨hP, hD⟩ := va_join (wr := [(h0, .inr (3, [.int w0_0, .long a1.toInt64, .long a2.toInt64, .long a3.toInt64, .long r_3, .long w0_5, .long w0_6, .long w0_7, .long w0_8, .long w0_9, .long w0_10, .long w0_11, .long w0_12, .int w0_13, .ref h1])), (h1, .inl (cI, 6600, .inl w1))]) (w1 := []) hP hD [] [0, 1] rfl rfl (by decide) (by decide) hk1 hFc hP1 hD1
          generalize H1 = H at hP hS ⊢
          have hP : va_P (dC, dI) vwCl [(h0, .inr (3, [.int w0_0, .long a1.toInt64, .long a2.toInt64, .long a3.toInt64, .long r_3, .long w0_5, .long w0_6, .long w0_7, .long w0_8, .long w0_9, .long w0_10, .long w0_11, .long w0_12, .int w0_13, .ref h1])), (h1, .inl (cI, 6600, .inl w1))] H := hP
          have hD : va_D A [(h0, .inr (3, [.int w0_0, .long a1.toInt64, .long a2.toInt64, .long a3.toInt64, .long r_3, .long w0_5, .long w0_6, .long w0_7, .long w0_8, .long w0_9, .long w0_10, .long w0_11, .long w0_12, .int w0_13, .ref h1])), (h1, .inl (cI, 6600, .inl w1))] := hD
          refine W.widen (k := 0) (n := 0) (Nat.le_refl _) (Nat.le_refl _) ?_
          exact k_X3_take_90 hx hb hrt hml hown hlocks hts hA hK n out r_7 w1 w0_0 a1.toInt64 a2.toInt64 a3.toInt64 r_3 w0_5 w0_6 w0_7 w0_8 w0_9 w0_10 w0_11 w0_12 w0_13 hr _ _ _ hP hD hS (lv_sub hl [0, 1, 2, 3] rfl)
      · have hr := (if_pos c_5).symm.trans hr
        refine lv_ldc2 (v := (-1)) hx hb hown (hts (.constantLong RX3 21 (-1)) (by decide +kernel)) dX3_take_77 ?_
        refine lv_goto (tgt := 90) hx hb dX3_take_80 (by decide) ?_
        exact k_X3_take_90 hx hb hrt hml hown hlocks hts hA hK n out (-1) w1 w0_0 a1.toInt64 a2.toInt64 a3.toInt64 r_3 w0_5 w0_6 w0_7 w0_8 w0_9 w0_10 w0_11 w0_12 w0_13 hr _ _ _ hP hD hS (lv_sub hl [0, 1, 2, 3] rfl)
  · have hr := (if_pos c_1).symm.trans hr
    refine lv_iconst (v := 0) hx hb dX3_take_28 (by decide) ?_
    have ho := Option.some.inj hr
    subst ho
    exact W.iret (v := 0) hx hb hrt (fun t ht hW => ⟨⟨0, (), rfl, rfl, by rw [ht]; exact hP, va_K.moved hW.alike hK, hD⟩, hS.F ht⟩) hS.2.2 dX3_take_29
def f_X3_take (n : Nat) (v1 : Int64) (v2 : Int64) (v3 : Int64) (v4 : Int64) (v5 : Int64) (v6 : Int64) (v7 : Int64) (v8 : Int64) (v9 : Int64) (v10 : Int64) (v11 : Int64) (v12 : Int64) (v13 : Int32) (vR : Nat → Int32) (a1 : Int32) (a2 : Int32) (a3 : Int32) : Option (Int32 × (Nat → Int32) × Int32 × Int64 × Int64 × Int64 × Int64 × Int64 × Int64 × Int64 × Int64 × Int64 × Int64 × Int64 × Int64 × Int32) := (f_X3_canBeTaken n a1.toInt64 a2.toInt64 a3.toInt64).bind (fun r_2 => if r_2 = 0 then (f_X3_take_21 n a1 a2 a3 vR 1 v1 v2 v3 v4 v5 v6 v7 v8 v9 v10 v11 v12 v13) else (f_X3_take_21 n a1 a2 a3 vR 0 v1 v2 v3 v4 v5 v6 v7 v8 v9 v10 v11 v12 v13))
set_option maxHeartbeats 4000000 in
set_option maxRecDepth 100000 in
theorem c_X3_take (l : Launch) (dC : Nat → ClassId) (dI : Nat → Nat → Nat) (sz : Nat) (h0 : Nat) (h1 : Nat) (cI : ClassId) (v0 : Int32) (v1 : Int64) (v2 : Int64) (v3 : Int64) (v4 : Int64) (v5 : Int64) (v6 : Int64) (v7 : Int64) (v8 : Int64) (v9 : Int64) (v10 : Int64) (v11 : Int64) (v12 : Int64) (v13 : Int32) (vR : Nat → Int32) (a1 : Int32) (a2 : Int32) (a3 : Int32)  (n : Nat) (out : Int32 × (Nat → Int32) × Int32 × Int64 × Int64 × Int64 × Int64 × Int64 × Int64 × Int64 × Int64 × Int64 × Int64 × Int64 × Int64 × Int32) (hr : f_X3_take n v1 v2 v3 v4 v5 v6 v7 v8 v9 v10 v11 v12 v13 vR a1 a2 a3 = some out) : Met l yX3_take wsX3_take ({ frames := 4, cells := 0, slots := 0, locals := 91 }) (va_Pc [.ref h0, .int a1, .int a2, .int a3] (zP dC dI [(cI, .int)] [(h0, .inr (3, [.int v0, .long v1, .long v2, .long v3, .long v4, .long v5, .long v6, .long v7, .long v8, .long v9, .long v10, .long v11, .long v12, .int v13, .ref h1])), (h1, .inl (cI, 6600, .inl vR))] sz)) (va_Qi (fun r (_ : Unit) => r = out.1) (fun (_ : Unit) t => zB dC dI [(cI, .int)] (va_A [(h0, .inr (3, [.int v0, .long v1, .long v2, .long v3, .long v4, .long v5, .long v6, .long v7, .long v8, .long v9, .long v10, .long v11, .long v12, .int v13, .ref h1])), (h1, .inl (cI, 6600, .inl vR))] sz) [(h0, .inr (3, [.int out.2.2.1, .long out.2.2.2.1, .long out.2.2.2.2.1, .long out.2.2.2.2.2.1, .long out.2.2.2.2.2.2.1, .long out.2.2.2.2.2.2.2.1, .long out.2.2.2.2.2.2.2.2.1, .long out.2.2.2.2.2.2.2.2.2.1, .long out.2.2.2.2.2.2.2.2.2.2.1, .long out.2.2.2.2.2.2.2.2.2.2.2.1, .long out.2.2.2.2.2.2.2.2.2.2.2.2.1, .long out.2.2.2.2.2.2.2.2.2.2.2.2.2.1, .long out.2.2.2.2.2.2.2.2.2.2.2.2.2.2.1, .int out.2.2.2.2.2.2.2.2.2.2.2.2.2.2.2, .ref h1])), (h1, .inl (cI, 6600, .inl out.2.1))] t) (va_A [(h0, .inr (3, [.int v0, .long v1, .long v2, .long v3, .long v4, .long v5, .long v6, .long v7, .long v8, .long v9, .long v10, .long v11, .long v12, .int v13, .ref h1])), (h1, .inl (cI, 6600, .inl vR))] sz)) 0 0 (va_A [(h0, .inr (3, [.int v0, .long v1, .long v2, .long v3, .long v4, .long v5, .long v6, .long v7, .long v8, .long v9, .long v10, .long v11, .long v12, .int v13, .ref h1])), (h1, .inl (cI, 6600, .inl vR))] sz) := by
  refine Met.ofW (cc := cX3_take) (maxL := 6) (ret := (some .int)) (by decide) rfl ?_
  intro p e s m args below meth c s₁ B hml hv
  obtain ⟨rfl, hsz, hP, hK, hD0⟩ := hv
  have hx := B.exec
  have hb := B.bytes
  have hrt := B.returns
  have hts := atoms_spec (ws := wsX3_take) B.pre
  have hown : s.vm.findClass RX3 = some m.cls := findClass_of_methodNamed B.named
  have hlocks := B.notSynchronized
  subst hsz
  have hD := hD0.self (sz := s.heap.size)
  generalize hAe : va_A [(h0, .inr (3, [.int v0, .long v1, .long v2, .long v3, .long v4, .long v5, .long v6, .long v7, .long v8, .long v9, .long v10, .long v11, .long v12, .int v13, .ref h1])), (h1, .inl (cI, 6600, .inl vR))] s.heap.size = A at hD ⊢
  have hA : ∀ q : Nat, s.heap.size ≤ q → A q := fun q h => by rw [← hAe]; exact Or.inr h
  have hS : va_S A s.heap s.heap [] := va_S.rf
  have hP : va_P (dC, dI) vwCl [(h0, .inr (3, [.int v0, .long v1, .long v2, .long v3, .long v4, .long v5, .long v6, .long v7, .long v8, .long v9, .long v10, .long v11, .long v12, .int v13, .ref h1])), (h1, .inl (cI, 6600, .inl vR))] s.heap := hP
  have hl := lv_entry ([.ref h0, .int a1, .int a2, .int a3]) (n := 6) (Nat.le_of_ble_eq_true rfl)
  rw [lg_entry_eq]
  generalize (lg_sl ([.ref h0, .int a1, .int a2, .int a3]) ++ List.replicate (6 - (lg_sl ([.ref h0, .int a1, .int a2, .int a3])).length) Slot.unset).toArray = ls at hl ⊢
  have hl : lv_has ls 6 [(0, .ref h0), (1, .int a1), (2, .int a2), (3, .int a3)] := hl
  unfold f_X3_take at hr
  refine lv_aload_n hx hb dX3_take_0 rfl (lv_at hl 0 rfl) ?_
  refine lv_iload_n hx hb dX3_take_1 rfl (lv_at hl 1 rfl) ?_
  refine lv_i2l hx hb dX3_take_2 rfl ?_
  refine lv_iload_n hx hb dX3_take_3 rfl (lv_at hl 2 rfl) ?_
  refine lv_i2l hx hb dX3_take_4 rfl ?_
  refine lv_iload_n hx hb dX3_take_5 rfl (lv_at hl 3 rfl) ?_
  refine lv_i2l hx hb dX3_take_6 rfl ?_
  cases e_1 : f_X3_canBeTaken n a1.toInt64 a2.toInt64 a3.toInt64 with
  | none => rw [e_1, Option.bind_none] at hr; cases hr
  | some r_2 =>
    rw [e_1, Option.bind_some] at hr
    have hPc := hP.sub (ws' := []) [] rfl
    have hDc := hD.sub (ws' := []) [] (by decide) rfl
    have hKc := hK.sub (tys' := []) [] rfl
    have hFc := va_free (wc := []) hD hS hA [] rfl
    refine va_calli (va_runS (As := [.long a1.toInt64, .long a2.toInt64, .long a3.toInt64]) (rest := [.ref h0]) ⟨hx, hb, hml, hown, hts⟩ (c_X3_canBeTaken l dC dI s.heap.size  a1.toInt64 a2.toInt64 a3.toInt64 n _ e_1) (va_cwS 3 hts gX3_take_X3_canBeTaken rfl rfl rfl (by decide +kernel) ⟨Nat.le_of_ble_eq_true rfl, Nat.le_of_ble_eq_true rfl⟩) ⟨fun a U g mk q => by obtain ⟨q0, q1, qP, qK, qD⟩ := q; exact ⟨q0, q1, qP, va_K.moved (u := U) (U := U.calling g mk a) (Vm.Alike.refl U.vm) qK, qD⟩, fun U hU hW => ⟨rfl, by rw [hU], by rw [hU]; exact hPc, va_K.moved hW.alike hKc, hDc.weaken (fun _ _ _ _ => trivial)⟩⟩ rfl rfl hl.1 rfl (lv_room (Nat.le_of_ble_eq_true rfl)) dX3_take_7 ⟨Nat.zero_le _, Nat.zero_le _⟩) hS (fun q _ h => hFc q h) hFc (fun x_3 _ t H1 locs ht hvm hw hB hz1 hk1 hS => ?_)
    obtain ⟨hw, z_4⟩ := hw
    have hw := hw.symm
    subst hw
    obtain ⟨hP1, hK1, hD1⟩ := hB
    rw [ht] at hP1
    obtain ⟨hP, hD⟩ := va_join (wr := [(h0, .inr (3, [.int v0, .long v1, .long v2, .long v3, .long v4, .long v5, .long v6, .long v7, .long v8, .long v9, .long v10, .long v11, .long v12, .int v13, .ref h1])), (h1, .inl (cI, 6600, .inl vR))]) (w1 := []) hP hD [] [0, 1] rfl rfl (by decide) (by decide) hk1 hFc hP1 hD1
    generalize H1 = H at hP hS ⊢
    have hP : va_P (dC, dI) vwCl [(h0, .inr (3, [.int v0, .long v1, .long v2, .long v3, .long v4, .long v5, .long v6, .long v7, .long v8, .long v9, .long v10, .long v11, .long v12, .int v13, .ref h1])), (h1, .inl (cI, 6600, .inl vR))] H := hP
    have hD : va_D A [(h0, .inr (3, [.int v0, .long v1, .long v2, .long v3, .long v4, .long v5, .long v6, .long v7, .long v8, .long v9, .long v10, .long v11, .long v12, .int v13, .ref h1])), (h1, .inl (cI, 6600, .inl vR))] := hD
    refine W.widen (k := 0) (n := 0) (Nat.le_refl _) (Nat.le_refl _) ?_
    refine lz_zeq (tgt := 17) hx hb dX3_take_10 (by decide) (fun c_5 => ?_) (fun c_5 => ?_)
    · have hr := (if_pos c_5).symm.trans hr
      refine lv_iconst (v := 1) hx hb dX3_take_17 (by decide) ?_
      refine va_put (D := (dC, dI)) (ci := 3) (v := .int 1) (ty := .int) (C := RX3) (T := TX3) (N := 15) hx hb hts in_X3_take_X3 tyX3 tyX3_ok nmX3 hown hK hP hD hS 0 rfl rfl 0 (by decide) (hts (.fieldLink RX3 44 "FormRingModel" "code" "I") (by decide +kernel)) (fun _ h9 => h9) rfl (by decide +kernel) rfl rfl (Nat.le_of_ble_eq_true rfl) dX3_take_18 (fun H locs hP hD hS => ?_)
      have hP : va_P (dC, dI) vwCl [(h0, .inr (3, [.int 1, .long v1, .long v2, .long v3, .long v4, .long v5, .long v6, .long v7, .long v8, .long v9, .long v10, .long v11, .long v12, .int v13, .ref h1])), (h1, .inl (cI, 6600, .inl vR))] H := hP
      have hD : va_D A [(h0, .inr (3, [.int 1, .long v1, .long v2, .long v3, .long v4, .long v5, .long v6, .long v7, .long v8, .long v9, .long v10, .long v11, .long v12, .int v13, .ref h1])), (h1, .inl (cI, 6600, .inl vR))] := hD
      exact k_X3_take_21 hx hb hrt hml hown hlocks hts hA hK n out vR 1 v1 v2 v3 v4 v5 v6 v7 v8 v9 v10 v11 v12 v13 hr _ _ _ hP hD hS (lv_sub hl [0, 1, 2, 3] rfl)
    · have hr := (if_neg c_5).symm.trans hr
      refine lv_iconst (v := 0) hx hb dX3_take_13 (by decide) ?_
      refine lv_goto (tgt := 18) hx hb dX3_take_14 (by decide) ?_
      refine va_put (D := (dC, dI)) (ci := 3) (v := .int 0) (ty := .int) (C := RX3) (T := TX3) (N := 15) hx hb hts in_X3_take_X3 tyX3 tyX3_ok nmX3 hown hK hP hD hS 0 rfl rfl 0 (by decide) (hts (.fieldLink RX3 44 "FormRingModel" "code" "I") (by decide +kernel)) (fun _ h9 => h9) rfl (by decide +kernel) rfl rfl (Nat.le_of_ble_eq_true rfl) dX3_take_18 (fun H locs hP hD hS => ?_)
      have hP : va_P (dC, dI) vwCl [(h0, .inr (3, [.int 0, .long v1, .long v2, .long v3, .long v4, .long v5, .long v6, .long v7, .long v8, .long v9, .long v10, .long v11, .long v12, .int v13, .ref h1])), (h1, .inl (cI, 6600, .inl vR))] H := hP
      have hD : va_D A [(h0, .inr (3, [.int 0, .long v1, .long v2, .long v3, .long v4, .long v5, .long v6, .long v7, .long v8, .long v9, .long v10, .long v11, .long v12, .int v13, .ref h1])), (h1, .inl (cI, 6600, .inl vR))] := hD
      exact k_X3_take_21 hx hb hrt hml hown hlocks hts hA hK n out vR 0 v1 v2 v3 v4 v5 v6 v7 v8 v9 v10 v11 v12 v13 hr _ _ _ hP hD hS (lv_sub hl [0, 1, 2, 3] rfl)
