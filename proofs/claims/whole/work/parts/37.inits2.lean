def zM (U : State) : Prop := va_AOA .int U
theorem zM_same {u U : State} (h : u.vm = U.vm) (q : zM u) : zM U := va_AOA.moved (h ▸ Vm.Alike.refl _) q
theorem zM_warm {s U : State} (hW : s.WarmedH U.vm) (q : zM s) : zM U := va_AOA.moved hW.alike q
theorem zz_link {args : Array Value} {s : State} (h : (Cond.classLink RX1 11 "[[I").before args s = true) : (Cond.classLink RX1 11 ("[" ++ (FieldType.array .int).toString)).before args s = true := by
  rw [show "[" ++ (FieldType.array .int).toString = "[[I" from by decide]
  exact h
theorem zz_inner (N : Nat) (c : ClassId) : Jvm.Free.Multi.innerC c N (defaultValue .int) = vp_cell c (N, .inl (fun _ => 0)) := by
  show ({ cls := c, slots := Array.replicate N (.int 0), vm := .none } : Cell) = _
  rw [vp_cell_i, arrV_new]
theorem zz_rows {f : Nat → va_E} {e : va_E} {r : Nat → Nat} : va_pl ([] ++ (List.range 4).map r) (vr_up f ((List.range 4).map r) e) = [(r 0, e), (r 1, e), (r 2, e), (r 3, e)] := by
  have h : (List.range 4).map r = [r 0, r 1, r 2, r 3] := rfl
  rw [h, List.nil_append]
  unfold va_pl
  simp [vr_up]
theorem in_X1_init_X1 : ∀ w ∈ u_ws RX1 TX1 7, w ∈ wsX1_init := by decide +kernel
def f_X1_init (n : Nat)  : Option ((Nat → Int32) × (Nat → Int32) × (Nat → Int32) × (Nat → Int32) × Int32 × Int64 × Int64 × Int64 × Int64) := (f_X1_begin n (fun _ => 0) (fun _ => 0) (fun _ => 0) (fun _ => 0)).bind (fun r_2 => some (r_2.1, r_2.2.1, r_2.2.2.1, r_2.2.2.2.1, r_2.2.2.2.2.1, r_2.2.2.2.2.2.1, r_2.2.2.2.2.2.2.1, r_2.2.2.2.2.2.2.2.1, r_2.2.2.2.2.2.2.2.2))
set_option maxHeartbeats 4000000 in
set_option maxRecDepth 100000 in
theorem c_X1_init (l : Launch) (dC : Nat → ClassId) (dI : Nat → Nat → Nat) (sz : Nat) (h0 : Nat) (cI : ClassId) (cO : ClassId)   (n : Nat) (out : (Nat → Int32) × (Nat → Int32) × (Nat → Int32) × (Nat → Int32) × Int32 × Int64 × Int64 × Int64 × Int64) (hr : f_X1_init n  = some out) : Met l yX1_init wsX1_init ({ frames := 2, cells := 6, slots := 1032, locals := 41 }) (va_Pc [.ref h0] (zPN dC dI [(cI, .int), (cO, .array .int)] [(h0, .inr (1, [.null, .null, .int 0, .long 0, .long 0, .long 0, .long 0]))] sz zM)) (va_Qv (fun (u : Nat × (Nat → Option Nat) × Nat × Nat × Nat × Nat × Nat) => u.2.1 0 = some u.2.2.1 ∧ u.2.1 1 = some u.2.2.2.1 ∧ u.2.1 2 = some u.2.2.2.2.1 ∧ u.2.1 3 = some u.2.2.2.2.2.1) (fun (u : Nat × (Nat → Option Nat) × Nat × Nat × Nat × Nat × Nat) t => zB dC dI [(cI, .int), (cO, .array .int)] (va_A [(h0, .inr (1, [.null, .null, .int 0, .long 0, .long 0, .long 0, .long 0]))] sz) [(h0, .inr (1, [.ref u.1, .ref u.2.2.2.2.2.2, .int out.2.2.2.2.1, .long out.2.2.2.2.2.1, .long out.2.2.2.2.2.2.1, .long out.2.2.2.2.2.2.2.1, .long out.2.2.2.2.2.2.2.2])), (u.1, .inl (cO, 4, .inr (.inr (.inr (.inr u.2.1))))), (u.2.2.1, .inl (cI, 256, .inl out.1)), (u.2.2.2.1, .inl (cI, 256, .inl out.2.1)), (u.2.2.2.2.1, .inl (cI, 256, .inl out.2.2.1)), (u.2.2.2.2.2.1, .inl (cI, 256, .inl out.2.2.2.1)), (u.2.2.2.2.2.2, .inl (cI, 4, .inl (fun _ => 0)))] t) (va_A [(h0, .inr (1, [.null, .null, .int 0, .long 0, .long 0, .long 0, .long 0]))] sz)) 6 1032 (va_A [(h0, .inr (1, [.null, .null, .int 0, .long 0, .long 0, .long 0, .long 0]))] sz) := by
  refine Met.ofW (cc := cX1_init) (maxL := 1) (ret := none) (by decide +kernel) rfl ?_
  intro p e s m args below meth c s₁ B hml hv
  obtain ⟨rfl, hsz, hP, hK, hD0, hN⟩ := hv
  have hx := B.exec
  have hb := B.bytes
  have hrt := B.returns
  have hts := atoms_spec (ws := wsX1_init) B.pre
  have hown : s.vm.findClass RX1 = some m.cls := findClass_of_methodNamed B.named
  have hlocks := B.notSynchronized
  subst hsz
  have hin : meth.name = "<init>" := (name_of_methodNamed B.named B.method).1
  have hD := hD0.self (sz := s.heap.size)
  generalize hAe : va_A [(h0, .inr (1, [.null, .null, .int 0, .long 0, .long 0, .long 0, .long 0]))] s.heap.size = A at hD ⊢
  have hA : ∀ q : Nat, s.heap.size ≤ q → A q := fun q h => by rw [← hAe]; exact Or.inr h
  have hS : va_S A s.heap s.heap [] := va_S.rf
  have hP : va_P (dC, dI) vwCl [(h0, .inr (1, [.null, .null, .int 0, .long 0, .long 0, .long 0, .long 0]))] s.heap := hP
  have hl := lv_entry ([.ref h0]) (n := 1) (Nat.le_of_ble_eq_true rfl)
  rw [lg_entry_eq]
  generalize (lg_sl ([.ref h0]) ++ List.replicate (1 - (lg_sl ([.ref h0])).length) Slot.unset).toArray = ls at hl ⊢
  have hl : lv_has ls 1 [(0, .ref h0)] := hl
  unfold f_X1_init at hr
  refine lv_aload_n hx hb dX1_init_0 rfl (lv_at hl 0 rfl) ?_
  refine W.objInit hx hb hown (hts (.methodLink RX1 3 objectInit) (by decide +kernel)) (hts (.instanceMethod objectInit) (by decide +kernel)) (hts (.code objectInit ⟨#[0xb1]⟩ 1 none) (by decide +kernel)) rfl (by rw [hml]; exact hl.1) rfl dX1_init_1 (Nat.le_of_ble_eq_true rfl) (Nat.le_of_ble_eq_true rfl) ?_
  refine W.eq (g2 := F0 m 4 ls []) rfl ?_
  refine lv_aload_n hx hb dX1_init_4 rfl (lv_at hl 0 rfl) ?_
  refine lv_iconst (v := 4) hx hb dX1_init_5 (by decide) ?_
  refine lv_sipush (v := 256) hx hb dX1_init_6 (by decide) ?_
  refine va_mna (X := [(h0, .inr (1, [.null, .null, .int 0, .long 0, .long 0, .long 0, .long 0]))]) (L := []) (f := fun _ => .inr (0, [])) (ty := .int) (cy := cI) (N' := 4) (K' := 256) (z := (256, .inl (fun _ => 0))) hx hb hown (zz_link (hts (.classLink RX1 11 "[[I") (by decide +kernel))) hN (hts (.arrayClass .int) (by decide +kernel)) (hK.2 0 _ rfl).2 hK hP hD hS hA (by decide +kernel) (by decide +kernel) (by decide +kernel) (by decide +kernel) (by decide +kernel) (by decide +kernel) (by decide +kernel) (by decide +kernel) (by decide +kernel) (by decide +kernel) (by decide +kernel) (fun c => zz_inner 256 c) dX1_init_9 (fun qM rM cA9 H hri hrn hK9 hP hD hS => ?_)
  have hc9 := (zz_one hK 1 rfl hK9 2 rfl rfl).symm
  subst hc9
  rw [zz_rows] at hP hD
  obtain ⟨FM, hFM⟩ : ∃ F : Nat → Option Nat, F = (fun i => if i < 4 then some (rM i) else none) := ⟨_, rfl⟩
  rw [← hFM] at hP hD
  have hF : FM 0 = some (rM 0) ∧ FM 1 = some (rM 1) ∧ FM 2 = some (rM 2) ∧ FM 3 = some (rM 3) := by subst hFM; exact ⟨rfl, rfl, rfl, rfl⟩
  generalize rM 0 = q0 at hP hD hF
  generalize rM 1 = q1 at hP hD hF
  generalize rM 2 = q2 at hP hD hF
  generalize rM 3 = q3 at hP hD hF
  have hP : va_P (dC, dI) vwCl [(h0, .inr (1, [.null, .null, .int 0, .long 0, .long 0, .long 0, .long 0])), (qM, .inl (cO, 4, .inr (.inr (.inr (.inr FM))))), (q0, .inl (cI, 256, .inl (fun _ => 0))), (q1, .inl (cI, 256, .inl (fun _ => 0))), (q2, .inl (cI, 256, .inl (fun _ => 0))), (q3, .inl (cI, 256, .inl (fun _ => 0)))] H := hP
  have hD : va_D A [(h0, .inr (1, [.null, .null, .int 0, .long 0, .long 0, .long 0, .long 0])), (qM, .inl (cO, 4, .inr (.inr (.inr (.inr FM))))), (q0, .inl (cI, 256, .inl (fun _ => 0))), (q1, .inl (cI, 256, .inl (fun _ => 0))), (q2, .inl (cI, 256, .inl (fun _ => 0))), (q3, .inl (cI, 256, .inl (fun _ => 0)))] := hD
  refine W.widen (k := 5) (n := 1028) (Nat.le_refl _) (Nat.le_refl _) ?_
  refine va_putF (D := (dC, dI)) (ci := 1) (v := .ref qM) (ty := .array (.array .int)) (C := RX1) (T := TX1) (N := 7) hx hb hts in_X1_init_X1 tyX1 tyX1_ok nmX1 hown hK hP hD hS 0 rfl rfl 0 (by decide) (hts (.fieldLink RX1 13 "FormRing$Matrix" "numbers" "[[I") (by decide +kernel)) (fun _ h9 => h9) rfl hin rfl (by decide +kernel) rfl rfl (Nat.le_of_ble_eq_true rfl) dX1_init_13 (fun H locs hP hD hS => ?_)
  have hP : va_P (dC, dI) vwCl [(h0, .inr (1, [.ref qM, .null, .int 0, .long 0, .long 0, .long 0, .long 0])), (qM, .inl (cO, 4, .inr (.inr (.inr (.inr FM))))), (q0, .inl (cI, 256, .inl (fun _ => 0))), (q1, .inl (cI, 256, .inl (fun _ => 0))), (q2, .inl (cI, 256, .inl (fun _ => 0))), (q3, .inl (cI, 256, .inl (fun _ => 0)))] H := hP
  have hD : va_D A [(h0, .inr (1, [.ref qM, .null, .int 0, .long 0, .long 0, .long 0, .long 0])), (qM, .inl (cO, 4, .inr (.inr (.inr (.inr FM))))), (q0, .inl (cI, 256, .inl (fun _ => 0))), (q1, .inl (cI, 256, .inl (fun _ => 0))), (q2, .inl (cI, 256, .inl (fun _ => 0))), (q3, .inl (cI, 256, .inl (fun _ => 0)))] := hD
  refine lv_aload_n hx hb dX1_init_16 rfl (lv_at hl 0 rfl) ?_
  refine lv_iconst (v := 4) hx hb dX1_init_17 (by decide) ?_
  refine va_newa (atype := .int) (ty := .int) (N' := 4) (a0 := (4, .inl (fun _ => 0))) hx hb (hts (.arrayClass .int) (by decide +kernel)) rfl hK hP hD hS hA (zz_haI 4) (by decide +kernel) (by decide +kernel) (by decide +kernel) (by decide +kernel) (by decide +kernel) dX1_init_18 (fun q18 cA9 H hK9 hP hD hS => ?_)
  have hc9 := (zz_one hK 0 rfl hK9 2 rfl rfl).symm
  subst hc9
  have hP : va_P (dC, dI) vwCl [(h0, .inr (1, [.ref qM, .null, .int 0, .long 0, .long 0, .long 0, .long 0])), (qM, .inl (cO, 4, .inr (.inr (.inr (.inr FM))))), (q0, .inl (cI, 256, .inl (fun _ => 0))), (q1, .inl (cI, 256, .inl (fun _ => 0))), (q2, .inl (cI, 256, .inl (fun _ => 0))), (q3, .inl (cI, 256, .inl (fun _ => 0))), (q18, .inl (cI, 4, .inl (fun _ => 0)))] H := hP
  have hD : va_D A [(h0, .inr (1, [.ref qM, .null, .int 0, .long 0, .long 0, .long 0, .long 0])), (qM, .inl (cO, 4, .inr (.inr (.inr (.inr FM))))), (q0, .inl (cI, 256, .inl (fun _ => 0))), (q1, .inl (cI, 256, .inl (fun _ => 0))), (q2, .inl (cI, 256, .inl (fun _ => 0))), (q3, .inl (cI, 256, .inl (fun _ => 0))), (q18, .inl (cI, 4, .inl (fun _ => 0)))] := hD
  refine W.widen (k := 6) (n := 1032) (Nat.le_refl _) (Nat.le_refl _) ?_
  refine va_putF (D := (dC, dI)) (ci := 1) (v := .ref q18) (ty := .array .int) (C := RX1) (T := TX1) (N := 7) hx hb hts in_X1_init_X1 tyX1 tyX1_ok nmX1 hown hK hP hD hS 0 rfl rfl 1 (by decide) (hts (.fieldLink RX1 16 "FormRing$Matrix" "signs" "[I") (by decide +kernel)) (fun _ h9 => h9) rfl hin rfl (by decide +kernel) rfl rfl (Nat.le_of_ble_eq_true rfl) dX1_init_20 (fun H locs hP hD hS => ?_)
  have hP : va_P (dC, dI) vwCl [(h0, .inr (1, [.ref qM, .ref q18, .int 0, .long 0, .long 0, .long 0, .long 0])), (qM, .inl (cO, 4, .inr (.inr (.inr (.inr FM))))), (q0, .inl (cI, 256, .inl (fun _ => 0))), (q1, .inl (cI, 256, .inl (fun _ => 0))), (q2, .inl (cI, 256, .inl (fun _ => 0))), (q3, .inl (cI, 256, .inl (fun _ => 0))), (q18, .inl (cI, 4, .inl (fun _ => 0)))] H := hP
  have hD : va_D A [(h0, .inr (1, [.ref qM, .ref q18, .int 0, .long 0, .long 0, .long 0, .long 0])), (qM, .inl (cO, 4, .inr (.inr (.inr (.inr FM))))), (q0, .inl (cI, 256, .inl (fun _ => 0))), (q1, .inl (cI, 256, .inl (fun _ => 0))), (q2, .inl (cI, 256, .inl (fun _ => 0))), (q3, .inl (cI, 256, .inl (fun _ => 0))), (q18, .inl (cI, 4, .inl (fun _ => 0)))] := hD
  refine lv_aload_n hx hb dX1_init_23 rfl (lv_at hl 0 rfl) ?_
  cases e_1 : f_X1_begin n (fun _ => 0) (fun _ => 0) (fun _ => 0) (fun _ => 0) with
  | none => rw [e_1, Option.bind_none] at hr; cases hr
  | some r_2 =>
    rw [e_1, Option.bind_some] at hr
    have hPc := hP.sub (ws' := [(h0, .inr (1, [.ref qM, .ref q18, .int 0, .long 0, .long 0, .long 0, .long 0])), (qM, .inl (cO, 4, .inr (.inr (.inr (.inr FM))))), (q0, .inl (cI, 256, .inl (fun _ => 0))), (q1, .inl (cI, 256, .inl (fun _ => 0))), (q2, .inl (cI, 256, .inl (fun _ => 0))), (q3, .inl (cI, 256, .inl (fun _ => 0)))]) [0, 1, 2, 3, 4, 5] rfl
    have hDc := hD.sub (ws' := [(h0, .inr (1, [.ref qM, .ref q18, .int 0, .long 0, .long 0, .long 0, .long 0])), (qM, .inl (cO, 4, .inr (.inr (.inr (.inr FM))))), (q0, .inl (cI, 256, .inl (fun _ => 0))), (q1, .inl (cI, 256, .inl (fun _ => 0))), (q2, .inl (cI, 256, .inl (fun _ => 0))), (q3, .inl (cI, 256, .inl (fun _ => 0)))]) [0, 1, 2, 3, 4, 5] (by decide) rfl
    have hKc := hK.sub (tys' := [(cI, .int), (cO, .array .int)]) [0, 1] rfl
    have hFc := va_free (wc := [(h0, .inr (1, [.ref qM, .ref q18, .int 0, .long 0, .long 0, .long 0, .long 0])), (qM, .inl (cO, 4, .inr (.inr (.inr (.inr FM))))), (q0, .inl (cI, 256, .inl (fun _ => 0))), (q1, .inl (cI, 256, .inl (fun _ => 0))), (q2, .inl (cI, 256, .inl (fun _ => 0))), (q3, .inl (cI, 256, .inl (fun _ => 0)))]) hD hS hA [0, 1, 2, 3, 4, 5] rfl
    refine va_callv (va_runV (As := []) (rest := []) ⟨hx, hb, hml, hown, hts⟩ (c_X1_begin l dC dI H.size h0 qM q18 0 0 0 0 0 cI cO FM q0 q1 q2 q3 (fun _ => 0) (fun _ => 0) (fun _ => 0) (fun _ => 0)  hF n _ e_1) (cwV 0 hts gX1_init_X1_begin rfl rfl rfl (by decide +kernel) ⟨Nat.le_of_ble_eq_true rfl, Nat.le_of_ble_eq_true rfl⟩) ⟨fun a U g mk q => by obtain ⟨q0, q1, qP, qK, qD⟩ := q; exact ⟨q0, q1, qP, va_K.moved (u := U) (U := U.calling g mk a) (Vm.Alike.refl U.vm) qK, qD⟩, va_recv hKc hPc (ci := 1) (q0 := 0) rfl rfl, fun U hU hW => ⟨rfl, by rw [hU], by rw [hU]; exact hPc, va_K.moved hW.alike hKc, hDc.weaken (fun _ _ _ _ => trivial)⟩⟩ rfl rfl hl.1 rfl (lv_room (Nat.le_of_ble_eq_true rfl)) dX1_init_24 ⟨Nat.le_of_ble_eq_true rfl, Nat.le_of_ble_eq_true rfl⟩) hS (fun q _ h => hFc q h) hFc (fun _ t H1 locs ht hvm hw hB hz1 hk1 hS => ?_)
    obtain ⟨hP1, hK1, hD1⟩ := hB
    rw [ht] at hP1
    obtain ⟨hP, hD⟩ := va_join (wr := [(q18, .inl (cI, 4, .inl (fun _ => 0)))]) (w1 := [(h0, .inr (1, [.ref qM, .ref q18, .int r_2.2.2.2.2.1, .long r_2.2.2.2.2.2.1, .long r_2.2.2.2.2.2.2.1, .long r_2.2.2.2.2.2.2.2.1, .long r_2.2.2.2.2.2.2.2.2])), (qM, .inl (cO, 4, .inr (.inr (.inr (.inr FM))))), (q0, .inl (cI, 256, .inl r_2.1)), (q1, .inl (cI, 256, .inl r_2.2.1)), (q2, .inl (cI, 256, .inl r_2.2.2.1)), (q3, .inl (cI, 256, .inl r_2.2.2.2.1))]) hP hD [0, 1, 2, 3, 4, 5] [6] rfl rfl (by decide) (by decide) hk1 hFc hP1 hD1
    generalize H1 = H at hP hS ⊢
    have hP := hP.sub (ws' := [(h0, .inr (1, [.ref qM, .ref q18, .int r_2.2.2.2.2.1, .long r_2.2.2.2.2.2.1, .long r_2.2.2.2.2.2.2.1, .long r_2.2.2.2.2.2.2.2.1, .long r_2.2.2.2.2.2.2.2.2])), (qM, .inl (cO, 4, .inr (.inr (.inr (.inr FM))))), (q0, .inl (cI, 256, .inl r_2.1)), (q1, .inl (cI, 256, .inl r_2.2.1)), (q2, .inl (cI, 256, .inl r_2.2.2.1)), (q3, .inl (cI, 256, .inl r_2.2.2.2.1)), (q18, .inl (cI, 4, .inl (fun _ => 0)))]) [1, 2, 3, 4, 5, 6, 0] rfl
    have hD := hD.sub (ws' := [(h0, .inr (1, [.ref qM, .ref q18, .int r_2.2.2.2.2.1, .long r_2.2.2.2.2.2.1, .long r_2.2.2.2.2.2.2.1, .long r_2.2.2.2.2.2.2.2.1, .long r_2.2.2.2.2.2.2.2.2])), (qM, .inl (cO, 4, .inr (.inr (.inr (.inr FM))))), (q0, .inl (cI, 256, .inl r_2.1)), (q1, .inl (cI, 256, .inl r_2.2.1)), (q2, .inl (cI, 256, .inl r_2.2.2.1)), (q3, .inl (cI, 256, .inl r_2.2.2.2.1)), (q18, .inl (cI, 4, .inl (fun _ => 0)))]) [1, 2, 3, 4, 5, 6, 0] (by decide) rfl
    have hP : va_P (dC, dI) vwCl [(h0, .inr (1, [.ref qM, .ref q18, .int r_2.2.2.2.2.1, .long r_2.2.2.2.2.2.1, .long r_2.2.2.2.2.2.2.1, .long r_2.2.2.2.2.2.2.2.1, .long r_2.2.2.2.2.2.2.2.2])), (qM, .inl (cO, 4, .inr (.inr (.inr (.inr FM))))), (q0, .inl (cI, 256, .inl r_2.1)), (q1, .inl (cI, 256, .inl r_2.2.1)), (q2, .inl (cI, 256, .inl r_2.2.2.1)), (q3, .inl (cI, 256, .inl r_2.2.2.2.1)), (q18, .inl (cI, 4, .inl (fun _ => 0)))] H := hP
    have hD : va_D A [(h0, .inr (1, [.ref qM, .ref q18, .int r_2.2.2.2.2.1, .long r_2.2.2.2.2.2.1, .long r_2.2.2.2.2.2.2.1, .long r_2.2.2.2.2.2.2.2.1, .long r_2.2.2.2.2.2.2.2.2])), (qM, .inl (cO, 4, .inr (.inr (.inr (.inr FM))))), (q0, .inl (cI, 256, .inl r_2.1)), (q1, .inl (cI, 256, .inl r_2.2.1)), (q2, .inl (cI, 256, .inl r_2.2.2.1)), (q3, .inl (cI, 256, .inl r_2.2.2.2.1)), (q18, .inl (cI, 4, .inl (fun _ => 0)))] := hD
    refine W.widen (k := 6) (n := 1032) (Nat.le_refl _) (Nat.le_refl _) ?_
    have ho := Option.some.inj hr
    subst ho
    refine W.widen (k := 6) (n := 1032) (Nat.le_of_ble_eq_true rfl) (Nat.le_of_ble_eq_true rfl) ?_
    exact W.vret hx hb hrt (fun t ht hW => ⟨⟨(qM, FM, q0, q1, q2, q3, q18), rfl, hF, by rw [ht]; exact hP, va_K.moved hW.alike hK, hD⟩, hS.F ht⟩) hS.2.2 dX1_init_27
