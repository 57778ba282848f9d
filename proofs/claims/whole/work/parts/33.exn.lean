/-- what a throw takes of the tables beside the good words -/
def zE (U : State) : Prop := va_Nw (.castable "java/lang/IllegalArgumentException" "java/lang/IllegalArgumentException") U ∧ va_Nw (.castable "java/lang/IndexOutOfBoundsException" "java/lang/IndexOutOfBoundsException") U ∧ va_Nw (.declares (Bundle.initS "java/lang/RuntimeException")) U ∧ va_Nw (.declares (Bundle.initS "java/lang/Exception")) U ∧ va_Nw (.declares (Bundle.initS Bundle.tN)) U
theorem zDc_warm {x : MethodName} {s U : State} (hW : s.WarmedH U.vm) (h : va_Nw (.declares x) s) : va_Nw (.declares x) U := va_tabs rfl (rfl : (s.setVm U.vm).vm = U.vm) (by rw [Cond.declares_setVm hW.alike]; exact h)
theorem zE_same {u U : State} (h : u.vm = U.vm) (q : zE u) : zE U := ⟨va_Nw.same rfl h q.1, va_Nw.same rfl h q.2.1, va_Nw.same rfl h q.2.2.1, va_Nw.same rfl h q.2.2.2.1, va_Nw.same rfl h q.2.2.2.2⟩
theorem zE_warm {s U : State} (hW : s.WarmedH U.vm) (q : zE s) : zE U := ⟨va_Nw.warmC hW q.1, va_Nw.warmC hW q.2.1, zDc_warm hW q.2.2.1, zDc_warm hW q.2.2.2.1, zDc_warm hW q.2.2.2.2⟩
/-- the texts that are thrown -/
def zS (U : State) : Prop := (∃ a, vk_R RX2 45 "this form can't be taken" a U) ∧ (∃ a, vk_R RX2 60 "which and what are 0 to 2" a U) ∧ (∃ a, vk_R RX2 84 "k is not in the ring, or what not 0 to 2" a U) ∧ (∃ a, vk_R RX2 94 "this form couldn't be taken" a U) ∧ (∃ a, vk_R RX2 106 "i is 0 to 3" a U) ∧ (∃ a, vk_R RX2 117 "i is 0 to 3, k 0 to 511" a U) ∧ (∃ a, vk_R RX2 123 "m is above 0" a U)
theorem zR_same {own tx : String} {k : Nat} {u U : State} (h : u.vm = U.vm) (q : ∃ a, vk_R own k tx a u) : ∃ a, vk_R own k tx a U := q.elim (fun a r => ⟨a, vk_R.same h.symm r⟩)
theorem zR_warm {own tx : String} {k : Nat} {s U : State} (hW : s.WarmedH U.vm) (q : ∃ a, vk_R own k tx a s) : ∃ a, vk_R own k tx a U := q.elim (fun a r => ⟨a, vk_R.warm hW r⟩)
theorem zS_same {u U : State} (h : u.vm = U.vm) (q : zS u) : zS U := ⟨zR_same h q.1, zR_same h q.2.1, zR_same h q.2.2.1, zR_same h q.2.2.2.1, zR_same h q.2.2.2.2.1, zR_same h q.2.2.2.2.2.1, zR_same h q.2.2.2.2.2.2⟩
theorem zS_warm {s U : State} (hW : s.WarmedH U.vm) (q : zS s) : zS U := ⟨zR_warm hW q.1, zR_warm hW q.2.1, zR_warm hW q.2.2.1, zR_warm hW q.2.2.2.1, zR_warm hW q.2.2.2.2.1, zR_warm hW q.2.2.2.2.2.1, zR_warm hW q.2.2.2.2.2.2⟩
/-- the two statics that Throwable's constructor reads -/
def zZ (A : Nat → Prop) (U : State) (H : Heap) : Prop := vx_Zq Bundle.tN "UNASSIGNED_STACK" Bundle.steD A U H ∧ vx_Zq Bundle.tN "SUPPRESSED_SENTINEL" Bundle.listD A U H
/-- all that a call which may throw takes beside its world -/
def zX (A : Nat → Prop) (U : State) (H : Heap) : Prop := zN U ∧ zE U ∧ zS U ∧ zZ A U H
theorem zX_same {A : Nat → Prop} {u U : State} {H : Heap} (h : u.vm = U.vm) (q : zX A u H) : zX A U H := ⟨zN_same h q.1, zE_same h q.2.1, zS_same h q.2.2.1, vx_Zq.moved (h ▸ Vm.Alike.refl _) q.2.2.2.1, vx_Zq.moved (h ▸ Vm.Alike.refl _) q.2.2.2.2⟩
theorem zX_warm {A : Nat → Prop} {s U : State} {H : Heap} (hW : s.WarmedH U.vm) (q : zX A s H) : zX A U H := ⟨zN_warm hW q.1, zE_warm hW q.2.1, zS_warm hW q.2.2.1, vx_Zq.moved hW.alike q.2.2.2.1, vx_Zq.moved hW.alike q.2.2.2.2⟩
theorem zX_go {A B : Nat → Prop} {s : State} {H : Heap} {locs : List Loc} (q : zX A s s.heap) (hS : va_S A s.heap H locs) (hB : ∀ a, B a → A a) : zX B s H := ⟨q.1, q.2.1, q.2.2.1, (vx_Zq.kept q.2.2.2.1 hS.2.1).narrow hB, (vx_Zq.kept q.2.2.2.2 hS.2.1).narrow hB⟩
abbrev zPX (dC : Nat → ClassId) (dI : Nat → Nat → Nat) (tys : List (ClassId × FieldType)) (ws : va_W) (sz : Nat) : State → Prop := fun U => U.heap.size = sz ∧ va_P (dC, dI) vwCl ws U.heap ∧ va_K (dC, dI) vwCl tys U ∧ va_D (fun _ => True) ws ∧ zX (va_A ws sz) U U.heap
/-- the world behind a throw -/
theorem zt_world {dC : Nat → ClassId} {dI : Nat → Nat → Nat} {tys : List (ClassId × FieldType)} {ws : va_W} {A : Nat → Prop} {H : Heap} {locs : List Loc} {s : State} (hP : va_P (dC, dI) vwCl ws H) (hK : va_K (dC, dI) vwCl tys s) (hD : va_D A ws) (hS : va_S A s.heap H locs) (t : State) (h1 : s.vm.Alike t.vm) (h2 : H.size ≤ t.heap.size) (h3 : ∀ q : Nat, q < H.size → t.heap[q]? = H[q]?) : zB dC dI tys A ws t ∧ va_F A s t :=
  ⟨⟨hP.kept (fun k x hx => h3 x.1 ((hP k x hx).lt)), va_K.moved h1 hK, hD⟩, Nat.le_trans hS.1 h2, fun q q1 q2 => (h3 q (Nat.lt_of_lt_of_le q1 hS.1)).trans (hS.2.1 q q1 q2)⟩
section ZT
variable {p : Program} {l : Launch} {e : Env} {R : Room} {s : State} {m : MethodId} {args : Array Value} {below : List Frame} {meth : Method} {c : Code} {H : Heap} {locs : List Loc} {cells slots : Nat}
variable {cc : ByteArray} {pc : Nat} {ls : Array Slot} {A free : Nat → Prop} {Qc : Array Value → State → Outcome → State → Prop} {XC : String → State → State → Prop} {is mc ms : Nat} {text : String}
theorem zt_iae (hexec : p.tables.exec = Jvm.exec) (hb : c.code = cc) (hl : l.stackTraces = false) (hown : s.vm.findClass RX2 = some m.cls) (hk : (Cond.classLink RX2 43 "java/lang/IllegalArgumentException").before args s = true) (hini : (Cond.initialized "java/lang/IllegalArgumentException").before args s = true)
    (hg : ∀ w ∈ (vx_atS RX2 47 "java/lang/IllegalArgumentException" ["java/lang/RuntimeException", "java/lang/Exception"]).filter goodWord, w.before args s = true) (hX : zX A s s.heap) (hstr : ∃ a, vk_R RX2 is text a s) (hS : va_S A s.heap H locs) (hsize : ls.size = c.maxLocals)
    (d0 : decode cc pc = .ok (.new 43, 3)) (d3 : decode cc (pc + 3) = .ok (.dup, 1)) (d4 : decode cc (pc + 4) = .ok (.ldc is, 2)) (d6 : decode cc (pc + 6) = .ok (.invokespecial 47, 3)) (d9 : decode cc (pc + 9) = .ok (.athrow, 1))
    (hout : ∀ x ∈ c.exceptionTable.toList, False) (hRf : 5 < R.frames) (hRl : 82 ≤ R.locals) (hRc : cells + 1 ≤ R.cells) (hRs : slots + 6 ≤ R.slots) (hlocks : meth.locks = false)
    (hx : ∀ t : State, s.vm.Alike t.vm → H.size ≤ t.heap.size → (∀ q : Nat, q < H.size → t.heap[q]? = H[q]?) → XC "java/lang/IllegalArgumentException" s t) (hf : ∀ z ∈ locs, free z.base) (hc : cells + 1 ≤ mc) (hs : slots + 6 ≤ ms) :
    W p l e R s m args below meth c H locs cells slots (vx_MQ below Qc XC args s mc ms free) (F0 m pc ls []) := by
  obtain ⟨sa, hsa⟩ := hstr
  obtain ⟨-, hE, -, hZ⟩ := hX
  exact vx_throwS (own := RX2) (names := ["java/lang/RuntimeException", "java/lang/Exception"]) (rest := []) hexec hb hl hown (by decide +kernel) (by decide +kernel) hk hini hsa
    (vx_hat (B := [Cond.castable "java/lang/IllegalArgumentException" "java/lang/IllegalArgumentException", Cond.declares (Bundle.initS "java/lang/RuntimeException"), Cond.declares (Bundle.initS "java/lang/Exception"), Cond.declares (Bundle.initS Bundle.tN)]) hg (by decide +kernel) (vx_c (va_Nw.use rfl hE.1) (vx_c (va_Nw.use rfl hE.2.2.1) (vx_c (va_Nw.use rfl hE.2.2.2.1) (vx_c (va_Nw.use rfl hE.2.2.2.2) vx_n)))))
    (by decide +kernel) hZ.1 hZ.2 hS hsize d0 d3 d4 d6 d9 (fun x h => (hout x h).elim) hRf hRl hRc hRs hlocks hx hf hc hs
theorem zt_iob (hexec : p.tables.exec = Jvm.exec) (hb : c.code = cc) (hl : l.stackTraces = false) (hown : s.vm.findClass RX2 = some m.cls) (hk : (Cond.classLink RX2 58 "java/lang/IndexOutOfBoundsException").before args s = true) (hini : (Cond.initialized "java/lang/IndexOutOfBoundsException").before args s = true)
    (hg : ∀ w ∈ (vx_atS RX2 62 "java/lang/IndexOutOfBoundsException" ["java/lang/RuntimeException", "java/lang/Exception"]).filter goodWord, w.before args s = true) (hX : zX A s s.heap) (hstr : ∃ a, vk_R RX2 is text a s) (hS : va_S A s.heap H locs) (hsize : ls.size = c.maxLocals)
    (d0 : decode cc pc = .ok (.new 58, 3)) (d3 : decode cc (pc + 3) = .ok (.dup, 1)) (d4 : decode cc (pc + 4) = .ok (.ldc is, 2)) (d6 : decode cc (pc + 6) = .ok (.invokespecial 62, 3)) (d9 : decode cc (pc + 9) = .ok (.athrow, 1))
    (hout : ∀ x ∈ c.exceptionTable.toList, False) (hRf : 5 < R.frames) (hRl : 82 ≤ R.locals) (hRc : cells + 1 ≤ R.cells) (hRs : slots + 6 ≤ R.slots) (hlocks : meth.locks = false)
    (hx : ∀ t : State, s.vm.Alike t.vm → H.size ≤ t.heap.size → (∀ q : Nat, q < H.size → t.heap[q]? = H[q]?) → XC "java/lang/IndexOutOfBoundsException" s t) (hf : ∀ z ∈ locs, free z.base) (hc : cells + 1 ≤ mc) (hs : slots + 6 ≤ ms) :
    W p l e R s m args below meth c H locs cells slots (vx_MQ below Qc XC args s mc ms free) (F0 m pc ls []) := by
  obtain ⟨sa, hsa⟩ := hstr
  obtain ⟨-, hE, -, hZ⟩ := hX
  exact vx_throwS (own := RX2) (names := ["java/lang/RuntimeException", "java/lang/Exception"]) (rest := []) hexec hb hl hown (by decide +kernel) (by decide +kernel) hk hini hsa
    (vx_hat (B := [Cond.castable "java/lang/IndexOutOfBoundsException" "java/lang/IndexOutOfBoundsException", Cond.declares (Bundle.initS "java/lang/RuntimeException"), Cond.declares (Bundle.initS "java/lang/Exception"), Cond.declares (Bundle.initS Bundle.tN)]) hg (by decide +kernel) (vx_c (va_Nw.use rfl hE.2.1) (vx_c (va_Nw.use rfl hE.2.2.1) (vx_c (va_Nw.use rfl hE.2.2.2.1) (vx_c (va_Nw.use rfl hE.2.2.2.2) vx_n)))))
    (by decide +kernel) hZ.1 hZ.2 hS hsize d0 d3 d4 d6 d9 (fun x h => (hout x h).elim) hRf hRl hRc hRs hlocks hx hf hc hs
end ZT
abbrev zPXN (dC : Nat → ClassId) (dI : Nat → Nat → Nat) (tys : List (ClassId × FieldType)) (ws : va_W) (sz : Nat) : State → Prop := fun U => U.heap.size = sz ∧ va_P (dC, dI) vwCl ws U.heap ∧ va_K (dC, dI) vwCl tys U ∧ va_D (fun _ => True) ws ∧ zX (va_A ws sz) U U.heap ∧ va_Nc "java/lang/IllegalArgumentException" "java/lang/IndexOutOfBoundsException" U
