/-- the links among nest mates that Form.put takes -/
def zN (U : State) : Prop := va_Nw (.methodLinkNest RX0 21 yX2_discriminantOf "FormRing") U ∧ va_Nw (.methodLinkNest RX0 28 yX2_wholeRoot "FormRing") U
theorem zN_same {u U : State} (h : u.vm = U.vm) (q : zN u) : zN U := ⟨va_Nw.same rfl h q.1, va_Nw.same rfl h q.2⟩
theorem zN_warm {s U : State} (hW : s.WarmedH U.vm) (q : zN s) : zN U := ⟨va_Nw.warmM hW q.1, va_Nw.warmM hW q.2⟩
abbrev zPN (dC : Nat → ClassId) (dI : Nat → Nat → Nat) (tys : List (ClassId × FieldType)) (ws : va_W) (sz : Nat) (N : State → Prop) : State → Prop := fun U => U.heap.size = sz ∧ va_P (dC, dI) vwCl ws U.heap ∧ va_K (dC, dI) vwCl tys U ∧ va_D (fun _ => True) ws ∧ N U
