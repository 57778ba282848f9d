theorem g_copy {n g : Nat} (hg : g ≤ 1100) : ∀ (d j K : Nat) (w : Nat → Int32), j + d = g → d < K →
    ∃ w', f_X3_turnBack_66 n K (nI j) w (nI g) = some (w', nI g) ∧ (∀ x, j ≤ x → x < g → w' (1100 * 0 + x) = w (1100 * 4 + x) ∧ w' (1100 * 1 + x) = w (1100 * 5 + x)) ∧ (∀ p, (p < j ∨ (g ≤ p ∧ p < 1100 + j) ∨ 1100 + g ≤ p) → w' p = w p)
  | 0, j, K + 1, w, hj, hK => by
    have : j = g := by omega
    subst this
    refine ⟨w, ?_, fun x q1 q2 => by omega, fun p _ => rfl⟩
    rw [f_X3_turnBack_66, if_neg (fun q => by have := (nI_ltI (by omega) (by omega)).mp q; omega)]
  | d + 1, j, K + 1, w, hj, hK => by
    obtain ⟨w', i1, i2, i3⟩ := g_copy (n := n) hg d (j + 1) K (upd (upd w (1100 * 0 + j) (w (1100 * 4 + j))) (1100 * 1 + j) (w (1100 * 5 + j))) (by omega) (by omega)
    refine ⟨w', ?_, ?_, ?_⟩
    · rw [f_X3_turnBack_66, if_pos (nI_lt (by omega) (by omega)), show (4 : Int32) = nI 4 from rfl, g_get (by decide) (by omega), Option.bind_some, show (0 : Int32) = nI 0 from rfl, g_put (by decide) (by omega), Option.bind_some, show (5 : Int32) = nI 5 from rfl, g_get (by decide) (by omega), Option.bind_some, show (1 : Int32) = nI 1 from rfl, g_put (by decide) (by omega), Option.bind_some]
      rw [upd_ne _ _ (show 1100 * 5 + j ≠ 1100 * 0 + j by omega), nI_pl]
      exact i1
    · intro x q1 q2
      rcases (show x = j ∨ j + 1 ≤ x by omega) with rfl | z
      · refine ⟨?_, ?_⟩
        · rw [i3 _ (Or.inl (by omega)), upd_ne _ _ (by omega), upd_at]
        · rw [i3 _ (Or.inr (Or.inl ⟨by omega, by omega⟩)), upd_at]
      · obtain ⟨a, b⟩ := i2 x z q2
        refine ⟨?_, ?_⟩
        · rw [a, upd_ne _ _ (by omega), upd_ne _ _ (by omega)]
        · rw [b, upd_ne _ _ (by omega), upd_ne _ _ (by omega)]
    · intro p hp
      rw [i3 p (by omega), upd_ne _ _ (by omega), upd_ne _ _ (by omega)]
theorem g_wid27 {n g i k : Nat} {Kf : Int32 → (Nat → Int32) → Int32 → Option ((Nat → Int32) × Int32)} {s : Int32} {w : Nat → Int32} (hi : i < 4) (hg : g + 3 ≤ 1100) :
    f_X3_widen_27 n Kf (k + 4) (nI i) s (nI g) w (nI g) = Kf (nI (i + 1)) (upd (upd (upd w (1100 * i + g) s) (1100 * i + (g + 1)) s) (1100 * i + (g + 2)) s) (nI g) := by
  have e3 : nI g + 3 = nI (g + 3) := by rw [show (3 : Int32) = nI 3 from rfl, nI_pl]
  have e1 : ∀ x, nI x + 1 = nI (x + 1) := fun x => (nI_succ x).symm
  rw [f_X3_widen_27, e3, if_pos (nI_lt (by omega) (by omega)), g_put (by omega) (by omega), Option.bind_some, e1]
  rw [f_X3_widen_27, e3, if_pos (nI_lt (by omega) (by omega)), g_put (by omega) (by omega), Option.bind_some, e1]
  rw [f_X3_widen_27, e3, if_pos (nI_lt (by omega) (by omega)), g_put (by omega) (by omega), Option.bind_some, e1]
  rw [f_X3_widen_27, e3, if_neg (fun q => by have := (nI_ltI (by omega) (by omega)).mp q; omega), e1]
theorem g_widrow {g i : Nat} {z : Int} {s : Int32} {w : Nat → Int32} (h : rp 65536 (dg w i) g z) (hs : s.toInt = if z < 0 then 65535 else 0) :
    rp 65536 (dg (upd (upd (upd w (1100 * i + g) s) (1100 * i + (g + 1)) s) (1100 * i + (g + 2)) s) i) (g + 3) z := by
  have a1 : rp 65536 (dg (upd w (1100 * i + g) s) i) (g + 1) z := rp_ext (H := 32768) (by decide) (by decide) h (fun j hj => by
      show (upd w (1100 * i + g) s (1100 * i + j)).toInt = _
      rw [upd_ne _ _ (by omega)]) (by
      show (upd w (1100 * i + g) s (1100 * i + g)).toInt = _
      rw [upd_at, hs]
      split <;> omega)
  have a2 : rp 65536 (dg (upd (upd w (1100 * i + g) s) (1100 * i + (g + 1)) s) i) (g + 1 + 1) z := rp_ext (H := 32768) (by decide) (by decide) a1 (fun j hj => by
      show (upd (upd w (1100 * i + g) s) (1100 * i + (g + 1)) s (1100 * i + j)).toInt = _
      rw [upd_ne _ _ (by omega)]) (by
      show (upd (upd w (1100 * i + g) s) (1100 * i + (g + 1)) s (1100 * i + (g + 1))).toInt = _
      rw [upd_at, hs]
      split <;> omega)
  exact rp_ext (H := 32768) (by decide) (by decide) a2 (fun j hj => by
      show (upd (upd (upd w (1100 * i + g) s) (1100 * i + (g + 1)) s) (1100 * i + (g + 2)) s (1100 * i + j)).toInt = _
      rw [upd_ne _ _ (by omega)]) (by
      show (upd (upd (upd w (1100 * i + g) s) (1100 * i + (g + 1)) s) (1100 * i + (g + 2)) s (1100 * i + (g + 2))).toInt = _
      rw [upd_at, hs]
      split <;> omega)
theorem g_wid2 {n g : Nat} (hn : 10 ≤ n) (hg1 : 1 ≤ g) (hg : g + 3 ≤ 1100) {z : Nat → Int} : ∀ (d i K : Nat) (w : Nat → Int32), i + d = 4 → d < K → (∀ r, r < 4 → i ≤ r → rp 65536 (dg w r) g (z r)) → (∀ r, r < i → rp 65536 (dg w r) (g + 3) (z r)) →
    ∃ w', f_X3_widen_2 n K (nI i) w (nI g) = some (w', nI (g + 3)) ∧ ∀ r, r < 4 → rp 65536 (dg w' r) (g + 3) (z r)
  | 0, i, K + 1, w, hi, hK, h1, h2 => by
    have : i = 4 := by omega
    subst this
    refine ⟨w, ?_, h2⟩
    rw [f_X3_widen_2, if_neg (show ¬ nI 4 < 4 by decide), show (3 : Int32) = nI 3 from rfl, nI_pl]
  | d + 1, i, K + 1, w, hi, hK, h1, h2 => by
    obtain ⟨k, rfl⟩ : ∃ k, n = k + 4 := ⟨n - 4, by omega⟩
    have hz := h1 i (by omega) (by omega)
    obtain ⟨s, hs⟩ : ∃ s : Int32, s = if z i < 0 then 65535 else 0 := ⟨_, rfl⟩
    have hs2 : s.toInt = if z i < 0 then 65535 else 0 := by rw [hs]; split <;> rfl
    have hrow := g_widrow hz hs2
    obtain ⟨w', i1, i2⟩ := g_wid2 (n := k + 4) hn hg1 hg (z := z) d (i + 1) K (upd (upd (upd w (1100 * i + g) s) (1100 * i + (g + 1)) s) (1100 * i + (g + 2)) s) (by omega) (by omega)
      (fun r q1 q2 => rp_congr (fun j hj => by
        show (w (1100 * r + j)).toInt = (upd (upd (upd w (1100 * i + g) s) (1100 * i + (g + 1)) s) (1100 * i + (g + 2)) s (1100 * r + j)).toInt
        rw [upd_ne _ _ (by omega), upd_ne _ _ (by omega), upd_ne _ _ (by omega)]) (h1 r q1 (by omega)))
      (fun r q1 => by
        rcases (show r = i ∨ r < i by omega) with rfl | q
        · exact hrow
        · exact rp_congr (fun j hj => by
            show (w (1100 * r + j)).toInt = (upd (upd (upd w (1100 * i + g) s) (1100 * i + (g + 1)) s) (1100 * i + (g + 2)) s (1100 * r + j)).toInt
            rw [upd_ne _ _ (by omega), upd_ne _ _ (by omega), upd_ne _ _ (by omega)]) (h2 r q))
    refine ⟨w', ?_, i2⟩
    rw [f_X3_widen_2, if_pos (show nI i < 4 from nI_lt (b := 4) (by omega) (by omega)), g_below (by omega) hg1 (by omega) hz, Option.bind_some]
    by_cases q : z i < 0
    · rw [if_pos q, if_neg (by decide), g_wid27 (by omega) hg]
      rw [if_pos q] at hs
      rw [← hs]
      exact i1
    · rw [if_neg q, if_pos rfl, g_wid27 (by omega) hg]
      rw [if_neg q] at hs
      rw [← hs]
      exact i1
/-- the four numbers of a matrix -/
def m4 (M : Int × Int × Int × Int) (i : Nat) : Int := if i = 0 then M.1 else if i = 1 then M.2.1 else if i = 2 then M.2.2.1 else M.2.2.2
/-- the rows hold a matrix -/
def rows (w : Nat → Int32) (g : Nat) (M : Int × Int × Int × Int) : Prop := ∀ i, i < 4 → rp 65536 (dg w i) g (m4 M i)
theorem im_abs_mul {t x T X : Int} (t1 : -T ≤ t) (t2 : t ≤ T) (x1 : -X ≤ x) (x2 : x ≤ X) (hT : 0 ≤ T) : -(T * X) ≤ t * x ∧ t * x ≤ T * X := by
  have hX : 0 ≤ X := by omega
  have p1 : 0 ≤ (T - t) * (X + x) := Int.mul_nonneg (by omega) (by omega)
  have p2 : 0 ≤ (T + t) * (X - x) := Int.mul_nonneg (by omega) (by omega)
  have p3 : 0 ≤ (T - t) * (X - x) := Int.mul_nonneg (by omega) (by omega)
  have p4 : 0 ≤ (T + t) * (X + x) := Int.mul_nonneg (by omega) (by omega)
  have e1 : (T - t) * (X + x) = T * X + T * x - t * X - t * x := by grind
  have e2 : (T + t) * (X - x) = T * X - T * x + t * X - t * x := by grind
  have e3 : (T - t) * (X - x) = T * X - T * x - t * X + t * x := by grind
  have e4 : (T + t) * (X + x) = T * X + T * x + t * X + t * x := by grind
  omega
theorem m_lin {P z0 z2 t : Int} (hP : 0 ≤ P) (h1 : -P ≤ z0) (h2 : z0 ≤ P) (h3 : -P ≤ z2) (h4 : z2 ≤ P) (t1 : -4294967296 ≤ t) (t2 : t ≤ 4294967296) : -(4294967297 * P) ≤ t * z0 + z2 ∧ t * z0 + z2 ≤ 4294967297 * P := by
  have a := im_abs_mul (t := t) (x := z0) (T := 4294967296) (X := P) t1 t2 h1 h2 (by decide)
  omega
