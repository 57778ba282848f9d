/-! take, THE REFERENCE -/
theorem t_range {D w : Int} {f : Fm} (h : fF D w f) : -4294967296 ≤ mT D w f.2.1 f.2.2 ∧ mT D w f.2.1 f.2.2 ≤ 4294967296 := by
  have hc := mF_c h
  have ts := t_size (D := D) (w := w) (b := f.2.1) hc
  have hb := mB_S h.2.2.1
  have hn := mF_next h
  have he := mB_S hn.2.2.1
  have hc0 := mS_pos hc
  have t0 := mS_0 (mT D w f.2.1 f.2.2)
  have hp := im_pos_mul (show 1 ≤ mS f.2.2 by omega) t0
  have hS := im_S (mT D w f.2.1 f.2.2)
  omega
theorem m4_bound {D w : Int} {f : Fm} {k q : Nat} (h : wy D w f k q) {i : Nat} (hi : i ≤ k + wB D w f k q) : ∀ j, j < 4 → mS (m4 (mxs D w f i) j) < 2 ^ 8191 := by
  intro j hj
  obtain ⟨a, b, c, d⟩ := mx_bound h i hi
  rcases (show j = 0 ∨ j = 1 ∨ j = 2 ∨ j = 3 by omega) with rfl | rfl | rfl | rfl
  · exact a
  · exact b
  · exact c
  · exact d
/-- where the way is: reduced and the name, or not -/
theorem way_at {D w : Int} {f : Fm} {k q : Nat} (h : wy D w f k q) {i : Nat} (hi : i ≤ k + wB D w f k q) :
    (i = k + wB D w f k q → fR D w (itn D w i f) ∧ itn D w i f = wN D w f k q) ∧ (i < k + wB D w f k q → ¬ fR D w (itn D w i f) ∨ (fR D w (itn D w i f) ∧ itn D w i f ≠ wN D w f k q)) := by
  obtain ⟨hF, k1, k2, k3, k4, k5, k6⟩ := h
  constructor
  · intro e
    subst e
    rw [itn_add]
    refine ⟨?_, rfl⟩
    rcases mF_D hF with hD | hD
    · have := k5 hD
      subst this
      exact k2
    · exact fR_itn hD _ _ (fF_itn k f hF) k2
  · intro e
    rcases (show i < k ∨ k ≤ i by omega) with z | z
    · exact Or.inl (k3 i z)
    · right
      have e2 : itn D w i f = itn D w (i - k) (itn D w k f) := by
        rw [← itn_add]
        congr 1
        omega
      rw [e2]
      refine ⟨?_, wy_first (i - k) (by omega)⟩
      rcases mF_D hF with hD | hD
      · have := k5 hD
        subst this
        have e' : i < k + 0 := e
        omega
      · exact fR_itn hD _ _ (fF_itn k f hF) k2
theorem g_loop {n : Nat} (hn : 1200 ≤ n) {D w : Int} {f : Fm} {k q : Nat} (h : wy D w f k q) (c0 : Int32) (c1 c2 c3 n0 n1 n2 : Int64) (hn0 : n0 = jL (wN D w f k q).1) (hn1 : n1 = jL (wN D w f k q).2.1) :
    ∀ (d i K m : Nat) (v : Nat → Int32) (tn : Int64), i + (d + 1) = k + wB D w f k q → d + 1 < K → m ≤ 514 → rows v (m + 3) (mxs D w f i) →
      ∃ v' m' tn', m' ≤ 514 ∧ rows v' (m' + 3) (mxs D w f (k + wB D w f k q)) ∧ f_X3_take_269 n K 0 v c0 c1 c2 c3 (jL D) (jL w) (jL (itn D w i f).1) (jL (itn D w i f).2.1) (jL (itn D w i f).2.2) tn n0 n1 n2 (nI (m + 3))
        = some ((jL D).toInt32, v', c0, c1, c2, c3, jL D, jL w, jL (wN D w f k q).1, jL (wN D w f k q).2.1, jL (wN D w f k q).2.2, tn', n0, n1, n2, nI (m' + 3))
  | d, i, 0, m, v, tn, hi, hK, hm, hr => by omega
  | 0, i, K + 1, m, v, tn, hi, hK, hm, hr => by
    obtain ⟨K', rfl⟩ : ∃ K', K = K' + 1 := ⟨K - 1, by omega⟩
    have hF := fF_itn i f h.1
    have hF1 := fF_itn (i + 1) f h.1
    obtain ⟨t1, t2⟩ := t_range hF
    obtain ⟨v', m', a1, a2, a3⟩ := g_turn (n := n) hn hm t1 t2 hr (m4_bound h (by omega))
    obtain ⟨b1, b2⟩ := (way_at h (i := i + 1) (by omega)).1 (by omega)
    have e1 : itn D w (i + 1) f = nx D w (itn D w i f) := itn_s D w i f
    have eN : wN D w f k q = nx D w (itn D w i f) := by rw [← b2, e1]
    have hred := (fF_red3 (n := n) hF1).1 b1
    have hnam := (p_isName (n := n) hF1 (g := wN D w f k q) (by rw [← b2]; exact hF1)).1 b2
    refine ⟨v', m', jL (mT D w (itn D w i f).2.1 (itn D w i f).2.2), a1, ?_, ?_⟩
    · rw [show k + wB D w f k q = i + 1 by omega]
      exact a3
    · rw [f_X3_take_269, if_pos rfl, fF_step hF, Option.bind_some]
      dsimp only
      rw [a2, Option.bind_some]
      rw [e1] at hred hnam
      rw [hred, Option.bind_some, if_neg o10, hn0, hn1, hnam, Option.bind_some, if_neg o10, f_X3_take_269, if_neg o10, eN]
  | d + 1, i, K + 1, m, v, tn, hi, hK, hm, hr => by
    have hF := fF_itn i f h.1
    have hF1 := fF_itn (i + 1) f h.1
    obtain ⟨t1, t2⟩ := t_range hF
    obtain ⟨v', m', a1, a2, a3⟩ := g_turn (n := n) hn hm t1 t2 hr (m4_bound h (by omega))
    have e1 : itn D w (i + 1) f = nx D w (itn D w i f) := itn_s D w i f
    have hNF : fF D w (wN D w f k q) := fF_itn _ _ (fF_itn k f h.1)
    obtain ⟨v2, m2, tn2, i1, i2, i3⟩ := g_loop hn h c0 c1 c2 c3 n0 n1 n2 hn0 hn1 d (i + 1) K m' v' (jL (mT D w (itn D w i f).2.1 (itn D w i f).2.2)) (by omega) (by omega) a1 a3
    refine ⟨v2, m2, tn2, i1, i2, ?_⟩
    rw [f_X3_take_269, if_pos rfl, fF_step hF, Option.bind_some]
    dsimp only
    rw [a2, Option.bind_some]
    rw [e1] at i3
    rcases (way_at h (i := i + 1) (by omega)).2 (by omega) with b1 | ⟨b1, b2⟩
    · have hred := (fF_red3 (n := n) hF1).2 b1
      rw [e1] at hred
      rw [hred, Option.bind_some, if_pos rfl]
      exact i3
    · have hred := (fF_red3 (n := n) hF1).1 b1
      have hnam := (p_isName (n := n) hF1 hNF).2 b2
      rw [e1] at hred hnam
      rw [hred, Option.bind_some, if_neg o10, hn0, hn1, hnam, Option.bind_some, if_pos rfl]
      rw [hn0, hn1] at i3
      exact i3
/-- the rows are laid anew: one row -/
theorem g_row {n k i : Nat} {Kf : Int32 → (Nat → Int32) → Int32 → Int64 → Int64 → Int64 → Int64 → Int64 → Int64 → Int64 → Int64 → Int64 → Int64 → Int64 → Int64 → Int32 → Option (Int32 × (Nat → Int32) × Int32 × Int64 × Int64 × Int64 × Int64 × Int64 × Int64 × Int64 × Int64 × Int64 × Int64 × Int64 × Int64 × Int32)}
    {w : Nat → Int32} {c0 : Int32} {c1 c2 c3 c4 c5 c6 c7 c8 c9 c10 c11 c12 : Int64} (hi : i < 4) :
    f_X3_take_174 n Kf (k + 5) (nI i) 0 w c0 c1 c2 c3 c4 c5 c6 c7 c8 c9 c10 c11 c12 4
      = Kf (nI (i + 1)) (upd (upd (upd (upd w (1100 * i + 0) (if i = 0 ∨ i = 3 then 1 else 0)) (1100 * i + 1) 0) (1100 * i + 2) 0) (1100 * i + 3) 0) c0 c1 c2 c3 c4 c5 c6 c7 c8 c9 c10 c11 c12 4 := by
  have p0 : ∀ (w : Nat → Int32) x, f_X3_put n w (nI i) 0 x = some (upd w (1100 * i + 0) x) := fun w x => g_put (j := 0) (by omega) (by omega)
  have p1 : ∀ (w : Nat → Int32) x, f_X3_put n w (nI i) 1 x = some (upd w (1100 * i + 1) x) := fun w x => g_put (j := 1) (by omega) (by omega)
  have p2 : ∀ (w : Nat → Int32) x, f_X3_put n w (nI i) 2 x = some (upd w (1100 * i + 2) x) := fun w x => g_put (j := 2) (by omega) (by omega)
  have p3 : ∀ (w : Nat → Int32) x, f_X3_put n w (nI i) 3 x = some (upd w (1100 * i + 3) x) := fun w x => g_put (j := 3) (by omega) (by omega)
  have tl : ∀ w, f_X3_take_174 n Kf (k + 4) (nI i) 1 w c0 c1 c2 c3 c4 c5 c6 c7 c8 c9 c10 c11 c12 4 = Kf (nI (i + 1)) (upd (upd (upd w (1100 * i + 1) 0) (1100 * i + 2) 0) (1100 * i + 3) 0) c0 c1 c2 c3 c4 c5 c6 c7 c8 c9 c10 c11 c12 4 := fun w => by
    rw [f_X3_take_174, if_pos (show (1 : Int32) < 4 by decide), if_neg (show ¬ (1 : Int32) = 0 by decide), p1, Option.bind_some, show (1 : Int32) + 1 = 2 from rfl]
    rw [f_X3_take_174, if_pos (show (2 : Int32) < 4 by decide), if_neg (show ¬ (2 : Int32) = 0 by decide), p2, Option.bind_some, show (2 : Int32) + 1 = 3 from rfl]
    rw [f_X3_take_174, if_pos (show (3 : Int32) < 4 by decide), if_neg (show ¬ (3 : Int32) = 0 by decide), p3, Option.bind_some, show (3 : Int32) + 1 = 4 from rfl]
    rw [f_X3_take_174, if_neg (show ¬ (4 : Int32) < 4 by decide), ← nI_succ]
  rw [f_X3_take_174, if_pos (show (0 : Int32) < 4 by decide), if_pos rfl]
  rcases (show i = 0 ∨ i = 1 ∨ i = 2 ∨ i = 3 by omega) with rfl | rfl | rfl | rfl
  · rw [if_pos (show nI 0 = 0 from rfl), p0, Option.bind_some, show (0 : Int32) + 1 = 1 from rfl, tl]
    rfl
  · rw [if_neg (show ¬ nI 1 = 0 by decide), if_neg (show ¬ nI 1 = 3 by decide), p0, Option.bind_some, show (0 : Int32) + 1 = 1 from rfl, tl]
    rfl
  · rw [if_neg (show ¬ nI 2 = 0 by decide), if_neg (show ¬ nI 2 = 3 by decide), p0, Option.bind_some, show (0 : Int32) + 1 = 1 from rfl, tl]
    rfl
  · rw [if_neg (show ¬ nI 3 = 0 by decide), if_pos (show nI 3 = 3 from rfl), p0, Option.bind_some, show (0 : Int32) + 1 = 1 from rfl, tl]
    rfl
