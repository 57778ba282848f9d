/-! the four questions of the matrix, both sides -/
def MI (s8 : Int32) (z0 z1 z2 z3 sg : Nat → Int32) (m2 : Int32) (M : M4) : Prop := s8 = 0 ∨ (s8 = 1 ∧ ∃ g, m2 = nI g ∧ 1 ≤ g ∧ g ≤ 256 ∧ fin4 z0 z1 z2 z3 sg g M)
theorem k_mk {n : Nat} (hn : 600000 ≤ n) {D w : Int} {f : Fm} {k q : Nat} (h : wy D w f k q) (wa0 wa1 wa2 wa3 wa4 : Int64) {s8 m2 : Int32} (m3 m4 m5 m6 : Int64) {z0 z1 z2 z3 sg : Nat → Int32} (hM : MI s8 z0 z1 z2 z3 sg m2 (mxs D w f (k + wB D w f k q))) :
    ∃ y0 y1 y2 y3 sg' g wb0 wb1 wb2 wb3 wb4 k3 k4 k5 k6, fin4 y0 y1 y2 y3 sg' g (mxs D w f (k + wB D w f k q)) ∧ 1 ≤ g ∧ g ≤ 256 ∧
      f_X2_makeMatrix n (nI (k + wB D w f k q)) s8 (jL f.1) (jL f.2.1) (jL f.2.2) (jL D) (jL w) wa0 wa1 wa2 wa3 wa4 m2 m3 m4 m5 m6 z0 z1 z2 z3 sg
      = some (y0, y1, y2, y3, sg', 1, wb0, wb1, wb2, wb3, wb4, nI g, k3, k4, k5, k6) := by
  rcases hM with rfl | ⟨rfl, g, rfl, g1, g2, hf⟩
  · obtain ⟨y0, y1, y2, y3, sg', g, a1, a2, a3, a4⟩ := k_make hn h wa0 wa1 wa2 wa3 wa4 m2 m3 m4 m5 m6 z0 z1 z2 z3 sg
    exact ⟨y0, y1, y2, y3, sg', g, _, _, _, _, _, _, _, _, _, a1, a2, a3, a4⟩
  · refine ⟨z0, z1, z2, z3, sg, g, wa0, wa1, wa2, wa3, wa4, m3, m4, m5, m6, hf, g1, g2, ?_⟩
    unfold f_X2_makeMatrix
    rw [if_neg o10]
abbrev X17 := Int32 × (Nat → Int32) × (Nat → Int32) × (Nat → Int32) × (Nat → Int32) × (Nat → Int32) × Int32 × Int64 × Int64 × Int64 × Int64 × Int64 × Int32 × Int64 × Int64 × Int64 × Int64
/-- what a question gives back -/
def ANS (o : Sum X17 Int32) (r cd : Int32) (M : M4) : Prop := (o = .inr cd ∧ cd ≠ 0) ∨ (cd = 0 ∧ ∃ y0 y1 y2 y3 sg' g wb0 wb1 wb2 wb3 wb4 k3 k4 k5 k6, o = .inl (r, y0, y1, y2, y3, sg', 1, wb0, wb1, wb2, wb3, wb4, nI g, k3, k4, k5, k6) ∧ fin4 y0 y1 y2 y3 sg' g M ∧ 1 ≤ g ∧ g ≤ 256)
theorem num_cases (a : Int32) : (∃ i, i < 4 ∧ a = nI i) ∨ ((∀ n, f_X2_isNumber n a = some 0) ∧ ∀ n, f_X3_isNumber n a = some (0, 1)) := by
  have e0 : (0 : Int32).toInt = 0 := rfl
  have e4 : (4 : Int32).toInt = 4 := rfl
  rcases (show (0 ≤ a.toInt ∧ a.toInt < 4) ∨ ¬ (0 ≤ a.toInt ∧ a.toInt < 4) by omega) with q | q
  · left
    refine ⟨a.toInt.toNat, by omega, ?_⟩
    apply Int32.toInt_inj.mp
    rw [nI_toInt (by omega)]
    omega
  · right
    refine ⟨fun n => ?_, fun n => ?_⟩
    · unfold f_X2_isNumber
      simp only [Int32.lt_iff_toInt_lt, e0, e4]
      by_cases c : a.toInt < 0
      · rw [if_pos c]
      · rw [if_neg c, if_neg (by omega)]
    · unfold f_X3_isNumber
      have := (p_in (n := n) (v := a.toInt) (l := 0) (h := 3) (mB_R (i32_B a)) jR_0 ⟨by omega, by omega⟩).2 (by omega)
      rw [i32_jL, show (0 : Int64) = jL 0 from rfl, show (3 : Int64) = jL 3 from rfl, this, Option.bind_some, if_pos rfl]
theorem k_num {n i : Nat} (hi : i < 4) : f_X2_isNumber n (nI i) = some 1 := by
  unfold f_X2_isNumber
  rw [if_neg (nI_not_neg (by omega)), if_pos (show nI i < 4 from nI_lt (b := 4) hi (by omega))]
theorem fin_sg {z0 z1 z2 z3 sg : Nat → Int32} {g : Nat} {M : M4} (h : fin4 z0 z1 z2 z3 sg g M) {i : Nat} (hi : i < 4) : sg i = sg32 (m4 M i) := by
  obtain ⟨-, -, -, -, a, b, c, d⟩ := h
  rcases (show i = 0 ∨ i = 1 ∨ i = 2 ∨ i = 3 by omega) with rfl | rfl | rfl | rfl
  · exact a
  · exact b
  · exact c
  · exact d
theorem p_sign {n : Nat} (hn : 600000 ≤ n) {D w : Int} {f : Fm} {k q : Nat} (h : wy D w f k q) (wa0 wa1 wa2 wa3 wa4 : Int64) {s8 m2 : Int32} (m3 m4 m5 m6 : Int64) {z0 z1 z2 z3 sg : Nat → Int32} (hM : MI s8 z0 z1 z2 z3 sg m2 (mxs D w f (k + wB D w f k q)))
    {v : Nat → Int32} {m : Nat} (hm : m ≤ 514) (hr : rows v (m + 3) (mxs D w f (k + wB D w f k q))) (a : Int32) :
    ∃ o r v' cd, f_X2_sign n (nI (k + wB D w f k q)) s8 (jL f.1) (jL f.2.1) (jL f.2.2) (jL D) (jL w) wa0 wa1 wa2 wa3 wa4 m2 m3 m4 m5 m6 z0 z1 z2 z3 sg a = some o ∧ f_X3_sign n (nI (m + 3)) v a = some (r, v', cd) ∧ rows v' (m + 3) (mxs D w f (k + wB D w f k q)) ∧ ANS o r cd (mxs D w f (k + wB D w f k q)) := by
  rcases num_cases a with ⟨i, hi, rfl⟩ | ⟨b1, b2⟩
  · obtain ⟨y0, y1, y2, y3, sg', g, wb0, wb1, wb2, wb3, wb4, k3, k4, k5, k6, hf, g1, g2, hmk⟩ := k_mk hn h wa0 wa1 wa2 wa3 wa4 m3 m4 m5 m6 hM
    obtain ⟨v', c1, c2⟩ := g_sign (n := n) (by omega) hm hr hi
    refine ⟨_, _, v', 0, ?_, c1, c2, Or.inr ⟨rfl, y0, y1, y2, y3, sg', g, wb0, wb1, wb2, wb3, wb4, k3, k4, k5, k6, rfl, hf, g1, g2⟩⟩
    unfold f_X2_sign
    rw [k_num hi, Option.bind_some, if_neg o10, hmk, Option.bind_some]
    unfold f_X1_signOf
    rw [if_neg (ix4 hi), nI_clamp (by omega), Option.bind_some]
    dsimp only
    rw [fin_sg hf hi]
  · refine ⟨.inr 1, 0, v, 1, ?_, ?_, hr, Or.inl ⟨rfl, by decide⟩⟩
    · unfold f_X2_sign
      rw [b1, Option.bind_some, if_pos rfl]
    · unfold f_X3_sign
      rw [b2, Option.bind_some]
      dsimp only
      rw [if_pos rfl]
theorem p_bits {n : Nat} (hn : 600000 ≤ n) {D w : Int} {f : Fm} {k q : Nat} (h : wy D w f k q) (wa0 wa1 wa2 wa3 wa4 : Int64) {s8 m2 : Int32} (m3 m4 m5 m6 : Int64) {z0 z1 z2 z3 sg : Nat → Int32} (hM : MI s8 z0 z1 z2 z3 sg m2 (mxs D w f (k + wB D w f k q)))
    {v : Nat → Int32} {m : Nat} (hm : m ≤ 514) (hr : rows v (m + 3) (mxs D w f (k + wB D w f k q))) (a : Int32) :
    ∃ o r v' cd, f_X2_bits n (nI (k + wB D w f k q)) s8 (jL f.1) (jL f.2.1) (jL f.2.2) (jL D) (jL w) wa0 wa1 wa2 wa3 wa4 m2 m3 m4 m5 m6 z0 z1 z2 z3 sg a = some o ∧ f_X3_bits n (nI (m + 3)) v a = some (r, v', cd) ∧ rows v' (m + 3) (mxs D w f (k + wB D w f k q)) ∧ ANS o r cd (mxs D w f (k + wB D w f k q)) := by
  rcases num_cases a with ⟨i, hi, rfl⟩ | ⟨b1, b2⟩
  · obtain ⟨y0, y1, y2, y3, sg', g, wb0, wb1, wb2, wb3, wb4, k3, k4, k5, k6, hf, g1, g2, hmk⟩ := k_mk hn h wa0 wa1 wa2 wa3 wa4 m3 m4 m5 m6 hM
    obtain ⟨v', L, c1, c2, c3⟩ := g_bits (n := n) (by omega) hm hr hi
    refine ⟨_, _, v', 0, ?_, c1, c2, Or.inr ⟨rfl, y0, y1, y2, y3, sg', g, wb0, wb1, wb2, wb3, wb4, k3, k4, k5, k6, rfl, hf, g1, g2⟩⟩
    obtain ⟨f0, f1, f2, f3, -⟩ := hf
    unfold f_X2_bits
    rw [k_num hi, Option.bind_some, if_neg o10, hmk, Option.bind_some]
    dsimp only
    rcases (show i = 0 ∨ i = 1 ∨ i = 2 ∨ i = 3 by omega) with rfl | rfl | rfl | rfl
    · obtain ⟨L', e1, e2⟩ := k_bits (n := n) (i := 0) (by omega) (by decide) g2 f0
      rw [if_pos (show nI 0 = 0 from rfl), e1, Option.bind_some, BL_un c3 e2]
    · obtain ⟨L', e1, e2⟩ := k_bits (n := n) (i := 1) (by omega) (by decide) g2 f1
      rw [if_neg (show ¬ nI 1 = 0 by decide), if_pos (show nI 1 = 1 from rfl), e1, Option.bind_some, BL_un c3 e2]
    · obtain ⟨L', e1, e2⟩ := k_bits (n := n) (i := 2) (by omega) (by decide) g2 f2
      rw [if_neg (show ¬ nI 2 = 0 by decide), if_neg (show ¬ nI 2 = 1 by decide), if_pos (show nI 2 = 2 from rfl), e1, Option.bind_some, BL_un c3 e2]
    · obtain ⟨L', e1, e2⟩ := k_bits (n := n) (i := 3) (by omega) (by decide) g2 f3
      rw [if_neg (show ¬ nI 3 = 0 by decide), if_neg (show ¬ nI 3 = 1 by decide), if_neg (show ¬ nI 3 = 2 by decide), if_pos (show nI 3 = 3 from rfl), e1, Option.bind_some, BL_un c3 e2]
  · refine ⟨.inr 1, 0, v, 1, ?_, ?_, hr, Or.inl ⟨rfl, by decide⟩⟩
    · unfold f_X2_bits
      rw [b1, Option.bind_some, if_pos rfl]
    · unfold f_X3_bits
      rw [b2, Option.bind_some]
      dsimp only
      rw [if_pos rfl]
theorem p_word {n : Nat} (hn : 600000 ≤ n) {D w : Int} {f : Fm} {k q : Nat} (h : wy D w f k q) (wa0 wa1 wa2 wa3 wa4 : Int64) {s8 m2 : Int32} (m3 m4 m5 m6 : Int64) {z0 z1 z2 z3 sg : Nat → Int32} (hM : MI s8 z0 z1 z2 z3 sg m2 (mxs D w f (k + wB D w f k q)))
    {v : Nat → Int32} {m : Nat} (hm : m ≤ 514) (hr : rows v (m + 3) (mxs D w f (k + wB D w f k q))) (a b : Int32) :
    ∃ o r v' cd, f_X2_word n (nI (k + wB D w f k q)) s8 (jL f.1) (jL f.2.1) (jL f.2.2) (jL D) (jL w) wa0 wa1 wa2 wa3 wa4 m2 m3 m4 m5 m6 z0 z1 z2 z3 sg a b = some o ∧ f_X3_word n (nI (m + 3)) v a b = some (r, v', cd) ∧ rows v' (m + 3) (mxs D w f (k + wB D w f k q)) ∧ ANS o r cd (mxs D w f (k + wB D w f k q)) := by
  rcases num_cases a with ⟨i, hi, rfl⟩ | ⟨b1, b2⟩
  · have e0 : (0 : Int32).toInt = 0 := rfl
    have e512 : (512 : Int32).toInt = 512 := rfl
    rcases (show (0 ≤ b.toInt ∧ b.toInt < 512) ∨ ¬ (0 ≤ b.toInt ∧ b.toInt < 512) by omega) with qb | qb
    · obtain ⟨kk, hk, rfl⟩ : ∃ kk, kk < 512 ∧ b = nI kk := ⟨b.toInt.toNat, by omega, by
        apply Int32.toInt_inj.mp
        rw [nI_toInt (by omega)]
        omega⟩
      obtain ⟨y0, y1, y2, y3, sg', g, wb0, wb1, wb2, wb3, wb4, k3, k4, k5, k6, hf, g1, g2, hmk⟩ := k_mk hn h wa0 wa1 wa2 wa3 wa4 m3 m4 m5 m6 hM
      obtain ⟨v', x, c1, c2, c3⟩ := g_word (n := n) (by omega) hm hr hi hk
      refine ⟨_, _, v', 0, ?_, c1, c2, Or.inr ⟨rfl, y0, y1, y2, y3, sg', g, wb0, wb1, wb2, wb3, wb4, k3, k4, k5, k6, rfl, hf, g1, g2⟩⟩
      obtain ⟨f0, f1, f2, f3, -⟩ := hf
      unfold f_X2_word
      rw [k_num hi, Option.bind_some, if_neg o10, if_neg (nI_not_neg (by omega)), if_pos (show nI kk < 512 from nI_lt (b := 512) hk (by omega)), hmk, Option.bind_some]
      dsimp only
      rcases (show i = 0 ∨ i = 1 ∨ i = 2 ∨ i = 3 by omega) with rfl | rfl | rfl | rfl
      · obtain ⟨x', e1, e2⟩ := k_word (n := n) (i := 0) (by decide) hk g2 f0
        rw [if_pos (show nI 0 = 0 from rfl), e1, Option.bind_some, wd_inj (Eq.trans c3 e2.symm)]
      · obtain ⟨x', e1, e2⟩ := k_word (n := n) (i := 1) (by decide) hk g2 f1
        rw [if_neg (show ¬ nI 1 = 0 by decide), if_pos (show nI 1 = 1 from rfl), e1, Option.bind_some, wd_inj (Eq.trans c3 e2.symm)]
      · obtain ⟨x', e1, e2⟩ := k_word (n := n) (i := 2) (by decide) hk g2 f2
        rw [if_neg (show ¬ nI 2 = 0 by decide), if_neg (show ¬ nI 2 = 1 by decide), if_pos (show nI 2 = 2 from rfl), e1, Option.bind_some, wd_inj (Eq.trans c3 e2.symm)]
      · obtain ⟨x', e1, e2⟩ := k_word (n := n) (i := 3) (by decide) hk g2 f3
        rw [if_neg (show ¬ nI 3 = 0 by decide), if_neg (show ¬ nI 3 = 1 by decide), if_neg (show ¬ nI 3 = 2 by decide), if_pos (show nI 3 = 3 from rfl), e1, Option.bind_some, wd_inj (Eq.trans c3 e2.symm)]
    · refine ⟨.inr 1, 0, v, 1, ?_, ?_, hr, Or.inl ⟨rfl, by decide⟩⟩
      · unfold f_X2_word
        rw [k_num hi, Option.bind_some, if_neg o10]
        simp only [Int32.lt_iff_toInt_lt, e0, e512]
        by_cases c : b.toInt < 0
        · rw [if_pos c]
        · rw [if_neg c, if_neg (by omega)]
      · unfold f_X3_word
        have := (p_in (n := n) (v := b.toInt) (l := 0) (h := 511) (mB_R (i32_B b)) jR_0 ⟨by omega, by omega⟩).2 (by omega)
        rw [g_num hi, Option.bind_some]
        dsimp only
        rw [if_neg o10, i32_jL, show (0 : Int64) = jL 0 from rfl, show (511 : Int64) = jL 511 from rfl, this, Option.bind_some, if_pos rfl]
        rfl
  · refine ⟨.inr 1, 0, v, 1, ?_, ?_, hr, Or.inl ⟨rfl, by decide⟩⟩
    · unfold f_X2_word
      rw [b1, Option.bind_some, if_pos rfl]
    · unfold f_X3_word
      rw [b2, Option.bind_some]
      dsimp only
      rw [if_pos rfl]
theorem p_residue {n : Nat} (hn : 600000 ≤ n) {D w : Int} {f : Fm} {k q : Nat} (h : wy D w f k q) (wa0 wa1 wa2 wa3 wa4 : Int64) {s8 m2 : Int32} (m3 m4 m5 m6 : Int64) {z0 z1 z2 z3 sg : Nat → Int32} (hM : MI s8 z0 z1 z2 z3 sg m2 (mxs D w f (k + wB D w f k q)))
    {v : Nat → Int32} {m : Nat} (hm : m ≤ 514) (hr : rows v (m + 3) (mxs D w f (k + wB D w f k q))) (a b : Int32) :
    ∃ o r v' cd, f_X2_residue n (nI (k + wB D w f k q)) s8 (jL f.1) (jL f.2.1) (jL f.2.2) (jL D) (jL w) wa0 wa1 wa2 wa3 wa4 m2 m3 m4 m5 m6 z0 z1 z2 z3 sg a b = some o ∧ f_X3_residue n (nI (m + 3)) v a b = some (r, v', cd) ∧ rows v' (m + 3) (mxs D w f (k + wB D w f k q)) ∧ ANS o r cd (mxs D w f (k + wB D w f k q)) := by
  rcases num_cases a with ⟨i, hi, rfl⟩ | ⟨b1, b2⟩
  · have e1' : (1 : Int32).toInt = 1 := rfl
    rcases (show 1 ≤ b.toInt ∨ b.toInt < 1 by omega) with qb | qb
    · obtain ⟨y0, y1, y2, y3, sg', g, wb0, wb1, wb2, wb3, wb4, k3, k4, k5, k6, hf, g1, g2, hmk⟩ := k_mk hn h wa0 wa1 wa2 wa3 wa4 m3 m4 m5 m6 hM
      obtain ⟨v', c1, c2⟩ := g_res (n := n) (by omega) hm hr hi qb
      refine ⟨_, _, v', 0, ?_, c1, c2, Or.inr ⟨rfl, y0, y1, y2, y3, sg', g, wb0, wb1, wb2, wb3, wb4, k3, k4, k5, k6, rfl, hf, g1, g2⟩⟩
      have hs := fun {i : Nat} (hi : i < 4) => fin_sg hf hi
      obtain ⟨f0, f1, f2, f3, -⟩ := hf
      unfold f_X2_residue
      rw [k_num hi, Option.bind_some, if_neg o10, if_neg (fun y : b < 1 => by rw [Int32.lt_iff_toInt_lt, e1'] at y; omega), hmk, Option.bind_some]
      dsimp only
      rcases (show i = 0 ∨ i = 1 ∨ i = 2 ∨ i = 3 by omega) with rfl | rfl | rfl | rfl
      · rw [if_pos (show nI 0 = 0 from rfl), k_res (n := n) (i := 0) (by omega) (by decide) g2 qb (hs (by decide)) f0, Option.bind_some]
      · rw [if_neg (show ¬ nI 1 = 0 by decide), if_pos (show nI 1 = 1 from rfl), k_res (n := n) (i := 1) (by omega) (by decide) g2 qb (hs (by decide)) f1, Option.bind_some]
      · rw [if_neg (show ¬ nI 2 = 0 by decide), if_neg (show ¬ nI 2 = 1 by decide), if_pos (show nI 2 = 2 from rfl), k_res (n := n) (i := 2) (by omega) (by decide) g2 qb (hs (by decide)) f2, Option.bind_some]
      · rw [if_neg (show ¬ nI 3 = 0 by decide), if_neg (show ¬ nI 3 = 1 by decide), if_neg (show ¬ nI 3 = 2 by decide), if_pos (show nI 3 = 3 from rfl), k_res (n := n) (i := 3) (by omega) (by decide) g2 qb (hs (by decide)) f3, Option.bind_some]
    · refine ⟨.inr 2, 0, v, 2, ?_, ?_, hr, Or.inl ⟨rfl, by decide⟩⟩
      · unfold f_X2_residue
        rw [k_num hi, Option.bind_some, if_neg o10, if_pos (show b < 1 by rw [Int32.lt_iff_toInt_lt, e1']; omega)]
      · unfold f_X3_residue
        rw [g_num hi, Option.bind_some]
        dsimp only
        rw [if_neg o10, if_pos (show b < 1 by rw [Int32.lt_iff_toInt_lt, e1']; omega)]
        rfl
  · refine ⟨.inr 1, 0, v, 1, ?_, ?_, hr, Or.inl ⟨rfl, by decide⟩⟩
    · unfold f_X2_residue
      rw [b1, Option.bind_some, if_pos rfl]
    · unfold f_X3_residue
      rw [b2, Option.bind_some]
      dsimp only
      rw [if_pos rfl]
