/-- COUNT, both sides -/
theorem p_count {n : Nat} (hn : 600000 ≤ n) {D w : Int} {f : Fm} {k q : Nat} (h : wy D w f k q) (ha : mK f.1) (hb : mK f.2.1) (hc : mK f.2.2) (x : Int32) (v6 v7 v8 v9 : Int64) :
    ∃ (r : Int32) (s6 s7 s8 s9 : Int64), f_X2_count n (nI k) (nI (k + wB D w f k q)) (nI (q + 1)) (jL f.1) (jL f.2.1) (jL f.2.2) (jL D) (jL w) x = some r ∧ f_X3_count n (jL f.1) (jL f.2.1) (jL f.2.2) (jL D) (jL w) v6 v7 v8 v9 (jL (wN D w f k q).1) (jL (wN D w f k q).2.1) (jL (wN D w f k q).2.2) x = some (r, 0, s6, s7, s8, s9) := by
  unfold f_X2_count f_X3_count
  by_cases h0 : x = 0
  · rw [if_pos h0, if_pos h0]
    exact ⟨_, _, _, _, _, rfl, rfl⟩
  rw [if_neg h0, if_neg h0]
  by_cases h1 : x = 1
  · rw [if_pos h1, if_pos h1]
    exact ⟨_, _, _, _, _, rfl, rfl⟩
  rw [if_neg h1, if_neg h1]
  by_cases h2 : x = 2
  · rw [if_pos h2, if_pos h2, p_div0 (by omega) ha hb hc]
    have hd := p_div3 (n := n) ha hb hc
    cases e : f_X3_common n (jL f.1) (jL f.2.1) with
    | none => rw [e] at hd; cases hd
    | some g =>
      rw [e, Option.bind_some] at hd
      rw [Option.bind_some, Option.bind_some, hd, Option.bind_some, Int64.toInt32_ofInt]
      exact ⟨_, _, _, _, _, rfl, rfl⟩
  rw [if_neg h2, if_neg h2]
  by_cases h3 : x = 3
  · obtain ⟨t, ht⟩ := p_count3 (n := n) hn h v9
    rw [if_pos h3, if_pos h3, ht, Option.bind_some]
    exact ⟨_, _, _, _, _, rfl, rfl⟩
  rw [if_neg h3, if_neg h3]
  by_cases h4 : x = 4
  · obtain ⟨t, ht⟩ := p_count4 (n := n) hn h v9
    rw [if_pos h4, if_pos h4, ht, Option.bind_some]
    exact ⟨_, _, _, _, _, rfl, rfl⟩
  rw [if_neg h4, if_neg h4]
  by_cases h5 : x = 5
  · obtain ⟨a, b, c, t, ht⟩ := p_count5 (n := n) hn h v6 v7 v8 v9
    rw [if_pos h5, if_pos h5, ht, Option.bind_some]
    exact ⟨_, _, _, _, _, rfl, rfl⟩
  rw [if_neg h5, if_neg h5]
  exact ⟨_, _, _, _, _, rfl, rfl⟩
