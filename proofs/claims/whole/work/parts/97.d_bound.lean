/-! THE BOUND -/
theorem root_nat {v v' d : Nat} (h1 : v * v < d) (h2 : d < (v + 1) * (v + 1)) (h3 : v' * v' ≤ d) (h4 : d < (v' + 1) * (v' + 1)) : v = v' := by
  rcases (show v = v' ∨ v + 1 ≤ v' ∨ v' + 1 ≤ v by omega) with z | z | z
  · exact z
  · have := Nat.mul_le_mul z z
    omega
  · have := Nat.mul_le_mul z z
    omega
theorem bnd_ex {D w : Int} {g : Fm} (hF : fF D w g) (hD : 0 < D) (hr : fR D w g) {x y : Nat → Int} (hg : gro D w g x y) {d v : Nat} (hd : (d : Int) = D) (hv : (v : Int) = w) (hv2 : v < 1024) (hx : x 0 ≤ 2 ^ 44) (hy : y 0 ≤ 2 ^ 44) (n : Nat) (hdist : ∀ i j, i < j → j ≤ n → itn D w i g ≠ itn D w j g)
    (hT : tE (v + 1) v (d % 4) (d / 4) ≤ 1042304) : x n ≤ ((8 * 2 ^ 44 * 2 ^ 8143 : Nat) : Int) := by
  have hs := ring_sumE hF hD hr hd hv hv2 (v + 1) n hdist
  refine ringE hF hD hr hg (Q := 2 ^ 44) (R := v + 1) (lo := lLo) (hT := fun x => lLo x + 1) hx hy (by omega) ?_ ?_ n 8143 ?_
  · intro b b1 b2
    exact Nat.le_of_lt (lLo_ok (b + (v + 1)) (by omega) (by omega)).2
  · intro c c1 c2
    exact (lLo_ok c c1 (by omega)).1
  · refine Nat.le_trans (Nat.le_of_eq (sqs_congr n (fun i _ => ?_))) (Nat.le_trans hs (by omega))
    rfl
theorem bnd_S {D w : Int} {g : Fm} (hF : fF D w g) (hD : 0 < D) (hr : fR D w g) {x y : Nat → Int} (hg : gro D w g x y) {d v : Nat} (hd : (d : Int) = D) (hv : (v : Int) = w) (hv2 : v < 1024) (hx : x 0 ≤ 2 ^ 44) (hy : y 0 ≤ 2 ^ 44) (n : Nat) (hdist : ∀ i j, i < j → j ≤ n → itn D w i g ≠ itn D w j g)
    {W : Nat} (hW : v < W) (hW2 : W ≤ 1024) (hT : sqs (fun i => wt W (i + 1) * rr (d % 4) (i + 1) (d / 4)) (W - 1) ≤ 5211520) : x n ≤ ((8 * 2 ^ 44 * 2 ^ 8143 : Nat) : Int) := by
  have hs := ring_sum hF hD hr hd hv hv2 (wt W) n hdist hW hW2
  have hWok := lLo_ok W (by omega) (by omega)
  refine ringS hF hD hr hg (Q := 2 ^ 44) (W := W) (hi := lLo W + 1) (lo := lLo) hx hy (by omega) (Nat.le_of_lt hWok.2) ?_ n 8143 ?_
  · intro c c1 c2
    have hc := (lLo_ok c c1 (by omega)).1
    refine ⟨hc, ?_⟩
    have h1 : c ^ 256 ≤ W ^ 256 := Nat.pow_le_pow_left c2 256
    have h2 : 2 ^ lLo c < 2 ^ (lLo W + 1) := Nat.lt_of_le_of_lt hc (Nat.lt_of_le_of_lt h1 hWok.2)
    exact Nat.le_of_lt ((Nat.pow_lt_pow_iff_right (by decide)).mp h2)
  · refine Nat.le_trans (Nat.le_of_eq (sqs_congr n (fun i _ => (wt_eq W _).symm))) (Nat.le_trans hs (by omega))
theorem bnd_blk {D w : Int} {g : Fm} (hF : fF D w g) (hD : 0 < D) (hr : fR D w g) {x y : Nat → Int} (hg : gro D w g x y) {d v : Nat} (hd : (d : Int) = D) (hv : (v : Int) = w) (hv2 : v < 1024) (hx : x 0 ≤ 2 ^ 44) (hy : y 0 ≤ 2 ^ 44) (n : Nat) (hdist : ∀ i j, i < j → j ≤ n → itn D w i g ≠ itn D w j g)
    (hex : d ∈ exD → x n ≤ ((8 * 2 ^ 44 * 2 ^ 8143 : Nat) : Int)) (h1 : v * v < d) (h2 : d < (v + 1) * (v + 1)) {w0 W : Nat} (hW0 : w0 ≤ v) (hW : v < W) (hW2 : W ≤ 1024)
    (ok0 : okW 0 w0 W = true) (ok1 : okW 1 w0 W = true) : x n ≤ ((8 * 2 ^ 44 * 2 ^ 8143 : Nat) : Int) := by
  have h := (ringN hF hD hr hd hv 0).2.2.2.2.2.2
  obtain ⟨he, -, -⟩ := par h rfl rfl
  have ok : okW (d % 4) w0 W = true := by
    rcases he with z | z <;> rw [z] <;> assumption
  have m1 : w0 * w0 ≤ v * v := Nat.mul_le_mul hW0 hW0
  have m2 : (v + 1) * (v + 1) ≤ W * W := Nat.mul_le_mul hW hW
  have k := okC_spec (e := d % 4) (w1 := W) (m0 := w0 * w0 / 4) (n := W * W / 4 - w0 * w0 / 4 + 1) (xs := exD ++ sqL w0 (W - w0 + 1)) (by omega) hW2 ok (j := d / 4 - w0 * w0 / 4) (by omega)
  have e1 : w0 * w0 / 4 + (d / 4 - w0 * w0 / 4) = d / 4 := by omega
  rw [e1] at k
  rcases k with k | k
  · exact bnd_S hF hD hr hg hd hv hv2 hx hy n hdist hW hW2 k
  · have e2 : 4 * (d / 4) + d % 4 = d := by omega
    rw [e2] at k
    rcases List.mem_append.mp k with k | k
    · exact hex k
    · exfalso
      unfold sqL at k
      obtain ⟨i, -, hi⟩ := List.mem_map.mp k
      have := root_nat h1 h2 (Nat.le_of_eq hi) (by
        have e : (w0 + i + 1) * (w0 + i + 1) = (w0 + i) * (w0 + i) + 2 * (w0 + i) + 1 := by grind
        omega)
      rw [this] at h1
      omega
theorem and3 {a b c : Bool} (h : (a && b && c) = true) : a = true ∧ b = true ∧ c = true := by
  rw [Bool.and_eq_true, Bool.and_eq_true] at h
  exact ⟨h.1.1, h.1.2, h.2⟩
theorem bnd_ring {D w : Int} {g : Fm} (hF : fF D w g) (hD : 0 < D) (hr : fR D w g) {x y : Nat → Int} (hg : gro D w g x y) (hx : x 0 ≤ 2 ^ 44) (hy : y 0 ≤ 2 ^ 44) (n : Nat) (hdist : ∀ i j, i < j → j ≤ n → itn D w i g ≠ itn D w j g) : x n ≤ ((8 * 2 ^ 44 * 2 ^ 8143 : Nat) : Int) := by
  obtain ⟨r1, r2, -, -, -, -, -, -, r9, r10⟩ := redP hF hD hr
  have hD2 : D ≤ 1048576 := hF.2.2.2.2.2.1
  obtain ⟨d, hd⟩ : ∃ d : Nat, (d : Int) = D := ⟨D.toNat, Int.toNat_of_nonneg (by omega)⟩
  obtain ⟨v, hv⟩ : ∃ v : Nat, (v : Int) = w := ⟨w.toNat, Int.toNat_of_nonneg (by omega)⟩
  have h1 : v * v < d := by
    rw [← hv, ← hd] at r9
    exact_mod_cast r9
  have h2 : d < (v + 1) * (v + 1) := by
    rw [← hv, ← hd] at r10
    exact_mod_cast r10
  have hd2 : d ≤ 1048576 := by omega
  have hv2 : v < 1024 := by
    rcases (show v < 1024 ∨ 1024 ≤ v by omega) with z | z
    · exact z
    · have := Nat.mul_le_mul z z
      omega
  have hv1 : 1 ≤ v := by omega
  have key : ∀ (d' v' r' e' m' : Nat), d = d' → v' + 1 = r' → v' * v' ≤ d' → d' < (v' + 1) * (v' + 1) → d' % 4 = e' → d' / 4 = m' → Nat.ble (tE r' v' e' m') 1042304 = true → x n ≤ ((8 * 2 ^ 44 * 2 ^ 8143 : Nat) : Int) := by
    intro d' v' r' e' m' q1 qr q2 q3 q4 q5 q6
    subst q1
    subst qr
    have := root_nat h1 h2 q2 q3
    subst this
    exact bnd_ex hF hD hr hg hd hv hv2 hx hy n hdist (by rw [q4, q5]; exact Nat.le_of_ble_eq_true q6)
  have hex : d ∈ exD → x n ≤ ((8 * 2 ^ 44 * 2 ^ 8143 : Nat) : Int) := by
    intro hm
    unfold exD at hm
    simp only [List.mem_cons, List.not_mem_nil, or_false] at hm
    rcases hm with hm | hm | hm | hm | hm | hm | hm | hm | hm | hm | hm | hm | hm | hm | hm
    · exact key 1046809 1023 1024 1 261702 hm rfl (by decide) (by decide) rfl rfl ex_1046809
    · exact key 1035241 1017 1018 1 258810 hm rfl (by decide) (by decide) rfl rfl ex_1035241
    · exact key 1026481 1013 1014 1 256620 hm rfl (by decide) (by decide) rfl rfl ex_1026481
    · exact key 1028329 1014 1015 1 257082 hm rfl (by decide) (by decide) rfl rfl ex_1028329
    · exact key 1019209 1009 1010 1 254802 hm rfl (by decide) (by decide) rfl rfl ex_1019209
    · exact key 1008121 1004 1005 1 252030 hm rfl (by decide) (by decide) rfl rfl ex_1008121
    · exact key 1009969 1004 1005 1 252492 hm rfl (by decide) (by decide) rfl rfl ex_1009969
    · exact key 1014841 1007 1008 1 253710 hm rfl (by decide) (by decide) rfl rfl ex_1014841
    · exact key 1007161 1003 1004 1 251790 hm rfl (by decide) (by decide) rfl rfl ex_1007161
    · exact key 995569 997 998 1 248892 hm rfl (by decide) (by decide) rfl rfl ex_995569
    · exact key 987529 993 994 1 246882 hm rfl (by decide) (by decide) rfl rfl ex_987529
    · exact key 969049 984 985 1 242262 hm rfl (by decide) (by decide) rfl rfl ex_969049
    · exact key 970369 985 986 1 242592 hm rfl (by decide) (by decide) rfl rfl ex_970369
    · exact key 971569 985 986 1 242892 hm rfl (by decide) (by decide) rfl rfl ex_971569
    · exact key 979969 989 990 1 244992 hm rfl (by decide) (by decide) rfl rfl ex_979969
  rcases (show v < 256 ∨ 256 ≤ v by omega) with z | z256
  · exact bnd_blk hF hD hr hg hd hv hv2 hx hy n hdist hex h1 h2 (w0 := 1) (W := 256) (by omega) z (by decide) (and3 bk_0_584).2.2 (and3 bk_1_584).2.2
  rcases (show v < 456 ∨ 456 ≤ v by omega) with z | z456
  · exact bnd_blk hF hD hr hg hd hv hv2 hx hy n hdist hex h1 h2 (w0 := 256) (W := 456) (by omega) z (by decide) (and3 bk_0_584).2.1 (and3 bk_1_584).2.1
  rcases (show v < 584 ∨ 584 ≤ v by omega) with z | z584
  · exact bnd_blk hF hD hr hg hd hv hv2 hx hy n hdist hex h1 h2 (w0 := 456) (W := 584) (by omega) z (by decide) (and3 bk_0_584).1 (and3 bk_1_584).1
  rcases (show v < 712 ∨ 712 ≤ v by omega) with z | z712
  · exact bnd_blk hF hD hr hg hd hv hv2 hx hy n hdist hex h1 h2 (w0 := 584) (W := 712) (by omega) z (by decide) (and3 bk_0_840).2.2 (and3 bk_1_840).2.2
  rcases (show v < 776 ∨ 776 ≤ v by omega) with z | z776
  · exact bnd_blk hF hD hr hg hd hv hv2 hx hy n hdist hex h1 h2 (w0 := 712) (W := 776) (by omega) z (by decide) (and3 bk_0_840).2.1 (and3 bk_1_840).2.1
  rcases (show v < 840 ∨ 840 ≤ v by omega) with z | z840
  · exact bnd_blk hF hD hr hg hd hv hv2 hx hy n hdist hex h1 h2 (w0 := 776) (W := 840) (by omega) z (by decide) (and3 bk_0_840).1 (and3 bk_1_840).1
  rcases (show v < 872 ∨ 872 ≤ v by omega) with z | z872
  · exact bnd_blk hF hD hr hg hd hv hv2 hx hy n hdist hex h1 h2 (w0 := 840) (W := 872) (by omega) z (by decide) (and3 bk_0_920).2.2 (and3 bk_1_920).2.2
  rcases (show v < 904 ∨ 904 ≤ v by omega) with z | z904
  · exact bnd_blk hF hD hr hg hd hv hv2 hx hy n hdist hex h1 h2 (w0 := 872) (W := 904) (by omega) z (by decide) (and3 bk_0_920).2.1 (and3 bk_1_920).2.1
  rcases (show v < 920 ∨ 920 ≤ v by omega) with z | z920
  · exact bnd_blk hF hD hr hg hd hv hv2 hx hy n hdist hex h1 h2 (w0 := 904) (W := 920) (by omega) z (by decide) (and3 bk_0_920).1 (and3 bk_1_920).1
  rcases (show v < 936 ∨ 936 ≤ v by omega) with z | z936
  · exact bnd_blk hF hD hr hg hd hv hv2 hx hy n hdist hex h1 h2 (w0 := 920) (W := 936) (by omega) z (by decide) (and3 bk_0_960).2.2 (and3 bk_1_960).2.2
  rcases (show v < 952 ∨ 952 ≤ v by omega) with z | z952
  · exact bnd_blk hF hD hr hg hd hv hv2 hx hy n hdist hex h1 h2 (w0 := 936) (W := 952) (by omega) z (by decide) (and3 bk_0_960).2.1 (and3 bk_1_960).2.1
  rcases (show v < 960 ∨ 960 ≤ v by omega) with z | z960
  · exact bnd_blk hF hD hr hg hd hv hv2 hx hy n hdist hex h1 h2 (w0 := 952) (W := 960) (by omega) z (by decide) (and3 bk_0_960).1 (and3 bk_1_960).1
  rcases (show v < 968 ∨ 968 ≤ v by omega) with z | z968
  · exact bnd_blk hF hD hr hg hd hv hv2 hx hy n hdist hex h1 h2 (w0 := 960) (W := 968) (by omega) z (by decide) (and3 bk_0_984).2.2 (and3 bk_1_984).2.2
  rcases (show v < 976 ∨ 976 ≤ v by omega) with z | z976
  · exact bnd_blk hF hD hr hg hd hv hv2 hx hy n hdist hex h1 h2 (w0 := 968) (W := 976) (by omega) z (by decide) (and3 bk_0_984).2.1 (and3 bk_1_984).2.1
  rcases (show v < 984 ∨ 984 ≤ v by omega) with z | z984
  · exact bnd_blk hF hD hr hg hd hv hv2 hx hy n hdist hex h1 h2 (w0 := 976) (W := 984) (by omega) z (by decide) (and3 bk_0_984).1 (and3 bk_1_984).1
  rcases (show v < 992 ∨ 992 ≤ v by omega) with z | z992
  · exact bnd_blk hF hD hr hg hd hv hv2 hx hy n hdist hex h1 h2 (w0 := 984) (W := 992) (by omega) z (by decide) (and3 bk_0_1000).2.2 (and3 bk_1_1000).2.2
  rcases (show v < 996 ∨ 996 ≤ v by omega) with z | z996
  · exact bnd_blk hF hD hr hg hd hv hv2 hx hy n hdist hex h1 h2 (w0 := 992) (W := 996) (by omega) z (by decide) (and3 bk_0_1000).2.1 (and3 bk_1_1000).2.1
  rcases (show v < 1000 ∨ 1000 ≤ v by omega) with z | z1000
  · exact bnd_blk hF hD hr hg hd hv hv2 hx hy n hdist hex h1 h2 (w0 := 996) (W := 1000) (by omega) z (by decide) (and3 bk_0_1000).1 (and3 bk_1_1000).1
  rcases (show v < 1004 ∨ 1004 ≤ v by omega) with z | z1004
  · exact bnd_blk hF hD hr hg hd hv hv2 hx hy n hdist hex h1 h2 (w0 := 1000) (W := 1004) (by omega) z (by decide) (and3 bk_0_1012).2.2 (and3 bk_1_1012).2.2
  rcases (show v < 1008 ∨ 1008 ≤ v by omega) with z | z1008
  · exact bnd_blk hF hD hr hg hd hv hv2 hx hy n hdist hex h1 h2 (w0 := 1004) (W := 1008) (by omega) z (by decide) (and3 bk_0_1012).2.1 (and3 bk_1_1012).2.1
  rcases (show v < 1012 ∨ 1012 ≤ v by omega) with z | z1012
  · exact bnd_blk hF hD hr hg hd hv hv2 hx hy n hdist hex h1 h2 (w0 := 1008) (W := 1012) (by omega) z (by decide) (and3 bk_0_1012).1 (and3 bk_1_1012).1
  rcases (show v < 1016 ∨ 1016 ≤ v by omega) with z | z1016
  · exact bnd_blk hF hD hr hg hd hv hv2 hx hy n hdist hex h1 h2 (w0 := 1012) (W := 1016) (by omega) z (by decide) (and3 bk_0_1024).2.2 (and3 bk_1_1024).2.2
  rcases (show v < 1020 ∨ 1020 ≤ v by omega) with z | z1020
  · exact bnd_blk hF hD hr hg hd hv hv2 hx hy n hdist hex h1 h2 (w0 := 1016) (W := 1020) (by omega) z (by decide) (and3 bk_0_1024).2.1 (and3 bk_1_1024).2.1
  exact bnd_blk hF hD hr hg hd hv hv2 hx hy n hdist hex h1 h2 (w0 := 1020) (W := 1024) (by omega) (by omega) (by decide) (and3 bk_0_1024).1 (and3 bk_1_1024).1
theorem gro_shift {D w : Int} {f : Fm} {x y : Nat → Int} (hg : gro D w f x y) (k : Nat) : gro D w (itn D w k f) (fun i => x (k + i)) (fun i => y (k + i)) := by
  intro i
  have := hg (k + i)
  rw [itn_add] at this
  exact this
theorem pow_8191 : ((8 * 2 ^ 44 * 2 ^ 8143 : Nat) : Int) < 2 ^ 8191 := by
  have : (8 * 2 ^ 44 * 2 ^ 8143 : Nat) = 2 ^ 8190 := by
    rw [show (8 : Nat) = 2 ^ 3 from rfl, ← Nat.pow_add, ← Nat.pow_add]
  rw [this]
  have h2 : (2 : Int) ^ 8191 = ((2 ^ 8191 : Nat) : Int) := by rw [Int.natCast_pow]; rfl
  rw [h2]
  exact Int.ofNat_lt.mpr (Nat.pow_lt_pow_right (by decide) (by omega))
theorem pow_lt2 {a b : Nat} (h : a < b) : (2 : Int) ^ a < 2 ^ b := by
  have h1 : (2 : Int) ^ a = ((2 ^ a : Nat) : Int) := by rw [Int.natCast_pow]; rfl
  have h2 : (2 : Int) ^ b = ((2 ^ b : Nat) : Int) := by rw [Int.natCast_pow]; rfl
  rw [h1, h2]
  exact Int.ofNat_lt.mpr (Nat.pow_lt_pow_right (by decide) h)
theorem gro_all {D w : Int} {f : Fm} {k q : Nat} (h : wy D w f k q) {x y : Nat → Int} (hg : gro D w f x y) (hx : x 0 ≤ 1) (hy : y 0 ≤ 1) (i : Nat) (hi : i ≤ k + wB D w f k q) : x i < 2 ^ 8191 := by
  obtain ⟨hF, k1, k2, k3, k4, k5, k6⟩ := h
  rcases mF_D hF with hD | hD
  · have hq := k5 hD
    subst hq
    have hi2 : i ≤ k := hi
    have := (gro_neg0 hF hD hg hx hy (m := i) (fun j hj => k3 j (by omega)) (by omega)).1
    exact Int.lt_of_le_of_lt this (pow_lt2 (by omega))
  · rcases (show i ≤ k ∨ k < i by omega) with z | z
    · have := (gro_pos hF hD hg hx hy (m := i) (fun j hj => k3 j (by omega))).1
      exact Int.lt_of_le_of_lt this (pow_lt2 (by omega))
    · obtain ⟨q1, q2⟩ := k6 hD
      have hk := gro_pos hF hD hg hx hy (m := k) k3
      have hb := fBest_le D w (itn D w k f) q
      have hgF := fF_itn k f hF
      have := bnd_ring hgF hD k2 (gro_shift hg k) hk.1 hk.2 (i - k) (fun a b hab hb2 he => by
        have hb3 : b ≤ q := by
          have : i ≤ k + fBest D w (itn D w k f) q := hi
          omega
        have e := itn_back hD (b - a) a (itn D w k f) hgF k2 (by rw [show a + (b - a) = b by omega]; exact he)
        exact q2 (b - a) (by omega) (by omega) e.symm)
      have e2 : k + (i - k) = i := by omega
      have t2 : x (k + (i - k)) ≤ ((8 * 2 ^ 44 * 2 ^ 8143 : Nat) : Int) := this
      rw [e2] at t2
      exact Int.lt_of_le_of_lt t2 pow_8191
/-- every number of every matrix on the way -/
theorem mx_bound {D w : Int} {f : Fm} {k q : Nat} (h : wy D w f k q) (i : Nat) (hi : i ≤ k + wB D w f k q) : mS (mxs D w f i).1 < 2 ^ 8191 ∧ mS (mxs D w f i).2.1 < 2 ^ 8191 ∧ mS (mxs D w f i).2.2.1 < 2 ^ 8191 ∧ mS (mxs D w f i).2.2.2 < 2 ^ 8191 := by
  have a0 := gro_all h (gro_0 D w f) (by show mS 1 ≤ 1; decide) (by show mS 0 ≤ 1; decide)
  have a1 := gro_all h (gro_1 D w f) (by show mS 0 ≤ 1; decide) (by show mS 1 ≤ 1; decide)
  refine ⟨a0 i hi, a1 i hi, ?_, ?_⟩
  · cases i with
    | zero => exact a1 0 (by omega)
    | succ i =>
      have e := (gro_0 D w f i).2.2.2
      show (fun i => mS (mxs D w f i).2.2.1) (i + 1) < _
      rw [e]
      exact a0 i (by omega)
  · cases i with
    | zero => exact a0 0 (by omega)
    | succ i =>
      have e := (gro_1 D w f i).2.2.2
      show (fun i => mS (mxs D w f i).2.2.2) (i + 1) < _
      rw [e]
      exact a1 i (by omega)
