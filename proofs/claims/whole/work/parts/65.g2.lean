theorem b_part (N : Nat) {t g : St_} {d : Nat → Nat → Nat} {w : Nat → Int32} (h0 : TD d) (h1 : CP t d) (h2 : MT g d w) (x y : Int32) : (∃ r q, r < d 2 0 ∧ q < d 6 r ∧ x = nI r ∧ y = nI q ∧ f_X1_hasPart N t x y = some 1 ∧ f_X7_isStair N g x = some 1 ∧ f_X7_in N y.toInt64 (0 : Int64) ((g 6 x.toNatClampNeg - (1 : Int32)).toInt64) = some 1) ∨ (f_X1_hasPart N t x y = some 0 ∧ (f_X7_isStair N g x = some 0 ∨ (f_X7_isStair N g x = some 1 ∧ okI x 10 = true ∧ f_X7_in N y.toInt64 (0 : Int64) ((g 6 x.toNatClampNeg - (1 : Int32)).toInt64) = some 0))) := by
  have hS := h0.1.2.1
  unfold f_X1_hasPart
  rcases b_stair N h0 h1 h2 x with ⟨r, hr, rfl, p1, p2⟩ | ⟨p1, p2⟩
  · rw [p1, p2, k_bs, if_neg (show ¬ (1 : Int32) = 0 by decide), k_ok (by omega) (by omega), k_gd, k_cl (by omega)]
    have e6 : t 6 r = nI (d 6 r) := (h1.2.2 r hr).2.2.2
    have m6 : g 6 r = nI (d 6 r) := (h2.2.2.1 r hr).2.2.2
    have hq := h0.2.1 r hr
    rw [e6, m6]
    rcases c_two N (x := y) (n := d 6 r) (by omega) (fun y => if y < 0 then some (0 : Int32) else if nI (d 6 r) ≤ y then some (0 : Int32) else some (1 : Int32)) (fun y => rfl) with ⟨q, hq, rfl, q1, q2⟩ | ⟨q1, q2⟩
    · exact Or.inl ⟨r, q, hr, hq, rfl, rfl, q1, rfl, q2⟩
    · exact Or.inr ⟨q1, Or.inr ⟨rfl, rfl, q2⟩⟩
  · rw [p1, p2]
    exact Or.inr ⟨rfl, Or.inl rfl⟩
theorem b_steps (N : Nat) (x : Int32) : (∃ j, 1 ≤ j ∧ j ≤ 720 ∧ x = nI j ∧ f_X6_areSteps N x = some 1 ∧ f_X7_in N x.toInt64 (1 : Int64) (720 : Int64) = some 1) ∨ (f_X6_areSteps N x = some 0 ∧ f_X7_in N x.toInt64 (1 : Int64) (720 : Int64) = some 0) := by
  unfold f_X6_areSteps
  rcases k_inC N (x := x) 1 720 (by decide) (by decide) with ⟨j, h1, h2, rfl, h⟩ | ⟨h, h2⟩
  · refine Or.inl ⟨j, h1, h2, rfl, ?_, h⟩
    rw [if_neg (show ¬ nI j < (1 : Int32) by rw [k1_gt (by omega)]; omega), if_neg (show ¬ (720 : Int32) < nI j by rw [k720_lt (by omega)]; omega)]
  · refine Or.inr ⟨?_, h2⟩
    by_cases q : x < (1 : Int32)
    · rw [if_pos q]
    · rw [if_neg q, if_pos (show (720 : Int32) < x from h.resolve_left q)]
theorem b_strd (N : Nat) (x : Int32) : (∃ j, 1 ≤ j ∧ j ≤ 24 ∧ x = nI j ∧ f_X6_isStride N x = some 1 ∧ f_X7_in N x.toInt64 (1 : Int64) (24 : Int64) = some 1) ∨ (f_X6_isStride N x = some 0 ∧ f_X7_in N x.toInt64 (1 : Int64) (24 : Int64) = some 0) := by
  unfold f_X6_isStride
  rcases k_inC N (x := x) 1 24 (by decide) (by decide) with ⟨j, h1, h2, rfl, h⟩ | ⟨h, h2⟩
  · refine Or.inl ⟨j, h1, h2, rfl, ?_, h⟩
    rw [if_neg (show ¬ nI j < (1 : Int32) by rw [k1_gt (by omega)]; omega), if_neg (show ¬ (24 : Int32) < nI j by rw [k24_lt (by omega)]; omega)]
  · refine Or.inr ⟨?_, h2⟩
    by_cases q : x < (1 : Int32)
    · rw [if_pos q]
    · rw [if_neg q, if_pos (show (24 : Int32) < x from h.resolve_left q)]
theorem pa_fit (N : Nat) (hN : 200 < N) : PA_fit N Rel := by
  intro g1 g2 hR z0 z1
  have hR0 := hR
  obtain ⟨d, w, h0, h1, h2, -⟩ := hR
  unfold f_X6_fit f_X7_fit
  rcases b_stair N h0 (t := sh_ 27 g1) h1.1 h2 z0 with ⟨r, hr, rfl, p1, p2⟩ | ⟨p1, p2⟩
  · rw [p1, p2]
    rcases b_strd N z1 with ⟨s, hs1, hs2, rfl, q1, q2⟩ | ⟨q1, q2⟩
    · rw [q1, q2, c_fit N hN h0 h1 hr (by omega), m_fitD N hN h0 h2 hr (by omega)]
      exact ⟨b2 (fitD d s r), by cases fitD d s r <;> rfl, by cases fitD d s r <;> rfl, hR0⟩
    · rw [q1, q2]
      exact ⟨_, rfl, rfl, hR0⟩
  · rw [p1, p2]
    exact ⟨_, rfl, rfl, hR0⟩
theorem pa_stair (N : Nat) (hN : 200 < N) : PA_stair N Rel := by
  intro g1 g2 hR z0 z1
  have hR0 := hR
  obtain ⟨d, w, h0, h1, h2, -⟩ := hR
  have hS := h0.1.2.1
  unfold f_X6_stair f_X7_stair
  rcases b_stair N h0 (t := sh_ 27 g1) h1.1 h2 z0 with ⟨r, hr, rfl, p1, p2⟩ | ⟨p1, p2⟩
  · rw [p1, p2, c_climbers N hN h0 h1 hr, m_climbers N hN h0 h2 hr, k_ok (show r < 10 by omega) (by omega), k_cl (show r < 2147483648 by omega), k3_mu]
    obtain ⟨a1, a2, a3, a4⟩ := h1.1.2.2 r hr
    obtain ⟨m1, m2, m3, m4⟩ := h2.2.2.1 r hr
    have w1 : g1 40 r = w r := h1.2.2.2.2.1 r hr
    have w2 : g2 8 r = w r := h2.2.2.2.2.2.2.1 r hr
    have c1 : g1 30 r = nI (d 3 r) := a1
    have c2 : g1 31 r = nI (d 4 r) := a2
    have c3 : g1 32 r = nI (d 5 r) := a3
    have c4 : g1 33 r = nI (d 6 r) := a4
    rw [c1, c2, c3, c4, m1, m2, m3, m4, w1, w2]
    simp only [k_bs, k_gd, k_10, if_false]
    obtain ⟨-, -, -, -, hp1, hp3⟩ := h0.2.1 r hr
    have hpart : ∀ k, k < 3 → f_X1_hasPart N (sh_ 27 g1) (nI r) (nI k) = some (b2 (decide (k < d 6 r))) := by
      intro k hk
      unfold f_X1_hasPart
      rw [p1, k_bs, if_neg (show ¬ (1 : Int32) = 0 by decide), if_neg (nI_pos (show k < 2 ^ 31 by omega)), k_ok (show r < 10 by omega) (by omega), k_gd, k_cl (show r < 2147483648 by omega), show sh_ 27 g1 6 r = nI (d 6 r) from a4]
      rcases Nat.lt_or_ge k (d 6 r) with q | q
      · rw [if_neg (nI_ge q (by omega))]; simp [b2, q]
      · rw [if_pos (nI_le q (by omega))]; simp [b2, Nat.not_lt.mpr q]
    by_cases q0 : z1 = 0
    · (first | rw [if_pos q0, if_pos q0] | rw [if_pos q0]); exact ⟨_, rfl, rfl, hR0⟩
    (first | rw [if_neg q0, if_neg q0] | rw [if_neg q0])
    by_cases q1 : z1 = 1
    · (first | rw [if_pos q1, if_pos q1] | rw [if_pos q1]); exact ⟨_, rfl, rfl, hR0⟩
    (first | rw [if_neg q1, if_neg q1] | rw [if_neg q1])
    by_cases q2 : z1 = 2
    · (first | rw [if_pos q2, if_pos q2] | rw [if_pos q2]); exact ⟨_, rfl, rfl, hR0⟩
    (first | rw [if_neg q2, if_neg q2] | rw [if_neg q2])
    by_cases q3 : z1 = 3
    · (first | rw [if_pos q3, if_pos q3] | rw [if_pos q3]); exact ⟨_, rfl, rfl, hR0⟩
    (first | rw [if_neg q3, if_neg q3] | rw [if_neg q3])
    have st1 : ∀ i, i < d 6 r → g1 39 (3 * r + i) = nI (d 7 (3 * r + i)) := fun i hi => h1.2.2.2.1 r i hr hi
    have st2 : ∀ i, i < d 6 r → g2 7 (3 * r + i) = nI (d 7 (3 * r + i)) := fun i hi => h2.2.2.2.2.2.1 r i hr hi
    by_cases q4 : z1 = 4
    · (first | rw [if_pos q4, if_pos q4] | rw [if_pos q4])
      subst q4
      rw [show (4 : Int32) - 4 = nI 0 from rfl, hpart 0 (by omega), k_bs, ib, show decide (0 < d 6 r) = true from decide_eq_true (by omega), cond_true, show nI (3 * r) + (4 : Int32) - 4 = nI (3 * r) from by rw [Int32.add_sub_cancel], k_ok (by omega) (by omega), k_gd, k_gd, k_cl (by omega)]
      have s1 := st1 0 (by omega)
      have s2 := st2 0 (by omega)
      rw [Nat.add_zero] at s1 s2
      rw [s1, s2]
      exact ⟨_, rfl, rfl, hR0⟩
    (first | rw [if_neg q4, if_neg q4] | rw [if_neg q4])
    by_cases q5 : z1 = 5
    · (first | rw [if_pos q5, if_pos q5] | rw [if_pos q5])
      subst q5
      rw [show (5 : Int32) - 4 = nI 1 from rfl, hpart 1 (by omega), k_bs, ib, show nI (3 * r) + (5 : Int32) - 4 = nI (3 * r + 1) from by rw [k5_ad, k4_sb (by omega)]; exact congrArg nI (by omega), k_ok (show 3 * r + 1 < 30 by omega) (by omega), k_gd, k_cl (by omega), k1_ad, k_ok (show 3 * r + 1 < 30 by omega) (by omega), k_gd, k_cl (by omega)]
      rcases Nat.lt_or_ge 1 (d 6 r) with hq | hq
      · rw [if_neg (show ¬ nI (d 6 r) ≤ (1 : Int32) by rw [k1_ge (by omega)]; omega), show decide (1 < d 6 r) = true from decide_eq_true hq, cond_true, st1 1 hq, st2 1 hq]
        exact ⟨_, rfl, rfl, hR0⟩
      · rw [if_pos (show nI (d 6 r) ≤ (1 : Int32) by rw [k1_ge (by omega)]; omega), show decide (1 < d 6 r) = false from decide_eq_false (by omega), cond_false]
        exact ⟨_, rfl, rfl, hR0⟩
    (first | rw [if_neg q5, if_neg q5] | rw [if_neg q5])
    by_cases q6 : z1 = 6
    · (first | rw [if_pos q6, if_pos q6] | rw [if_pos q6])
      subst q6
      rw [show (6 : Int32) - 4 = nI 2 from rfl, hpart 2 (by omega), k_bs, ib, show nI (3 * r) + (6 : Int32) - 4 = nI (3 * r + 2) from by rw [k6_ad, k4_sb (by omega)]; exact congrArg nI (by omega), k_ok (show 3 * r + 2 < 30 by omega) (by omega), k_gd, k_cl (by omega), k2_ad, k_ok (show 3 * r + 2 < 30 by omega) (by omega), k_gd, k_cl (by omega)]
      rcases Nat.lt_or_ge 2 (d 6 r) with hq | hq
      · rw [if_neg (show ¬ nI (d 6 r) ≤ (2 : Int32) by rw [k2_ge (by omega)]; omega), show decide (2 < d 6 r) = true from decide_eq_true hq, cond_true, st1 2 hq, st2 2 hq]
        exact ⟨_, rfl, rfl, hR0⟩
      · rw [if_pos (show nI (d 6 r) ≤ (2 : Int32) by rw [k2_ge (by omega)]; omega), show decide (2 < d 6 r) = false from decide_eq_false (by omega), cond_false]
        exact ⟨_, rfl, rfl, hR0⟩
    (first | rw [if_neg q6, if_neg q6] | rw [if_neg q6])
    by_cases q7 : z1 = 7
    · (first | rw [if_pos q7, if_pos q7] | rw [if_pos q7]); exact ⟨_, rfl, rfl, hR0⟩
    (first | rw [if_neg q7, if_neg q7] | rw [if_neg q7])
    by_cases q8 : z1 = 8
    · (first | rw [if_pos q8, if_pos q8] | rw [if_pos q8]); exact ⟨_, rfl, rfl, hR0⟩
    (first | rw [if_neg q8, if_neg q8] | rw [if_neg q8])
    exact ⟨_, rfl, rfl, hR0⟩
  · rw [p1, p2]
    exact ⟨_, rfl, rfl, hR0⟩
def dset (d : Nat → Nat → Nat) (k j v : Nat) : Nat → Nat → Nat := fun a => bif Nat.beq a k then (fun b => if b = j then v else d a b) else d a
theorem part_uniq {d : Nat → Nat → Nat} (h0 : TD d) {r i r' q : Nat} (hr : r < d 2 0) (hi : i < d 6 r) (hr' : r' < d 2 0) (hq : q < d 6 r') (h : 3 * r + i = 3 * r' + q) : r = r' ∧ i = q := by
  have h1 := (h0.2.1 r hr).2.2.2.2.2
  have h2 := (h0.2.1 r' hr').2.2.2.2.2
  omega
theorem TD_step {d : Nat → Nat → Nat} (h0 : TD d) {r q v : Nat} (hv : 1 ≤ v ∧ v ≤ 720) : TD (dset d 7 (3 * r + q) v) := by
  refine ⟨h0.1, h0.2.1, fun r' i hr hi => ?_, h0.2.2.2⟩
  show 1 ≤ (if 3 * r' + i = 3 * r + q then v else d 7 (3 * r' + i)) ∧ (if 3 * r' + i = 3 * r + q then v else d 7 (3 * r' + i)) ≤ 720
  by_cases e : 3 * r' + i = 3 * r + q
  · rw [if_pos e]; exact hv
  · rw [if_neg e]; exact h0.2.2.1 r' i hr hi
theorem MT_step {g : St_} {d : Nat → Nat → Nat} {w : Nat → Int32} (h2 : MT g d w) (j v : Nat) : MT (up1 g 7 j (nI v)) (dset d 7 j v) w := by
  refine ⟨h2.1, h2.2.1, h2.2.2.1, h2.2.2.2.1, h2.2.2.2.2.1, fun r i hr hi => ?_, h2.2.2.2.2.2.2⟩
  show (if 3 * r + i = j then nI v else g 7 (3 * r + i)) = nI (if 3 * r + i = j then v else d 7 (3 * r + i))
  by_cases e : 3 * r + i = j
  · rw [if_pos e, if_pos e]
  · rw [if_neg e, if_neg e]; exact h2.2.2.2.2.2.1 r i hr hi
theorem CT_step {g : St_} {d : Nat → Nat → Nat} {w : Nat → Int32} (h1 : CT (sh_ 26 g) d w) (j v : Nat) : CT (sh_ 26 (up1 g 39 j (nI v))) (dset d 7 j v) w := by
  refine ⟨h1.1, h1.2.1, h1.2.2.1, fun r i hr hi => ?_, h1.2.2.2.2⟩
  show (if 3 * r + i = j then nI v else g 39 (3 * r + i)) = nI (if 3 * r + i = j then v else d 7 (3 * r + i))
  by_cases e : 3 * r + i = j
  · rw [if_pos e, if_pos e]
  · rw [if_neg e, if_neg e]; exact h1.2.2.2.1 r i hr hi
theorem pa_build (N : Nat) : PA_build N Rel := by
  intro g1 g2 hR z0 z1 z2
  have hR0 := hR
  obtain ⟨d, w, h0, h1, h2, h3, h4, h5, h6, h7⟩ := hR
  have hS := h0.1.2.1
  unfold f_X6_build f_X7_build
  rcases b_part N h0 (t := sh_ 27 g1) h1.1 h2 z0 z1 with ⟨r, q, hr, hq, rfl, rfl, p1, p2, p3⟩ | ⟨p1, p2 | ⟨p2, p3, p4⟩⟩
  · have hp := h0.2.1 r hr
    have s1 : g1 39 (3 * r + q) = nI (d 7 (3 * r + q)) := h1.2.2.2.1 r q hr hq
    have s2 : g2 7 (3 * r + q) = nI (d 7 (3 * r + q)) := h2.2.2.2.2.2.1 r q hr hq
    rw [p1, p2, k_ok (show r < 10 by omega) (by omega), p3]
    simp only [k_bs, k_10, if_false, k_gd]
    rcases b_steps N z2 with ⟨v, hv1, hv2, rfl, q1, q2⟩ | ⟨q1, q2⟩
    · rw [q1, q2, k3_mu, k_add, k_ok (show 3 * r + q < 30 by omega) (by omega), k_cl (by omega), s1, s2]
      simp only [k_bs, k_10, if_false, k_gd]
      exact ⟨_, _, _, rfl, rfl, dset d 7 (3 * r + q) v, w, TD_step h0 ⟨hv1, hv2⟩, CT_step h1 _ _, MT_step h2 _ _, h3, h4, h5, h6, h7⟩
    · rw [q1, q2]
      exact ⟨_, _, _, rfl, rfl, hR0⟩
  · rw [p1, p2]
    exact ⟨_, _, _, rfl, rfl, hR0⟩
  · rw [p1, p2, p3]
    simp only [k_bs, k_10, if_false, k_gd]
    rw [p4]
    exact ⟨_, _, _, rfl, rfl, hR0⟩
