def sumW (w : Nat → Int32) : Nat → Int32
  | 0 => 0
  | n + 1 => sumW w n + w n
theorem c_allWorn (N : Nat) (hN : 200 < N) {t : St_} {d : Nat → Nat → Nat} {w : Nat → Int32} (h0 : TD d) (h1 : CT t d w) : f_X5_allWorn N t = some (sumW w (d 2 0)) := by
  have hS := h0.1.2.1
  have e3 : t 3 0 = nI (d 2 0) := h1.1.2.1
  obtain ⟨o, hQ, e⟩ := loopI (fun n i a => f_X5_allWorn_L4 N t n a (nI i)) (d 2 0) (fun i a => a = sumW w i) (fun o => o = sumW w (d 2 0)) (fun n i a hi ha => Or.inl ⟨sumW w (i + 1), rfl, by
    subst ha
    have ew : t 14 i = w i := h1.2.2.2.2.1 i hi
    show f_X5_allWorn_L4 N t (n + 1) _ (nI i) = f_X5_allWorn_L4 N t n _ (nI (i + 1))
    rw [f_X5_allWorn_L4, e3, if_neg (nI_ge hi (by omega)), k_ok (by omega) (by omega), k_gd, k_cl (by omega), k1_ad, ew]
    rfl⟩) (fun n a ha => ⟨a, ha, by
    show f_X5_allWorn_L4 N t (n + 1) a (nI (d 2 0)) = some a
    rw [f_X5_allWorn_L4, e3, if_pos (Int32.le_refl _)]⟩) N 0 0 (Nat.zero_le _) (by omega) rfl
  unfold f_X5_allWorn
  rw [show f_X5_allWorn_L4 N t N 0 0 = some o from e, hQ]
  rfl
theorem m_allWorn (N : Nat) (hN : 200 < N) {t : St_} {d : Nat → Nat → Nat} {w : Nat → Int32} (h0 : TD d) (h1 : MT t d w) : f_X7_allWorn N t = some (sumW w (d 2 0)) := by
  have hS := h0.1.2.1
  have e3 : t 2 0 = nI (d 2 0) := h1.2.1
  obtain ⟨o, hQ, e⟩ := loopI (fun n i a => f_X7_allWorn_L4 N t n a (nI i)) (d 2 0) (fun i a => a = sumW w i) (fun o => o = sumW w (d 2 0)) (fun n i a hi ha => Or.inl ⟨sumW w (i + 1), rfl, by
    subst ha
    have ew : t 8 i = w i := h1.2.2.2.2.2.2.1 i hi
    show f_X7_allWorn_L4 N t (n + 1) _ (nI i) = f_X7_allWorn_L4 N t n _ (nI (i + 1))
    rw [f_X7_allWorn_L4, e3, if_neg (nI_ge hi (by omega)), k_ok (by omega) (by omega), k_gd, k_cl (by omega), k1_ad, ew]
    rfl⟩) (fun n a ha => ⟨a, ha, by
    show f_X7_allWorn_L4 N t (n + 1) a (nI (d 2 0)) = some a
    rw [f_X7_allWorn_L4, e3, if_pos (Int32.le_refl _)]⟩) N 0 0 (Nat.zero_le _) (by omega) rfl
  unfold f_X7_allWorn
  rw [show f_X7_allWorn_L4 N t N 0 0 = some o from e, hQ]
  rfl
theorem pa_told (N : Nat) (hN : 200 < N) : PA_told N Rel := by
  intro g1 g2 hR z
  have hR0 := hR
  obtain ⟨d, w, h0, h1, h2, ⟨nt, hnt, t1, t2, t3⟩, h4, ⟨n, hn, a1, a2, a3⟩, ⟨k, hk, b1, b2, b3⟩, h5⟩ := hR
  have e0 : g1 28 0 = nI (d 1 0) := h1.1.1
  have e1 : g1 29 0 = nI (d 2 0) := h1.1.2.1
  have e2 : g1 35 0 = nI (d 9 0) := h1.2.1
  have e4 : g1 41 0 = nI (d 13 0) := h1.2.2.2.2.2.1
  unfold f_X6_told f_X7_told
  rw [e0, e1, e2, e4, t1, t2, a1, a2, b1, b2, h2.1, h2.2.1, h2.2.2.2.1, h2.2.2.2.2.2.2.2.1, c_allWorn N hN h0 h1, m_allWorn N hN h0 h2]
  have key : ∀ {x y : Option Int32} (r : Int32), x = y → y = some r → ∃ r, x = some r ∧ y = some r ∧ Rel g1 g2 := fun r e1 e2 => ⟨r, e1.trans e2, e2, hR0⟩
  by_cases q0 : z = 0
  · rw [if_pos q0]; exact ⟨_, rfl, rfl, hR0⟩
  rw [if_neg q0]
  by_cases q1 : z = 1
  · rw [if_pos q1]; exact ⟨_, rfl, rfl, hR0⟩
  rw [if_neg q1]
  by_cases q2 : z = 2
  · rw [if_pos q2]; exact ⟨_, rfl, rfl, hR0⟩
  rw [if_neg q2]
  by_cases q3 : z = 3
  · rw [if_pos q3]; exact ⟨_, rfl, rfl, hR0⟩
  rw [if_neg q3]
  by_cases q4 : z = 4
  · rw [if_pos q4]; exact ⟨_, rfl, rfl, hR0⟩
  rw [if_neg q4]
  by_cases q5 : z = 5
  · rw [if_pos q5]; exact ⟨_, rfl, rfl, hR0⟩
  rw [if_neg q5]
  by_cases q6 : z = 6
  · rw [if_pos q6]; exact ⟨_, rfl, rfl, hR0⟩
  rw [if_neg q6]
  by_cases q7 : z = 7
  · rw [if_pos q7]; exact ⟨_, rfl, rfl, hR0⟩
  rw [if_neg q7]
  exact ⟨_, rfl, rfl, hR0⟩
theorem k_nb {z : Int32} (h : z = 0 ∨ z = 1) : ∃ c, c ≤ 1 ∧ z = nI c ∧ vp_nar .boolean z = nI c := by
  rcases h with rfl | rfl
  · exact ⟨0, by decide, rfl, rfl⟩
  · exact ⟨1, by decide, rfl, rfl⟩
theorem u_ne (g : St_) (k j : Nat) (v : Int32) {i : Nat} (h : i ≠ j) : up1 g k j v k i = g k i := by
  show (bif Nat.beq k k then upd (g k) j v else g k) i = g k i
  rw [Nat.beq_refl]
  exact if_neg h
theorem u_eq (g : St_) (k j : Nat) (v : Int32) : up1 g k j v k j = v := by
  show (bif Nat.beq k k then upd (g k) j v else g k) j = v
  rw [Nat.beq_refl]
  exact if_pos rfl
theorem pa_see (N : Nat) : PA_see N Rel := by
  intro g1 g2 hR z0 z1 z2 hz
  have hR0 := hR
  obtain ⟨d, w, h0, h1, h2, h3, h4, ⟨n, hn, a1, a2, a3⟩, h5⟩ := hR
  obtain ⟨c, hc, ec, ec2⟩ := k_nb hz
  unfold f_X6_see f_X7_see
  rcases b_place N h0 (t := sh_ 27 g1) h1.1 h2 z0 with ⟨j0, hj0, ez0, p1, p2⟩ | ⟨p1, p2⟩
  · rw [p1, p2]
    rcases b_place N h0 (t := sh_ 27 g1) h1.1 h2 z1 with ⟨j1, hj1, ez1, p3, p4⟩ | ⟨p3, p4⟩
    · simp only [k_bs, k_10, if_false, p3, p4]
      rw [a1, a2]
      rcases Nat.lt_or_ge n 20 with hn2 | hn2
      · have o1 : okI (nI n) 20 = true := k_ok hn2 (by omega)
        have hP := h0.1.1
        unfold f_X2_append
        rw [if_pos (show nI n < (20 : Int32) by rw [k20_gt (by omega)]; exact hn2), if_neg (show ¬ nI n = (20 : Int32) by rw [k20_eq (by omega)]; omega)]
        have a1' : sh_ 65 g1 1 0 = nI n := a1
        rw [a1', if_neg (show ¬ (20 : Int32) ≤ nI n by rw [k20_le (by omega)]; omega), o1]
        simp only [k_gd, k_bs, k_cl (show n < 2147483648 by omega)]
        refine ⟨_, _, _, rfl, rfl, d, w, h0, h1, h2, h3, h4, ⟨n + 1, by omega, ?_, ?_, ?_⟩, h5⟩
        · show nI n + 1 = nI (n + 1)
          exact k1_ad n
        · show nI n + 1 = nI (n + 1)
          exact k1_ad n
        · intro i hi
          rcases Nat.lt_or_ge i n with hi2 | hi2
          · obtain ⟨a, b, c', q1, q2, q3, q4, q5, q6, q7, q8, q9⟩ := a3 i hi2
            have ne : i ≠ n := by omega
            refine ⟨a, b, c', q1, q2, q3, ?_, ?_, ?_, ?_, ?_, ?_⟩
            · exact (if_neg ne).trans q4
            · exact (if_neg ne).trans q5
            · exact (if_neg ne).trans q6
            · exact (if_neg ne).trans q7
            · exact (if_neg ne).trans q8
            · exact (if_neg ne).trans q9
          · have : i = n := by omega
            subst this
            exact ⟨j0, j1, c, hj0, hj1, hc, (if_pos rfl).trans ez0, (if_pos rfl).trans ez0, (if_pos rfl).trans ez1, (if_pos rfl).trans ez1, (if_pos rfl).trans ec2, (if_pos rfl).trans ec2⟩
      · have : n = 20 := by omega
        subst this
        rw [if_neg (show ¬ nI 20 < (20 : Int32) by decide), if_pos (show nI 20 = (20 : Int32) from rfl)]
        exact ⟨_, _, _, rfl, rfl, hR0⟩
    · simp only [k_bs, k_10, if_false, p3, p4]
      exact ⟨_, _, _, rfl, rfl, hR0⟩
  · rw [p1, p2]
    exact ⟨_, _, _, rfl, rfl, hR0⟩
theorem pa_write (N : Nat) : PA_write N Rel := by
  intro g1 g2 hR z0 z1
  have hR0 := hR
  obtain ⟨d, w, h0, h1, h2, h3, h4, h5, ⟨n, hn, a1, a2, a3⟩, h6⟩ := hR
  have hE := h0.1.2.2.1
  unfold f_X6_write f_X7_write
  rcases b_person N h0 (t := sh_ 34 g1) h1.2 h2 z0 with ⟨j0, hj0, ez0, p1, p2⟩ | ⟨p1, p2⟩
  · rw [p1, p2]
    rcases b_stair N h0 (t := sh_ 27 g1) h1.1 h2 z1 with ⟨j1, hj1, ez1, p3, p4⟩ | ⟨p3, p4⟩
    · simp only [k_bs, k_10, if_false, p3, p4]
      rw [a1, a2]
      rcases Nat.lt_or_ge n 40 with hn2 | hn2
      · have o1 : okI (nI n) 40 = true := k_ok hn2 (by omega)
        unfold f_X0_append
        rw [if_pos (show nI n < (40 : Int32) by rw [k40_gt (by omega)]; exact hn2), if_neg (show ¬ nI n = (40 : Int32) by rw [k40_eq (by omega)]; omega)]
        have a1' : sh_ 70 g1 1 0 = nI n := a1
        rw [a1', if_neg (show ¬ (40 : Int32) ≤ nI n by rw [k40_le (by omega)]; omega), o1]
        simp only [k_gd, k_bs, k_cl (show n < 2147483648 by omega)]
        refine ⟨_, _, _, rfl, rfl, d, w, h0, h1, h2, h3, h4, h5, ⟨n + 1, by omega, ?_, ?_, ?_⟩, h6⟩
        · show nI n + 1 = nI (n + 1)
          exact k1_ad n
        · show nI n + 1 = nI (n + 1)
          exact k1_ad n
        · intro i hi
          rcases Nat.lt_or_ge i n with hi2 | hi2
          · obtain ⟨a, b, q1, q2, q4, q5, q6, q7⟩ := a3 i hi2
            have ne : i ≠ n := by omega
            refine ⟨a, b, q1, q2, ?_, ?_, ?_, ?_⟩
            · exact (if_neg ne).trans q4
            · exact (if_neg ne).trans q5
            · exact (if_neg ne).trans q6
            · exact (if_neg ne).trans q7
          · have : i = n := by omega
            subst this
            exact ⟨j0, j1, by omega, hj1, (if_pos rfl).trans ez0, (if_pos rfl).trans ez0, (if_pos rfl).trans ez1, (if_pos rfl).trans ez1⟩
      · have : n = 40 := by omega
        subst this
        rw [if_neg (show ¬ nI 40 < (40 : Int32) by decide), if_pos (show nI 40 = (40 : Int32) from rfl)]
        exact ⟨_, _, _, rfl, rfl, hR0⟩
    · simp only [k_bs, k_10, if_false, p3, p4]
      exact ⟨_, _, _, rfl, rfl, hR0⟩
  · rw [p1, p2]
    exact ⟨_, _, _, rfl, rfl, hR0⟩
