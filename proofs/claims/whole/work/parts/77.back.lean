theorem pa_keep (N : Nat) (hN : 200 < N) : PA_keep N Rel := by
  intro g1 g2 hR z0
  have hR0 := hR
  obtain ⟨d, w, h0, h1, h2, h3, h4, h5, h6, h7⟩ := hR
  rcases b_image N z0 with ⟨j, hj, rfl, p1, p2⟩ | ⟨p1, p2⟩
  · obtain ⟨h, m1, m2, m3, m4, m5⟩ := m_keep N hN h0 h2 hj p2
    unfold f_X6_keep
    rw [p1, k_bs, if_neg (show ¬ (1 : Int32) = 0 by decide), m1]
    have hMT : MT h d w := by
      unfold MT
      rw [m2 1 (by decide) (by decide), m2 2 (by decide) (by decide), m2 3 (by decide) (by decide), m2 4 (by decide) (by decide), m2 5 (by decide) (by decide), m2 6 (by decide) (by decide), m2 7 (by decide) (by decide), m2 8 (by decide) (by decide), m2 9 (by decide) (by decide), m2 10 (by decide) (by decide), m2 11 (by decide) (by decide), m2 12 (by decide) (by decide), m2 13 (by decide) (by decide), m2 14 (by decide) (by decide)]
      exact h2
    have tx : ∀ h1', h1' 2 = g1 2 → h1' 24 = g1 24 → RTx h1' h := fun h1' q1 q2 => by
      unfold RTx at h3 ⊢
      rw [q1, q2, m2 15 (by decide) (by decide), m2 16 (by decide) (by decide)]
      exact h3
    have se : ∀ h1', h1' 66 = g1 66 → h1' 67 = g1 67 → h1' 68 = g1 68 → h1' 69 = g1 69 → RSe h1' h (d 1 0) := fun h1' q1 q2 q3 q4 => by
      unfold RSe at h5 ⊢
      rw [q1, q2, q3, q4, m2 35 (by decide) (by decide), m2 36 (by decide) (by decide), m2 37 (by decide) (by decide), m2 38 (by decide) (by decide)]
      exact h5
    have bo : ∀ h1', h1' 71 = g1 71 → h1' 72 = g1 72 → h1' 73 = g1 73 → RBo h1' h (d 2 0) := fun h1' q1 q2 q3 => by
      unfold RBo at h6 ⊢
      rw [q1, q2, q3, m2 39 (by decide) (by decide), m2 40 (by decide) (by decide), m2 41 (by decide) (by decide)]
      exact h6
    rcases (show j = 0 ∨ j = 1 by omega) with rfl | rfl
    · obtain ⟨Y, c, y1, y2⟩ := c_copy N hN (sh_ 46 g1) (sh_ 34 g1) h0 h1.2
      rw [if_pos (show nI 0 = (0 : Int32) from rfl), show f_X3_become N (ca_ 9 (sh_ 46 g1) (sh_ 34 g1)) = some Y from c, k_bs, y1]
      refine ⟨1, _, h, rfl, rfl, d, w, h0, h1, hMT, tx _ rfl rfl, ?_, se _ rfl rfl rfl rfl, bo _ rfl rfl rfl, ?_, ?_⟩
      · rw [m2 17 (by decide) (by decide)]
        exact h4
      · refine Or.inr ⟨rfl, ?_, d, w, SP.rf d, h0, y2, m5⟩
        rw [m4]
        rfl
      · have := h7.2
        unfold RI1 at this ⊢
        rw [show h 44 1 = g2 44 1 from by rw [m4]; rfl]
        rcases this with q | ⟨q1, q2, e, w', q3, q4, q5, q6⟩
        · exact Or.inl q
        · exact Or.inr ⟨q1, q2, e, w', q3, q4, q5, MI_congr q4 q6 (fun x hx => m3 _ (by omega))⟩
    · obtain ⟨Y, c, y1, y2⟩ := c_copy N hN (sh_ 55 g1) (sh_ 34 g1) h0 h1.2
      rw [if_neg (show ¬ nI 1 = (0 : Int32) by decide), if_pos (show nI 1 = (1 : Int32) from rfl), show f_X3_become N (ca_ 9 (sh_ 55 g1) (sh_ 34 g1)) = some Y from c, k_bs, y1]
      refine ⟨1, _, h, rfl, rfl, d, w, h0, h1, hMT, tx _ rfl rfl, ?_, se _ rfl rfl rfl rfl, bo _ rfl rfl rfl, ?_, ?_⟩
      · rw [m2 17 (by decide) (by decide)]
        exact h4
      · have := h7.1
        unfold RI1 at this ⊢
        rw [show h 44 0 = g2 44 0 from by rw [m4]; rfl]
        rcases this with q | ⟨q1, q2, e, w', q3, q4, q5, q6⟩
        · exact Or.inl q
        · exact Or.inr ⟨q1, q2, e, w', q3, q4, q5, MI_congr q4 q6 (fun x hx => m3 _ (by omega))⟩
      · refine Or.inr ⟨rfl, ?_, d, w, SP.rf d, h0, y2, m5⟩
        rw [m4]
        rfl
  · unfold f_X6_keep f_X7_keep
    rw [p1, p2]
    exact ⟨_, _, _, rfl, rfl, hR0⟩
theorem m_goBack (N : Nat) (hN : 200 < N) {g : St_} {d e : Nat → Nat → Nat} {w w' : Nat → Int32} (h2 : MT g d w) (hS : SP d e) (h0 : TD e) {j : Nat} (hj : j < 2) (hin : f_X7_in N (nI j).toInt64 (0 : Int64) (1 : Int64) = some 1) (hk : g 44 j = 1) (hM : MI g (70 * j) e w') : ∃ h, f_X7_goBack N g (nI j) = some (1, h) ∧ (∀ k, 15 ≤ k → h k = g k) ∧ MT h e w' := by
  have hE := h0.1.2.2.1
  have hS1 := h0.1.2.1
  obtain ⟨o, ho⟩ : ∃ o, o = 70 * j := ⟨_, rfl⟩
  have ho2 : o ≤ 70 := by omega
  rw [← ho] at hM
  obtain ⟨v1, c1, a1, a3⟩ := loopC (fun n i a => f_X7_goBack_L32 N (nI o) n (nI i) a) 8 (fun i a => (∀ k, k ≠ 10 → k ≠ 11 → k ≠ 12 → a k = g k) ∧ ∀ p, p < i → a 10 p = g 43 (o + p) ∧ a 11 p = g 43 (o + 8 + p) ∧ a 12 p = g 43 (o + 16 + p)) (fun i a => up1 (up1 (up1 a 10 i (a 43 (o + i))) 11 i (a 43 (o + 8 + i))) 12 i (a 43 (o + 16 + i))) (fun n i a hi ha => ⟨⟨fun k hk h3 h4 => by rw [u_nk _ _ _ h4, u_nk _ _ _ h3, u_nk _ _ _ hk]; exact ha.1 k hk h3 h4, fun p hp => by
      have e1 : a 43 = g 43 := ha.1 43 (by decide) (by decide) (by decide)
      show (if p = i then a 43 (o + i) else a 10 p) = _ ∧ (if p = i then a 43 (o + 8 + i) else a 11 p) = _ ∧ (if p = i then a 43 (o + 16 + i) else a 12 p) = _
      by_cases c : p = i
      · rw [if_pos c, if_pos c, if_pos c, e1, c]
        exact ⟨rfl, rfl, rfl⟩
      · rw [if_neg c, if_neg c, if_neg c]
        exact ha.2 p (by omega)⟩, by
    show f_X7_goBack_L32 N (nI o) (n + 1) (nI i) a = f_X7_goBack_L32 N (nI o) n (nI (i + 1)) _
    rw [f_X7_goBack_L32, if_neg (show ¬ (8 : Int32) ≤ nI i by rw [k8_le (by omega)]; omega), k8_ad, k16_ad, k_add, k_add, k_add, k_ok (show i < 8 by omega) (by omega), k_ok (show o + i < 140 by omega) (by omega), k_ok (show o + 8 + i < 140 by omega) (by omega), k_ok (show o + 16 + i < 140 by omega) (by omega), k_cl (show i < 2147483648 by omega), k_cl (show o + i < 2147483648 by omega), k_cl (show o + 8 + i < 2147483648 by omega), k_cl (show o + 16 + i < 2147483648 by omega), k1_ad]
    rfl⟩) (fun n a ha => by
    show f_X7_goBack_L32 N (nI o) (n + 1) (nI 8) a = some a
    rw [f_X7_goBack_L32, if_pos (show (8 : Int32) ≤ nI 8 by decide)]) (by omega : 8 < N) (a := g) ⟨fun k _ _ _ => rfl, fun p hp => by omega⟩
  obtain ⟨v2, c2, b1, b3⟩ := loopC (fun n i a => f_X7_goBack_L94 N (nI o) n (nI i) a) 30 (fun i a => (∀ k, k ≠ 7 → a k = v1 k) ∧ ∀ p, p < i → a 7 p = v1 43 (o + 24 + p)) (fun i a => up1 a 7 i (a 43 (o + 24 + i))) (fun n i a hi ha => ⟨⟨fun k hk => by rw [u_nk _ _ _ hk]; exact ha.1 k hk, fun p hp => by
      have e1 : a 43 = v1 43 := ha.1 43 (by decide)
      show (if p = i then a 43 (o + 24 + i) else a 7 p) = _
      by_cases c : p = i
      · rw [if_pos c, e1, c]
      · rw [if_neg c]
        exact ha.2 p (by omega)⟩, by
    show f_X7_goBack_L94 N (nI o) (n + 1) (nI i) a = f_X7_goBack_L94 N (nI o) n (nI (i + 1)) _
    rw [f_X7_goBack_L94, if_neg (show ¬ (30 : Int32) ≤ nI i by rw [k30_le (by omega)]; omega), k24_ad, k_add, k_ok (show i < 30 by omega) (by omega), k_ok (show o + 24 + i < 140 by omega) (by omega), k_cl (show i < 2147483648 by omega), k_cl (show o + 24 + i < 2147483648 by omega), k1_ad]
    rfl⟩) (fun n a ha => by
    show f_X7_goBack_L94 N (nI o) (n + 1) (nI 30) a = some a
    rw [f_X7_goBack_L94, if_pos (show (30 : Int32) ≤ nI 30 by decide)]) (by omega : 30 < N) (a := v1) ⟨fun k _ => rfl, fun p hp => by omega⟩
  obtain ⟨v3, c3, d1, d3⟩ := loopC (fun n i a => f_X7_goBack_L125 N (nI o) n (nI i) a) 10 (fun i a => (∀ k, k ≠ 8 → a k = v2 k) ∧ ∀ p, p < i → a 8 p = v2 43 (o + 54 + p)) (fun i a => up1 a 8 i (a 43 (o + 54 + i))) (fun n i a hi ha => ⟨⟨fun k hk => by rw [u_nk _ _ _ hk]; exact ha.1 k hk, fun p hp => by
      have e1 : a 43 = v2 43 := ha.1 43 (by decide)
      show (if p = i then a 43 (o + 54 + i) else a 8 p) = _
      by_cases c : p = i
      · rw [if_pos c, e1, c]
      · rw [if_neg c]
        exact ha.2 p (by omega)⟩, by
    show f_X7_goBack_L125 N (nI o) (n + 1) (nI i) a = f_X7_goBack_L125 N (nI o) n (nI (i + 1)) _
    rw [f_X7_goBack_L125, if_neg (show ¬ (10 : Int32) ≤ nI i by rw [k10_le (by omega)]; omega), k54_ad, k_add, k_ok (show i < 10 by omega) (by omega), k_ok (show o + 54 + i < 140 by omega) (by omega), k_cl (show i < 2147483648 by omega), k_cl (show o + 54 + i < 2147483648 by omega), k1_ad]
    rfl⟩) (fun n a ha => by
    show f_X7_goBack_L125 N (nI o) (n + 1) (nI 10) a = some a
    rw [f_X7_goBack_L125, if_pos (show (10 : Int32) ≤ nI 10 by decide)]) (by omega : 10 < N) (a := v2) ⟨fun k _ => rfl, fun p hp => by omega⟩
  have fr : ∀ k, k ≠ 7 → k ≠ 8 → k ≠ 10 → k ≠ 11 → k ≠ 12 → v3 k = g k := fun k q7 q8 q10 q11 q12 => by rw [d1 k q8, b1 k q7, a1 k q10 q11 q12]
  have f43 : v3 43 = g 43 := fr 43 (by decide) (by decide) (by decide) (by decide) (by decide)
  refine ⟨up1 (up1 (up1 v3 9 0 (v3 43 (o + 64))) 13 0 (v3 43 (o + 65))) 14 0 (v3 43 (o + 66)), ?_, fun k hk => ?_, ?_⟩
  · unfold f_X7_goBack
    rw [hin, k_bs, if_neg (show ¬ (1 : Int32) = 0 by decide), k_ok hj (by omega), k_gd, k_cl (show j < 2147483648 by omega), hk, if_neg (show ¬ (1 : Int32) = 0 by decide), k70_mu, ← ho, show f_X7_goBack_L32 N (nI o) N 0 g = some v1 from c1, k_bs, show f_X7_goBack_L94 N (nI o) N 0 v1 = some v2 from c2, k_bs, show f_X7_goBack_L125 N (nI o) N 0 v2 = some v3 from c3, k_bs, k64_ad, k65_ad, k66_ad, k_ok (show o + 64 < 140 by omega) (by omega), k_ok (show o + 65 < 140 by omega) (by omega), k_ok (show o + 66 < 140 by omega) (by omega), k_cl (show o + 64 < 2147483648 by omega), k_cl (show o + 65 < 2147483648 by omega), k_cl (show o + 66 < 2147483648 by omega)]
    rfl
  · rw [u_nk _ _ _ (by omega), u_nk _ _ _ (by omega), u_nk _ _ _ (by omega)]
    exact fr k (by omega) (by omega) (by omega) (by omega) (by omega)
  · refine ⟨?_, ?_, fun r hr => ?_, ?_, fun p hp => ?_, fun r i hr hi => ?_, fun r hr => ?_, ?_, ?_⟩
    · show v3 1 0 = _
      rw [fr 1 (by decide) (by decide) (by decide) (by decide) (by decide), h2.1, hS.1]
    · show v3 2 0 = _
      rw [fr 2 (by decide) (by decide) (by decide) (by decide) (by decide), h2.2.1, hS.2.1]
    · have hr' : r < d 2 0 := by rw [← hS.2.1]; exact hr
      show v3 3 r = _ ∧ v3 4 r = _ ∧ v3 5 r = _ ∧ v3 6 r = _
      rw [fr 3 (by decide) (by decide) (by decide) (by decide) (by decide), fr 4 (by decide) (by decide) (by decide) (by decide) (by decide), fr 5 (by decide) (by decide) (by decide) (by decide) (by decide), fr 6 (by decide) (by decide) (by decide) (by decide) (by decide)]
      obtain ⟨q1, q2, q3, q4⟩ := hS.2.2 r hr'
      rw [q1, q2, q3, q4]
      exact h2.2.2.1 r hr'
    · show v3 43 (o + 64) = _
      rw [f43]
      exact hM.2.2.2.1
    · show v3 10 p = _ ∧ v3 11 p = _ ∧ v3 12 p = _
      rw [d1 10 (by decide), d1 11 (by decide), d1 12 (by decide), b1 10 (by decide), b1 11 (by decide), b1 12 (by decide)]
      obtain ⟨q1, q2, q3⟩ := a3 p (by omega)
      obtain ⟨z1, z2, z3⟩ := hM.1 p hp
      exact ⟨q1.trans z1, q2.trans z2, q3.trans z3⟩
    · show v3 7 (3 * r + i) = _
      have := (h0.2.1 r hr).2.2.2.2.2
      rw [d1 7 (by decide), b3 _ (by omega), a1 43 (by decide) (by decide) (by decide)]
      exact hM.2.1 r i hr hi
    · show v3 8 r = _
      rw [d3 r (by omega), b1 43 (by decide), a1 43 (by decide) (by decide) (by decide)]
      exact hM.2.2.1 r hr
    · show v3 43 (o + 65) = _
      rw [f43]
      exact hM.2.2.2.2.1
    · show v3 43 (o + 66) = _
      rw [f43]
      exact hM.2.2.2.2.2
theorem CP_sp {t : St_} {d e : Nat → Nat → Nat} (h : CP t d) (hS : SP d e) : CP t e := by
  refine ⟨by rw [hS.1]; exact h.1, by rw [hS.2.1]; exact h.2.1, fun r hr => ?_⟩
  have hr' : r < d 2 0 := by rw [← hS.2.1]; exact hr
  obtain ⟨q1, q2, q3, q4⟩ := hS.2.2 r hr'
  rw [q1, q2, q3, q4]
  exact h.2.2 r hr'
theorem pu_self (a n : Nat) (g u : St_) (H : ∀ k, k < n → u k = g (a + k)) (k : Nat) : pu_ a n g u k = g k := by
  unfold pu_
  by_cases c : a ≤ k ∧ k + 1 ≤ a + n
  · rw [show (Nat.ble a k && Nat.ble (k + 1) (a + n)) = true by rw [Bool.and_eq_true]; exact ⟨Nat.ble_eq_true_of_le c.1, Nat.ble_eq_true_of_le c.2⟩, cond_true, H (k - a) (by omega), show a + (k - a) = k by omega]
  · rw [show (Nat.ble a k && Nat.ble (k + 1) (a + n)) = false from Bool.eq_false_iff.mpr (fun q => by rw [Bool.and_eq_true] at q; exact c ⟨Nat.le_of_ble_eq_true q.1, Nat.le_of_ble_eq_true q.2⟩), cond_false]
theorem pu_no (a n : Nat) (g u : St_) {k : Nat} (h : k < a ∨ a + n ≤ k) : pu_ a n g u k = g k := by
  unfold pu_
  rw [show (Nat.ble a k && Nat.ble (k + 1) (a + n)) = false from Bool.eq_false_iff.mpr (fun q => by
    rw [Bool.and_eq_true] at q
    have := Nat.le_of_ble_eq_true q.1
    have := Nat.le_of_ble_eq_true q.2
    omega), cond_false]
theorem pa_goBack (N : Nat) (hN : 200 < N) : PA_goBack N Rel := by
  intro g1 g2 hR z0
  have hR0 := hR
  obtain ⟨d, w, h0, h1, h2, h3, h4, h5, h6, h7⟩ := hR
  rcases b_image N z0 with ⟨j, hj, rfl, p1, p2⟩ | ⟨p1, p2⟩
  · have none_ : g1 64 j = 0 → g2 44 j = 0 → ∃ (r : Int32) (h1 : St_) (h2 : St_), f_X6_goBack N g1 (nI j) = some (r, h1) ∧ f_X7_goBack N g2 (nI j) = some (r, h2) ∧ Rel h1 h2 := by
      intro q1 q2
      unfold f_X6_goBack f_X7_goBack
      rw [p1, p2, k_ok hj (by omega), k_cl (show j < 2147483648 by omega), q1, q2]
      exact ⟨_, _, _, rfl, rfl, hR0⟩
    rcases (show j = 0 ∨ j = 1 by omega) with rfl | rfl
    · rcases h7.1 with ⟨q1, q2⟩ | ⟨q1, q2, e, w', q3, q4, q5, q6⟩
      · exact none_ q1 q2
      · obtain ⟨h, m1, m2, m3⟩ := m_goBack N hN h2 q3 q4 hj p2 q2 q6
        obtain ⟨Y, c, y1, y2⟩ := c_copy N hN (sh_ 34 g1) (sh_ 46 g1) q4 q5
        unfold f_X6_goBack
        rw [p1, k_bs, if_neg (show ¬ (1 : Int32) = 0 by decide), k_ok hj (by omega), k_gd, k_cl (show 0 < 2147483648 by omega), q1, if_neg (show ¬ (1 : Int32) = 0 by decide), if_pos (show nI 0 = (0 : Int32) from rfl), show f_X3_become N (ca_ 9 (sh_ 34 g1) (sh_ 46 g1)) = some Y from c, k_bs, y1, m1]
        refine ⟨1, _, h, rfl, rfl, Rel_of h3 h4 h5 h6 h7 (fun k hk => ?_) (MF.of m2) q3 q4 ⟨CP_sp h1.1 q3, y2⟩ m3⟩
        rw [pu_no 34 9 _ _ (by omega)]
        exact pu_self 46 9 g1 (sh_ 46 g1) (fun k _ => rfl) k
    · rcases h7.2 with ⟨q1, q2⟩ | ⟨q1, q2, e, w', q3, q4, q5, q6⟩
      · exact none_ q1 q2
      · obtain ⟨h, m1, m2, m3⟩ := m_goBack N hN h2 q3 q4 hj p2 q2 q6
        obtain ⟨Y, c, y1, y2⟩ := c_copy N hN (sh_ 34 g1) (sh_ 55 g1) q4 q5
        unfold f_X6_goBack
        rw [p1, k_bs, if_neg (show ¬ (1 : Int32) = 0 by decide), k_ok hj (by omega), k_gd, k_cl (show 1 < 2147483648 by omega), q1, if_neg (show ¬ (1 : Int32) = 0 by decide), if_neg (show ¬ nI 1 = (0 : Int32) by decide), if_pos (show nI 1 = (1 : Int32) from rfl), show f_X3_become N (ca_ 9 (sh_ 34 g1) (sh_ 55 g1)) = some Y from c, k_bs, y1, m1]
        refine ⟨1, _, h, rfl, rfl, Rel_of h3 h4 h5 h6 h7 (fun k hk => ?_) (MF.of m2) q3 q4 ⟨CP_sp h1.1 q3, y2⟩ m3⟩
        rw [pu_no 34 9 _ _ (by omega)]
        exact pu_self 55 9 g1 (sh_ 55 g1) (fun k _ => rfl) k
  · unfold f_X6_goBack f_X7_goBack
    rw [p1, p2]
    exact ⟨_, _, _, rfl, rfl, hR0⟩
