-- ===== the town that is told =====
theorem Rel_new {g1 g2 h1 h2 : St_} {d e : Nat → Nat → Nat} {w' : Nat → Int32} (h5 : RSe g1 g2 (d 1 0)) (h6 : RBo g1 g2 (d 2 0)) (h7 : RIm g1 g2 d) (c : ∀ k, 46 ≤ k → k ≠ 74 → k ≠ 75 → h1 k = g1 k) (m : ∀ k, 34 ≤ k → h2 k = g2 k) (p : SP d e) (k0 : TD e) (k1 : CT (sh_ 26 h1) e w') (k2 : MT h2 e w') (k3 : RTx h1 h2) (k4 : h1 75 0 = h2 17 0) : Rel h1 h2 := by
  refine ⟨e, w', k0, k1, k2, k3, k4, ?_, ?_, ?_⟩
  · unfold RSe at h5 ⊢
    rw [p.1, c 66 (by decide) (by decide) (by decide), c 67 (by decide) (by decide) (by decide), c 68 (by decide) (by decide) (by decide), c 69 (by decide) (by decide) (by decide), m 35 (by decide), m 36 (by decide), m 37 (by decide), m 38 (by decide)]
    exact h5
  · unfold RBo at h6 ⊢
    rw [p.2.1, c 71 (by decide) (by decide) (by decide), c 72 (by decide) (by decide) (by decide), c 73 (by decide) (by decide) (by decide), m 39 (by decide), m 40 (by decide), m 41 (by decide)]
    exact h6
  · have one : ∀ i oc om, 46 ≤ oc → oc ≤ 55 → RI1 g1 g2 d i oc om → RI1 h1 h2 e i oc om := by
      intro i oc om ho ho2 h
      unfold RI1 at h ⊢
      rw [c 64 (by decide) (by decide) (by decide), m 44 (by decide)]
      rcases h with h | ⟨a1, a2, e', w2, a3, a4, a5, a6⟩
      · exact Or.inl h
      · refine Or.inr ⟨a1, a2, e', w2, ⟨a3.1.trans p.1.symm, a3.2.1.trans p.2.1.symm, fun r hr => ?_⟩, a4, ?_, ?_⟩
        · rw [p.2.1] at hr
          obtain ⟨b1, b2', b3, b4⟩ := a3.2.2 r hr
          obtain ⟨q1, q2, q3, q4⟩ := p.2.2 r hr
          exact ⟨b1.trans q1.symm, b2'.trans q2.symm, b3.trans q3.symm, b4.trans q4.symm⟩
        · have s : ∀ k, k < 10 → sh_ oc h1 k = sh_ oc g1 k := fun k hk => c (oc + k) (by omega) (by omega) (by omega)
          unfold CS at a5 ⊢
          rw [s 1 (by omega), s 2 (by omega), s 3 (by omega), s 4 (by omega), s 5 (by omega), s 6 (by omega), s 7 (by omega), s 8 (by omega)]
          exact a5
        · unfold MI at a6 ⊢
          rw [m 43 (by decide)]
          exact a6
    exact ⟨one 0 46 0 (by omega) (by omega) h7.1, one 1 55 70 (by omega) (by omega) h7.2⟩
theorem c_planB (N : Nat) (hN : 200 < N) (X : St_) : ∃ Y, f_X1_become N X = some Y ∧ (∀ k, 7 ≤ k → Y k = X k) ∧ Y 1 0 = X 8 0 ∧ Y 2 0 = X 9 0 ∧ (∀ r, r < 10 → Y 3 r = X 10 r ∧ Y 4 r = X 11 r ∧ Y 5 r = X 12 r ∧ Y 6 r = X 13 r) := by
  obtain ⟨v, c, a1, a2⟩ := loopC (fun n i a => f_X1_become_L18 N n (nI i) a) 10 (fun i a => (∀ k, k ≠ 3 → k ≠ 4 → k ≠ 5 → k ≠ 6 → a k = up1 (up1 X 1 0 (X 8 0)) 2 0 (X 9 0) k) ∧ ∀ p, p < i → a 3 p = X 10 p ∧ a 4 p = X 11 p ∧ a 5 p = X 12 p ∧ a 6 p = X 13 p) (fun i a => up1 (up1 (up1 (up1 a 3 i (a 10 i)) 4 i (a 11 i)) 5 i (a 12 i)) 6 i (a 13 i)) (fun n i a hi ha => ⟨⟨fun k h3 h4 h5 h6 => by rw [u_nk _ _ _ h6, u_nk _ _ _ h5, u_nk _ _ _ h4, u_nk _ _ _ h3]; exact ha.1 k h3 h4 h5 h6, fun p hp => by
      have e1 : a 10 = X 10 := ha.1 10 (by decide) (by decide) (by decide) (by decide)
      have e2 : a 11 = X 11 := ha.1 11 (by decide) (by decide) (by decide) (by decide)
      have e3 : a 12 = X 12 := ha.1 12 (by decide) (by decide) (by decide) (by decide)
      have e4 : a 13 = X 13 := ha.1 13 (by decide) (by decide) (by decide) (by decide)
      show (if p = i then a 10 i else a 3 p) = X 10 p ∧ (if p = i then a 11 i else a 4 p) = X 11 p ∧ (if p = i then a 12 i else a 5 p) = X 12 p ∧ (if p = i then a 13 i else a 6 p) = X 13 p
      by_cases c : p = i
      · rw [if_pos c, if_pos c, if_pos c, if_pos c, e1, e2, e3, e4, c]
        exact ⟨rfl, rfl, rfl, rfl⟩
      · rw [if_neg c, if_neg c, if_neg c, if_neg c]
        exact ha.2 p (by omega)⟩, by
    show f_X1_become_L18 N (n + 1) (nI i) a = f_X1_become_L18 N n (nI (i + 1)) _
    rw [f_X1_become_L18, if_neg (show ¬ (10 : Int32) ≤ nI i by rw [k10_le (by omega)]; omega), k_ok (show i < 10 by omega) (by omega), k_cl (show i < 2147483648 by omega), k1_ad]
    rfl⟩) (fun n a ha => by
    show f_X1_become_L18 N (n + 1) (nI 10) a = some a
    rw [f_X1_become_L18, if_pos (show (10 : Int32) ≤ nI 10 by decide)]) (by omega : 10 < N) (a := up1 (up1 X 1 0 (X 8 0)) 2 0 (X 9 0)) ⟨fun k _ _ _ _ => rfl, fun p hp => by omega⟩
  refine ⟨v, ?_, fun k hk => ?_, ?_, ?_, a2⟩
  · unfold f_X1_become
    rw [show f_X1_become_L18 N N 0 (up1 (up1 X 1 0 (X 8 0)) 2 0 (X 9 0)) = some v from c, k_bs]
  · rw [a1 k (by omega) (by omega) (by omega) (by omega), u_nk _ _ _ (by omega), u_nk _ _ _ (by omega)]
  · rw [a1 1 (by decide) (by decide) (by decide) (by decide), u_nk _ _ _ (by decide), u_eq]
  · rw [a1 2 (by decide) (by decide) (by decide) (by decide), u_eq]
/-- a town becomes as another that is told -/
theorem c_townB (N : Nat) (hN : 200 < N) (A B : St_) {e : Nat → Nat → Nat} (h0 : TD e) (hB : DG (B 2) (B 3) (B 4) (B 5) (B 6) (B 7) (B 9) (B 10) (B 11) (B 12) (B 13) e) (h13 : A 15 0 = nI (e 13 0)) (h14 : A 16 0 = nI (e 14 0)) : ∃ R, f_X5_becomeTold N (ca_ 19 A B) = some R ∧ CT R e (fun _ => 0) := by
  have hS := h0.1.2.1
  have hE := h0.1.2.2.1
  obtain ⟨Y1, c1, a1, a2, a3, a4⟩ := c_planB N hN (ca_ 7 (sh_ 1 (ca_ 19 A B)) (sh_ 20 (ca_ 19 A B)))
  obtain ⟨Y, eY⟩ : ∃ Y, Y = pu_ 1 7 (pu_ 20 7 (ca_ 19 A B) (sh_ 7 Y1)) Y1 := ⟨_, rfl⟩
  obtain ⟨Y2, c2, b1, b2', b3, b4, b5⟩ := c_bTold N hN (ca_ 9 (sh_ 8 Y) (sh_ 27 Y))
  have y15 : Y 15 = A 15 := by rw [eY]; rfl
  have y16 : Y 16 = A 16 := by rw [eY]; rfl
  have y28 : Y 28 = B 9 := by rw [eY]; rfl
  have y29 : Y 29 = B 10 := by rw [eY]; rfl
  have y30 : Y 30 = B 11 := by rw [eY]; rfl
  have y31 : Y 31 = B 12 := by rw [eY]; rfl
  have y32 : Y 32 = B 13 := by rw [eY]; rfl
  refine ⟨pu_ 8 9 (pu_ 27 9 Y (sh_ 9 Y2)) Y2, ?_, ⟨?_, ?_, fun r hr => ?_⟩, ?_, fun p hp => ?_, fun r i hr hi => ?_, fun r hr => ?_, ?_, ?_⟩
  · unfold f_X5_becomeTold
    rw [c1, k_bs, ← eY, c2, k_bs]
  · show Y 2 0 = nI (e 1 0)
    rw [eY]
    show Y1 1 0 = nI (e 1 0)
    rw [a2]
    exact hB.1
  · show Y 3 0 = nI (e 2 0)
    rw [eY]
    show Y1 2 0 = nI (e 2 0)
    rw [a3]
    exact hB.2.1
  · show Y 4 r = nI (e 3 r) ∧ Y 5 r = nI (e 4 r) ∧ Y 6 r = nI (e 5 r) ∧ Y 7 r = nI (e 6 r)
    rw [eY]
    show Y1 3 r = nI (e 3 r) ∧ Y1 4 r = nI (e 4 r) ∧ Y1 5 r = nI (e 5 r) ∧ Y1 6 r = nI (e 6 r)
    obtain ⟨q1, q2, q3, q4⟩ := a4 r (by omega)
    rw [q1, q2, q3, q4]
    exact hB.2.2.1 r hr
  · show Y2 1 0 = nI (e 9 0)
    rw [b2']
    show Y 28 0 = nI (e 9 0)
    rw [y28]
    exact hB.2.2.2.1
  · show Y2 2 p = nI (e 10 p) ∧ Y2 3 p = nI (e 11 p) ∧ Y2 4 p = nI (e 12 p)
    obtain ⟨q1, q2, q3⟩ := b3 p (by omega)
    rw [q1, q2, q3]
    show Y 29 p = nI (e 10 p) ∧ Y 30 p = nI (e 11 p) ∧ Y 31 p = nI (e 12 p)
    rw [y29, y30, y31]
    exact hB.2.2.2.2.1 p hp
  · show Y2 5 (3 * r + i) = nI (e 7 (3 * r + i))
    have := (h0.2.1 r hr).2.2.2.2.2
    rw [b4 _ (by omega)]
    show Y 32 (3 * r + i) = _
    rw [y32]
    exact hB.2.2.2.2.2 r i hr hi
  · exact b5 r (by omega)
  · show Y2 7 0 = nI (e 13 0)
    rw [b1 7 (by decide)]
    show Y 15 0 = nI (e 13 0)
    rw [y15]
    exact h13
  · show Y2 8 0 = nI (e 14 0)
    rw [b1 8 (by decide)]
    show Y 16 0 = nI (e 14 0)
    rw [y16]
    exact h14
theorem c_forget (N : Nat) (hN : 200 < N) (X : St_) : ∃ Y, f_X6_town_L63 N N 0 X = some Y ∧ (∀ k, k ≠ 64 → Y k = X k) ∧ (∀ x, x < 2 → Y 64 x = 0) := by
  obtain ⟨v, c, a1, a2⟩ := loopC (fun n i a => f_X6_town_L63 N n (nI i) a) 2 (fun i a => (∀ k, k ≠ 64 → a k = X k) ∧ ∀ p, p < i → a 64 p = 0) (fun i a => up1 a 64 i 0) (fun n i a hi ha => ⟨⟨fun k hk => by rw [u_nk _ _ _ hk]; exact ha.1 k hk, fun p hp => by
      show (if p = i then (0 : Int32) else a 64 p) = 0
      by_cases c : p = i
      · rw [if_pos c]
      · rw [if_neg c]; exact ha.2 p (by omega)⟩, by
    show f_X6_town_L63 N (n + 1) (nI i) a = f_X6_town_L63 N n (nI (i + 1)) _
    rw [f_X6_town_L63, if_neg (show ¬ (2 : Int32) ≤ nI i by rw [k2x_le (by omega)]; omega), k_ok (show i < 2 by omega) (by omega), k_cl (show i < 2147483648 by omega), k1_ad]
    rfl⟩) (fun n a ha => by
    show f_X6_town_L63 N (n + 1) (nI 2) a = some a
    rw [f_X6_town_L63, if_pos (show (2 : Int32) ≤ nI 2 by decide)]) (by omega : 2 < N) (a := X) ⟨fun k _ => rfl, fun p hp => by omega⟩
  exact ⟨v, c, a1, a2⟩
theorem m_townB (N : Nat) (hN : 200 < N) (X : St_) (t : Int64) : ∃ Y1 Y2 Y, f_X7_town_L86 N t N 0 X = some Y1 ∧ f_X7_town_L155 N t N 0 Y1 = some Y2 ∧ f_X7_town_L181 N t N 0 Y2 = some Y ∧ (∀ k, k ≠ 3 → k ≠ 4 → k ≠ 5 → k ≠ 6 → k ≠ 7 → k ≠ 8 → k ≠ 10 → k ≠ 11 → k ≠ 12 → Y k = X k) ∧ (∀ r, r < 10 → Y 3 r = X 25 r ∧ Y 4 r = X 26 r ∧ Y 5 r = X 27 r ∧ Y 6 r = X 28 r ∧ Y 8 r = 0) ∧ (∀ x, x < 30 → Y 7 x = X 29 x) ∧ (∀ p, p < 8 → Y 10 p = X 31 p ∧ Y 11 p = X 32 p ∧ Y 12 p = X 33 p) := by
  obtain ⟨v1, c1, a1, a2⟩ := loopC (fun n i a => f_X7_town_L86 N t n (nI i) a) 10 (fun i a => (∀ k, k ≠ 3 → k ≠ 4 → k ≠ 5 → k ≠ 6 → k ≠ 8 → a k = X k) ∧ ∀ p, p < i → a 3 p = X 25 p ∧ a 4 p = X 26 p ∧ a 5 p = X 27 p ∧ a 6 p = X 28 p ∧ a 8 p = 0) (fun i a => up1 (up1 (up1 (up1 (up1 a 3 i (a 25 i)) 4 i (a 26 i)) 5 i (a 27 i)) 6 i (a 28 i)) 8 i 0) (fun n i a hi ha => ⟨⟨fun k h3 h4 h5 h6 h8 => by rw [u_nk _ _ _ h8, u_nk _ _ _ h6, u_nk _ _ _ h5, u_nk _ _ _ h4, u_nk _ _ _ h3]; exact ha.1 k h3 h4 h5 h6 h8, fun p hp => by
      have e1 : a 25 = X 25 := ha.1 25 (by decide) (by decide) (by decide) (by decide) (by decide)
      have e2 : a 26 = X 26 := ha.1 26 (by decide) (by decide) (by decide) (by decide) (by decide)
      have e3 : a 27 = X 27 := ha.1 27 (by decide) (by decide) (by decide) (by decide) (by decide)
      have e4 : a 28 = X 28 := ha.1 28 (by decide) (by decide) (by decide) (by decide) (by decide)
      show (if p = i then a 25 i else a 3 p) = X 25 p ∧ (if p = i then a 26 i else a 4 p) = X 26 p ∧ (if p = i then a 27 i else a 5 p) = X 27 p ∧ (if p = i then a 28 i else a 6 p) = X 28 p ∧ (if p = i then (0 : Int32) else a 8 p) = 0
      by_cases c : p = i
      · rw [if_pos c, if_pos c, if_pos c, if_pos c, if_pos c, e1, e2, e3, e4, c]
        exact ⟨rfl, rfl, rfl, rfl, rfl⟩
      · rw [if_neg c, if_neg c, if_neg c, if_neg c, if_neg c]
        exact ha.2 p (by omega)⟩, by
    show f_X7_town_L86 N t (n + 1) (nI i) a = f_X7_town_L86 N t n (nI (i + 1)) _
    rw [f_X7_town_L86, if_neg (show ¬ (10 : Int32) ≤ nI i by rw [k10_le (by omega)]; omega), k_ok (show i < 10 by omega) (by omega), k_cl (show i < 2147483648 by omega), k1_ad]
    rfl⟩) (fun n a ha => by
    show f_X7_town_L86 N t (n + 1) (nI 10) a = some a
    rw [f_X7_town_L86, if_pos (show (10 : Int32) ≤ nI 10 by decide)]) (by omega : 10 < N) (a := X) ⟨fun k _ _ _ _ _ => rfl, fun p hp => by omega⟩
  obtain ⟨v2, c2, b1, b2'⟩ := loopC (fun n i a => f_X7_town_L155 N t n (nI i) a) 30 (fun i a => (∀ k, k ≠ 7 → a k = v1 k) ∧ ∀ p, p < i → a 7 p = v1 29 p) (fun i a => up1 a 7 i (a 29 i)) (fun n i a hi ha => ⟨⟨fun k hk => by rw [u_nk _ _ _ hk]; exact ha.1 k hk, fun p hp => by
      have e1 : a 29 = v1 29 := ha.1 29 (by decide)
      show (if p = i then a 29 i else a 7 p) = v1 29 p
      by_cases c : p = i
      · rw [if_pos c, e1, c]
      · rw [if_neg c]; exact ha.2 p (by omega)⟩, by
    show f_X7_town_L155 N t (n + 1) (nI i) a = f_X7_town_L155 N t n (nI (i + 1)) _
    rw [f_X7_town_L155, if_neg (show ¬ (30 : Int32) ≤ nI i by rw [k30_le (by omega)]; omega), k_ok (show i < 30 by omega) (by omega), k_cl (show i < 2147483648 by omega), k1_ad]
    rfl⟩) (fun n a ha => by
    show f_X7_town_L155 N t (n + 1) (nI 30) a = some a
    rw [f_X7_town_L155, if_pos (show (30 : Int32) ≤ nI 30 by decide)]) (by omega : 30 < N) (a := v1) ⟨fun k _ => rfl, fun p hp => by omega⟩
  obtain ⟨v3, c3, d1, d2⟩ := loopC (fun n i a => f_X7_town_L181 N t n (nI i) a) 8 (fun i a => (∀ k, k ≠ 10 → k ≠ 11 → k ≠ 12 → a k = v2 k) ∧ ∀ p, p < i → a 10 p = v2 31 p ∧ a 11 p = v2 32 p ∧ a 12 p = v2 33 p) (fun i a => up1 (up1 (up1 a 10 i (a 31 i)) 11 i (a 32 i)) 12 i (a 33 i)) (fun n i a hi ha => ⟨⟨fun k h1 h2 h3 => by rw [u_nk _ _ _ h3, u_nk _ _ _ h2, u_nk _ _ _ h1]; exact ha.1 k h1 h2 h3, fun p hp => by
      have e1 : a 31 = v2 31 := ha.1 31 (by decide) (by decide) (by decide)
      have e2 : a 32 = v2 32 := ha.1 32 (by decide) (by decide) (by decide)
      have e3 : a 33 = v2 33 := ha.1 33 (by decide) (by decide) (by decide)
      show (if p = i then a 31 i else a 10 p) = v2 31 p ∧ (if p = i then a 32 i else a 11 p) = v2 32 p ∧ (if p = i then a 33 i else a 12 p) = v2 33 p
      by_cases c : p = i
      · rw [if_pos c, if_pos c, if_pos c, e1, e2, e3, c]
        exact ⟨rfl, rfl, rfl⟩
      · rw [if_neg c, if_neg c, if_neg c]
        exact ha.2 p (by omega)⟩, by
    show f_X7_town_L181 N t (n + 1) (nI i) a = f_X7_town_L181 N t n (nI (i + 1)) _
    rw [f_X7_town_L181, if_neg (show ¬ (8 : Int32) ≤ nI i by rw [k8_le (by omega)]; omega), k_ok (show i < 8 by omega) (by omega), k_cl (show i < 2147483648 by omega), k1_ad]
    rfl⟩) (fun n a ha => by
    show f_X7_town_L181 N t (n + 1) (nI 8) a = some a
    rw [f_X7_town_L181, if_pos (show (8 : Int32) ≤ nI 8 by decide)]) (by omega : 8 < N) (a := v2) ⟨fun k _ _ _ => rfl, fun p hp => by omega⟩
  refine ⟨v1, v2, v3, c1, c2, c3, fun k h3 h4 h5 h6 h7 h8 h10 h11 h12 => ?_, fun r hr => ?_, fun x hx => ?_, fun p hp => ?_⟩
  · rw [d1 k h10 h11 h12, b1 k h7, a1 k h3 h4 h5 h6 h8]
  · rw [d1 3 (by decide) (by decide) (by decide), b1 3 (by decide), d1 4 (by decide) (by decide) (by decide), b1 4 (by decide), d1 5 (by decide) (by decide) (by decide), b1 5 (by decide), d1 6 (by decide) (by decide) (by decide), b1 6 (by decide), d1 8 (by decide) (by decide) (by decide), b1 8 (by decide)]
    exact a2 r hr
  · rw [d1 7 (by decide) (by decide) (by decide), b2' x hx, a1 29 (by decide) (by decide) (by decide) (by decide) (by decide)]
  · obtain ⟨q1, q2, q3⟩ := d2 p hp
    rw [q1, q2, q3, b1 31 (by decide), b1 32 (by decide), b1 33 (by decide), a1 31 (by decide) (by decide) (by decide) (by decide) (by decide), a1 32 (by decide) (by decide) (by decide) (by decide) (by decide), a1 33 (by decide) (by decide) (by decide) (by decide) (by decide)]
    exact ⟨rfl, rfl, rfl⟩
def eZ (d : Nat → Nat → Nat) : Nat → Nat → Nat := fun k => bif Nat.beq k 13 then d 13 else bif Nat.beq k 14 then d 14 else fun _ => 0
theorem TD_eZ {d : Nat → Nat → Nat} (h0 : TD d) : TD (eZ d) := ⟨⟨Nat.zero_le _, Nat.zero_le _, Nat.zero_le _, h0.1.2.2.2⟩, fun r h => absurd h (Nat.not_lt_zero _), fun r i h => absurd h (Nat.not_lt_zero _), fun r h => absurd h (Nat.not_lt_zero _)⟩
set_option maxHeartbeats 4000000 in
theorem pa_town (N : Nat) (hN : 1000 < N) : PA_town N Rel := by
  intro g1 g2 sg hR
  obtain ⟨d, w, h0, h1, h2, ⟨T, hT, t1, t2, t3⟩, h4, h5, h6, h7⟩ := hR
  obtain ⟨tx, etx⟩ : ∃ tx : Nat → Nat, tx = fun i => (g2 15 i).toNatClampNeg := ⟨_, rfl⟩
  have hx : ∀ i, i < T → tx i < 256 ∧ g1 24 i = bb (tx i) ∧ g2 15 i = nI (tx i) := fun i hi => by
    obtain ⟨b, q1, q2, q3⟩ := t3 i hi
    have : tx i = b := by rw [etx]; show (g2 15 i).toNatClampNeg = b; rw [q3, k_cl (by omega)]
    rw [this]
    exact ⟨q1, q2, q3⟩
  have hTX : TX T tx := ⟨hT, fun i hi => (hx i hi).1⟩
  obtain ⟨c0, ec0⟩ : ∃ c0, c0 = up1 (up1 (up1 (pu_ 4 19 (sh_ 1 g1) (up1 (up1 (up1 (sh_ 4 (sh_ 1 g1)) 2 0 (0 : Int32)) 3 0 (0 : Int32)) 9 0 (0 : Int32))) 24 0 (0 : Int32)) 2 0 (0 : Int32)) 3 0 (-1 : Int32) := ⟨_, rfl⟩
  obtain ⟨m0, em0⟩ : ∃ m0, m0 = up1 (up1 (up1 (up1 (up1 g2 17 0 (-1 : Int32)) 18 0 (0 : Int32)) 23 0 (0 : Int32)) 24 0 (0 : Int32)) 30 0 (0 : Int32) := ⟨_, rfl⟩
  have x1 : c0 1 = g1 2 := by rw [ec0]; rfl
  have x23 : c0 23 = g1 24 := by rw [ec0]; rfl
  have hc0 : TC c0 T tx := ⟨by rw [x1]; exact t1, fun i hi => by rw [x23]; exact (hx i hi).2.1⟩
  have fm0 : ∀ k, k ≠ 17 → k ≠ 18 → k ≠ 23 → k ≠ 24 → k ≠ 30 → m0 k = g2 k := fun k q1 q2 q3 q4 q5 => by rw [em0, u_nk _ _ _ q5, u_nk _ _ _ q4, u_nk _ _ _ q3, u_nk _ _ _ q2, u_nk _ _ _ q1]
  have hm0 : TM m0 T tx := ⟨by rw [fm0 16 (by decide) (by decide) (by decide) (by decide) (by decide)]; exact t2, fun i hi => by rw [fm0 15 (by decide) (by decide) (by decide) (by decide) (by decide)]; exact (hx i hi).2.2⟩
  have nz : ∀ {P : Prop} (r : Nat), r < eZ d 2 0 → P := fun r h => absurd h (Nat.not_lt_zero _)
  have nz9 : ∀ {P : Prop} (r : Nat), r < eZ d 9 0 → P := fun r h => absurd h (Nat.not_lt_zero _)
  have hC0 : DC c0 (eZ d) := ⟨by rw [ec0]; rfl, by rw [ec0]; rfl, fun r h => nz r h, by rw [ec0]; rfl, fun r h => nz9 r h, fun r i h _ => nz r h⟩
  have hM0 : DM m0 (eZ d) := ⟨by rw [em0]; rfl, by rw [em0]; rfl, fun r h => nz r h, by rw [em0]; rfl, fun r h => nz9 r h, fun r i h _ => nz r h⟩
  obtain ⟨c', f, m', sg', E1, E2, E3, E4⟩ := reads N hN hTX N 0 0 c0 m0 (eZ d) sg (Nat.le_refl _) (Nat.zero_le _) (by omega) hc0 hm0 (by rw [ec0]; rfl) (by rw [em0]; rfl) (by rw [ec0]; rfl) (TD_eZ h0) hC0 hM0
  have m017 : m0 17 0 = -1 := by rw [em0]; rfl
  have fm' : ∀ k, k < 15 ∨ 34 ≤ k → m' k = g2 k := fun k hk => by rw [E3 k (by omega), fm0 k (by omega) (by omega) (by omega) (by omega) (by omega)]
  unfold f_X6_town f_X7_town f_X4_read f_X5_clear
  rw [k_bs, ← ec0, ← em0, show f_X4_read_L24 N N 0 c0 = _ from E1, E2, k_bs, k_bs]
  dsimp only
  rcases E4 with ⟨rfl, o1, o2, e, o3, o4, o5, o6, o7⟩ | ⟨k, rfl, o1⟩
  · rw [if_pos o1, k_bs]
    dsimp only
    rw [if_neg (show ¬ (1 : Int32) = 0 by decide), if_pos (show (0 : Int32) ≤ 0 by decide)]
    have e13 : e 13 0 = d 13 0 := congrFun o6 0
    have e14 : e 14 0 = d 14 0 := congrFun o7 0
    obtain ⟨G, eG⟩ : ∃ G, G = up1 (up1 (pu_ 1 25 g1 c') 2 0 (0 : Int32)) 75 0 (-1 : Int32) := ⟨_, rfl⟩
    rw [← eG]
    obtain ⟨R, r1, r2⟩ := c_townB N (by omega) (sh_ 26 G) (sh_ 5 G) o3 (by rw [eG]; exact o4) (by rw [eG, e13]; exact h1.2.2.2.2.2.1) (by rw [eG, e14]; exact h1.2.2.2.2.2.2)
    obtain ⟨G2, eG2⟩ : ∃ G2, G2 = pu_ 26 19 (pu_ 5 19 G (sh_ 19 R)) R := ⟨_, rfl⟩
    obtain ⟨v, s1, s2, s3⟩ := c_forget N (by omega) G2
    obtain ⟨M0, eM0⟩ : ∃ M0, M0 = up1 (up1 (up1 (up1 m' 16 0 (0 : Int32)) 1 0 (m' 23 0)) 2 0 (m' 24 0)) 9 0 (m' 30 0) := ⟨_, rfl⟩
    obtain ⟨Y1, Y2, Y, u1, u2, u3, u4, u5, u6, u7⟩ := m_townB N (by omega) M0 sg'
    rw [r1, k_bs, ← eG2, s1, k_bs, ← eM0, u1, k_bs, u2, k_bs, u3, k_bs]
    have ok0 : okI (0 : Int32) 2 = true := by decide
    have ok1 : okI (1 : Int32) 2 = true := by decide
    rw [ok0, ok1, k_gd, k_gd]
    have gR : ∀ k, k < 19 → G2 (26 + k) = R k := fun k hk => by rw [eG2, pu_in 26 19 _ _ (by omega) (by omega), show 26 + k - 26 = k by omega]
    have hS := o3.1.2.1
    have hE := o3.1.2.2.1
    have fY : ∀ k, k = 16 ∨ k = 17 ∨ k = 13 ∨ k = 14 → Y k = M0 k := fun k hk => u4 k (by omega) (by omega) (by omega) (by omega) (by omega) (by omega) (by omega) (by omega) (by omega)
    have v28 : v 28 0 = nI (e 1 0) := by
      rw [s2 28 (by decide)]
      exact (congrFun (gR 2 (by decide)) 0).trans r2.1.1
    have y1 : Y 1 0 = nI (e 1 0) := by
      rw [u4 1 (by decide) (by decide) (by decide) (by decide) (by decide) (by decide) (by decide) (by decide) (by decide), eM0]
      exact o5.1
    rw [v28, y1]
    refine ⟨nI (e 1 0), _, _, _, rfl, rfl, e, fun _ => 0, o3, ?_, ?_, ⟨0, by decide, ?_, ?_, fun i h => absurd h (Nat.not_lt_zero _)⟩, ?_, ⟨0, by decide, rfl, rfl, fun i h => absurd h (Nat.not_lt_zero _)⟩, ⟨0, by decide, rfl, rfl, fun i h => absurd h (Nat.not_lt_zero _)⟩, Or.inl ⟨?_, rfl⟩, Or.inl ⟨?_, rfl⟩⟩
    · refine CT_congr (t := R) (fun k hk => ?_) r2
      show up1 (up1 v 66 0 0) 71 0 0 (26 + k) = R k
      rw [u_nk _ _ _ (by omega), u_nk _ _ _ (by omega), s2 (26 + k) (by omega)]
      exact gR k (by omega)
    · refine ⟨y1, ?_, fun r hr => ?_, ?_, fun p hp => ?_, fun r i hr hi => ?_, fun r hr => ?_, ?_, ?_⟩
      · show Y 2 0 = nI (e 2 0)
        rw [u4 2 (by decide) (by decide) (by decide) (by decide) (by decide) (by decide) (by decide) (by decide) (by decide), eM0]
        exact o5.2.1
      · show Y 3 r = nI (e 3 r) ∧ Y 4 r = nI (e 4 r) ∧ Y 5 r = nI (e 5 r) ∧ Y 6 r = nI (e 6 r)
        obtain ⟨q1, q2, q3, q4, q5⟩ := u5 r (by omega)
        rw [q1, q2, q3, q4, eM0]
        exact o5.2.2.1 r hr
      · show Y 9 0 = nI (e 9 0)
        rw [u4 9 (by decide) (by decide) (by decide) (by decide) (by decide) (by decide) (by decide) (by decide) (by decide), eM0]
        exact o5.2.2.2.1
      · show Y 10 p = nI (e 10 p) ∧ Y 11 p = nI (e 11 p) ∧ Y 12 p = nI (e 12 p)
        obtain ⟨q1, q2, q3⟩ := u7 p (by omega)
        rw [q1, q2, q3, eM0]
        exact o5.2.2.2.2.1 p hp
      · show Y 7 (3 * r + i) = nI (e 7 (3 * r + i))
        have := (o3.2.1 r hr).2.2.2.2.2
        rw [u6 _ (by omega), eM0]
        exact o5.2.2.2.2.2 r i hr hi
      · exact (u5 r (by omega)).2.2.2.2
      · show Y 13 0 = nI (e 13 0)
        rw [fY 13 (by omega), e13, eM0]
        show m' 13 0 = nI (d 13 0)
        rw [fm' 13 (by omega)]
        exact h2.2.2.2.2.2.2.2.1
      · show Y 14 0 = nI (e 14 0)
        rw [fY 14 (by omega), e14, eM0]
        show m' 14 0 = nI (d 14 0)
        rw [fm' 14 (by omega)]
        exact h2.2.2.2.2.2.2.2.2
    · show v 2 0 = nI 0
      rw [s2 2 (by decide), eG2, pu_no 26 19 _ _ (by decide), pu_no 5 19 _ _ (by decide), eG]
      rfl
    · show Y 16 0 = nI 0
      rw [fY 16 (by omega), eM0]
      rfl
    · show v 75 0 = Y 17 0
      rw [s2 75 (by decide), eG2, pu_no 26 19 _ _ (by decide), pu_no 5 19 _ _ (by decide), eG, u_eq, fY 17 (by omega), eM0]
      show (-1 : Int32) = m' 17 0
      rw [o2, m017]
    · show v 64 0 = 0
      exact s3 0 (by decide)
    · show v 64 1 = 0
      exact s3 1 (by decide)
  · rw [if_neg (show ¬ c' 2 0 = 0 by rw [o1.2.2.1, k_e0 (by have := o1.2.1; omega)]; have := o1.1; omega), k_bs]
    dsimp only
    rw [if_pos rfl, if_neg (k_kz o1.1 o1.2.1), o1.2.2.1]
    refine ⟨_, _, _, _, rfl, rfl, Rel_new h5 h6 h7 (fun k q1 q2 q3 => ?_) (fun k hk => ?_) (SP.rf d) h0 (CT_congr (t := sh_ 26 g1) (fun k hk => ?_) h1) (MT_congr (fun k hk => ?_) h2) ⟨0, by decide, ?_, ?_, fun i h => absurd h (Nat.not_lt_zero _)⟩ ?_⟩
    · rw [u_nk _ _ _ q3, u_nk _ _ _ (by omega), pu_no 1 25 _ _ (by omega)]
    · rw [u_nk _ _ _ (by omega)]; exact fm' k (Or.inr hk)
    · show up1 (up1 (pu_ 1 25 g1 c') 2 0 0) 75 0 (c' 3 0) (26 + k) = g1 (26 + k)
      rw [u_nk _ _ _ (by omega), u_nk _ _ _ (by omega), pu_no 1 25 _ _ (by omega)]
    · rw [u_nk _ _ _ (by omega)]; exact fm' k (Or.inl hk)
    · rw [u_nk _ _ _ (by decide), u_eq]; rfl
    · rw [u_eq]; rfl
    · rw [u_eq, u_nk _ _ _ (by decide)]; exact o1.2.2.2
