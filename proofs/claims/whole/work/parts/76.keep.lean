-- ===== images =====
theorem loopC (F : Nat → Nat → St_ → Option St_) (E : Nat) (P : Nat → St_ → Prop) (st : Nat → St_ → St_) (hs : ∀ n i a, i < E → P i a → P (i + 1) (st i a) ∧ F (n + 1) i a = F n (i + 1) (st i a)) (he : ∀ n a, P E a → F (n + 1) E a = some a) {N : Nat} (hN : E < N) {a : St_} (h0 : P 0 a) : ∃ o, F N 0 a = some o ∧ P E o :=
  let h := loopA F E st id P hs he N a hN h0
  ⟨_, h.1, h.2⟩
theorem c_bTold (N : Nat) (hN : 200 < N) (X : St_) : ∃ Y, f_X3_becomeTold N X = some Y ∧ (∀ k, 7 ≤ k → Y k = X k) ∧ Y 1 0 = X 10 0 ∧ (∀ p, p < 8 → Y 2 p = X 11 p ∧ Y 3 p = X 12 p ∧ Y 4 p = X 13 p) ∧ (∀ i, i < 30 → Y 5 i = X 14 i) ∧ (∀ r, r < 10 → Y 6 r = 0) := by
  obtain ⟨v1, c1, a1, a2⟩ := loopC (fun n i a => f_X3_becomeTold_L10 N n (nI i) a) 8 (fun i a => (∀ k, k ≠ 2 → k ≠ 3 → k ≠ 4 → a k = up1 X 1 0 (X 10 0) k) ∧ ∀ p, p < i → a 2 p = X 11 p ∧ a 3 p = X 12 p ∧ a 4 p = X 13 p) (fun i a => up1 (up1 (up1 a 2 i (a 11 i)) 3 i (a 12 i)) 4 i (a 13 i)) (fun n i a hi ha => ⟨⟨fun k h2 h3 h4 => by rw [u_nk _ _ _ h4, u_nk _ _ _ h3, u_nk _ _ _ h2]; exact ha.1 k h2 h3 h4, fun p hp => by
      have e1 : a 11 = X 11 := ha.1 11 (by decide) (by decide) (by decide)
      have e2 : a 12 = X 12 := ha.1 12 (by decide) (by decide) (by decide)
      have e3 : a 13 = X 13 := ha.1 13 (by decide) (by decide) (by decide)
      show (if p = i then a 11 i else a 2 p) = X 11 p ∧ (if p = i then a 12 i else a 3 p) = X 12 p ∧ (if p = i then a 13 i else a 4 p) = X 13 p
      by_cases c : p = i
      · rw [if_pos c, if_pos c, if_pos c, e1, e2, e3, c]
        exact ⟨rfl, rfl, rfl⟩
      · rw [if_neg c, if_neg c, if_neg c]
        exact ha.2 p (by omega)⟩, by
    show f_X3_becomeTold_L10 N (n + 1) (nI i) a = f_X3_becomeTold_L10 N n (nI (i + 1)) _
    rw [f_X3_becomeTold_L10, if_neg (show ¬ (8 : Int32) ≤ nI i by rw [k8_le (by omega)]; omega), k_ok (show i < 8 by omega) (by omega), k_cl (show i < 2147483648 by omega), k1_ad]
    rfl⟩) (fun n a ha => by
    show f_X3_becomeTold_L10 N (n + 1) (nI 8) a = some a
    rw [f_X3_becomeTold_L10, if_pos (show (8 : Int32) ≤ nI 8 by decide)]) (by omega : 8 < N) (a := up1 X 1 0 (X 10 0)) ⟨fun k _ _ _ => rfl, fun p hp => by omega⟩
  obtain ⟨v2, c2, b1, b2'⟩ := loopC (fun n i a => f_X3_becomeTold_L60 N n (nI i) a) 30 (fun i a => (∀ k, k ≠ 5 → a k = v1 k) ∧ ∀ p, p < i → a 5 p = v1 14 p) (fun i a => up1 a 5 i (a 14 i)) (fun n i a hi ha => ⟨⟨fun k hk => by rw [u_nk _ _ _ hk]; exact ha.1 k hk, fun p hp => by
      have e1 : a 14 = v1 14 := ha.1 14 (by decide)
      show (if p = i then a 14 i else a 5 p) = v1 14 p
      by_cases c : p = i
      · rw [if_pos c, e1, c]
      · rw [if_neg c]; exact ha.2 p (by omega)⟩, by
    show f_X3_becomeTold_L60 N (n + 1) (nI i) a = f_X3_becomeTold_L60 N n (nI (i + 1)) _
    rw [f_X3_becomeTold_L60, if_neg (show ¬ (30 : Int32) ≤ nI i by rw [k30_le (by omega)]; omega), k_ok (show i < 30 by omega) (by omega), k_cl (show i < 2147483648 by omega), k1_ad]
    rfl⟩) (fun n a ha => by
    show f_X3_becomeTold_L60 N (n + 1) (nI 30) a = some a
    rw [f_X3_becomeTold_L60, if_pos (show (30 : Int32) ≤ nI 30 by decide)]) (by omega : 30 < N) (a := v1) ⟨fun k _ => rfl, fun p hp => by omega⟩
  obtain ⟨v3, c3, d1, d2⟩ := loopC (fun n i a => f_X3_becomeTold_L86 N n (nI i) a) 10 (fun i a => (∀ k, k ≠ 6 → a k = v2 k) ∧ ∀ p, p < i → a 6 p = 0) (fun i a => up1 a 6 i 0) (fun n i a hi ha => ⟨⟨fun k hk => by rw [u_nk _ _ _ hk]; exact ha.1 k hk, fun p hp => by
      show (if p = i then (0 : Int32) else a 6 p) = 0
      by_cases c : p = i
      · rw [if_pos c]
      · rw [if_neg c]; exact ha.2 p (by omega)⟩, by
    show f_X3_becomeTold_L86 N (n + 1) (nI i) a = f_X3_becomeTold_L86 N n (nI (i + 1)) _
    rw [f_X3_becomeTold_L86, if_neg (show ¬ (10 : Int32) ≤ nI i by rw [k10_le (by omega)]; omega), k_ok (show i < 10 by omega) (by omega), k_cl (show i < 2147483648 by omega), k1_ad]
    rfl⟩) (fun n a ha => by
    show f_X3_becomeTold_L86 N (n + 1) (nI 10) a = some a
    rw [f_X3_becomeTold_L86, if_pos (show (10 : Int32) ≤ nI 10 by decide)]) (by omega : 10 < N) (a := v2) ⟨fun k _ => rfl, fun p hp => by omega⟩
  refine ⟨v3, ?_, fun k hk => ?_, ?_, fun p hp => ?_, fun i hi => ?_, d2⟩
  · unfold f_X3_becomeTold
    rw [show f_X3_becomeTold_L10 N N 0 (up1 X 1 0 (X 10 0)) = some v1 from c1, k_bs, show f_X3_becomeTold_L60 N N 0 v1 = some v2 from c2, k_bs, show f_X3_becomeTold_L86 N N 0 v2 = some v3 from c3, k_bs]
  · rw [d1 k (by omega), b1 k (by omega), a1 k (by omega) (by omega) (by omega), u_nk _ _ _ (by omega)]
  · rw [d1 1 (by decide), b1 1 (by decide), a1 1 (by decide) (by decide) (by decide), u_eq]
  · rw [d1 2 (by decide), b1 2 (by decide), d1 3 (by decide), b1 3 (by decide), d1 4 (by decide), b1 4 (by decide)]
    exact a2 p hp
  · rw [d1 5 (by decide), b2' i hi, a1 14 (by decide) (by decide) (by decide), u_nk _ _ _ (by decide)]
theorem c_become (N : Nat) (hN : 200 < N) (X : St_) : ∃ Y, f_X3_become N X = some Y ∧ (∀ k, 9 ≤ k → Y k = X k) ∧ Y 1 0 = X 10 0 ∧ (∀ p, p < 8 → Y 2 p = X 11 p ∧ Y 3 p = X 12 p ∧ Y 4 p = X 13 p) ∧ (∀ i, i < 30 → Y 5 i = X 14 i) ∧ (∀ r, r < 10 → Y 6 r = X 15 r) ∧ Y 7 0 = X 16 0 ∧ Y 8 0 = X 17 0 := by
  obtain ⟨v, c, a1, a2, a3, a4, a5⟩ := c_bTold N hN X
  obtain ⟨u, c2, b1, b2'⟩ := loopC (fun n i a => f_X3_become_L7 N n (nI i) a) 10 (fun i a => (∀ k, k ≠ 6 → a k = v k) ∧ ∀ p, p < i → a 6 p = v 15 p) (fun i a => up1 a 6 i (a 15 i)) (fun n i a hi ha => ⟨⟨fun k hk => by rw [u_nk _ _ _ hk]; exact ha.1 k hk, fun p hp => by
      have e1 : a 15 = v 15 := ha.1 15 (by decide)
      show (if p = i then a 15 i else a 6 p) = v 15 p
      by_cases c : p = i
      · rw [if_pos c, e1, c]
      · rw [if_neg c]; exact ha.2 p (by omega)⟩, by
    show f_X3_become_L7 N (n + 1) (nI i) a = f_X3_become_L7 N n (nI (i + 1)) _
    rw [f_X3_become_L7, if_neg (show ¬ (10 : Int32) ≤ nI i by rw [k10_le (by omega)]; omega), k_ok (show i < 10 by omega) (by omega), k_cl (show i < 2147483648 by omega), k1_ad]
    rfl⟩) (fun n a ha => by
    show f_X3_become_L7 N (n + 1) (nI 10) a = some a
    rw [f_X3_become_L7, if_pos (show (10 : Int32) ≤ nI 10 by decide)]) (by omega : 10 < N) (a := v) ⟨fun k _ => rfl, fun p hp => by omega⟩
  refine ⟨up1 (up1 u 7 0 (u 16 0)) 8 0 (u 17 0), ?_, fun k hk => ?_, ?_, fun p hp => ?_, fun i hi => ?_, fun r hr => ?_, ?_, ?_⟩
  · unfold f_X3_become
    rw [c, k_bs, show f_X3_become_L7 N N 0 v = some u from c2, k_bs]
  · rw [u_nk _ _ _ (by omega), u_nk _ _ _ (by omega), b1 k (by omega), a1 k (by omega)]
  · show u 1 0 = _
    rw [b1 1 (by decide), a2]
  · show u 2 p = _ ∧ u 3 p = _ ∧ u 4 p = _
    rw [b1 2 (by decide), b1 3 (by decide), b1 4 (by decide)]
    exact a3 p hp
  · show u 5 i = _
    rw [b1 5 (by decide), a4 i hi]
  · show u 6 r = _
    rw [b2' r hr, a1 15 (by decide)]
  · show u 16 0 = _
    rw [b1 16 (by decide), a1 16 (by decide)]
  · show u 17 0 = _
    rw [b1 17 (by decide), a1 17 (by decide)]
theorem ca_9 (a b : St_) : sh_ 9 (ca_ 9 a b) = b := by
  funext k
  unfold sh_ ca_
  have : Nat.ble 9 (9 + k) = true := Nat.ble_eq_true_of_le (by omega)
  rw [this, cond_true, Nat.add_sub_cancel_left]
/-- what becomes of a block that becomes as another -/
theorem c_copy (N : Nat) (hN : 200 < N) (A B : St_) {d : Nat → Nat → Nat} {w : Nat → Int32} (h0 : TD d) (hB : CS B d w) : ∃ Y, f_X3_become N (ca_ 9 A B) = some Y ∧ sh_ 9 Y = B ∧ CS Y d w := by
  obtain ⟨Y, c, y0, y1, y2, y3, y4, y5, y6⟩ := c_become N hN (ca_ 9 A B)
  have hE := h0.1.2.2.1
  have hS := h0.1.2.1
  refine ⟨Y, c, ?_, y1.trans hB.1, fun p hp => ?_, fun r i hr hi => ?_, fun r hr => ?_, y5.trans hB.2.2.2.2.1, y6.trans hB.2.2.2.2.2⟩
  · rw [← ca_9 A B]
    funext k
    exact y0 (9 + k) (by omega)
  · obtain ⟨q1, q2, q3⟩ := y2 p (by omega)
    obtain ⟨z1, z2, z3⟩ := hB.2.1 p hp
    exact ⟨q1.trans z1, q2.trans z2, q3.trans z3⟩
  · have := (h0.2.1 r hr).2.2.2.2.2
    exact (y3 (3 * r + i) (by omega)).trans (hB.2.2.1 r i hr hi)
  · exact (y4 r (by omega)).trans (hB.2.2.2.1 r hr)
theorem b_image (N : Nat) (x : Int32) : (∃ j, j < 2 ∧ x = nI j ∧ f_X6_isImage N x = some 1 ∧ f_X7_in N x.toInt64 (0 : Int64) (1 : Int64) = some 1) ∨ (f_X6_isImage N x = some 0 ∧ f_X7_in N x.toInt64 (0 : Int64) (1 : Int64) = some 0) := c_two N (x := x) (n := 2) (by decide) (f_X6_isImage N) (fun x => rfl)
theorem m_keep (N : Nat) (hN : 200 < N) {g : St_} {d : Nat → Nat → Nat} {w : Nat → Int32} (h0 : TD d) (h2 : MT g d w) {j : Nat} (hj : j < 2) (hin : f_X7_in N (nI j).toInt64 (0 : Int64) (1 : Int64) = some 1) : ∃ h, f_X7_keep N g (nI j) = some (1, h) ∧ (∀ k, k ≠ 43 → k ≠ 44 → h k = g k) ∧ (∀ x, x < 70 * j ∨ 70 * j + 67 ≤ x → h 43 x = g 43 x) ∧ h 44 = upd (g 44) j 1 ∧ MI h (70 * j) d w := by
  have hE := h0.1.2.2.1
  have hS := h0.1.2.1
  obtain ⟨o, ho⟩ : ∃ o, o = 70 * j := ⟨_, rfl⟩
  have ho2 : o ≤ 70 := by omega
  obtain ⟨v1, c1, a1, a2, a3⟩ := loopC (fun n i a => f_X7_keep_L20 N (nI o) n (nI i) a) 8 (fun i a => (∀ k, k ≠ 43 → a k = g k) ∧ (∀ x, x < o ∨ o + 67 ≤ x → a 43 x = g 43 x) ∧ ∀ p, p < i → a 43 (o + p) = g 10 p ∧ a 43 (o + 8 + p) = g 11 p ∧ a 43 (o + 16 + p) = g 12 p) (fun i a => up1 (up1 (up1 a 43 (o + i) (a 10 i)) 43 (o + 8 + i) (a 11 i)) 43 (o + 16 + i) (a 12 i)) (fun n i a hi ha => ⟨⟨fun k hk => by rw [u_nk _ _ _ hk, u_nk _ _ _ hk, u_nk _ _ _ hk]; exact ha.1 k hk, fun x hx => by
      rw [u_ne _ _ _ _ (show x ≠ o + 16 + i by omega), u_ne _ _ _ _ (show x ≠ o + 8 + i by omega), u_ne _ _ _ _ (show x ≠ o + i by omega)]
      exact ha.2.1 x hx, fun p hp => by
      have e1 : a 10 = g 10 := ha.1 10 (by decide)
      have e2 : a 11 = g 11 := ha.1 11 (by decide)
      have e3 : a 12 = g 12 := ha.1 12 (by decide)
      rw [u_ne _ _ _ _ (show o + p ≠ o + 16 + i by omega), u_ne _ _ _ _ (show o + p ≠ o + 8 + i by omega), u_ne _ _ _ _ (show o + 8 + p ≠ o + 16 + i by omega)]
      by_cases c : p = i
      · rw [c, u_eq, u_eq, u_eq, e1, e2, e3]
        exact ⟨rfl, rfl, rfl⟩
      · rw [u_ne _ _ _ _ (show o + p ≠ o + i by omega), u_ne _ _ _ _ (show o + 8 + p ≠ o + 8 + i by omega), u_ne _ _ _ _ (show o + 8 + p ≠ o + i by omega), u_ne _ _ _ _ (show o + 16 + p ≠ o + 16 + i by omega), u_ne _ _ _ _ (show o + 16 + p ≠ o + 8 + i by omega), u_ne _ _ _ _ (show o + 16 + p ≠ o + i by omega)]
        exact ha.2.2 p (by omega)⟩, by
    show f_X7_keep_L20 N (nI o) (n + 1) (nI i) a = f_X7_keep_L20 N (nI o) n (nI (i + 1)) _
    rw [f_X7_keep_L20, if_neg (show ¬ (8 : Int32) ≤ nI i by rw [k8_le (by omega)]; omega), k8_ad, k16_ad, k_add, k_add, k_add, k_ok (show i < 8 by omega) (by omega), k_ok (show o + i < 140 by omega) (by omega), k_ok (show o + 8 + i < 140 by omega) (by omega), k_ok (show o + 16 + i < 140 by omega) (by omega), k_cl (show i < 2147483648 by omega), k_cl (show o + i < 2147483648 by omega), k_cl (show o + 8 + i < 2147483648 by omega), k_cl (show o + 16 + i < 2147483648 by omega), k1_ad]
    rfl⟩) (fun n a ha => by
    show f_X7_keep_L20 N (nI o) (n + 1) (nI 8) a = some a
    rw [f_X7_keep_L20, if_pos (show (8 : Int32) ≤ nI 8 by decide)]) (by omega : 8 < N) (a := g) ⟨fun k _ => rfl, fun x _ => rfl, fun p hp => by omega⟩
  obtain ⟨v2, c2, b1, b2', b3⟩ := loopC (fun n i a => f_X7_keep_L82 N (nI o) n (nI i) a) 30 (fun i a => (∀ k, k ≠ 43 → a k = g k) ∧ (∀ x, x < o + 24 ∨ o + 67 ≤ x → a 43 x = v1 43 x) ∧ ∀ p, p < i → a 43 (o + 24 + p) = g 7 p) (fun i a => up1 a 43 (o + 24 + i) (a 7 i)) (fun n i a hi ha => ⟨⟨fun k hk => by rw [u_nk _ _ _ hk]; exact ha.1 k hk, fun x hx => by
      rw [u_ne _ _ _ _ (show x ≠ o + 24 + i by omega)]
      exact ha.2.1 x hx, fun p hp => by
      have e1 : a 7 = g 7 := ha.1 7 (by decide)
      by_cases c : p = i
      · rw [c, u_eq, e1]
      · rw [u_ne _ _ _ _ (show o + 24 + p ≠ o + 24 + i by omega)]
        exact ha.2.2 p (by omega)⟩, by
    show f_X7_keep_L82 N (nI o) (n + 1) (nI i) a = f_X7_keep_L82 N (nI o) n (nI (i + 1)) _
    rw [f_X7_keep_L82, if_neg (show ¬ (30 : Int32) ≤ nI i by rw [k30_le (by omega)]; omega), k24_ad, k_add, k_ok (show i < 30 by omega) (by omega), k_ok (show o + 24 + i < 140 by omega) (by omega), k_cl (show i < 2147483648 by omega), k_cl (show o + 24 + i < 2147483648 by omega), k1_ad]
    rfl⟩) (fun n a ha => by
    show f_X7_keep_L82 N (nI o) (n + 1) (nI 30) a = some a
    rw [f_X7_keep_L82, if_pos (show (30 : Int32) ≤ nI 30 by decide)]) (by omega : 30 < N) (a := v1) ⟨a1, fun x _ => rfl, fun p hp => by omega⟩
  obtain ⟨v3, c3, d1, d2, d3⟩ := loopC (fun n i a => f_X7_keep_L113 N (nI o) n (nI i) a) 10 (fun i a => (∀ k, k ≠ 43 → a k = g k) ∧ (∀ x, x < o + 54 ∨ o + 67 ≤ x → a 43 x = v2 43 x) ∧ ∀ p, p < i → a 43 (o + 54 + p) = g 8 p) (fun i a => up1 a 43 (o + 54 + i) (a 8 i)) (fun n i a hi ha => ⟨⟨fun k hk => by rw [u_nk _ _ _ hk]; exact ha.1 k hk, fun x hx => by
      rw [u_ne _ _ _ _ (show x ≠ o + 54 + i by omega)]
      exact ha.2.1 x hx, fun p hp => by
      have e1 : a 8 = g 8 := ha.1 8 (by decide)
      by_cases c : p = i
      · rw [c, u_eq, e1]
      · rw [u_ne _ _ _ _ (show o + 54 + p ≠ o + 54 + i by omega)]
        exact ha.2.2 p (by omega)⟩, by
    show f_X7_keep_L113 N (nI o) (n + 1) (nI i) a = f_X7_keep_L113 N (nI o) n (nI (i + 1)) _
    rw [f_X7_keep_L113, if_neg (show ¬ (10 : Int32) ≤ nI i by rw [k10_le (by omega)]; omega), k54_ad, k_add, k_ok (show i < 10 by omega) (by omega), k_ok (show o + 54 + i < 140 by omega) (by omega), k_cl (show i < 2147483648 by omega), k_cl (show o + 54 + i < 2147483648 by omega), k1_ad]
    rfl⟩) (fun n a ha => by
    show f_X7_keep_L113 N (nI o) (n + 1) (nI 10) a = some a
    rw [f_X7_keep_L113, if_pos (show (10 : Int32) ≤ nI 10 by decide)]) (by omega : 10 < N) (a := v2) ⟨b1, fun x _ => rfl, fun p hp => by omega⟩
  rw [← ho]
  refine ⟨up1 (up1 (up1 (up1 v3 43 (o + 64) (v3 9 0)) 43 (o + 65) (v3 13 0)) 43 (o + 66) (v3 14 0)) 44 j 1, ?_, fun k h43 h44 => ?_, fun x hx => ?_, ?_, ?_⟩
  · unfold f_X7_keep
    rw [hin, k_bs, if_neg (show ¬ (1 : Int32) = 0 by decide), k70_mu, ← ho, show f_X7_keep_L20 N (nI o) N 0 g = some v1 from c1, k_bs, show f_X7_keep_L82 N (nI o) N 0 v1 = some v2 from c2, k_bs, show f_X7_keep_L113 N (nI o) N 0 v2 = some v3 from c3, k_bs, k64_ad, k65_ad, k66_ad, k_ok (show o + 64 < 140 by omega) (by omega), k_ok (show o + 65 < 140 by omega) (by omega), k_ok (show o + 66 < 140 by omega) (by omega), k_ok hj (by omega), k_cl (show o + 64 < 2147483648 by omega), k_cl (show o + 65 < 2147483648 by omega), k_cl (show o + 66 < 2147483648 by omega), k_cl (show j < 2147483648 by omega)]
    rfl
  · rw [u_nk _ _ _ h44, u_nk _ _ _ h43, u_nk _ _ _ h43, u_nk _ _ _ h43]
    exact d1 k h43
  · rw [u_nk _ _ _ (show 43 ≠ 44 by decide), u_ne _ _ _ _ (show x ≠ o + 66 by omega), u_ne _ _ _ _ (show x ≠ o + 65 by omega), u_ne _ _ _ _ (show x ≠ o + 64 by omega), d2 x (by omega), b2' x (by omega), a2 x hx]
  · show upd (v3 44) j 1 = _
    rw [d1 44 (by decide)]
  · have lo : ∀ x, x < 64 → up1 (up1 (up1 (up1 v3 43 (o + 64) (v3 9 0)) 43 (o + 65) (v3 13 0)) 43 (o + 66) (v3 14 0)) 44 j 1 43 (o + x) = v3 43 (o + x) := fun x hx => by
      rw [u_nk _ _ _ (show 43 ≠ 44 by decide), u_ne _ _ _ _ (show o + x ≠ o + 66 by omega), u_ne _ _ _ _ (show o + x ≠ o + 65 by omega), u_ne _ _ _ _ (show o + x ≠ o + 64 by omega)]
    refine ⟨fun p hp => ?_, fun r i hr hi => ?_, fun r hr => ?_, ?_, ?_, ?_⟩
    · obtain ⟨q1, q2, q3⟩ := a3 p (by omega)
      obtain ⟨z1, z2, z3⟩ := h2.2.2.2.2.1 p hp
      refine ⟨?_, ?_, ?_⟩
      · rw [lo p (by omega), d2 _ (by omega), b2' _ (by omega), q1, z1]
      · rw [Nat.add_assoc, lo (8 + p) (by omega), ← Nat.add_assoc, d2 _ (by omega), b2' _ (by omega), q2, z2]
      · rw [Nat.add_assoc, lo (16 + p) (by omega), ← Nat.add_assoc, d2 _ (by omega), b2' _ (by omega), q3, z3]
    · have := (h0.2.1 r hr).2.2.2.2.2
      rw [Nat.add_assoc, lo (24 + (3 * r + i)) (by omega), ← Nat.add_assoc, d2 _ (by omega), b3 _ (by omega)]
      exact h2.2.2.2.2.2.1 r i hr hi
    · rw [Nat.add_assoc, lo (54 + r) (by omega), ← Nat.add_assoc, d3 r (by omega)]
      exact h2.2.2.2.2.2.2.1 r hr
    · rw [u_nk _ _ _ (show 43 ≠ 44 by decide), u_ne _ _ _ _ (show o + 64 ≠ o + 66 by omega), u_ne _ _ _ _ (show o + 64 ≠ o + 65 by omega), u_eq, d1 9 (by decide)]
      exact h2.2.2.2.1
    · rw [u_nk _ _ _ (show 43 ≠ 44 by decide), u_ne _ _ _ _ (show o + 65 ≠ o + 66 by omega), u_eq, d1 13 (by decide)]
      exact h2.2.2.2.2.2.2.2.1
    · rw [u_nk _ _ _ (show 43 ≠ 44 by decide), u_eq, d1 14 (by decide)]
      exact h2.2.2.2.2.2.2.2.2
theorem MI_congr {g h : St_} {o : Nat} {e : Nat → Nat → Nat} {w : Nat → Int32} (h0 : TD e) (hM : MI g o e w) (H : ∀ x, x < 67 → h 43 (o + x) = g 43 (o + x)) : MI h o e w := by
  have hE := h0.1.2.2.1
  have hS := h0.1.2.1
  refine ⟨fun p hp => ?_, fun r i hr hi => ?_, fun r hr => ?_, ?_, ?_, ?_⟩
  · obtain ⟨q1, q2, q3⟩ := hM.1 p hp
    refine ⟨by rw [H p (by omega)]; exact q1, ?_, ?_⟩
    · rw [Nat.add_assoc] at q2 ⊢
      rw [H (8 + p) (by omega)]; exact q2
    · rw [Nat.add_assoc] at q3 ⊢
      rw [H (16 + p) (by omega)]; exact q3
  · have := (h0.2.1 r hr).2.2.2.2.2
    have q := hM.2.1 r i hr hi
    rw [Nat.add_assoc] at q ⊢
    rw [H (24 + (3 * r + i)) (by omega)]; exact q
  · have q := hM.2.2.1 r hr
    rw [Nat.add_assoc] at q ⊢
    rw [H (54 + r) (by omega)]; exact q
  · rw [H 64 (by decide)]; exact hM.2.2.2.1
  · rw [H 65 (by decide)]; exact hM.2.2.2.2.1
  · rw [H 66 (by decide)]; exact hM.2.2.2.2.2
