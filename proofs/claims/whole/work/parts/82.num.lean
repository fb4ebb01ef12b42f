-- ===== reading a number =====
def dv (tx : Nat → Nat) (s : Nat) : Nat → Nat
  | 0 => 0
  | k + 1 => 10 * dv tx s k + (tx (s + k) - 48)
theorem dv_le (tx : Nat → Nat) (s : Nat) : ∀ k, (∀ x, x < k → tx (s + x) ≤ 57) → dv tx s k < 10 ^ k := by
  intro k
  induction k with
  | zero => intro _; exact Nat.zero_lt_one
  | succ k ih =>
    intro h
    have h1 := ih (fun x hx => h x (by omega))
    have h2 := h k (by omega)
    show 10 * dv tx s k + (tx (s + k) - 48) < 10 ^ (k + 1)
    rw [Nat.pow_succ]
    omega
theorem dv_3 (tx : Nat → Nat) (s : Nat) {k : Nat} (hk : k ≤ 3) (h : ∀ x, x < k → tx (s + x) ≤ 57) : dv tx s k ≤ 999 := by
  have h1 := dv_le tx s k h
  have h2 : 10 ^ k ≤ 10 ^ 3 := Nat.pow_le_pow_right (by decide) hk
  have h3 : 10 ^ 3 = 1000 := by decide
  omega
theorem c_dig0 (N : Nat) {T : Nat} {tx : Nat → Nat} (hT : TX T tx) {s : Nat} : ∀ (n i : Nat) (y : Int32) (c : St_), s ≤ i → i ≤ T → T < n + i → TC c T tx → c 24 0 = nI i → (i - s ≤ 3 → y = nI (dv tx s (i - s))) → ∃ y' c', f_X4_readNumber_L30 N (nI s) n y c = some (y', c') ∧ FC c c' ∧ c' 24 0 = nI (sc (isd tx) T i) ∧ (sc (isd tx) T i - s ≤ 3 → y' = nI (dv tx s (sc (isd tx) T i - s))) := by
  intro n
  induction n with
  | zero => intro i y c h0 h1 h2; omega
  | succ n ih =>
    intro i y c h0 h1 h2 hc ha hy
    have hT5 := hT.1
    rw [f_X4_readNumber_L30, hc.1, ha]
    rcases Nat.lt_or_ge i T with h | h
    · have hb := hT.2 i h
      rw [if_neg (nI_ge h (by omega)), k_ok (show i < 500 by omega) (by omega), k_gd, k_cl (show i < 2147483648 by omega), hc.2 i h]
      by_cases b : 48 ≤ tx i ∧ tx i ≤ 57
      · obtain ⟨q1, q2⟩ := bb_d1 _ hb b
        have g := sc_go h (show isd tx i = true from decide_eq_true b)
        obtain ⟨y1, hy1, hy2⟩ : ∃ y1 : Int32, ((if (3 : Int32) ≤ nI i - nI s then (some y) else (gd true (some ((((10 : Int32) * y) + bb (tx i)) - (48 : Int32))))) : Option Int32) = some y1 ∧ (i + 1 - s ≤ 3 → y1 = nI (dv tx s (i + 1 - s))) := by
          rw [k_sub h0]
          by_cases d : 3 ≤ i - s
          · rw [if_pos (show (3 : Int32) ≤ nI (i - s) by rw [k3_le (by omega)]; exact d)]
            exact ⟨y, rfl, fun q => by omega⟩
          · rw [if_neg (show ¬ (3 : Int32) ≤ nI (i - s) by rw [k3_le (by omega)]; exact d), k_gd]
            refine ⟨_, rfl, fun _ => ?_⟩
            rw [hy (by omega), q2, k10_mu, k_add, show (48 : Int32) = nI 48 from rfl, k_sub (by omega), show i + 1 - s = (i - s) + 1 by omega]
            show nI (10 * dv tx s (i - s) + tx i - 48) = nI (10 * dv tx s (i - s) + (tx (s + (i - s)) - 48))
            rw [show s + (i - s) = i by omega, show 10 * dv tx s (i - s) + tx i - 48 = 10 * dv tx s (i - s) + (tx i - 48) by omega]
        rw [c_fig1 N q1, k_bs, if_neg (show ¬ (1 : Int32) = 0 by decide), hy1, k_bs, k1_ad]
        obtain ⟨y', c', e1, e2, e3, e4⟩ := ih (i + 1) y1 (up1 c 24 0 (nI (i + 1))) (by omega) (by omega) (by omega) ⟨hc.1, hc.2⟩ rfl hy2
        exact ⟨y', c', e1, fun k hk => (e2 k hk).trans (u_nk c 0 _ hk), by rw [g]; exact e3, by rw [g]; exact e4⟩
      · have g := sc_no (T := T) (show isd tx i = false from decide_eq_false b)
        rw [c_fig0 N (bb_d0 _ hb b), k_bs, if_pos rfl]
        exact ⟨y, c, rfl, fun _ _ => rfl, by rw [g]; exact ha, by rw [g]; exact hy⟩
    · rw [if_pos (nI_le h (by omega))]
      exact ⟨y, c, rfl, fun _ _ => rfl, by rw [sc_end h]; exact ha, by rw [sc_end h]; exact hy⟩
theorem m_dig0 (N : Nat) {T : Nat} {tx : Nat → Nat} (hT : TX T tx) {s : Nat} : ∀ (n i : Nat) (c : St_), s ≤ i → i ≤ T → T < n + i → TM c T tx → c 18 0 = nI i → (∀ x, s ≤ x → x < i → tx x ≤ 57) → (i - s ≤ 3 → c 21 0 = nI (dv tx s (i - s))) → ∃ c', f_X7_takeNumber_L42 N n c = some c' ∧ (∀ k, k ≠ 18 → k ≠ 21 → c' k = c k) ∧ c' 18 0 = nI (sc (isd tx) T i) ∧ (sc (isd tx) T i - s ≤ 3 → c' 21 0 = nI (dv tx s (sc (isd tx) T i - s))) := by
  intro n
  induction n with
  | zero => intro i c h0 h1 h2; omega
  | succ n ih =>
    intro i c h0 h1 h2 hc ha hle hy
    have hT5 := hT.1
    rw [f_X7_takeNumber_L42, hc.1, ha]
    rcases Nat.lt_or_ge i T with h | h
    · have hb := hT.2 i h
      rw [if_neg (nI_ge h (by omega)), k_ok (show i < 500 by omega) (by omega), k_gd, k_cl (show i < 2147483648 by omega), hc.2 i h, show (48 : Int64) = lN 48 from rfl, show (57 : Int64) = lN 57 from rfl, m_inL N (by omega) (by decide) (by decide), k_bs]
      by_cases b : 48 ≤ tx i ∧ tx i ≤ 57
      · have g := sc_go h (show isd tx i = true from decide_eq_true b)
        obtain ⟨y1, hy1, hy2⟩ : ∃ y1 : Int32, ((if (c 21 0) ≤ (10000 : Int32) then (gd true (some ((((10 : Int32) * (c 21 0)) + nI (tx i)) - (48 : Int32)))) else (some (c 21 0))) : Option Int32) = some y1 ∧ (i + 1 - s ≤ 3 → y1 = nI (dv tx s (i + 1 - s))) := by
          by_cases d : i + 1 - s ≤ 3
          · have h9 := dv_3 tx s (k := i - s) (by omega) (fun x hx => hle (s + x) (by omega) (by omega))
            rw [hy (by omega), if_pos (show nI (dv tx s (i - s)) ≤ (10000 : Int32) by rw [k10000_ge (by omega)]; omega), k_gd]
            refine ⟨_, rfl, fun _ => ?_⟩
            rw [k10_mu, k_add, show (48 : Int32) = nI 48 from rfl, k_sub (by omega), show i + 1 - s = (i - s) + 1 by omega]
            show nI (10 * dv tx s (i - s) + tx i - 48) = nI (10 * dv tx s (i - s) + (tx (s + (i - s)) - 48))
            rw [show s + (i - s) = i by omega, show 10 * dv tx s (i - s) + tx i - 48 = 10 * dv tx s (i - s) + (tx i - 48) by omega]
          · by_cases q : c 21 0 ≤ (10000 : Int32)
            · rw [if_pos q]; exact ⟨_, rfl, fun r => absurd r d⟩
            · rw [if_neg q]; exact ⟨_, rfl, fun r => absurd r d⟩
        rw [if_pos b, if_neg (show ¬ (1 : Int32) = 0 by decide), hy1, k_bs, k1_ad]
        obtain ⟨c', e1, e2, e3, e4⟩ := ih (i + 1) (up1 (up1 c 21 0 y1) 18 0 (nI (i + 1))) (by omega) (by omega) (by omega) ⟨hc.1, hc.2⟩ rfl (fun x h3 h4 => by
          rcases Nat.lt_or_ge x i with r | r
          · exact hle x h3 r
          · rw [show x = i by omega]; exact b.2) hy2
        exact ⟨c', e1, fun k h18 h21 => by rw [e2 k h18 h21, u_nk _ _ _ h18, u_nk _ _ _ h21], by rw [g]; exact e3, by rw [g]; exact e4⟩
      · have g := sc_no (T := T) (show isd tx i = false from decide_eq_false b)
        rw [if_neg b, if_pos rfl]
        exact ⟨c, rfl, fun _ _ _ => rfl, by rw [g]; exact ha, by rw [g]; exact hy⟩
    · rw [if_pos (nI_le h (by omega))]
      exact ⟨c, rfl, fun _ _ _ => rfl, by rw [sc_end h]; exact ha, by rw [sc_end h]; exact hy⟩
/-- what stands at a position, as both see it -/
theorem lk_fig (N : Nat) {T : Nat} {tx : Nat → Nat} (hT : TX T tx) (i : Nat) : (sc (bl tx) T i < T ∧ 48 ≤ tx (sc (bl tx) T i) ∧ tx (sc (bl tx) T i) ≤ 57 ∧ f_X4_isFigure N (lkv tx T i) = some 1 ∧ f_X7_in N (lkv tx T i).toInt64 (48 : Int64) (57 : Int64) = some 1) ∨ (f_X4_isFigure N (lkv tx T i) = some 0 ∧ f_X7_in N (lkv tx T i).toInt64 (48 : Int64) (57 : Int64) = some 0) := by
  unfold lkv
  rcases Nat.lt_or_ge (sc (bl tx) T i) T with h | h
  · have hb := hT.2 _ h
    rw [if_pos h, show (48 : Int64) = lN 48 from rfl, show (57 : Int64) = lN 57 from rfl, m_inL N (by omega) (by decide) (by decide)]
    by_cases b : 48 ≤ tx (sc (bl tx) T i) ∧ tx (sc (bl tx) T i) ≤ 57
    · refine Or.inl ⟨h, b.1, b.2, c_fig1 N ⟨?_, ?_⟩, by rw [if_pos b]⟩
      · rw [k48_gt (by omega)]; omega
      · rw [k57_lt (by omega)]; omega
    · refine Or.inr ⟨c_fig0 N ?_, by rw [if_neg b]⟩
      rw [k48_gt (by omega), k57_lt (by omega)]; omega
  · rw [if_neg (show ¬ sc (bl tx) T i < T by omega)]
    exact Or.inr ⟨c_fig0 N (by decide), k_in0 N (by decide)⟩
/-- what a fault leaves: its number and its place in both -/
def Bad (c m : St_) (k : Nat) : Prop := 1 ≤ k ∧ k ≤ 4 ∧ c 2 0 = nI k ∧ c 3 0 = m 17 0
theorem Bad.up {c m : St_} {k : Nat} (h : Bad c m k) (a j : Nat) (v : Int32) (ha : 17 ≠ a) : Bad c (up1 m a j v) k := ⟨h.1, h.2.1, h.2.2.1, by rw [u_nk _ _ _ ha]; exact h.2.2.2⟩
theorem c_fail (N : Nat) (c : St_) (k : Nat) (x : Int32) : f_X4_fail N c (nI k) x = some (up1 (up1 c 2 0 (nI k)) 3 0 x) := rfl
def F3 (c c' : St_) : Prop := ∀ k, k ≠ 2 → k ≠ 3 → k ≠ 24 → c' k = c k
def F4 (m m' : St_) : Prop := ∀ k, k ≠ 17 → k ≠ 18 → k ≠ 21 → k ≠ 22 → m' k = m k
/-- a number, read by both -/
theorem num (N : Nat) (hN : 1000 < N) {T : Nat} {tx : Nat → Nat} (hT : TX T tx) {i1 i2 : Nat} {c m : St_} (h1 : i1 ≤ T) (h2 : i2 ≤ T) (hs : sc (bl tx) T i1 = sc (bl tx) T i2) (hc : TC c T tx) (hm : TM m T tx) (ac : c 24 0 = nI i1) (am : m 18 0 = nI i2) {lo up : Nat} (hl : lo < 1000000) (hh : up < 1000000) :
    (∃ v z c' m', lo ≤ v ∧ v ≤ up ∧ sc (bl tx) T i2 < z ∧ z ≤ T ∧ f_X4_readNumber N c (nI lo) (nI up) = some (nI v, c') ∧ f_X7_takeNumber N m (nI lo) (nI up) = some (0, m') ∧ c' 24 0 = nI z ∧ m' 18 0 = nI z ∧ m' 21 0 = nI v ∧ m' 22 0 = nI (sc (bl tx) T i2) ∧ FC c c' ∧ (∀ k, k ≠ 18 → k ≠ 21 → k ≠ 22 → m' k = m k))
    ∨ (∃ k c' m', f_X4_readNumber N c (nI lo) (nI up) = some (-1, c') ∧ f_X7_takeNumber N m (nI lo) (nI up) = some (nI k, m') ∧ Bad c' m' k ∧ F3 c c' ∧ F4 m m') := by
  have hT5 := hT.1
  obtain ⟨c1, a1, a2, a3⟩ := c_look N hN hT h1 hc ac
  obtain ⟨m1, b1, b2', b3⟩ := m_here N hN hT h2 hm am
  have hlk : lkv tx T i1 = lkv tx T i2 := by unfold lkv; rw [hs]
  have hsT := sc_le (bl tx) h2
  rw [hs] at a3
  rw [hlk] at a1
  obtain ⟨s, hS⟩ : ∃ s, sc (bl tx) T i2 = s := ⟨_, rfl⟩
  rw [hS] at hs a3 b3 hsT ⊢
  unfold f_X4_readNumber f_X7_takeNumber
  rw [a1, b1, k_bs, k_bs]
  dsimp only
  rcases lk_fig N hT i2 with ⟨q1, q2, q3, q4, q5⟩ | ⟨q4, q5⟩
  · rw [hS] at q1 q2 q3
    rw [q4, q5, k_bs, k_bs, if_neg (show ¬ (1 : Int32) = 0 by decide), if_neg (show ¬ (1 : Int32) = 0 by decide)]
    simp only [a3, b3]
    have hc1 : TC c1 T tx := hc.to (a2 1 (by decide)) (a2 23 (by decide))
    have hm1 : TM (up1 (up1 m1 22 0 (nI s)) 21 0 0) T tx := hm.to (b2' 16 (by decide)) (b2' 15 (by decide))
    obtain ⟨y, c2, d1, d2, d3, d4⟩ := c_dig0 N hT (s := s) N s 0 c1 (Nat.le_refl _) hsT (by omega) hc1 a3 (fun _ => by rw [Nat.sub_self]; rfl)
    obtain ⟨m2, e1, e2, e3, e4⟩ := m_dig0 N hT (s := s) N s (up1 (up1 m1 22 0 (nI s)) 21 0 0) (Nat.le_refl _) hsT (by omega) hm1 b3 (fun x h1 h2 => by omega) (fun _ => by rw [Nat.sub_self]; rfl)
    have hz1 : s < sc (isd tx) T s := by
      rw [sc_go q1 (show isd tx s = true from decide_eq_true ⟨q2, q3⟩)]
      exact sc_ge _ _ _
    have hz2 := sc_le (isd tx) (T := T) (i := s) hsT
    have hdg : ∀ x, x < sc (isd tx) T s - s → tx (s + x) ≤ 57 := fun x hx => (of_decide_eq_true (sc_in (isd tx) T s (s + x) (by omega) (by omega))).2
    have fm2 : ∀ k, k ≠ 18 → k ≠ 21 → k ≠ 22 → m2 k = m k := fun k k18 k21 k22 => by rw [e2 k k18 k21, u_nk _ _ _ k21, u_nk _ _ _ k22, b2' k k18]
    have m22 : m2 22 0 = nI s := by rw [e2 22 (by decide) (by decide)]; rfl
    have fc2 : FC c c2 := fun k hk => (d2 k hk).trans (a2 k hk)
    obtain ⟨z, hZ⟩ : ∃ z, sc (isd tx) T s = z := ⟨_, rfl⟩
    rw [hZ] at d3 d4 e3 e4 hz1 hz2 hdg
    rw [d1, e1, k_bs, k_bs]
    simp only [d3, e3, m22, k_sub (show s ≤ z by omega)]
    have bad : ∃ k c' m', (some (-1, up1 (up1 c2 2 0 (nI 2)) 3 0 (nI s)) : Option (Int32 × St_)) = some (-1, c') ∧ (some ((2 : Int32), up1 m2 17 0 (nI s)) : Option (Int32 × St_)) = some (nI k, m') ∧ Bad c' m' k ∧ F3 c c' ∧ F4 m m' :=
      ⟨2, _, _, rfl, rfl, ⟨by decide, by decide, rfl, rfl⟩, fun k k2 k3 k24 => by rw [u_nk _ _ _ k3, u_nk _ _ _ k2]; exact fc2 k k24, fun k k17 k18 k21 k22 => by rw [u_nk _ _ _ k17]; exact fm2 k k18 k21 k22⟩
    by_cases long : z - s ≤ 3
    · have hv9 := dv_3 tx s long hdg
      have ey := d4 long
      subst ey
      rw [if_neg (show ¬ (3 : Int32) < nI (z - s) by rw [k3_lt (by omega)]; omega), if_neg (show ¬ (3 : Int32) < nI (z - s) by rw [k3_lt (by omega)]; omega), e4 long, nI_l (show lo < 2 ^ 31 by omega), nI_l (show up < 2 ^ 31 by omega), m_inL N (show dv tx s (z - s) < 2147483648 by omega) (by omega) (by omega), k_bs]
      by_cases r : lo ≤ dv tx s (z - s) ∧ dv tx s (z - s) ≤ up
      · rw [if_pos r, if_neg (show ¬ nI (dv tx s (z - s)) < nI lo by rw [k_lt (by omega) (by omega)]; omega), if_pos (show nI (dv tx s (z - s)) ≤ nI up by rw [k_le (by omega) (by omega)]; omega), if_neg (show ¬ (1 : Int32) = 0 by decide)]
        exact Or.inl ⟨_, z, c2, m2, r.1, r.2, hz1, hz2, rfl, rfl, d3, e3, e4 long, m22, fc2, fm2⟩
      · rw [if_neg r, if_pos rfl]
        right
        by_cases r1 : dv tx s (z - s) < lo
        · rw [if_pos (show nI (dv tx s (z - s)) < nI lo by rw [k_lt (by omega) (by omega)]; exact r1)]; exact bad
        · rw [if_neg (show ¬ nI (dv tx s (z - s)) < nI lo by rw [k_lt (by omega) (by omega)]; exact r1), if_neg (show ¬ nI (dv tx s (z - s)) ≤ nI up by rw [k_le (by omega) (by omega)]; omega)]; exact bad
    · rw [if_pos (show (3 : Int32) < nI (z - s) by rw [k3_lt (by omega)]; omega), if_pos (show (3 : Int32) < nI (z - s) by rw [k3_lt (by omega)]; omega)]
      exact Or.inr bad
  · rw [q4, q5, k_bs, k_bs, if_pos rfl, if_pos rfl, a3, b3]
    right
    exact ⟨1, up1 (up1 c1 2 0 (nI 1)) 3 0 (nI s), up1 m1 17 0 (nI s), rfl, rfl, ⟨by decide, by decide, rfl, rfl⟩, fun k k2 k3 k24 => by rw [u_nk _ _ _ k3, u_nk _ _ _ k2]; exact a2 k k24, fun k k17 k18 k21 k22 => by rw [u_nk _ _ _ k17]; exact b2' k k18⟩
/-- the sign at a clause's end, read by both -/
theorem sign (N : Nat) (hN : 1000 < N) {T : Nat} {tx : Nat → Nat} (hT : TX T tx) {i1 i2 : Nat} {c m : St_} (h1 : i1 ≤ T) (h2 : i2 ≤ T) (hs : sc (bl tx) T i1 = sc (bl tx) T i2) (hc : TC c T tx) (hm : TM m T tx) (ac : c 24 0 = nI i1) (am : m 18 0 = nI i2) :
    (∃ c' m', sc (bl tx) T i2 < T ∧ f_X4_readSign N c 59 = some (1, c') ∧ f_X7_here N m = some (59, m') ∧ c' 24 0 = nI (sc (bl tx) T i2 + 1) ∧ m' 18 0 = nI (sc (bl tx) T i2) ∧ FC c c' ∧ FM m m')
    ∨ (∃ v c' m', f_X4_readSign N c 59 = some (0, c') ∧ f_X7_here N m = some (v, m') ∧ ¬ v = 59 ∧ c' 2 0 = 1 ∧ c' 3 0 = nI (sc (bl tx) T i2) ∧ m' 18 0 = nI (sc (bl tx) T i2) ∧ F3 c c' ∧ FM m m') := by
  have hT5 := hT.1
  obtain ⟨c1, a1, a2, a3⟩ := c_look N hN hT h1 hc ac
  obtain ⟨m1, b1, b2', b3⟩ := m_here N hN hT h2 hm am
  have hlk : lkv tx T i1 = lkv tx T i2 := by unfold lkv; rw [hs]
  rw [hs] at a3
  rw [hlk] at a1
  unfold f_X4_readSign
  rw [a1, k_bs]
  dsimp only
  by_cases q : lkv tx T i2 = 59
  · rw [if_pos q, a3, k1_ad]
    refine Or.inl ⟨_, m1, ?_, rfl, by rw [b1, q], rfl, b3, fun k hk => by rw [u_nk _ _ _ hk]; exact a2 k hk, b2'⟩
    unfold lkv at q
    rcases Nat.lt_or_ge (sc (bl tx) T i2) T with h | h
    · exact h
    · rw [if_neg (show ¬ sc (bl tx) T i2 < T by omega)] at q
      exact absurd q (by decide)
  · rw [if_neg q, a3]
    exact Or.inr ⟨_, _, m1, rfl, b1, q, rfl, rfl, b3, fun k k2 k3 k24 => by rw [u_nk _ _ _ k3, u_nk _ _ _ k2]; exact a2 k k24, b2'⟩
