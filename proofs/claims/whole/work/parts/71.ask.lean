theorem c_stf (N : Nat) (hN : 200 < N) {t : St_} {d : Nat → Nat → Nat} {w : Nat → Int32} (h0 : TD d) (h1 : CT t d w) {r : Nat} (hr : r < d 2 0) : f_X5_stridesThatFit N t (nI r) = some (setN (fun k => fitD d (k + 1) r) 24) := by
  unfold f_X5_stridesThatFit
  have L : f_X5_stridesThatFit_L4 N t (nI r) N 0 1 = some (setN (fun k => fitD d (k + 1) r) 24) := by
    refine loopS (fun m i a => f_X5_stridesThatFit_L4 N t (nI r) m a (nI (i + 1))) 24 _ (fun m i a hi => ?_) (fun m a => ?_) (by omega)
    · show f_X5_stridesThatFit_L4 N t (nI r) (m + 1) a (nI (i + 1)) = f_X5_stridesThatFit_L4 N t (nI r) m _ (nI (i + 1 + 1))
      rw [f_X5_stridesThatFit_L4, if_neg (show ¬ (24 : Int32) < nI (i + 1) by rw [k24_lt (by omega)]; omega), c_fit N hN h0 h1 hr (by omega), k_bs, ib, k1_ad, k1_sb (by omega), Nat.add_sub_cancel]
      cases fitD d (i + 1) r <;> rfl
    · show f_X5_stridesThatFit_L4 N t (nI r) (m + 1) a (nI (24 + 1)) = some a
      rw [f_X5_stridesThatFit_L4, if_pos (show (24 : Int32) < nI (24 + 1) by decide)]
  rw [L]
  rfl
theorem m_yes (N : Nat) (hN : 200 < N) {g : St_} {d : Nat → Nat → Nat} {w : Nat → Int32} (h0 : TD d) (h2 : MT g d w) {r : Nat} (hr : r < d 2 0) (f : Nat → Bool) : f_X7_ask_L27 N g (setN f 24) (nI r) N 0 1 = some (nI (cB (fun k => f k && fitD d (k + 1) r) 24)) := by
  obtain ⟨o, hQ, e⟩ := loopI (fun m i a => f_X7_ask_L27 N g (setN f 24) (nI r) m a (nI (i + 1))) 24 (fun i a => a = nI (cB (fun k => f k && fitD d (k + 1) r) i)) (fun o => o = nI (cB (fun k => f k && fitD d (k + 1) r) 24)) (fun m i a hi ha => Or.inl ⟨_, rfl, by
    subst ha
    show f_X7_ask_L27 N g (setN f 24) (nI r) (m + 1) _ (nI (i + 1)) = f_X7_ask_L27 N g (setN f 24) (nI r) m _ (nI (i + 1 + 1))
    rw [f_X7_ask_L27, if_neg (show ¬ (24 : Int32) < nI (i + 1) by rw [k24_lt (by omega)]; omega), k1_sb (by omega), Nat.add_sub_cancel, x7_has, hb_setN _ (by decide) (by omega), m_fitD N hN h0 h2 hr (by omega), k1_ad]
    simp only [k_bs, ib, hi, decide_true, Bool.true_and]
    show _ = f_X7_ask_L27 N g (setN f 24) (nI r) m (nI (cB (fun k => f k && fitD d (k + 1) r) i + (if (f i && fitD d (i + 1) r) = true then 1 else 0))) (nI (i + 1 + 1))
    rw [show nI (cB (fun k => f k && fitD d (k + 1) r) i + (if (f i && fitD d (i + 1) r) = true then 1 else 0)) = nI (cB (fun k => f k && fitD d (k + 1) r) i) + nI (if (f i && fitD d (i + 1) r) = true then 1 else 0) from (nI_add _ _).symm]
    cases f i <;> cases fitD d (i + 1) r <;> rfl⟩) (fun m a ha => ⟨a, ha, by
    show f_X7_ask_L27 N g (setN f 24) (nI r) (m + 1) a (nI (24 + 1)) = some a
    rw [f_X7_ask_L27, if_pos (show (24 : Int32) < nI (24 + 1) by decide)]⟩) N 0 0 (by decide) (by omega) rfl
  rw [show f_X7_ask_L27 N g (setN f 24) (nI r) N 0 1 = some o from e, hQ]
def gapN (A Y : Nat) : Nat := if 2 * Y ≤ A then A - 2 * Y else 2 * Y - A
theorem abs_c : ∀ A, A < 25 → ∀ Y, Y < 25 → (if 0 ≤ (nI A - ((2 : Int32) * nI Y)) then (nI A - ((2 : Int32) * nI Y)) else 0 - (nI A - ((2 : Int32) * nI Y))) = nI (gapN A Y) := by decide +kernel
theorem abs_m : ∀ A, A < 25 → ∀ Y, Y < 25 → Y ≤ A → (if nI Y ≤ nI A - nI Y then some ((nI A - nI Y) - nI Y) else some (nI Y - (nI A - nI Y))) = some (nI (gapN A Y)) := by decide +kernel
def askN (Y A i : Nat) (a : Option (Nat × Nat)) : Option (Nat × Nat) := if 0 < Y ∧ Y < A ∧ (∀ x, a = some x → gapN A Y < x.2) then some (i, gapN A Y) else a
def aC : Option (Nat × Nat) → Int32 × Int32
  | none => (-1, 25)
  | some x => (nI x.1, nI x.2)
def aM : Option (Nat × Nat) → Int32 × Int32
  | none => (-1, 0)
  | some x => (nI x.1, nI x.2)
def okA (a : Option (Nat × Nat)) : Prop := ∀ x, a = some x → x.1 < 10 ∧ x.2 < 25
theorem gap_lt {A Y : Nat} (hA : A < 25) (hY : Y ≤ A) : gapN A Y < 25 := by
  unfold gapN
  by_cases h : 2 * Y ≤ A
  · rw [if_pos h]; omega
  · rw [if_neg h]; omega
theorem askN_yes {Y A i : Nat} {a : Option (Nat × Nat)} (h : 0 < Y ∧ Y < A ∧ (∀ x, a = some x → gapN A Y < x.2)) : askN Y A i a = some (i, gapN A Y) := by
  unfold askN
  exact if_pos h
theorem askN_no {Y A i : Nat} {a : Option (Nat × Nat)} (h : ¬ (0 < Y ∧ Y < A ∧ (∀ x, a = some x → gapN A Y < x.2))) : askN Y A i a = a := by
  unfold askN
  exact if_neg h
theorem okA_ask {Y A i : Nat} {a : Option (Nat × Nat)} (hA : A < 25) (hY : Y ≤ A) (hi : i < 10) (h : okA a) : okA (askN Y A i a) := by
  by_cases c : 0 < Y ∧ Y < A ∧ (∀ x, a = some x → gapN A Y < x.2)
  · rw [askN_yes c]
    intro x hx
    cases hx
    exact ⟨hi, gap_lt hA hY⟩
  · rw [askN_no c]
    exact h
theorem ask_c {Y A i : Nat} {a : Option (Nat × Nat)} (hA : A < 25) (hY : Y ≤ A) (h : okA a) : (if nI Y ≤ 0 then some ((aC a).1, (aC a).2) else (if nI A ≤ nI Y then some ((aC a).1, (aC a).2) else (if (aC a).2 ≤ nI (gapN A Y) then some ((aC a).1, (aC a).2) else some (nI i, nI (gapN A Y))))) = some (aC (askN Y A i a)) := by
  have hg := gap_lt hA hY
  by_cases c1 : 0 < Y
  · rw [if_neg (show ¬ nI Y ≤ 0 by rw [k_z0 (by omega)]; omega)]
    by_cases c2 : Y < A
    · rw [if_neg (nI_ge c2 (by omega))]
      cases a with
      | none =>
        rw [askN_yes ⟨c1, c2, fun x hx => by cases hx⟩]
        rw [if_neg (show ¬ (aC none).2 ≤ nI (gapN A Y) from nI_ge (b := 25) hg (by omega))]
        rfl
      | some x =>
        have hx := h x rfl
        by_cases c3 : gapN A Y < x.2
        · rw [askN_yes ⟨c1, c2, fun y hy => by cases hy; exact c3⟩]
          rw [if_neg (show ¬ (aC (some x)).2 ≤ nI (gapN A Y) from nI_ge c3 (by omega))]
          rfl
        · rw [askN_no (fun q => c3 (q.2.2 x rfl))]
          rw [if_pos (show (aC (some x)).2 ≤ nI (gapN A Y) from nI_le (by omega) (by omega))]
    · rw [if_pos (nI_le (by omega) (by omega)), askN_no (fun q => c2 q.2.1)]
  · rw [if_pos (show nI Y ≤ 0 by rw [k_z0 (by omega)]; omega), askN_no (fun q => c1 q.1)]
theorem ask_m {Y A : Nat} (i : Nat) {a : Option (Nat × Nat)} (hA : A < 25) (hY : Y ≤ A) (h : okA a) : ∃ j : Int32, (if nI Y ≤ 0 then some (0 : Int32) else (if (nI A - nI Y) ≤ 0 then some (0 : Int32) else (if (aM a).1 < 0 then some (1 : Int32) else (if (aM a).2 ≤ nI (gapN A Y) then some (0 : Int32) else some (1 : Int32))))) = some j ∧ (if j = 0 then some (aM a).1 else some (nI i)) = some (aM (askN Y A i a)).1 ∧ (if j = 0 then some (aM a).2 else some (nI (gapN A Y))) = some (aM (askN Y A i a)).2 := by
  have hg := gap_lt hA hY
  rw [k_sub hY]
  by_cases c1 : 0 < Y
  · rw [if_neg (show ¬ nI Y ≤ 0 by rw [k_z0 (by omega)]; omega)]
    by_cases c2 : Y < A
    · rw [if_neg (show ¬ nI (A - Y) ≤ 0 by rw [k_z0 (by omega)]; omega)]
      cases a with
      | none =>
        rw [askN_yes ⟨c1, c2, fun x hx => by cases hx⟩]
        rw [if_pos (show (aM none).1 < 0 by decide)]
        exact ⟨1, rfl, rfl, rfl⟩
      | some x =>
        have hx := h x rfl
        rw [if_neg (show ¬ (aM (some x)).1 < 0 from nI_pos (by omega))]
        by_cases c3 : gapN A Y < x.2
        · rw [askN_yes ⟨c1, c2, fun y hy => by cases hy; exact c3⟩]
          rw [if_neg (show ¬ (aM (some x)).2 ≤ nI (gapN A Y) from nI_ge c3 (by omega))]
          exact ⟨1, rfl, rfl, rfl⟩
        · rw [askN_no (fun q => c3 (q.2.2 x rfl))]
          rw [if_pos (show (aM (some x)).2 ≤ nI (gapN A Y) from nI_le (by omega) (by omega))]
          exact ⟨0, rfl, rfl, rfl⟩
    · rw [if_pos (show nI (A - Y) ≤ 0 by rw [k_z0 (by omega)]; omega), askN_no (fun q => c2 q.2.1)]
      exact ⟨0, rfl, rfl, rfl⟩
  · rw [if_pos (show nI Y ≤ 0 by rw [k_z0 (by omega)]; omega), askN_no (fun q => c1 q.1)]
    exact ⟨0, rfl, rfl, rfl⟩
def askF (d : Nat → Nat → Nat) (f : Nat → Bool) (r : Nat) (a : Option (Nat × Nat)) : Option (Nat × Nat) := askN (cB (fun k => f k && fitD d (k + 1) r) 24) (cB f 24) r a
theorem askA (f : Nat → Bool) : cB f 24 < 25 := Nat.lt_succ_of_le (cB_le f 24)
theorem askY (d : Nat → Nat → Nat) (f : Nat → Bool) (r : Nat) : cB (fun k => f k && fitD d (k + 1) r) 24 ≤ cB f 24 := cB_mono (fun i _ h => by
  rw [Bool.and_eq_true] at h
  exact h.1)
theorem c_ask1 (N : Nat) (hN : 200 < N) {g1 : St_} {d : Nat → Nat → Nat} {w : Nat → Int32} (h0 : TD d) (h1 : CT (sh_ 26 g1) d w) (f : Nat → Bool) (m : Nat) {i : Nat} (hi : i < d 2 0) {a : Option (Nat × Nat)} (ha : okA a) : f_X6_ask_L26 N g1 (setN f 24) (nI (cB f 24)) (m + 1) (aC a).1 (aC a).2 (nI i) = f_X6_ask_L26 N g1 (setN f 24) (nI (cB f 24)) m (aC (askF d f i a)).1 (aC (askF d f i a)).2 (nI (i + 1)) := by
  have hS := h0.1.2.1
  have e29 : g1 29 0 = nI (d 2 0) := h1.1.2.1
  have hA := askA f
  have hY := askY d f i
  rw [f_X6_ask_L26, e29, if_neg (nI_ge hi (by omega)), c_stf N hN h0 h1 hi, k_bs, c_set24a, k_bs, abs_c _ hA _ (by omega), ask_c hA hY ha, k_bs, k1_ad]
  rfl
theorem m_ask1 (N : Nat) (hN : 200 < N) {g2 : St_} {d : Nat → Nat → Nat} {w : Nat → Int32} (h0 : TD d) (h2 : MT g2 d w) (f : Nat → Bool) (m : Nat) {i : Nat} (hi : i < d 2 0) {a : Option (Nat × Nat)} (ha : okA a) : f_X7_ask_L12 N g2 (setN f 24) (m + 1) (aM a).1 (aM a).2 (nI i) = f_X7_ask_L12 N g2 (setN f 24) m (aM (askF d f i a)).1 (aM (askF d f i a)).2 (nI (i + 1)) := by
  have hS := h0.1.2.1
  have e2 : g2 2 0 = nI (d 2 0) := h2.2.1
  have hA := askA f
  have hY := askY d f i
  obtain ⟨j, j1, j2, j3⟩ := ask_m i hA hY ha
  rw [f_X7_ask_L12, e2, if_neg (nI_ge hi (by omega)), m_yes N hN h0 h2 hi f, k_bs, m_bits N hN, cnt_B, cB_setN, k_bs, abs_m _ hA _ (by omega) hY, k_bs, j1, k_bs, j2, k_bs, j3, k_bs, k1_ad]
  rfl
theorem c_askL (N : Nat) (hN : 200 < N) {g1 : St_} {d : Nat → Nat → Nat} {w : Nat → Int32} (h0 : TD d) (h1 : CT (sh_ 26 g1) d w) (f : Nat → Bool) : f_X6_ask_L26 N g1 (setN f 24) (nI (cB f 24)) N (aC none).1 (aC none).2 (nI 0) = some (aC (foldA (askF d f) (d 2 0) none)).1 := by
  have hS := h0.1.2.1
  have e29 : g1 29 0 = nI (d 2 0) := h1.1.2.1
  refine (loopA (fun m i a => f_X6_ask_L26 N g1 (setN f 24) (nI (cB f 24)) m (aC a).1 (aC a).2 (nI i)) (d 2 0) (askF d f) (fun a => (aC a).1) (fun _ a => okA a) (fun m i a hi ha => ⟨okA_ask (askA f) (askY d f i) (by omega) ha, c_ask1 N hN h0 h1 f m hi ha⟩) (fun m a ha => ?_) N none (by omega) (fun x hx => by cases hx)).1
  show f_X6_ask_L26 N g1 (setN f 24) (nI (cB f 24)) (m + 1) (aC a).1 (aC a).2 (nI (d 2 0)) = some (aC a).1
  rw [f_X6_ask_L26, e29, if_pos (Int32.le_refl _)]
theorem m_askL (N : Nat) (hN : 200 < N) {g2 : St_} {d : Nat → Nat → Nat} {w : Nat → Int32} (h0 : TD d) (h2 : MT g2 d w) (f : Nat → Bool) : f_X7_ask_L12 N g2 (setN f 24) N (aM none).1 (aM none).2 (nI 0) = some (aM (foldA (askF d f) (d 2 0) none)).1 := by
  have hS := h0.1.2.1
  have e2 : g2 2 0 = nI (d 2 0) := h2.2.1
  refine (loopA (fun m i a => f_X7_ask_L12 N g2 (setN f 24) m (aM a).1 (aM a).2 (nI i)) (d 2 0) (askF d f) (fun a => (aM a).1) (fun _ a => okA a) (fun m i a hi ha => ⟨okA_ask (askA f) (askY d f i) (by omega) ha, m_ask1 N hN h0 h2 f m hi ha⟩) (fun m a ha => ?_) N none (by omega) (fun x hx => by cases hx)).1
  show f_X7_ask_L12 N g2 (setN f 24) (m + 1) (aM a).1 (aM a).2 (nI (d 2 0)) = some (aM a).1
  rw [f_X7_ask_L12, e2, if_pos (Int32.le_refl _)]
theorem aC_aM (a : Option (Nat × Nat)) : (aM a).1 = (aC a).1 := by cases a <;> rfl
theorem pa_ask (N : Nat) (hN : 200 < N) : PA_ask N Rel := by
  intro g1 g2 hR
  have hR0 := hR
  obtain ⟨d, w, h0, h1, h2, h3, h4, ⟨n, hn, a1, a2, a3⟩, h5⟩ := hR
  unfold f_X6_ask f_X7_ask
  rw [c_fits N hN h0 h1 hn a1 a3, m_fits N hN h0 h2 hn a2 a3]
  unfold fitsD
  generalize (fun k => allB (seenB g2 d (k + 1)) n) = f
  rw [k_bs, k_bs, c_set24 N f, cB_setN, k_bs]
  have C := c_askL N hN h0 h1 f
  have M := m_askL N hN h0 h2 f
  refine ⟨_, Option.bind_eq_some_iff.mpr ⟨_, C, rfl⟩, Option.bind_eq_some_iff.mpr ⟨_, M, congrArg some (aC_aM _)⟩, hR0⟩
-- ===== the least common number of steps =====
theorem c_goesZ (N : Nat) {s v : Nat} (hs : s < 1000) (hv : v < 4611686018427387904) : f_X6_goesInto N (nI s) (lN v) = some (b2 (decide (s ≠ 0) && decide (v % s = 0))) := by
  unfold f_X6_goesInto
  by_cases h0 : s = 0
  · subst h0
    rw [if_pos (show nI 0 ≤ 0 by decide)]
    simp [b2]
  rw [if_neg (show ¬ nI s ≤ 0 by rw [k_z0 (by omega)]; omega), nI_l (by omega), pk_lRem (by omega) (by omega) (by omega)]
  have hz : nzL (lN s) = true := by
    simp only [nzL, Bool.not_eq_true', decide_eq_false_iff_not]
    intro e
    exact h0 ((pk_lEQ (b := 0) (by omega) (by decide)).mp e)
  rw [hz, k_gd]
  have hm := Nat.mod_lt v (show s > 0 by omega)
  by_cases h : v % s = 0
  · rw [h, if_pos (show lg_cmp (lN 0) (0 : Int64) = 0 from (lg_cmp_eq _ _).mpr rfl)]; simp [b2, h0]
  · rw [if_neg (show ¬ lg_cmp (lN (v % s)) (0 : Int64) = 0 from fun e => h ((pk_lEQ (b := 0) (by omega) (by decide)).mp ((lg_cmp_eq _ _).mp e)))]
    simp [b2, h]
theorem c_com (N : Nat) (hN : 200 < N) {n s : Nat} (hn1 : 1 ≤ n) (hn : n < 1000000000000) (hs1 : 1 ≤ s) (hs : s ≤ 24) : f_X6_commonSteps N (lN n) (nI s) = some (lN (Nat.lcm n s)) := by
  have hL0 : 0 < Nat.lcm n s := Nat.lcm_pos (by omega) (by omega)
  have hT : n * (Nat.lcm n s / n) = Nat.lcm n s := Nat.mul_div_cancel' (Nat.dvd_lcm_left n s)
  have hLs : Nat.lcm n s ≤ n * s := Nat.le_of_dvd (Nat.mul_pos (by omega) (by omega)) (Nat.lcm_dvd_mul n s)
  generalize hTe : Nat.lcm n s / n = T at hT
  have hT1 : 1 ≤ T := by
    rcases Nat.eq_zero_or_pos T with q | q
    · rw [q, Nat.mul_zero] at hT; omega
    · exact q
  have hTs : T ≤ s := Nat.le_of_mul_le_mul_left (by rw [hT]; exact hLs) (show 0 < n by omega)
  have hbig : ∀ i, i < 24 → n * (i + 1) < 4611686018427387904 := fun i hi => Nat.lt_of_le_of_lt (Nat.mul_le_mul_left n (show i + 1 ≤ 24 by omega)) (by omega)
  have L : f_X6_commonSteps_L9 N (lN n) (nI s) N 1 = some (Sum.inl (lN (Nat.lcm n s))) := by
    refine loopU (fun m i => f_X6_commonSteps_L9 N (lN n) (nI s) m (nI (i + 1))) (T - 1) (Sum.inl (lN (Nat.lcm n s))) (fun m i hi => ?_) (fun m => ?_) (by omega)
    · show f_X6_commonSteps_L9 N (lN n) (nI s) (m + 1) (nI (i + 1)) = f_X6_commonSteps_L9 N (lN n) (nI s) m (nI (i + 1 + 1))
      have hnd : ¬ n * (i + 1) % s = 0 := by
        intro q
        have h1 : Nat.lcm n s ∣ n * (i + 1) := Nat.lcm_dvd (Nat.dvd_mul_right n (i + 1)) (Nat.dvd_of_mod_eq_zero q)
        have h2 := Nat.le_of_dvd (Nat.mul_pos (by omega) (by omega)) h1
        rw [← hT] at h2
        have := Nat.le_of_mul_le_mul_left h2 (show 0 < n by omega)
        omega
      rw [f_X6_commonSteps_L9, if_neg (nI_nlt (by omega) (by omega)), nI_l (by omega), lN_mul, c_goesZ N (by omega) (hbig i (by omega)), k_bs, ib, k1_ad]
      simp [hnd]
    · show f_X6_commonSteps_L9 N (lN n) (nI s) (m + 1) (nI (T - 1 + 1)) = _
      have e : T - 1 + 1 = T := by omega
      have hd : n * T % s = 0 := by rw [hT]; exact Nat.mod_eq_zero_of_dvd (Nat.dvd_lcm_right n s)
      have hb := hbig (T - 1) (by omega)
      rw [e] at hb ⊢
      rw [f_X6_commonSteps_L9, if_neg (nI_nlt hTs (by omega)), nI_l (by omega), lN_mul, c_goesZ N (by omega) hb, k_bs, ib, hd, hT]
      simp [show s ≠ 0 by omega]
  unfold f_X6_commonSteps
  rw [if_pos (show (1 : Int32) ≤ nI s by rw [k1_le (by omega)]; exact hs1), L]
  rfl
theorem nz_I {s : Nat} (h0 : s ≠ 0) (h : s < 2147483648) : nzI (nI s) = true := by
  simp only [nzI, Bool.not_eq_true', decide_eq_false_iff_not]
  rw [k_e0 h]; exact h0
theorem pa_pair (N : Nat) (hN : 200000 < N) : PA_pair N Rel := by
  intro g1 g2 hR z0 z1 z2
  have hR0 := hR
  obtain ⟨d, w, h0, h1, h2, -⟩ := hR
  have hE := h0.1.2.2.1
  unfold f_X6_pair f_X7_pair
  rcases b_person N h0 (t := sh_ 34 g1) h1.2 h2 z0 with ⟨p, hp, rfl, p1, p2⟩ | ⟨p1, p2⟩
  · rcases b_person N h0 (t := sh_ 34 g1) h1.2 h2 z1 with ⟨q, hq, rfl, p3, p4⟩ | ⟨p3, p4⟩
    · rw [p1, p2, p3, p4]
      simp only [k_bs, k_10, if_false]
      by_cases e : p = q
      · subst e
        rw [if_pos rfl, if_pos rfl]
        exact ⟨_, rfl, rfl, hR0⟩
      rw [if_neg (show ¬ nI p = nI q by rw [k_eq (by omega) (by omega)]; exact e), if_neg (show ¬ nI p = nI q by rw [k_eq (by omega) (by omega)]; exact e)]
      have a1 : g1 37 p = nI (d 11 p) := (h1.2.2.1 p hp).2.1
      have a2 : g1 37 q = nI (d 11 q) := (h1.2.2.1 q hq).2.1
      have m1 : g2 11 p = nI (d 11 p) := (h2.2.2.2.2.1 p hp).2.1
      have m2 : g2 11 q = nI (d 11 q) := (h2.2.2.2.2.1 q hq).2.1
      have hp2 := h0.2.2.2 p hp
      have hq2 := h0.2.2.2 q hq
      rcases k_inC N (x := z2) 0 1 (by decide) (by decide) with ⟨j, hj0, hj, rfl, h⟩ | ⟨h, h6⟩
      · rw [show (0 : Int64) = (nI 0).toInt64 from rfl, show (1 : Int64) = (nI 1).toInt64 from rfl, h]
        simp only [k_bs, k_10, if_false]
        rcases (show j = 0 ∨ j = 1 by omega) with rfl | rfl
        · rw [if_pos (show nI 0 = 0 from rfl), if_pos (show nI 0 = 0 from rfl), c_rp N (show 200 < N by omega) h0 h1 hp, c_rp N (show 200 < N by omega) h0 h1 hq, m_rp N (show 200 < N by omega) h0 h2 hp, m_rp N (show 200 < N by omega) h0 h2 hq]
          exact ⟨_, rfl, rfl, hR0⟩
        · rw [if_neg (show ¬ nI 1 = 0 by decide), if_neg (show ¬ nI 1 = 0 by decide), if_pos (show nI 1 = (1 : Int32) from rfl), k_ok (show p < 8 by omega) (by omega), k_ok (show q < 8 by omega) (by omega), k_cl (show p < 2147483648 by omega), k_cl (show q < 2147483648 by omega), a1, a2, nI_l (by omega), c_com N (show 200 < N by omega) hp2.2.1 (by omega) hq2.2.1 hq2.2.2.1]
          have hL0 : 0 < Nat.lcm (d 11 p) (d 11 q) := Nat.lcm_pos (by omega) (by omega)
          have hLs : Nat.lcm (d 11 p) (d 11 q) ≤ d 11 p * d 11 q := Nat.le_of_dvd (Nat.mul_pos (by omega) (by omega)) (Nat.lcm_dvd_mul _ _)
          have hLb : d 11 p * d 11 q ≤ 24 * 24 := Nat.mul_le_mul hp2.2.2.1 hq2.2.2.1
          have M : f_X7_pair_L56 N g2 (nI p) (nI q) N 1 = some (nI (Nat.lcm (d 11 p) (d 11 q))) := by
            refine loopU (fun m i => f_X7_pair_L56 N g2 (nI p) (nI q) m (nI (i + 1))) (Nat.lcm (d 11 p) (d 11 q) - 1) _ (fun m i hi => ?_) (fun m => ?_) (by omega)
            · show f_X7_pair_L56 N g2 (nI p) (nI q) (m + 1) (nI (i + 1)) = f_X7_pair_L56 N g2 (nI p) (nI q) m (nI (i + 1 + 1))
              rw [f_X7_pair_L56, k_ok (show p < 8 by omega) (by omega), k_ok (show q < 8 by omega) (by omega), k_cl (show p < 2147483648 by omega), k_cl (show q < 2147483648 by omega), m1, m2, nz_I (by omega) (by omega), nz_I (by omega) (by omega), pk_rem (by omega) (by omega) (by omega), pk_rem (by omega) (by omega) (by omega), k1_ad]
              simp only [k_gd]
              have b1 := Nat.mod_lt (i + 1) (show d 11 p > 0 by omega)
              have b2' := Nat.mod_lt (i + 1) (show d 11 q > 0 by omega)
              by_cases c1 : (i + 1) % d 11 p = 0
              · by_cases c2 : (i + 1) % d 11 q = 0
                · exfalso
                  have := Nat.le_of_dvd (by omega) (Nat.lcm_dvd (Nat.dvd_of_mod_eq_zero c1) (Nat.dvd_of_mod_eq_zero c2))
                  omega
                · rw [if_pos (show nI ((i + 1) % d 11 p) = 0 by rw [c1]; rfl), if_neg (show ¬ nI ((i + 1) % d 11 q) = 0 by rw [k_e0 (by omega)]; exact c2)]
              · rw [if_neg (show ¬ nI ((i + 1) % d 11 p) = 0 by rw [k_e0 (by omega)]; exact c1)]
            · show f_X7_pair_L56 N g2 (nI p) (nI q) (m + 1) (nI (Nat.lcm (d 11 p) (d 11 q) - 1 + 1)) = _
              rw [show Nat.lcm (d 11 p) (d 11 q) - 1 + 1 = Nat.lcm (d 11 p) (d 11 q) by omega]
              rw [f_X7_pair_L56, k_ok (show p < 8 by omega) (by omega), k_ok (show q < 8 by omega) (by omega), k_cl (show p < 2147483648 by omega), k_cl (show q < 2147483648 by omega), m1, m2, nz_I (by omega) (by omega), nz_I (by omega) (by omega), pk_rem (by omega) (by omega) (by omega), pk_rem (by omega) (by omega) (by omega), Nat.mod_eq_zero_of_dvd (Nat.dvd_lcm_left _ _), Nat.mod_eq_zero_of_dvd (Nat.dvd_lcm_right _ _)]
              rfl
          rw [M]
          exact ⟨_, rfl, by rw [lN_i]; rfl, hR0⟩
      · rw [show (0 : Int64) = (nI 0).toInt64 from rfl, show (1 : Int64) = (nI 1).toInt64 from rfl, h6]
        have z0 : ¬ z2 = 0 := fun e => by subst e; revert h; decide
        have z1 : ¬ z2 = 1 := fun e => by subst e; revert h; decide
        rw [if_neg z0, if_neg z1]
        exact ⟨_, rfl, rfl, hR0⟩
    · rw [p1, p2, p3, p4]
      exact ⟨_, rfl, rfl, hR0⟩
  · rw [p1, p2]
    exact ⟨_, rfl, rfl, hR0⟩
