-- ===== journeys judged =====
theorem MT_at {g h : St_} {d : Nat → Nat → Nat} {w : Nat → Int32} {q : Nat → Nat} (h2 : MT g d w) (H : ∀ k, k < 15 → k ≠ 10 → h k = g k) (hq : ∀ p, p < d 9 0 → h 10 p = nI (q p)) : MT h (atD d q) w := by
  unfold MT
  rw [H 1 (by decide) (by decide), H 2 (by decide) (by decide), H 3 (by decide) (by decide), H 4 (by decide) (by decide), H 5 (by decide) (by decide), H 6 (by decide) (by decide), H 7 (by decide) (by decide), H 8 (by decide) (by decide), H 9 (by decide) (by decide), H 11 (by decide) (by decide), H 12 (by decide) (by decide), H 13 (by decide) (by decide), H 14 (by decide) (by decide)]
  exact ⟨h2.1, h2.2.1, h2.2.2.1, h2.2.2.2.1, fun p hp => ⟨hq p hp, (h2.2.2.2.2.1 p hp).2⟩, h2.2.2.2.2.2⟩
theorem c_jcopy (N : Nat) (hN : 200 < N) {A : St_} {E : Nat} (hE : E ≤ 8) (e14 : A 14 0 = nI E) : ∃ B, f_X0_firstWrong_L2 N N 0 A = some B ∧ (∀ k, k ≠ 4 → B k = A k) ∧ ∀ p, p < E → B 4 p = A 15 p := by
  obtain ⟨o, hQ, e⟩ := loopI (fun n i a => f_X0_firstWrong_L2 N n (nI i) a) E (fun i a => (∀ k, k ≠ 4 → a k = A k) ∧ ∀ p, p < i → a 4 p = A 15 p) (fun a => (∀ k, k ≠ 4 → a k = A k) ∧ ∀ p, p < E → a 4 p = A 15 p) (fun n i a hi ha => Or.inl ⟨up1 a 4 i (a 15 i), ⟨fun k hk => by rw [u_nk _ _ _ hk]; exact ha.1 k hk, fun p hp => by
      by_cases c : p = i
      · rw [c, u_eq, ha.1 15 (by decide)]
      · rw [u_ne _ _ _ _ c]; exact ha.2 p (by omega)⟩, by
    show f_X0_firstWrong_L2 N (n + 1) (nI i) a = f_X0_firstWrong_L2 N n (nI (i + 1)) _
    rw [f_X0_firstWrong_L2, ha.1 14 (by decide), e14, if_neg (nI_ge hi (by omega)), k_ok (show i < 8 by omega) (by omega), k_cl (show i < 2147483648 by omega), k1_ad]
    rfl⟩) (fun n a ha => ⟨a, ha, by
    show f_X0_firstWrong_L2 N (n + 1) (nI E) a = some a
    rw [f_X0_firstWrong_L2, ha.1 14 (by decide), e14, if_pos (Int32.le_refl _)]⟩) N 0 A (Nat.zero_le _) (by omega) ⟨fun k _ => rfl, fun p hp => by omega⟩
  exact ⟨o, e, hQ.1, hQ.2⟩
theorem m_jcopy (N : Nat) (hN : 200 < N) (A : St_) : ∃ B, f_X7_judge_L2 N N 0 A = some B ∧ (∀ k, k ≠ 42 → B k = A k) ∧ ∀ p, p < 8 → B 42 p = A 10 p := by
  obtain ⟨o, hQ, e⟩ := loopI (fun n i a => f_X7_judge_L2 N n (nI i) a) 8 (fun i a => (∀ k, k ≠ 42 → a k = A k) ∧ ∀ p, p < i → a 42 p = A 10 p) (fun a => (∀ k, k ≠ 42 → a k = A k) ∧ ∀ p, p < 8 → a 42 p = A 10 p) (fun n i a hi ha => Or.inl ⟨up1 a 42 i (a 10 i), ⟨fun k hk => by rw [u_nk _ _ _ hk]; exact ha.1 k hk, fun p hp => by
      by_cases c : p = i
      · rw [c, u_eq, ha.1 10 (by decide)]
      · rw [u_ne _ _ _ _ c]; exact ha.2 p (by omega)⟩, by
    show f_X7_judge_L2 N (n + 1) (nI i) a = f_X7_judge_L2 N n (nI (i + 1)) _
    rw [f_X7_judge_L2, if_neg (show ¬ (8 : Int32) ≤ nI i by rw [k8_le (by omega)]; omega), k_ok (show i < 8 by omega) (by omega), k_cl (show i < 2147483648 by omega), k1_ad]
    rfl⟩) (fun n a ha => ⟨a, ha, by
    show f_X7_judge_L2 N (n + 1) (nI 8) a = some a
    rw [f_X7_judge_L2, if_pos (show (8 : Int32) ≤ nI 8 by decide)]⟩) N 0 A (Nat.zero_le _) (by omega) ⟨fun k _ => rfl, fun p hp => by omega⟩
  exact ⟨o, e, hQ.1, hQ.2⟩
theorem m_jback (N : Nat) (hN : 200 < N) (A : St_) : ∃ B, f_X7_judge_L127 N N 0 A = some B ∧ (∀ k, k ≠ 10 → B k = A k) ∧ ∀ p, p < 8 → B 10 p = A 42 p := by
  obtain ⟨o, hQ, e⟩ := loopI (fun n i a => f_X7_judge_L127 N n (nI i) a) 8 (fun i a => (∀ k, k ≠ 10 → a k = A k) ∧ ∀ p, p < i → a 10 p = A 42 p) (fun a => (∀ k, k ≠ 10 → a k = A k) ∧ ∀ p, p < 8 → a 10 p = A 42 p) (fun n i a hi ha => Or.inl ⟨up1 a 10 i (a 42 i), ⟨fun k hk => by rw [u_nk _ _ _ hk]; exact ha.1 k hk, fun p hp => by
      by_cases c : p = i
      · rw [c, u_eq, ha.1 42 (by decide)]
      · rw [u_ne _ _ _ _ c]; exact ha.2 p (by omega)⟩, by
    show f_X7_judge_L127 N (n + 1) (nI i) a = f_X7_judge_L127 N n (nI (i + 1)) _
    rw [f_X7_judge_L127, if_neg (show ¬ (8 : Int32) ≤ nI i by rw [k8_le (by omega)]; omega), k_ok (show i < 8 by omega) (by omega), k_cl (show i < 2147483648 by omega), k1_ad]
    rfl⟩) (fun n a ha => ⟨a, ha, by
    show f_X7_judge_L127 N (n + 1) (nI 8) a = some a
    rw [f_X7_judge_L127, if_pos (show (8 : Int32) ≤ nI 8 by decide)]⟩) N 0 A (Nat.zero_le _) (by omega) ⟨fun k _ => rfl, fun p hp => by omega⟩
  exact ⟨o, e, hQ.1, hQ.2⟩
theorem m_jexit (N n : Nat) {i : Nat} (hi : i < 1000) (y : Int32) (B : St_) : f_X7_judge_L30 N (n + 1) (nI i) y B = some (nI i, B) := by
  rw [f_X7_judge_L30, if_pos (nI_pos' (show i < 2 ^ 31 by omega))]
  by_cases c : B 39 0 ≤ y
  · rw [if_pos c]
  · rw [if_neg c]
theorem judge_loop (N : Nat) (hN : 200 < N) {base v t0 : St_} {d : Nat → Nat → Nat} {w : Nat → Int32} (h0 : TD d) (h1 : CT t0 d w) (hbase : sh_ 5 base = t0) (h2 : MT v d w) {nb : Nat} (hnb : nb ≤ 40) (b1 : base 1 0 = nI nb) (b2' : v 39 0 = nI nb) (b3 : ∀ i, i < nb → ∃ p r, p < 8 ∧ r < d 2 0 ∧ base 2 i = nI p ∧ v 40 i = nI p ∧ base 3 i = nI r ∧ v 41 i = nI r) {A : St_} (hA : ∀ k, k ≠ 4 → A k = base k) (hA4 : ∀ p, p < d 9 0 → A 4 p = nI (d 10 p)) : ∃ (res : Int32) (o : (Int32 × St_) ⊕ St_) (A' B' : St_), f_X0_firstWrong_L36 N N 0 A = some o ∧ f_X7_judge_L30 N N (-1) 0 v = some (res, B') ∧ (o = Sum.inl (res, A') ∨ (o = Sum.inr A' ∧ res = -1)) ∧ (∀ k, k ≠ 4 → A' k = base k) ∧ (∀ k, k ≠ 10 → B' k = v k) := by
  have hE := h0.1.2.2.1
  have hP := h0.1.1
  have hS := h0.1.2.1
  obtain ⟨o, o', ⟨res, A', B', q1, q2, q3, q4⟩, e1, e2⟩ := loop2 (fun m i a => f_X0_firstWrong_L36 N m (nI i) a) (fun m i (b : Int32 × St_) => f_X7_judge_L30 N m b.1 (nI i) b.2) nb (fun _ a b => ∃ pos : Nat → Nat, (∀ p, p < d 9 0 → pos p < d 1 0) ∧ (∀ k, k ≠ 4 → a k = base k) ∧ (∀ p, p < d 9 0 → a 4 p = nI (pos p)) ∧ b.1 = -1 ∧ (∀ k, k ≠ 10 → b.2 k = v k) ∧ (∀ p, p < d 9 0 → b.2 10 p = nI (pos p))) (fun o o' => ∃ (res : Int32) (A' B' : St_), (o = Sum.inl (res, A') ∨ (o = Sum.inr A' ∧ res = -1)) ∧ o' = (res, B') ∧ (∀ k, k ≠ 4 → A' k = base k) ∧ (∀ k, k ≠ 10 → B' k = v k)) (fun m i a b hi hm hab => by
      obtain ⟨pos, r1, r2, r3, r4, r5, r6⟩ := hab
      obtain ⟨y, B⟩ := b
      simp only at r4 r5 r6
      subst r4
      obtain ⟨p, r, hp8, hr, t1, t2, t3, t4⟩ := b3 i hi
      have hM : MT B (atD d pos) w := MT_at h2 (fun k _ hk => r5 k hk) r6
      have hT : TD (atD d pos) := TD_at h0 r1
      have a5 : sh_ 5 a = t0 := by
        rw [← hbase]
        funext k
        exact r2 (5 + k) (by omega)
      have f1 : a 1 0 = nI nb := by rw [r2 1 (by decide)]; exact b1
      have f2 : a 2 i = nI p := by rw [r2 2 (by decide)]; exact t1
      have f3 : a 3 i = nI r := by rw [r2 3 (by decide)]; exact t3
      have f39 : B 39 0 = nI nb := by rw [r5 39 (by decide)]; exact b2'
      have f40 : B 40 i = nI p := by rw [r5 40 (by decide)]; exact t2
      have f41 : B 41 i = nI r := by rw [r5 41 (by decide)]; exact t4
      have f9 : B 9 0 = nI (d 9 0) := hM.2.2.2.1
      have hst : f_X1_hasStair N (sh_ 6 a) (nI r) = some 1 := by
        unfold f_X1_hasStair
        have : sh_ 6 a 2 0 = nI (d 2 0) := by
          have := h1.1.2.1
          rw [← a5] at this
          exact this
        rw [this, if_neg (nI_pos (show r < 2 ^ 31 by omega)), if_neg (nI_ge hr (by omega))]
      have hpe : sh_ 13 a 1 0 = nI (d 9 0) := by
        have := h1.2.1
        rw [← a5] at this
        exact this
      obtain ⟨m', rfl⟩ : ∃ m', m = m' + 1 := ⟨m - 1, by omega⟩
      show (∃ (a' : St_) (b' : Int32 × St_), _ ∧ f_X0_firstWrong_L36 N (m' + 1 + 1) (nI i) a = f_X0_firstWrong_L36 N (m' + 1) (nI (i + 1)) a' ∧ f_X7_judge_L30 N (m' + 1 + 1) (-1) (nI i) B = f_X7_judge_L30 N (m' + 1) b'.1 (nI (i + 1)) b'.2) ∨ ∃ (o : (Int32 × St_) ⊕ St_) (o' : Int32 × St_), _ ∧ f_X0_firstWrong_L36 N (m' + 1 + 1) (nI i) a = some o ∧ f_X7_judge_L30 N (m' + 1 + 1) (-1) (nI i) B = some o'
      rw [f_X0_firstWrong_L36, f_X7_judge_L30, f1, f39, if_neg (nI_ge hi (by omega)), if_neg (nI_ge hi (by omega)), if_neg (show ¬ (0 : Int32) ≤ -1 by decide), k_ok (show i < 40 by omega) (by omega), k_cl (show i < 2147483648 by omega), f2, f3, f40, f41]
      simp only [k_gd]
      by_cases hp : p < d 9 0
      · have hhp : f_X3_hasPerson N (sh_ 13 a) (nI p) = some 1 := by
          unfold f_X3_hasPerson
          rw [hpe, if_neg (nI_pos (show p < 2 ^ 31 by omega)), if_neg (nI_ge hp (by omega))]
        have hpp := r1 p hp
        have hcan : f_X7_canGo N B (nI p) (nI r) = some (b2 (canF d (pos p) p r)) := m_can N hN hT hM (show p < atD d pos 9 0 from hp) (show r < atD d pos 2 0 from hr)
        have hoth : f_X5_otherEnd N (sh_ 5 a) (nI p) (nI r) (nI (pos p)) = some (if canF d (pos p) p r = true then nI (endF d (pos p) r) else -1) := by
          rw [a5]
          exact c_other N hN h0 h1 hp hr (by omega)
        have f10 : B 10 p = nI (pos p) := r6 p hp
        have f4 : B 4 r = nI (d 4 r) := (hM.2.2.1 r hr).2.1
        have f5 : B 5 r = nI (d 5 r) := (hM.2.2.1 r hr).2.2.1
        have hq := h0.2.1 r hr
        rw [hhp, hst, k_bs, if_neg (show ¬ (1 : Int32) = 0 by decide), k_bs, if_neg (show ¬ (1 : Int32) = 0 by decide), k_ok hp8 (by omega), k_cl (show p < 2147483648 by omega), r3 p hp, k_ok (show r < 10 by omega) (by omega), k_cl (show r < 2147483648 by omega), f10, f4, f5, f9, if_neg (nI_ge hp (by omega)), hoth, hcan]
        simp only [k_gd, k_bs]
        have hl := endF_lt h0 hr (pos p)
        cases hc : canF d (pos p) p r with
        | true =>
          left
          refine ⟨up1 a 4 p (nI (endF d (pos p) r)), (-1, up1 B 10 p (nI (endF d (pos p) r))), ⟨posU pos p (endF d (pos p) r), posU_lt r1 hl, fun k hk => by rw [u_nk _ _ _ hk]; exact r2 k hk, fun x hx => ?_, rfl, fun k hk => by show up1 B 10 p _ k = v k; rw [u_nk _ _ _ hk]; exact r5 k hk, fun x hx => ?_⟩, ?_, ?_⟩
          · unfold posU
            by_cases c : x = p
            · rw [c, u_eq, if_pos rfl]
            · rw [u_ne _ _ _ _ c, if_neg c]; exact r3 x hx
          · show up1 B 10 p _ 10 x = _
            unfold posU
            by_cases c : x = p
            · rw [c, u_eq, if_pos rfl]
            · rw [u_ne _ _ _ _ c, if_neg c]; exact r6 x hx
          · rw [if_pos rfl, if_neg (show ¬ nI (endF d (pos p) r) = -1 by rw [k_m1 (by omega)]; exact fun h => h), k1_ad]
          · rw [if_neg (show ¬ b2 true = 0 by decide), k1_ad]
            have : (if nI (pos p) = nI (d 4 r) then some (nI (d 5 r)) else some (nI (d 4 r))) = some (nI (endF d (pos p) r)) := by
              unfold endF
              by_cases c : pos p = d 4 r
              · rw [if_pos c, if_pos (show nI (pos p) = nI (d 4 r) by rw [c])]
              · rw [if_neg c, if_neg (show ¬ nI (pos p) = nI (d 4 r) by rw [k_eq (by omega) (by omega)]; exact c)]
            rw [this]
            rfl
        | false =>
          right
          refine ⟨Sum.inl (nI i, a), (nI i, B), ⟨nI i, a, B, Or.inl rfl, rfl, r2, r5⟩, ?_, ?_⟩
          · rw [if_neg (show ¬ false = true by decide), if_pos rfl]
          · rw [if_pos (show b2 false = 0 by decide), k_bs]
            exact m_jexit N m' (by omega) _ B
      · have hhp : f_X3_hasPerson N (sh_ 13 a) (nI p) = some 0 := by
          unfold f_X3_hasPerson
          rw [hpe, if_neg (nI_pos (show p < 2 ^ 31 by omega)), if_pos (nI_le (by omega) (by omega))]
        rw [hhp, k_bs, if_pos rfl, f9, if_pos (nI_le (by omega) (by omega))]
        right
        refine ⟨Sum.inl (nI i, a), (nI i, B), ⟨nI i, a, B, Or.inl rfl, rfl, r2, r5⟩, rfl, ?_⟩
        rw [k_bs]
        exact m_jexit N m' (by omega) _ B) (fun m a b hab => by
      obtain ⟨pos, r1, r2, r3, r4, r5, r6⟩ := hab
      obtain ⟨y, B⟩ := b
      simp only at r4 r5 r6
      subst r4
      refine ⟨Sum.inr a, (-1, B), ⟨-1, a, B, Or.inr ⟨rfl, rfl⟩, rfl, r2, r5⟩, ?_, ?_⟩
      · show f_X0_firstWrong_L36 N (m + 1) (nI nb) a = _
        rw [f_X0_firstWrong_L36, r2 1 (by decide), b1, if_pos (Int32.le_refl _)]
      · show f_X7_judge_L30 N (m + 1) (-1) (nI nb) B = _
        rw [f_X7_judge_L30, r5 39 (by decide), b2', if_pos (Int32.le_refl _)]) N 0 A (-1, v) (Nat.zero_le _) (by omega) ⟨d 10, fun p hp => (h0.2.2.2 p hp).1, hA, hA4, rfl, fun k _ => rfl, fun p hp => (h2.2.2.2.2.1 p hp).1⟩
  subst q2
  exact ⟨res, o, A', B', e1, e2, q1, q3, q4⟩
theorem pa_judge (N : Nat) (hN : 200 < N) : PA_judge N Rel := by
  intro g1 g2 hR
  obtain ⟨d, w, h0, h1, h2, h3, h4, h5, ⟨nb, hnb, b1, b2', b3⟩, h7⟩ := hR
  have hE := h0.1.2.2.1
  obtain ⟨base, hbe⟩ : ∃ base, base = ca_ 5 (sh_ 70 g1) (sh_ 26 g1) := ⟨_, rfl⟩
  have hb5 : sh_ 5 base = sh_ 26 g1 := by rw [hbe]; exact ca_5 _ _
  have hbk : ∀ k, k < 5 → base k = g1 (70 + k) := by
    intro k hk
    rw [hbe]
    unfold ca_
    have : Nat.ble 5 k = false := Bool.eq_false_iff.mpr (fun q => by have := Nat.le_of_ble_eq_true q; omega)
    rw [this]
    rfl
  have e14 : base 14 0 = nI (d 9 0) := by
    have := h1.2.1
    rw [← hb5] at this
    exact this
  obtain ⟨A, cA, A1, A2⟩ := c_jcopy N hN hE e14
  obtain ⟨v, cV, V1, V2⟩ := m_jcopy N hN g2
  have hMv : MT v (atD d (d 10)) w := MT_at h2 (fun k hk _ => V1 k (by omega)) (fun p hp => by rw [V1 10 (by decide)]; exact (h2.2.2.2.2.1 p hp).1)
  have hA4 : ∀ p, p < d 9 0 → A 4 p = nI (d 10 p) := fun p hp => by
    rw [A2 p hp]
    have := (h1.2.2.1 p hp).1
    rw [← hb5] at this
    exact this
  obtain ⟨res, o, A', B', j1, j2, j3, j4, j5⟩ := judge_loop N hN (base := base) (v := v) h0 h1 hb5 hMv hnb (by rw [hbk 1 (by decide)]; exact b1) (by rw [V1 39 (by decide)]; exact b2') (fun i hi => by
    obtain ⟨p, r, q1, q2, q3, q4, q5, q6⟩ := b3 i hi
    exact ⟨p, r, q1, q2, by rw [hbk 2 (by decide)]; exact q3, by rw [V1 40 (by decide)]; exact q4, by rw [hbk 3 (by decide)]; exact q5, by rw [V1 41 (by decide)]; exact q6⟩) A1 hA4
  obtain ⟨h, cH, H1, H2⟩ := m_jback N hN B'
  have hc : f_X0_firstWrong N base = some (res, A') := by
    unfold f_X0_firstWrong
    rw [cA, k_bs, j1, k_bs]
    rcases j3 with rfl | ⟨rfl, rfl⟩
    · rfl
    · rfl
  have hm : f_X7_judge N g2 = some (res, h) := by
    unfold f_X7_judge
    rw [cV, k_bs, j2, k_bs, cH, k_bs]
  have hA5 : sh_ 5 A' = sh_ 26 g1 := by
    rw [← hb5]
    funext k
    exact j4 (5 + k) (by omega)
  refine ⟨res, pu_ 70 5 (pu_ 26 19 g1 (sh_ 5 A')) A', h, ?_, hm, ?_⟩
  · unfold f_X6_judge
    rw [← hbe, hc]
    rfl
  · have key : ∀ k, k ≠ 74 → pu_ 70 5 (pu_ 26 19 g1 (sh_ 5 A')) A' k = g1 k := by
      intro k hk
      unfold pu_
      by_cases c : 70 ≤ k ∧ k + 1 ≤ 70 + 5
      · rw [show (Nat.ble 70 k && Nat.ble (k + 1) (70 + 5)) = true by rw [Bool.and_eq_true]; exact ⟨Nat.ble_eq_true_of_le c.1, Nat.ble_eq_true_of_le c.2⟩, cond_true, j4 (k - 70) (by omega), hbk (k - 70) (by omega), show 70 + (k - 70) = k by omega]
      · rw [show (Nat.ble 70 k && Nat.ble (k + 1) (70 + 5)) = false from Bool.eq_false_iff.mpr (fun q => by rw [Bool.and_eq_true] at q; exact c ⟨Nat.le_of_ble_eq_true q.1, Nat.le_of_ble_eq_true q.2⟩), cond_false]
        by_cases c2 : 26 ≤ k ∧ k + 1 ≤ 26 + 19
        · rw [show (Nat.ble 26 k && Nat.ble (k + 1) (26 + 19)) = true by rw [Bool.and_eq_true]; exact ⟨Nat.ble_eq_true_of_le c2.1, Nat.ble_eq_true_of_le c2.2⟩, cond_true, hA5]
          show g1 (26 + (k - 26)) = g1 k
          rw [show 26 + (k - 26) = k by omega]
        · rw [show (Nat.ble 26 k && Nat.ble (k + 1) (26 + 19)) = false from Bool.eq_false_iff.mpr (fun q => by rw [Bool.and_eq_true] at q; exact c2 ⟨Nat.le_of_ble_eq_true q.1, Nat.le_of_ble_eq_true q.2⟩), cond_false]
    refine Rel_of (d := d) (e := d) (w' := w) h3 h4 h5 ⟨nb, hnb, b1, b2', b3⟩ h7 (fun k hk => key k (by omega)) ?_ (SP.rf d) h0 ?_ ?_
    · have : ∀ k, 15 ≤ k → k ≠ 42 → h k = g2 k := fun k h15 h42 => by rw [H1 k (by omega), j5 k (by omega), V1 k h42]
      exact ⟨this 15 (by decide) (by decide), this 16 (by decide) (by decide), this 17 (by decide) (by decide), this 35 (by decide) (by decide), this 36 (by decide) (by decide), this 37 (by decide) (by decide), this 38 (by decide) (by decide), this 39 (by decide) (by decide), this 40 (by decide) (by decide), this 41 (by decide) (by decide), this 43 (by decide) (by decide), this 44 (by decide) (by decide)⟩
    · have : ∀ k, k < 48 → sh_ 26 (pu_ 70 5 (pu_ 26 19 g1 (sh_ 5 A')) A') k = sh_ 26 g1 k := fun k hk => key (26 + k) (by omega)
      have s1 : ∀ k, k < 9 → sh_ 1 (sh_ 26 (pu_ 70 5 (pu_ 26 19 g1 (sh_ 5 A')) A')) k = sh_ 1 (sh_ 26 g1) k := fun k hk => this (1 + k) (by omega)
      have s8 : ∀ k, k < 9 → sh_ 8 (sh_ 26 (pu_ 70 5 (pu_ 26 19 g1 (sh_ 5 A')) A')) k = sh_ 8 (sh_ 26 g1) k := fun k hk => this (8 + k) (by omega)
      unfold CT CP CS at h1 ⊢
      rw [s1 1 (by decide), s1 2 (by decide), s1 3 (by decide), s1 4 (by decide), s1 5 (by decide), s1 6 (by decide), s8 1 (by decide), s8 2 (by decide), s8 3 (by decide), s8 4 (by decide), s8 5 (by decide), s8 6 (by decide), s8 7 (by decide), s8 8 (by decide)]
      exact h1
    · exact MT_at (q := d 10) h2 (fun k hk h10 => by rw [H1 k h10, j5 k h10, V1 k (by omega)]) (fun p hp => by rw [H2 p (by omega), j5 42 (by decide), V2 p (by omega)]; exact (h2.2.2.2.2.1 p hp).1)
