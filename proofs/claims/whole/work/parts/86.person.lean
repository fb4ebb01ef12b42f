set_option maxHeartbeats 4000000 in
theorem cl_person (N : Nat) (hN : 1000 < N) {T : Nat} {tx : Nat → Nat} (hT : TX T tx) {i : Nat} {c m : St_} {e : Nat → Nat → Nat} (start : Int32) (hi : i ≤ T) (hc : TC c T tx) (hm : TM m T tx) (ac : c 24 0 = nI i) (am : m 18 0 = nI i) (c20 : c 2 0 = 0) (h0 : TD e) (hC : DC c e) (hM : DM m e) (hP : 1 ≤ e 1 0) (hr : e 9 0 < 8) (sg : Int64) : ∃ c' f m', f_X4_readPerson N c start = some c' ∧ Option.bind (Option.bind (f_X7_takePerson N m) (fun r19 => some (r19.1, r19.2, sg))) (tailM N) = some (f, m', sg) ∧ Out T tx e i m c' f m' := by
  have hT5 := hT.1
  have hP8 := h0.1.1
  obtain ⟨r, er⟩ : ∃ r, r = e 9 0 := ⟨_, rfl⟩
  have c13 : c 13 0 = nI r := by rw [er]; exact hC.2.2.2.1
  have m30 : m 30 0 = nI r := by rw [er]; exact hM.2.2.2.1
  have c6 : c 6 0 = nI (e 1 0) := hC.1
  have m23 : m 23 0 = nI (e 1 0) := hM.1
  rw [← er] at hr
  obtain ⟨m0, em0⟩ : ∃ m0, m0 = up1 m 30 0 (nI (r + 1)) := ⟨_, rfl⟩
  have fm0 : ∀ k, k ≠ 30 → m0 k = m k := fun k h => by rw [em0, u_nk _ _ _ h]
  have hm0 : TM m0 T tx := hm.to (fm0 16 (by decide)) (fm0 15 (by decide))
  have m018 : m0 18 0 = nI i := by rw [fm0 18 (by decide)]; exact am
  have FM0 : FMr m m0 := fun k hk => fm0 k (by omega)
  unfold f_X4_readPerson f_X7_takePerson f_X7_into__31 f_X7_into__32 f_X7_into__33
  rw [c13, if_pos (show nI r < (8 : Int32) by rw [k8_gt (by omega)]; exact hr), m30, m23, k1_ad, ← em0, k_ok hr (by omega), k_cl (show r < 2147483648 by omega)]
  simp only [k_gd]
  rcases plc N hN hT hi hc hm0 ac m018 hP hP8 c6 (-1) with ⟨v1, z1, c1, m1, a1, a2, a3, a4, a5, a6, a7, a8, a9, a10, a11⟩ | ⟨k, c1, m1, a1, a2, a3, a4, a5⟩
  · have v1m : ¬ nI v1 = (-1 : Int32) := by rw [k_m1 (by omega)]; exact fun h => h
    rw [a4 v1m, a6]
    simp only [k_bs]
    rw [if_neg v1m, if_pos (show (0 : Int32) ≤ 0 by decide), a9]
    obtain ⟨m2, em2⟩ : ∃ m2, m2 = up1 m1 31 r (nI v1) := ⟨_, rfl⟩
    rw [← em2]
    have fm2 : ∀ k, k ≠ 18 → k ≠ 21 → k ≠ 22 → k ≠ 31 → m2 k = m0 k := fun k h1 h2 h3 h4 => by rw [em2, u_nk _ _ _ h4]; exact a11 k h1 h2 h3
    have m231 : m2 31 r = nI v1 ∧ ∀ x, x ≠ r → m2 31 x = m0 31 x := ⟨by rw [em2, u_eq], fun x hx => by rw [em2, u_ne _ _ _ _ hx, a11 31 (by decide) (by decide) (by decide)]⟩
    have hm2 : TM m2 T tx := hm0.to (fm2 16 (by decide) (by decide) (by decide) (by decide)) (fm2 15 (by decide) (by decide) (by decide) (by decide))
    have m218 : m2 18 0 = nI z1 := by rw [em2, u_nk _ _ _ (by decide)]; exact a8
    have hc1 : TC c1 T tx := hc.to (a10 1 (by decide)) (a10 23 (by decide))
    have FM2 : FMr m m2 := FM0.tr (fun k hk => fm2 k (by omega) (by omega) (by omega) (by omega))
    rcases num N hN hT a3 a3 rfl hc1 hm2 a7 m218 (lo := 1) (up := 24) (by decide) (by decide) with ⟨v2, z2, c2, m3, b1, b2', b3, b4, b5, b6, b7, b8, b9, b10, b11, b12⟩ | ⟨k, c2, m3, b1, b2', b3, b4, b5⟩
    · have v2m : ¬ nI v2 = (-1 : Int32) := by rw [k_m1 (by omega)]; exact fun h => h
      have hs1 := sc_ge (bl tx) T z1
      rw [show f_X4_readNumber N c1 1 24 = _ from b5, show f_X7_takeNumber N m2 1 24 = _ from b6]
      simp only [k_bs]
      rw [if_neg v2m, if_neg (show ¬ (0 : Int32) < 0 by decide), b9]
      obtain ⟨m4, em4⟩ : ∃ m4, m4 = up1 (up1 m3 32 r (nI v2)) 33 r 0 := ⟨_, rfl⟩
      rw [← em4]
      have fm4 : ∀ k, k ≠ 18 → k ≠ 21 → k ≠ 22 → k ≠ 32 → k ≠ 33 → m4 k = m2 k := fun k h1 h2 h3 h4 h5 => by rw [em4, u_nk _ _ _ h5, u_nk _ _ _ h4]; exact b12 k h1 h2 h3
      have m432 : m4 32 r = nI v2 ∧ ∀ x, x ≠ r → m4 32 x = m2 32 x := ⟨by rw [em4, u_nk _ _ _ (by decide), u_eq], fun x hx => by rw [em4, u_nk _ _ _ (by decide), u_ne _ _ _ _ hx, b12 32 (by decide) (by decide) (by decide)]⟩
      have m433 : m4 33 r = 0 ∧ ∀ x, x ≠ r → m4 33 x = m2 33 x := ⟨by rw [em4, u_eq], fun x hx => by rw [em4, u_ne _ _ _ _ hx, u_nk _ _ _ (by decide), b12 33 (by decide) (by decide) (by decide)]⟩
      have hm4 : TM m4 T tx := hm2.to (fm4 16 (by decide) (by decide) (by decide) (by decide) (by decide)) (fm4 15 (by decide) (by decide) (by decide) (by decide) (by decide))
      have m418 : m4 18 0 = nI z2 := by rw [em4, u_nk _ _ _ (by decide), u_nk _ _ _ (by decide)]; exact b8
      have hc2 : TC c2 T tx := hc1.to (b11 1 (by decide)) (b11 23 (by decide))
      have FM4 : FMr m m4 := FM2.tr (fun k hk => fm4 k (by omega) (by omega) (by omega) (by omega) (by omega))
      have fc2 : FC c c2 := fun k hk => (b11 k hk).trans (a10 k hk)
      obtain ⟨c3, l1, l2, l3⟩ := c_look N hN hT b4 hc2 b7
      obtain ⟨m5, n1, n2, n3⟩ := m_here N hN hT b4 hm4 m418
      rw [l1, n1]
      simp only [k_bs]
      have hz3 := sc_le (bl tx) b4
      have hz4 := sc_ge (bl tx) T z2
      have hc3 : TC c3 T tx := hc2.to (l2 1 (by decide)) (l2 23 (by decide))
      have hm5 : TM m5 T tx := hm4.to (n2 16 (by decide)) (n2 15 (by decide))
      have fc3 : FC c c3 := fun k hk => (l2 k hk).trans (fc2 k hk)
      have FM5 : FMr m m5 := FM4.tr (fun k hk => n2 k (by omega))
      -- what both do behind the strides
      have fin : ∀ (v3 y1 y2 : Nat) (c4 m6 : St_), v3 ≤ 24 → i < y2 → y1 ≤ T → y2 ≤ T → sc (bl tx) T y1 = sc (bl tx) T y2 → c4 24 0 = nI y1 → m6 18 0 = nI y2 → FC c c4 → (∀ k, k ≠ 18 → k ≠ 21 → k ≠ 22 → k ≠ 33 → m6 k = m5 k) → (m6 33 r = nI v3 ∧ ∀ x, x ≠ r → m6 33 x = m 33 x) → ∃ c' f m', (if nI v3 = (-1 : Int32) then some c4 else Option.bind (f_X4_readSign N c4 59) (fun r8 => if r8.1 = 0 then some r8.2 else Option.bind (f_X3_addPerson N (sh_ 12 r8.2) (nI v1) (nI v2) (nI v3)) (fun r9 => some (pu_ 12 9 r8.2 r9)))) = some c' ∧ tailM N (0, m6, sg) = some (f, m', sg) ∧ Out T tx e i m c' f m' := by
        intro v3 y1 y2 c4 m6 g0 g1 g2 g3 g4 g5 g6 g7 g8 g9
        rw [if_neg (show ¬ nI v3 = (-1 : Int32) by rw [k_m1 (by omega)]; exact fun h => h)]
        have hc4 : TC c4 T tx := hc.to (g7 1 (by decide)) (g7 23 (by decide))
        have hm6 : TM m6 T tx := hm5.to (g8 16 (by decide) (by decide) (by decide) (by decide)) (g8 15 (by decide) (by decide) (by decide) (by decide))
        have FM6 : FMr m m6 := FM5.tr (fun k hk => g8 k (by omega) (by omega) (by omega) (by omega))
        have hy2 := sc_ge (bl tx) T y2
        rcases sign N hN hT g2 g3 g4 hc4 hm6 g5 g6 with ⟨c5, m7, s1, s2, s3, s4, s5, s6, s7⟩ | ⟨x, c5, m7, s2, s3, s4, s5, s6, s7, s8, s9⟩
        · have fc5 : FC c c5 := fun k hk => (s6 k hk).trans (g7 k hk)
          have e13 : sh_ 12 c5 1 0 = nI r := by show c5 13 0 = nI r; rw [fc5 13 (by decide)]; exact c13
          rw [s2, k_bs, tail_ok N sg s3, s5, k1_ad]
          dsimp only
          unfold f_X3_addPerson
          rw [if_neg (show ¬ (1 : Int32) = 0 by decide), e13, if_neg (show ¬ (8 : Int32) ≤ nI r by rw [k8_le (by omega)]; omega), k_ok hr (by omega), k_cl (show r < 2147483648 by omega), k_gd, k_gd, k_gd, k_bs, k1_ad]
          obtain ⟨u, eu⟩ : ∃ u, u = up1 (up1 (up1 (up1 (sh_ 12 c5) 2 r (nI v1)) 3 r (nI v2)) 4 r (nI v3)) 1 0 (nI (r + 1)) := ⟨_, rfl⟩
          obtain ⟨mf, emf⟩ : ∃ mf, mf = up1 m7 18 0 (nI (sc (bl tx) T y2 + 1)) := ⟨_, rfl⟩
          rw [← eu, ← emf]
          have fu : ∀ k, k ≠ 1 → k ≠ 2 → k ≠ 3 → k ≠ 4 → u k = c5 (12 + k) := fun k h1 h2 h3 h4 => by rw [eu, u_nk _ _ _ h1, u_nk _ _ _ h4, u_nk _ _ _ h3, u_nk _ _ _ h2]; rfl
          have fcf : ∀ k, k ≠ 13 → k ≠ 14 → k ≠ 15 → k ≠ 16 → pu_ 12 9 c5 u k = c5 k := fun k h1 h2 h3 h4 => by
            by_cases q : 12 ≤ k ∧ k < 21
            · rw [pu_in 12 9 _ _ q.1 (by omega), fu (k - 12) (by omega) (by omega) (by omega) (by omega), show 12 + (k - 12) = k by omega]
            · rw [pu_no 12 9 _ _ (by omega)]
          have fmf : ∀ k, k ≠ 18 → mf k = m6 k := fun k h => by rw [emf, u_nk _ _ _ h, s7 k h]
          have t5 : ∀ k, k ≠ 18 → k ≠ 21 → k ≠ 22 → k ≠ 33 → mf k = m4 k := fun k h1 h2 h3 h4 => by rw [fmf k h1, g8 k h1 h2 h3 h4, n2 k h1]
          have t4 : ∀ k, k ≠ 18 → k ≠ 21 → k ≠ 22 → k ≠ 32 → k ≠ 33 → mf k = m2 k := fun k h1 h2 h3 h4 h5 => by rw [t5 k h1 h2 h3 h5, fm4 k h1 h2 h3 h4 h5]
          have t2 : ∀ k, k ≠ 18 → k ≠ 21 → k ≠ 22 → k ≠ 31 → k ≠ 32 → k ≠ 33 → mf k = m0 k := fun k h1 h2 h3 h6 h4 h5 => by rw [t4 k h1 h2 h3 h4 h5, fm2 k h1 h2 h3 h6]
          have t0 : ∀ k, k ≠ 18 → k ≠ 21 → k ≠ 22 → k ≠ 30 → k ≠ 31 → k ≠ 32 → k ≠ 33 → mf k = m k := fun k h1 h2 h3 h7 h6 h4 h5 => by rw [t2 k h1 h2 h3 h6 h4 h5, fm0 k h7]
          refine ⟨_, 0, mf, rfl, rfl, hc.to ((fcf 1 (by decide) (by decide) (by decide) (by decide)).trans (fc5 1 (by decide))) ((fcf 23 (by decide) (by decide) (by decide) (by decide)).trans (fc5 23 (by decide))), hm6.to (fmf 16 (by decide)) (fmf 15 (by decide)), FM6.tr (fun k hk => fmf k (by omega)), Or.inl ⟨rfl, ?_, ?_, peE e v1 v2 v3, sc (bl tx) T y2 + 1, by omega, by omega, TD_pe h0 (by rw [← er]; exact hr) a1 b1 b2' g0, ?_, ?_, ?_, ?_, rfl, rfl⟩⟩
          · rw [fcf 2 (by decide) (by decide) (by decide) (by decide), fc5 2 (by decide)]; exact c20
          · rw [t0 17 (by decide) (by decide) (by decide) (by decide) (by decide) (by decide) (by decide)]
          · have p13 : pu_ 12 9 c5 u 13 = u 1 := rfl
            have p14 : pu_ 12 9 c5 u 14 = u 2 := rfl
            have p15 : pu_ 12 9 c5 u 15 = u 3 := rfl
            have p16 : pu_ 12 9 c5 u 16 = u 4 := rfl
            have x14 : sh_ 12 c5 2 = c 14 := fc5 14 (by decide)
            have x15 : sh_ 12 c5 3 = c 15 := fc5 15 (by decide)
            have x16 : sh_ 12 c5 4 = c 16 := fc5 16 (by decide)
            unfold DC
            rw [p13, p14, p15, p16, fcf 6 (by decide) (by decide) (by decide) (by decide), fcf 7 (by decide) (by decide) (by decide) (by decide), fcf 8 (by decide) (by decide) (by decide) (by decide), fcf 9 (by decide) (by decide) (by decide) (by decide), fcf 10 (by decide) (by decide) (by decide) (by decide), fcf 11 (by decide) (by decide) (by decide) (by decide), fcf 17 (by decide) (by decide) (by decide) (by decide), fc5 6 (by decide), fc5 7 (by decide), fc5 8 (by decide), fc5 9 (by decide), fc5 10 (by decide), fc5 11 (by decide), fc5 17 (by decide)]
            refine DG_pe hC ?_ ⟨?_, fun x hx => ?_⟩ ⟨?_, fun x hx => ?_⟩ ⟨?_, fun x hx => ?_⟩
            · rw [eu, u_eq, er]
            · rw [← er, eu, u_nk _ _ _ (by decide), u_nk _ _ _ (by decide), u_nk _ _ _ (by decide), u_eq]
            · rw [← er] at hx
              rw [eu, u_nk _ _ _ (by decide), u_nk _ _ _ (by decide), u_nk _ _ _ (by decide), u_ne _ _ _ _ hx, x14]
            · rw [← er, eu, u_nk _ _ _ (by decide), u_nk _ _ _ (by decide), u_eq]
            · rw [← er] at hx
              rw [eu, u_nk _ _ _ (by decide), u_nk _ _ _ (by decide), u_ne _ _ _ _ hx, u_nk _ _ _ (by decide), x15]
            · rw [← er, eu, u_nk _ _ _ (by decide), u_eq]
            · rw [← er] at hx
              rw [eu, u_nk _ _ _ (by decide), u_ne _ _ _ _ hx, u_nk _ _ _ (by decide), u_nk _ _ _ (by decide), x16]
          · unfold DM
            rw [t0 23 (by decide) (by decide) (by decide) (by decide) (by decide) (by decide) (by decide), t0 24 (by decide) (by decide) (by decide) (by decide) (by decide) (by decide) (by decide), t0 25 (by decide) (by decide) (by decide) (by decide) (by decide) (by decide) (by decide), t0 26 (by decide) (by decide) (by decide) (by decide) (by decide) (by decide) (by decide), t0 27 (by decide) (by decide) (by decide) (by decide) (by decide) (by decide) (by decide), t0 28 (by decide) (by decide) (by decide) (by decide) (by decide) (by decide) (by decide), t0 29 (by decide) (by decide) (by decide) (by decide) (by decide) (by decide) (by decide)]
            refine DG_pe hM ?_ ⟨?_, fun x hx => ?_⟩ ⟨?_, fun x hx => ?_⟩ ⟨?_, fun x hx => ?_⟩
            · rw [t2 30 (by decide) (by decide) (by decide) (by decide) (by decide) (by decide), em0, u_eq, er]
            · rw [← er, t4 31 (by decide) (by decide) (by decide) (by decide) (by decide)]; exact m231.1
            · rw [← er] at hx
              rw [t4 31 (by decide) (by decide) (by decide) (by decide) (by decide), m231.2 x hx, fm0 31 (by decide)]
            · rw [← er, t5 32 (by decide) (by decide) (by decide) (by decide)]; exact m432.1
            · rw [← er] at hx
              rw [t5 32 (by decide) (by decide) (by decide) (by decide), m432.2 x hx, fm2 32 (by decide) (by decide) (by decide) (by decide), fm0 32 (by decide)]
            · rw [← er, fmf 33 (by decide)]; exact g9.1
            · rw [← er] at hx
              rw [fmf 33 (by decide)]; exact g9.2 x hx
          · rw [fcf 24 (by decide) (by decide) (by decide) (by decide)]; exact s4
          · rw [emf, u_eq]
        · rw [s2, k_bs, tail_no N sg s3 s4, s7]
          dsimp only
          rw [if_pos rfl]
          refine ⟨_, _, _, rfl, rfl, Out.bad hc hm ((FCr.fc g7).tr (FCr.f3 s8)) (FMr.up (FM6.tr (fun k hk => s9 k (by omega))) 0 _ (by decide) (by decide)) ⟨by decide, by decide, s5, ?_⟩⟩
          rw [s6, u_eq]
      have m533 : m5 33 r = nI 0 ∧ ∀ x, x ≠ r → m5 33 x = m 33 x := ⟨by rw [n2 33 (by decide)]; exact m433.1, fun x hx => by rw [n2 33 (by decide), m433.2 x hx, fm2 33 (by decide) (by decide) (by decide) (by decide), fm0 33 (by decide)]⟩
      rcases lk_fig N hT z2 with ⟨q1, q2, q3, q4, q5⟩ | ⟨q4, q5⟩
      · rw [q4, q5]
        simp only [k_bs, k_10, if_false]
        rcases num N hN hT hz3 hz3 rfl hc3 hm5 l3 n3 (lo := 1) (up := 24) (by decide) (by decide) with ⟨v3, z3, c4, m6, d1, d2, d3, d4, d5, d6, d7, d8, d9, d10, d11, d12⟩ | ⟨k, c4, m6, d1, d2, d3, d4, d5⟩
        · rw [show f_X4_readNumber N c3 1 24 = _ from d5, show f_X7_takeNumber N m5 1 24 = _ from d6]
          simp only [k_bs]
          rw [d9]
          have hs5 := sc_ge (bl tx) T (sc (bl tx) T z2)
          exact fin v3 z3 z3 c4 (up1 m6 33 r (nI v3)) d2 (by omega) d4 d4 rfl d7 (by rw [u_nk _ _ _ (by decide)]; exact d8) (fun k hk => (d11 k hk).trans (fc3 k hk)) (fun k h1 h2 h3 h4 => by rw [u_nk _ _ _ h4]; exact d12 k h1 h2 h3) ⟨u_eq _ _ _ _, fun x hx => by rw [u_ne _ _ _ _ hx, d12 33 (by decide) (by decide) (by decide)]; exact m533.2 x hx⟩
        · rw [show f_X4_readNumber N c3 1 24 = _ from d1, show f_X7_takeNumber N m5 1 24 = _ from d2]
          simp only [k_bs, k_m11, if_true]
          exact ⟨_, _, _, rfl, tail_bad N _ _ d3.1 d3.2.1, Out.bad hc hm ((FCr.fc fc3).tr (FCr.f3 d4)) (FMr.up (FMr.up (FM5.tr (FMr.f4 d5)) _ _ (by decide) (by decide)) 0 _ (by decide) (by decide)) ((d3.up 33 _ _ (by decide)).up 18 _ _ (by decide))⟩
      · rw [q4, q5]
        simp only [k_bs, k_00, if_true]
        exact fin 0 (sc (bl tx) T z2) (sc (bl tx) T z2) c3 m5 (by decide) (by omega) hz3 hz3 rfl l3 n3 fc3 (fun k _ _ _ _ => rfl) m533
    · rw [show f_X4_readNumber N c1 1 24 = _ from b1, show f_X7_takeNumber N m2 1 24 = _ from b2']
      simp only [k_bs, k_m11, if_true]
      rw [if_pos (show (0 : Int32) < nI k by rw [k_q0 (by have := b3.2.1; omega)]; exact b3.1)]
      simp only [k_bs]
      exact ⟨_, _, _, rfl, tail_bad N _ _ b3.1 b3.2.1, Out.bad hc hm ((FCr.fc a10).tr (FCr.f3 b4)) (FMr.up (FMr.up (FMr.up (FM2.tr (FMr.f4 b5)) _ _ (by decide) (by decide)) _ _ (by decide) (by decide)) 0 _ (by decide) (by decide)) (((b3.up 32 _ _ (by decide)).up 33 _ _ (by decide)).up 18 _ _ (by decide))⟩
  · rw [a1, a2]
    simp only [k_bs, k_m11, if_true]
    rw [if_neg (k_kz a3.1 a3.2.1)]
    simp only [k_bs]
    rw [if_pos (show (0 : Int32) < nI k by rw [k_q0 (by have := a3.2.1; omega)]; exact a3.1)]
    simp only [k_bs]
    exact ⟨_, _, _, rfl, tail_bad N _ _ a3.1 a3.2.1, Out.bad hc hm (FCr.f3 a4) (FMr.up (FMr.up (FMr.up (FM0.tr (FMr.f4 a5)) _ _ (by decide) (by decide)) _ _ (by decide) (by decide)) 0 _ (by decide) (by decide)) (((a3.up 31 _ _ (by decide)).up 33 _ _ (by decide)).up 18 _ _ (by decide))⟩
