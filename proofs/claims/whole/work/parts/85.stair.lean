-- ===== a stair's clause, a person's clause =====
set_option maxHeartbeats 4000000 in
theorem cl_stair (N : Nat) (hN : 1000 < N) {T : Nat} {tx : Nat → Nat} (hT : TX T tx) {i : Nat} {c m : St_} {e : Nat → Nat → Nat} (start : Int32) (hi : i ≤ T) (hc : TC c T tx) (hm : TM m T tx) (ac : c 24 0 = nI i) (am : m 18 0 = nI i) (c20 : c 2 0 = 0) (h0 : TD e) (hC : DC c e) (hM : DM m e) (hP : 1 ≤ e 1 0) (hr : e 2 0 < 10) (sg : Int64) : ∃ c' f m' sg', f_X4_readStair N c start = some c' ∧ Option.bind (f_X7_takeStair N m sg) (tailM N) = some (f, m', sg') ∧ Out T tx e i m c' f m' := by
  have hT5 := hT.1
  have hP8 := h0.1.1
  obtain ⟨r, er⟩ : ∃ r, r = e 2 0 := ⟨_, rfl⟩
  have c7 : c 7 0 = nI r := by rw [er]; exact hC.2.1
  have m24 : m 24 0 = nI r := by rw [er]; exact hM.2.1
  have c6 : c 6 0 = nI (e 1 0) := hC.1
  have m23 : m 23 0 = nI (e 1 0) := hM.1
  rw [← er] at hr
  have hm0 : TM (up1 m 24 0 (nI (r + 1))) T tx := hm.to (u_nk _ _ _ (by decide)) (u_nk _ _ _ (by decide))
  obtain ⟨m1, w1, w2, w3, w4⟩ := m_word N hN hT sg hi hm0 (show up1 m 24 0 (nI (r + 1)) 18 0 = nI i by rw [u_nk _ _ _ (by decide)]; exact am)
  have hs := sc_le (bl tx) hi
  have hsi := sc_ge (bl tx) T i
  have hz := sc_le (isl tx) hs
  have hzs := sc_ge (isl tx) T (sc (bl tx) T i)
  have fm1 : ∀ k, k ≠ 18 → k ≠ 20 → k ≠ 24 → m1 k = m k := fun k h1 h2 h3 => by rw [w2 k h1 h2, u_nk _ _ _ h3]
  have m124 : m1 24 0 = nI (r + 1) := by rw [w2 24 (by decide) (by decide), u_eq]
  unfold f_X4_readStair f_X7_takeStair
  rw [c7, if_pos (show nI r < (10 : Int32) by rw [k10_gt (by omega)]; exact hr), m24, k1_ad, w1, k_bs, cw_plai, k_bs, cw_plain, k_bs]
  dsimp only
  rcases kindB N hN hT hi hc ac with ⟨kd, c1, kd2, K1, K2, K3, K4⟩ | ⟨c1, K1, K2, K3, K4, K5⟩
  · obtain ⟨z, ez⟩ : ∃ z, sc (isl tx) T (sc (bl tx) T i) = z := ⟨_, rfl⟩
    rw [ez] at hz hzs w4 K4
    rw [K1, K2, k_bs, k_bs]
    dsimp only
    rw [if_neg (show ¬ nI kd = (-1 : Int32) by rw [k_m1 (by omega)]; exact fun h => h), if_pos (show 0 ≤ nI kd from nI_pos' (by omega)), k_ok hr (by omega), k_cl (show r < 2147483648 by omega), w4, fm1 23 (by decide) (by decide) (by decide), m23]
    unfold f_X7_into__26 f_X7_into__27
    rw [k_ok hr (by omega), k_cl (show r < 2147483648 by omega)]
    simp only [k_gd]
    have hc1 : TC c1 T tx := hc.to (K3 1 (by decide)) (K3 23 (by decide))
    have c16 : c1 6 0 = nI (e 1 0) := by rw [K3 6 (by decide)]; exact c6
    obtain ⟨m2, em2⟩ : ∃ m2, m2 = up1 (up1 m1 18 0 (nI z)) 25 r (nI kd) := ⟨_, rfl⟩
    have fm2 : ∀ k, k ≠ 18 → k ≠ 20 → k ≠ 24 → k ≠ 25 → m2 k = m k := fun k h1 h2 h3 h4 => by rw [em2, u_nk _ _ _ h4, u_nk _ _ _ h1]; exact fm1 k h1 h2 h3
    have m224 : m2 24 0 = nI (r + 1) := by rw [em2, u_nk _ _ _ (by decide), u_nk _ _ _ (by decide)]; exact m124
    have m225 : m2 25 r = nI kd ∧ ∀ x, x ≠ r → m2 25 x = m 25 x := ⟨by rw [em2, u_eq], fun x hx => by rw [em2, u_ne _ _ _ _ hx, u_nk _ _ _ (by decide), fm1 25 (by decide) (by decide) (by decide)]⟩
    have m218 : m2 18 0 = nI z := by rw [em2, u_nk _ _ _ (by decide), u_eq]
    have hm2 : TM m2 T tx := hm.to (fm2 16 (by decide) (by decide) (by decide) (by decide)) (fm2 15 (by decide) (by decide) (by decide) (by decide))
    rw [← em2]
    have FM2 : FMr m m2 := fun k hk => fm2 k (by omega) (by omega) (by omega) (by omega)
    rcases plc N hN hT hz hc1 hm2 K4 m218 hP hP8 c16 (-1) with ⟨v1, z1, c2, m3, a1, a2, a3, a4, a5, a6, a7, a8, a9, a10, a11⟩ | ⟨k, c2, m3, a1, a2, a3, a4, a5⟩
    · have v1m : ¬ nI v1 = (-1 : Int32) := by rw [k_m1 (by omega)]; exact fun h => h
      rw [a4 v1m, a6]
      simp only [k_bs]
      rw [if_neg v1m, if_pos (show (0 : Int32) ≤ 0 by decide), a9]
      obtain ⟨m4, em4⟩ : ∃ m4, m4 = up1 m3 26 r (nI v1) := ⟨_, rfl⟩
      rw [← em4]
      have fm4 : ∀ k, k ≠ 18 → k ≠ 21 → k ≠ 22 → k ≠ 26 → m4 k = m2 k := fun k h1 h2 h3 h4 => by rw [em4, u_nk _ _ _ h4]; exact a11 k h1 h2 h3
      have m426 : m4 26 r = nI v1 ∧ ∀ x, x ≠ r → m4 26 x = m2 26 x := ⟨by rw [em4, u_eq], fun x hx => by rw [em4, u_ne _ _ _ _ hx, a11 26 (by decide) (by decide) (by decide)]⟩
      have m418 : m4 18 0 = nI z1 := by rw [em4, u_nk _ _ _ (by decide)]; exact a8
      have hm4 : TM m4 T tx := hm2.to (fm4 16 (by decide) (by decide) (by decide) (by decide)) (fm4 15 (by decide) (by decide) (by decide) (by decide))
      have hc2 : TC c2 T tx := hc1.to (a10 1 (by decide)) (a10 23 (by decide))
      have c26 : c2 6 0 = nI (e 1 0) := by rw [a10 6 (by decide)]; exact c16
      have FM4 : FMr m m4 := FM2.tr (fun k hk => fm4 k (by omega) (by omega) (by omega) (by omega))
      rw [fm4 23 (by decide) (by decide) (by decide) (by decide), fm2 23 (by decide) (by decide) (by decide) (by decide), m23]
      rcases plc N hN hT a3 hc2 hm4 a7 m418 hP hP8 c26 (nI v1) with ⟨v2, z2, c3, m5, b1, b2', b3, b4, b5, b6, b7, b8, b9, b10, b11⟩ | ⟨k, c3, m5, b1, b2', b3, b4, b5⟩
      · rw [b6]
        simp only [k_bs]
        rw [if_pos (show (0 : Int32) ≤ 0 by decide), b9]
        obtain ⟨m6, em6⟩ : ∃ m6, m6 = up1 m5 27 r (nI v2) := ⟨_, rfl⟩
        rw [← em6]
        have fm6 : ∀ k, k ≠ 18 → k ≠ 21 → k ≠ 22 → k ≠ 27 → m6 k = m4 k := fun k h1 h2 h3 h4 => by rw [em6, u_nk _ _ _ h4]; exact b11 k h1 h2 h3
        have m627 : m6 27 r = nI v2 ∧ ∀ x, x ≠ r → m6 27 x = m4 27 x := ⟨by rw [em6, u_eq], fun x hx => by rw [em6, u_ne _ _ _ _ hx, b11 27 (by decide) (by decide) (by decide)]⟩
        have m626 : m6 26 r = nI v1 := by rw [fm6 26 (by decide) (by decide) (by decide) (by decide)]; exact m426.1
        have m622 : m6 22 = m5 22 := by rw [em6, u_nk _ _ _ (by decide)]
        have FM6 : FMr m m6 := FM4.tr (fun k hk => fm6 k (by omega) (by omega) (by omega) (by omega))
        have hm6 : TM m6 T tx := hm4.to (fm6 16 (by decide) (by decide) (by decide) (by decide)) (fm6 15 (by decide) (by decide) (by decide) (by decide))
        have hc3 : TC c3 T tx := hc2.to (b10 1 (by decide)) (b10 23 (by decide))
        have fc3 : FC c c3 := fun k hk => (b10 k hk).trans ((a10 k hk).trans (K3 k hk))
        rw [m626, m627.1]
        by_cases same : v1 = v2
        · rw [if_pos (show nI v1 = nI v2 by rw [same]), b5 (by rw [same])]
          simp only [k_bs, k_m11, if_true, f_X7_fails]
          refine ⟨_, _, _, _, rfl, tail_bad N _ _ (k := 4) (by decide) (by decide), Out.bad hc hm ((FCr.fc fc3).tr ⟨?_, ?_⟩) (FMr.up (FMr.up FM6 0 _ (by decide) (by decide)) 0 _ (by decide) (by decide)) (Bad.up ⟨by decide, by decide, rfl, ?_⟩ 18 _ _ (by decide))⟩
          · rw [u_nk _ _ _ (by decide), u_nk _ _ _ (by decide)]
          · rw [u_nk _ _ _ (by decide), u_nk _ _ _ (by decide)]
          · rw [u_eq, u_eq, m622]
        · have v2m : ¬ nI v2 = (-1 : Int32) := by rw [k_m1 (by omega)]; exact fun h => h
          rw [if_neg (show ¬ nI v1 = nI v2 from fun q => same ((nI_eq (by omega) (by omega)).mp q)), b4 (fun q => same ((nI_eq (by omega) (by omega)).mp q).symm)]
          simp only [k_bs]
          rw [if_neg v2m]
          unfold f_X4_readParts f_X7_takeParts
          rw [k_ok hr (by omega), k_gd, k_cl (show r < 2147483648 by omega)]
          obtain ⟨m7, em7⟩ : ∃ m7, m7 = up1 m6 28 r 0 := ⟨_, rfl⟩
          rw [← em7]
          have fm7 : ∀ k, k ≠ 28 → m7 k = m6 k := fun k h => by rw [em7, u_nk _ _ _ h]
          have m728 : m7 28 r = nI 0 ∧ ∀ x, x ≠ r → m7 28 x = m6 28 x := ⟨by rw [em7, u_eq]; rfl, fun x hx => by rw [em7, u_ne _ _ _ _ hx]⟩
          have hm7 : TM m7 T tx := hm6.to (fm7 16 (by decide)) (fm7 15 (by decide))
          have FM7 : FMr m m7 := FM6.tr (fun k hk => fm7 k (by omega))
          have m718 : m7 18 0 = nI z2 := by rw [fm7 18 (by decide), em6, u_nk _ _ _ (by decide)]; exact b8
          rcases parts0 N hN hT hr N 0 z2 c3 m7 (fun _ => 0) (by decide) (by omega) b3 hc3 hm7 b7 m718 m728.1 (fun x hx => absurd hx (Nat.not_lt_zero x)) with ⟨q, y1, y2, c4, m8, st, d1, d2, d3, d4, d5, d6, d7, d8, d9, d10, d11, d12, d13⟩ | ⟨k, c4, m8, d1, d2, d3, d4, d5⟩
          · rw [show f_X4_readParts_L2 N (nI r) N 0 c3 = _ from d7, d8]
            have hc4 : TC c4 T tx := hc3.to (d13.1 1 (by decide) (by decide)) (d13.1 23 (by decide) (by decide))
            have hm8 : TM m8 T tx := hm7.to (d13.2.2.1 16 (by decide) (by decide) (by decide) (by decide) (by decide)) (d13.2.2.1 15 (by decide) (by decide) (by decide) (by decide) (by decide))
            have FM8 : FMr m m8 := FM7.tr (fun k hk => d13.2.2.1 k (by omega) (by omega) (by omega) (by omega) (by omega))
            have qm : ¬ nI q = (-1 : Int32) := by rw [k_m1 (by omega)]; exact fun h => h
            have hy2 := sc_ge (bl tx) T y2
            rcases sign N hN hT d4 d5 d6 hc4 hm8 d9 d10 with ⟨c5, m9, s1, s2, s3, s4, s5, s6, s7⟩ | ⟨x, c5, m9, s2, s3, s4, s5, s6, s7, s8, s9⟩
            · rw [s2]
              simp only [k_bs, k_sl, k_sr, k_10, if_false]
              rw [if_neg qm, tail_ok N _ s3, s5, k1_ad]
              obtain ⟨cf, ecf⟩ : ∃ cf, cf = up1 (up1 (up1 (up1 (up1 c5 8 r (nI kd)) 9 r (nI v1)) 10 r (nI v2)) 11 r (nI q)) 7 0 (nI (r + 1)) := ⟨_, rfl⟩
              obtain ⟨mf, emf⟩ : ∃ mf, mf = up1 m9 18 0 (nI (sc (bl tx) T y2 + 1)) := ⟨_, rfl⟩
              rw [← ecf, ← emf]
              have fc5 : ∀ k, k ≠ 17 → k ≠ 24 → c5 k = c k := fun k h1 h2 => by rw [s6 k h2, d13.1 k h1 h2, fc3 k h2]
              have fcf : ∀ k, k ≠ 7 → k ≠ 8 → k ≠ 9 → k ≠ 10 → k ≠ 11 → cf k = c5 k := fun k h1 h2 h3 h4 h5 => by rw [ecf, u_nk _ _ _ h1, u_nk _ _ _ h5, u_nk _ _ _ h4, u_nk _ _ _ h3, u_nk _ _ _ h2]
              have fm8 : ∀ k, k ≠ 18 → k ≠ 20 → k ≠ 21 → k ≠ 22 → k ≠ 24 → k ≠ 25 → k ≠ 26 → k ≠ 27 → k ≠ 28 → k ≠ 29 → m8 k = m k := fun k h1 h2 h3 h4 h5 h6 h7 h8 h9 h10 => by rw [d13.2.2.1 k h1 h3 h4 h9 h10, fm7 k h9, fm6 k h1 h3 h4 h8, fm4 k h1 h3 h4 h7, fm2 k h1 h2 h5 h6]
              have fmf : ∀ k, k ≠ 18 → mf k = m8 k := fun k h => by rw [emf, u_nk _ _ _ h, s7 k h]
              have t8 : ∀ k, k ≠ 18 → k ≠ 21 → k ≠ 22 → k ≠ 28 → k ≠ 29 → mf k = m7 k := fun k h1 h2 h3 h4 h5 => by rw [fmf k h1, d13.2.2.1 k h1 h2 h3 h4 h5]
              have t6 : ∀ k, k ≠ 18 → k ≠ 21 → k ≠ 22 → k ≠ 28 → k ≠ 29 → mf k = m6 k := fun k h1 h2 h3 h4 h5 => by rw [t8 k h1 h2 h3 h4 h5, fm7 k h4]
              have t4 : ∀ k, k ≠ 18 → k ≠ 21 → k ≠ 22 → k ≠ 27 → k ≠ 28 → k ≠ 29 → mf k = m4 k := fun k h1 h2 h3 h6 h4 h5 => by rw [t6 k h1 h2 h3 h4 h5, fm6 k h1 h2 h3 h6]
              have t2 : ∀ k, k ≠ 18 → k ≠ 21 → k ≠ 22 → k ≠ 26 → k ≠ 27 → k ≠ 28 → k ≠ 29 → mf k = m2 k := fun k h1 h2 h3 h7 h6 h4 h5 => by rw [t4 k h1 h2 h3 h6 h4 h5, fm4 k h1 h2 h3 h7]
              have t0 : ∀ k, k ≠ 18 → k ≠ 20 → k ≠ 21 → k ≠ 22 → k ≠ 24 → k ≠ 25 → k ≠ 26 → k ≠ 27 → k ≠ 28 → k ≠ 29 → mf k = m k := fun k h1 h2 h3 h4 h5 h6 h7 h8 h9 h10 => by rw [t2 k h1 h3 h4 h7 h8 h9 h10, fm2 k h1 h2 h5 h6]
              refine ⟨cf, 0, mf, _, rfl, rfl, hc.to ((fcf 1 (by decide) (by decide) (by decide) (by decide) (by decide)).trans (fc5 1 (by decide) (by decide))) ((fcf 23 (by decide) (by decide) (by decide) (by decide) (by decide)).trans (fc5 23 (by decide) (by decide))), hm8.to (fmf 16 (by decide)) (fmf 15 (by decide)), FM8.tr (fun k hk => fmf k (by omega)), Or.inl ⟨rfl, ?_, ?_, stE e kd v1 v2 q st, sc (bl tx) T y2 + 1, by omega, by omega, TD_st h0 (by rw [← er]; exact hr) kd2 a1 b1 same d1 d2 (fun x hx => (d12 x hx).2.2), ?_, ?_, ?_, ?_, rfl, rfl⟩⟩
              · rw [fcf 2 (by decide) (by decide) (by decide) (by decide) (by decide), fc5 2 (by decide) (by decide)]; exact c20
              · rw [t0 17 (by decide) (by decide) (by decide) (by decide) (by decide) (by decide) (by decide) (by decide) (by decide) (by decide)]
              · unfold DC
                rw [fcf 6 (by decide) (by decide) (by decide) (by decide) (by decide), fcf 13 (by decide) (by decide) (by decide) (by decide) (by decide), fcf 14 (by decide) (by decide) (by decide) (by decide) (by decide), fcf 15 (by decide) (by decide) (by decide) (by decide) (by decide), fcf 16 (by decide) (by decide) (by decide) (by decide) (by decide), fcf 17 (by decide) (by decide) (by decide) (by decide) (by decide), fc5 6 (by decide) (by decide), fc5 13 (by decide) (by decide), fc5 14 (by decide) (by decide), fc5 15 (by decide) (by decide), fc5 16 (by decide) (by decide)]
                refine DG_st h0 hC ?_ ⟨?_, fun x hx => ?_⟩ ⟨?_, fun x hx => ?_⟩ ⟨?_, fun x hx => ?_⟩ ⟨?_, fun x hx => ?_⟩ (fun x hx => ?_) (fun x hx => ?_)
                · rw [ecf, u_eq, er]
                · rw [← er, ecf, u_nk _ _ _ (by decide), u_nk _ _ _ (by decide), u_nk _ _ _ (by decide), u_nk _ _ _ (by decide), u_eq]
                · rw [← er] at hx
                  rw [ecf, u_nk _ _ _ (by decide), u_nk _ _ _ (by decide), u_nk _ _ _ (by decide), u_nk _ _ _ (by decide), u_ne _ _ _ _ hx, fc5 8 (by decide) (by decide)]
                · rw [← er, ecf, u_nk _ _ _ (by decide), u_nk _ _ _ (by decide), u_nk _ _ _ (by decide), u_eq]
                · rw [← er] at hx
                  rw [ecf, u_nk _ _ _ (by decide), u_nk _ _ _ (by decide), u_nk _ _ _ (by decide), u_ne _ _ _ _ hx, u_nk _ _ _ (by decide), fc5 9 (by decide) (by decide)]
                · rw [← er, ecf, u_nk _ _ _ (by decide), u_nk _ _ _ (by decide), u_eq]
                · rw [← er] at hx
                  rw [ecf, u_nk _ _ _ (by decide), u_nk _ _ _ (by decide), u_ne _ _ _ _ hx, u_nk _ _ _ (by decide), u_nk _ _ _ (by decide), fc5 10 (by decide) (by decide)]
                · rw [← er, ecf, u_nk _ _ _ (by decide), u_eq]
                · rw [← er] at hx
                  rw [ecf, u_nk _ _ _ (by decide), u_ne _ _ _ _ hx, u_nk _ _ _ (by decide), u_nk _ _ _ (by decide), u_nk _ _ _ (by decide), fc5 11 (by decide) (by decide)]
                · rw [← er, s6 17 (by decide)]
                  exact (d12 x hx).1
                · rw [← er] at hx
                  rw [s6 17 (by decide), d13.2.1 x hx, fc3 17 (by decide)]
              · unfold DM
                rw [t0 23 (by decide) (by decide) (by decide) (by decide) (by decide) (by decide) (by decide) (by decide) (by decide) (by decide), t0 30 (by decide) (by decide) (by decide) (by decide) (by decide) (by decide) (by decide) (by decide) (by decide) (by decide), t0 31 (by decide) (by decide) (by decide) (by decide) (by decide) (by decide) (by decide) (by decide) (by decide) (by decide), t0 32 (by decide) (by decide) (by decide) (by decide) (by decide) (by decide) (by decide) (by decide) (by decide) (by decide), t0 33 (by decide) (by decide) (by decide) (by decide) (by decide) (by decide) (by decide) (by decide) (by decide) (by decide)]
                refine DG_st h0 hM ?_ ⟨?_, fun x hx => ?_⟩ ⟨?_, fun x hx => ?_⟩ ⟨?_, fun x hx => ?_⟩ ⟨?_, fun x hx => ?_⟩ (fun x hx => ?_) (fun x hx => ?_)
                · rw [t2 24 (by decide) (by decide) (by decide) (by decide) (by decide) (by decide) (by decide), m224, er]
                · rw [← er, t2 25 (by decide) (by decide) (by decide) (by decide) (by decide) (by decide) (by decide)]; exact m225.1
                · rw [← er] at hx
                  rw [t2 25 (by decide) (by decide) (by decide) (by decide) (by decide) (by decide) (by decide)]; exact m225.2 x hx
                · rw [← er, t4 26 (by decide) (by decide) (by decide) (by decide) (by decide) (by decide)]; exact m426.1
                · rw [← er] at hx
                  rw [t4 26 (by decide) (by decide) (by decide) (by decide) (by decide) (by decide), m426.2 x hx, fm2 26 (by decide) (by decide) (by decide) (by decide)]
                · rw [← er, t6 27 (by decide) (by decide) (by decide) (by decide) (by decide)]; exact m627.1
                · rw [← er] at hx
                  rw [t6 27 (by decide) (by decide) (by decide) (by decide) (by decide), m627.2 x hx, fm4 27 (by decide) (by decide) (by decide) (by decide), fm2 27 (by decide) (by decide) (by decide) (by decide)]
                · rw [← er, fmf 28 (by decide)]; exact d11
                · rw [← er] at hx
                  rw [fmf 28 (by decide), d13.2.2.2.1 x hx, m728.2 x hx, fm6 28 (by decide) (by decide) (by decide) (by decide), fm4 28 (by decide) (by decide) (by decide) (by decide), fm2 28 (by decide) (by decide) (by decide) (by decide)]
                · rw [← er, fmf 29 (by decide)]
                  exact (d12 x hx).2.1
                · rw [← er] at hx
                  rw [fmf 29 (by decide), d13.2.2.2.2 x hx, fm7 29 (by decide), fm6 29 (by decide) (by decide) (by decide) (by decide), fm4 29 (by decide) (by decide) (by decide) (by decide), fm2 29 (by decide) (by decide) (by decide) (by decide)]
              · rw [fcf 24 (by decide) (by decide) (by decide) (by decide) (by decide)]; exact s4
              · rw [emf, u_eq]
            · rw [s2]
              simp only [k_bs, k_sl, k_sr, k_00, if_true, k_m11]
              rw [tail_no N _ s3 s4, s7]
              refine ⟨_, _, _, _, rfl, rfl, Out.bad hc hm (((FCr.fc fc3).tr ⟨d13.1 1 (by decide) (by decide), d13.1 23 (by decide) (by decide)⟩).tr (FCr.f3 s8)) (FMr.up (FM8.tr (fun k hk => s9 k (by omega))) 0 _ (by decide) (by decide)) ⟨by decide, by decide, s5, ?_⟩⟩
              rw [s6, u_eq]
          · rw [show f_X4_readParts_L2 N (nI r) N 0 c3 = _ from d1, d2]
            simp only [k_bs, k_sl, k_m11, if_true]
            exact ⟨_, _, _, _, rfl, tail_bad N _ _ d3.1 d3.2.1, Out.bad hc hm ((FCr.fc fc3).tr d4) (FMr.up (FM7.tr d5) 0 _ (by decide) (by decide)) (d3.up 18 _ _ (by decide))⟩
      · rw [b1, b2']
        simp only [k_bs, k_m11, if_true]
        rw [if_neg (k_kz b3.1 b3.2.1)]
        simp only [k_bs]
        have fc2 : FC c c2 := fun k hk => (a10 k hk).trans (K3 k hk)
        exact ⟨_, _, _, _, rfl, tail_bad N _ _ b3.1 b3.2.1, Out.bad hc hm ((FCr.fc fc2).tr (FCr.f3 b4)) (FMr.up (FMr.up (FM4.tr (FMr.f4 b5)) _ _ (by decide) (by decide)) 0 _ (by decide) (by decide)) ((b3.up 27 _ _ (by decide)).up 18 _ _ (by decide))⟩
    · rw [a1, a2]
      simp only [k_bs, k_m11, if_true]
      rw [if_neg (k_kz a3.1 a3.2.1)]
      simp only [k_bs]
      rw [if_neg (k_kz a3.1 a3.2.1)]
      simp only [k_bs]
      exact ⟨_, _, _, _, rfl, tail_bad N _ _ a3.1 a3.2.1, Out.bad hc hm ((FCr.fc K3).tr (FCr.f3 a4)) (FMr.up (FMr.up (FM2.tr (FMr.f4 a5)) _ _ (by decide) (by decide)) 0 _ (by decide) (by decide)) ((a3.up 26 _ _ (by decide)).up 18 _ _ (by decide))⟩
  · rw [K1, K2]
    simp only [k_bs, k_m11, if_true, f_X7_fails]
    rw [if_neg (show ¬ (0 : Int32) ≤ -1 by decide), w3]
    refine ⟨_, _, _, _, rfl, tail_bad N _ _ (k := 1) (by decide) (by decide), Out.bad hc hm (FCr.f3 K3) (FMr.up (FMr.up (fun k hk => fm1 k (by omega) (by omega) (by omega)) 0 _ (by decide) (by decide)) 0 _ (by decide) (by decide)) (Bad.up ⟨by decide, by decide, K4, ?_⟩ 18 _ _ (by decide))⟩
    rw [K5, u_eq]
