-- ===== a clause of any kind; all clauses =====
theorem z00l : ((0 : Int32) < 0) = False := eq_false (by decide)
theorem z00e : ((0 : Int32) ≤ 0) = True := eq_true (by decide)
theorem z10l : ((1 : Int32) < 0) = False := eq_false (by decide)
theorem z10e : ((1 : Int32) ≤ 0) = False := eq_false (by decide)
theorem z11 : ((1 : Int32) = 1) = True := eq_true rfl
theorem z20l : ((2 : Int32) < 0) = False := eq_false (by decide)
theorem z20e : ((2 : Int32) ≤ 0) = False := eq_false (by decide)
theorem z20 : ((2 : Int32) = 0) = False := eq_false (by decide)
theorem z21 : ((2 : Int32) = 1) = False := eq_false (by decide)
theorem zml : ((-1 : Int32) < 0) = True := eq_true (by decide)
theorem k_eta (X : Option (Int32 × St_ × Int64)) : Option.bind X (fun r => some (r.1, r.2.1, r.2.2)) = X := by cases X <;> rfl
theorem k_bq {α β : Type} (a : α) (f : α → Option β) : Option.bind (some a) f = f a := Eq.symm (Eq.symm rfl)
theorem k_sq {α β γ : Type} (f : α → γ) (h : β → γ) (a : β) : Sum.elim f h (Sum.inr a) = h a := Eq.symm (Eq.symm rfl)
theorem k_sp {α β γ : Type} (f : α → γ) (h : β → γ) (a : α) : Sum.elim f h (Sum.inl a) = f a := Eq.symm (Eq.symm rfl)
set_option maxHeartbeats 4000000 in
theorem clause (N : Nat) (hN : 1000 < N) {T : Nat} {tx : Nat → Nat} (hT : TX T tx) {s : Nat} {c m : St_} {e : Nat → Nat → Nat} (hs : s ≤ T) (hb : sc (bl tx) T s = s) (hc : TC c T tx) (hm : TM m T tx) (ac : c 24 0 = nI s) (am : m 18 0 = nI s) (c20 : c 2 0 = 0) (h0 : TD e) (hC : DC c e) (hM : DM m e) (sg : Int64) : ∃ c' f m' sg', f_X4_readClause N c = some c' ∧ f_X7_takeClause N m sg = some (f, m', sg') ∧ Out T tx e s m c' f m' := by
  have hP8 := h0.1.1
  have hS10 := h0.1.2.1
  have hE8 := h0.1.2.2.1
  obtain ⟨c1, a1, a2, a3⟩ := c_skip N hN hT hs hc ac
  obtain ⟨m1, w1, w2, w3, w4⟩ := m_word N hN hT sg hs hm am
  rw [hb] at w1 w3 w4
  have hz := sc_le (isl tx) hs
  have hzs := sc_ge (isl tx) T s
  have hc1 : TC c1 T tx := hc.to (a2 1 (by decide)) (a2 23 (by decide))
  have i0 := c_isW N hN hT hc1 (kw := 0) (by decide) hzs hz a3
  have i1 := c_isW N hN hT hc1 (kw := 1) (by decide) hzs hz a3
  have i2 := c_isW N hN hT hc1 (kw := 2) (by decide) hzs hz a3
  have y0 := cd_isW (tx := tx) (T := T) (s := s) (kw := 0) (by decide)
  have y1 := cd_isW (tx := tx) (T := T) (s := s) (kw := 1) (by decide)
  have y2 := cd_isW (tx := tx) (T := T) (s := s) (kw := 2) (by decide)
  have hcd := cd_sc tx T s
  have hC1 : DC c1 e := DC_congr (fun k h1 h2 => a2 k (by omega)) hC
  have c16 : c1 6 0 = nI (e 1 0) := hC1.1
  have c17 : c1 7 0 = nI (e 2 0) := hC1.2.1
  have c113 : c1 13 0 = nI (e 9 0) := hC1.2.2.2.1
  have c120 : c1 2 0 = 0 := by rw [a2 2 (by decide)]; exact c20
  have hM1 : DM m1 e := DM_congr (fun k h1 h2 => w2 k (by omega) (by omega)) hM
  have m123 : m1 23 0 = nI (e 1 0) := hM1.1
  have m124 : m1 24 0 = nI (e 2 0) := hM1.2.1
  have m130 : m1 30 0 = nI (e 9 0) := hM1.2.2.2.1
  obtain ⟨m2, em2⟩ : ∃ m2, m2 = up1 m1 18 0 (nI (sc (isl tx) T s)) := ⟨_, rfl⟩
  have fm2 : ∀ k, k ≠ 18 → m2 k = m1 k := fun k h => by rw [em2, u_nk _ _ _ h]
  have m218 : m2 18 0 = nI (sc (isl tx) T s) := by rw [em2, u_eq]
  have hM2 : DM m2 e := DM_congr (fun k h1 h2 => fm2 k (by omega)) hM1
  have FM1 : FMr m m1 := fun k hk => w2 k (by omega) (by omega)
  have FM2 : FMr m m2 := FM1.tr (fun k hk => fm2 k (by omega))
  have m217 : m2 17 = m 17 := by rw [fm2 17 (by decide), w2 17 (by decide) (by decide)]
  have hm2 : TM m2 T tx := hm.to (FM2 16 (by decide)) (FM2 15 (by decide))
  have bad : ∀ k, 1 ≤ k → k ≤ 4 → Out T tx e s m (up1 (up1 c1 2 0 (nI k)) 3 0 (nI s)) (nI k) (up1 m1 17 0 (nI s)) := fun k k1 k4 => Out.bad hc1 hm ⟨by rw [u_nk _ _ _ (by decide), u_nk _ _ _ (by decide)], by rw [u_nk _ _ _ (by decide), u_nk _ _ _ (by decide)]⟩ (FMr.up FM1 0 _ (by decide) (by decide)) ⟨k1, k4, by rw [u_nk _ _ _ (by decide), u_eq], by rw [u_eq, u_eq]⟩
  unfold f_X4_readClause f_X7_takeClause
  rw [a1, w1, k_bs, k_bs, ac, cw_plac, k_bs, cw_places, k_bs]
  have v0 := m_cmp hcd (wvK_2 0 (by decide))
  have v1 := m_cmp hcd (wvK_2 1 (by decide))
  have v2 := m_cmp hcd (wvK_2 2 (by decide))
  rcases i0 with ⟨p0, q0⟩ | ⟨p0, q0⟩
  · rw [q0, if_pos (show lg_cmp (lN (cd tx s (sc (isl tx) T s - s))) (lN (wvK 0)) = 0 by rw [v0]; exact y0.mpr p0)]
    simp only [k_bq, k_sq, k_sp, z00l, z00e, k_00, k_10, if_true, if_false]
    by_cases e1 : e 1 0 = 0
    · rw [if_pos (show c1 6 0 = 0 by rw [c16, e1]; rfl), if_pos (show m1 23 0 ≤ 0 by rw [m123, e1]; decide)]
      simp only [k_bq, k_sq]
      obtain ⟨c', f, m', E1, E2, E3⟩ := cl_places N hN hT hz hc1 hm2 a3 m218 c120 h0 hC1 hM2 e1 (lN (cd tx s (sc (isl tx) T s - s)))
      rw [E1, k_bs]
      rw [w4, ← em2]
      exact ⟨c', f, m', _, rfl, E2, E3.base FM2 m217 hzs⟩
    · rw [if_neg (show ¬ c1 6 0 = 0 by rw [c16, k_e0 (by omega)]; exact e1), if_neg (show ¬ m1 23 0 ≤ 0 by rw [m123, k_z0 (by omega)]; omega)]
      simp only [f_X4_fail, f_X7_fails, k_bq, k_sp]
      rw [w3]
      exact ⟨_, _, _, _, rfl, rfl, bad 3 (by decide) (by decide)⟩
  · rw [q0, k_bs, if_neg (show ¬ lg_cmp (lN (cd tx s (sc (isl tx) T s - s))) (lN (wvK 0)) = 0 by rw [v0]; exact fun q => p0 (y0.mp q)), cw_stai, k_bs, cw_stair, k_bs]
    rcases i1 with ⟨p1, q1⟩ | ⟨p1, q1⟩
    · rw [if_pos (show lg_cmp (lN (cd tx s (sc (isl tx) T s - s))) (lN (wvK 1)) = 0 by rw [v1]; exact y1.mpr p1)]
      simp only [k_bq, k_sq, k_sp, z10l, z10e, k_00, k_10, z11, if_true, if_false]
      by_cases e1 : e 1 0 = 0
      · rw [if_pos (show c1 6 0 = 0 by rw [c16, e1]; rfl), if_pos (show m1 23 0 = 0 by rw [m123, e1]; rfl)]
        simp only [f_X4_fail, f_X7_fails, k_bq, k_sp]
        rw [w3]
        exact ⟨_, _, _, _, rfl, rfl, bad 1 (by decide) (by decide)⟩
      · rw [if_neg (show ¬ c1 6 0 = 0 by rw [c16, k_e0 (by omega)]; exact e1), if_neg (show ¬ m1 23 0 = 0 by rw [m123, k_e0 (by omega)]; exact e1), q1]
        simp only [k_bq, k_sq, k_10, if_false]
        by_cases e2 : e 2 0 = 10
        · rw [if_pos (show m1 24 0 = (10 : Int32) by rw [m124, e2]; rfl)]
          unfold f_X4_readStair
          rw [if_neg (show ¬ c1 7 0 < (10 : Int32) by rw [c17, e2]; decide)]
          simp only [f_X4_fail, f_X7_fails, k_bq, k_sp]
          rw [w3]
          exact ⟨_, _, _, _, rfl, rfl, bad 3 (by decide) (by decide)⟩
        · rw [if_neg (show ¬ m1 24 0 = (10 : Int32) by rw [m124, k10_eq (by omega)]; exact e2)]
          simp only [k_bq, k_sq, k_eta]
          obtain ⟨c', f, m', sg', E1, E2, E3⟩ := cl_stair N hN hT (nI s) hz hc1 hm2 a3 m218 c120 h0 hC1 hM2 (by omega) (by omega) (lN (cd tx s (sc (isl tx) T s - s)))
          rw [E1, k_bs]
          rw [w4, ← em2]
          exact ⟨c', f, m', sg', rfl, E2, E3.base FM2 m217 hzs⟩
    · rw [if_neg (show ¬ lg_cmp (lN (cd tx s (sc (isl tx) T s - s))) (lN (wvK 1)) = 0 by rw [v1]; exact fun q => p1 (y1.mp q)), k_bs, if_pos (show (-1 : Int32) < 0 by decide), cw_pers, k_bs, cw_person, k_bs]
      rcases i2 with ⟨p2, q2⟩ | ⟨p2, q2⟩
      · rw [if_pos (show lg_cmp (lN (cd tx s (sc (isl tx) T s - s))) (lN (wvK 2)) = 0 by rw [v2]; exact y2.mpr p2)]
        simp only [k_bq, k_sq, k_sp, z20l, z20e, z20, z21, k_00, if_true, if_false]
        by_cases e1 : e 1 0 = 0
        · rw [if_pos (show c1 6 0 = 0 by rw [c16, e1]; rfl), if_pos (show m1 23 0 = 0 by rw [m123, e1]; rfl)]
          simp only [f_X4_fail, f_X7_fails, k_bq, k_sp]
          rw [w3]
          exact ⟨_, _, _, _, rfl, rfl, bad 1 (by decide) (by decide)⟩
        · rw [if_neg (show ¬ c1 6 0 = 0 by rw [c16, k_e0 (by omega)]; exact e1), if_neg (show ¬ m1 23 0 = 0 by rw [m123, k_e0 (by omega)]; exact e1), q1]
          simp only [k_bq, k_sq, k_00, if_true]
          rw [q2]
          simp only [k_bq, k_10, if_false]
          by_cases e2 : e 9 0 = 8
          · rw [if_pos (show m1 30 0 = (8 : Int32) by rw [m130, e2]; rfl)]
            unfold f_X4_readPerson
            rw [if_neg (show ¬ c1 13 0 < (8 : Int32) by rw [c113, e2]; decide)]
            simp only [f_X4_fail, f_X7_fails, k_bq, k_sp]
            rw [w3]
            exact ⟨_, _, _, _, rfl, rfl, bad 3 (by decide) (by decide)⟩
          · rw [if_neg (show ¬ m1 30 0 = (8 : Int32) by rw [m130, k8_eq (by omega)]; exact e2)]
            simp only [k_bq, k_sq, k_eta]
            obtain ⟨c', f, m', E1, E2, E3⟩ := cl_person N hN hT (nI s) hz hc1 hm2 a3 m218 c120 h0 hC1 hM2 (by omega) (by omega) (lN (cd tx s (sc (isl tx) T s - s)))
            rw [E1, k_bs]
            rw [w4, ← em2]
            exact ⟨c', f, m', _, rfl, E2, E3.base FM2 m217 hzs⟩
      · rw [if_neg (show ¬ lg_cmp (lN (cd tx s (sc (isl tx) T s - s))) (lN (wvK 2)) = 0 by rw [v2]; exact fun q => p2 (y2.mp q))]
        simp only [k_bq, zml, k_00, if_true]
        simp only [f_X4_fail, f_X7_fails, k_bq]
        rw [w3]
        by_cases e1 : e 1 0 = 0
        · rw [if_pos (show c1 6 0 = 0 by rw [c16, e1]; rfl)]
          exact ⟨_, _, _, _, rfl, rfl, bad 1 (by decide) (by decide)⟩
        · rw [if_neg (show ¬ c1 6 0 = 0 by rw [c16, k_e0 (by omega)]; exact e1), q1]
          simp only [k_bq, k_00, if_true]
          rw [q2]
          simp only [k_bq, k_00, if_true]
          exact ⟨_, _, _, _, rfl, rfl, bad 1 (by decide) (by decide)⟩
/-- a text, read to its end or to its first fault by both -/
theorem reads (N : Nat) (hN : 1000 < N) {T : Nat} {tx : Nat → Nat} (hT : TX T tx) : ∀ (n cnt i : Nat) (c m : St_) (e : Nat → Nat → Nat) (sg : Int64), cnt ≤ i → i ≤ T → T < n + i → TC c T tx → TM m T tx → c 24 0 = nI i → m 18 0 = nI i → c 2 0 = 0 → TD e → DC c e → DM m e → ∃ c' f m' sg', f_X4_read_L24 N n (nI cnt) c = some c' ∧ f_X7_town_L27 N n 0 m sg = some (f, m', sg') ∧ FMr m m' ∧ ((f = 0 ∧ c' 2 0 = 0 ∧ m' 17 0 = m 17 0 ∧ ∃ e', TD e' ∧ DC c' e' ∧ DM m' e' ∧ e' 13 = e 13 ∧ e' 14 = e 14) ∨ ∃ k, f = nI k ∧ Bad c' m' k) := by
  intro n
  have hT5 := hT.1
  induction n with
  | zero => intro cnt i c m e sg h1 h2 h3; omega
  | succ n ih =>
    intro cnt i c m e sg h1 h2 h3 hc hm ac am c20 h0 hC hM
    obtain ⟨m1, b1, b2', b3⟩ := m_here N hN hT h2 hm am
    have hM1 : DM m1 e := DM_congr (fun k q1 q2 => b2' k (by omega)) hM
    have FM1 : FMr m m1 := fun k hk => b2' k (by omega)
    have stop : ∀ c', c' 2 0 = 0 → DC c' e → FMr m m1 ∧ (((0 : Int32) = 0 ∧ c' 2 0 = 0 ∧ m1 17 0 = m 17 0 ∧ ∃ e', TD e' ∧ DC c' e' ∧ DM m1 e' ∧ e' 13 = e 13 ∧ e' 14 = e 14) ∨ ∃ k, (0 : Int32) = nI k ∧ Bad c' m1 k) := fun c' q1 q2 => ⟨FM1, Or.inl ⟨rfl, q1, by rw [b2' 17 (by decide)], e, h0, q2, hM1, rfl, rfl⟩⟩
    rw [f_X4_read_L24, f_X7_town_L27, if_pos (show (0 : Int32) = 0 from rfl), b1, k_bs]
    dsimp only
    by_cases hcnt : cnt = 500
    · have lk : lkv tx T i = -1 := by
        unfold lkv
        rw [if_neg (show ¬ sc (bl tx) T i < T by have := sc_ge (bl tx) T i; omega)]
      rw [if_pos (show (500 : Int32) ≤ nI cnt by rw [hcnt]; decide), lk, if_pos (show (-1 : Int32) < 0 by decide)]
      exact ⟨c, 0, m1, sg, rfl, rfl, stop c c20 hC⟩
    · obtain ⟨c1, a1, a2, a3⟩ := c_look N hN hT h2 hc ac
      have hC1 : DC c1 e := DC_congr (fun k q1 q2 => a2 k (by omega)) hC
      have c120 : c1 2 0 = 0 := by rw [a2 2 (by decide)]; exact c20
      rw [if_neg (show ¬ (500 : Int32) ≤ nI cnt by rw [k500_le (by omega)]; omega), if_pos c20, a1, k_bs]
      dsimp only
      have hs := sc_le (bl tx) h2
      have hsi := sc_ge (bl tx) T i
      rcases Nat.lt_or_ge (sc (bl tx) T i) T with h | h
      · have hb := hT.2 _ h
        have lk : lkv tx T i = nI (tx (sc (bl tx) T i)) := by
          unfold lkv
          rw [if_pos h]
        rw [lk, if_neg (show ¬ nI (tx (sc (bl tx) T i)) = (-1 : Int32) by rw [k_m1 (by omega)]; exact fun h => h), if_neg (nI_pos (show tx (sc (bl tx) T i) < 2 ^ 31 by omega))]
        have hc1 : TC c1 T tx := hc.to (a2 1 (by decide)) (a2 23 (by decide))
        have hm1 : TM m1 T tx := hm.to (b2' 16 (by decide)) (b2' 15 (by decide))
        obtain ⟨c2, f, m2, sg2, E1, E2, o1, o2, o3, o4⟩ := clause N hN hT hs (sc_sc (bl tx) T i) hc1 hm1 a3 b3 c120 h0 hC1 hM1 sg
        rw [E1, E2, k_bs, k_bs]
        dsimp only
        rcases o4 with ⟨rfl, o5, o6, e2, j, o7, o8, o9, o10, o11, o12, o13, o14, o15⟩ | ⟨k, rfl, o5⟩
        · rw [k1_ad]
          obtain ⟨c', f', m', sg', g1, g2, g3, g4⟩ := ih (cnt + 1) j c2 m2 e2 sg2 (by omega) o8 (by omega) o1 o2 o12 o13 o5 o9 o10 o11
          refine ⟨c', f', m', sg', g1, g2, (FM1.tr o3).tr g3, ?_⟩
          rcases g4 with ⟨q1, q2, q3, e', q4, q5, q6, q7, q8⟩ | q
          · exact Or.inl ⟨q1, q2, by rw [q3, o6, b2' 17 (by decide)], e', q4, q5, q6, q7.trans o14, q8.trans o15⟩
          · exact Or.inr q
        · obtain ⟨n', rfl⟩ : ∃ n', n = n' + 1 := ⟨n - 1, by omega⟩
          have kn : ¬ nI k = 0 := by rw [k_e0 (by have := o5.2.1; omega)]; have := o5.1; omega
          refine ⟨c2, nI k, m2, sg2, ?_, ?_, FM1.tr o3, Or.inr ⟨k, rfl, o5⟩⟩
          · rw [f_X4_read_L24]
            by_cases q : (500 : Int32) ≤ nI cnt + 1
            · rw [if_pos q]
            · rw [if_neg q, if_neg (by rw [o5.2.2.1]; exact kn)]
          · rw [f_X7_town_L27, if_neg kn]
      · have lk : lkv tx T i = -1 := by
          unfold lkv
          rw [if_neg (show ¬ sc (bl tx) T i < T by omega)]
        rw [lk, if_pos rfl, if_pos (show (-1 : Int32) < 0 by decide)]
        exact ⟨c1, 0, m1, sg, rfl, rfl, stop c1 c120 hC1⟩
