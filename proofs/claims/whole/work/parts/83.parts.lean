-- ===== places, kinds and parts of a stair, read by both =====
theorem cw_plac (N : Nat) : f_X7_code N 112 108 97 99 = some (lN 323706) := congrArg some (by decide +kernel)
theorem cw_places (N : Nat) : f_X7_longer N (lN 323706) 101 115 = some (lN (wvK 0)) := by
  unfold f_X7_longer
  rw [if_neg (by decide)]
  exact congrArg some (by decide +kernel)
theorem cw_stai (N : Nat) : f_X7_code N 115 116 97 105 = some (lN 388593) := congrArg some (by decide +kernel)
theorem cw_stair (N : Nat) : f_X7_longer N (lN 388593) 114 0 = some (lN (wvK 1)) := by
  unfold f_X7_longer
  rw [if_pos rfl]
  exact congrArg some (by decide +kernel)
theorem cw_pers (N : Nat) : f_X7_code N 112 101 114 115 = some (lN 319078) := congrArg some (by decide +kernel)
theorem cw_person (N : Nat) : f_X7_longer N (lN 319078) 111 110 = some (lN (wvK 2)) := by
  unfold f_X7_longer
  rw [if_neg (by decide)]
  exact congrArg some (by decide +kernel)
theorem cw_plai (N : Nat) : f_X7_code N 112 108 97 105 = some (lN 323712) := congrArg some (by decide +kernel)
theorem cw_plain (N : Nat) : f_X7_longer N (lN 323712) 110 0 = some (lN (wvK 3)) := by
  unfold f_X7_longer
  rw [if_pos rfl]
  exact congrArg some (by decide +kernel)
theorem cw_open (N : Nat) : f_X7_code N 111 112 101 110 = some (lN (wvK 4)) := congrArg some (by decide +kernel)
theorem cw_leap (N : Nat) : f_X7_code N 108 101 97 112 = some (lN (wvK 5)) := congrArg some (by decide +kernel)
theorem wvK_2 (kw : Nat) (h : kw < 6) : wvK kw ≤ 300000000000000 := Nat.le_trans (wvK_le kw h) (by decide)
theorem cd_sc (tx : Nat → Nat) (T s : Nat) : cd tx s (sc (isl tx) T s - s) ≤ 300000000000000 := cd_le tx s _ (fun x hx => (of_decide_eq_true (sc_in (isl tx) T s (s + x) (by omega) (by omega))).2)
/-- the kind of a stair -/
theorem kindB (N : Nat) (hN : 1000 < N) {T : Nat} {tx : Nat → Nat} (hT : TX T tx) {i : Nat} {c : St_} (hi : i ≤ T) (hc : TC c T tx) (ac : c 24 0 = nI i) :
    (∃ kd c', kd ≤ 2 ∧ f_X4_readKind N c = some (nI kd, c') ∧ ((if (lg_cmp (lN (cd tx (sc (bl tx) T i) (sc (isl tx) T (sc (bl tx) T i) - sc (bl tx) T i))) (lN (wvK 3))) = 0 then (some (0 : Int32)) else (Option.bind (f_X7_code N (111 : Int32) (112 : Int32) (101 : Int32) (110 : Int32)) (fun (r5 : Int64) => if (lg_cmp (lN (cd tx (sc (bl tx) T i) (sc (isl tx) T (sc (bl tx) T i) - sc (bl tx) T i))) r5) = 0 then (some (1 : Int32)) else (Option.bind (f_X7_code N (108 : Int32) (101 : Int32) (97 : Int32) (112 : Int32)) (fun (r6 : Int64) => if (lg_cmp (lN (cd tx (sc (bl tx) T i) (sc (isl tx) T (sc (bl tx) T i) - sc (bl tx) T i))) r6) = 0 then (some (2 : Int32)) else (some (-1 : Int32))))))) : Option Int32) = some (nI kd) ∧ FC c c' ∧ c' 24 0 = nI (sc (isl tx) T (sc (bl tx) T i)))
    ∨ (∃ c', f_X4_readKind N c = some (-1, c') ∧ ((if (lg_cmp (lN (cd tx (sc (bl tx) T i) (sc (isl tx) T (sc (bl tx) T i) - sc (bl tx) T i))) (lN (wvK 3))) = 0 then (some (0 : Int32)) else (Option.bind (f_X7_code N (111 : Int32) (112 : Int32) (101 : Int32) (110 : Int32)) (fun (r5 : Int64) => if (lg_cmp (lN (cd tx (sc (bl tx) T i) (sc (isl tx) T (sc (bl tx) T i) - sc (bl tx) T i))) r5) = 0 then (some (1 : Int32)) else (Option.bind (f_X7_code N (108 : Int32) (101 : Int32) (97 : Int32) (112 : Int32)) (fun (r6 : Int64) => if (lg_cmp (lN (cd tx (sc (bl tx) T i) (sc (isl tx) T (sc (bl tx) T i) - sc (bl tx) T i))) r6) = 0 then (some (2 : Int32)) else (some (-1 : Int32))))))) : Option Int32) = some (-1) ∧ F3 c c' ∧ c' 2 0 = nI 1 ∧ c' 3 0 = nI (sc (bl tx) T i)) := by
  obtain ⟨c1, a1, a2, a3⟩ := c_look N hN hT hi hc ac
  have hs := sc_le (bl tx) hi
  have hc1 : TC c1 T tx := hc.to (a2 1 (by decide)) (a2 23 (by decide))
  obtain ⟨c2, b1, b2', b3⟩ := c_skip N hN hT hs hc1 a3
  have hz := sc_le (isl tx) hs
  have hsz := sc_ge (isl tx) T (sc (bl tx) T i)
  have hc2 : TC c2 T tx := hc1.to (b2' 1 (by decide)) (b2' 23 (by decide))
  have fc : FC c c2 := fun k hk => (b2' k hk).trans (a2 k hk)
  have i3 := c_isW N hN hT hc2 (kw := 3) (by decide) hsz hz b3
  have i4 := c_isW N hN hT hc2 (kw := 4) (by decide) hsz hz b3
  have i5 := c_isW N hN hT hc2 (kw := 5) (by decide) hsz hz b3
  have w3 := cd_isW (tx := tx) (T := T) (s := sc (bl tx) T i) (kw := 3) (by decide)
  have w4 := cd_isW (tx := tx) (T := T) (s := sc (bl tx) T i) (kw := 4) (by decide)
  have w5 := cd_isW (tx := tx) (T := T) (s := sc (bl tx) T i) (kw := 5) (by decide)
  have hcd := cd_sc tx T (sc (bl tx) T i)
  simp only [cw_open, cw_leap, k_bs, m_cmp hcd (wvK_2 3 (by decide)), m_cmp hcd (wvK_2 4 (by decide)), m_cmp hcd (wvK_2 5 (by decide))]
  unfold f_X4_readKind
  rw [a1, k_bs]
  dsimp only
  rw [b1, k_bs, a3]
  rcases i3 with ⟨p3, q3⟩ | ⟨p3, q3⟩
  · rw [q3, k_bs, if_neg (show ¬ (1 : Int32) = 0 by decide), if_pos (w3.mpr p3)]
    exact Or.inl ⟨0, c2, by decide, rfl, rfl, fc, b3⟩
  · rw [q3, k_bs, if_pos rfl, if_neg (fun q => p3 (w3.mp q))]
    rcases i4 with ⟨p4, q4⟩ | ⟨p4, q4⟩
    · rw [q4, k_bs, if_neg (show ¬ (1 : Int32) = 0 by decide), if_pos (w4.mpr p4)]
      exact Or.inl ⟨1, c2, by decide, rfl, rfl, fc, b3⟩
    · rw [q4, k_bs, if_pos rfl, if_neg (fun q => p4 (w4.mp q))]
      rcases i5 with ⟨p5, q5⟩ | ⟨p5, q5⟩
      · rw [q5, k_bs, if_neg (show ¬ (1 : Int32) = 0 by decide), if_pos (w5.mpr p5)]
        exact Or.inl ⟨2, c2, by decide, rfl, rfl, fc, b3⟩
      · rw [q5, k_bs, if_pos rfl, if_neg (fun q => p5 (w5.mp q))]
        exact Or.inr ⟨_, rfl, rfl, fun k k2 k3 k24 => by rw [u_nk _ _ _ k3, u_nk _ _ _ k2]; exact fc k k24, rfl, rfl⟩
/-- a place -/
theorem plc (N : Nat) (hN : 1000 < N) {T : Nat} {tx : Nat → Nat} (hT : TX T tx) {i P : Nat} {c m : St_} (hi : i ≤ T) (hc : TC c T tx) (hm : TM m T tx) (ac : c 24 0 = nI i) (am : m 18 0 = nI i) (hP : 1 ≤ P) (hP8 : P ≤ 8) (h6 : c 6 0 = nI P) (x : Int32) :
    (∃ v z c' m', v < P ∧ i < z ∧ z ≤ T ∧ (¬ nI v = x → f_X4_readPlace N c x = some (nI v, c')) ∧ (nI v = x → f_X4_readPlace N c x = some (-1, up1 (up1 c' 2 0 (nI 4)) 3 0 (m' 22 0))) ∧ f_X7_takeNumber N m 0 (nI P - 1) = some (0, m') ∧ c' 24 0 = nI z ∧ m' 18 0 = nI z ∧ m' 21 0 = nI v ∧ FC c c' ∧ (∀ k, k ≠ 18 → k ≠ 21 → k ≠ 22 → m' k = m k))
    ∨ (∃ k c' m', f_X4_readPlace N c x = some (-1, c') ∧ f_X7_takeNumber N m 0 (nI P - 1) = some (nI k, m') ∧ Bad c' m' k ∧ F3 c c' ∧ F4 m m') := by
  obtain ⟨c1, a1, a2, a3⟩ := c_look N hN hT hi hc ac
  have hs := sc_le (bl tx) hi
  have hsi := sc_ge (bl tx) T i
  have hc1 : TC c1 T tx := hc.to (a2 1 (by decide)) (a2 23 (by decide))
  have h61 : c1 6 0 = nI P := by rw [a2 6 (by decide)]; exact h6
  unfold f_X4_readPlace
  rw [a1, k_bs]
  dsimp only
  rw [h61, k1_sb hP, a3]
  rcases num N hN hT hs hi (sc_sc (bl tx) T i) hc1 hm a3 am (lo := 0) (up := P - 1) (by decide) (by omega) with ⟨v, z, c2, m2, v0, v1, z1, z2, n1, n2, n3, n4, n5, n6, n7, n8⟩ | ⟨k, c2, m2, n1, n2, n3, n4, n5⟩
  · have vm : ¬ nI v = (-1 : Int32) := by rw [k_m1 (by omega)]; exact fun h => h
    left
    refine ⟨v, z, c2, m2, by omega, by omega, z2, fun q => ?_, fun q => ?_, n2, n3, n4, n5, fun k hk => (n7 k hk).trans (a2 k hk), n8⟩
    · rw [show f_X4_readNumber N c1 0 (nI (P - 1)) = _ from n1, k_bs, if_neg vm, if_neg q]
    · rw [show f_X4_readNumber N c1 0 (nI (P - 1)) = _ from n1, k_bs, if_neg vm, if_pos q, n6]
      rfl
  · right
    refine ⟨k, c2, m2, ?_, n2, n3, fun k k2 k3 k24 => (n4 k k2 k3 k24).trans (a2 k k24), n5⟩
    rw [show f_X4_readNumber N c1 0 (nI (P - 1)) = _ from n1, k_bs, if_pos rfl]
theorem k_kz {k : Nat} (h1 : 1 ≤ k) (h4 : k ≤ 4) : ¬ nI k ≤ 0 := by rw [k_z0 (by omega)]; omega
/-- what holds of the parts that are read -/
def PS (c m : St_) (r p : Nat) (st : Nat → Nat) : Prop := ∀ x, x < p → c 17 (3 * r + x) = nI (st x) ∧ m 29 (3 * r + x) = nI (st x) ∧ 1 ≤ st x ∧ st x ≤ 720
def PF (c m c' m' : St_) (r : Nat) : Prop := (∀ k, k ≠ 17 → k ≠ 24 → c' k = c k) ∧ (∀ x, x < 3 * r → c' 17 x = c 17 x) ∧ (∀ k, k ≠ 18 → k ≠ 21 → k ≠ 22 → k ≠ 28 → k ≠ 29 → m' k = m k) ∧ (∀ x, x ≠ r → m' 28 x = m 28 x) ∧ (∀ x, x < 3 * r → m' 29 x = m 29 x)
theorem PF.tr {a b a' b' a2 b2 : St_} {r : Nat} (h : PF a b a' b' r) (g : PF a' b' a2 b2 r) : PF a b a2 b2 r :=
  ⟨fun k h1 h2 => (g.1 k h1 h2).trans (h.1 k h1 h2), fun x hx => (g.2.1 x hx).trans (h.2.1 x hx), fun k h1 h2 h3 h4 h5 => (g.2.2.1 k h1 h2 h3 h4 h5).trans (h.2.2.1 k h1 h2 h3 h4 h5), fun x hx => (g.2.2.2.1 x hx).trans (h.2.2.2.1 x hx), fun x hx => (g.2.2.2.2 x hx).trans (h.2.2.2.2 x hx)⟩
def FMr (m m' : St_) : Prop := ∀ k, k < 17 ∨ 34 ≤ k → m' k = m k
def FCr (c c' : St_) : Prop := c' 1 = c 1 ∧ c' 23 = c 23
theorem parts0 (N : Nat) (hN : 1000 < N) {T : Nat} {tx : Nat → Nat} (hT : TX T tx) {r : Nat} (hr : r < 10) : ∀ (n p i : Nat) (c m : St_) (st : Nat → Nat), p ≤ 2 → 4 ≤ n + p → i ≤ T → TC c T tx → TM m T tx → c 24 0 = nI i → m 18 0 = nI i → m 28 r = nI p → PS c m r p st →
    (∃ q z1 z2 c' m' st', 1 ≤ q ∧ q ≤ 3 ∧ i < z2 ∧ z1 ≤ T ∧ z2 ≤ T ∧ sc (bl tx) T z1 = sc (bl tx) T z2 ∧ f_X4_readParts_L2 N (nI r) n (nI p) c = Option.bind (f_X4_readSign N c' 59) (fun r3 => if r3.1 = 0 then some (Sum.inl (-1, r3.2)) else some (Sum.inl (nI q, r3.2))) ∧ f_X7_takeParts_L9 N (nI r) n 1 m = some (Sum.inr m') ∧ c' 24 0 = nI z1 ∧ m' 18 0 = nI z2 ∧ m' 28 r = nI q ∧ PS c' m' r q st' ∧ PF c m c' m' r)
    ∨ (∃ k c' m', f_X4_readParts_L2 N (nI r) n (nI p) c = some (Sum.inl (-1, c')) ∧ f_X7_takeParts_L9 N (nI r) n 1 m = some (Sum.inl (nI k, m')) ∧ Bad c' m' k ∧ FCr c c' ∧ FMr m m') := by
  intro n
  have hT5 := hT.1
  induction n with
  | zero => intro p i c m st h1 h2; omega
  | succ n ih =>
    intro p i c m st hp hn hi hc hm ac am h28 hst
    obtain ⟨n', rfl⟩ : ∃ n', n = n' + 1 := ⟨n - 1, by omega⟩
    have hsi := sc_ge (bl tx) T i
    rw [f_X4_readParts_L2, f_X7_takeParts_L9, if_neg (show ¬ (3 : Int32) ≤ nI p by rw [k3_le (by omega)]; omega), if_neg (show ¬ (1 : Int32) = 0 by decide), k_ok hr (by omega), k_gd]
    unfold f_X7_into__29
    rw [k_cl (show r < 2147483648 by omega), h28, k3_mu, k_add, k_ok (show 3 * r + p < 30 by omega) (by omega), k_cl (show 3 * r + p < 2147483648 by omega)]
    rcases num N hN hT hi hi rfl hc hm ac am (lo := 1) (up := 720) (by decide) (by decide) with ⟨v, z, c1, m1, v0, v1, z1, z2, n1, n2, n3, n4, n5, n6, n7, n8⟩ | ⟨k, c1, m1, n1, n2, n3, n4, n5⟩
    · rw [show f_X4_readNumber N c 1 720 = _ from n1, show f_X7_takeNumber N m 1 720 = _ from n2]
      simp only [k_gd, k_bs]
      rw [if_neg (show ¬ nI v = (-1 : Int32) by rw [k_m1 (by omega)]; exact fun h => h), if_pos (show (0 : Int32) ≤ 0 by decide), n5]
      have hc2 : TC (up1 c1 17 (3 * r + p) (nI v)) T tx := hc.to ((u_nk _ _ _ (by decide)).trans (n7 1 (by decide))) ((u_nk _ _ _ (by decide)).trans (n7 23 (by decide)))
      have ac2 : up1 c1 17 (3 * r + p) (nI v) 24 0 = nI z := by rw [u_nk _ _ _ (by decide)]; exact n3
      have e28 : up1 m1 29 (3 * r + p) (nI v) 28 r = nI p := by rw [u_nk _ _ _ (by decide), n8 28 (by decide) (by decide) (by decide)]; exact h28
      rw [e28, k1_ad]
      have hm3 : TM (up1 (up1 m1 29 (3 * r + p) (nI v)) 28 r (nI (p + 1))) T tx := hm.to (((u_nk _ _ _ (by decide)).trans (u_nk _ _ _ (by decide))).trans (n8 16 (by decide) (by decide) (by decide))) (((u_nk _ _ _ (by decide)).trans (u_nk _ _ _ (by decide))).trans (n8 15 (by decide) (by decide) (by decide)))
      have am3 : up1 (up1 m1 29 (3 * r + p) (nI v)) 28 r (nI (p + 1)) 18 0 = nI z := by rw [u_nk _ _ _ (by decide), u_nk _ _ _ (by decide)]; exact n4
      obtain ⟨m4, b1, b2', b3⟩ := m_here N hN hT z2 hm3 am3
      obtain ⟨c3, a1, a2, a3⟩ := c_look N hN hT z2 hc2 ac2
      have hz3 := sc_le (bl tx) z2
      have hz4 := sc_ge (bl tx) T z
      have m428 : m4 28 r = nI (p + 1) := by rw [b2' 28 (by decide), u_eq]
      have fm4 : ∀ k, k ≠ 18 → k ≠ 21 → k ≠ 22 → k ≠ 28 → k ≠ 29 → m4 k = m k := fun k h1 h2 h3 h4 h5 => by rw [b2' k h1, u_nk _ _ _ h4, u_nk _ _ _ h5, n8 k h1 h2 h3]
      have fm28 : ∀ x, x ≠ r → m4 28 x = m 28 x := fun x hx => by rw [b2' 28 (by decide), u_ne _ _ _ _ hx, u_nk _ _ _ (by decide), n8 28 (by decide) (by decide) (by decide)]
      have fm29 : ∀ x, x ≠ 3 * r + p → m4 29 x = m 29 x := fun x hx => by rw [b2' 29 (by decide), u_nk _ _ _ (by decide), u_ne _ _ _ _ hx, n8 29 (by decide) (by decide) (by decide)]
      have m429 : m4 29 (3 * r + p) = nI v := by rw [b2' 29 (by decide), u_nk _ _ _ (by decide), u_eq]
      have fc2 : ∀ k, k ≠ 17 → k ≠ 24 → up1 c1 17 (3 * r + p) (nI v) k = c k := fun k h1 h2 => by rw [u_nk _ _ _ h1]; exact n7 k h2
      have fc17 : ∀ x, x ≠ 3 * r + p → up1 c1 17 (3 * r + p) (nI v) 17 x = c 17 x := fun x hx => by rw [u_ne _ _ _ _ hx, n7 17 (by decide)]
      have c217 : up1 c1 17 (3 * r + p) (nI v) 17 (3 * r + p) = nI v := u_eq _ _ _ _
      have st2 : ∀ (cc mm : St_), cc 17 = up1 c1 17 (3 * r + p) (nI v) 17 → mm 29 = m4 29 → PS cc mm r (p + 1) (fun x => if x = p then v else st x) := fun cc mm e1 e2 x hx => by
        rw [e1, e2]
        by_cases q : x = p
        · simp only [if_pos q]
          rw [q, c217, m429]
          exact ⟨rfl, rfl, v0, v1⟩
        · simp only [if_neg q]
          obtain ⟨s1, s2, s3, s4⟩ := hst x (by omega)
          rw [fc17 _ (by omega), fm29 _ (by omega)]
          exact ⟨s1, s2, s3, s4⟩
      rw [b1, k_bs]
      dsimp only
      have done : ∀ (cc : St_) (z0 : Nat), z0 ≤ T → sc (bl tx) T z0 = sc (bl tx) T z → cc 24 0 = nI z0 → (∀ k, k ≠ 17 → k ≠ 24 → cc k = c k) → cc 17 = up1 c1 17 (3 * r + p) (nI v) 17 → ¬ lkv tx T z = 44 → ∃ q z1 z2 c' m' st', 1 ≤ q ∧ q ≤ 3 ∧ i < z2 ∧ z1 ≤ T ∧ z2 ≤ T ∧ sc (bl tx) T z1 = sc (bl tx) T z2 ∧ Option.bind (f_X4_readSign N cc 59) (fun r3 => if r3.1 = 0 then some (Sum.inl ((-1 : Int32), r3.2)) else some (Sum.inl (nI (p + 1), r3.2))) = (Option.bind (f_X4_readSign N c' 59) (fun r3 => if r3.1 = 0 then some (Sum.inl (-1, r3.2)) else some (Sum.inl (nI q, r3.2))) : Option ((Int32 × St_) ⊕ St_)) ∧ f_X7_takeParts_L9 N (nI r) (n' + 1) 0 (up1 m4 18 0 (m4 18 0 + 0)) = some (Sum.inr m') ∧ c' 24 0 = nI z1 ∧ m' 18 0 = nI z2 ∧ m' 28 r = nI q ∧ PS c' m' r q st' ∧ PF c m c' m' r := by
        intro cc z0 w1 w2 w3 w4 w5 _
        refine ⟨p + 1, z0, sc (bl tx) T z, cc, _, _, by omega, by omega, by omega, w1, hz3, by rw [sc_sc]; exact w2, rfl, by rw [f_X7_takeParts_L9, if_pos rfl], w3, ?_, ?_, st2 cc _ w5 (u_nk _ _ _ (by decide)), ⟨w4, fun x hx => by rw [w5]; exact fc17 x (by omega), fun k h1 h2 h3 h4 h5 => by rw [u_nk _ _ _ h1]; exact fm4 k h1 h2 h3 h4 h5, fun x hx => by rw [u_nk _ _ _ (by decide)]; exact fm28 x hx, fun x hx => by rw [u_nk _ _ _ (by decide)]; exact fm29 x (by omega)⟩⟩
        · rw [u_eq, b3, Int32.add_zero]
        · rw [u_nk _ _ _ (by decide)]; exact m428
      by_cases q44 : lkv tx T z = 44
      · have hzT : sc (bl tx) T z < T := by
          unfold lkv at q44
          rcases Nat.lt_or_ge (sc (bl tx) T z) T with h | h
          · exact h
          · rw [if_neg (show ¬ sc (bl tx) T z < T by omega)] at q44
            exact absurd q44 (by decide)
        rw [if_pos q44, k_bs, if_neg (show ¬ (1 : Int32) = 0 by decide), if_neg (show ¬ (1 : Int32) = 0 by decide)]
        by_cases p2 : p = 2
        · rw [if_pos (show nI p = (2 : Int32) by rw [p2]; rfl), if_pos (show m4 28 r = (3 : Int32) by rw [m428, p2]; rfl)]
          right
          unfold f_X4_readSign
          rw [a1, k_bs]
          dsimp only
          rw [q44, if_neg (show ¬ (44 : Int32) = 59 by decide), a3, b3]
          refine ⟨1, up1 (up1 c3 2 0 (nI 1)) 3 0 (nI (sc (bl tx) T z)), up1 m4 17 0 (nI (sc (bl tx) T z)), rfl, rfl, ⟨by decide, by decide, rfl, rfl⟩, ⟨?_, ?_⟩, fun k hk => ?_⟩
          · rw [u_nk _ _ _ (by decide), u_nk _ _ _ (by decide), a2 1 (by decide)]; exact fc2 1 (by decide) (by decide)
          · rw [u_nk _ _ _ (by decide), u_nk _ _ _ (by decide), a2 23 (by decide)]; exact fc2 23 (by decide) (by decide)
          · rw [u_nk _ _ _ (by omega)]; exact fm4 k (by omega) (by omega) (by omega) (by omega) (by omega)
        · rw [if_neg (show ¬ nI p = (2 : Int32) by rw [k2_eq (by omega)]; exact p2), if_neg (show ¬ m4 28 r = (3 : Int32) by rw [m428, k3_eq (by omega)]; omega), a1, k_bs]
          dsimp only
          simp only [k_bs, k_sr]
          rw [if_pos q44, a3, b3, k1_ad]
          have hc4 : TC (up1 c3 24 0 (nI (sc (bl tx) T z + 1))) T tx := hc2.to ((u_nk _ _ _ (by decide)).trans (a2 1 (by decide))) ((u_nk _ _ _ (by decide)).trans (a2 23 (by decide)))
          have hm4 : TM (up1 m4 18 0 (nI (sc (bl tx) T z + 1))) T tx := hm3.to ((u_nk _ _ _ (by decide)).trans (b2' 16 (by decide))) ((u_nk _ _ _ (by decide)).trans (b2' 15 (by decide)))
          have pf : PF c m (up1 c3 24 0 (nI (sc (bl tx) T z + 1))) (up1 m4 18 0 (nI (sc (bl tx) T z + 1))) r := ⟨fun k h1 h2 => by rw [u_nk _ _ _ h2, a2 k h2]; exact fc2 k h1 h2, fun x hx => by rw [u_nk _ _ _ (by decide), a2 17 (by decide)]; exact fc17 x (by omega), fun k h1 h2 h3 h4 h5 => by rw [u_nk _ _ _ h1]; exact fm4 k h1 h2 h3 h4 h5, fun x hx => by rw [u_nk _ _ _ (by decide)]; exact fm28 x hx, fun x hx => by rw [u_nk _ _ _ (by decide)]; exact fm29 x (by omega)⟩
          rcases ih (p + 1) (sc (bl tx) T z + 1) _ _ (fun x => if x = p then v else st x) (by omega) (by omega) (by omega) hc4 hm4 (u_eq _ _ _ _) (u_eq _ _ _ _) (by rw [u_nk _ _ _ (by decide)]; exact m428) (st2 _ _ ((u_nk _ _ _ (by decide)).trans (a2 17 (by decide))) (u_nk _ _ _ (by decide))) with ⟨q, y1, y2, c', m', st', g1, g2, g3, g4, g5, g6, g7, g8, g9, g10, g11, g12, g13⟩ | ⟨k, c', m', g1, g2, g3, g4, g5⟩
          · exact Or.inl ⟨q, y1, y2, c', m', st', g1, g2, by omega, g4, g5, g6, g7, g8, g9, g10, g11, g12, pf.tr g13⟩
          · refine Or.inr ⟨k, c', m', g1, g2, g3, ⟨g4.1.trans (pf.1 1 (by decide) (by decide)), g4.2.trans (pf.1 23 (by decide) (by decide))⟩, fun k hk => (g5 k hk).trans (pf.2.2.1 k (by omega) (by omega) (by omega) (by omega) (by omega))⟩
      · rw [if_neg q44]
        simp only [k_bs, k_sr, k_00, if_true]
        left
        by_cases p2 : p = 2
        · rw [if_pos (show nI p = (2 : Int32) by rw [p2]; rfl)]
          exact done _ z z2 rfl ac2 fc2 rfl q44
        · rw [if_neg (show ¬ nI p = (2 : Int32) by rw [k2_eq (by omega)]; exact p2), a1, k_bs]
          dsimp only
          rw [if_neg q44]
          exact done c3 (sc (bl tx) T z) hz3 (sc_sc (bl tx) T z) a3 (fun k h1 h2 => (a2 k h2).trans (fc2 k h1 h2)) (a2 17 (by decide)) q44
    · rw [show f_X4_readNumber N c 1 720 = _ from n1, show f_X7_takeNumber N m 1 720 = _ from n2]
      simp only [k_gd, k_bs, if_true]
      rw [if_neg (k_kz n3.1 n3.2.1)]
      refine Or.inr ⟨k, c1, _, rfl, rfl, n3.up 29 _ _ (by decide), ⟨n4 1 (by decide) (by decide) (by decide), n4 23 (by decide) (by decide) (by decide)⟩, fun k hk => ?_⟩
      rw [u_nk _ _ _ (by omega)]
      exact n5 k (by omega) (by omega) (by omega) (by omega)
