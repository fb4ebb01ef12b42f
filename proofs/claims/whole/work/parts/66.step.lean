-- ===== counting bits; a step more or less =====
def cntI (x : Int32) : Nat → Int32
  | 0 => 0
  | n + 1 => cntI x n + ((x >>> (nI n &&& 31)) &&& (1 : Int32))
theorem m_bits (N : Nat) (hN : 200 < N) (x : Int32) : f_X7_bits N x = some (cntI x 24) := by
  obtain ⟨o, hQ, e⟩ := loopI (fun n i a => f_X7_bits_L4 N x n a (nI i)) 24 (fun i a => a = cntI x i) (fun o => o = cntI x 24) (fun n i a hi ha => Or.inl ⟨cntI x (i + 1), rfl, by
    subst ha
    show f_X7_bits_L4 N x (n + 1) _ (nI i) = f_X7_bits_L4 N x n _ (nI (i + 1))
    rw [f_X7_bits_L4, if_neg (show ¬ (24 : Int32) ≤ nI i by rw [k24_le (by omega)]; omega), k1_ad]
    rfl⟩) (fun n a ha => ⟨a, ha, by
    show f_X7_bits_L4 N x (n + 1) a (nI 24) = some a
    rw [f_X7_bits_L4, if_pos (show (24 : Int32) ≤ nI 24 by decide)]⟩) N 0 0 (by decide) (by omega) rfl
  unfold f_X7_bits
  rw [show f_X7_bits_L4 N x N 0 0 = some o from e, hQ]
  rfl
theorem c_bits_0 : ∀ n, n < 256 → f_J6_bitCount_0f7a4 0 (nI n) = some (cntI (nI n) 24) := by decide +kernel
theorem c_bits8 (N : Nat) {n : Nat} (h : n < 256) : f_J6_bitCount_0f7a4 N (nI n) = some (cntI (nI n) 24) := c_bits_0 n h
theorem cnt_le : ∀ n, n < 256 → ∃ k, k ≤ 8 ∧ cntI (nI n) 24 = nI k := by decide +kernel
theorem small_of {x : Int32} (k : Nat) (hk : k ≤ 31) (h : ∀ i, k ≤ i → i < 32 → x.toBitVec.getLsbD i = false) : ∃ n, n < 2 ^ k ∧ x = nI n := by
  refine ⟨x.toBitVec.toNat, Nat.lt_pow_two_of_testBit _ (fun i hi => ?_), ?_⟩
  · rcases Nat.lt_or_ge i 32 with q | q
    · exact h i hi q
    · exact BitVec.getLsbD_of_ge _ _ q
  · apply Int32.toBitVec_inj.mp
    show x.toBitVec = BitVec.ofNat 32 x.toBitVec.toNat
    simp
theorem set_sm (f : Nat → Bool) {n : Nat} (hn : n ≤ 31) : ∃ k, k < 2 ^ n ∧ setN f n = nI k := small_of n hn (fun i h1 h2 => set_hi f hn h1 h2)
theorem set8 (f : Nat → Bool) {n : Nat} (hn : n ≤ 8) (y : Int32) : ∃ k, k < 256 ∧ setN f n &&& y = nI k := by
  refine small_of 8 (by decide) (fun i h1 h2 => ?_)
  rw [Int32.toBitVec_and, BitVec.getLsbD_and, set_hi f (by omega) (by omega) h2]
  rfl
theorem c_cnt (N : Nat) (f : Nat → Bool) {n : Nat} (hn : n ≤ 8) (y : Int32) : f_J6_bitCount_0f7a4 N (setN f n &&& y) = some (cntI (setN f n &&& y) 24) := by
  obtain ⟨k, hk, e⟩ := set8 f hn y
  rw [e]
  exact c_bits8 N hk
theorem x_nat {a : Int32} {j : Nat} {x : Int32} (h : a + x = nI j) : nI j - x = a := by rw [← h, Int32.add_sub_cancel]
theorem up_up (g : St_) (j : Nat) (v : Int32) : ∀ k i, up1 (up1 g 7 j v) 7 j (g 7 j) k i = g k i := by
  intro k i
  unfold up1
  by_cases h : Nat.beq k 7 = true
  · have hk : k = 7 := Nat.eq_of_beq_eq_true h
    subst hk
    simp only [h, cond_true]
    unfold upd
    by_cases hi : i = j
    · simp [hi]
    · simp [hi]
  · have h' : Nat.beq k 7 = false := Bool.eq_false_iff.mpr h
    simp only [h', cond_false]
theorem up_same (g : St_) (j : Nat) (v : Int32) : up1 (up1 g 7 j v) 7 j (g 7 j) = g := by
  funext k i
  exact up_up g j v k i
/-- one step more or less in part q of stair r: who climbs it then -/
theorem step_sets (N : Nat) (hN : 200 < N) {t g : St_} {d : Nat → Nat → Nat} {w : Nat → Int32} (h0 : TD d) (h1 : CT t d w) (h2 : MT g d w) {r q v : Nat} (hr : r < d 2 0) (hq : q < d 6 r) (x : Int32) (hv : nI (d 7 (3 * r + q)) + x = nI v) (hv1 : 1 ≤ v) (hv2 : v ≤ 720) : f_X5_climbers N t (nI r) (nI q) x = some (setN (fun p => climD (dset d 7 (3 * r + q) v) p r) (d 9 0)) ∧ f_X7_climbers N (up1 g 7 (3 * r + q) (nI v)) (nI r) = some (setN (fun p => climD (dset d 7 (3 * r + q) v) p r) (d 9 0)) := by
  refine ⟨?_, m_climbers N hN (TD_step h0 ⟨hv1, hv2⟩) (MT_step h2 _ _) hr⟩
  have hp := h0.2.1 r hr
  refine c_climbersG N hN h0 h1 hr (nI q) x (stD (dset d 7 (3 * r + q) v) r) (fun i hi => ?_)
  have hs := h0.2.2.1 r i hr hi
  have e : t 13 (3 * r + i) = nI (d 7 (3 * r + i)) := h1.2.2.2.1 r i hr hi
  show t 13 (3 * r + i) + (if nI i = nI q then x else 0) = nI (if 3 * r + i = 3 * r + q then v else d 7 (3 * r + i)) ∧ (if 3 * r + i = 3 * r + q then v else d 7 (3 * r + i)) < 1000
  rw [e]
  by_cases hiq : i = q
  · subst hiq
    rw [if_pos rfl, if_pos rfl]
    exact ⟨hv, by omega⟩
  · rw [if_neg (show ¬ nI i = nI q by rw [k_eq (by omega) (by omega)]; exact hiq), if_neg (by omega), Int32.add_zero]
    exact ⟨rfl, by omega⟩
def shutI (d : Nat → Nat → Nat) (r q v : Nat) : Int32 := cntI (setN (fun p => climD d p r) (d 9 0) &&& (setN (fun p => climD (dset d 7 (3 * r + q) v) p r) (d 9 0) ^^^ (-1))) 24
def letI_ (d : Nat → Nat → Nat) (r q v : Nat) : Int32 := cntI (setN (fun p => climD (dset d 7 (3 * r + q) v) p r) (d 9 0) &&& (setN (fun p => climD d p r) (d 9 0) ^^^ (-1))) 24
/-- the reference's step, of a part that there is -/
theorem m_step (N : Nat) (hN : 200 < N) {g : St_} {d : Nat → Nat → Nat} {w : Nat → Int32} (h0 : TD d) (h2 : MT g d w) {r q : Nat} (hr : r < d 2 0) (hq : q < d 6 r) (x y : Int32) (hx : x = 1 ∨ x = -1) (hy : y = 0 ∨ y = 1) : (∃ v, 1 ≤ v ∧ v ≤ 720 ∧ nI (d 7 (3 * r + q)) + x = nI v ∧ f_X6_areSteps N (nI (d 7 (3 * r + q)) + x) = some 1 ∧ f_X7_step N g (nI r) (nI q) x y = some (if y = 0 then letI_ d r q v else shutI d r q v, g)) ∨ (f_X6_areSteps N (nI (d 7 (3 * r + q)) + x) = some 0 ∧ f_X7_step N g (nI r) (nI q) x y = some (-1000000002, g)) := by
  have hS := h0.1.2.1
  have hE := h0.1.2.2.1
  have hp := h0.2.1 r hr
  have s2 : g 7 (3 * r + q) = nI (d 7 (3 * r + q)) := h2.2.2.2.2.2.1 r q hr hq
  have m6 : g 6 r = nI (d 6 r) := (h2.2.2.1 r hr).2.2.2
  have p2 : f_X7_isStair N g (nI r) = some 1 := by
    unfold f_X7_isStair
    have hh : f_X7_in N (nI r).toInt64 (0 : Int64) ((nI (d 2 0) - (1 : Int32)).toInt64) = some 1 := k_in1 N ⟨(k_wle 0 _).mpr (nI_pos' (by omega)), (k_wle _ _).mpr (by rw [k1_sb (by omega)]; exact nI_le (by omega) (by omega))⟩
    rw [h2.2.1, hh]
    rfl
  have p3 : f_X7_in N (nI q).toInt64 (0 : Int64) ((nI (d 6 r) - (1 : Int32)).toInt64) = some 1 := k_in1 N ⟨(k_wle 0 _).mpr (nI_pos' (by omega)), (k_wle _ _).mpr (by rw [k1_sb (by omega)]; exact nI_le (by omega) (by omega))⟩
  have p4 : f_X7_in N y.toInt64 (0 : Int64) (1 : Int64) = some 1 := by
    rcases hy with rfl | rfl
    · exact k_in1 N (by decide)
    · exact k_in1 N (by decide)
  unfold f_X7_step
  rw [p2, k_ok (show r < 10 by omega) (by omega), k_cl (show r < 2147483648 by omega), m6, p3, p4, k3_mu, k_add, k_ok (show 3 * r + q < 30 by omega) (by omega), k_cl (show 3 * r + q < 2147483648 by omega), s2]
  simp only [k_bs, k_10, if_false, k_gd]
  have join : ∀ z : Option ((Int32 × St_) ⊕ Unit), (if x = 1 then z else if x = -1 then z else some (Sum.inl (-1000000002, g))) = z := fun z => by
    rcases hx with rfl | rfl
    · rw [if_pos rfl]
    · rw [if_neg (by decide), if_pos rfl]
  rw [join]
  rcases b_steps N (nI (d 7 (3 * r + q)) + x) with ⟨v, hv1, hv2, ev, q1, q2⟩ | ⟨q1, q2⟩
  · left
    refine ⟨v, hv1, hv2, ev, q1, ?_⟩
    rw [q2]
    simp only [k_bs, k_10, if_false, k_sr]
    rw [m_climbers N hN h0 h2 hr, ev]
    have mm := m_climbers N hN (TD_step h0 (r := r) (q := q) ⟨hv1, hv2⟩) (MT_step h2 (3 * r + q) v) hr
    rw [mm]
    simp only [k_bs]
    have fin : up1 (up1 g 7 (3 * r + q) (nI v)) 7 (3 * r + q) ((up1 g 7 (3 * r + q) (nI v)) 7 (3 * r + q) - x) = g := by
      rw [u_eq, x_nat ev, ← s2]
      exact up_same g _ _
    rw [fin, m_bits N hN, m_bits N hN]
    by_cases y0 : y = 0
    · rw [if_pos y0, if_pos y0]; rfl
    · rw [if_neg y0, if_neg y0]; rfl
  · right
    refine ⟨q1, ?_⟩
    rw [q2]
    rfl
theorem pa_step (N : Nat) (hN : 200 < N) : PA_step N Rel := by
  intro g1 g2 hR z0 z1 z2 z3
  have hR0 := hR
  obtain ⟨d, w, h0, h1, h2, -⟩ := hR
  have hS := h0.1.2.1
  have hE := h0.1.2.2.1
  rcases b_part N h0 (t := sh_ 27 g1) h1.1 h2 z0 z1 with ⟨r, q, hr, hq, rfl, rfl, p1, p2, p3⟩ | ⟨p1, p2 | ⟨p2, p3, p4⟩⟩
  · have hp := h0.2.1 r hr
    have s1 : g1 39 (3 * r + q) = nI (d 7 (3 * r + q)) := h1.2.2.2.1 r q hr hq
    by_cases ok : (z2 = 1 ∨ z2 = -1) ∧ (z3 = 0 ∨ z3 = 1)
    · unfold f_X6_step
      rw [p1, k3_mu, k_add, k_ok (show 3 * r + q < 30 by omega) (by omega), k_cl (show 3 * r + q < 2147483648 by omega), s1]
      simp only [k_bs, k_10, if_false, k_gd]
      have join : (if z2 = 1 then (if z3 = 0 then some (Sum.inr ()) else if z3 = 1 then some (Sum.inr ()) else some (Sum.inl (-1000000002))) else if z2 = -1 then (if z3 = 0 then some (Sum.inr ()) else if z3 = 1 then some (Sum.inr ()) else some (Sum.inl (-1000000002))) else some (Sum.inl (-1000000002)) : Option (Int32 ⊕ Unit)) = some (Sum.inr ()) := by
        obtain ⟨ha, hb⟩ := ok
        rcases ha with rfl | rfl <;> rcases hb with rfl | rfl <;> rfl
      rw [join]
      simp only [k_bs, k_sr]
      rcases m_step N hN h0 h2 hr hq z2 z3 ok.1 ok.2 with ⟨v, hv1, hv2, ev, q1, q2⟩ | ⟨q1, q2⟩
      · obtain ⟨c1, -⟩ := step_sets N hN h0 h1 h2 hr hq z2 ev hv1 hv2
        rw [q1, q2, c_climbers N hN h0 h1 hr, c1]
        simp only [k_bs, k_10, if_false]
        refine ⟨if z3 = 0 then letI_ d r q v else shutI d r q v, g2, ?_, rfl, hR0⟩
        rw [c_cnt N _ hE, c_cnt N _ hE]
        by_cases y0 : z3 = 0
        · rw [if_pos y0, if_pos y0]; rfl
        · rw [if_neg y0, if_neg y0]; rfl
      · rw [q1, q2]
        exact ⟨_, _, rfl, rfl, hR0⟩
    · have hc : f_X6_step N g1 (nI r) (nI q) z2 z3 = some (-1000000002) := by
        unfold f_X6_step
        rw [p1]
        simp only [k_bs, k_10, if_false]
        have join : (if z2 = 1 then (if z3 = 0 then some (Sum.inr ()) else if z3 = 1 then some (Sum.inr ()) else some (Sum.inl (-1000000002))) else if z2 = -1 then (if z3 = 0 then some (Sum.inr ()) else if z3 = 1 then some (Sum.inr ()) else some (Sum.inl (-1000000002))) else some (Sum.inl (-1000000002)) : Option (Int32 ⊕ Unit)) = some (Sum.inl (-1000000002)) := by
          by_cases a1 : z2 = 1
          · have b0 : ¬ z3 = 0 := fun h => ok ⟨Or.inl a1, Or.inl h⟩
            have b1 : ¬ z3 = 1 := fun h => ok ⟨Or.inl a1, Or.inr h⟩
            rw [if_pos a1, if_neg b0, if_neg b1]
          · by_cases a2 : z2 = -1
            · have b0 : ¬ z3 = 0 := fun h => ok ⟨Or.inr a2, Or.inl h⟩
              have b1 : ¬ z3 = 1 := fun h => ok ⟨Or.inr a2, Or.inr h⟩
              rw [if_neg a1, if_pos a2, if_neg b0, if_neg b1]
            · rw [if_neg a1, if_neg a2]
        rw [join]
        rfl
      have hm : f_X7_step N g2 (nI r) (nI q) z2 z3 = some (-1000000002, g2) := by
        unfold f_X7_step
        rw [p2, k_ok (show r < 10 by omega) (by omega), p3]
        simp only [k_bs, k_10, if_false, k_gd]
        have p5 : ¬ (z3 = 0 ∨ z3 = 1) → f_X7_in N z3.toInt64 (0 : Int64) (1 : Int64) = some 0 := by
          intro hz
          rcases k_inC N (x := z3) 0 1 (by decide) (by decide) with ⟨j, hj0, hj, rfl, h⟩ | ⟨h, h6⟩
          · exact absurd (by rcases (show j = 0 ∨ j = 1 by omega) with rfl | rfl; exact Or.inl rfl; exact Or.inr rfl) hz
          · exact h6
        by_cases a1 : z2 = 1
        · rw [if_pos a1, p5 (fun h => ok ⟨Or.inl a1, h⟩)]; rfl
        · by_cases a2 : z2 = -1
          · rw [if_neg a1, if_pos a2, p5 (fun h => ok ⟨Or.inr a2, h⟩)]; rfl
          · rw [if_neg a1, if_neg a2]; rfl
      exact ⟨_, _, hc, hm, hR0⟩
  · unfold f_X6_step f_X7_step
    rw [p1, p2]
    exact ⟨_, _, rfl, rfl, hR0⟩
  · unfold f_X6_step f_X7_step
    rw [p1, p2, p3]
    simp only [k_bs, k_10, if_false, k_gd]
    rw [p4]
    exact ⟨_, _, rfl, rfl, hR0⟩
