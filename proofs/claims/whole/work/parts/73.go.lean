-- ===== going =====
def canF (d : Nat → Nat → Nat) (f p r : Nat) : Bool := (decide (f = d 4 r) && climD d p r) || (decide (f = d 5 r) && (decide (d 13 0 = 1) || climD d p r))
def endF (d : Nat → Nat → Nat) (f r : Nat) : Nat := if f = d 4 r then d 5 r else d 4 r
theorem c_other (N : Nat) (hN : 200 < N) {t : St_} {d : Nat → Nat → Nat} {w : Nat → Int32} (h0 : TD d) (h1 : CT t d w) {p r f : Nat} (hp : p < d 9 0) (hr : r < d 2 0) (hf : f < 1000) : f_X5_otherEnd N t (nI p) (nI r) (nI f) = some (if canF d f p r = true then nI (endF d f r) else -1) := by
  have hS := h0.1.2.1
  have hP := h0.1.1
  have hL := h0.1.2.2.2.1
  have hq := h0.2.1 r hr
  have e5 : t 5 r = nI (d 4 r) := (h1.1.2.2 r hr).2.1
  have e6 : t 6 r = nI (d 5 r) := (h1.1.2.2 r hr).2.2.1
  have e15 : t 15 0 = nI (d 13 0) := h1.2.2.2.2.2.1
  unfold f_X5_otherEnd canF endF
  rw [k_ok (show r < 10 by omega) (by omega), k_cl (show r < 2147483648 by omega), e5, e6, e15, c_climb N hN h0 h1 hp hr]
  simp only [k_gd, k_bs, ib]
  by_cases c1 : f = d 4 r
  · have c2 : ¬ f = d 5 r := by omega
    rw [if_pos (show nI f = nI (d 4 r) by rw [c1]), if_pos c1, decide_eq_true c1, decide_eq_false c2]
    cases climD d p r <;> rfl
  · rw [if_neg (show ¬ nI f = nI (d 4 r) by rw [k_eq (by omega) (by omega)]; exact c1), if_neg c1, decide_eq_false c1]
    by_cases c2 : f = d 5 r
    · rw [if_pos (show nI f = nI (d 5 r) by rw [c2]), decide_eq_true c2]
      by_cases c3 : d 13 0 = 1
      · rw [if_pos (show nI (d 13 0) = (1 : Int32) by rw [c3]; rfl), decide_eq_true c3]
        rfl
      · rw [if_neg (show ¬ nI (d 13 0) = (1 : Int32) by rw [k1_eq (by omega)]; exact c3), decide_eq_false c3]
        cases climD d p r <;> rfl
    · rw [if_neg (show ¬ nI f = nI (d 5 r) by rw [k_eq (by omega) (by omega)]; exact c2), decide_eq_false c2]
      rfl
theorem m_can (N : Nat) (hN : 200 < N) {g : St_} {d : Nat → Nat → Nat} {w : Nat → Int32} (h0 : TD d) (h2 : MT g d w) {p r : Nat} (hp : p < d 9 0) (hr : r < d 2 0) : f_X7_canGo N g (nI p) (nI r) = some (b2 (canF d (d 10 p) p r)) := by
  have hS := h0.1.2.1
  have hP := h0.1.1
  have hE := h0.1.2.2.1
  have hL := h0.1.2.2.2.1
  have hq := h0.2.1 r hr
  have hat := (h0.2.2.2 p hp).1
  have e10 : g 10 p = nI (d 10 p) := (h2.2.2.2.2.1 p hp).1
  have e4 : g 4 r = nI (d 4 r) := (h2.2.2.1 r hr).2.1
  have e5 : g 5 r = nI (d 5 r) := (h2.2.2.1 r hr).2.2.1
  have e13 : g 13 0 = nI (d 13 0) := h2.2.2.2.2.2.2.2.1
  unfold f_X7_canGo canF
  rw [k_ok (show p < 8 by omega) (by omega), k_ok (show r < 10 by omega) (by omega), k_cl (show p < 2147483648 by omega), k_cl (show r < 2147483648 by omega), e10, e4, e5, e13, m_climb N hN h0 h2 hp hr]
  simp only [k_gd, k_bs, ib]
  generalize d 10 p = f at hat ⊢
  by_cases c1 : f = d 4 r
  · have c2 : ¬ f = d 5 r := by omega
    rw [if_pos (show nI f = nI (d 4 r) by rw [c1]), if_neg (show ¬ nI f = nI (d 5 r) by rw [k_eq (by omega) (by omega)]; exact c2), decide_eq_true c1, decide_eq_false c2]
    cases climD d p r <;> rfl
  · rw [if_neg (show ¬ nI f = nI (d 4 r) by rw [k_eq (by omega) (by omega)]; exact c1), decide_eq_false c1]
    by_cases c2 : f = d 5 r
    · rw [if_pos (show nI f = nI (d 5 r) by rw [c2]), decide_eq_true c2]
      by_cases c3 : d 13 0 = 1
      · rw [if_pos (show nI (d 13 0) = (1 : Int32) by rw [c3]; rfl), decide_eq_true c3]
        rfl
      · rw [if_neg (show ¬ nI (d 13 0) = (1 : Int32) by rw [k1_eq (by omega)]; exact c3), decide_eq_false c3]
        cases climD d p r <;> rfl
    · rw [if_neg (show ¬ nI f = nI (d 5 r) by rw [k_eq (by omega) (by omega)]; exact c2), decide_eq_false c2]
      rfl
def strD (d : Nat → Nat → Nat) (p r : Nat) : Nat := bif fitD d (d 12 p) r then (bif fitD d (d 11 p) r then (if d 11 p < d 12 p then d 12 p else d 11 p) else d 12 p) else d 11 p
theorem fitD_0 {d : Nat → Nat → Nat} {s r : Nat} (h : fitD d s r = true) : s ≠ 0 := by
  unfold fitD fitF at h
  rw [Bool.and_eq_true] at h
  exact of_decide_eq_true h.1
theorem str_b {d : Nat → Nat → Nat} (h0 : TD d) {p : Nat} (r : Nat) (hp : p < d 9 0) : 1 ≤ strD d p r ∧ strD d p r ≤ 24 := by
  have hq := h0.2.2.2 p hp
  unfold strD
  cases c : fitD d (d 12 p) r with
  | false => exact ⟨hq.2.1, hq.2.2.1⟩
  | true =>
    have := fitD_0 c
    rw [cond_true]
    cases fitD d (d 11 p) r with
    | false => exact ⟨by rw [cond_false]; omega, hq.2.2.2⟩
    | true =>
      rw [cond_true]
      by_cases q : d 11 p < d 12 p
      · rw [if_pos q]; omega
      · rw [if_neg q]; omega
theorem c_stride (N : Nat) (hN : 200 < N) {t : St_} {d : Nat → Nat → Nat} {w : Nat → Int32} (h0 : TD d) (h1 : CT t d w) {p r : Nat} (hp : p < d 9 0) (hr : r < d 2 0) : f_X5_strideOn N t (nI p) (nI r) = some (nI (strD d p r)) := by
  have hE := h0.1.2.2.1
  have hq := h0.2.2.2 p hp
  have e1 : t 11 p = nI (d 11 p) := (h1.2.2.1 p hp).2.1
  have e2 : t 12 p = nI (d 12 p) := (h1.2.2.1 p hp).2.2
  unfold f_X5_strideOn strD
  rw [k_ok (show p < 8 by omega) (by omega), k_cl (show p < 2147483648 by omega), e1, e2, c_fit N hN h0 h1 hr (by omega), c_fit N hN h0 h1 hr (by omega)]
  simp only [k_gd, k_bs, ib]
  have : (if nI (d 11 p) < nI (d 12 p) then nI (d 12 p) else nI (d 11 p)) = nI (if d 11 p < d 12 p then d 12 p else d 11 p) := by
    by_cases q : d 11 p < d 12 p
    · rw [if_pos q, if_pos (nI_lt q (by omega))]
    · rw [if_neg q, if_neg (nI_nlt (by omega) (by omega))]
  rw [this]
  cases fitD d (d 12 p) r <;> cases fitD d (d 11 p) r <;> rfl
def tkD (d : Nat → Nat → Nat) (r s : Nat) : Nat → Int32
  | 0 => 0
  | n + 1 => tkD d r s n + ((nI (d 7 (3 * r + n)) + nI s) - (1 : Int32)) / nI s
theorem c_taken (N : Nat) (hN : 200 < N) {t : St_} {d : Nat → Nat → Nat} {w : Nat → Int32} (h0 : TD d) (h1 : CT t d w) {r s : Nat} (hr : r < d 2 0) (hs1 : 1 ≤ s) (hs : s < 1000) : f_X5_stepsTaken N t (nI r) (nI s) = some (tkD d r s (d 6 r)) := by
  have hS := h0.1.2.1
  have hq := h0.2.1 r hr
  have e7 : t 7 r = nI (d 6 r) := (h1.1.2.2 r hr).2.2.2
  obtain ⟨o, hQ, e⟩ := loopI (fun n i a => f_X5_stepsTaken_L5 N t (nI r) (nI s) n a (nI i)) (d 6 r) (fun i a => a = tkD d r s i) (fun o => o = tkD d r s (d 6 r)) (fun n i a hi ha => Or.inl ⟨_, rfl, by
    subst ha
    have e13 : t 13 (3 * r + i) = nI (d 7 (3 * r + i)) := h1.2.2.2.1 r i hr hi
    show f_X5_stepsTaken_L5 N t (nI r) (nI s) (n + 1) _ (nI i) = f_X5_stepsTaken_L5 N t (nI r) (nI s) n _ (nI (i + 1))
    rw [f_X5_stepsTaken_L5, k_ok (show r < 10 by omega) (by omega), k_cl (show r < 2147483648 by omega), e7, if_neg (nI_ge hi (by omega)), k3_mu, k_add, k_ok (show 3 * r + i < 30 by omega) (by omega), k_cl (show 3 * r + i < 2147483648 by omega), e13, if_neg (show ¬ nI s ≤ 0 by rw [k_z0 (by omega)]; omega), nz_I (by omega) (by omega), k1_ad]
    rfl⟩) (fun n a ha => ⟨a, ha, by
    show f_X5_stepsTaken_L5 N t (nI r) (nI s) (n + 1) a (nI (d 6 r)) = some a
    rw [f_X5_stepsTaken_L5, k_ok (show r < 10 by omega) (by omega), k_cl (show r < 2147483648 by omega), e7, if_pos (Int32.le_refl _)]
    rfl⟩) N 0 0 (Nat.zero_le _) (by omega) rfl
  unfold f_X5_stepsTaken
  rw [show f_X5_stepsTaken_L5 N t (nI r) (nI s) N 0 0 = some o from e, hQ]
  rfl
theorem u_nk (g : St_) {k a : Nat} (j : Nat) (v : Int32) (h : a ≠ k) : up1 g k j v a = g a := by
  show (bif Nat.beq a k then upd (g a) j v else g a) = g a
  have : Nat.beq a k = false := Bool.eq_false_iff.mpr (fun q => h (Nat.eq_of_beq_eq_true q))
  rw [this]
  rfl
theorem m_goNow (N : Nat) (hN : 200 < N) {g : St_} {d : Nat → Nat → Nat} {w : Nat → Int32} (h0 : TD d) (h2 : MT g d w) {p r : Nat} (hp : p < d 9 0) (hr : r < d 2 0) : ∃ h, f_X7_goNow N g (nI p) (nI r) = some h ∧ (∀ k, k ≠ 8 → k ≠ 10 → h k = g k) ∧ (∀ j, j ≠ r → h 8 j = g 8 j) ∧ h 8 r = w r + tkD d r (strD d p r) (d 6 r) ∧ (∀ j, j ≠ p → h 10 j = g 10 j) ∧ h 10 p = nI (endF d (d 10 p) r) := by
  have hS := h0.1.2.1
  have hP := h0.1.1
  have hE := h0.1.2.2.1
  have hq := h0.2.1 r hr
  have hq2 := h0.2.2.2 p hp
  obtain ⟨e10, e11, e12⟩ := h2.2.2.2.2.1 p hp
  have e4 : g 4 r = nI (d 4 r) := (h2.2.2.1 r hr).2.1
  have e5 : g 5 r = nI (d 5 r) := (h2.2.2.1 r hr).2.2.1
  have e6 : g 6 r = nI (d 6 r) := (h2.2.2.1 r hr).2.2.2
  have e8 : g 8 r = w r := h2.2.2.2.2.2.2.1 r hr
  obtain ⟨s1, s2⟩ := str_b h0 r hp
  have J : (if b2 (fitD d (d 12 p) r) = 0 then some (nI (d 11 p)) else if b2 (fitD d (d 11 p) r) = 0 then some (nI (d 12 p)) else if nI (d 12 p) ≤ nI (d 11 p) then some (nI (d 11 p)) else some (nI (d 12 p))) = some (nI (strD d p r)) := by
    unfold strD
    simp only [ib]
    have : (if nI (d 12 p) ≤ nI (d 11 p) then some (nI (d 11 p)) else some (nI (d 12 p))) = some (nI (if d 11 p < d 12 p then d 12 p else d 11 p)) := by
      by_cases q : d 11 p < d 12 p
      · rw [if_pos q, if_neg (nI_ge q (by omega))]
      · rw [if_neg q, if_pos (nI_le (by omega) (by omega))]
    rw [this]
    cases fitD d (d 12 p) r <;> cases fitD d (d 11 p) r <;> rfl
  generalize strD d p r = s at s1 s2 J ⊢
  obtain ⟨o, ⟨o1, o2, o3⟩, e⟩ := loopI (fun n i a => f_X7_goNow_L69 N (nI r) (nI s) n (nI i) a) (d 6 r) (fun i a => (∀ k, k ≠ 8 → a k = g k) ∧ (∀ j, j ≠ r → a 8 j = g 8 j) ∧ a 8 r = w r + tkD d r s i) (fun a => (∀ k, k ≠ 8 → a k = g k) ∧ (∀ j, j ≠ r → a 8 j = g 8 j) ∧ a 8 r = w r + tkD d r s (d 6 r)) (fun n i a hi ha => by
    obtain ⟨a1, a2, a3⟩ := ha
    left
    refine ⟨up1 a 8 r (a 8 r + ((nI (d 7 (3 * r + i)) + nI s) - (1 : Int32)) / nI s), ⟨fun k hk => by rw [u_nk _ _ _ hk]; exact a1 k hk, fun j hj => by rw [u_ne _ _ _ _ hj]; exact a2 j hj, ?_⟩, ?_⟩
    · rw [u_eq, a3, Int32.add_assoc]
      rfl
    · have e7 : a 7 (3 * r + i) = nI (d 7 (3 * r + i)) := by rw [a1 7 (by decide)]; exact h2.2.2.2.2.2.1 r i hr hi
      show f_X7_goNow_L69 N (nI r) (nI s) (n + 1) (nI i) a = f_X7_goNow_L69 N (nI r) (nI s) n (nI (i + 1)) _
      rw [f_X7_goNow_L69, k_ok (show r < 10 by omega) (by omega), k_cl (show r < 2147483648 by omega), a1 6 (by decide), e6, if_neg (nI_ge hi (by omega)), k3_mu, k_add, k_ok (show 3 * r + i < 30 by omega) (by omega), k_cl (show 3 * r + i < 2147483648 by omega), e7, nz_I (by omega) (by omega), k1_ad]
      rfl) (fun n a ha => ⟨a, ha, by
    show f_X7_goNow_L69 N (nI r) (nI s) (n + 1) (nI (d 6 r)) a = some a
    rw [f_X7_goNow_L69, k_ok (show r < 10 by omega) (by omega), k_cl (show r < 2147483648 by omega), ha.1 6 (by decide), e6, if_pos (Int32.le_refl _)]
    rfl⟩) N 0 g (Nat.zero_le _) (by omega) ⟨fun k _ => rfl, fun j _ => rfl, by rw [e8]; exact (Int32.add_zero _).symm⟩
  refine ⟨up1 o 10 p (nI (endF d (d 10 p) r)), ?_, fun k h8 h10 => by rw [u_nk _ _ _ h10]; exact o1 k h8, fun j hj => o2 j hj, o3, fun j hj => by rw [u_ne _ _ _ _ hj, o1 10 (by decide)], u_eq _ _ _ _⟩
  unfold f_X7_goNow
  rw [k_ok (show p < 8 by omega) (by omega), k_ok (show r < 10 by omega) (by omega), k_cl (show p < 2147483648 by omega), k_cl (show r < 2147483648 by omega), e11, e12, m_fitD N hN h0 h2 hr (by omega), m_fitD N hN h0 h2 hr (by omega)]
  simp only [k_gd, k_bs]
  rw [J, k_bs, show f_X7_goNow_L69 N (nI r) (nI s) N 0 g = some o from e, k_bs, o1 10 (by decide), o1 4 (by decide), o1 5 (by decide), e10, e4, e5]
  unfold endF
  by_cases c : d 10 p = d 4 r
  · rw [if_pos c, if_pos (show nI (d 10 p) = nI (d 4 r) by rw [c])]
  · rw [if_neg c, if_neg (show ¬ nI (d 10 p) = nI (d 4 r) by rw [k_eq (by omega) (by omega)]; exact c)]
-- the change that going makes
def atD (d : Nat → Nat → Nat) (q : Nat → Nat) : Nat → Nat → Nat := fun a => bif Nat.beq a 10 then q else d a
def goW (w : Nat → Int32) (r : Nat) (v : Int32) : Nat → Int32 := fun x => if x = r then v else w x
def posU (q : Nat → Nat) (p e : Nat) : Nat → Nat := fun x => if x = p then e else q x
theorem TD_at {d : Nat → Nat → Nat} (h0 : TD d) {q : Nat → Nat} (hq : ∀ p, p < d 9 0 → q p < d 1 0) : TD (atD d q) := ⟨h0.1, h0.2.1, h0.2.2.1, fun p hp => ⟨hq p hp, (h0.2.2.2 p hp).2⟩⟩
theorem endF_lt {d : Nat → Nat → Nat} (h0 : TD d) {r : Nat} (hr : r < d 2 0) (f : Nat) : endF d f r < d 1 0 := by
  have hq := h0.2.1 r hr
  unfold endF
  by_cases c : f = d 4 r
  · rw [if_pos c]; exact hq.2.2.1
  · rw [if_neg c]; exact hq.2.1
theorem posU_lt {d : Nat → Nat → Nat} {q : Nat → Nat} (hq : ∀ p, p < d 9 0 → q p < d 1 0) {p e : Nat} (he : e < d 1 0) : ∀ x, x < d 9 0 → posU q p e x < d 1 0 := by
  intro x hx
  unfold posU
  by_cases c : x = p
  · rw [if_pos c]; exact he
  · rw [if_neg c]; exact hq x hx
def MF (g h : St_) : Prop := h 15 = g 15 ∧ h 16 = g 16 ∧ h 17 = g 17 ∧ h 35 = g 35 ∧ h 36 = g 36 ∧ h 37 = g 37 ∧ h 38 = g 38 ∧ h 39 = g 39 ∧ h 40 = g 40 ∧ h 41 = g 41 ∧ h 43 = g 43 ∧ h 44 = g 44
theorem MF.of {g h : St_} (H : ∀ k, 15 ≤ k → h k = g k) : MF g h := ⟨H 15 (by decide), H 16 (by decide), H 17 (by decide), H 35 (by decide), H 36 (by decide), H 37 (by decide), H 38 (by decide), H 39 (by decide), H 40 (by decide), H 41 (by decide), H 43 (by decide), H 44 (by decide)⟩
/-- all but the town is as it was, on both sides -/
theorem Rel_of {g1 g2 h1 h2 : St_} {d e : Nat → Nat → Nat} {w' : Nat → Int32} (h3 : RTx g1 g2) (h4 : g1 75 0 = g2 17 0) (h5 : RSe g1 g2 (d 1 0)) (h6 : RBo g1 g2 (d 2 0)) (h7 : RIm g1 g2 d) (c : ∀ k, k = 2 ∨ k = 24 ∨ (46 ≤ k ∧ k ≠ 74) → h1 k = g1 k) (m : MF g2 h2) (p : SP d e) (k0 : TD e) (k1 : CT (sh_ 26 h1) e w') (k2 : MT h2 e w') : Rel h1 h2 := by
  obtain ⟨m15, m16, m17, m35, m36, m37, m38, m39, m40, m41, m43, m44⟩ := m
  refine ⟨e, w', k0, k1, k2, ?_, ?_, ?_, ?_, ?_⟩
  · unfold RTx at h3 ⊢
    rw [c 2 (by omega), c 24 (by omega), m15, m16]
    exact h3
  · rw [c 75 (by omega), m17]; exact h4
  · unfold RSe at h5 ⊢
    rw [p.1, c 66 (by omega), c 67 (by omega), c 68 (by omega), c 69 (by omega), m35, m36, m37, m38]
    exact h5
  · unfold RBo at h6 ⊢
    rw [p.2.1, c 71 (by omega), c 72 (by omega), c 73 (by omega), m39, m40, m41]
    exact h6
  · have one : ∀ i oc om, 46 ≤ oc → oc ≤ 55 → RI1 g1 g2 d i oc om → RI1 h1 h2 e i oc om := by
      intro i oc om ho ho2 h
      unfold RI1 at h ⊢
      rw [c 64 (by omega), m44]
      rcases h with h | ⟨a1, a2, e', w2, a3, a4, a5, a6⟩
      · exact Or.inl h
      · refine Or.inr ⟨a1, a2, e', w2, ⟨a3.1.trans p.1.symm, a3.2.1.trans p.2.1.symm, fun r hr => ?_⟩, a4, ?_, ?_⟩
        · rw [p.2.1] at hr
          obtain ⟨b1, b2', b3, b4⟩ := a3.2.2 r hr
          obtain ⟨q1, q2, q3, q4⟩ := p.2.2 r hr
          exact ⟨b1.trans q1.symm, b2'.trans q2.symm, b3.trans q3.symm, b4.trans q4.symm⟩
        · have s : ∀ k, k < 10 → sh_ oc h1 k = sh_ oc g1 k := fun k hk => c (oc + k) (by omega)
          unfold CS at a5 ⊢
          rw [s 1 (by omega), s 2 (by omega), s 3 (by omega), s 4 (by omega), s 5 (by omega), s 6 (by omega), s 7 (by omega), s 8 (by omega)]
          exact a5
        · unfold MI at a6 ⊢
          rw [m43]
          exact a6
    exact ⟨one 0 46 0 (by omega) (by omega) h7.1, one 1 55 70 (by omega) (by omega) h7.2⟩
theorem SP.rf (d : Nat → Nat → Nat) : SP d d := ⟨rfl, rfl, fun _ _ => ⟨rfl, rfl, rfl, rfl⟩⟩
/-- a person at a stair: both go, or neither -/
theorem go_both (N : Nat) (hN : 200 < N) {t g : St_} {d : Nat → Nat → Nat} {w : Nat → Int32} (h0 : TD d) (h1 : CT t d w) (h2 : MT g d w) {p r : Nat} (hp : p < d 9 0) (hr : r < d 2 0) : (∃ t' h d' w', f_X5_travel N t (nI p) (nI r) = some (1, t') ∧ f_X7_canGo N g (nI p) (nI r) = some 1 ∧ f_X7_goNow N g (nI p) (nI r) = some h ∧ TD d' ∧ CT t' d' w' ∧ MT h d' w' ∧ SP d d' ∧ MF g h ∧ d' 9 = d 9 ∧ d' 14 = d 14) ∨ (f_X5_travel N t (nI p) (nI r) = some (0, t) ∧ f_X7_canGo N g (nI p) (nI r) = some 0) := by
  have hS := h0.1.2.1
  have hP := h0.1.1
  have hE := h0.1.2.2.1
  have hat := (h0.2.2.2 p hp).1
  have e10 : t 10 p = nI (d 10 p) := (h1.2.2.1 p hp).1
  have e14 : t 14 r = w r := h1.2.2.2.2.1 r hr
  have eM := m_can N hN h0 h2 hp hr
  obtain ⟨s1, s2⟩ := str_b h0 r hp
  unfold f_X5_travel
  rw [k_ok (show p < 8 by omega) (by omega), k_cl (show p < 2147483648 by omega), e10, c_other N hN h0 h1 hp hr (by omega), eM]
  cases hc : canF d (d 10 p) p r with
  | false =>
    right
    exact ⟨rfl, rfl⟩
  | true =>
    left
    obtain ⟨h, m1, m2, m3, m4, m5, m6⟩ := m_goNow N hN h0 h2 hp hr
    have hl := endF_lt h0 hr (d 10 p)
    refine ⟨up1 (up1 t 14 r (w r + tkD d r (strD d p r) (d 6 r))) 10 p (nI (endF d (d 10 p) r)), h, atD d (posU (d 10) p (endF d (d 10 p) r)), goW w r (w r + tkD d r (strD d p r) (d 6 r)), ?_, rfl, m1, TD_at h0 (posU_lt (fun q hq => (h0.2.2.2 q hq).1) hl), ?_, ?_, SP.rf d, ?_, rfl, rfl⟩
    · rw [if_pos rfl]
      simp only [k_gd, k_bs]
      rw [if_neg (show ¬ nI (endF d (d 10 p) r) = -1 by rw [k_m1 (by omega)]; exact fun h => h), k_ok (show r < 10 by omega) (by omega), k_gd, c_stride N hN h0 h1 hp hr, k_bs, c_taken N hN h0 h1 hr s1 (by omega), k_bs, k_cl (show r < 2147483648 by omega), e14]
      rfl
    · refine ⟨h1.1, h1.2.1, fun x hx => ⟨?_, (h1.2.2.1 x hx).2⟩, h1.2.2.2.1, fun x hx => ?_, h1.2.2.2.2.2⟩
      · show (if x = p then nI (endF d (d 10 p) r) else t 10 x) = nI (if x = p then endF d (d 10 p) r else d 10 x)
        by_cases c : x = p
        · rw [if_pos c, if_pos c]
        · rw [if_neg c, if_neg c]; exact (h1.2.2.1 x hx).1
      · show (if x = r then w r + tkD d r (strD d p r) (d 6 r) else t 14 x) = (if x = r then w r + tkD d r (strD d p r) (d 6 r) else w x)
        by_cases c : x = r
        · rw [if_pos c, if_pos c]
        · rw [if_neg c, if_neg c]; exact h1.2.2.2.2.1 x hx
    · have f : ∀ k, k ≠ 8 → k ≠ 10 → h k = g k := m2
      unfold MT
      rw [f 1 (by decide) (by decide), f 2 (by decide) (by decide), f 3 (by decide) (by decide), f 4 (by decide) (by decide), f 5 (by decide) (by decide), f 6 (by decide) (by decide), f 7 (by decide) (by decide), f 9 (by decide) (by decide), f 11 (by decide) (by decide), f 12 (by decide) (by decide), f 13 (by decide) (by decide), f 14 (by decide) (by decide)]
      refine ⟨h2.1, h2.2.1, h2.2.2.1, h2.2.2.2.1, fun x hx => ⟨?_, (h2.2.2.2.2.1 x hx).2⟩, h2.2.2.2.2.2.1, fun x hx => ?_, h2.2.2.2.2.2.2.2⟩
      · show h 10 x = nI (if x = p then endF d (d 10 p) r else d 10 x)
        by_cases c : x = p
        · rw [if_pos c, c, m6]
        · rw [if_neg c, m5 x c]; exact (h2.2.2.2.2.1 x hx).1
      · show h 8 x = (if x = r then w r + tkD d r (strD d p r) (d 6 r) else w x)
        by_cases c : x = r
        · rw [if_pos c, c, m4]
        · rw [if_neg c, m3 x c]; exact h2.2.2.2.2.2.2.1 x hx
    · exact MF.of (fun k hk => m2 k (by omega) (by omega))
theorem pa_go (N : Nat) (hN : 200 < N) : PA_go N Rel := by
  intro g1 g2 hR z0 z1
  have hR0 := hR
  obtain ⟨d, w, h0, h1, h2, h3, h4, h5, h6, h7⟩ := hR
  have hE := h0.1.2.2.1
  unfold f_X6_go f_X7_go
  rcases b_person N h0 (t := sh_ 34 g1) h1.2 h2 z0 with ⟨p, hp, rfl, p1, p2⟩ | ⟨p1, p2⟩
  · rcases b_stair N h0 (t := sh_ 27 g1) h1.1 h2 z1 with ⟨r, hr, rfl, p3, p4⟩ | ⟨p3, p4⟩
    · rw [p1, p2, p3, p4]
      rcases go_both N hN h0 h1 h2 hp hr with ⟨t', h, d', w', a1, a2, a3, a4, a5, a6, a7, a8, a9, a10⟩ | ⟨a1, a2⟩
      · rw [a1, a2, a3, k_ok (show p < 8 by omega) (by omega), k_cl (show p < 2147483648 by omega)]
        refine ⟨nI (d' 10 p), pu_ 26 19 g1 t', h, ?_, ?_, Rel_of h3 h4 h5 h6 h7 (fun k hk => ?_) a8 a7 a4 a5 a6⟩
        · show some (t' 10 p, pu_ 26 19 g1 t') = _
          rw [show t' 10 p = nI (d' 10 p) from (a5.2.2.1 p (by rw [a9]; exact hp)).1]
        · show some (h 10 p, h) = _
          rw [show h 10 p = nI (d' 10 p) from (a6.2.2.2.2.1 p (by rw [a9]; exact hp)).1]
        · unfold pu_
          have : (Nat.ble 26 k && Nat.ble (k + 1) (26 + 19)) = false := by
            rcases hk with rfl | rfl | hk
            · rfl
            · rfl
            · have : Nat.ble (k + 1) (26 + 19) = false := Bool.eq_false_iff.mpr (fun q => by have := Nat.le_of_ble_eq_true q; omega)
              rw [this, Bool.and_false]
          rw [this]
          rfl
      · rw [a1, a2]
        refine ⟨-1000000003, pu_ 26 19 g1 (sh_ 26 g1), g2, rfl, rfl, Rel_of h3 h4 h5 h6 h7 (fun k hk => ?_) (MF.of (fun _ _ => rfl)) (SP.rf d) h0 h1 h2⟩
        unfold pu_
        have : (Nat.ble 26 k && Nat.ble (k + 1) (26 + 19)) = false := by
          rcases hk with rfl | rfl | hk
          · rfl
          · rfl
          · have : Nat.ble (k + 1) (26 + 19) = false := Bool.eq_false_iff.mpr (fun q => by have := Nat.le_of_ble_eq_true q; omega)
            rw [this, Bool.and_false]
        rw [this]
        rfl
    · rw [p1, p2, p3, p4]
      exact ⟨_, _, _, rfl, rfl, hR0⟩
  · rw [p1, p2]
    exact ⟨_, _, _, rfl, rfl, hR0⟩
