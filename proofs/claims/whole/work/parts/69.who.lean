-- ===== loops that fold, loops that build a set, loops up to the first =====
theorem loopA {α β : Type} (F : Nat → Nat → α → Option β) (E : Nat) (st : Nat → α → α) (out : α → β) (P : Nat → α → Prop)
    (hs : ∀ n i a, i < E → P i a → P (i + 1) (st i a) ∧ F (n + 1) i a = F n (i + 1) (st i a))
    (he : ∀ n a, P E a → F (n + 1) E a = some (out a)) : ∀ n a, E < n → P 0 a → F n 0 a = some (out (foldA st E a)) ∧ P E (foldA st E a) := by
  intro n a hn hP
  have key : ∀ k, k ≤ E → P k (foldA st k a) ∧ F n 0 a = F (n - k) k (foldA st k a) := by
    intro k
    induction k with
    | zero => intro _; exact ⟨hP, rfl⟩
    | succ k ih =>
      intro hk
      obtain ⟨p1, p2⟩ := ih (by omega)
      obtain ⟨m, hm⟩ : ∃ m, n - k = m + 1 := ⟨n - k - 1, by omega⟩
      obtain ⟨q1, q2⟩ := hs m k _ (by omega) p1
      refine ⟨q1, ?_⟩
      rw [p2, hm, q2, show n - (k + 1) = m by omega]
      rfl
  obtain ⟨p1, p2⟩ := key E (Nat.le_refl _)
  obtain ⟨m, hm⟩ : ∃ m, n - E = m + 1 := ⟨n - E - 1, by omega⟩
  refine ⟨?_, p1⟩
  rw [p2, hm]
  exact he m _ p1
theorem loopB {α β : Type} (F : Nat → Nat → α → Option β) (E : Nat) (st : Nat → α → α) (out : α → β)
    (hs : ∀ n i a, i < E → F (n + 1) i a = F n (i + 1) (st i a))
    (he : ∀ n a, F (n + 1) E a = some (out a)) {n : Nat} (hn : E < n) (a : α) : F n 0 a = some (out (foldA st E a)) :=
  (loopA F E st out (fun _ _ => True) (fun n i a hi _ => ⟨trivial, hs n i a hi⟩) (fun n a _ => he n a) n a hn trivial).1
theorem foldS (f : Nat → Bool) (n : Nat) : foldA (fun i (a : Int32) => bif f i then a ||| bitI i else a) n 0 = setN f n := by
  induction n with
  | zero => rfl
  | succ n ih =>
    show (bif f n then foldA (fun i (a : Int32) => bif f i then a ||| bitI i else a) n 0 ||| bitI n else foldA (fun i (a : Int32) => bif f i then a ||| bitI i else a) n 0) = _
    rw [ih]
    rfl
theorem loopS (F : Nat → Nat → Int32 → Option Int32) (E : Nat) (f : Nat → Bool)
    (hs : ∀ n i a, i < E → F (n + 1) i a = F n (i + 1) (bif f i then a ||| bitI i else a))
    (he : ∀ n a, F (n + 1) E a = some a) {n : Nat} (hn : E < n) : F n 0 0 = some (setN f E) := by
  rw [← foldS f E]
  exact loopB F E (fun i (a : Int32) => bif f i then a ||| bitI i else a) id hs he hn 0
theorem loopU {β : Type} (F : Nat → Nat → Option β) (E : Nat) (o : β) (hs : ∀ n i, i < E → F (n + 1) i = F n (i + 1)) (he : ∀ n, F (n + 1) E = some o) {n : Nat} (hn : E < n) : F n 0 = some o :=
  loopB (fun n i (_ : Unit) => F n i) E (fun _ a => a) (fun _ => o) (fun n i _ hi => hs n i hi) (fun n _ => he n) hn ()
-- ===== the calls on who gets where =====
theorem it_ext {f : Int32 → Int32} {P : Nat} (hE : ∀ a, Ext P a (f a)) (a : Int32) (k : Nat) : Ext P a (itD f k a) := by
  induction k with
  | zero => exact Ext.rf P a
  | succ k ih => exact ih.tr (hE _)
theorem it_sm {d : Nat → Nat → Nat} (h0 : TD d) (up dn : Nat → Bool) {p : Nat} (hp : p < d 1 0) (k : Nat) : ∃ n, n < 256 ∧ itD (passD d up dn) k (bitI p) = nI n := by
  have hP := h0.1.1
  refine small_of 8 (by decide) (fun i h1 h2 => ?_)
  have hx := it_ext (pass_ext h0 up dn) (bitI p) k i h2
  cases q : (itD (passD d up dn) k (bitI p)).toBitVec.getLsbD i with
  | false => rfl
  | true =>
    rcases hx.2 q with h | h
    · rw [bitI_bit (by omega) h2] at h
      have := of_decide_eq_true h
      omega
    · omega
theorem reach_sm {d : Nat → Nat → Nat} (h0 : TD d) {p x y : Nat} (hp : p < d 1 0) : ∃ n, n < 256 ∧ reachD d p x y = nI n := it_sm h0 _ _ hp _
theorem pa_reach (N : Nat) (hN : 200 < N) : PA_reach N Rel := by
  intro g1 g2 hR z0 z1
  have hR0 := hR
  obtain ⟨d, w, h0, h1, h2, -⟩ := hR
  unfold f_X6_reach f_X7_reach
  rcases b_place N h0 (t := sh_ 27 g1) h1.1 h2 z0 with ⟨p, hp, rfl, p1, p2⟩ | ⟨p1, p2⟩
  · rw [p1, p2]
    rcases b_strd N z1 with ⟨s, hs1, hs2, rfl, q1, q2⟩ | ⟨q1, q2⟩
    · rw [q1, q2, show f_X5_reachFrom N (sh_ 26 g1) (nI p) (nI s) 0 = _ from c_reach N hN h0 h1 (y := 0) hp (by omega) (by omega), show f_X7_reachOf N g2 (nI p) (nI s) 0 = _ from m_reach N hN h0 h2 (y := 0) hp (by omega) (by omega)]
      exact ⟨_, rfl, rfl, hR0⟩
    · rw [q1, q2]
      exact ⟨_, rfl, rfl, hR0⟩
  · rw [p1, p2]
    exact ⟨_, rfl, rfl, hR0⟩
theorem pa_person (N : Nat) (hN : 200 < N) : PA_person N Rel := by
  intro g1 g2 hR z0 z1
  have hR0 := hR
  obtain ⟨d, w, h0, h1, h2, -⟩ := hR
  have hE := h0.1.2.2.1
  unfold f_X6_person f_X7_person
  rcases b_person N h0 (t := sh_ 34 g1) h1.2 h2 z0 with ⟨p, hp, rfl, p1, p2⟩ | ⟨p1, p2⟩
  · have a1 : g1 36 p = nI (d 10 p) := (h1.2.2.1 p hp).1
    have a2 : g1 37 p = nI (d 11 p) := (h1.2.2.1 p hp).2.1
    have a3 : g1 38 p = nI (d 12 p) := (h1.2.2.1 p hp).2.2
    obtain ⟨b1, b2', b3⟩ := h2.2.2.2.2.1 p hp
    rw [p1, p2, k_ok (show p < 8 by omega) (by omega), k_cl (show p < 2147483648 by omega), a1, a2, a3, b1, b2', b3, c_rp N hN h0 h1 hp, m_rp N hN h0 h2 hp]
    simp only [k_bs, k_10, if_false, k_gd]
    by_cases q0 : z1 = 0
    · (first | rw [if_pos q0, if_pos q0] | rw [if_pos q0]); exact ⟨_, rfl, rfl, hR0⟩
    (first | rw [if_neg q0, if_neg q0] | rw [if_neg q0])
    by_cases q1 : z1 = 1
    · (first | rw [if_pos q1, if_pos q1] | rw [if_pos q1]); exact ⟨_, rfl, rfl, hR0⟩
    (first | rw [if_neg q1, if_neg q1] | rw [if_neg q1])
    by_cases q2 : z1 = 2
    · (first | rw [if_pos q2, if_pos q2] | rw [if_pos q2]); exact ⟨_, rfl, rfl, hR0⟩
    (first | rw [if_neg q2, if_neg q2] | rw [if_neg q2])
    by_cases q3 : z1 = 3
    · (first | rw [if_pos q3, if_pos q3] | rw [if_pos q3]); exact ⟨_, rfl, rfl, hR0⟩
    (first | rw [if_neg q3, if_neg q3] | rw [if_neg q3])
    exact ⟨_, rfl, rfl, hR0⟩
  · rw [p1, p2]
    exact ⟨_, rfl, rfl, hR0⟩
theorem pa_guests (N : Nat) (hN : 200 < N) : PA_guests N Rel := by
  intro g1 g2 hR z0
  have hR0 := hR
  obtain ⟨d, w, h0, h1, h2, -⟩ := hR
  have hE := h0.1.2.2.1
  have hP := h0.1.1
  unfold f_X6_guests f_X7_guests
  rcases b_person N h0 (t := sh_ 34 g1) h1.2 h2 z0 with ⟨p, hp, rfl, p1, p2⟩ | ⟨p1, p2⟩
  · have a1 : g1 36 p = nI (d 10 p) := (h1.2.2.1 p hp).1
    have b1 : g2 10 p = nI (d 10 p) := (h2.2.2.2.2.1 p hp).1
    have e35 : g1 35 0 = nI (d 9 0) := h1.2.1
    have e9 : g2 9 0 = nI (d 9 0) := h2.2.2.2.1
    have hat := (h0.2.2.2 p hp).1
    have C : f_X6_guests_L24 N g1 (nI p) N 0 0 = some (setN (fun q => !decide (q = p) && hbI (rpD d q) (d 10 p)) (d 9 0)) := by
      refine loopS (fun n i a => f_X6_guests_L24 N g1 (nI p) n a (nI i)) (d 9 0) _ (fun n i a hi => ?_) (fun n a => ?_) (by omega)
      · show f_X6_guests_L24 N g1 (nI p) (n + 1) a (nI i) = f_X6_guests_L24 N g1 (nI p) n _ (nI (i + 1))
        rw [f_X6_guests_L24, e35, if_neg (nI_ge hi (by omega)), c_rp N hN h0 h1 hi, k_ok (show p < 8 by omega) (by omega), k_cl (show p < 2147483648 by omega), a1, k1_ad]
        simp only [k_bs, k_gd]
        rw [x6_has N _ (show d 10 p < 31 by omega)]
        simp only [k_bs, ib]
        by_cases q : i = p
        · rw [if_pos (show nI i = nI p by rw [q])]
          simp [q, k_bs]
        · rw [if_neg (show ¬ nI i = nI p by rw [k_eq (by omega) (by omega)]; exact q)]
          cases hb : hbI (rpD d i) (d 10 p) <;> simp [q, bitI, k_bs]
      · show f_X6_guests_L24 N g1 (nI p) (n + 1) a (nI (d 9 0)) = some a
        rw [f_X6_guests_L24, e35, if_pos (Int32.le_refl _)]
    have M : f_X7_guests_L15 N g2 (nI p) N 0 0 = some (setN (fun q => !decide (q = p) && hbI (rpD d q) (d 10 p)) (d 9 0)) := by
      refine loopS (fun n i a => f_X7_guests_L15 N g2 (nI p) n a (nI i)) (d 9 0) _ (fun n i a hi => ?_) (fun n a => ?_) (by omega)
      · show f_X7_guests_L15 N g2 (nI p) (n + 1) a (nI i) = f_X7_guests_L15 N g2 (nI p) n _ (nI (i + 1))
        rw [f_X7_guests_L15, e9, if_neg (nI_ge hi (by omega)), m_rp N hN h0 h2 hi, k_ok (show p < 8 by omega) (by omega), k_cl (show p < 2147483648 by omega), b1, k1_ad]
        simp only [k_bs, k_gd]
        rw [x7_has N _]
        simp only [k_bs, ib]
        by_cases q : i = p
        · rw [if_pos (show nI i = nI p by rw [q])]
          simp [q, k_bs]
        · rw [if_neg (show ¬ nI i = nI p by rw [k_eq (by omega) (by omega)]; exact q)]
          cases hb : hbI (rpD d i) (d 10 p) <;> simp [q, bitI, k_bs]
      · show f_X7_guests_L15 N g2 (nI p) (n + 1) a (nI (d 9 0)) = some a
        rw [f_X7_guests_L15, e9, if_pos (Int32.le_refl _)]
    rw [p1, p2, C, M]
    exact ⟨_, rfl, rfl, hR0⟩
  · rw [p1, p2]
    exact ⟨_, rfl, rfl, hR0⟩
def cntR (d : Nat → Nat → Nat) (p s : Nat) : Int32 := cntI (reachD d p s 0) 24
def bestS (d : Nat → Nat → Nat) (p i : Nat) (a : Int32 × Int32) : Int32 × Int32 := if cntR d p (i + 1) < a.2 then a else (nI (i + 1), cntR d p (i + 1))
theorem pa_best (N : Nat) (hN : 200 < N) : PA_best N Rel := by
  intro g1 g2 hR z0
  have hR0 := hR
  obtain ⟨d, w, h0, h1, h2, -⟩ := hR
  have hP := h0.1.1
  unfold f_X6_best f_X7_best
  rcases b_place N h0 (t := sh_ 27 g1) h1.1 h2 z0 with ⟨p, hp, rfl, p1, p2⟩ | ⟨p1, p2⟩
  · have C : f_X6_best_L24 N g1 (nI p) N 1 0 1 = some (foldA (bestS d p) 24 (1, 0)).1 := by
      refine loopB (n := N) (fun n i a => f_X6_best_L24 N g1 (nI p) n a.1 a.2 (nI (i + 1))) 24 (bestS d p) (fun a => a.1) (fun n i a hi => ?_) (fun n a => ?_) (by omega) (1, 0)
      · show f_X6_best_L24 N g1 (nI p) (n + 1) a.1 a.2 (nI (i + 1)) = f_X6_best_L24 N g1 (nI p) n (bestS d p i a).1 (bestS d p i a).2 (nI (i + 1 + 1))
        obtain ⟨k, hk, ek⟩ := reach_sm h0 (x := i + 1) (y := 0) hp
        rw [f_X6_best_L24, if_neg (show ¬ (24 : Int32) < nI (i + 1) by rw [k24_lt (by omega)]; omega), show f_X5_reachFrom N (sh_ 26 g1) (nI p) (nI (i + 1)) 0 = _ from c_reach N hN h0 h1 (y := 0) hp (by omega) (by omega), k_bs, ek, c_bits8 N hk, k_bs, k1_ad, ← ek]
        unfold bestS cntR
        by_cases q : cntI (reachD d p (i + 1) 0) 24 < a.2
        · rw [if_pos q, if_pos q, k_bs]
        · rw [if_neg q, if_neg q, k_bs]
      · show f_X6_best_L24 N g1 (nI p) (n + 1) a.1 a.2 (nI (24 + 1)) = some a.1
        rw [f_X6_best_L24, if_pos (show (24 : Int32) < nI (24 + 1) by decide)]
    have M : f_X7_best_L18 N g2 (nI p) N 0 0 1 = some (foldA (bestS d p) 24 (0, 0)).1 := by
      refine loopB (n := N) (fun n i a => f_X7_best_L18 N g2 (nI p) n a.1 a.2 (nI (i + 1))) 24 (bestS d p) (fun a => a.1) (fun n i a hi => ?_) (fun n a => ?_) (by omega) (0, 0)
      · show f_X7_best_L18 N g2 (nI p) (n + 1) a.1 a.2 (nI (i + 1)) = f_X7_best_L18 N g2 (nI p) n (bestS d p i a).1 (bestS d p i a).2 (nI (i + 1 + 1))
        rw [f_X7_best_L18, if_neg (show ¬ (24 : Int32) < nI (i + 1) by rw [k24_lt (by omega)]; omega), show f_X7_reachOf N g2 (nI p) (nI (i + 1)) 0 = _ from m_reach N hN h0 h2 (y := 0) hp (by omega) (by omega), k_bs, m_bits N hN, k_bs, k1_ad]
        unfold bestS cntR
        by_cases q : cntI (reachD d p (i + 1) 0) 24 < a.2
        · rw [if_pos q, if_pos q, if_pos q, k_bs, k_bs]
        · rw [if_neg q, if_neg q, if_neg q, k_bs, k_bs]
      · show f_X7_best_L18 N g2 (nI p) (n + 1) a.1 a.2 (nI (24 + 1)) = some a.1
        rw [f_X7_best_L18, if_pos (show (24 : Int32) < nI (24 + 1) by decide)]
    have same : ∀ n, foldA (bestS d p) (n + 1) (1, 0) = foldA (bestS d p) (n + 1) (0, 0) := by
      intro n
      induction n with
      | zero =>
        obtain ⟨k, hk, ek⟩ := reach_sm h0 (x := 0 + 1) (y := 0) hp
        obtain ⟨j, hj, ej⟩ := cnt_le k hk
        show bestS d p 0 (1, 0) = bestS d p 0 (0, 0)
        have : ¬ cntR d p (0 + 1) < 0 := by
          unfold cntR
          rw [ek, ej]
          exact nI_pos (by omega)
        unfold bestS
        rw [if_neg this, if_neg this]
      | succ n ih =>
        show bestS d p (n + 1) (foldA (bestS d p) (n + 1) (1, 0)) = bestS d p (n + 1) (foldA (bestS d p) (n + 1) (0, 0))
        rw [ih]
    rw [p1, p2, C, M, same 23]
    exact ⟨_, rfl, rfl, hR0⟩
  · rw [p1, p2]
    exact ⟨_, rfl, rfl, hR0⟩
