-- ===== the relation between the class's state and the reference's =====
def TD (d : Nat → Nat → Nat) : Prop :=
  (d 1 0 ≤ 8 ∧ d 2 0 ≤ 10 ∧ d 9 0 ≤ 8 ∧ d 13 0 ≤ 1 ∧ d 14 0 < 2147483648) ∧
  (∀ r, r < d 2 0 → d 3 r ≤ 2 ∧ d 4 r < d 1 0 ∧ d 5 r < d 1 0 ∧ d 4 r ≠ d 5 r ∧ 1 ≤ d 6 r ∧ d 6 r ≤ 3) ∧
  (∀ r i, r < d 2 0 → i < d 6 r → 1 ≤ d 7 (3 * r + i) ∧ d 7 (3 * r + i) ≤ 720) ∧
  (∀ p, p < d 9 0 → d 10 p < d 1 0 ∧ 1 ≤ d 11 p ∧ d 11 p ≤ 24 ∧ d 12 p ≤ 24)
def CP (t : St_) (d : Nat → Nat → Nat) : Prop := t 1 0 = nI (d 1 0) ∧ t 2 0 = nI (d 2 0) ∧ ∀ r, r < d 2 0 → t 3 r = nI (d 3 r) ∧ t 4 r = nI (d 4 r) ∧ t 5 r = nI (d 5 r) ∧ t 6 r = nI (d 6 r)
def CS (t : St_) (d : Nat → Nat → Nat) (w : Nat → Int32) : Prop := t 1 0 = nI (d 9 0) ∧ (∀ p, p < d 9 0 → t 2 p = nI (d 10 p) ∧ t 3 p = nI (d 11 p) ∧ t 4 p = nI (d 12 p)) ∧ (∀ r i, r < d 2 0 → i < d 6 r → t 5 (3 * r + i) = nI (d 7 (3 * r + i))) ∧ (∀ r, r < d 2 0 → t 6 r = w r) ∧ t 7 0 = nI (d 13 0) ∧ t 8 0 = nI (d 14 0)
def CT (t : St_) (d : Nat → Nat → Nat) (w : Nat → Int32) : Prop := CP (sh_ 1 t) d ∧ CS (sh_ 8 t) d w
def MT (g : St_) (d : Nat → Nat → Nat) (w : Nat → Int32) : Prop := g 1 0 = nI (d 1 0) ∧ g 2 0 = nI (d 2 0) ∧ (∀ r, r < d 2 0 → g 3 r = nI (d 3 r) ∧ g 4 r = nI (d 4 r) ∧ g 5 r = nI (d 5 r) ∧ g 6 r = nI (d 6 r)) ∧ g 9 0 = nI (d 9 0) ∧ (∀ p, p < d 9 0 → g 10 p = nI (d 10 p) ∧ g 11 p = nI (d 11 p) ∧ g 12 p = nI (d 12 p)) ∧ (∀ r i, r < d 2 0 → i < d 6 r → g 7 (3 * r + i) = nI (d 7 (3 * r + i))) ∧ (∀ r, r < d 2 0 → g 8 r = w r) ∧ g 13 0 = nI (d 13 0) ∧ g 14 0 = nI (d 14 0)
def MI (g : St_) (o : Nat) (d : Nat → Nat → Nat) (w : Nat → Int32) : Prop := (∀ p, p < d 9 0 → g 43 (o + p) = nI (d 10 p) ∧ g 43 (o + 8 + p) = nI (d 11 p) ∧ g 43 (o + 16 + p) = nI (d 12 p)) ∧ (∀ r i, r < d 2 0 → i < d 6 r → g 43 (o + 24 + (3 * r + i)) = nI (d 7 (3 * r + i))) ∧ (∀ r, r < d 2 0 → g 43 (o + 54 + r) = w r) ∧ g 43 (o + 64) = nI (d 9 0) ∧ g 43 (o + 65) = nI (d 13 0) ∧ g 43 (o + 66) = nI (d 14 0)
def bb (b : Nat) : Int32 := (nI b).toInt8.toInt32
def RTx (g1 g2 : St_) : Prop := ∃ n, n ≤ 500 ∧ g1 2 0 = nI n ∧ g2 16 0 = nI n ∧ ∀ i, i < n → ∃ b, b < 256 ∧ g1 24 i = bb b ∧ g2 15 i = nI b
def RSe (g1 g2 : St_) (P : Nat) : Prop := ∃ n, n ≤ 20 ∧ g1 66 0 = nI n ∧ g2 35 0 = nI n ∧ ∀ i, i < n → ∃ a b c, a < P ∧ b < P ∧ c ≤ 1 ∧ g1 67 i = nI a ∧ g2 36 i = nI a ∧ g1 68 i = nI b ∧ g2 37 i = nI b ∧ g1 69 i = nI c ∧ g2 38 i = nI c
def RBo (g1 g2 : St_) (S : Nat) : Prop := ∃ n, n ≤ 40 ∧ g1 71 0 = nI n ∧ g2 39 0 = nI n ∧ ∀ i, i < n → ∃ p r, p < 8 ∧ r < S ∧ g1 72 i = nI p ∧ g2 40 i = nI p ∧ g1 73 i = nI r ∧ g2 41 i = nI r
def SP (d e : Nat → Nat → Nat) : Prop := e 1 0 = d 1 0 ∧ e 2 0 = d 2 0 ∧ ∀ r, r < d 2 0 → e 3 r = d 3 r ∧ e 4 r = d 4 r ∧ e 5 r = d 5 r ∧ e 6 r = d 6 r
def RI1 (g1 g2 : St_) (d : Nat → Nat → Nat) (i oc om : Nat) : Prop := (g1 64 i = 0 ∧ g2 44 i = 0) ∨ (g1 64 i = 1 ∧ g2 44 i = 1 ∧ ∃ e w, SP d e ∧ TD e ∧ CS (sh_ oc g1) e w ∧ MI g2 om e w)
def RIm (g1 g2 : St_) (d : Nat → Nat → Nat) : Prop := RI1 g1 g2 d 0 46 0 ∧ RI1 g1 g2 d 1 55 70
def Rel (g1 g2 : St_) : Prop := ∃ d w, TD d ∧ CT (sh_ 26 g1) d w ∧ MT g2 d w ∧ RTx g1 g2 ∧ g1 75 0 = g2 17 0 ∧ RSe g1 g2 (d 1 0) ∧ RBo g1 g2 (d 2 0) ∧ RIm g1 g2 d
theorem Rel_0 : Rel (up1 Z_ 75 0 (-1)) (up1 Z_ 17 0 (-1)) := by
  refine ⟨fun _ _ => 0, fun _ => 0, ⟨⟨by decide, by decide, by decide, by decide, by decide⟩, fun r h => absurd h (Nat.not_lt_zero _), fun r i h => absurd h (Nat.not_lt_zero _), fun r h => absurd h (Nat.not_lt_zero _)⟩, ⟨⟨rfl, rfl, fun r h => absurd h (Nat.not_lt_zero _)⟩, rfl, fun r h => absurd h (Nat.not_lt_zero _), fun r i h => absurd h (Nat.not_lt_zero _), fun r h => absurd h (Nat.not_lt_zero _), rfl, rfl⟩, ⟨rfl, rfl, fun r h => absurd h (Nat.not_lt_zero _), rfl, fun r h => absurd h (Nat.not_lt_zero _), fun r i h => absurd h (Nat.not_lt_zero _), fun r h => absurd h (Nat.not_lt_zero _), rfl, rfl⟩, ⟨0, by decide, rfl, rfl, fun r h => absurd h (Nat.not_lt_zero _)⟩, rfl, ⟨0, by decide, rfl, rfl, fun r h => absurd h (Nat.not_lt_zero _)⟩, ⟨0, by decide, rfl, rfl, fun r h => absurd h (Nat.not_lt_zero _)⟩, Or.inl ⟨rfl, rfl⟩, Or.inl ⟨rfl, rfl⟩⟩
-- what there is and what there is not
theorem c_two (N : Nat) {x : Int32} {n : Nat} (hn : n < 1073741824) (f : Int32 → Option Int32) (hf : ∀ x, f x = if x < 0 then some (0 : Int32) else if nI n ≤ x then some (0 : Int32) else some (1 : Int32)) : (∃ j, j < n ∧ x = nI j ∧ f x = some 1 ∧ f_X7_in N x.toInt64 (0 : Int64) ((nI n - (1 : Int32)).toInt64) = some 1) ∨ (f x = some 0 ∧ f_X7_in N x.toInt64 (0 : Int64) ((nI n - (1 : Int32)).toInt64) = some 0) := by
  rcases k_inN N (x := x) hn with ⟨j, hj, rfl, h⟩ | ⟨h, h2⟩
  · refine Or.inl ⟨j, hj, rfl, ?_, h⟩
    rw [hf, if_neg (nI_pos (by omega)), if_neg (nI_ge hj (by omega))]
  · refine Or.inr ⟨?_, h2⟩
    rw [hf]
    by_cases h0 : x < 0
    · rw [if_pos h0]
    · rw [if_neg h0, if_pos (h.resolve_left h0)]
theorem b_place (N : Nat) {t g : St_} {d : Nat → Nat → Nat} {w : Nat → Int32} (h0 : TD d) (h1 : CP t d) (h2 : MT g d w) (x : Int32) : (∃ j, j < d 1 0 ∧ x = nI j ∧ f_X1_hasPlace N t x = some 1 ∧ f_X7_isPlace N g x = some 1) ∨ (f_X1_hasPlace N t x = some 0 ∧ f_X7_isPlace N g x = some 0) := by
  have hP := h0.1.1
  rcases c_two N (x := x) (n := d 1 0) (by omega) (f_X1_hasPlace N t) (fun x => by unfold f_X1_hasPlace; rw [h1.1]) with ⟨j, hj, e, h3, h4⟩ | ⟨h3, h4⟩
  · exact Or.inl ⟨j, hj, e, h3, by unfold f_X7_isPlace; rw [h2.1, h4]; rfl⟩
  · exact Or.inr ⟨h3, by unfold f_X7_isPlace; rw [h2.1, h4]; rfl⟩
theorem b_stair (N : Nat) {t g : St_} {d : Nat → Nat → Nat} {w : Nat → Int32} (h0 : TD d) (h1 : CP t d) (h2 : MT g d w) (x : Int32) : (∃ j, j < d 2 0 ∧ x = nI j ∧ f_X1_hasStair N t x = some 1 ∧ f_X7_isStair N g x = some 1) ∨ (f_X1_hasStair N t x = some 0 ∧ f_X7_isStair N g x = some 0) := by
  have hP := h0.1.2.1
  rcases c_two N (x := x) (n := d 2 0) (by omega) (f_X1_hasStair N t) (fun x => by unfold f_X1_hasStair; rw [h1.2.1]) with ⟨j, hj, e, h3, h4⟩ | ⟨h3, h4⟩
  · exact Or.inl ⟨j, hj, e, h3, by unfold f_X7_isStair; rw [h2.2.1, h4]; rfl⟩
  · exact Or.inr ⟨h3, by unfold f_X7_isStair; rw [h2.2.1, h4]; rfl⟩
theorem b_person (N : Nat) {t g : St_} {d : Nat → Nat → Nat} {w : Nat → Int32} (h0 : TD d) (h1 : CS t d w) (h2 : MT g d w) (x : Int32) : (∃ j, j < d 9 0 ∧ x = nI j ∧ f_X3_hasPerson N t x = some 1 ∧ f_X7_isPerson N g x = some 1) ∨ (f_X3_hasPerson N t x = some 0 ∧ f_X7_isPerson N g x = some 0) := by
  have hP := h0.1.2.2.1
  rcases c_two N (x := x) (n := d 9 0) (by omega) (f_X3_hasPerson N t) (fun x => by unfold f_X3_hasPerson; rw [h1.1]) with ⟨j, hj, e, h3, h4⟩ | ⟨h3, h4⟩
  · exact Or.inl ⟨j, hj, e, h3, by unfold f_X7_isPerson; rw [h2.2.2.2.1, h4]; rfl⟩
  · exact Or.inr ⟨h3, by unfold f_X7_isPerson; rw [h2.2.2.2.1, h4]; rfl⟩
-- the simplest calls
theorem pa_fault (N : Nat) : PA_fault N Rel := by
  intro g1 g2 hR
  have hR0 := hR
  obtain ⟨d, w, h0, h1, h2, h3, h4, h5⟩ := hR
  exact ⟨g2 17 0, by unfold f_X6_fault; rw [h4], rfl, hR0⟩
theorem pa_seed (N : Nat) : PA_seed N Rel := by
  intro g1 g2 hR z
  have hR0 := hR
  obtain ⟨d, w, h0, h1, h2, h3, h4, h5⟩ := hR
  have e1 : g1 42 0 = nI (d 14 0) := h1.2.2.2.2.2.2
  have e2 : g2 14 0 = nI (d 14 0) := h2.2.2.2.2.2.2.2.2
  unfold f_X6_seed f_X7_seed
  rw [e1, e2]
  by_cases hz : 0 ≤ z
  · rw [if_pos hz, if_pos hz]
    obtain ⟨j, hj, rfl⟩ := nI_of (Int32.not_lt.mpr hz)
    refine ⟨_, _, _, rfl, rfl, fun a b => if a = 14 then j else d a b, w, ⟨⟨h0.1.1, h0.1.2.1, h0.1.2.2.1, h0.1.2.2.2.1, hj⟩, h0.2⟩, ⟨h1.1, h1.2.1, h1.2.2.1, h1.2.2.2.1, h1.2.2.2.2.1, h1.2.2.2.2.2.1, rfl⟩, ⟨h2.1, h2.2.1, h2.2.2.1, h2.2.2.2.1, h2.2.2.2.2.1, h2.2.2.2.2.2.1, h2.2.2.2.2.2.2.1, h2.2.2.2.2.2.2.2.1, rfl⟩, h3, h4, h5⟩
  · rw [if_neg hz, if_neg hz]
    exact ⟨_, _, _, rfl, rfl, hR0⟩
theorem pa_law (N : Nat) : PA_law N Rel := by
  intro g1 g2 hR z
  have hR0 := hR
  obtain ⟨d, w, h0, h1, h2, h3, h4, h5⟩ := hR
  have e1 : g1 41 0 = nI (d 13 0) := h1.2.2.2.2.2.1
  have e2 : g2 13 0 = nI (d 13 0) := h2.2.2.2.2.2.2.2.1
  unfold f_X6_law f_X7_law
  rw [e1, e2]
  have key : ∀ j, j ≤ 1 → Rel (up1 g1 41 0 (nI j)) (up1 g2 13 0 (nI j)) := fun j hj =>
    ⟨fun a b => if a = 13 then j else d a b, w, ⟨⟨h0.1.1, h0.1.2.1, h0.1.2.2.1, hj, h0.1.2.2.2.2⟩, h0.2⟩, ⟨h1.1, h1.2.1, h1.2.2.1, h1.2.2.2.1, h1.2.2.2.2.1, rfl, h1.2.2.2.2.2.2⟩, ⟨h2.1, h2.2.1, h2.2.2.1, h2.2.2.2.1, h2.2.2.2.2.1, h2.2.2.2.2.2.1, h2.2.2.2.2.2.2.1, rfl, h2.2.2.2.2.2.2.2.2⟩, h3, h4, h5⟩
  rcases k_inC N (x := z) 0 1 (by decide) (by decide) with ⟨j, hj0, hj, rfl, h⟩ | ⟨h, h6⟩
  · rw [show (0 : Int64) = (nI 0).toInt64 from rfl, show (1 : Int64) = (nI 1).toInt64 from rfl, h]
    refine ⟨nI (d 13 0), _, _, ?_, rfl, key j hj⟩
    rcases (show j = 0 ∨ j = 1 by omega) with rfl | rfl <;> rfl
  · rw [show (0 : Int64) = (nI 0).toInt64 from rfl, show (1 : Int64) = (nI 1).toInt64 from rfl, h6]
    have z0 : ¬ z = 0 := fun e => by subst e; revert h; decide
    have z1 : ¬ z = 1 := fun e => by subst e; revert h; decide
    rw [if_neg z0, if_neg z1]
    exact ⟨_, _, _, rfl, rfl, hR0⟩
theorem pa_tear (N : Nat) : PA_tear N Rel := by
  intro g1 g2 hR
  obtain ⟨d, w, h0, h1, h2, h3, h4, ⟨n, hn, a1, a2, a3⟩, ⟨k, hk, b1, b2, b3⟩, h5⟩ := hR
  unfold f_X6_tear f_X7_tear
  rw [a1, a2, b1, b2]
  exact ⟨_, _, _, rfl, rfl, d, w, h0, h1, h2, h3, h4, ⟨0, by decide, rfl, rfl, fun r h => absurd h (Nat.not_lt_zero _)⟩, ⟨0, by decide, rfl, rfl, fun r h => absurd h (Nat.not_lt_zero _)⟩, h5⟩
