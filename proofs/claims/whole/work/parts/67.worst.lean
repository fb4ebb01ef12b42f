def foldA {α : Type} (f : Nat → α → α) : Nat → α → α
  | 0, a => a
  | n + 1, a => f n (foldA f n a)
theorem loss_ex (d : Nat → Nat → Nat) (h0 : TD d) (r q : Nat) : ∃ k, k ≤ 8 ∧ (if 2 ≤ d 7 (3 * r + q) then shutI d r q (d 7 (3 * r + q) - 1) else 0) = nI k := by
  by_cases h : 2 ≤ d 7 (3 * r + q)
  · rw [if_pos h]
    obtain ⟨k, hk, e⟩ := set8 (fun p => climD d p r) h0.1.2.2.1 (setN (fun p => climD (dset d 7 (3 * r + q) (d 7 (3 * r + q) - 1)) p r) (d 9 0) ^^^ (-1))
    unfold shutI
    rw [e]
    exact cnt_le k hk
  · rw [if_neg h]
    exact ⟨0, by decide, rfl⟩
def lossN (d : Nat → Nat → Nat) (r q : Nat) : Nat := (if 2 ≤ d 7 (3 * r + q) then shutI d r q (d 7 (3 * r + q) - 1) else 0).toNatClampNeg
theorem loss_s (d : Nat → Nat → Nat) (h0 : TD d) (r q : Nat) : lossN d r q ≤ 8 ∧ (if 2 ≤ d 7 (3 * r + q) then shutI d r q (d 7 (3 * r + q) - 1) else 0) = nI (lossN d r q) := by
  obtain ⟨k, hk, e⟩ := loss_ex d h0 r q
  unfold lossN
  rw [e, k_cl (by omega)]
  exact ⟨hk, rfl⟩
theorem k_dec {v : Nat} (h : 1 ≤ v) : nI v + (-1 : Int32) = nI (v - 1) := by
  obtain ⟨n, rfl⟩ : ∃ n, v = n + 1 := ⟨v - 1, by omega⟩
  rw [pk_m1]
  rfl
theorem c_shut (N : Nat) (hN : 200 < N) {t : St_} {d : Nat → Nat → Nat} {w : Nat → Int32} (h0 : TD d) (h1 : CT t d w) {r q : Nat} (hr : r < d 2 0) (hq : q < d 6 r) : f_X5_shutOutByLess N t (nI r) (nI q) = some (nI (lossN d r q)) := by
  have hS := h0.1.2.1
  have hp := h0.2.1 r hr
  have hs := h0.2.2.1 r q hr hq
  have e : t 13 (3 * r + q) = nI (d 7 (3 * r + q)) := h1.2.2.2.1 r q hr hq
  rw [← (loss_s d h0 r q).2]
  unfold f_X5_shutOutByLess
  rw [k3_mu, k_add, k_ok (show 3 * r + q < 30 by omega) (by omega), k_gd, k_cl (by omega), e]
  by_cases h : 2 ≤ d 7 (3 * r + q)
  · rw [if_pos h, if_pos (show (2 : Int32) ≤ nI (d 7 (3 * r + q)) by rw [k2x_le (by omega)]; exact h)]
    obtain ⟨v, hv⟩ : ∃ v, v = d 7 (3 * r + q) - 1 := ⟨_, rfl⟩
    have ev : nI (d 7 (3 * r + q)) + (-1 : Int32) = nI v := by rw [hv]; exact k_dec (by omega)
    have c1 : f_X5_climbers N t (nI r) (nI q) (-1) = some (setN (fun p => climD (dset d 7 (3 * r + q) v) p r) (d 9 0)) := by
      refine c_climbersG N hN h0 h1 hr (nI q) (-1) (stD (dset d 7 (3 * r + q) v) r) (fun i hi => ?_)
      have hs2 := h0.2.2.1 r i hr hi
      have e2 : t 13 (3 * r + i) = nI (d 7 (3 * r + i)) := h1.2.2.2.1 r i hr hi
      show t 13 (3 * r + i) + (if nI i = nI q then (-1) else 0) = nI (if 3 * r + i = 3 * r + q then v else d 7 (3 * r + i)) ∧ (if 3 * r + i = 3 * r + q then v else d 7 (3 * r + i)) < 1000
      rw [e2]
      by_cases hiq : i = q
      · subst hiq
        rw [if_pos rfl, if_pos rfl]
        exact ⟨ev, by omega⟩
      · rw [if_neg (show ¬ nI i = nI q by rw [k_eq (by omega) (by omega)]; exact hiq), if_neg (by omega), Int32.add_zero]
        exact ⟨rfl, by omega⟩
    rw [c_climbers N hN h0 h1 hr, c1]
    simp only [k_bs]
    rw [c_cnt N _ h0.1.2.2.1]
    subst hv
    rfl
  · rw [if_neg h, if_neg (show ¬ (2 : Int32) ≤ nI (d 7 (3 * r + q)) by rw [k2x_le (by omega)]; exact h)]
def wStep (d : Nat → Nat → Nat) (r q : Nat) (a : Nat × Nat × Nat) : Nat × Nat × Nat := if a.1 < lossN d r q then (lossN d r q, r, q) else a
def wIn (d : Nat → Nat → Nat) (r : Nat) (n : Nat) (a : Nat × Nat × Nat) : Nat × Nat × Nat := foldA (wStep d r) n a
def wOut (d : Nat → Nat → Nat) (n : Nat) : Nat × Nat × Nat := foldA (fun r a => wIn d r (d 6 r) a) n (0, 0, 0)
def okW (a : Nat × Nat × Nat) : Prop := a.1 ≤ 8 ∧ a.2.1 < 10 ∧ a.2.2 < 3
theorem okW_step (d : Nat → Nat → Nat) (h0 : TD d) {r q : Nat} (hr : r < 10) (hq : q < 3) {a : Nat × Nat × Nat} (h : okW a) : okW (wStep d r q a) := by
  unfold wStep
  by_cases c : a.1 < lossN d r q
  · rw [if_pos c]; exact ⟨(loss_s d h0 r q).1, hr, hq⟩
  · rw [if_neg c]; exact h
theorem okW_in (d : Nat → Nat → Nat) (h0 : TD d) {r : Nat} (hr : r < 10) {n : Nat} (hn : n ≤ 3) {a : Nat × Nat × Nat} (h : okW a) : okW (wIn d r n a) := by
  unfold wIn
  induction n with
  | zero => exact h
  | succ n ih => exact okW_step d h0 hr (by omega) (ih (by omega))
theorem okW_out (d : Nat → Nat → Nat) (h0 : TD d) {n : Nat} (hn : n ≤ d 2 0) : okW (wOut d n) := by
  unfold wOut
  induction n with
  | zero => exact ⟨Nat.zero_le _, (by decide : 0 < 10), (by decide : 0 < 3)⟩
  | succ n ih =>
    have hS := h0.1.2.1
    exact okW_in d h0 (by omega) (h0.2.1 n (by omega)).2.2.2.2.2 (ih (by omega))
def eC (a : Nat × Nat × Nat) : Int32 × Int32 × Int32 := (nI a.1, if a.1 = 0 then -1 else nI a.2.1, if a.1 = 0 then -1 else nI a.2.2)
def eM (a : Nat × Nat × Nat) : Int32 × Int32 := (if a.1 = 0 then -1 else nI (3 * a.2.1 + a.2.2), nI a.1)
theorem c_wIn (N : Nat) (hN : 200 < N) {g : St_} {d : Nat → Nat → Nat} {w : Nat → Int32} (h0 : TD d) (h1 : CT (sh_ 26 g) d w) {r : Nat} (hr : r < d 2 0) (a : Nat × Nat × Nat) (ha : okW a) : f_X6_worst_L40 N g (nI r) N (eC a).1 (eC a).2.1 (eC a).2.2 0 = some (eC (wIn d r (d 6 r) a)) := by
  have hS := h0.1.2.1
  have hp := h0.2.1 r hr
  have e33 : g 33 r = nI (d 6 r) := (h1.1.2.2 r hr).2.2.2
  obtain ⟨o, hQ, e⟩ := loopI (fun n i b => f_X6_worst_L40 N g (nI r) n b.1 b.2.1 b.2.2 (nI i)) (d 6 r) (fun i b => b = eC (wIn d r i a)) (fun o => o = eC (wIn d r (d 6 r) a)) (fun n i b hi hb => Or.inl ⟨eC (wIn d r (i + 1) a), rfl, by
    subst hb
    show f_X6_worst_L40 N g (nI r) (n + 1) (eC (wIn d r i a)).1 (eC (wIn d r i a)).2.1 (eC (wIn d r i a)).2.2 (nI i) = f_X6_worst_L40 N g (nI r) n _ _ _ (nI (i + 1))
    have ok := okW_in d h0 (show r < 10 by omega) (n := i) (by omega) ha
    have hl := (loss_s d h0 r i).1
    rw [f_X6_worst_L40, k_ok (show r < 10 by omega) (by omega), k_gd, k_cl (by omega), e33, if_neg (nI_ge hi (by omega)), c_shut N hN h0 h1 hr hi, k_bs, k1_ad]
    rw [show wIn d r (i + 1) a = wStep d r i (wIn d r i a) from rfl]
    show Option.bind (if nI (lossN d r i) ≤ nI (wIn d r i a).1 then _ else _) _ = f_X6_worst_L40 N g (nI r) n (eC (wStep d r i (wIn d r i a))).1 _ _ _
    by_cases c : (wIn d r i a).1 < lossN d r i
    · rw [if_neg (nI_ge c (by omega)), show wStep d r i (wIn d r i a) = (lossN d r i, r, i) from if_pos c, k_bs]
      have : lossN d r i ≠ 0 := by omega
      simp only [eC, this, if_false]
    · rw [if_pos (nI_le (by omega) (show (wIn d r i a).1 < 2 ^ 31 by have := ok.1; omega)), show wStep d r i (wIn d r i a) = wIn d r i a from if_neg c, k_bs]⟩) (fun n b hb => ⟨b, hb, by
    show f_X6_worst_L40 N g (nI r) (n + 1) b.1 b.2.1 b.2.2 (nI (d 6 r)) = some b
    rw [f_X6_worst_L40, k_ok (by omega) (by omega), k_gd, k_cl (by omega), e33, if_pos (Int32.le_refl _)]⟩) N 0 (eC a) (Nat.zero_le _) (by omega) rfl
  rw [show f_X6_worst_L40 N g (nI r) N (eC a).1 (eC a).2.1 (eC a).2.2 0 = some o from e, hQ]
theorem c_wOut (N : Nat) (hN : 200 < N) {g : St_} {d : Nat → Nat → Nat} {w : Nat → Int32} (h0 : TD d) (h1 : CT (sh_ 26 g) d w) : f_X6_worst_L22 N g N 0 (-1) (-1) 0 = some (eC (wOut d (d 2 0))) := by
  have hS := h0.1.2.1
  have e29 : g 29 0 = nI (d 2 0) := h1.1.2.1
  obtain ⟨o, hQ, e⟩ := loopI (fun n i b => f_X6_worst_L22 N g n b.1 b.2.1 b.2.2 (nI i)) (d 2 0) (fun i b => b = eC (wOut d i)) (fun o => o = eC (wOut d (d 2 0))) (fun n i b hi hb => Or.inl ⟨eC (wOut d (i + 1)), rfl, by
    subst hb
    show f_X6_worst_L22 N g (n + 1) (eC (wOut d i)).1 (eC (wOut d i)).2.1 (eC (wOut d i)).2.2 (nI i) = f_X6_worst_L22 N g n _ _ _ (nI (i + 1))
    rw [f_X6_worst_L22, e29, if_neg (nI_ge hi (by omega)), c_wIn N hN h0 h1 hi _ (okW_out d h0 (by omega)), k_bs, k1_ad]
    rfl⟩) (fun n b hb => ⟨b, hb, by
    show f_X6_worst_L22 N g (n + 1) b.1 b.2.1 b.2.2 (nI (d 2 0)) = some b
    rw [f_X6_worst_L22, e29, if_pos (Int32.le_refl _)]⟩) N 0 (eC (0, 0, 0)) (Nat.zero_le _) (by omega) rfl
  rw [show f_X6_worst_L22 N g N 0 (-1) (-1) 0 = some o from e, hQ]
theorem m_wIn (N : Nat) (hN : 200 < N) {g : St_} {d : Nat → Nat → Nat} {w : Nat → Int32} (h0 : TD d) (h2 : MT g d w) {r : Nat} (hr : r < d 2 0) (a : Nat × Nat × Nat) (ha : okW a) : f_X7_worst_L34 N (nI r) N (eM a).1 (eM a).2 0 g = some ((eM (wIn d r (d 6 r) a)).1, (eM (wIn d r (d 6 r) a)).2, g) := by
  have hS := h0.1.2.1
  have hp := h0.2.1 r hr
  have e6 : g 6 r = nI (d 6 r) := (h2.2.2.1 r hr).2.2.2
  obtain ⟨o, hQ, e⟩ := loopI (fun n i b => f_X7_worst_L34 N (nI r) n b.1 b.2 (nI i) g) (d 6 r) (fun i b => b = eM (wIn d r i a)) (fun o => o = ((eM (wIn d r (d 6 r) a)).1, (eM (wIn d r (d 6 r) a)).2, g)) (fun n i b hi hb => Or.inl ⟨eM (wIn d r (i + 1) a), rfl, by
    subst hb
    show f_X7_worst_L34 N (nI r) (n + 1) (eM (wIn d r i a)).1 (eM (wIn d r i a)).2 (nI i) g = f_X7_worst_L34 N (nI r) n _ _ (nI (i + 1)) g
    have ok := okW_in d h0 (show r < 10 by omega) (n := i) (by omega) ha
    have hl := (loss_s d h0 r i).1
    have hs := h0.2.2.1 r i hr hi
    have s7 : g 7 (3 * r + i) = nI (d 7 (3 * r + i)) := h2.2.2.2.2.2.1 r i hr hi
    have key : (if nI (d 7 (3 * r + i)) ≤ (1 : Int32) then some ((0 : Int32), g) else Option.bind (f_X7_step N g (nI r) (nI i) (-1) 1) (fun r5 => some (r5.1, r5.2))) = some (nI (lossN d r i), g) := by
      rw [← (loss_s d h0 r i).2]
      by_cases h : 2 ≤ d 7 (3 * r + i)
      · rw [if_neg (show ¬ nI (d 7 (3 * r + i)) ≤ (1 : Int32) by rw [k1_ge (by omega)]; omega), if_pos h]
        rcases m_step N hN h0 h2 hr hi (-1) 1 (Or.inr rfl) (Or.inr rfl) with ⟨v, hv1, hv2, ev, q1, q2⟩ | ⟨q1, q2⟩
        · rw [k_dec (by omega)] at ev
          have : d 7 (3 * r + i) - 1 = v := (nI_eq (by omega) (by omega)).mp ev
          rw [q2, this]
          rfl
        · exfalso
          rw [k_dec (by omega)] at q1
          rcases b_steps N (nI (d 7 (3 * r + i) - 1)) with ⟨j, a1, a2, a3, a4, a5⟩ | ⟨a4, a5⟩
          · rw [a4] at q1; cases q1
          · have := k_in1 N (v := (nI (d 7 (3 * r + i) - 1)).toInt64) (a := (nI 1).toInt64) (b := (nI 720).toInt64) ⟨(k_wle _ _).mpr (nI_le (by omega) (by omega)), (k_wle _ _).mpr (nI_le (by omega) (by omega))⟩
            rw [show f_X7_in N (nI (d 7 (3 * r + i) - 1)).toInt64 (nI 1).toInt64 (nI 720).toInt64 = some 0 from a5] at this
            cases this
      · rw [if_pos (show nI (d 7 (3 * r + i)) ≤ (1 : Int32) by rw [k1_ge (by omega)]; omega), if_neg h]
    rw [f_X7_worst_L34, k_ok (show r < 10 by omega) (by omega), k_gd, k_cl (show r < 2147483648 by omega), e6, if_neg (nI_ge hi (by omega)), k3_mu, k_add, k_ok (show 3 * r + i < 30 by omega) (by omega), k_gd, k_cl (by omega), s7, key, k_bs, k1_ad]
    rw [show wIn d r (i + 1) a = wStep d r i (wIn d r i a) from rfl]
    show Option.bind (if nI (lossN d r i) ≤ nI (wIn d r i a).1 then _ else _) (fun j6 => Option.bind (if nI (lossN d r i) ≤ nI (wIn d r i a).1 then _ else _) _) = f_X7_worst_L34 N (nI r) n (eM (wStep d r i (wIn d r i a))).1 _ _ _
    by_cases c : (wIn d r i a).1 < lossN d r i
    · rw [if_neg (nI_ge c (by omega)), if_neg (nI_ge c (by omega)), show wStep d r i (wIn d r i a) = (lossN d r i, r, i) from if_pos c, k_bs, k_bs]
      have : lossN d r i ≠ 0 := by omega
      simp only [eM, this, if_false]
    · rw [if_pos (nI_le (by omega) (show (wIn d r i a).1 < 2 ^ 31 by have := ok.1; omega)), if_pos (nI_le (by omega) (show (wIn d r i a).1 < 2 ^ 31 by have := ok.1; omega)), show wStep d r i (wIn d r i a) = wIn d r i a from if_neg c, k_bs, k_bs]⟩) (fun n b hb => ⟨(b.1, b.2, g), by rw [hb], by
    show f_X7_worst_L34 N (nI r) (n + 1) b.1 b.2 (nI (d 6 r)) g = some (b.1, b.2, g)
    rw [f_X7_worst_L34, k_ok (by omega) (by omega), k_gd, k_cl (by omega), e6, if_pos (Int32.le_refl _)]⟩) N 0 (eM a) (Nat.zero_le _) (by omega) rfl
  rw [show f_X7_worst_L34 N (nI r) N (eM a).1 (eM a).2 0 g = some o from e, hQ]
theorem m_wOut (N : Nat) (hN : 200 < N) {g : St_} {d : Nat → Nat → Nat} {w : Nat → Int32} (h0 : TD d) (h2 : MT g d w) : f_X7_worst_L22 N N (-1) 0 0 g = some ((eM (wOut d (d 2 0))).1, (eM (wOut d (d 2 0))).2, g) := by
  have hS := h0.1.2.1
  have e2 : g 2 0 = nI (d 2 0) := h2.2.1
  obtain ⟨o, hQ, e⟩ := loopI (fun n i b => f_X7_worst_L22 N n b.1 b.2 (nI i) g) (d 2 0) (fun i b => b = eM (wOut d i)) (fun o => o = ((eM (wOut d (d 2 0))).1, (eM (wOut d (d 2 0))).2, g)) (fun n i b hi hb => Or.inl ⟨eM (wOut d (i + 1)), rfl, by
    subst hb
    show f_X7_worst_L22 N (n + 1) (eM (wOut d i)).1 (eM (wOut d i)).2 (nI i) g = f_X7_worst_L22 N n _ _ (nI (i + 1)) g
    rw [f_X7_worst_L22, e2, if_neg (nI_ge hi (by omega)), m_wIn N hN h0 h2 hi _ (okW_out d h0 (by omega)), k_bs, k1_ad]
    rfl⟩) (fun n b hb => ⟨(b.1, b.2, g), by rw [hb], by
    show f_X7_worst_L22 N (n + 1) b.1 b.2 (nI (d 2 0)) g = some (b.1, b.2, g)
    rw [f_X7_worst_L22, e2, if_pos (Int32.le_refl _)]⟩) N 0 (eM (0, 0, 0)) (Nat.zero_le _) (by omega) rfl
  rw [show f_X7_worst_L22 N N (-1) 0 0 g = some o from e, hQ]
theorem pk_rem' (s p : Nat) (hs : s < 10) (hp : p < 3) : nI (3 * s + p) - nI ((3 * s + p) / 3) * nI 3 = nI p := by
  rw [k_mul, k_sub (by omega)]
  exact congrArg nI (by omega)
theorem pa_worst (N : Nat) (hN : 200 < N) : PA_worst N Rel := by
  intro g1 g2 hR z
  have hR0 := hR
  obtain ⟨d, w, h0, h1, h2, -⟩ := hR
  unfold f_X6_worst f_X7_worst
  rw [c_wOut N hN h0 h1, m_wOut N hN h0 h2]
  have ok := okW_out d h0 (Nat.le_refl _)
  generalize wOut d (d 2 0) = a at ok ⊢
  obtain ⟨m, s, p⟩ := a
  obtain ⟨o1, o2, o3⟩ := ok
  simp only at o1 o2 o3
  rcases k_inC N (x := z) 0 2 (by decide) (by decide) with ⟨j, hj0, hj, rfl, h⟩ | ⟨h, h6⟩
  · rw [show (0 : Int64) = (nI 0).toInt64 from rfl, show (2 : Int64) = (nI 2).toInt64 from rfl, h, if_neg (nI_pos (show j < 2 ^ 31 by omega)), if_pos (show nI j ≤ (2 : Int32) by rw [k2_ge (by omega)]; exact hj)]
    simp only [k_bs, k_10, if_false, eC, eM]
    by_cases hm : m = 0
    · subst hm
      rw [if_pos (show nI 0 = 0 from rfl), if_pos rfl, if_neg (show ¬ (0 : Int32) ≤ -1 by decide)]
      exact ⟨_, _, rfl, rfl, hR0⟩
    · rw [if_neg (show ¬ nI m = 0 by rw [k_e0 (by omega)]; exact hm), if_neg hm, if_neg hm, if_neg hm, if_pos (nI_pos' (show 3 * s + p < 2 ^ 31 by omega))]
      have hz : nzI (3 : Int32) = true := rfl
      rw [hz]
      simp only [k_gd]
      rw [show (3 : Int32) = nI 3 from rfl, pk_div (show 3 * s + p < 2 ^ 31 by omega) (by decide) (by decide), pk_rem' s p o2 o3]
      rcases (show j = 0 ∨ j = 1 ∨ j = 2 by omega) with rfl | rfl | rfl
      · exact ⟨_, _, rfl, by rw [show (3 * s + p) / 3 = s by omega]; rfl, hR0⟩
      · exact ⟨_, _, rfl, rfl, hR0⟩
      · exact ⟨_, _, rfl, rfl, hR0⟩
  · rw [show (0 : Int64) = (nI 0).toInt64 from rfl, show (2 : Int64) = (nI 2).toInt64 from rfl, h6]
    have : ∃ r, (if z < 0 then some (-1000000002 : Int32) else if z ≤ 2 then (Option.bind (some (eC (m, s, p))) (fun v1 => if v1.1 = 0 then some (-1) else if z = 0 then some v1.2.1 else if z = 1 then some v1.2.2 else some v1.1)) else some (-1000000002)) = some r ∧ r = -1000000002 := by
      by_cases q : z < 0
      · rw [if_pos q]; exact ⟨_, rfl, rfl⟩
      · rw [if_neg q, if_neg (show ¬ z ≤ (2 : Int32) from Int32.not_le.mpr (h.resolve_left q))]; exact ⟨_, rfl, rfl⟩
    obtain ⟨r, e, rfl⟩ := this
    exact ⟨_, _, e, rfl, hR0⟩
