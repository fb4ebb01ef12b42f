-- ===== the least stair that lets some in and keeps some off =====
def lcmA (d : Nat → Nat → Nat) (W : Int32) : Nat → Nat
  | 0 => 1
  | n + 1 => bif hbI W n then Nat.lcm (lcmA d W n) (d 11 n) else lcmA d W n
theorem lcmA_b {d : Nat → Nat → Nat} (h0 : TD d) (W : Int32) {n : Nat} (hn : n ≤ d 9 0) : 1 ≤ lcmA d W n ∧ lcmA d W n ≤ 24 ^ n := by
  induction n with
  | zero => exact ⟨Nat.le_refl _, Nat.le_refl _⟩
  | succ n ih =>
    obtain ⟨i1, i2⟩ := ih (by omega)
    have hq := h0.2.2.2 n (by omega)
    show 1 ≤ (bif hbI W n then Nat.lcm (lcmA d W n) (d 11 n) else lcmA d W n) ∧ (bif hbI W n then Nat.lcm (lcmA d W n) (d 11 n) else lcmA d W n) ≤ 24 ^ n * 24
    cases hbI W n with
    | false => exact ⟨i1, by rw [cond_false]; omega⟩
    | true =>
      rw [cond_true]
      refine ⟨Nat.lcm_pos (by omega) (by omega), Nat.le_trans (Nat.le_of_dvd (Nat.mul_pos (by omega) (by omega)) (Nat.lcm_dvd_mul _ _)) (Nat.mul_le_mul i2 hq.2.2.1)⟩
theorem lcmA_lt {d : Nat → Nat → Nat} (h0 : TD d) (W : Int32) {n : Nat} (hn : n ≤ d 9 0) : 1 ≤ lcmA d W n ∧ lcmA d W n < 1000000000000 := by
  have h := lcmA_b h0 W hn
  have hE := h0.1.2.2.1
  have : 24 ^ n ≤ 24 ^ 8 := Nat.pow_le_pow_right (by decide) (by omega)
  omega
theorem lcmA_dvd (d : Nat → Nat → Nat) (W : Int32) (n m : Nat) : lcmA d W n ∣ m ↔ ∀ p, p < n → hbI W p = true → d 11 p ∣ m := by
  induction n with
  | zero =>
    constructor
    · intro _ p hp; omega
    · intro _; exact Nat.one_dvd m
  | succ n ih =>
    show (bif hbI W n then Nat.lcm (lcmA d W n) (d 11 n) else lcmA d W n) ∣ m ↔ _
    cases hb : hbI W n with
    | false =>
      rw [cond_false, ih]
      constructor
      · intro h p hp hw
        rcases Nat.lt_or_ge p n with q | q
        · exact h p q hw
        · have : p = n := by omega
          subst this; rw [hb] at hw; cases hw
      · intro h p hp hw
        exact h p (by omega) hw
    | true =>
      rw [cond_true, Nat.lcm_dvd_iff, ih]
      constructor
      · intro h p hp hw
        rcases Nat.lt_or_ge p n with q | q
        · exact h.1 p q hw
        · have : p = n := by omega
          subst this; exact h.2
      · intro h
        exact ⟨fun p hp hw => h p (by omega) hw, h n (by omega) hb⟩
theorem c_lcmA (N : Nat) (hN : 200 < N) {g : St_} {d : Nat → Nat → Nat} {w : Nat → Int32} (h0 : TD d) (h1 : CT (sh_ 26 g) d w) (W : Int32) : f_X6_wish_L33 N g W N 1 0 = some (lN (lcmA d W (d 9 0))) := by
  have hE := h0.1.2.2.1
  have e35 : g 35 0 = nI (d 9 0) := h1.2.1
  obtain ⟨o, hQ, e⟩ := loopI (fun n i a => f_X6_wish_L33 N g W n a (nI i)) (d 9 0) (fun i a => a = lN (lcmA d W i)) (fun o => o = lN (lcmA d W (d 9 0))) (fun n i a hi ha => Or.inl ⟨lN (lcmA d W (i + 1)), rfl, by
    subst ha
    have a1 : g 37 i = nI (d 11 i) := (h1.2.2.1 i hi).2.1
    have hq := h0.2.2.2 i hi
    have hb := lcmA_lt h0 W (n := i) (by omega)
    show f_X6_wish_L33 N g W (n + 1) _ (nI i) = f_X6_wish_L33 N g W n _ (nI (i + 1))
    rw [f_X6_wish_L33, e35, if_neg (nI_ge hi (by omega)), x6_has N W (by omega), k_ok (show i < 8 by omega) (by omega), k_cl (by omega), a1, c_com N hN hb.1 hb.2 hq.2.1 hq.2.2.1, k_bs, ib, k1_ad]
    simp only [k_bs, k_gd, lcmA]
    cases hbI W i <;> rfl⟩) (fun n a ha => ⟨a, ha, by
    show f_X6_wish_L33 N g W (n + 1) a (nI (d 9 0)) = some a
    rw [f_X6_wish_L33, e35, if_pos (Int32.le_refl _)]⟩) N 0 1 (Nat.zero_le _) (by omega) rfl
  rw [show f_X6_wish_L33 N g W N 1 0 = some o from e, hQ]
def goB (d : Nat → Nat → Nat) (n p : Nat) : Bool := decide (n % d 11 p = 0) || (decide (d 12 p ≠ 0) && decide (n % d 12 p = 0))
def wsB (d : Nat → Nat → Nat) (W O : Int32) (n p : Nat) : Bool := (!hbI W p || decide (n % d 11 p = 0)) && (!hbI O p || !goB d n p)
theorem c_outB (N : Nat) (hN : 200 < N) {g : St_} {d : Nat → Nat → Nat} {w : Nat → Int32} (h0 : TD d) (h1 : CT (sh_ 26 g) d w) (O : Int32) {L : Nat} (hL : L < 1000000000000) : f_X6_wish_L85 N g O (lN L) N 0 = some (if allB (fun p => !hbI O p || !goB d L p) (d 9 0) = true then Sum.inr () else Sum.inl (-1)) := by
  have hE := h0.1.2.2.1
  have e35 : g 35 0 = nI (d 9 0) := h1.2.1
  obtain ⟨o, hQ, e⟩ := loopI (fun n i (_ : Unit) => f_X6_wish_L85 N g O (lN L) n (nI i)) (d 9 0) (fun i _ => allB (fun p => !hbI O p || !goB d L p) i = true) (fun o => o = if allB (fun p => !hbI O p || !goB d L p) (d 9 0) = true then Sum.inr () else Sum.inl (-1)) (fun n i u hi ha => by
    have a1 : g 37 i = nI (d 11 i) := (h1.2.2.1 i hi).2.1
    have a2 : g 38 i = nI (d 12 i) := (h1.2.2.1 i hi).2.2
    have hq := h0.2.2.2 i hi
    show (∃ a', _ ∧ f_X6_wish_L85 N g O (lN L) (n + 1) (nI i) = f_X6_wish_L85 N g O (lN L) n (nI (i + 1))) ∨ ∃ o, _ ∧ f_X6_wish_L85 N g O (lN L) (n + 1) (nI i) = some o
    rw [f_X6_wish_L85, e35, if_neg (nI_ge hi (by omega)), x6_has N O (by omega), k_ok (show i < 8 by omega) (by omega), k_cl (by omega), a1, a2, c_goesZ N (by omega) (by omega), c_goesZ N (by omega) (by omega), k1_ad]
    simp only [k_bs, k_gd, ib]
    have hd : decide (d 11 i ≠ 0) = true := decide_eq_true (by omega)
    rw [hd, Bool.true_and]
    have key : (bif hbI O i then (bif decide (L % d 11 i = 0) then some (Sum.inl (-1 : Int32)) else (bif (decide (d 12 i ≠ 0) && decide (L % d 12 i = 0)) then some (Sum.inl (-1 : Int32)) else some (Sum.inr ()))) else some (Sum.inr ()) : Option (Int32 ⊕ Unit)) = some (bif (!hbI O i || !goB d L i) then Sum.inr () else Sum.inl (-1)) := by
      unfold goB
      cases hbI O i <;> cases decide (L % d 11 i = 0) <;> cases (decide (d 12 i ≠ 0) && decide (L % d 12 i = 0)) <;> rfl
    rw [key, k_bs]
    cases hb : (!hbI O i || !goB d L i) with
    | true =>
      left
      exact ⟨(), by simp only [allB, ha, hb, Bool.and_self], rfl⟩
    | false =>
      right
      refine ⟨Sum.inl (-1), ?_, rfl⟩
      rw [allB_no (f := fun p => !hbI O p || !goB d L p) hi hb]
      rfl) (fun n u ha => ⟨Sum.inr (), by rw [ha]; rfl, by
    show f_X6_wish_L85 N g O (lN L) (n + 1) (nI (d 9 0)) = _
    rw [f_X6_wish_L85, e35, if_pos (Int32.le_refl _)]⟩) N 0 () (Nat.zero_le _) (by omega) rfl
  rw [show f_X6_wish_L85 N g O (lN L) N 0 = some o from e, hQ]
theorem m_isWish (N : Nat) (hN : 200 < N) {g : St_} {d : Nat → Nat → Nat} {w : Nat → Int32} (h0 : TD d) (h2 : MT g d w) (W O : Int32) {n : Nat} (hn : n < 1000000000) : f_X7_isWish N g (nI n) W O = some (b2 (allB (wsB d W O n) (d 9 0))) := by
  have hE := h0.1.2.2.1
  have e9 : g 9 0 = nI (d 9 0) := h2.2.2.2.1
  obtain ⟨o, hQ, e⟩ := loopI (fun m i a => f_X7_isWish_L6 N g (nI n) W O m a (nI i)) (d 9 0) (fun i a => a = b2 (allB (wsB d W O n) i)) (fun o => o = b2 (allB (wsB d W O n) (d 9 0))) (fun m i a hi ha => Or.inl ⟨b2 (allB (wsB d W O n) (i + 1)), rfl, by
    subst ha
    obtain ⟨-, e11, e12⟩ := h2.2.2.2.2.1 i hi
    have hq := h0.2.2.2 i hi
    have hm := Nat.mod_lt n (show d 11 i > 0 by omega)
    show f_X7_isWish_L6 N g (nI n) W O (m + 1) _ (nI i) = f_X7_isWish_L6 N g (nI n) W O m _ (nI (i + 1))
    rw [f_X7_isWish_L6, e9, if_neg (nI_ge hi (by omega)), k_ok (show i < 8 by omega) (by omega), k_cl (by omega), e11, e12, nz_I (show d 11 i ≠ 0 by omega) (by omega), pk_rem (d := d 11 i) (by omega) (by omega) (by omega), k1_ad, x7_has, x7_has]
    simp only [k_gd, k_bs, ib]
    have J2 : (if nI (n % d 11 i) = 0 then some (1 : Int32) else some (0 : Int32)) = some (b2 (decide (n % d 11 i = 0))) := by
      by_cases c : n % d 11 i = 0
      · rw [if_pos (show nI (n % d 11 i) = 0 by rw [c]; rfl), decide_eq_true c]; rfl
      · rw [if_neg (show ¬ nI (n % d 11 i) = 0 by rw [k_e0 (by omega)]; exact c), decide_eq_false c]; rfl
    rw [J2, k_bs]
    simp only [ib]
    have J3 : (if nI (d 12 i) ≤ 0 then some (0 : Int32) else gd (nzI (nI (d 12 i))) (if nI n - nI n / nI (d 12 i) * nI (d 12 i) = 0 then some (1 : Int32) else some (0 : Int32))) = some (b2 (decide (d 12 i ≠ 0) && decide (n % d 12 i = 0))) := by
      by_cases c : d 12 i = 0
      · rw [if_pos (show nI (d 12 i) ≤ 0 by rw [c]; decide)]
        simp [c, b2]
      · rw [if_neg (show ¬ nI (d 12 i) ≤ 0 by rw [k_z0 (by omega)]; omega), nz_I c (by omega), pk_rem (by omega) (by omega) (by omega), k_gd]
        have hm2 := Nat.mod_lt n (show d 12 i > 0 by omega)
        by_cases c2 : n % d 12 i = 0
        · rw [if_pos (show nI (n % d 12 i) = 0 by rw [c2]; rfl)]; simp [c, c2, b2]
        · rw [if_neg (show ¬ nI (n % d 12 i) = 0 by rw [k_e0 (by omega)]; exact c2)]; simp [c2, b2]
    rw [J3]
    show _ = f_X7_isWish_L6 N g (nI n) W O m (b2 (allB (wsB d W O n) i && wsB d W O n i)) (nI (i + 1))
    unfold wsB goB
    cases allB (fun p => (!hbI W p || decide (n % d 11 p = 0)) && (!hbI O p || !(decide (n % d 11 p = 0) || (decide (d 12 p ≠ 0) && decide (n % d 12 p = 0))))) i <;> cases hbI W i <;> cases hbI O i <;> cases decide (n % d 11 i = 0) <;> cases (decide (d 12 i ≠ 0) && decide (n % d 12 i = 0)) <;> rfl⟩) (fun m a ha => ⟨a, ha, by
    show f_X7_isWish_L6 N g (nI n) W O (m + 1) a (nI (d 9 0)) = some a
    rw [f_X7_isWish_L6, e9, if_pos (Int32.le_refl _)]⟩) N 0 1 (Nat.zero_le _) (by omega) rfl
  unfold f_X7_isWish
  rw [show f_X7_isWish_L6 N g (nI n) W O N 1 0 = some o from e, hQ, k_bs, b2_B, k_gd]
theorem p2_I : ∀ e, e ≤ 8 → (1 : Int32) <<< (nI e &&& 31) = nI (2 ^ e) ∧ 2 ^ e < 1000 := by decide +kernel
theorem pa_wish (N : Nat) (hN : 200000 < N) : PA_wish N Rel := by
  intro g1 g2 hR z0 z1
  have hR0 := hR
  obtain ⟨d, w, h0, h1, h2, -⟩ := hR
  have hE := h0.1.2.2.1
  obtain ⟨P1, P2⟩ := p2_I (d 9 0) hE
  have e35 : sh_ 34 g1 1 0 = nI (d 9 0) := h1.2.1
  have e9 : g2 9 0 = nI (d 9 0) := h2.2.2.2.1
  unfold f_X6_wish f_X7_wish
  rw [e9, P1]
  have two := fun x => c_two N (x := x) (n := 2 ^ d 9 0) (by omega) (f_X3_hasPersons N (sh_ 34 g1)) (fun x => by unfold f_X3_hasPersons; rw [e35, P1])
  rcases two z0 with ⟨j0, -, -, p1, p2⟩ | ⟨p1, p2⟩
  · rw [p1, p2]
    rcases two z1 with ⟨j1, -, -, p3, p4⟩ | ⟨p3, p4⟩
    · rw [p3, p4]
      simp only [k_bs, k_10, if_false]
      rw [c_lcmA N (by omega) h0 h1 z0, k_bs]
      obtain ⟨b1, b2'⟩ := lcmA_lt h0 z0 (n := d 9 0) (Nat.le_refl _)
      have hdv := lcmA_dvd d z0 (d 9 0)
      generalize lcmA d z0 (d 9 0) = L at b1 b2' hdv ⊢
      have onlyL : ∀ n, allB (wsB d z0 z1 n) (d 9 0) = true → L ∣ n := fun n h => (hdv n).mpr (fun p hp hw => by
        have := allB_iff.mp h p hp
        unfold wsB at this
        rw [hw] at this
        simp only [Bool.not_true, Bool.false_or, Bool.and_eq_true, decide_eq_true_eq] at this
        exact Nat.dvd_of_mod_eq_zero this.1)
      have none_ : (∀ n, 1 ≤ n → n ≤ 100000 → allB (wsB d z0 z1 n) (d 9 0) = false) → f_X7_wish_L37 N g2 z0 z1 N 1 = some (Sum.inr ()) := by
        intro hno
        refine loopU (fun m i => f_X7_wish_L37 N g2 z0 z1 m (nI (i + 1))) 100000 _ (fun m i hi => ?_) (fun m => ?_) (by omega)
        · show f_X7_wish_L37 N g2 z0 z1 (m + 1) (nI (i + 1)) = f_X7_wish_L37 N g2 z0 z1 m (nI (i + 1 + 1))
          rw [f_X7_wish_L37, if_neg (show ¬ (100000 : Int32) < nI (i + 1) by rw [k100000_lt (by omega)]; omega), m_isWish N (by omega) h0 h2 z0 z1 (by omega), k_bs, ib, hno (i + 1) (by omega) (by omega), cond_false, k1_ad]
        · show f_X7_wish_L37 N g2 z0 z1 (m + 1) (nI (100000 + 1)) = _
          rw [f_X7_wish_L37, if_pos (show (100000 : Int32) < nI (100000 + 1) by decide)]
      by_cases big : L ≤ 100000
      · rw [if_pos (show lg_cmp (lN L) (100000 : Int64) ≤ 0 from Int32.not_lt.mp (fun q => by
          have := (lg_cmp_gt (lN L) (100000 : Int64)).mp q
          have := (pk_lLT (a := 100000) (b := L) (by omega) (by omega)).mp this
          omega)), c_outB N (by omega) h0 h1 z1 b2']
        by_cases ok : allB (fun p => !hbI z1 p || !goB d L p) (d 9 0) = true
        · rw [if_pos ok]
          have hok : allB (wsB d z0 z1 L) (d 9 0) = true := allB_iff.mpr (fun p hp => by
            have k1 := allB_iff.mp ok p hp
            unfold wsB
            rw [k1, Bool.and_true]
            cases hw : hbI z0 p with
            | false => rfl
            | true =>
              have := (hdv L).mp (Nat.dvd_refl L) p hp hw
              simp [Nat.mod_eq_zero_of_dvd this])
          have M : f_X7_wish_L37 N g2 z0 z1 N 1 = some (Sum.inl (nI L)) := by
            refine loopU (fun m i => f_X7_wish_L37 N g2 z0 z1 m (nI (i + 1))) (L - 1) _ (fun m i hi => ?_) (fun m => ?_) (by omega)
            · show f_X7_wish_L37 N g2 z0 z1 (m + 1) (nI (i + 1)) = f_X7_wish_L37 N g2 z0 z1 m (nI (i + 1 + 1))
              have hno : allB (wsB d z0 z1 (i + 1)) (d 9 0) = false := Bool.eq_false_iff.mpr (fun q => by
                have := Nat.le_of_dvd (by omega) (onlyL (i + 1) q)
                omega)
              rw [f_X7_wish_L37, if_neg (show ¬ (100000 : Int32) < nI (i + 1) by rw [k100000_lt (by omega)]; omega), m_isWish N (by omega) h0 h2 z0 z1 (by omega), k_bs, ib, hno, cond_false, k1_ad]
            · show f_X7_wish_L37 N g2 z0 z1 (m + 1) (nI (L - 1 + 1)) = _
              rw [show L - 1 + 1 = L by omega]
              rw [f_X7_wish_L37, if_neg (show ¬ (100000 : Int32) < nI L by rw [k100000_lt (by omega)]; omega), m_isWish N (by omega) h0 h2 z0 z1 (by omega), k_bs, ib, hok, cond_true]
          rw [M]
          exact ⟨_, rfl, by rw [lN_i]; rfl, hR0⟩
        · rw [if_neg ok, none_ (fun n n1 n2 => Bool.eq_false_iff.mpr (fun q => ok (allB_iff.mpr (fun p hp => by
            have hd := onlyL n q
            have k1 := allB_iff.mp q p hp
            unfold wsB at k1
            rw [Bool.and_eq_true] at k1
            cases ho : hbI z1 p with
            | false => rfl
            | true =>
              have k2 := k1.2
              rw [ho] at k2
              cases hg : goB d L p with
              | false => rfl
              | true =>
                exfalso
                have : goB d n p = true := by
                  unfold goB at hg ⊢
                  rw [Bool.or_eq_true] at hg ⊢
                  rcases hg with hg | hg
                  · exact Or.inl (decide_eq_true (Nat.mod_eq_zero_of_dvd (Nat.dvd_trans (Nat.dvd_of_mod_eq_zero (of_decide_eq_true hg)) hd)))
                  · rw [Bool.and_eq_true] at hg ⊢
                    exact Or.inr ⟨hg.1, decide_eq_true (Nat.mod_eq_zero_of_dvd (Nat.dvd_trans (Nat.dvd_of_mod_eq_zero (of_decide_eq_true hg.2)) hd))⟩
                rw [this] at k2
                cases k2))))]
          exact ⟨_, rfl, rfl, hR0⟩
      · rw [if_neg (show ¬ lg_cmp (lN L) (100000 : Int64) ≤ 0 from fun q => absurd ((lg_cmp_gt (lN L) (100000 : Int64)).mpr ((pk_lLT (a := 100000) (b := L) (by omega) (by omega)).mpr (by omega))) (Int32.not_lt.mpr q)), none_ (fun n n1 n2 => Bool.eq_false_iff.mpr (fun q => by
          have := Nat.le_of_dvd (by omega) (onlyL n q)
          omega))]
        exact ⟨_, rfl, rfl, hR0⟩
    · rw [p3, p4]
      exact ⟨_, rfl, rfl, hR0⟩
  · rw [p1, p2]
    exact ⟨_, rfl, rfl, hR0⟩
