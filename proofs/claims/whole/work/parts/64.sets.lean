-- ===== sets of small numbers in an Int32 =====
def bitI (k : Nat) : Int32 := (1 : Int32) <<< (nI k &&& 31)
def hbI (a : Int32) (k : Nat) : Bool := decide ((a >>> (nI k &&& 31)) &&& (1 : Int32) = 1)
def setN (f : Nat → Bool) : Nat → Int32
  | 0 => 0
  | n + 1 => bif f n then setN f n ||| bitI n else setN f n
theorem hbI_iff (a : Int32) {k : Nat} (hk : k < 31) : hbI a k = a.toBitVec.getLsbD k := by
  have hs : ((nI k &&& 31).toBitVec.smod 32).toNat = k := (by decide : ∀ k, k < 32 → ((nI k &&& 31).toBitVec.smod 32).toNat = k) k (by omega)
  have e : (a >>> (nI k &&& 31)).toBitVec = a.toBitVec.sshiftRight k := by
    rw [Int32.toBitVec_shiftRight]
    show a.toBitVec.sshiftRight' _ = _
    rw [BitVec.sshiftRight', hs]
  have h9 : (a.toBitVec.sshiftRight k).getLsbD 0 = a.toBitVec.getLsbD k := by
    rw [BitVec.getLsbD_sshiftRight, if_pos (show k + 0 < 32 by omega)]
    simp
  have hA : ∀ i, i < 32 → ((a.toBitVec.sshiftRight k) &&& (1 : Int32).toBitVec).getLsbD i = (decide (i = 0) && a.toBitVec.getLsbD k) := by
    intro i hi
    rw [BitVec.getLsbD_and]
    by_cases hi0 : i = 0
    · subst hi0
      rw [h9, show (1 : Int32).toBitVec.getLsbD 0 = true from by decide]
      simp
    · rw [show (1 : Int32).toBitVec.getLsbD i = false from (by decide : ∀ i, i < 32 → i ≠ 0 → (1 : Int32).toBitVec.getLsbD i = false) i hi hi0]
      simp [hi0]
  have h1 : ((a >>> (nI k &&& 31)) &&& (1 : Int32) = 1) ↔ a.toBitVec.getLsbD k = true := by
    rw [← Int32.toBitVec_inj, Int32.toBitVec_and, e]
    constructor
    · intro h
      have h2 := hA 0 (by omega)
      rw [h] at h2
      rw [show (1 : Int32).toBitVec.getLsbD 0 = true from by decide] at h2
      simpa using h2.symm
    · intro h
      apply BitVec.eq_of_getLsbD_eq
      intro i hi
      rw [hA i hi, h]
      exact (by decide : ∀ i, i < 32 → (decide (i = 0) && true) = (1 : Int32).toBitVec.getLsbD i) i hi
  unfold hbI
  cases q : a.toBitVec.getLsbD k with
  | true => exact decide_eq_true (h1.mpr q)
  | false => exact decide_eq_false (fun h => by rw [h1.mp h] at q; cases q)
theorem bitI_bit {k i : Nat} (hk : k < 31) (hi : i < 32) : (bitI k).toBitVec.getLsbD i = decide (i = k) := (by decide : ∀ k, k < 31 → ∀ i, i < 32 → (bitI k).toBitVec.getLsbD i = decide (i = k)) k hk i hi
theorem hb_or (a b : Int32) {k : Nat} (hk : k < 31) : hbI (a ||| b) k = (hbI a k || hbI b k) := by
  rw [hbI_iff _ hk, hbI_iff _ hk, hbI_iff _ hk, Int32.toBitVec_or, BitVec.getLsbD_or]
theorem hb_bit {k i : Nat} (hk : k < 31) (hi : i < 31) : hbI (bitI k) i = decide (i = k) := by rw [hbI_iff _ hi, bitI_bit hk (by omega)]
theorem hb_0 {k : Nat} (hk : k < 31) : hbI 0 k = false := by rw [hbI_iff _ hk]; simp
theorem hb_and (a b : Int32) {k : Nat} (hk : k < 31) : hbI (a &&& b) k = (hbI a k && hbI b k) := by
  rw [hbI_iff _ hk, hbI_iff _ hk, hbI_iff _ hk, Int32.toBitVec_and, BitVec.getLsbD_and]
theorem hb_setN (f : Nat → Bool) {n k : Nat} (hn : n ≤ 31) (hk : k < 31) : hbI (setN f n) k = (decide (k < n) && f k) := by
  induction n with
  | zero => simp [setN, hb_0 hk]
  | succ n ih =>
    simp only [setN]
    by_cases hf : f n = true
    · rw [hf, cond_true, hb_or _ _ hk, ih (by omega), hb_bit (by omega) hk]
      by_cases h1 : k = n
      · subst h1; simp [hf]
      · simp [h1, show (k < n + 1) = (k < n) from propext ⟨fun h => by omega, fun h => by omega⟩]
    · rw [Bool.eq_false_iff.mpr hf, cond_false, ih (by omega)]
      by_cases h1 : k = n
      · subst h1; simp [Bool.eq_false_iff.mpr hf]
      · simp [show (k < n + 1) = (k < n) from propext ⟨fun h => by omega, fun h => by omega⟩]
/-- the highest bits of a set of fewer than 31 are clear -/
theorem set_hi (f : Nat → Bool) {n i : Nat} (hn : n ≤ 31) (hi : n ≤ i) (h32 : i < 32) : (setN f n).toBitVec.getLsbD i = false := by
  induction n with
  | zero => simp [setN]
  | succ n ih =>
    simp only [setN]
    by_cases hf : f n = true
    · rw [hf, cond_true, Int32.toBitVec_or, BitVec.getLsbD_or, ih (by omega) (by omega), bitI_bit (by omega) h32]
      simp; omega
    · rw [Bool.eq_false_iff.mpr hf, cond_false]; exact ih (by omega) (by omega)
theorem ext_I {a b : Int32} (h : ∀ i, i < 32 → a.toBitVec.getLsbD i = b.toBitVec.getLsbD i) : a = b := Int32.toBitVec_inj.mp (BitVec.eq_of_getLsbD_eq h)
theorem setN_congr {f k : Nat → Bool} {n : Nat} (h : ∀ i, i < n → f i = k i) : setN f n = setN k n := by
  induction n with
  | zero => rfl
  | succ n ih =>
    simp only [setN]
    rw [ih (fun i hi => h i (by omega)), h n (by omega)]
theorem ib {α : Type} (b : Bool) (x y : α) : (if b2 b = 0 then x else y) = bif b then y else x := by cases b <;> rfl
theorem x6_has (N : Nat) (a : Int32) {k : Nat} (hk : k < 31) : f_X6_has N a (nI k) = some (b2 (hbI a k)) := by
  unfold f_X6_has
  rw [if_neg (nI_pos (show k < 2 ^ 31 by omega)), if_neg (show ¬ (31 : Int32) ≤ nI k by rw [k31_le (by omega)]; omega)]
  unfold hbI b2
  by_cases h : (a >>> (nI k &&& 31)) &&& (1 : Int32) = 1
  · simp [h]
  · simp [h]
theorem x7_has (N : Nat) (a : Int32) (k : Nat) : f_X7_has N a (nI k) = some (b2 (hbI a k)) := by
  unfold f_X7_has hbI b2
  by_cases h : (a >>> (nI k &&& 31)) &&& (1 : Int32) = 1
  · simp [h]
  · simp [h]
-- ===== who climbs what =====
def stD (d : Nat → Nat → Nat) (r : Nat) : Nat → Nat := fun i => d 7 (3 * r + i)
def fitD (d : Nat → Nat → Nat) (s r : Nat) : Bool := fitF (d 3 r) (d 6 r) (stD d r) s
theorem fitF_congr {k n s : Nat} {a b : Nat → Nat} (h : ∀ i, i < n → a i = b i) : fitF k n a s = fitF k n b s := by
  unfold fitF
  congr 1
  have : ∀ i, i < n → fitB k a s i = fitB k b s i := fun i hi => by simp [fitB, h i hi]
  induction n with
  | zero => rfl
  | succ n ih =>
    simp only [allB]
    rw [ih (fun i hi => h i (by omega)) (fun i hi => this i (by omega)), this n (by omega)]
theorem c_fit (N : Nat) (hN : 200 < N) {t : St_} {d : Nat → Nat → Nat} {w : Nat → Int32} (h0 : TD d) (h1 : CT t d w) {r s : Nat} (hr : r < d 2 0) (hs : s < 1000) : f_X5_allows N t (nI r) (nI s) (-1) 0 = some (b2 (fitD d s r)) := by
  refine c_allows N hN h0 h1 hr hs (-1) 0 (stD d r) (fun i hi => ?_)
  have hq := h0.2.1 r hr
  have h2 := h0.2.2.1 r i hr hi
  refine ⟨?_, by show d 7 (3 * r + i) < 1000; omega⟩
  rw [if_neg (fun e => absurd e (by rw [k_m1 (by omega)]; exact fun h => h))]
  rw [Int32.add_zero]
  exact h1.2.2.2.1 r i hr hi
theorem m_fitD (N : Nat) (hN : 200 < N) {t : St_} {d : Nat → Nat → Nat} {w : Nat → Int32} (h0 : TD d) (h1 : MT t d w) {r s : Nat} (hr : r < d 2 0) (hs : s < 1000) : f_X7_isFit N t (nI r) (nI s) = some (b2 (fitD d s r)) := by
  refine m_fit N hN h0 hr hs (stD d r) (h1.2.2.1 r hr).1 (h1.2.2.1 r hr).2.2.2 (fun i hi => ?_)
  have h2 := h0.2.2.1 r i hr hi
  exact ⟨h1.2.2.2.2.2.1 r i hr hi, by show d 7 (3 * r + i) < 1000; omega⟩
def climD (d : Nat → Nat → Nat) (p r : Nat) : Bool := fitD d (d 11 p) r || fitD d (d 12 p) r
theorem c_climb (N : Nat) (hN : 200 < N) {t : St_} {d : Nat → Nat → Nat} {w : Nat → Int32} (h0 : TD d) (h1 : CT t d w) {p r : Nat} (hp : p < d 9 0) (hr : r < d 2 0) : f_X5_mayClimb N t (nI p) (nI r) = some (b2 (climD d p r)) := by
  have hE := h0.1.2.2.1
  obtain ⟨-, q1, q2, q3⟩ := h0.2.2.2 p hp
  have e1 : t 11 p = nI (d 11 p) := (h1.2.2.1 p hp).2.1
  have e2 : t 12 p = nI (d 12 p) := (h1.2.2.1 p hp).2.2
  unfold f_X5_mayClimb
  rw [k_ok (by omega) (by omega), k_gd, k_cl (by omega), e1, e2, c_fit N hN h0 h1 hr (by omega), c_fit N hN h0 h1 hr (by omega)]
  simp only [k_bs, k_gd, ib, climD]
  cases fitD d (d 11 p) r <;> cases fitD d (d 12 p) r <;> rfl
theorem m_climb (N : Nat) (hN : 200 < N) {t : St_} {d : Nat → Nat → Nat} {w : Nat → Int32} (h0 : TD d) (h1 : MT t d w) {p r : Nat} (hp : p < d 9 0) (hr : r < d 2 0) : f_X7_mayClimb N t (nI p) (nI r) = some (b2 (climD d p r)) := by
  have hE := h0.1.2.2.1
  obtain ⟨-, q1, q2, q3⟩ := h0.2.2.2 p hp
  have e1 : t 11 p = nI (d 11 p) := (h1.2.2.2.2.1 p hp).2.1
  have e2 : t 12 p = nI (d 12 p) := (h1.2.2.2.2.1 p hp).2.2
  unfold f_X7_mayClimb
  rw [k_ok (by omega) (by omega), k_gd, k_cl (by omega), e1, e2, m_fitD N hN h0 h1 hr (by omega), m_fitD N hN h0 h1 hr (by omega)]
  simp only [k_bs, k_gd, ib, climD]
  cases fitD d (d 11 p) r <;> cases fitD d (d 12 p) r <;> rfl
theorem m_climbers (N : Nat) (hN : 200 < N) {t : St_} {d : Nat → Nat → Nat} {w : Nat → Int32} (h0 : TD d) (h1 : MT t d w) {r : Nat} (hr : r < d 2 0) : f_X7_climbers N t (nI r) = some (setN (fun p => climD d p r) (d 9 0)) := by
  have hE := h0.1.2.2.1
  have e9 : t 9 0 = nI (d 9 0) := h1.2.2.2.1
  obtain ⟨o, hQ, e⟩ := loopI (fun n i a => f_X7_climbers_L4 N t (nI r) n a (nI i)) (d 9 0) (fun i a => a = setN (fun p => climD d p r) i) (fun o => o = setN (fun p => climD d p r) (d 9 0)) (fun n i a hi ha => Or.inl ⟨setN (fun p => climD d p r) (i + 1), rfl, by
    subst ha
    show f_X7_climbers_L4 N t (nI r) (n + 1) _ (nI i) = f_X7_climbers_L4 N t (nI r) n _ (nI (i + 1))
    rw [f_X7_climbers_L4, e9, if_neg (nI_ge hi (by omega)), m_climb N hN h0 h1 hi hr, k_bs, ib, k1_ad]
    simp only [setN]
    cases q : climD d i r with
    | true => simp [k_bs, bitI]
    | false => simp [k_bs]⟩) (fun n a ha => ⟨a, ha, by
    show f_X7_climbers_L4 N t (nI r) (n + 1) a (nI (d 9 0)) = some a
    rw [f_X7_climbers_L4, e9, if_pos (Int32.le_refl _)]⟩) N 0 0 (Nat.zero_le _) (by omega) rfl
  unfold f_X7_climbers
  rw [show f_X7_climbers_L4 N t (nI r) N 0 0 = some o from e, hQ]
  rfl
/-- the class's climbers, a part changed by some steps -/
theorem c_climbersG (N : Nat) (hN : 200 < N) {t : St_} {d : Nat → Nat → Nat} {w : Nat → Int32} (h0 : TD d) (h1 : CT t d w) {r : Nat} (hr : r < d 2 0) (part x : Int32) (st : Nat → Nat) (hst : ∀ i, i < d 6 r → t 13 (3 * r + i) + (if nI i = part then x else 0) = nI (st i) ∧ st i < 1000) : f_X5_climbers N t (nI r) part x = some (setN (fun p => fitF (d 3 r) (d 6 r) st (d 11 p) || fitF (d 3 r) (d 6 r) st (d 12 p)) (d 9 0)) := by
  have hE := h0.1.2.2.1
  have e9 : t 9 0 = nI (d 9 0) := h1.2.1
  obtain ⟨o, hQ, e⟩ := loopI (fun n i a => f_X5_climbers_L6 N t (nI r) part x n a (nI i)) (d 9 0) (fun i a => a = setN (fun p => fitF (d 3 r) (d 6 r) st (d 11 p) || fitF (d 3 r) (d 6 r) st (d 12 p)) i) (fun o => o = setN (fun p => fitF (d 3 r) (d 6 r) st (d 11 p) || fitF (d 3 r) (d 6 r) st (d 12 p)) (d 9 0)) (fun n i a hi ha => Or.inl ⟨setN (fun p => fitF (d 3 r) (d 6 r) st (d 11 p) || fitF (d 3 r) (d 6 r) st (d 12 p)) (i + 1), rfl, by
    subst ha
    show f_X5_climbers_L6 N t (nI r) part x (n + 1) _ (nI i) = f_X5_climbers_L6 N t (nI r) part x n _ (nI (i + 1))
    obtain ⟨-, q1, q2, q3⟩ := h0.2.2.2 i hi
    have e1 : t 11 i = nI (d 11 i) := (h1.2.2.1 i hi).2.1
    have e2 : t 12 i = nI (d 12 i) := (h1.2.2.1 i hi).2.2
    rw [f_X5_climbers_L6, e9, if_neg (nI_ge hi (by omega)), k_ok (by omega) (by omega), k_cl (by omega), e1, e2, c_allows N hN h0 h1 hr (by omega) part x st hst, c_allows N hN h0 h1 hr (by omega) part x st hst, k1_ad]
    simp only [k_gd, k_bs, ib, setN]
    cases q1 : fitF (d 3 r) (d 6 r) st (d 11 i) <;> cases q2 : fitF (d 3 r) (d 6 r) st (d 12 i) <;> simp [k_bs, bitI]⟩) (fun n a ha => ⟨a, ha, by
    show f_X5_climbers_L6 N t (nI r) part x (n + 1) a (nI (d 9 0)) = some a
    rw [f_X5_climbers_L6, e9, if_pos (Int32.le_refl _)]⟩) N 0 0 (Nat.zero_le _) (by omega) rfl
  unfold f_X5_climbers
  rw [show f_X5_climbers_L6 N t (nI r) part x N 0 0 = some o from e, hQ]
  rfl
theorem c_climbers (N : Nat) (hN : 200 < N) {t : St_} {d : Nat → Nat → Nat} {w : Nat → Int32} (h0 : TD d) (h1 : CT t d w) {r : Nat} (hr : r < d 2 0) : f_X5_climbers N t (nI r) (-1) 0 = some (setN (fun p => climD d p r) (d 9 0)) := by
  refine c_climbersG N hN h0 h1 hr (-1) 0 (stD d r) (fun i hi => ?_)
  have hq := h0.2.1 r hr
  have h2 := h0.2.2.1 r i hr hi
  refine ⟨?_, by show d 7 (3 * r + i) < 1000; omega⟩
  rw [if_neg (fun e => absurd e (by rw [k_m1 (by omega)]; exact fun h => h)), Int32.add_zero]
  exact h1.2.2.2.1 r i hr hi
