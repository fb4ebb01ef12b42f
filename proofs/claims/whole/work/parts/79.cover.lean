-- ===== sets of persons, tried from the least on =====
def exB (f : Nat → Bool) : Nat → Bool
  | 0 => false
  | n + 1 => exB f n || f n
theorem exB_iff {f : Nat → Bool} {n : Nat} : exB f n = true ↔ ∃ i, i < n ∧ f i = true := by
  induction n with
  | zero => simp [exB]
  | succ n ih =>
    simp only [exB, Bool.or_eq_true, ih]
    constructor
    · rintro (⟨i, h1, h2⟩ | h)
      · exact ⟨i, by omega, h2⟩
      · exact ⟨n, by omega, h⟩
    · rintro ⟨i, h1, h2⟩
      rcases Nat.lt_or_ge i n with q | q
      · exact Or.inl ⟨i, q, h2⟩
      · have : i = n := by omega
        subst this; exact Or.inr h2
theorem exB_congr {f k : Nat → Bool} {n : Nat} (h : ∀ i, i < n → f i = k i) : exB f n = exB k n := by
  induction n with
  | zero => rfl
  | succ n ih =>
    simp only [exB]
    rw [ih (fun i hi => h i (by omega)), h n (by omega)]
theorem allB_congr {f k : Nat → Bool} {n : Nat} (h : ∀ i, i < n → f i = k i) : allB f n = allB k n := by
  induction n with
  | zero => rfl
  | succ n ih =>
    simp only [allB]
    rw [ih (fun i hi => h i (by omega)), h n (by omega)]
def unI (f : Nat → Int32) (s : Int32) : Nat → Int32
  | 0 => 0
  | n + 1 => bif hbI s n then unI f s n ||| f n else unI f s n
theorem unI_bit (f : Nat → Int32) (s : Int32) (n : Nat) {r : Nat} : (unI f s n).toBitVec.getLsbD r = exB (fun c => hbI s c && (f c).toBitVec.getLsbD r) n := by
  induction n with
  | zero => simp [unI, exB]
  | succ n ih =>
    simp only [unI, exB]
    cases hbI s n with
    | true => rw [cond_true, Int32.toBitVec_or, BitVec.getLsbD_or, ih, Bool.true_and]
    | false => rw [cond_false, ih, Bool.false_and, Bool.or_false]
theorem unI_hb (f : Nat → Int32) (s : Int32) (n : Nat) {r : Nat} (hr : r < 31) : hbI (unI f s n) r = exB (fun c => hbI s c && hbI (f c) r) n := by
  rw [hbI_iff _ hr, unI_bit]
  exact exB_congr (fun i _ => by rw [hbI_iff _ hr])
def bc (s : Nat) : Nat := cB (hbI (nI s)) 24
def fewB (s : Nat) : Option Nat → Bool
  | none => true
  | some b => decide (bc s < bc b)
def eO : Option Nat → Int32
  | none => -1
  | some b => nI b
def okO (a : Option Nat) : Prop := ∀ b, a = some b → b < 256
theorem bc_le (s : Nat) : bc s ≤ 24 := cB_le _ _
theorem c_few (N : Nat) {s : Nat} (hs : s < 256) {a : Option Nat} (ha : okO a) : f_X5_isFewer N (nI s) (eO a) = some (b2 (fewB s a)) := by
  unfold f_X5_isFewer
  cases a with
  | none => rw [if_pos (show eO none = -1 from rfl)]; rfl
  | some b =>
    have hb := ha b rfl
    have l1 := bc_le s
    have l2 := bc_le b
    rw [if_neg (show ¬ eO (some b) = -1 by show ¬ nI b = -1; rw [k_m1 (by omega)]; exact fun h => h), c_bits8 N hs, show f_J6_bitCount_0f7a4 N (eO (some b)) = _ from c_bits8 N hb, k_bs, k_bs, cnt_B, cnt_B]
    show (if nI (bc b) ≤ nI (bc s) then some (0 : Int32) else some 1) = some (b2 (decide (bc s < bc b)))
    by_cases c : bc s < bc b
    · rw [if_neg (nI_ge c (by omega)), decide_eq_true c]; rfl
    · rw [if_pos (nI_le (by omega) (by omega)), decide_eq_false c]; rfl
theorem m_few (N : Nat) (hN : 200 < N) {s : Nat} (hs : s < 256) {a : Option Nat} (ha : okO a) : (if eO a < 0 then some (1 : Int32) else (Option.bind (f_X7_bits N (nI s)) (fun (r3 : Int32) => Option.bind (f_X7_bits N (eO a)) (fun (r4 : Int32) => if r4 ≤ r3 then (some (0 : Int32)) else (some (1 : Int32)))))) = some (b2 (fewB s a)) := by
  cases a with
  | none => rw [if_pos (show eO none < 0 by decide)]; rfl
  | some b =>
    have hb := ha b rfl
    have l1 := bc_le s
    have l2 := bc_le b
    rw [if_neg (show ¬ eO (some b) < 0 from nI_pos (show b < 2 ^ 31 by omega)), m_bits N hN, m_bits N hN, k_bs, k_bs, cnt_B, cnt_B]
    show (if nI (bc b) ≤ nI (bc s) then some (0 : Int32) else some 1) = some (b2 (decide (bc s < bc b)))
    by_cases c : bc s < bc b
    · rw [if_neg (nI_ge c (by omega)), decide_eq_true c]; rfl
    · rw [if_pos (nI_le (by omega) (by omega)), decide_eq_false c]; rfl
theorem p2_le {e : Nat} (h : e ≤ 8) : 2 ^ e ≤ 256 := Nat.pow_le_pow_right (by decide) h
-- ===== the fewest who climb all stairs =====
def covB (d : Nat → Nat → Nat) (s : Nat) : Bool := allB (fun r => exB (fun p => climD d p r && hbI (nI s) p) (d 9 0)) (d 2 0)
def covS (d : Nat → Nat → Nat) (s : Nat) (a : Option Nat) : Option Nat := bif fewB s a && covB d s then some s else a
theorem okO_cov (d : Nat → Nat → Nat) {s : Nat} (hs : s < 256) {a : Option Nat} (ha : okO a) : okO (covS d s a) := by
  unfold covS
  cases (fewB s a && covB d s) with
  | true => intro b hb; cases hb; exact hs
  | false => exact ha
theorem allS_bit : ∀ S, S ≤ 10 → ∀ i, i < 32 → ((1 : Int32) <<< (nI S &&& 31) - 1).toBitVec.getLsbD i = decide (i < S) := by decide +kernel
theorem c_union17 (N : Nat) (hN : 200 < N) {t : St_} {E : Nat} (hE : E ≤ 8) (e9 : t 9 0 = nI E) (s : Int32) (f : Nat → Int32) (hf : ∀ c, c < E → t 17 c = f c) : f_X5_union__17 N t s = some (unI f s E) := by
  obtain ⟨o, hQ, e⟩ := loopI (fun n i a => f_X5_union__17_L5 N t s n a (nI i)) E (fun i a => a = unI f s i) (fun o => o = unI f s E) (fun n i a hi ha => Or.inl ⟨unI f s (i + 1), rfl, by
    subst ha
    show f_X5_union__17_L5 N t s (n + 1) _ (nI i) = f_X5_union__17_L5 N t s n _ (nI (i + 1))
    rw [f_X5_union__17_L5, e9, if_neg (nI_ge hi (by omega)), x6_has N s (by omega), k_bs, ib, k_ok (show i < 8 by omega) (by omega), k_gd, k_cl (show i < 2147483648 by omega), hf i hi, k1_ad]
    simp only [unI]
    cases hbI s i <;> rfl⟩) (fun n a ha => ⟨a, ha, by
    show f_X5_union__17_L5 N t s (n + 1) a (nI E) = some a
    rw [f_X5_union__17_L5, e9, if_pos (Int32.le_refl _)]⟩) N 0 0 (Nat.zero_le _) (by omega) rfl
  unfold f_X5_union__17
  rw [show f_X5_union__17_L5 N t s N 0 0 = some o from e, hQ]
  rfl
theorem c_union18 (N : Nat) (hN : 200 < N) {t : St_} {E : Nat} (hE : E ≤ 8) (e9 : t 9 0 = nI E) (s : Int32) (f : Nat → Int32) (hf : ∀ c, c < E → t 18 c = f c) : f_X5_union__18 N t s = some (unI f s E) := by
  obtain ⟨o, hQ, e⟩ := loopI (fun n i a => f_X5_union__18_L5 N t s n a (nI i)) E (fun i a => a = unI f s i) (fun o => o = unI f s E) (fun n i a hi ha => Or.inl ⟨unI f s (i + 1), rfl, by
    subst ha
    show f_X5_union__18_L5 N t s (n + 1) _ (nI i) = f_X5_union__18_L5 N t s n _ (nI (i + 1))
    rw [f_X5_union__18_L5, e9, if_neg (nI_ge hi (by omega)), x6_has N s (by omega), k_bs, ib, k_ok (show i < 8 by omega) (by omega), k_gd, k_cl (show i < 2147483648 by omega), hf i hi, k1_ad]
    simp only [unI]
    cases hbI s i <;> rfl⟩) (fun n a ha => ⟨a, ha, by
    show f_X5_union__18_L5 N t s (n + 1) a (nI E) = some a
    rw [f_X5_union__18_L5, e9, if_pos (Int32.le_refl _)]⟩) N 0 0 (Nat.zero_le _) (by omega) rfl
  unfold f_X5_union__18
  rw [show f_X5_union__18_L5 N t s N 0 0 = some o from e, hQ]
  rfl
theorem cov_eq {d : Nat → Nat → Nat} (h0 : TD d) (s : Nat) : (unI (fun c => setN (fun r => climD d c r) (d 2 0)) (nI s) (d 9 0) = (1 : Int32) <<< (nI (d 2 0) &&& 31) - 1) ↔ covB d s = true := by
  have hS := h0.1.2.1
  have hb : ∀ i, i < 32 → (unI (fun c => setN (fun r => climD d c r) (d 2 0)) (nI s) (d 9 0)).toBitVec.getLsbD i = (decide (i < d 2 0) && exB (fun p => climD d p i && hbI (nI s) p) (d 9 0)) := by
    intro i hi
    rw [unI_bit]
    rcases Nat.lt_or_ge i (d 2 0) with q | q
    · rw [decide_eq_true q, Bool.true_and]
      refine exB_congr (fun c hc => ?_)
      rw [← hbI_iff _ (by omega), hb_setN _ (by omega) (by omega), decide_eq_true q, Bool.true_and, Bool.and_comm]
    · rw [decide_eq_false (by omega), Bool.false_and]
      cases hx : exB (fun c => hbI (nI s) c && (setN (fun r => climD d c r) (d 2 0)).toBitVec.getLsbD i) (d 9 0) with
      | false => rfl
      | true =>
        obtain ⟨c, _, hc⟩ := exB_iff.mp hx
        rw [set_hi _ (by omega) q hi, Bool.and_false] at hc
        cases hc
  constructor
  · intro h
    refine allB_iff.mpr (fun r hr => ?_)
    have := hb r (by omega)
    rw [h, allS_bit (d 2 0) hS r (by omega), decide_eq_true hr, Bool.true_and] at this
    exact this.symm
  · intro h
    refine ext_I (fun i hi => ?_)
    rw [hb i hi, allS_bit (d 2 0) hS i hi]
    by_cases q : i < d 2 0
    · rw [decide_eq_true q, Bool.true_and]
      exact allB_iff.mp h i q
    · rw [decide_eq_false q, Bool.false_and]
theorem c_climL (N : Nat) (hN : 200 < N) {t : St_} {d : Nat → Nat → Nat} {w : Nat → Int32} (h0 : TD d) (h1 : CT t d w) : ∃ v, f_X5_fewestClimbers_L2 N N 0 t = some v ∧ (∀ k, k ≠ 17 → v k = t k) ∧ ∀ c, c < d 9 0 → v 17 c = setN (fun r => climD d c r) (d 2 0) := by
  have hE := h0.1.2.2.1
  obtain ⟨o, ⟨o1, o2⟩, e⟩ := loopI (fun n i a => f_X5_fewestClimbers_L2 N n (nI i) a) (d 9 0) (fun i a => (∀ k, k ≠ 17 → a k = t k) ∧ ∀ c, c < i → a 17 c = setN (fun r => climD d c r) (d 2 0)) (fun a => (∀ k, k ≠ 17 → a k = t k) ∧ ∀ c, c < d 9 0 → a 17 c = setN (fun r => climD d c r) (d 2 0)) (fun n i a hi ha => Or.inl ⟨up1 a 17 i (setN (fun r => climD d i r) (d 2 0)), ⟨fun k hk => by rw [u_nk _ _ _ hk]; exact ha.1 k hk, fun c hc => by
      by_cases q : c = i
      · rw [q, u_eq]
      · rw [u_ne _ _ _ _ q]; exact ha.2 c (by omega)⟩, by
    have hC : CT a d w := CT_congr (fun k hk => ha.1 k (by omega)) h1
    have hq := h0.2.2.2 i hi
    have e9 : a 9 0 = nI (d 9 0) := hC.2.1
    have e11 : a 11 i = nI (d 11 i) := (hC.2.2.1 i hi).2.1
    have e12 : a 12 i = nI (d 12 i) := (hC.2.2.1 i hi).2.2
    show f_X5_fewestClimbers_L2 N (n + 1) (nI i) a = f_X5_fewestClimbers_L2 N n (nI (i + 1)) _
    rw [f_X5_fewestClimbers_L2, e9, if_neg (nI_ge hi (by omega)), k_ok (show i < 8 by omega) (by omega), k_cl (show i < 2147483648 by omega), e11, e12, c_up N hN h0 hC (by omega) (by omega), k1_ad]
    rfl⟩) (fun n a ha => ⟨a, ha, by
    have e9 : a 9 0 = nI (d 9 0) := by rw [ha.1 9 (by decide)]; exact h1.2.1
    show f_X5_fewestClimbers_L2 N (n + 1) (nI (d 9 0)) a = some a
    rw [f_X5_fewestClimbers_L2, e9, if_pos (Int32.le_refl _)]⟩) N 0 t (Nat.zero_le _) (by omega) ⟨fun k _ => rfl, fun c hc => by omega⟩
  exact ⟨o, e, o1, o2⟩
theorem c_cover (N : Nat) (hN : 200000 < N) {t : St_} {d : Nat → Nat → Nat} {w : Nat → Int32} (h0 : TD d) (h1 : CT t d w) (h17 : ∀ c, c < d 9 0 → t 17 c = setN (fun r => climD d c r) (d 2 0)) : f_X5_fewestClimbers_L51 N t N (eO none) (nI 0) = some (eO (foldA (covS d) (2 ^ d 9 0) none)) := by
  have hE := h0.1.2.2.1
  have hS := h0.1.2.1
  have e9 : t 9 0 = nI (d 9 0) := h1.2.1
  have e3 : t 3 0 = nI (d 2 0) := h1.1.2.1
  obtain ⟨P1, P2⟩ := p2_I (d 9 0) hE
  have P3 := p2_le hE
  refine (loopA (fun n i a => f_X5_fewestClimbers_L51 N t n (eO a) (nI i)) (2 ^ d 9 0) (covS d) eO (fun _ a => okO a) (fun n i a hi ha => ⟨okO_cov d (by omega) ha, ?_⟩) (fun n a ha => ?_) N none (by omega) (fun b hb => by cases hb)).1
  · show f_X5_fewestClimbers_L51 N t (n + 1) (eO a) (nI i) = f_X5_fewestClimbers_L51 N t n (eO (covS d i a)) (nI (i + 1))
    rw [f_X5_fewestClimbers_L51, e9, P1, if_neg (nI_ge hi (by omega)), c_few N (by omega) ha, k_bs, ib, c_union17 N (by omega) hE e9 (nI i) _ h17, k_bs]
    unfold f_X5_allStairs
    rw [e3, k_bs, k1_ad]
    unfold covS
    cases fewB i a with
    | false => rfl
    | true =>
      by_cases c : covB d i = true
      · rw [if_pos ((cov_eq h0 i).mpr c), c]; rfl
      · rw [if_neg (fun q => c ((cov_eq h0 i).mp q)), Bool.eq_false_iff.mpr c]; rfl
  · show f_X5_fewestClimbers_L51 N t (n + 1) (eO a) (nI (2 ^ d 9 0)) = some (eO a)
    rw [f_X5_fewestClimbers_L51, e9, P1, if_pos (Int32.le_refl _)]
theorem m_climb0 {d : Nat → Nat → Nat} (h0 : TD d) (r s : Nat) : (setN (fun p => climD d p r) (d 9 0) &&& nI s = 0) ↔ exB (fun p => climD d p r && hbI (nI s) p) (d 9 0) = false := by
  have hE := h0.1.2.2.1
  constructor
  · intro h
    refine Bool.eq_false_iff.mpr (fun q => ?_)
    obtain ⟨p, hp, hq⟩ := exB_iff.mp q
    have : hbI (setN (fun p => climD d p r) (d 9 0) &&& nI s) p = true := by
      rw [hb_and _ _ (by omega), hb_setN _ (by omega) (by omega), decide_eq_true hp, Bool.true_and]
      exact hq
    rw [h, hb_0 (by omega)] at this
    cases this
  · intro h
    refine ext_I (fun i hi => ?_)
    rw [Int32.toBitVec_and, BitVec.getLsbD_and]
    show _ = (0#32).getLsbD i
    rw [BitVec.getLsbD_zero]
    rcases Nat.lt_or_ge i (d 9 0) with q | q
    · rw [← hbI_iff _ (by omega), ← hbI_iff _ (by omega), hb_setN _ (by omega) (by omega), decide_eq_true q, Bool.true_and]
      refine Bool.eq_false_iff.mpr (fun z => ?_)
      have := (exB_iff (f := fun p => climD d p r && hbI (nI s) p)).mpr ⟨i, q, z⟩
      rw [h] at this
      cases this
    · rw [set_hi _ (by omega) q hi, Bool.false_and]
theorem m_all (N : Nat) (hN : 200 < N) {g : St_} {d : Nat → Nat → Nat} {w : Nat → Int32} (h0 : TD d) (h2 : MT g d w) (s : Nat) (b : Bool) : f_X7_cover_L38 N g (nI s) N (b2 b) 0 = some (b2 (b && covB d s)) := by
  have hS := h0.1.2.1
  have e2 : g 2 0 = nI (d 2 0) := h2.2.1
  unfold covB
  generalize hf : (fun r => exB (fun p => climD d p r && hbI (nI s) p) (d 9 0)) = f
  have hfr : ∀ r, f r = exB (fun p => climD d p r && hbI (nI s) p) (d 9 0) := fun r => by rw [← hf]
  obtain ⟨o, hQ, e⟩ := loopI (fun n i a => f_X7_cover_L38 N g (nI s) n a (nI i)) (d 2 0) (fun i a => a = b2 (b && allB f i)) (fun o => o = b2 (b && allB f (d 2 0))) (fun n i a hi ha => by
    show (∃ a', _ ∧ f_X7_cover_L38 N g (nI s) (n + 1) a (nI i) = f_X7_cover_L38 N g (nI s) n a' (nI (i + 1))) ∨ ∃ o, _ ∧ f_X7_cover_L38 N g (nI s) (n + 1) a (nI i) = some o
    rw [f_X7_cover_L38, e2, if_neg (nI_ge hi (by omega)), m_climbers N hN h0 h2 hi, k_bs, k1_ad, ha, ib]
    cases q : (b && allB f i) with
    | false =>
      right
      refine ⟨b2 false, ?_, rfl⟩
      have : (b && allB f (d 2 0)) = false := by
        cases b with
        | false => rfl
        | true =>
          rw [Bool.true_and] at q ⊢
          refine Bool.eq_false_iff.mpr (fun z => ?_)
          have : allB f i = true := allB_iff.mpr (fun j hj => allB_iff.mp z j (by omega))
          rw [q] at this
          cases this
      rw [this]
    | true =>
      left
      rw [cond_true]
      refine ⟨b2 (f i), ?_, ?_⟩
      · rw [Bool.and_eq_true] at q
        show b2 (f i) = b2 (b && (allB f i && f i))
        rw [q.1, q.2]
        rfl
      · cases z : f i with
        | false => rw [if_pos ((m_climb0 h0 i s).mpr (by rw [← hfr]; exact z)), k_bs]; rfl
        | true => rw [if_neg (fun h => by have := (m_climb0 h0 i s).mp h; rw [← hfr, z] at this; cases this), k_bs]; rfl) (fun n a ha => ⟨a, ha, by
    show f_X7_cover_L38 N g (nI s) (n + 1) a (nI (d 2 0)) = some a
    rw [f_X7_cover_L38, e2, if_pos (Int32.le_refl _)]⟩) N 0 (b2 b) (Nat.zero_le _) (by omega) (by show b2 b = b2 (b && true); rw [Bool.and_true])
  rw [show f_X7_cover_L38 N g (nI s) N (b2 b) 0 = some o from e, hQ]
theorem m_cover (N : Nat) (hN : 200000 < N) {g : St_} {d : Nat → Nat → Nat} {w : Nat → Int32} (h0 : TD d) (h2 : MT g d w) : f_X7_cover_L4 N g N (eO none) (nI 0) = some (eO (foldA (covS d) (2 ^ d 9 0) none)) := by
  have hE := h0.1.2.2.1
  have e9 : g 9 0 = nI (d 9 0) := h2.2.2.2.1
  obtain ⟨P1, P2⟩ := p2_I (d 9 0) hE
  have P3 := p2_le hE
  refine (loopA (fun n i a => f_X7_cover_L4 N g n (eO a) (nI i)) (2 ^ d 9 0) (covS d) eO (fun _ a => okO a) (fun n i a hi ha => ⟨okO_cov d (by omega) ha, ?_⟩) (fun n a ha => ?_) N none (by omega) (fun b hb => by cases hb)).1
  · show f_X7_cover_L4 N g (n + 1) (eO a) (nI i) = f_X7_cover_L4 N g n (eO (covS d i a)) (nI (i + 1))
    rw [f_X7_cover_L4, e9, P1, if_neg (nI_ge hi (by omega)), m_few N (by omega) (by omega) ha, k_bs, m_all N (by omega) h0 h2 i (fewB i a), k_bs, ib, k1_ad]
    unfold covS
    cases (fewB i a && covB d i) <;> rfl
  · show f_X7_cover_L4 N g (n + 1) (eO a) (nI (2 ^ d 9 0)) = some (eO a)
    rw [f_X7_cover_L4, e9, P1, if_pos (Int32.le_refl _)]
theorem pa_cover (N : Nat) (hN : 200000 < N) : PA_cover N Rel := by
  intro g1 g2 hR
  obtain ⟨d, w, h0, h1, h2, h3, h4, h5, h6, h7⟩ := hR
  obtain ⟨v, c1, c2, c3⟩ := c_climL N (by omega) h0 h1
  have hC : CT v d w := CT_congr (fun k hk => c2 k (by omega)) h1
  refine ⟨eO (foldA (covS d) (2 ^ d 9 0) none), pu_ 26 19 g1 v, ?_, ?_, Rel_of h3 h4 h5 h6 h7 (fun k hk => pu_out g1 v hk) (MF.rf g2) (SP.rf d) h0 hC h2⟩
  · unfold f_X6_cover f_X5_fewestClimbers
    rw [c1, k_bs, show f_X5_fewestClimbers_L51 N v N (-1) 0 = _ from c_cover N hN h0 hC c3, k_bs, k_bs]
  · unfold f_X7_cover
    rw [show f_X7_cover_L4 N g2 N (-1) 0 = _ from m_cover N hN h0 h2, k_bs]
