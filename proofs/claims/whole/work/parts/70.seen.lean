-- ===== counting up to 24 bits =====
theorem n_and (a b : Nat) : nI a &&& nI b = nI (a &&& b) := by
  apply Int32.toBitVec_inj.1
  show BitVec.ofNat 32 a &&& BitVec.ofNat 32 b = BitVec.ofNat 32 (a &&& b)
  apply BitVec.eq_of_getLsbD_eq
  intro i hi
  simp [hi]
def cN (x : Nat) : Nat → Nat
  | 0 => 0
  | n + 1 => cN x n + x / 2 ^ n % 2
theorem sm_31 : ∀ k, k < 31 → ((nI k &&& 31).toBitVec.smod 32).toNat = k := by decide +kernel
theorem cnt_N {x : Nat} (hx : x < 2147483648) {n : Nat} (hn : n ≤ 31) : cntI (nI x) n = nI (cN x n) := by
  induction n with
  | zero => rfl
  | succ n ih =>
    have hl : x / 2 ^ n < 4294967296 := Nat.lt_of_le_of_lt (Nat.div_le_self _ _) (by omega)
    show cntI (nI x) n + ((nI x >>> (nI n &&& 31)) &&& (1 : Int32)) = nI (cN x n + x / 2 ^ n % 2)
    rw [ih (by omega), pk_shrN (by omega) _ n (sm_31 n (by omega)), pk_andN (m := 1) hl 1 (by decide), nI_add]
theorem and8 (y M : Nat) : y &&& M = ((y % 256) &&& (M % 256)) + 256 * ((y / 256) &&& (M / 256)) := by
  have h1 : (y &&& M) % 256 = (y % 256) &&& (M % 256) := Nat.and_mod_two_pow (n := 8)
  have h2 : (y &&& M) / 256 = (y / 256) &&& (M / 256) := Nat.and_div_two_pow (n := 8)
  rw [← h1, ← h2]
  omega
def uB (a : Nat) : Nat := a - ((a / 2) &&& 85)
def vB (a : Nat) : Nat := (a &&& 51) + ((a / 4) &&& 51)
def wB (a : Nat) : Nat := (a + a / 16) &&& 15
theorem t1 : ∀ a, a < 256 → ∀ t, t < 2 → (a / 2 + 128 * t) &&& 85 = (a / 2) &&& 85 := by decide +kernel
theorem t1b : ∀ a, a < 256 → ((a / 2) &&& 85) ≤ a ∧ ((a / 2) &&& 21845) = ((a / 2) &&& 85) := by decide +kernel
theorem t2 : ∀ a, a < 256 → ∀ t, t < 4 → (a / 4 + 64 * t) &&& 51 = (a / 4) &&& 51 := by decide +kernel
theorem t2b : ∀ a, a < 256 → ((a / 4) &&& 13107) = ((a / 4) &&& 51) ∧ (a &&& 13107) = (a &&& 51) ∧ (a &&& 51) ≤ 51 ∧ ((a / 4) &&& 51) ≤ 51 := by decide +kernel
theorem t3 : ∀ a, a < 256 → ∀ t, t < 5 → (vB (uB a) + vB (uB a) / 16 + 16 * t) &&& 15 = wB (vB (uB a)) := by decide +kernel
theorem t3b : ∀ a, a < 256 → uB a < 256 ∧ vB (uB a) ≤ 68 ∧ vB (uB a) % 16 < 5 ∧ ((vB (uB a) + vB (uB a) / 16) &&& 3855) = wB (vB (uB a)) ∧ wB (vB (uB a)) ≤ 8 ∧ wB (vB (uB a)) = cN a 8 := by decide +kernel
theorem st1 {a b c : Nat} (ha : a < 256) (hb : b < 256) (hc : c < 256) : ((a + 256 * (b + 256 * c)) / 2) &&& 1431655765 = ((a / 2) &&& 85) + 256 * (((b / 2) &&& 85) + 256 * ((c / 2) &&& 85)) := by
  rw [and8, show (a + 256 * (b + 256 * c)) / 2 % 256 = a / 2 + 128 * (b % 2) by omega, show (a + 256 * (b + 256 * c)) / 2 / 256 = (b + 256 * c) / 2 by omega, show 1431655765 % 256 = 85 from rfl, show 1431655765 / 256 = 5592405 from rfl, t1 a ha _ (by omega), and8 ((b + 256 * c) / 2), show (b + 256 * c) / 2 % 256 = b / 2 + 128 * (c % 2) by omega, show (b + 256 * c) / 2 / 256 = c / 2 by omega, show 5592405 % 256 = 85 from rfl, show 5592405 / 256 = 21845 from rfl, t1 b hb _ (by omega), (t1b c hc).2]
theorem st2a {a b c : Nat} (ha : a < 256) (hb : b < 256) (hc : c < 256) : (a + 256 * (b + 256 * c)) &&& 858993459 = (a &&& 51) + 256 * ((b &&& 51) + 256 * (c &&& 51)) := by
  rw [and8, show (a + 256 * (b + 256 * c)) % 256 = a by omega, show (a + 256 * (b + 256 * c)) / 256 = b + 256 * c by omega, show 858993459 % 256 = 51 from rfl, show 858993459 / 256 = 3355443 from rfl, and8 (b + 256 * c), show (b + 256 * c) % 256 = b by omega, show (b + 256 * c) / 256 = c by omega, show 3355443 % 256 = 51 from rfl, show 3355443 / 256 = 13107 from rfl, (t2b c hc).2.1]
theorem st2b {a b c : Nat} (ha : a < 256) (hb : b < 256) (hc : c < 256) : ((a + 256 * (b + 256 * c)) / 4) &&& 858993459 = ((a / 4) &&& 51) + 256 * (((b / 4) &&& 51) + 256 * ((c / 4) &&& 51)) := by
  rw [and8, show (a + 256 * (b + 256 * c)) / 4 % 256 = a / 4 + 64 * (b % 4) by omega, show (a + 256 * (b + 256 * c)) / 4 / 256 = (b + 256 * c) / 4 by omega, show 858993459 % 256 = 51 from rfl, show 858993459 / 256 = 3355443 from rfl, t2 a ha _ (by omega), and8 ((b + 256 * c) / 4), show (b + 256 * c) / 4 % 256 = b / 4 + 64 * (c % 4) by omega, show (b + 256 * c) / 4 / 256 = c / 4 by omega, show 3355443 % 256 = 51 from rfl, show 3355443 / 256 = 13107 from rfl, t2 b hb _ (by omega), (t2b c hc).1]
theorem cN_8 {a : Nat} (h : Nat) (ha : a < 256) : cN (a + 256 * h) 8 = cN a 8 := by
  simp only [cN]
  omega
theorem cN_s {a : Nat} (h : Nat) (ha : a < 256) (n : Nat) : cN (a + 256 * h) (8 + n) = cN a 8 + cN h n := by
  induction n with
  | zero => exact cN_8 h ha
  | succ n ih =>
    show cN (a + 256 * h) (8 + n) + (a + 256 * h) / 2 ^ (8 + n) % 2 = cN a 8 + (cN h n + h / 2 ^ n % 2)
    rw [ih, Nat.pow_add, ← Nat.div_div_eq_div_mul, show (a + 256 * h) / 2 ^ 8 = h by omega]
    omega
theorem d3 {A H : Nat} (hA : A ≤ 68) (hH : H % 16 < 5) : (A + 256 * H + (A + 256 * H) / 2 ^ 4) / 256 = H + H / 16 := by
  have e1 : (A + 256 * H) / 2 ^ 4 = A / 16 + 16 * H := by omega
  rw [e1]
  obtain ⟨q, t, hq, ht⟩ : ∃ q t, H = 16 * q + t ∧ t < 5 := ⟨H / 16, H % 16, by omega, hH⟩
  subst hq
  omega
theorem c_bits24 (N : Nat) {x : Nat} (hx : x < 16777216) : f_J6_bitCount_0f7a4 N (nI x) = some (cntI (nI x) 24) := by
  obtain ⟨a, b, c, ha, hb, hc, e⟩ : ∃ a b c, a < 256 ∧ b < 256 ∧ c < 256 ∧ x = a + 256 * (b + 256 * c) := ⟨x % 256, x / 256 % 256, x / 65536, by omega, by omega, by omega, by omega⟩
  obtain ⟨a1, a2, a3, a4, a5, a6⟩ := t3b a ha
  obtain ⟨b1, b2', b3, b4, b5, b6⟩ := t3b b hb
  obtain ⟨c1, c2, c3, c4, c5, c6⟩ := t3b c hc
  have s1 : nI x - (((nI x).toUInt32 >>> ((1 : Int32).toUInt32 &&& Int32.toUInt32 31)).toInt32 &&& (1431655765 : Int32)) = nI (uB a + 256 * (uB b + 256 * uB c)) := by
    rw [pk_ushrN (by omega) 1 1 (by decide), show (1431655765 : Int32) = nI 1431655765 from rfl, n_and, show x / 2 ^ 1 = (a + 256 * (b + 256 * c)) / 2 by rw [e], st1 ha hb hc, e]
    have q1 := (t1b a ha).1
    have q2 := (t1b b hb).1
    have q3 := (t1b c hc).1
    rw [pk_sub (by omega)]
    unfold uB
    exact congrArg nI (by omega)
  unfold f_J6_bitCount_0f7a4
  rw [s1]
  have s2 : (nI (uB a + 256 * (uB b + 256 * uB c)) &&& (858993459 : Int32)) + (((nI (uB a + 256 * (uB b + 256 * uB c))).toUInt32 >>> ((2 : Int32).toUInt32 &&& Int32.toUInt32 31)).toInt32 &&& (858993459 : Int32)) = nI (vB (uB a) + 256 * (vB (uB b) + 256 * vB (uB c))) := by
    rw [pk_ushrN (by omega) 2 2 (by decide), show (858993459 : Int32) = nI 858993459 from rfl, n_and, n_and, st2a a1 b1 c1, show (uB a + 256 * (uB b + 256 * uB c)) / 2 ^ 2 = (uB a + 256 * (uB b + 256 * uB c)) / 4 from rfl, st2b a1 b1 c1, nI_add]
    unfold vB
    exact congrArg nI (by omega)
  rw [s2]
  have s3 : (nI (vB (uB a) + 256 * (vB (uB b) + 256 * vB (uB c))) + ((nI (vB (uB a) + 256 * (vB (uB b) + 256 * vB (uB c)))).toUInt32 >>> ((4 : Int32).toUInt32 &&& Int32.toUInt32 31)).toInt32) &&& (252645135 : Int32) = nI (cN a 8 + 256 * (cN b 8 + 256 * cN c 8)) := by
    have h3a := t3 a ha (vB (uB b) % 16) b3
    have h3b := t3 b hb (vB (uB c) % 16) c3
    rw [← a6, ← b6, ← c6]
    generalize vB (uB a) = A at *
    generalize vB (uB b) = B at *
    generalize vB (uB c) = C at *
    rw [pk_ushrN (by omega) 4 4 (by decide), show (252645135 : Int32) = nI 252645135 from rfl, nI_add, n_and, and8, show (A + 256 * (B + 256 * C) + (A + 256 * (B + 256 * C)) / 2 ^ 4) % 256 = A + A / 16 + 16 * (B % 16) by omega, d3 a2 (show (B + 256 * C) % 16 < 5 by omega), show 252645135 % 256 = 15 from rfl, show 252645135 / 256 = 986895 from rfl, h3a, and8 (B + 256 * C + (B + 256 * C) / 16), show (B + 256 * C + (B + 256 * C) / 16) % 256 = B + B / 16 + 16 * (C % 16) by omega, show (B + 256 * C + (B + 256 * C) / 16) / 256 = C + C / 16 by omega, show 986895 % 256 = 15 from rfl, show 986895 / 256 = 3855 from rfl, h3b, c4]
  rw [s3]
  rw [a6] at a5
  rw [b6] at b5
  rw [c6] at c5
  have hc24 : cN x 24 = cN a 8 + (cN b 8 + cN c 8) := by
    rw [e, show (24 : Nat) = 8 + 16 from rfl, cN_s _ ha, show (16 : Nat) = 8 + 8 from rfl, cN_s _ hb]
  rw [cnt_N (by omega) (by decide), hc24]
  generalize cN a 8 = A at *
  generalize cN b 8 = B at *
  generalize cN c 8 = C at *
  rw [pk_ushrN (by omega) 8 8 (by decide), nI_add, show (A + 256 * (B + 256 * C)) / 2 ^ 8 = B + 256 * C by omega, pk_ushrN (by omega) 16 16 (by decide), nI_add, show (A + 256 * (B + 256 * C) + (B + 256 * C)) / 2 ^ 16 = C by omega, pk_andN (m := 63) (by omega) 6 (by decide)]
  exact congrArg (fun z => some (nI z)) (by omega)
theorem hb_cnt (x : Int32) (k : Nat) : ((x >>> (nI k &&& 31)) &&& (1 : Int32)) = nI (if hbI x k = true then 1 else 0) := by
  unfold hbI
  obtain ⟨j, hj, e⟩ := pk_andE (x >>> (nI k &&& 31)) (m := 1) 1 (by decide)
  rw [e]
  rcases (show j = 0 ∨ j = 1 by omega) with rfl | rfl
  · rfl
  · rfl
theorem cnt_B (x : Int32) (n : Nat) : cntI x n = nI (cB (hbI x) n) := by
  induction n with
  | zero => rfl
  | succ n ih =>
    show cntI x n + ((x >>> (nI n &&& 31)) &&& (1 : Int32)) = nI (cB (hbI x) n + (if hbI x n = true then 1 else 0))
    rw [ih, hb_cnt, nI_add]
theorem c_set24 (N : Nat) (f : Nat → Bool) : f_J6_bitCount_0f7a4 N (setN f 24) = some (nI (cB (hbI (setN f 24)) 24)) := by
  obtain ⟨k, hk, e⟩ := set_sm f (n := 24) (by decide)
  rw [← cnt_B, e]
  exact c_bits24 N (by omega)
theorem cB_congr {f k : Nat → Bool} {n : Nat} (h : ∀ i, i < n → f i = k i) : cB f n = cB k n := by
  induction n with
  | zero => rfl
  | succ n ih =>
    unfold cB
    rw [ih (fun i hi => h i (by omega)), h n (by omega)]
theorem c_set24a (N : Nat) (f k : Nat → Bool) : f_J6_bitCount_0f7a4 N (setN f 24 &&& setN k 24) = some (nI (cB (fun i => f i && k i) 24)) := by
  obtain ⟨j, hj, e⟩ := small_of (x := setN f 24 &&& setN k 24) 24 (by decide) (fun i h1 h2 => by
    rw [Int32.toBitVec_and, BitVec.getLsbD_and, set_hi f (by decide) h1 h2]
    rfl)
  have : cntI (setN f 24 &&& setN k 24) 24 = nI (cB (fun i => f i && k i) 24) := by
    rw [cnt_B]
    refine congrArg nI (cB_congr (fun i hi => ?_))
    rw [hb_and _ _ (by omega), hb_setN _ (by decide) (by omega), hb_setN _ (by decide) (by omega)]
    simp [hi]
  rw [← this, e]
  exact c_bits24 N (by omega)
theorem cB_setN (f : Nat → Bool) : cB (hbI (setN f 24)) 24 = cB f 24 := cB_congr (fun i hi => by
  rw [hb_setN _ (by decide) (by omega)]
  simp [hi])
-- ===== what was seen =====
theorem c_ud (N : Nat) (hN : 200 < N) {t : St_} {d : Nat → Nat → Nat} {w : Nat → Int32} (h0 : TD d) (h1 : CT t d w) {x y : Nat} (hx : x < 1000) (hy : y < 1000) : ∃ D, f_X5_upStairs N t (nI x) (nI y) = some (setN (fun r => fitD d x r || fitD d y r) (d 2 0)) ∧ f_X5_downStairs N t (setN (fun r => fitD d x r || fitD d y r) (d 2 0)) = some D ∧ (∀ r, r < d 2 0 → hbI (setN (fun r => fitD d x r || fitD d y r) (d 2 0)) r = (fitD d x r || fitD d y r) ∧ hbI D r = ((fitD d x r || fitD d y r) || decide (d 13 0 = 1))) ∧ ∀ p, p < d 1 0 → f_X5_spread N t (nI p) (setN (fun r => fitD d x r || fitD d y r) (d 2 0)) D = some (reachD d p x y) := by
  have hS := h0.1.2.1
  obtain ⟨D, eD, hD⟩ := c_down N h0 h1 (setN (fun r => fitD d x r || fitD d y r) (d 2 0))
  have hu : ∀ r, r < d 2 0 → hbI (setN (fun r => fitD d x r || fitD d y r) (d 2 0)) r = (fitD d x r || fitD d y r) := fun r hr => by
    rw [hb_setN _ (by omega) (by omega)]; simp [hr]
  have hb : ∀ r, r < d 2 0 → hbI (setN (fun r => fitD d x r || fitD d y r) (d 2 0)) r = (fitD d x r || fitD d y r) ∧ hbI D r = ((fitD d x r || fitD d y r) || decide (d 13 0 = 1)) := fun r hr => ⟨hu r hr, by rw [hD r hr, hu r hr]⟩
  refine ⟨D, c_up N hN h0 h1 hx hy, eD, hb, fun p hp => ?_⟩
  rw [c_spread N hN h0 h1 _ _ hp]
  unfold reachD
  rw [passD_congr hb]
def seenB (g : St_) (d : Nat → Nat → Nat) (s i : Nat) : Bool := decide (b2 (hbI (reachD d (g 36 i).toNatClampNeg s 0) (g 37 i).toNatClampNeg) = g 38 i)
def fitsD (g : St_) (d : Nat → Nat → Nat) (n : Nat) : Int32 := setN (fun k => allB (seenB g d (k + 1)) n) 24
theorem ca_5 (a b : St_) : sh_ 5 (ca_ 5 a b) = b := by
  funext k
  unfold sh_ ca_
  have : Nat.ble 5 (5 + k) = true := Nat.ble_eq_true_of_le (by omega)
  rw [this, cond_true, Nat.add_sub_cancel_left]
theorem c_fits (N : Nat) (hN : 200 < N) {g1 g2 : St_} {d : Nat → Nat → Nat} {w : Nat → Int32} (h0 : TD d) (h1 : CT (sh_ 26 g1) d w) {n : Nat} (hn : n ≤ 20) (a1 : g1 66 0 = nI n) (a3 : ∀ i, i < n → ∃ a b c, a < d 1 0 ∧ b < d 1 0 ∧ c ≤ 1 ∧ g1 67 i = nI a ∧ g2 36 i = nI a ∧ g1 68 i = nI b ∧ g2 37 i = nI b ∧ g1 69 i = nI c ∧ g2 38 i = nI c) : f_X2_stridesAsSeen N (ca_ 5 (sh_ 65 g1) (sh_ 26 g1)) = some (fitsD g2 d n) := by
  have hP := h0.1.1
  have one : ∀ s, s < 1000 → f_X2_isAsSeen N (ca_ 5 (sh_ 65 g1) (sh_ 26 g1)) (nI s) = some (b2 (allB (seenB g2 d s) n)) := by
    intro s hs
    unfold f_X2_isAsSeen
    obtain ⟨D, u1, u2, u3, u4⟩ := c_ud N hN h0 h1 (x := s) (y := 0) hs (by omega)
    rw [ca_5, show f_X5_upStairs N (sh_ 26 g1) (nI s) 0 = _ from u1, k_bs, u2, k_bs]
    obtain ⟨o, hQ, e⟩ := loopI (fun m i (_ : Unit) => f_X2_isAsSeen_L17 N (ca_ 5 (sh_ 65 g1) (sh_ 26 g1)) (setN (fun r => fitD d s r || fitD d 0 r) (d 2 0)) D m (nI i)) n (fun i _ => allB (seenB g2 d s) i = true) (fun o => o = if allB (seenB g2 d s) n = true then Sum.inr () else Sum.inl 0) (fun m i u hi ha => by
      show (∃ a', _ ∧ f_X2_isAsSeen_L17 N (ca_ 5 (sh_ 65 g1) (sh_ 26 g1)) (setN (fun r => fitD d s r || fitD d 0 r) (d 2 0)) D (m + 1) (nI i) = f_X2_isAsSeen_L17 N (ca_ 5 (sh_ 65 g1) (sh_ 26 g1)) (setN (fun r => fitD d s r || fitD d 0 r) (d 2 0)) D m (nI (i + 1))) ∨ ∃ o, _ ∧ f_X2_isAsSeen_L17 N (ca_ 5 (sh_ 65 g1) (sh_ 26 g1)) (setN (fun r => fitD d s r || fitD d 0 r) (d 2 0)) D (m + 1) (nI i) = some o
      obtain ⟨a, b, c, q1, q2, q3, q4, q5, q6, q7, q8, q9⟩ := a3 i hi
      have e1 : ca_ 5 (sh_ 65 g1) (sh_ 26 g1) 1 0 = nI n := a1
      have e2 : ca_ 5 (sh_ 65 g1) (sh_ 26 g1) 2 i = nI a := q4
      have e3 : ca_ 5 (sh_ 65 g1) (sh_ 26 g1) 3 i = nI b := q6
      have e4 : ca_ 5 (sh_ 65 g1) (sh_ 26 g1) 4 i = nI c := q8
      have sb : seenB g2 d s i = decide (b2 (hbI (reachD d a s 0) b) = nI c) := by
        unfold seenB
        rw [q5, q7, q9, k_cl (by omega), k_cl (by omega)]
      rw [f_X2_isAsSeen_L17, e1, if_neg (nI_ge hi (by omega)), k_ok (show i < 20 by omega) (by omega), k_cl (show i < 2147483648 by omega), e2, e3, e4, ca_5, u4 a q1, k1_ad]
      simp only [k_gd, k_bs]
      rw [x6_has N _ (show b < 31 by omega)]
      simp only [k_bs]
      by_cases hb : b2 (hbI (reachD d a s 0) b) = nI c
      · left
        refine ⟨(), ?_, if_pos hb⟩
        simp only [allB, ha, sb, hb, decide_true, Bool.and_self]
      · right
        refine ⟨Sum.inl 0, ?_, if_neg hb⟩
        rw [allB_no hi (by rw [sb]; exact decide_eq_false hb)]
        rfl) (fun m u ha => ⟨Sum.inr (), by rw [ha]; rfl, by
      have e1 : ca_ 5 (sh_ 65 g1) (sh_ 26 g1) 1 0 = nI n := a1
      show f_X2_isAsSeen_L17 N (ca_ 5 (sh_ 65 g1) (sh_ 26 g1)) (setN (fun r => fitD d s r || fitD d 0 r) (d 2 0)) D (m + 1) (nI n) = _
      rw [f_X2_isAsSeen_L17, e1, if_pos (Int32.le_refl _)]⟩) N 0 () (Nat.zero_le _) (by omega) rfl
    rw [show f_X2_isAsSeen_L17 N (ca_ 5 (sh_ 65 g1) (sh_ 26 g1)) (setN (fun r => fitD d s r || fitD d 0 r) (d 2 0)) D N 0 = some o from e, hQ, k_bs]
    by_cases q : allB (seenB g2 d s) n = true
    · rw [if_pos q, q]; rfl
    · rw [if_neg q, Bool.eq_false_iff.mpr q]; rfl
  unfold f_X2_stridesAsSeen fitsD
  have L : f_X2_stridesAsSeen_L4 N (ca_ 5 (sh_ 65 g1) (sh_ 26 g1)) N 0 1 = some (setN (fun k => allB (seenB g2 d (k + 1)) n) 24) := by
    refine loopS (fun m i a => f_X2_stridesAsSeen_L4 N (ca_ 5 (sh_ 65 g1) (sh_ 26 g1)) m a (nI (i + 1))) 24 _ (fun m i a hi => ?_) (fun m a => ?_) (by omega)
    · show f_X2_stridesAsSeen_L4 N (ca_ 5 (sh_ 65 g1) (sh_ 26 g1)) (m + 1) a (nI (i + 1)) = f_X2_stridesAsSeen_L4 N (ca_ 5 (sh_ 65 g1) (sh_ 26 g1)) m _ (nI (i + 1 + 1))
      rw [f_X2_stridesAsSeen_L4, if_neg (show ¬ (24 : Int32) < nI (i + 1) by rw [k24_lt (by omega)]; omega), one (i + 1) (by omega), k_bs, ib, k1_ad, k1_sb (by omega), Nat.add_sub_cancel]
      cases allB (seenB g2 d (i + 1)) n <;> rfl
    · show f_X2_stridesAsSeen_L4 N (ca_ 5 (sh_ 65 g1) (sh_ 26 g1)) (m + 1) a (nI (24 + 1)) = some a
      rw [f_X2_stridesAsSeen_L4, if_pos (show (24 : Int32) < nI (24 + 1) by decide)]
  rw [L]
  rfl
theorem m_fits (N : Nat) (hN : 200 < N) {g1 g2 : St_} {d : Nat → Nat → Nat} {w : Nat → Int32} (h0 : TD d) (h2 : MT g2 d w) {n : Nat} (hn : n ≤ 20) (a2 : g2 35 0 = nI n) (a3 : ∀ i, i < n → ∃ a b c, a < d 1 0 ∧ b < d 1 0 ∧ c ≤ 1 ∧ g1 67 i = nI a ∧ g2 36 i = nI a ∧ g1 68 i = nI b ∧ g2 37 i = nI b ∧ g1 69 i = nI c ∧ g2 38 i = nI c) : f_X7_fits N g2 = some (fitsD g2 d n) := by
  have hP := h0.1.1
  have one : ∀ s, s < 1000 → f_X7_fits_L15 N g2 (nI s) N 1 0 = some (b2 (allB (seenB g2 d s) n)) := by
    intro s hs
    obtain ⟨o, hQ, e⟩ := loopI (fun m i a => f_X7_fits_L15 N g2 (nI s) m a (nI i)) n (fun i a => a = b2 (allB (seenB g2 d s) i)) (fun o => o = b2 (allB (seenB g2 d s) n)) (fun m i a hi ha => Or.inl ⟨b2 (allB (seenB g2 d s) (i + 1)), rfl, by
      subst ha
      show f_X7_fits_L15 N g2 (nI s) (m + 1) _ (nI i) = f_X7_fits_L15 N g2 (nI s) m _ (nI (i + 1))
      obtain ⟨a, b, c, q1, q2, q3, q4, q5, q6, q7, q8, q9⟩ := a3 i hi
      have sb : seenB g2 d s i = decide (b2 (hbI (reachD d a s 0) b) = nI c) := by
        unfold seenB
        rw [q5, q7, q9, k_cl (by omega), k_cl (by omega)]
      rw [f_X7_fits_L15, a2, if_neg (nI_ge hi (by omega)), k_ok (show i < 20 by omega) (by omega), k_cl (show i < 2147483648 by omega), q5, q7, q9, show f_X7_reachOf N g2 (nI a) (nI s) 0 = _ from m_reach N hN h0 h2 (y := 0) q1 hs (by omega), k1_ad, ib]
      simp only [k_gd, k_bs]
      rw [x7_has N _]
      simp only [k_bs]
      show Option.bind _ _ = f_X7_fits_L15 N g2 (nI s) m (b2 (allB (seenB g2 d s) i && seenB g2 d s i)) (nI (i + 1))
      rw [sb]
      by_cases hb : b2 (hbI (reachD d a s 0) b) = nI c
      · rw [if_pos hb, decide_eq_true hb]
        cases allB (seenB g2 d s) i <;> rfl
      · rw [if_neg hb, decide_eq_false hb]
        cases allB (seenB g2 d s) i <;> rfl⟩) (fun m a ha => ⟨a, ha, by
      show f_X7_fits_L15 N g2 (nI s) (m + 1) a (nI n) = some a
      rw [f_X7_fits_L15, a2, if_pos (Int32.le_refl _)]⟩) N 0 1 (Nat.zero_le _) (by omega) rfl
    rw [show f_X7_fits_L15 N g2 (nI s) N 1 0 = some o from e, hQ]
  unfold f_X7_fits fitsD
  have L : f_X7_fits_L4 N g2 N 0 1 = some (setN (fun k => allB (seenB g2 d (k + 1)) n) 24) := by
    refine loopS (fun m i a => f_X7_fits_L4 N g2 m a (nI (i + 1))) 24 _ (fun m i a hi => ?_) (fun m a => ?_) (by omega)
    · show f_X7_fits_L4 N g2 (m + 1) a (nI (i + 1)) = f_X7_fits_L4 N g2 m _ (nI (i + 1 + 1))
      rw [f_X7_fits_L4, if_neg (show ¬ (24 : Int32) < nI (i + 1) by rw [k24_lt (by omega)]; omega), one (i + 1) (by omega), k_bs, ib, k1_ad, k1_sb (by omega), Nat.add_sub_cancel]
      cases allB (seenB g2 d (i + 1)) n <;> simp [k_bs, bitI]
    · show f_X7_fits_L4 N g2 (m + 1) a (nI (24 + 1)) = some a
      rw [f_X7_fits_L4, if_pos (show (24 : Int32) < nI (24 + 1) by decide)]
  rw [L]
  rfl
theorem pa_fits (N : Nat) (hN : 200 < N) : PA_fits N Rel := by
  intro g1 g2 hR
  have hR0 := hR
  obtain ⟨d, w, h0, h1, h2, h3, h4, ⟨n, hn, a1, a2, a3⟩, h5⟩ := hR
  unfold f_X6_fits
  rw [c_fits N hN h0 h1 hn a1 a3, m_fits N hN h0 h2 hn a2 a3]
  exact ⟨_, rfl, rfl, hR0⟩
