-- ===== reading a text: positions =====
def scn (q : Nat → Bool) (T : Nat) : Nat → Nat → Nat
  | 0, i => i
  | n + 1, i => bif decide (i < T) && q i then scn q T n (i + 1) else i
def sc (q : Nat → Bool) (T i : Nat) : Nat := scn q T (T - i) i
theorem sc_go {q : Nat → Bool} {T i : Nat} (h : i < T) (hq : q i = true) : sc q T i = sc q T (i + 1) := by
  unfold sc
  rw [show T - i = (T - (i + 1)) + 1 by omega]
  show (bif decide (i < T) && q i then scn q T (T - (i + 1)) (i + 1) else i) = _
  rw [decide_eq_true h, hq]
  rfl
theorem sc_end {q : Nat → Bool} {T i : Nat} (h : T ≤ i) : sc q T i = i := by
  unfold sc
  rw [show T - i = 0 by omega]
  rfl
theorem sc_no {q : Nat → Bool} {T i : Nat} (hq : q i = false) : sc q T i = i := by
  rcases Nat.lt_or_ge i T with h | h
  · unfold sc
    rw [show T - i = (T - (i + 1)) + 1 by omega]
    show (bif decide (i < T) && q i then scn q T (T - (i + 1)) (i + 1) else i) = _
    rw [hq, Bool.and_false]
    rfl
  · exact sc_end h
theorem sc_ind {q : Nat → Bool} {T : Nat} (P : Nat → Nat → Prop) (h1 : ∀ i, T ≤ i → P i i) (h2 : ∀ i, q i = false → P i i) (h3 : ∀ i j, i < T → q i = true → P (i + 1) j → P i j) : ∀ n i, n = T - i → P i (sc q T i) := by
  intro n
  induction n with
  | zero => intro i hn; rw [sc_end (by omega)]; exact h1 i (by omega)
  | succ n ih =>
    intro i hn
    cases hq : q i with
    | false => rw [sc_no hq]; exact h2 i hq
    | true => rw [sc_go (by omega) hq]; exact h3 i _ (by omega) hq (ih (i + 1) (by omega))
theorem sc_ge (q : Nat → Bool) (T i : Nat) : i ≤ sc q T i := sc_ind (fun i j => i ≤ j) (fun i _ => Nat.le_refl i) (fun i _ => Nat.le_refl i) (fun i j _ _ h => Nat.le_trans (Nat.le_succ i) h) _ i rfl
theorem sc_le (q : Nat → Bool) {T i : Nat} (hi : i ≤ T) : sc q T i ≤ T := sc_ind (fun i j => i ≤ T → j ≤ T) (fun i _ h => h) (fun i _ h => h) (fun i j h _ k _ => k h) _ i rfl hi
theorem sc_in (q : Nat → Bool) (T i : Nat) : ∀ x, i ≤ x → x < sc q T i → q x = true := sc_ind (fun i j => ∀ x, i ≤ x → x < j → q x = true) (fun i _ x h1 h2 => by omega) (fun i _ x h1 h2 => by omega) (fun i j _ hq k x h1 h2 => by
  rcases Nat.lt_or_ge i x with h | h
  · exact k x h h2
  · rw [show x = i by omega]; exact hq) _ i rfl
theorem sc_stop (q : Nat → Bool) (T i : Nat) : sc q T i < T → q (sc q T i) = false := sc_ind (fun i j => j < T → q j = false) (fun i h k => by omega) (fun i h _ => h) (fun i j _ _ k => k) _ i rfl
theorem sc_sc (q : Nat → Bool) (T i : Nat) : sc q T (sc q T i) = sc q T i := by
  rcases Nat.lt_or_ge (sc q T i) T with h | h
  · exact sc_no (sc_stop q T i h)
  · exact sc_end h
-- ===== bytes =====
def bl (tx : Nat → Nat) : Nat → Bool := fun i => decide (tx i = 32)
def isl (tx : Nat → Nat) : Nat → Bool := fun i => decide (97 ≤ tx i ∧ tx i ≤ 122)
def isd (tx : Nat → Nat) : Nat → Bool := fun i => decide (48 ≤ tx i ∧ tx i ≤ 57)
theorem bb_32 : ∀ b, b < 256 → (bb b = 32 ↔ b = 32) := by decide +kernel
theorem bb_255 : ∀ b, b < 256 → bb b &&& 255 = nI b := by decide +kernel
theorem bb_l1 : ∀ b, b < 256 → 97 ≤ b ∧ b ≤ 122 → ¬ bb b < 97 ∧ ¬ 122 < bb b := by decide +kernel
theorem bb_l0 : ∀ b, b < 256 → ¬ (97 ≤ b ∧ b ≤ 122) → bb b < 97 ∨ 122 < bb b := by decide +kernel
theorem bb_d1 : ∀ b, b < 256 → 48 ≤ b ∧ b ≤ 57 → (¬ bb b < 48 ∧ ¬ 57 < bb b) ∧ bb b = nI b := by decide +kernel
theorem bb_d0 : ∀ b, b < 256 → ¬ (48 ≤ b ∧ b ≤ 57) → bb b < 48 ∨ 57 < bb b := by decide +kernel
theorem bb_inj {a b : Nat} (ha : a < 256) (hb : b < 256) : bb a = bb b ↔ a = b := by
  constructor
  · intro h
    have h2 : nI a = nI b := by rw [← bb_255 a ha, ← bb_255 b hb, h]
    exact (nI_eq (by omega) (by omega)).mp h2
  · intro h; rw [h]
theorem c_fig1 (N : Nat) {x : Int32} (h : ¬ x < 48 ∧ ¬ 57 < x) : f_X4_isFigure N x = some 1 := by
  unfold f_X4_isFigure
  rw [if_neg h.1, if_neg h.2]
theorem c_fig0 (N : Nat) {x : Int32} (h : x < 48 ∨ 57 < x) : f_X4_isFigure N x = some 0 := by
  unfold f_X4_isFigure
  by_cases q : x < 48
  · rw [if_pos q]
  · rw [if_neg q, if_pos (h.resolve_left q)]
theorem m_inL (N : Nat) {b lo hi : Nat} (hb : b < 2147483648) (hl : lo < 2147483648) (hh : hi < 2147483648) : f_X7_in N (nI b).toInt64 (lN lo) (lN hi) = some (if lo ≤ b ∧ b ≤ hi then 1 else 0) := by
  rw [k_in, nI_l (by omega)]
  by_cases h : lo ≤ b ∧ b ≤ hi
  · rw [if_pos h, if_pos ⟨(lN_le (by omega) (by omega)).mpr h.1, (lN_le (by omega) (by omega)).mpr h.2⟩]
  · rw [if_neg h, if_neg (fun q => h ⟨(lN_le (by omega) (by omega)).mp q.1, (lN_le (by omega) (by omega)).mp q.2⟩)]
-- ===== a text in the class, and in the reference =====
def TX (T : Nat) (tx : Nat → Nat) : Prop := T ≤ 500 ∧ ∀ i, i < T → tx i < 256
def TC (c : St_) (T : Nat) (tx : Nat → Nat) : Prop := c 1 0 = nI T ∧ ∀ i, i < T → c 23 i = bb (tx i)
def TM (m : St_) (T : Nat) (tx : Nat → Nat) : Prop := m 16 0 = nI T ∧ ∀ i, i < T → m 15 i = nI (tx i)
theorem TC.to {c c' : St_} {T : Nat} {tx : Nat → Nat} (h : TC c T tx) (h1 : c' 1 = c 1) (h2 : c' 23 = c 23) : TC c' T tx := by
  unfold TC
  rw [h1, h2]
  exact h
theorem TM.to {c c' : St_} {T : Nat} {tx : Nat → Nat} (h : TM c T tx) (h1 : c' 16 = c 16) (h2 : c' 15 = c 15) : TM c' T tx := by
  unfold TM
  rw [h1, h2]
  exact h
def FC (c c' : St_) : Prop := ∀ k, k ≠ 24 → c' k = c k
def FM (m m' : St_) : Prop := ∀ k, k ≠ 18 → m' k = m k
theorem c_look0 (N : Nat) {T : Nat} {tx : Nat → Nat} (hT : TX T tx) : ∀ (n i : Nat) (c : St_), i ≤ T → T < n + i → TC c T tx → c 24 0 = nI i → ∃ c', f_X4_look_L0 N n c = some c' ∧ FC c c' ∧ c' 24 0 = nI (sc (bl tx) T i) := by
  intro n
  induction n with
  | zero => intro i c h1 h2; omega
  | succ n ih =>
    intro i c h1 h2 hc ha
    have hT5 := hT.1
    rw [f_X4_look_L0, hc.1, ha]
    rcases Nat.lt_or_ge i T with h | h
    · rw [if_neg (nI_ge h (by omega)), k_ok (show i < 500 by omega) (by omega), k_gd, k_cl (show i < 2147483648 by omega), hc.2 i h]
      by_cases b : tx i = 32
      · rw [if_pos ((bb_32 _ (hT.2 i h)).mpr b), k1_ad]
        obtain ⟨c', e1, e2, e3⟩ := ih (i + 1) (up1 c 24 0 (nI (i + 1))) (by omega) (by omega) ⟨hc.1, hc.2⟩ rfl
        exact ⟨c', e1, fun k hk => (e2 k hk).trans (u_nk c 0 _ hk), by rw [sc_go h (show bl tx i = true from decide_eq_true b)]; exact e3⟩
      · rw [if_neg (fun q => b ((bb_32 _ (hT.2 i h)).mp q))]
        exact ⟨c, rfl, fun _ _ => rfl, by rw [sc_no (show bl tx i = false from decide_eq_false b)]; exact ha⟩
    · rw [if_pos (nI_le h (by omega))]
      exact ⟨c, rfl, fun _ _ => rfl, by rw [sc_end h]; exact ha⟩
def lkv (tx : Nat → Nat) (T i : Nat) : Int32 := if sc (bl tx) T i < T then nI (tx (sc (bl tx) T i)) else -1
theorem c_look (N : Nat) (hN : 1000 < N) {T : Nat} {tx : Nat → Nat} (hT : TX T tx) {i : Nat} {c : St_} (hi : i ≤ T) (hc : TC c T tx) (ha : c 24 0 = nI i) : ∃ c', f_X4_look N c = some (lkv tx T i, c') ∧ FC c c' ∧ c' 24 0 = nI (sc (bl tx) T i) := by
  have hT5 := hT.1
  obtain ⟨c', e1, e2, e3⟩ := c_look0 N hT N i c hi (by omega) hc ha
  refine ⟨c', ?_, e2, e3⟩
  have h1 : c' 1 0 = nI T := by rw [e2 1 (by decide)]; exact hc.1
  have hs := sc_le (bl tx) hi
  unfold f_X4_look lkv
  rw [e1, k_bs, h1, e3]
  rcases Nat.lt_or_ge (sc (bl tx) T i) T with h | h
  · rw [if_neg (nI_ge h (by omega)), if_pos h, k_ok (show sc (bl tx) T i < 500 by omega) (by omega), k_gd, k_cl (show sc (bl tx) T i < 2147483648 by omega), e2 23 (by decide), hc.2 _ h, bb_255 _ (hT.2 _ h)]
  · rw [if_pos (nI_le h (by omega)), if_neg (show ¬ sc (bl tx) T i < T by omega)]
theorem m_here0 (N : Nat) {T : Nat} {tx : Nat → Nat} (hT : TX T tx) : ∀ (n i : Nat) (c : St_), i ≤ T → T < n + i → TM c T tx → c 18 0 = nI i → ∃ c', f_X7_here_L0 N n c = some c' ∧ FM c c' ∧ c' 18 0 = nI (sc (bl tx) T i) := by
  intro n
  induction n with
  | zero => intro i c h1 h2; omega
  | succ n ih =>
    intro i c h1 h2 hc ha
    have hT5 := hT.1
    rw [f_X7_here_L0, hc.1, ha]
    rcases Nat.lt_or_ge i T with h | h
    · have e32 : (nI (tx i) = (32 : Int32)) = (tx i = 32) := k_eq (b := 32) (by have := hT.2 i h; omega) (by decide)
      rw [if_neg (nI_ge h (by omega)), k_ok (show i < 500 by omega) (by omega), k_gd, k_cl (show i < 2147483648 by omega), hc.2 i h]
      by_cases b : tx i = 32
      · rw [if_pos (by rw [e32]; exact b), k1_ad]
        obtain ⟨c', e1, e2, e3⟩ := ih (i + 1) (up1 c 18 0 (nI (i + 1))) (by omega) (by omega) ⟨hc.1, hc.2⟩ rfl
        exact ⟨c', e1, fun k hk => (e2 k hk).trans (u_nk c 0 _ hk), by rw [sc_go h (show bl tx i = true from decide_eq_true b)]; exact e3⟩
      · rw [if_neg (by rw [e32]; exact b)]
        exact ⟨c, rfl, fun _ _ => rfl, by rw [sc_no (show bl tx i = false from decide_eq_false b)]; exact ha⟩
    · rw [if_pos (nI_le h (by omega))]
      exact ⟨c, rfl, fun _ _ => rfl, by rw [sc_end h]; exact ha⟩
theorem m_here (N : Nat) (hN : 1000 < N) {T : Nat} {tx : Nat → Nat} (hT : TX T tx) {i : Nat} {c : St_} (hi : i ≤ T) (hc : TM c T tx) (ha : c 18 0 = nI i) : ∃ c', f_X7_here N c = some (lkv tx T i, c') ∧ FM c c' ∧ c' 18 0 = nI (sc (bl tx) T i) := by
  have hT5 := hT.1
  obtain ⟨c', e1, e2, e3⟩ := m_here0 N hT N i c hi (by omega) hc ha
  refine ⟨c', ?_, e2, e3⟩
  have h1 : c' 16 0 = nI T := by rw [e2 16 (by decide)]; exact hc.1
  have hs := sc_le (bl tx) hi
  unfold f_X7_here lkv
  rw [e1, k_bs, h1, e3]
  rcases Nat.lt_or_ge (sc (bl tx) T i) T with h | h
  · rw [if_neg (nI_ge h (by omega)), if_pos h, k_ok (show sc (bl tx) T i < 500 by omega) (by omega), k_gd, k_cl (show sc (bl tx) T i < 2147483648 by omega), e2 15 (by decide), hc.2 _ h]
  · rw [if_pos (nI_le h (by omega)), if_neg (show ¬ sc (bl tx) T i < T by omega)]
-- ===== words =====
theorem c_skip0 (N : Nat) {T : Nat} {tx : Nat → Nat} (hT : TX T tx) : ∀ (n i : Nat) (c : St_), i ≤ T → T < n + i → TC c T tx → c 24 0 = nI i → ∃ c', f_X4_skipWord_L0 N n c = some c' ∧ FC c c' ∧ c' 24 0 = nI (sc (isl tx) T i) := by
  intro n
  induction n with
  | zero => intro i c h1 h2; omega
  | succ n ih =>
    intro i c h1 h2 hc ha
    have hT5 := hT.1
    rw [f_X4_skipWord_L0, hc.1, ha]
    rcases Nat.lt_or_ge i T with h | h
    · rw [if_neg (nI_ge h (by omega)), k_ok (show i < 500 by omega) (by omega), k_gd, k_gd, k_cl (show i < 2147483648 by omega), hc.2 i h]
      by_cases b : 97 ≤ tx i ∧ tx i ≤ 122
      · obtain ⟨q1, q2⟩ := bb_l1 _ (hT.2 i h) b
        rw [if_neg q1, if_neg q2, k1_ad]
        obtain ⟨c', e1, e2, e3⟩ := ih (i + 1) (up1 c 24 0 (nI (i + 1))) (by omega) (by omega) ⟨hc.1, hc.2⟩ rfl
        exact ⟨c', e1, fun k hk => (e2 k hk).trans (u_nk c 0 _ hk), by rw [sc_go h (show isl tx i = true from decide_eq_true b)]; exact e3⟩
      · have fin : ∃ c', some c = some c' ∧ FC c c' ∧ c' 24 0 = nI (sc (isl tx) T i) := ⟨c, rfl, fun _ _ => rfl, by rw [sc_no (show isl tx i = false from decide_eq_false b)]; exact ha⟩
        by_cases q : bb (tx i) < 97
        · rw [if_pos q]; exact fin
        · rw [if_neg q, if_pos ((bb_l0 _ (hT.2 i h) b).resolve_left q)]; exact fin
    · rw [if_pos (nI_le h (by omega))]
      exact ⟨c, rfl, fun _ _ => rfl, by rw [sc_end h]; exact ha⟩
theorem c_skip (N : Nat) (hN : 1000 < N) {T : Nat} {tx : Nat → Nat} (hT : TX T tx) {i : Nat} {c : St_} (hi : i ≤ T) (hc : TC c T tx) (ha : c 24 0 = nI i) : ∃ c', f_X4_skipWord N c = some c' ∧ FC c c' ∧ c' 24 0 = nI (sc (isl tx) T i) := by
  have hT5 := hT.1
  obtain ⟨c', e1, e2, e3⟩ := c_skip0 N hT N i c hi (by omega) hc ha
  exact ⟨c', by unfold f_X4_skipWord; rw [e1]; rfl, e2, e3⟩
/-- the number that the reference makes of a word -/
def cd (tx : Nat → Nat) (s : Nat) : Nat → Nat
  | 0 => 0
  | k + 1 => if cd tx s k ≤ 10000000000000 then 27 * cd tx s k + (tx (s + k) - 96) else 20000000000000
theorem cd_le (tx : Nat → Nat) (s : Nat) : ∀ k, (∀ x, x < k → tx (s + x) ≤ 122) → cd tx s k ≤ 300000000000000 := by
  intro k
  cases k with
  | zero => intro _; exact Nat.zero_le _
  | succ k =>
    intro h
    have := h k (by omega)
    show (if cd tx s k ≤ 10000000000000 then 27 * cd tx s k + (tx (s + k) - 96) else 20000000000000) ≤ 300000000000000
    by_cases c : cd tx s k ≤ 10000000000000
    · rw [if_pos c]; omega
    · rw [if_neg c]; omega
def WB (kw i : Nat) : Nat := ((bytJS.getD kw []).getD i 0).toNatClampNeg
theorem WB_ok : ∀ kw, kw < 6 → ∀ i, i < lenJS.getD kw 0 → (97 ≤ WB kw i ∧ WB kw i ≤ 122) ∧ ((bytJS.getD kw []).getD i 0) &&& 255 = bb (WB kw i) := by decide +kernel
def wvF (W : Nat → Nat) : Nat → Nat
  | 0 => 0
  | k + 1 => 27 * wvF W k + (W k - 96)
theorem cd_eq (tx : Nat → Nat) (s : Nat) (W : Nat → Nat) : ∀ L, (∀ i, i < L → 97 ≤ W i ∧ W i ≤ 122) → wvF W L ≤ 10000000000000 → ∀ n, (∀ x, x < n → 97 ≤ tx (s + x) ∧ tx (s + x) ≤ 122) → (cd tx s n = wvF W L ↔ n = L ∧ ∀ i, i < L → tx (s + i) = W i) := by
  intro L
  induction L with
  | zero =>
    intro _ _ n hn
    cases n with
    | zero => exact ⟨fun _ => ⟨rfl, fun i h => absurd h (Nat.not_lt_zero i)⟩, fun _ => rfl⟩
    | succ n =>
      constructor
      · intro h
        have h1 := hn n (by omega)
        have h2 : (if cd tx s n ≤ 10000000000000 then 27 * cd tx s n + (tx (s + n) - 96) else 20000000000000) = 0 := h
        by_cases c : cd tx s n ≤ 10000000000000
        · rw [if_pos c] at h2; omega
        · rw [if_neg c] at h2; omega
      · intro h; omega
  | succ L ih =>
    intro hW hv n hn
    have w1 := hW L (by omega)
    have hv' : 27 * wvF W L + (W L - 96) ≤ 10000000000000 := hv
    cases n with
    | zero =>
      constructor
      · intro h
        have h2 : 0 = 27 * wvF W L + (W L - 96) := h
        omega
      · intro h; omega
    | succ n =>
      have IH := ih (fun i hi => hW i (by omega)) (by omega) n (fun x hx => hn x (by omega))
      have h1 := hn n (by omega)
      constructor
      · intro h
        have h2 : (if cd tx s n ≤ 10000000000000 then 27 * cd tx s n + (tx (s + n) - 96) else 20000000000000) = 27 * wvF W L + (W L - 96) := h
        by_cases c : cd tx s n ≤ 10000000000000
        · rw [if_pos c] at h2
          have h3 : cd tx s n = wvF W L := by omega
          have h4 : tx (s + n) = W L := by omega
          obtain ⟨e1, e2⟩ := IH.mp h3
          refine ⟨by omega, fun i hi => ?_⟩
          rcases Nat.lt_or_ge i L with q | q
          · exact e2 i q
          · rw [show i = L by omega, ← e1, h4, e1]
        · rw [if_neg c] at h2; omega
      · intro ⟨e1, e2⟩
        have e3 : n = L := by omega
        have h3 := IH.mpr ⟨e3, fun i hi => e2 i (by omega)⟩
        have h4 : tx (s + n) = W L := by rw [e3]; exact e2 L (by omega)
        show (if cd tx s n ≤ 10000000000000 then 27 * cd tx s n + (tx (s + n) - 96) else 20000000000000) = 27 * wvF W L + (W L - 96)
        rw [if_pos (by omega), h3, h4]
def isW (tx : Nat → Nat) (s z kw : Nat) : Prop := z - s = lenJS.getD kw 0 ∧ ∀ i, i < lenJS.getD kw 0 → tx (s + i) = WB kw i
def wvK (kw : Nat) : Nat := wvF (WB kw) (lenJS.getD kw 0)
theorem wvK_le : ∀ kw, kw < 6 → wvK kw ≤ 10000000000000 := by decide +kernel
theorem cd_isW {tx : Nat → Nat} {T s kw : Nat} (hkw : kw < 6) : cd tx s (sc (isl tx) T s - s) = wvK kw ↔ isW tx s (sc (isl tx) T s) kw := cd_eq tx s (WB kw) _ (fun i hi => (WB_ok kw hkw i hi).1) (wvK_le kw hkw) _ (fun x hx => of_decide_eq_true (sc_in (isl tx) T s (s + x) (by omega) (by omega)))
theorem lenJS_le : ∀ kw, kw < 6 → lenJS.getD kw 0 ≤ 6 := by decide
theorem c_isW0 (N : Nat) {T : Nat} {tx : Nat → Nat} (hT : TX T tx) {c : St_} (hc : TC c T tx) {s kw : Nat} (hkw : kw < 6) (hs : s + lenJS.getD kw 0 ≤ T) : ∀ (n i : Nat), i ≤ lenJS.getD kw 0 → lenJS.getD kw 0 < n + i → (∀ x, x < i → tx (s + x) = WB kw x) → ((∀ x, x < lenJS.getD kw 0 → tx (s + x) = WB kw x) ∧ f_X4_isWord_L32 N c kw (nI s) n (nI i) = some (Sum.inr ())) ∨ (¬ (∀ x, x < lenJS.getD kw 0 → tx (s + x) = WB kw x) ∧ f_X4_isWord_L32 N c kw (nI s) n (nI i) = some (Sum.inl 0)) := by
  intro n
  have hl := lenJS_le kw hkw
  have hT5 := hT.1
  induction n with
  | zero => intro i h1 h2; omega
  | succ n ih =>
    intro i h1 h2 h3
    rw [f_X4_isWord_L32]
    rcases Nat.lt_or_ge i (lenJS.getD kw 0) with h | h
    · obtain ⟨w1, w2⟩ := WB_ok kw hkw i h
      rw [if_neg (nI_ge h (by omega)), k_add, k_ok (show s + i < 500 by omega) (by omega), k_ok h (by omega), k_gd, k_gd, k_cl (show s + i < 2147483648 by omega), k_cl (show i < 2147483648 by omega), hc.2 (s + i) (by omega), w2, k1_ad]
      by_cases q : tx (s + i) = WB kw i
      · rw [if_pos (by rw [q])]
        exact ih (i + 1) (by omega) (by omega) (fun x hx => by
          rcases Nat.lt_or_ge x i with r | r
          · exact h3 x r
          · rw [show x = i by omega]; exact q)
      · rw [if_neg (fun r => q ((bb_inj (hT.2 _ (by omega)) (by omega)).mp r))]
        exact Or.inr ⟨fun r => q (r i h), rfl⟩
    · rw [if_pos (nI_le h (by omega))]
      exact Or.inl ⟨fun x hx => h3 x (by omega), rfl⟩
theorem c_isW (N : Nat) (hN : 1000 < N) {T : Nat} {tx : Nat → Nat} (hT : TX T tx) {c : St_} (hc : TC c T tx) {s z kw : Nat} (hkw : kw < 6) (hs : s ≤ z) (hz : z ≤ T) (ha : c 24 0 = nI z) : (isW tx s z kw ∧ f_X4_isWord N c (nI s) kw = some 1) ∨ (¬ isW tx s z kw ∧ f_X4_isWord N c (nI s) kw = some 0) := by
  have hl := lenJS_le kw hkw
  have hT5 := hT.1
  unfold f_X4_isWord isW
  rw [if_neg (nI_pos (show s < 2 ^ 31 by omega)), hc.1, ha, if_neg (nI_nlt hz (by omega)), k_sub hs]
  by_cases q : z - s = lenJS.getD kw 0
  · rw [if_pos (show nI (z - s) = nI (lenJS.getD kw 0) by rw [q])]
    rcases c_isW0 N hT hc hkw (s := s) (by omega) N 0 (Nat.zero_le _) (by omega) (fun x hx => absurd hx (Nat.not_lt_zero x)) with ⟨h1, h2⟩ | ⟨h1, h2⟩
    · exact Or.inl ⟨⟨q, h1⟩, by rw [show f_X4_isWord_L32 N c kw (nI s) N 0 = _ from h2]; rfl⟩
    · exact Or.inr ⟨fun r => h1 r.2, by rw [show f_X4_isWord_L32 N c kw (nI s) N 0 = _ from h2]; rfl⟩
  · rw [if_neg (fun r => q ((nI_eq (by omega) (by omega)).mp r))]
    exact Or.inr ⟨fun r => q r.1, rfl⟩
theorem m_word0 (N : Nat) {T : Nat} {tx : Nat → Nat} (hT : TX T tx) {s : Nat} : ∀ (n i : Nat) (c : St_) (t : Int64), s ≤ i → i ≤ T → T < n + i → TM c T tx → c 20 0 = nI i → (∀ x, s ≤ x → x < i → tx x ≤ 122) → t = lN (cd tx s (i - s)) → ∃ c', f_X7_readWord_L18 N n c t = some (c', lN (cd tx s (sc (isl tx) T i - s))) ∧ (∀ k, k ≠ 20 → c' k = c k) ∧ c' 20 0 = nI (sc (isl tx) T i) := by
  intro n
  induction n with
  | zero => intro i c t h0 h1 h2; omega
  | succ n ih =>
    intro i c t h0 h1 h2 hc ha hle ht
    have hT5 := hT.1
    rw [f_X7_readWord_L18, hc.1, ha]
    rcases Nat.lt_or_ge i T with h | h
    · have hb := hT.2 i h
      rw [if_neg (nI_ge h (by omega)), k_ok (show i < 500 by omega) (by omega), k_gd, k_gd, k_cl (show i < 2147483648 by omega), hc.2 i h, show (97 : Int64) = lN 97 from rfl, show (122 : Int64) = lN 122 from rfl, m_inL N (by omega) (by decide) (by decide), k_bs]
      by_cases b : 97 ≤ tx i ∧ tx i ≤ 122
      · have hcd := cd_le tx s (i - s) (fun x hx => hle (s + x) (by omega) (by omega))
        have key : ((if (lg_cmp t (10000000000000 : Int64)) ≤ 0 then (some ((((27 : Int64) * t) + (nI (tx i)).toInt64) - (96 : Int64))) else (some (20000000000000 : Int64))) : Option Int64) = some (lN (cd tx s (i + 1 - s))) := by
          rw [show i + 1 - s = (i - s) + 1 by omega]
          show _ = some (lN (if cd tx s (i - s) ≤ 10000000000000 then 27 * cd tx s (i - s) + (tx (s + (i - s)) - 96) else 20000000000000))
          rw [show s + (i - s) = i by omega]
          by_cases d : cd tx s (i - s) ≤ 10000000000000
          · rw [if_pos d, if_pos ((lg_cmp_le _ _).mpr (by rw [ht, show (10000000000000 : Int64) = lN 10000000000000 from rfl]; exact (pk_lLE (by omega) (by omega)).mpr d)), ht, show (27 : Int64) = lN 27 from rfl, lN_mul, nI_l (by omega), lN_add, show (96 : Int64) = lN 96 from rfl, lN_sub (by omega), show 27 * cd tx s (i - s) + tx i - 96 = 27 * cd tx s (i - s) + (tx i - 96) by omega]
          · rw [if_neg d, if_neg (fun q => d ((pk_lLE (by omega) (by omega)).mp (by have := (lg_cmp_le _ _).mp q; rw [ht, show (10000000000000 : Int64) = lN 10000000000000 from rfl] at this; exact this)))]
            rfl
        rw [if_pos b, if_neg (show ¬ (1 : Int32) = 0 by decide), key, k_bs, k1_ad]
        obtain ⟨c', e1, e2, e3⟩ := ih (i + 1) (up1 c 20 0 (nI (i + 1))) _ (by omega) (by omega) (by omega) ⟨hc.1, hc.2⟩ rfl (fun x h3 h4 => by
          rcases Nat.lt_or_ge x i with r | r
          · exact hle x h3 r
          · rw [show x = i by omega]; exact b.2) rfl
        have g := sc_go h (show isl tx i = true from decide_eq_true b)
        exact ⟨c', by rw [g]; exact e1, fun k hk => (e2 k hk).trans (u_nk c 0 _ hk), by rw [g]; exact e3⟩
      · rw [if_neg b, if_pos rfl]
        have g := sc_no (T := T) (show isl tx i = false from decide_eq_false b)
        exact ⟨c, by rw [g, ht], fun _ _ => rfl, by rw [g]; exact ha⟩
    · rw [if_pos (nI_le h (by omega))]
      exact ⟨c, by rw [sc_end h, ht], fun _ _ => rfl, by rw [sc_end h]; exact ha⟩
theorem m_word (N : Nat) (hN : 1000 < N) {T : Nat} {tx : Nat → Nat} (hT : TX T tx) {i : Nat} {c : St_} (sg : Int64) (hi : i ≤ T) (hc : TM c T tx) (ha : c 18 0 = nI i) : ∃ c', f_X7_readWord N c sg = some (c', lN (cd tx (sc (bl tx) T i) (sc (isl tx) T (sc (bl tx) T i) - sc (bl tx) T i))) ∧ (∀ k, k ≠ 18 → k ≠ 20 → c' k = c k) ∧ c' 18 0 = nI (sc (bl tx) T i) ∧ c' 20 0 = nI (sc (isl tx) T (sc (bl tx) T i)) := by
  have hT5 := hT.1
  obtain ⟨c1, e1, e2, e3⟩ := m_here N hN hT hi hc ha
  have hs := sc_le (bl tx) hi
  obtain ⟨c', d1, d2, d3⟩ := m_word0 N hT (s := sc (bl tx) T i) N (sc (bl tx) T i) (up1 c1 20 0 (c1 18 0)) 0 (Nat.le_refl _) hs (by omega) (hc.to (e2 16 (by decide)) (e2 15 (by decide))) (by show c1 18 0 = _; exact e3) (fun x h1 h2 => by omega) (by rw [Nat.sub_self]; rfl)
  refine ⟨c', ?_, fun k h1 h2 => ?_, ?_, d3⟩
  · unfold f_X7_readWord
    rw [e1, k_bs]
    dsimp only
    rw [d1, k_bs]
  · rw [d2 k h2, u_nk _ _ _ h2, e2 k h1]
  · rw [d2 18 (by decide), u_nk _ _ _ (by decide), e3]
theorem m_cmp {a b : Nat} (ha : a ≤ 300000000000000) (hb : b ≤ 300000000000000) : (lg_cmp (lN a) (lN b) = 0) = (a = b) := propext ((lg_cmp_eq _ _).trans (pk_lEQ (by omega) (by omega)))
