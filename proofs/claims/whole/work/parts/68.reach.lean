-- ===== who gets where =====
def psD (d : Nat → Nat → Nat) (up dn : Nat → Bool) (r : Nat) (a : Int32) : Int32 :=
  bif dn r && hbI (bif up r && hbI a (d 4 r) then a ||| bitI (d 5 r) else a) (d 5 r) then (bif up r && hbI a (d 4 r) then a ||| bitI (d 5 r) else a) ||| bitI (d 4 r) else (bif up r && hbI a (d 4 r) then a ||| bitI (d 5 r) else a)
def passD (d : Nat → Nat → Nat) (up dn : Nat → Bool) (a : Int32) : Int32 := foldA (psD d up dn) (d 2 0) a
theorem foldA_congr {α : Type} {f k : Nat → α → α} {n : Nat} (h : ∀ i a, i < n → f i a = k i a) (a : α) : foldA f n a = foldA k n a := by
  induction n with
  | zero => rfl
  | succ n ih =>
    simp only [foldA]
    rw [ih (fun i a hi => h i a (by omega)), h n _ (by omega)]
theorem passD_congr {d : Nat → Nat → Nat} {u1 d1 u2 d2 : Nat → Bool} (h : ∀ r, r < d 2 0 → u1 r = u2 r ∧ d1 r = d2 r) : passD d u1 d1 = passD d u2 d2 := by
  funext a
  unfold passD
  exact foldA_congr (fun i a hi => by unfold psD; rw [(h i hi).1, (h i hi).2]) a
def Ext (P : Nat) (a b : Int32) : Prop := ∀ i, i < 32 → (a.toBitVec.getLsbD i = true → b.toBitVec.getLsbD i = true) ∧ (b.toBitVec.getLsbD i = true → a.toBitVec.getLsbD i = true ∨ i < P)
theorem Ext.rf (P : Nat) (a : Int32) : Ext P a a := fun i _ => ⟨id, Or.inl⟩
theorem Ext.tr {P : Nat} {a b c : Int32} (h : Ext P a b) (k : Ext P b c) : Ext P a c := fun i hi => ⟨fun q => (k i hi).1 ((h i hi).1 q), fun q => ((k i hi).2 q).elim (fun z => (h i hi).2 z) Or.inr⟩
theorem Ext.or {P k : Nat} (a : Int32) (hk : k < P) (hP : P ≤ 8) : Ext P a (a ||| bitI k) := by
  intro i hi
  rw [Int32.toBitVec_or, BitVec.getLsbD_or, bitI_bit (show k < 31 by omega) hi]
  refine ⟨fun q => by rw [q]; rfl, fun q => ?_⟩
  rw [Bool.or_eq_true, decide_eq_true_eq] at q
  exact q.imp id (fun e => by omega)
theorem ps_ext {d : Nat → Nat → Nat} (h0 : TD d) (up dn : Nat → Bool) {r : Nat} (hr : r < d 2 0) (a : Int32) : Ext (d 1 0) a (psD d up dn r a) := by
  have hP := h0.1.1
  have hq := h0.2.1 r hr
  unfold psD
  have h1 : Ext (d 1 0) a (bif up r && hbI a (d 4 r) then a ||| bitI (d 5 r) else a) := by
    cases (up r && hbI a (d 4 r))
    · exact Ext.rf _ a
    · exact Ext.or a hq.2.2.1 hP
  refine h1.tr ?_
  generalize (bif up r && hbI a (d 4 r) then a ||| bitI (d 5 r) else a) = b
  cases (dn r && hbI b (d 5 r))
  · exact Ext.rf _ b
  · exact Ext.or b hq.2.1 hP
theorem pass_ext {d : Nat → Nat → Nat} (h0 : TD d) (up dn : Nat → Bool) (a : Int32) : Ext (d 1 0) a (passD d up dn a) := by
  unfold passD
  have : ∀ n, n ≤ d 2 0 → Ext (d 1 0) a (foldA (psD d up dn) n a) := by
    intro n
    induction n with
    | zero => intro _; exact Ext.rf _ a
    | succ n ih => intro hn; exact (ih (by omega)).tr (ps_ext h0 up dn (by omega) _)
  exact this _ (Nat.le_refl _)
def cB (f : Nat → Bool) : Nat → Nat
  | 0 => 0
  | n + 1 => cB f n + (if f n = true then 1 else 0)
theorem cB_le (f : Nat → Bool) (n : Nat) : cB f n ≤ n := by
  induction n with
  | zero => exact Nat.le_refl _
  | succ n ih => unfold cB; by_cases h : f n = true <;> simp [h] <;> omega
theorem cB_mono {f k : Nat → Bool} {n : Nat} (h : ∀ i, i < n → f i = true → k i = true) : cB f n ≤ cB k n := by
  induction n with
  | zero => exact Nat.le_refl _
  | succ n ih =>
    have := ih (fun i hi => h i (by omega))
    unfold cB
    by_cases q : f n = true
    · rw [if_pos q, if_pos (h n (by omega) q)]; omega
    · rw [if_neg q]; by_cases z : k n = true <;> simp [z] <;> omega
theorem cB_lt {f k : Nat → Bool} {n i : Nat} (h : ∀ i, i < n → f i = true → k i = true) (hi : i < n) (h1 : f i = false) (h2 : k i = true) : cB f n < cB k n := by
  induction n with
  | zero => omega
  | succ n ih =>
    have hm := cB_mono (n := n) (fun i hi => h i (by omega))
    unfold cB
    rcases Nat.lt_or_ge i n with q | q
    · have := ih (fun i hi => h i (by omega)) q
      by_cases z : f n = true
      · rw [if_pos z, if_pos (h n (by omega) z)]; omega
      · rw [if_neg z]; by_cases y : k n = true <;> simp [y] <;> omega
    · have : i = n := by omega
      subst this
      rw [h1, if_neg (by decide), if_pos h2]; omega
theorem ext_ne {P : Nat} (hP : P ≤ 8) {a b : Int32} (h : Ext P a b) (hn : a ≠ b) : cB (hbI a) P < cB (hbI b) P := by
  have : ∃ i, i < 32 ∧ a.toBitVec.getLsbD i ≠ b.toBitVec.getLsbD i := by
    apply Classical.byContradiction
    intro hc
    exact hn (ext_I (fun i hi => Classical.byContradiction (fun q => hc ⟨i, hi, q⟩)))
  obtain ⟨i, hi, hne⟩ := this
  have ha : a.toBitVec.getLsbD i = false := by
    cases q : a.toBitVec.getLsbD i with
    | false => rfl
    | true => exact absurd (by rw [q, (h i hi).1 q]) hne
  have hb : b.toBitVec.getLsbD i = true := by
    cases q : b.toBitVec.getLsbD i with
    | true => rfl
    | false => exact absurd (by rw [ha, q]) hne
  have hiP : i < P := ((h i hi).2 hb).resolve_left (by rw [ha]; decide)
  refine cB_lt (i := i) (fun j hj q => ?_) hiP ?_ ?_
  · rw [hbI_iff _ (by omega)] at q ⊢
    exact (h j (by omega)).1 q
  · rw [hbI_iff _ (by omega)]; exact ha
  · rw [hbI_iff _ (by omega)]; exact hb
def itD (f : Int32 → Int32) : Nat → Int32 → Int32
  | 0, a => a
  | n + 1, a => f (itD f n a)
theorem it_stay {f : Int32 → Int32} {a : Int32} {j : Nat} (h : f (itD f j a) = itD f j a) : ∀ k, itD f (j + k) a = itD f j a := by
  intro k
  induction k with
  | zero => rfl
  | succ k ih => show f (itD f (j + k) a) = _; rw [ih, h]
theorem it_grow {f : Int32 → Int32} {P : Nat} (hP : P ≤ 8) (hE : ∀ a, Ext P a (f a)) {a : Int32} (h1 : 1 ≤ cB (hbI a) P) (k : Nat) : f (itD f k a) = itD f k a ∨ k + 1 ≤ cB (hbI (itD f k a)) P := by
  induction k with
  | zero => exact Or.inr h1
  | succ k ih =>
    by_cases e : f (itD f k a) = itD f k a
    · left
      show f (f (itD f k a)) = f (itD f k a)
      rw [e, e]
    · right
      have hg := ih.resolve_left e
      have := ext_ne hP (hE (itD f k a)) (fun q => e q.symm)
      show k + 1 + 1 ≤ cB (hbI (f (itD f k a))) P
      omega
theorem it_end {f : Int32 → Int32} {P : Nat} (hP : P ≤ 8) (hP1 : 1 ≤ P) (hE : ∀ a, Ext P a (f a)) {a : Int32} (h1 : 1 ≤ cB (hbI a) P) : f (itD f (P - 1) a) = itD f (P - 1) a := by
  rcases it_grow hP hE h1 (P - 1) with h | h
  · exact h
  · apply Classical.byContradiction
    intro e
    have := ext_ne hP (hE (itD f (P - 1) a)) (fun q => e q.symm)
    have := cB_le (hbI (f (itD f (P - 1) a))) P
    omega
theorem start_1 {P p : Nat} (hP : P ≤ 8) (hp : p < P) : 1 ≤ cB (hbI (bitI p)) P ∧ bitI p ≠ 0 := by
  constructor
  · have : cB (fun _ => false) P < cB (hbI (bitI p)) P := cB_lt (i := p) (fun i _ h => by cases h) hp rfl (by rw [hb_bit (by omega) (by omega)]; simp)
    omega
  · intro h
    have := hb_bit (k := p) (i := p) (by omega) (by omega)
    rw [h, hb_0 (by omega)] at this
    simp at this
theorem c_pass (N : Nat) (hN : 200 < N) {t : St_} {d : Nat → Nat → Nat} {w : Nat → Int32} (h0 : TD d) (h1 : CT t d w) (U D a : Int32) : f_X5_spread_L37 N t U D N a 0 = some (passD d (hbI U) (hbI D) a) := by
  have hS := h0.1.2.1
  have hP := h0.1.1
  have e3 : t 3 0 = nI (d 2 0) := h1.1.2.1
  obtain ⟨o, hQ, e⟩ := loopI (fun n i b => f_X5_spread_L37 N t U D n b (nI i)) (d 2 0) (fun i b => b = foldA (psD d (hbI U) (hbI D)) i a) (fun o => o = passD d (hbI U) (hbI D) a) (fun n i b hi hb => Or.inl ⟨foldA (psD d (hbI U) (hbI D)) (i + 1) a, rfl, by
    rw [show foldA (psD d (hbI U) (hbI D)) (i + 1) a = psD d (hbI U) (hbI D) i (foldA (psD d (hbI U) (hbI D)) i a) from rfl, ← hb]
    clear hb
    have hq := h0.2.1 i hi
    have e5 : t 5 i = nI (d 4 i) := (h1.1.2.2 i hi).2.1
    have e6 : t 6 i = nI (d 5 i) := (h1.1.2.2 i hi).2.2.1
    show f_X5_spread_L37 N t U D (n + 1) b (nI i) = f_X5_spread_L37 N t U D n _ (nI (i + 1))
    rw [f_X5_spread_L37, e3, if_neg (nI_ge hi (by omega)), x6_has N U (by omega), x6_has N D (by omega), k_ok (show i < 10 by omega) (by omega), k_cl (by omega), e5, e6, k1_ad, x6_has N b (by omega)]
    simp only [k_bs, k_gd, ib]
    unfold psD
    have A1 : (bif hbI U i then (bif hbI b (d 4 i) then some (b ||| (1 : Int32) <<< (nI (d 5 i) &&& 31)) else some b) else some b) = some (bif hbI U i && hbI b (d 4 i) then b ||| bitI (d 5 i) else b) := by
      cases hbI U i <;> cases hbI b (d 4 i) <;> rfl
    rw [A1, k_bs]
    generalize (bif hbI U i && hbI b (d 4 i) then b ||| bitI (d 5 i) else b) = c
    rw [x6_has N c (by omega)]
    simp only [k_bs, ib]
    cases hbI D i <;> cases hbI c (d 5 i) <;> rfl⟩) (fun n b hb => ⟨b, hb, by
    show f_X5_spread_L37 N t U D (n + 1) b (nI (d 2 0)) = some b
    rw [f_X5_spread_L37, e3, if_pos (Int32.le_refl _)]⟩) N 0 a (Nat.zero_le _) (by omega) rfl
  rw [show f_X5_spread_L37 N t U D N a 0 = some o from e, hQ]
theorem c_spread (N : Nat) (hN : 200 < N) {t : St_} {d : Nat → Nat → Nat} {w : Nat → Int32} (h0 : TD d) (h1 : CT t d w) (U D : Int32) {p : Nat} (hp : p < d 1 0) : f_X5_spread N t (nI p) U D = some (itD (passD d (hbI U) (hbI D)) (d 1 0) (bitI p)) := by
  have hP := h0.1.1
  have e2 : t 2 0 = nI (d 1 0) := h1.1.1
  obtain ⟨s1, s2⟩ := start_1 hP hp
  have hend := it_end hP (by omega) (pass_ext h0 (hbI U) (hbI D)) s1
  have key : ∀ n j, j ≤ d 1 0 → d 1 0 < n + j → ∀ prev, (prev = itD (passD d (hbI U) (hbI D)) j (bitI p) → itD (passD d (hbI U) (hbI D)) (d 1 0) (bitI p) = itD (passD d (hbI U) (hbI D)) j (bitI p)) → f_X5_spread_L11 N t U D n (itD (passD d (hbI U) (hbI D)) j (bitI p)) prev (nI j) = some (itD (passD d (hbI U) (hbI D)) (d 1 0) (bitI p)) := by
    intro n
    induction n with
    | zero => intro j h h2; omega
    | succ n ih =>
      intro j hj hn prev hprev
      rw [f_X5_spread_L11, e2]
      rcases Nat.lt_or_ge j (d 1 0) with q | q
      · rw [if_neg (nI_ge q (by omega))]
        by_cases c : itD (passD d (hbI U) (hbI D)) j (bitI p) = prev
        · rw [if_pos c, hprev c.symm]
        · rw [if_neg c, c_pass N hN h0 h1, k_bs, k1_ad]
          refine ih (j + 1) (by omega) (by omega) _ (fun e => ?_)
          have hst : passD d (hbI U) (hbI D) (itD (passD d (hbI U) (hbI D)) j (bitI p)) = itD (passD d (hbI U) (hbI D)) j (bitI p) := e.symm
          have h3 := it_stay hst (d 1 0 - j)
          rw [show j + (d 1 0 - j) = d 1 0 by omega] at h3
          rw [h3]
          exact e
      · rw [if_pos (nI_le q (by omega))]
        rw [show j = d 1 0 by omega]
  unfold f_X5_spread
  have := key N 0 (Nat.zero_le _) (by omega) 0 (fun e => absurd e.symm s2)
  rw [show f_X5_spread_L11 N t U D N ((1 : Int32) <<< (nI p &&& 31)) 0 0 = _ from this]
  rfl
theorem m_pass (N : Nat) (hN : 200 < N) {g : St_} {d : Nat → Nat → Nat} {w : Nat → Int32} (h0 : TD d) (h2 : MT g d w) {x y : Nat} (hx : x < 1000) (hy : y < 1000) (a : Int32) : f_X7_reachOf_L22 N g (nI x) (nI y) N a 0 = some (passD d (fun r => fitD d x r || fitD d y r) (fun r => (fitD d x r || fitD d y r) || decide (d 13 0 = 1)) a) := by
  have hS := h0.1.2.1
  have hP := h0.1.1
  have hL := h0.1.2.2.2.1
  have e2 : g 2 0 = nI (d 2 0) := h2.2.1
  have e13 : g 13 0 = nI (d 13 0) := h2.2.2.2.2.2.2.2.1
  obtain ⟨o, hQ, e⟩ := loopI (fun n i b => f_X7_reachOf_L22 N g (nI x) (nI y) n b (nI i)) (d 2 0) (fun i b => b = foldA (psD d (fun r => fitD d x r || fitD d y r) (fun r => (fitD d x r || fitD d y r) || decide (d 13 0 = 1))) i a) (fun o => o = passD d (fun r => fitD d x r || fitD d y r) (fun r => (fitD d x r || fitD d y r) || decide (d 13 0 = 1)) a) (fun n i b hi hb => Or.inl ⟨foldA (psD d (fun r => fitD d x r || fitD d y r) (fun r => (fitD d x r || fitD d y r) || decide (d 13 0 = 1))) (i + 1) a, rfl, by
    rw [show ∀ f : Nat → Int32 → Int32, foldA f (i + 1) a = f i (foldA f i a) from fun _ => rfl, ← hb]
    clear hb
    have hq := h0.2.1 i hi
    have e4 : g 4 i = nI (d 4 i) := (h2.2.2.1 i hi).2.1
    have e5 : g 5 i = nI (d 5 i) := (h2.2.2.1 i hi).2.2.1
    show f_X7_reachOf_L22 N g (nI x) (nI y) (n + 1) b (nI i) = f_X7_reachOf_L22 N g (nI x) (nI y) n _ (nI (i + 1))
    rw [f_X7_reachOf_L22, e2, if_neg (nI_ge hi (by omega)), m_fitD N hN h0 h2 hi hx, m_fitD N hN h0 h2 hi hy, k_ok (show i < 10 by omega) (by omega), k_cl (by omega), e4, e5, e13, k1_ad, x7_has N b]
    simp only [k_bs, k_gd, ib]
    have A0 : (bif fitD d x i then some (1 : Int32) else bif fitD d y i then some (1 : Int32) else some (0 : Int32)) = some (b2 (fitD d x i || fitD d y i)) := by
      cases fitD d x i <;> cases fitD d y i <;> rfl
    rw [A0, k_bs]
    unfold psD
    dsimp only
    clear A0
    generalize (fitD d x i || fitD d y i) = f
    simp only [ib]
    have A1 : (bif f then (bif hbI b (d 4 i) then some ((1 : Int32) <<< (nI (d 5 i) &&& 31)) else some (0 : Int32)) else some (0 : Int32)) = some (bif f && hbI b (d 4 i) then bitI (d 5 i) else 0) := by
      cases f <;> cases hbI b (d 4 i) <;> rfl
    rw [A1, k_bs]
    have A2 : (b ||| (bif f && hbI b (d 4 i) then bitI (d 5 i) else 0)) = (bif f && hbI b (d 4 i) then b ||| bitI (d 5 i) else b) := by
      cases (f && hbI b (d 4 i)) <;> simp
    rw [A2]
    generalize (bif f && hbI b (d 4 i) then b ||| bitI (d 5 i) else b) = c
    rw [x7_has N c]
    simp only [k_bs, ib]
    rcases (show d 13 0 = 0 ∨ d 13 0 = 1 by omega) with q | q
    · rw [q, if_neg (show ¬ nI 0 = (1 : Int32) by decide)]
      cases f <;> cases hbI c (d 5 i) <;> simp [bitI, k_bs]
    · rw [q, if_pos (show nI 1 = (1 : Int32) from rfl)]
      cases f <;> cases hbI c (d 5 i) <;> simp [bitI, k_bs]⟩) (fun n b hb => ⟨b, hb, by
    show f_X7_reachOf_L22 N g (nI x) (nI y) (n + 1) b (nI (d 2 0)) = some b
    rw [f_X7_reachOf_L22, e2, if_pos (Int32.le_refl _)]⟩) N 0 a (Nat.zero_le _) (by omega) rfl
  rw [show f_X7_reachOf_L22 N g (nI x) (nI y) N a 0 = some o from e, hQ]
def reachD (d : Nat → Nat → Nat) (p x y : Nat) : Int32 := itD (passD d (fun r => fitD d x r || fitD d y r) (fun r => (fitD d x r || fitD d y r) || decide (d 13 0 = 1))) (d 1 0) (bitI p)
theorem m_reach (N : Nat) (hN : 200 < N) {g : St_} {d : Nat → Nat → Nat} {w : Nat → Int32} (h0 : TD d) (h2 : MT g d w) {p x y : Nat} (hp : p < d 1 0) (hx : x < 1000) (hy : y < 1000) : f_X7_reachOf N g (nI p) (nI x) (nI y) = some (reachD d p x y) := by
  have hP := h0.1.1
  obtain ⟨s1, s2⟩ := start_1 hP hp
  unfold reachD
  have hend := it_end hP (by omega) (pass_ext h0 (fun r => fitD d x r || fitD d y r) (fun r => (fitD d x r || fitD d y r) || decide (d 13 0 = 1))) s1
  have hp1 := m_pass N hN h0 h2 hx hy
  generalize passD d (fun r => fitD d x r || fitD d y r) (fun r => (fitD d x r || fitD d y r) || decide (d 13 0 = 1)) = f at hend hp1 ⊢
  have key : ∀ n j, j ≤ d 1 0 → d 1 0 < n + j → ∀ prev, (prev = itD f j (bitI p) → itD f (d 1 0) (bitI p) = itD f j (bitI p)) → (j = d 1 0 → prev = itD f j (bitI p)) → f_X7_reachOf_L8 N g (nI x) (nI y) n (itD f j (bitI p)) prev = some (itD f (d 1 0) (bitI p)) := by
    intro n
    induction n with
    | zero => intro j h h2; omega
    | succ n ih =>
      intro j hj hn prev hprev hlast
      rw [f_X7_reachOf_L8]
      by_cases c : prev = itD f j (bitI p)
      · rw [if_pos c, hprev c]
      · rw [if_neg c, hp1, k_bs]
        have hjl : j < d 1 0 := by
          rcases Nat.lt_or_ge j (d 1 0) with q | q
          · exact q
          · exact absurd (hlast (by omega)) c
        refine ih (j + 1) (by omega) (by omega) _ (fun e => ?_) (fun e => ?_)
        · have hst : f (itD f j (bitI p)) = itD f j (bitI p) := e.symm
          have h3 := it_stay hst (d 1 0 - j)
          rw [show j + (d 1 0 - j) = d 1 0 by omega] at h3
          rw [h3]
          exact e
        · have : j = d 1 0 - 1 := by omega
          subst this
          exact hend.symm
  unfold f_X7_reachOf
  have := key N 0 (Nat.zero_le _) (by omega) 0 (fun e => absurd e.symm s2) (fun e => by omega)
  rw [show f_X7_reachOf_L8 N g (nI x) (nI y) N ((1 : Int32) <<< (nI p &&& 31)) 0 = _ from this]
  rfl
theorem c_up (N : Nat) (hN : 200 < N) {t : St_} {d : Nat → Nat → Nat} {w : Nat → Int32} (h0 : TD d) (h1 : CT t d w) {x y : Nat} (hx : x < 1000) (hy : y < 1000) : f_X5_upStairs N t (nI x) (nI y) = some (setN (fun r => fitD d x r || fitD d y r) (d 2 0)) := by
  have hS := h0.1.2.1
  have e3 : t 3 0 = nI (d 2 0) := h1.1.2.1
  obtain ⟨o, hQ, e⟩ := loopI (fun n i b => f_X5_upStairs_L5 N t (nI x) (nI y) n b (nI i)) (d 2 0) (fun i b => b = setN (fun r => fitD d x r || fitD d y r) i) (fun o => o = setN (fun r => fitD d x r || fitD d y r) (d 2 0)) (fun n i b hi hb => Or.inl ⟨setN (fun r => fitD d x r || fitD d y r) (i + 1), rfl, by
    rw [show setN (fun r => fitD d x r || fitD d y r) (i + 1) = (bif (fitD d x i || fitD d y i) then setN (fun r => fitD d x r || fitD d y r) i ||| bitI i else setN (fun r => fitD d x r || fitD d y r) i) from rfl, ← hb]
    show f_X5_upStairs_L5 N t (nI x) (nI y) (n + 1) b (nI i) = f_X5_upStairs_L5 N t (nI x) (nI y) n _ (nI (i + 1))
    rw [f_X5_upStairs_L5, e3, if_neg (nI_ge hi (by omega)), c_fit N hN h0 h1 hi hx, c_fit N hN h0 h1 hi hy, k1_ad]
    simp only [k_bs, ib]
    cases fitD d x i <;> cases fitD d y i <;> rfl⟩) (fun n b hb => ⟨b, hb, by
    show f_X5_upStairs_L5 N t (nI x) (nI y) (n + 1) b (nI (d 2 0)) = some b
    rw [f_X5_upStairs_L5, e3, if_pos (Int32.le_refl _)]⟩) N 0 0 (Nat.zero_le _) (by omega) rfl
  unfold f_X5_upStairs
  rw [show f_X5_upStairs_L5 N t (nI x) (nI y) N 0 0 = some o from e, hQ]
  rfl
theorem hb_all : ∀ n, n ≤ 10 → ∀ r, r < n → hbI ((1 : Int32) <<< (nI n &&& 31) - 1) r = true := by decide +kernel
theorem c_down (N : Nat) {t : St_} {d : Nat → Nat → Nat} {w : Nat → Int32} (h0 : TD d) (h1 : CT t d w) (u : Int32) : ∃ D, f_X5_downStairs N t u = some D ∧ ∀ r, r < d 2 0 → hbI D r = (hbI u r || decide (d 13 0 = 1)) := by
  have hL := h0.1.2.2.2.1
  have e15 : t 15 0 = nI (d 13 0) := h1.2.2.2.2.2.1
  have e3 : t 3 0 = nI (d 2 0) := h1.1.2.1
  unfold f_X5_downStairs f_X5_allStairs
  rw [e15, e3]
  rcases (show d 13 0 = 0 ∨ d 13 0 = 1 by omega) with q | q
  · rw [q, if_neg (show ¬ nI 0 = (1 : Int32) by decide)]
    exact ⟨u, rfl, fun r hr => by simp⟩
  · rw [q, if_pos (show nI 1 = (1 : Int32) from rfl), k_bs]
    exact ⟨_, rfl, fun r hr => by rw [hb_all (d 2 0) h0.1.2.1 r hr]; simp⟩
theorem c_reach (N : Nat) (hN : 200 < N) {t : St_} {d : Nat → Nat → Nat} {w : Nat → Int32} (h0 : TD d) (h1 : CT t d w) {p x y : Nat} (hp : p < d 1 0) (hx : x < 1000) (hy : y < 1000) : f_X5_reachFrom N t (nI p) (nI x) (nI y) = some (reachD d p x y) := by
  have hS := h0.1.2.1
  unfold f_X5_reachFrom
  obtain ⟨D, eD, hD⟩ := c_down N h0 h1 (setN (fun r => fitD d x r || fitD d y r) (d 2 0))
  rw [c_up N hN h0 h1 hx hy, k_bs, eD, k_bs, c_spread N hN h0 h1 _ _ hp, k_bs]
  unfold reachD
  rw [passD_congr (fun r hr => ?_)]
  have hu : hbI (setN (fun r => fitD d x r || fitD d y r) (d 2 0)) r = (fitD d x r || fitD d y r) := by
    rw [hb_setN _ (by omega) (by omega)]; simp [hr]
  exact ⟨hu, by rw [hD r hr, hu]⟩
def rpD (d : Nat → Nat → Nat) (p : Nat) : Int32 := reachD d (d 10 p) (d 11 p) (d 12 p)
theorem c_rp (N : Nat) (hN : 200 < N) {t : St_} {d : Nat → Nat → Nat} {w : Nat → Int32} (h0 : TD d) (h1 : CT t d w) {p : Nat} (hp : p < d 9 0) : f_X5_reachOfPerson N t (nI p) = some (rpD d p) := by
  have hE := h0.1.2.2.1
  have hq := h0.2.2.2 p hp
  have e1 : t 10 p = nI (d 10 p) := (h1.2.2.1 p hp).1
  have e2 : t 11 p = nI (d 11 p) := (h1.2.2.1 p hp).2.1
  have e3 : t 12 p = nI (d 12 p) := (h1.2.2.1 p hp).2.2
  unfold f_X5_reachOfPerson
  rw [k_ok (by omega) (by omega), k_cl (by omega), e1, e2, e3, c_reach N hN h0 h1 hq.1 (by omega) (by omega)]
  rfl
theorem m_rp (N : Nat) (hN : 200 < N) {t : St_} {d : Nat → Nat → Nat} {w : Nat → Int32} (h0 : TD d) (h1 : MT t d w) {p : Nat} (hp : p < d 9 0) : f_X7_reachOfPerson N t (nI p) = some (rpD d p) := by
  have hE := h0.1.2.2.1
  have hq := h0.2.2.2 p hp
  obtain ⟨e1, e2, e3⟩ := h1.2.2.2.2.1 p hp
  unfold f_X7_reachOfPerson
  rw [k_ok (by omega) (by omega), k_cl (by omega), e1, e2, e3, m_reach N hN h0 h1 hq.1 (by omega) (by omega)]
  rfl
