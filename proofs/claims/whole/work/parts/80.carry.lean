-- ===== who must be carried =====
def upL (d : Nat → Nat → Nat) (c r : Nat) : Bool := climD d c r && hbI (rpD d c) (d 4 r)
def dnL (d : Nat → Nat → Nat) (c r : Nat) : Bool := (climD d c r || decide (d 13 0 = 1)) && hbI (rpD d c) (d 5 r)
theorem c_lift1 (N : Nat) (hN : 200 < N) {t : St_} {d : Nat → Nat → Nat} {w : Nat → Int32} (h0 : TD d) (h1 : CT t d w) {c : Nat} (hc : c < d 9 0) (U D : Int32) (hU : ∀ r, r < d 2 0 → hbI U r = climD d c r) (hD : ∀ r, r < d 2 0 → hbI D r = (climD d c r || decide (d 13 0 = 1))) : ∃ v, f_X5_findLifts_L76 N (nI c) U D (rpD d c) N 0 (up1 (up1 t 17 c 0) 18 c 0) = some v ∧ (∀ k, k ≠ 17 → k ≠ 18 → v k = t k) ∧ (∀ x, x ≠ c → v 17 x = t 17 x ∧ v 18 x = t 18 x) ∧ v 17 c = setN (upL d c) (d 2 0) ∧ v 18 c = setN (dnL d c) (d 2 0) := by
  have hE := h0.1.2.2.1
  have hS := h0.1.2.1
  have hP := h0.1.1
  refine loopC (fun n i a => f_X5_findLifts_L76 N (nI c) U D (rpD d c) n (nI i) a) (d 2 0) (fun i v => (∀ k, k ≠ 17 → k ≠ 18 → v k = t k) ∧ (∀ x, x ≠ c → v 17 x = t 17 x ∧ v 18 x = t 18 x) ∧ v 17 c = setN (upL d c) i ∧ v 18 c = setN (dnL d c) i) (fun i b => bif dnL d c i then up1 (bif upL d c i then up1 b 17 c (b 17 c ||| bitI i) else b) 18 c (b 18 c ||| bitI i) else (bif upL d c i then up1 b 17 c (b 17 c ||| bitI i) else b)) (fun n i b hi hb => ⟨?_, ?_⟩) (fun n b hb => ?_) (by omega) ⟨fun k q17 q18 => by rw [u_nk _ _ _ q18, u_nk _ _ _ q17], fun x hx => ⟨by rw [u_nk _ _ _ (show 17 ≠ 18 by decide), u_ne _ _ _ _ hx], by rw [u_ne _ _ _ _ hx, u_nk _ _ _ (show 18 ≠ 17 by decide)]⟩, by rw [u_nk _ _ _ (show 17 ≠ 18 by decide), u_eq]; rfl, by rw [u_eq]; rfl⟩
  · obtain ⟨b1, b2', b3, b4⟩ := hb
    have h17 : ∀ (b : St_) (y : Int32), up1 b 17 c y 18 = b 18 := fun b y => u_nk _ _ _ (by decide)
    have h18 : ∀ (b : St_) (y : Int32), up1 b 18 c y 17 = b 17 := fun b y => u_nk _ _ _ (by decide)
    have s17 : setN (upL d c) (i + 1) = bif upL d c i then setN (upL d c) i ||| bitI i else setN (upL d c) i := rfl
    have s18 : setN (dnL d c) (i + 1) = bif dnL d c i then setN (dnL d c) i ||| bitI i else setN (dnL d c) i := rfl
    rw [s17, s18]
    cases upL d c i with
    | true =>
      cases dnL d c i with
      | true =>
        simp only [cond_true]
        exact ⟨fun k q17 q18 => by rw [u_nk _ _ _ q18, u_nk _ _ _ q17]; exact b1 k q17 q18, fun x hx => ⟨by rw [h18, u_ne _ _ _ _ hx]; exact (b2' x hx).1, by rw [u_ne _ _ _ _ hx, h17]; exact (b2' x hx).2⟩, by rw [h18, u_eq, b3], by rw [u_eq, b4]⟩
      | false =>
        simp only [cond_true, cond_false]
        exact ⟨fun k q17 q18 => by rw [u_nk _ _ _ q17]; exact b1 k q17 q18, fun x hx => ⟨by rw [u_ne _ _ _ _ hx]; exact (b2' x hx).1, by rw [h17]; exact (b2' x hx).2⟩, by rw [u_eq, b3], by rw [h17]; exact b4⟩
    | false =>
      cases dnL d c i with
      | true =>
        simp only [cond_true, cond_false]
        exact ⟨fun k q17 q18 => by rw [u_nk _ _ _ q18]; exact b1 k q17 q18, fun x hx => ⟨by rw [h18]; exact (b2' x hx).1, by rw [u_ne _ _ _ _ hx]; exact (b2' x hx).2⟩, by rw [h18]; exact b3, by rw [u_eq, b4]⟩
      | false =>
        simp only [cond_false]
        exact ⟨b1, b2', b3, b4⟩
  · obtain ⟨b1, b2', b3, b4⟩ := hb
    have hq := h0.2.1 i hi
    have e3 : b 3 0 = nI (d 2 0) := by rw [b1 3 (by decide) (by decide)]; exact h1.1.2.1
    have e5 : b 5 i = nI (d 4 i) := by rw [b1 5 (by decide) (by decide)]; exact (h1.1.2.2 i hi).2.1
    have e6 : b 6 i = nI (d 5 i) := by rw [b1 6 (by decide) (by decide)]; exact (h1.1.2.2 i hi).2.2.1
    show f_X5_findLifts_L76 N (nI c) U D (rpD d c) (n + 1) (nI i) b = f_X5_findLifts_L76 N (nI c) U D (rpD d c) n (nI (i + 1)) _
    rw [f_X5_findLifts_L76, e3, if_neg (nI_ge hi (by omega)), x6_has N U (by omega), hU i hi, x6_has N D (by omega), hD i hi, k_ok (show i < 10 by omega) (by omega), k_cl (show i < 2147483648 by omega), e5, x6_has N (rpD d c) (by omega), k_ok (show c < 8 by omega) (by omega), k_cl (show c < 2147483648 by omega), k1_ad]
    simp only [k_bs, k_gd, ib]
    have J1 : (bif climD d c i then (bif hbI (rpD d c) (d 4 i) then some (up1 b 17 c (b 17 c ||| (1 : Int32) <<< (nI i &&& 31))) else some b) else some b) = some (bif upL d c i then up1 b 17 c (b 17 c ||| bitI i) else b) := by
      unfold upL
      cases climD d c i <;> cases hbI (rpD d c) (d 4 i) <;> rfl
    rw [J1, k_bs]
    have f6 : (bif upL d c i then up1 b 17 c (b 17 c ||| bitI i) else b) 6 i = nI (d 5 i) := by cases upL d c i <;> exact e6
    have f18 : (bif upL d c i then up1 b 17 c (b 17 c ||| bitI i) else b) 18 c = b 18 c := by cases upL d c i <;> rfl
    rw [f6, x6_has N (rpD d c) (by omega), f18]
    simp only [k_bs, ib]
    have J2 : (bif (climD d c i || decide (d 13 0 = 1)) then (bif hbI (rpD d c) (d 5 i) then some (up1 (bif upL d c i then up1 b 17 c (b 17 c ||| bitI i) else b) 18 c (b 18 c ||| (1 : Int32) <<< (nI i &&& 31))) else some (bif upL d c i then up1 b 17 c (b 17 c ||| bitI i) else b)) else some (bif upL d c i then up1 b 17 c (b 17 c ||| bitI i) else b)) = some (bif dnL d c i then up1 (bif upL d c i then up1 b 17 c (b 17 c ||| bitI i) else b) 18 c (b 18 c ||| bitI i) else (bif upL d c i then up1 b 17 c (b 17 c ||| bitI i) else b)) := by
      unfold dnL
      cases (climD d c i || decide (d 13 0 = 1)) <;> cases hbI (rpD d c) (d 5 i) <;> rfl
    rw [J2, k_bs]
  · show f_X5_findLifts_L76 N (nI c) U D (rpD d c) (n + 1) (nI (d 2 0)) b = some b
    have e3 : b 3 0 = nI (d 2 0) := by rw [hb.1 3 (by decide) (by decide)]; exact h1.1.2.1
    rw [f_X5_findLifts_L76, e3, if_pos (Int32.le_refl _)]
theorem c_lifts (N : Nat) (hN : 200 < N) {t : St_} {d : Nat → Nat → Nat} {w : Nat → Int32} (h0 : TD d) (h1 : CT t d w) : ∃ v, f_X5_findLifts N t = some v ∧ CT v d w ∧ ∀ c, c < d 9 0 → v 17 c = setN (upL d c) (d 2 0) ∧ v 18 c = setN (dnL d c) (d 2 0) := by
  have hE := h0.1.2.2.1
  have hP := h0.1.1
  obtain ⟨o, ⟨o1, o2⟩, e⟩ := loopI (fun n i a => f_X5_findLifts_L2 N n (nI i) a) (d 9 0) (fun i a => (∀ k, k ≠ 17 → k ≠ 18 → a k = t k) ∧ ∀ c, c < i → a 17 c = setN (upL d c) (d 2 0) ∧ a 18 c = setN (dnL d c) (d 2 0)) (fun a => (∀ k, k ≠ 17 → k ≠ 18 → a k = t k) ∧ ∀ c, c < d 9 0 → a 17 c = setN (upL d c) (d 2 0) ∧ a 18 c = setN (dnL d c) (d 2 0)) (fun n i a hi ha => by
    have hC : CT a d w := CT_congr (fun k hk => ha.1 k (by omega) (by omega)) h1
    have hq := h0.2.2.2 i hi
    have e9 : a 9 0 = nI (d 9 0) := hC.2.1
    obtain ⟨e10', e11', e12'⟩ := hC.2.2.1 i hi
    have e10 : a 10 i = nI (d 10 i) := e10'
    have e11 : a 11 i = nI (d 11 i) := e11'
    have e12 : a 12 i = nI (d 12 i) := e12'
    obtain ⟨D, u1, u2, u3, u4⟩ := c_ud N hN h0 hC (x := d 11 i) (y := d 12 i) (by omega) (by omega)
    obtain ⟨v, v1, v2, v3, v4, v5⟩ := c_lift1 N hN h0 hC hi (setN (fun r => fitD d (d 11 i) r || fitD d (d 12 i) r) (d 2 0)) D (fun r hr => (u3 r hr).1) (fun r hr => (u3 r hr).2)
    left
    refine ⟨v, ⟨fun k q17 q18 => by rw [v2 k q17 q18]; exact ha.1 k q17 q18, fun x hx => ?_⟩, ?_⟩
    · by_cases c : x = i
      · rw [c]; exact ⟨v4, v5⟩
      · rw [(v3 x c).1, (v3 x c).2]; exact ha.2 x (by omega)
    · show f_X5_findLifts_L2 N (n + 1) (nI i) a = f_X5_findLifts_L2 N n (nI (i + 1)) v
      rw [f_X5_findLifts_L2, e9, if_neg (nI_ge hi (by omega)), k_ok (show i < 8 by omega) (by omega), k_gd, k_gd, k_cl (show i < 2147483648 by omega), e10, e11, e12, u1, k_bs, u2, k_bs, u4 (d 10 i) hq.1, k_gd, k_bs, k_gd, k_gd, show f_X5_findLifts_L76 N (nI i) (setN (fun r => fitD d (d 11 i) r || fitD d (d 12 i) r) (d 2 0)) D (reachD d (d 10 i) (d 11 i) (d 12 i)) N 0 (up1 (up1 a 17 i 0) 18 i 0) = some v from v1, k_bs, k1_ad]) (fun n a ha => ⟨a, ha, by
    have e9 : a 9 0 = nI (d 9 0) := by rw [ha.1 9 (by decide) (by decide)]; exact h1.2.1
    show f_X5_findLifts_L2 N (n + 1) (nI (d 9 0)) a = some a
    rw [f_X5_findLifts_L2, e9, if_pos (Int32.le_refl _)]⟩) N 0 t (Nat.zero_le _) (by omega) ⟨fun k _ _ => rfl, fun c hc => by omega⟩
  refine ⟨o, ?_, CT_congr (fun k hk => o1 k (by omega) (by omega)) h1, o2⟩
  unfold f_X5_findLifts
  rw [show f_X5_findLifts_L2 N N 0 t = some o from e, k_bs]
def upC (d : Nat → Nat → Nat) (p s r : Nat) : Bool := climD d p r || exB (fun c => hbI (nI s) c && upL d c r) (d 9 0)
def dnC (d : Nat → Nat → Nat) (p s r : Nat) : Bool := (climD d p r || decide (d 13 0 = 1)) || exB (fun c => hbI (nI s) c && dnL d c r) (d 9 0)
def gotD (d : Nat → Nat → Nat) (p s : Nat) : Int32 := itD (passD d (upC d p s) (dnC d p s)) (d 1 0) (bitI (d 10 p))
def rchB (d : Nat → Nat → Nat) (p q s : Nat) : Bool := hbI (gotD d p s) q
def carS (d : Nat → Nat → Nat) (p q s : Nat) (a : Option Nat) : Option Nat := bif fewB s a && rchB d p q s then some s else a
def carM (d : Nat → Nat → Nat) (p q s : Nat) (a : Option Nat) : Option Nat := bif (!hbI (nI s) p && fewB s a) && rchB d p q s then some s else a
theorem c_carry (N : Nat) (hN : 200000 < N) {t : St_} {d : Nat → Nat → Nat} {w : Nat → Int32} (h0 : TD d) (h1 : CT t d w) (hl : ∀ c, c < d 9 0 → t 17 c = setN (upL d c) (d 2 0) ∧ t 18 c = setN (dnL d c) (d 2 0)) {p q : Nat} (hp : p < d 9 0) (hq : q < d 1 0) (U D : Int32) (hU : ∀ r, r < d 2 0 → hbI U r = climD d p r) (hD : ∀ r, r < d 2 0 → hbI D r = (climD d p r || decide (d 13 0 = 1))) : f_X5_fewestCarriers_L40 N t (nI p) (nI q) U D N (eO none) (nI 0) = some (eO (foldA (carS d p q) (2 ^ d 9 0) none)) := by
  have hE := h0.1.2.2.1
  have hS := h0.1.2.1
  have hP := h0.1.1
  have hat := (h0.2.2.2 p hp).1
  have e9 : t 9 0 = nI (d 9 0) := h1.2.1
  have e10 : t 10 p = nI (d 10 p) := (h1.2.2.1 p hp).1
  obtain ⟨P1, P2⟩ := p2_I (d 9 0) hE
  have P3 := p2_le hE
  refine (loopA (fun n i a => f_X5_fewestCarriers_L40 N t (nI p) (nI q) U D n (eO a) (nI i)) (2 ^ d 9 0) (carS d p q) eO (fun _ a => okO a) (fun n i a hi ha => ⟨?_, ?_⟩) (fun n a ha => ?_) N none (by omega) (fun b hb => by cases hb)).1
  · show okO (carS d p q i a)
    unfold carS
    cases (fewB i a && rchB d p q i) with
    | true => intro b hb; cases hb; omega
    | false => exact ha
  · show f_X5_fewestCarriers_L40 N t (nI p) (nI q) U D (n + 1) (eO a) (nI i) = f_X5_fewestCarriers_L40 N t (nI p) (nI q) U D n (eO (carS d p q i a)) (nI (i + 1))
    have sp : f_X5_spread N t (nI (d 10 p)) (U ||| unI (fun c => setN (upL d c) (d 2 0)) (nI i) (d 9 0)) (D ||| unI (fun c => setN (dnL d c) (d 2 0)) (nI i) (d 9 0)) = some (gotD d p i) := by
      rw [c_spread N (by omega) h0 h1 _ _ hat]
      unfold gotD
      rw [passD_congr (fun r hr => ?_)]
      unfold upC dnC
      constructor
      · rw [hb_or _ _ (by omega), hU r hr, unI_hb _ _ _ (by omega)]
        congr 1
        exact exB_congr (fun c hc => by rw [hb_setN _ (by omega) (by omega), decide_eq_true hr, Bool.true_and])
      · rw [hb_or _ _ (by omega), hD r hr, unI_hb _ _ _ (by omega)]
        congr 1
        exact exB_congr (fun c hc => by rw [hb_setN _ (by omega) (by omega), decide_eq_true hr, Bool.true_and])
    rw [f_X5_fewestCarriers_L40, e9, P1, if_neg (nI_ge hi (by omega)), c_few N (by omega) ha, k_bs, ib, c_union17 N (by omega) hE e9 (nI i) _ (fun c hc => (hl c hc).1), k_bs, c_union18 N (by omega) hE e9 (nI i) _ (fun c hc => (hl c hc).2), k_bs, k_ok (show p < 8 by omega) (by omega), k_gd, k_cl (show p < 2147483648 by omega), e10, sp, k_bs, x6_has N _ (show q < 31 by omega), k_bs, ib, k1_ad]
    unfold carS rchB
    cases fewB i a <;> cases hbI (gotD d p i) q <;> rfl
  · show f_X5_fewestCarriers_L40 N t (nI p) (nI q) U D (n + 1) (eO a) (nI (2 ^ d 9 0)) = some (eO a)
    rw [f_X5_fewestCarriers_L40, e9, P1, if_pos (Int32.le_refl _)]
-- the reference's
theorem whileD {f : Int32 → Int32} (F : Nat → Int32 → Int32 → Option Int32) (hF : ∀ n c q, F (n + 1) c q = if q = c then some c else F n (f c) c) {P : Nat} (hP : 1 ≤ P) {a : Int32} (hend : f (itD f (P - 1) a) = itD f (P - 1) a) (ha : a ≠ 0) {N : Nat} (hN : P < N) : F N a 0 = some (itD f P a) := by
  have key : ∀ n j, j ≤ P → P < n + j → ∀ prev, (prev = itD f j a → itD f P a = itD f j a) → (j = P → prev = itD f j a) → F n (itD f j a) prev = some (itD f P a) := by
    intro n
    induction n with
    | zero => intro j h h2; omega
    | succ n ih =>
      intro j hj hn prev hprev hlast
      rw [hF]
      by_cases c : prev = itD f j a
      · rw [if_pos c, hprev c]
      · rw [if_neg c]
        have hjl : j < P := by
          rcases Nat.lt_or_ge j P with q | q
          · exact q
          · exact absurd (hlast (by omega)) c
        refine ih (j + 1) (by omega) (by omega) _ (fun e => ?_) (fun e => ?_)
        · have hst : f (itD f j a) = itD f j a := e.symm
          have h3 := it_stay hst (P - j)
          rw [show j + (P - j) = P by omega] at h3
          rw [h3]
          exact e
        · have : j = P - 1 := by omega
          subst this
          exact hend.symm
  exact key N 0 (Nat.zero_le _) (by omega) 0 (fun e => absurd e.symm ha) (fun e => by omega)
def carG (d : Nat → Nat → Nat) (p s r f : Nat) : Bool := (climD d p r || (!decide (f = d 4 r) && decide (d 13 0 = 1))) || exB (fun c => hbI (nI s) c && (hbI (rpD d c) f && (climD d c r || (!decide (f = d 4 r) && decide (d 13 0 = 1))))) (d 9 0)
theorem m_isCar (N : Nat) (hN : 200 < N) {g : St_} {d : Nat → Nat → Nat} {w : Nat → Int32} (h0 : TD d) (h2 : MT g d w) (h34 : ∀ c, c < d 9 0 → g 34 c = rpD d c) {p r f : Nat} (s : Nat) (hp : p < d 9 0) (hr : r < d 2 0) (hf : f < 1000) : f_X7_isCarried N g (nI p) (nI s) (nI r) (nI f) = some (b2 (carG d p s r f)) := by
  have hE := h0.1.2.2.1
  have hS := h0.1.2.1
  have hP := h0.1.1
  have hL := h0.1.2.2.2.1
  have hq := h0.2.1 r hr
  have e4 : g 4 r = nI (d 4 r) := (h2.2.2.1 r hr).2.1
  have e9 : g 9 0 = nI (d 9 0) := h2.2.2.2.1
  have e13 : g 13 0 = nI (d 13 0) := h2.2.2.2.2.2.2.2.1
  have J1 : (if nI f = nI (d 4 r) then some (1 : Int32) else some (0 : Int32)) = some (b2 (decide (f = d 4 r))) := by
    by_cases c : f = d 4 r
    · rw [if_pos (show nI f = nI (d 4 r) by rw [c]), decide_eq_true c]; rfl
    · rw [if_neg (show ¬ nI f = nI (d 4 r) by rw [k_eq (by omega) (by omega)]; exact c), decide_eq_false c]; rfl
  have JL : (if nI (d 13 0) = (1 : Int32) then some (1 : Int32) else some (0 : Int32)) = some (b2 (decide (d 13 0 = 1))) := by
    by_cases c : d 13 0 = 1
    · rw [if_pos (show nI (d 13 0) = (1 : Int32) by rw [c]; rfl), decide_eq_true c]; rfl
    · rw [if_neg (show ¬ nI (d 13 0) = (1 : Int32) by rw [k1_eq (by omega)]; exact c), decide_eq_false c]; rfl
  unfold f_X7_isCarried carG
  rw [k_ok (show r < 10 by omega) (by omega), k_gd, k_cl (show r < 2147483648 by omega), e4, J1, k_bs, m_climb N hN h0 h2 hp hr, k_bs, e13, JL, ib, ib]
  generalize decide (f = d 4 r) = u
  have J3 : (bif climD d p r then some (1 : Int32) else bif u then some (0 : Int32) else some (b2 (decide (d 13 0 = 1)))) = some (b2 (climD d p r || (!u && decide (d 13 0 = 1)))) := by
    cases climD d p r <;> cases u <;> rfl
  rw [J3, k_bs]
  generalize (climD d p r || (!u && decide (d 13 0 = 1))) = b0
  obtain ⟨o, hQ, e⟩ := loopI (fun n i a => f_X7_isCarried_L50 N g (nI s) (nI r) (nI f) (b2 u) n a (nI i)) (d 9 0) (fun i a => a = b2 (b0 || exB (fun c => hbI (nI s) c && (hbI (rpD d c) f && (climD d c r || (!u && decide (d 13 0 = 1))))) i)) (fun o => o = b2 (b0 || exB (fun c => hbI (nI s) c && (hbI (rpD d c) f && (climD d c r || (!u && decide (d 13 0 = 1))))) (d 9 0))) (fun n i a hi ha => Or.inl ⟨_, rfl, by
    subst ha
    show f_X7_isCarried_L50 N g (nI s) (nI r) (nI f) (b2 u) (n + 1) _ (nI i) = f_X7_isCarried_L50 N g (nI s) (nI r) (nI f) (b2 u) n (b2 (b0 || (exB (fun c => hbI (nI s) c && (hbI (rpD d c) f && (climD d c r || (!u && decide (d 13 0 = 1))))) i || (hbI (nI s) i && (hbI (rpD d i) f && (climD d i r || (!u && decide (d 13 0 = 1)))))))) (nI (i + 1))
    rw [f_X7_isCarried_L50, e9, if_neg (nI_ge hi (by omega)), x7_has, k_ok (show i < 8 by omega) (by omega), k_cl (show i < 2147483648 by omega), h34 i hi, x7_has, m_climb N hN h0 h2 hi hr, e13, JL, k1_ad]
    simp only [k_bs, k_gd, ib]
    generalize exB (fun c => hbI (nI s) c && (hbI (rpD d c) f && (climD d c r || (!u && decide (d 13 0 = 1))))) i = x
    cases b0 <;> cases x <;> cases hbI (nI s) i <;> cases hbI (rpD d i) f <;> cases climD d i r <;> cases u <;> rfl⟩) (fun n a ha => ⟨a, ha, by
    show f_X7_isCarried_L50 N g (nI s) (nI r) (nI f) (b2 u) (n + 1) a (nI (d 9 0)) = some a
    rw [f_X7_isCarried_L50, e9, if_pos (Int32.le_refl _)]⟩) N 0 (b2 b0) (Nat.zero_le _) (by omega) (by show b2 b0 = b2 (b0 || false); rw [Bool.or_false])
  rw [show f_X7_isCarried_L50 N g (nI s) (nI r) (nI f) (b2 u) N (b2 b0) 0 = some o from e, hQ, k_bs, b2_B, k_gd]
theorem carG_up (d : Nat → Nat → Nat) (p s r : Nat) : carG d p s r (d 4 r) = upC d p s r := by
  unfold carG upC
  rw [decide_eq_true (rfl : d 4 r = d 4 r)]
  simp only [Bool.not_true, Bool.false_and, Bool.or_false]
  congr 1
  exact exB_congr (fun c _ => by unfold upL; rw [Bool.and_comm (hbI (rpD d c) (d 4 r))])
theorem carG_dn {d : Nat → Nat → Nat} (h0 : TD d) (p s : Nat) {r : Nat} (hr : r < d 2 0) : carG d p s r (d 5 r) = dnC d p s r := by
  have hq := (h0.2.1 r hr).2.2.2.1
  unfold carG dnC
  rw [decide_eq_false (show ¬ d 5 r = d 4 r from fun e => hq e.symm)]
  simp only [Bool.not_false, Bool.true_and]
  congr 1
  exact exB_congr (fun c _ => by unfold dnL; rw [Bool.and_comm (hbI (rpD d c) (d 5 r))])
theorem m_pass2 (N : Nat) (hN : 200 < N) {g : St_} {d : Nat → Nat → Nat} {w : Nat → Int32} (h0 : TD d) (h2 : MT g d w) (h34 : ∀ c, c < d 9 0 → g 34 c = rpD d c) {p : Nat} (s : Nat) (hp : p < d 9 0) (a : Int32) : f_X7_comesBy_L27 N g (nI p) (nI s) N a 0 = some (passD d (upC d p s) (dnC d p s) a) := by
  have hS := h0.1.2.1
  have hP := h0.1.1
  have e2 : g 2 0 = nI (d 2 0) := h2.2.1
  refine loopB (n := N) (fun n i b => f_X7_comesBy_L27 N g (nI p) (nI s) n b (nI i)) (d 2 0) (psD d (upC d p s) (dnC d p s)) id (fun n i b hi => ?_) (fun n b => ?_) (by omega) a
  · have hq := h0.2.1 i hi
    have e4 : g 4 i = nI (d 4 i) := (h2.2.2.1 i hi).2.1
    have e5 : g 5 i = nI (d 5 i) := (h2.2.2.1 i hi).2.2.1
    show f_X7_comesBy_L27 N g (nI p) (nI s) (n + 1) b (nI i) = f_X7_comesBy_L27 N g (nI p) (nI s) n (psD d (upC d p s) (dnC d p s) i b) (nI (i + 1))
    rw [f_X7_comesBy_L27, e2, if_neg (nI_ge hi (by omega)), k_ok (show i < 10 by omega) (by omega), k_cl (show i < 2147483648 by omega), e4, e5, x7_has, m_isCar N hN h0 h2 h34 s hp hi (by omega), m_isCar N hN h0 h2 h34 s hp hi (by omega), carG_up, carG_dn h0 p s hi, k1_ad]
    simp only [k_bs, k_gd, ib]
    unfold psD
    have A1 : (bif hbI b (d 4 i) then (bif upC d p s i then some ((1 : Int32) <<< (nI (d 5 i) &&& 31)) else some (0 : Int32)) else some (0 : Int32)) = some (bif upC d p s i && hbI b (d 4 i) then bitI (d 5 i) else 0) := by
      cases upC d p s i <;> cases hbI b (d 4 i) <;> rfl
    rw [A1, k_bs]
    have A2 : (b ||| (bif upC d p s i && hbI b (d 4 i) then bitI (d 5 i) else 0)) = (bif upC d p s i && hbI b (d 4 i) then b ||| bitI (d 5 i) else b) := by
      cases (upC d p s i && hbI b (d 4 i)) <;> simp
    rw [A2]
    generalize (bif upC d p s i && hbI b (d 4 i) then b ||| bitI (d 5 i) else b) = c
    rw [x7_has N c]
    simp only [k_bs, ib]
    cases dnC d p s i <;> cases hbI c (d 5 i) <;> simp [bitI, k_bs]
  · show f_X7_comesBy_L27 N g (nI p) (nI s) (n + 1) b (nI (d 2 0)) = some b
    rw [f_X7_comesBy_L27, e2, if_pos (Int32.le_refl _)]
theorem m_comes (N : Nat) (hN : 200 < N) {g : St_} {d : Nat → Nat → Nat} {w : Nat → Int32} (h0 : TD d) (h2 : MT g d w) (h34 : ∀ c, c < d 9 0 → g 34 c = rpD d c) {p q : Nat} (s : Nat) (hp : p < d 9 0) : f_X7_comesBy N g (nI p) (nI s) (nI q) = some (b2 (rchB d p q s)) := by
  have hE := h0.1.2.2.1
  have hP := h0.1.1
  have hat := (h0.2.2.2 p hp).1
  have e10 : g 10 p = nI (d 10 p) := (h2.2.2.2.2.1 p hp).1
  obtain ⟨s1, s2⟩ := start_1 hP hat
  have hend := it_end hP (by omega) (pass_ext h0 (upC d p s) (dnC d p s)) s1
  have W : f_X7_comesBy_L13 N g (nI p) (nI s) N (bitI (d 10 p)) 0 = some (gotD d p s) := by
    unfold gotD
    refine whileD (fun n c q => f_X7_comesBy_L13 N g (nI p) (nI s) n c q) (fun n c q => ?_) (by omega) hend s2 (by omega)
    show f_X7_comesBy_L13 N g (nI p) (nI s) (n + 1) c q = _
    rw [f_X7_comesBy_L13, m_pass2 N hN h0 h2 h34 s hp c, k_bs]
  unfold f_X7_comesBy
  rw [k_ok (show p < 8 by omega) (by omega), k_gd, k_cl (show p < 2147483648 by omega), e10, show f_X7_comesBy_L13 N g (nI p) (nI s) N ((1 : Int32) <<< (nI (d 10 p) &&& 31)) 0 = _ from W, k_bs, x7_has, k_bs, b2_B, k_gd]
  rfl
theorem m_reaches (N : Nat) (hN : 200 < N) {g : St_} {d : Nat → Nat → Nat} {w : Nat → Int32} (h0 : TD d) (h2 : MT g d w) : ∃ v, f_X7_carried_L35 N N 0 g = some v ∧ (∀ k, k ≠ 34 → v k = g k) ∧ ∀ c, c < d 9 0 → v 34 c = rpD d c := by
  have hE := h0.1.2.2.1
  obtain ⟨o, ⟨o1, o2⟩, e⟩ := loopI (fun n i a => f_X7_carried_L35 N n (nI i) a) (d 9 0) (fun i a => (∀ k, k ≠ 34 → a k = g k) ∧ ∀ c, c < i → a 34 c = rpD d c) (fun a => (∀ k, k ≠ 34 → a k = g k) ∧ ∀ c, c < d 9 0 → a 34 c = rpD d c) (fun n i a hi ha => Or.inl ⟨up1 a 34 i (rpD d i), ⟨fun k hk => by rw [u_nk _ _ _ hk]; exact ha.1 k hk, fun c hc => by
      by_cases q : c = i
      · rw [q, u_eq]
      · rw [u_ne _ _ _ _ q]; exact ha.2 c (by omega)⟩, by
    have hM : MT a d w := MT_congr (fun k hk => ha.1 k (by omega)) h2
    have e9 : a 9 0 = nI (d 9 0) := hM.2.2.2.1
    show f_X7_carried_L35 N (n + 1) (nI i) a = f_X7_carried_L35 N n (nI (i + 1)) _
    rw [f_X7_carried_L35, e9, if_neg (nI_ge hi (by omega)), m_rp N hN h0 hM hi, k_bs, k_ok (show i < 8 by omega) (by omega), k_gd, k_cl (show i < 2147483648 by omega), k1_ad]⟩) (fun n a ha => ⟨a, ha, by
    have e9 : a 9 0 = nI (d 9 0) := by rw [ha.1 9 (by decide)]; exact h2.2.2.2.1
    show f_X7_carried_L35 N (n + 1) (nI (d 9 0)) a = some a
    rw [f_X7_carried_L35, e9, if_pos (Int32.le_refl _)]⟩) N 0 g (Nat.zero_le _) (by omega) ⟨fun k _ => rfl, fun c hc => by omega⟩
  exact ⟨o, e, o1, o2⟩
theorem m_carry (N : Nat) (hN : 200000 < N) {g : St_} {d : Nat → Nat → Nat} {w : Nat → Int32} (h0 : TD d) (h2 : MT g d w) (h34 : ∀ c, c < d 9 0 → g 34 c = rpD d c) {p q : Nat} (hp : p < d 9 0) : f_X7_carried_L69 N g (nI p) (nI q) N (eO none) (nI 0) = some (eO (foldA (carM d p q) (2 ^ d 9 0) none)) := by
  have hE := h0.1.2.2.1
  have e9 : g 9 0 = nI (d 9 0) := h2.2.2.2.1
  obtain ⟨P1, P2⟩ := p2_I (d 9 0) hE
  have P3 := p2_le hE
  refine (loopA (fun n i a => f_X7_carried_L69 N g (nI p) (nI q) n (eO a) (nI i)) (2 ^ d 9 0) (carM d p q) eO (fun _ a => okO a) (fun n i a hi ha => ⟨?_, ?_⟩) (fun n a ha => ?_) N none (by omega) (fun b hb => by cases hb)).1
  · show okO (carM d p q i a)
    unfold carM
    cases ((!hbI (nI i) p && fewB i a) && rchB d p q i) with
    | true => intro b hb; cases hb; omega
    | false => exact ha
  · show f_X7_carried_L69 N g (nI p) (nI q) (n + 1) (eO a) (nI i) = f_X7_carried_L69 N g (nI p) (nI q) n (eO (carM d p q i a)) (nI (i + 1))
    rw [f_X7_carried_L69, e9, P1, if_neg (nI_ge hi (by omega)), x7_has, k_bs, m_few N (by omega) (by omega) ha, ib, m_comes N (by omega) h0 h2 h34 i hp, k1_ad]
    unfold carM
    have J : (bif hbI (nI i) p then some (0 : Int32) else some (b2 (fewB i a))) = some (b2 (!hbI (nI i) p && fewB i a)) := by
      cases hbI (nI i) p <;> rfl
    rw [J, k_bs, ib, k_bs, ib]
    cases (!hbI (nI i) p && fewB i a) <;> cases rchB d p q i <;> rfl
  · show f_X7_carried_L69 N g (nI p) (nI q) (n + 1) (eO a) (nI (2 ^ d 9 0)) = some (eO a)
    rw [f_X7_carried_L69, e9, P1, if_pos (Int32.le_refl _)]
-- the one who is carried is never among the carriers
theorem hb_test {s c : Nat} (hs : s < 2147483648) (hc : c < 31) : hbI (nI s) c = s.testBit c := by
  rw [hbI_iff _ hc]
  show (BitVec.ofNat 32 s).getLsbD c = _
  rw [BitVec.getLsbD_ofNat, decide_eq_true (show c < 32 by omega), Bool.true_and]
theorem less_p {s p : Nat} (hs : s < 256) (hp : p < 8) (h : hbI (nI s) p = true) : ∃ s', s' < s ∧ (∀ c, c < 8 → hbI (nI s') c = (hbI (nI s) c && !decide (c = p))) ∧ bc s' < bc s := by
  obtain ⟨k, hk, e⟩ := set_sm (fun c => hbI (nI s) c && !decide (c = p)) (n := 8) (by decide)
  have hbk : ∀ c, c < 31 → hbI (nI k) c = (decide (c < 8) && (hbI (nI s) c && !decide (c = p))) := fun c hc => by rw [← e, hb_setN _ (by decide) hc]
  refine ⟨k, ?_, fun c hc => by rw [hbk c (by omega), decide_eq_true hc, Bool.true_and], ?_⟩
  · have hks : k &&& s = k := Nat.eq_of_testBit_eq (fun j => by
      rw [Nat.testBit_and]
      rcases Nat.lt_or_ge j 8 with q | q
      · rw [← hb_test (by omega) (by omega), ← hb_test (by omega) (by omega), hbk j (by omega), decide_eq_true q, Bool.true_and]
        cases hbI (nI s) j <;> cases decide (j = p) <;> decide
      · rw [Nat.testBit_lt_two_pow (Nat.lt_of_lt_of_le hk (Nat.pow_le_pow_right (by decide) q)), Bool.false_and])
    have hle : k &&& s ≤ s := Nat.and_le_right
    rw [hks] at hle
    refine Nat.lt_of_le_of_ne hle (fun e2 => ?_)
    have h1 : hbI (nI k) p = false := by
      rw [hbk p (by omega)]
      simp
    rw [e2, h] at h1
    cases h1
  · unfold bc
    refine cB_lt (i := p) (fun c hc q => ?_) (by omega) ?_ h
    · rw [hbk c (by omega), Bool.and_eq_true, Bool.and_eq_true] at q
      exact q.2.1
    · rw [hbk p (by omega)]
      simp
theorem rch_less {d : Nat → Nat → Nat} (h0 : TD d) {p s s' : Nat} (q : Nat) (hc : ∀ c, c < 8 → hbI (nI s') c = (hbI (nI s) c && !decide (c = p))) : rchB d p q s' = rchB d p q s := by
  have hE := h0.1.2.2.1
  have gen : ∀ (b : Bool) (L : Nat → Bool), (L p = true → b = true) → (b || exB (fun c => hbI (nI s') c && L c) (d 9 0)) = (b || exB (fun c => hbI (nI s) c && L c) (d 9 0)) := by
    intro b L hL
    cases hb : b with
    | true => rw [Bool.true_or, Bool.true_or]
    | false =>
      rw [Bool.false_or, Bool.false_or]
      refine exB_congr (fun c hcE => ?_)
      rw [hc c (by omega)]
      by_cases e : c = p
      · have : L p = false := Bool.eq_false_iff.mpr (fun z => by rw [hL z] at hb; cases hb)
        rw [e, this, Bool.and_false, Bool.and_false]
      · rw [decide_eq_false e, Bool.not_false, Bool.and_true]
  unfold rchB gotD
  rw [passD_congr (u1 := upC d p s') (d1 := dnC d p s') (u2 := upC d p s) (d2 := dnC d p s) (fun r hr => ⟨?_, ?_⟩)]
  · unfold upC
    refine gen _ (fun c => upL d c r) (fun z => ?_)
    unfold upL at z
    rw [Bool.and_eq_true] at z
    exact z.1
  · unfold dnC
    refine gen _ (fun c => dnL d c r) (fun z => ?_)
    unfold dnL at z
    rw [Bool.and_eq_true] at z
    exact z.1
theorem car_same {d : Nat → Nat → Nat} (h0 : TD d) {p : Nat} (hp : p < d 9 0) (q : Nat) : ∀ k, k ≤ 256 → foldA (carS d p q) k none = foldA (carM d p q) k none ∧ ∀ s, s < k → rchB d p q s = true → ∃ b, foldA (carS d p q) k none = some b ∧ bc b ≤ bc s := by
  have hE := h0.1.2.2.1
  intro k
  induction k with
  | zero => intro _; exact ⟨rfl, fun s hs => by omega⟩
  | succ k ih =>
    intro hk
    obtain ⟨i1, i2⟩ := ih (by omega)
    have f1 : foldA (carS d p q) (k + 1) none = carS d p q k (foldA (carS d p q) k none) := rfl
    have f2 : foldA (carM d p q) (k + 1) none = carM d p q k (foldA (carM d p q) k none) := rfl
    rw [f1, f2, ← i1]
    generalize foldA (carS d p q) k none = a at i2
    have inv : ∀ s, s < k + 1 → rchB d p q s = true → ∃ b, carS d p q k a = some b ∧ bc b ≤ bc s := by
      intro s hs hr
      unfold carS
      cases hf : fewB k a with
      | true =>
        cases hrk : rchB d p q k with
        | true =>
          refine ⟨k, rfl, ?_⟩
          rcases Nat.lt_or_ge s k with z | z
          · obtain ⟨b, e1, e2⟩ := i2 s z hr
            rw [e1] at hf
            have := of_decide_eq_true (show decide (bc k < bc b) = true from hf)
            omega
          · have : s = k := by omega
            subst this
            exact Nat.le_refl _
        | false =>
          rcases Nat.lt_or_ge s k with z | z
          · exact i2 s z hr
          · have : s = k := by omega
            subst this
            rw [hr] at hrk
            cases hrk
      | false =>
        rcases Nat.lt_or_ge s k with z | z
        · exact i2 s z hr
        · have : s = k := by omega
          subst this
          cases a with
          | none => cases hf
          | some b =>
            have := of_decide_eq_false (show decide (bc s < bc b) = false from hf)
            exact ⟨b, rfl, by omega⟩
    refine ⟨?_, inv⟩
    unfold carS carM
    cases hpk : hbI (nI k) p with
    | false => rw [Bool.not_false, Bool.true_and]
    | true =>
      rw [Bool.not_true, Bool.false_and, Bool.false_and, cond_false]
      obtain ⟨s', l1, l2, l3⟩ := less_p (by omega) (by omega) hpk
      cases hr : rchB d p q k with
      | false => rw [Bool.and_false]; rfl
      | true =>
        have hr' : rchB d p q s' = true := by rw [rch_less h0 q l2]; exact hr
        obtain ⟨b, e1, e2⟩ := i2 s' l1 hr'
        have : fewB k a = false := by
          rw [e1]
          exact decide_eq_false (by omega)
        rw [this]
        rfl
theorem okO_fold {d : Nat → Nat → Nat} (p q : Nat) : ∀ k, k ≤ 256 → okO (foldA (carS d p q) k none) := by
  intro k
  induction k with
  | zero => intro _ b hb; cases hb
  | succ k ih =>
    intro hk
    have i := ih (by omega)
    show okO (carS d p q k (foldA (carS d p q) k none))
    revert i
    generalize foldA (carS d p q) k none = a
    intro i
    unfold carS
    cases (fewB k a && rchB d p q k) with
    | true => intro b hb; cases hb; omega
    | false => exact i
theorem pa_carried (N : Nat) (hN : 200000 < N) : PA_carried N Rel := by
  intro g1 g2 hR z0 z1 z2
  have hR0 := hR
  obtain ⟨d, w, h0, h1, h2, h3, h4, h5, h6, h7⟩ := hR
  have hE := h0.1.2.2.1
  have P3 := p2_le hE
  unfold f_X6_carried f_X7_carried
  rcases b_person N h0 (t := sh_ 34 g1) h1.2 h2 z0 with ⟨p, hp, rfl, p1, p2⟩ | ⟨p1, p2⟩
  · rcases b_place N h0 (t := sh_ 27 g1) h1.1 h2 z1 with ⟨q, hq, rfl, p3, p4⟩ | ⟨p3, p4⟩
    · rw [p1, p2, p3, p4]
      simp only [k_bs, k_10, if_false]
      rcases k_inC N (x := z2) 0 1 (by decide) (by decide) with ⟨j, hj0, hj, rfl, h⟩ | ⟨h, h9⟩
      · rw [show (0 : Int64) = (nI 0).toInt64 from rfl, show (1 : Int64) = (nI 1).toInt64 from rfl, h]
        have J : (if nI j = 0 then (some (Sum.inr ())) else (if nI j = (1 : Int32) then (some (Sum.inr ())) else (some (Sum.inl ((-1000000002 : Int32), g1)))) : Option ((Int32 × St_) ⊕ Unit)) = some (Sum.inr ()) := by
          rcases (show j = 0 ∨ j = 1 by omega) with rfl | rfl <;> rfl
        rw [J]
        simp only [k_bs, k_sr, k_10, if_false]
        obtain ⟨v, c1, c2, c3⟩ := c_lifts N (by omega) h0 h1
        obtain ⟨e10', e11', e12'⟩ := c2.2.2.1 p hp
        have e11 : v 11 p = nI (d 11 p) := e11'
        have e12 : v 12 p = nI (d 12 p) := e12'
        have hpq := h0.2.2.2 p hp
        obtain ⟨D, u1, u2, u3, u4⟩ := c_ud N (by omega) h0 c2 (x := d 11 p) (y := d 12 p) (by omega) (by omega)
        obtain ⟨x, m1, m2, m3⟩ := m_reaches N (by omega) h0 h2
        have hM : MT x d w := MT_congr (fun k hk => m2 k (by omega)) h2
        have CC := c_carry N hN h0 c2 c3 hp hq (setN (fun r => fitD d (d 11 p) r || fitD d (d 12 p) r) (d 2 0)) D (fun r hr => (u3 r hr).1) (fun r hr => (u3 r hr).2)
        have MM := m_carry N hN h0 hM m3 (q := q) hp
        rw [← (car_same h0 hp q (2 ^ d 9 0) P3).1] at MM
        have ok := okO_fold (d := d) p q (2 ^ d 9 0) P3
        have hfc : f_X5_fewestCarriers N (sh_ 26 g1) (nI p) (nI q) = some (eO (foldA (carS d p q) (2 ^ d 9 0) none), v) := by
          unfold f_X5_fewestCarriers
          rw [c1, k_bs, k_ok (show p < 8 by omega) (by omega), k_gd, k_gd, k_cl (show p < 2147483648 by omega), e11, e12, u1, k_bs, u2, k_bs, show f_X5_fewestCarriers_L40 N v (nI p) (nI q) (setN (fun r => fitD d (d 11 p) r || fitD d (d 12 p) r) (d 2 0)) D N (-1) 0 = _ from CC, k_bs]
        have hrel : Rel (pu_ 26 19 g1 v) x := Rel_of h3 h4 h5 h6 h7 (fun k hk => pu_out g1 v hk) ⟨m2 15 (by decide), m2 16 (by decide), m2 17 (by decide), m2 35 (by decide), m2 36 (by decide), m2 37 (by decide), m2 38 (by decide), m2 39 (by decide), m2 40 (by decide), m2 41 (by decide), m2 43 (by decide), m2 44 (by decide)⟩ (SP.rf d) h0 c2 hM
        rw [hfc, m1, k_bs, k_bs, show f_X7_carried_L69 N x (nI p) (nI q) N (-1) 0 = _ from MM, k_bs]
        cases hfold : foldA (carS d p q) (2 ^ d 9 0) none with
        | none =>
          rw [if_pos (show eO none = -1 from rfl), if_pos (show eO none < 0 by decide)]
          exact ⟨_, _, _, rfl, rfl, hrel⟩
        | some b =>
          have hb := ok b hfold
          rw [if_neg (show ¬ eO (some b) = -1 by show ¬ nI b = -1; rw [k_m1 (by omega)]; exact fun h => h), if_neg (show ¬ eO (some b) < 0 from nI_pos (show b < 2 ^ 31 by omega))]
          by_cases j1 : j = 1
          · rw [if_pos (show nI j = (1 : Int32) by rw [j1]; rfl), if_pos (show nI j = (1 : Int32) by rw [j1]; rfl)]
            exact ⟨_, _, _, rfl, rfl, hrel⟩
          · rw [if_neg (show ¬ nI j = (1 : Int32) by rw [k1_eq (by omega)]; exact j1), if_neg (show ¬ nI j = (1 : Int32) by rw [k1_eq (by omega)]; exact j1), show f_J6_bitCount_0f7a4 N (eO (some b)) = _ from c_bits8 N hb, m_bits N (by omega), k_bs, k_bs]
            exact ⟨_, _, _, rfl, rfl, hrel⟩
      · rw [show (0 : Int64) = (nI 0).toInt64 from rfl, show (1 : Int64) = (nI 1).toInt64 from rfl, h9]
        have y0 : ¬ z2 = 0 := fun e => by subst e; revert h; decide
        have y1 : ¬ z2 = 1 := fun e => by subst e; revert h; decide
        rw [if_neg y0, if_neg y1]
        exact ⟨_, _, _, rfl, rfl, hR0⟩
    · rw [p1, p2, p3, p4]
      exact ⟨_, _, _, rfl, rfl, hR0⟩
  · rw [p1, p2]
    exact ⟨_, _, _, rfl, rfl, hR0⟩
