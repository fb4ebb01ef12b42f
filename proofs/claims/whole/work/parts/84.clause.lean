-- ===== the draft of both, and a clause =====
def DG (p s k l h n w a f g t : Nat → Int32) (e : Nat → Nat → Nat) : Prop := p 0 = nI (e 1 0) ∧ s 0 = nI (e 2 0) ∧ (∀ r, r < e 2 0 → k r = nI (e 3 r) ∧ l r = nI (e 4 r) ∧ h r = nI (e 5 r) ∧ n r = nI (e 6 r)) ∧ w 0 = nI (e 9 0) ∧ (∀ p, p < e 9 0 → a p = nI (e 10 p) ∧ f p = nI (e 11 p) ∧ g p = nI (e 12 p)) ∧ (∀ r i, r < e 2 0 → i < e 6 r → t (3 * r + i) = nI (e 7 (3 * r + i)))
def DC (c : St_) (e : Nat → Nat → Nat) : Prop := DG (c 6) (c 7) (c 8) (c 9) (c 10) (c 11) (c 13) (c 14) (c 15) (c 16) (c 17) e
def DM (m : St_) (e : Nat → Nat → Nat) : Prop := DG (m 23) (m 24) (m 25) (m 26) (m 27) (m 28) (m 30) (m 31) (m 32) (m 33) (m 29) e
theorem DC_congr {c c' : St_} {e : Nat → Nat → Nat} (H : ∀ k, 6 ≤ k → k ≤ 17 → c' k = c k) (h : DC c e) : DC c' e := by
  unfold DC
  rw [H 6 (by decide) (by decide), H 7 (by decide) (by decide), H 8 (by decide) (by decide), H 9 (by decide) (by decide), H 10 (by decide) (by decide), H 11 (by decide) (by decide), H 13 (by decide) (by decide), H 14 (by decide) (by decide), H 15 (by decide) (by decide), H 16 (by decide) (by decide), H 17 (by decide) (by decide)]
  exact h
theorem DM_congr {c c' : St_} {e : Nat → Nat → Nat} (H : ∀ k, 23 ≤ k → k ≤ 33 → c' k = c k) (h : DM c e) : DM c' e := by
  unfold DM
  rw [H 23 (by decide) (by decide), H 24 (by decide) (by decide), H 25 (by decide) (by decide), H 26 (by decide) (by decide), H 27 (by decide) (by decide), H 28 (by decide) (by decide), H 30 (by decide) (by decide), H 31 (by decide) (by decide), H 32 (by decide) (by decide), H 33 (by decide) (by decide), H 29 (by decide) (by decide)]
  exact h
def plE (e : Nat → Nat → Nat) (v : Nat) : Nat → Nat → Nat := fun k => bif Nat.beq k 1 then (fun _ => v) else e k
def stE (e : Nat → Nat → Nat) (kd a b q : Nat) (st : Nat → Nat) : Nat → Nat → Nat := fun k => bif Nat.beq k 2 then (fun _ => e 2 0 + 1) else bif Nat.beq k 3 then (fun x => if x = e 2 0 then kd else e 3 x) else bif Nat.beq k 4 then (fun x => if x = e 2 0 then a else e 4 x) else bif Nat.beq k 5 then (fun x => if x = e 2 0 then b else e 5 x) else bif Nat.beq k 6 then (fun x => if x = e 2 0 then q else e 6 x) else bif Nat.beq k 7 then (fun x => if x < 3 * e 2 0 then e 7 x else st (x - 3 * e 2 0)) else e k
def peE (e : Nat → Nat → Nat) (a f g : Nat) : Nat → Nat → Nat := fun k => bif Nat.beq k 9 then (fun _ => e 9 0 + 1) else bif Nat.beq k 10 then (fun x => if x = e 9 0 then a else e 10 x) else bif Nat.beq k 11 then (fun x => if x = e 9 0 then f else e 11 x) else bif Nat.beq k 12 then (fun x => if x = e 9 0 then g else e 12 x) else e k
theorem TD_0 {e : Nat → Nat → Nat} (h0 : TD e) (hp : e 1 0 = 0) : e 2 0 = 0 ∧ e 9 0 = 0 := by
  constructor
  · rcases Nat.eq_zero_or_pos (e 2 0) with h | h
    · exact h
    · have := (h0.2.1 0 h).2.1
      omega
  · rcases Nat.eq_zero_or_pos (e 9 0) with h | h
    · exact h
    · have := (h0.2.2.2 0 h).1
      omega
theorem TD_pl {e : Nat → Nat → Nat} (h0 : TD e) (hp : e 1 0 = 0) {v : Nat} (hv : v ≤ 8) : TD (plE e v) := by
  obtain ⟨h2, h9⟩ := TD_0 h0 hp
  refine ⟨⟨hv, h0.1.2⟩, fun r hr => ?_, fun r i hr => ?_, fun p hp => ?_⟩
  · have : r < e 2 0 := hr
    omega
  · have : r < e 2 0 := hr
    omega
  · have : p < e 9 0 := hp
    omega
theorem TD_st {e : Nat → Nat → Nat} (h0 : TD e) (hr : e 2 0 < 10) {kd a b q : Nat} {st : Nat → Nat} (hk : kd ≤ 2) (ha : a < e 1 0) (hb : b < e 1 0) (hab : a ≠ b) (hq : 1 ≤ q) (hq3 : q ≤ 3) (hst : ∀ x, x < q → 1 ≤ st x ∧ st x ≤ 720) : TD (stE e kd a b q st) := by
  refine ⟨⟨h0.1.1, (show e 2 0 + 1 ≤ 10 by omega), h0.1.2.2⟩, fun r hr => ?_, fun r i hr hi => ?_, h0.2.2.2⟩
  · have hr' : r < e 2 0 + 1 := hr
    show (if r = e 2 0 then kd else e 3 r) ≤ 2 ∧ (if r = e 2 0 then a else e 4 r) < e 1 0 ∧ (if r = e 2 0 then b else e 5 r) < e 1 0 ∧ (if r = e 2 0 then a else e 4 r) ≠ (if r = e 2 0 then b else e 5 r) ∧ 1 ≤ (if r = e 2 0 then q else e 6 r) ∧ (if r = e 2 0 then q else e 6 r) ≤ 3
    by_cases c : r = e 2 0
    · simp only [if_pos c]
      exact ⟨hk, ha, hb, hab, hq, hq3⟩
    · simp only [if_neg c]
      exact h0.2.1 r (by omega)
  · have hr' : r < e 2 0 + 1 := hr
    have hi' : i < (if r = e 2 0 then q else e 6 r) := hi
    show 1 ≤ (if 3 * r + i < 3 * e 2 0 then e 7 (3 * r + i) else st (3 * r + i - 3 * e 2 0)) ∧ (if 3 * r + i < 3 * e 2 0 then e 7 (3 * r + i) else st (3 * r + i - 3 * e 2 0)) ≤ 720
    by_cases c : r = e 2 0
    · rw [if_pos c] at hi'
      rw [if_neg (show ¬ 3 * r + i < 3 * e 2 0 by omega), show 3 * r + i - 3 * e 2 0 = i by omega]
      exact hst i hi'
    · rw [if_neg c] at hi'
      have := (h0.2.1 r (by omega)).2.2.2.2.2
      rw [if_pos (show 3 * r + i < 3 * e 2 0 by omega)]
      exact h0.2.2.1 r i (by omega) hi'
theorem TD_pe {e : Nat → Nat → Nat} (h0 : TD e) (hE : e 9 0 < 8) {a f g : Nat} (ha : a < e 1 0) (hf : 1 ≤ f) (hf2 : f ≤ 24) (hg : g ≤ 24) : TD (peE e a f g) := by
  refine ⟨⟨h0.1.1, h0.1.2.1, (show e 9 0 + 1 ≤ 8 by omega), h0.1.2.2.2⟩, h0.2.1, h0.2.2.1, fun x hx => ?_⟩
  have hx' : x < e 9 0 + 1 := hx
  show (if x = e 9 0 then a else e 10 x) < e 1 0 ∧ 1 ≤ (if x = e 9 0 then f else e 11 x) ∧ (if x = e 9 0 then f else e 11 x) ≤ 24 ∧ (if x = e 9 0 then g else e 12 x) ≤ 24
  by_cases c : x = e 9 0
  · simp only [if_pos c]
    exact ⟨ha, hf, hf2, hg⟩
  · simp only [if_neg c]
    exact h0.2.2.2 x (by omega)
theorem DG_pl {p s k l h n w a f g t : Nat → Int32} {e : Nat → Nat → Nat} (hD : DG p s k l h n w a f g t e) {p' : Nat → Int32} {v : Nat} (hp : p' 0 = nI v) : DG p' s k l h n w a f g t (plE e v) := ⟨hp, hD.2⟩
theorem DG_st {p s k l h n w a f g t s' k' l' h' n' t' : Nat → Int32} {e : Nat → Nat → Nat} (h0 : TD e) (hD : DG p s k l h n w a f g t e) {kd v1 v2 q : Nat} {st : Nat → Nat} (e1 : s' 0 = nI (e 2 0 + 1)) (e2 : k' (e 2 0) = nI kd ∧ ∀ x, x ≠ e 2 0 → k' x = k x) (e3 : l' (e 2 0) = nI v1 ∧ ∀ x, x ≠ e 2 0 → l' x = l x) (e4 : h' (e 2 0) = nI v2 ∧ ∀ x, x ≠ e 2 0 → h' x = h x) (e5 : n' (e 2 0) = nI q ∧ ∀ x, x ≠ e 2 0 → n' x = n x) (e6 : ∀ x, x < q → t' (3 * e 2 0 + x) = nI (st x)) (e7 : ∀ x, x < 3 * e 2 0 → t' x = t x) : DG p s' k' l' h' n' w a f g t' (stE e kd v1 v2 q st) := by
  refine ⟨hD.1, e1, fun r hr => ?_, hD.2.2.2.1, hD.2.2.2.2.1, fun r i hr hi => ?_⟩
  · have hr' : r < e 2 0 + 1 := hr
    show k' r = nI (if r = e 2 0 then kd else e 3 r) ∧ l' r = nI (if r = e 2 0 then v1 else e 4 r) ∧ h' r = nI (if r = e 2 0 then v2 else e 5 r) ∧ n' r = nI (if r = e 2 0 then q else e 6 r)
    by_cases c : r = e 2 0
    · simp only [if_pos c]
      rw [c]
      exact ⟨e2.1, e3.1, e4.1, e5.1⟩
    · simp only [if_neg c]
      rw [e2.2 r c, e3.2 r c, e4.2 r c, e5.2 r c]
      exact hD.2.2.1 r (by omega)
  · have hr' : r < e 2 0 + 1 := hr
    have hi' : i < (if r = e 2 0 then q else e 6 r) := hi
    show t' (3 * r + i) = nI (if 3 * r + i < 3 * e 2 0 then e 7 (3 * r + i) else st (3 * r + i - 3 * e 2 0))
    by_cases c : r = e 2 0
    · rw [if_pos c] at hi'
      rw [if_neg (show ¬ 3 * r + i < 3 * e 2 0 by omega), show 3 * r + i - 3 * e 2 0 = i by omega, c]
      exact e6 i hi'
    · rw [if_neg c] at hi'
      have := (h0.2.1 r (by omega)).2.2.2.2.2
      rw [if_pos (show 3 * r + i < 3 * e 2 0 by omega), e7 _ (by omega)]
      exact hD.2.2.2.2.2 r i (by omega) hi'
theorem DG_pe {p s k l h n w a f g t w' a' f' g' : Nat → Int32} {e : Nat → Nat → Nat} (hD : DG p s k l h n w a f g t e) {v1 v2 v3 : Nat} (e1 : w' 0 = nI (e 9 0 + 1)) (e2 : a' (e 9 0) = nI v1 ∧ ∀ x, x ≠ e 9 0 → a' x = a x) (e3 : f' (e 9 0) = nI v2 ∧ ∀ x, x ≠ e 9 0 → f' x = f x) (e4 : g' (e 9 0) = nI v3 ∧ ∀ x, x ≠ e 9 0 → g' x = g x) : DG p s k l h n w' a' f' g' t (peE e v1 v2 v3) := by
  refine ⟨hD.1, hD.2.1, hD.2.2.1, e1, fun x hx => ?_, hD.2.2.2.2.2⟩
  have hx' : x < e 9 0 + 1 := hx
  show a' x = nI (if x = e 9 0 then v1 else e 10 x) ∧ f' x = nI (if x = e 9 0 then v2 else e 11 x) ∧ g' x = nI (if x = e 9 0 then v3 else e 12 x)
  by_cases c : x = e 9 0
  · simp only [if_pos c]
    rw [c]
    exact ⟨e2.1, e3.1, e4.1⟩
  · simp only [if_neg c]
    rw [e2.2 x c, e3.2 x c, e4.2 x c]
    exact hD.2.2.2.2.1 x (by omega)
/-- what a clause leaves behind -/
def Out (T : Nat) (tx : Nat → Nat) (e : Nat → Nat → Nat) (i : Nat) (m c' : St_) (f : Int32) (m' : St_) : Prop := TC c' T tx ∧ TM m' T tx ∧ FMr m m' ∧ ((f = 0 ∧ c' 2 0 = 0 ∧ m' 17 0 = m 17 0 ∧ ∃ e' j, i < j ∧ j ≤ T ∧ TD e' ∧ DC c' e' ∧ DM m' e' ∧ c' 24 0 = nI j ∧ m' 18 0 = nI j ∧ e' 13 = e 13 ∧ e' 14 = e 14) ∨ ∃ k, f = nI k ∧ Bad c' m' k)
theorem Out.bad {T : Nat} {tx : Nat → Nat} {e : Nat → Nat → Nat} {i : Nat} {c m c' m' : St_} {k : Nat} (hc : TC c T tx) (hm : TM m T tx) (h1 : FCr c c') (h2 : FMr m m') (h : Bad c' m' k) : Out T tx e i m c' (nI k) m' := ⟨hc.to h1.1 h1.2, hm.to (h2 16 (by decide)) (h2 15 (by decide)), h2, Or.inr ⟨k, rfl, h⟩⟩
theorem Out.base {T : Nat} {tx : Nat → Nat} {e : Nat → Nat → Nat} {i i0 : Nat} {m m0 c' m' : St_} {f : Int32} (h : Out T tx e i m c' f m') (h1 : FMr m0 m) (h2 : m 17 = m0 17) (hi : i0 ≤ i) : Out T tx e i0 m0 c' f m' := by
  obtain ⟨a1, a2, a3, a4⟩ := h
  refine ⟨a1, a2, fun k hk => (a3 k hk).trans (h1 k hk), ?_⟩
  rcases a4 with ⟨b1, b2', b3, e', j, b4, b5⟩ | b
  · exact Or.inl ⟨b1, b2', by rw [b3, h2], e', j, by omega, b5⟩
  · exact Or.inr b
def tailM (N : Nat) (j : Int32 × St_ × Int64) : Option (Int32 × St_ × Int64) := if j.1 = 0 then (Option.bind (f_X7_here N j.2.1) (fun (r22 : (Int32 × St_)) => if r22.1 = (59 : Int32) then (some (j.1, (up1 r22.2 18 0 ((r22.2 18 0) + (1 : Int32))), j.2.2)) else (Option.bind (f_X7_fails N r22.2 (1 : Int32) (r22.2 18 0)) (fun (r23 : (Int32 × St_)) => some (r23.1, r23.2, j.2.2))))) else (some (j.1, (up1 j.2.1 18 0 ((j.2.1 18 0) + (1 : Int32))), j.2.2))
theorem tail_ok (N : Nat) {m m1 : St_} (sg : Int64) (h : f_X7_here N m = some (59, m1)) : tailM N (0, m, sg) = some (0, up1 m1 18 0 (m1 18 0 + 1), sg) := by
  unfold tailM
  dsimp only
  rw [if_pos rfl, h, k_bs]
  dsimp only
  rw [if_pos rfl]
theorem tail_no (N : Nat) {m m1 : St_} {v : Int32} (sg : Int64) (h : f_X7_here N m = some (v, m1)) (hv : ¬ v = 59) : tailM N (0, m, sg) = some (nI 1, up1 m1 17 0 (m1 18 0), sg) := by
  unfold tailM
  dsimp only
  rw [if_pos rfl, h, k_bs]
  dsimp only
  rw [if_neg hv]
  rfl
theorem tail_bad (N : Nat) (m : St_) (sg : Int64) {k : Nat} (h1 : 1 ≤ k) (h4 : k ≤ 4) : tailM N (nI k, m, sg) = some (nI k, up1 m 18 0 (m 18 0 + 1), sg) := by
  unfold tailM
  dsimp only
  rw [if_neg (show ¬ nI k = 0 by rw [k_e0 (by omega)]; omega)]
theorem k_m11 : ((-1 : Int32) = -1) = True := eq_true rfl
theorem FMr.up {m m' : St_} (h : FMr m m') {a : Nat} (j : Nat) (v : Int32) (ha : 17 ≤ a) (hb : a < 34) : FMr m (up1 m' a j v) := fun k hk => by rw [u_nk _ _ _ (by omega)]; exact h k hk
theorem FMr.f4 {m m' : St_} (h : F4 m m') : FMr m m' := fun k hk => h k (by omega) (by omega) (by omega) (by omega)
theorem FMr.tr {a b c : St_} (h : FMr a b) (g : FMr b c) : FMr a c := fun k hk => (g k hk).trans (h k hk)
theorem FCr.f3 {c c' : St_} (h : F3 c c') : FCr c c' := ⟨h 1 (by decide) (by decide) (by decide), h 23 (by decide) (by decide) (by decide)⟩
theorem FCr.fc {c c' : St_} (h : FC c c') : FCr c c' := ⟨h 1 (by decide), h 23 (by decide)⟩
theorem FCr.tr {a b c : St_} (h : FCr a b) (g : FCr b c) : FCr a c := ⟨g.1.trans h.1, g.2.trans h.2⟩
theorem cl_places (N : Nat) (hN : 1000 < N) {T : Nat} {tx : Nat → Nat} (hT : TX T tx) {i : Nat} {c m : St_} {e : Nat → Nat → Nat} (hi : i ≤ T) (hc : TC c T tx) (hm : TM m T tx) (ac : c 24 0 = nI i) (am : m 18 0 = nI i) (c20 : c 2 0 = 0) (h0 : TD e) (hC : DC c e) (hM : DM m e) (hp : e 1 0 = 0) (sg : Int64) : ∃ c' f m', f_X4_readPlaces N c = some c' ∧ Option.bind (Option.bind (f_X7_takeNumber N m 1 8) (fun r21 => some (r21.1, up1 r21.2 23 0 (r21.2 21 0), sg))) (tailM N) = some (f, m', sg) ∧ Out T tx e i m c' f m' := by
  have hsi := sc_ge (bl tx) T i
  unfold f_X4_readPlaces
  rcases num N hN hT hi hi rfl hc hm ac am (lo := 1) (up := 8) (by decide) (by decide) with ⟨v, z, c1, m1, v0, v1, z1, z2, n1, n2, n3, n4, n5, n6, n7, n8⟩ | ⟨k, c1, m1, n1, n2, n3, n4, n5⟩
  · rw [show f_X4_readNumber N c 1 8 = _ from n1, show f_X7_takeNumber N m 1 8 = _ from n2, k_bs, k_bs, k_bs]
    dsimp only
    rw [if_neg (show ¬ nI v = (-1 : Int32) by rw [k_m1 (by omega)]; exact fun h => h), n5]
    have hc1 : TC c1 T tx := hc.to (n7 1 (by decide)) (n7 23 (by decide))
    have hm1 : TM (up1 m1 23 0 (nI v)) T tx := hm.to ((u_nk _ _ _ (by decide)).trans (n8 16 (by decide) (by decide) (by decide))) ((u_nk _ _ _ (by decide)).trans (n8 15 (by decide) (by decide) (by decide)))
    have fm : FMr m (up1 m1 23 0 (nI v)) := FMr.up (fun k hk => n8 k (by omega) (by omega) (by omega)) 0 _ (by decide) (by decide)
    rcases sign N hN hT z2 z2 rfl hc1 hm1 n3 (show up1 m1 23 0 (nI v) 18 0 = nI z by rw [u_nk _ _ _ (by decide)]; exact n4) with ⟨c2, m2, s1, s2, s3, s4, s5, s6, s7⟩ | ⟨x, c2, m2, s2, s3, s4, s5, s6, s7, s8, s9⟩
    · have hz := sc_ge (bl tx) T z
      rw [s2, k_bs, tail_ok N sg s3, s5, k1_ad]
      dsimp only
      rw [if_neg (show ¬ (1 : Int32) = 0 by decide)]
      have fc : FC c c2 := fun k hk => (s6 k hk).trans (n7 k hk)
      have f2 : ∀ k, k ≠ 18 → k ≠ 21 → k ≠ 22 → k ≠ 23 → up1 m2 18 0 (nI (sc (bl tx) T z + 1)) k = m k := fun k h1 h2 h3 h4 => by rw [u_nk _ _ _ h1, s7 k h1, u_nk _ _ _ h4, n8 k h1 h2 h3]
      refine ⟨_, _, _, rfl, rfl, hc.to ((u_nk _ _ _ (by decide)).trans (fc 1 (by decide))) ((u_nk _ _ _ (by decide)).trans (fc 23 (by decide))), hm.to (f2 16 (by decide) (by decide) (by decide) (by decide)) (f2 15 (by decide) (by decide) (by decide) (by decide)), fun k hk => f2 k (by omega) (by omega) (by omega) (by omega), Or.inl ⟨rfl, ?_, ?_, plE e v, sc (bl tx) T z + 1, by omega, by omega, TD_pl h0 hp v1, ?_, ?_, ?_, u_eq _ _ _ _, rfl, rfl⟩⟩
      · rw [u_nk _ _ _ (by decide), fc 2 (by decide)]; exact c20
      · rw [f2 17 (by decide) (by decide) (by decide) (by decide)]
      · show DG _ (up1 c2 6 0 (nI v) 7) _ _ _ _ _ _ _ _ _ _
        have g : ∀ k, k ≠ 6 → k ≠ 24 → up1 c2 6 0 (nI v) k = c k := fun k h1 h2 => by rw [u_nk _ _ _ h1, fc k h2]
        rw [g 7 (by decide) (by decide), g 8 (by decide) (by decide), g 9 (by decide) (by decide), g 10 (by decide) (by decide), g 11 (by decide) (by decide), g 13 (by decide) (by decide), g 14 (by decide) (by decide), g 15 (by decide) (by decide), g 16 (by decide) (by decide), g 17 (by decide) (by decide)]
        exact DG_pl hC (u_eq _ _ _ _)
      · show DG _ (up1 m2 18 0 (nI (sc (bl tx) T z + 1)) 24) _ _ _ _ _ _ _ _ _ _
        rw [f2 24 (by decide) (by decide) (by decide) (by decide), f2 25 (by decide) (by decide) (by decide) (by decide), f2 26 (by decide) (by decide) (by decide) (by decide), f2 27 (by decide) (by decide) (by decide) (by decide), f2 28 (by decide) (by decide) (by decide) (by decide), f2 29 (by decide) (by decide) (by decide) (by decide), f2 30 (by decide) (by decide) (by decide) (by decide), f2 31 (by decide) (by decide) (by decide) (by decide), f2 32 (by decide) (by decide) (by decide) (by decide), f2 33 (by decide) (by decide) (by decide) (by decide)]
        exact DG_pl hM (by rw [u_nk _ _ _ (by decide), s7 23 (by decide)]; exact u_eq _ _ _ _)
      · rw [u_nk _ _ _ (by decide)]; exact s4
    · rw [s2, k_bs, tail_no N sg s3 s4, s7]
      dsimp only
      rw [if_pos rfl]
      refine ⟨_, _, _, rfl, rfl, Out.bad hc hm ((FCr.fc n7).tr (FCr.f3 s8)) (FMr.up (fm.tr (fun k hk => s9 k (by omega))) 0 _ (by decide) (by decide)) ⟨by decide, by decide, s5, ?_⟩⟩
      rw [s6, u_eq]
  · rw [show f_X4_readNumber N c 1 8 = _ from n1, show f_X7_takeNumber N m 1 8 = _ from n2, k_bs, k_bs, k_bs]
    dsimp only
    rw [tail_bad N _ sg n3.1 n3.2.1, if_pos rfl]
    exact ⟨_, _, _, rfl, rfl, Out.bad hc hm (FCr.f3 n4) (FMr.up (FMr.up (FMr.f4 n5) 0 _ (by decide) (by decide)) 0 _ (by decide) (by decide)) ((n3.up 23 _ _ (by decide)).up 18 _ _ (by decide))⟩
