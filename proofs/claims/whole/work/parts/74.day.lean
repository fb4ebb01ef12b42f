-- ===== two loops in step =====
theorem loop2 {α β α' β' : Type} (F : Nat → Nat → α → Option β) (G : Nat → Nat → α' → Option β') (E : Nat) (R : Nat → α → α' → Prop) (Q : β → β' → Prop)
    (hs : ∀ n i a b, i < E → E ≤ n + i → R i a b → (∃ a' b', R (i + 1) a' b' ∧ F (n + 1) i a = F n (i + 1) a' ∧ G (n + 1) i b = G n (i + 1) b') ∨ ∃ o o', Q o o' ∧ F (n + 1) i a = some o ∧ G (n + 1) i b = some o')
    (he : ∀ n a b, R E a b → ∃ o o', Q o o' ∧ F (n + 1) E a = some o ∧ G (n + 1) E b = some o') : ∀ n i a b, i ≤ E → E < n + i → R i a b → ∃ o o', Q o o' ∧ F n i a = some o ∧ G n i b = some o' := by
  intro n
  induction n with
  | zero => intro i a b h1 h2; omega
  | succ n ih =>
    intro i a b h1 h2 hR
    rcases Nat.lt_or_ge i E with h | h
    · rcases hs n i a b h (by omega) hR with ⟨a', b', hR', e1, e2⟩ | h3
      · rw [e1, e2]
        exact ih (i + 1) a' b' (by omega) (by omega) hR'
      · exact h3
    · have : i = E := by omega
      subst this
      exact he n a b hR
-- ===== drawing =====
theorem l_and (a b : Nat) : lN a &&& lN b = lN (a &&& b) := by
  apply Int64.toBitVec_inj.1
  show BitVec.ofNat 64 a &&& BitVec.ofNat 64 b = BitVec.ofNat 64 (a &&& b)
  apply BitVec.eq_of_getLsbD_eq
  intro i hi
  simp [hi]
def sdD (d : Nat → Nat → Nat) (s : Nat) : Nat → Nat → Nat := fun a => bif Nat.beq a 14 then (fun _ => s) else d a
theorem TD_sd {d : Nat → Nat → Nat} (h0 : TD d) {s : Nat} (hs : s < 2147483648) : TD (sdD d s) := ⟨⟨h0.1.1, h0.1.2.1, h0.1.2.2.1, h0.1.2.2.2.1, hs⟩, h0.2⟩
theorem dr_val {s n v : Nat} (hs : s < 2147483648) (hn : 1 ≤ n) (hn2 : n < 1000) (hv : v = s / 65536 % n) : nI s / (65536 : Int32) - nI s / (65536 : Int32) / nI n * nI n = nI v := by
  rw [show (65536 : Int32) = nI 65536 from rfl, pk_div (by omega) (by decide) (by decide), pk_rem (by omega) (by omega) (by omega), hv]
theorem dr_c {a s : Nat} (ha : a < 2147483648) (hs : s = (a * 1103515245 + 12345) % 2147483648) : (((nI a).toInt64 * (1103515245 : Int64)) + (12345 : Int64)) &&& (2147483647 : Int64) = lN s := by
  have e : (a * 1103515245 + 12345) &&& 2147483647 = (a * 1103515245 + 12345) % 2147483648 := Nat.and_two_pow_sub_one_eq_mod (a * 1103515245 + 12345) 31
  rw [nI_l (by omega), show (1103515245 : Int64) = lN 1103515245 from rfl, lN_mul, show (12345 : Int64) = lN 12345 from rfl, lN_add, show (2147483647 : Int64) = lN 2147483647 from rfl, l_and, e, hs]
theorem dr_m {a s : Nat} (ha : a < 2147483648) (hs : s = (a * 1103515245 + 12345) % 2147483648) : (((nI a).toInt64 * (1103515245 : Int64)) + (12345 : Int64)) - (((nI a).toInt64 * (1103515245 : Int64)) + (12345 : Int64)) / (2147483648 : Int64) * (2147483648 : Int64) = lN s := by
  rw [nI_l (by omega), show (1103515245 : Int64) = lN 1103515245 from rfl, lN_mul, show (12345 : Int64) = lN 12345 from rfl, lN_add, show (2147483648 : Int64) = lN 2147483648 from rfl, pk_lRem (by omega) (by decide) (by decide), hs]
theorem c_draw (N : Nat) {t : St_} {d : Nat → Nat → Nat} {w : Nat → Int32} (h0 : TD d) (h1 : CT t d w) {n s v : Nat} (hn : 1 ≤ n) (hn2 : n < 1000) (hs : s = (d 14 0 * 1103515245 + 12345) % 2147483648) (hl : s < 2147483648) (hv : v = s / 65536 % n) : ∃ u, f_X3_draw N (sh_ 8 t) (nI n) = some (nI v, u) ∧ CT (pu_ 8 9 t u) (sdD d s) w := by
  have e16 : sh_ 8 t 8 0 = nI (d 14 0) := h1.2.2.2.2.2.2
  refine ⟨up1 (sh_ 8 t) 8 0 (nI s), ?_, h1.1, h1.2.1, h1.2.2.1, h1.2.2.2.1, h1.2.2.2.2.1, h1.2.2.2.2.2.1, rfl⟩
  unfold f_X3_draw
  rw [e16, dr_c h0.1.2.2.2.2 hs, lN_i, if_neg (show ¬ nI n ≤ 0 by rw [k_z0 (by omega)]; omega), nz_I (by omega) (by omega), dr_val hl hn hn2 hv, show nzI (65536 : Int32) = true from rfl, k_gd, k_gd]
theorem m_draw (N : Nat) {g : St_} {d : Nat → Nat → Nat} {w : Nat → Int32} (h0 : TD d) (h2 : MT g d w) {n s v : Nat} (hn : 1 ≤ n) (hn2 : n < 1000) (hs : s = (d 14 0 * 1103515245 + 12345) % 2147483648) (hl : s < 2147483648) (hv : v = s / 65536 % n) : f_X7_draw N g (nI n) = some (nI v, up1 g 14 0 (nI s)) ∧ MT (up1 g 14 0 (nI s)) (sdD d s) w := by
  have e14 : g 14 0 = nI (d 14 0) := h2.2.2.2.2.2.2.2.2
  refine ⟨?_, h2.1, h2.2.1, h2.2.2.1, h2.2.2.2.1, h2.2.2.2.2.1, h2.2.2.2.2.2.1, h2.2.2.2.2.2.2.1, h2.2.2.2.2.2.2.2.1, rfl⟩
  unfold f_X7_draw
  rw [e14, dr_m h0.1.2.2.2.2 hs, lN_i, nz_I (by omega) (by omega), dr_val hl hn hn2 hv, show nzI (65536 : Int32) = true from rfl, show nzL (2147483648 : Int64) = true from rfl, k_gd, k_gd, k_gd]
theorem dr_ex (a n : Nat) (hn : 1 ≤ n) : ∃ s v, s = (a * 1103515245 + 12345) % 2147483648 ∧ s < 2147483648 ∧ v = s / 65536 % n ∧ v < n := by
  refine ⟨_, _, rfl, ?_, rfl, ?_⟩
  · exact Nat.mod_lt _ (by decide)
  · exact Nat.mod_lt _ (by omega)
theorem draw_both (N : Nat) {t g : St_} {d : Nat → Nat → Nat} {w : Nat → Int32} (h0 : TD d) (h1 : CT t d w) (h2 : MT g d w) {n : Nat} (hn : 1 ≤ n) (hn2 : n < 1000) : ∃ s v u, v < n ∧ TD (sdD d s) ∧ f_X3_draw N (sh_ 8 t) (nI n) = some (nI v, u) ∧ CT (pu_ 8 9 t u) (sdD d s) w ∧ f_X7_draw N g (nI n) = some (nI v, up1 g 14 0 (nI s)) ∧ MT (up1 g 14 0 (nI s)) (sdD d s) w := by
  obtain ⟨s, v, hs, hl, hv, hvn⟩ := dr_ex (d 14 0) n hn
  obtain ⟨u, c1, c2⟩ := c_draw N h0 h1 hn hn2 hs hl hv
  obtain ⟨m1, m2⟩ := m_draw N h0 h2 hn hn2 hs hl hv
  exact ⟨s, v, u, hvn, TD_sd h0 hl, c1, c2, m1, m2⟩
-- ===== a child =====
def adD (d : Nat → Nat → Nat) (p s : Nat) : Nat → Nat → Nat := fun a => bif Nat.beq a 9 then (fun _ => d 9 0 + 1) else bif Nat.beq a 10 then (fun x => if x = d 9 0 then d 10 p else d 10 x) else bif Nat.beq a 11 then (fun x => if x = d 9 0 then s else d 11 x) else bif Nat.beq a 12 then (fun x => if x = d 9 0 then 0 else d 12 x) else d a
theorem TD_ad {d : Nat → Nat → Nat} (h0 : TD d) {p s : Nat} (hp : p < d 9 0) (hE : d 9 0 < 8) (hs1 : 1 ≤ s) (hs : s ≤ 24) : TD (adD d p s) := by
  refine ⟨⟨h0.1.1, h0.1.2.1, (show d 9 0 + 1 ≤ 8 by omega), h0.1.2.2.2⟩, h0.2.1, h0.2.2.1, fun x hx => ?_⟩
  show (if x = d 9 0 then d 10 p else d 10 x) < d 1 0 ∧ 1 ≤ (if x = d 9 0 then s else d 11 x) ∧ (if x = d 9 0 then s else d 11 x) ≤ 24 ∧ (if x = d 9 0 then 0 else d 12 x) ≤ 24
  by_cases c : x = d 9 0
  · simp only [if_pos c]
    exact ⟨(h0.2.2.2 p hp).1, hs1, hs, by omega⟩
  · simp only [if_neg c]
    have : x < d 9 0 + 1 := hx
    exact h0.2.2.2 x (by omega)
theorem c_add (N : Nat) {t : St_} {d : Nat → Nat → Nat} {w : Nat → Int32} (h0 : TD d) (h1 : CT t d w) {p s : Nat} (hE : d 9 0 < 8) : ∃ u, f_X3_addPerson N (sh_ 8 t) (nI (d 10 p)) (nI s) 0 = some u ∧ CT (pu_ 8 9 t u) (adD d p s) w := by
  have e9 : sh_ 8 t 1 0 = nI (d 9 0) := h1.2.1
  unfold f_X3_addPerson
  rw [e9, if_neg (show ¬ (8 : Int32) ≤ nI (d 9 0) by rw [k8_le (by omega)]; omega), k_ok hE (by omega), k_cl (show d 9 0 < 2147483648 by omega)]
  refine ⟨_, rfl, h1.1, ?_, fun x hx => ?_, h1.2.2.2.1, h1.2.2.2.2.1, h1.2.2.2.2.2.1, h1.2.2.2.2.2.2⟩
  · show nI (d 9 0) + 1 = nI (d 9 0 + 1)
    exact k1_ad _
  · show (if x = d 9 0 then nI (d 10 p) else t 10 x) = nI (if x = d 9 0 then d 10 p else d 10 x) ∧ (if x = d 9 0 then nI s else t 11 x) = nI (if x = d 9 0 then s else d 11 x) ∧ (if x = d 9 0 then (0 : Int32) else t 12 x) = nI (if x = d 9 0 then 0 else d 12 x)
    by_cases c : x = d 9 0
    · simp only [if_pos c]
      exact ⟨trivial, trivial, rfl⟩
    · simp only [if_neg c]
      have : x < d 9 0 + 1 := hx
      exact h1.2.2.1 x (by omega)
theorem m_add {g : St_} {d : Nat → Nat → Nat} {w : Nat → Int32} (h2 : MT g d w) {p s : Nat} (h10 : g 10 (d 9 0) = nI (d 10 p)) : MT (up1 (up1 (up1 g 11 (d 9 0) (nI s)) 12 (d 9 0) 0) 9 0 (nI (d 9 0) + 1)) (adD d p s) w := by
  refine ⟨h2.1, h2.2.1, h2.2.2.1, ?_, fun x hx => ?_, h2.2.2.2.2.2.1, h2.2.2.2.2.2.2.1, h2.2.2.2.2.2.2.2.1, h2.2.2.2.2.2.2.2.2⟩
  · show nI (d 9 0) + 1 = nI (d 9 0 + 1)
    exact k1_ad _
  · show g 10 x = nI (if x = d 9 0 then d 10 p else d 10 x) ∧ (if x = d 9 0 then nI s else g 11 x) = nI (if x = d 9 0 then s else d 11 x) ∧ (if x = d 9 0 then (0 : Int32) else g 12 x) = nI (if x = d 9 0 then 0 else d 12 x)
    by_cases c : x = d 9 0
    · simp only [if_pos c]
      exact ⟨by rw [c]; exact h10, trivial, rfl⟩
    · simp only [if_neg c]
      have : x < d 9 0 + 1 := hx
      exact h2.2.2.2.2.1 x (by omega)
theorem MT_junk {g : St_} {d : Nat → Nat → Nat} {w : Nat → Int32} (h2 : MT g d w) (v : Int32) : MT (up1 g 10 (d 9 0) v) d w := by
  refine ⟨h2.1, h2.2.1, h2.2.2.1, h2.2.2.2.1, fun x hx => ⟨?_, (h2.2.2.2.2.1 x hx).2⟩, h2.2.2.2.2.2.1, h2.2.2.2.2.2.2⟩
  show (if x = d 9 0 then v else g 10 x) = nI (d 10 x)
  rw [if_neg (by omega)]
  exact (h2.2.2.2.2.1 x hx).1
theorem MF.rf (g : St_) : MF g g := MF.of (fun _ _ => rfl)
theorem MF.tr {a b c : St_} (h : MF a b) (k : MF b c) : MF a c := by
  obtain ⟨a1, a2, a3, a4, a5, a6, a7, a8, a9, a10, a11, a12⟩ := h
  obtain ⟨b1, b2', b3, b4, b5, b6, b7, b8, b9, b10, b11, b12⟩ := k
  exact ⟨b1.trans a1, b2'.trans a2, b3.trans a3, b4.trans a4, b5.trans a5, b6.trans a6, b7.trans a7, b8.trans a8, b9.trans a9, b10.trans a10, b11.trans a11, b12.trans a12⟩
theorem MF.up {g : St_} {k : Nat} (j : Nat) (v : Int32) (hk : k < 15) : MF g (up1 g k j v) := MF.of (fun a ha => u_nk g j v (by omega))
theorem SP.tr {a b c : Nat → Nat → Nat} (h : SP a b) (k : SP b c) : SP a c := ⟨k.1.trans h.1, k.2.1.trans h.2.1, fun r hr => by
  obtain ⟨a1, a2, a3, a4⟩ := h.2.2 r hr
  obtain ⟨b1, b2', b3, b4⟩ := k.2.2 r (by rw [h.2.1]; exact hr)
  exact ⟨b1.trans a1, b2'.trans a2, b3.trans a3, b4.trans a4⟩⟩
/-- the way of a day, gone or not -/
theorem way_both (N : Nat) (hN : 200 < N) {t g : St_} {d : Nat → Nat → Nat} {w : Nat → Int32} (h0 : TD d) (h1 : CT t d w) (h2 : MT g d w) {p r : Nat} (hp : p < d 9 0) (hr : r < d 2 0) : ∃ b x t' h d' w', f_X5_travel N t (nI p) (nI r) = some (b, t') ∧ f_X7_canGo N g (nI p) (nI r) = some x ∧ (if x = 0 then some g else Option.bind (f_X7_goNow N g (nI p) (nI r)) (fun r5 => some r5)) = some h ∧ TD d' ∧ CT t' d' w' ∧ MT h d' w' ∧ SP d d' ∧ MF g h ∧ d' 9 = d 9 := by
  rcases go_both N hN h0 h1 h2 hp hr with ⟨t', h, d', w', a1, a2, a3, a4, a5, a6, a7, a8, a9, a10⟩ | ⟨a1, a2⟩
  · exact ⟨1, 1, t', h, d', w', a1, a2, by rw [a3]; rfl, a4, a5, a6, a7, a8, a9⟩
  · exact ⟨0, 0, t, g, d, w, a1, a2, rfl, h0, h1, h2, SP.rf d, MF.rf g, rfl⟩
theorem day_both (N : Nat) (hN : 200 < N) {t g : St_} {d : Nat → Nat → Nat} {w : Nat → Int32} (h0 : TD d) (h1 : CT t d w) (h2 : MT g d w) (hE1 : 1 ≤ d 9 0) (hS1 : 1 ≤ d 2 0) : ∃ t' h d' w', f_X5_liveDay N t = some t' ∧ f_X7_dayNow N g = some h ∧ TD d' ∧ CT t' d' w' ∧ MT h d' w' ∧ SP d d' ∧ MF g h ∧ 1 ≤ d' 9 0 := by
  have hS := h0.1.2.1
  have hE := h0.1.2.2.1
  have e9 : t 9 0 = nI (d 9 0) := h1.2.1
  have e3 : t 3 0 = nI (d 2 0) := h1.1.2.1
  have m9 : g 9 0 = nI (d 9 0) := h2.2.2.2.1
  obtain ⟨s1, p, u1, hp, T1, c1, C1, n1, M1⟩ := draw_both N h0 h1 h2 hE1 (by omega)
  obtain ⟨s2, r, u2, hr, T2, c2, C2, n2, M2⟩ := draw_both N T1 C1 M1 (n := d 2 0) hS1 (by omega)
  have m2 : up1 g 14 0 (nI s1) 2 0 = nI (d 2 0) := h2.2.1
  obtain ⟨b, x, t3, h3, d3, w3, a1, a2, a3, a4, a5, a6, a7, a8, a9⟩ := way_both N hN T2 C2 M2 (show p < sdD (sdD d s1) s2 9 0 from hp) (show r < sdD (sdD d s1) s2 2 0 from hr)
  have F2 : MF g (up1 (up1 g 14 0 (nI s1)) 14 0 (nI s2)) := (MF.up 0 _ (by decide)).tr (MF.up 0 _ (by decide))
  have d39 : d3 9 0 = d 9 0 := congrFun a9 0
  have SP3 : SP d d3 := a7
  have F3 := F2.tr a8
  obtain ⟨s4, v4, u4, hv4, T4, c4, C4, n4, M4⟩ := draw_both N a4 a5 a6 (n := 16) (by decide) (by decide)
  have F4 : MF g (up1 h3 14 0 (nI s4)) := F3.tr (MF.up 0 _ (by decide))
  have pe : u4 1 0 = nI (d3 9 0) := C4.2.1
  have pm : up1 h3 14 0 (nI s4) 9 0 = nI (d3 9 0) := M4.2.2.2.1
  unfold f_X5_liveDay f_X7_dayNow
  rw [e9, e3, m9, c1, n1, k_bs, k_bs]
  dsimp only
  rw [m2, c2, n2, k_bs, k_bs]
  dsimp only
  rw [a1, a2, k_bs, k_bs, a3, k_bs]
  dsimp only
  rw [show (16 : Int32) = nI 16 from rfl, c4, n4, k_bs, k_bs]
  dsimp only
  by_cases v0 : v4 = 0
  · have v0' : nI v4 = 0 := by rw [v0]; rfl
    rw [if_pos v0', k_bs, if_neg (show ¬ (1 : Int32) = 0 by decide), if_pos v0']
    by_cases full : d 9 0 = 8
    · rw [if_pos (show (8 : Int32) ≤ u4 1 0 by rw [pe, d39, full]; decide), if_pos (show (8 : Int32) ≤ up1 h3 14 0 (nI s4) 9 0 by rw [pm, d39, full]; decide)]
      exact ⟨_, _, sdD d3 s4, w3, rfl, rfl, T4, C4, M4, SP3, F4, (show 1 ≤ d3 9 0 by omega)⟩
    · have hE8 : d 9 0 < 8 := by omega
      rw [if_neg (show ¬ (8 : Int32) ≤ u4 1 0 by rw [pe, d39, k8_le (by omega)]; omega), if_neg (show ¬ (8 : Int32) ≤ up1 h3 14 0 (nI s4) 9 0 by rw [pm, d39, k8_le (by omega)]; omega), pm, d39, k_ok (show p < 8 by omega) (by omega), k_ok hE8 (by omega), k_cl (show p < 2147483648 by omega), k_cl (show d 9 0 < 2147483648 by omega)]
      simp only [k_gd]
      have at4 : up1 h3 14 0 (nI s4) 10 p = nI (d3 10 p) := (M4.2.2.2.2.1 p (by show p < d3 9 0; omega)).1
      rw [at4]
      have M5 := MT_junk M4 (nI (d3 10 p))
      rw [show sdD d3 s4 9 0 = d 9 0 from d39] at M5
      obtain ⟨s6, v6, u6, hv6, T6, c6, C6, n6, M6⟩ := draw_both N T4 C4 M5 (n := 2) (by decide) (by decide)
      have F6 : MF g (up1 (up1 (up1 h3 14 0 (nI s4)) 10 (d 9 0) (nI (d3 10 p))) 14 0 (nI s6)) := (F4.tr (MF.up _ _ (by decide))).tr (MF.up 0 _ (by decide))
      rw [show (2 : Int32) = nI 2 from rfl, c6, n6, k_bs, k_bs]
      dsimp only
      have f6 : u6 3 p = nI (d3 11 p) := (C6.2.2.1 p (by show p < d3 9 0; omega)).2.1
      have g6 : up1 (up1 (up1 h3 14 0 (nI s4)) 10 (d 9 0) (nI (d3 10 p))) 14 0 (nI s6) 11 p = nI (d3 11 p) := (M6.2.2.2.2.1 p (by show p < d3 9 0; omega)).2.1
      rw [f6, g6]
      have hq3 := a4.2.2.2 p (by omega)
      by_cases v2 : v6 = 0
      · have v2' : nI v6 = 0 := by rw [v2]; rfl
        rw [if_pos v2', if_pos v2', k_bs, k_bs]
        dsimp only
        have at6 : pu_ 8 9 (pu_ 8 9 t3 u4) u6 10 p = nI (d3 10 p) := (C6.2.2.1 p (by show p < d3 9 0; omega)).1
        have pm6 : up1 (up1 (up1 h3 14 0 (nI s4)) 10 (d 9 0) (nI (d3 10 p))) 14 0 (nI s6) 9 0 = nI (d 9 0) := by rw [← d39]; exact M6.2.2.2.1
        rw [at6, pm6, k_ok hE8 (by omega), k_cl (show d 9 0 < 2147483648 by omega)]
        simp only [k_gd]
        have T6e : sdD (sdD d3 s4) s6 9 0 = d 9 0 := d39
        obtain ⟨u9, c9, C9⟩ := c_add N T6 C6 (p := p) (s := d3 11 p) (by rw [T6e]; exact hE8)
        have M9 := m_add M6 (p := p) (s := d3 11 p) (by rw [T6e]; exact (congrFun (u_nk _ 0 (nI s6) (show 10 ≠ 14 by decide)) _).trans (u_eq _ _ _ _))
        rw [T6e] at M9
        rw [show f_X3_addPerson N (sh_ 8 (pu_ 8 9 (pu_ 8 9 t3 u4) u6)) (nI (d3 10 p)) (nI (d3 11 p)) 0 = some u9 from c9, k_bs]
        refine ⟨_, _, adD (sdD (sdD d3 s4) s6) p (d3 11 p), w3, rfl, rfl, TD_ad T6 (by rw [T6e]; exact hp) (by rw [T6e]; exact hE8) hq3.2.1 hq3.2.2.1, C9, M9, SP3, ((F6.tr (MF.up _ _ (by decide))).tr (MF.up _ _ (by decide))).tr (MF.up 0 _ (by decide)), ?_⟩
        show 1 ≤ sdD (sdD d3 s4) s6 9 0 + 1
        omega
      · rw [if_neg (show ¬ nI v6 = 0 by rw [k_e0 (by omega)]; exact v2), if_neg (show ¬ nI v6 = 0 by rw [k_e0 (by omega)]; exact v2)]
        obtain ⟨s8, v8, u8, hv8, T8, c8, C8, n8, M8⟩ := draw_both N T6 C6 M6 (n := 24) (by decide) (by decide)
        rw [show (24 : Int32) = nI 24 from rfl, c8, n8, k_bs, k_bs]
        dsimp only
        rw [k_bs, k_bs, k1_ad]
        dsimp only
        have at8 : pu_ 8 9 (pu_ 8 9 (pu_ 8 9 t3 u4) u6) u8 10 p = nI (d3 10 p) := (C8.2.2.1 p (by show p < d3 9 0; omega)).1
        have pm8 : up1 (up1 (up1 (up1 h3 14 0 (nI s4)) 10 (d 9 0) (nI (d3 10 p))) 14 0 (nI s6)) 14 0 (nI s8) 9 0 = nI (d 9 0) := by rw [← d39]; exact M8.2.2.2.1
        rw [at8, pm8, k_ok hE8 (by omega), k_cl (show d 9 0 < 2147483648 by omega)]
        simp only [k_gd]
        have T8e : sdD (sdD (sdD d3 s4) s6) s8 9 0 = d 9 0 := d39
        obtain ⟨u9, c9, C9⟩ := c_add N T8 C8 (p := p) (s := v8 + 1) (by rw [T8e]; exact hE8)
        have M9 := m_add M8 (p := p) (s := v8 + 1) (by rw [T8e]; exact (congrFun (u_nk _ 0 (nI s8) (show 10 ≠ 14 by decide)) _).trans ((congrFun (u_nk _ 0 (nI s6) (show 10 ≠ 14 by decide)) _).trans (u_eq _ _ _ _)))
        rw [T8e] at M9
        rw [show f_X3_addPerson N (sh_ 8 (pu_ 8 9 (pu_ 8 9 (pu_ 8 9 t3 u4) u6) u8)) (nI (d3 10 p)) (nI (v8 + 1)) 0 = some u9 from c9, k_bs]
        refine ⟨_, _, adD (sdD (sdD (sdD d3 s4) s6) s8) p (v8 + 1), w3, rfl, rfl, TD_ad T8 (by rw [T8e]; exact hp) (by rw [T8e]; exact hE8) (by omega) (by omega), C9, M9, SP3, (((F6.tr (MF.up 0 _ (by decide))).tr (MF.up _ _ (by decide))).tr (MF.up _ _ (by decide))).tr (MF.up 0 _ (by decide)), ?_⟩
        show 1 ≤ sdD (sdD (sdD d3 s4) s6) s8 9 0 + 1
        omega
  · rw [if_neg (show ¬ nI v4 = 0 by rw [k_e0 (by omega)]; exact v0), if_neg (show ¬ nI v4 = 0 by rw [k_e0 (by omega)]; exact v0), k_bs, if_pos rfl]
    exact ⟨_, _, sdD d3 s4, w3, rfl, rfl, T4, C4, M4, SP3, F4, (show 1 ≤ d3 9 0 by omega)⟩
theorem pu_out (g u : St_) {k : Nat} (hk : k = 2 ∨ k = 24 ∨ (46 ≤ k ∧ k ≠ 74)) : pu_ 26 19 g u k = g k := by
  unfold pu_
  have : (Nat.ble 26 k && Nat.ble (k + 1) (26 + 19)) = false := by
    rcases hk with rfl | rfl | hk
    · rfl
    · rfl
    · have : Nat.ble (k + 1) (26 + 19) = false := Bool.eq_false_iff.mpr (fun q => by have := Nat.le_of_ble_eq_true q; omega)
      rw [this, Bool.and_false]
  rw [this]
  rfl
def RelP (g1 g2 : St_) : Prop := ∃ d w, 1 ≤ d 9 0 ∧ 1 ≤ d 2 0 ∧ TD d ∧ CT (sh_ 26 g1) d w ∧ MT g2 d w ∧ RTx g1 g2 ∧ g1 75 0 = g2 17 0 ∧ RSe g1 g2 (d 1 0) ∧ RBo g1 g2 (d 2 0) ∧ RIm g1 g2 d
theorem RelP_of {g1 g2 h1 h2 : St_} {d e : Nat → Nat → Nat} {w' : Nat → Int32} (q1 : 1 ≤ e 9 0) (q2 : 1 ≤ e 2 0) (h3 : RTx g1 g2) (h4 : g1 75 0 = g2 17 0) (h5 : RSe g1 g2 (d 1 0)) (h6 : RBo g1 g2 (d 2 0)) (h7 : RIm g1 g2 d) (c : ∀ k, k = 2 ∨ k = 24 ∨ (46 ≤ k ∧ k ≠ 74) → h1 k = g1 k) (m : MF g2 h2) (p : SP d e) (k0 : TD e) (k1 : CT (sh_ 26 h1) e w') (k2 : MT h2 e w') : RelP h1 h2 := by
  obtain ⟨m15, m16, m17, m35, m36, m37, m38, m39, m40, m41, m43, m44⟩ := m
  refine ⟨e, w', q1, q2, k0, k1, k2, ?_, ?_, ?_, ?_, ?_⟩
  · unfold RTx at h3 ⊢
    rw [c 2 (by omega), c 24 (by omega), m15, m16]
    exact h3
  · rw [c 75 (by omega), m17]; exact h4
  · unfold RSe at h5 ⊢
    rw [p.1, c 66 (by omega), c 67 (by omega), c 68 (by omega), c 69 (by omega), m35, m36, m37, m38]
    exact h5
  · unfold RBo at h6 ⊢
    rw [p.2.1, c 71 (by omega), c 72 (by omega), c 73 (by omega), m39, m40, m41]
    exact h6
  · have one : ∀ i oc om, 46 ≤ oc → oc ≤ 55 → RI1 g1 g2 d i oc om → RI1 h1 h2 e i oc om := by
      intro i oc om ho ho2 h
      unfold RI1 at h ⊢
      rw [c 64 (by omega), m44]
      rcases h with h | ⟨a1, a2, e', w2, a3, a4, a5, a6⟩
      · exact Or.inl h
      · refine Or.inr ⟨a1, a2, e', w2, ⟨a3.1.trans p.1.symm, a3.2.1.trans p.2.1.symm, fun r hr => ?_⟩, a4, ?_, ?_⟩
        · rw [p.2.1] at hr
          obtain ⟨b1, b2', b3, b4⟩ := a3.2.2 r hr
          obtain ⟨q1, q2, q3, q4⟩ := p.2.2 r hr
          exact ⟨b1.trans q1.symm, b2'.trans q2.symm, b3.trans q3.symm, b4.trans q4.symm⟩
        · have s : ∀ k, k < 10 → sh_ oc h1 k = sh_ oc g1 k := fun k hk => c (oc + k) (by omega)
          unfold CS at a5 ⊢
          rw [s 1 (by omega), s 2 (by omega), s 3 (by omega), s 4 (by omega), s 5 (by omega), s 6 (by omega), s 7 (by omega), s 8 (by omega)]
          exact a5
        · unfold MI at a6 ⊢
          rw [m43]
          exact a6
    exact ⟨one 0 46 0 (by omega) (by omega) h7.1, one 1 55 70 (by omega) (by omega) h7.2⟩
theorem RelP.rel {g1 g2 : St_} (h : RelP g1 g2) : Rel g1 g2 := by
  obtain ⟨d, w, _, _, h0⟩ := h
  exact ⟨d, w, h0⟩
theorem pa_drift (N : Nat) (hN : 200 < N) : PA_drift N Rel := by
  intro g1 g2 hR z0
  have hR0 := hR
  obtain ⟨d, w, h0, h1, h2, h3, h4, h5, h6, h7⟩ := hR
  have hE := h0.1.2.2.1
  have hS := h0.1.2.1
  have e35 : g1 35 0 = nI (d 9 0) := h1.2.1
  have e29 : g1 29 0 = nI (d 2 0) := h1.1.2.1
  have m9 : g2 9 0 = nI (d 9 0) := h2.2.2.2.1
  have m2 : g2 2 0 = nI (d 2 0) := h2.2.1
  unfold f_X6_drift f_X7_drift
  rw [show (1 : Int64) = (nI 1).toInt64 from rfl, show (99 : Int64) = (nI 99).toInt64 from rfl, e35, e29, m9, m2]
  rcases k_inC N (x := z0) 1 99 (by decide) (by decide) with ⟨n, n1, n2, rfl, h⟩ | ⟨h, h9⟩
  · rw [h, k_bs, if_neg (show ¬ (1 : Int32) = 0 by decide), if_neg (show ¬ nI n < (1 : Int32) by rw [k1_gt (by omega)]; omega), if_pos (show nI n ≤ (99 : Int32) by rw [k99_ge (by omega)]; exact n2)]
    by_cases c1 : d 9 0 = 0
    · rw [c1, if_pos (show nI 0 = 0 from rfl), if_pos (show nI 0 = 0 from rfl)]
      exact ⟨_, _, _, rfl, rfl, hR0⟩
    rw [if_neg (show ¬ nI (d 9 0) = 0 by rw [k_e0 (by omega)]; exact c1), if_neg (show ¬ nI (d 9 0) = 0 by rw [k_e0 (by omega)]; exact c1)]
    by_cases c2 : d 2 0 = 0
    · rw [c2, if_pos (show nI 0 = 0 from rfl), if_pos (show nI 0 = 0 from rfl)]
      exact ⟨_, _, _, rfl, rfl, hR0⟩
    rw [if_neg (show ¬ nI (d 2 0) = 0 by rw [k_e0 (by omega)]; exact c2), if_neg (show ¬ nI (d 2 0) = 0 by rw [k_e0 (by omega)]; exact c2)]
    obtain ⟨o, o', hQ, q1, q2⟩ := loop2 (fun m i a => f_X6_drift_L45 N (nI n) m (nI i) a) (fun m i a => f_X7_drift_L34 N (nI n) m (nI i) a) n (fun _ a b => RelP a b) RelP (fun m i a b hi hm hab => by
      left
      obtain ⟨d', w', p1, p2, p3, p4, p5, p6, p7, p8, p9, p10⟩ := hab
      obtain ⟨t', hh, d2, w2, a1, a2, a3, a4, a5, a6, a7, a8⟩ := day_both N hN p3 p4 p5 p1 p2
      refine ⟨pu_ 26 19 a t', hh, RelP_of a8 (by rw [a6.2.1]; exact p2) p6 p7 p8 p9 p10 (fun k hk => pu_out a t' hk) a7 a6 a3 a4 a5, ?_, ?_⟩
      · show f_X6_drift_L45 N (nI n) (m + 1) (nI i) a = f_X6_drift_L45 N (nI n) m (nI (i + 1)) _
        rw [f_X6_drift_L45, if_neg (nI_ge hi (by omega)), a1, k_bs, k1_ad]
      · show f_X7_drift_L34 N (nI n) (m + 1) (nI i) b = f_X7_drift_L34 N (nI n) m (nI (i + 1)) _
        rw [f_X7_drift_L34, if_neg (nI_ge hi (by omega)), a2, k_bs, k1_ad]) (fun m a b hab => ⟨a, b, hab, by
      show f_X6_drift_L45 N (nI n) (m + 1) (nI n) a = some a
      rw [f_X6_drift_L45, if_pos (Int32.le_refl _)], by
      show f_X7_drift_L34 N (nI n) (m + 1) (nI n) b = some b
      rw [f_X7_drift_L34, if_pos (Int32.le_refl _)]⟩) N 0 g1 g2 (Nat.zero_le _) (by omega) ⟨d, w, by omega, by omega, h0, h1, h2, h3, h4, h5, h6, h7⟩
    rw [show f_X6_drift_L45 N (nI n) N 0 g1 = some o from q1, show f_X7_drift_L34 N (nI n) N 0 g2 = some o' from q2, k_bs, k_bs]
    have hQ2 := hQ
    obtain ⟨d', w', p1, p2, p3, p4, p5, -⟩ := hQ2
    refine ⟨nI (d' 9 0), o, o', ?_, ?_, hQ.rel⟩
    · rw [show o 35 0 = nI (d' 9 0) from p4.2.1]
    · rw [show o' 9 0 = nI (d' 9 0) from p5.2.2.2.1]
  · rw [h9]
    refine ⟨-1000000002, g1, g2, ?_, rfl, hR0⟩
    by_cases q : z0 < (1 : Int32)
    · rw [if_pos q]
    · rw [if_neg q, if_neg (show ¬ z0 ≤ (99 : Int32) from Int32.not_le.mpr (h.resolve_left q))]
