-- ===== feeding =====
theorem fs_1 : ∀ k, k < 8 → ((((8 : Int32) * nI k).toInt64.toUInt64 &&& Int64.toUInt64 63)).toNat = 8 * k := by decide +kernel
theorem fs_2 : ∀ k, k < 8 → (((((8 : Int32) * nI k).toInt64 &&& 63)).toBitVec.smod 64).toNat = 8 * k := by decide +kernel
theorem fs_3 : ∀ i, i < 64 → (255 : Int64).toBitVec.getLsbD i = decide (i < 8) := by decide +kernel
theorem byte_b (z : Int64) {k : Nat} (hk : k < 8) : ∃ b, b < 256 ∧ ((z.toUInt64 >>> (((8 : Int32) * nI k).toInt64.toUInt64 &&& Int64.toUInt64 63)).toInt64 &&& (255 : Int64)).toInt32 = nI b ∧ ((z >>> (((8 : Int32) * nI k).toInt64 &&& 63)) &&& (255 : Int64)).toInt32 = nI b := by
  have e1 : (z.toUInt64 >>> (((8 : Int32) * nI k).toInt64.toUInt64 &&& Int64.toUInt64 63)).toInt64.toBitVec = z.toBitVec >>> (8 * k) := by
    apply BitVec.eq_of_toNat_eq
    show (z.toUInt64 >>> (((8 : Int32) * nI k).toInt64.toUInt64 &&& Int64.toUInt64 63)).toNat = _
    rw [UInt64.toNat_shiftRight, fs_1 k hk, Nat.mod_eq_of_lt (show 8 * k < 64 by omega), BitVec.toNat_ushiftRight]
    rfl
  have e2 : (z >>> (((8 : Int32) * nI k).toInt64 &&& 63)).toBitVec = z.toBitVec.sshiftRight (8 * k) := by
    rw [Int64.toBitVec_shiftRight]
    show z.toBitVec.sshiftRight' _ = _
    rw [BitVec.sshiftRight', fs_2 k hk]
  have same : (z.toUInt64 >>> (((8 : Int32) * nI k).toInt64.toUInt64 &&& Int64.toUInt64 63)).toInt64 &&& (255 : Int64) = (z >>> (((8 : Int32) * nI k).toInt64 &&& 63)) &&& (255 : Int64) := by
    apply Int64.toBitVec_inj.1
    apply BitVec.eq_of_getLsbD_eq
    intro i hi
    rw [Int64.toBitVec_and, Int64.toBitVec_and, BitVec.getLsbD_and, BitVec.getLsbD_and, e1, e2, fs_3 i hi]
    by_cases c : i < 8
    · rw [BitVec.getLsbD_ushiftRight, BitVec.getLsbD_sshiftRight, if_pos (show 8 * k + i < 64 by omega), decide_eq_false (show ¬ 64 ≤ i by omega)]
      rfl
    · rw [decide_eq_false c, Bool.and_false, Bool.and_false]
  have hX : ((z >>> (((8 : Int32) * nI k).toInt64 &&& 63)) &&& (255 : Int64)) = lN ((z >>> (((8 : Int32) * nI k).toInt64 &&& 63)) &&& (255 : Int64)).toBitVec.toNat := Int64.toBitVec_inj.1 (by
    generalize ((z >>> (((8 : Int32) * nI k).toInt64 &&& 63)) &&& (255 : Int64)) = y
    show y.toBitVec = BitVec.ofNat 64 y.toBitVec.toNat
    simp)
  refine ⟨((z >>> (((8 : Int32) * nI k).toInt64 &&& 63)) &&& (255 : Int64)).toBitVec.toNat, Nat.lt_pow_two_of_testBit (n := 8) _ (fun i hi => ?_), ?_, ?_⟩
  · show ((z >>> (((8 : Int32) * nI k).toInt64 &&& 63)) &&& (255 : Int64)).toBitVec.getLsbD i = false
    rcases Nat.lt_or_ge i 64 with q | q
    · rw [Int64.toBitVec_and, BitVec.getLsbD_and, fs_3 i q, decide_eq_false (by omega), Bool.and_false]
    · exact BitVec.getLsbD_of_ge _ _ q
  · rw [same]
    exact (congrArg Int64.toInt32 hX).trans (lN_i _)
  · exact (congrArg Int64.toInt32 hX).trans (lN_i _)
theorem CT_congr {t t' : St_} {d : Nat → Nat → Nat} {w : Nat → Int32} (h : ∀ k, k < 17 → t' k = t k) (h1 : CT t d w) : CT t' d w := by
  have s1 : ∀ k, k < 9 → sh_ 1 t' k = sh_ 1 t k := fun k hk => h (1 + k) (by omega)
  have s8 : ∀ k, k < 9 → sh_ 8 t' k = sh_ 8 t k := fun k hk => h (8 + k) (by omega)
  unfold CT CP CS at h1 ⊢
  rw [s1 1 (by decide), s1 2 (by decide), s1 3 (by decide), s1 4 (by decide), s1 5 (by decide), s1 6 (by decide), s8 1 (by decide), s8 2 (by decide), s8 3 (by decide), s8 4 (by decide), s8 5 (by decide), s8 6 (by decide), s8 7 (by decide), s8 8 (by decide)]
  exact h1
theorem MT_congr {g h : St_} {d : Nat → Nat → Nat} {w : Nat → Int32} (H : ∀ k, k < 15 → h k = g k) (h2 : MT g d w) : MT h d w := by
  unfold MT
  rw [H 1 (by decide), H 2 (by decide), H 3 (by decide), H 4 (by decide), H 5 (by decide), H 6 (by decide), H 7 (by decide), H 8 (by decide), H 9 (by decide), H 10 (by decide), H 11 (by decide), H 12 (by decide), H 13 (by decide), H 14 (by decide)]
  exact h2
/-- the text alone has changed -/
theorem Rel_txt {g1 g2 h1 h2 : St_} (hR : Rel g1 g2) (c : ∀ k, k ≠ 2 → k ≠ 24 → h1 k = g1 k) (m : ∀ k, k ≠ 15 → k ≠ 16 → h2 k = g2 k) (hT : RTx h1 h2) : Rel h1 h2 := by
  obtain ⟨d, w, k0, k1, k2, k3, k4, k5, k6, k7⟩ := hR
  refine ⟨d, w, k0, CT_congr (fun k hk => c (26 + k) (by omega) (by omega)) k1, MT_congr (fun k hk => m k (by omega) (by omega)) k2, hT, ?_, ?_, ?_, ?_⟩
  · rw [c 75 (by decide) (by decide), m 17 (by decide) (by decide)]; exact k4
  · unfold RSe at k5 ⊢
    rw [c 66 (by decide) (by decide), c 67 (by decide) (by decide), c 68 (by decide) (by decide), c 69 (by decide) (by decide), m 35 (by decide) (by decide), m 36 (by decide) (by decide), m 37 (by decide) (by decide), m 38 (by decide) (by decide)]
    exact k5
  · unfold RBo at k6 ⊢
    rw [c 71 (by decide) (by decide), c 72 (by decide) (by decide), c 73 (by decide) (by decide), m 39 (by decide) (by decide), m 40 (by decide) (by decide), m 41 (by decide) (by decide)]
    exact k6
  · have one : ∀ i oc om, 46 ≤ oc → oc ≤ 55 → RI1 g1 g2 d i oc om → RI1 h1 h2 d i oc om := by
      intro i oc om ho ho2 h
      unfold RI1 at h ⊢
      rw [c 64 (by decide) (by decide), m 44 (by decide) (by decide)]
      rcases h with h | ⟨a1, a2, e', w2, a3, a4, a5, a6⟩
      · exact Or.inl h
      · refine Or.inr ⟨a1, a2, e', w2, a3, a4, ?_, ?_⟩
        · have s : ∀ k, k < 10 → sh_ oc h1 k = sh_ oc g1 k := fun k hk => c (oc + k) (by omega) (by omega)
          unfold CS at a5 ⊢
          rw [s 1 (by omega), s 2 (by omega), s 3 (by omega), s 4 (by omega), s 5 (by omega), s 6 (by omega), s 7 (by omega), s 8 (by omega)]
          exact a5
        · unfold MI at a6 ⊢
          rw [m 43 (by decide) (by decide)]
          exact a6
    exact ⟨one 0 46 0 (by omega) (by omega) k7.1, one 1 55 70 (by omega) (by omega) k7.2⟩
theorem pu_in (a n : Nat) (g u : St_) {k : Nat} (h : a ≤ k) (h2 : k < a + n) : pu_ a n g u k = u (k - a) := by
  unfold pu_
  rw [show (Nat.ble a k && Nat.ble (k + 1) (a + n)) = true by rw [Bool.and_eq_true]; exact ⟨Nat.ble_eq_true_of_le h, Nat.ble_eq_true_of_le h2⟩, cond_true]
theorem pa_feed (N : Nat) (hN : 200 < N) : PA_feed N Rel := by
  intro g1 g2 hR z0 z1
  have hR0 := hR
  obtain ⟨d, w, h0, h1, h2, ⟨T, hT, t1, t2, t3⟩, h4, h5, h6, h7⟩ := hR
  unfold f_X6_feed f_X7_feed
  rw [show (1 : Int64) = (nI 1).toInt64 from rfl, show (8 : Int64) = (nI 8).toInt64 from rfl, t1, t2]
  rcases k_inC N (x := z0) 1 8 (by decide) (by decide) with ⟨n, n1, n2, rfl, h⟩ | ⟨h, h9⟩
  · rw [h, k_bs, if_neg (show ¬ (1 : Int32) = 0 by decide), if_neg (show ¬ nI n < (1 : Int32) by rw [k1_gt (by omega)]; omega), if_pos (show nI n ≤ (8 : Int32) by rw [k8_ge (by omega)]; exact n2), k_add]
    by_cases full : T + n ≤ 500
    · rw [if_pos (show nI (T + n) ≤ (500 : Int32) by rw [k500_ge (by omega)]; exact full), if_pos (show nI (T + n) ≤ (500 : Int32) by rw [k500_ge (by omega)]; exact full)]
      obtain ⟨o, o', ⟨T', hT', q1, q2, q3, q4, q5⟩, e1, e2⟩ := loop2 (fun m i a => f_X6_feed_L37 N z1 m (nI (n - i) - 1) a) (fun m i a => f_X7_feed_L35 N z1 m (nI (n - i) - 1) a) n (fun i a b => ∃ T', T' + (n - i) ≤ 500 ∧ a 2 0 = nI T' ∧ b 16 0 = nI T' ∧ (∀ i, i < T' → ∃ b', b' < 256 ∧ a 24 i = bb b' ∧ b 15 i = nI b') ∧ (∀ k, k ≠ 2 → k ≠ 24 → a k = g1 k) ∧ (∀ k, k ≠ 15 → k ≠ 16 → b k = g2 k)) (fun a b => ∃ T', T' ≤ 500 ∧ a 2 0 = nI T' ∧ b 16 0 = nI T' ∧ (∀ i, i < T' → ∃ b', b' < 256 ∧ a 24 i = bb b' ∧ b 15 i = nI b') ∧ (∀ k, k ≠ 2 → k ≠ 24 → a k = g1 k) ∧ (∀ k, k ≠ 15 → k ≠ 16 → b k = g2 k)) (fun m i a b hi hm hab => by
        obtain ⟨T', r0, r1, r2, r3, r4, r5⟩ := hab
        obtain ⟨by', hb, eb1, eb2⟩ := byte_b z1 (k := n - i - 1) (by omega)
        left
        refine ⟨pu_ 1 25 a (up1 (up1 (sh_ 1 a) 23 T' (bb by')) 1 0 (nI T' + 1)), up1 (up1 b 15 T' (nI by')) 16 0 (nI T' + 1), ⟨T' + 1, by omega, ?_, ?_, fun x hx => ?_, fun k k2 k24 => ?_, fun k k15 k16 => ?_⟩, ?_, ?_⟩
        · show nI T' + 1 = nI (T' + 1)
          exact k1_ad T'
        · show nI T' + 1 = nI (T' + 1)
          exact k1_ad T'
        · by_cases c : x = T'
          · exact ⟨by', hb, by rw [c]; exact u_eq (sh_ 1 a) 23 T' _, by rw [c]; exact u_eq b 15 T' _⟩
          · obtain ⟨b', s1, s2, s3⟩ := r3 x (by omega)
            exact ⟨b', s1, (u_ne (sh_ 1 a) 23 T' _ c).trans s2, (u_ne b 15 T' _ c).trans s3⟩
        · by_cases c : 1 ≤ k ∧ k < 26
          · rw [pu_in 1 25 _ _ c.1 (by omega), u_nk _ _ _ (show k - 1 ≠ 1 by omega), u_nk _ _ _ (show k - 1 ≠ 23 by omega)]
            show a (1 + (k - 1)) = g1 k
            rw [show 1 + (k - 1) = k by omega]
            exact r4 k k2 k24
          · rw [pu_no 1 25 _ _ (by omega)]
            exact r4 k k2 k24
        · rw [u_nk _ _ _ k16, u_nk _ _ _ k15]
          exact r5 k k15 k16
        · show f_X6_feed_L37 N z1 (m + 1) (nI (n - i) - 1) a = f_X6_feed_L37 N z1 m (nI (n - (i + 1)) - 1) _
          have ea : sh_ 1 a 1 0 = nI T' := r1
          rw [k1_sb (by omega), f_X6_feed_L37, if_neg (nI_pos (show n - i - 1 < 2 ^ 31 by omega)), eb1]
          unfold f_X4_append
          rw [ea, if_neg (show ¬ (500 : Int32) ≤ nI T' by rw [k500_le (by omega)]; omega), k_ok (show T' < 500 by omega) (by omega), k_cl (show T' < 2147483648 by omega), pk_vb, k_gd, k_bs, Int32.sub_eq_add_neg, show n - i - 1 = n - (i + 1) by omega]
          rfl
        · show f_X7_feed_L35 N z1 (m + 1) (nI (n - i) - 1) b = f_X7_feed_L35 N z1 m (nI (n - (i + 1)) - 1) _
          rw [k1_sb (by omega), f_X7_feed_L35, if_neg (nI_pos (show n - i - 1 < 2 ^ 31 by omega)), eb2, r2, k_ok (show T' < 500 by omega) (by omega), k_cl (show T' < 2147483648 by omega), k_gd, Int32.sub_eq_add_neg, show n - i - 1 = n - (i + 1) by omega]) (fun m a b hab => by
        obtain ⟨T', r0, r1, r2, r3, r4, r5⟩ := hab
        refine ⟨a, b, ⟨T', by omega, r1, r2, r3, r4, r5⟩, ?_, ?_⟩
        · show f_X6_feed_L37 N z1 (m + 1) (nI (n - n) - 1) a = some a
          rw [Nat.sub_self, f_X6_feed_L37, if_pos (show nI 0 - 1 < 0 by decide)]
        · show f_X7_feed_L35 N z1 (m + 1) (nI (n - n) - 1) b = some b
          rw [Nat.sub_self, f_X7_feed_L35, if_pos (show nI 0 - 1 < 0 by decide)]) N 0 g1 g2 (Nat.zero_le _) (by omega) ⟨T, by omega, t1, t2, t3, fun _ _ _ => rfl, fun _ _ _ => rfl⟩
      rw [show f_X6_feed_L37 N z1 N (nI n - 1) g1 = some o from e1, show f_X7_feed_L35 N z1 N (nI n - 1) g2 = some o' from e2, k_bs, k_bs, q1, q2]
      exact ⟨_, _, _, rfl, rfl, Rel_txt hR0 q4 q5 ⟨T', hT', q1, q2, q3⟩⟩
    · rw [if_neg (show ¬ nI (T + n) ≤ (500 : Int32) by rw [k500_ge (by omega)]; exact full), if_neg (show ¬ nI (T + n) ≤ (500 : Int32) by rw [k500_ge (by omega)]; exact full)]
      exact ⟨_, _, _, rfl, rfl, hR0⟩
  · rw [h9]
    refine ⟨-1000000002, g1, g2, ?_, rfl, hR0⟩
    by_cases q : z0 < (1 : Int32)
    · rw [if_pos q]
    · rw [if_neg q, if_neg (show ¬ z0 ≤ (8 : Int32) from Int32.not_le.mpr (h.resolve_left q))]
