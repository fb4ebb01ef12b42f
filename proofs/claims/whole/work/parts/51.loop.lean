theorem law_ix {i L : Nat} (hL : L ≤ 2560) (hi : i ≤ 5000) (h : ¬ nI L - (5 : Int32) < nI i) : i + 5 ≤ L := by
  rw [Int32.not_lt, Int32.le_iff_toInt_le] at h
  have h1 : (nI i).toInt = (i : Int) := nI_toInt (by omega)
  have h2 : (nI L - (5 : Int32)).toInt = (L : Int) - 5 := pk_sub_toInt (a := L) (b := 5) (by omega) (by omega)
  rw [h1, h2] at h
  omega
theorem law_in {i L : Nat} (k : Nat) (hk : k < 5) (hL : L ≤ 2560) (h : i + 5 ≤ L) : vp_in (nI i + nI k) L := by
  rw [nI_add]
  exact vp_in_nI (by omega) (by omega)
set_option maxHeartbeats 4000000 in
set_option maxRecDepth 100000 in
theorem law_loop {p : Program} {l : Launch} {e : Env} {s : State} {m : MethodId} {below : List Frame} {meth : Method} {c : Code} {b L : Nat} {xs : Nat → Int32} {kd : (Nat → Nat) × (Nat → Nat)} {G : va_G} {ct : Nat → ClassId} {N : Nat} {Rel : St_ → St_ → Prop} (hL : L ≤ 2560) (C0 : lw_At p s m meth c b L xs) (hE : En kd (fun q : Nat => s.heap.size ≤ q) s s.heap) (hK : va_K G cls_ (tys_ ct) s) (hp : PAll N Rel) : ∀ (n i : Nat), i ≤ 2560 → L ≤ i + 5 * n → ∀ (x3 : Int32), x3 = nI i → ∀ (a1 a2 : Nat → Nat) (g1 g2 : St_) (sg : Int64), Rel g1 g2 → ∀ (H : Heap) (locs : List Loc) (ls : Array Slot), WW G (fun q : Nat => s.heap.size ≤ q) s.heap (wX6 a1 ct g1 ++ wX7 a2 ct g2 sg) H locs → lv_has ls 4 [(0, .ref b), (1, .ref (a1 0)), (2, .ref (a2 0)), (3, .int x3)] → W p l e room_1 s m #[Value.ref b] below meth c H locs 81 2133 (lw_Z below #[Value.ref b] s) (F0 m 18 ls []) := by
  obtain ⟨hp0, hp1, hp2, hp3, hp4, hp5, hp6, hp7, hp8, hp9, hp10, hp11, hp12, hp13, hp14, hp15, hp16, hp17, hp18, hp19, hp20, hp21, hp22, hp23, hp24, hp25, hp26, hp27, hp28⟩ := hp
  have C1 := C0
  obtain ⟨hx, hb, hr, hml, hown, hts, hX, hbl, hlocks, hgv⟩ := C1
  have hA : ∀ q : Nat, s.heap.size ≤ q → (fun q : Nat => s.heap.size ≤ q) q := fun _ h => h
  have hbA : ¬ (fun q : Nat => s.heap.size ≤ q) b := Nat.not_le.mpr hbl
  have ex : ∀ (i : Nat) (x3 : Int32) (a1 a2 : Nat → Nat) (g1 g2 : St_) (sg : Int64) (H : Heap) (locs : List Loc) (ls : Array Slot), WW G (fun q : Nat => s.heap.size ≤ q) s.heap (wX6 a1 ct g1 ++ wX7 a2 ct g2 sg) H locs → W p l e room_1 s m #[Value.ref b] below meth c H locs 81 2133 (lw_Z below #[Value.ref b] s) (F0 m 1003 ls []) := by
    intro i x3 a1 a2 g1 g2 sg H locs ls hW
    refine lv_iconst (v := (1 : Int32)) hx hb dL_law_1003 (by decide) ?_
    refine va_forget (fun q hq => hW.2.2.2.2 q hq) ?_
    refine W.widen (k := 600000) (n := 7302250) (Nat.le_of_ble_eq_true rfl) (Nat.le_of_ble_eq_true rfl) ?_
    exact lw_ret hx hb hr hlocks dL_law_1004
  intro n
  induction n with
  | zero =>
    intro i hi h x3 ex3 a1 a2 g1 g2 sg hR H locs ls hW hl
    refine lv_iload_n hx hb dL_law_18 rfl (lv_at hl 3 rfl) ?_
    refine lv_aload_n hx hb dL_law_19 rfl (lv_at hl 0 rfl) ?_
    refine va_slen hx hb hX hbl hbA hW.2.2 dL_law_20 ?_
    refine lv_iconst (v := (5 : Int32)) hx hb dL_law_21 (by decide) ?_
    refine lv_isub hx hb dL_law_22 ?_
    refine lv_icmp_gt (tgt := 1003) hx hb dL_law_23 (by decide) (fun hc => ex i x3 a1 a2 g1 g2 sg H locs ls hW) (fun hc => ?_)
    rw [ex3] at hc
    have := law_ix hL (by omega) hc
    omega
  | succ n ih =>
    intro i hi h x3 ex3 a1 a2 g1 g2 sg hR H locs ls hW hl
    refine lv_iload_n hx hb dL_law_18 rfl (lv_at hl 3 rfl) ?_
    refine lv_aload_n hx hb dL_law_19 rfl (lv_at hl 0 rfl) ?_
    refine va_slen hx hb hX hbl hbA hW.2.2 dL_law_20 ?_
    refine lv_iconst (v := (5 : Int32)) hx hb dL_law_21 (by decide) ?_
    refine lv_isub hx hb dL_law_22 ?_
    refine lv_icmp_gt (tgt := 1003) hx hb dL_law_23 (by decide) (fun hc => ex i x3 a1 a2 g1 g2 sg H locs ls hW) (fun hc => ?_)
    have h5 : i + 5 ≤ L := by rw [ex3] at hc; exact law_ix hL (by omega) hc
    have hi0 : vp_in x3 L := by rw [ex3]; exact vp_in_nI (by omega) (by omega)
    have hi1 : vp_in (x3 + (1 : Int32)) L := by rw [ex3]; exact law_in 1 (by omega) hL h5
    have hi2 : vp_in (x3 + (2 : Int32)) L := by rw [ex3]; exact law_in 2 (by omega) hL h5
    have hi3 : vp_in (x3 + (3 : Int32)) L := by rw [ex3]; exact law_in 3 (by omega) hL h5
    have hi4 : vp_in (x3 + (4 : Int32)) L := by rw [ex3]; exact law_in 4 (by omega) hL h5
    have K : ∀ (g1 g2 : St_) (sg : Int64), Rel g1 g2 → ∀ (H : Heap) (locs : List Loc) (ls : Array Slot), WW G (fun q : Nat => s.heap.size ≤ q) s.heap (wX6 a1 ct g1 ++ wX7 a2 ct g2 sg) H locs → lv_has ls 4 [(0, .ref b), (1, .ref (a1 0)), (2, .ref (a2 0)), (3, .int x3)] → W p l e room_1 s m #[Value.ref b] below meth c H locs 81 2133 (lw_Z below #[Value.ref b] s) (F0 m 997 ls []) := by
      intro g1 g2 sg hR H locs ls hW hl
      refine lv_iinc (v := x3 + (5 : Int32)) (lv' := [(3, .int (x3 + (5 : Int32))), (0, .ref b), (1, .ref (a1 0)), (2, .ref (a2 0))]) hx hb dL_law_997 hl (k := 3) rfl rfl (by decide) rfl (fun ls hl => ?_)
      refine lv_goto (tgt := 18) hx hb dL_law_1000 (by decide) ?_
      exact ih (i + 5) (by omega) (by omega) (x3 + (5 : Int32)) (by rw [ex3]; exact nI_add i 5) a1 a2 g1 g2 sg hR H locs ls hW (lv_sub hl [1, 2, 3, 0] rfl)
    refine lv_aload_n hx hb dL_law_26 rfl (lv_at hl 0 rfl) ?_
    refine lv_iload_n hx hb dL_law_27 rfl (lv_at hl 3 rfl) ?_
    refine va_sld hx hb hX hbl hbA hW.2.2 hi0 dL_law_28 ?_
    refine lv_bipush (v := (31 : Int32)) hx hb dL_law_29 (by decide) ?_
    refine lv_iand hx hb dL_law_31 ?_
    refine lv_topi (fun z hz => ?_)
    by_cases q0 : z = (0 : Int32)
    · refine lv_tableIn (tgt := 164) (off := 132) hx hb dL_law_32 (by rw [q0]; decide) (by rw [q0]; decide) (by rw [q0]; rfl) (by decide) ?_
      exact law_feed C0 hE hK hp0 x3 hi0 hi1 hi2 hi3 hi4 a1 a2 g1 g2 sg hR H locs ls hW hl K
    by_cases q1 : z = (1 : Int32)
    · refine lv_tableIn (tgt := 227) (off := 195) hx hb dL_law_32 (by rw [q1]; decide) (by rw [q1]; decide) (by rw [q1]; rfl) (by decide) ?_
      exact law_town C0 hE hK hp1 x3 hi0 hi1 hi2 hi3 hi4 a1 a2 g1 g2 sg hR H locs ls hW hl K
    by_cases q2 : z = (2 : Int32)
    · refine lv_tableIn (tgt := 240) (off := 208) hx hb dL_law_32 (by rw [q2]; decide) (by rw [q2]; decide) (by rw [q2]; rfl) (by decide) ?_
      exact law_fault C0 hE hK hp2 x3 hi0 hi1 hi2 hi3 hi4 a1 a2 g1 g2 sg hR H locs ls hW hl K
    by_cases q3 : z = (3 : Int32)
    · refine lv_tableIn (tgt := 253) (off := 221) hx hb dL_law_32 (by rw [q3]; decide) (by rw [q3]; decide) (by rw [q3]; rfl) (by decide) ?_
      exact law_told C0 hE hK hp3 x3 hi0 hi1 hi2 hi3 hi4 a1 a2 g1 g2 sg hR H locs ls hW hl K
    by_cases q4 : z = (4 : Int32)
    · refine lv_tableIn (tgt := 276) (off := 244) hx hb dL_law_32 (by rw [q4]; decide) (by rw [q4]; decide) (by rw [q4]; rfl) (by decide) ?_
      exact law_stair C0 hE hK hp4 x3 hi0 hi1 hi2 hi3 hi4 a1 a2 g1 g2 sg hR H locs ls hW hl K
    by_cases q5 : z = (5 : Int32)
    · refine lv_tableIn (tgt := 309) (off := 277) hx hb dL_law_32 (by rw [q5]; decide) (by rw [q5]; decide) (by rw [q5]; rfl) (by decide) ?_
      exact law_person C0 hE hK hp5 x3 hi0 hi1 hi2 hi3 hi4 a1 a2 g1 g2 sg hR H locs ls hW hl K
    by_cases q6 : z = (6 : Int32)
    · refine lv_tableIn (tgt := 342) (off := 310) hx hb dL_law_32 (by rw [q6]; decide) (by rw [q6]; decide) (by rw [q6]; rfl) (by decide) ?_
      exact law_fit C0 hE hK hp6 x3 hi0 hi1 hi2 hi3 hi4 a1 a2 g1 g2 sg hR H locs ls hW hl K
    by_cases q7 : z = (7 : Int32)
    · refine lv_tableIn (tgt := 375) (off := 343) hx hb dL_law_32 (by rw [q7]; decide) (by rw [q7]; decide) (by rw [q7]; rfl) (by decide) ?_
      exact law_go C0 hE hK hp7 x3 hi0 hi1 hi2 hi3 hi4 a1 a2 g1 g2 sg hR H locs ls hW hl K
    by_cases q8 : z = (8 : Int32)
    · refine lv_tableIn (tgt := 408) (off := 376) hx hb dL_law_32 (by rw [q8]; decide) (by rw [q8]; decide) (by rw [q8]; rfl) (by decide) ?_
      exact law_build C0 hE hK hp8 x3 hi0 hi1 hi2 hi3 hi4 a1 a2 g1 g2 sg hR H locs ls hW hl K
    by_cases q9 : z = (9 : Int32)
    · refine lv_tableIn (tgt := 451) (off := 419) hx hb dL_law_32 (by rw [q9]; decide) (by rw [q9]; decide) (by rw [q9]; rfl) (by decide) ?_
      exact law_law C0 hE hK hp9 x3 hi0 hi1 hi2 hi3 hi4 a1 a2 g1 g2 sg hR H locs ls hW hl K
    by_cases q10 : z = (10 : Int32)
    · refine lv_tableIn (tgt := 474) (off := 442) hx hb dL_law_32 (by rw [q10]; decide) (by rw [q10]; decide) (by rw [q10]; rfl) (by decide) ?_
      exact law_drift C0 hE hK hp10 x3 hi0 hi1 hi2 hi3 hi4 a1 a2 g1 g2 sg hR H locs ls hW hl K
    by_cases q11 : z = (11 : Int32)
    · refine lv_tableIn (tgt := 497) (off := 465) hx hb dL_law_32 (by rw [q11]; decide) (by rw [q11]; decide) (by rw [q11]; rfl) (by decide) ?_
      exact law_reach C0 hE hK hp11 x3 hi0 hi1 hi2 hi3 hi4 a1 a2 g1 g2 sg hR H locs ls hW hl K
    by_cases q12 : z = (12 : Int32)
    · refine lv_tableIn (tgt := 530) (off := 498) hx hb dL_law_32 (by rw [q12]; decide) (by rw [q12]; decide) (by rw [q12]; rfl) (by decide) ?_
      exact law_guests C0 hE hK hp12 x3 hi0 hi1 hi2 hi3 hi4 a1 a2 g1 g2 sg hR H locs ls hW hl K
    by_cases q13 : z = (13 : Int32)
    · refine lv_tableIn (tgt := 553) (off := 521) hx hb dL_law_32 (by rw [q13]; decide) (by rw [q13]; decide) (by rw [q13]; rfl) (by decide) ?_
      exact law_wish C0 hE hK hp13 x3 hi0 hi1 hi2 hi3 hi4 a1 a2 g1 g2 sg hR H locs ls hW hl K
    by_cases q14 : z = (14 : Int32)
    · refine lv_tableIn (tgt := 586) (off := 554) hx hb dL_law_32 (by rw [q14]; decide) (by rw [q14]; decide) (by rw [q14]; rfl) (by decide) ?_
      exact law_pair C0 hE hK hp14 x3 hi0 hi1 hi2 hi3 hi4 a1 a2 g1 g2 sg hR H locs ls hW hl K
    by_cases q15 : z = (15 : Int32)
    · refine lv_tableIn (tgt := 629) (off := 597) hx hb dL_law_32 (by rw [q15]; decide) (by rw [q15]; decide) (by rw [q15]; rfl) (by decide) ?_
      exact law_carried C0 hE hK hp15 x3 hi0 hi1 hi2 hi3 hi4 a1 a2 g1 g2 sg hR H locs ls hW hl K
    by_cases q16 : z = (16 : Int32)
    · refine lv_tableIn (tgt := 672) (off := 640) hx hb dL_law_32 (by rw [q16]; decide) (by rw [q16]; decide) (by rw [q16]; rfl) (by decide) ?_
      exact law_step C0 hE hK hp16 x3 hi0 hi1 hi2 hi3 hi4 a1 a2 g1 g2 sg hR H locs ls hW hl K
    by_cases q17 : z = (17 : Int32)
    · refine lv_tableIn (tgt := 725) (off := 693) hx hb dL_law_32 (by rw [q17]; decide) (by rw [q17]; decide) (by rw [q17]; rfl) (by decide) ?_
      exact law_worst C0 hE hK hp17 x3 hi0 hi1 hi2 hi3 hi4 a1 a2 g1 g2 sg hR H locs ls hW hl K
    by_cases q18 : z = (18 : Int32)
    · refine lv_tableIn (tgt := 748) (off := 716) hx hb dL_law_32 (by rw [q18]; decide) (by rw [q18]; decide) (by rw [q18]; rfl) (by decide) ?_
      exact law_best C0 hE hK hp18 x3 hi0 hi1 hi2 hi3 hi4 a1 a2 g1 g2 sg hR H locs ls hW hl K
    by_cases q19 : z = (19 : Int32)
    · refine lv_tableIn (tgt := 771) (off := 739) hx hb dL_law_32 (by rw [q19]; decide) (by rw [q19]; decide) (by rw [q19]; rfl) (by decide) ?_
      exact law_cover C0 hE hK hp19 x3 hi0 hi1 hi2 hi3 hi4 a1 a2 g1 g2 sg hR H locs ls hW hl K
    by_cases q20 : z = (20 : Int32)
    · refine lv_tableIn (tgt := 784) (off := 752) hx hb dL_law_32 (by rw [q20]; decide) (by rw [q20]; decide) (by rw [q20]; rfl) (by decide) ?_
      exact law_see C0 hE hK hp20 x3 hi0 hi1 hi2 hi3 hi4 a1 a2 g1 g2 sg hR H locs ls hW hl K
    by_cases q21 : z = (21 : Int32)
    · refine lv_tableIn (tgt := 843) (off := 811) hx hb dL_law_32 (by rw [q21]; decide) (by rw [q21]; decide) (by rw [q21]; rfl) (by decide) ?_
      exact law_fits C0 hE hK hp21 x3 hi0 hi1 hi2 hi3 hi4 a1 a2 g1 g2 sg hR H locs ls hW hl K
    by_cases q22 : z = (22 : Int32)
    · refine lv_tableIn (tgt := 856) (off := 824) hx hb dL_law_32 (by rw [q22]; decide) (by rw [q22]; decide) (by rw [q22]; rfl) (by decide) ?_
      exact law_ask C0 hE hK hp22 x3 hi0 hi1 hi2 hi3 hi4 a1 a2 g1 g2 sg hR H locs ls hW hl K
    by_cases q23 : z = (23 : Int32)
    · refine lv_tableIn (tgt := 869) (off := 837) hx hb dL_law_32 (by rw [q23]; decide) (by rw [q23]; decide) (by rw [q23]; rfl) (by decide) ?_
      exact law_write C0 hE hK hp23 x3 hi0 hi1 hi2 hi3 hi4 a1 a2 g1 g2 sg hR H locs ls hW hl K
    by_cases q24 : z = (24 : Int32)
    · refine lv_tableIn (tgt := 902) (off := 870) hx hb dL_law_32 (by rw [q24]; decide) (by rw [q24]; decide) (by rw [q24]; rfl) (by decide) ?_
      exact law_tear C0 hE hK hp24 x3 hi0 hi1 hi2 hi3 hi4 a1 a2 g1 g2 sg hR H locs ls hW hl K
    by_cases q25 : z = (25 : Int32)
    · refine lv_tableIn (tgt := 915) (off := 883) hx hb dL_law_32 (by rw [q25]; decide) (by rw [q25]; decide) (by rw [q25]; rfl) (by decide) ?_
      exact law_judge C0 hE hK hp25 x3 hi0 hi1 hi2 hi3 hi4 a1 a2 g1 g2 sg hR H locs ls hW hl K
    by_cases q26 : z = (26 : Int32)
    · refine lv_tableIn (tgt := 928) (off := 896) hx hb dL_law_32 (by rw [q26]; decide) (by rw [q26]; decide) (by rw [q26]; rfl) (by decide) ?_
      exact law_seed C0 hE hK hp26 x3 hi0 hi1 hi2 hi3 hi4 a1 a2 g1 g2 sg hR H locs ls hW hl K
    by_cases q27 : z = (27 : Int32)
    · refine lv_tableIn (tgt := 951) (off := 919) hx hb dL_law_32 (by rw [q27]; decide) (by rw [q27]; decide) (by rw [q27]; rfl) (by decide) ?_
      exact law_keep C0 hE hK hp27 x3 hi0 hi1 hi2 hi3 hi4 a1 a2 g1 g2 sg hR H locs ls hW hl K
    by_cases q28 : z = (28 : Int32)
    · refine lv_tableIn (tgt := 974) (off := 942) hx hb dL_law_32 (by rw [q28]; decide) (by rw [q28]; decide) (by rw [q28]; rfl) (by decide) ?_
      exact law_goBack C0 hE hK hp28 x3 hi0 hi1 hi2 hi3 hi4 a1 a2 g1 g2 sg hR H locs ls hW hl K
    refine lv_tableOut (tgt := 997) hx hb dL_law_32 (by have h0 := lv_neT q0 (show (0 : Int32).toInt = 0 from rfl); have h1 := lv_neT q1 (show (1 : Int32).toInt = 1 from rfl); have h2 := lv_neT q2 (show (2 : Int32).toInt = 2 from rfl); have h3 := lv_neT q3 (show (3 : Int32).toInt = 3 from rfl); have h4 := lv_neT q4 (show (4 : Int32).toInt = 4 from rfl); have h5 := lv_neT q5 (show (5 : Int32).toInt = 5 from rfl); have h6 := lv_neT q6 (show (6 : Int32).toInt = 6 from rfl); have h7 := lv_neT q7 (show (7 : Int32).toInt = 7 from rfl); have h8 := lv_neT q8 (show (8 : Int32).toInt = 8 from rfl); have h9 := lv_neT q9 (show (9 : Int32).toInt = 9 from rfl); have h10 := lv_neT q10 (show (10 : Int32).toInt = 10 from rfl); have h11 := lv_neT q11 (show (11 : Int32).toInt = 11 from rfl); have h12 := lv_neT q12 (show (12 : Int32).toInt = 12 from rfl); have h13 := lv_neT q13 (show (13 : Int32).toInt = 13 from rfl); have h14 := lv_neT q14 (show (14 : Int32).toInt = 14 from rfl); have h15 := lv_neT q15 (show (15 : Int32).toInt = 15 from rfl); have h16 := lv_neT q16 (show (16 : Int32).toInt = 16 from rfl); have h17 := lv_neT q17 (show (17 : Int32).toInt = 17 from rfl); have h18 := lv_neT q18 (show (18 : Int32).toInt = 18 from rfl); have h19 := lv_neT q19 (show (19 : Int32).toInt = 19 from rfl); have h20 := lv_neT q20 (show (20 : Int32).toInt = 20 from rfl); have h21 := lv_neT q21 (show (21 : Int32).toInt = 21 from rfl); have h22 := lv_neT q22 (show (22 : Int32).toInt = 22 from rfl); have h23 := lv_neT q23 (show (23 : Int32).toInt = 23 from rfl); have h24 := lv_neT q24 (show (24 : Int32).toInt = 24 from rfl); have h25 := lv_neT q25 (show (25 : Int32).toInt = 25 from rfl); have h26 := lv_neT q26 (show (26 : Int32).toInt = 26 from rfl); have h27 := lv_neT q27 (show (27 : Int32).toInt = 27 from rfl); have h28 := lv_neT q28 (show (28 : Int32).toInt = 28 from rfl); omega) (by decide) ?_
    exact K g1 g2 sg hR H locs ls hW hl
