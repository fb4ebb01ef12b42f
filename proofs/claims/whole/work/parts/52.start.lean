def tmS (i : Nat) : Term := .string RX4 (([48, 69, 75, 134, 136, 138] : List Nat).getD i 0)
set_option maxRecDepth 100000 in
theorem fl_ex : ∀ i, i < 6 → Cond.exactly (tmS i) "java/lang/String" ∈ flatC (Jvm.Cond.and given_1 narrow_1) := by decide +kernel
set_option maxRecDepth 100000 in
theorem fl_co : ∀ i, i < 6 → Cond.eq (.field (tmS i) "java/lang/String" "coder" "B") (.int 0) ∈ flatC (Jvm.Cond.and given_1 narrow_1) := by decide +kernel
set_option maxRecDepth 100000 in
theorem fl_ar : ∀ i, i < 6 → Cond.arrayOf (.field (tmS i) "java/lang/String" "value" "[B") .byte ∈ flatC (Jvm.Cond.and given_1 narrow_1) := by decide +kernel
set_option maxRecDepth 100000 in
theorem fl_le : ∀ i, i < 6 → Cond.eq (.length (.field (tmS i) "java/lang/String" "value" "[B")) (.int (Int32.ofNat (lenJS.getD i 0))) ∈ flatC (Jvm.Cond.and given_1 narrow_1) := by decide +kernel
set_option maxRecDepth 100000 in
theorem fl_el : ∀ i, i < 6 → ∀ j, j < lenJS.getD i 0 → Cond.eq (.elem (.field (tmS i) "java/lang/String" "value" "[B") (.int (Int32.ofNat j))) (.int ((bytJS.getD i []).getD j 0)) ∈ flatC (Jvm.Cond.and given_1 narrow_1) := by decide +kernel
set_option maxRecDepth 100000 in
theorem fl_ne : ∀ i, i < 6 → ∀ j, j < 6 → i ≠ j → Cond.not (Cond.eq (tmS i) (tmS j)) ∈ flatC (Jvm.Cond.and given_1 narrow_1) ∨ Cond.not (Cond.eq (tmS j) (tmS i)) ∈ flatC (Jvm.Cond.and given_1 narrow_1) := by decide +kernel
set_option maxRecDepth 100000 in
theorem fl_cs : Cond.eq (.static "java/lang/String" "COMPACT_STRINGS" "Z") (.int 1) ∈ flatC (Jvm.Cond.and given_1 narrow_1) := by decide +kernel
set_option maxRecDepth 100000 in
theorem fl_si : Cond.isRef (.static "jdk/internal/util/Preconditions" "SIOOBE_FORMATTER" "Ljava/util/function/BiFunction;") ∈ flatC (Jvm.Cond.and given_1 narrow_1) := by decide +kernel
set_option maxRecDepth 100000 in
theorem tb_nw : ∀ x ∈ NwA, Cond.methodLinkNest x.1 x.2.1 x.2.2 RX6 ∈ lw_tbl := by decide +kernel
set_option maxRecDepth 100000 in
theorem tb_st : ∀ x ∈ StA, Cond.stringRef RX4 x.1 x.2.1 ∈ lw_tbl ∧ Term.string RX4 x.1 = tmS x.2.2 ∧ x.2.2 < 6 := by decide +kernel
set_option maxRecDepth 100000 in
theorem tb_x : Cond.laysStatic "java/lang/String" "COMPACT_STRINGS" "Z" ∈ lw_tbl ∧ Cond.initialized "java/lang/String" ∈ lw_tbl ∧ Cond.laysStatic "jdk/internal/util/Preconditions" "SIOOBE_FORMATTER" "Ljava/util/function/BiFunction;" ∈ lw_tbl ∧ Cond.initialized "jdk/internal/util/Preconditions" ∈ lw_tbl ∧ Cond.arrayClass .int ∈ lw_tbl ∧ Cond.arrayClass .byte ∈ lw_tbl ∧ Cond.arrayClass .boolean ∈ lw_tbl ∧ Cond.arrayOver (.object "FittingStrides$State") ∈ lw_tbl := by decide +kernel
set_option maxRecDepth 100000 in
theorem tb_i : Cond.instantiable RX0 4 ∈ lw_tbl ∧ Cond.instantiable RX1 6 ∈ lw_tbl ∧ Cond.instantiable RX2 4 ∈ lw_tbl ∧ Cond.instantiable RX3 8 ∈ lw_tbl ∧ Cond.instantiable RX4 6 ∈ lw_tbl ∧ Cond.instantiable RX5 4 ∈ lw_tbl ∧ Cond.instantiable RX6 7 ∈ lw_tbl ∧ Cond.instantiable RX7 44 ∈ lw_tbl := by decide +kernel
theorem En_start {p : Program} {s : State} {m : MethodId} {meth : Method} {c : Code} {b L : Nat} {xs : Nat → Int32} (C0 : lw_At p s m meth c b L xs) : ∃ kd : (Nat → Nat) × (Nat → Nat), En kd (fun q : Nat => s.heap.size ≤ q) s s.heap := by
  obtain ⟨hx, hb, hr, hml, hown, hts, hX, hbl, hlocks, hgv⟩ := C0
  have hs := flat_of_before _ hgv
  have hA : ∀ a : Nat, a < s.heap.size → ¬ (fun q : Nat => s.heap.size ≤ q) a := fun a h => Nat.not_le.mpr h
  obtain ⟨adK, adV, hS, hev⟩ := vk_Sof (args := #[Value.ref b]) (s := s) (N := 6) (tm := tmS) (len := lenJS) (byt := bytJS) (A := fun q : Nat => s.heap.size ≤ q) (by decide +kernel) (fun i hi => hs _ (fl_ex i hi)) (fun i hi => hs _ (fl_co i hi)) (fun i hi => hs _ (fl_ar i hi)) (fun i hi => hs _ (fl_le i hi)) (fun i hi j hj => hs _ (fl_el i hi j hj)) (fun i j hi hj hij => (fl_ne i hi j hj hij).imp (hs _) (hs _)) hA
  refine ⟨(adK, adV), fun x hx => va_Nw.of rfl (hts _ (tb_nw x hx)), fun x hx => ?_, hS, va_Zof (hts _ tb_x.1) (hts _ tb_x.2.1) (va_eqi (hs _ fl_cs)) hA, va_Zqof (hts _ tb_x.2.2.1) (hts _ tb_x.2.2.2.1) (hs _ fl_si) hA⟩
  obtain ⟨h1, h2, h3⟩ := tb_st x hx
  refine vk_R.of (hts _ h1) ?_
  rw [h2]
  exact hev _ h3
theorem K_start {p : Program} {s : State} {m : MethodId} {meth : Method} {c : Code} {b L : Nat} {xs : Nat → Int32} (C0 : lw_At p s m meth c b L xs) : ∃ (G : va_G) (ct : Nat → ClassId), va_K G cls_ (tys_ ct) s := by
  obtain ⟨hx, hb, hr, hml, hown, hts, hX, hbl, hlocks, hgv⟩ := C0
  obtain ⟨c0, i0, k0⟩ := u_known (C := RX0) (T := TX0) (N := 4) (n := 4) hts inX0 (hts _ tb_i.1)
  obtain ⟨c1, i1, k1⟩ := u_known (C := RX1) (T := TX1) (N := 6) (n := 6) hts inX1 (hts _ tb_i.2.1)
  obtain ⟨c2, i2, k2⟩ := u_known (C := RX2) (T := TX2) (N := 4) (n := 4) hts inX2 (hts _ tb_i.2.2.1)
  obtain ⟨c3, i3, k3⟩ := u_known (C := RX3) (T := TX3) (N := 8) (n := 8) hts inX3 (hts _ tb_i.2.2.2.1)
  obtain ⟨c4, i4, k4⟩ := u_known (C := RX4) (T := TX4) (N := 6) (n := 6) hts inX4 (hts _ tb_i.2.2.2.2.1)
  obtain ⟨c5, i5, k5⟩ := u_known (C := RX5) (T := TX5) (N := 4) (n := 4) hts inX5 (hts _ tb_i.2.2.2.2.2.1)
  obtain ⟨c6, i6, k6⟩ := u_known (C := RX6) (T := TX6) (N := 7) (n := 7) hts inX6 (hts _ tb_i.2.2.2.2.2.2.1)
  obtain ⟨c7, i7, k7⟩ := u_known (C := RX7) (T := TX7) (N := 44) (n := 44) hts inX7 (hts _ tb_i.2.2.2.2.2.2.2)
  obtain ⟨e0, f0, o0, p0, q0, r0⟩ := Cond.arrayClass_spec (hts _ tb_x.2.2.2.2.1)
  obtain ⟨e1, f1, o1, p1, q1, r1⟩ := Cond.arrayClass_spec (hts _ tb_x.2.2.2.2.2.1)
  obtain ⟨e2, f2, o2, p2, q2, r2⟩ := Cond.arrayClass_spec (hts _ tb_x.2.2.2.2.2.2.1)
  obtain ⟨o3, e3, f3, t1, t2, t3, t4, t5⟩ := Cond.arrayOver_spec (hts _ tb_x.2.2.2.2.2.2.2)
  refine ⟨(fun k => if k = 0 then c0 else if k = 1 then c1 else if k = 2 then c2 else if k = 3 then c3 else if k = 4 then c4 else if k = 5 then c5 else if k = 6 then c6 else c7, fun k => if k = 0 then i0 else if k = 1 then i1 else if k = 2 then i2 else if k = 3 then i3 else if k = 4 then i4 else if k = 5 then i5 else if k = 6 then i6 else i7), (fun k => if k = 0 then e0 else if k = 1 then e1 else if k = 2 then e2 else e3), ?_, ?_⟩
  · intro k q hq
    match k, hq with
    | 0, hq => cases hq; exact k0
    | 1, hq => cases hq; exact k1
    | 2, hq => cases hq; exact k2
    | 3, hq => cases hq; exact k3
    | 4, hq => cases hq; exact k4
    | 5, hq => cases hq; exact k5
    | 6, hq => cases hq; exact k6
    | 7, hq => cases hq; exact k7
    | k + 8, hq => simp [cls_] at hq
  · intro k q hq
    match k, hq with
    | 0, hq => cases hq; exact ⟨fun n z => ⟨fun k h => (by cases h), f0, q0, o0, r0⟩, p0⟩
    | 1, hq => cases hq; exact ⟨fun n z => ⟨fun k h => (by cases h), f1, q1, o1, r1⟩, p1⟩
    | 2, hq => cases hq; exact ⟨fun n z => ⟨fun k h => (by cases h), f2, q2, o2, r2⟩, p2⟩
    | 3, hq => cases hq; exact ⟨fun n z => ⟨fun k h => (by cases h), f3, t3, o3, t4⟩, f3, o3, t3, t4, t1, t5⟩
    | k + 4, hq => simp [tys_] at hq
set_option maxHeartbeats 4000000 in
set_option maxRecDepth 100000 in
theorem start_of {N : Nat} {Rel : St_ → St_ → Prop} (hp : PAll N Rel) (hR0 : Rel (up1 Z_ 75 0 (-1)) (up1 Z_ 17 0 (-1))) {p : Program} {e : Env} {s : State} {m : MethodId} {below : List Frame} {meth : Method} {c : Code} (l : Launch) {b L : Nat} {xs : Nat → Int32} (hL : L ≤ 2560) (C0 : lw_At p s m meth c b L xs) : W p l e room_1 s m #[Value.ref b] below meth c s.heap [] 0 0 (lw_Z below #[Value.ref b] s) (entryFrame m ([Value.ref b] : List Value).toArray 4) := by
  obtain ⟨kd, hE⟩ := En_start C0
  obtain ⟨G, ct, hK⟩ := K_start C0
  have C1 := C0
  obtain ⟨hx, hb, hr, hml, hown, hts, hX, hbl, hlocks, hgv⟩ := C1
  have htsL : ∀ w ∈ wsL_law, w.before #[Value.ref b] s = true := fun w h => hts w (wsL_law_in w h)
  have hAO : va_AO "FittingStrides$State" s := va_AO.of (hts _ tb_x.2.2.2.2.2.2.2)
  generalize hAe : (fun q : Nat => s.heap.size ≤ q) = A at hE
  have hA : ∀ q : Nat, s.heap.size ≤ q → A q := fun q h => by rw [← hAe]; exact h
  have hW : WW G A s.heap ([] : va_W) s.heap [] := ⟨fun k q h => by simp at h, ⟨fun i j p q h => by simp at h, fun k q h => by simp at h⟩, va_S.rf⟩
  have hl := lv_entry ([.ref b]) (n := 4) (Nat.le_of_ble_eq_true rfl)
  rw [lg_entry_eq]
  generalize (lg_sl ([.ref b]) ++ List.replicate (4 - (lg_sl ([.ref b])).length) Slot.unset).toArray = ls at hl ⊢
  have hl : lv_has ls 4 [(0, .ref b)] := hl
  refine x_new (ci := 6) (fs := [.null, .null, .null, .null, .null, .null, .int 0]) (C := RX6) (T := TX6) (N := 7) hx hb hts inX6 tyX6 tyX6_ok hown (htsL (.classLink RL 7 RX6) (by decide +kernel)) (htsL (.instantiable RX6 7) (by decide +kernel)) (htsL (.initialized RX6) (by decide +kernel)) hK hW hA rfl (by decide +kernel) (Nat.le_of_ble_eq_true rfl) (Nat.le_of_ble_eq_true rfl) dL_law_0 (fun q1 H hW => ?_)
  replace hW : WW G A s.heap ([(q1, .inr (6, [.null, .null, .null, .null, .null, .null, .int 0]))] : va_W) H _ := hW
  refine lv_dup hx hb dL_law_3 rfl ?_
  refine x_callI (rest := [.ref q1]) ⟨hx, hb, hml, hown, htsL⟩ (c_X6_init l kd G ct q1) (cwI 0 htsL gL_law_X6_init rfl rfl rfl (htsL (.initialized RX6) (by decide +kernel)) (htsL (.methodLink RL 9 yX6_init) (by decide +kernel)) (htsL (.instanceMethod yX6_init) (by decide +kernel)) rfl (by decide +kernel) ⟨Nat.le_of_ble_eq_true rfl, Nat.le_of_ble_eq_true rfl⟩) hK hE hAO hA hW [] rfl hl.1 rfl (lv_room (Nat.le_of_ble_eq_true rfl)) dL_law_4 ⟨Nat.le_of_ble_eq_true rfl, Nat.le_of_ble_eq_true rfl⟩ (fun a1 hq1 H locs hWn => ?_)
  subst hq1
  replace hW : WW G A s.heap (wX6 a1 ct (up1 Z_ 75 0 (-1))) H _ := hWn.cast (by simp only [List.nil_append, List.append_nil])
  refine lv_astore_n (lv' := [(1, .ref (a1 0)), (0, .ref b)]) hx hb dL_law_7 rfl hl (by decide) rfl (fun ls hl => ?_)
  refine x_new (ci := 7) (fs := [.int 0, .int 0, .null, .null, .null, .null, .null, .null, .int 0, .null, .null, .null, .int 0, .int 0, .null, .int 0, .int 0, .int 0, .long 0, .int 0, .int 0, .int 0, .int 0, .int 0, .null, .null, .null, .null, .null, .int 0, .null, .null, .null, .null, .int 0, .null, .null, .null, .int 0, .null, .null, .null, .null, .null]) (C := RX7) (T := TX7) (N := 44) hx hb hts inX7 tyX7 tyX7_ok hown (htsL (.classLink RL 10 RX7) (by decide +kernel)) (htsL (.instantiable RX7 44) (by decide +kernel)) (htsL (.initialized RX7) (by decide +kernel)) hK hW hA rfl (by decide +kernel) (Nat.le_of_ble_eq_true rfl) (Nat.le_of_ble_eq_true rfl) dL_law_8 (fun q2 H hW => ?_)
  refine lv_dup hx hb dL_law_11 rfl ?_
  refine x_callI (rest := [.ref q2]) ⟨hx, hb, hml, hown, htsL⟩ (c_X7_init l kd G ct q2) (cwI 0 htsL gL_law_X7_init rfl rfl rfl (htsL (.initialized RX7) (by decide +kernel)) (htsL (.methodLink RL 12 yX7_init) (by decide +kernel)) (htsL (.instanceMethod yX7_init) (by decide +kernel)) rfl (by decide +kernel) ⟨Nat.le_of_ble_eq_true rfl, Nat.le_of_ble_eq_true rfl⟩) hK hE hAO hA hW (wX6 a1 ct (up1 Z_ 75 0 (-1))) (by rw [List.append_nil]) hl.1 rfl (lv_room (Nat.le_of_ble_eq_true rfl)) dL_law_12 ⟨Nat.le_of_ble_eq_true rfl, Nat.le_of_ble_eq_true rfl⟩ (fun a2 hq2 H locs hWn => ?_)
  subst hq2
  replace hW : WW G A s.heap (wX6 a1 ct (up1 Z_ 75 0 (-1)) ++ wX7 a2 ct (up1 Z_ 17 0 (-1)) 0) H _ := hWn.cast (by simp only [List.append_nil])
  refine W.widen (k := 81) (n := 2133) (Nat.le_of_ble_eq_true rfl) (Nat.le_of_ble_eq_true rfl) ?_
  refine lv_astore_n (lv' := [(2, .ref (a2 0)), (1, .ref (a1 0)), (0, .ref b)]) hx hb dL_law_15 rfl hl (by decide) rfl (fun ls hl => ?_)
  refine lv_iconst (v := (0 : Int32)) hx hb dL_law_16 (by decide) ?_
  refine lv_istore_n (lv' := [(3, .int (0 : Int32)), (2, .ref (a2 0)), (1, .ref (a1 0)), (0, .ref b)]) hx hb dL_law_17 rfl hl (by decide) rfl (fun ls hl => ?_)
  subst hAe
  exact law_loop hL C0 hE hK hp L 0 (Nat.zero_le _) (by omega) 0 nI_0.symm a1 a2 _ _ 0 hR0 H locs ls hW (lv_sub hl [3, 2, 1, 0] rfl)
