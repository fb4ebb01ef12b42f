set_option maxHeartbeats 4000000 in
set_option maxRecDepth 100000 in
theorem c_X7_best (l : Launch) (N : Nat) (kd : (Nat → Nat) × (Nat → Nat)) (G : va_G) (ct : Nat → ClassId) (a : Nat → Nat) (g : St_) (sg : Int64) (x1 : Int32) (o : Int32) (hf : f_X7_best N g x1 = some o) : CtI l yX7_best wsX7_best ({ frames := 2, cells := 0, slots := 0, locals := 52 }) kd G ct [.ref (a 0), .int x1] (wX7 a ct g sg) o (wX7 a ct g sg) := by
  intro sz
  refine Met.ofW (cc := cX7_best) (maxL := 6) (ret := (some .int)) (by decide) rfl ?_
  intro p e s m args below meth c s₁ B hml hv
  obtain ⟨rfl, hsz, hP, hK, hD0, hE⟩ := hv
  have hx := B.exec
  have hb := B.bytes
  have hr := B.returns
  have hts := atoms_spec (ws := wsX7_best) B.pre
  have hown : s.vm.findClass RX7 = some m.cls := findClass_of_methodNamed B.named
  have hlocks := B.notSynchronized
  have fl221 := hts (.constant RX7 221 (-1000000001)) (by decide +kernel)
  subst hsz
  have hD := hD0.self (sz := s.heap.size)
  generalize hAe : va_A (wX7 a ct g sg) s.heap.size = A at hD hE ⊢
  have hA : ∀ q : Nat, s.heap.size ≤ q → A q := fun q h => by rw [← hAe]; exact Or.inr h
  have hW : WW G A s.heap (wX7 a ct g sg) s.heap [] := ⟨hP, hD, va_S.rf⟩
  have hl := lv_entry ([.ref (a 0), .int x1]) (n := 6) (Nat.le_of_ble_eq_true rfl)
  rw [lg_entry_eq]
  generalize (lg_sl ([.ref (a 0), .int x1]) ++ List.replicate (6 - (lg_sl ([.ref (a 0), .int x1])).length) Slot.unset).toArray = ls at hl ⊢
  have hl : lv_has ls 6 [(0, .ref (a 0)), (1, .int x1)] := hl
  unfold f_X7_best at hf
  show W p l e ({ frames := 2, cells := 0, slots := 0, locals := 52 } : Room) s m (List.toArray [.ref (a 0), .int x1]) below meth c s.heap [] 0 0 (MQ below (va_Qi (fun r (_ : Unit) => r = o) (fun _ t => Af_ G ct (wX7 a ct g sg) A t) A) (List.toArray [.ref (a 0), .int x1]) s 0 0 A) (F0 m 0 ls [])
  refine lv_aload_n hx hb dX7_best_0 rfl (lv_at hl 0 rfl) ?_
  refine lv_iload_n hx hb dX7_best_1 rfl (lv_at hl 1 rfl) ?_
  replace hf := bs_ hf; obtain ⟨r1, hcl, hf⟩ := hf
  refine x_callW_i (w' := (wX7 a ct g sg)) (As := [.int x1]) (rest := []) (ci := 7) ⟨hx, hb, hml, hown, hts⟩ (c_X7_isPlace l N kd G ct a g sg x1 _ hcl) (cwV 1 hts gX7_best_X7_isPlace rfl rfl rfl (by decide +kernel) ⟨Nat.le_of_ble_eq_true rfl, Nat.le_of_ble_eq_true rfl⟩) hK hE hA hW rfl rfl 0 rfl rfl rfl rfl hl.1 rfl (lv_room (Nat.le_of_ble_eq_true rfl)) dX7_best_2 (fun H locs hW => ?_)
  refine lv_if_ne (tgt := 11) hx hb dX7_best_5 (by decide) (fun hc => ?_) (fun hc => ?_)
  · replace hf := ifn hc hf
    refine lv_iconst (v := (0 : Int32)) hx hb dX7_best_11 (by decide) ?_
    refine lv_istore_n (lv' := [(2, .int (0 : Int32)), (0, .ref (a 0)), (1, .int x1)]) hx hb dX7_best_12 rfl hl (by decide) rfl (fun ls hl => ?_)
    refine lv_iconst (v := (0 : Int32)) hx hb dX7_best_13 (by decide) ?_
    refine lv_istore_n (lv' := [(3, .int (0 : Int32)), (2, .int (0 : Int32)), (0, .ref (a 0)), (1, .int x1)]) hx hb dX7_best_14 rfl hl (by decide) rfl (fun ls hl => ?_)
    refine lv_iconst (v := (1 : Int32)) hx hb dX7_best_15 (by decide) ?_
    refine lv_istore (lv' := [(4, .int (1 : Int32)), (3, .int (0 : Int32)), (2, .int (0 : Int32)), (0, .ref (a 0)), (1, .int x1)]) hx hb dX7_best_16 hl (by decide) rfl (fun ls hl => ?_)
    replace hf := bs_ hf; obtain ⟨v2, hg, hf⟩ := hf
    have J2 : ∀ (H : Heap) (locs : List Loc) (ls : Array Slot), WW G A s.heap (wX7 a ct g sg) H locs → lv_has ls 6 [(2, .int v2)] → W p l e ({ frames := 2, cells := 0, slots := 0, locals := 52 } : Room) s m (List.toArray [.ref (a 0), .int x1]) below meth c H locs 0 0 (MQ below (va_Qi (fun r (_ : Unit) => r = o) (fun _ t => Af_ G ct (wX7 a ct g sg) A t) A) (List.toArray [.ref (a 0), .int x1]) s 0 0 A) (F0 m 70 ls []) := by
      intro H locs ls hW hl
      refine lv_iload_n hx hb dX7_best_70 rfl (lv_at hl 0 rfl) ?_
      have ho := Option.some.inj hf
      subst ho
      exact x_reti (sz := 0) (w0 := []) (A1 := A) hx hb hr hlocks hK hW rfl rfl dX7_best_71
    clear hf
    have L2 : ∀ (n : Nat) (y2_2 : Int32) (y2_3 : Int32) (y2_4 : Int32), f_X7_best_L18 N g x1 n y2_2 y2_3 y2_4 = some v2 → ∀ (H : Heap) (locs : List Loc) (ls : Array Slot), WW G A s.heap (wX7 a ct g sg) H locs → lv_has ls 6 [(0, .ref (a 0)), (1, .int x1), (2, .int y2_2), (3, .int y2_3), (4, .int y2_4)] → W p l e ({ frames := 2, cells := 0, slots := 0, locals := 52 } : Room) s m (List.toArray [.ref (a 0), .int x1]) below meth c H locs 0 0 (MQ below (va_Qi (fun r (_ : Unit) => r = o) (fun _ t => Af_ G ct (wX7 a ct g sg) A t) A) (List.toArray [.ref (a 0), .int x1]) s 0 0 A) (F0 m 18 ls []) := by
      intro n
      induction n with
      | zero =>
        intro y2_2 y2_3 y2_4 hf
        rw [f_X7_best_L18] at hf
        cases hf
      | succ n ih =>
        intro y2_2 y2_3 y2_4 hf H locs ls hW hl
        rw [f_X7_best_L18] at hf
        refine lv_iload hx hb dX7_best_18 (lv_at hl 4 rfl) ?_
        refine lv_bipush (v := (24 : Int32)) hx hb dX7_best_20 (by decide) ?_
        refine lv_icmp_gt (tgt := 70) hx hb dX7_best_22 (by decide) (fun hc => ?_) (fun hc => ?_)
        · replace hf := ifp hc hf
          have hj := Option.some.inj hf
          subst hj
          exact J2 _ _ _ hW (lv_sub hl [2] rfl)
        · replace hf := ifn hc hf
          refine lv_aload_n hx hb dX7_best_25 rfl (lv_at hl 0 rfl) ?_
          refine lv_iload_n hx hb dX7_best_26 rfl (lv_at hl 1 rfl) ?_
          refine lv_iload hx hb dX7_best_27 (lv_at hl 4 rfl) ?_
          refine lv_iconst (v := (0 : Int32)) hx hb dX7_best_29 (by decide) ?_
          replace hf := bs_ hf; obtain ⟨r3, hcl, hf⟩ := hf
          refine x_callW_i (w' := (wX7 a ct g sg)) (As := [.int x1, .int y2_4, .int (0 : Int32)]) (rest := []) (ci := 7) ⟨hx, hb, hml, hown, hts⟩ (c_X7_reachOf l N kd G ct a g sg x1 y2_4 (0 : Int32) _ hcl) (cwV 3 hts gX7_best_X7_reachOf rfl rfl rfl (by decide +kernel) ⟨Nat.le_of_ble_eq_true rfl, Nat.le_of_ble_eq_true rfl⟩) hK hE hA hW rfl rfl 0 rfl rfl rfl rfl hl.1 rfl (lv_room (Nat.le_of_ble_eq_true rfl)) dX7_best_30 (fun H locs hW => ?_)
          replace hf := bs_ hf; obtain ⟨r4, hcl, hf⟩ := hf
          refine x_callS_i (As := [.int r3]) (rest := []) ⟨hx, hb, hml, hown, hts⟩ (c_X7_bits l N kd G ct r3 _ hcl) (va_cwS 1 hts gX7_best_X7_bits rfl rfl rfl (by decide +kernel) ⟨Nat.le_of_ble_eq_true rfl, Nat.le_of_ble_eq_true rfl⟩) hK hE hA hW rfl hl.1 rfl (lv_room (Nat.le_of_ble_eq_true rfl)) dX7_best_33 (fun H locs hW => ?_)
          refine lv_istore (lv' := [(5, .int r4), (0, .ref (a 0)), (1, .int x1), (2, .int y2_2), (3, .int y2_3), (4, .int y2_4)]) hx hb dX7_best_36 hl (by decide) rfl (fun ls hl => ?_)
          refine lv_iload hx hb dX7_best_38 (lv_at hl 0 rfl) ?_
          refine lv_iload_n hx hb dX7_best_40 rfl (lv_at hl 4 rfl) ?_
          replace hf := bs_ hf; obtain ⟨j5, hg, hf⟩ := hf
          have J5 : ∀ (H : Heap) (locs : List Loc) (ls : Array Slot), WW G A s.heap (wX7 a ct g sg) H locs → lv_has ls 6 [(0, .ref (a 0)), (1, .int x1), (3, .int y2_3), (4, .int y2_4), (5, .int r4)] → W p l e ({ frames := 2, cells := 0, slots := 0, locals := 52 } : Room) s m (List.toArray [.ref (a 0), .int x1]) below meth c H locs 0 0 (MQ below (va_Qi (fun r (_ : Unit) => r = o) (fun _ t => Af_ G ct (wX7 a ct g sg) A t) A) (List.toArray [.ref (a 0), .int x1]) s 0 0 A) (F0 m 50 ls (.int j5 :: [])) := by
            intro H locs ls hW hl
            refine lv_istore_n (lv' := [(2, .int j5), (0, .ref (a 0)), (1, .int x1), (3, .int y2_3), (4, .int y2_4), (5, .int r4)]) hx hb dX7_best_50 rfl hl (by decide) rfl (fun ls hl => ?_)
            refine lv_iload hx hb dX7_best_51 (lv_at hl 5 rfl) ?_
            refine lv_iload_n hx hb dX7_best_53 rfl (lv_at hl 3 rfl) ?_
            replace hf := bs_ hf; obtain ⟨j6, hg, hf⟩ := hf
            have J6 : ∀ (H : Heap) (locs : List Loc) (ls : Array Slot), WW G A s.heap (wX7 a ct g sg) H locs → lv_has ls 6 [(0, .ref (a 0)), (1, .int x1), (2, .int j5), (4, .int y2_4)] → W p l e ({ frames := 2, cells := 0, slots := 0, locals := 52 } : Room) s m (List.toArray [.ref (a 0), .int x1]) below meth c H locs 0 0 (MQ below (va_Qi (fun r (_ : Unit) => r = o) (fun _ t => Af_ G ct (wX7 a ct g sg) A t) A) (List.toArray [.ref (a 0), .int x1]) s 0 0 A) (F0 m 63 ls (.int j6 :: [])) := by
              intro H locs ls hW hl
              refine lv_istore_n (lv' := [(3, .int j6), (0, .ref (a 0)), (1, .int x1), (2, .int j5), (4, .int y2_4)]) hx hb dX7_best_63 rfl hl (by decide) rfl (fun ls hl => ?_)
              refine lv_iinc (v := (y2_4 + (1 : Int32))) (lv' := [(4, .int (y2_4 + (1 : Int32))), (3, .int j6), (0, .ref (a 0)), (1, .int x1), (2, .int j5)]) hx hb dX7_best_64 hl (k := 4) rfl rfl (by decide) rfl (fun ls hl => ?_)
              refine lv_goto (tgt := 18) hx hb dX7_best_67 (by decide) ?_
              exact ih j5 j6 (y2_4 + (1 : Int32)) hf _ _ _ hW (lv_sub hl [2, 3, 4, 1, 0] rfl)
            clear hf
            refine lv_icmp_lt (tgt := 62) hx hb dX7_best_54 (by decide) (fun hc => ?_) (fun hc => ?_)
            · have hf := ifp hc hg
              clear hg
              refine lv_iload_n hx hb dX7_best_62 rfl (lv_at hl 3 rfl) ?_
              have hj := Option.some.inj hf
              subst hj
              exact J6 _ _ _ hW (lv_sub hl [1, 2, 0, 4] rfl)
            · have hf := ifn hc hg
              clear hg
              refine lv_iload hx hb dX7_best_57 (lv_at hl 5 rfl) ?_
              refine lv_goto (tgt := 63) hx hb dX7_best_59 (by decide) ?_
              have hj := Option.some.inj hf
              subst hj
              exact J6 _ _ _ hW (lv_sub hl [1, 2, 0, 4] rfl)
          clear hf
          refine lv_icmp_lt (tgt := 49) hx hb dX7_best_41 (by decide) (fun hc => ?_) (fun hc => ?_)
          · have hf := ifp hc hg
            clear hg
            refine lv_iload_n hx hb dX7_best_49 rfl (lv_at hl 3 rfl) ?_
            have hj := Option.some.inj hf
            subst hj
            exact J5 _ _ _ hW (lv_sub hl [1, 2, 4, 5, 0] rfl)
          · have hf := ifn hc hg
            clear hg
            refine lv_iload hx hb dX7_best_44 (lv_at hl 5 rfl) ?_
            refine lv_goto (tgt := 50) hx hb dX7_best_46 (by decide) ?_
            have hj := Option.some.inj hf
            subst hj
            exact J5 _ _ _ hW (lv_sub hl [1, 2, 4, 5, 0] rfl)
    exact L2 N (0 : Int32) (0 : Int32) (1 : Int32) hg _ _ _ hW (lv_sub hl [3, 4, 2, 1, 0] rfl)
  · replace hf := ifp hc hf
    refine lv_ldc (v := (-1000000001 : Int32)) hx hb hown fl221 dX7_best_8 ?_
    have ho := Option.some.inj hf
    subst ho
    exact x_reti (sz := 0) (w0 := []) (A1 := A) hx hb hr hlocks hK hW rfl rfl dX7_best_10
set_option maxHeartbeats 4000000 in
set_option maxRecDepth 100000 in
theorem c_X7_cover (l : Launch) (N : Nat) (kd : (Nat → Nat) × (Nat → Nat)) (G : va_G) (ct : Nat → ClassId) (a : Nat → Nat) (g : St_) (sg : Int64) (o : Int32) (hf : f_X7_cover N g = some o) : CtI l yX7_cover wsX7_cover ({ frames := 3, cells := 0, slots := 0, locals := 70 }) kd G ct [.ref (a 0)] (wX7 a ct g sg) o (wX7 a ct g sg) := by
  intro sz
  refine Met.ofW (cc := cX7_cover) (maxL := 5) (ret := (some .int)) (by decide) rfl ?_
  intro p e s m args below meth c s₁ B hml hv
  obtain ⟨rfl, hsz, hP, hK, hD0, hE⟩ := hv
  have hx := B.exec
  have hb := B.bytes
  have hr := B.returns
  have hts := atoms_spec (ws := wsX7_cover) B.pre
  have hown : s.vm.findClass RX7 = some m.cls := findClass_of_methodNamed B.named
  have hlocks := B.notSynchronized
  have inX7 : ∀ w ∈ wsX70, w ∈ wsX7_cover := by decide +kernel
  have fl103 := hts (.fieldLink RX7 103 "FittingStridesModel" "stairs" "I") (by decide +kernel)
  have fl106 := hts (.fieldLink RX7 106 "FittingStridesModel" "persons" "I") (by decide +kernel)
  subst hsz
  have hD := hD0.self (sz := s.heap.size)
  generalize hAe : va_A (wX7 a ct g sg) s.heap.size = A at hD hE ⊢
  have hA : ∀ q : Nat, s.heap.size ≤ q → A q := fun q h => by rw [← hAe]; exact Or.inr h
  have hW : WW G A s.heap (wX7 a ct g sg) s.heap [] := ⟨hP, hD, va_S.rf⟩
  have hl := lv_entry ([.ref (a 0)]) (n := 5) (Nat.le_of_ble_eq_true rfl)
  rw [lg_entry_eq]
  generalize (lg_sl ([.ref (a 0)]) ++ List.replicate (5 - (lg_sl ([.ref (a 0)])).length) Slot.unset).toArray = ls at hl ⊢
  have hl : lv_has ls 5 [(0, .ref (a 0))] := hl
  unfold f_X7_cover at hf
  show W p l e ({ frames := 3, cells := 0, slots := 0, locals := 70 } : Room) s m (List.toArray [.ref (a 0)]) below meth c s.heap [] 0 0 (MQ below (va_Qi (fun r (_ : Unit) => r = o) (fun _ t => Af_ G ct (wX7 a ct g sg) A t) A) (List.toArray [.ref (a 0)]) s 0 0 A) (F0 m 0 ls [])
  refine lv_iconst (v := (-1 : Int32)) hx hb dX7_cover_0 (by decide) ?_
  refine lv_istore_n (lv' := [(1, .int (-1 : Int32)), (0, .ref (a 0))]) hx hb dX7_cover_1 rfl hl (by decide) rfl (fun ls hl => ?_)
  refine lv_iconst (v := (0 : Int32)) hx hb dX7_cover_2 (by decide) ?_
  refine lv_istore_n (lv' := [(2, .int (0 : Int32)), (1, .int (-1 : Int32)), (0, .ref (a 0))]) hx hb dX7_cover_3 rfl hl (by decide) rfl (fun ls hl => ?_)
  replace hf := bs_ hf; obtain ⟨v1, hg, hf⟩ := hf
  have J1 : ∀ (H : Heap) (locs : List Loc) (ls : Array Slot), WW G A s.heap (wX7 a ct g sg) H locs → lv_has ls 5 [(1, .int v1)] → W p l e ({ frames := 3, cells := 0, slots := 0, locals := 70 } : Room) s m (List.toArray [.ref (a 0)]) below meth c H locs 0 0 (MQ below (va_Qi (fun r (_ : Unit) => r = o) (fun _ t => Af_ G ct (wX7 a ct g sg) A t) A) (List.toArray [.ref (a 0)]) s 0 0 A) (F0 m 90 ls []) := by
    intro H locs ls hW hl
    refine lv_iload_n hx hb dX7_cover_90 rfl (lv_at hl 0 rfl) ?_
    have ho := Option.some.inj hf
    subst ho
    exact x_reti (sz := 0) (w0 := []) (A1 := A) hx hb hr hlocks hK hW rfl rfl dX7_cover_91
  clear hf
  have L1 : ∀ (n : Nat) (y1_1 : Int32) (y1_2 : Int32), f_X7_cover_L4 N g n y1_1 y1_2 = some v1 → ∀ (H : Heap) (locs : List Loc) (ls : Array Slot), WW G A s.heap (wX7 a ct g sg) H locs → lv_has ls 5 [(0, .ref (a 0)), (1, .int y1_1), (2, .int y1_2)] → W p l e ({ frames := 3, cells := 0, slots := 0, locals := 70 } : Room) s m (List.toArray [.ref (a 0)]) below meth c H locs 0 0 (MQ below (va_Qi (fun r (_ : Unit) => r = o) (fun _ t => Af_ G ct (wX7 a ct g sg) A t) A) (List.toArray [.ref (a 0)]) s 0 0 A) (F0 m 4 ls []) := by
    intro n
    induction n with
    | zero =>
      intro y1_1 y1_2 hf
      rw [f_X7_cover_L4] at hf
      cases hf
    | succ n ih =>
      intro y1_1 y1_2 hf H locs ls hW hl
      rw [f_X7_cover_L4] at hf
      refine lv_iload_n hx hb dX7_cover_4 rfl (lv_at hl 2 rfl) ?_
      refine lv_iconst (v := (1 : Int32)) hx hb dX7_cover_5 (by decide) ?_
      refine lv_aload_n hx hb dX7_cover_6 rfl (lv_at hl 0 rfl) ?_
      refine x_get (ci := 7) (v := .int (g 9 0)) (C := RX7) (T := TX7) (N := 44) hx hb hts inX7 hown hK hW 0 rfl rfl 8 (by decide) fl106 (fun _ h9 => h9) rfl dX7_cover_7 ?_
      refine lv_ishl hx hb dX7_cover_10 ?_
      refine lv_icmp_ge (tgt := 90) hx hb dX7_cover_11 (by decide) (fun hc => ?_) (fun hc => ?_)
      · replace hf := ifp hc hf
        have hj := Option.some.inj hf
        subst hj
        exact J1 _ _ _ hW (lv_sub hl [1] rfl)
      · replace hf := ifn hc hf
        refine lv_iload_n hx hb dX7_cover_14 rfl (lv_at hl 1 rfl) ?_
        replace hf := bs_ hf; obtain ⟨j2, hg, hf⟩ := hf
        have J2 : ∀ (H : Heap) (locs : List Loc) (ls : Array Slot), WW G A s.heap (wX7 a ct g sg) H locs → lv_has ls 5 [(0, .ref (a 0)), (1, .int y1_1), (2, .int y1_2)] → W p l e ({ frames := 3, cells := 0, slots := 0, locals := 70 } : Room) s m (List.toArray [.ref (a 0)]) below meth c H locs 0 0 (MQ below (va_Qi (fun r (_ : Unit) => r = o) (fun _ t => Af_ G ct (wX7 a ct g sg) A t) A) (List.toArray [.ref (a 0)]) s 0 0 A) (F0 m 34 ls (.int j2 :: [])) := by
          intro H locs ls hW hl
          refine lv_istore_n (lv' := [(3, .int j2), (0, .ref (a 0)), (1, .int y1_1), (2, .int y1_2)]) hx hb dX7_cover_34 rfl hl (by decide) rfl (fun ls hl => ?_)
          refine lv_iconst (v := (0 : Int32)) hx hb dX7_cover_35 (by decide) ?_
          refine lv_istore (lv' := [(4, .int (0 : Int32)), (3, .int j2), (0, .ref (a 0)), (1, .int y1_1), (2, .int y1_2)]) hx hb dX7_cover_36 hl (by decide) rfl (fun ls hl => ?_)
          replace hf := bs_ hf; obtain ⟨v5, hg, hf⟩ := hf
          have J5 : ∀ (H : Heap) (locs : List Loc) (ls : Array Slot), WW G A s.heap (wX7 a ct g sg) H locs → lv_has ls 5 [(0, .ref (a 0)), (1, .int y1_1), (2, .int y1_2), (3, .int v5)] → W p l e ({ frames := 3, cells := 0, slots := 0, locals := 70 } : Room) s m (List.toArray [.ref (a 0)]) below meth c H locs 0 0 (MQ below (va_Qi (fun r (_ : Unit) => r = o) (fun _ t => Af_ G ct (wX7 a ct g sg) A t) A) (List.toArray [.ref (a 0)]) s 0 0 A) (F0 m 74 ls []) := by
            intro H locs ls hW hl
            refine lv_iload_n hx hb dX7_cover_74 rfl (lv_at hl 3 rfl) ?_
            replace hf := bs_ hf; obtain ⟨j8, hg, hf⟩ := hf
            have J8 : ∀ (H : Heap) (locs : List Loc) (ls : Array Slot), WW G A s.heap (wX7 a ct g sg) H locs → lv_has ls 5 [(0, .ref (a 0)), (2, .int y1_2)] → W p l e ({ frames := 3, cells := 0, slots := 0, locals := 70 } : Room) s m (List.toArray [.ref (a 0)]) below meth c H locs 0 0 (MQ below (va_Qi (fun r (_ : Unit) => r = o) (fun _ t => Af_ G ct (wX7 a ct g sg) A t) A) (List.toArray [.ref (a 0)]) s 0 0 A) (F0 m 83 ls (.int j8 :: [])) := by
              intro H locs ls hW hl
              refine lv_istore_n (lv' := [(1, .int j8), (0, .ref (a 0)), (2, .int y1_2)]) hx hb dX7_cover_83 rfl hl (by decide) rfl (fun ls hl => ?_)
              refine lv_iinc (v := (y1_2 + (1 : Int32))) (lv' := [(2, .int (y1_2 + (1 : Int32))), (1, .int j8), (0, .ref (a 0))]) hx hb dX7_cover_84 hl (k := 2) rfl rfl (by decide) rfl (fun ls hl => ?_)
              refine lv_goto (tgt := 4) hx hb dX7_cover_87 (by decide) ?_
              exact ih j8 (y1_2 + (1 : Int32)) hf _ _ _ hW (lv_sub hl [2, 1, 0] rfl)
            clear hf
            refine lv_if_eq (tgt := 82) hx hb dX7_cover_75 (by decide) (fun hc => ?_) (fun hc => ?_)
            · have hf := ifp hc hg
              clear hg
              refine lv_iload_n hx hb dX7_cover_82 rfl (lv_at hl 1 rfl) ?_
              have hj := Option.some.inj hf
              subst hj
              exact J8 _ _ _ hW (lv_sub hl [0, 2] rfl)
            · have hf := ifn hc hg
              clear hg
              refine lv_iload_n hx hb dX7_cover_78 rfl (lv_at hl 2 rfl) ?_
              refine lv_goto (tgt := 83) hx hb dX7_cover_79 (by decide) ?_
              have hj := Option.some.inj hf
              subst hj
              exact J8 _ _ _ hW (lv_sub hl [0, 2] rfl)
          clear hf
          have L5 : ∀ (n : Nat) (y5_3 : Int32) (y5_4 : Int32), f_X7_cover_L38 N g y1_2 n y5_3 y5_4 = some v5 → ∀ (H : Heap) (locs : List Loc) (ls : Array Slot), WW G A s.heap (wX7 a ct g sg) H locs → lv_has ls 5 [(0, .ref (a 0)), (1, .int y1_1), (2, .int y1_2), (3, .int y5_3), (4, .int y5_4)] → W p l e ({ frames := 3, cells := 0, slots := 0, locals := 70 } : Room) s m (List.toArray [.ref (a 0)]) below meth c H locs 0 0 (MQ below (va_Qi (fun r (_ : Unit) => r = o) (fun _ t => Af_ G ct (wX7 a ct g sg) A t) A) (List.toArray [.ref (a 0)]) s 0 0 A) (F0 m 38 ls []) := by
            intro n
            induction n with
            | zero =>
              intro y5_3 y5_4 hf
              rw [f_X7_cover_L38] at hf
              cases hf
            | succ n ih =>
              intro y5_3 y5_4 hf H locs ls hW hl
              rw [f_X7_cover_L38] at hf
              refine lv_iload hx hb dX7_cover_38 (lv_at hl 4 rfl) ?_
              refine lv_aload_n hx hb dX7_cover_40 rfl (lv_at hl 0 rfl) ?_
              refine x_get (ci := 7) (v := .int (g 2 0)) (C := RX7) (T := TX7) (N := 44) hx hb hts inX7 hown hK hW 0 rfl rfl 1 (by decide) fl103 (fun _ h9 => h9) rfl dX7_cover_41 ?_
              refine lv_icmp_ge (tgt := 74) hx hb dX7_cover_44 (by decide) (fun hc => ?_) (fun hc => ?_)
              · replace hf := ifp hc hf
                have hj := Option.some.inj hf
                subst hj
                exact J5 _ _ _ hW (lv_sub hl [0, 1, 2, 3] rfl)
              · replace hf := ifn hc hf
                refine lv_iload_n hx hb dX7_cover_47 rfl (lv_at hl 3 rfl) ?_
                refine lv_if_eq (tgt := 74) hx hb dX7_cover_48 (by decide) (fun hc => ?_) (fun hc => ?_)
                · replace hf := ifp hc hf
                  have hj := Option.some.inj hf
                  subst hj
                  exact J5 _ _ _ hW (lv_sub hl [0, 1, 2, 3] rfl)
                · replace hf := ifn hc hf
                  refine lv_aload_n hx hb dX7_cover_51 rfl (lv_at hl 0 rfl) ?_
                  refine lv_iload hx hb dX7_cover_52 (lv_at hl 4 rfl) ?_
                  replace hf := bs_ hf; obtain ⟨r6, hcl, hf⟩ := hf
                  refine x_callW_i (w' := (wX7 a ct g sg)) (As := [.int y5_4]) (rest := []) (ci := 7) ⟨hx, hb, hml, hown, hts⟩ (c_X7_climbers l N kd G ct a g sg y5_4 _ hcl) (cwV 1 hts gX7_cover_X7_climbers rfl rfl rfl (by decide +kernel) ⟨Nat.le_of_ble_eq_true rfl, Nat.le_of_ble_eq_true rfl⟩) hK hE hA hW rfl rfl 0 rfl rfl rfl rfl hl.1 rfl (lv_room (Nat.le_of_ble_eq_true rfl)) dX7_cover_54 (fun H locs hW => ?_)
                  refine lv_iload_n hx hb dX7_cover_57 rfl (lv_at hl 2 rfl) ?_
                  refine lv_iand hx hb dX7_cover_58 ?_
                  replace hf := bs_ hf; obtain ⟨j7, hg, hf⟩ := hf
                  have J7 : ∀ (H : Heap) (locs : List Loc) (ls : Array Slot), WW G A s.heap (wX7 a ct g sg) H locs → lv_has ls 5 [(0, .ref (a 0)), (1, .int y1_1), (2, .int y1_2), (4, .int y5_4)] → W p l e ({ frames := 3, cells := 0, slots := 0, locals := 70 } : Room) s m (List.toArray [.ref (a 0)]) below meth c H locs 0 0 (MQ below (va_Qi (fun r (_ : Unit) => r = o) (fun _ t => Af_ G ct (wX7 a ct g sg) A t) A) (List.toArray [.ref (a 0)]) s 0 0 A) (F0 m 67 ls (.int j7 :: [])) := by
                    intro H locs ls hW hl
                    refine lv_istore_n (lv' := [(3, .int j7), (0, .ref (a 0)), (1, .int y1_1), (2, .int y1_2), (4, .int y5_4)]) hx hb dX7_cover_67 rfl hl (by decide) rfl (fun ls hl => ?_)
                    refine lv_iinc (v := (y5_4 + (1 : Int32))) (lv' := [(4, .int (y5_4 + (1 : Int32))), (3, .int j7), (0, .ref (a 0)), (1, .int y1_1), (2, .int y1_2)]) hx hb dX7_cover_68 hl (k := 4) rfl rfl (by decide) rfl (fun ls hl => ?_)
                    refine lv_goto (tgt := 38) hx hb dX7_cover_71 (by decide) ?_
                    exact ih j7 (y5_4 + (1 : Int32)) hf _ _ _ hW (lv_sub hl [2, 3, 4, 1, 0] rfl)
                  clear hf
                  refine lv_if_eq (tgt := 66) hx hb dX7_cover_59 (by decide) (fun hc => ?_) (fun hc => ?_)
                  · have hf := ifp hc hg
                    clear hg
                    refine lv_iconst (v := (0 : Int32)) hx hb dX7_cover_66 (by decide) ?_
                    have hj := Option.some.inj hf
                    subst hj
                    exact J7 _ _ _ hW (lv_sub hl [0, 1, 2, 4] rfl)
                  · have hf := ifn hc hg
                    clear hg
                    refine lv_iconst (v := (1 : Int32)) hx hb dX7_cover_62 (by decide) ?_
                    refine lv_goto (tgt := 67) hx hb dX7_cover_63 (by decide) ?_
                    have hj := Option.some.inj hf
                    subst hj
                    exact J7 _ _ _ hW (lv_sub hl [0, 1, 2, 4] rfl)
          exact L5 N j2 (0 : Int32) hg _ _ _ hW (lv_sub hl [2, 3, 4, 1, 0] rfl)
        clear hf
        refine lv_if_lt (tgt := 29) hx hb dX7_cover_15 (by decide) (fun hc => ?_) (fun hc => ?_)
        · have hf := ifp hc hg
          clear hg
          refine lv_iconst (v := (1 : Int32)) hx hb dX7_cover_29 (by decide) ?_
          refine lv_goto (tgt := 34) hx hb dX7_cover_30 (by decide) ?_
          have hj := Option.some.inj hf
          subst hj
          exact J2 _ _ _ hW (lv_sub hl [0, 1, 2] rfl)
        · have hf := ifn hc hg
          clear hg
          refine lv_iload_n hx hb dX7_cover_18 rfl (lv_at hl 2 rfl) ?_
          replace hf := bs_ hf; obtain ⟨r3, hcl, hf⟩ := hf
          refine x_callS_i (As := [.int y1_2]) (rest := []) ⟨hx, hb, hml, hown, hts⟩ (c_X7_bits l N kd G ct y1_2 _ hcl) (va_cwS 1 hts gX7_cover_X7_bits rfl rfl rfl (by decide +kernel) ⟨Nat.le_of_ble_eq_true rfl, Nat.le_of_ble_eq_true rfl⟩) hK hE hA hW rfl hl.1 rfl (lv_room (Nat.le_of_ble_eq_true rfl)) dX7_cover_19 (fun H locs hW => ?_)
          refine lv_iload_n hx hb dX7_cover_22 rfl (lv_at hl 1 rfl) ?_
          replace hf := bs_ hf; obtain ⟨r4, hcl, hf⟩ := hf
          refine x_callS_i (As := [.int y1_1]) (rest := [.int r3]) ⟨hx, hb, hml, hown, hts⟩ (c_X7_bits l N kd G ct y1_1 _ hcl) (va_cwS 1 hts gX7_cover_X7_bits rfl rfl rfl (by decide +kernel) ⟨Nat.le_of_ble_eq_true rfl, Nat.le_of_ble_eq_true rfl⟩) hK hE hA hW rfl hl.1 rfl (lv_room (Nat.le_of_ble_eq_true rfl)) dX7_cover_23 (fun H locs hW => ?_)
          refine lv_icmp_ge (tgt := 33) hx hb dX7_cover_26 (by decide) (fun hc => ?_) (fun hc => ?_)
          · replace hf := ifp hc hf
            refine lv_iconst (v := (0 : Int32)) hx hb dX7_cover_33 (by decide) ?_
            have hj := Option.some.inj hf
            subst hj
            exact J2 _ _ _ hW (lv_sub hl [0, 1, 2] rfl)
          · replace hf := ifn hc hf
            refine lv_iconst (v := (1 : Int32)) hx hb dX7_cover_29 (by decide) ?_
            refine lv_goto (tgt := 34) hx hb dX7_cover_30 (by decide) ?_
            have hj := Option.some.inj hf
            subst hj
            exact J2 _ _ _ hW (lv_sub hl [0, 1, 2] rfl)
  exact L1 N (-1 : Int32) (0 : Int32) hg _ _ _ hW (lv_sub hl [2, 1, 0] rfl)
set_option maxHeartbeats 4000000 in
set_option maxRecDepth 100000 in
theorem c_X7_see (l : Launch) (N : Nat) (kd : (Nat → Nat) × (Nat → Nat)) (G : va_G) (ct : Nat → ClassId) (a : Nat → Nat) (g : St_) (sg : Int64) (x1 : Int32) (x2 : Int32) (x3 : Int32) (o : (Int32 × St_)) (hf : f_X7_see N g x1 x2 x3 = some o) : CtI l yX7_see wsX7_see ({ frames := 2, cells := 0, slots := 0, locals := 46 }) kd G ct [.ref (a 0), .int x1, .int x2, .int x3] (wX7 a ct g sg) o.1 (wX7 a ct o.2 sg) := by
  intro sz
  refine Met.ofW (cc := cX7_see) (maxL := 4) (ret := (some .int)) (by decide) rfl ?_
  intro p e s m args below meth c s₁ B hml hv
  obtain ⟨rfl, hsz, hP, hK, hD0, hE⟩ := hv
  have hx := B.exec
  have hb := B.bytes
  have hr := B.returns
  have hts := atoms_spec (ws := wsX7_see) B.pre
  have hown : s.vm.findClass RX7 = some m.cls := findClass_of_methodNamed B.named
  have hlocks := B.notSynchronized
  have inX7 : ∀ w ∈ wsX70, w ∈ wsX7_see := by decide +kernel
  have fl71 := hts (.fieldLink RX7 71 "FittingStridesModel" "seenFrom" "[I") (by decide +kernel)
  have fl74 := hts (.fieldLink RX7 74 "FittingStridesModel" "seenAt" "[I") (by decide +kernel)
  have fl77 := hts (.fieldLink RX7 77 "FittingStridesModel" "seenWas" "[Z") (by decide +kernel)
  have fl115 := hts (.constant RX7 115 (-1000000004)) (by decide +kernel)
  have fl198 := hts (.fieldLink RX7 198 "FittingStridesModel" "sights" "I") (by decide +kernel)
  have fl221 := hts (.constant RX7 221 (-1000000001)) (by decide +kernel)
  subst hsz
  have hD := hD0.self (sz := s.heap.size)
  generalize hAe : va_A (wX7 a ct g sg) s.heap.size = A at hD hE ⊢
  have hA : ∀ q : Nat, s.heap.size ≤ q → A q := fun q h => by rw [← hAe]; exact Or.inr h
  have hW : WW G A s.heap (wX7 a ct g sg) s.heap [] := ⟨hP, hD, va_S.rf⟩
  have hl := lv_entry ([.ref (a 0), .int x1, .int x2, .int x3]) (n := 4) (Nat.le_of_ble_eq_true rfl)
  rw [lg_entry_eq]
  generalize (lg_sl ([.ref (a 0), .int x1, .int x2, .int x3]) ++ List.replicate (4 - (lg_sl ([.ref (a 0), .int x1, .int x2, .int x3])).length) Slot.unset).toArray = ls at hl ⊢
  have hl : lv_has ls 4 [(0, .ref (a 0)), (1, .int x1), (2, .int x2), (3, .int x3)] := hl
  unfold f_X7_see at hf
  show W p l e ({ frames := 2, cells := 0, slots := 0, locals := 46 } : Room) s m (List.toArray [.ref (a 0), .int x1, .int x2, .int x3]) below meth c s.heap [] 0 0 (MQ below (va_Qi (fun r (_ : Unit) => r = o.1) (fun _ t => Af_ G ct (wX7 a ct o.2 sg) A t) A) (List.toArray [.ref (a 0), .int x1, .int x2, .int x3]) s 0 0 A) (F0 m 0 ls [])
  refine lv_aload_n hx hb dX7_see_0 rfl (lv_at hl 0 rfl) ?_
  refine lv_iload_n hx hb dX7_see_1 rfl (lv_at hl 1 rfl) ?_
  replace hf := bs_ hf; obtain ⟨r1, hcl, hf⟩ := hf
  refine x_callW_i (w' := (wX7 a ct g sg)) (As := [.int x1]) (rest := []) (ci := 7) ⟨hx, hb, hml, hown, hts⟩ (c_X7_isPlace l N kd G ct a g sg x1 _ hcl) (cwV 1 hts gX7_see_X7_isPlace rfl rfl rfl (by decide +kernel) ⟨Nat.le_of_ble_eq_true rfl, Nat.le_of_ble_eq_true rfl⟩) hK hE hA hW rfl rfl 0 rfl rfl rfl rfl hl.1 rfl (lv_room (Nat.le_of_ble_eq_true rfl)) dX7_see_2 (fun H locs hW => ?_)
  refine lv_if_eq (tgt := 16) hx hb dX7_see_5 (by decide) (fun hc => ?_) (fun hc => ?_)
  · replace hf := ifp hc hf
    refine lv_ldc (v := (-1000000001 : Int32)) hx hb hown fl221 dX7_see_16 ?_
    have ho := Option.some.inj hf
    subst ho
    exact x_reti (sz := 0) (w0 := []) (A1 := A) hx hb hr hlocks hK hW rfl rfl dX7_see_18
  · replace hf := ifn hc hf
    refine lv_aload_n hx hb dX7_see_8 rfl (lv_at hl 0 rfl) ?_
    refine lv_iload_n hx hb dX7_see_9 rfl (lv_at hl 2 rfl) ?_
    replace hf := bs_ hf; obtain ⟨r2, hcl, hf⟩ := hf
    refine x_callW_i (w' := (wX7 a ct g sg)) (As := [.int x2]) (rest := []) (ci := 7) ⟨hx, hb, hml, hown, hts⟩ (c_X7_isPlace l N kd G ct a g sg x2 _ hcl) (cwV 1 hts gX7_see_X7_isPlace rfl rfl rfl (by decide +kernel) ⟨Nat.le_of_ble_eq_true rfl, Nat.le_of_ble_eq_true rfl⟩) hK hE hA hW rfl rfl 0 rfl rfl rfl rfl hl.1 rfl (lv_room (Nat.le_of_ble_eq_true rfl)) dX7_see_10 (fun H locs hW => ?_)
    refine lv_if_ne (tgt := 19) hx hb dX7_see_13 (by decide) (fun hc => ?_) (fun hc => ?_)
    · replace hf := ifn hc hf
      refine lv_aload_n hx hb dX7_see_19 rfl (lv_at hl 0 rfl) ?_
      refine x_get (ci := 7) (v := .int (g 35 0)) (C := RX7) (T := TX7) (N := 44) hx hb hts inX7 hown hK hW 0 rfl rfl 34 (by decide) fl198 (fun _ h9 => h9) rfl dX7_see_20 ?_
      refine lv_bipush (v := (20 : Int32)) hx hb dX7_see_23 (by decide) ?_
      refine lv_icmp_ne (tgt := 31) hx hb dX7_see_25 (by decide) (fun hc => ?_) (fun hc => ?_)
      · replace hf := ifn hc hf
        refine lv_aload_n hx hb dX7_see_31 rfl (lv_at hl 0 rfl) ?_
        refine x_get (ci := 7) (v := .ref (a 36)) (C := RX7) (T := TX7) (N := 44) hx hb hts inX7 hown hK hW 0 rfl rfl 35 (by decide) fl71 (fun _ h9 => h9) rfl dX7_see_32 ?_
        refine lv_aload_n hx hb dX7_see_35 rfl (lv_at hl 0 rfl) ?_
        refine x_get (ci := 7) (v := .int (g 35 0)) (C := RX7) (T := TX7) (N := 44) hx hb hts inX7 hown hK hW 0 rfl rfl 34 (by decide) fl198 (fun _ h9 => h9) rfl dX7_see_36 ?_
        refine lv_iload_n hx hb dX7_see_39 rfl (lv_at hl 1 rfl) ?_
        replace hf := gd_s hf; obtain ⟨hin, hf⟩ := hf
        refine x_iast (w' := (wX7 a ct (up1 g 36 (g 35 0).toNatClampNeg x1) sg)) (n := 20) (f := g 36) hx hb hK hW 20 rfl (okI_in hin) (ws_X7_36 a ct g sg _ _) dX7_see_40 (fun H locs hW => ?_)
        refine lv_aload_n hx hb dX7_see_41 rfl (lv_at hl 0 rfl) ?_
        refine x_get (ci := 7) (v := .ref (a 37)) (C := RX7) (T := TX7) (N := 44) hx hb hts inX7 hown hK hW 0 rfl rfl 36 (by decide) fl74 (fun _ h9 => h9) rfl dX7_see_42 ?_
        refine lv_aload_n hx hb dX7_see_45 rfl (lv_at hl 0 rfl) ?_
        refine x_get (ci := 7) (v := .int (g 35 0)) (C := RX7) (T := TX7) (N := 44) hx hb hts inX7 hown hK hW 0 rfl rfl 34 (by decide) fl198 (fun _ h9 => h9) rfl dX7_see_46 ?_
        refine lv_iload_n hx hb dX7_see_49 rfl (lv_at hl 2 rfl) ?_
        replace hf := gd_s hf; obtain ⟨hin, hf⟩ := hf
        refine x_iast (w' := (wX7 a ct (up1 (up1 g 36 (g 35 0).toNatClampNeg x1) 37 (g 35 0).toNatClampNeg x2) sg)) (n := 20) (f := (up1 g 36 (g 35 0).toNatClampNeg x1) 37) hx hb hK hW 21 rfl (okI_in hin) (ws_X7_37 a ct (up1 g 36 (g 35 0).toNatClampNeg x1) sg _ _) dX7_see_50 (fun H locs hW => ?_)
        refine lv_aload_n hx hb dX7_see_51 rfl (lv_at hl 0 rfl) ?_
        refine x_get (ci := 7) (v := .ref (a 38)) (C := RX7) (T := TX7) (N := 44) hx hb hts inX7 hown hK hW 0 rfl rfl 37 (by decide) fl77 (fun _ h9 => h9) rfl dX7_see_52 ?_
        refine lv_aload_n hx hb dX7_see_55 rfl (lv_at hl 0 rfl) ?_
        refine x_get (ci := 7) (v := .int (g 35 0)) (C := RX7) (T := TX7) (N := 44) hx hb hts inX7 hown hK hW 0 rfl rfl 34 (by decide) fl198 (fun _ h9 => h9) rfl dX7_see_56 ?_
        refine lv_iload_n hx hb dX7_see_59 rfl (lv_at hl 3 rfl) ?_
        replace hf := gd_s hf; obtain ⟨hin, hf⟩ := hf
        refine x_zast (w' := (wX7 a ct (up1 (up1 (up1 g 36 (g 35 0).toNatClampNeg x1) 37 (g 35 0).toNatClampNeg x2) 38 (g 35 0).toNatClampNeg (vp_nar .boolean x3)) sg)) (n := 20) (f := (up1 (up1 g 36 (g 35 0).toNatClampNeg x1) 37 (g 35 0).toNatClampNeg x2) 38) hx hb hK hW 22 rfl (okI_in hin) (ws_X7_38 a ct (up1 (up1 g 36 (g 35 0).toNatClampNeg x1) 37 (g 35 0).toNatClampNeg x2) sg _ _) dX7_see_60 (fun H locs hW => ?_)
        refine lv_aload_n hx hb dX7_see_61 rfl (lv_at hl 0 rfl) ?_
        refine lv_dup hx hb dX7_see_62 rfl ?_
        refine x_get (ci := 7) (v := .int (g 35 0)) (C := RX7) (T := TX7) (N := 44) hx hb hts inX7 hown hK hW 0 rfl rfl 34 (by decide) fl198 (fun _ h9 => h9) rfl dX7_see_63 ?_
        refine lv_iconst (v := (1 : Int32)) hx hb dX7_see_66 (by decide) ?_
        refine lv_iadd hx hb dX7_see_67 ?_
        refine x_put (w' := (wX7 a ct (up1 (up1 (up1 (up1 g 36 (g 35 0).toNatClampNeg x1) 37 (g 35 0).toNatClampNeg x2) 38 (g 35 0).toNatClampNeg (vp_nar .boolean x3)) 35 0 ((g 35 0) + (1 : Int32))) sg)) (fs := fsX7 a (up1 (up1 (up1 g 36 (g 35 0).toNatClampNeg x1) 37 (g 35 0).toNatClampNeg x2) 38 (g 35 0).toNatClampNeg (vp_nar .boolean x3)) sg) (ci := 7) (v := .int ((g 35 0) + (1 : Int32))) (ty := .int) (C := RX7) (T := TX7) (N := 44) hx hb hts inX7 tyX7 tyX7_ok nmX7 hown hK hW 0 rfl rfl 34 (by decide) fl198 (fun _ h9 => h9) rfl (by decide +kernel) rfl rfl (Nat.le_of_ble_eq_true rfl) (wp_X7_35 a ct (up1 (up1 (up1 g 36 (g 35 0).toNatClampNeg x1) 37 (g 35 0).toNatClampNeg x2) 38 (g 35 0).toNatClampNeg (vp_nar .boolean x3)) sg ((g 35 0) + (1 : Int32))) dX7_see_68 (fun H locs hW => ?_)
        refine lv_aload_n hx hb dX7_see_71 rfl (lv_at hl 0 rfl) ?_
        refine x_get (ci := 7) (v := .int ((g 35 0) + (1 : Int32))) (C := RX7) (T := TX7) (N := 44) hx hb hts inX7 hown hK hW 0 rfl rfl 34 (by decide) fl198 (fun _ h9 => h9) rfl dX7_see_72 ?_
        have ho := Option.some.inj hf
        subst ho
        exact x_reti (sz := 0) (w0 := []) (A1 := A) hx hb hr hlocks hK hW rfl rfl dX7_see_75
      · replace hf := ifp hc hf
        refine lv_ldc (v := (-1000000004 : Int32)) hx hb hown fl115 dX7_see_28 ?_
        have ho := Option.some.inj hf
        subst ho
        exact x_reti (sz := 0) (w0 := []) (A1 := A) hx hb hr hlocks hK hW rfl rfl dX7_see_30
    · replace hf := ifp hc hf
      refine lv_ldc (v := (-1000000001 : Int32)) hx hb hown fl221 dX7_see_16 ?_
      have ho := Option.some.inj hf
      subst ho
      exact x_reti (sz := 0) (w0 := []) (A1 := A) hx hb hr hlocks hK hW rfl rfl dX7_see_18
set_option maxHeartbeats 4000000 in
set_option maxRecDepth 100000 in
theorem c_X7_fits (l : Launch) (N : Nat) (kd : (Nat → Nat) × (Nat → Nat)) (G : va_G) (ct : Nat → ClassId) (a : Nat → Nat) (g : St_) (sg : Int64) (o : Int32) (hf : f_X7_fits N g = some o) : CtI l yX7_fits wsX7_fits ({ frames := 2, cells := 0, slots := 0, locals := 52 }) kd G ct [.ref (a 0)] (wX7 a ct g sg) o (wX7 a ct g sg) := by
  intro sz
  refine Met.ofW (cc := cX7_fits) (maxL := 5) (ret := (some .int)) (by decide) rfl ?_
  intro p e s m args below meth c s₁ B hml hv
  obtain ⟨rfl, hsz, hP, hK, hD0, hE⟩ := hv
  have hx := B.exec
  have hb := B.bytes
  have hr := B.returns
  have hts := atoms_spec (ws := wsX7_fits) B.pre
  have hown : s.vm.findClass RX7 = some m.cls := findClass_of_methodNamed B.named
  have hlocks := B.notSynchronized
  have inX7 : ∀ w ∈ wsX70, w ∈ wsX7_fits := by decide +kernel
  have fl71 := hts (.fieldLink RX7 71 "FittingStridesModel" "seenFrom" "[I") (by decide +kernel)
  have fl74 := hts (.fieldLink RX7 74 "FittingStridesModel" "seenAt" "[I") (by decide +kernel)
  have fl77 := hts (.fieldLink RX7 77 "FittingStridesModel" "seenWas" "[Z") (by decide +kernel)
  have fl198 := hts (.fieldLink RX7 198 "FittingStridesModel" "sights" "I") (by decide +kernel)
  subst hsz
  have hD := hD0.self (sz := s.heap.size)
  generalize hAe : va_A (wX7 a ct g sg) s.heap.size = A at hD hE ⊢
  have hA : ∀ q : Nat, s.heap.size ≤ q → A q := fun q h => by rw [← hAe]; exact Or.inr h
  have hW : WW G A s.heap (wX7 a ct g sg) s.heap [] := ⟨hP, hD, va_S.rf⟩
  have hl := lv_entry ([.ref (a 0)]) (n := 5) (Nat.le_of_ble_eq_true rfl)
  rw [lg_entry_eq]
  generalize (lg_sl ([.ref (a 0)]) ++ List.replicate (5 - (lg_sl ([.ref (a 0)])).length) Slot.unset).toArray = ls at hl ⊢
  have hl : lv_has ls 5 [(0, .ref (a 0))] := hl
  unfold f_X7_fits at hf
  show W p l e ({ frames := 2, cells := 0, slots := 0, locals := 52 } : Room) s m (List.toArray [.ref (a 0)]) below meth c s.heap [] 0 0 (MQ below (va_Qi (fun r (_ : Unit) => r = o) (fun _ t => Af_ G ct (wX7 a ct g sg) A t) A) (List.toArray [.ref (a 0)]) s 0 0 A) (F0 m 0 ls [])
  refine lv_iconst (v := (0 : Int32)) hx hb dX7_fits_0 (by decide) ?_
  refine lv_istore_n (lv' := [(1, .int (0 : Int32)), (0, .ref (a 0))]) hx hb dX7_fits_1 rfl hl (by decide) rfl (fun ls hl => ?_)
  refine lv_iconst (v := (1 : Int32)) hx hb dX7_fits_2 (by decide) ?_
  refine lv_istore_n (lv' := [(2, .int (1 : Int32)), (1, .int (0 : Int32)), (0, .ref (a 0))]) hx hb dX7_fits_3 rfl hl (by decide) rfl (fun ls hl => ?_)
  replace hf := bs_ hf; obtain ⟨v1, hg, hf⟩ := hf
  have J1 : ∀ (H : Heap) (locs : List Loc) (ls : Array Slot), WW G A s.heap (wX7 a ct g sg) H locs → lv_has ls 5 [(1, .int v1)] → W p l e ({ frames := 2, cells := 0, slots := 0, locals := 52 } : Room) s m (List.toArray [.ref (a 0)]) below meth c H locs 0 0 (MQ below (va_Qi (fun r (_ : Unit) => r = o) (fun _ t => Af_ G ct (wX7 a ct g sg) A t) A) (List.toArray [.ref (a 0)]) s 0 0 A) (F0 m 95 ls []) := by
    intro H locs ls hW hl
    refine lv_iload_n hx hb dX7_fits_95 rfl (lv_at hl 0 rfl) ?_
    have ho := Option.some.inj hf
    subst ho
    exact x_reti (sz := 0) (w0 := []) (A1 := A) hx hb hr hlocks hK hW rfl rfl dX7_fits_96
  clear hf
  have L1 : ∀ (n : Nat) (y1_1 : Int32) (y1_2 : Int32), f_X7_fits_L4 N g n y1_1 y1_2 = some v1 → ∀ (H : Heap) (locs : List Loc) (ls : Array Slot), WW G A s.heap (wX7 a ct g sg) H locs → lv_has ls 5 [(0, .ref (a 0)), (1, .int y1_1), (2, .int y1_2)] → W p l e ({ frames := 2, cells := 0, slots := 0, locals := 52 } : Room) s m (List.toArray [.ref (a 0)]) below meth c H locs 0 0 (MQ below (va_Qi (fun r (_ : Unit) => r = o) (fun _ t => Af_ G ct (wX7 a ct g sg) A t) A) (List.toArray [.ref (a 0)]) s 0 0 A) (F0 m 4 ls []) := by
    intro n
    induction n with
    | zero =>
      intro y1_1 y1_2 hf
      rw [f_X7_fits_L4] at hf
      cases hf
    | succ n ih =>
      intro y1_1 y1_2 hf H locs ls hW hl
      rw [f_X7_fits_L4] at hf
      refine lv_iload_n hx hb dX7_fits_4 rfl (lv_at hl 2 rfl) ?_
      refine lv_bipush (v := (24 : Int32)) hx hb dX7_fits_5 (by decide) ?_
      refine lv_icmp_gt (tgt := 95) hx hb dX7_fits_7 (by decide) (fun hc => ?_) (fun hc => ?_)
      · replace hf := ifp hc hf
        have hj := Option.some.inj hf
        subst hj
        exact J1 _ _ _ hW (lv_sub hl [1] rfl)
      · replace hf := ifn hc hf
        refine lv_iconst (v := (1 : Int32)) hx hb dX7_fits_10 (by decide) ?_
        refine lv_istore_n (lv' := [(3, .int (1 : Int32)), (0, .ref (a 0)), (1, .int y1_1), (2, .int y1_2)]) hx hb dX7_fits_11 rfl hl (by decide) rfl (fun ls hl => ?_)
        refine lv_iconst (v := (0 : Int32)) hx hb dX7_fits_12 (by decide) ?_
        refine lv_istore (lv' := [(4, .int (0 : Int32)), (3, .int (1 : Int32)), (0, .ref (a 0)), (1, .int y1_1), (2, .int y1_2)]) hx hb dX7_fits_13 hl (by decide) rfl (fun ls hl => ?_)
        replace hf := bs_ hf; obtain ⟨v2, hg, hf⟩ := hf
        have J2 : ∀ (H : Heap) (locs : List Loc) (ls : Array Slot), WW G A s.heap (wX7 a ct g sg) H locs → lv_has ls 5 [(0, .ref (a 0)), (1, .int y1_1), (2, .int y1_2), (3, .int v2)] → W p l e ({ frames := 2, cells := 0, slots := 0, locals := 52 } : Room) s m (List.toArray [.ref (a 0)]) below meth c H locs 0 0 (MQ below (va_Qi (fun r (_ : Unit) => r = o) (fun _ t => Af_ G ct (wX7 a ct g sg) A t) A) (List.toArray [.ref (a 0)]) s 0 0 A) (F0 m 73 ls []) := by
          intro H locs ls hW hl
          refine lv_iload_n hx hb dX7_fits_73 rfl (lv_at hl 1 rfl) ?_
          refine lv_iload_n hx hb dX7_fits_74 rfl (lv_at hl 3 rfl) ?_
          replace hf := bs_ hf; obtain ⟨j6, hg, hf⟩ := hf
          have J6 : ∀ (H : Heap) (locs : List Loc) (ls : Array Slot), WW G A s.heap (wX7 a ct g sg) H locs → lv_has ls 5 [(0, .ref (a 0)), (2, .int y1_2)] → W p l e ({ frames := 2, cells := 0, slots := 0, locals := 52 } : Room) s m (List.toArray [.ref (a 0)]) below meth c H locs 0 0 (MQ below (va_Qi (fun r (_ : Unit) => r = o) (fun _ t => Af_ G ct (wX7 a ct g sg) A t) A) (List.toArray [.ref (a 0)]) s 0 0 A) (F0 m 87 ls (.int j6 :: .int y1_1 :: [])) := by
            intro H locs ls hW hl
            refine lv_ior hx hb dX7_fits_87 ?_
            refine lv_istore_n (lv' := [(1, .int (y1_1 ||| j6)), (0, .ref (a 0)), (2, .int y1_2)]) hx hb dX7_fits_88 rfl hl (by decide) rfl (fun ls hl => ?_)
            refine lv_iinc (v := (y1_2 + (1 : Int32))) (lv' := [(2, .int (y1_2 + (1 : Int32))), (1, .int (y1_1 ||| j6)), (0, .ref (a 0))]) hx hb dX7_fits_89 hl (k := 2) rfl rfl (by decide) rfl (fun ls hl => ?_)
            refine lv_goto (tgt := 4) hx hb dX7_fits_92 (by decide) ?_
            exact ih (y1_1 ||| j6) (y1_2 + (1 : Int32)) hf _ _ _ hW (lv_sub hl [2, 1, 0] rfl)
          clear hf
          refine lv_if_eq (tgt := 86) hx hb dX7_fits_75 (by decide) (fun hc => ?_) (fun hc => ?_)
          · have hf := ifp hc hg
            clear hg
            refine lv_iconst (v := (0 : Int32)) hx hb dX7_fits_86 (by decide) ?_
            have hj := Option.some.inj hf
            subst hj
            exact J6 _ _ _ hW (lv_sub hl [0, 2] rfl)
          · have hf := ifn hc hg
            clear hg
            refine lv_iconst (v := (1 : Int32)) hx hb dX7_fits_78 (by decide) ?_
            refine lv_iload_n hx hb dX7_fits_79 rfl (lv_at hl 2 rfl) ?_
            refine lv_iconst (v := (1 : Int32)) hx hb dX7_fits_80 (by decide) ?_
            refine lv_isub hx hb dX7_fits_81 ?_
            refine lv_ishl hx hb dX7_fits_82 ?_
            refine lv_goto (tgt := 87) hx hb dX7_fits_83 (by decide) ?_
            have hj := Option.some.inj hf
            subst hj
            exact J6 _ _ _ hW (lv_sub hl [0, 2] rfl)
        clear hf
        have L2 : ∀ (n : Nat) (y2_3 : Int32) (y2_4 : Int32), f_X7_fits_L15 N g y1_2 n y2_3 y2_4 = some v2 → ∀ (H : Heap) (locs : List Loc) (ls : Array Slot), WW G A s.heap (wX7 a ct g sg) H locs → lv_has ls 5 [(0, .ref (a 0)), (1, .int y1_1), (2, .int y1_2), (3, .int y2_3), (4, .int y2_4)] → W p l e ({ frames := 2, cells := 0, slots := 0, locals := 52 } : Room) s m (List.toArray [.ref (a 0)]) below meth c H locs 0 0 (MQ below (va_Qi (fun r (_ : Unit) => r = o) (fun _ t => Af_ G ct (wX7 a ct g sg) A t) A) (List.toArray [.ref (a 0)]) s 0 0 A) (F0 m 15 ls []) := by
          intro n
          induction n with
          | zero =>
            intro y2_3 y2_4 hf
            rw [f_X7_fits_L15] at hf
            cases hf
          | succ n ih =>
            intro y2_3 y2_4 hf H locs ls hW hl
            rw [f_X7_fits_L15] at hf
            refine lv_iload hx hb dX7_fits_15 (lv_at hl 4 rfl) ?_
            refine lv_aload_n hx hb dX7_fits_17 rfl (lv_at hl 0 rfl) ?_
            refine x_get (ci := 7) (v := .int (g 35 0)) (C := RX7) (T := TX7) (N := 44) hx hb hts inX7 hown hK hW 0 rfl rfl 34 (by decide) fl198 (fun _ h9 => h9) rfl dX7_fits_18 ?_
            refine lv_icmp_ge (tgt := 73) hx hb dX7_fits_21 (by decide) (fun hc => ?_) (fun hc => ?_)
            · replace hf := ifp hc hf
              have hj := Option.some.inj hf
              subst hj
              exact J2 _ _ _ hW (lv_sub hl [0, 1, 2, 3] rfl)
            · replace hf := ifn hc hf
              refine lv_iload_n hx hb dX7_fits_24 rfl (lv_at hl 3 rfl) ?_
              replace hf := bs_ hf; obtain ⟨j3, hg, hf⟩ := hf
              have J3 : ∀ (H : Heap) (locs : List Loc) (ls : Array Slot), WW G A s.heap (wX7 a ct g sg) H locs → lv_has ls 5 [(0, .ref (a 0)), (1, .int y1_1), (2, .int y1_2), (4, .int y2_4)] → W p l e ({ frames := 2, cells := 0, slots := 0, locals := 52 } : Room) s m (List.toArray [.ref (a 0)]) below meth c H locs 0 0 (MQ below (va_Qi (fun r (_ : Unit) => r = o) (fun _ t => Af_ G ct (wX7 a ct g sg) A t) A) (List.toArray [.ref (a 0)]) s 0 0 A) (F0 m 66 ls (.int j3 :: [])) := by
                intro H locs ls hW hl
                refine lv_istore_n (lv' := [(3, .int j3), (0, .ref (a 0)), (1, .int y1_1), (2, .int y1_2), (4, .int y2_4)]) hx hb dX7_fits_66 rfl hl (by decide) rfl (fun ls hl => ?_)
                refine lv_iinc (v := (y2_4 + (1 : Int32))) (lv' := [(4, .int (y2_4 + (1 : Int32))), (3, .int j3), (0, .ref (a 0)), (1, .int y1_1), (2, .int y1_2)]) hx hb dX7_fits_67 hl (k := 4) rfl rfl (by decide) rfl (fun ls hl => ?_)
                refine lv_goto (tgt := 15) hx hb dX7_fits_70 (by decide) ?_
                exact ih j3 (y2_4 + (1 : Int32)) hf _ _ _ hW (lv_sub hl [2, 3, 4, 1, 0] rfl)
              clear hf
              refine lv_if_eq (tgt := 65) hx hb dX7_fits_25 (by decide) (fun hc => ?_) (fun hc => ?_)
              · have hf := ifp hc hg
                clear hg
                refine lv_iconst (v := (0 : Int32)) hx hb dX7_fits_65 (by decide) ?_
                have hj := Option.some.inj hf
                subst hj
                exact J3 _ _ _ hW (lv_sub hl [0, 1, 2, 4] rfl)
              · have hf := ifn hc hg
                clear hg
                refine lv_aload_n hx hb dX7_fits_28 rfl (lv_at hl 0 rfl) ?_
                refine lv_aload_n hx hb dX7_fits_29 rfl (lv_at hl 0 rfl) ?_
                refine x_get (ci := 7) (v := .ref (a 36)) (C := RX7) (T := TX7) (N := 44) hx hb hts inX7 hown hK hW 0 rfl rfl 35 (by decide) fl71 (fun _ h9 => h9) rfl dX7_fits_30 ?_
                refine lv_iload hx hb dX7_fits_33 (lv_at hl 4 rfl) ?_
                replace hf := gd_s hf; obtain ⟨hin, hf⟩ := hf
                refine x_iald (n := 20) (f := g 36) hx hb hK hW 20 rfl (okI_in hin) dX7_fits_35 ?_
                refine lv_iload_n hx hb dX7_fits_36 rfl (lv_at hl 2 rfl) ?_
                refine lv_iconst (v := (0 : Int32)) hx hb dX7_fits_37 (by decide) ?_
                replace hf := bs_ hf; obtain ⟨r4, hcl, hf⟩ := hf
                refine x_callW_i (w' := (wX7 a ct g sg)) (As := [.int (g 36 y2_4.toNatClampNeg), .int y1_2, .int (0 : Int32)]) (rest := []) (ci := 7) ⟨hx, hb, hml, hown, hts⟩ (c_X7_reachOf l N kd G ct a g sg (g 36 y2_4.toNatClampNeg) y1_2 (0 : Int32) _ hcl) (cwV 3 hts gX7_fits_X7_reachOf rfl rfl rfl (by decide +kernel) ⟨Nat.le_of_ble_eq_true rfl, Nat.le_of_ble_eq_true rfl⟩) hK hE hA hW rfl rfl 0 rfl rfl rfl rfl hl.1 rfl (lv_room (Nat.le_of_ble_eq_true rfl)) dX7_fits_38 (fun H locs hW => ?_)
                refine lv_aload_n hx hb dX7_fits_41 rfl (lv_at hl 0 rfl) ?_
                refine x_get (ci := 7) (v := .ref (a 37)) (C := RX7) (T := TX7) (N := 44) hx hb hts inX7 hown hK hW 0 rfl rfl 36 (by decide) fl74 (fun _ h9 => h9) rfl dX7_fits_42 ?_
                refine lv_iload hx hb dX7_fits_45 (lv_at hl 4 rfl) ?_
                replace hf := gd_s hf; obtain ⟨hin, hf⟩ := hf
                refine x_iald (n := 20) (f := g 37) hx hb hK hW 21 rfl (okI_in hin) dX7_fits_47 ?_
                replace hf := bs_ hf; obtain ⟨r5, hcl, hf⟩ := hf
                refine x_callS_i (As := [.int r4, .int (g 37 y2_4.toNatClampNeg)]) (rest := []) ⟨hx, hb, hml, hown, hts⟩ (c_X7_has l N kd G ct r4 (g 37 y2_4.toNatClampNeg) _ hcl) (va_cwS 2 hts gX7_fits_X7_has rfl rfl rfl (by decide +kernel) ⟨Nat.le_of_ble_eq_true rfl, Nat.le_of_ble_eq_true rfl⟩) hK hE hA hW rfl hl.1 rfl (lv_room (Nat.le_of_ble_eq_true rfl)) dX7_fits_48 (fun H locs hW => ?_)
                refine lv_aload_n hx hb dX7_fits_51 rfl (lv_at hl 0 rfl) ?_
                refine x_get (ci := 7) (v := .ref (a 38)) (C := RX7) (T := TX7) (N := 44) hx hb hts inX7 hown hK hW 0 rfl rfl 37 (by decide) fl77 (fun _ h9 => h9) rfl dX7_fits_52 ?_
                refine lv_iload hx hb dX7_fits_55 (lv_at hl 4 rfl) ?_
                replace hf := gd_s hf; obtain ⟨hin, hf⟩ := hf
                refine x_zald (n := 20) (f := g 38) hx hb hK hW 22 rfl (okI_in hin) dX7_fits_57 ?_
                refine lv_icmp_ne (tgt := 65) hx hb dX7_fits_58 (by decide) (fun hc => ?_) (fun hc => ?_)
                · replace hf := ifn hc hf
                  refine lv_iconst (v := (0 : Int32)) hx hb dX7_fits_65 (by decide) ?_
                  have hj := Option.some.inj hf
                  subst hj
                  exact J3 _ _ _ hW (lv_sub hl [0, 1, 2, 4] rfl)
                · replace hf := ifp hc hf
                  refine lv_iconst (v := (1 : Int32)) hx hb dX7_fits_61 (by decide) ?_
                  refine lv_goto (tgt := 66) hx hb dX7_fits_62 (by decide) ?_
                  have hj := Option.some.inj hf
                  subst hj
                  exact J3 _ _ _ hW (lv_sub hl [0, 1, 2, 4] rfl)
        exact L2 N (1 : Int32) (0 : Int32) hg _ _ _ hW (lv_sub hl [2, 3, 4, 1, 0] rfl)
  exact L1 N (0 : Int32) (1 : Int32) hg _ _ _ hW (lv_sub hl [2, 1, 0] rfl)
set_option maxHeartbeats 4000000 in
set_option maxRecDepth 100000 in
theorem c_X7_ask (l : Launch) (N : Nat) (kd : (Nat → Nat) × (Nat → Nat)) (G : va_G) (ct : Nat → ClassId) (a : Nat → Nat) (g : St_) (sg : Int64) (o : Int32) (hf : f_X7_ask N g = some o) : CtI l yX7_ask wsX7_ask ({ frames := 3, cells := 0, slots := 0, locals := 76 }) kd G ct [.ref (a 0)] (wX7 a ct g sg) o (wX7 a ct g sg) := by
  intro sz
  refine Met.ofW (cc := cX7_ask) (maxL := 9) (ret := (some .int)) (by decide) rfl ?_
  intro p e s m args below meth c s₁ B hml hv
  obtain ⟨rfl, hsz, hP, hK, hD0, hE⟩ := hv
  have hx := B.exec
  have hb := B.bytes
  have hr := B.returns
  have hts := atoms_spec (ws := wsX7_ask) B.pre
  have hown : s.vm.findClass RX7 = some m.cls := findClass_of_methodNamed B.named
  have hlocks := B.notSynchronized
  have inX7 : ∀ w ∈ wsX70, w ∈ wsX7_ask := by decide +kernel
  have fl103 := hts (.fieldLink RX7 103 "FittingStridesModel" "stairs" "I") (by decide +kernel)
  subst hsz
  have hD := hD0.self (sz := s.heap.size)
  generalize hAe : va_A (wX7 a ct g sg) s.heap.size = A at hD hE ⊢
  have hA : ∀ q : Nat, s.heap.size ≤ q → A q := fun q h => by rw [← hAe]; exact Or.inr h
  have hW : WW G A s.heap (wX7 a ct g sg) s.heap [] := ⟨hP, hD, va_S.rf⟩
  have hl := lv_entry ([.ref (a 0)]) (n := 9) (Nat.le_of_ble_eq_true rfl)
  rw [lg_entry_eq]
  generalize (lg_sl ([.ref (a 0)]) ++ List.replicate (9 - (lg_sl ([.ref (a 0)])).length) Slot.unset).toArray = ls at hl ⊢
  have hl : lv_has ls 9 [(0, .ref (a 0))] := hl
  unfold f_X7_ask at hf
  show W p l e ({ frames := 3, cells := 0, slots := 0, locals := 76 } : Room) s m (List.toArray [.ref (a 0)]) below meth c s.heap [] 0 0 (MQ below (va_Qi (fun r (_ : Unit) => r = o) (fun _ t => Af_ G ct (wX7 a ct g sg) A t) A) (List.toArray [.ref (a 0)]) s 0 0 A) (F0 m 0 ls [])
  refine lv_aload_n hx hb dX7_ask_0 rfl (lv_at hl 0 rfl) ?_
  replace hf := bs_ hf; obtain ⟨r1, hcl, hf⟩ := hf
  refine x_callW_i (w' := (wX7 a ct g sg)) (As := []) (rest := []) (ci := 7) ⟨hx, hb, hml, hown, hts⟩ (c_X7_fits l N kd G ct a g sg _ hcl) (cwV 0 hts gX7_ask_X7_fits rfl rfl rfl (by decide +kernel) ⟨Nat.le_of_ble_eq_true rfl, Nat.le_of_ble_eq_true rfl⟩) hK hE hA hW rfl rfl 0 rfl rfl rfl rfl hl.1 rfl (lv_room (Nat.le_of_ble_eq_true rfl)) dX7_ask_1 (fun H locs hW => ?_)
  refine lv_istore_n (lv' := [(1, .int r1), (0, .ref (a 0))]) hx hb dX7_ask_4 rfl hl (by decide) rfl (fun ls hl => ?_)
  refine lv_iconst (v := (-1 : Int32)) hx hb dX7_ask_5 (by decide) ?_
  refine lv_istore_n (lv' := [(2, .int (-1 : Int32)), (1, .int r1), (0, .ref (a 0))]) hx hb dX7_ask_6 rfl hl (by decide) rfl (fun ls hl => ?_)
  refine lv_iconst (v := (0 : Int32)) hx hb dX7_ask_7 (by decide) ?_
  refine lv_istore_n (lv' := [(3, .int (0 : Int32)), (2, .int (-1 : Int32)), (1, .int r1), (0, .ref (a 0))]) hx hb dX7_ask_8 rfl hl (by decide) rfl (fun ls hl => ?_)
  refine lv_iconst (v := (0 : Int32)) hx hb dX7_ask_9 (by decide) ?_
  refine lv_istore (lv' := [(4, .int (0 : Int32)), (3, .int (0 : Int32)), (2, .int (-1 : Int32)), (1, .int r1), (0, .ref (a 0))]) hx hb dX7_ask_10 hl (by decide) rfl (fun ls hl => ?_)
  replace hf := bs_ hf; obtain ⟨v2, hg, hf⟩ := hf
  have J2 : ∀ (H : Heap) (locs : List Loc) (ls : Array Slot), WW G A s.heap (wX7 a ct g sg) H locs → lv_has ls 9 [(2, .int v2)] → W p l e ({ frames := 3, cells := 0, slots := 0, locals := 76 } : Room) s m (List.toArray [.ref (a 0)]) below meth c H locs 0 0 (MQ below (va_Qi (fun r (_ : Unit) => r = o) (fun _ t => Af_ G ct (wX7 a ct g sg) A t) A) (List.toArray [.ref (a 0)]) s 0 0 A) (F0 m 160 ls []) := by
    intro H locs ls hW hl
    refine lv_iload_n hx hb dX7_ask_160 rfl (lv_at hl 0 rfl) ?_
    have ho := Option.some.inj hf
    subst ho
    exact x_reti (sz := 0) (w0 := []) (A1 := A) hx hb hr hlocks hK hW rfl rfl dX7_ask_161
  clear hf
  have L2 : ∀ (n : Nat) (y2_2 : Int32) (y2_3 : Int32) (y2_4 : Int32), f_X7_ask_L12 N g r1 n y2_2 y2_3 y2_4 = some v2 → ∀ (H : Heap) (locs : List Loc) (ls : Array Slot), WW G A s.heap (wX7 a ct g sg) H locs → lv_has ls 9 [(0, .ref (a 0)), (1, .int r1), (2, .int y2_2), (3, .int y2_3), (4, .int y2_4)] → W p l e ({ frames := 3, cells := 0, slots := 0, locals := 76 } : Room) s m (List.toArray [.ref (a 0)]) below meth c H locs 0 0 (MQ below (va_Qi (fun r (_ : Unit) => r = o) (fun _ t => Af_ G ct (wX7 a ct g sg) A t) A) (List.toArray [.ref (a 0)]) s 0 0 A) (F0 m 12 ls []) := by
    intro n
    induction n with
    | zero =>
      intro y2_2 y2_3 y2_4 hf
      rw [f_X7_ask_L12] at hf
      cases hf
    | succ n ih =>
      intro y2_2 y2_3 y2_4 hf H locs ls hW hl
      rw [f_X7_ask_L12] at hf
      refine lv_iload hx hb dX7_ask_12 (lv_at hl 4 rfl) ?_
      refine lv_aload_n hx hb dX7_ask_14 rfl (lv_at hl 0 rfl) ?_
      refine x_get (ci := 7) (v := .int (g 2 0)) (C := RX7) (T := TX7) (N := 44) hx hb hts inX7 hown hK hW 0 rfl rfl 1 (by decide) fl103 (fun _ h9 => h9) rfl dX7_ask_15 ?_
      refine lv_icmp_ge (tgt := 160) hx hb dX7_ask_18 (by decide) (fun hc => ?_) (fun hc => ?_)
      · replace hf := ifp hc hf
        have hj := Option.some.inj hf
        subst hj
        exact J2 _ _ _ hW (lv_sub hl [2] rfl)
      · replace hf := ifn hc hf
        refine lv_iconst (v := (0 : Int32)) hx hb dX7_ask_21 (by decide) ?_
        refine lv_istore (lv' := [(5, .int (0 : Int32)), (0, .ref (a 0)), (1, .int r1), (2, .int y2_2), (3, .int y2_3), (4, .int y2_4)]) hx hb dX7_ask_22 hl (by decide) rfl (fun ls hl => ?_)
        refine lv_iconst (v := (1 : Int32)) hx hb dX7_ask_24 (by decide) ?_
        refine lv_istore (lv' := [(6, .int (1 : Int32)), (5, .int (0 : Int32)), (0, .ref (a 0)), (1, .int r1), (2, .int y2_2), (3, .int y2_3), (4, .int y2_4)]) hx hb dX7_ask_25 hl (by decide) rfl (fun ls hl => ?_)
        replace hf := bs_ hf; obtain ⟨v3, hg, hf⟩ := hf
        have J3 : ∀ (H : Heap) (locs : List Loc) (ls : Array Slot), WW G A s.heap (wX7 a ct g sg) H locs → lv_has ls 9 [(0, .ref (a 0)), (1, .int r1), (2, .int y2_2), (3, .int y2_3), (4, .int y2_4), (5, .int v3)] → W p l e ({ frames := 3, cells := 0, slots := 0, locals := 76 } : Room) s m (List.toArray [.ref (a 0)]) below meth c H locs 0 0 (MQ below (va_Qi (fun r (_ : Unit) => r = o) (fun _ t => Af_ G ct (wX7 a ct g sg) A t) A) (List.toArray [.ref (a 0)]) s 0 0 A) (F0 m 72 ls []) := by
          intro H locs ls hW hl
          refine lv_iload_n hx hb dX7_ask_72 rfl (lv_at hl 1 rfl) ?_
          replace hf := bs_ hf; obtain ⟨r7, hcl, hf⟩ := hf
          refine x_callS_i (As := [.int r1]) (rest := []) ⟨hx, hb, hml, hown, hts⟩ (c_X7_bits l N kd G ct r1 _ hcl) (va_cwS 1 hts gX7_ask_X7_bits rfl rfl rfl (by decide +kernel) ⟨Nat.le_of_ble_eq_true rfl, Nat.le_of_ble_eq_true rfl⟩) hK hE hA hW rfl hl.1 rfl (lv_room (Nat.le_of_ble_eq_true rfl)) dX7_ask_73 (fun H locs hW => ?_)
          refine lv_iload hx hb dX7_ask_76 (lv_at hl 5 rfl) ?_
          refine lv_isub hx hb dX7_ask_78 ?_
          refine lv_istore (lv' := [(6, .int (r7 - v3)), (0, .ref (a 0)), (1, .int r1), (2, .int y2_2), (3, .int y2_3), (4, .int y2_4), (5, .int v3)]) hx hb dX7_ask_79 hl (by decide) rfl (fun ls hl => ?_)
          refine lv_iload hx hb dX7_ask_81 (lv_at hl 6 rfl) ?_
          refine lv_iload hx hb dX7_ask_83 (lv_at hl 0 rfl) ?_
          replace hf := bs_ hf; obtain ⟨j8, hg, hf⟩ := hf
          have J8 : ∀ (H : Heap) (locs : List Loc) (ls : Array Slot), WW G A s.heap (wX7 a ct g sg) H locs → lv_has ls 9 [(0, .ref (a 0)), (1, .int r1), (2, .int y2_2), (3, .int y2_3), (4, .int y2_4), (5, .int v3), (6, .int (r7 - v3))] → W p l e ({ frames := 3, cells := 0, slots := 0, locals := 76 } : Room) s m (List.toArray [.ref (a 0)]) below meth c H locs 0 0 (MQ below (va_Qi (fun r (_ : Unit) => r = o) (fun _ t => Af_ G ct (wX7 a ct g sg) A t) A) (List.toArray [.ref (a 0)]) s 0 0 A) (F0 m 101 ls (.int j8 :: [])) := by
            intro H locs ls hW hl
            refine lv_istore (lv' := [(7, .int j8), (0, .ref (a 0)), (1, .int r1), (2, .int y2_2), (3, .int y2_3), (4, .int y2_4), (5, .int v3), (6, .int (r7 - v3))]) hx hb dX7_ask_101 hl (by decide) rfl (fun ls hl => ?_)
            refine lv_iload hx hb dX7_ask_103 (lv_at hl 6 rfl) ?_
            replace hf := bs_ hf; obtain ⟨j9, hg, hf⟩ := hf
            have J9 : ∀ (H : Heap) (locs : List Loc) (ls : Array Slot), WW G A s.heap (wX7 a ct g sg) H locs → lv_has ls 9 [(0, .ref (a 0)), (1, .int r1), (2, .int y2_2), (3, .int y2_3), (4, .int y2_4), (7, .int j8)] → W p l e ({ frames := 3, cells := 0, slots := 0, locals := 76 } : Room) s m (List.toArray [.ref (a 0)]) below meth c H locs 0 0 (MQ below (va_Qi (fun r (_ : Unit) => r = o) (fun _ t => Af_ G ct (wX7 a ct g sg) A t) A) (List.toArray [.ref (a 0)]) s 0 0 A) (F0 m 128 ls (.int j9 :: [])) := by
              intro H locs ls hW hl
              refine lv_istore (lv' := [(8, .int j9), (0, .ref (a 0)), (1, .int r1), (2, .int y2_2), (3, .int y2_3), (4, .int y2_4), (7, .int j8)]) hx hb dX7_ask_128 hl (by decide) rfl (fun ls hl => ?_)
              refine lv_iload hx hb dX7_ask_130 (lv_at hl 0 rfl) ?_
              replace hf := bs_ hf; obtain ⟨j10, hg, hf⟩ := hf
              have J10 : ∀ (H : Heap) (locs : List Loc) (ls : Array Slot), WW G A s.heap (wX7 a ct g sg) H locs → lv_has ls 9 [(0, .ref (a 0)), (1, .int r1), (3, .int y2_3), (4, .int y2_4), (7, .int j8), (8, .int j9)] → W p l e ({ frames := 3, cells := 0, slots := 0, locals := 76 } : Room) s m (List.toArray [.ref (a 0)]) below meth c H locs 0 0 (MQ below (va_Qi (fun r (_ : Unit) => r = o) (fun _ t => Af_ G ct (wX7 a ct g sg) A t) A) (List.toArray [.ref (a 0)]) s 0 0 A) (F0 m 141 ls (.int j10 :: [])) := by
                intro H locs ls hW hl
                refine lv_istore_n (lv' := [(2, .int j10), (0, .ref (a 0)), (1, .int r1), (3, .int y2_3), (4, .int y2_4), (7, .int j8), (8, .int j9)]) hx hb dX7_ask_141 rfl hl (by decide) rfl (fun ls hl => ?_)
                refine lv_iload hx hb dX7_ask_142 (lv_at hl 6 rfl) ?_
                replace hf := bs_ hf; obtain ⟨j11, hg, hf⟩ := hf
                have J11 : ∀ (H : Heap) (locs : List Loc) (ls : Array Slot), WW G A s.heap (wX7 a ct g sg) H locs → lv_has ls 9 [(0, .ref (a 0)), (1, .int r1), (2, .int j10), (4, .int y2_4)] → W p l e ({ frames := 3, cells := 0, slots := 0, locals := 76 } : Room) s m (List.toArray [.ref (a 0)]) below meth c H locs 0 0 (MQ below (va_Qi (fun r (_ : Unit) => r = o) (fun _ t => Af_ G ct (wX7 a ct g sg) A t) A) (List.toArray [.ref (a 0)]) s 0 0 A) (F0 m 153 ls (.int j11 :: [])) := by
                  intro H locs ls hW hl
                  refine lv_istore_n (lv' := [(3, .int j11), (0, .ref (a 0)), (1, .int r1), (2, .int j10), (4, .int y2_4)]) hx hb dX7_ask_153 rfl hl (by decide) rfl (fun ls hl => ?_)
                  refine lv_iinc (v := (y2_4 + (1 : Int32))) (lv' := [(4, .int (y2_4 + (1 : Int32))), (3, .int j11), (0, .ref (a 0)), (1, .int r1), (2, .int j10)]) hx hb dX7_ask_154 hl (k := 4) rfl rfl (by decide) rfl (fun ls hl => ?_)
                  refine lv_goto (tgt := 12) hx hb dX7_ask_157 (by decide) ?_
                  exact ih j10 j11 (y2_4 + (1 : Int32)) hf _ _ _ hW (lv_sub hl [2, 3, 4, 1, 0] rfl)
                clear hf
                refine lv_if_eq (tgt := 152) hx hb dX7_ask_144 (by decide) (fun hc => ?_) (fun hc => ?_)
                · have hf := ifp hc hg
                  clear hg
                  refine lv_iload_n hx hb dX7_ask_152 rfl (lv_at hl 3 rfl) ?_
                  have hj := Option.some.inj hf
                  subst hj
                  exact J11 _ _ _ hW (lv_sub hl [1, 2, 0, 4] rfl)
                · have hf := ifn hc hg
                  clear hg
                  refine lv_iload hx hb dX7_ask_147 (lv_at hl 5 rfl) ?_
                  refine lv_goto (tgt := 153) hx hb dX7_ask_149 (by decide) ?_
                  have hj := Option.some.inj hf
                  subst hj
                  exact J11 _ _ _ hW (lv_sub hl [1, 2, 0, 4] rfl)
              clear hf
              refine lv_if_eq (tgt := 140) hx hb dX7_ask_132 (by decide) (fun hc => ?_) (fun hc => ?_)
              · have hf := ifp hc hg
                clear hg
                refine lv_iload_n hx hb dX7_ask_140 rfl (lv_at hl 3 rfl) ?_
                have hj := Option.some.inj hf
                subst hj
                exact J10 _ _ _ hW (lv_sub hl [1, 2, 4, 5, 6, 0] rfl)
              · have hf := ifn hc hg
                clear hg
                refine lv_iload hx hb dX7_ask_135 (lv_at hl 5 rfl) ?_
                refine lv_goto (tgt := 141) hx hb dX7_ask_137 (by decide) ?_
                have hj := Option.some.inj hf
                subst hj
                exact J10 _ _ _ hW (lv_sub hl [1, 2, 4, 5, 6, 0] rfl)
            clear hf
            refine lv_if_le (tgt := 127) hx hb dX7_ask_105 (by decide) (fun hc => ?_) (fun hc => ?_)
            · have hf := ifp hc hg
              clear hg
              refine lv_iconst (v := (0 : Int32)) hx hb dX7_ask_127 (by decide) ?_
              have hj := Option.some.inj hf
              subst hj
              exact J9 _ _ _ hW (lv_sub hl [1, 2, 3, 4, 5, 0] rfl)
            · have hf := ifn hc hg
              clear hg
              refine lv_iload hx hb dX7_ask_108 (lv_at hl 7 rfl) ?_
              refine lv_if_le (tgt := 127) hx hb dX7_ask_110 (by decide) (fun hc => ?_) (fun hc => ?_)
              · replace hf := ifp hc hf
                refine lv_iconst (v := (0 : Int32)) hx hb dX7_ask_127 (by decide) ?_
                have hj := Option.some.inj hf
                subst hj
                exact J9 _ _ _ hW (lv_sub hl [1, 2, 3, 4, 5, 0] rfl)
              · replace hf := ifn hc hf
                refine lv_iload_n hx hb dX7_ask_113 rfl (lv_at hl 3 rfl) ?_
                refine lv_if_lt (tgt := 123) hx hb dX7_ask_114 (by decide) (fun hc => ?_) (fun hc => ?_)
                · replace hf := ifp hc hf
                  refine lv_iconst (v := (1 : Int32)) hx hb dX7_ask_123 (by decide) ?_
                  refine lv_goto (tgt := 128) hx hb dX7_ask_124 (by decide) ?_
                  have hj := Option.some.inj hf
                  subst hj
                  exact J9 _ _ _ hW (lv_sub hl [1, 2, 3, 4, 5, 0] rfl)
                · replace hf := ifn hc hf
                  refine lv_iload hx hb dX7_ask_117 (lv_at hl 0 rfl) ?_
                  refine lv_iload_n hx hb dX7_ask_119 rfl (lv_at hl 4 rfl) ?_
                  refine lv_icmp_ge (tgt := 127) hx hb dX7_ask_120 (by decide) (fun hc => ?_) (fun hc => ?_)
                  · replace hf := ifp hc hf
                    refine lv_iconst (v := (0 : Int32)) hx hb dX7_ask_127 (by decide) ?_
                    have hj := Option.some.inj hf
                    subst hj
                    exact J9 _ _ _ hW (lv_sub hl [1, 2, 3, 4, 5, 0] rfl)
                  · replace hf := ifn hc hf
                    refine lv_iconst (v := (1 : Int32)) hx hb dX7_ask_123 (by decide) ?_
                    refine lv_goto (tgt := 128) hx hb dX7_ask_124 (by decide) ?_
                    have hj := Option.some.inj hf
                    subst hj
                    exact J9 _ _ _ hW (lv_sub hl [1, 2, 3, 4, 5, 0] rfl)
          clear hf
          refine lv_icmp_le (tgt := 96) hx hb dX7_ask_85 (by decide) (fun hc => ?_) (fun hc => ?_)
          · have hf := ifp hc hg
            clear hg
            refine lv_iload hx hb dX7_ask_96 (lv_at hl 0 rfl) ?_
            refine lv_iload hx hb dX7_ask_98 (lv_at hl 6 rfl) ?_
            refine lv_isub hx hb dX7_ask_100 ?_
            have hj := Option.some.inj hf
            subst hj
            exact J8 _ _ _ hW (lv_sub hl [1, 2, 3, 4, 5, 6, 0] rfl)
          · have hf := ifn hc hg
            clear hg
            refine lv_iload hx hb dX7_ask_88 (lv_at hl 6 rfl) ?_
            refine lv_iload hx hb dX7_ask_90 (lv_at hl 0 rfl) ?_
            refine lv_isub hx hb dX7_ask_92 ?_
            refine lv_goto (tgt := 101) hx hb dX7_ask_93 (by decide) ?_
            have hj := Option.some.inj hf
            subst hj
            exact J8 _ _ _ hW (lv_sub hl [1, 2, 3, 4, 5, 6, 0] rfl)
        clear hf
        have L3 : ∀ (n : Nat) (y3_5 : Int32) (y3_6 : Int32), f_X7_ask_L27 N g r1 y2_4 n y3_5 y3_6 = some v3 → ∀ (H : Heap) (locs : List Loc) (ls : Array Slot), WW G A s.heap (wX7 a ct g sg) H locs → lv_has ls 9 [(0, .ref (a 0)), (1, .int r1), (2, .int y2_2), (3, .int y2_3), (4, .int y2_4), (5, .int y3_5), (6, .int y3_6)] → W p l e ({ frames := 3, cells := 0, slots := 0, locals := 76 } : Room) s m (List.toArray [.ref (a 0)]) below meth c H locs 0 0 (MQ below (va_Qi (fun r (_ : Unit) => r = o) (fun _ t => Af_ G ct (wX7 a ct g sg) A t) A) (List.toArray [.ref (a 0)]) s 0 0 A) (F0 m 27 ls []) := by
          intro n
          induction n with
          | zero =>
            intro y3_5 y3_6 hf
            rw [f_X7_ask_L27] at hf
            cases hf
          | succ n ih =>
            intro y3_5 y3_6 hf H locs ls hW hl
            rw [f_X7_ask_L27] at hf
            refine lv_iload hx hb dX7_ask_27 (lv_at hl 6 rfl) ?_
            refine lv_bipush (v := (24 : Int32)) hx hb dX7_ask_29 (by decide) ?_
            refine lv_icmp_gt (tgt := 72) hx hb dX7_ask_31 (by decide) (fun hc => ?_) (fun hc => ?_)
            · replace hf := ifp hc hf
              have hj := Option.some.inj hf
              subst hj
              exact J3 _ _ _ hW (lv_sub hl [0, 1, 2, 3, 4, 5] rfl)
            · replace hf := ifn hc hf
              refine lv_iload hx hb dX7_ask_34 (lv_at hl 5 rfl) ?_
              refine lv_iload_n hx hb dX7_ask_36 rfl (lv_at hl 1 rfl) ?_
              refine lv_iload hx hb dX7_ask_37 (lv_at hl 6 rfl) ?_
              refine lv_iconst (v := (1 : Int32)) hx hb dX7_ask_39 (by decide) ?_
              refine lv_isub hx hb dX7_ask_40 ?_
              replace hf := bs_ hf; obtain ⟨r4, hcl, hf⟩ := hf
              refine x_callS_i (As := [.int r1, .int (y3_6 - (1 : Int32))]) (rest := [.int y3_5]) ⟨hx, hb, hml, hown, hts⟩ (c_X7_has l N kd G ct r1 (y3_6 - (1 : Int32)) _ hcl) (va_cwS 2 hts gX7_ask_X7_has rfl rfl rfl (by decide +kernel) ⟨Nat.le_of_ble_eq_true rfl, Nat.le_of_ble_eq_true rfl⟩) hK hE hA hW rfl hl.1 rfl (lv_room (Nat.le_of_ble_eq_true rfl)) dX7_ask_41 (fun H locs hW => ?_)
              replace hf := bs_ hf; obtain ⟨j5, hg, hf⟩ := hf
              have J5 : ∀ (H : Heap) (locs : List Loc) (ls : Array Slot), WW G A s.heap (wX7 a ct g sg) H locs → lv_has ls 9 [(0, .ref (a 0)), (1, .int r1), (2, .int y2_2), (3, .int y2_3), (4, .int y2_4), (6, .int y3_6)] → W p l e ({ frames := 3, cells := 0, slots := 0, locals := 76 } : Room) s m (List.toArray [.ref (a 0)]) below meth c H locs 0 0 (MQ below (va_Qi (fun r (_ : Unit) => r = o) (fun _ t => Af_ G ct (wX7 a ct g sg) A t) A) (List.toArray [.ref (a 0)]) s 0 0 A) (F0 m 63 ls (.int j5 :: .int y3_5 :: [])) := by
                intro H locs ls hW hl
                refine lv_iadd hx hb dX7_ask_63 ?_
                refine lv_istore (lv' := [(5, .int (y3_5 + j5)), (0, .ref (a 0)), (1, .int r1), (2, .int y2_2), (3, .int y2_3), (4, .int y2_4), (6, .int y3_6)]) hx hb dX7_ask_64 hl (by decide) rfl (fun ls hl => ?_)
                refine lv_iinc (v := (y3_6 + (1 : Int32))) (lv' := [(6, .int (y3_6 + (1 : Int32))), (5, .int (y3_5 + j5)), (0, .ref (a 0)), (1, .int r1), (2, .int y2_2), (3, .int y2_3), (4, .int y2_4)]) hx hb dX7_ask_66 hl (k := 6) rfl rfl (by decide) rfl (fun ls hl => ?_)
                refine lv_goto (tgt := 27) hx hb dX7_ask_69 (by decide) ?_
                exact ih (y3_5 + j5) (y3_6 + (1 : Int32)) hf _ _ _ hW (lv_sub hl [2, 3, 4, 5, 6, 1, 0] rfl)
              clear hf
              refine lv_if_eq (tgt := 62) hx hb dX7_ask_44 (by decide) (fun hc => ?_) (fun hc => ?_)
              · have hf := ifp hc hg
                clear hg
                refine lv_iconst (v := (0 : Int32)) hx hb dX7_ask_62 (by decide) ?_
                have hj := Option.some.inj hf
                subst hj
                exact J5 _ _ _ hW (lv_sub hl [0, 1, 2, 3, 4, 6] rfl)
              · have hf := ifn hc hg
                clear hg
                refine lv_aload_n hx hb dX7_ask_47 rfl (lv_at hl 0 rfl) ?_
                refine lv_iload hx hb dX7_ask_48 (lv_at hl 4 rfl) ?_
                refine lv_iload hx hb dX7_ask_50 (lv_at hl 6 rfl) ?_
                replace hf := bs_ hf; obtain ⟨r6, hcl, hf⟩ := hf
                refine x_callW_i (w' := (wX7 a ct g sg)) (As := [.int y2_4, .int y3_6]) (rest := [.int y3_5]) (ci := 7) ⟨hx, hb, hml, hown, hts⟩ (c_X7_isFit l N kd G ct a g sg y2_4 y3_6 _ hcl) (cwV 2 hts gX7_ask_X7_isFit rfl rfl rfl (by decide +kernel) ⟨Nat.le_of_ble_eq_true rfl, Nat.le_of_ble_eq_true rfl⟩) hK hE hA hW rfl rfl 0 rfl rfl rfl rfl hl.1 rfl (lv_room (Nat.le_of_ble_eq_true rfl)) dX7_ask_52 (fun H locs hW => ?_)
                refine lv_if_eq (tgt := 62) hx hb dX7_ask_55 (by decide) (fun hc => ?_) (fun hc => ?_)
                · replace hf := ifp hc hf
                  refine lv_iconst (v := (0 : Int32)) hx hb dX7_ask_62 (by decide) ?_
                  have hj := Option.some.inj hf
                  subst hj
                  exact J5 _ _ _ hW (lv_sub hl [0, 1, 2, 3, 4, 6] rfl)
                · replace hf := ifn hc hf
                  refine lv_iconst (v := (1 : Int32)) hx hb dX7_ask_58 (by decide) ?_
                  refine lv_goto (tgt := 63) hx hb dX7_ask_59 (by decide) ?_
                  have hj := Option.some.inj hf
                  subst hj
                  exact J5 _ _ _ hW (lv_sub hl [0, 1, 2, 3, 4, 6] rfl)
        exact L3 N (0 : Int32) (1 : Int32) hg _ _ _ hW (lv_sub hl [2, 3, 4, 5, 6, 1, 0] rfl)
  exact L2 N (-1 : Int32) (0 : Int32) (0 : Int32) hg _ _ _ hW (lv_sub hl [4, 3, 2, 1, 0] rfl)
set_option maxHeartbeats 4000000 in
set_option maxRecDepth 100000 in
theorem c_X7_write (l : Launch) (N : Nat) (kd : (Nat → Nat) × (Nat → Nat)) (G : va_G) (ct : Nat → ClassId) (a : Nat → Nat) (g : St_) (sg : Int64) (x1 : Int32) (x2 : Int32) (o : (Int32 × St_)) (hf : f_X7_write N g x1 x2 = some o) : CtI l yX7_write wsX7_write ({ frames := 2, cells := 0, slots := 0, locals := 46 }) kd G ct [.ref (a 0), .int x1, .int x2] (wX7 a ct g sg) o.1 (wX7 a ct o.2 sg) := by
  intro sz
  refine Met.ofW (cc := cX7_write) (maxL := 3) (ret := (some .int)) (by decide) rfl ?_
  intro p e s m args below meth c s₁ B hml hv
  obtain ⟨rfl, hsz, hP, hK, hD0, hE⟩ := hv
  have hx := B.exec
  have hb := B.bytes
  have hr := B.returns
  have hts := atoms_spec (ws := wsX7_write) B.pre
  have hown : s.vm.findClass RX7 = some m.cls := findClass_of_methodNamed B.named
  have hlocks := B.notSynchronized
  have inX7 : ∀ w ∈ wsX70, w ∈ wsX7_write := by decide +kernel
  have fl81 := hts (.fieldLink RX7 81 "FittingStridesModel" "bookWho" "[I") (by decide +kernel)
  have fl84 := hts (.fieldLink RX7 84 "FittingStridesModel" "bookStair" "[I") (by decide +kernel)
  have fl115 := hts (.constant RX7 115 (-1000000004)) (by decide +kernel)
  have fl201 := hts (.fieldLink RX7 201 "FittingStridesModel" "booked" "I") (by decide +kernel)
  have fl221 := hts (.constant RX7 221 (-1000000001)) (by decide +kernel)
  subst hsz
  have hD := hD0.self (sz := s.heap.size)
  generalize hAe : va_A (wX7 a ct g sg) s.heap.size = A at hD hE ⊢
  have hA : ∀ q : Nat, s.heap.size ≤ q → A q := fun q h => by rw [← hAe]; exact Or.inr h
  have hW : WW G A s.heap (wX7 a ct g sg) s.heap [] := ⟨hP, hD, va_S.rf⟩
  have hl := lv_entry ([.ref (a 0), .int x1, .int x2]) (n := 3) (Nat.le_of_ble_eq_true rfl)
  rw [lg_entry_eq]
  generalize (lg_sl ([.ref (a 0), .int x1, .int x2]) ++ List.replicate (3 - (lg_sl ([.ref (a 0), .int x1, .int x2])).length) Slot.unset).toArray = ls at hl ⊢
  have hl : lv_has ls 3 [(0, .ref (a 0)), (1, .int x1), (2, .int x2)] := hl
  unfold f_X7_write at hf
  show W p l e ({ frames := 2, cells := 0, slots := 0, locals := 46 } : Room) s m (List.toArray [.ref (a 0), .int x1, .int x2]) below meth c s.heap [] 0 0 (MQ below (va_Qi (fun r (_ : Unit) => r = o.1) (fun _ t => Af_ G ct (wX7 a ct o.2 sg) A t) A) (List.toArray [.ref (a 0), .int x1, .int x2]) s 0 0 A) (F0 m 0 ls [])
  refine lv_aload_n hx hb dX7_write_0 rfl (lv_at hl 0 rfl) ?_
  refine lv_iload_n hx hb dX7_write_1 rfl (lv_at hl 1 rfl) ?_
  replace hf := bs_ hf; obtain ⟨r1, hcl, hf⟩ := hf
  refine x_callW_i (w' := (wX7 a ct g sg)) (As := [.int x1]) (rest := []) (ci := 7) ⟨hx, hb, hml, hown, hts⟩ (c_X7_isPerson l N kd G ct a g sg x1 _ hcl) (cwV 1 hts gX7_write_X7_isPerson rfl rfl rfl (by decide +kernel) ⟨Nat.le_of_ble_eq_true rfl, Nat.le_of_ble_eq_true rfl⟩) hK hE hA hW rfl rfl 0 rfl rfl rfl rfl hl.1 rfl (lv_room (Nat.le_of_ble_eq_true rfl)) dX7_write_2 (fun H locs hW => ?_)
  refine lv_if_eq (tgt := 16) hx hb dX7_write_5 (by decide) (fun hc => ?_) (fun hc => ?_)
  · replace hf := ifp hc hf
    refine lv_ldc (v := (-1000000001 : Int32)) hx hb hown fl221 dX7_write_16 ?_
    have ho := Option.some.inj hf
    subst ho
    exact x_reti (sz := 0) (w0 := []) (A1 := A) hx hb hr hlocks hK hW rfl rfl dX7_write_18
  · replace hf := ifn hc hf
    refine lv_aload_n hx hb dX7_write_8 rfl (lv_at hl 0 rfl) ?_
    refine lv_iload_n hx hb dX7_write_9 rfl (lv_at hl 2 rfl) ?_
    replace hf := bs_ hf; obtain ⟨r2, hcl, hf⟩ := hf
    refine x_callW_i (w' := (wX7 a ct g sg)) (As := [.int x2]) (rest := []) (ci := 7) ⟨hx, hb, hml, hown, hts⟩ (c_X7_isStair l N kd G ct a g sg x2 _ hcl) (cwV 1 hts gX7_write_X7_isStair rfl rfl rfl (by decide +kernel) ⟨Nat.le_of_ble_eq_true rfl, Nat.le_of_ble_eq_true rfl⟩) hK hE hA hW rfl rfl 0 rfl rfl rfl rfl hl.1 rfl (lv_room (Nat.le_of_ble_eq_true rfl)) dX7_write_10 (fun H locs hW => ?_)
    refine lv_if_ne (tgt := 19) hx hb dX7_write_13 (by decide) (fun hc => ?_) (fun hc => ?_)
    · replace hf := ifn hc hf
      refine lv_aload_n hx hb dX7_write_19 rfl (lv_at hl 0 rfl) ?_
      refine x_get (ci := 7) (v := .int (g 39 0)) (C := RX7) (T := TX7) (N := 44) hx hb hts inX7 hown hK hW 0 rfl rfl 38 (by decide) fl201 (fun _ h9 => h9) rfl dX7_write_20 ?_
      refine lv_bipush (v := (40 : Int32)) hx hb dX7_write_23 (by decide) ?_
      refine lv_icmp_ne (tgt := 31) hx hb dX7_write_25 (by decide) (fun hc => ?_) (fun hc => ?_)
      · replace hf := ifn hc hf
        refine lv_aload_n hx hb dX7_write_31 rfl (lv_at hl 0 rfl) ?_
        refine x_get (ci := 7) (v := .ref (a 40)) (C := RX7) (T := TX7) (N := 44) hx hb hts inX7 hown hK hW 0 rfl rfl 39 (by decide) fl81 (fun _ h9 => h9) rfl dX7_write_32 ?_
        refine lv_aload_n hx hb dX7_write_35 rfl (lv_at hl 0 rfl) ?_
        refine x_get (ci := 7) (v := .int (g 39 0)) (C := RX7) (T := TX7) (N := 44) hx hb hts inX7 hown hK hW 0 rfl rfl 38 (by decide) fl201 (fun _ h9 => h9) rfl dX7_write_36 ?_
        refine lv_iload_n hx hb dX7_write_39 rfl (lv_at hl 1 rfl) ?_
        replace hf := gd_s hf; obtain ⟨hin, hf⟩ := hf
        refine x_iast (w' := (wX7 a ct (up1 g 40 (g 39 0).toNatClampNeg x1) sg)) (n := 40) (f := g 40) hx hb hK hW 23 rfl (okI_in hin) (ws_X7_40 a ct g sg _ _) dX7_write_40 (fun H locs hW => ?_)
        refine lv_aload_n hx hb dX7_write_41 rfl (lv_at hl 0 rfl) ?_
        refine x_get (ci := 7) (v := .ref (a 41)) (C := RX7) (T := TX7) (N := 44) hx hb hts inX7 hown hK hW 0 rfl rfl 40 (by decide) fl84 (fun _ h9 => h9) rfl dX7_write_42 ?_
        refine lv_aload_n hx hb dX7_write_45 rfl (lv_at hl 0 rfl) ?_
        refine x_get (ci := 7) (v := .int (g 39 0)) (C := RX7) (T := TX7) (N := 44) hx hb hts inX7 hown hK hW 0 rfl rfl 38 (by decide) fl201 (fun _ h9 => h9) rfl dX7_write_46 ?_
        refine lv_iload_n hx hb dX7_write_49 rfl (lv_at hl 2 rfl) ?_
        replace hf := gd_s hf; obtain ⟨hin, hf⟩ := hf
        refine x_iast (w' := (wX7 a ct (up1 (up1 g 40 (g 39 0).toNatClampNeg x1) 41 (g 39 0).toNatClampNeg x2) sg)) (n := 40) (f := (up1 g 40 (g 39 0).toNatClampNeg x1) 41) hx hb hK hW 24 rfl (okI_in hin) (ws_X7_41 a ct (up1 g 40 (g 39 0).toNatClampNeg x1) sg _ _) dX7_write_50 (fun H locs hW => ?_)
        refine lv_aload_n hx hb dX7_write_51 rfl (lv_at hl 0 rfl) ?_
        refine lv_dup hx hb dX7_write_52 rfl ?_
        refine x_get (ci := 7) (v := .int (g 39 0)) (C := RX7) (T := TX7) (N := 44) hx hb hts inX7 hown hK hW 0 rfl rfl 38 (by decide) fl201 (fun _ h9 => h9) rfl dX7_write_53 ?_
        refine lv_iconst (v := (1 : Int32)) hx hb dX7_write_56 (by decide) ?_
        refine lv_iadd hx hb dX7_write_57 ?_
        refine x_put (w' := (wX7 a ct (up1 (up1 (up1 g 40 (g 39 0).toNatClampNeg x1) 41 (g 39 0).toNatClampNeg x2) 39 0 ((g 39 0) + (1 : Int32))) sg)) (fs := fsX7 a (up1 (up1 g 40 (g 39 0).toNatClampNeg x1) 41 (g 39 0).toNatClampNeg x2) sg) (ci := 7) (v := .int ((g 39 0) + (1 : Int32))) (ty := .int) (C := RX7) (T := TX7) (N := 44) hx hb hts inX7 tyX7 tyX7_ok nmX7 hown hK hW 0 rfl rfl 38 (by decide) fl201 (fun _ h9 => h9) rfl (by decide +kernel) rfl rfl (Nat.le_of_ble_eq_true rfl) (wp_X7_39 a ct (up1 (up1 g 40 (g 39 0).toNatClampNeg x1) 41 (g 39 0).toNatClampNeg x2) sg ((g 39 0) + (1 : Int32))) dX7_write_58 (fun H locs hW => ?_)
        refine lv_aload_n hx hb dX7_write_61 rfl (lv_at hl 0 rfl) ?_
        refine x_get (ci := 7) (v := .int ((g 39 0) + (1 : Int32))) (C := RX7) (T := TX7) (N := 44) hx hb hts inX7 hown hK hW 0 rfl rfl 38 (by decide) fl201 (fun _ h9 => h9) rfl dX7_write_62 ?_
        have ho := Option.some.inj hf
        subst ho
        exact x_reti (sz := 0) (w0 := []) (A1 := A) hx hb hr hlocks hK hW rfl rfl dX7_write_65
      · replace hf := ifp hc hf
        refine lv_ldc (v := (-1000000004 : Int32)) hx hb hown fl115 dX7_write_28 ?_
        have ho := Option.some.inj hf
        subst ho
        exact x_reti (sz := 0) (w0 := []) (A1 := A) hx hb hr hlocks hK hW rfl rfl dX7_write_30
    · replace hf := ifp hc hf
      refine lv_ldc (v := (-1000000001 : Int32)) hx hb hown fl221 dX7_write_16 ?_
      have ho := Option.some.inj hf
      subst ho
      exact x_reti (sz := 0) (w0 := []) (A1 := A) hx hb hr hlocks hK hW rfl rfl dX7_write_18
set_option maxHeartbeats 4000000 in
set_option maxRecDepth 100000 in
theorem c_X7_tear (l : Launch) (N : Nat) (kd : (Nat → Nat) × (Nat → Nat)) (G : va_G) (ct : Nat → ClassId) (a : Nat → Nat) (g : St_) (sg : Int64) (o : (Int32 × St_)) (hf : f_X7_tear N g = some o) : CtI l yX7_tear wsX7_tear ({ frames := 0, cells := 0, slots := 0, locals := 0 }) kd G ct [.ref (a 0)] (wX7 a ct g sg) o.1 (wX7 a ct o.2 sg) := by
  intro sz
  refine Met.ofW (cc := cX7_tear) (maxL := 2) (ret := (some .int)) (by decide) rfl ?_
  intro p e s m args below meth c s₁ B hml hv
  obtain ⟨rfl, hsz, hP, hK, hD0, hE⟩ := hv
  have hx := B.exec
  have hb := B.bytes
  have hr := B.returns
  have hts := atoms_spec (ws := wsX7_tear) B.pre
  have hown : s.vm.findClass RX7 = some m.cls := findClass_of_methodNamed B.named
  have hlocks := B.notSynchronized
  have inX7 : ∀ w ∈ wsX70, w ∈ wsX7_tear := by decide +kernel
  have fl198 := hts (.fieldLink RX7 198 "FittingStridesModel" "sights" "I") (by decide +kernel)
  have fl201 := hts (.fieldLink RX7 201 "FittingStridesModel" "booked" "I") (by decide +kernel)
  subst hsz
  have hD := hD0.self (sz := s.heap.size)
  generalize hAe : va_A (wX7 a ct g sg) s.heap.size = A at hD hE ⊢
  have hA : ∀ q : Nat, s.heap.size ≤ q → A q := fun q h => by rw [← hAe]; exact Or.inr h
  have hW : WW G A s.heap (wX7 a ct g sg) s.heap [] := ⟨hP, hD, va_S.rf⟩
  have hl := lv_entry ([.ref (a 0)]) (n := 2) (Nat.le_of_ble_eq_true rfl)
  rw [lg_entry_eq]
  generalize (lg_sl ([.ref (a 0)]) ++ List.replicate (2 - (lg_sl ([.ref (a 0)])).length) Slot.unset).toArray = ls at hl ⊢
  have hl : lv_has ls 2 [(0, .ref (a 0))] := hl
  unfold f_X7_tear at hf
  show W p l e ({ frames := 0, cells := 0, slots := 0, locals := 0 } : Room) s m (List.toArray [.ref (a 0)]) below meth c s.heap [] 0 0 (MQ below (va_Qi (fun r (_ : Unit) => r = o.1) (fun _ t => Af_ G ct (wX7 a ct o.2 sg) A t) A) (List.toArray [.ref (a 0)]) s 0 0 A) (F0 m 0 ls [])
  refine lv_aload_n hx hb dX7_tear_0 rfl (lv_at hl 0 rfl) ?_
  refine x_get (ci := 7) (v := .int (g 39 0)) (C := RX7) (T := TX7) (N := 44) hx hb hts inX7 hown hK hW 0 rfl rfl 38 (by decide) fl201 (fun _ h9 => h9) rfl dX7_tear_1 ?_
  refine lv_aload_n hx hb dX7_tear_4 rfl (lv_at hl 0 rfl) ?_
  refine x_get (ci := 7) (v := .int (g 35 0)) (C := RX7) (T := TX7) (N := 44) hx hb hts inX7 hown hK hW 0 rfl rfl 34 (by decide) fl198 (fun _ h9 => h9) rfl dX7_tear_5 ?_
  refine lv_iadd hx hb dX7_tear_8 ?_
  refine lv_istore_n (lv' := [(1, .int ((g 39 0) + (g 35 0))), (0, .ref (a 0))]) hx hb dX7_tear_9 rfl hl (by decide) rfl (fun ls hl => ?_)
  refine lv_aload_n hx hb dX7_tear_10 rfl (lv_at hl 1 rfl) ?_
  refine lv_iconst (v := (0 : Int32)) hx hb dX7_tear_11 (by decide) ?_
  refine x_put (w' := (wX7 a ct (up1 g 39 0 (0 : Int32)) sg)) (fs := fsX7 a g sg) (ci := 7) (v := .int (0 : Int32)) (ty := .int) (C := RX7) (T := TX7) (N := 44) hx hb hts inX7 tyX7 tyX7_ok nmX7 hown hK hW 0 rfl rfl 38 (by decide) fl201 (fun _ h9 => h9) rfl (by decide +kernel) rfl rfl (Nat.le_of_ble_eq_true rfl) (wp_X7_39 a ct g sg (0 : Int32)) dX7_tear_12 (fun H locs hW => ?_)
  refine lv_aload_n hx hb dX7_tear_15 rfl (lv_at hl 1 rfl) ?_
  refine lv_iconst (v := (0 : Int32)) hx hb dX7_tear_16 (by decide) ?_
  refine x_put (w' := (wX7 a ct (up1 (up1 g 39 0 (0 : Int32)) 35 0 (0 : Int32)) sg)) (fs := fsX7 a (up1 g 39 0 (0 : Int32)) sg) (ci := 7) (v := .int (0 : Int32)) (ty := .int) (C := RX7) (T := TX7) (N := 44) hx hb hts inX7 tyX7 tyX7_ok nmX7 hown hK hW 0 rfl rfl 34 (by decide) fl198 (fun _ h9 => h9) rfl (by decide +kernel) rfl rfl (Nat.le_of_ble_eq_true rfl) (wp_X7_35 a ct (up1 g 39 0 (0 : Int32)) sg (0 : Int32)) dX7_tear_17 (fun H locs hW => ?_)
  refine lv_iload_n hx hb dX7_tear_20 rfl (lv_at hl 0 rfl) ?_
  have ho := Option.some.inj hf
  subst ho
  exact x_reti (sz := 0) (w0 := []) (A1 := A) hx hb hr hlocks hK hW rfl rfl dX7_tear_21
set_option maxHeartbeats 4000000 in
set_option maxRecDepth 100000 in
theorem c_X7_judge (l : Launch) (N : Nat) (kd : (Nat → Nat) × (Nat → Nat)) (G : va_G) (ct : Nat → ClassId) (a : Nat → Nat) (g : St_) (sg : Int64) (o : (Int32 × St_)) (hf : f_X7_judge N g = some o) : CtI l yX7_judge wsX7_judge ({ frames := 3, cells := 0, slots := 0, locals := 69 }) kd G ct [.ref (a 0)] (wX7 a ct g sg) o.1 (wX7 a ct o.2 sg) := by
  intro sz
  refine Met.ofW (cc := cX7_judge) (maxL := 5) (ret := (some .int)) (by decide) rfl ?_
  intro p e s m args below meth c s₁ B hml hv
  obtain ⟨rfl, hsz, hP, hK, hD0, hE⟩ := hv
  have hx := B.exec
  have hb := B.bytes
  have hr := B.returns
  have hts := atoms_spec (ws := wsX7_judge) B.pre
  have hown : s.vm.findClass RX7 = some m.cls := findClass_of_methodNamed B.named
  have hlocks := B.notSynchronized
  have inX7 : ∀ w ∈ wsX70, w ∈ wsX7_judge := by decide +kernel
  have fl13 := hts (.fieldLink RX7 13 "FittingStridesModel" "low" "[I") (by decide +kernel)
  have fl16 := hts (.fieldLink RX7 16 "FittingStridesModel" "high" "[I") (by decide +kernel)
  have fl28 := hts (.fieldLink RX7 28 "FittingStridesModel" "at" "[I") (by decide +kernel)
  have fl81 := hts (.fieldLink RX7 81 "FittingStridesModel" "bookWho" "[I") (by decide +kernel)
  have fl84 := hts (.fieldLink RX7 84 "FittingStridesModel" "bookStair" "[I") (by decide +kernel)
  have fl87 := hts (.fieldLink RX7 87 "FittingStridesModel" "wasAt" "[I") (by decide +kernel)
  have fl106 := hts (.fieldLink RX7 106 "FittingStridesModel" "persons" "I") (by decide +kernel)
  have fl201 := hts (.fieldLink RX7 201 "FittingStridesModel" "booked" "I") (by decide +kernel)
  subst hsz
  have hD := hD0.self (sz := s.heap.size)
  generalize hAe : va_A (wX7 a ct g sg) s.heap.size = A at hD hE ⊢
  have hA : ∀ q : Nat, s.heap.size ≤ q → A q := fun q h => by rw [← hAe]; exact Or.inr h
  have hW : WW G A s.heap (wX7 a ct g sg) s.heap [] := ⟨hP, hD, va_S.rf⟩
  have hl := lv_entry ([.ref (a 0)]) (n := 5) (Nat.le_of_ble_eq_true rfl)
  rw [lg_entry_eq]
  generalize (lg_sl ([.ref (a 0)]) ++ List.replicate (5 - (lg_sl ([.ref (a 0)])).length) Slot.unset).toArray = ls at hl ⊢
  have hl : lv_has ls 5 [(0, .ref (a 0))] := hl
  unfold f_X7_judge at hf
  show W p l e ({ frames := 3, cells := 0, slots := 0, locals := 69 } : Room) s m (List.toArray [.ref (a 0)]) below meth c s.heap [] 0 0 (MQ below (va_Qi (fun r (_ : Unit) => r = o.1) (fun _ t => Af_ G ct (wX7 a ct o.2 sg) A t) A) (List.toArray [.ref (a 0)]) s 0 0 A) (F0 m 0 ls [])
  refine lv_iconst (v := (0 : Int32)) hx hb dX7_judge_0 (by decide) ?_
  refine lv_istore_n (lv' := [(1, .int (0 : Int32)), (0, .ref (a 0))]) hx hb dX7_judge_1 rfl hl (by decide) rfl (fun ls hl => ?_)
  replace hf := bs_ hf; obtain ⟨v1, hg, hf⟩ := hf
  have J1 : ∀ (H : Heap) (locs : List Loc) (ls : Array Slot), WW G A s.heap (wX7 a ct v1 sg) H locs → lv_has ls 5 [(0, .ref (a 0))] → W p l e ({ frames := 3, cells := 0, slots := 0, locals := 69 } : Room) s m (List.toArray [.ref (a 0)]) below meth c H locs 0 0 (MQ below (va_Qi (fun r (_ : Unit) => r = o.1) (fun _ t => Af_ G ct (wX7 a ct o.2 sg) A t) A) (List.toArray [.ref (a 0)]) s 0 0 A) (F0 m 26 ls []) := by
    intro H locs ls hW hl
    refine lv_iconst (v := (-1 : Int32)) hx hb dX7_judge_26 (by decide) ?_
    refine lv_istore_n (lv' := [(1, .int (-1 : Int32)), (0, .ref (a 0))]) hx hb dX7_judge_27 rfl hl (by decide) rfl (fun ls hl => ?_)
    refine lv_iconst (v := (0 : Int32)) hx hb dX7_judge_28 (by decide) ?_
    refine lv_istore_n (lv' := [(2, .int (0 : Int32)), (1, .int (-1 : Int32)), (0, .ref (a 0))]) hx hb dX7_judge_29 rfl hl (by decide) rfl (fun ls hl => ?_)
    replace hf := bs_ hf; obtain ⟨v2, hg, hf⟩ := hf
    have J2 : ∀ (H : Heap) (locs : List Loc) (ls : Array Slot), WW G A s.heap (wX7 a ct v2.2 sg) H locs → lv_has ls 5 [(0, .ref (a 0)), (1, .int v2.1)] → W p l e ({ frames := 3, cells := 0, slots := 0, locals := 69 } : Room) s m (List.toArray [.ref (a 0)]) below meth c H locs 0 0 (MQ below (va_Qi (fun r (_ : Unit) => r = o.1) (fun _ t => Af_ G ct (wX7 a ct o.2 sg) A t) A) (List.toArray [.ref (a 0)]) s 0 0 A) (F0 m 125 ls []) := by
      intro H locs ls hW hl
      refine lv_iconst (v := (0 : Int32)) hx hb dX7_judge_125 (by decide) ?_
      refine lv_istore_n (lv' := [(2, .int (0 : Int32)), (0, .ref (a 0)), (1, .int v2.1)]) hx hb dX7_judge_126 rfl hl (by decide) rfl (fun ls hl => ?_)
      replace hf := bs_ hf; obtain ⟨v6, hg, hf⟩ := hf
      have J6 : ∀ (H : Heap) (locs : List Loc) (ls : Array Slot), WW G A s.heap (wX7 a ct v6 sg) H locs → lv_has ls 5 [(1, .int v2.1)] → W p l e ({ frames := 3, cells := 0, slots := 0, locals := 69 } : Room) s m (List.toArray [.ref (a 0)]) below meth c H locs 0 0 (MQ below (va_Qi (fun r (_ : Unit) => r = o.1) (fun _ t => Af_ G ct (wX7 a ct o.2 sg) A t) A) (List.toArray [.ref (a 0)]) s 0 0 A) (F0 m 151 ls []) := by
        intro H locs ls hW hl
        refine lv_iload_n hx hb dX7_judge_151 rfl (lv_at hl 0 rfl) ?_
        have ho := Option.some.inj hf
        subst ho
        exact x_reti (sz := 0) (w0 := []) (A1 := A) hx hb hr hlocks hK hW rfl rfl dX7_judge_152
      clear hf
      have L6 : ∀ (n : Nat) (y6_2 : Int32) (g6 : St_), f_X7_judge_L127 N n y6_2 g6 = some v6 → ∀ (H : Heap) (locs : List Loc) (ls : Array Slot), WW G A s.heap (wX7 a ct g6 sg) H locs → lv_has ls 5 [(0, .ref (a 0)), (1, .int v2.1), (2, .int y6_2)] → W p l e ({ frames := 3, cells := 0, slots := 0, locals := 69 } : Room) s m (List.toArray [.ref (a 0)]) below meth c H locs 0 0 (MQ below (va_Qi (fun r (_ : Unit) => r = o.1) (fun _ t => Af_ G ct (wX7 a ct o.2 sg) A t) A) (List.toArray [.ref (a 0)]) s 0 0 A) (F0 m 127 ls []) := by
        intro n
        induction n with
        | zero =>
          intro y6_2 g6 hf
          rw [f_X7_judge_L127] at hf
          cases hf
        | succ n ih =>
          intro y6_2 g6 hf H locs ls hW hl
          rw [f_X7_judge_L127] at hf
          refine lv_iload_n hx hb dX7_judge_127 rfl (lv_at hl 2 rfl) ?_
          refine lv_bipush (v := (8 : Int32)) hx hb dX7_judge_128 (by decide) ?_
          refine lv_icmp_ge (tgt := 151) hx hb dX7_judge_130 (by decide) (fun hc => ?_) (fun hc => ?_)
          · replace hf := ifp hc hf
            have hj := Option.some.inj hf
            subst hj
            exact J6 _ _ _ hW (lv_sub hl [1] rfl)
          · replace hf := ifn hc hf
            refine lv_aload_n hx hb dX7_judge_133 rfl (lv_at hl 0 rfl) ?_
            refine x_get (ci := 7) (v := .ref (a 10)) (C := RX7) (T := TX7) (N := 44) hx hb hts inX7 hown hK hW 0 rfl rfl 9 (by decide) fl28 (fun _ h9 => h9) rfl dX7_judge_134 ?_
            refine lv_iload_n hx hb dX7_judge_137 rfl (lv_at hl 2 rfl) ?_
            refine lv_aload_n hx hb dX7_judge_138 rfl (lv_at hl 0 rfl) ?_
            refine x_get (ci := 7) (v := .ref (a 42)) (C := RX7) (T := TX7) (N := 44) hx hb hts inX7 hown hK hW 0 rfl rfl 41 (by decide) fl87 (fun _ h9 => h9) rfl dX7_judge_139 ?_
            refine lv_iload_n hx hb dX7_judge_142 rfl (lv_at hl 2 rfl) ?_
            replace hf := gd_s hf; obtain ⟨hin, hf⟩ := hf
            refine x_iald (n := 8) (f := g6 42) hx hb hK hW 25 rfl (okI_in hin) dX7_judge_143 ?_
            replace hf := gd_s hf; obtain ⟨hin, hf⟩ := hf
            refine x_iast (w' := (wX7 a ct (up1 g6 10 y6_2.toNatClampNeg (g6 42 y6_2.toNatClampNeg)) sg)) (n := 8) (f := g6 10) hx hb hK hW 7 rfl (okI_in hin) (ws_X7_10 a ct g6 sg _ _) dX7_judge_144 (fun H locs hW => ?_)
            refine lv_iinc (v := (y6_2 + (1 : Int32))) (lv' := [(2, .int (y6_2 + (1 : Int32))), (0, .ref (a 0)), (1, .int v2.1)]) hx hb dX7_judge_145 hl (k := 2) rfl rfl (by decide) rfl (fun ls hl => ?_)
            refine lv_goto (tgt := 127) hx hb dX7_judge_148 (by decide) ?_
            exact ih (y6_2 + (1 : Int32)) (up1 g6 10 y6_2.toNatClampNeg (g6 42 y6_2.toNatClampNeg)) hf _ _ _ hW (lv_sub hl [1, 2, 0] rfl)
      exact L6 N (0 : Int32) v2.2 hg _ _ _ hW (lv_sub hl [1, 2, 0] rfl)
    clear hf
    have L2 : ∀ (n : Nat) (y2_1 : Int32) (y2_2 : Int32) (g2 : St_), f_X7_judge_L30 N n y2_1 y2_2 g2 = some v2 → ∀ (H : Heap) (locs : List Loc) (ls : Array Slot), WW G A s.heap (wX7 a ct g2 sg) H locs → lv_has ls 5 [(0, .ref (a 0)), (1, .int y2_1), (2, .int y2_2)] → W p l e ({ frames := 3, cells := 0, slots := 0, locals := 69 } : Room) s m (List.toArray [.ref (a 0)]) below meth c H locs 0 0 (MQ below (va_Qi (fun r (_ : Unit) => r = o.1) (fun _ t => Af_ G ct (wX7 a ct o.2 sg) A t) A) (List.toArray [.ref (a 0)]) s 0 0 A) (F0 m 30 ls []) := by
      intro n
      induction n with
      | zero =>
        intro y2_1 y2_2 g2 hf
        rw [f_X7_judge_L30] at hf
        cases hf
      | succ n ih =>
        intro y2_1 y2_2 g2 hf H locs ls hW hl
        rw [f_X7_judge_L30] at hf
        refine lv_iload_n hx hb dX7_judge_30 rfl (lv_at hl 2 rfl) ?_
        refine lv_aload_n hx hb dX7_judge_31 rfl (lv_at hl 0 rfl) ?_
        refine x_get (ci := 7) (v := .int (g2 39 0)) (C := RX7) (T := TX7) (N := 44) hx hb hts inX7 hown hK hW 0 rfl rfl 38 (by decide) fl201 (fun _ h9 => h9) rfl dX7_judge_32 ?_
        refine lv_icmp_ge (tgt := 125) hx hb dX7_judge_35 (by decide) (fun hc => ?_) (fun hc => ?_)
        · replace hf := ifp hc hf
          have hj := Option.some.inj hf
          subst hj
          exact J2 _ _ _ hW (lv_sub hl [0, 1] rfl)
        · replace hf := ifn hc hf
          refine lv_iload_n hx hb dX7_judge_38 rfl (lv_at hl 1 rfl) ?_
          refine lv_if_ge (tgt := 125) hx hb dX7_judge_39 (by decide) (fun hc => ?_) (fun hc => ?_)
          · replace hf := ifp hc hf
            have hj := Option.some.inj hf
            subst hj
            exact J2 _ _ _ hW (lv_sub hl [0, 1] rfl)
          · replace hf := ifn hc hf
            refine lv_aload_n hx hb dX7_judge_42 rfl (lv_at hl 0 rfl) ?_
            refine x_get (ci := 7) (v := .ref (a 40)) (C := RX7) (T := TX7) (N := 44) hx hb hts inX7 hown hK hW 0 rfl rfl 39 (by decide) fl81 (fun _ h9 => h9) rfl dX7_judge_43 ?_
            refine lv_iload_n hx hb dX7_judge_46 rfl (lv_at hl 2 rfl) ?_
            replace hf := gd_s hf; obtain ⟨hin, hf⟩ := hf
            refine x_iald (n := 40) (f := g2 40) hx hb hK hW 23 rfl (okI_in hin) dX7_judge_47 ?_
            refine lv_istore_n (lv' := [(3, .int (g2 40 y2_2.toNatClampNeg)), (0, .ref (a 0)), (1, .int y2_1), (2, .int y2_2)]) hx hb dX7_judge_48 rfl hl (by decide) rfl (fun ls hl => ?_)
            refine lv_aload_n hx hb dX7_judge_49 rfl (lv_at hl 1 rfl) ?_
            refine x_get (ci := 7) (v := .ref (a 41)) (C := RX7) (T := TX7) (N := 44) hx hb hts inX7 hown hK hW 0 rfl rfl 40 (by decide) fl84 (fun _ h9 => h9) rfl dX7_judge_50 ?_
            refine lv_iload_n hx hb dX7_judge_53 rfl (lv_at hl 3 rfl) ?_
            replace hf := gd_s hf; obtain ⟨hin, hf⟩ := hf
            refine x_iald (n := 40) (f := g2 41) hx hb hK hW 24 rfl (okI_in hin) dX7_judge_54 ?_
            refine lv_istore (lv' := [(4, .int (g2 41 y2_2.toNatClampNeg)), (3, .int (g2 40 y2_2.toNatClampNeg)), (0, .ref (a 0)), (1, .int y2_1), (2, .int y2_2)]) hx hb dX7_judge_55 hl (by decide) rfl (fun ls hl => ?_)
            refine lv_iload_n hx hb dX7_judge_57 rfl (lv_at hl 1 rfl) ?_
            refine lv_aload_n hx hb dX7_judge_58 rfl (lv_at hl 2 rfl) ?_
            refine x_get (ci := 7) (v := .int (g2 9 0)) (C := RX7) (T := TX7) (N := 44) hx hb hts inX7 hown hK hW 0 rfl rfl 8 (by decide) fl106 (fun _ h9 => h9) rfl dX7_judge_59 ?_
            replace hf := bs_ hf; obtain ⟨j3, hg, hf⟩ := hf
            have J3 : ∀ (H : Heap) (locs : List Loc) (ls : Array Slot), WW G A s.heap (wX7 a ct j3.2 sg) H locs → lv_has ls 5 [(0, .ref (a 0)), (1, .int j3.1), (2, .int y2_2)] → W p l e ({ frames := 3, cells := 0, slots := 0, locals := 69 } : Room) s m (List.toArray [.ref (a 0)]) below meth c H locs 0 0 (MQ below (va_Qi (fun r (_ : Unit) => r = o.1) (fun _ t => Af_ G ct (wX7 a ct o.2 sg) A t) A) (List.toArray [.ref (a 0)]) s 0 0 A) (F0 m 119 ls ([])) := by
              intro H locs ls hW hl
              refine lv_iinc (v := (y2_2 + (1 : Int32))) (lv' := [(2, .int (y2_2 + (1 : Int32))), (0, .ref (a 0)), (1, .int j3.1)]) hx hb dX7_judge_119 hl (k := 2) rfl rfl (by decide) rfl (fun ls hl => ?_)
              refine lv_goto (tgt := 30) hx hb dX7_judge_122 (by decide) ?_
              exact ih j3.1 (y2_2 + (1 : Int32)) j3.2 hf _ _ _ hW (lv_sub hl [1, 2, 0] rfl)
            clear hf
            refine lv_icmp_ge (tgt := 117) hx hb dX7_judge_62 (by decide) (fun hc => ?_) (fun hc => ?_)
            · have hf := ifp hc hg
              clear hg
              refine lv_iload_n hx hb dX7_judge_117 rfl (lv_at hl 4 rfl) ?_
              refine lv_istore_n (lv' := [(1, .int y2_2), (4, .int (g2 41 y2_2.toNatClampNeg)), (3, .int (g2 40 y2_2.toNatClampNeg)), (0, .ref (a 0)), (2, .int y2_2)]) hx hb dX7_judge_118 rfl hl (by decide) rfl (fun ls hl => ?_)
              have hj := Option.some.inj hf
              subst hj
              exact J3 _ _ _ hW (lv_sub hl [3, 0, 4] rfl)
            · have hf := ifn hc hg
              clear hg
              refine lv_aload_n hx hb dX7_judge_65 rfl (lv_at hl 2 rfl) ?_
              refine lv_iload_n hx hb dX7_judge_66 rfl (lv_at hl 1 rfl) ?_
              refine lv_iload hx hb dX7_judge_67 (lv_at hl 0 rfl) ?_
              replace hf := bs_ hf; obtain ⟨r4, hcl, hf⟩ := hf
              refine x_callW_i (w' := (wX7 a ct g2 sg)) (As := [.int (g2 40 y2_2.toNatClampNeg), .int (g2 41 y2_2.toNatClampNeg)]) (rest := []) (ci := 7) ⟨hx, hb, hml, hown, hts⟩ (c_X7_canGo l N kd G ct a g2 sg (g2 40 y2_2.toNatClampNeg) (g2 41 y2_2.toNatClampNeg) _ hcl) (cwV 2 hts gX7_judge_X7_canGo rfl rfl rfl (by decide +kernel) ⟨Nat.le_of_ble_eq_true rfl, Nat.le_of_ble_eq_true rfl⟩) hK hE hA hW rfl rfl 0 rfl rfl rfl rfl hl.1 rfl (lv_room (Nat.le_of_ble_eq_true rfl)) dX7_judge_69 (fun H locs hW => ?_)
              refine lv_if_eq (tgt := 117) hx hb dX7_judge_72 (by decide) (fun hc => ?_) (fun hc => ?_)
              · replace hf := ifp hc hf
                refine lv_iload_n hx hb dX7_judge_117 rfl (lv_at hl 4 rfl) ?_
                refine lv_istore_n (lv' := [(1, .int y2_2), (4, .int (g2 41 y2_2.toNatClampNeg)), (3, .int (g2 40 y2_2.toNatClampNeg)), (0, .ref (a 0)), (2, .int y2_2)]) hx hb dX7_judge_118 rfl hl (by decide) rfl (fun ls hl => ?_)
                have hj := Option.some.inj hf
                subst hj
                exact J3 _ _ _ hW (lv_sub hl [3, 0, 4] rfl)
              · replace hf := ifn hc hf
                refine lv_aload_n hx hb dX7_judge_75 rfl (lv_at hl 2 rfl) ?_
                refine x_get (ci := 7) (v := .ref (a 10)) (C := RX7) (T := TX7) (N := 44) hx hb hts inX7 hown hK hW 0 rfl rfl 9 (by decide) fl28 (fun _ h9 => h9) rfl dX7_judge_76 ?_
                refine lv_iload_n hx hb dX7_judge_79 rfl (lv_at hl 1 rfl) ?_
                refine lv_aload_n hx hb dX7_judge_80 rfl (lv_at hl 2 rfl) ?_
                refine x_get (ci := 7) (v := .ref (a 10)) (C := RX7) (T := TX7) (N := 44) hx hb hts inX7 hown hK hW 0 rfl rfl 9 (by decide) fl28 (fun _ h9 => h9) rfl dX7_judge_81 ?_
                refine lv_iload_n hx hb dX7_judge_84 rfl (lv_at hl 1 rfl) ?_
                replace hf := gd_s hf; obtain ⟨hin, hf⟩ := hf
                refine x_iald (n := 8) (f := g2 10) hx hb hK hW 7 rfl (okI_in hin) dX7_judge_85 ?_
                refine lv_aload_n hx hb dX7_judge_86 rfl (lv_at hl 2 rfl) ?_
                refine x_get (ci := 7) (v := .ref (a 4)) (C := RX7) (T := TX7) (N := 44) hx hb hts inX7 hown hK hW 0 rfl rfl 3 (by decide) fl13 (fun _ h9 => h9) rfl dX7_judge_87 ?_
                refine lv_iload hx hb dX7_judge_90 (lv_at hl 0 rfl) ?_
                replace hf := gd_s hf; obtain ⟨hin, hf⟩ := hf
                refine x_iald (n := 10) (f := g2 4) hx hb hK hW 2 rfl (okI_in hin) dX7_judge_92 ?_
                replace hf := bs_ hf; obtain ⟨j5, hg, hf⟩ := hf
                have J5 : ∀ (H : Heap) (locs : List Loc) (ls : Array Slot), WW G A s.heap (wX7 a ct g2 sg) H locs → lv_has ls 5 [(0, .ref (a 0)), (1, .int y2_1), (2, .int y2_2)] → W p l e ({ frames := 3, cells := 0, slots := 0, locals := 69 } : Room) s m (List.toArray [.ref (a 0)]) below meth c H locs 0 0 (MQ below (va_Qi (fun r (_ : Unit) => r = o.1) (fun _ t => Af_ G ct (wX7 a ct o.2 sg) A t) A) (List.toArray [.ref (a 0)]) s 0 0 A) (F0 m 113 ls (.int j5 :: .int (g2 40 y2_2.toNatClampNeg) :: .ref (a 10) :: [])) := by
                  intro H locs ls hW hl
                  replace hf := gd_s hf; obtain ⟨hin, hf⟩ := hf
                  refine x_iast (w' := (wX7 a ct (up1 g2 10 (g2 40 y2_2.toNatClampNeg).toNatClampNeg j5) sg)) (n := 8) (f := g2 10) hx hb hK hW 7 rfl (okI_in hin) (ws_X7_10 a ct g2 sg _ _) dX7_judge_113 (fun H locs hW => ?_)
                  refine lv_goto (tgt := 119) hx hb dX7_judge_114 (by decide) ?_
                  have hj := Option.some.inj hf
                  subst hj
                  exact J3 _ _ _ hW (lv_sub hl [0, 1, 2] rfl)
                clear hf
                refine lv_icmp_ne (tgt := 106) hx hb dX7_judge_93 (by decide) (fun hc => ?_) (fun hc => ?_)
                · have hf := ifn hc hg
                  clear hg
                  refine lv_aload_n hx hb dX7_judge_106 rfl (lv_at hl 2 rfl) ?_
                  refine x_get (ci := 7) (v := .ref (a 4)) (C := RX7) (T := TX7) (N := 44) hx hb hts inX7 hown hK hW 0 rfl rfl 3 (by decide) fl13 (fun _ h9 => h9) rfl dX7_judge_107 ?_
                  refine lv_iload hx hb dX7_judge_110 (lv_at hl 0 rfl) ?_
                  replace hf := gd_s hf; obtain ⟨hin, hf⟩ := hf
                  refine x_iald (n := 10) (f := g2 4) hx hb hK hW 2 rfl (okI_in hin) dX7_judge_112 ?_
                  have hj := Option.some.inj hf
                  subst hj
                  exact J5 _ _ _ hW (lv_sub hl [2, 3, 4] rfl)
                · have hf := ifp hc hg
                  clear hg
                  refine lv_aload_n hx hb dX7_judge_96 rfl (lv_at hl 2 rfl) ?_
                  refine x_get (ci := 7) (v := .ref (a 5)) (C := RX7) (T := TX7) (N := 44) hx hb hts inX7 hown hK hW 0 rfl rfl 4 (by decide) fl16 (fun _ h9 => h9) rfl dX7_judge_97 ?_
                  refine lv_iload hx hb dX7_judge_100 (lv_at hl 0 rfl) ?_
                  replace hf := gd_s hf; obtain ⟨hin, hf⟩ := hf
                  refine x_iald (n := 10) (f := g2 5) hx hb hK hW 3 rfl (okI_in hin) dX7_judge_102 ?_
                  refine lv_goto (tgt := 113) hx hb dX7_judge_103 (by decide) ?_
                  have hj := Option.some.inj hf
                  subst hj
                  exact J5 _ _ _ hW (lv_sub hl [2, 3, 4] rfl)
    exact L2 N (-1 : Int32) (0 : Int32) v1 hg _ _ _ hW (lv_sub hl [2, 1, 0] rfl)
  clear hf
  have L1 : ∀ (n : Nat) (y1_1 : Int32) (g1 : St_), f_X7_judge_L2 N n y1_1 g1 = some v1 → ∀ (H : Heap) (locs : List Loc) (ls : Array Slot), WW G A s.heap (wX7 a ct g1 sg) H locs → lv_has ls 5 [(0, .ref (a 0)), (1, .int y1_1)] → W p l e ({ frames := 3, cells := 0, slots := 0, locals := 69 } : Room) s m (List.toArray [.ref (a 0)]) below meth c H locs 0 0 (MQ below (va_Qi (fun r (_ : Unit) => r = o.1) (fun _ t => Af_ G ct (wX7 a ct o.2 sg) A t) A) (List.toArray [.ref (a 0)]) s 0 0 A) (F0 m 2 ls []) := by
    intro n
    induction n with
    | zero =>
      intro y1_1 g1 hf
      rw [f_X7_judge_L2] at hf
      cases hf
    | succ n ih =>
      intro y1_1 g1 hf H locs ls hW hl
      rw [f_X7_judge_L2] at hf
      refine lv_iload_n hx hb dX7_judge_2 rfl (lv_at hl 1 rfl) ?_
      refine lv_bipush (v := (8 : Int32)) hx hb dX7_judge_3 (by decide) ?_
      refine lv_icmp_ge (tgt := 26) hx hb dX7_judge_5 (by decide) (fun hc => ?_) (fun hc => ?_)
      · replace hf := ifp hc hf
        have hj := Option.some.inj hf
        subst hj
        exact J1 _ _ _ hW (lv_sub hl [0] rfl)
      · replace hf := ifn hc hf
        refine lv_aload_n hx hb dX7_judge_8 rfl (lv_at hl 0 rfl) ?_
        refine x_get (ci := 7) (v := .ref (a 42)) (C := RX7) (T := TX7) (N := 44) hx hb hts inX7 hown hK hW 0 rfl rfl 41 (by decide) fl87 (fun _ h9 => h9) rfl dX7_judge_9 ?_
        refine lv_iload_n hx hb dX7_judge_12 rfl (lv_at hl 1 rfl) ?_
        refine lv_aload_n hx hb dX7_judge_13 rfl (lv_at hl 0 rfl) ?_
        refine x_get (ci := 7) (v := .ref (a 10)) (C := RX7) (T := TX7) (N := 44) hx hb hts inX7 hown hK hW 0 rfl rfl 9 (by decide) fl28 (fun _ h9 => h9) rfl dX7_judge_14 ?_
        refine lv_iload_n hx hb dX7_judge_17 rfl (lv_at hl 1 rfl) ?_
        replace hf := gd_s hf; obtain ⟨hin, hf⟩ := hf
        refine x_iald (n := 8) (f := g1 10) hx hb hK hW 7 rfl (okI_in hin) dX7_judge_18 ?_
        replace hf := gd_s hf; obtain ⟨hin, hf⟩ := hf
        refine x_iast (w' := (wX7 a ct (up1 g1 42 y1_1.toNatClampNeg (g1 10 y1_1.toNatClampNeg)) sg)) (n := 8) (f := g1 42) hx hb hK hW 25 rfl (okI_in hin) (ws_X7_42 a ct g1 sg _ _) dX7_judge_19 (fun H locs hW => ?_)
        refine lv_iinc (v := (y1_1 + (1 : Int32))) (lv' := [(1, .int (y1_1 + (1 : Int32))), (0, .ref (a 0))]) hx hb dX7_judge_20 hl (k := 1) rfl rfl (by decide) rfl (fun ls hl => ?_)
        refine lv_goto (tgt := 2) hx hb dX7_judge_23 (by decide) ?_
        exact ih (y1_1 + (1 : Int32)) (up1 g1 42 y1_1.toNatClampNeg (g1 10 y1_1.toNatClampNeg)) hf _ _ _ hW (lv_sub hl [1, 0] rfl)
  exact L1 N (0 : Int32) g hg _ _ _ hW (lv_sub hl [1, 0] rfl)
set_option maxHeartbeats 4000000 in
set_option maxRecDepth 100000 in
theorem c_X7_seed (l : Launch) (N : Nat) (kd : (Nat → Nat) × (Nat → Nat)) (G : va_G) (ct : Nat → ClassId) (a : Nat → Nat) (g : St_) (sg : Int64) (x1 : Int32) (o : (Int32 × St_)) (hf : f_X7_seed N g x1 = some o) : CtI l yX7_seed wsX7_seed ({ frames := 0, cells := 0, slots := 0, locals := 0 }) kd G ct [.ref (a 0), .int x1] (wX7 a ct g sg) o.1 (wX7 a ct o.2 sg) := by
  intro sz
  refine Met.ofW (cc := cX7_seed) (maxL := 3) (ret := (some .int)) (by decide) rfl ?_
  intro p e s m args below meth c s₁ B hml hv
  obtain ⟨rfl, hsz, hP, hK, hD0, hE⟩ := hv
  have hx := B.exec
  have hb := B.bytes
  have hr := B.returns
  have hts := atoms_spec (ws := wsX7_seed) B.pre
  have hown : s.vm.findClass RX7 = some m.cls := findClass_of_methodNamed B.named
  have hlocks := B.notSynchronized
  have inX7 : ∀ w ∈ wsX70, w ∈ wsX7_seed := by decide +kernel
  have fl111 := hts (.constant RX7 111 (-1000000002)) (by decide +kernel)
  have fl250 := hts (.fieldLink RX7 250 "FittingStridesModel" "seed" "I") (by decide +kernel)
  subst hsz
  have hD := hD0.self (sz := s.heap.size)
  generalize hAe : va_A (wX7 a ct g sg) s.heap.size = A at hD hE ⊢
  have hA : ∀ q : Nat, s.heap.size ≤ q → A q := fun q h => by rw [← hAe]; exact Or.inr h
  have hW : WW G A s.heap (wX7 a ct g sg) s.heap [] := ⟨hP, hD, va_S.rf⟩
  have hl := lv_entry ([.ref (a 0), .int x1]) (n := 3) (Nat.le_of_ble_eq_true rfl)
  rw [lg_entry_eq]
  generalize (lg_sl ([.ref (a 0), .int x1]) ++ List.replicate (3 - (lg_sl ([.ref (a 0), .int x1])).length) Slot.unset).toArray = ls at hl ⊢
  have hl : lv_has ls 3 [(0, .ref (a 0)), (1, .int x1)] := hl
  unfold f_X7_seed at hf
  show W p l e ({ frames := 0, cells := 0, slots := 0, locals := 0 } : Room) s m (List.toArray [.ref (a 0), .int x1]) below meth c s.heap [] 0 0 (MQ below (va_Qi (fun r (_ : Unit) => r = o.1) (fun _ t => Af_ G ct (wX7 a ct o.2 sg) A t) A) (List.toArray [.ref (a 0), .int x1]) s 0 0 A) (F0 m 0 ls [])
  refine lv_iload_n hx hb dX7_seed_0 rfl (lv_at hl 1 rfl) ?_
  refine lv_if_ge (tgt := 7) hx hb dX7_seed_1 (by decide) (fun hc => ?_) (fun hc => ?_)
  · replace hf := ifp hc hf
    refine lv_aload_n hx hb dX7_seed_7 rfl (lv_at hl 0 rfl) ?_
    refine x_get (ci := 7) (v := .int (g 14 0)) (C := RX7) (T := TX7) (N := 44) hx hb hts inX7 hown hK hW 0 rfl rfl 13 (by decide) fl250 (fun _ h9 => h9) rfl dX7_seed_8 ?_
    refine lv_istore_n (lv' := [(2, .int (g 14 0)), (0, .ref (a 0)), (1, .int x1)]) hx hb dX7_seed_11 rfl hl (by decide) rfl (fun ls hl => ?_)
    refine lv_aload_n hx hb dX7_seed_12 rfl (lv_at hl 1 rfl) ?_
    refine lv_iload_n hx hb dX7_seed_13 rfl (lv_at hl 2 rfl) ?_
    refine x_put (w' := (wX7 a ct (up1 g 14 0 x1) sg)) (fs := fsX7 a g sg) (ci := 7) (v := .int x1) (ty := .int) (C := RX7) (T := TX7) (N := 44) hx hb hts inX7 tyX7 tyX7_ok nmX7 hown hK hW 0 rfl rfl 13 (by decide) fl250 (fun _ h9 => h9) rfl (by decide +kernel) rfl rfl (Nat.le_of_ble_eq_true rfl) (wp_X7_14 a ct g sg x1) dX7_seed_14 (fun H locs hW => ?_)
    refine lv_iload_n hx hb dX7_seed_17 rfl (lv_at hl 0 rfl) ?_
    have ho := Option.some.inj hf
    subst ho
    exact x_reti (sz := 0) (w0 := []) (A1 := A) hx hb hr hlocks hK hW rfl rfl dX7_seed_18
  · replace hf := ifn hc hf
    refine lv_ldc (v := (-1000000002 : Int32)) hx hb hown fl111 dX7_seed_4 ?_
    have ho := Option.some.inj hf
    subst ho
    exact x_reti (sz := 0) (w0 := []) (A1 := A) hx hb hr hlocks hK hW rfl rfl dX7_seed_6
set_option maxHeartbeats 4000000 in
set_option maxRecDepth 100000 in
theorem c_X7_keep (l : Launch) (N : Nat) (kd : (Nat → Nat) × (Nat → Nat)) (G : va_G) (ct : Nat → ClassId) (a : Nat → Nat) (g : St_) (sg : Int64) (x1 : Int32) (o : (Int32 × St_)) (hf : f_X7_keep N g x1 = some o) : CtI l yX7_keep wsX7_keep ({ frames := 1, cells := 0, slots := 0, locals := 25 }) kd G ct [.ref (a 0), .int x1] (wX7 a ct g sg) o.1 (wX7 a ct o.2 sg) := by
  intro sz
  refine Met.ofW (cc := cX7_keep) (maxL := 4) (ret := (some .int)) (by decide) rfl ?_
  intro p e s m args below meth c s₁ B hml hv
  obtain ⟨rfl, hsz, hP, hK, hD0, hE⟩ := hv
  have hx := B.exec
  have hb := B.bytes
  have hr := B.returns
  have hts := atoms_spec (ws := wsX7_keep) B.pre
  have hown : s.vm.findClass RX7 = some m.cls := findClass_of_methodNamed B.named
  have hlocks := B.notSynchronized
  have inX7 : ∀ w ∈ wsX70, w ∈ wsX7_keep := by decide +kernel
  have fl22 := hts (.fieldLink RX7 22 "FittingStridesModel" "steps" "[I") (by decide +kernel)
  have fl25 := hts (.fieldLink RX7 25 "FittingStridesModel" "worn" "[I") (by decide +kernel)
  have fl28 := hts (.fieldLink RX7 28 "FittingStridesModel" "at" "[I") (by decide +kernel)
  have fl31 := hts (.fieldLink RX7 31 "FittingStridesModel" "first" "[I") (by decide +kernel)
  have fl34 := hts (.fieldLink RX7 34 "FittingStridesModel" "second" "[I") (by decide +kernel)
  have fl90 := hts (.fieldLink RX7 90 "FittingStridesModel" "images" "[I") (by decide +kernel)
  have fl93 := hts (.fieldLink RX7 93 "FittingStridesModel" "isKept" "[Z") (by decide +kernel)
  have fl106 := hts (.fieldLink RX7 106 "FittingStridesModel" "persons" "I") (by decide +kernel)
  have fl204 := hts (.fieldLink RX7 204 "FittingStridesModel" "law" "I") (by decide +kernel)
  have fl221 := hts (.constant RX7 221 (-1000000001)) (by decide +kernel)
  have fl250 := hts (.fieldLink RX7 250 "FittingStridesModel" "seed" "I") (by decide +kernel)
  subst hsz
  have hD := hD0.self (sz := s.heap.size)
  generalize hAe : va_A (wX7 a ct g sg) s.heap.size = A at hD hE ⊢
  have hA : ∀ q : Nat, s.heap.size ≤ q → A q := fun q h => by rw [← hAe]; exact Or.inr h
  have hW : WW G A s.heap (wX7 a ct g sg) s.heap [] := ⟨hP, hD, va_S.rf⟩
  have hl := lv_entry ([.ref (a 0), .int x1]) (n := 4) (Nat.le_of_ble_eq_true rfl)
  rw [lg_entry_eq]
  generalize (lg_sl ([.ref (a 0), .int x1]) ++ List.replicate (4 - (lg_sl ([.ref (a 0), .int x1])).length) Slot.unset).toArray = ls at hl ⊢
  have hl : lv_has ls 4 [(0, .ref (a 0)), (1, .int x1)] := hl
  unfold f_X7_keep at hf
  show W p l e ({ frames := 1, cells := 0, slots := 0, locals := 25 } : Room) s m (List.toArray [.ref (a 0), .int x1]) below meth c s.heap [] 0 0 (MQ below (va_Qi (fun r (_ : Unit) => r = o.1) (fun _ t => Af_ G ct (wX7 a ct o.2 sg) A t) A) (List.toArray [.ref (a 0), .int x1]) s 0 0 A) (F0 m 0 ls [])
  refine lv_iload_n hx hb dX7_keep_0 rfl (lv_at hl 1 rfl) ?_
  refine lv_i2l hx hb dX7_keep_1 rfl ?_
  refine lv_lconst (v := (0 : Int64)) hx hb dX7_keep_2 (by decide) ?_
  refine lv_lconst (v := (1 : Int64)) hx hb dX7_keep_3 (by decide) ?_
  replace hf := bs_ hf; obtain ⟨r1, hcl, hf⟩ := hf
  refine x_callS_i (As := [.long x1.toInt64, .long (0 : Int64), .long (1 : Int64)]) (rest := []) ⟨hx, hb, hml, hown, hts⟩ (c_X7_in l N kd G ct x1.toInt64 (0 : Int64) (1 : Int64) _ hcl) (va_cwS 3 hts gX7_keep_X7_in rfl rfl rfl (by decide +kernel) ⟨Nat.le_of_ble_eq_true rfl, Nat.le_of_ble_eq_true rfl⟩) hK hE hA hW rfl hl.1 rfl (lv_room (Nat.le_of_ble_eq_true rfl)) dX7_keep_4 (fun H locs hW => ?_)
  refine lv_if_ne (tgt := 13) hx hb dX7_keep_7 (by decide) (fun hc => ?_) (fun hc => ?_)
  · replace hf := ifn hc hf
    refine lv_bipush (v := (70 : Int32)) hx hb dX7_keep_13 (by decide) ?_
    refine lv_iload_n hx hb dX7_keep_15 rfl (lv_at hl 1 rfl) ?_
    refine lv_imul hx hb dX7_keep_16 ?_
    refine lv_istore_n (lv' := [(2, .int ((70 : Int32) * x1)), (0, .ref (a 0)), (1, .int x1)]) hx hb dX7_keep_17 rfl hl (by decide) rfl (fun ls hl => ?_)
    refine lv_iconst (v := (0 : Int32)) hx hb dX7_keep_18 (by decide) ?_
    refine lv_istore_n (lv' := [(3, .int (0 : Int32)), (2, .int ((70 : Int32) * x1)), (0, .ref (a 0)), (1, .int x1)]) hx hb dX7_keep_19 rfl hl (by decide) rfl (fun ls hl => ?_)
    replace hf := bs_ hf; obtain ⟨v2, hg, hf⟩ := hf
    have J2 : ∀ (H : Heap) (locs : List Loc) (ls : Array Slot), WW G A s.heap (wX7 a ct v2 sg) H locs → lv_has ls 4 [(0, .ref (a 0)), (1, .int x1), (2, .int ((70 : Int32) * x1))] → W p l e ({ frames := 1, cells := 0, slots := 0, locals := 25 } : Room) s m (List.toArray [.ref (a 0), .int x1]) below meth c H locs 0 0 (MQ below (va_Qi (fun r (_ : Unit) => r = o.1) (fun _ t => Af_ G ct (wX7 a ct o.2 sg) A t) A) (List.toArray [.ref (a 0), .int x1]) s 0 0 A) (F0 m 80 ls []) := by
      intro H locs ls hW hl
      refine lv_iconst (v := (0 : Int32)) hx hb dX7_keep_80 (by decide) ?_
      refine lv_istore_n (lv' := [(3, .int (0 : Int32)), (0, .ref (a 0)), (1, .int x1), (2, .int ((70 : Int32) * x1))]) hx hb dX7_keep_81 rfl hl (by decide) rfl (fun ls hl => ?_)
      replace hf := bs_ hf; obtain ⟨v3, hg, hf⟩ := hf
      have J3 : ∀ (H : Heap) (locs : List Loc) (ls : Array Slot), WW G A s.heap (wX7 a ct v3 sg) H locs → lv_has ls 4 [(0, .ref (a 0)), (1, .int x1), (2, .int ((70 : Int32) * x1))] → W p l e ({ frames := 1, cells := 0, slots := 0, locals := 25 } : Room) s m (List.toArray [.ref (a 0), .int x1]) below meth c H locs 0 0 (MQ below (va_Qi (fun r (_ : Unit) => r = o.1) (fun _ t => Af_ G ct (wX7 a ct o.2 sg) A t) A) (List.toArray [.ref (a 0), .int x1]) s 0 0 A) (F0 m 111 ls []) := by
        intro H locs ls hW hl
        refine lv_iconst (v := (0 : Int32)) hx hb dX7_keep_111 (by decide) ?_
        refine lv_istore_n (lv' := [(3, .int (0 : Int32)), (0, .ref (a 0)), (1, .int x1), (2, .int ((70 : Int32) * x1))]) hx hb dX7_keep_112 rfl hl (by decide) rfl (fun ls hl => ?_)
        replace hf := bs_ hf; obtain ⟨v4, hg, hf⟩ := hf
        have J4 : ∀ (H : Heap) (locs : List Loc) (ls : Array Slot), WW G A s.heap (wX7 a ct v4 sg) H locs → lv_has ls 4 [(0, .ref (a 0)), (1, .int x1), (2, .int ((70 : Int32) * x1))] → W p l e ({ frames := 1, cells := 0, slots := 0, locals := 25 } : Room) s m (List.toArray [.ref (a 0), .int x1]) below meth c H locs 0 0 (MQ below (va_Qi (fun r (_ : Unit) => r = o.1) (fun _ t => Af_ G ct (wX7 a ct o.2 sg) A t) A) (List.toArray [.ref (a 0), .int x1]) s 0 0 A) (F0 m 142 ls []) := by
          intro H locs ls hW hl
          refine lv_aload_n hx hb dX7_keep_142 rfl (lv_at hl 0 rfl) ?_
          refine x_get (ci := 7) (v := .ref (a 43)) (C := RX7) (T := TX7) (N := 44) hx hb hts inX7 hown hK hW 0 rfl rfl 42 (by decide) fl90 (fun _ h9 => h9) rfl dX7_keep_143 ?_
          refine lv_iload_n hx hb dX7_keep_146 rfl (lv_at hl 2 rfl) ?_
          refine lv_bipush (v := (64 : Int32)) hx hb dX7_keep_147 (by decide) ?_
          refine lv_iadd hx hb dX7_keep_149 ?_
          refine lv_aload_n hx hb dX7_keep_150 rfl (lv_at hl 0 rfl) ?_
          refine x_get (ci := 7) (v := .int (v4 9 0)) (C := RX7) (T := TX7) (N := 44) hx hb hts inX7 hown hK hW 0 rfl rfl 8 (by decide) fl106 (fun _ h9 => h9) rfl dX7_keep_151 ?_
          replace hf := gd_s hf; obtain ⟨hin, hf⟩ := hf
          refine x_iast (w' := (wX7 a ct (up1 v4 43 (((70 : Int32) * x1) + (64 : Int32)).toNatClampNeg (v4 9 0)) sg)) (n := 140) (f := v4 43) hx hb hK hW 26 rfl (okI_in hin) (ws_X7_43 a ct v4 sg _ _) dX7_keep_154 (fun H locs hW => ?_)
          refine lv_aload_n hx hb dX7_keep_155 rfl (lv_at hl 0 rfl) ?_
          refine x_get (ci := 7) (v := .ref (a 43)) (C := RX7) (T := TX7) (N := 44) hx hb hts inX7 hown hK hW 0 rfl rfl 42 (by decide) fl90 (fun _ h9 => h9) rfl dX7_keep_156 ?_
          refine lv_iload_n hx hb dX7_keep_159 rfl (lv_at hl 2 rfl) ?_
          refine lv_bipush (v := (65 : Int32)) hx hb dX7_keep_160 (by decide) ?_
          refine lv_iadd hx hb dX7_keep_162 ?_
          refine lv_aload_n hx hb dX7_keep_163 rfl (lv_at hl 0 rfl) ?_
          refine x_get (ci := 7) (v := .int (v4 13 0)) (C := RX7) (T := TX7) (N := 44) hx hb hts inX7 hown hK hW 0 rfl rfl 12 (by decide) fl204 (fun _ h9 => h9) rfl dX7_keep_164 ?_
          replace hf := gd_s hf; obtain ⟨hin, hf⟩ := hf
          refine x_iast (w' := (wX7 a ct (up1 (up1 v4 43 (((70 : Int32) * x1) + (64 : Int32)).toNatClampNeg (v4 9 0)) 43 (((70 : Int32) * x1) + (65 : Int32)).toNatClampNeg (v4 13 0)) sg)) (n := 140) (f := (up1 v4 43 (((70 : Int32) * x1) + (64 : Int32)).toNatClampNeg (v4 9 0)) 43) hx hb hK hW 26 rfl (okI_in hin) (ws_X7_43 a ct (up1 v4 43 (((70 : Int32) * x1) + (64 : Int32)).toNatClampNeg (v4 9 0)) sg _ _) dX7_keep_167 (fun H locs hW => ?_)
          refine lv_aload_n hx hb dX7_keep_168 rfl (lv_at hl 0 rfl) ?_
          refine x_get (ci := 7) (v := .ref (a 43)) (C := RX7) (T := TX7) (N := 44) hx hb hts inX7 hown hK hW 0 rfl rfl 42 (by decide) fl90 (fun _ h9 => h9) rfl dX7_keep_169 ?_
          refine lv_iload_n hx hb dX7_keep_172 rfl (lv_at hl 2 rfl) ?_
          refine lv_bipush (v := (66 : Int32)) hx hb dX7_keep_173 (by decide) ?_
          refine lv_iadd hx hb dX7_keep_175 ?_
          refine lv_aload_n hx hb dX7_keep_176 rfl (lv_at hl 0 rfl) ?_
          refine x_get (ci := 7) (v := .int (v4 14 0)) (C := RX7) (T := TX7) (N := 44) hx hb hts inX7 hown hK hW 0 rfl rfl 13 (by decide) fl250 (fun _ h9 => h9) rfl dX7_keep_177 ?_
          replace hf := gd_s hf; obtain ⟨hin, hf⟩ := hf
          refine x_iast (w' := (wX7 a ct (up1 (up1 (up1 v4 43 (((70 : Int32) * x1) + (64 : Int32)).toNatClampNeg (v4 9 0)) 43 (((70 : Int32) * x1) + (65 : Int32)).toNatClampNeg (v4 13 0)) 43 (((70 : Int32) * x1) + (66 : Int32)).toNatClampNeg (v4 14 0)) sg)) (n := 140) (f := (up1 (up1 v4 43 (((70 : Int32) * x1) + (64 : Int32)).toNatClampNeg (v4 9 0)) 43 (((70 : Int32) * x1) + (65 : Int32)).toNatClampNeg (v4 13 0)) 43) hx hb hK hW 26 rfl (okI_in hin) (ws_X7_43 a ct (up1 (up1 v4 43 (((70 : Int32) * x1) + (64 : Int32)).toNatClampNeg (v4 9 0)) 43 (((70 : Int32) * x1) + (65 : Int32)).toNatClampNeg (v4 13 0)) sg _ _) dX7_keep_180 (fun H locs hW => ?_)
          refine lv_aload_n hx hb dX7_keep_181 rfl (lv_at hl 0 rfl) ?_
          refine x_get (ci := 7) (v := .ref (a 44)) (C := RX7) (T := TX7) (N := 44) hx hb hts inX7 hown hK hW 0 rfl rfl 43 (by decide) fl93 (fun _ h9 => h9) rfl dX7_keep_182 ?_
          refine lv_iload_n hx hb dX7_keep_185 rfl (lv_at hl 1 rfl) ?_
          refine lv_iconst (v := (1 : Int32)) hx hb dX7_keep_186 (by decide) ?_
          replace hf := gd_s hf; obtain ⟨hin, hf⟩ := hf
          refine x_zast (w' := (wX7 a ct (up1 (up1 (up1 (up1 v4 43 (((70 : Int32) * x1) + (64 : Int32)).toNatClampNeg (v4 9 0)) 43 (((70 : Int32) * x1) + (65 : Int32)).toNatClampNeg (v4 13 0)) 43 (((70 : Int32) * x1) + (66 : Int32)).toNatClampNeg (v4 14 0)) 44 x1.toNatClampNeg (vp_nar .boolean (1 : Int32))) sg)) (n := 2) (f := (up1 (up1 (up1 v4 43 (((70 : Int32) * x1) + (64 : Int32)).toNatClampNeg (v4 9 0)) 43 (((70 : Int32) * x1) + (65 : Int32)).toNatClampNeg (v4 13 0)) 43 (((70 : Int32) * x1) + (66 : Int32)).toNatClampNeg (v4 14 0)) 44) hx hb hK hW 27 rfl (okI_in hin) (ws_X7_44 a ct (up1 (up1 (up1 v4 43 (((70 : Int32) * x1) + (64 : Int32)).toNatClampNeg (v4 9 0)) 43 (((70 : Int32) * x1) + (65 : Int32)).toNatClampNeg (v4 13 0)) 43 (((70 : Int32) * x1) + (66 : Int32)).toNatClampNeg (v4 14 0)) sg _ _) dX7_keep_187 (fun H locs hW => ?_)
          refine lv_iconst (v := (1 : Int32)) hx hb dX7_keep_188 (by decide) ?_
          have ho := Option.some.inj hf
          subst ho
          exact x_reti (sz := 0) (w0 := []) (A1 := A) hx hb hr hlocks hK hW rfl rfl dX7_keep_189
        clear hf
        have L4 : ∀ (n : Nat) (y4_3 : Int32) (g4 : St_), f_X7_keep_L113 N ((70 : Int32) * x1) n y4_3 g4 = some v4 → ∀ (H : Heap) (locs : List Loc) (ls : Array Slot), WW G A s.heap (wX7 a ct g4 sg) H locs → lv_has ls 4 [(0, .ref (a 0)), (1, .int x1), (2, .int ((70 : Int32) * x1)), (3, .int y4_3)] → W p l e ({ frames := 1, cells := 0, slots := 0, locals := 25 } : Room) s m (List.toArray [.ref (a 0), .int x1]) below meth c H locs 0 0 (MQ below (va_Qi (fun r (_ : Unit) => r = o.1) (fun _ t => Af_ G ct (wX7 a ct o.2 sg) A t) A) (List.toArray [.ref (a 0), .int x1]) s 0 0 A) (F0 m 113 ls []) := by
          intro n
          induction n with
          | zero =>
            intro y4_3 g4 hf
            rw [f_X7_keep_L113] at hf
            cases hf
          | succ n ih =>
            intro y4_3 g4 hf H locs ls hW hl
            rw [f_X7_keep_L113] at hf
            refine lv_iload_n hx hb dX7_keep_113 rfl (lv_at hl 3 rfl) ?_
            refine lv_bipush (v := (10 : Int32)) hx hb dX7_keep_114 (by decide) ?_
            refine lv_icmp_ge (tgt := 142) hx hb dX7_keep_116 (by decide) (fun hc => ?_) (fun hc => ?_)
            · replace hf := ifp hc hf
              have hj := Option.some.inj hf
              subst hj
              exact J4 _ _ _ hW (lv_sub hl [0, 1, 2] rfl)
            · replace hf := ifn hc hf
              refine lv_aload_n hx hb dX7_keep_119 rfl (lv_at hl 0 rfl) ?_
              refine x_get (ci := 7) (v := .ref (a 43)) (C := RX7) (T := TX7) (N := 44) hx hb hts inX7 hown hK hW 0 rfl rfl 42 (by decide) fl90 (fun _ h9 => h9) rfl dX7_keep_120 ?_
              refine lv_iload_n hx hb dX7_keep_123 rfl (lv_at hl 2 rfl) ?_
              refine lv_bipush (v := (54 : Int32)) hx hb dX7_keep_124 (by decide) ?_
              refine lv_iadd hx hb dX7_keep_126 ?_
              refine lv_iload_n hx hb dX7_keep_127 rfl (lv_at hl 3 rfl) ?_
              refine lv_iadd hx hb dX7_keep_128 ?_
              refine lv_aload_n hx hb dX7_keep_129 rfl (lv_at hl 0 rfl) ?_
              refine x_get (ci := 7) (v := .ref (a 8)) (C := RX7) (T := TX7) (N := 44) hx hb hts inX7 hown hK hW 0 rfl rfl 7 (by decide) fl25 (fun _ h9 => h9) rfl dX7_keep_130 ?_
              refine lv_iload_n hx hb dX7_keep_133 rfl (lv_at hl 3 rfl) ?_
              replace hf := gd_s hf; obtain ⟨hin, hf⟩ := hf
              refine x_iald (n := 10) (f := g4 8) hx hb hK hW 6 rfl (okI_in hin) dX7_keep_134 ?_
              replace hf := gd_s hf; obtain ⟨hin, hf⟩ := hf
              refine x_iast (w' := (wX7 a ct (up1 g4 43 ((((70 : Int32) * x1) + (54 : Int32)) + y4_3).toNatClampNeg (g4 8 y4_3.toNatClampNeg)) sg)) (n := 140) (f := g4 43) hx hb hK hW 26 rfl (okI_in hin) (ws_X7_43 a ct g4 sg _ _) dX7_keep_135 (fun H locs hW => ?_)
              refine lv_iinc (v := (y4_3 + (1 : Int32))) (lv' := [(3, .int (y4_3 + (1 : Int32))), (0, .ref (a 0)), (1, .int x1), (2, .int ((70 : Int32) * x1))]) hx hb dX7_keep_136 hl (k := 3) rfl rfl (by decide) rfl (fun ls hl => ?_)
              refine lv_goto (tgt := 113) hx hb dX7_keep_139 (by decide) ?_
              exact ih (y4_3 + (1 : Int32)) (up1 g4 43 ((((70 : Int32) * x1) + (54 : Int32)) + y4_3).toNatClampNeg (g4 8 y4_3.toNatClampNeg)) hf _ _ _ hW (lv_sub hl [1, 2, 3, 0] rfl)
        exact L4 N (0 : Int32) v3 hg _ _ _ hW (lv_sub hl [1, 2, 3, 0] rfl)
      clear hf
      have L3 : ∀ (n : Nat) (y3_3 : Int32) (g3 : St_), f_X7_keep_L82 N ((70 : Int32) * x1) n y3_3 g3 = some v3 → ∀ (H : Heap) (locs : List Loc) (ls : Array Slot), WW G A s.heap (wX7 a ct g3 sg) H locs → lv_has ls 4 [(0, .ref (a 0)), (1, .int x1), (2, .int ((70 : Int32) * x1)), (3, .int y3_3)] → W p l e ({ frames := 1, cells := 0, slots := 0, locals := 25 } : Room) s m (List.toArray [.ref (a 0), .int x1]) below meth c H locs 0 0 (MQ below (va_Qi (fun r (_ : Unit) => r = o.1) (fun _ t => Af_ G ct (wX7 a ct o.2 sg) A t) A) (List.toArray [.ref (a 0), .int x1]) s 0 0 A) (F0 m 82 ls []) := by
        intro n
        induction n with
        | zero =>
          intro y3_3 g3 hf
          rw [f_X7_keep_L82] at hf
          cases hf
        | succ n ih =>
          intro y3_3 g3 hf H locs ls hW hl
          rw [f_X7_keep_L82] at hf
          refine lv_iload_n hx hb dX7_keep_82 rfl (lv_at hl 3 rfl) ?_
          refine lv_bipush (v := (30 : Int32)) hx hb dX7_keep_83 (by decide) ?_
          refine lv_icmp_ge (tgt := 111) hx hb dX7_keep_85 (by decide) (fun hc => ?_) (fun hc => ?_)
          · replace hf := ifp hc hf
            have hj := Option.some.inj hf
            subst hj
            exact J3 _ _ _ hW (lv_sub hl [0, 1, 2] rfl)
          · replace hf := ifn hc hf
            refine lv_aload_n hx hb dX7_keep_88 rfl (lv_at hl 0 rfl) ?_
            refine x_get (ci := 7) (v := .ref (a 43)) (C := RX7) (T := TX7) (N := 44) hx hb hts inX7 hown hK hW 0 rfl rfl 42 (by decide) fl90 (fun _ h9 => h9) rfl dX7_keep_89 ?_
            refine lv_iload_n hx hb dX7_keep_92 rfl (lv_at hl 2 rfl) ?_
            refine lv_bipush (v := (24 : Int32)) hx hb dX7_keep_93 (by decide) ?_
            refine lv_iadd hx hb dX7_keep_95 ?_
            refine lv_iload_n hx hb dX7_keep_96 rfl (lv_at hl 3 rfl) ?_
            refine lv_iadd hx hb dX7_keep_97 ?_
            refine lv_aload_n hx hb dX7_keep_98 rfl (lv_at hl 0 rfl) ?_
            refine x_get (ci := 7) (v := .ref (a 7)) (C := RX7) (T := TX7) (N := 44) hx hb hts inX7 hown hK hW 0 rfl rfl 6 (by decide) fl22 (fun _ h9 => h9) rfl dX7_keep_99 ?_
            refine lv_iload_n hx hb dX7_keep_102 rfl (lv_at hl 3 rfl) ?_
            replace hf := gd_s hf; obtain ⟨hin, hf⟩ := hf
            refine x_iald (n := 30) (f := g3 7) hx hb hK hW 5 rfl (okI_in hin) dX7_keep_103 ?_
            replace hf := gd_s hf; obtain ⟨hin, hf⟩ := hf
            refine x_iast (w' := (wX7 a ct (up1 g3 43 ((((70 : Int32) * x1) + (24 : Int32)) + y3_3).toNatClampNeg (g3 7 y3_3.toNatClampNeg)) sg)) (n := 140) (f := g3 43) hx hb hK hW 26 rfl (okI_in hin) (ws_X7_43 a ct g3 sg _ _) dX7_keep_104 (fun H locs hW => ?_)
            refine lv_iinc (v := (y3_3 + (1 : Int32))) (lv' := [(3, .int (y3_3 + (1 : Int32))), (0, .ref (a 0)), (1, .int x1), (2, .int ((70 : Int32) * x1))]) hx hb dX7_keep_105 hl (k := 3) rfl rfl (by decide) rfl (fun ls hl => ?_)
            refine lv_goto (tgt := 82) hx hb dX7_keep_108 (by decide) ?_
            exact ih (y3_3 + (1 : Int32)) (up1 g3 43 ((((70 : Int32) * x1) + (24 : Int32)) + y3_3).toNatClampNeg (g3 7 y3_3.toNatClampNeg)) hf _ _ _ hW (lv_sub hl [1, 2, 3, 0] rfl)
      exact L3 N (0 : Int32) v2 hg _ _ _ hW (lv_sub hl [1, 2, 3, 0] rfl)
    clear hf
    have L2 : ∀ (n : Nat) (y2_3 : Int32) (g2 : St_), f_X7_keep_L20 N ((70 : Int32) * x1) n y2_3 g2 = some v2 → ∀ (H : Heap) (locs : List Loc) (ls : Array Slot), WW G A s.heap (wX7 a ct g2 sg) H locs → lv_has ls 4 [(0, .ref (a 0)), (1, .int x1), (2, .int ((70 : Int32) * x1)), (3, .int y2_3)] → W p l e ({ frames := 1, cells := 0, slots := 0, locals := 25 } : Room) s m (List.toArray [.ref (a 0), .int x1]) below meth c H locs 0 0 (MQ below (va_Qi (fun r (_ : Unit) => r = o.1) (fun _ t => Af_ G ct (wX7 a ct o.2 sg) A t) A) (List.toArray [.ref (a 0), .int x1]) s 0 0 A) (F0 m 20 ls []) := by
      intro n
      induction n with
      | zero =>
        intro y2_3 g2 hf
        rw [f_X7_keep_L20] at hf
        cases hf
      | succ n ih =>
        intro y2_3 g2 hf H locs ls hW hl
        rw [f_X7_keep_L20] at hf
        refine lv_iload_n hx hb dX7_keep_20 rfl (lv_at hl 3 rfl) ?_
        refine lv_bipush (v := (8 : Int32)) hx hb dX7_keep_21 (by decide) ?_
        refine lv_icmp_ge (tgt := 80) hx hb dX7_keep_23 (by decide) (fun hc => ?_) (fun hc => ?_)
        · replace hf := ifp hc hf
          have hj := Option.some.inj hf
          subst hj
          exact J2 _ _ _ hW (lv_sub hl [0, 1, 2] rfl)
        · replace hf := ifn hc hf
          refine lv_aload_n hx hb dX7_keep_26 rfl (lv_at hl 0 rfl) ?_
          refine x_get (ci := 7) (v := .ref (a 43)) (C := RX7) (T := TX7) (N := 44) hx hb hts inX7 hown hK hW 0 rfl rfl 42 (by decide) fl90 (fun _ h9 => h9) rfl dX7_keep_27 ?_
          refine lv_iload_n hx hb dX7_keep_30 rfl (lv_at hl 2 rfl) ?_
          refine lv_iload_n hx hb dX7_keep_31 rfl (lv_at hl 3 rfl) ?_
          refine lv_iadd hx hb dX7_keep_32 ?_
          refine lv_aload_n hx hb dX7_keep_33 rfl (lv_at hl 0 rfl) ?_
          refine x_get (ci := 7) (v := .ref (a 10)) (C := RX7) (T := TX7) (N := 44) hx hb hts inX7 hown hK hW 0 rfl rfl 9 (by decide) fl28 (fun _ h9 => h9) rfl dX7_keep_34 ?_
          refine lv_iload_n hx hb dX7_keep_37 rfl (lv_at hl 3 rfl) ?_
          replace hf := gd_s hf; obtain ⟨hin, hf⟩ := hf
          refine x_iald (n := 8) (f := g2 10) hx hb hK hW 7 rfl (okI_in hin) dX7_keep_38 ?_
          replace hf := gd_s hf; obtain ⟨hin, hf⟩ := hf
          refine x_iast (w' := (wX7 a ct (up1 g2 43 (((70 : Int32) * x1) + y2_3).toNatClampNeg (g2 10 y2_3.toNatClampNeg)) sg)) (n := 140) (f := g2 43) hx hb hK hW 26 rfl (okI_in hin) (ws_X7_43 a ct g2 sg _ _) dX7_keep_39 (fun H locs hW => ?_)
          refine lv_aload_n hx hb dX7_keep_40 rfl (lv_at hl 0 rfl) ?_
          refine x_get (ci := 7) (v := .ref (a 43)) (C := RX7) (T := TX7) (N := 44) hx hb hts inX7 hown hK hW 0 rfl rfl 42 (by decide) fl90 (fun _ h9 => h9) rfl dX7_keep_41 ?_
          refine lv_iload_n hx hb dX7_keep_44 rfl (lv_at hl 2 rfl) ?_
          refine lv_bipush (v := (8 : Int32)) hx hb dX7_keep_45 (by decide) ?_
          refine lv_iadd hx hb dX7_keep_47 ?_
          refine lv_iload_n hx hb dX7_keep_48 rfl (lv_at hl 3 rfl) ?_
          refine lv_iadd hx hb dX7_keep_49 ?_
          refine lv_aload_n hx hb dX7_keep_50 rfl (lv_at hl 0 rfl) ?_
          refine x_get (ci := 7) (v := .ref (a 11)) (C := RX7) (T := TX7) (N := 44) hx hb hts inX7 hown hK hW 0 rfl rfl 10 (by decide) fl31 (fun _ h9 => h9) rfl dX7_keep_51 ?_
          refine lv_iload_n hx hb dX7_keep_54 rfl (lv_at hl 3 rfl) ?_
          replace hf := gd_s hf; obtain ⟨hin, hf⟩ := hf
          refine x_iald (n := 8) (f := g2 11) hx hb hK hW 8 rfl (okI_in hin) dX7_keep_55 ?_
          replace hf := gd_s hf; obtain ⟨hin, hf⟩ := hf
          refine x_iast (w' := (wX7 a ct (up1 (up1 g2 43 (((70 : Int32) * x1) + y2_3).toNatClampNeg (g2 10 y2_3.toNatClampNeg)) 43 ((((70 : Int32) * x1) + (8 : Int32)) + y2_3).toNatClampNeg (g2 11 y2_3.toNatClampNeg)) sg)) (n := 140) (f := (up1 g2 43 (((70 : Int32) * x1) + y2_3).toNatClampNeg (g2 10 y2_3.toNatClampNeg)) 43) hx hb hK hW 26 rfl (okI_in hin) (ws_X7_43 a ct (up1 g2 43 (((70 : Int32) * x1) + y2_3).toNatClampNeg (g2 10 y2_3.toNatClampNeg)) sg _ _) dX7_keep_56 (fun H locs hW => ?_)
          refine lv_aload_n hx hb dX7_keep_57 rfl (lv_at hl 0 rfl) ?_
          refine x_get (ci := 7) (v := .ref (a 43)) (C := RX7) (T := TX7) (N := 44) hx hb hts inX7 hown hK hW 0 rfl rfl 42 (by decide) fl90 (fun _ h9 => h9) rfl dX7_keep_58 ?_
          refine lv_iload_n hx hb dX7_keep_61 rfl (lv_at hl 2 rfl) ?_
          refine lv_bipush (v := (16 : Int32)) hx hb dX7_keep_62 (by decide) ?_
          refine lv_iadd hx hb dX7_keep_64 ?_
          refine lv_iload_n hx hb dX7_keep_65 rfl (lv_at hl 3 rfl) ?_
          refine lv_iadd hx hb dX7_keep_66 ?_
          refine lv_aload_n hx hb dX7_keep_67 rfl (lv_at hl 0 rfl) ?_
          refine x_get (ci := 7) (v := .ref (a 12)) (C := RX7) (T := TX7) (N := 44) hx hb hts inX7 hown hK hW 0 rfl rfl 11 (by decide) fl34 (fun _ h9 => h9) rfl dX7_keep_68 ?_
          refine lv_iload_n hx hb dX7_keep_71 rfl (lv_at hl 3 rfl) ?_
          replace hf := gd_s hf; obtain ⟨hin, hf⟩ := hf
          refine x_iald (n := 8) (f := g2 12) hx hb hK hW 9 rfl (okI_in hin) dX7_keep_72 ?_
          replace hf := gd_s hf; obtain ⟨hin, hf⟩ := hf
          refine x_iast (w' := (wX7 a ct (up1 (up1 (up1 g2 43 (((70 : Int32) * x1) + y2_3).toNatClampNeg (g2 10 y2_3.toNatClampNeg)) 43 ((((70 : Int32) * x1) + (8 : Int32)) + y2_3).toNatClampNeg (g2 11 y2_3.toNatClampNeg)) 43 ((((70 : Int32) * x1) + (16 : Int32)) + y2_3).toNatClampNeg (g2 12 y2_3.toNatClampNeg)) sg)) (n := 140) (f := (up1 (up1 g2 43 (((70 : Int32) * x1) + y2_3).toNatClampNeg (g2 10 y2_3.toNatClampNeg)) 43 ((((70 : Int32) * x1) + (8 : Int32)) + y2_3).toNatClampNeg (g2 11 y2_3.toNatClampNeg)) 43) hx hb hK hW 26 rfl (okI_in hin) (ws_X7_43 a ct (up1 (up1 g2 43 (((70 : Int32) * x1) + y2_3).toNatClampNeg (g2 10 y2_3.toNatClampNeg)) 43 ((((70 : Int32) * x1) + (8 : Int32)) + y2_3).toNatClampNeg (g2 11 y2_3.toNatClampNeg)) sg _ _) dX7_keep_73 (fun H locs hW => ?_)
          refine lv_iinc (v := (y2_3 + (1 : Int32))) (lv' := [(3, .int (y2_3 + (1 : Int32))), (0, .ref (a 0)), (1, .int x1), (2, .int ((70 : Int32) * x1))]) hx hb dX7_keep_74 hl (k := 3) rfl rfl (by decide) rfl (fun ls hl => ?_)
          refine lv_goto (tgt := 20) hx hb dX7_keep_77 (by decide) ?_
          exact ih (y2_3 + (1 : Int32)) (up1 (up1 (up1 g2 43 (((70 : Int32) * x1) + y2_3).toNatClampNeg (g2 10 y2_3.toNatClampNeg)) 43 ((((70 : Int32) * x1) + (8 : Int32)) + y2_3).toNatClampNeg (g2 11 y2_3.toNatClampNeg)) 43 ((((70 : Int32) * x1) + (16 : Int32)) + y2_3).toNatClampNeg (g2 12 y2_3.toNatClampNeg)) hf _ _ _ hW (lv_sub hl [1, 2, 3, 0] rfl)
    exact L2 N (0 : Int32) g hg _ _ _ hW (lv_sub hl [2, 3, 1, 0] rfl)
  · replace hf := ifp hc hf
    refine lv_ldc (v := (-1000000001 : Int32)) hx hb hown fl221 dX7_keep_10 ?_
    have ho := Option.some.inj hf
    subst ho
    exact x_reti (sz := 0) (w0 := []) (A1 := A) hx hb hr hlocks hK hW rfl rfl dX7_keep_12
