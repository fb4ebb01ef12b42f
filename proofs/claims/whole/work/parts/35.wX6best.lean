set_option maxHeartbeats 4000000 in
set_option maxRecDepth 100000 in
theorem c_X6_best (l : Launch) (N : Nat) (kd : (Nat → Nat) × (Nat → Nat)) (G : va_G) (ct : Nat → ClassId) (a : Nat → Nat) (g : St_) (x1 : Int32) (o : Int32) (hf : f_X6_best N g x1 = some o) : CtI l yX6_best wsX6_best ({ frames := 4, cells := 0, slots := 0, locals := 97 }) kd G ct [.ref (a 0), .int x1] (wX6 a ct g) o (wX6 a ct g) := by
  intro sz
  refine Met.ofW (cc := cX6_best) (maxL := 6) (ret := (some .int)) (by decide) rfl ?_
  intro p e s m args below meth c s₁ B hml hv
  obtain ⟨rfl, hsz, hP, hK, hD0, hE⟩ := hv
  have hx := B.exec
  have hb := B.bytes
  have hr := B.returns
  have hts := atoms_spec (ws := wsX6_best) B.pre
  have hown : s.vm.findClass RX6 = some m.cls := findClass_of_methodNamed B.named
  have hlocks := B.notSynchronized
  have inX5 : ∀ w ∈ wsX50, w ∈ wsX6_best := by decide +kernel
  have inX6 : ∀ w ∈ wsX60, w ∈ wsX6_best := by decide +kernel
  have fl19 := hts (.fieldLink RX6 19 "FittingStrides" "now" "LFittingStrides$Town;") (by decide +kernel)
  have fl84 := hts (.fieldLink RX6 84 "FittingStrides$Town" "plan" "LFittingStrides$Plan;") (by decide +kernel)
  have fl114 := hts (.constant RX6 114 (-1000000001)) (by decide +kernel)
  subst hsz
  have hD := hD0.self (sz := s.heap.size)
  generalize hAe : va_A (wX6 a ct g) s.heap.size = A at hD hE ⊢
  have hA : ∀ q : Nat, s.heap.size ≤ q → A q := fun q h => by rw [← hAe]; exact Or.inr h
  have hW : WW G A s.heap (wX6 a ct g) s.heap [] := ⟨hP, hD, va_S.rf⟩
  have hl := lv_entry ([.ref (a 0), .int x1]) (n := 6) (Nat.le_of_ble_eq_true rfl)
  rw [lg_entry_eq]
  generalize (lg_sl ([.ref (a 0), .int x1]) ++ List.replicate (6 - (lg_sl ([.ref (a 0), .int x1])).length) Slot.unset).toArray = ls at hl ⊢
  have hl : lv_has ls 6 [(0, .ref (a 0)), (1, .int x1)] := hl
  unfold f_X6_best at hf
  show W p l e ({ frames := 4, cells := 0, slots := 0, locals := 97 } : Room) s m (List.toArray [.ref (a 0), .int x1]) below meth c s.heap [] 0 0 (MQ below (va_Qi (fun r (_ : Unit) => r = o) (fun _ t => Af_ G ct (wX6 a ct g) A t) A) (List.toArray [.ref (a 0), .int x1]) s 0 0 A) (F0 m 0 ls [])
  refine lv_aload_n hx hb dX6_best_0 rfl (lv_at hl 0 rfl) ?_
  refine x_get (ci := 6) (v := .ref (a 26)) (C := RX6) (T := TX6) (N := 7) hx hb hts inX6 hown hK hW 0 rfl rfl 1 (by decide) fl19 (fun _ h9 => h9) rfl dX6_best_1 ?_
  refine x_get (ci := 5) (v := .ref (a 27)) (C := RX5) (T := TX5) (N := 4) hx hb hts inX5 hown hK hW 17 rfl rfl 0 (by decide) fl84 (fun _ h9 => h9) rfl dX6_best_4 ?_
  refine lv_iload_n hx hb dX6_best_7 rfl (lv_at hl 1 rfl) ?_
  replace hf := bs_ hf; obtain ⟨r1, hcl, hf⟩ := hf
  refine x_callV_i (w' := (wX6 a ct g)) (As := [.int x1]) (rest := []) (ci := 1) ⟨hx, hb, hml, hown, hts⟩ (c_X1_hasPlace l N kd G ct (sh_ 27 a) (sh_ 27 g) x1 _ hcl) (cwV 1 hts gX6_best_X1_hasPlace rfl rfl rfl (by decide +kernel) ⟨Nat.le_of_ble_eq_true rfl, Nat.le_of_ble_eq_true rfl⟩) hK hE hA hW ((wX6 a ct g).take 18) ((wX6 a ct g).drop 23) rfl rfl 0 rfl rfl rfl rfl hl.1 rfl (lv_room (Nat.le_of_ble_eq_true rfl)) dX6_best_8 (fun H locs hW => ?_)
  refine lv_if_ne (tgt := 17) hx hb dX6_best_11 (by decide) (fun hc => ?_) (fun hc => ?_)
  · replace hf := ifn hc hf
    refine lv_iconst (v := (1 : Int32)) hx hb dX6_best_17 (by decide) ?_
    refine lv_istore_n (lv' := [(2, .int (1 : Int32)), (0, .ref (a 0)), (1, .int x1)]) hx hb dX6_best_18 rfl hl (by decide) rfl (fun ls hl => ?_)
    refine lv_iconst (v := (0 : Int32)) hx hb dX6_best_19 (by decide) ?_
    refine lv_istore_n (lv' := [(3, .int (0 : Int32)), (2, .int (1 : Int32)), (0, .ref (a 0)), (1, .int x1)]) hx hb dX6_best_20 rfl hl (by decide) rfl (fun ls hl => ?_)
    refine lv_iconst (v := (1 : Int32)) hx hb dX6_best_21 (by decide) ?_
    refine lv_istore (lv' := [(4, .int (1 : Int32)), (3, .int (0 : Int32)), (2, .int (1 : Int32)), (0, .ref (a 0)), (1, .int x1)]) hx hb dX6_best_22 hl (by decide) rfl (fun ls hl => ?_)
    replace hf := bs_ hf; obtain ⟨v2, hg, hf⟩ := hf
    have J2 : ∀ (H : Heap) (locs : List Loc) (ls : Array Slot), WW G A s.heap (wX6 a ct g) H locs → lv_has ls 6 [(2, .int v2)] → W p l e ({ frames := 4, cells := 0, slots := 0, locals := 97 } : Room) s m (List.toArray [.ref (a 0), .int x1]) below meth c H locs 0 0 (MQ below (va_Qi (fun r (_ : Unit) => r = o) (fun _ t => Af_ G ct (wX6 a ct g) A t) A) (List.toArray [.ref (a 0), .int x1]) s 0 0 A) (F0 m 65 ls []) := by
      intro H locs ls hW hl
      refine lv_iload_n hx hb dX6_best_65 rfl (lv_at hl 0 rfl) ?_
      have ho := Option.some.inj hf
      subst ho
      exact x_reti (sz := 0) (w0 := []) (A1 := A) hx hb hr hlocks hK hW rfl rfl dX6_best_66
    clear hf
    have L2 : ∀ (n : Nat) (y2_2 : Int32) (y2_3 : Int32) (y2_4 : Int32), f_X6_best_L24 N g x1 n y2_2 y2_3 y2_4 = some v2 → ∀ (H : Heap) (locs : List Loc) (ls : Array Slot), WW G A s.heap (wX6 a ct g) H locs → lv_has ls 6 [(0, .ref (a 0)), (1, .int x1), (2, .int y2_2), (3, .int y2_3), (4, .int y2_4)] → W p l e ({ frames := 4, cells := 0, slots := 0, locals := 97 } : Room) s m (List.toArray [.ref (a 0), .int x1]) below meth c H locs 0 0 (MQ below (va_Qi (fun r (_ : Unit) => r = o) (fun _ t => Af_ G ct (wX6 a ct g) A t) A) (List.toArray [.ref (a 0), .int x1]) s 0 0 A) (F0 m 24 ls []) := by
      intro n
      induction n with
      | zero =>
        intro y2_2 y2_3 y2_4 hf
        rw [f_X6_best_L24] at hf
        cases hf
      | succ n ih =>
        intro y2_2 y2_3 y2_4 hf H locs ls hW hl
        rw [f_X6_best_L24] at hf
        refine lv_iload hx hb dX6_best_24 (lv_at hl 4 rfl) ?_
        refine lv_bipush (v := (24 : Int32)) hx hb dX6_best_26 (by decide) ?_
        refine lv_icmp_gt (tgt := 65) hx hb dX6_best_28 (by decide) (fun hc => ?_) (fun hc => ?_)
        · replace hf := ifp hc hf
          have hj := Option.some.inj hf
          subst hj
          exact J2 _ _ _ hW (lv_sub hl [2] rfl)
        · replace hf := ifn hc hf
          refine lv_aload_n hx hb dX6_best_31 rfl (lv_at hl 0 rfl) ?_
          refine x_get (ci := 6) (v := .ref (a 26)) (C := RX6) (T := TX6) (N := 7) hx hb hts inX6 hown hK hW 0 rfl rfl 1 (by decide) fl19 (fun _ h9 => h9) rfl dX6_best_32 ?_
          refine lv_iload_n hx hb dX6_best_35 rfl (lv_at hl 1 rfl) ?_
          refine lv_iload hx hb dX6_best_36 (lv_at hl 4 rfl) ?_
          refine lv_iconst (v := (0 : Int32)) hx hb dX6_best_38 (by decide) ?_
          replace hf := bs_ hf; obtain ⟨r3, hcl, hf⟩ := hf
          refine x_callV_i (w' := (wX6 a ct g)) (As := [.int x1, .int y2_4, .int (0 : Int32)]) (rest := []) (ci := 5) ⟨hx, hb, hml, hown, hts⟩ (c_X5_reachFrom l N kd G ct (sh_ 26 a) (sh_ 26 g) x1 y2_4 (0 : Int32) _ hcl) (cwV 3 hts gX6_best_X5_reachFrom rfl rfl rfl (by decide +kernel) ⟨Nat.le_of_ble_eq_true rfl, Nat.le_of_ble_eq_true rfl⟩) hK hE hA hW ((wX6 a ct g).take 17) ((wX6 a ct g).drop 31) rfl rfl 0 rfl rfl rfl rfl hl.1 rfl (lv_room (Nat.le_of_ble_eq_true rfl)) dX6_best_39 (fun H locs hW => ?_)
          replace hf := bs_ hf; obtain ⟨r4, hcl, hf⟩ := hf
          refine x_callS_i (As := [.int r3]) (rest := []) ⟨hx, hb, hml, hown, hts⟩ (c_J6_bitCount_0f7a4 l N kd G ct r3 _ hcl) (va_cwS 1 hts gX6_best_J6_bitCount_0f7a4 rfl rfl rfl (by decide +kernel) ⟨Nat.le_of_ble_eq_true rfl, Nat.le_of_ble_eq_true rfl⟩) hK hE hA hW rfl hl.1 rfl (lv_room (Nat.le_of_ble_eq_true rfl)) dX6_best_42 (fun H locs hW => ?_)
          refine lv_istore (lv' := [(5, .int r4), (0, .ref (a 0)), (1, .int x1), (2, .int y2_2), (3, .int y2_3), (4, .int y2_4)]) hx hb dX6_best_45 hl (by decide) rfl (fun ls hl => ?_)
          refine lv_iload hx hb dX6_best_47 (lv_at hl 0 rfl) ?_
          refine lv_iload_n hx hb dX6_best_49 rfl (lv_at hl 4 rfl) ?_
          replace hf := bs_ hf; obtain ⟨j5, hg, hf⟩ := hf
          have J5 : ∀ (H : Heap) (locs : List Loc) (ls : Array Slot), WW G A s.heap (wX6 a ct g) H locs → lv_has ls 6 [(0, .ref (a 0)), (1, .int x1), (2, .int j5.1), (3, .int j5.2), (4, .int y2_4)] → W p l e ({ frames := 4, cells := 0, slots := 0, locals := 97 } : Room) s m (List.toArray [.ref (a 0), .int x1]) below meth c H locs 0 0 (MQ below (va_Qi (fun r (_ : Unit) => r = o) (fun _ t => Af_ G ct (wX6 a ct g) A t) A) (List.toArray [.ref (a 0), .int x1]) s 0 0 A) (F0 m 59 ls ([])) := by
            intro H locs ls hW hl
            refine lv_iinc (v := (y2_4 + (1 : Int32))) (lv' := [(4, .int (y2_4 + (1 : Int32))), (0, .ref (a 0)), (1, .int x1), (2, .int j5.1), (3, .int j5.2)]) hx hb dX6_best_59 hl (k := 4) rfl rfl (by decide) rfl (fun ls hl => ?_)
            refine lv_goto (tgt := 24) hx hb dX6_best_62 (by decide) ?_
            exact ih j5.1 j5.2 (y2_4 + (1 : Int32)) hf _ _ _ hW (lv_sub hl [1, 2, 3, 4, 0] rfl)
          clear hf
          refine lv_icmp_lt (tgt := 59) hx hb dX6_best_50 (by decide) (fun hc => ?_) (fun hc => ?_)
          · have hf := ifp hc hg
            clear hg
            have hj := Option.some.inj hf
            subst hj
            exact J5 _ _ _ hW (lv_sub hl [1, 2, 3, 4, 5] rfl)
          · have hf := ifn hc hg
            clear hg
            refine lv_iload hx hb dX6_best_53 (lv_at hl 0 rfl) ?_
            refine lv_istore_n (lv' := [(3, .int r4), (5, .int r4), (0, .ref (a 0)), (1, .int x1), (2, .int y2_2), (4, .int y2_4)]) hx hb dX6_best_55 rfl hl (by decide) rfl (fun ls hl => ?_)
            refine lv_iload hx hb dX6_best_56 (lv_at hl 5 rfl) ?_
            refine lv_istore_n (lv' := [(2, .int y2_4), (3, .int r4), (5, .int r4), (0, .ref (a 0)), (1, .int x1), (4, .int y2_4)]) hx hb dX6_best_58 rfl hl (by decide) rfl (fun ls hl => ?_)
            have hj := Option.some.inj hf
            subst hj
            exact J5 _ _ _ hW (lv_sub hl [3, 4, 0, 1, 5] rfl)
    exact L2 N (1 : Int32) (0 : Int32) (1 : Int32) hg _ _ _ hW (lv_sub hl [3, 4, 2, 1, 0] rfl)
  · replace hf := ifp hc hf
    refine lv_ldc (v := (-1000000001 : Int32)) hx hb hown fl114 dX6_best_14 ?_
    have ho := Option.some.inj hf
    subst ho
    exact x_reti (sz := 0) (w0 := []) (A1 := A) hx hb hr hlocks hK hW rfl rfl dX6_best_16
set_option maxHeartbeats 4000000 in
set_option maxRecDepth 100000 in
theorem c_X6_cover (l : Launch) (N : Nat) (kd : (Nat → Nat) × (Nat → Nat)) (G : va_G) (ct : Nat → ClassId) (a : Nat → Nat) (g : St_) (o : (Int32 × St_)) (hf : f_X6_cover N g = some o) : CtI l yX6_cover wsX6_cover ({ frames := 4, cells := 0, slots := 0, locals := 95 }) kd G ct [.ref (a 0)] (wX6 a ct g) o.1 (wX6 a ct o.2) := by
  intro sz
  refine Met.ofW (cc := cX6_cover) (maxL := 1) (ret := (some .int)) (by decide) rfl ?_
  intro p e s m args below meth c s₁ B hml hv
  obtain ⟨rfl, hsz, hP, hK, hD0, hE⟩ := hv
  have hx := B.exec
  have hb := B.bytes
  have hr := B.returns
  have hts := atoms_spec (ws := wsX6_cover) B.pre
  have hown : s.vm.findClass RX6 = some m.cls := findClass_of_methodNamed B.named
  have hlocks := B.notSynchronized
  have inX6 : ∀ w ∈ wsX60, w ∈ wsX6_cover := by decide +kernel
  have fl19 := hts (.fieldLink RX6 19 "FittingStrides" "now" "LFittingStrides$Town;") (by decide +kernel)
  subst hsz
  have hD := hD0.self (sz := s.heap.size)
  generalize hAe : va_A (wX6 a ct g) s.heap.size = A at hD hE ⊢
  have hA : ∀ q : Nat, s.heap.size ≤ q → A q := fun q h => by rw [← hAe]; exact Or.inr h
  have hW : WW G A s.heap (wX6 a ct g) s.heap [] := ⟨hP, hD, va_S.rf⟩
  have hl := lv_entry ([.ref (a 0)]) (n := 1) (Nat.le_of_ble_eq_true rfl)
  rw [lg_entry_eq]
  generalize (lg_sl ([.ref (a 0)]) ++ List.replicate (1 - (lg_sl ([.ref (a 0)])).length) Slot.unset).toArray = ls at hl ⊢
  have hl : lv_has ls 1 [(0, .ref (a 0))] := hl
  unfold f_X6_cover at hf
  show W p l e ({ frames := 4, cells := 0, slots := 0, locals := 95 } : Room) s m (List.toArray [.ref (a 0)]) below meth c s.heap [] 0 0 (MQ below (va_Qi (fun r (_ : Unit) => r = o.1) (fun _ t => Af_ G ct (wX6 a ct o.2) A t) A) (List.toArray [.ref (a 0)]) s 0 0 A) (F0 m 0 ls [])
  refine lv_aload_n hx hb dX6_cover_0 rfl (lv_at hl 0 rfl) ?_
  refine x_get (ci := 6) (v := .ref (a 26)) (C := RX6) (T := TX6) (N := 7) hx hb hts inX6 hown hK hW 0 rfl rfl 1 (by decide) fl19 (fun _ h9 => h9) rfl dX6_cover_1 ?_
  replace hf := bs_ hf; obtain ⟨r1, hcl, hf⟩ := hf
  refine x_callV_i (w' := (wX6 a ct (pu_ 26 19 g r1.2))) (As := []) (rest := []) (ci := 5) ⟨hx, hb, hml, hown, hts⟩ (c_X5_fewestClimbers l N kd G ct (sh_ 26 a) (sh_ 26 g) _ hcl) (cwV 0 hts gX6_cover_X5_fewestClimbers rfl rfl rfl (by decide +kernel) ⟨Nat.le_of_ble_eq_true rfl, Nat.le_of_ble_eq_true rfl⟩) hK hE hA hW ((wX6 a ct g).take 17) ((wX6 a ct g).drop 31) rfl rfl 0 rfl rfl rfl rfl hl.1 rfl (lv_room (Nat.le_of_ble_eq_true rfl)) dX6_cover_4 (fun H locs hW => ?_)
  have ho := Option.some.inj hf
  subst ho
  exact x_reti (sz := 0) (w0 := []) (A1 := A) hx hb hr hlocks hK hW rfl rfl dX6_cover_7
set_option maxHeartbeats 4000000 in
set_option maxRecDepth 100000 in
theorem c_X6_see (l : Launch) (N : Nat) (kd : (Nat → Nat) × (Nat → Nat)) (G : va_G) (ct : Nat → ClassId) (a : Nat → Nat) (g : St_) (x1 : Int32) (x2 : Int32) (x3 : Int32) (o : (Int32 × St_)) (hf : f_X6_see N g x1 x2 x3 = some o) : CtI l yX6_see wsX6_see ({ frames := 1, cells := 0, slots := 0, locals := 23 }) kd G ct [.ref (a 0), .int x1, .int x2, .int x3] (wX6 a ct g) o.1 (wX6 a ct o.2) := by
  intro sz
  refine Met.ofW (cc := cX6_see) (maxL := 4) (ret := (some .int)) (by decide) rfl ?_
  intro p e s m args below meth c s₁ B hml hv
  obtain ⟨rfl, hsz, hP, hK, hD0, hE⟩ := hv
  have hx := B.exec
  have hb := B.bytes
  have hr := B.returns
  have hts := atoms_spec (ws := wsX6_see) B.pre
  have hown : s.vm.findClass RX6 = some m.cls := findClass_of_methodNamed B.named
  have hlocks := B.notSynchronized
  have inX2 : ∀ w ∈ wsX20, w ∈ wsX6_see := by decide +kernel
  have inX5 : ∀ w ∈ wsX50, w ∈ wsX6_see := by decide +kernel
  have inX6 : ∀ w ∈ wsX60, w ∈ wsX6_see := by decide +kernel
  have fl19 := hts (.fieldLink RX6 19 "FittingStrides" "now" "LFittingStrides$Town;") (by decide +kernel)
  have fl37 := hts (.fieldLink RX6 37 "FittingStrides" "sights" "LFittingStrides$Sights;") (by decide +kernel)
  have fl56 := hts (.constant RX6 56 (-1000000004)) (by decide +kernel)
  have fl80 := hts (.fieldLink RX6 80 "FittingStrides$Sights" "count" "I") (by decide +kernel)
  have fl84 := hts (.fieldLink RX6 84 "FittingStrides$Town" "plan" "LFittingStrides$Plan;") (by decide +kernel)
  have fl114 := hts (.constant RX6 114 (-1000000001)) (by decide +kernel)
  subst hsz
  have hD := hD0.self (sz := s.heap.size)
  generalize hAe : va_A (wX6 a ct g) s.heap.size = A at hD hE ⊢
  have hA : ∀ q : Nat, s.heap.size ≤ q → A q := fun q h => by rw [← hAe]; exact Or.inr h
  have hW : WW G A s.heap (wX6 a ct g) s.heap [] := ⟨hP, hD, va_S.rf⟩
  have hl := lv_entry ([.ref (a 0), .int x1, .int x2, .int x3]) (n := 4) (Nat.le_of_ble_eq_true rfl)
  rw [lg_entry_eq]
  generalize (lg_sl ([.ref (a 0), .int x1, .int x2, .int x3]) ++ List.replicate (4 - (lg_sl ([.ref (a 0), .int x1, .int x2, .int x3])).length) Slot.unset).toArray = ls at hl ⊢
  have hl : lv_has ls 4 [(0, .ref (a 0)), (1, .int x1), (2, .int x2), (3, .int x3)] := hl
  unfold f_X6_see at hf
  show W p l e ({ frames := 1, cells := 0, slots := 0, locals := 23 } : Room) s m (List.toArray [.ref (a 0), .int x1, .int x2, .int x3]) below meth c s.heap [] 0 0 (MQ below (va_Qi (fun r (_ : Unit) => r = o.1) (fun _ t => Af_ G ct (wX6 a ct o.2) A t) A) (List.toArray [.ref (a 0), .int x1, .int x2, .int x3]) s 0 0 A) (F0 m 0 ls [])
  refine lv_aload_n hx hb dX6_see_0 rfl (lv_at hl 0 rfl) ?_
  refine x_get (ci := 6) (v := .ref (a 26)) (C := RX6) (T := TX6) (N := 7) hx hb hts inX6 hown hK hW 0 rfl rfl 1 (by decide) fl19 (fun _ h9 => h9) rfl dX6_see_1 ?_
  refine x_get (ci := 5) (v := .ref (a 27)) (C := RX5) (T := TX5) (N := 4) hx hb hts inX5 hown hK hW 17 rfl rfl 0 (by decide) fl84 (fun _ h9 => h9) rfl dX6_see_4 ?_
  refine lv_iload_n hx hb dX6_see_7 rfl (lv_at hl 1 rfl) ?_
  replace hf := bs_ hf; obtain ⟨r1, hcl, hf⟩ := hf
  refine x_callV_i (w' := (wX6 a ct g)) (As := [.int x1]) (rest := []) (ci := 1) ⟨hx, hb, hml, hown, hts⟩ (c_X1_hasPlace l N kd G ct (sh_ 27 a) (sh_ 27 g) x1 _ hcl) (cwV 1 hts gX6_see_X1_hasPlace rfl rfl rfl (by decide +kernel) ⟨Nat.le_of_ble_eq_true rfl, Nat.le_of_ble_eq_true rfl⟩) hK hE hA hW ((wX6 a ct g).take 18) ((wX6 a ct g).drop 23) rfl rfl 0 rfl rfl rfl rfl hl.1 rfl (lv_room (Nat.le_of_ble_eq_true rfl)) dX6_see_8 (fun H locs hW => ?_)
  refine lv_if_eq (tgt := 28) hx hb dX6_see_11 (by decide) (fun hc => ?_) (fun hc => ?_)
  · replace hf := ifp hc hf
    refine lv_ldc (v := (-1000000001 : Int32)) hx hb hown fl114 dX6_see_28 ?_
    have ho := Option.some.inj hf
    subst ho
    exact x_reti (sz := 0) (w0 := []) (A1 := A) hx hb hr hlocks hK hW rfl rfl dX6_see_30
  · replace hf := ifn hc hf
    refine lv_aload_n hx hb dX6_see_14 rfl (lv_at hl 0 rfl) ?_
    refine x_get (ci := 6) (v := .ref (a 26)) (C := RX6) (T := TX6) (N := 7) hx hb hts inX6 hown hK hW 0 rfl rfl 1 (by decide) fl19 (fun _ h9 => h9) rfl dX6_see_15 ?_
    refine x_get (ci := 5) (v := .ref (a 27)) (C := RX5) (T := TX5) (N := 4) hx hb hts inX5 hown hK hW 17 rfl rfl 0 (by decide) fl84 (fun _ h9 => h9) rfl dX6_see_18 ?_
    refine lv_iload_n hx hb dX6_see_21 rfl (lv_at hl 2 rfl) ?_
    replace hf := bs_ hf; obtain ⟨r2, hcl, hf⟩ := hf
    refine x_callV_i (w' := (wX6 a ct g)) (As := [.int x2]) (rest := []) (ci := 1) ⟨hx, hb, hml, hown, hts⟩ (c_X1_hasPlace l N kd G ct (sh_ 27 a) (sh_ 27 g) x2 _ hcl) (cwV 1 hts gX6_see_X1_hasPlace rfl rfl rfl (by decide +kernel) ⟨Nat.le_of_ble_eq_true rfl, Nat.le_of_ble_eq_true rfl⟩) hK hE hA hW ((wX6 a ct g).take 18) ((wX6 a ct g).drop 23) rfl rfl 0 rfl rfl rfl rfl hl.1 rfl (lv_room (Nat.le_of_ble_eq_true rfl)) dX6_see_22 (fun H locs hW => ?_)
    refine lv_if_ne (tgt := 31) hx hb dX6_see_25 (by decide) (fun hc => ?_) (fun hc => ?_)
    · replace hf := ifn hc hf
      refine lv_aload_n hx hb dX6_see_31 rfl (lv_at hl 0 rfl) ?_
      refine x_get (ci := 6) (v := .ref (a 65)) (C := RX6) (T := TX6) (N := 7) hx hb hts inX6 hown hK hW 0 rfl rfl 4 (by decide) fl37 (fun _ h9 => h9) rfl dX6_see_32 ?_
      refine x_get (ci := 2) (v := .int (g 66 0)) (C := RX2) (T := TX2) (N := 4) hx hb hts inX2 hown hK hW 45 rfl rfl 0 (by decide) fl80 (fun _ h9 => h9) rfl dX6_see_35 ?_
      refine lv_bipush (v := (20 : Int32)) hx hb dX6_see_38 (by decide) ?_
      refine lv_icmp_lt (tgt := 46) hx hb dX6_see_40 (by decide) (fun hc => ?_) (fun hc => ?_)
      · replace hf := ifp hc hf
        refine lv_aload_n hx hb dX6_see_46 rfl (lv_at hl 0 rfl) ?_
        refine x_get (ci := 6) (v := .ref (a 65)) (C := RX6) (T := TX6) (N := 7) hx hb hts inX6 hown hK hW 0 rfl rfl 4 (by decide) fl37 (fun _ h9 => h9) rfl dX6_see_47 ?_
        refine lv_iload_n hx hb dX6_see_50 rfl (lv_at hl 1 rfl) ?_
        refine lv_iload_n hx hb dX6_see_51 rfl (lv_at hl 2 rfl) ?_
        refine lv_iload_n hx hb dX6_see_52 rfl (lv_at hl 3 rfl) ?_
        replace hf := bs_ hf; obtain ⟨r3, hcl, hf⟩ := hf
        refine x_callV_v (w' := (wX6 a ct (pu_ 65 5 g r3))) (As := [.int x1, .int x2, .int x3]) (rest := []) (ci := 2) ⟨hx, hb, hml, hown, hts⟩ (c_X2_append l N kd G ct (sh_ 65 a) (sh_ 65 g) x1 x2 x3 _ hcl) (cwV 3 hts gX6_see_X2_append rfl rfl rfl (by decide +kernel) ⟨Nat.le_of_ble_eq_true rfl, Nat.le_of_ble_eq_true rfl⟩) hK hE hA hW ((wX6 a ct g).take 45) ((wX6 a ct g).drop 49) rfl rfl 0 rfl rfl rfl rfl hl.1 rfl (lv_room (Nat.le_of_ble_eq_true rfl)) dX6_see_53 (fun H locs hW => ?_)
        refine lv_aload_n hx hb dX6_see_56 rfl (lv_at hl 0 rfl) ?_
        refine x_get (ci := 6) (v := .ref (a 65)) (C := RX6) (T := TX6) (N := 7) hx hb hts inX6 hown hK hW 0 rfl rfl 4 (by decide) fl37 (fun _ h9 => h9) rfl dX6_see_57 ?_
        refine x_get (ci := 2) (v := .int (r3 1 0)) (C := RX2) (T := TX2) (N := 4) hx hb hts inX2 hown hK hW 45 rfl rfl 0 (by decide) fl80 (fun _ h9 => h9) rfl dX6_see_60 ?_
        have ho := Option.some.inj hf
        subst ho
        exact x_reti (sz := 0) (w0 := []) (A1 := A) hx hb hr hlocks hK hW rfl rfl dX6_see_63
      · replace hf := ifn hc hf
        refine lv_ldc (v := (-1000000004 : Int32)) hx hb hown fl56 dX6_see_43 ?_
        have ho := Option.some.inj hf
        subst ho
        exact x_reti (sz := 0) (w0 := []) (A1 := A) hx hb hr hlocks hK hW rfl rfl dX6_see_45
    · replace hf := ifp hc hf
      refine lv_ldc (v := (-1000000001 : Int32)) hx hb hown fl114 dX6_see_28 ?_
      have ho := Option.some.inj hf
      subst ho
      exact x_reti (sz := 0) (w0 := []) (A1 := A) hx hb hr hlocks hK hW rfl rfl dX6_see_30
set_option maxHeartbeats 4000000 in
set_option maxRecDepth 100000 in
theorem c_X6_fits (l : Launch) (N : Nat) (kd : (Nat → Nat) × (Nat → Nat)) (G : va_G) (ct : Nat → ClassId) (a : Nat → Nat) (g : St_) (o : Int32) (hf : f_X6_fits N g = some o) : CtI l yX6_fits wsX6_fits ({ frames := 5, cells := 0, slots := 0, locals := 121 }) kd G ct [.ref (a 0)] (wX6 a ct g) o (wX6 a ct g) := by
  intro sz
  refine Met.ofW (cc := cX6_fits) (maxL := 1) (ret := (some .int)) (by decide) rfl ?_
  intro p e s m args below meth c s₁ B hml hv
  obtain ⟨rfl, hsz, hP, hK, hD0, hE⟩ := hv
  have hx := B.exec
  have hb := B.bytes
  have hr := B.returns
  have hts := atoms_spec (ws := wsX6_fits) B.pre
  have hown : s.vm.findClass RX6 = some m.cls := findClass_of_methodNamed B.named
  have hlocks := B.notSynchronized
  have inX6 : ∀ w ∈ wsX60, w ∈ wsX6_fits := by decide +kernel
  have fl19 := hts (.fieldLink RX6 19 "FittingStrides" "now" "LFittingStrides$Town;") (by decide +kernel)
  have fl37 := hts (.fieldLink RX6 37 "FittingStrides" "sights" "LFittingStrides$Sights;") (by decide +kernel)
  subst hsz
  have hD := hD0.self (sz := s.heap.size)
  generalize hAe : va_A (wX6 a ct g) s.heap.size = A at hD hE ⊢
  have hA : ∀ q : Nat, s.heap.size ≤ q → A q := fun q h => by rw [← hAe]; exact Or.inr h
  have hW : WW G A s.heap (wX6 a ct g) s.heap [] := ⟨hP, hD, va_S.rf⟩
  have hl := lv_entry ([.ref (a 0)]) (n := 1) (Nat.le_of_ble_eq_true rfl)
  rw [lg_entry_eq]
  generalize (lg_sl ([.ref (a 0)]) ++ List.replicate (1 - (lg_sl ([.ref (a 0)])).length) Slot.unset).toArray = ls at hl ⊢
  have hl : lv_has ls 1 [(0, .ref (a 0))] := hl
  unfold f_X6_fits at hf
  show W p l e ({ frames := 5, cells := 0, slots := 0, locals := 121 } : Room) s m (List.toArray [.ref (a 0)]) below meth c s.heap [] 0 0 (MQ below (va_Qi (fun r (_ : Unit) => r = o) (fun _ t => Af_ G ct (wX6 a ct g) A t) A) (List.toArray [.ref (a 0)]) s 0 0 A) (F0 m 0 ls [])
  refine lv_aload_n hx hb dX6_fits_0 rfl (lv_at hl 0 rfl) ?_
  refine x_get (ci := 6) (v := .ref (a 65)) (C := RX6) (T := TX6) (N := 7) hx hb hts inX6 hown hK hW 0 rfl rfl 4 (by decide) fl37 (fun _ h9 => h9) rfl dX6_fits_1 ?_
  refine lv_aload_n hx hb dX6_fits_4 rfl (lv_at hl 0 rfl) ?_
  refine x_get (ci := 6) (v := .ref (a 26)) (C := RX6) (T := TX6) (N := 7) hx hb hts inX6 hown hK hW 0 rfl rfl 1 (by decide) fl19 (fun _ h9 => h9) rfl dX6_fits_5 ?_
  replace hf := bs_ hf; obtain ⟨r1, hcl, hf⟩ := hf
  refine x_callP_i (w' := (wX6 a ct g)) (As := [.ref (a 26)]) (rest := []) (ci := 2) ⟨hx, hb, hml, hown, hts⟩ (c_X2_stridesAsSeen l N kd G ct (ca_ 5 (sh_ 65 a) (sh_ 26 a)) (ca_ 5 (sh_ 65 g) (sh_ 26 g)) _ hcl) (cwV 1 hts gX6_fits_X2_stridesAsSeen rfl rfl rfl (by decide +kernel) ⟨Nat.le_of_ble_eq_true rfl, Nat.le_of_ble_eq_true rfl⟩) hK hE hA hW [45, 46, 47, 48, 17, 18, 19, 20, 21, 22, 23, 24, 25, 26, 27, 28, 29, 30, 0, 1, 2, 3, 4, 5, 6, 7, 8, 9, 10, 11, 12, 13, 14, 15, 16, 31, 32, 33, 34, 35, 36, 37, 38, 39, 40, 41, 42, 43, 44, 49, 50, 51, 52] [18, 19, 20, 21, 22, 23, 24, 25, 26, 27, 28, 29, 30, 31, 32, 33, 34, 4, 5, 6, 7, 8, 9, 10, 11, 12, 13, 14, 15, 16, 17, 35, 36, 37, 38, 39, 40, 41, 42, 43, 44, 45, 46, 47, 48, 0, 1, 2, 3, 49, 50, 51, 52] (wr := ([0, 1, 2, 3, 4, 5, 6, 7, 8, 9, 10, 11, 12, 13, 14, 15, 16, 31, 32, 33, 34, 35, 36, 37, 38, 39, 40, 41, 42, 43, 44, 49, 50, 51, 52] : List Nat).filterMap (fun i => (wX6 a ct g)[i]?)) rfl rfl rfl rfl 0 rfl rfl rfl rfl hl.1 rfl (lv_room (Nat.le_of_ble_eq_true rfl)) dX6_fits_8 (fun H locs hW => ?_)
  have ho := Option.some.inj hf
  subst ho
  exact x_reti (sz := 0) (w0 := []) (A1 := A) hx hb hr hlocks hK hW rfl rfl dX6_fits_11
set_option maxHeartbeats 4000000 in
set_option maxRecDepth 100000 in
theorem c_X6_ask (l : Launch) (N : Nat) (kd : (Nat → Nat) × (Nat → Nat)) (G : va_G) (ct : Nat → ClassId) (a : Nat → Nat) (g : St_) (o : Int32) (hf : f_X6_ask N g = some o) : CtI l yX6_ask wsX6_ask ({ frames := 5, cells := 0, slots := 0, locals := 121 }) kd G ct [.ref (a 0)] (wX6 a ct g) o (wX6 a ct g) := by
  intro sz
  refine Met.ofW (cc := cX6_ask) (maxL := 8) (ret := (some .int)) (by decide) rfl ?_
  intro p e s m args below meth c s₁ B hml hv
  obtain ⟨rfl, hsz, hP, hK, hD0, hE⟩ := hv
  have hx := B.exec
  have hb := B.bytes
  have hr := B.returns
  have hts := atoms_spec (ws := wsX6_ask) B.pre
  have hown : s.vm.findClass RX6 = some m.cls := findClass_of_methodNamed B.named
  have hlocks := B.notSynchronized
  have inX1 : ∀ w ∈ wsX10, w ∈ wsX6_ask := by decide +kernel
  have inX5 : ∀ w ∈ wsX50, w ∈ wsX6_ask := by decide +kernel
  have inX6 : ∀ w ∈ wsX60, w ∈ wsX6_ask := by decide +kernel
  have fl19 := hts (.fieldLink RX6 19 "FittingStrides" "now" "LFittingStrides$Town;") (by decide +kernel)
  have fl37 := hts (.fieldLink RX6 37 "FittingStrides" "sights" "LFittingStrides$Sights;") (by decide +kernel)
  have fl84 := hts (.fieldLink RX6 84 "FittingStrides$Town" "plan" "LFittingStrides$Plan;") (by decide +kernel)
  have fl93 := hts (.fieldLink RX6 93 "FittingStrides$Plan" "stairs" "I") (by decide +kernel)
  subst hsz
  have hD := hD0.self (sz := s.heap.size)
  generalize hAe : va_A (wX6 a ct g) s.heap.size = A at hD hE ⊢
  have hA : ∀ q : Nat, s.heap.size ≤ q → A q := fun q h => by rw [← hAe]; exact Or.inr h
  have hW : WW G A s.heap (wX6 a ct g) s.heap [] := ⟨hP, hD, va_S.rf⟩
  have hl := lv_entry ([.ref (a 0)]) (n := 8) (Nat.le_of_ble_eq_true rfl)
  rw [lg_entry_eq]
  generalize (lg_sl ([.ref (a 0)]) ++ List.replicate (8 - (lg_sl ([.ref (a 0)])).length) Slot.unset).toArray = ls at hl ⊢
  have hl : lv_has ls 8 [(0, .ref (a 0))] := hl
  unfold f_X6_ask at hf
  show W p l e ({ frames := 5, cells := 0, slots := 0, locals := 121 } : Room) s m (List.toArray [.ref (a 0)]) below meth c s.heap [] 0 0 (MQ below (va_Qi (fun r (_ : Unit) => r = o) (fun _ t => Af_ G ct (wX6 a ct g) A t) A) (List.toArray [.ref (a 0)]) s 0 0 A) (F0 m 0 ls [])
  refine lv_aload_n hx hb dX6_ask_0 rfl (lv_at hl 0 rfl) ?_
  refine x_get (ci := 6) (v := .ref (a 65)) (C := RX6) (T := TX6) (N := 7) hx hb hts inX6 hown hK hW 0 rfl rfl 4 (by decide) fl37 (fun _ h9 => h9) rfl dX6_ask_1 ?_
  refine lv_aload_n hx hb dX6_ask_4 rfl (lv_at hl 0 rfl) ?_
  refine x_get (ci := 6) (v := .ref (a 26)) (C := RX6) (T := TX6) (N := 7) hx hb hts inX6 hown hK hW 0 rfl rfl 1 (by decide) fl19 (fun _ h9 => h9) rfl dX6_ask_5 ?_
  replace hf := bs_ hf; obtain ⟨r1, hcl, hf⟩ := hf
  refine x_callP_i (w' := (wX6 a ct g)) (As := [.ref (a 26)]) (rest := []) (ci := 2) ⟨hx, hb, hml, hown, hts⟩ (c_X2_stridesAsSeen l N kd G ct (ca_ 5 (sh_ 65 a) (sh_ 26 a)) (ca_ 5 (sh_ 65 g) (sh_ 26 g)) _ hcl) (cwV 1 hts gX6_ask_X2_stridesAsSeen rfl rfl rfl (by decide +kernel) ⟨Nat.le_of_ble_eq_true rfl, Nat.le_of_ble_eq_true rfl⟩) hK hE hA hW [45, 46, 47, 48, 17, 18, 19, 20, 21, 22, 23, 24, 25, 26, 27, 28, 29, 30, 0, 1, 2, 3, 4, 5, 6, 7, 8, 9, 10, 11, 12, 13, 14, 15, 16, 31, 32, 33, 34, 35, 36, 37, 38, 39, 40, 41, 42, 43, 44, 49, 50, 51, 52] [18, 19, 20, 21, 22, 23, 24, 25, 26, 27, 28, 29, 30, 31, 32, 33, 34, 4, 5, 6, 7, 8, 9, 10, 11, 12, 13, 14, 15, 16, 17, 35, 36, 37, 38, 39, 40, 41, 42, 43, 44, 45, 46, 47, 48, 0, 1, 2, 3, 49, 50, 51, 52] (wr := ([0, 1, 2, 3, 4, 5, 6, 7, 8, 9, 10, 11, 12, 13, 14, 15, 16, 31, 32, 33, 34, 35, 36, 37, 38, 39, 40, 41, 42, 43, 44, 49, 50, 51, 52] : List Nat).filterMap (fun i => (wX6 a ct g)[i]?)) rfl rfl rfl rfl 0 rfl rfl rfl rfl hl.1 rfl (lv_room (Nat.le_of_ble_eq_true rfl)) dX6_ask_8 (fun H locs hW => ?_)
  refine lv_istore_n (lv' := [(1, .int r1), (0, .ref (a 0))]) hx hb dX6_ask_11 rfl hl (by decide) rfl (fun ls hl => ?_)
  refine lv_iload_n hx hb dX6_ask_12 rfl (lv_at hl 0 rfl) ?_
  replace hf := bs_ hf; obtain ⟨r2, hcl, hf⟩ := hf
  refine x_callS_i (As := [.int r1]) (rest := []) ⟨hx, hb, hml, hown, hts⟩ (c_J6_bitCount_0f7a4 l N kd G ct r1 _ hcl) (va_cwS 1 hts gX6_ask_J6_bitCount_0f7a4 rfl rfl rfl (by decide +kernel) ⟨Nat.le_of_ble_eq_true rfl, Nat.le_of_ble_eq_true rfl⟩) hK hE hA hW rfl hl.1 rfl (lv_room (Nat.le_of_ble_eq_true rfl)) dX6_ask_13 (fun H locs hW => ?_)
  refine lv_istore_n (lv' := [(2, .int r2), (1, .int r1), (0, .ref (a 0))]) hx hb dX6_ask_16 rfl hl (by decide) rfl (fun ls hl => ?_)
  refine lv_iconst (v := (-1 : Int32)) hx hb dX6_ask_17 (by decide) ?_
  refine lv_istore_n (lv' := [(3, .int (-1 : Int32)), (2, .int r2), (1, .int r1), (0, .ref (a 0))]) hx hb dX6_ask_18 rfl hl (by decide) rfl (fun ls hl => ?_)
  refine lv_bipush (v := (25 : Int32)) hx hb dX6_ask_19 (by decide) ?_
  refine lv_istore (lv' := [(4, .int (25 : Int32)), (3, .int (-1 : Int32)), (2, .int r2), (1, .int r1), (0, .ref (a 0))]) hx hb dX6_ask_21 hl (by decide) rfl (fun ls hl => ?_)
  refine lv_iconst (v := (0 : Int32)) hx hb dX6_ask_23 (by decide) ?_
  refine lv_istore (lv' := [(5, .int (0 : Int32)), (4, .int (25 : Int32)), (3, .int (-1 : Int32)), (2, .int r2), (1, .int r1), (0, .ref (a 0))]) hx hb dX6_ask_24 hl (by decide) rfl (fun ls hl => ?_)
  replace hf := bs_ hf; obtain ⟨v3, hg, hf⟩ := hf
  have J3 : ∀ (H : Heap) (locs : List Loc) (ls : Array Slot), WW G A s.heap (wX6 a ct g) H locs → lv_has ls 8 [(3, .int v3)] → W p l e ({ frames := 5, cells := 0, slots := 0, locals := 121 } : Room) s m (List.toArray [.ref (a 0)]) below meth c H locs 0 0 (MQ below (va_Qi (fun r (_ : Unit) => r = o) (fun _ t => Af_ G ct (wX6 a ct g) A t) A) (List.toArray [.ref (a 0)]) s 0 0 A) (F0 m 99 ls []) := by
    intro H locs ls hW hl
    refine lv_iload_n hx hb dX6_ask_99 rfl (lv_at hl 0 rfl) ?_
    have ho := Option.some.inj hf
    subst ho
    exact x_reti (sz := 0) (w0 := []) (A1 := A) hx hb hr hlocks hK hW rfl rfl dX6_ask_100
  clear hf
  have L3 : ∀ (n : Nat) (y3_3 : Int32) (y3_4 : Int32) (y3_5 : Int32), f_X6_ask_L26 N g r1 r2 n y3_3 y3_4 y3_5 = some v3 → ∀ (H : Heap) (locs : List Loc) (ls : Array Slot), WW G A s.heap (wX6 a ct g) H locs → lv_has ls 8 [(0, .ref (a 0)), (1, .int r1), (2, .int r2), (3, .int y3_3), (4, .int y3_4), (5, .int y3_5)] → W p l e ({ frames := 5, cells := 0, slots := 0, locals := 121 } : Room) s m (List.toArray [.ref (a 0)]) below meth c H locs 0 0 (MQ below (va_Qi (fun r (_ : Unit) => r = o) (fun _ t => Af_ G ct (wX6 a ct g) A t) A) (List.toArray [.ref (a 0)]) s 0 0 A) (F0 m 26 ls []) := by
    intro n
    induction n with
    | zero =>
      intro y3_3 y3_4 y3_5 hf
      rw [f_X6_ask_L26] at hf
      cases hf
    | succ n ih =>
      intro y3_3 y3_4 y3_5 hf H locs ls hW hl
      rw [f_X6_ask_L26] at hf
      refine lv_iload hx hb dX6_ask_26 (lv_at hl 5 rfl) ?_
      refine lv_aload_n hx hb dX6_ask_28 rfl (lv_at hl 0 rfl) ?_
      refine x_get (ci := 6) (v := .ref (a 26)) (C := RX6) (T := TX6) (N := 7) hx hb hts inX6 hown hK hW 0 rfl rfl 1 (by decide) fl19 (fun _ h9 => h9) rfl dX6_ask_29 ?_
      refine x_get (ci := 5) (v := .ref (a 27)) (C := RX5) (T := TX5) (N := 4) hx hb hts inX5 hown hK hW 17 rfl rfl 0 (by decide) fl84 (fun _ h9 => h9) rfl dX6_ask_32 ?_
      refine x_get (ci := 1) (v := .int (g 29 0)) (C := RX1) (T := TX1) (N := 6) hx hb hts inX1 hown hK hW 18 rfl rfl 1 (by decide) fl93 (fun _ h9 => h9) rfl dX6_ask_35 ?_
      refine lv_icmp_ge (tgt := 99) hx hb dX6_ask_38 (by decide) (fun hc => ?_) (fun hc => ?_)
      · replace hf := ifp hc hf
        have hj := Option.some.inj hf
        subst hj
        exact J3 _ _ _ hW (lv_sub hl [3] rfl)
      · replace hf := ifn hc hf
        refine lv_iload_n hx hb dX6_ask_41 rfl (lv_at hl 1 rfl) ?_
        refine lv_aload_n hx hb dX6_ask_42 rfl (lv_at hl 0 rfl) ?_
        refine x_get (ci := 6) (v := .ref (a 26)) (C := RX6) (T := TX6) (N := 7) hx hb hts inX6 hown hK hW 0 rfl rfl 1 (by decide) fl19 (fun _ h9 => h9) rfl dX6_ask_43 ?_
        refine lv_iload hx hb dX6_ask_46 (lv_at hl 5 rfl) ?_
        replace hf := bs_ hf; obtain ⟨r4, hcl, hf⟩ := hf
        refine x_callV_i (w' := (wX6 a ct g)) (As := [.int y3_5]) (rest := [.int r1]) (ci := 5) ⟨hx, hb, hml, hown, hts⟩ (c_X5_stridesThatFit l N kd G ct (sh_ 26 a) (sh_ 26 g) y3_5 _ hcl) (cwV 1 hts gX6_ask_X5_stridesThatFit rfl rfl rfl (by decide +kernel) ⟨Nat.le_of_ble_eq_true rfl, Nat.le_of_ble_eq_true rfl⟩) hK hE hA hW ((wX6 a ct g).take 17) ((wX6 a ct g).drop 31) rfl rfl 0 rfl rfl rfl rfl hl.1 rfl (lv_room (Nat.le_of_ble_eq_true rfl)) dX6_ask_48 (fun H locs hW => ?_)
        refine lv_iand hx hb dX6_ask_51 ?_
        replace hf := bs_ hf; obtain ⟨r5, hcl, hf⟩ := hf
        refine x_callS_i (As := [.int (r1 &&& r4)]) (rest := []) ⟨hx, hb, hml, hown, hts⟩ (c_J6_bitCount_0f7a4 l N kd G ct (r1 &&& r4) _ hcl) (va_cwS 1 hts gX6_ask_J6_bitCount_0f7a4 rfl rfl rfl (by decide +kernel) ⟨Nat.le_of_ble_eq_true rfl, Nat.le_of_ble_eq_true rfl⟩) hK hE hA hW rfl hl.1 rfl (lv_room (Nat.le_of_ble_eq_true rfl)) dX6_ask_52 (fun H locs hW => ?_)
        refine lv_istore (lv' := [(6, .int r5), (0, .ref (a 0)), (1, .int r1), (2, .int r2), (3, .int y3_3), (4, .int y3_4), (5, .int y3_5)]) hx hb dX6_ask_55 hl (by decide) rfl (fun ls hl => ?_)
        refine lv_iload_n hx hb dX6_ask_57 rfl (lv_at hl 3 rfl) ?_
        refine lv_iconst (v := (2 : Int32)) hx hb dX6_ask_58 (by decide) ?_
        refine lv_iload hx hb dX6_ask_59 (lv_at hl 0 rfl) ?_
        refine lv_imul hx hb dX6_ask_61 ?_
        refine lv_isub hx hb dX6_ask_62 ?_
        refine va_mabs hx hb (hml.trans hl.1.symm) hown (hts (.methodLink RX6 222 Lib.Math.abs.name) (by decide +kernel)) (hts (.static Lib.Math.abs.name) (by decide +kernel)) (hts (.initialized "java/lang/Math") (by decide +kernel)) (hts (.code Lib.Math.abs.name Lib.Math.abs.code 1 (some .int)) (by decide +kernel)) (Nat.le_of_ble_eq_true rfl) (Nat.le_of_ble_eq_true rfl) (Nat.le_refl _) (Nat.le_refl _) dX6_ask_63 ?_
        refine lv_istore (lv' := [(7, .int (if 0 ≤ (r2 - ((2 : Int32) * r5)) then (r2 - ((2 : Int32) * r5)) else 0 - (r2 - ((2 : Int32) * r5)))), (6, .int r5), (0, .ref (a 0)), (1, .int r1), (2, .int r2), (3, .int y3_3), (4, .int y3_4), (5, .int y3_5)]) hx hb dX6_ask_66 hl (by decide) rfl (fun ls hl => ?_)
        refine lv_iload hx hb dX6_ask_68 (lv_at hl 1 rfl) ?_
        replace hf := bs_ hf; obtain ⟨j6, hg, hf⟩ := hf
        have J6 : ∀ (H : Heap) (locs : List Loc) (ls : Array Slot), WW G A s.heap (wX6 a ct g) H locs → lv_has ls 8 [(0, .ref (a 0)), (1, .int r1), (2, .int r2), (3, .int j6.1), (4, .int j6.2), (5, .int y3_5)] → W p l e ({ frames := 5, cells := 0, slots := 0, locals := 121 } : Room) s m (List.toArray [.ref (a 0)]) below meth c H locs 0 0 (MQ below (va_Qi (fun r (_ : Unit) => r = o) (fun _ t => Af_ G ct (wX6 a ct g) A t) A) (List.toArray [.ref (a 0)]) s 0 0 A) (F0 m 93 ls ([])) := by
          intro H locs ls hW hl
          refine lv_iinc (v := (y3_5 + (1 : Int32))) (lv' := [(5, .int (y3_5 + (1 : Int32))), (0, .ref (a 0)), (1, .int r1), (2, .int r2), (3, .int j6.1), (4, .int j6.2)]) hx hb dX6_ask_93 hl (k := 5) rfl rfl (by decide) rfl (fun ls hl => ?_)
          refine lv_goto (tgt := 26) hx hb dX6_ask_96 (by decide) ?_
          exact ih j6.1 j6.2 (y3_5 + (1 : Int32)) hf _ _ _ hW (lv_sub hl [1, 2, 3, 4, 5, 0] rfl)
        clear hf
        refine lv_if_le (tgt := 93) hx hb dX6_ask_70 (by decide) (fun hc => ?_) (fun hc => ?_)
        · have hf := ifp hc hg
          clear hg
          have hj := Option.some.inj hf
          subst hj
          exact J6 _ _ _ hW (lv_sub hl [2, 3, 4, 5, 6, 7] rfl)
        · have hf := ifn hc hg
          clear hg
          refine lv_iload hx hb dX6_ask_73 (lv_at hl 1 rfl) ?_
          refine lv_iload_n hx hb dX6_ask_75 rfl (lv_at hl 4 rfl) ?_
          refine lv_icmp_ge (tgt := 93) hx hb dX6_ask_76 (by decide) (fun hc => ?_) (fun hc => ?_)
          · replace hf := ifp hc hf
            have hj := Option.some.inj hf
            subst hj
            exact J6 _ _ _ hW (lv_sub hl [2, 3, 4, 5, 6, 7] rfl)
          · replace hf := ifn hc hf
            refine lv_iload hx hb dX6_ask_79 (lv_at hl 0 rfl) ?_
            refine lv_iload hx hb dX6_ask_81 (lv_at hl 6 rfl) ?_
            refine lv_icmp_ge (tgt := 93) hx hb dX6_ask_83 (by decide) (fun hc => ?_) (fun hc => ?_)
            · replace hf := ifp hc hf
              have hj := Option.some.inj hf
              subst hj
              exact J6 _ _ _ hW (lv_sub hl [2, 3, 4, 5, 6, 7] rfl)
            · replace hf := ifn hc hf
              refine lv_iload hx hb dX6_ask_86 (lv_at hl 0 rfl) ?_
              refine lv_istore (lv' := [(4, .int (if 0 ≤ (r2 - ((2 : Int32) * r5)) then (r2 - ((2 : Int32) * r5)) else 0 - (r2 - ((2 : Int32) * r5)))), (7, .int (if 0 ≤ (r2 - ((2 : Int32) * r5)) then (r2 - ((2 : Int32) * r5)) else 0 - (r2 - ((2 : Int32) * r5)))), (6, .int r5), (0, .ref (a 0)), (1, .int r1), (2, .int r2), (3, .int y3_3), (5, .int y3_5)]) hx hb dX6_ask_88 hl (by decide) rfl (fun ls hl => ?_)
              refine lv_iload hx hb dX6_ask_90 (lv_at hl 7 rfl) ?_
              refine lv_istore_n (lv' := [(3, .int y3_5), (4, .int (if 0 ≤ (r2 - ((2 : Int32) * r5)) then (r2 - ((2 : Int32) * r5)) else 0 - (r2 - ((2 : Int32) * r5)))), (7, .int (if 0 ≤ (r2 - ((2 : Int32) * r5)) then (r2 - ((2 : Int32) * r5)) else 0 - (r2 - ((2 : Int32) * r5)))), (6, .int r5), (0, .ref (a 0)), (1, .int r1), (2, .int r2), (5, .int y3_5)]) hx hb dX6_ask_92 rfl hl (by decide) rfl (fun ls hl => ?_)
              have hj := Option.some.inj hf
              subst hj
              exact J6 _ _ _ hW (lv_sub hl [4, 5, 6, 0, 1, 7] rfl)
  exact L3 N (-1 : Int32) (25 : Int32) (0 : Int32) hg _ _ _ hW (lv_sub hl [5, 4, 3, 2, 1, 0] rfl)
set_option maxHeartbeats 4000000 in
set_option maxRecDepth 100000 in
theorem c_X6_write (l : Launch) (N : Nat) (kd : (Nat → Nat) × (Nat → Nat)) (G : va_G) (ct : Nat → ClassId) (a : Nat → Nat) (g : St_) (x1 : Int32) (x2 : Int32) (o : (Int32 × St_)) (hf : f_X6_write N g x1 x2 = some o) : CtI l yX6_write wsX6_write ({ frames := 1, cells := 0, slots := 0, locals := 22 }) kd G ct [.ref (a 0), .int x1, .int x2] (wX6 a ct g) o.1 (wX6 a ct o.2) := by
  intro sz
  refine Met.ofW (cc := cX6_write) (maxL := 3) (ret := (some .int)) (by decide) rfl ?_
  intro p e s m args below meth c s₁ B hml hv
  obtain ⟨rfl, hsz, hP, hK, hD0, hE⟩ := hv
  have hx := B.exec
  have hb := B.bytes
  have hr := B.returns
  have hts := atoms_spec (ws := wsX6_write) B.pre
  have hown : s.vm.findClass RX6 = some m.cls := findClass_of_methodNamed B.named
  have hlocks := B.notSynchronized
  have inX0 : ∀ w ∈ wsX00, w ∈ wsX6_write := by decide +kernel
  have inX5 : ∀ w ∈ wsX50, w ∈ wsX6_write := by decide +kernel
  have inX6 : ∀ w ∈ wsX60, w ∈ wsX6_write := by decide +kernel
  have fl19 := hts (.fieldLink RX6 19 "FittingStrides" "now" "LFittingStrides$Town;") (by decide +kernel)
  have fl44 := hts (.fieldLink RX6 44 "FittingStrides" "book" "LFittingStrides$Book;") (by decide +kernel)
  have fl56 := hts (.constant RX6 56 (-1000000004)) (by decide +kernel)
  have fl83 := hts (.fieldLink RX6 83 "FittingStrides$Book" "count" "I") (by decide +kernel)
  have fl84 := hts (.fieldLink RX6 84 "FittingStrides$Town" "plan" "LFittingStrides$Plan;") (by decide +kernel)
  have fl96 := hts (.fieldLink RX6 96 "FittingStrides$Town" "state" "LFittingStrides$State;") (by decide +kernel)
  have fl114 := hts (.constant RX6 114 (-1000000001)) (by decide +kernel)
  subst hsz
  have hD := hD0.self (sz := s.heap.size)
  generalize hAe : va_A (wX6 a ct g) s.heap.size = A at hD hE ⊢
  have hA : ∀ q : Nat, s.heap.size ≤ q → A q := fun q h => by rw [← hAe]; exact Or.inr h
  have hW : WW G A s.heap (wX6 a ct g) s.heap [] := ⟨hP, hD, va_S.rf⟩
  have hl := lv_entry ([.ref (a 0), .int x1, .int x2]) (n := 3) (Nat.le_of_ble_eq_true rfl)
  rw [lg_entry_eq]
  generalize (lg_sl ([.ref (a 0), .int x1, .int x2]) ++ List.replicate (3 - (lg_sl ([.ref (a 0), .int x1, .int x2])).length) Slot.unset).toArray = ls at hl ⊢
  have hl : lv_has ls 3 [(0, .ref (a 0)), (1, .int x1), (2, .int x2)] := hl
  unfold f_X6_write at hf
  show W p l e ({ frames := 1, cells := 0, slots := 0, locals := 22 } : Room) s m (List.toArray [.ref (a 0), .int x1, .int x2]) below meth c s.heap [] 0 0 (MQ below (va_Qi (fun r (_ : Unit) => r = o.1) (fun _ t => Af_ G ct (wX6 a ct o.2) A t) A) (List.toArray [.ref (a 0), .int x1, .int x2]) s 0 0 A) (F0 m 0 ls [])
  refine lv_aload_n hx hb dX6_write_0 rfl (lv_at hl 0 rfl) ?_
  refine x_get (ci := 6) (v := .ref (a 26)) (C := RX6) (T := TX6) (N := 7) hx hb hts inX6 hown hK hW 0 rfl rfl 1 (by decide) fl19 (fun _ h9 => h9) rfl dX6_write_1 ?_
  refine x_get (ci := 5) (v := .ref (a 34)) (C := RX5) (T := TX5) (N := 4) hx hb hts inX5 hown hK hW 17 rfl rfl 1 (by decide) fl96 (fun _ h9 => h9) rfl dX6_write_4 ?_
  refine lv_iload_n hx hb dX6_write_7 rfl (lv_at hl 1 rfl) ?_
  replace hf := bs_ hf; obtain ⟨r1, hcl, hf⟩ := hf
  refine x_callV_i (w' := (wX6 a ct g)) (As := [.int x1]) (rest := []) (ci := 3) ⟨hx, hb, hml, hown, hts⟩ (c_X3_hasPerson l N kd G ct (sh_ 34 a) (sh_ 34 g) x1 _ hcl) (cwV 1 hts gX6_write_X3_hasPerson rfl rfl rfl (by decide +kernel) ⟨Nat.le_of_ble_eq_true rfl, Nat.le_of_ble_eq_true rfl⟩) hK hE hA hW ((wX6 a ct g).take 23) ((wX6 a ct g).drop 29) rfl rfl 0 rfl rfl rfl rfl hl.1 rfl (lv_room (Nat.le_of_ble_eq_true rfl)) dX6_write_8 (fun H locs hW => ?_)
  refine lv_if_eq (tgt := 28) hx hb dX6_write_11 (by decide) (fun hc => ?_) (fun hc => ?_)
  · replace hf := ifp hc hf
    refine lv_ldc (v := (-1000000001 : Int32)) hx hb hown fl114 dX6_write_28 ?_
    have ho := Option.some.inj hf
    subst ho
    exact x_reti (sz := 0) (w0 := []) (A1 := A) hx hb hr hlocks hK hW rfl rfl dX6_write_30
  · replace hf := ifn hc hf
    refine lv_aload_n hx hb dX6_write_14 rfl (lv_at hl 0 rfl) ?_
    refine x_get (ci := 6) (v := .ref (a 26)) (C := RX6) (T := TX6) (N := 7) hx hb hts inX6 hown hK hW 0 rfl rfl 1 (by decide) fl19 (fun _ h9 => h9) rfl dX6_write_15 ?_
    refine x_get (ci := 5) (v := .ref (a 27)) (C := RX5) (T := TX5) (N := 4) hx hb hts inX5 hown hK hW 17 rfl rfl 0 (by decide) fl84 (fun _ h9 => h9) rfl dX6_write_18 ?_
    refine lv_iload_n hx hb dX6_write_21 rfl (lv_at hl 2 rfl) ?_
    replace hf := bs_ hf; obtain ⟨r2, hcl, hf⟩ := hf
    refine x_callV_i (w' := (wX6 a ct g)) (As := [.int x2]) (rest := []) (ci := 1) ⟨hx, hb, hml, hown, hts⟩ (c_X1_hasStair l N kd G ct (sh_ 27 a) (sh_ 27 g) x2 _ hcl) (cwV 1 hts gX6_write_X1_hasStair rfl rfl rfl (by decide +kernel) ⟨Nat.le_of_ble_eq_true rfl, Nat.le_of_ble_eq_true rfl⟩) hK hE hA hW ((wX6 a ct g).take 18) ((wX6 a ct g).drop 23) rfl rfl 0 rfl rfl rfl rfl hl.1 rfl (lv_room (Nat.le_of_ble_eq_true rfl)) dX6_write_22 (fun H locs hW => ?_)
    refine lv_if_ne (tgt := 31) hx hb dX6_write_25 (by decide) (fun hc => ?_) (fun hc => ?_)
    · replace hf := ifn hc hf
      refine lv_aload_n hx hb dX6_write_31 rfl (lv_at hl 0 rfl) ?_
      refine x_get (ci := 6) (v := .ref (a 70)) (C := RX6) (T := TX6) (N := 7) hx hb hts inX6 hown hK hW 0 rfl rfl 5 (by decide) fl44 (fun _ h9 => h9) rfl dX6_write_32 ?_
      refine x_get (ci := 0) (v := .int (g 71 0)) (C := RX0) (T := TX0) (N := 4) hx hb hts inX0 hown hK hW 49 rfl rfl 0 (by decide) fl83 (fun _ h9 => h9) rfl dX6_write_35 ?_
      refine lv_bipush (v := (40 : Int32)) hx hb dX6_write_38 (by decide) ?_
      refine lv_icmp_lt (tgt := 46) hx hb dX6_write_40 (by decide) (fun hc => ?_) (fun hc => ?_)
      · replace hf := ifp hc hf
        refine lv_aload_n hx hb dX6_write_46 rfl (lv_at hl 0 rfl) ?_
        refine x_get (ci := 6) (v := .ref (a 70)) (C := RX6) (T := TX6) (N := 7) hx hb hts inX6 hown hK hW 0 rfl rfl 5 (by decide) fl44 (fun _ h9 => h9) rfl dX6_write_47 ?_
        refine lv_iload_n hx hb dX6_write_50 rfl (lv_at hl 1 rfl) ?_
        refine lv_iload_n hx hb dX6_write_51 rfl (lv_at hl 2 rfl) ?_
        replace hf := bs_ hf; obtain ⟨r3, hcl, hf⟩ := hf
        refine x_callV_v (w' := (wX6 a ct (pu_ 70 5 g r3))) (As := [.int x1, .int x2]) (rest := []) (ci := 0) ⟨hx, hb, hml, hown, hts⟩ (c_X0_append l N kd G ct (sh_ 70 a) (sh_ 70 g) x1 x2 _ hcl) (cwV 2 hts gX6_write_X0_append rfl rfl rfl (by decide +kernel) ⟨Nat.le_of_ble_eq_true rfl, Nat.le_of_ble_eq_true rfl⟩) hK hE hA hW ((wX6 a ct g).take 49) ((wX6 a ct g).drop 53) rfl rfl 0 rfl rfl rfl rfl hl.1 rfl (lv_room (Nat.le_of_ble_eq_true rfl)) dX6_write_52 (fun H locs hW => ?_)
        refine lv_aload_n hx hb dX6_write_55 rfl (lv_at hl 0 rfl) ?_
        refine x_get (ci := 6) (v := .ref (a 70)) (C := RX6) (T := TX6) (N := 7) hx hb hts inX6 hown hK hW 0 rfl rfl 5 (by decide) fl44 (fun _ h9 => h9) rfl dX6_write_56 ?_
        refine x_get (ci := 0) (v := .int (r3 1 0)) (C := RX0) (T := TX0) (N := 4) hx hb hts inX0 hown hK hW 49 rfl rfl 0 (by decide) fl83 (fun _ h9 => h9) rfl dX6_write_59 ?_
        have ho := Option.some.inj hf
        subst ho
        exact x_reti (sz := 0) (w0 := []) (A1 := A) hx hb hr hlocks hK hW rfl rfl dX6_write_62
      · replace hf := ifn hc hf
        refine lv_ldc (v := (-1000000004 : Int32)) hx hb hown fl56 dX6_write_43 ?_
        have ho := Option.some.inj hf
        subst ho
        exact x_reti (sz := 0) (w0 := []) (A1 := A) hx hb hr hlocks hK hW rfl rfl dX6_write_45
    · replace hf := ifp hc hf
      refine lv_ldc (v := (-1000000001 : Int32)) hx hb hown fl114 dX6_write_28 ?_
      have ho := Option.some.inj hf
      subst ho
      exact x_reti (sz := 0) (w0 := []) (A1 := A) hx hb hr hlocks hK hW rfl rfl dX6_write_30
set_option maxHeartbeats 4000000 in
set_option maxRecDepth 100000 in
theorem c_X6_tear (l : Launch) (N : Nat) (kd : (Nat → Nat) × (Nat → Nat)) (G : va_G) (ct : Nat → ClassId) (a : Nat → Nat) (g : St_) (o : (Int32 × St_)) (hf : f_X6_tear N g = some o) : CtI l yX6_tear wsX6_tear ({ frames := 0, cells := 0, slots := 0, locals := 0 }) kd G ct [.ref (a 0)] (wX6 a ct g) o.1 (wX6 a ct o.2) := by
  intro sz
  refine Met.ofW (cc := cX6_tear) (maxL := 2) (ret := (some .int)) (by decide) rfl ?_
  intro p e s m args below meth c s₁ B hml hv
  obtain ⟨rfl, hsz, hP, hK, hD0, hE⟩ := hv
  have hx := B.exec
  have hb := B.bytes
  have hr := B.returns
  have hts := atoms_spec (ws := wsX6_tear) B.pre
  have hown : s.vm.findClass RX6 = some m.cls := findClass_of_methodNamed B.named
  have hlocks := B.notSynchronized
  have inX0 : ∀ w ∈ wsX00, w ∈ wsX6_tear := by decide +kernel
  have inX2 : ∀ w ∈ wsX20, w ∈ wsX6_tear := by decide +kernel
  have inX6 : ∀ w ∈ wsX60, w ∈ wsX6_tear := by decide +kernel
  have fl37 := hts (.fieldLink RX6 37 "FittingStrides" "sights" "LFittingStrides$Sights;") (by decide +kernel)
  have fl44 := hts (.fieldLink RX6 44 "FittingStrides" "book" "LFittingStrides$Book;") (by decide +kernel)
  have fl80 := hts (.fieldLink RX6 80 "FittingStrides$Sights" "count" "I") (by decide +kernel)
  have fl83 := hts (.fieldLink RX6 83 "FittingStrides$Book" "count" "I") (by decide +kernel)
  subst hsz
  have hD := hD0.self (sz := s.heap.size)
  generalize hAe : va_A (wX6 a ct g) s.heap.size = A at hD hE ⊢
  have hA : ∀ q : Nat, s.heap.size ≤ q → A q := fun q h => by rw [← hAe]; exact Or.inr h
  have hW : WW G A s.heap (wX6 a ct g) s.heap [] := ⟨hP, hD, va_S.rf⟩
  have hl := lv_entry ([.ref (a 0)]) (n := 2) (Nat.le_of_ble_eq_true rfl)
  rw [lg_entry_eq]
  generalize (lg_sl ([.ref (a 0)]) ++ List.replicate (2 - (lg_sl ([.ref (a 0)])).length) Slot.unset).toArray = ls at hl ⊢
  have hl : lv_has ls 2 [(0, .ref (a 0))] := hl
  unfold f_X6_tear at hf
  show W p l e ({ frames := 0, cells := 0, slots := 0, locals := 0 } : Room) s m (List.toArray [.ref (a 0)]) below meth c s.heap [] 0 0 (MQ below (va_Qi (fun r (_ : Unit) => r = o.1) (fun _ t => Af_ G ct (wX6 a ct o.2) A t) A) (List.toArray [.ref (a 0)]) s 0 0 A) (F0 m 0 ls [])
  refine lv_aload_n hx hb dX6_tear_0 rfl (lv_at hl 0 rfl) ?_
  refine x_get (ci := 6) (v := .ref (a 70)) (C := RX6) (T := TX6) (N := 7) hx hb hts inX6 hown hK hW 0 rfl rfl 5 (by decide) fl44 (fun _ h9 => h9) rfl dX6_tear_1 ?_
  refine x_get (ci := 0) (v := .int (g 71 0)) (C := RX0) (T := TX0) (N := 4) hx hb hts inX0 hown hK hW 49 rfl rfl 0 (by decide) fl83 (fun _ h9 => h9) rfl dX6_tear_4 ?_
  refine lv_aload_n hx hb dX6_tear_7 rfl (lv_at hl 0 rfl) ?_
  refine x_get (ci := 6) (v := .ref (a 65)) (C := RX6) (T := TX6) (N := 7) hx hb hts inX6 hown hK hW 0 rfl rfl 4 (by decide) fl37 (fun _ h9 => h9) rfl dX6_tear_8 ?_
  refine x_get (ci := 2) (v := .int (g 66 0)) (C := RX2) (T := TX2) (N := 4) hx hb hts inX2 hown hK hW 45 rfl rfl 0 (by decide) fl80 (fun _ h9 => h9) rfl dX6_tear_11 ?_
  refine lv_iadd hx hb dX6_tear_14 ?_
  refine lv_istore_n (lv' := [(1, .int ((g 71 0) + (g 66 0))), (0, .ref (a 0))]) hx hb dX6_tear_15 rfl hl (by decide) rfl (fun ls hl => ?_)
  refine lv_aload_n hx hb dX6_tear_16 rfl (lv_at hl 1 rfl) ?_
  refine x_get (ci := 6) (v := .ref (a 70)) (C := RX6) (T := TX6) (N := 7) hx hb hts inX6 hown hK hW 0 rfl rfl 5 (by decide) fl44 (fun _ h9 => h9) rfl dX6_tear_17 ?_
  refine lv_iconst (v := (0 : Int32)) hx hb dX6_tear_20 (by decide) ?_
  refine x_put (w' := (wX6 a ct (up1 g 71 0 (0 : Int32)))) (ci := 0) (v := .int (0 : Int32)) (ty := .int) (C := RX0) (T := TX0) (N := 4) hx hb hts inX0 tyX0 tyX0_ok nmX0 hown hK hW 49 rfl rfl 0 (by decide) fl83 (fun _ h9 => h9) rfl (by decide +kernel) rfl rfl (Nat.le_of_ble_eq_true rfl) rfl dX6_tear_21 (fun H locs hW => ?_)
  refine lv_aload_n hx hb dX6_tear_24 rfl (lv_at hl 1 rfl) ?_
  refine x_get (ci := 6) (v := .ref (a 65)) (C := RX6) (T := TX6) (N := 7) hx hb hts inX6 hown hK hW 0 rfl rfl 4 (by decide) fl37 (fun _ h9 => h9) rfl dX6_tear_25 ?_
  refine lv_iconst (v := (0 : Int32)) hx hb dX6_tear_28 (by decide) ?_
  refine x_put (w' := (wX6 a ct (up1 (up1 g 71 0 (0 : Int32)) 66 0 (0 : Int32)))) (ci := 2) (v := .int (0 : Int32)) (ty := .int) (C := RX2) (T := TX2) (N := 4) hx hb hts inX2 tyX2 tyX2_ok nmX2 hown hK hW 45 rfl rfl 0 (by decide) fl80 (fun _ h9 => h9) rfl (by decide +kernel) rfl rfl (Nat.le_of_ble_eq_true rfl) rfl dX6_tear_29 (fun H locs hW => ?_)
  refine lv_iload_n hx hb dX6_tear_32 rfl (lv_at hl 0 rfl) ?_
  have ho := Option.some.inj hf
  subst ho
  exact x_reti (sz := 0) (w0 := []) (A1 := A) hx hb hr hlocks hK hW rfl rfl dX6_tear_33
set_option maxHeartbeats 4000000 in
set_option maxRecDepth 100000 in
theorem c_X6_judge (l : Launch) (N : Nat) (kd : (Nat → Nat) × (Nat → Nat)) (G : va_G) (ct : Nat → ClassId) (a : Nat → Nat) (g : St_) (o : (Int32 × St_)) (hf : f_X6_judge N g = some o) : CtI l yX6_judge wsX6_judge ({ frames := 5, cells := 0, slots := 0, locals := 118 }) kd G ct [.ref (a 0)] (wX6 a ct g) o.1 (wX6 a ct o.2) := by
  intro sz
  refine Met.ofW (cc := cX6_judge) (maxL := 1) (ret := (some .int)) (by decide) rfl ?_
  intro p e s m args below meth c s₁ B hml hv
  obtain ⟨rfl, hsz, hP, hK, hD0, hE⟩ := hv
  have hx := B.exec
  have hb := B.bytes
  have hr := B.returns
  have hts := atoms_spec (ws := wsX6_judge) B.pre
  have hown : s.vm.findClass RX6 = some m.cls := findClass_of_methodNamed B.named
  have hlocks := B.notSynchronized
  have inX6 : ∀ w ∈ wsX60, w ∈ wsX6_judge := by decide +kernel
  have fl19 := hts (.fieldLink RX6 19 "FittingStrides" "now" "LFittingStrides$Town;") (by decide +kernel)
  have fl44 := hts (.fieldLink RX6 44 "FittingStrides" "book" "LFittingStrides$Book;") (by decide +kernel)
  subst hsz
  have hD := hD0.self (sz := s.heap.size)
  generalize hAe : va_A (wX6 a ct g) s.heap.size = A at hD hE ⊢
  have hA : ∀ q : Nat, s.heap.size ≤ q → A q := fun q h => by rw [← hAe]; exact Or.inr h
  have hW : WW G A s.heap (wX6 a ct g) s.heap [] := ⟨hP, hD, va_S.rf⟩
  have hl := lv_entry ([.ref (a 0)]) (n := 1) (Nat.le_of_ble_eq_true rfl)
  rw [lg_entry_eq]
  generalize (lg_sl ([.ref (a 0)]) ++ List.replicate (1 - (lg_sl ([.ref (a 0)])).length) Slot.unset).toArray = ls at hl ⊢
  have hl : lv_has ls 1 [(0, .ref (a 0))] := hl
  unfold f_X6_judge at hf
  show W p l e ({ frames := 5, cells := 0, slots := 0, locals := 118 } : Room) s m (List.toArray [.ref (a 0)]) below meth c s.heap [] 0 0 (MQ below (va_Qi (fun r (_ : Unit) => r = o.1) (fun _ t => Af_ G ct (wX6 a ct o.2) A t) A) (List.toArray [.ref (a 0)]) s 0 0 A) (F0 m 0 ls [])
  refine lv_aload_n hx hb dX6_judge_0 rfl (lv_at hl 0 rfl) ?_
  refine x_get (ci := 6) (v := .ref (a 70)) (C := RX6) (T := TX6) (N := 7) hx hb hts inX6 hown hK hW 0 rfl rfl 5 (by decide) fl44 (fun _ h9 => h9) rfl dX6_judge_1 ?_
  refine lv_aload_n hx hb dX6_judge_4 rfl (lv_at hl 0 rfl) ?_
  refine x_get (ci := 6) (v := .ref (a 26)) (C := RX6) (T := TX6) (N := 7) hx hb hts inX6 hown hK hW 0 rfl rfl 1 (by decide) fl19 (fun _ h9 => h9) rfl dX6_judge_5 ?_
  replace hf := bs_ hf; obtain ⟨r1, hcl, hf⟩ := hf
  refine x_callP_i (w' := (wX6 a ct (pu_ 70 5 (pu_ 26 19 g (sh_ 5 r1.2)) r1.2))) (As := [.ref (a 26)]) (rest := []) (ci := 0) ⟨hx, hb, hml, hown, hts⟩ (c_X0_firstWrong l N kd G ct (ca_ 5 (sh_ 70 a) (sh_ 26 a)) (ca_ 5 (sh_ 70 g) (sh_ 26 g)) _ hcl) (cwV 1 hts gX6_judge_X0_firstWrong rfl rfl rfl (by decide +kernel) ⟨Nat.le_of_ble_eq_true rfl, Nat.le_of_ble_eq_true rfl⟩) hK hE hA hW [49, 50, 51, 52, 17, 18, 19, 20, 21, 22, 23, 24, 25, 26, 27, 28, 29, 30, 0, 1, 2, 3, 4, 5, 6, 7, 8, 9, 10, 11, 12, 13, 14, 15, 16, 31, 32, 33, 34, 35, 36, 37, 38, 39, 40, 41, 42, 43, 44, 45, 46, 47, 48] [18, 19, 20, 21, 22, 23, 24, 25, 26, 27, 28, 29, 30, 31, 32, 33, 34, 4, 5, 6, 7, 8, 9, 10, 11, 12, 13, 14, 15, 16, 17, 35, 36, 37, 38, 39, 40, 41, 42, 43, 44, 45, 46, 47, 48, 49, 50, 51, 52, 0, 1, 2, 3] (wr := ([0, 1, 2, 3, 4, 5, 6, 7, 8, 9, 10, 11, 12, 13, 14, 15, 16, 31, 32, 33, 34, 35, 36, 37, 38, 39, 40, 41, 42, 43, 44, 45, 46, 47, 48] : List Nat).filterMap (fun i => (wX6 a ct g)[i]?)) rfl rfl rfl rfl 0 rfl rfl rfl rfl hl.1 rfl (lv_room (Nat.le_of_ble_eq_true rfl)) dX6_judge_8 (fun H locs hW => ?_)
  have ho := Option.some.inj hf
  subst ho
  exact x_reti (sz := 0) (w0 := []) (A1 := A) hx hb hr hlocks hK hW rfl rfl dX6_judge_11
set_option maxHeartbeats 4000000 in
set_option maxRecDepth 100000 in
theorem c_X6_seed (l : Launch) (N : Nat) (kd : (Nat → Nat) × (Nat → Nat)) (G : va_G) (ct : Nat → ClassId) (a : Nat → Nat) (g : St_) (x1 : Int32) (o : (Int32 × St_)) (hf : f_X6_seed N g x1 = some o) : CtI l yX6_seed wsX6_seed ({ frames := 0, cells := 0, slots := 0, locals := 0 }) kd G ct [.ref (a 0), .int x1] (wX6 a ct g) o.1 (wX6 a ct o.2) := by
  intro sz
  refine Met.ofW (cc := cX6_seed) (maxL := 3) (ret := (some .int)) (by decide) rfl ?_
  intro p e s m args below meth c s₁ B hml hv
  obtain ⟨rfl, hsz, hP, hK, hD0, hE⟩ := hv
  have hx := B.exec
  have hb := B.bytes
  have hr := B.returns
  have hts := atoms_spec (ws := wsX6_seed) B.pre
  have hown : s.vm.findClass RX6 = some m.cls := findClass_of_methodNamed B.named
  have hlocks := B.notSynchronized
  have inX3 : ∀ w ∈ wsX30, w ∈ wsX6_seed := by decide +kernel
  have inX5 : ∀ w ∈ wsX50, w ∈ wsX6_seed := by decide +kernel
  have inX6 : ∀ w ∈ wsX60, w ∈ wsX6_seed := by decide +kernel
  have fl19 := hts (.fieldLink RX6 19 "FittingStrides" "now" "LFittingStrides$Town;") (by decide +kernel)
  have fl52 := hts (.constant RX6 52 (-1000000002)) (by decide +kernel)
  have fl96 := hts (.fieldLink RX6 96 "FittingStrides$Town" "state" "LFittingStrides$State;") (by decide +kernel)
  have fl233 := hts (.fieldLink RX6 233 "FittingStrides$State" "seed" "I") (by decide +kernel)
  subst hsz
  have hD := hD0.self (sz := s.heap.size)
  generalize hAe : va_A (wX6 a ct g) s.heap.size = A at hD hE ⊢
  have hA : ∀ q : Nat, s.heap.size ≤ q → A q := fun q h => by rw [← hAe]; exact Or.inr h
  have hW : WW G A s.heap (wX6 a ct g) s.heap [] := ⟨hP, hD, va_S.rf⟩
  have hl := lv_entry ([.ref (a 0), .int x1]) (n := 3) (Nat.le_of_ble_eq_true rfl)
  rw [lg_entry_eq]
  generalize (lg_sl ([.ref (a 0), .int x1]) ++ List.replicate (3 - (lg_sl ([.ref (a 0), .int x1])).length) Slot.unset).toArray = ls at hl ⊢
  have hl : lv_has ls 3 [(0, .ref (a 0)), (1, .int x1)] := hl
  unfold f_X6_seed at hf
  show W p l e ({ frames := 0, cells := 0, slots := 0, locals := 0 } : Room) s m (List.toArray [.ref (a 0), .int x1]) below meth c s.heap [] 0 0 (MQ below (va_Qi (fun r (_ : Unit) => r = o.1) (fun _ t => Af_ G ct (wX6 a ct o.2) A t) A) (List.toArray [.ref (a 0), .int x1]) s 0 0 A) (F0 m 0 ls [])
  refine lv_iload_n hx hb dX6_seed_0 rfl (lv_at hl 1 rfl) ?_
  refine lv_if_ge (tgt := 7) hx hb dX6_seed_1 (by decide) (fun hc => ?_) (fun hc => ?_)
  · replace hf := ifp hc hf
    refine lv_aload_n hx hb dX6_seed_7 rfl (lv_at hl 0 rfl) ?_
    refine x_get (ci := 6) (v := .ref (a 26)) (C := RX6) (T := TX6) (N := 7) hx hb hts inX6 hown hK hW 0 rfl rfl 1 (by decide) fl19 (fun _ h9 => h9) rfl dX6_seed_8 ?_
    refine x_get (ci := 5) (v := .ref (a 34)) (C := RX5) (T := TX5) (N := 4) hx hb hts inX5 hown hK hW 17 rfl rfl 1 (by decide) fl96 (fun _ h9 => h9) rfl dX6_seed_11 ?_
    refine x_get (ci := 3) (v := .int (g 42 0)) (C := RX3) (T := TX3) (N := 8) hx hb hts inX3 hown hK hW 23 rfl rfl 7 (by decide) fl233 (fun _ h9 => h9) rfl dX6_seed_14 ?_
    refine lv_istore_n (lv' := [(2, .int (g 42 0)), (0, .ref (a 0)), (1, .int x1)]) hx hb dX6_seed_17 rfl hl (by decide) rfl (fun ls hl => ?_)
    refine lv_aload_n hx hb dX6_seed_18 rfl (lv_at hl 1 rfl) ?_
    refine x_get (ci := 6) (v := .ref (a 26)) (C := RX6) (T := TX6) (N := 7) hx hb hts inX6 hown hK hW 0 rfl rfl 1 (by decide) fl19 (fun _ h9 => h9) rfl dX6_seed_19 ?_
    refine x_get (ci := 5) (v := .ref (a 34)) (C := RX5) (T := TX5) (N := 4) hx hb hts inX5 hown hK hW 17 rfl rfl 1 (by decide) fl96 (fun _ h9 => h9) rfl dX6_seed_22 ?_
    refine lv_iload_n hx hb dX6_seed_25 rfl (lv_at hl 2 rfl) ?_
    refine x_put (w' := (wX6 a ct (up1 g 42 0 x1))) (ci := 3) (v := .int x1) (ty := .int) (C := RX3) (T := TX3) (N := 8) hx hb hts inX3 tyX3 tyX3_ok nmX3 hown hK hW 23 rfl rfl 7 (by decide) fl233 (fun _ h9 => h9) rfl (by decide +kernel) rfl rfl (Nat.le_of_ble_eq_true rfl) rfl dX6_seed_26 (fun H locs hW => ?_)
    refine lv_iload_n hx hb dX6_seed_29 rfl (lv_at hl 0 rfl) ?_
    have ho := Option.some.inj hf
    subst ho
    exact x_reti (sz := 0) (w0 := []) (A1 := A) hx hb hr hlocks hK hW rfl rfl dX6_seed_30
  · replace hf := ifn hc hf
    refine lv_ldc (v := (-1000000002 : Int32)) hx hb hown fl52 dX6_seed_4 ?_
    have ho := Option.some.inj hf
    subst ho
    exact x_reti (sz := 0) (w0 := []) (A1 := A) hx hb hr hlocks hK hW rfl rfl dX6_seed_6
set_option maxHeartbeats 4000000 in
set_option maxRecDepth 100000 in
theorem c_X6_isImage (l : Launch) (N : Nat) (kd : (Nat → Nat) × (Nat → Nat)) (G : va_G) (ct : Nat → ClassId) (x0 : Int32) (o : Int32) (hf : f_X6_isImage N x0 = some o) : CtI l yX6_isImage wsX6_isImage ({ frames := 0, cells := 0, slots := 0, locals := 0 }) kd G ct [.int x0] ([] : va_W) o ([] : va_W) := by
  intro sz
  refine Met.ofW (cc := cX6_isImage) (maxL := 1) (ret := (some .boolean)) (by decide) rfl ?_
  intro p e s m args below meth c s₁ B hml hv
  obtain ⟨rfl, hsz, hP, hK, hD0, hE⟩ := hv
  have hx := B.exec
  have hb := B.bytes
  have hr := B.returns
  have hts := atoms_spec (ws := wsX6_isImage) B.pre
  have hown : s.vm.findClass RX6 = some m.cls := findClass_of_methodNamed B.named
  have hlocks := B.notSynchronized
  subst hsz
  have hD := hD0.self (sz := s.heap.size)
  generalize hAe : va_A ([] : va_W) s.heap.size = A at hD hE ⊢
  have hA : ∀ q : Nat, s.heap.size ≤ q → A q := fun q h => by rw [← hAe]; exact Or.inr h
  have hW : WW G A s.heap ([] : va_W) s.heap [] := ⟨hP, hD, va_S.rf⟩
  have hl := lv_entry ([.int x0]) (n := 1) (Nat.le_of_ble_eq_true rfl)
  rw [lg_entry_eq]
  generalize (lg_sl ([.int x0]) ++ List.replicate (1 - (lg_sl ([.int x0])).length) Slot.unset).toArray = ls at hl ⊢
  have hl : lv_has ls 1 [(0, .int x0)] := hl
  unfold f_X6_isImage at hf
  show W p l e ({ frames := 0, cells := 0, slots := 0, locals := 0 } : Room) s m (List.toArray [.int x0]) below meth c s.heap [] 0 0 (MQ below (va_Qi (fun r (_ : Unit) => r = o) (fun _ t => Af_ G ct ([] : va_W) A t) A) (List.toArray [.int x0]) s 0 0 A) (F0 m 0 ls [])
  refine lv_iload_n hx hb dX6_isImage_0 rfl (lv_at hl 0 rfl) ?_
  refine lv_if_lt (tgt := 13) hx hb dX6_isImage_1 (by decide) (fun hc => ?_) (fun hc => ?_)
  · replace hf := ifp hc hf
    refine lv_iconst (v := (0 : Int32)) hx hb dX6_isImage_13 (by decide) ?_
    have ho := Option.some.inj hf
    subst ho
    exact x_retz hx hb hr rfl hlocks hK hW rfl rfl dX6_isImage_14
  · replace hf := ifn hc hf
    refine lv_iload_n hx hb dX6_isImage_4 rfl (lv_at hl 0 rfl) ?_
    refine lv_iconst (v := (2 : Int32)) hx hb dX6_isImage_5 (by decide) ?_
    refine lv_icmp_ge (tgt := 13) hx hb dX6_isImage_6 (by decide) (fun hc => ?_) (fun hc => ?_)
    · replace hf := ifp hc hf
      refine lv_iconst (v := (0 : Int32)) hx hb dX6_isImage_13 (by decide) ?_
      have ho := Option.some.inj hf
      subst ho
      exact x_retz hx hb hr rfl hlocks hK hW rfl rfl dX6_isImage_14
    · replace hf := ifn hc hf
      refine lv_iconst (v := (1 : Int32)) hx hb dX6_isImage_9 (by decide) ?_
      refine lv_goto (tgt := 14) hx hb dX6_isImage_10 (by decide) ?_
      have ho := Option.some.inj hf
      subst ho
      exact x_retz hx hb hr rfl hlocks hK hW rfl rfl dX6_isImage_14
set_option maxHeartbeats 4000000 in
set_option maxRecDepth 100000 in
theorem c_X6_keep (l : Launch) (N : Nat) (kd : (Nat → Nat) × (Nat → Nat)) (G : va_G) (ct : Nat → ClassId) (a : Nat → Nat) (g : St_) (x1 : Int32) (o : (Int32 × St_)) (hf : f_X6_keep N g x1 = some o) : CtI l yX6_keep wsX6_keep ({ frames := 2, cells := 0, slots := 0, locals := 44 }) kd G ct [.ref (a 0), .int x1] (wX6 a ct g) o.1 (wX6 a ct o.2) := by
  intro sz
  refine Met.ofW (cc := cX6_keep) (maxL := 2) (ret := (some .int)) (by decide) rfl ?_
  intro p e s m args below meth c s₁ B hml hv
  obtain ⟨rfl, hsz, hP, hK, hD0, hE⟩ := hv
  have hx := B.exec
  have hb := B.bytes
  have hr := B.returns
  have hts := atoms_spec (ws := wsX6_keep) B.pre
  have hown : s.vm.findClass RX6 = some m.cls := findClass_of_methodNamed B.named
  have hlocks := B.notSynchronized
  have inX5 : ∀ w ∈ wsX50, w ∈ wsX6_keep := by decide +kernel
  have inX6 : ∀ w ∈ wsX60, w ∈ wsX6_keep := by decide +kernel
  have fl19 := hts (.fieldLink RX6 19 "FittingStrides" "now" "LFittingStrides$Town;") (by decide +kernel)
  have fl25 := hts (.fieldLink RX6 25 "FittingStrides" "images" "[LFittingStrides$State;") (by decide +kernel)
  have fl30 := hts (.fieldLink RX6 30 "FittingStrides" "kept" "[Z") (by decide +kernel)
  have fl96 := hts (.fieldLink RX6 96 "FittingStrides$Town" "state" "LFittingStrides$State;") (by decide +kernel)
  have fl114 := hts (.constant RX6 114 (-1000000001)) (by decide +kernel)
  subst hsz
  have hD := hD0.self (sz := s.heap.size)
  generalize hAe : va_A (wX6 a ct g) s.heap.size = A at hD hE ⊢
  have hA : ∀ q : Nat, s.heap.size ≤ q → A q := fun q h => by rw [← hAe]; exact Or.inr h
  have hW : WW G A s.heap (wX6 a ct g) s.heap [] := ⟨hP, hD, va_S.rf⟩
  have hl := lv_entry ([.ref (a 0), .int x1]) (n := 2) (Nat.le_of_ble_eq_true rfl)
  rw [lg_entry_eq]
  generalize (lg_sl ([.ref (a 0), .int x1]) ++ List.replicate (2 - (lg_sl ([.ref (a 0), .int x1])).length) Slot.unset).toArray = ls at hl ⊢
  have hl : lv_has ls 2 [(0, .ref (a 0)), (1, .int x1)] := hl
  unfold f_X6_keep at hf
  show W p l e ({ frames := 2, cells := 0, slots := 0, locals := 44 } : Room) s m (List.toArray [.ref (a 0), .int x1]) below meth c s.heap [] 0 0 (MQ below (va_Qi (fun r (_ : Unit) => r = o.1) (fun _ t => Af_ G ct (wX6 a ct o.2) A t) A) (List.toArray [.ref (a 0), .int x1]) s 0 0 A) (F0 m 0 ls [])
  refine lv_iload_n hx hb dX6_keep_0 rfl (lv_at hl 1 rfl) ?_
  replace hf := bs_ hf; obtain ⟨r1, hcl, hf⟩ := hf
  refine x_callS_i (As := [.int x1]) (rest := []) ⟨hx, hb, hml, hown, hts⟩ (c_X6_isImage l N kd G ct x1 _ hcl) (va_cwS 1 hts gX6_keep_X6_isImage rfl rfl rfl (by decide +kernel) ⟨Nat.le_of_ble_eq_true rfl, Nat.le_of_ble_eq_true rfl⟩) hK hE hA hW rfl hl.1 rfl (lv_room (Nat.le_of_ble_eq_true rfl)) dX6_keep_1 (fun H locs hW => ?_)
  refine lv_if_ne (tgt := 10) hx hb dX6_keep_4 (by decide) (fun hc => ?_) (fun hc => ?_)
  · replace hf := ifn hc hf
    refine lv_aload_n hx hb dX6_keep_10 rfl (lv_at hl 0 rfl) ?_
    refine x_get (ci := 6) (v := .ref (a 45)) (C := RX6) (T := TX6) (N := 7) hx hb hts inX6 hown hK hW 0 rfl rfl 2 (by decide) fl25 (fun _ h9 => h9) rfl dX6_keep_11 ?_
    refine lv_iload_n hx hb dX6_keep_14 rfl (lv_at hl 1 rfl) ?_
    by_cases q0 : x1 = (0 : Int32)
    · have hf := ifp q0 hf
      refine va_aldq (n := 2) (f := imF (a 46) (a 55)) hx hb hK hW.1 31 3 rfl rfl (by rw [q0]; exact okI_in (by decide)) dX6_keep_15 ?_
      rw [q0]
      refine W.eq (g2 := F0 m 16 ls (.ref (a 46) :: [])) rfl ?_
      refine lv_aload_n hx hb dX6_keep_16 rfl (lv_at hl 0 rfl) ?_
      refine x_get (ci := 6) (v := .ref (a 26)) (C := RX6) (T := TX6) (N := 7) hx hb hts inX6 hown hK hW 0 rfl rfl 1 (by decide) fl19 (fun _ h9 => h9) rfl dX6_keep_17 ?_
      refine x_get (ci := 5) (v := .ref (a 34)) (C := RX5) (T := TX5) (N := 4) hx hb hts inX5 hown hK hW 17 rfl rfl 1 (by decide) fl96 (fun _ h9 => h9) rfl dX6_keep_20 ?_
      replace hf := bs_ hf; obtain ⟨r2, hcl, hf⟩ := hf
      refine x_callP_v (w' := (wX6 a ct (pu_ 46 9 (pu_ 34 9 g (sh_ 9 r2)) r2))) (As := [.ref (a 34)]) (rest := []) (ci := 3) ⟨hx, hb, hml, hown, hts⟩ (c_X3_become l N kd G ct (ca_ 9 (sh_ 46 a) (sh_ 34 a)) (ca_ 9 (sh_ 46 g) (sh_ 34 g)) _ hcl) (cwV 1 hts gX6_keep_X3_become rfl rfl rfl (by decide +kernel) ⟨Nat.le_of_ble_eq_true rfl, Nat.le_of_ble_eq_true rfl⟩) hK hE hA hW [32, 33, 34, 35, 36, 37, 23, 24, 25, 26, 27, 28, 0, 1, 2, 3, 4, 5, 6, 7, 8, 9, 10, 11, 12, 13, 14, 15, 16, 17, 18, 19, 20, 21, 22, 29, 30, 31, 38, 39, 40, 41, 42, 43, 44, 45, 46, 47, 48, 49, 50, 51, 52] [12, 13, 14, 15, 16, 17, 18, 19, 20, 21, 22, 23, 24, 25, 26, 27, 28, 29, 30, 31, 32, 33, 34, 6, 7, 8, 9, 10, 11, 35, 36, 37, 0, 1, 2, 3, 4, 5, 38, 39, 40, 41, 42, 43, 44, 45, 46, 47, 48, 49, 50, 51, 52] (wr := ([0, 1, 2, 3, 4, 5, 6, 7, 8, 9, 10, 11, 12, 13, 14, 15, 16, 17, 18, 19, 20, 21, 22, 29, 30, 31, 38, 39, 40, 41, 42, 43, 44, 45, 46, 47, 48, 49, 50, 51, 52] : List Nat).filterMap (fun i => (wX6 a ct g)[i]?)) rfl rfl rfl rfl 0 rfl rfl rfl rfl hl.1 rfl (lv_room (Nat.le_of_ble_eq_true rfl)) dX6_keep_23 (fun H locs hW => ?_)
      refine lv_aload_n hx hb dX6_keep_26 rfl (lv_at hl 0 rfl) ?_
      refine x_get (ci := 6) (v := .ref (a 64)) (C := RX6) (T := TX6) (N := 7) hx hb hts inX6 hown hK hW 0 rfl rfl 3 (by decide) fl30 (fun _ h9 => h9) rfl dX6_keep_27 ?_
      refine lv_iload_n hx hb dX6_keep_30 rfl (lv_at hl 1 rfl) ?_
      refine lv_iconst (v := (1 : Int32)) hx hb dX6_keep_31 (by decide) ?_
      replace hf := gd_s hf; obtain ⟨hin, hf⟩ := hf
      refine x_zast (w' := (wX6 a ct (up1 (pu_ 46 9 (pu_ 34 9 g (sh_ 9 r2)) r2) 64 x1.toNatClampNeg (vp_nar .boolean (1 : Int32))))) (n := 2) (f := (pu_ 46 9 (pu_ 34 9 g (sh_ 9 r2)) r2) 64) hx hb hK hW 44 rfl (okI_in hin) rfl dX6_keep_32 (fun H locs hW => ?_)
      refine lv_iconst (v := (1 : Int32)) hx hb dX6_keep_33 (by decide) ?_
      have ho := Option.some.inj hf
      subst ho
      exact x_reti (sz := 0) (w0 := []) (A1 := A) hx hb hr hlocks hK hW rfl rfl dX6_keep_34
    · have hf := ifn q0 hf
      by_cases q1 : x1 = (1 : Int32)
      · have hf := ifp q1 hf
        refine va_aldq (n := 2) (f := imF (a 46) (a 55)) hx hb hK hW.1 31 3 rfl rfl (by rw [q1]; exact okI_in (by decide)) dX6_keep_15 ?_
        rw [q1]
        refine W.eq (g2 := F0 m 16 ls (.ref (a 55) :: [])) rfl ?_
        refine lv_aload_n hx hb dX6_keep_16 rfl (lv_at hl 0 rfl) ?_
        refine x_get (ci := 6) (v := .ref (a 26)) (C := RX6) (T := TX6) (N := 7) hx hb hts inX6 hown hK hW 0 rfl rfl 1 (by decide) fl19 (fun _ h9 => h9) rfl dX6_keep_17 ?_
        refine x_get (ci := 5) (v := .ref (a 34)) (C := RX5) (T := TX5) (N := 4) hx hb hts inX5 hown hK hW 17 rfl rfl 1 (by decide) fl96 (fun _ h9 => h9) rfl dX6_keep_20 ?_
        replace hf := bs_ hf; obtain ⟨r3, hcl, hf⟩ := hf
        refine x_callP_v (w' := (wX6 a ct (pu_ 55 9 (pu_ 34 9 g (sh_ 9 r3)) r3))) (As := [.ref (a 34)]) (rest := []) (ci := 3) ⟨hx, hb, hml, hown, hts⟩ (c_X3_become l N kd G ct (ca_ 9 (sh_ 55 a) (sh_ 34 a)) (ca_ 9 (sh_ 55 g) (sh_ 34 g)) _ hcl) (cwV 1 hts gX6_keep_X3_become rfl rfl rfl (by decide +kernel) ⟨Nat.le_of_ble_eq_true rfl, Nat.le_of_ble_eq_true rfl⟩) hK hE hA hW [38, 39, 40, 41, 42, 43, 23, 24, 25, 26, 27, 28, 0, 1, 2, 3, 4, 5, 6, 7, 8, 9, 10, 11, 12, 13, 14, 15, 16, 17, 18, 19, 20, 21, 22, 29, 30, 31, 32, 33, 34, 35, 36, 37, 44, 45, 46, 47, 48, 49, 50, 51, 52] [12, 13, 14, 15, 16, 17, 18, 19, 20, 21, 22, 23, 24, 25, 26, 27, 28, 29, 30, 31, 32, 33, 34, 6, 7, 8, 9, 10, 11, 35, 36, 37, 38, 39, 40, 41, 42, 43, 0, 1, 2, 3, 4, 5, 44, 45, 46, 47, 48, 49, 50, 51, 52] (wr := ([0, 1, 2, 3, 4, 5, 6, 7, 8, 9, 10, 11, 12, 13, 14, 15, 16, 17, 18, 19, 20, 21, 22, 29, 30, 31, 32, 33, 34, 35, 36, 37, 44, 45, 46, 47, 48, 49, 50, 51, 52] : List Nat).filterMap (fun i => (wX6 a ct g)[i]?)) rfl rfl rfl rfl 0 rfl rfl rfl rfl hl.1 rfl (lv_room (Nat.le_of_ble_eq_true rfl)) dX6_keep_23 (fun H locs hW => ?_)
        refine lv_aload_n hx hb dX6_keep_26 rfl (lv_at hl 0 rfl) ?_
        refine x_get (ci := 6) (v := .ref (a 64)) (C := RX6) (T := TX6) (N := 7) hx hb hts inX6 hown hK hW 0 rfl rfl 3 (by decide) fl30 (fun _ h9 => h9) rfl dX6_keep_27 ?_
        refine lv_iload_n hx hb dX6_keep_30 rfl (lv_at hl 1 rfl) ?_
        refine lv_iconst (v := (1 : Int32)) hx hb dX6_keep_31 (by decide) ?_
        replace hf := gd_s hf; obtain ⟨hin, hf⟩ := hf
        refine x_zast (w' := (wX6 a ct (up1 (pu_ 55 9 (pu_ 34 9 g (sh_ 9 r3)) r3) 64 x1.toNatClampNeg (vp_nar .boolean (1 : Int32))))) (n := 2) (f := (pu_ 55 9 (pu_ 34 9 g (sh_ 9 r3)) r3) 64) hx hb hK hW 44 rfl (okI_in hin) rfl dX6_keep_32 (fun H locs hW => ?_)
        refine lv_iconst (v := (1 : Int32)) hx hb dX6_keep_33 (by decide) ?_
        have ho := Option.some.inj hf
        subst ho
        exact x_reti (sz := 0) (w0 := []) (A1 := A) hx hb hr hlocks hK hW rfl rfl dX6_keep_34
      · have hf := ifn q1 hf
        cases hf
  · replace hf := ifp hc hf
    refine lv_ldc (v := (-1000000001 : Int32)) hx hb hown fl114 dX6_keep_7 ?_
    have ho := Option.some.inj hf
    subst ho
    exact x_reti (sz := 0) (w0 := []) (A1 := A) hx hb hr hlocks hK hW rfl rfl dX6_keep_9
set_option maxHeartbeats 4000000 in
set_option maxRecDepth 100000 in
theorem c_X6_goBack (l : Launch) (N : Nat) (kd : (Nat → Nat) × (Nat → Nat)) (G : va_G) (ct : Nat → ClassId) (a : Nat → Nat) (g : St_) (x1 : Int32) (o : (Int32 × St_)) (hf : f_X6_goBack N g x1 = some o) : CtI l yX6_goBack wsX6_goBack ({ frames := 2, cells := 0, slots := 0, locals := 44 }) kd G ct [.ref (a 0), .int x1] (wX6 a ct g) o.1 (wX6 a ct o.2) := by
  intro sz
  refine Met.ofW (cc := cX6_goBack) (maxL := 2) (ret := (some .int)) (by decide) rfl ?_
  intro p e s m args below meth c s₁ B hml hv
  obtain ⟨rfl, hsz, hP, hK, hD0, hE⟩ := hv
  have hx := B.exec
  have hb := B.bytes
  have hr := B.returns
  have hts := atoms_spec (ws := wsX6_goBack) B.pre
  have hown : s.vm.findClass RX6 = some m.cls := findClass_of_methodNamed B.named
  have hlocks := B.notSynchronized
  have inX5 : ∀ w ∈ wsX50, w ∈ wsX6_goBack := by decide +kernel
  have inX6 : ∀ w ∈ wsX60, w ∈ wsX6_goBack := by decide +kernel
  have fl19 := hts (.fieldLink RX6 19 "FittingStrides" "now" "LFittingStrides$Town;") (by decide +kernel)
  have fl25 := hts (.fieldLink RX6 25 "FittingStrides" "images" "[LFittingStrides$State;") (by decide +kernel)
  have fl30 := hts (.fieldLink RX6 30 "FittingStrides" "kept" "[Z") (by decide +kernel)
  have fl96 := hts (.fieldLink RX6 96 "FittingStrides$Town" "state" "LFittingStrides$State;") (by decide +kernel)
  have fl114 := hts (.constant RX6 114 (-1000000001)) (by decide +kernel)
  have fl168 := hts (.constant RX6 168 (-1000000003)) (by decide +kernel)
  subst hsz
  have hD := hD0.self (sz := s.heap.size)
  generalize hAe : va_A (wX6 a ct g) s.heap.size = A at hD hE ⊢
  have hA : ∀ q : Nat, s.heap.size ≤ q → A q := fun q h => by rw [← hAe]; exact Or.inr h
  have hW : WW G A s.heap (wX6 a ct g) s.heap [] := ⟨hP, hD, va_S.rf⟩
  have hl := lv_entry ([.ref (a 0), .int x1]) (n := 2) (Nat.le_of_ble_eq_true rfl)
  rw [lg_entry_eq]
  generalize (lg_sl ([.ref (a 0), .int x1]) ++ List.replicate (2 - (lg_sl ([.ref (a 0), .int x1])).length) Slot.unset).toArray = ls at hl ⊢
  have hl : lv_has ls 2 [(0, .ref (a 0)), (1, .int x1)] := hl
  unfold f_X6_goBack at hf
  show W p l e ({ frames := 2, cells := 0, slots := 0, locals := 44 } : Room) s m (List.toArray [.ref (a 0), .int x1]) below meth c s.heap [] 0 0 (MQ below (va_Qi (fun r (_ : Unit) => r = o.1) (fun _ t => Af_ G ct (wX6 a ct o.2) A t) A) (List.toArray [.ref (a 0), .int x1]) s 0 0 A) (F0 m 0 ls [])
  refine lv_iload_n hx hb dX6_goBack_0 rfl (lv_at hl 1 rfl) ?_
  replace hf := bs_ hf; obtain ⟨r1, hcl, hf⟩ := hf
  refine x_callS_i (As := [.int x1]) (rest := []) ⟨hx, hb, hml, hown, hts⟩ (c_X6_isImage l N kd G ct x1 _ hcl) (va_cwS 1 hts gX6_goBack_X6_isImage rfl rfl rfl (by decide +kernel) ⟨Nat.le_of_ble_eq_true rfl, Nat.le_of_ble_eq_true rfl⟩) hK hE hA hW rfl hl.1 rfl (lv_room (Nat.le_of_ble_eq_true rfl)) dX6_goBack_1 (fun H locs hW => ?_)
  refine lv_if_ne (tgt := 10) hx hb dX6_goBack_4 (by decide) (fun hc => ?_) (fun hc => ?_)
  · replace hf := ifn hc hf
    refine lv_aload_n hx hb dX6_goBack_10 rfl (lv_at hl 0 rfl) ?_
    refine x_get (ci := 6) (v := .ref (a 64)) (C := RX6) (T := TX6) (N := 7) hx hb hts inX6 hown hK hW 0 rfl rfl 3 (by decide) fl30 (fun _ h9 => h9) rfl dX6_goBack_11 ?_
    refine lv_iload_n hx hb dX6_goBack_14 rfl (lv_at hl 1 rfl) ?_
    replace hf := gd_s hf; obtain ⟨hin, hf⟩ := hf
    refine x_zald (n := 2) (f := g 64) hx hb hK hW 44 rfl (okI_in hin) dX6_goBack_15 ?_
    refine lv_if_ne (tgt := 22) hx hb dX6_goBack_16 (by decide) (fun hc => ?_) (fun hc => ?_)
    · replace hf := ifn hc hf
      refine lv_aload_n hx hb dX6_goBack_22 rfl (lv_at hl 0 rfl) ?_
      refine x_get (ci := 6) (v := .ref (a 26)) (C := RX6) (T := TX6) (N := 7) hx hb hts inX6 hown hK hW 0 rfl rfl 1 (by decide) fl19 (fun _ h9 => h9) rfl dX6_goBack_23 ?_
      refine x_get (ci := 5) (v := .ref (a 34)) (C := RX5) (T := TX5) (N := 4) hx hb hts inX5 hown hK hW 17 rfl rfl 1 (by decide) fl96 (fun _ h9 => h9) rfl dX6_goBack_26 ?_
      refine lv_aload_n hx hb dX6_goBack_29 rfl (lv_at hl 0 rfl) ?_
      refine x_get (ci := 6) (v := .ref (a 45)) (C := RX6) (T := TX6) (N := 7) hx hb hts inX6 hown hK hW 0 rfl rfl 2 (by decide) fl25 (fun _ h9 => h9) rfl dX6_goBack_30 ?_
      refine lv_iload_n hx hb dX6_goBack_33 rfl (lv_at hl 1 rfl) ?_
      by_cases q0 : x1 = (0 : Int32)
      · have hf := ifp q0 hf
        refine va_aldq (n := 2) (f := imF (a 46) (a 55)) hx hb hK hW.1 31 3 rfl rfl (by rw [q0]; exact okI_in (by decide)) dX6_goBack_34 ?_
        rw [q0]
        refine W.eq (g2 := F0 m 35 ls (.ref (a 46) :: .ref (a 34) :: [])) rfl ?_
        replace hf := bs_ hf; obtain ⟨r2, hcl, hf⟩ := hf
        refine x_callP_v (w' := (wX6 a ct (pu_ 34 9 (pu_ 46 9 g (sh_ 9 r2)) r2))) (As := [.ref (a 46)]) (rest := []) (ci := 3) ⟨hx, hb, hml, hown, hts⟩ (c_X3_become l N kd G ct (ca_ 9 (sh_ 34 a) (sh_ 46 a)) (ca_ 9 (sh_ 34 g) (sh_ 46 g)) _ hcl) (cwV 1 hts gX6_goBack_X3_become rfl rfl rfl (by decide +kernel) ⟨Nat.le_of_ble_eq_true rfl, Nat.le_of_ble_eq_true rfl⟩) hK hE hA hW [23, 24, 25, 26, 27, 28, 32, 33, 34, 35, 36, 37, 0, 1, 2, 3, 4, 5, 6, 7, 8, 9, 10, 11, 12, 13, 14, 15, 16, 17, 18, 19, 20, 21, 22, 29, 30, 31, 38, 39, 40, 41, 42, 43, 44, 45, 46, 47, 48, 49, 50, 51, 52] [12, 13, 14, 15, 16, 17, 18, 19, 20, 21, 22, 23, 24, 25, 26, 27, 28, 29, 30, 31, 32, 33, 34, 0, 1, 2, 3, 4, 5, 35, 36, 37, 6, 7, 8, 9, 10, 11, 38, 39, 40, 41, 42, 43, 44, 45, 46, 47, 48, 49, 50, 51, 52] (wr := ([0, 1, 2, 3, 4, 5, 6, 7, 8, 9, 10, 11, 12, 13, 14, 15, 16, 17, 18, 19, 20, 21, 22, 29, 30, 31, 38, 39, 40, 41, 42, 43, 44, 45, 46, 47, 48, 49, 50, 51, 52] : List Nat).filterMap (fun i => (wX6 a ct g)[i]?)) rfl rfl rfl rfl 0 rfl rfl rfl rfl hl.1 rfl (lv_room (Nat.le_of_ble_eq_true rfl)) dX6_goBack_35 (fun H locs hW => ?_)
        refine lv_iconst (v := (1 : Int32)) hx hb dX6_goBack_38 (by decide) ?_
        have ho := Option.some.inj hf
        subst ho
        exact x_reti (sz := 0) (w0 := []) (A1 := A) hx hb hr hlocks hK hW rfl rfl dX6_goBack_39
      · have hf := ifn q0 hf
        by_cases q1 : x1 = (1 : Int32)
        · have hf := ifp q1 hf
          refine va_aldq (n := 2) (f := imF (a 46) (a 55)) hx hb hK hW.1 31 3 rfl rfl (by rw [q1]; exact okI_in (by decide)) dX6_goBack_34 ?_
          rw [q1]
          refine W.eq (g2 := F0 m 35 ls (.ref (a 55) :: .ref (a 34) :: [])) rfl ?_
          replace hf := bs_ hf; obtain ⟨r3, hcl, hf⟩ := hf
          refine x_callP_v (w' := (wX6 a ct (pu_ 34 9 (pu_ 55 9 g (sh_ 9 r3)) r3))) (As := [.ref (a 55)]) (rest := []) (ci := 3) ⟨hx, hb, hml, hown, hts⟩ (c_X3_become l N kd G ct (ca_ 9 (sh_ 34 a) (sh_ 55 a)) (ca_ 9 (sh_ 34 g) (sh_ 55 g)) _ hcl) (cwV 1 hts gX6_goBack_X3_become rfl rfl rfl (by decide +kernel) ⟨Nat.le_of_ble_eq_true rfl, Nat.le_of_ble_eq_true rfl⟩) hK hE hA hW [23, 24, 25, 26, 27, 28, 38, 39, 40, 41, 42, 43, 0, 1, 2, 3, 4, 5, 6, 7, 8, 9, 10, 11, 12, 13, 14, 15, 16, 17, 18, 19, 20, 21, 22, 29, 30, 31, 32, 33, 34, 35, 36, 37, 44, 45, 46, 47, 48, 49, 50, 51, 52] [12, 13, 14, 15, 16, 17, 18, 19, 20, 21, 22, 23, 24, 25, 26, 27, 28, 29, 30, 31, 32, 33, 34, 0, 1, 2, 3, 4, 5, 35, 36, 37, 38, 39, 40, 41, 42, 43, 6, 7, 8, 9, 10, 11, 44, 45, 46, 47, 48, 49, 50, 51, 52] (wr := ([0, 1, 2, 3, 4, 5, 6, 7, 8, 9, 10, 11, 12, 13, 14, 15, 16, 17, 18, 19, 20, 21, 22, 29, 30, 31, 32, 33, 34, 35, 36, 37, 44, 45, 46, 47, 48, 49, 50, 51, 52] : List Nat).filterMap (fun i => (wX6 a ct g)[i]?)) rfl rfl rfl rfl 0 rfl rfl rfl rfl hl.1 rfl (lv_room (Nat.le_of_ble_eq_true rfl)) dX6_goBack_35 (fun H locs hW => ?_)
          refine lv_iconst (v := (1 : Int32)) hx hb dX6_goBack_38 (by decide) ?_
          have ho := Option.some.inj hf
          subst ho
          exact x_reti (sz := 0) (w0 := []) (A1 := A) hx hb hr hlocks hK hW rfl rfl dX6_goBack_39
        · have hf := ifn q1 hf
          cases hf
    · replace hf := ifp hc hf
      refine lv_ldc (v := (-1000000003 : Int32)) hx hb hown fl168 dX6_goBack_19 ?_
      have ho := Option.some.inj hf
      subst ho
      exact x_reti (sz := 0) (w0 := []) (A1 := A) hx hb hr hlocks hK hW rfl rfl dX6_goBack_21
  · replace hf := ifp hc hf
    refine lv_ldc (v := (-1000000001 : Int32)) hx hb hown fl114 dX6_goBack_7 ?_
    have ho := Option.some.inj hf
    subst ho
    exact x_reti (sz := 0) (w0 := []) (A1 := A) hx hb hr hlocks hK hW rfl rfl dX6_goBack_9
set_option maxHeartbeats 4000000 in
set_option maxRecDepth 100000 in
theorem c_X7_in (l : Launch) (N : Nat) (kd : (Nat → Nat) × (Nat → Nat)) (G : va_G) (ct : Nat → ClassId) (x0 : Int64) (x2 : Int64) (x4 : Int64) (o : Int32) (hf : f_X7_in N x0 x2 x4 = some o) : CtI l yX7_in wsX7_in ({ frames := 0, cells := 0, slots := 0, locals := 0 }) kd G ct [.long x0, .long x2, .long x4] ([] : va_W) o ([] : va_W) := by
  intro sz
  refine Met.ofW (cc := cX7_in) (maxL := 6) (ret := (some .boolean)) (by decide) rfl ?_
  intro p e s m args below meth c s₁ B hml hv
  obtain ⟨rfl, hsz, hP, hK, hD0, hE⟩ := hv
  have hx := B.exec
  have hb := B.bytes
  have hr := B.returns
  have hts := atoms_spec (ws := wsX7_in) B.pre
  have hown : s.vm.findClass RX7 = some m.cls := findClass_of_methodNamed B.named
  have hlocks := B.notSynchronized
  subst hsz
  have hD := hD0.self (sz := s.heap.size)
  generalize hAe : va_A ([] : va_W) s.heap.size = A at hD hE ⊢
  have hA : ∀ q : Nat, s.heap.size ≤ q → A q := fun q h => by rw [← hAe]; exact Or.inr h
  have hW : WW G A s.heap ([] : va_W) s.heap [] := ⟨hP, hD, va_S.rf⟩
  have hl := lv_entry ([.long x0, .long x2, .long x4]) (n := 6) (Nat.le_of_ble_eq_true rfl)
  rw [lg_entry_eq]
  generalize (lg_sl ([.long x0, .long x2, .long x4]) ++ List.replicate (6 - (lg_sl ([.long x0, .long x2, .long x4])).length) Slot.unset).toArray = ls at hl ⊢
  have hl : lv_has ls 6 [(0, .long x0), (2, .long x2), (4, .long x4)] := hl
  unfold f_X7_in at hf
  show W p l e ({ frames := 0, cells := 0, slots := 0, locals := 0 } : Room) s m (List.toArray [.long x0, .long x2, .long x4]) below meth c s.heap [] 0 0 (MQ below (va_Qi (fun r (_ : Unit) => r = o) (fun _ t => Af_ G ct ([] : va_W) A t) A) (List.toArray [.long x0, .long x2, .long x4]) s 0 0 A) (F0 m 0 ls [])
  refine lv_lload_n hx hb dX7_in_0 rfl (lv_at hl 0 rfl) ?_
  refine lv_lload_n hx hb dX7_in_1 rfl (lv_at hl 1 rfl) ?_
  refine W.lcmp hx hb dX7_in_2 ?_
  refine lv_if_lt (tgt := 17) hx hb dX7_in_3 (by decide) (fun hc => ?_) (fun hc => ?_)
  · replace hf := ifp hc hf
    refine lv_iconst (v := (0 : Int32)) hx hb dX7_in_17 (by decide) ?_
    have ho := Option.some.inj hf
    subst ho
    exact x_retz hx hb hr rfl hlocks hK hW rfl rfl dX7_in_18
  · replace hf := ifn hc hf
    refine lv_lload_n hx hb dX7_in_6 rfl (lv_at hl 0 rfl) ?_
    refine lv_lload hx hb dX7_in_7 (lv_at hl 2 rfl) ?_
    refine W.lcmp hx hb dX7_in_9 ?_
    refine lv_if_gt (tgt := 17) hx hb dX7_in_10 (by decide) (fun hc => ?_) (fun hc => ?_)
    · replace hf := ifp hc hf
      refine lv_iconst (v := (0 : Int32)) hx hb dX7_in_17 (by decide) ?_
      have ho := Option.some.inj hf
      subst ho
      exact x_retz hx hb hr rfl hlocks hK hW rfl rfl dX7_in_18
    · replace hf := ifn hc hf
      refine lv_iconst (v := (1 : Int32)) hx hb dX7_in_13 (by decide) ?_
      refine lv_goto (tgt := 18) hx hb dX7_in_14 (by decide) ?_
      have ho := Option.some.inj hf
      subst ho
      exact x_retz hx hb hr rfl hlocks hK hW rfl rfl dX7_in_18
set_option maxHeartbeats 4000000 in
set_option maxRecDepth 100000 in
theorem c_X7_has (l : Launch) (N : Nat) (kd : (Nat → Nat) × (Nat → Nat)) (G : va_G) (ct : Nat → ClassId) (x0 : Int32) (x1 : Int32) (o : Int32) (hf : f_X7_has N x0 x1 = some o) : CtI l yX7_has wsX7_has ({ frames := 0, cells := 0, slots := 0, locals := 0 }) kd G ct [.int x0, .int x1] ([] : va_W) o ([] : va_W) := by
  intro sz
  refine Met.ofW (cc := cX7_has) (maxL := 2) (ret := (some .boolean)) (by decide) rfl ?_
  intro p e s m args below meth c s₁ B hml hv
  obtain ⟨rfl, hsz, hP, hK, hD0, hE⟩ := hv
  have hx := B.exec
  have hb := B.bytes
  have hr := B.returns
  have hts := atoms_spec (ws := wsX7_has) B.pre
  have hown : s.vm.findClass RX7 = some m.cls := findClass_of_methodNamed B.named
  have hlocks := B.notSynchronized
  subst hsz
  have hD := hD0.self (sz := s.heap.size)
  generalize hAe : va_A ([] : va_W) s.heap.size = A at hD hE ⊢
  have hA : ∀ q : Nat, s.heap.size ≤ q → A q := fun q h => by rw [← hAe]; exact Or.inr h
  have hW : WW G A s.heap ([] : va_W) s.heap [] := ⟨hP, hD, va_S.rf⟩
  have hl := lv_entry ([.int x0, .int x1]) (n := 2) (Nat.le_of_ble_eq_true rfl)
  rw [lg_entry_eq]
  generalize (lg_sl ([.int x0, .int x1]) ++ List.replicate (2 - (lg_sl ([.int x0, .int x1])).length) Slot.unset).toArray = ls at hl ⊢
  have hl : lv_has ls 2 [(0, .int x0), (1, .int x1)] := hl
  unfold f_X7_has at hf
  show W p l e ({ frames := 0, cells := 0, slots := 0, locals := 0 } : Room) s m (List.toArray [.int x0, .int x1]) below meth c s.heap [] 0 0 (MQ below (va_Qi (fun r (_ : Unit) => r = o) (fun _ t => Af_ G ct ([] : va_W) A t) A) (List.toArray [.int x0, .int x1]) s 0 0 A) (F0 m 0 ls [])
  refine lv_iload_n hx hb dX7_has_0 rfl (lv_at hl 0 rfl) ?_
  refine lv_iload_n hx hb dX7_has_1 rfl (lv_at hl 1 rfl) ?_
  refine lv_ishr hx hb dX7_has_2 ?_
  refine lv_iconst (v := (1 : Int32)) hx hb dX7_has_3 (by decide) ?_
  refine lv_iand hx hb dX7_has_4 ?_
  refine lv_iconst (v := (1 : Int32)) hx hb dX7_has_5 (by decide) ?_
  refine lv_icmp_ne (tgt := 13) hx hb dX7_has_6 (by decide) (fun hc => ?_) (fun hc => ?_)
  · replace hf := ifn hc hf
    refine lv_iconst (v := (0 : Int32)) hx hb dX7_has_13 (by decide) ?_
    have ho := Option.some.inj hf
    subst ho
    exact x_retz hx hb hr rfl hlocks hK hW rfl rfl dX7_has_14
  · replace hf := ifp hc hf
    refine lv_iconst (v := (1 : Int32)) hx hb dX7_has_9 (by decide) ?_
    refine lv_goto (tgt := 14) hx hb dX7_has_10 (by decide) ?_
    have ho := Option.some.inj hf
    subst ho
    exact x_retz hx hb hr rfl hlocks hK hW rfl rfl dX7_has_14
set_option maxHeartbeats 4000000 in
set_option maxRecDepth 100000 in
theorem c_X7_bits (l : Launch) (N : Nat) (kd : (Nat → Nat) × (Nat → Nat)) (G : va_G) (ct : Nat → ClassId) (x0 : Int32) (o : Int32) (hf : f_X7_bits N x0 = some o) : CtI l yX7_bits wsX7_bits ({ frames := 0, cells := 0, slots := 0, locals := 0 }) kd G ct [.int x0] ([] : va_W) o ([] : va_W) := by
  intro sz
  refine Met.ofW (cc := cX7_bits) (maxL := 3) (ret := (some .int)) (by decide) rfl ?_
  intro p e s m args below meth c s₁ B hml hv
  obtain ⟨rfl, hsz, hP, hK, hD0, hE⟩ := hv
  have hx := B.exec
  have hb := B.bytes
  have hr := B.returns
  have hts := atoms_spec (ws := wsX7_bits) B.pre
  have hown : s.vm.findClass RX7 = some m.cls := findClass_of_methodNamed B.named
  have hlocks := B.notSynchronized
  subst hsz
  have hD := hD0.self (sz := s.heap.size)
  generalize hAe : va_A ([] : va_W) s.heap.size = A at hD hE ⊢
  have hA : ∀ q : Nat, s.heap.size ≤ q → A q := fun q h => by rw [← hAe]; exact Or.inr h
  have hW : WW G A s.heap ([] : va_W) s.heap [] := ⟨hP, hD, va_S.rf⟩
  have hl := lv_entry ([.int x0]) (n := 3) (Nat.le_of_ble_eq_true rfl)
  rw [lg_entry_eq]
  generalize (lg_sl ([.int x0]) ++ List.replicate (3 - (lg_sl ([.int x0])).length) Slot.unset).toArray = ls at hl ⊢
  have hl : lv_has ls 3 [(0, .int x0)] := hl
  unfold f_X7_bits at hf
  show W p l e ({ frames := 0, cells := 0, slots := 0, locals := 0 } : Room) s m (List.toArray [.int x0]) below meth c s.heap [] 0 0 (MQ below (va_Qi (fun r (_ : Unit) => r = o) (fun _ t => Af_ G ct ([] : va_W) A t) A) (List.toArray [.int x0]) s 0 0 A) (F0 m 0 ls [])
  refine lv_iconst (v := (0 : Int32)) hx hb dX7_bits_0 (by decide) ?_
  refine lv_istore_n (lv' := [(1, .int (0 : Int32)), (0, .int x0)]) hx hb dX7_bits_1 rfl hl (by decide) rfl (fun ls hl => ?_)
  refine lv_iconst (v := (0 : Int32)) hx hb dX7_bits_2 (by decide) ?_
  refine lv_istore_n (lv' := [(2, .int (0 : Int32)), (1, .int (0 : Int32)), (0, .int x0)]) hx hb dX7_bits_3 rfl hl (by decide) rfl (fun ls hl => ?_)
  replace hf := bs_ hf; obtain ⟨v1, hg, hf⟩ := hf
  have J1 : ∀ (H : Heap) (locs : List Loc) (ls : Array Slot), WW G A s.heap ([] : va_W) H locs → lv_has ls 3 [(1, .int v1)] → W p l e ({ frames := 0, cells := 0, slots := 0, locals := 0 } : Room) s m (List.toArray [.int x0]) below meth c H locs 0 0 (MQ below (va_Qi (fun r (_ : Unit) => r = o) (fun _ t => Af_ G ct ([] : va_W) A t) A) (List.toArray [.int x0]) s 0 0 A) (F0 m 24 ls []) := by
    intro H locs ls hW hl
    refine lv_iload_n hx hb dX7_bits_24 rfl (lv_at hl 0 rfl) ?_
    have ho := Option.some.inj hf
    subst ho
    exact x_reti (sz := 0) (w0 := []) (A1 := A) hx hb hr hlocks hK hW rfl rfl dX7_bits_25
  clear hf
  have L1 : ∀ (n : Nat) (y1_1 : Int32) (y1_2 : Int32), f_X7_bits_L4 N x0 n y1_1 y1_2 = some v1 → ∀ (H : Heap) (locs : List Loc) (ls : Array Slot), WW G A s.heap ([] : va_W) H locs → lv_has ls 3 [(0, .int x0), (1, .int y1_1), (2, .int y1_2)] → W p l e ({ frames := 0, cells := 0, slots := 0, locals := 0 } : Room) s m (List.toArray [.int x0]) below meth c H locs 0 0 (MQ below (va_Qi (fun r (_ : Unit) => r = o) (fun _ t => Af_ G ct ([] : va_W) A t) A) (List.toArray [.int x0]) s 0 0 A) (F0 m 4 ls []) := by
    intro n
    induction n with
    | zero =>
      intro y1_1 y1_2 hf
      rw [f_X7_bits_L4] at hf
      cases hf
    | succ n ih =>
      intro y1_1 y1_2 hf H locs ls hW hl
      rw [f_X7_bits_L4] at hf
      refine lv_iload_n hx hb dX7_bits_4 rfl (lv_at hl 2 rfl) ?_
      refine lv_bipush (v := (24 : Int32)) hx hb dX7_bits_5 (by decide) ?_
      refine lv_icmp_ge (tgt := 24) hx hb dX7_bits_7 (by decide) (fun hc => ?_) (fun hc => ?_)
      · replace hf := ifp hc hf
        have hj := Option.some.inj hf
        subst hj
        exact J1 _ _ _ hW (lv_sub hl [1] rfl)
      · replace hf := ifn hc hf
        refine lv_iload_n hx hb dX7_bits_10 rfl (lv_at hl 1 rfl) ?_
        refine lv_iload_n hx hb dX7_bits_11 rfl (lv_at hl 0 rfl) ?_
        refine lv_iload_n hx hb dX7_bits_12 rfl (lv_at hl 2 rfl) ?_
        refine lv_ishr hx hb dX7_bits_13 ?_
        refine lv_iconst (v := (1 : Int32)) hx hb dX7_bits_14 (by decide) ?_
        refine lv_iand hx hb dX7_bits_15 ?_
        refine lv_iadd hx hb dX7_bits_16 ?_
        refine lv_istore_n (lv' := [(1, .int (y1_1 + ((x0 >>> (y1_2 &&& 31)) &&& (1 : Int32)))), (0, .int x0), (2, .int y1_2)]) hx hb dX7_bits_17 rfl hl (by decide) rfl (fun ls hl => ?_)
        refine lv_iinc (v := (y1_2 + (1 : Int32))) (lv' := [(2, .int (y1_2 + (1 : Int32))), (1, .int (y1_1 + ((x0 >>> (y1_2 &&& 31)) &&& (1 : Int32)))), (0, .int x0)]) hx hb dX7_bits_18 hl (k := 2) rfl rfl (by decide) rfl (fun ls hl => ?_)
        refine lv_goto (tgt := 4) hx hb dX7_bits_21 (by decide) ?_
        exact ih (y1_1 + ((x0 >>> (y1_2 &&& 31)) &&& (1 : Int32))) (y1_2 + (1 : Int32)) hf _ _ _ hW (lv_sub hl [2, 1, 0] rfl)
  exact L1 N (0 : Int32) (0 : Int32) hg _ _ _ hW (lv_sub hl [2, 1, 0] rfl)
set_option maxHeartbeats 4000000 in
set_option maxRecDepth 100000 in
theorem c_X7_isPlace (l : Launch) (N : Nat) (kd : (Nat → Nat) × (Nat → Nat)) (G : va_G) (ct : Nat → ClassId) (a : Nat → Nat) (g : St_) (sg : Int64) (x1 : Int32) (o : Int32) (hf : f_X7_isPlace N g x1 = some o) : CtI l yX7_isPlace wsX7_isPlace ({ frames := 1, cells := 0, slots := 0, locals := 25 }) kd G ct [.ref (a 0), .int x1] (wX7 a ct g sg) o (wX7 a ct g sg) := by
  intro sz
  refine Met.ofW (cc := cX7_isPlace) (maxL := 2) (ret := (some .boolean)) (by decide) rfl ?_
  intro p e s m args below meth c s₁ B hml hv
  obtain ⟨rfl, hsz, hP, hK, hD0, hE⟩ := hv
  have hx := B.exec
  have hb := B.bytes
  have hr := B.returns
  have hts := atoms_spec (ws := wsX7_isPlace) B.pre
  have hown : s.vm.findClass RX7 = some m.cls := findClass_of_methodNamed B.named
  have hlocks := B.notSynchronized
  have inX7 : ∀ w ∈ wsX70, w ∈ wsX7_isPlace := by decide +kernel
  have fl96 := hts (.fieldLink RX7 96 "FittingStridesModel" "places" "I") (by decide +kernel)
  subst hsz
  have hD := hD0.self (sz := s.heap.size)
  generalize hAe : va_A (wX7 a ct g sg) s.heap.size = A at hD hE ⊢
  have hA : ∀ q : Nat, s.heap.size ≤ q → A q := fun q h => by rw [← hAe]; exact Or.inr h
  have hW : WW G A s.heap (wX7 a ct g sg) s.heap [] := ⟨hP, hD, va_S.rf⟩
  have hl := lv_entry ([.ref (a 0), .int x1]) (n := 2) (Nat.le_of_ble_eq_true rfl)
  rw [lg_entry_eq]
  generalize (lg_sl ([.ref (a 0), .int x1]) ++ List.replicate (2 - (lg_sl ([.ref (a 0), .int x1])).length) Slot.unset).toArray = ls at hl ⊢
  have hl : lv_has ls 2 [(0, .ref (a 0)), (1, .int x1)] := hl
  unfold f_X7_isPlace at hf
  show W p l e ({ frames := 1, cells := 0, slots := 0, locals := 25 } : Room) s m (List.toArray [.ref (a 0), .int x1]) below meth c s.heap [] 0 0 (MQ below (va_Qi (fun r (_ : Unit) => r = o) (fun _ t => Af_ G ct (wX7 a ct g sg) A t) A) (List.toArray [.ref (a 0), .int x1]) s 0 0 A) (F0 m 0 ls [])
  refine lv_iload_n hx hb dX7_isPlace_0 rfl (lv_at hl 1 rfl) ?_
  refine lv_i2l hx hb dX7_isPlace_1 rfl ?_
  refine lv_lconst (v := (0 : Int64)) hx hb dX7_isPlace_2 (by decide) ?_
  refine lv_aload_n hx hb dX7_isPlace_3 rfl (lv_at hl 0 rfl) ?_
  refine x_get (ci := 7) (v := .int (g 1 0)) (C := RX7) (T := TX7) (N := 44) hx hb hts inX7 hown hK hW 0 rfl rfl 0 (by decide) fl96 (fun _ h9 => h9) rfl dX7_isPlace_4 ?_
  refine lv_iconst (v := (1 : Int32)) hx hb dX7_isPlace_7 (by decide) ?_
  refine lv_isub hx hb dX7_isPlace_8 ?_
  refine lv_i2l hx hb dX7_isPlace_9 rfl ?_
  replace hf := bs_ hf; obtain ⟨r1, hcl, hf⟩ := hf
  refine x_callS_i (As := [.long x1.toInt64, .long (0 : Int64), .long ((g 1 0) - (1 : Int32)).toInt64]) (rest := []) ⟨hx, hb, hml, hown, hts⟩ (c_X7_in l N kd G ct x1.toInt64 (0 : Int64) (((g 1 0) - (1 : Int32)).toInt64) _ hcl) (va_cwS 3 hts gX7_isPlace_X7_in rfl rfl rfl (by decide +kernel) ⟨Nat.le_of_ble_eq_true rfl, Nat.le_of_ble_eq_true rfl⟩) hK hE hA hW rfl hl.1 rfl (lv_room (Nat.le_of_ble_eq_true rfl)) dX7_isPlace_10 (fun H locs hW => ?_)
  replace hf := gd_s hf; obtain ⟨hB, hf⟩ := hf
  have ho := Option.some.inj hf
  subst ho
  exact x_retz hx hb hr (isB_nar hB) hlocks hK hW rfl rfl dX7_isPlace_13
set_option maxHeartbeats 4000000 in
set_option maxRecDepth 100000 in
theorem c_X7_isStair (l : Launch) (N : Nat) (kd : (Nat → Nat) × (Nat → Nat)) (G : va_G) (ct : Nat → ClassId) (a : Nat → Nat) (g : St_) (sg : Int64) (x1 : Int32) (o : Int32) (hf : f_X7_isStair N g x1 = some o) : CtI l yX7_isStair wsX7_isStair ({ frames := 1, cells := 0, slots := 0, locals := 25 }) kd G ct [.ref (a 0), .int x1] (wX7 a ct g sg) o (wX7 a ct g sg) := by
  intro sz
  refine Met.ofW (cc := cX7_isStair) (maxL := 2) (ret := (some .boolean)) (by decide) rfl ?_
  intro p e s m args below meth c s₁ B hml hv
  obtain ⟨rfl, hsz, hP, hK, hD0, hE⟩ := hv
  have hx := B.exec
  have hb := B.bytes
  have hr := B.returns
  have hts := atoms_spec (ws := wsX7_isStair) B.pre
  have hown : s.vm.findClass RX7 = some m.cls := findClass_of_methodNamed B.named
  have hlocks := B.notSynchronized
  have inX7 : ∀ w ∈ wsX70, w ∈ wsX7_isStair := by decide +kernel
  have fl103 := hts (.fieldLink RX7 103 "FittingStridesModel" "stairs" "I") (by decide +kernel)
  subst hsz
  have hD := hD0.self (sz := s.heap.size)
  generalize hAe : va_A (wX7 a ct g sg) s.heap.size = A at hD hE ⊢
  have hA : ∀ q : Nat, s.heap.size ≤ q → A q := fun q h => by rw [← hAe]; exact Or.inr h
  have hW : WW G A s.heap (wX7 a ct g sg) s.heap [] := ⟨hP, hD, va_S.rf⟩
  have hl := lv_entry ([.ref (a 0), .int x1]) (n := 2) (Nat.le_of_ble_eq_true rfl)
  rw [lg_entry_eq]
  generalize (lg_sl ([.ref (a 0), .int x1]) ++ List.replicate (2 - (lg_sl ([.ref (a 0), .int x1])).length) Slot.unset).toArray = ls at hl ⊢
  have hl : lv_has ls 2 [(0, .ref (a 0)), (1, .int x1)] := hl
  unfold f_X7_isStair at hf
  show W p l e ({ frames := 1, cells := 0, slots := 0, locals := 25 } : Room) s m (List.toArray [.ref (a 0), .int x1]) below meth c s.heap [] 0 0 (MQ below (va_Qi (fun r (_ : Unit) => r = o) (fun _ t => Af_ G ct (wX7 a ct g sg) A t) A) (List.toArray [.ref (a 0), .int x1]) s 0 0 A) (F0 m 0 ls [])
  refine lv_iload_n hx hb dX7_isStair_0 rfl (lv_at hl 1 rfl) ?_
  refine lv_i2l hx hb dX7_isStair_1 rfl ?_
  refine lv_lconst (v := (0 : Int64)) hx hb dX7_isStair_2 (by decide) ?_
  refine lv_aload_n hx hb dX7_isStair_3 rfl (lv_at hl 0 rfl) ?_
  refine x_get (ci := 7) (v := .int (g 2 0)) (C := RX7) (T := TX7) (N := 44) hx hb hts inX7 hown hK hW 0 rfl rfl 1 (by decide) fl103 (fun _ h9 => h9) rfl dX7_isStair_4 ?_
  refine lv_iconst (v := (1 : Int32)) hx hb dX7_isStair_7 (by decide) ?_
  refine lv_isub hx hb dX7_isStair_8 ?_
  refine lv_i2l hx hb dX7_isStair_9 rfl ?_
  replace hf := bs_ hf; obtain ⟨r1, hcl, hf⟩ := hf
  refine x_callS_i (As := [.long x1.toInt64, .long (0 : Int64), .long ((g 2 0) - (1 : Int32)).toInt64]) (rest := []) ⟨hx, hb, hml, hown, hts⟩ (c_X7_in l N kd G ct x1.toInt64 (0 : Int64) (((g 2 0) - (1 : Int32)).toInt64) _ hcl) (va_cwS 3 hts gX7_isStair_X7_in rfl rfl rfl (by decide +kernel) ⟨Nat.le_of_ble_eq_true rfl, Nat.le_of_ble_eq_true rfl⟩) hK hE hA hW rfl hl.1 rfl (lv_room (Nat.le_of_ble_eq_true rfl)) dX7_isStair_10 (fun H locs hW => ?_)
  replace hf := gd_s hf; obtain ⟨hB, hf⟩ := hf
  have ho := Option.some.inj hf
  subst ho
  exact x_retz hx hb hr (isB_nar hB) hlocks hK hW rfl rfl dX7_isStair_13
set_option maxHeartbeats 4000000 in
set_option maxRecDepth 100000 in
theorem c_X7_isPerson (l : Launch) (N : Nat) (kd : (Nat → Nat) × (Nat → Nat)) (G : va_G) (ct : Nat → ClassId) (a : Nat → Nat) (g : St_) (sg : Int64) (x1 : Int32) (o : Int32) (hf : f_X7_isPerson N g x1 = some o) : CtI l yX7_isPerson wsX7_isPerson ({ frames := 1, cells := 0, slots := 0, locals := 25 }) kd G ct [.ref (a 0), .int x1] (wX7 a ct g sg) o (wX7 a ct g sg) := by
  intro sz
  refine Met.ofW (cc := cX7_isPerson) (maxL := 2) (ret := (some .boolean)) (by decide) rfl ?_
  intro p e s m args below meth c s₁ B hml hv
  obtain ⟨rfl, hsz, hP, hK, hD0, hE⟩ := hv
  have hx := B.exec
  have hb := B.bytes
  have hr := B.returns
  have hts := atoms_spec (ws := wsX7_isPerson) B.pre
  have hown : s.vm.findClass RX7 = some m.cls := findClass_of_methodNamed B.named
  have hlocks := B.notSynchronized
  have inX7 : ∀ w ∈ wsX70, w ∈ wsX7_isPerson := by decide +kernel
  have fl106 := hts (.fieldLink RX7 106 "FittingStridesModel" "persons" "I") (by decide +kernel)
  subst hsz
  have hD := hD0.self (sz := s.heap.size)
  generalize hAe : va_A (wX7 a ct g sg) s.heap.size = A at hD hE ⊢
  have hA : ∀ q : Nat, s.heap.size ≤ q → A q := fun q h => by rw [← hAe]; exact Or.inr h
  have hW : WW G A s.heap (wX7 a ct g sg) s.heap [] := ⟨hP, hD, va_S.rf⟩
  have hl := lv_entry ([.ref (a 0), .int x1]) (n := 2) (Nat.le_of_ble_eq_true rfl)
  rw [lg_entry_eq]
  generalize (lg_sl ([.ref (a 0), .int x1]) ++ List.replicate (2 - (lg_sl ([.ref (a 0), .int x1])).length) Slot.unset).toArray = ls at hl ⊢
  have hl : lv_has ls 2 [(0, .ref (a 0)), (1, .int x1)] := hl
  unfold f_X7_isPerson at hf
  show W p l e ({ frames := 1, cells := 0, slots := 0, locals := 25 } : Room) s m (List.toArray [.ref (a 0), .int x1]) below meth c s.heap [] 0 0 (MQ below (va_Qi (fun r (_ : Unit) => r = o) (fun _ t => Af_ G ct (wX7 a ct g sg) A t) A) (List.toArray [.ref (a 0), .int x1]) s 0 0 A) (F0 m 0 ls [])
  refine lv_iload_n hx hb dX7_isPerson_0 rfl (lv_at hl 1 rfl) ?_
  refine lv_i2l hx hb dX7_isPerson_1 rfl ?_
  refine lv_lconst (v := (0 : Int64)) hx hb dX7_isPerson_2 (by decide) ?_
  refine lv_aload_n hx hb dX7_isPerson_3 rfl (lv_at hl 0 rfl) ?_
  refine x_get (ci := 7) (v := .int (g 9 0)) (C := RX7) (T := TX7) (N := 44) hx hb hts inX7 hown hK hW 0 rfl rfl 8 (by decide) fl106 (fun _ h9 => h9) rfl dX7_isPerson_4 ?_
  refine lv_iconst (v := (1 : Int32)) hx hb dX7_isPerson_7 (by decide) ?_
  refine lv_isub hx hb dX7_isPerson_8 ?_
  refine lv_i2l hx hb dX7_isPerson_9 rfl ?_
  replace hf := bs_ hf; obtain ⟨r1, hcl, hf⟩ := hf
  refine x_callS_i (As := [.long x1.toInt64, .long (0 : Int64), .long ((g 9 0) - (1 : Int32)).toInt64]) (rest := []) ⟨hx, hb, hml, hown, hts⟩ (c_X7_in l N kd G ct x1.toInt64 (0 : Int64) (((g 9 0) - (1 : Int32)).toInt64) _ hcl) (va_cwS 3 hts gX7_isPerson_X7_in rfl rfl rfl (by decide +kernel) ⟨Nat.le_of_ble_eq_true rfl, Nat.le_of_ble_eq_true rfl⟩) hK hE hA hW rfl hl.1 rfl (lv_room (Nat.le_of_ble_eq_true rfl)) dX7_isPerson_10 (fun H locs hW => ?_)
  replace hf := gd_s hf; obtain ⟨hB, hf⟩ := hf
  have ho := Option.some.inj hf
  subst ho
  exact x_retz hx hb hr (isB_nar hB) hlocks hK hW rfl rfl dX7_isPerson_13
set_option maxHeartbeats 4000000 in
set_option maxRecDepth 100000 in
theorem c_X7_feed (l : Launch) (N : Nat) (kd : (Nat → Nat) × (Nat → Nat)) (G : va_G) (ct : Nat → ClassId) (a : Nat → Nat) (g : St_) (sg : Int64) (x1 : Int32) (x2 : Int64) (o : (Int32 × St_)) (hf : f_X7_feed N g x1 x2 = some o) : CtI l yX7_feed wsX7_feed ({ frames := 1, cells := 0, slots := 0, locals := 25 }) kd G ct [.ref (a 0), .int x1, .long x2] (wX7 a ct g sg) o.1 (wX7 a ct o.2 sg) := by
  intro sz
  refine Met.ofW (cc := cX7_feed) (maxL := 5) (ret := (some .int)) (by decide) rfl ?_
  intro p e s m args below meth c s₁ B hml hv
  obtain ⟨rfl, hsz, hP, hK, hD0, hE⟩ := hv
  have hx := B.exec
  have hb := B.bytes
  have hr := B.returns
  have hts := atoms_spec (ws := wsX7_feed) B.pre
  have hown : s.vm.findClass RX7 = some m.cls := findClass_of_methodNamed B.named
  have hlocks := B.notSynchronized
  have inX7 : ∀ w ∈ wsX70, w ∈ wsX7_feed := by decide +kernel
  have fl37 := hts (.fieldLink RX7 37 "FittingStridesModel" "text" "[I") (by decide +kernel)
  have fl109 := hts (.constantLong RX7 109 (8)) (by decide +kernel)
  have fl111 := hts (.constant RX7 111 (-1000000002)) (by decide +kernel)
  have fl112 := hts (.fieldLink RX7 112 "FittingStridesModel" "texted" "I") (by decide +kernel)
  have fl115 := hts (.constant RX7 115 (-1000000004)) (by decide +kernel)
  have fl116 := hts (.constantLong RX7 116 (255)) (by decide +kernel)
  subst hsz
  have hD := hD0.self (sz := s.heap.size)
  generalize hAe : va_A (wX7 a ct g sg) s.heap.size = A at hD hE ⊢
  have hA : ∀ q : Nat, s.heap.size ≤ q → A q := fun q h => by rw [← hAe]; exact Or.inr h
  have hW : WW G A s.heap (wX7 a ct g sg) s.heap [] := ⟨hP, hD, va_S.rf⟩
  have hl := lv_entry ([.ref (a 0), .int x1, .long x2]) (n := 5) (Nat.le_of_ble_eq_true rfl)
  rw [lg_entry_eq]
  generalize (lg_sl ([.ref (a 0), .int x1, .long x2]) ++ List.replicate (5 - (lg_sl ([.ref (a 0), .int x1, .long x2])).length) Slot.unset).toArray = ls at hl ⊢
  have hl : lv_has ls 5 [(0, .ref (a 0)), (1, .int x1), (2, .long x2)] := hl
  unfold f_X7_feed at hf
  show W p l e ({ frames := 1, cells := 0, slots := 0, locals := 25 } : Room) s m (List.toArray [.ref (a 0), .int x1, .long x2]) below meth c s.heap [] 0 0 (MQ below (va_Qi (fun r (_ : Unit) => r = o.1) (fun _ t => Af_ G ct (wX7 a ct o.2 sg) A t) A) (List.toArray [.ref (a 0), .int x1, .long x2]) s 0 0 A) (F0 m 0 ls [])
  refine lv_iload_n hx hb dX7_feed_0 rfl (lv_at hl 1 rfl) ?_
  refine lv_i2l hx hb dX7_feed_1 rfl ?_
  refine lv_lconst (v := (1 : Int64)) hx hb dX7_feed_2 (by decide) ?_
  refine lv_ldc2 (v := (8 : Int64)) hx hb hown fl109 dX7_feed_3 ?_
  replace hf := bs_ hf; obtain ⟨r1, hcl, hf⟩ := hf
  refine x_callS_i (As := [.long x1.toInt64, .long (1 : Int64), .long (8 : Int64)]) (rest := []) ⟨hx, hb, hml, hown, hts⟩ (c_X7_in l N kd G ct x1.toInt64 (1 : Int64) (8 : Int64) _ hcl) (va_cwS 3 hts gX7_feed_X7_in rfl rfl rfl (by decide +kernel) ⟨Nat.le_of_ble_eq_true rfl, Nat.le_of_ble_eq_true rfl⟩) hK hE hA hW rfl hl.1 rfl (lv_room (Nat.le_of_ble_eq_true rfl)) dX7_feed_6 (fun H locs hW => ?_)
  refine lv_if_ne (tgt := 15) hx hb dX7_feed_9 (by decide) (fun hc => ?_) (fun hc => ?_)
  · replace hf := ifn hc hf
    refine lv_aload_n hx hb dX7_feed_15 rfl (lv_at hl 0 rfl) ?_
    refine x_get (ci := 7) (v := .int (g 16 0)) (C := RX7) (T := TX7) (N := 44) hx hb hts inX7 hown hK hW 0 rfl rfl 15 (by decide) fl112 (fun _ h9 => h9) rfl dX7_feed_16 ?_
    refine lv_iload_n hx hb dX7_feed_19 rfl (lv_at hl 1 rfl) ?_
    refine lv_iadd hx hb dX7_feed_20 ?_
    refine lv_sipush (v := (500 : Int32)) hx hb dX7_feed_21 (by decide) ?_
    refine lv_icmp_le (tgt := 30) hx hb dX7_feed_24 (by decide) (fun hc => ?_) (fun hc => ?_)
    · replace hf := ifp hc hf
      refine lv_iload_n hx hb dX7_feed_30 rfl (lv_at hl 1 rfl) ?_
      refine lv_iconst (v := (1 : Int32)) hx hb dX7_feed_31 (by decide) ?_
      refine lv_isub hx hb dX7_feed_32 ?_
      refine lv_istore (lv' := [(4, .int (x1 - (1 : Int32))), (0, .ref (a 0)), (1, .int x1), (2, .long x2)]) hx hb dX7_feed_33 hl (by decide) rfl (fun ls hl => ?_)
      replace hf := bs_ hf; obtain ⟨v2, hg, hf⟩ := hf
      have J2 : ∀ (H : Heap) (locs : List Loc) (ls : Array Slot), WW G A s.heap (wX7 a ct v2 sg) H locs → lv_has ls 5 [(0, .ref (a 0))] → W p l e ({ frames := 1, cells := 0, slots := 0, locals := 25 } : Room) s m (List.toArray [.ref (a 0), .int x1, .long x2]) below meth c H locs 0 0 (MQ below (va_Qi (fun r (_ : Unit) => r = o.1) (fun _ t => Af_ G ct (wX7 a ct o.2 sg) A t) A) (List.toArray [.ref (a 0), .int x1, .long x2]) s 0 0 A) (F0 m 77 ls []) := by
        intro H locs ls hW hl
        refine lv_aload_n hx hb dX7_feed_77 rfl (lv_at hl 0 rfl) ?_
        refine x_get (ci := 7) (v := .int (v2 16 0)) (C := RX7) (T := TX7) (N := 44) hx hb hts inX7 hown hK hW 0 rfl rfl 15 (by decide) fl112 (fun _ h9 => h9) rfl dX7_feed_78 ?_
        have ho := Option.some.inj hf
        subst ho
        exact x_reti (sz := 0) (w0 := []) (A1 := A) hx hb hr hlocks hK hW rfl rfl dX7_feed_81
      clear hf
      have L2 : ∀ (n : Nat) (y2_4 : Int32) (g2 : St_), f_X7_feed_L35 N x2 n y2_4 g2 = some v2 → ∀ (H : Heap) (locs : List Loc) (ls : Array Slot), WW G A s.heap (wX7 a ct g2 sg) H locs → lv_has ls 5 [(0, .ref (a 0)), (2, .long x2), (4, .int y2_4)] → W p l e ({ frames := 1, cells := 0, slots := 0, locals := 25 } : Room) s m (List.toArray [.ref (a 0), .int x1, .long x2]) below meth c H locs 0 0 (MQ below (va_Qi (fun r (_ : Unit) => r = o.1) (fun _ t => Af_ G ct (wX7 a ct o.2 sg) A t) A) (List.toArray [.ref (a 0), .int x1, .long x2]) s 0 0 A) (F0 m 35 ls []) := by
        intro n
        induction n with
        | zero =>
          intro y2_4 g2 hf
          rw [f_X7_feed_L35] at hf
          cases hf
        | succ n ih =>
          intro y2_4 g2 hf H locs ls hW hl
          rw [f_X7_feed_L35] at hf
          refine lv_iload hx hb dX7_feed_35 (lv_at hl 2 rfl) ?_
          refine lv_if_lt (tgt := 77) hx hb dX7_feed_37 (by decide) (fun hc => ?_) (fun hc => ?_)
          · replace hf := ifp hc hf
            have hj := Option.some.inj hf
            subst hj
            exact J2 _ _ _ hW (lv_sub hl [0] rfl)
          · replace hf := ifn hc hf
            refine lv_aload_n hx hb dX7_feed_40 rfl (lv_at hl 0 rfl) ?_
            refine x_get (ci := 7) (v := .ref (a 15)) (C := RX7) (T := TX7) (N := 44) hx hb hts inX7 hown hK hW 0 rfl rfl 14 (by decide) fl37 (fun _ h9 => h9) rfl dX7_feed_41 ?_
            refine lv_aload_n hx hb dX7_feed_44 rfl (lv_at hl 0 rfl) ?_
            refine x_get (ci := 7) (v := .int (g2 16 0)) (C := RX7) (T := TX7) (N := 44) hx hb hts inX7 hown hK hW 0 rfl rfl 15 (by decide) fl112 (fun _ h9 => h9) rfl dX7_feed_45 ?_
            refine lv_lload_n hx hb dX7_feed_48 rfl (lv_at hl 1 rfl) ?_
            refine lv_bipush (v := (8 : Int32)) hx hb dX7_feed_49 (by decide) ?_
            refine lv_iload hx hb dX7_feed_51 (lv_at hl 2 rfl) ?_
            refine lv_imul hx hb dX7_feed_53 ?_
            refine lv_lshr hx hb dX7_feed_54 rfl ?_
            refine lv_ldc2 (v := (255 : Int64)) hx hb hown fl116 dX7_feed_55 ?_
            refine lv_land hx hb dX7_feed_58 ?_
            refine lv_l2i hx hb dX7_feed_59 rfl ?_
            replace hf := gd_s hf; obtain ⟨hin, hf⟩ := hf
            refine x_iast (w' := (wX7 a ct (up1 g2 15 (g2 16 0).toNatClampNeg (((x2 >>> (((8 : Int32) * y2_4).toInt64 &&& 63)) &&& (255 : Int64)).toInt32)) sg)) (n := 500) (f := g2 15) hx hb hK hW 10 rfl (okI_in hin) rfl dX7_feed_60 (fun H locs hW => ?_)
            refine lv_aload_n hx hb dX7_feed_61 rfl (lv_at hl 0 rfl) ?_
            refine lv_dup hx hb dX7_feed_62 rfl ?_
            refine x_get (ci := 7) (v := .int (g2 16 0)) (C := RX7) (T := TX7) (N := 44) hx hb hts inX7 hown hK hW 0 rfl rfl 15 (by decide) fl112 (fun _ h9 => h9) rfl dX7_feed_63 ?_
            refine lv_iconst (v := (1 : Int32)) hx hb dX7_feed_66 (by decide) ?_
            refine lv_iadd hx hb dX7_feed_67 ?_
            refine x_put (w' := (wX7 a ct (up1 (up1 g2 15 (g2 16 0).toNatClampNeg (((x2 >>> (((8 : Int32) * y2_4).toInt64 &&& 63)) &&& (255 : Int64)).toInt32)) 16 0 ((g2 16 0) + (1 : Int32))) sg)) (ci := 7) (v := .int ((g2 16 0) + (1 : Int32))) (ty := .int) (C := RX7) (T := TX7) (N := 44) hx hb hts inX7 tyX7 tyX7_ok nmX7 hown hK hW 0 rfl rfl 15 (by decide) fl112 (fun _ h9 => h9) rfl (by decide +kernel) rfl rfl (Nat.le_of_ble_eq_true rfl) rfl dX7_feed_68 (fun H locs hW => ?_)
            refine lv_iinc (v := (y2_4 + (-1 : Int32))) (lv' := [(4, .int (y2_4 + (-1 : Int32))), (0, .ref (a 0)), (2, .long x2)]) hx hb dX7_feed_71 hl (k := 2) rfl rfl (by decide) rfl (fun ls hl => ?_)
            refine lv_goto (tgt := 35) hx hb dX7_feed_74 (by decide) ?_
            exact ih (y2_4 + (-1 : Int32)) (up1 (up1 g2 15 (g2 16 0).toNatClampNeg (((x2 >>> (((8 : Int32) * y2_4).toInt64 &&& 63)) &&& (255 : Int64)).toInt32)) 16 0 ((g2 16 0) + (1 : Int32))) hf _ _ _ hW (lv_sub hl [1, 2, 0] rfl)
      exact L2 N (x1 - (1 : Int32)) g hg _ _ _ hW (lv_sub hl [1, 3, 0] rfl)
    · replace hf := ifn hc hf
      refine lv_ldc (v := (-1000000004 : Int32)) hx hb hown fl115 dX7_feed_27 ?_
      have ho := Option.some.inj hf
      subst ho
      exact x_reti (sz := 0) (w0 := []) (A1 := A) hx hb hr hlocks hK hW rfl rfl dX7_feed_29
  · replace hf := ifp hc hf
    refine lv_ldc (v := (-1000000002 : Int32)) hx hb hown fl111 dX7_feed_12 ?_
    have ho := Option.some.inj hf
    subst ho
    exact x_reti (sz := 0) (w0 := []) (A1 := A) hx hb hr hlocks hK hW rfl rfl dX7_feed_14
set_option maxHeartbeats 4000000 in
set_option maxRecDepth 100000 in
theorem c_X7_here (l : Launch) (N : Nat) (kd : (Nat → Nat) × (Nat → Nat)) (G : va_G) (ct : Nat → ClassId) (a : Nat → Nat) (g : St_) (sg : Int64) (o : (Int32 × St_)) (hf : f_X7_here N g = some o) : CtI l yX7_here wsX7_here ({ frames := 0, cells := 0, slots := 0, locals := 0 }) kd G ct [.ref (a 0)] (wX7 a ct g sg) o.1 (wX7 a ct o.2 sg) := by
  intro sz
  refine Met.ofW (cc := cX7_here) (maxL := 1) (ret := (some .int)) (by decide) rfl ?_
  intro p e s m args below meth c s₁ B hml hv
  obtain ⟨rfl, hsz, hP, hK, hD0, hE⟩ := hv
  have hx := B.exec
  have hb := B.bytes
  have hr := B.returns
  have hts := atoms_spec (ws := wsX7_here) B.pre
  have hown : s.vm.findClass RX7 = some m.cls := findClass_of_methodNamed B.named
  have hlocks := B.notSynchronized
  have inX7 : ∀ w ∈ wsX70, w ∈ wsX7_here := by decide +kernel
  have fl37 := hts (.fieldLink RX7 37 "FittingStridesModel" "text" "[I") (by decide +kernel)
  have fl112 := hts (.fieldLink RX7 112 "FittingStridesModel" "texted" "I") (by decide +kernel)
  have fl118 := hts (.fieldLink RX7 118 "FittingStridesModel" "at0" "I") (by decide +kernel)
  subst hsz
  have hD := hD0.self (sz := s.heap.size)
  generalize hAe : va_A (wX7 a ct g sg) s.heap.size = A at hD hE ⊢
  have hA : ∀ q : Nat, s.heap.size ≤ q → A q := fun q h => by rw [← hAe]; exact Or.inr h
  have hW : WW G A s.heap (wX7 a ct g sg) s.heap [] := ⟨hP, hD, va_S.rf⟩
  have hl := lv_entry ([.ref (a 0)]) (n := 1) (Nat.le_of_ble_eq_true rfl)
  rw [lg_entry_eq]
  generalize (lg_sl ([.ref (a 0)]) ++ List.replicate (1 - (lg_sl ([.ref (a 0)])).length) Slot.unset).toArray = ls at hl ⊢
  have hl : lv_has ls 1 [(0, .ref (a 0))] := hl
  unfold f_X7_here at hf
  show W p l e ({ frames := 0, cells := 0, slots := 0, locals := 0 } : Room) s m (List.toArray [.ref (a 0)]) below meth c s.heap [] 0 0 (MQ below (va_Qi (fun r (_ : Unit) => r = o.1) (fun _ t => Af_ G ct (wX7 a ct o.2 sg) A t) A) (List.toArray [.ref (a 0)]) s 0 0 A) (F0 m 0 ls [])
  replace hf := bs_ hf; obtain ⟨v1, hg, hf⟩ := hf
  have J1 : ∀ (H : Heap) (locs : List Loc) (ls : Array Slot), WW G A s.heap (wX7 a ct v1 sg) H locs → lv_has ls 1 [(0, .ref (a 0))] → W p l e ({ frames := 0, cells := 0, slots := 0, locals := 0 } : Room) s m (List.toArray [.ref (a 0)]) below meth c H locs 0 0 (MQ below (va_Qi (fun r (_ : Unit) => r = o.1) (fun _ t => Af_ G ct (wX7 a ct o.2 sg) A t) A) (List.toArray [.ref (a 0)]) s 0 0 A) (F0 m 38 ls []) := by
    intro H locs ls hW hl
    refine lv_aload_n hx hb dX7_here_38 rfl (lv_at hl 0 rfl) ?_
    refine x_get (ci := 7) (v := .int (v1 18 0)) (C := RX7) (T := TX7) (N := 44) hx hb hts inX7 hown hK hW 0 rfl rfl 17 (by decide) fl118 (fun _ h9 => h9) rfl dX7_here_39 ?_
    refine lv_aload_n hx hb dX7_here_42 rfl (lv_at hl 0 rfl) ?_
    refine x_get (ci := 7) (v := .int (v1 16 0)) (C := RX7) (T := TX7) (N := 44) hx hb hts inX7 hown hK hW 0 rfl rfl 15 (by decide) fl112 (fun _ h9 => h9) rfl dX7_here_43 ?_
    refine lv_icmp_ge (tgt := 61) hx hb dX7_here_46 (by decide) (fun hc => ?_) (fun hc => ?_)
    · replace hf := ifp hc hf
      refine lv_iconst (v := (-1 : Int32)) hx hb dX7_here_61 (by decide) ?_
      have ho := Option.some.inj hf
      subst ho
      exact x_reti (sz := 0) (w0 := []) (A1 := A) hx hb hr hlocks hK hW rfl rfl dX7_here_62
    · replace hf := ifn hc hf
      refine lv_aload_n hx hb dX7_here_49 rfl (lv_at hl 0 rfl) ?_
      refine x_get (ci := 7) (v := .ref (a 15)) (C := RX7) (T := TX7) (N := 44) hx hb hts inX7 hown hK hW 0 rfl rfl 14 (by decide) fl37 (fun _ h9 => h9) rfl dX7_here_50 ?_
      refine lv_aload_n hx hb dX7_here_53 rfl (lv_at hl 0 rfl) ?_
      refine x_get (ci := 7) (v := .int (v1 18 0)) (C := RX7) (T := TX7) (N := 44) hx hb hts inX7 hown hK hW 0 rfl rfl 17 (by decide) fl118 (fun _ h9 => h9) rfl dX7_here_54 ?_
      replace hf := gd_s hf; obtain ⟨hin, hf⟩ := hf
      refine x_iald (n := 500) (f := v1 15) hx hb hK hW 10 rfl (okI_in hin) dX7_here_57 ?_
      refine lv_goto (tgt := 62) hx hb dX7_here_58 (by decide) ?_
      have ho := Option.some.inj hf
      subst ho
      exact x_reti (sz := 0) (w0 := []) (A1 := A) hx hb hr hlocks hK hW rfl rfl dX7_here_62
  clear hf
  have L1 : ∀ (n : Nat) (g1 : St_), f_X7_here_L0 N n g1 = some v1 → ∀ (H : Heap) (locs : List Loc) (ls : Array Slot), WW G A s.heap (wX7 a ct g1 sg) H locs → lv_has ls 1 [(0, .ref (a 0))] → W p l e ({ frames := 0, cells := 0, slots := 0, locals := 0 } : Room) s m (List.toArray [.ref (a 0)]) below meth c H locs 0 0 (MQ below (va_Qi (fun r (_ : Unit) => r = o.1) (fun _ t => Af_ G ct (wX7 a ct o.2 sg) A t) A) (List.toArray [.ref (a 0)]) s 0 0 A) (F0 m 0 ls []) := by
    intro n
    induction n with
    | zero =>
      intro g1 hf
      rw [f_X7_here_L0] at hf
      cases hf
    | succ n ih =>
      intro g1 hf H locs ls hW hl
      rw [f_X7_here_L0] at hf
      refine lv_aload_n hx hb dX7_here_0 rfl (lv_at hl 0 rfl) ?_
      refine x_get (ci := 7) (v := .int (g1 18 0)) (C := RX7) (T := TX7) (N := 44) hx hb hts inX7 hown hK hW 0 rfl rfl 17 (by decide) fl118 (fun _ h9 => h9) rfl dX7_here_1 ?_
      refine lv_aload_n hx hb dX7_here_4 rfl (lv_at hl 0 rfl) ?_
      refine x_get (ci := 7) (v := .int (g1 16 0)) (C := RX7) (T := TX7) (N := 44) hx hb hts inX7 hown hK hW 0 rfl rfl 15 (by decide) fl112 (fun _ h9 => h9) rfl dX7_here_5 ?_
      refine lv_icmp_ge (tgt := 38) hx hb dX7_here_8 (by decide) (fun hc => ?_) (fun hc => ?_)
      · replace hf := ifp hc hf
        have hj := Option.some.inj hf
        subst hj
        exact J1 _ _ _ hW (lv_sub hl [0] rfl)
      · replace hf := ifn hc hf
        refine lv_aload_n hx hb dX7_here_11 rfl (lv_at hl 0 rfl) ?_
        refine x_get (ci := 7) (v := .ref (a 15)) (C := RX7) (T := TX7) (N := 44) hx hb hts inX7 hown hK hW 0 rfl rfl 14 (by decide) fl37 (fun _ h9 => h9) rfl dX7_here_12 ?_
        refine lv_aload_n hx hb dX7_here_15 rfl (lv_at hl 0 rfl) ?_
        refine x_get (ci := 7) (v := .int (g1 18 0)) (C := RX7) (T := TX7) (N := 44) hx hb hts inX7 hown hK hW 0 rfl rfl 17 (by decide) fl118 (fun _ h9 => h9) rfl dX7_here_16 ?_
        replace hf := gd_s hf; obtain ⟨hin, hf⟩ := hf
        refine x_iald (n := 500) (f := g1 15) hx hb hK hW 10 rfl (okI_in hin) dX7_here_19 ?_
        refine lv_bipush (v := (32 : Int32)) hx hb dX7_here_20 (by decide) ?_
        refine lv_icmp_ne (tgt := 38) hx hb dX7_here_22 (by decide) (fun hc => ?_) (fun hc => ?_)
        · replace hf := ifn hc hf
          have hj := Option.some.inj hf
          subst hj
          exact J1 _ _ _ hW (lv_sub hl [0] rfl)
        · replace hf := ifp hc hf
          refine lv_aload_n hx hb dX7_here_25 rfl (lv_at hl 0 rfl) ?_
          refine lv_dup hx hb dX7_here_26 rfl ?_
          refine x_get (ci := 7) (v := .int (g1 18 0)) (C := RX7) (T := TX7) (N := 44) hx hb hts inX7 hown hK hW 0 rfl rfl 17 (by decide) fl118 (fun _ h9 => h9) rfl dX7_here_27 ?_
          refine lv_iconst (v := (1 : Int32)) hx hb dX7_here_30 (by decide) ?_
          refine lv_iadd hx hb dX7_here_31 ?_
          refine x_put (w' := (wX7 a ct (up1 g1 18 0 ((g1 18 0) + (1 : Int32))) sg)) (ci := 7) (v := .int ((g1 18 0) + (1 : Int32))) (ty := .int) (C := RX7) (T := TX7) (N := 44) hx hb hts inX7 tyX7 tyX7_ok nmX7 hown hK hW 0 rfl rfl 17 (by decide) fl118 (fun _ h9 => h9) rfl (by decide +kernel) rfl rfl (Nat.le_of_ble_eq_true rfl) rfl dX7_here_32 (fun H locs hW => ?_)
          refine lv_goto (tgt := 0) hx hb dX7_here_35 (by decide) ?_
          exact ih (up1 g1 18 0 ((g1 18 0) + (1 : Int32))) hf _ _ _ hW (lv_sub hl [0] rfl)
  exact L1 N g hg _ _ _ hW (lv_sub hl [0] rfl)
set_option maxHeartbeats 4000000 in
set_option maxRecDepth 100000 in
theorem c_X7_fails (l : Launch) (N : Nat) (kd : (Nat → Nat) × (Nat → Nat)) (G : va_G) (ct : Nat → ClassId) (a : Nat → Nat) (g : St_) (sg : Int64) (x1 : Int32) (x2 : Int32) (o : (Int32 × St_)) (hf : f_X7_fails N g x1 x2 = some o) : CtI l yX7_fails wsX7_fails ({ frames := 0, cells := 0, slots := 0, locals := 0 }) kd G ct [.ref (a 0), .int x1, .int x2] (wX7 a ct g sg) o.1 (wX7 a ct o.2 sg) := by
  intro sz
  refine Met.ofW (cc := cX7_fails) (maxL := 3) (ret := (some .int)) (by decide) rfl ?_
  intro p e s m args below meth c s₁ B hml hv
  obtain ⟨rfl, hsz, hP, hK, hD0, hE⟩ := hv
  have hx := B.exec
  have hb := B.bytes
  have hr := B.returns
  have hts := atoms_spec (ws := wsX7_fails) B.pre
  have hown : s.vm.findClass RX7 = some m.cls := findClass_of_methodNamed B.named
  have hlocks := B.notSynchronized
  have inX7 : ∀ w ∈ wsX70, w ∈ wsX7_fails := by decide +kernel
  have fl40 := hts (.fieldLink RX7 40 "FittingStridesModel" "faultPlace" "I") (by decide +kernel)
  subst hsz
  have hD := hD0.self (sz := s.heap.size)
  generalize hAe : va_A (wX7 a ct g sg) s.heap.size = A at hD hE ⊢
  have hA : ∀ q : Nat, s.heap.size ≤ q → A q := fun q h => by rw [← hAe]; exact Or.inr h
  have hW : WW G A s.heap (wX7 a ct g sg) s.heap [] := ⟨hP, hD, va_S.rf⟩
  have hl := lv_entry ([.ref (a 0), .int x1, .int x2]) (n := 3) (Nat.le_of_ble_eq_true rfl)
  rw [lg_entry_eq]
  generalize (lg_sl ([.ref (a 0), .int x1, .int x2]) ++ List.replicate (3 - (lg_sl ([.ref (a 0), .int x1, .int x2])).length) Slot.unset).toArray = ls at hl ⊢
  have hl : lv_has ls 3 [(0, .ref (a 0)), (1, .int x1), (2, .int x2)] := hl
  unfold f_X7_fails at hf
  show W p l e ({ frames := 0, cells := 0, slots := 0, locals := 0 } : Room) s m (List.toArray [.ref (a 0), .int x1, .int x2]) below meth c s.heap [] 0 0 (MQ below (va_Qi (fun r (_ : Unit) => r = o.1) (fun _ t => Af_ G ct (wX7 a ct o.2 sg) A t) A) (List.toArray [.ref (a 0), .int x1, .int x2]) s 0 0 A) (F0 m 0 ls [])
  refine lv_aload_n hx hb dX7_fails_0 rfl (lv_at hl 0 rfl) ?_
  refine lv_iload_n hx hb dX7_fails_1 rfl (lv_at hl 2 rfl) ?_
  refine x_put (w' := (wX7 a ct (up1 g 17 0 x2) sg)) (ci := 7) (v := .int x2) (ty := .int) (C := RX7) (T := TX7) (N := 44) hx hb hts inX7 tyX7 tyX7_ok nmX7 hown hK hW 0 rfl rfl 16 (by decide) fl40 (fun _ h9 => h9) rfl (by decide +kernel) rfl rfl (Nat.le_of_ble_eq_true rfl) rfl dX7_fails_2 (fun H locs hW => ?_)
  refine lv_iload_n hx hb dX7_fails_5 rfl (lv_at hl 1 rfl) ?_
  have ho := Option.some.inj hf
  subst ho
  exact x_reti (sz := 0) (w0 := []) (A1 := A) hx hb hr hlocks hK hW rfl rfl dX7_fails_6
set_option maxHeartbeats 4000000 in
set_option maxRecDepth 100000 in
theorem c_X7_readWord (l : Launch) (N : Nat) (kd : (Nat → Nat) × (Nat → Nat)) (G : va_G) (ct : Nat → ClassId) (a : Nat → Nat) (g : St_) (sg : Int64) (o : (St_ × Int64)) (hf : f_X7_readWord N g sg = some o) : CtV l yX7_readWord wsX7_readWord ({ frames := 1, cells := 0, slots := 0, locals := 25 }) kd G ct [.ref (a 0)] (wX7 a ct g sg) (wX7 a ct o.1 o.2) := by
  intro sz
  refine Met.ofW (cc := cX7_readWord) (maxL := 2) (ret := none) (by decide) rfl ?_
  intro p e s m args below meth c s₁ B hml hv
  obtain ⟨rfl, hsz, hP, hK, hD0, hE⟩ := hv
  have hx := B.exec
  have hb := B.bytes
  have hr := B.returns
  have hts := atoms_spec (ws := wsX7_readWord) B.pre
  have hown : s.vm.findClass RX7 = some m.cls := findClass_of_methodNamed B.named
  have hlocks := B.notSynchronized
  have inX7 : ∀ w ∈ wsX70, w ∈ wsX7_readWord := by decide +kernel
  have fl37 := hts (.fieldLink RX7 37 "FittingStridesModel" "text" "[I") (by decide +kernel)
  have fl112 := hts (.fieldLink RX7 112 "FittingStridesModel" "texted" "I") (by decide +kernel)
  have fl118 := hts (.fieldLink RX7 118 "FittingStridesModel" "at0" "I") (by decide +kernel)
  have fl125 := hts (.fieldLink RX7 125 "FittingStridesModel" "said" "J") (by decide +kernel)
  have fl129 := hts (.fieldLink RX7 129 "FittingStridesModel" "wordEnd" "I") (by decide +kernel)
  have fl132 := hts (.constantLong RX7 132 (97)) (by decide +kernel)
  have fl134 := hts (.constantLong RX7 134 (122)) (by decide +kernel)
  have fl136 := hts (.constantLong RX7 136 (10000000000000)) (by decide +kernel)
  have fl138 := hts (.constantLong RX7 138 (20000000000000)) (by decide +kernel)
  have fl140 := hts (.constantLong RX7 140 (27)) (by decide +kernel)
  have fl142 := hts (.constantLong RX7 142 (96)) (by decide +kernel)
  subst hsz
  have hD := hD0.self (sz := s.heap.size)
  generalize hAe : va_A (wX7 a ct g sg) s.heap.size = A at hD hE ⊢
  have hA : ∀ q : Nat, s.heap.size ≤ q → A q := fun q h => by rw [← hAe]; exact Or.inr h
  have hW : WW G A s.heap (wX7 a ct g sg) s.heap [] := ⟨hP, hD, va_S.rf⟩
  have hl := lv_entry ([.ref (a 0)]) (n := 2) (Nat.le_of_ble_eq_true rfl)
  rw [lg_entry_eq]
  generalize (lg_sl ([.ref (a 0)]) ++ List.replicate (2 - (lg_sl ([.ref (a 0)])).length) Slot.unset).toArray = ls at hl ⊢
  have hl : lv_has ls 2 [(0, .ref (a 0))] := hl
  unfold f_X7_readWord at hf
  show W p l e ({ frames := 1, cells := 0, slots := 0, locals := 25 } : Room) s m (List.toArray [.ref (a 0)]) below meth c s.heap [] 0 0 (MQ below (va_Qv (fun (_ : Unit) => True) (fun _ t => Af_ G ct (wX7 a ct o.1 o.2) A t) A) (List.toArray [.ref (a 0)]) s 0 0 A) (F0 m 0 ls [])
  refine lv_aload_n hx hb dX7_readWord_0 rfl (lv_at hl 0 rfl) ?_
  replace hf := bs_ hf; obtain ⟨r1, hcl, hf⟩ := hf
  refine x_callW_i (w' := (wX7 a ct r1.2 sg)) (As := []) (rest := []) (ci := 7) ⟨hx, hb, hml, hown, hts⟩ (c_X7_here l N kd G ct a g sg _ hcl) (cwV 0 hts gX7_readWord_X7_here rfl rfl rfl (by decide +kernel) ⟨Nat.le_of_ble_eq_true rfl, Nat.le_of_ble_eq_true rfl⟩) hK hE hA hW rfl rfl 0 rfl rfl rfl rfl hl.1 rfl (lv_room (Nat.le_of_ble_eq_true rfl)) dX7_readWord_1 (fun H locs hW => ?_)
  refine lv_istore_n (lv' := [(1, .int r1.1), (0, .ref (a 0))]) hx hb dX7_readWord_4 rfl hl (by decide) rfl (fun ls hl => ?_)
  refine lv_aload_n hx hb dX7_readWord_5 rfl (lv_at hl 1 rfl) ?_
  refine lv_lconst (v := (0 : Int64)) hx hb dX7_readWord_6 (by decide) ?_
  refine x_put (w' := (wX7 a ct r1.2 (0 : Int64))) (ci := 7) (v := .long (0 : Int64)) (ty := .long) (C := RX7) (T := TX7) (N := 44) hx hb hts inX7 tyX7 tyX7_ok nmX7 hown hK hW 0 rfl rfl 18 (by decide) fl125 (fun _ h9 => h9) rfl (by decide +kernel) rfl rfl (Nat.le_of_ble_eq_true rfl) rfl dX7_readWord_7 (fun H locs hW => ?_)
  refine lv_aload_n hx hb dX7_readWord_10 rfl (lv_at hl 1 rfl) ?_
  refine lv_aload_n hx hb dX7_readWord_11 rfl (lv_at hl 1 rfl) ?_
  refine x_get (ci := 7) (v := .int (r1.2 18 0)) (C := RX7) (T := TX7) (N := 44) hx hb hts inX7 hown hK hW 0 rfl rfl 17 (by decide) fl118 (fun _ h9 => h9) rfl dX7_readWord_12 ?_
  refine x_put (w' := (wX7 a ct (up1 r1.2 20 0 (r1.2 18 0)) (0 : Int64))) (ci := 7) (v := .int (r1.2 18 0)) (ty := .int) (C := RX7) (T := TX7) (N := 44) hx hb hts inX7 tyX7 tyX7_ok nmX7 hown hK hW 0 rfl rfl 19 (by decide) fl129 (fun _ h9 => h9) rfl (by decide +kernel) rfl rfl (Nat.le_of_ble_eq_true rfl) rfl dX7_readWord_15 (fun H locs hW => ?_)
  replace hf := bs_ hf; obtain ⟨v2, hg, hf⟩ := hf
  have J2 : ∀ (H : Heap) (locs : List Loc) (ls : Array Slot), WW G A s.heap (wX7 a ct v2.1 v2.2) H locs → lv_has ls 2 [] → W p l e ({ frames := 1, cells := 0, slots := 0, locals := 25 } : Room) s m (List.toArray [.ref (a 0)]) below meth c H locs 0 0 (MQ below (va_Qv (fun (_ : Unit) => True) (fun _ t => Af_ G ct (wX7 a ct o.1 o.2) A t) A) (List.toArray [.ref (a 0)]) s 0 0 A) (F0 m 108 ls []) := by
    intro H locs ls hW hl
    have ho := Option.some.inj hf
    subst ho
    exact x_retv hx hb hr hlocks hK hW rfl dX7_readWord_108
  clear hf
  have L2 : ∀ (n : Nat) (g2 : St_) (t2 : Int64), f_X7_readWord_L18 N n g2 t2 = some v2 → ∀ (H : Heap) (locs : List Loc) (ls : Array Slot), WW G A s.heap (wX7 a ct g2 t2) H locs → lv_has ls 2 [(0, .ref (a 0))] → W p l e ({ frames := 1, cells := 0, slots := 0, locals := 25 } : Room) s m (List.toArray [.ref (a 0)]) below meth c H locs 0 0 (MQ below (va_Qv (fun (_ : Unit) => True) (fun _ t => Af_ G ct (wX7 a ct o.1 o.2) A t) A) (List.toArray [.ref (a 0)]) s 0 0 A) (F0 m 18 ls []) := by
    intro n
    induction n with
    | zero =>
      intro g2 t2 hf
      rw [f_X7_readWord_L18] at hf
      cases hf
    | succ n ih =>
      intro g2 t2 hf H locs ls hW hl
      rw [f_X7_readWord_L18] at hf
      refine lv_aload_n hx hb dX7_readWord_18 rfl (lv_at hl 0 rfl) ?_
      refine x_get (ci := 7) (v := .int (g2 20 0)) (C := RX7) (T := TX7) (N := 44) hx hb hts inX7 hown hK hW 0 rfl rfl 19 (by decide) fl129 (fun _ h9 => h9) rfl dX7_readWord_19 ?_
      refine lv_aload_n hx hb dX7_readWord_22 rfl (lv_at hl 0 rfl) ?_
      refine x_get (ci := 7) (v := .int (g2 16 0)) (C := RX7) (T := TX7) (N := 44) hx hb hts inX7 hown hK hW 0 rfl rfl 15 (by decide) fl112 (fun _ h9 => h9) rfl dX7_readWord_23 ?_
      refine lv_icmp_ge (tgt := 108) hx hb dX7_readWord_26 (by decide) (fun hc => ?_) (fun hc => ?_)
      · replace hf := ifp hc hf
        have hj := Option.some.inj hf
        subst hj
        exact J2 _ _ _ hW (lv_sub hl [] rfl)
      · replace hf := ifn hc hf
        refine lv_aload_n hx hb dX7_readWord_29 rfl (lv_at hl 0 rfl) ?_
        refine x_get (ci := 7) (v := .ref (a 15)) (C := RX7) (T := TX7) (N := 44) hx hb hts inX7 hown hK hW 0 rfl rfl 14 (by decide) fl37 (fun _ h9 => h9) rfl dX7_readWord_30 ?_
        refine lv_aload_n hx hb dX7_readWord_33 rfl (lv_at hl 0 rfl) ?_
        refine x_get (ci := 7) (v := .int (g2 20 0)) (C := RX7) (T := TX7) (N := 44) hx hb hts inX7 hown hK hW 0 rfl rfl 19 (by decide) fl129 (fun _ h9 => h9) rfl dX7_readWord_34 ?_
        replace hf := gd_s hf; obtain ⟨hin, hf⟩ := hf
        refine x_iald (n := 500) (f := g2 15) hx hb hK hW 10 rfl (okI_in hin) dX7_readWord_37 ?_
        refine lv_i2l hx hb dX7_readWord_38 rfl ?_
        refine lv_ldc2 (v := (97 : Int64)) hx hb hown fl132 dX7_readWord_39 ?_
        refine lv_ldc2 (v := (122 : Int64)) hx hb hown fl134 dX7_readWord_42 ?_
        replace hf := bs_ hf; obtain ⟨r3, hcl, hf⟩ := hf
        refine x_callS_i (As := [.long (g2 15 (g2 20 0).toNatClampNeg).toInt64, .long (97 : Int64), .long (122 : Int64)]) (rest := []) ⟨hx, hb, hml, hown, hts⟩ (c_X7_in l N kd G ct ((g2 15 (g2 20 0).toNatClampNeg).toInt64) (97 : Int64) (122 : Int64) _ hcl) (va_cwS 3 hts gX7_readWord_X7_in rfl rfl rfl (by decide +kernel) ⟨Nat.le_of_ble_eq_true rfl, Nat.le_of_ble_eq_true rfl⟩) hK hE hA hW rfl hl.1 rfl (lv_room (Nat.le_of_ble_eq_true rfl)) dX7_readWord_45 (fun H locs hW => ?_)
        refine lv_if_eq (tgt := 108) hx hb dX7_readWord_48 (by decide) (fun hc => ?_) (fun hc => ?_)
        · replace hf := ifp hc hf
          have hj := Option.some.inj hf
          subst hj
          exact J2 _ _ _ hW (lv_sub hl [] rfl)
        · replace hf := ifn hc hf
          refine lv_aload_n hx hb dX7_readWord_51 rfl (lv_at hl 0 rfl) ?_
          refine lv_aload_n hx hb dX7_readWord_52 rfl (lv_at hl 0 rfl) ?_
          refine x_get (ci := 7) (v := .long t2) (C := RX7) (T := TX7) (N := 44) hx hb hts inX7 hown hK hW 0 rfl rfl 18 (by decide) fl125 (fun _ h9 => h9) rfl dX7_readWord_53 ?_
          refine lv_ldc2 (v := (10000000000000 : Int64)) hx hb hown fl136 dX7_readWord_56 ?_
          refine W.lcmp hx hb dX7_readWord_59 ?_
          replace hf := bs_ hf; obtain ⟨j4, hg, hf⟩ := hf
          have J4 : ∀ (H : Heap) (locs : List Loc) (ls : Array Slot), WW G A s.heap (wX7 a ct g2 t2) H locs → lv_has ls 2 [(0, .ref (a 0))] → W p l e ({ frames := 1, cells := 0, slots := 0, locals := 25 } : Room) s m (List.toArray [.ref (a 0)]) below meth c H locs 0 0 (MQ below (va_Qv (fun (_ : Unit) => True) (fun _ t => Af_ G ct (wX7 a ct o.1 o.2) A t) A) (List.toArray [.ref (a 0)]) s 0 0 A) (F0 m 92 ls (.long j4 :: .ref (a 0) :: [])) := by
            intro H locs ls hW hl
            refine x_put (w' := (wX7 a ct g2 j4)) (ci := 7) (v := .long j4) (ty := .long) (C := RX7) (T := TX7) (N := 44) hx hb hts inX7 tyX7 tyX7_ok nmX7 hown hK hW 0 rfl rfl 18 (by decide) fl125 (fun _ h9 => h9) rfl (by decide +kernel) rfl rfl (Nat.le_of_ble_eq_true rfl) rfl dX7_readWord_92 (fun H locs hW => ?_)
            refine lv_aload_n hx hb dX7_readWord_95 rfl (lv_at hl 0 rfl) ?_
            refine lv_dup hx hb dX7_readWord_96 rfl ?_
            refine x_get (ci := 7) (v := .int (g2 20 0)) (C := RX7) (T := TX7) (N := 44) hx hb hts inX7 hown hK hW 0 rfl rfl 19 (by decide) fl129 (fun _ h9 => h9) rfl dX7_readWord_97 ?_
            refine lv_iconst (v := (1 : Int32)) hx hb dX7_readWord_100 (by decide) ?_
            refine lv_iadd hx hb dX7_readWord_101 ?_
            refine x_put (w' := (wX7 a ct (up1 g2 20 0 ((g2 20 0) + (1 : Int32))) j4)) (ci := 7) (v := .int ((g2 20 0) + (1 : Int32))) (ty := .int) (C := RX7) (T := TX7) (N := 44) hx hb hts inX7 tyX7 tyX7_ok nmX7 hown hK hW 0 rfl rfl 19 (by decide) fl129 (fun _ h9 => h9) rfl (by decide +kernel) rfl rfl (Nat.le_of_ble_eq_true rfl) rfl dX7_readWord_102 (fun H locs hW => ?_)
            refine lv_goto (tgt := 18) hx hb dX7_readWord_105 (by decide) ?_
            exact ih (up1 g2 20 0 ((g2 20 0) + (1 : Int32))) j4 hf _ _ _ hW (lv_sub hl [0] rfl)
          clear hf
          refine lv_if_le (tgt := 69) hx hb dX7_readWord_60 (by decide) (fun hc => ?_) (fun hc => ?_)
          · have hf := ifp hc hg
            clear hg
            refine lv_ldc2 (v := (27 : Int64)) hx hb hown fl140 dX7_readWord_69 ?_
            refine lv_aload_n hx hb dX7_readWord_72 rfl (lv_at hl 0 rfl) ?_
            refine x_get (ci := 7) (v := .long t2) (C := RX7) (T := TX7) (N := 44) hx hb hts inX7 hown hK hW 0 rfl rfl 18 (by decide) fl125 (fun _ h9 => h9) rfl dX7_readWord_73 ?_
            refine lv_lmul hx hb dX7_readWord_76 ?_
            refine lv_aload_n hx hb dX7_readWord_77 rfl (lv_at hl 0 rfl) ?_
            refine x_get (ci := 7) (v := .ref (a 15)) (C := RX7) (T := TX7) (N := 44) hx hb hts inX7 hown hK hW 0 rfl rfl 14 (by decide) fl37 (fun _ h9 => h9) rfl dX7_readWord_78 ?_
            refine lv_aload_n hx hb dX7_readWord_81 rfl (lv_at hl 0 rfl) ?_
            refine x_get (ci := 7) (v := .int (g2 20 0)) (C := RX7) (T := TX7) (N := 44) hx hb hts inX7 hown hK hW 0 rfl rfl 19 (by decide) fl129 (fun _ h9 => h9) rfl dX7_readWord_82 ?_
            replace hf := gd_s hf; obtain ⟨hin, hf⟩ := hf
            refine x_iald (n := 500) (f := g2 15) hx hb hK hW 10 rfl (okI_in hin) dX7_readWord_85 ?_
            refine lv_i2l hx hb dX7_readWord_86 rfl ?_
            refine lv_ladd hx hb dX7_readWord_87 ?_
            refine lv_ldc2 (v := (96 : Int64)) hx hb hown fl142 dX7_readWord_88 ?_
            refine lv_lsub hx hb dX7_readWord_91 ?_
            have hj := Option.some.inj hf
            subst hj
            exact J4 _ _ _ hW (lv_sub hl [0] rfl)
          · have hf := ifn hc hg
            clear hg
            refine lv_ldc2 (v := (20000000000000 : Int64)) hx hb hown fl138 dX7_readWord_63 ?_
            refine lv_goto (tgt := 92) hx hb dX7_readWord_66 (by decide) ?_
            have hj := Option.some.inj hf
            subst hj
            exact J4 _ _ _ hW (lv_sub hl [0] rfl)
  exact L2 N (up1 r1.2 20 0 (r1.2 18 0)) (0 : Int64) hg _ _ _ hW (lv_sub hl [1] rfl)
