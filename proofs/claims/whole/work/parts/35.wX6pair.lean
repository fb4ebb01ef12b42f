set_option maxHeartbeats 4000000 in
set_option maxRecDepth 100000 in
theorem c_X6_pair (l : Launch) (N : Nat) (kd : (Nat → Nat) × (Nat → Nat)) (G : va_G) (ct : Nat → ClassId) (a : Nat → Nat) (g : St_) (x1 : Int32) (x2 : Int32) (x3 : Int32) (o : Int32) (hf : f_X6_pair N g x1 x2 x3 = some o) : CtI l yX6_pair wsX6_pair ({ frames := 5, cells := 0, slots := 0, locals := 118 }) kd G ct [.ref (a 0), .int x1, .int x2, .int x3] (wX6 a ct g) o (wX6 a ct g) := by
  intro sz
  refine Met.ofW (cc := cX6_pair) (maxL := 5) (ret := (some .int)) (by decide) rfl ?_
  intro p e s m args below meth c s₁ B hml hv
  obtain ⟨rfl, hsz, hP, hK, hD0, hE⟩ := hv
  have hx := B.exec
  have hb := B.bytes
  have hr := B.returns
  have hts := atoms_spec (ws := wsX6_pair) B.pre
  have hown : s.vm.findClass RX6 = some m.cls := findClass_of_methodNamed B.named
  have hlocks := B.notSynchronized
  have inX3 : ∀ w ∈ wsX30, w ∈ wsX6_pair := by decide +kernel
  have inX5 : ∀ w ∈ wsX50, w ∈ wsX6_pair := by decide +kernel
  have inX6 : ∀ w ∈ wsX60, w ∈ wsX6_pair := by decide +kernel
  have fl19 := hts (.fieldLink RX6 19 "FittingStrides" "now" "LFittingStrides$Town;") (by decide +kernel)
  have fl52 := hts (.constant RX6 52 (-1000000002)) (by decide +kernel)
  have fl96 := hts (.fieldLink RX6 96 "FittingStrides$Town" "state" "LFittingStrides$State;") (by decide +kernel)
  have fl114 := hts (.constant RX6 114 (-1000000001)) (by decide +kernel)
  have fl148 := hts (.fieldLink RX6 148 "FittingStrides$State" "firsts" "[I") (by decide +kernel)
  subst hsz
  have hD := hD0.self (sz := s.heap.size)
  generalize hAe : va_A (wX6 a ct g) s.heap.size = A at hD hE ⊢
  have hA : ∀ q : Nat, s.heap.size ≤ q → A q := fun q h => by rw [← hAe]; exact Or.inr h
  have hW : WW G A s.heap (wX6 a ct g) s.heap [] := ⟨hP, hD, va_S.rf⟩
  have hl := lv_entry ([.ref (a 0), .int x1, .int x2, .int x3]) (n := 5) (Nat.le_of_ble_eq_true rfl)
  rw [lg_entry_eq]
  generalize (lg_sl ([.ref (a 0), .int x1, .int x2, .int x3]) ++ List.replicate (5 - (lg_sl ([.ref (a 0), .int x1, .int x2, .int x3])).length) Slot.unset).toArray = ls at hl ⊢
  have hl : lv_has ls 5 [(0, .ref (a 0)), (1, .int x1), (2, .int x2), (3, .int x3)] := hl
  unfold f_X6_pair at hf
  show W p l e ({ frames := 5, cells := 0, slots := 0, locals := 118 } : Room) s m (List.toArray [.ref (a 0), .int x1, .int x2, .int x3]) below meth c s.heap [] 0 0 (MQ below (va_Qi (fun r (_ : Unit) => r = o) (fun _ t => Af_ G ct (wX6 a ct g) A t) A) (List.toArray [.ref (a 0), .int x1, .int x2, .int x3]) s 0 0 A) (F0 m 0 ls [])
  refine lv_aload_n hx hb dX6_pair_0 rfl (lv_at hl 0 rfl) ?_
  refine x_get (ci := 6) (v := .ref (a 26)) (C := RX6) (T := TX6) (N := 7) hx hb hts inX6 hown hK hW 0 rfl rfl 1 (by decide) fl19 (fun _ h9 => h9) rfl dX6_pair_1 ?_
  refine x_get (ci := 5) (v := .ref (a 34)) (C := RX5) (T := TX5) (N := 4) hx hb hts inX5 hown hK hW 17 rfl rfl 1 (by decide) fl96 (fun _ h9 => h9) rfl dX6_pair_4 ?_
  refine lv_astore (lv' := [(4, .ref (a 34)), (0, .ref (a 0)), (1, .int x1), (2, .int x2), (3, .int x3)]) hx hb dX6_pair_7 hl (by decide) rfl (fun ls hl => ?_)
  refine lv_aload hx hb dX6_pair_9 (lv_at hl 0 rfl) ?_
  refine lv_iload_n hx hb dX6_pair_11 rfl (lv_at hl 2 rfl) ?_
  replace hf := bs_ hf; obtain ⟨r1, hcl, hf⟩ := hf
  refine x_callV_i (w' := (wX6 a ct g)) (As := [.int x1]) (rest := []) (ci := 3) ⟨hx, hb, hml, hown, hts⟩ (c_X3_hasPerson l N kd G ct (sh_ 34 a) (sh_ 34 g) x1 _ hcl) (cwV 1 hts gX6_pair_X3_hasPerson rfl rfl rfl (by decide +kernel) ⟨Nat.le_of_ble_eq_true rfl, Nat.le_of_ble_eq_true rfl⟩) hK hE hA hW ((wX6 a ct g).take 23) ((wX6 a ct g).drop 29) (wc_X6_34 a ct g) (wc_X6_34 a ct g) 0 rfl rfl rfl rfl hl.1 rfl (lv_room (Nat.le_of_ble_eq_true rfl)) dX6_pair_12 (fun H locs hW => ?_)
  refine lv_if_eq (tgt := 32) hx hb dX6_pair_15 (by decide) (fun hc => ?_) (fun hc => ?_)
  · replace hf := ifp hc hf
    refine lv_ldc (v := (-1000000001 : Int32)) hx hb hown fl114 dX6_pair_32 ?_
    have ho := Option.some.inj hf
    subst ho
    exact x_reti (sz := 0) (w0 := []) (A1 := A) hx hb hr hlocks hK hW rfl rfl dX6_pair_34
  · replace hf := ifn hc hf
    refine lv_aload hx hb dX6_pair_18 (lv_at hl 0 rfl) ?_
    refine lv_iload_n hx hb dX6_pair_20 rfl (lv_at hl 3 rfl) ?_
    replace hf := bs_ hf; obtain ⟨r2, hcl, hf⟩ := hf
    refine x_callV_i (w' := (wX6 a ct g)) (As := [.int x2]) (rest := []) (ci := 3) ⟨hx, hb, hml, hown, hts⟩ (c_X3_hasPerson l N kd G ct (sh_ 34 a) (sh_ 34 g) x2 _ hcl) (cwV 1 hts gX6_pair_X3_hasPerson rfl rfl rfl (by decide +kernel) ⟨Nat.le_of_ble_eq_true rfl, Nat.le_of_ble_eq_true rfl⟩) hK hE hA hW ((wX6 a ct g).take 23) ((wX6 a ct g).drop 29) (wc_X6_34 a ct g) (wc_X6_34 a ct g) 0 rfl rfl rfl rfl hl.1 rfl (lv_room (Nat.le_of_ble_eq_true rfl)) dX6_pair_21 (fun H locs hW => ?_)
    refine lv_if_eq (tgt := 32) hx hb dX6_pair_24 (by decide) (fun hc => ?_) (fun hc => ?_)
    · replace hf := ifp hc hf
      refine lv_ldc (v := (-1000000001 : Int32)) hx hb hown fl114 dX6_pair_32 ?_
      have ho := Option.some.inj hf
      subst ho
      exact x_reti (sz := 0) (w0 := []) (A1 := A) hx hb hr hlocks hK hW rfl rfl dX6_pair_34
    · replace hf := ifn hc hf
      refine lv_iload_n hx hb dX6_pair_27 rfl (lv_at hl 2 rfl) ?_
      refine lv_iload_n hx hb dX6_pair_28 rfl (lv_at hl 3 rfl) ?_
      refine lv_icmp_ne (tgt := 35) hx hb dX6_pair_29 (by decide) (fun hc => ?_) (fun hc => ?_)
      · replace hf := ifn hc hf
        refine lv_iload_n hx hb dX6_pair_35 rfl (lv_at hl 4 rfl) ?_
        by_cases q0 : x3 = (0 : Int32)
        · replace hf := ifp q0 hf
          refine lv_lookup (tgt := 64) (off := 28) hx hb dX6_pair_36 (by decide) (by rw [q0]; rfl) (by decide) ?_
          refine lv_aload_n hx hb dX6_pair_64 rfl (lv_at hl 1 rfl) ?_
          refine x_get (ci := 6) (v := .ref (a 26)) (C := RX6) (T := TX6) (N := 7) hx hb hts inX6 hown hK hW 0 rfl rfl 1 (by decide) fl19 (fun _ h9 => h9) rfl dX6_pair_65 ?_
          refine lv_iload_n hx hb dX6_pair_68 rfl (lv_at hl 2 rfl) ?_
          replace hf := bs_ hf; obtain ⟨r3, hcl, hf⟩ := hf
          refine x_callV_i (w' := (wX6 a ct g)) (As := [.int x1]) (rest := []) (ci := 5) ⟨hx, hb, hml, hown, hts⟩ (c_X5_reachOfPerson l N kd G ct (sh_ 26 a) (sh_ 26 g) x1 _ hcl) (cwV 1 hts gX6_pair_X5_reachOfPerson rfl rfl rfl (by decide +kernel) ⟨Nat.le_of_ble_eq_true rfl, Nat.le_of_ble_eq_true rfl⟩) hK hE hA hW ((wX6 a ct g).take 17) ((wX6 a ct g).drop 31) (wc_X6_26 a ct g) (wc_X6_26 a ct g) 0 rfl rfl rfl rfl hl.1 rfl (lv_room (Nat.le_of_ble_eq_true rfl)) dX6_pair_69 (fun H locs hW => ?_)
          refine lv_aload_n hx hb dX6_pair_72 rfl (lv_at hl 1 rfl) ?_
          refine x_get (ci := 6) (v := .ref (a 26)) (C := RX6) (T := TX6) (N := 7) hx hb hts inX6 hown hK hW 0 rfl rfl 1 (by decide) fl19 (fun _ h9 => h9) rfl dX6_pair_73 ?_
          refine lv_iload_n hx hb dX6_pair_76 rfl (lv_at hl 3 rfl) ?_
          replace hf := bs_ hf; obtain ⟨r4, hcl, hf⟩ := hf
          refine x_callV_i (w' := (wX6 a ct g)) (As := [.int x2]) (rest := [.int r3]) (ci := 5) ⟨hx, hb, hml, hown, hts⟩ (c_X5_reachOfPerson l N kd G ct (sh_ 26 a) (sh_ 26 g) x2 _ hcl) (cwV 1 hts gX6_pair_X5_reachOfPerson rfl rfl rfl (by decide +kernel) ⟨Nat.le_of_ble_eq_true rfl, Nat.le_of_ble_eq_true rfl⟩) hK hE hA hW ((wX6 a ct g).take 17) ((wX6 a ct g).drop 31) (wc_X6_26 a ct g) (wc_X6_26 a ct g) 0 rfl rfl rfl rfl hl.1 rfl (lv_room (Nat.le_of_ble_eq_true rfl)) dX6_pair_77 (fun H locs hW => ?_)
          refine lv_iand hx hb dX6_pair_80 ?_
          have ho := Option.some.inj hf
          subst ho
          exact x_reti (sz := 0) (w0 := []) (A1 := A) hx hb hr hlocks hK hW rfl rfl dX6_pair_81
        · replace hf := ifn q0 hf
          by_cases q1 : x3 = (1 : Int32)
          · replace hf := ifp q1 hf
            refine lv_lookup (tgt := 82) (off := 46) hx hb dX6_pair_36 (by decide) (by rw [q1]; rfl) (by decide) ?_
            refine lv_aload hx hb dX6_pair_82 (lv_at hl 0 rfl) ?_
            refine x_get (ci := 3) (v := .ref (a 37)) (C := RX3) (T := TX3) (N := 8) hx hb hts inX3 hown hK hW 23 rfl rfl 2 (by decide) fl148 (fun _ h9 => h9) rfl dX6_pair_84 ?_
            refine lv_iload_n hx hb dX6_pair_87 rfl (lv_at hl 2 rfl) ?_
            replace hf := gd_s hf; obtain ⟨hin, hf⟩ := hf
            refine x_iald (n := 8) (f := g 37) hx hb hK hW 25 rfl (okI_in hin) dX6_pair_88 ?_
            refine lv_i2l hx hb dX6_pair_89 rfl ?_
            refine lv_aload hx hb dX6_pair_90 (lv_at hl 0 rfl) ?_
            refine x_get (ci := 3) (v := .ref (a 37)) (C := RX3) (T := TX3) (N := 8) hx hb hts inX3 hown hK hW 23 rfl rfl 2 (by decide) fl148 (fun _ h9 => h9) rfl dX6_pair_92 ?_
            refine lv_iload_n hx hb dX6_pair_95 rfl (lv_at hl 3 rfl) ?_
            replace hf := gd_s hf; obtain ⟨hin, hf⟩ := hf
            refine x_iald (n := 8) (f := g 37) hx hb hK hW 25 rfl (okI_in hin) dX6_pair_96 ?_
            replace hf := bs_ hf; obtain ⟨r5, hcl, hf⟩ := hf
            refine x_callS_l (As := [.long (g 37 x1.toNatClampNeg).toInt64, .int (g 37 x2.toNatClampNeg)]) (rest := []) ⟨hx, hb, hml, hown, hts⟩ (c_X6_commonSteps l N kd G ct ((g 37 x1.toNatClampNeg).toInt64) (g 37 x2.toNatClampNeg) _ hcl) (va_cwS 2 hts gX6_pair_X6_commonSteps rfl rfl rfl (by decide +kernel) ⟨Nat.le_of_ble_eq_true rfl, Nat.le_of_ble_eq_true rfl⟩) hK hE hA hW rfl hl.1 rfl (lv_room (Nat.le_of_ble_eq_true rfl)) dX6_pair_97 (fun H locs hW => ?_)
            refine lv_l2i hx hb dX6_pair_100 rfl ?_
            have ho := Option.some.inj hf
            subst ho
            exact x_reti (sz := 0) (w0 := []) (A1 := A) hx hb hr hlocks hK hW rfl rfl dX6_pair_101
          · replace hf := ifn q1 hf
            refine lv_lookup (tgt := 102) (off := 66) hx hb dX6_pair_36 (by decide) (by show Op.lookupswitch.offset _ _ _ = _; rw [lv_osw q0 (show (0 : Int32).toInt = 0 from rfl), lv_osw q1 (show (1 : Int32).toInt = 1 from rfl)]; rfl) (by decide) ?_
            refine lv_ldc (v := (-1000000002 : Int32)) hx hb hown fl52 dX6_pair_102 ?_
            have ho := Option.some.inj hf
            subst ho
            exact x_reti (sz := 0) (w0 := []) (A1 := A) hx hb hr hlocks hK hW rfl rfl dX6_pair_104
      · replace hf := ifp hc hf
        refine lv_ldc (v := (-1000000001 : Int32)) hx hb hown fl114 dX6_pair_32 ?_
        have ho := Option.some.inj hf
        subst ho
        exact x_reti (sz := 0) (w0 := []) (A1 := A) hx hb hr hlocks hK hW rfl rfl dX6_pair_34
set_option maxHeartbeats 4000000 in
set_option maxRecDepth 100000 in
theorem c_X6_carried (l : Launch) (N : Nat) (kd : (Nat → Nat) × (Nat → Nat)) (G : va_G) (ct : Nat → ClassId) (a : Nat → Nat) (g : St_) (x1 : Int32) (x2 : Int32) (x3 : Int32) (o : (Int32 × St_)) (hf : f_X6_carried N g x1 x2 x3 = some o) : CtI l yX6_carried wsX6_carried ({ frames := 5, cells := 0, slots := 0, locals := 126 }) kd G ct [.ref (a 0), .int x1, .int x2, .int x3] (wX6 a ct g) o.1 (wX6 a ct o.2) := by
  intro sz
  refine Met.ofW (cc := cX6_carried) (maxL := 5) (ret := (some .int)) (by decide) rfl ?_
  intro p e s m args below meth c s₁ B hml hv
  obtain ⟨rfl, hsz, hP, hK, hD0, hE⟩ := hv
  have hx := B.exec
  have hb := B.bytes
  have hr := B.returns
  have hts := atoms_spec (ws := wsX6_carried) B.pre
  have hown : s.vm.findClass RX6 = some m.cls := findClass_of_methodNamed B.named
  have hlocks := B.notSynchronized
  have inX5 : ∀ w ∈ wsX50, w ∈ wsX6_carried := by decide +kernel
  have inX6 : ∀ w ∈ wsX60, w ∈ wsX6_carried := by decide +kernel
  have fl19 := hts (.fieldLink RX6 19 "FittingStrides" "now" "LFittingStrides$Town;") (by decide +kernel)
  have fl52 := hts (.constant RX6 52 (-1000000002)) (by decide +kernel)
  have fl84 := hts (.fieldLink RX6 84 "FittingStrides$Town" "plan" "LFittingStrides$Plan;") (by decide +kernel)
  have fl96 := hts (.fieldLink RX6 96 "FittingStrides$Town" "state" "LFittingStrides$State;") (by decide +kernel)
  have fl114 := hts (.constant RX6 114 (-1000000001)) (by decide +kernel)
  subst hsz
  have hD := hD0.self (sz := s.heap.size)
  generalize hAe : va_A (wX6 a ct g) s.heap.size = A at hD hE ⊢
  have hA : ∀ q : Nat, s.heap.size ≤ q → A q := fun q h => by rw [← hAe]; exact Or.inr h
  have hW : WW G A s.heap (wX6 a ct g) s.heap [] := ⟨hP, hD, va_S.rf⟩
  have hl := lv_entry ([.ref (a 0), .int x1, .int x2, .int x3]) (n := 5) (Nat.le_of_ble_eq_true rfl)
  rw [lg_entry_eq]
  generalize (lg_sl ([.ref (a 0), .int x1, .int x2, .int x3]) ++ List.replicate (5 - (lg_sl ([.ref (a 0), .int x1, .int x2, .int x3])).length) Slot.unset).toArray = ls at hl ⊢
  have hl : lv_has ls 5 [(0, .ref (a 0)), (1, .int x1), (2, .int x2), (3, .int x3)] := hl
  unfold f_X6_carried at hf
  show W p l e ({ frames := 5, cells := 0, slots := 0, locals := 126 } : Room) s m (List.toArray [.ref (a 0), .int x1, .int x2, .int x3]) below meth c s.heap [] 0 0 (MQ below (va_Qi (fun r (_ : Unit) => r = o.1) (fun _ t => Af_ G ct (wX6 a ct o.2) A t) A) (List.toArray [.ref (a 0), .int x1, .int x2, .int x3]) s 0 0 A) (F0 m 0 ls [])
  refine lv_aload_n hx hb dX6_carried_0 rfl (lv_at hl 0 rfl) ?_
  refine x_get (ci := 6) (v := .ref (a 26)) (C := RX6) (T := TX6) (N := 7) hx hb hts inX6 hown hK hW 0 rfl rfl 1 (by decide) fl19 (fun _ h9 => h9) rfl dX6_carried_1 ?_
  refine x_get (ci := 5) (v := .ref (a 34)) (C := RX5) (T := TX5) (N := 4) hx hb hts inX5 hown hK hW 17 rfl rfl 1 (by decide) fl96 (fun _ h9 => h9) rfl dX6_carried_4 ?_
  refine lv_iload_n hx hb dX6_carried_7 rfl (lv_at hl 1 rfl) ?_
  replace hf := bs_ hf; obtain ⟨r1, hcl, hf⟩ := hf
  refine x_callV_i (w' := (wX6 a ct g)) (As := [.int x1]) (rest := []) (ci := 3) ⟨hx, hb, hml, hown, hts⟩ (c_X3_hasPerson l N kd G ct (sh_ 34 a) (sh_ 34 g) x1 _ hcl) (cwV 1 hts gX6_carried_X3_hasPerson rfl rfl rfl (by decide +kernel) ⟨Nat.le_of_ble_eq_true rfl, Nat.le_of_ble_eq_true rfl⟩) hK hE hA hW ((wX6 a ct g).take 23) ((wX6 a ct g).drop 29) (wc_X6_34 a ct g) (wc_X6_34 a ct g) 0 rfl rfl rfl rfl hl.1 rfl (lv_room (Nat.le_of_ble_eq_true rfl)) dX6_carried_8 (fun H locs hW => ?_)
  refine lv_if_eq (tgt := 28) hx hb dX6_carried_11 (by decide) (fun hc => ?_) (fun hc => ?_)
  · replace hf := ifp hc hf
    refine lv_ldc (v := (-1000000001 : Int32)) hx hb hown fl114 dX6_carried_28 ?_
    have ho := Option.some.inj hf
    subst ho
    exact x_reti (sz := 0) (w0 := []) (A1 := A) hx hb hr hlocks hK hW rfl rfl dX6_carried_30
  · replace hf := ifn hc hf
    refine lv_aload_n hx hb dX6_carried_14 rfl (lv_at hl 0 rfl) ?_
    refine x_get (ci := 6) (v := .ref (a 26)) (C := RX6) (T := TX6) (N := 7) hx hb hts inX6 hown hK hW 0 rfl rfl 1 (by decide) fl19 (fun _ h9 => h9) rfl dX6_carried_15 ?_
    refine x_get (ci := 5) (v := .ref (a 27)) (C := RX5) (T := TX5) (N := 4) hx hb hts inX5 hown hK hW 17 rfl rfl 0 (by decide) fl84 (fun _ h9 => h9) rfl dX6_carried_18 ?_
    refine lv_iload_n hx hb dX6_carried_21 rfl (lv_at hl 2 rfl) ?_
    replace hf := bs_ hf; obtain ⟨r2, hcl, hf⟩ := hf
    refine x_callV_i (w' := (wX6 a ct g)) (As := [.int x2]) (rest := []) (ci := 1) ⟨hx, hb, hml, hown, hts⟩ (c_X1_hasPlace l N kd G ct (sh_ 27 a) (sh_ 27 g) x2 _ hcl) (cwV 1 hts gX6_carried_X1_hasPlace rfl rfl rfl (by decide +kernel) ⟨Nat.le_of_ble_eq_true rfl, Nat.le_of_ble_eq_true rfl⟩) hK hE hA hW ((wX6 a ct g).take 18) ((wX6 a ct g).drop 23) (wc_X6_27 a ct g) (wc_X6_27 a ct g) 0 rfl rfl rfl rfl hl.1 rfl (lv_room (Nat.le_of_ble_eq_true rfl)) dX6_carried_22 (fun H locs hW => ?_)
    refine lv_if_ne (tgt := 31) hx hb dX6_carried_25 (by decide) (fun hc => ?_) (fun hc => ?_)
    · replace hf := ifn hc hf
      refine lv_iload_n hx hb dX6_carried_31 rfl (lv_at hl 3 rfl) ?_
      replace hf := bs_ hf; obtain ⟨jr, hg, hf⟩ := hf
      have hR3 : ∀ r, jr = Sum.inl r → r = o := fun r hr0 => by subst hr0; have h8 := se_l hf; exact Option.some.inj h8
      have J3 : ∀ (j3 : Unit), jr = Sum.inr j3 → ∀ (H : Heap) (locs : List Loc) (ls : Array Slot), WW G A s.heap (wX6 a ct g) H locs → lv_has ls 5 [(0, .ref (a 0)), (1, .int x1), (2, .int x2), (3, .int x3)] → W p l e ({ frames := 5, cells := 0, slots := 0, locals := 126 } : Room) s m (List.toArray [.ref (a 0), .int x1, .int x2, .int x3]) below meth c H locs 0 0 (MQ below (va_Qi (fun r (_ : Unit) => r = o.1) (fun _ t => Af_ G ct (wX6 a ct o.2) A t) A) (List.toArray [.ref (a 0), .int x1, .int x2, .int x3]) s 0 0 A) (F0 m 43 ls ([])) := by
        intro j3 hjr H locs ls hW hl
        subst hjr
        replace hf := se_r hf
        refine lv_aload_n hx hb dX6_carried_43 rfl (lv_at hl 0 rfl) ?_
        refine x_get (ci := 6) (v := .ref (a 26)) (C := RX6) (T := TX6) (N := 7) hx hb hts inX6 hown hK hW 0 rfl rfl 1 (by decide) fl19 (fun _ h9 => h9) rfl dX6_carried_44 ?_
        refine lv_iload_n hx hb dX6_carried_47 rfl (lv_at hl 1 rfl) ?_
        refine lv_iload_n hx hb dX6_carried_48 rfl (lv_at hl 2 rfl) ?_
        replace hf := bs_ hf; obtain ⟨r4, hcl, hf⟩ := hf
        refine x_callV_i (w' := (wX6 a ct (pu_ 26 19 g r4.2))) (As := [.int x1, .int x2]) (rest := []) (ci := 5) ⟨hx, hb, hml, hown, hts⟩ (c_X5_fewestCarriers l N kd G ct (sh_ 26 a) (sh_ 26 g) x1 x2 _ hcl) (cwV 2 hts gX6_carried_X5_fewestCarriers rfl rfl rfl (by decide +kernel) ⟨Nat.le_of_ble_eq_true rfl, Nat.le_of_ble_eq_true rfl⟩) hK hE hA hW ((wX6 a ct g).take 17) ((wX6 a ct g).drop 31) (wc_X6_26 a ct g) (wu_X6_26 a ct g r4.2) 0 rfl rfl rfl rfl hl.1 rfl (lv_room (Nat.le_of_ble_eq_true rfl)) dX6_carried_49 (fun H locs hW => ?_)
        refine lv_istore (lv' := [(4, .int r4.1), (0, .ref (a 0)), (1, .int x1), (2, .int x2), (3, .int x3)]) hx hb dX6_carried_52 hl (by decide) rfl (fun ls hl => ?_)
        refine lv_iload hx hb dX6_carried_54 (lv_at hl 0 rfl) ?_
        refine lv_iconst (v := (-1 : Int32)) hx hb dX6_carried_56 (by decide) ?_
        refine lv_icmp_eq (tgt := 65) hx hb dX6_carried_57 (by decide) (fun hc => ?_) (fun hc => ?_)
        · replace hf := ifp hc hf
          refine lv_iload hx hb dX6_carried_65 (lv_at hl 0 rfl) ?_
          refine lv_goto (tgt := 75) hx hb dX6_carried_67 (by decide) ?_
          have ho := Option.some.inj hf
          subst ho
          exact x_reti (sz := 0) (w0 := []) (A1 := A) hx hb hr hlocks hK hW rfl rfl dX6_carried_75
        · replace hf := ifn hc hf
          refine lv_iload_n hx hb dX6_carried_60 rfl (lv_at hl 4 rfl) ?_
          refine lv_iconst (v := (1 : Int32)) hx hb dX6_carried_61 (by decide) ?_
          refine lv_icmp_ne (tgt := 70) hx hb dX6_carried_62 (by decide) (fun hc => ?_) (fun hc => ?_)
          · replace hf := ifn hc hf
            refine lv_iload hx hb dX6_carried_70 (lv_at hl 0 rfl) ?_
            replace hf := bs_ hf; obtain ⟨r5, hcl, hf⟩ := hf
            refine x_callS_i (As := [.int r4.1]) (rest := []) ⟨hx, hb, hml, hown, hts⟩ (c_J6_bitCount_0f7a4 l N kd G ct r4.1 _ hcl) (va_cwS 1 hts gX6_carried_J6_bitCount_0f7a4 rfl rfl rfl (by decide +kernel) ⟨Nat.le_of_ble_eq_true rfl, Nat.le_of_ble_eq_true rfl⟩) hK hE hA hW rfl hl.1 rfl (lv_room (Nat.le_of_ble_eq_true rfl)) dX6_carried_72 (fun H locs hW => ?_)
            have ho := Option.some.inj hf
            subst ho
            exact x_reti (sz := 0) (w0 := []) (A1 := A) hx hb hr hlocks hK hW rfl rfl dX6_carried_75
          · replace hf := ifp hc hf
            refine lv_iload hx hb dX6_carried_65 (lv_at hl 0 rfl) ?_
            refine lv_goto (tgt := 75) hx hb dX6_carried_67 (by decide) ?_
            have ho := Option.some.inj hf
            subst ho
            exact x_reti (sz := 0) (w0 := []) (A1 := A) hx hb hr hlocks hK hW rfl rfl dX6_carried_75
      clear hf
      refine lv_if_eq (tgt := 43) hx hb dX6_carried_32 (by decide) (fun hc => ?_) (fun hc => ?_)
      · have hf := ifp hc hg
        clear hg
        have hj := (Option.some.inj hf).symm
        exact J3 _ hj _ _ _ hW (lv_sub hl [0, 1, 2, 3] rfl)
      · have hf := ifn hc hg
        clear hg
        refine lv_iload_n hx hb dX6_carried_35 rfl (lv_at hl 3 rfl) ?_
        refine lv_iconst (v := (1 : Int32)) hx hb dX6_carried_36 (by decide) ?_
        refine lv_icmp_eq (tgt := 43) hx hb dX6_carried_37 (by decide) (fun hc => ?_) (fun hc => ?_)
        · replace hf := ifp hc hf
          have hj := (Option.some.inj hf).symm
          exact J3 _ hj _ _ _ hW (lv_sub hl [0, 1, 2, 3] rfl)
        · replace hf := ifn hc hf
          refine lv_ldc (v := (-1000000002 : Int32)) hx hb hown fl52 dX6_carried_40 ?_
          have ho := hR3 _ (Option.some.inj hf).symm
          subst ho
          exact x_reti (sz := 0) (w0 := []) (A1 := A) hx hb hr hlocks hK hW rfl rfl dX6_carried_42
    · replace hf := ifp hc hf
      refine lv_ldc (v := (-1000000001 : Int32)) hx hb hown fl114 dX6_carried_28 ?_
      have ho := Option.some.inj hf
      subst ho
      exact x_reti (sz := 0) (w0 := []) (A1 := A) hx hb hr hlocks hK hW rfl rfl dX6_carried_30
set_option maxHeartbeats 4000000 in
set_option maxRecDepth 100000 in
theorem c_X6_step (l : Launch) (N : Nat) (kd : (Nat → Nat) × (Nat → Nat)) (G : va_G) (ct : Nat → ClassId) (a : Nat → Nat) (g : St_) (x1 : Int32) (x2 : Int32) (x3 : Int32) (x4 : Int32) (o : Int32) (hf : f_X6_step N g x1 x2 x3 x4 = some o) : CtI l yX6_step wsX6_step ({ frames := 3, cells := 0, slots := 0, locals := 74 }) kd G ct [.ref (a 0), .int x1, .int x2, .int x3, .int x4] (wX6 a ct g) o (wX6 a ct g) := by
  intro sz
  refine Met.ofW (cc := cX6_step) (maxL := 7) (ret := (some .int)) (by decide) rfl ?_
  intro p e s m args below meth c s₁ B hml hv
  obtain ⟨rfl, hsz, hP, hK, hD0, hE⟩ := hv
  have hx := B.exec
  have hb := B.bytes
  have hr := B.returns
  have hts := atoms_spec (ws := wsX6_step) B.pre
  have hown : s.vm.findClass RX6 = some m.cls := findClass_of_methodNamed B.named
  have hlocks := B.notSynchronized
  have inX3 : ∀ w ∈ wsX30, w ∈ wsX6_step := by decide +kernel
  have inX5 : ∀ w ∈ wsX50, w ∈ wsX6_step := by decide +kernel
  have inX6 : ∀ w ∈ wsX60, w ∈ wsX6_step := by decide +kernel
  have fl19 := hts (.fieldLink RX6 19 "FittingStrides" "now" "LFittingStrides$Town;") (by decide +kernel)
  have fl52 := hts (.constant RX6 52 (-1000000002)) (by decide +kernel)
  have fl84 := hts (.fieldLink RX6 84 "FittingStrides$Town" "plan" "LFittingStrides$Plan;") (by decide +kernel)
  have fl96 := hts (.fieldLink RX6 96 "FittingStrides$Town" "state" "LFittingStrides$State;") (by decide +kernel)
  have fl114 := hts (.constant RX6 114 (-1000000001)) (by decide +kernel)
  have fl132 := hts (.fieldLink RX6 132 "FittingStrides$State" "steps" "[I") (by decide +kernel)
  subst hsz
  have hD := hD0.self (sz := s.heap.size)
  generalize hAe : va_A (wX6 a ct g) s.heap.size = A at hD hE ⊢
  have hA : ∀ q : Nat, s.heap.size ≤ q → A q := fun q h => by rw [← hAe]; exact Or.inr h
  have hW : WW G A s.heap (wX6 a ct g) s.heap [] := ⟨hP, hD, va_S.rf⟩
  have hl := lv_entry ([.ref (a 0), .int x1, .int x2, .int x3, .int x4]) (n := 7) (Nat.le_of_ble_eq_true rfl)
  rw [lg_entry_eq]
  generalize (lg_sl ([.ref (a 0), .int x1, .int x2, .int x3, .int x4]) ++ List.replicate (7 - (lg_sl ([.ref (a 0), .int x1, .int x2, .int x3, .int x4])).length) Slot.unset).toArray = ls at hl ⊢
  have hl : lv_has ls 7 [(0, .ref (a 0)), (1, .int x1), (2, .int x2), (3, .int x3), (4, .int x4)] := hl
  unfold f_X6_step at hf
  show W p l e ({ frames := 3, cells := 0, slots := 0, locals := 74 } : Room) s m (List.toArray [.ref (a 0), .int x1, .int x2, .int x3, .int x4]) below meth c s.heap [] 0 0 (MQ below (va_Qi (fun r (_ : Unit) => r = o) (fun _ t => Af_ G ct (wX6 a ct g) A t) A) (List.toArray [.ref (a 0), .int x1, .int x2, .int x3, .int x4]) s 0 0 A) (F0 m 0 ls [])
  refine lv_aload_n hx hb dX6_step_0 rfl (lv_at hl 0 rfl) ?_
  refine x_get (ci := 6) (v := .ref (a 26)) (C := RX6) (T := TX6) (N := 7) hx hb hts inX6 hown hK hW 0 rfl rfl 1 (by decide) fl19 (fun _ h9 => h9) rfl dX6_step_1 ?_
  refine x_get (ci := 5) (v := .ref (a 27)) (C := RX5) (T := TX5) (N := 4) hx hb hts inX5 hown hK hW 17 rfl rfl 0 (by decide) fl84 (fun _ h9 => h9) rfl dX6_step_4 ?_
  refine lv_iload_n hx hb dX6_step_7 rfl (lv_at hl 1 rfl) ?_
  refine lv_iload_n hx hb dX6_step_8 rfl (lv_at hl 2 rfl) ?_
  replace hf := bs_ hf; obtain ⟨r1, hcl, hf⟩ := hf
  refine x_callV_i (w' := (wX6 a ct g)) (As := [.int x1, .int x2]) (rest := []) (ci := 1) ⟨hx, hb, hml, hown, hts⟩ (c_X1_hasPart l N kd G ct (sh_ 27 a) (sh_ 27 g) x1 x2 _ hcl) (cwV 2 hts gX6_step_X1_hasPart rfl rfl rfl (by decide +kernel) ⟨Nat.le_of_ble_eq_true rfl, Nat.le_of_ble_eq_true rfl⟩) hK hE hA hW ((wX6 a ct g).take 18) ((wX6 a ct g).drop 23) (wc_X6_27 a ct g) (wc_X6_27 a ct g) 0 rfl rfl rfl rfl hl.1 rfl (lv_room (Nat.le_of_ble_eq_true rfl)) dX6_step_9 (fun H locs hW => ?_)
  refine lv_if_ne (tgt := 18) hx hb dX6_step_12 (by decide) (fun hc => ?_) (fun hc => ?_)
  · replace hf := ifn hc hf
    refine lv_iload_n hx hb dX6_step_18 rfl (lv_at hl 3 rfl) ?_
    refine lv_iconst (v := (1 : Int32)) hx hb dX6_step_19 (by decide) ?_
    replace hf := bs_ hf; obtain ⟨jr, hg, hf⟩ := hf
    have hR2 : ∀ r, jr = Sum.inl r → r = o := fun r hr0 => by subst hr0; have h8 := se_l hf; exact Option.some.inj h8
    have J2 : ∀ (j2 : Unit), jr = Sum.inr j2 → ∀ (H : Heap) (locs : List Loc) (ls : Array Slot), WW G A s.heap (wX6 a ct g) H locs → lv_has ls 7 [(0, .ref (a 0)), (1, .int x1), (2, .int x2), (3, .int x3), (4, .int x4)] → W p l e ({ frames := 3, cells := 0, slots := 0, locals := 74 } : Room) s m (List.toArray [.ref (a 0), .int x1, .int x2, .int x3, .int x4]) below meth c H locs 0 0 (MQ below (va_Qi (fun r (_ : Unit) => r = o) (fun _ t => Af_ G ct (wX6 a ct g) A t) A) (List.toArray [.ref (a 0), .int x1, .int x2, .int x3, .int x4]) s 0 0 A) (F0 m 42 ls ([])) := by
      intro j2 hjr H locs ls hW hl
      subst hjr
      replace hf := se_r hf
      refine lv_aload_n hx hb dX6_step_42 rfl (lv_at hl 0 rfl) ?_
      refine x_get (ci := 6) (v := .ref (a 26)) (C := RX6) (T := TX6) (N := 7) hx hb hts inX6 hown hK hW 0 rfl rfl 1 (by decide) fl19 (fun _ h9 => h9) rfl dX6_step_43 ?_
      refine x_get (ci := 5) (v := .ref (a 34)) (C := RX5) (T := TX5) (N := 4) hx hb hts inX5 hown hK hW 17 rfl rfl 1 (by decide) fl96 (fun _ h9 => h9) rfl dX6_step_46 ?_
      refine x_get (ci := 3) (v := .ref (a 39)) (C := RX3) (T := TX3) (N := 8) hx hb hts inX3 hown hK hW 23 rfl rfl 4 (by decide) fl132 (fun _ h9 => h9) rfl dX6_step_49 ?_
      refine lv_iconst (v := (3 : Int32)) hx hb dX6_step_52 (by decide) ?_
      refine lv_iload_n hx hb dX6_step_53 rfl (lv_at hl 1 rfl) ?_
      refine lv_imul hx hb dX6_step_54 ?_
      refine lv_iload_n hx hb dX6_step_55 rfl (lv_at hl 2 rfl) ?_
      refine lv_iadd hx hb dX6_step_56 ?_
      replace hf := gd_s hf; obtain ⟨hin, hf⟩ := hf
      refine x_iald (n := 30) (f := g 39) hx hb hK hW 27 rfl (okI_in hin) dX6_step_57 ?_
      refine lv_iload_n hx hb dX6_step_58 rfl (lv_at hl 3 rfl) ?_
      refine lv_iadd hx hb dX6_step_59 ?_
      replace hf := bs_ hf; obtain ⟨r3, hcl, hf⟩ := hf
      refine x_callS_i (As := [.int ((g 39 (((3 : Int32) * x1) + x2).toNatClampNeg) + x3)]) (rest := []) ⟨hx, hb, hml, hown, hts⟩ (c_X6_areSteps l N kd G ct ((g 39 (((3 : Int32) * x1) + x2).toNatClampNeg) + x3) _ hcl) (va_cwS 1 hts gX6_step_X6_areSteps rfl rfl rfl (by decide +kernel) ⟨Nat.le_of_ble_eq_true rfl, Nat.le_of_ble_eq_true rfl⟩) hK hE hA hW rfl hl.1 rfl (lv_room (Nat.le_of_ble_eq_true rfl)) dX6_step_60 (fun H locs hW => ?_)
      refine lv_if_ne (tgt := 69) hx hb dX6_step_63 (by decide) (fun hc => ?_) (fun hc => ?_)
      · replace hf := ifn hc hf
        refine lv_aload_n hx hb dX6_step_69 rfl (lv_at hl 0 rfl) ?_
        refine x_get (ci := 6) (v := .ref (a 26)) (C := RX6) (T := TX6) (N := 7) hx hb hts inX6 hown hK hW 0 rfl rfl 1 (by decide) fl19 (fun _ h9 => h9) rfl dX6_step_70 ?_
        refine lv_iload_n hx hb dX6_step_73 rfl (lv_at hl 1 rfl) ?_
        refine lv_iconst (v := (-1 : Int32)) hx hb dX6_step_74 (by decide) ?_
        refine lv_iconst (v := (0 : Int32)) hx hb dX6_step_75 (by decide) ?_
        replace hf := bs_ hf; obtain ⟨r4, hcl, hf⟩ := hf
        refine x_callV_i (w' := (wX6 a ct g)) (As := [.int x1, .int (-1 : Int32), .int (0 : Int32)]) (rest := []) (ci := 5) ⟨hx, hb, hml, hown, hts⟩ (c_X5_climbers l N kd G ct (sh_ 26 a) (sh_ 26 g) x1 (-1 : Int32) (0 : Int32) _ hcl) (cwV 3 hts gX6_step_X5_climbers rfl rfl rfl (by decide +kernel) ⟨Nat.le_of_ble_eq_true rfl, Nat.le_of_ble_eq_true rfl⟩) hK hE hA hW ((wX6 a ct g).take 17) ((wX6 a ct g).drop 31) (wc_X6_26 a ct g) (wc_X6_26 a ct g) 0 rfl rfl rfl rfl hl.1 rfl (lv_room (Nat.le_of_ble_eq_true rfl)) dX6_step_76 (fun H locs hW => ?_)
        refine lv_istore (lv' := [(5, .int r4), (0, .ref (a 0)), (1, .int x1), (2, .int x2), (3, .int x3), (4, .int x4)]) hx hb dX6_step_79 hl (by decide) rfl (fun ls hl => ?_)
        refine lv_aload_n hx hb dX6_step_81 rfl (lv_at hl 1 rfl) ?_
        refine x_get (ci := 6) (v := .ref (a 26)) (C := RX6) (T := TX6) (N := 7) hx hb hts inX6 hown hK hW 0 rfl rfl 1 (by decide) fl19 (fun _ h9 => h9) rfl dX6_step_82 ?_
        refine lv_iload_n hx hb dX6_step_85 rfl (lv_at hl 2 rfl) ?_
        refine lv_iload_n hx hb dX6_step_86 rfl (lv_at hl 3 rfl) ?_
        refine lv_iload_n hx hb dX6_step_87 rfl (lv_at hl 4 rfl) ?_
        replace hf := bs_ hf; obtain ⟨r5, hcl, hf⟩ := hf
        refine x_callV_i (w' := (wX6 a ct g)) (As := [.int x1, .int x2, .int x3]) (rest := []) (ci := 5) ⟨hx, hb, hml, hown, hts⟩ (c_X5_climbers l N kd G ct (sh_ 26 a) (sh_ 26 g) x1 x2 x3 _ hcl) (cwV 3 hts gX6_step_X5_climbers rfl rfl rfl (by decide +kernel) ⟨Nat.le_of_ble_eq_true rfl, Nat.le_of_ble_eq_true rfl⟩) hK hE hA hW ((wX6 a ct g).take 17) ((wX6 a ct g).drop 31) (wc_X6_26 a ct g) (wc_X6_26 a ct g) 0 rfl rfl rfl rfl hl.1 rfl (lv_room (Nat.le_of_ble_eq_true rfl)) dX6_step_88 (fun H locs hW => ?_)
        refine lv_istore (lv' := [(6, .int r5), (5, .int r4), (0, .ref (a 0)), (1, .int x1), (2, .int x2), (3, .int x3), (4, .int x4)]) hx hb dX6_step_91 hl (by decide) rfl (fun ls hl => ?_)
        refine lv_iload hx hb dX6_step_93 (lv_at hl 6 rfl) ?_
        refine lv_if_ne (tgt := 108) hx hb dX6_step_95 (by decide) (fun hc => ?_) (fun hc => ?_)
        · replace hf := ifn hc hf
          refine lv_iload hx hb dX6_step_108 (lv_at hl 1 rfl) ?_
          refine lv_iload hx hb dX6_step_110 (lv_at hl 0 rfl) ?_
          refine lv_iconst (v := (-1 : Int32)) hx hb dX6_step_112 (by decide) ?_
          refine lv_ixor hx hb dX6_step_113 ?_
          refine lv_iand hx hb dX6_step_114 ?_
          replace hf := bs_ hf; obtain ⟨r6, hcl, hf⟩ := hf
          refine x_callS_i (As := [.int (r4 &&& (r5 ^^^ (-1 : Int32)))]) (rest := []) ⟨hx, hb, hml, hown, hts⟩ (c_J6_bitCount_0f7a4 l N kd G ct (r4 &&& (r5 ^^^ (-1 : Int32))) _ hcl) (va_cwS 1 hts gX6_step_J6_bitCount_0f7a4 rfl rfl rfl (by decide +kernel) ⟨Nat.le_of_ble_eq_true rfl, Nat.le_of_ble_eq_true rfl⟩) hK hE hA hW rfl hl.1 rfl (lv_room (Nat.le_of_ble_eq_true rfl)) dX6_step_115 (fun H locs hW => ?_)
          have ho := Option.some.inj hf
          subst ho
          exact x_reti (sz := 0) (w0 := []) (A1 := A) hx hb hr hlocks hK hW rfl rfl dX6_step_118
        · replace hf := ifp hc hf
          refine lv_iload hx hb dX6_step_98 (lv_at hl 0 rfl) ?_
          refine lv_iload hx hb dX6_step_100 (lv_at hl 1 rfl) ?_
          refine lv_iconst (v := (-1 : Int32)) hx hb dX6_step_102 (by decide) ?_
          refine lv_ixor hx hb dX6_step_103 ?_
          refine lv_iand hx hb dX6_step_104 ?_
          refine lv_goto (tgt := 115) hx hb dX6_step_105 (by decide) ?_
          replace hf := bs_ hf; obtain ⟨r7, hcl, hf⟩ := hf
          refine x_callS_i (As := [.int (r5 &&& (r4 ^^^ (-1 : Int32)))]) (rest := []) ⟨hx, hb, hml, hown, hts⟩ (c_J6_bitCount_0f7a4 l N kd G ct (r5 &&& (r4 ^^^ (-1 : Int32))) _ hcl) (va_cwS 1 hts gX6_step_J6_bitCount_0f7a4 rfl rfl rfl (by decide +kernel) ⟨Nat.le_of_ble_eq_true rfl, Nat.le_of_ble_eq_true rfl⟩) hK hE hA hW rfl hl.1 rfl (lv_room (Nat.le_of_ble_eq_true rfl)) dX6_step_115 (fun H locs hW => ?_)
          have ho := Option.some.inj hf
          subst ho
          exact x_reti (sz := 0) (w0 := []) (A1 := A) hx hb hr hlocks hK hW rfl rfl dX6_step_118
      · replace hf := ifp hc hf
        refine lv_ldc (v := (-1000000002 : Int32)) hx hb hown fl52 dX6_step_66 ?_
        have ho := Option.some.inj hf
        subst ho
        exact x_reti (sz := 0) (w0 := []) (A1 := A) hx hb hr hlocks hK hW rfl rfl dX6_step_68
    clear hf
    refine lv_icmp_eq (tgt := 28) hx hb dX6_step_20 (by decide) (fun hc => ?_) (fun hc => ?_)
    · have hf := ifp hc hg
      clear hg
      refine lv_iload hx hb dX6_step_28 (lv_at hl 4 rfl) ?_
      refine lv_if_eq (tgt := 42) hx hb dX6_step_30 (by decide) (fun hc => ?_) (fun hc => ?_)
      · replace hf := ifp hc hf
        have hj := (Option.some.inj hf).symm
        exact J2 _ hj _ _ _ hW (lv_sub hl [0, 1, 2, 3, 4] rfl)
      · replace hf := ifn hc hf
        refine lv_iload hx hb dX6_step_33 (lv_at hl 4 rfl) ?_
        refine lv_iconst (v := (1 : Int32)) hx hb dX6_step_35 (by decide) ?_
        refine lv_icmp_eq (tgt := 42) hx hb dX6_step_36 (by decide) (fun hc => ?_) (fun hc => ?_)
        · replace hf := ifp hc hf
          have hj := (Option.some.inj hf).symm
          exact J2 _ hj _ _ _ hW (lv_sub hl [0, 1, 2, 3, 4] rfl)
        · replace hf := ifn hc hf
          refine lv_ldc (v := (-1000000002 : Int32)) hx hb hown fl52 dX6_step_39 ?_
          have ho := hR2 _ (Option.some.inj hf).symm
          subst ho
          exact x_reti (sz := 0) (w0 := []) (A1 := A) hx hb hr hlocks hK hW rfl rfl dX6_step_41
    · have hf := ifn hc hg
      clear hg
      refine lv_iload_n hx hb dX6_step_23 rfl (lv_at hl 3 rfl) ?_
      refine lv_iconst (v := (-1 : Int32)) hx hb dX6_step_24 (by decide) ?_
      refine lv_icmp_ne (tgt := 39) hx hb dX6_step_25 (by decide) (fun hc => ?_) (fun hc => ?_)
      · replace hf := ifn hc hf
        refine lv_ldc (v := (-1000000002 : Int32)) hx hb hown fl52 dX6_step_39 ?_
        have ho := hR2 _ (Option.some.inj hf).symm
        subst ho
        exact x_reti (sz := 0) (w0 := []) (A1 := A) hx hb hr hlocks hK hW rfl rfl dX6_step_41
      · replace hf := ifp hc hf
        refine lv_iload hx hb dX6_step_28 (lv_at hl 4 rfl) ?_
        refine lv_if_eq (tgt := 42) hx hb dX6_step_30 (by decide) (fun hc => ?_) (fun hc => ?_)
        · replace hf := ifp hc hf
          have hj := (Option.some.inj hf).symm
          exact J2 _ hj _ _ _ hW (lv_sub hl [0, 1, 2, 3, 4] rfl)
        · replace hf := ifn hc hf
          refine lv_iload hx hb dX6_step_33 (lv_at hl 4 rfl) ?_
          refine lv_iconst (v := (1 : Int32)) hx hb dX6_step_35 (by decide) ?_
          refine lv_icmp_eq (tgt := 42) hx hb dX6_step_36 (by decide) (fun hc => ?_) (fun hc => ?_)
          · replace hf := ifp hc hf
            have hj := (Option.some.inj hf).symm
            exact J2 _ hj _ _ _ hW (lv_sub hl [0, 1, 2, 3, 4] rfl)
          · replace hf := ifn hc hf
            refine lv_ldc (v := (-1000000002 : Int32)) hx hb hown fl52 dX6_step_39 ?_
            have ho := hR2 _ (Option.some.inj hf).symm
            subst ho
            exact x_reti (sz := 0) (w0 := []) (A1 := A) hx hb hr hlocks hK hW rfl rfl dX6_step_41
  · replace hf := ifp hc hf
    refine lv_ldc (v := (-1000000001 : Int32)) hx hb hown fl114 dX6_step_15 ?_
    have ho := Option.some.inj hf
    subst ho
    exact x_reti (sz := 0) (w0 := []) (A1 := A) hx hb hr hlocks hK hW rfl rfl dX6_step_17
set_option maxHeartbeats 4000000 in
set_option maxRecDepth 100000 in
theorem c_X6_worst (l : Launch) (N : Nat) (kd : (Nat → Nat) × (Nat → Nat)) (G : va_G) (ct : Nat → ClassId) (a : Nat → Nat) (g : St_) (x1 : Int32) (o : Int32) (hf : f_X6_worst N g x1 = some o) : CtI l yX6_worst wsX6_worst ({ frames := 4, cells := 0, slots := 0, locals := 96 }) kd G ct [.ref (a 0), .int x1] (wX6 a ct g) o (wX6 a ct g) := by
  intro sz
  refine Met.ofW (cc := cX6_worst) (maxL := 8) (ret := (some .int)) (by decide) rfl ?_
  intro p e s m args below meth c s₁ B hml hv
  obtain ⟨rfl, hsz, hP, hK, hD0, hE⟩ := hv
  have hx := B.exec
  have hb := B.bytes
  have hr := B.returns
  have hts := atoms_spec (ws := wsX6_worst) B.pre
  have hown : s.vm.findClass RX6 = some m.cls := findClass_of_methodNamed B.named
  have hlocks := B.notSynchronized
  have inX1 : ∀ w ∈ wsX10, w ∈ wsX6_worst := by decide +kernel
  have inX5 : ∀ w ∈ wsX50, w ∈ wsX6_worst := by decide +kernel
  have inX6 : ∀ w ∈ wsX60, w ∈ wsX6_worst := by decide +kernel
  have fl19 := hts (.fieldLink RX6 19 "FittingStrides" "now" "LFittingStrides$Town;") (by decide +kernel)
  have fl52 := hts (.constant RX6 52 (-1000000002)) (by decide +kernel)
  have fl84 := hts (.fieldLink RX6 84 "FittingStrides$Town" "plan" "LFittingStrides$Plan;") (by decide +kernel)
  have fl93 := hts (.fieldLink RX6 93 "FittingStrides$Plan" "stairs" "I") (by decide +kernel)
  have fl125 := hts (.fieldLink RX6 125 "FittingStrides$Plan" "parts" "[I") (by decide +kernel)
  subst hsz
  have hD := hD0.self (sz := s.heap.size)
  generalize hAe : va_A (wX6 a ct g) s.heap.size = A at hD hE ⊢
  have hA : ∀ q : Nat, s.heap.size ≤ q → A q := fun q h => by rw [← hAe]; exact Or.inr h
  have hW : WW G A s.heap (wX6 a ct g) s.heap [] := ⟨hP, hD, va_S.rf⟩
  have hl := lv_entry ([.ref (a 0), .int x1]) (n := 8) (Nat.le_of_ble_eq_true rfl)
  rw [lg_entry_eq]
  generalize (lg_sl ([.ref (a 0), .int x1]) ++ List.replicate (8 - (lg_sl ([.ref (a 0), .int x1])).length) Slot.unset).toArray = ls at hl ⊢
  have hl : lv_has ls 8 [(0, .ref (a 0)), (1, .int x1)] := hl
  unfold f_X6_worst at hf
  show W p l e ({ frames := 4, cells := 0, slots := 0, locals := 96 } : Room) s m (List.toArray [.ref (a 0), .int x1]) below meth c s.heap [] 0 0 (MQ below (va_Qi (fun r (_ : Unit) => r = o) (fun _ t => Af_ G ct (wX6 a ct g) A t) A) (List.toArray [.ref (a 0), .int x1]) s 0 0 A) (F0 m 0 ls [])
  refine lv_iload_n hx hb dX6_worst_0 rfl (lv_at hl 1 rfl) ?_
  refine lv_if_lt (tgt := 9) hx hb dX6_worst_1 (by decide) (fun hc => ?_) (fun hc => ?_)
  · replace hf := ifp hc hf
    refine lv_ldc (v := (-1000000002 : Int32)) hx hb hown fl52 dX6_worst_9 ?_
    have ho := Option.some.inj hf
    subst ho
    exact x_reti (sz := 0) (w0 := []) (A1 := A) hx hb hr hlocks hK hW rfl rfl dX6_worst_11
  · replace hf := ifn hc hf
    refine lv_iload_n hx hb dX6_worst_4 rfl (lv_at hl 1 rfl) ?_
    refine lv_iconst (v := (2 : Int32)) hx hb dX6_worst_5 (by decide) ?_
    refine lv_icmp_le (tgt := 12) hx hb dX6_worst_6 (by decide) (fun hc => ?_) (fun hc => ?_)
    · replace hf := ifp hc hf
      refine lv_iconst (v := (0 : Int32)) hx hb dX6_worst_12 (by decide) ?_
      refine lv_istore_n (lv' := [(2, .int (0 : Int32)), (0, .ref (a 0)), (1, .int x1)]) hx hb dX6_worst_13 rfl hl (by decide) rfl (fun ls hl => ?_)
      refine lv_iconst (v := (-1 : Int32)) hx hb dX6_worst_14 (by decide) ?_
      refine lv_istore_n (lv' := [(3, .int (-1 : Int32)), (2, .int (0 : Int32)), (0, .ref (a 0)), (1, .int x1)]) hx hb dX6_worst_15 rfl hl (by decide) rfl (fun ls hl => ?_)
      refine lv_iconst (v := (-1 : Int32)) hx hb dX6_worst_16 (by decide) ?_
      refine lv_istore (lv' := [(4, .int (-1 : Int32)), (3, .int (-1 : Int32)), (2, .int (0 : Int32)), (0, .ref (a 0)), (1, .int x1)]) hx hb dX6_worst_17 hl (by decide) rfl (fun ls hl => ?_)
      refine lv_iconst (v := (0 : Int32)) hx hb dX6_worst_19 (by decide) ?_
      refine lv_istore (lv' := [(5, .int (0 : Int32)), (4, .int (-1 : Int32)), (3, .int (-1 : Int32)), (2, .int (0 : Int32)), (0, .ref (a 0)), (1, .int x1)]) hx hb dX6_worst_20 hl (by decide) rfl (fun ls hl => ?_)
      replace hf := bs_ hf; obtain ⟨v1, hg, hf⟩ := hf
      have J1 : ∀ (H : Heap) (locs : List Loc) (ls : Array Slot), WW G A s.heap (wX6 a ct g) H locs → lv_has ls 8 [(1, .int x1), (2, .int v1.1), (3, .int v1.2.1), (4, .int v1.2.2)] → W p l e ({ frames := 4, cells := 0, slots := 0, locals := 96 } : Room) s m (List.toArray [.ref (a 0), .int x1]) below meth c H locs 0 0 (MQ below (va_Qi (fun r (_ : Unit) => r = o) (fun _ t => Af_ G ct (wX6 a ct g) A t) A) (List.toArray [.ref (a 0), .int x1]) s 0 0 A) (F0 m 99 ls []) := by
        intro H locs ls hW hl
        refine lv_iload_n hx hb dX6_worst_99 rfl (lv_at hl 1 rfl) ?_
        refine lv_if_ne (tgt := 105) hx hb dX6_worst_100 (by decide) (fun hc => ?_) (fun hc => ?_)
        · replace hf := ifn hc hf
          refine lv_iload_n hx hb dX6_worst_105 rfl (lv_at hl 0 rfl) ?_
          refine lv_if_ne (tgt := 113) hx hb dX6_worst_106 (by decide) (fun hc => ?_) (fun hc => ?_)
          · replace hf := ifn hc hf
            refine lv_iload_n hx hb dX6_worst_113 rfl (lv_at hl 0 rfl) ?_
            refine lv_iconst (v := (1 : Int32)) hx hb dX6_worst_114 (by decide) ?_
            refine lv_icmp_ne (tgt := 123) hx hb dX6_worst_115 (by decide) (fun hc => ?_) (fun hc => ?_)
            · replace hf := ifn hc hf
              refine lv_iload_n hx hb dX6_worst_123 rfl (lv_at hl 1 rfl) ?_
              have ho := Option.some.inj hf
              subst ho
              exact x_reti (sz := 0) (w0 := []) (A1 := A) hx hb hr hlocks hK hW rfl rfl dX6_worst_124
            · replace hf := ifp hc hf
              refine lv_iload hx hb dX6_worst_118 (lv_at hl 3 rfl) ?_
              refine lv_goto (tgt := 124) hx hb dX6_worst_120 (by decide) ?_
              have ho := Option.some.inj hf
              subst ho
              exact x_reti (sz := 0) (w0 := []) (A1 := A) hx hb hr hlocks hK hW rfl rfl dX6_worst_124
          · replace hf := ifp hc hf
            refine lv_iload_n hx hb dX6_worst_109 rfl (lv_at hl 2 rfl) ?_
            refine lv_goto (tgt := 124) hx hb dX6_worst_110 (by decide) ?_
            have ho := Option.some.inj hf
            subst ho
            exact x_reti (sz := 0) (w0 := []) (A1 := A) hx hb hr hlocks hK hW rfl rfl dX6_worst_124
        · replace hf := ifp hc hf
          refine lv_iconst (v := (-1 : Int32)) hx hb dX6_worst_103 (by decide) ?_
          have ho := Option.some.inj hf
          subst ho
          exact x_reti (sz := 0) (w0 := []) (A1 := A) hx hb hr hlocks hK hW rfl rfl dX6_worst_104
      clear hf
      have L1 : ∀ (n : Nat) (y1_2 : Int32) (y1_3 : Int32) (y1_4 : Int32) (y1_5 : Int32), f_X6_worst_L22 N g n y1_2 y1_3 y1_4 y1_5 = some v1 → ∀ (H : Heap) (locs : List Loc) (ls : Array Slot), WW G A s.heap (wX6 a ct g) H locs → lv_has ls 8 [(0, .ref (a 0)), (1, .int x1), (2, .int y1_2), (3, .int y1_3), (4, .int y1_4), (5, .int y1_5)] → W p l e ({ frames := 4, cells := 0, slots := 0, locals := 96 } : Room) s m (List.toArray [.ref (a 0), .int x1]) below meth c H locs 0 0 (MQ below (va_Qi (fun r (_ : Unit) => r = o) (fun _ t => Af_ G ct (wX6 a ct g) A t) A) (List.toArray [.ref (a 0), .int x1]) s 0 0 A) (F0 m 22 ls []) := by
        intro n
        induction n with
        | zero =>
          intro y1_2 y1_3 y1_4 y1_5 hf
          rw [f_X6_worst_L22] at hf
          cases hf
        | succ n ih =>
          intro y1_2 y1_3 y1_4 y1_5 hf H locs ls hW hl
          rw [f_X6_worst_L22] at hf
          refine lv_iload hx hb dX6_worst_22 (lv_at hl 5 rfl) ?_
          refine lv_aload_n hx hb dX6_worst_24 rfl (lv_at hl 0 rfl) ?_
          refine x_get (ci := 6) (v := .ref (a 26)) (C := RX6) (T := TX6) (N := 7) hx hb hts inX6 hown hK hW 0 rfl rfl 1 (by decide) fl19 (fun _ h9 => h9) rfl dX6_worst_25 ?_
          refine x_get (ci := 5) (v := .ref (a 27)) (C := RX5) (T := TX5) (N := 4) hx hb hts inX5 hown hK hW 17 rfl rfl 0 (by decide) fl84 (fun _ h9 => h9) rfl dX6_worst_28 ?_
          refine x_get (ci := 1) (v := .int (g 29 0)) (C := RX1) (T := TX1) (N := 6) hx hb hts inX1 hown hK hW 18 rfl rfl 1 (by decide) fl93 (fun _ h9 => h9) rfl dX6_worst_31 ?_
          refine lv_icmp_ge (tgt := 99) hx hb dX6_worst_34 (by decide) (fun hc => ?_) (fun hc => ?_)
          · replace hf := ifp hc hf
            have hj := Option.some.inj hf
            subst hj
            exact J1 _ _ _ hW (lv_sub hl [1, 2, 3, 4] rfl)
          · replace hf := ifn hc hf
            refine lv_iconst (v := (0 : Int32)) hx hb dX6_worst_37 (by decide) ?_
            refine lv_istore (lv' := [(6, .int (0 : Int32)), (0, .ref (a 0)), (1, .int x1), (2, .int y1_2), (3, .int y1_3), (4, .int y1_4), (5, .int y1_5)]) hx hb dX6_worst_38 hl (by decide) rfl (fun ls hl => ?_)
            replace hf := bs_ hf; obtain ⟨v2, hg, hf⟩ := hf
            have J2 : ∀ (H : Heap) (locs : List Loc) (ls : Array Slot), WW G A s.heap (wX6 a ct g) H locs → lv_has ls 8 [(0, .ref (a 0)), (1, .int x1), (2, .int v2.1), (3, .int v2.2.1), (4, .int v2.2.2), (5, .int y1_5)] → W p l e ({ frames := 4, cells := 0, slots := 0, locals := 96 } : Room) s m (List.toArray [.ref (a 0), .int x1]) below meth c H locs 0 0 (MQ below (va_Qi (fun r (_ : Unit) => r = o) (fun _ t => Af_ G ct (wX6 a ct g) A t) A) (List.toArray [.ref (a 0), .int x1]) s 0 0 A) (F0 m 93 ls []) := by
              intro H locs ls hW hl
              refine lv_iinc (v := (y1_5 + (1 : Int32))) (lv' := [(5, .int (y1_5 + (1 : Int32))), (0, .ref (a 0)), (1, .int x1), (2, .int v2.1), (3, .int v2.2.1), (4, .int v2.2.2)]) hx hb dX6_worst_93 hl (k := 5) rfl rfl (by decide) rfl (fun ls hl => ?_)
              refine lv_goto (tgt := 22) hx hb dX6_worst_96 (by decide) ?_
              exact ih v2.1 v2.2.1 v2.2.2 (y1_5 + (1 : Int32)) hf _ _ _ hW (lv_sub hl [1, 2, 3, 4, 5, 0] rfl)
            clear hf
            have L2 : ∀ (n : Nat) (y2_2 : Int32) (y2_3 : Int32) (y2_4 : Int32) (y2_6 : Int32), f_X6_worst_L40 N g y1_5 n y2_2 y2_3 y2_4 y2_6 = some v2 → ∀ (H : Heap) (locs : List Loc) (ls : Array Slot), WW G A s.heap (wX6 a ct g) H locs → lv_has ls 8 [(0, .ref (a 0)), (1, .int x1), (2, .int y2_2), (3, .int y2_3), (4, .int y2_4), (5, .int y1_5), (6, .int y2_6)] → W p l e ({ frames := 4, cells := 0, slots := 0, locals := 96 } : Room) s m (List.toArray [.ref (a 0), .int x1]) below meth c H locs 0 0 (MQ below (va_Qi (fun r (_ : Unit) => r = o) (fun _ t => Af_ G ct (wX6 a ct g) A t) A) (List.toArray [.ref (a 0), .int x1]) s 0 0 A) (F0 m 40 ls []) := by
              intro n
              induction n with
              | zero =>
                intro y2_2 y2_3 y2_4 y2_6 hf
                rw [f_X6_worst_L40] at hf
                cases hf
              | succ n ih =>
                intro y2_2 y2_3 y2_4 y2_6 hf H locs ls hW hl
                rw [f_X6_worst_L40] at hf
                refine lv_iload hx hb dX6_worst_40 (lv_at hl 6 rfl) ?_
                refine lv_aload_n hx hb dX6_worst_42 rfl (lv_at hl 0 rfl) ?_
                refine x_get (ci := 6) (v := .ref (a 26)) (C := RX6) (T := TX6) (N := 7) hx hb hts inX6 hown hK hW 0 rfl rfl 1 (by decide) fl19 (fun _ h9 => h9) rfl dX6_worst_43 ?_
                refine x_get (ci := 5) (v := .ref (a 27)) (C := RX5) (T := TX5) (N := 4) hx hb hts inX5 hown hK hW 17 rfl rfl 0 (by decide) fl84 (fun _ h9 => h9) rfl dX6_worst_46 ?_
                refine x_get (ci := 1) (v := .ref (a 33)) (C := RX1) (T := TX1) (N := 6) hx hb hts inX1 hown hK hW 18 rfl rfl 5 (by decide) fl125 (fun _ h9 => h9) rfl dX6_worst_49 ?_
                refine lv_iload hx hb dX6_worst_52 (lv_at hl 5 rfl) ?_
                replace hf := gd_s hf; obtain ⟨hin, hf⟩ := hf
                refine x_iald (n := 10) (f := g 33) hx hb hK hW 22 rfl (okI_in hin) dX6_worst_54 ?_
                refine lv_icmp_ge (tgt := 93) hx hb dX6_worst_55 (by decide) (fun hc => ?_) (fun hc => ?_)
                · replace hf := ifp hc hf
                  have hj := Option.some.inj hf
                  subst hj
                  exact J2 _ _ _ hW (lv_sub hl [0, 1, 2, 3, 4, 5] rfl)
                · replace hf := ifn hc hf
                  refine lv_aload_n hx hb dX6_worst_58 rfl (lv_at hl 0 rfl) ?_
                  refine x_get (ci := 6) (v := .ref (a 26)) (C := RX6) (T := TX6) (N := 7) hx hb hts inX6 hown hK hW 0 rfl rfl 1 (by decide) fl19 (fun _ h9 => h9) rfl dX6_worst_59 ?_
                  refine lv_iload hx hb dX6_worst_62 (lv_at hl 5 rfl) ?_
                  refine lv_iload hx hb dX6_worst_64 (lv_at hl 6 rfl) ?_
                  replace hf := bs_ hf; obtain ⟨r3, hcl, hf⟩ := hf
                  refine x_callV_i (w' := (wX6 a ct g)) (As := [.int y1_5, .int y2_6]) (rest := []) (ci := 5) ⟨hx, hb, hml, hown, hts⟩ (c_X5_shutOutByLess l N kd G ct (sh_ 26 a) (sh_ 26 g) y1_5 y2_6 _ hcl) (cwV 2 hts gX6_worst_X5_shutOutByLess rfl rfl rfl (by decide +kernel) ⟨Nat.le_of_ble_eq_true rfl, Nat.le_of_ble_eq_true rfl⟩) hK hE hA hW ((wX6 a ct g).take 17) ((wX6 a ct g).drop 31) (wc_X6_26 a ct g) (wc_X6_26 a ct g) 0 rfl rfl rfl rfl hl.1 rfl (lv_room (Nat.le_of_ble_eq_true rfl)) dX6_worst_66 (fun H locs hW => ?_)
                  refine lv_istore (lv' := [(7, .int r3), (0, .ref (a 0)), (1, .int x1), (2, .int y2_2), (3, .int y2_3), (4, .int y2_4), (5, .int y1_5), (6, .int y2_6)]) hx hb dX6_worst_69 hl (by decide) rfl (fun ls hl => ?_)
                  refine lv_iload hx hb dX6_worst_71 (lv_at hl 0 rfl) ?_
                  refine lv_iload_n hx hb dX6_worst_73 rfl (lv_at hl 3 rfl) ?_
                  replace hf := bs_ hf; obtain ⟨j4, hg, hf⟩ := hf
                  have J4 : ∀ (H : Heap) (locs : List Loc) (ls : Array Slot), WW G A s.heap (wX6 a ct g) H locs → lv_has ls 8 [(0, .ref (a 0)), (1, .int x1), (2, .int j4.1), (3, .int j4.2.1), (4, .int j4.2.2), (5, .int y1_5), (6, .int y2_6)] → W p l e ({ frames := 4, cells := 0, slots := 0, locals := 96 } : Room) s m (List.toArray [.ref (a 0), .int x1]) below meth c H locs 0 0 (MQ below (va_Qi (fun r (_ : Unit) => r = o) (fun _ t => Af_ G ct (wX6 a ct g) A t) A) (List.toArray [.ref (a 0), .int x1]) s 0 0 A) (F0 m 87 ls ([])) := by
                    intro H locs ls hW hl
                    refine lv_iinc (v := (y2_6 + (1 : Int32))) (lv' := [(6, .int (y2_6 + (1 : Int32))), (0, .ref (a 0)), (1, .int x1), (2, .int j4.1), (3, .int j4.2.1), (4, .int j4.2.2), (5, .int y1_5)]) hx hb dX6_worst_87 hl (k := 6) rfl rfl (by decide) rfl (fun ls hl => ?_)
                    refine lv_goto (tgt := 40) hx hb dX6_worst_90 (by decide) ?_
                    exact ih j4.1 j4.2.1 j4.2.2 (y2_6 + (1 : Int32)) hf _ _ _ hW (lv_sub hl [1, 2, 3, 4, 5, 6, 0] rfl)
                  clear hf
                  refine lv_icmp_le (tgt := 87) hx hb dX6_worst_74 (by decide) (fun hc => ?_) (fun hc => ?_)
                  · have hf := ifp hc hg
                    clear hg
                    have hj := Option.some.inj hf
                    subst hj
                    exact J4 _ _ _ hW (lv_sub hl [1, 2, 3, 4, 5, 6, 7] rfl)
                  · have hf := ifn hc hg
                    clear hg
                    refine lv_iload hx hb dX6_worst_77 (lv_at hl 0 rfl) ?_
                    refine lv_istore_n (lv' := [(2, .int r3), (7, .int r3), (0, .ref (a 0)), (1, .int x1), (3, .int y2_3), (4, .int y2_4), (5, .int y1_5), (6, .int y2_6)]) hx hb dX6_worst_79 rfl hl (by decide) rfl (fun ls hl => ?_)
                    refine lv_iload hx hb dX6_worst_80 (lv_at hl 6 rfl) ?_
                    refine lv_istore_n (lv' := [(3, .int y1_5), (2, .int r3), (7, .int r3), (0, .ref (a 0)), (1, .int x1), (4, .int y2_4), (5, .int y1_5), (6, .int y2_6)]) hx hb dX6_worst_82 rfl hl (by decide) rfl (fun ls hl => ?_)
                    refine lv_iload hx hb dX6_worst_83 (lv_at hl 7 rfl) ?_
                    refine lv_istore (lv' := [(4, .int y2_6), (3, .int y1_5), (2, .int r3), (7, .int r3), (0, .ref (a 0)), (1, .int x1), (5, .int y1_5), (6, .int y2_6)]) hx hb dX6_worst_85 hl (by decide) rfl (fun ls hl => ?_)
                    have hj := Option.some.inj hf
                    subst hj
                    exact J4 _ _ _ hW (lv_sub hl [4, 5, 2, 1, 0, 6, 7] rfl)
            exact L2 N y1_2 y1_3 y1_4 (0 : Int32) hg _ _ _ hW (lv_sub hl [1, 2, 3, 4, 5, 6, 0] rfl)
      exact L1 N (0 : Int32) (-1 : Int32) (-1 : Int32) (0 : Int32) hg _ _ _ hW (lv_sub hl [4, 5, 3, 2, 1, 0] rfl)
    · replace hf := ifn hc hf
      refine lv_ldc (v := (-1000000002 : Int32)) hx hb hown fl52 dX6_worst_9 ?_
      have ho := Option.some.inj hf
      subst ho
      exact x_reti (sz := 0) (w0 := []) (A1 := A) hx hb hr hlocks hK hW rfl rfl dX6_worst_11
set_option maxHeartbeats 4000000 in
set_option maxRecDepth 100000 in
theorem c_X6_best (l : Launch) (N : Nat) (kd : (Nat → Nat) × (Nat → Nat)) (G : va_G) (ct : Nat → ClassId) (a : Nat → Nat) (g : St_) (x1 : Int32) (o : Int32) (hf : f_X6_best N g x1 = some o) : CtI l yX6_best wsX6_best ({ frames := 4, cells := 0, slots := 0, locals := 97 }) kd G ct [.ref (a 0), .int x1] (wX6 a ct g) o (wX6 a ct g) := by
  intro sz
  refine Met.ofW (cc := cX6_best) (maxL := 6) (ret := (some .int)) (by decide) rfl ?_
  intro p e s m args below meth c s₁ B hml hv
  obtain ⟨rfl, hsz, hP, hK, hD0, hE⟩ := hv
  have hx := B.exec
  have hb := B.bytes
  have hr := B.returns
  have hts := atoms_spec (ws := wsX6_best) B.pre
  have hown : s.vm.findClass RX6 = some m.cls := findClass_of_methodNamed B.named
  have hlocks := B.notSynchronized
  have inX5 : ∀ w ∈ wsX50, w ∈ wsX6_best := by decide +kernel
  have inX6 : ∀ w ∈ wsX60, w ∈ wsX6_best := by decide +kernel
  have fl19 := hts (.fieldLink RX6 19 "FittingStrides" "now" "LFittingStrides$Town;") (by decide +kernel)
  have fl84 := hts (.fieldLink RX6 84 "FittingStrides$Town" "plan" "LFittingStrides$Plan;") (by decide +kernel)
  have fl114 := hts (.constant RX6 114 (-1000000001)) (by decide +kernel)
  subst hsz
  have hD := hD0.self (sz := s.heap.size)
  generalize hAe : va_A (wX6 a ct g) s.heap.size = A at hD hE ⊢
  have hA : ∀ q : Nat, s.heap.size ≤ q → A q := fun q h => by rw [← hAe]; exact Or.inr h
  have hW : WW G A s.heap (wX6 a ct g) s.heap [] := ⟨hP, hD, va_S.rf⟩
  have hl := lv_entry ([.ref (a 0), .int x1]) (n := 6) (Nat.le_of_ble_eq_true rfl)
  rw [lg_entry_eq]
  generalize (lg_sl ([.ref (a 0), .int x1]) ++ List.replicate (6 - (lg_sl ([.ref (a 0), .int x1])).length) Slot.unset).toArray = ls at hl ⊢
  have hl : lv_has ls 6 [(0, .ref (a 0)), (1, .int x1)] := hl
  unfold f_X6_best at hf
  show W p l e ({ frames := 4, cells := 0, slots := 0, locals := 97 } : Room) s m (List.toArray [.ref (a 0), .int x1]) below meth c s.heap [] 0 0 (MQ below (va_Qi (fun r (_ : Unit) => r = o) (fun _ t => Af_ G ct (wX6 a ct g) A t) A) (List.toArray [.ref (a 0), .int x1]) s 0 0 A) (F0 m 0 ls [])
  refine lv_aload_n hx hb dX6_best_0 rfl (lv_at hl 0 rfl) ?_
  refine x_get (ci := 6) (v := .ref (a 26)) (C := RX6) (T := TX6) (N := 7) hx hb hts inX6 hown hK hW 0 rfl rfl 1 (by decide) fl19 (fun _ h9 => h9) rfl dX6_best_1 ?_
  refine x_get (ci := 5) (v := .ref (a 27)) (C := RX5) (T := TX5) (N := 4) hx hb hts inX5 hown hK hW 17 rfl rfl 0 (by decide) fl84 (fun _ h9 => h9) rfl dX6_best_4 ?_
  refine lv_iload_n hx hb dX6_best_7 rfl (lv_at hl 1 rfl) ?_
  replace hf := bs_ hf; obtain ⟨r1, hcl, hf⟩ := hf
  refine x_callV_i (w' := (wX6 a ct g)) (As := [.int x1]) (rest := []) (ci := 1) ⟨hx, hb, hml, hown, hts⟩ (c_X1_hasPlace l N kd G ct (sh_ 27 a) (sh_ 27 g) x1 _ hcl) (cwV 1 hts gX6_best_X1_hasPlace rfl rfl rfl (by decide +kernel) ⟨Nat.le_of_ble_eq_true rfl, Nat.le_of_ble_eq_true rfl⟩) hK hE hA hW ((wX6 a ct g).take 18) ((wX6 a ct g).drop 23) (wc_X6_27 a ct g) (wc_X6_27 a ct g) 0 rfl rfl rfl rfl hl.1 rfl (lv_room (Nat.le_of_ble_eq_true rfl)) dX6_best_8 (fun H locs hW => ?_)
  refine lv_if_ne (tgt := 17) hx hb dX6_best_11 (by decide) (fun hc => ?_) (fun hc => ?_)
  · replace hf := ifn hc hf
    refine lv_iconst (v := (1 : Int32)) hx hb dX6_best_17 (by decide) ?_
    refine lv_istore_n (lv' := [(2, .int (1 : Int32)), (0, .ref (a 0)), (1, .int x1)]) hx hb dX6_best_18 rfl hl (by decide) rfl (fun ls hl => ?_)
    refine lv_iconst (v := (0 : Int32)) hx hb dX6_best_19 (by decide) ?_
    refine lv_istore_n (lv' := [(3, .int (0 : Int32)), (2, .int (1 : Int32)), (0, .ref (a 0)), (1, .int x1)]) hx hb dX6_best_20 rfl hl (by decide) rfl (fun ls hl => ?_)
    refine lv_iconst (v := (1 : Int32)) hx hb dX6_best_21 (by decide) ?_
    refine lv_istore (lv' := [(4, .int (1 : Int32)), (3, .int (0 : Int32)), (2, .int (1 : Int32)), (0, .ref (a 0)), (1, .int x1)]) hx hb dX6_best_22 hl (by decide) rfl (fun ls hl => ?_)
    replace hf := bs_ hf; obtain ⟨v2, hg, hf⟩ := hf
    have J2 : ∀ (H : Heap) (locs : List Loc) (ls : Array Slot), WW G A s.heap (wX6 a ct g) H locs → lv_has ls 6 [(2, .int v2)] → W p l e ({ frames := 4, cells := 0, slots := 0, locals := 97 } : Room) s m (List.toArray [.ref (a 0), .int x1]) below meth c H locs 0 0 (MQ below (va_Qi (fun r (_ : Unit) => r = o) (fun _ t => Af_ G ct (wX6 a ct g) A t) A) (List.toArray [.ref (a 0), .int x1]) s 0 0 A) (F0 m 65 ls []) := by
      intro H locs ls hW hl
      refine lv_iload_n hx hb dX6_best_65 rfl (lv_at hl 0 rfl) ?_
      have ho := Option.some.inj hf
      subst ho
      exact x_reti (sz := 0) (w0 := []) (A1 := A) hx hb hr hlocks hK hW rfl rfl dX6_best_66
    clear hf
    have L2 : ∀ (n : Nat) (y2_2 : Int32) (y2_3 : Int32) (y2_4 : Int32), f_X6_best_L24 N g x1 n y2_2 y2_3 y2_4 = some v2 → ∀ (H : Heap) (locs : List Loc) (ls : Array Slot), WW G A s.heap (wX6 a ct g) H locs → lv_has ls 6 [(0, .ref (a 0)), (1, .int x1), (2, .int y2_2), (3, .int y2_3), (4, .int y2_4)] → W p l e ({ frames := 4, cells := 0, slots := 0, locals := 97 } : Room) s m (List.toArray [.ref (a 0), .int x1]) below meth c H locs 0 0 (MQ below (va_Qi (fun r (_ : Unit) => r = o) (fun _ t => Af_ G ct (wX6 a ct g) A t) A) (List.toArray [.ref (a 0), .int x1]) s 0 0 A) (F0 m 24 ls []) := by
      intro n
      induction n with
      | zero =>
        intro y2_2 y2_3 y2_4 hf
        rw [f_X6_best_L24] at hf
        cases hf
      | succ n ih =>
        intro y2_2 y2_3 y2_4 hf H locs ls hW hl
        rw [f_X6_best_L24] at hf
        refine lv_iload hx hb dX6_best_24 (lv_at hl 4 rfl) ?_
        refine lv_bipush (v := (24 : Int32)) hx hb dX6_best_26 (by decide) ?_
        refine lv_icmp_gt (tgt := 65) hx hb dX6_best_28 (by decide) (fun hc => ?_) (fun hc => ?_)
        · replace hf := ifp hc hf
          have hj := Option.some.inj hf
          subst hj
          exact J2 _ _ _ hW (lv_sub hl [2] rfl)
        · replace hf := ifn hc hf
          refine lv_aload_n hx hb dX6_best_31 rfl (lv_at hl 0 rfl) ?_
          refine x_get (ci := 6) (v := .ref (a 26)) (C := RX6) (T := TX6) (N := 7) hx hb hts inX6 hown hK hW 0 rfl rfl 1 (by decide) fl19 (fun _ h9 => h9) rfl dX6_best_32 ?_
          refine lv_iload_n hx hb dX6_best_35 rfl (lv_at hl 1 rfl) ?_
          refine lv_iload hx hb dX6_best_36 (lv_at hl 4 rfl) ?_
          refine lv_iconst (v := (0 : Int32)) hx hb dX6_best_38 (by decide) ?_
          replace hf := bs_ hf; obtain ⟨r3, hcl, hf⟩ := hf
          refine x_callV_i (w' := (wX6 a ct g)) (As := [.int x1, .int y2_4, .int (0 : Int32)]) (rest := []) (ci := 5) ⟨hx, hb, hml, hown, hts⟩ (c_X5_reachFrom l N kd G ct (sh_ 26 a) (sh_ 26 g) x1 y2_4 (0 : Int32) _ hcl) (cwV 3 hts gX6_best_X5_reachFrom rfl rfl rfl (by decide +kernel) ⟨Nat.le_of_ble_eq_true rfl, Nat.le_of_ble_eq_true rfl⟩) hK hE hA hW ((wX6 a ct g).take 17) ((wX6 a ct g).drop 31) (wc_X6_26 a ct g) (wc_X6_26 a ct g) 0 rfl rfl rfl rfl hl.1 rfl (lv_room (Nat.le_of_ble_eq_true rfl)) dX6_best_39 (fun H locs hW => ?_)
          replace hf := bs_ hf; obtain ⟨r4, hcl, hf⟩ := hf
          refine x_callS_i (As := [.int r3]) (rest := []) ⟨hx, hb, hml, hown, hts⟩ (c_J6_bitCount_0f7a4 l N kd G ct r3 _ hcl) (va_cwS 1 hts gX6_best_J6_bitCount_0f7a4 rfl rfl rfl (by decide +kernel) ⟨Nat.le_of_ble_eq_true rfl, Nat.le_of_ble_eq_true rfl⟩) hK hE hA hW rfl hl.1 rfl (lv_room (Nat.le_of_ble_eq_true rfl)) dX6_best_42 (fun H locs hW => ?_)
          refine lv_istore (lv' := [(5, .int r4), (0, .ref (a 0)), (1, .int x1), (2, .int y2_2), (3, .int y2_3), (4, .int y2_4)]) hx hb dX6_best_45 hl (by decide) rfl (fun ls hl => ?_)
          refine lv_iload hx hb dX6_best_47 (lv_at hl 0 rfl) ?_
          refine lv_iload_n hx hb dX6_best_49 rfl (lv_at hl 4 rfl) ?_
          replace hf := bs_ hf; obtain ⟨j5, hg, hf⟩ := hf
          have J5 : ∀ (H : Heap) (locs : List Loc) (ls : Array Slot), WW G A s.heap (wX6 a ct g) H locs → lv_has ls 6 [(0, .ref (a 0)), (1, .int x1), (2, .int j5.1), (3, .int j5.2), (4, .int y2_4)] → W p l e ({ frames := 4, cells := 0, slots := 0, locals := 97 } : Room) s m (List.toArray [.ref (a 0), .int x1]) below meth c H locs 0 0 (MQ below (va_Qi (fun r (_ : Unit) => r = o) (fun _ t => Af_ G ct (wX6 a ct g) A t) A) (List.toArray [.ref (a 0), .int x1]) s 0 0 A) (F0 m 59 ls ([])) := by
            intro H locs ls hW hl
            refine lv_iinc (v := (y2_4 + (1 : Int32))) (lv' := [(4, .int (y2_4 + (1 : Int32))), (0, .ref (a 0)), (1, .int x1), (2, .int j5.1), (3, .int j5.2)]) hx hb dX6_best_59 hl (k := 4) rfl rfl (by decide) rfl (fun ls hl => ?_)
            refine lv_goto (tgt := 24) hx hb dX6_best_62 (by decide) ?_
            exact ih j5.1 j5.2 (y2_4 + (1 : Int32)) hf _ _ _ hW (lv_sub hl [1, 2, 3, 4, 0] rfl)
          clear hf
          refine lv_icmp_lt (tgt := 59) hx hb dX6_best_50 (by decide) (fun hc => ?_) (fun hc => ?_)
          · have hf := ifp hc hg
            clear hg
            have hj := Option.some.inj hf
            subst hj
            exact J5 _ _ _ hW (lv_sub hl [1, 2, 3, 4, 5] rfl)
          · have hf := ifn hc hg
            clear hg
            refine lv_iload hx hb dX6_best_53 (lv_at hl 0 rfl) ?_
            refine lv_istore_n (lv' := [(3, .int r4), (5, .int r4), (0, .ref (a 0)), (1, .int x1), (2, .int y2_2), (4, .int y2_4)]) hx hb dX6_best_55 rfl hl (by decide) rfl (fun ls hl => ?_)
            refine lv_iload hx hb dX6_best_56 (lv_at hl 5 rfl) ?_
            refine lv_istore_n (lv' := [(2, .int y2_4), (3, .int r4), (5, .int r4), (0, .ref (a 0)), (1, .int x1), (4, .int y2_4)]) hx hb dX6_best_58 rfl hl (by decide) rfl (fun ls hl => ?_)
            have hj := Option.some.inj hf
            subst hj
            exact J5 _ _ _ hW (lv_sub hl [3, 4, 0, 1, 5] rfl)
    exact L2 N (1 : Int32) (0 : Int32) (1 : Int32) hg _ _ _ hW (lv_sub hl [3, 4, 2, 1, 0] rfl)
  · replace hf := ifp hc hf
    refine lv_ldc (v := (-1000000001 : Int32)) hx hb hown fl114 dX6_best_14 ?_
    have ho := Option.some.inj hf
    subst ho
    exact x_reti (sz := 0) (w0 := []) (A1 := A) hx hb hr hlocks hK hW rfl rfl dX6_best_16
set_option maxHeartbeats 4000000 in
set_option maxRecDepth 100000 in
theorem c_X6_cover (l : Launch) (N : Nat) (kd : (Nat → Nat) × (Nat → Nat)) (G : va_G) (ct : Nat → ClassId) (a : Nat → Nat) (g : St_) (o : (Int32 × St_)) (hf : f_X6_cover N g = some o) : CtI l yX6_cover wsX6_cover ({ frames := 4, cells := 0, slots := 0, locals := 95 }) kd G ct [.ref (a 0)] (wX6 a ct g) o.1 (wX6 a ct o.2) := by
  intro sz
  refine Met.ofW (cc := cX6_cover) (maxL := 1) (ret := (some .int)) (by decide) rfl ?_
  intro p e s m args below meth c s₁ B hml hv
  obtain ⟨rfl, hsz, hP, hK, hD0, hE⟩ := hv
  have hx := B.exec
  have hb := B.bytes
  have hr := B.returns
  have hts := atoms_spec (ws := wsX6_cover) B.pre
  have hown : s.vm.findClass RX6 = some m.cls := findClass_of_methodNamed B.named
  have hlocks := B.notSynchronized
  have inX6 : ∀ w ∈ wsX60, w ∈ wsX6_cover := by decide +kernel
  have fl19 := hts (.fieldLink RX6 19 "FittingStrides" "now" "LFittingStrides$Town;") (by decide +kernel)
  subst hsz
  have hD := hD0.self (sz := s.heap.size)
  generalize hAe : va_A (wX6 a ct g) s.heap.size = A at hD hE ⊢
  have hA : ∀ q : Nat, s.heap.size ≤ q → A q := fun q h => by rw [← hAe]; exact Or.inr h
  have hW : WW G A s.heap (wX6 a ct g) s.heap [] := ⟨hP, hD, va_S.rf⟩
  have hl := lv_entry ([.ref (a 0)]) (n := 1) (Nat.le_of_ble_eq_true rfl)
  rw [lg_entry_eq]
  generalize (lg_sl ([.ref (a 0)]) ++ List.replicate (1 - (lg_sl ([.ref (a 0)])).length) Slot.unset).toArray = ls at hl ⊢
  have hl : lv_has ls 1 [(0, .ref (a 0))] := hl
  unfold f_X6_cover at hf
  show W p l e ({ frames := 4, cells := 0, slots := 0, locals := 95 } : Room) s m (List.toArray [.ref (a 0)]) below meth c s.heap [] 0 0 (MQ below (va_Qi (fun r (_ : Unit) => r = o.1) (fun _ t => Af_ G ct (wX6 a ct o.2) A t) A) (List.toArray [.ref (a 0)]) s 0 0 A) (F0 m 0 ls [])
  refine lv_aload_n hx hb dX6_cover_0 rfl (lv_at hl 0 rfl) ?_
  refine x_get (ci := 6) (v := .ref (a 26)) (C := RX6) (T := TX6) (N := 7) hx hb hts inX6 hown hK hW 0 rfl rfl 1 (by decide) fl19 (fun _ h9 => h9) rfl dX6_cover_1 ?_
  replace hf := bs_ hf; obtain ⟨r1, hcl, hf⟩ := hf
  refine x_callV_i (w' := (wX6 a ct (pu_ 26 19 g r1.2))) (As := []) (rest := []) (ci := 5) ⟨hx, hb, hml, hown, hts⟩ (c_X5_fewestClimbers l N kd G ct (sh_ 26 a) (sh_ 26 g) _ hcl) (cwV 0 hts gX6_cover_X5_fewestClimbers rfl rfl rfl (by decide +kernel) ⟨Nat.le_of_ble_eq_true rfl, Nat.le_of_ble_eq_true rfl⟩) hK hE hA hW ((wX6 a ct g).take 17) ((wX6 a ct g).drop 31) (wc_X6_26 a ct g) (wu_X6_26 a ct g r1.2) 0 rfl rfl rfl rfl hl.1 rfl (lv_room (Nat.le_of_ble_eq_true rfl)) dX6_cover_4 (fun H locs hW => ?_)
  have ho := Option.some.inj hf
  subst ho
  exact x_reti (sz := 0) (w0 := []) (A1 := A) hx hb hr hlocks hK hW rfl rfl dX6_cover_7
set_option maxHeartbeats 4000000 in
set_option maxRecDepth 100000 in
theorem c_X6_see (l : Launch) (N : Nat) (kd : (Nat → Nat) × (Nat → Nat)) (G : va_G) (ct : Nat → ClassId) (a : Nat → Nat) (g : St_) (x1 : Int32) (x2 : Int32) (x3 : Int32) (o : (Int32 × St_)) (hf : f_X6_see N g x1 x2 x3 = some o) : CtI l yX6_see wsX6_see ({ frames := 1, cells := 0, slots := 0, locals := 23 }) kd G ct [.ref (a 0), .int x1, .int x2, .int x3] (wX6 a ct g) o.1 (wX6 a ct o.2) := by
  intro sz
  refine Met.ofW (cc := cX6_see) (maxL := 4) (ret := (some .int)) (by decide) rfl ?_
  intro p e s m args below meth c s₁ B hml hv
  obtain ⟨rfl, hsz, hP, hK, hD0, hE⟩ := hv
  have hx := B.exec
  have hb := B.bytes
  have hr := B.returns
  have hts := atoms_spec (ws := wsX6_see) B.pre
  have hown : s.vm.findClass RX6 = some m.cls := findClass_of_methodNamed B.named
  have hlocks := B.notSynchronized
  have inX2 : ∀ w ∈ wsX20, w ∈ wsX6_see := by decide +kernel
  have inX5 : ∀ w ∈ wsX50, w ∈ wsX6_see := by decide +kernel
  have inX6 : ∀ w ∈ wsX60, w ∈ wsX6_see := by decide +kernel
  have fl19 := hts (.fieldLink RX6 19 "FittingStrides" "now" "LFittingStrides$Town;") (by decide +kernel)
  have fl37 := hts (.fieldLink RX6 37 "FittingStrides" "sights" "LFittingStrides$Sights;") (by decide +kernel)
  have fl56 := hts (.constant RX6 56 (-1000000004)) (by decide +kernel)
  have fl80 := hts (.fieldLink RX6 80 "FittingStrides$Sights" "count" "I") (by decide +kernel)
  have fl84 := hts (.fieldLink RX6 84 "FittingStrides$Town" "plan" "LFittingStrides$Plan;") (by decide +kernel)
  have fl114 := hts (.constant RX6 114 (-1000000001)) (by decide +kernel)
  subst hsz
  have hD := hD0.self (sz := s.heap.size)
  generalize hAe : va_A (wX6 a ct g) s.heap.size = A at hD hE ⊢
  have hA : ∀ q : Nat, s.heap.size ≤ q → A q := fun q h => by rw [← hAe]; exact Or.inr h
  have hW : WW G A s.heap (wX6 a ct g) s.heap [] := ⟨hP, hD, va_S.rf⟩
  have hl := lv_entry ([.ref (a 0), .int x1, .int x2, .int x3]) (n := 4) (Nat.le_of_ble_eq_true rfl)
  rw [lg_entry_eq]
  generalize (lg_sl ([.ref (a 0), .int x1, .int x2, .int x3]) ++ List.replicate (4 - (lg_sl ([.ref (a 0), .int x1, .int x2, .int x3])).length) Slot.unset).toArray = ls at hl ⊢
  have hl : lv_has ls 4 [(0, .ref (a 0)), (1, .int x1), (2, .int x2), (3, .int x3)] := hl
  unfold f_X6_see at hf
  show W p l e ({ frames := 1, cells := 0, slots := 0, locals := 23 } : Room) s m (List.toArray [.ref (a 0), .int x1, .int x2, .int x3]) below meth c s.heap [] 0 0 (MQ below (va_Qi (fun r (_ : Unit) => r = o.1) (fun _ t => Af_ G ct (wX6 a ct o.2) A t) A) (List.toArray [.ref (a 0), .int x1, .int x2, .int x3]) s 0 0 A) (F0 m 0 ls [])
  refine lv_aload_n hx hb dX6_see_0 rfl (lv_at hl 0 rfl) ?_
  refine x_get (ci := 6) (v := .ref (a 26)) (C := RX6) (T := TX6) (N := 7) hx hb hts inX6 hown hK hW 0 rfl rfl 1 (by decide) fl19 (fun _ h9 => h9) rfl dX6_see_1 ?_
  refine x_get (ci := 5) (v := .ref (a 27)) (C := RX5) (T := TX5) (N := 4) hx hb hts inX5 hown hK hW 17 rfl rfl 0 (by decide) fl84 (fun _ h9 => h9) rfl dX6_see_4 ?_
  refine lv_iload_n hx hb dX6_see_7 rfl (lv_at hl 1 rfl) ?_
  replace hf := bs_ hf; obtain ⟨r1, hcl, hf⟩ := hf
  refine x_callV_i (w' := (wX6 a ct g)) (As := [.int x1]) (rest := []) (ci := 1) ⟨hx, hb, hml, hown, hts⟩ (c_X1_hasPlace l N kd G ct (sh_ 27 a) (sh_ 27 g) x1 _ hcl) (cwV 1 hts gX6_see_X1_hasPlace rfl rfl rfl (by decide +kernel) ⟨Nat.le_of_ble_eq_true rfl, Nat.le_of_ble_eq_true rfl⟩) hK hE hA hW ((wX6 a ct g).take 18) ((wX6 a ct g).drop 23) (wc_X6_27 a ct g) (wc_X6_27 a ct g) 0 rfl rfl rfl rfl hl.1 rfl (lv_room (Nat.le_of_ble_eq_true rfl)) dX6_see_8 (fun H locs hW => ?_)
  refine lv_if_eq (tgt := 28) hx hb dX6_see_11 (by decide) (fun hc => ?_) (fun hc => ?_)
  · replace hf := ifp hc hf
    refine lv_ldc (v := (-1000000001 : Int32)) hx hb hown fl114 dX6_see_28 ?_
    have ho := Option.some.inj hf
    subst ho
    exact x_reti (sz := 0) (w0 := []) (A1 := A) hx hb hr hlocks hK hW rfl rfl dX6_see_30
  · replace hf := ifn hc hf
    refine lv_aload_n hx hb dX6_see_14 rfl (lv_at hl 0 rfl) ?_
    refine x_get (ci := 6) (v := .ref (a 26)) (C := RX6) (T := TX6) (N := 7) hx hb hts inX6 hown hK hW 0 rfl rfl 1 (by decide) fl19 (fun _ h9 => h9) rfl dX6_see_15 ?_
    refine x_get (ci := 5) (v := .ref (a 27)) (C := RX5) (T := TX5) (N := 4) hx hb hts inX5 hown hK hW 17 rfl rfl 0 (by decide) fl84 (fun _ h9 => h9) rfl dX6_see_18 ?_
    refine lv_iload_n hx hb dX6_see_21 rfl (lv_at hl 2 rfl) ?_
    replace hf := bs_ hf; obtain ⟨r2, hcl, hf⟩ := hf
    refine x_callV_i (w' := (wX6 a ct g)) (As := [.int x2]) (rest := []) (ci := 1) ⟨hx, hb, hml, hown, hts⟩ (c_X1_hasPlace l N kd G ct (sh_ 27 a) (sh_ 27 g) x2 _ hcl) (cwV 1 hts gX6_see_X1_hasPlace rfl rfl rfl (by decide +kernel) ⟨Nat.le_of_ble_eq_true rfl, Nat.le_of_ble_eq_true rfl⟩) hK hE hA hW ((wX6 a ct g).take 18) ((wX6 a ct g).drop 23) (wc_X6_27 a ct g) (wc_X6_27 a ct g) 0 rfl rfl rfl rfl hl.1 rfl (lv_room (Nat.le_of_ble_eq_true rfl)) dX6_see_22 (fun H locs hW => ?_)
    refine lv_if_ne (tgt := 31) hx hb dX6_see_25 (by decide) (fun hc => ?_) (fun hc => ?_)
    · replace hf := ifn hc hf
      refine lv_aload_n hx hb dX6_see_31 rfl (lv_at hl 0 rfl) ?_
      refine x_get (ci := 6) (v := .ref (a 65)) (C := RX6) (T := TX6) (N := 7) hx hb hts inX6 hown hK hW 0 rfl rfl 4 (by decide) fl37 (fun _ h9 => h9) rfl dX6_see_32 ?_
      refine x_get (ci := 2) (v := .int (g 66 0)) (C := RX2) (T := TX2) (N := 4) hx hb hts inX2 hown hK hW 45 rfl rfl 0 (by decide) fl80 (fun _ h9 => h9) rfl dX6_see_35 ?_
      refine lv_bipush (v := (20 : Int32)) hx hb dX6_see_38 (by decide) ?_
      refine lv_icmp_lt (tgt := 46) hx hb dX6_see_40 (by decide) (fun hc => ?_) (fun hc => ?_)
      · replace hf := ifp hc hf
        refine lv_aload_n hx hb dX6_see_46 rfl (lv_at hl 0 rfl) ?_
        refine x_get (ci := 6) (v := .ref (a 65)) (C := RX6) (T := TX6) (N := 7) hx hb hts inX6 hown hK hW 0 rfl rfl 4 (by decide) fl37 (fun _ h9 => h9) rfl dX6_see_47 ?_
        refine lv_iload_n hx hb dX6_see_50 rfl (lv_at hl 1 rfl) ?_
        refine lv_iload_n hx hb dX6_see_51 rfl (lv_at hl 2 rfl) ?_
        refine lv_iload_n hx hb dX6_see_52 rfl (lv_at hl 3 rfl) ?_
        replace hf := bs_ hf; obtain ⟨r3, hcl, hf⟩ := hf
        refine x_callV_v (w' := (wX6 a ct (pu_ 65 5 g r3))) (As := [.int x1, .int x2, .int x3]) (rest := []) (ci := 2) ⟨hx, hb, hml, hown, hts⟩ (c_X2_append l N kd G ct (sh_ 65 a) (sh_ 65 g) x1 x2 x3 _ hcl) (cwV 3 hts gX6_see_X2_append rfl rfl rfl (by decide +kernel) ⟨Nat.le_of_ble_eq_true rfl, Nat.le_of_ble_eq_true rfl⟩) hK hE hA hW ((wX6 a ct g).take 45) ((wX6 a ct g).drop 49) (wc_X6_65 a ct g) (wu_X6_65 a ct g r3) 0 rfl rfl rfl rfl hl.1 rfl (lv_room (Nat.le_of_ble_eq_true rfl)) dX6_see_53 (fun H locs hW => ?_)
        refine lv_aload_n hx hb dX6_see_56 rfl (lv_at hl 0 rfl) ?_
        refine x_get (ci := 6) (v := .ref (a 65)) (C := RX6) (T := TX6) (N := 7) hx hb hts inX6 hown hK hW 0 rfl rfl 4 (by decide) fl37 (fun _ h9 => h9) rfl dX6_see_57 ?_
        refine x_get (ci := 2) (v := .int (r3 1 0)) (C := RX2) (T := TX2) (N := 4) hx hb hts inX2 hown hK hW 45 rfl rfl 0 (by decide) fl80 (fun _ h9 => h9) rfl dX6_see_60 ?_
        have ho := Option.some.inj hf
        subst ho
        exact x_reti (sz := 0) (w0 := []) (A1 := A) hx hb hr hlocks hK hW rfl rfl dX6_see_63
      · replace hf := ifn hc hf
        refine lv_ldc (v := (-1000000004 : Int32)) hx hb hown fl56 dX6_see_43 ?_
        have ho := Option.some.inj hf
        subst ho
        exact x_reti (sz := 0) (w0 := []) (A1 := A) hx hb hr hlocks hK hW rfl rfl dX6_see_45
    · replace hf := ifp hc hf
      refine lv_ldc (v := (-1000000001 : Int32)) hx hb hown fl114 dX6_see_28 ?_
      have ho := Option.some.inj hf
      subst ho
      exact x_reti (sz := 0) (w0 := []) (A1 := A) hx hb hr hlocks hK hW rfl rfl dX6_see_30
set_option maxHeartbeats 4000000 in
set_option maxRecDepth 100000 in
theorem c_X6_fits (l : Launch) (N : Nat) (kd : (Nat → Nat) × (Nat → Nat)) (G : va_G) (ct : Nat → ClassId) (a : Nat → Nat) (g : St_) (o : Int32) (hf : f_X6_fits N g = some o) : CtI l yX6_fits wsX6_fits ({ frames := 5, cells := 0, slots := 0, locals := 121 }) kd G ct [.ref (a 0)] (wX6 a ct g) o (wX6 a ct g) := by
  intro sz
  refine Met.ofW (cc := cX6_fits) (maxL := 1) (ret := (some .int)) (by decide) rfl ?_
  intro p e s m args below meth c s₁ B hml hv
  obtain ⟨rfl, hsz, hP, hK, hD0, hE⟩ := hv
  have hx := B.exec
  have hb := B.bytes
  have hr := B.returns
  have hts := atoms_spec (ws := wsX6_fits) B.pre
  have hown : s.vm.findClass RX6 = some m.cls := findClass_of_methodNamed B.named
  have hlocks := B.notSynchronized
  have inX6 : ∀ w ∈ wsX60, w ∈ wsX6_fits := by decide +kernel
  have fl19 := hts (.fieldLink RX6 19 "FittingStrides" "now" "LFittingStrides$Town;") (by decide +kernel)
  have fl37 := hts (.fieldLink RX6 37 "FittingStrides" "sights" "LFittingStrides$Sights;") (by decide +kernel)
  subst hsz
  have hD := hD0.self (sz := s.heap.size)
  generalize hAe : va_A (wX6 a ct g) s.heap.size = A at hD hE ⊢
  have hA : ∀ q : Nat, s.heap.size ≤ q → A q := fun q h => by rw [← hAe]; exact Or.inr h
  have hW : WW G A s.heap (wX6 a ct g) s.heap [] := ⟨hP, hD, va_S.rf⟩
  have hl := lv_entry ([.ref (a 0)]) (n := 1) (Nat.le_of_ble_eq_true rfl)
  rw [lg_entry_eq]
  generalize (lg_sl ([.ref (a 0)]) ++ List.replicate (1 - (lg_sl ([.ref (a 0)])).length) Slot.unset).toArray = ls at hl ⊢
  have hl : lv_has ls 1 [(0, .ref (a 0))] := hl
  unfold f_X6_fits at hf
  show W p l e ({ frames := 5, cells := 0, slots := 0, locals := 121 } : Room) s m (List.toArray [.ref (a 0)]) below meth c s.heap [] 0 0 (MQ below (va_Qi (fun r (_ : Unit) => r = o) (fun _ t => Af_ G ct (wX6 a ct g) A t) A) (List.toArray [.ref (a 0)]) s 0 0 A) (F0 m 0 ls [])
  refine lv_aload_n hx hb dX6_fits_0 rfl (lv_at hl 0 rfl) ?_
  refine x_get (ci := 6) (v := .ref (a 65)) (C := RX6) (T := TX6) (N := 7) hx hb hts inX6 hown hK hW 0 rfl rfl 4 (by decide) fl37 (fun _ h9 => h9) rfl dX6_fits_1 ?_
  refine lv_aload_n hx hb dX6_fits_4 rfl (lv_at hl 0 rfl) ?_
  refine x_get (ci := 6) (v := .ref (a 26)) (C := RX6) (T := TX6) (N := 7) hx hb hts inX6 hown hK hW 0 rfl rfl 1 (by decide) fl19 (fun _ h9 => h9) rfl dX6_fits_5 ?_
  replace hf := bs_ hf; obtain ⟨r1, hcl, hf⟩ := hf
  refine x_callP_i (w' := (wX6 a ct g)) (As := [.ref (a 26)]) (rest := []) (ci := 2) ⟨hx, hb, hml, hown, hts⟩ (c_X2_stridesAsSeen l N kd G ct (ca_ 5 (sh_ 65 a) (sh_ 26 a)) (ca_ 5 (sh_ 65 g) (sh_ 26 g)) _ hcl) (cwV 1 hts gX6_fits_X2_stridesAsSeen rfl rfl rfl (by decide +kernel) ⟨Nat.le_of_ble_eq_true rfl, Nat.le_of_ble_eq_true rfl⟩) hK hE hA hW [45, 46, 47, 48, 17, 18, 19, 20, 21, 22, 23, 24, 25, 26, 27, 28, 29, 30, 0, 1, 2, 3, 4, 5, 6, 7, 8, 9, 10, 11, 12, 13, 14, 15, 16, 31, 32, 33, 34, 35, 36, 37, 38, 39, 40, 41, 42, 43, 44, 49, 50, 51, 52] [18, 19, 20, 21, 22, 23, 24, 25, 26, 27, 28, 29, 30, 31, 32, 33, 34, 4, 5, 6, 7, 8, 9, 10, 11, 12, 13, 14, 15, 16, 17, 35, 36, 37, 38, 39, 40, 41, 42, 43, 44, 45, 46, 47, 48, 0, 1, 2, 3, 49, 50, 51, 52] (wr := ([0, 1, 2, 3, 4, 5, 6, 7, 8, 9, 10, 11, 12, 13, 14, 15, 16, 31, 32, 33, 34, 35, 36, 37, 38, 39, 40, 41, 42, 43, 44, 49, 50, 51, 52] : List Nat).filterMap (fun i => (wX6 a ct g)[i]?)) rfl (wk_X6_65_26 a ct g) rfl (wi_X6_65_26 a ct g) 0 rfl rfl rfl rfl hl.1 rfl (lv_room (Nat.le_of_ble_eq_true rfl)) dX6_fits_8 (fun H locs hW => ?_)
  have ho := Option.some.inj hf
  subst ho
  exact x_reti (sz := 0) (w0 := []) (A1 := A) hx hb hr hlocks hK hW rfl rfl dX6_fits_11
set_option maxHeartbeats 4000000 in
set_option maxRecDepth 100000 in
theorem c_X6_ask (l : Launch) (N : Nat) (kd : (Nat → Nat) × (Nat → Nat)) (G : va_G) (ct : Nat → ClassId) (a : Nat → Nat) (g : St_) (o : Int32) (hf : f_X6_ask N g = some o) : CtI l yX6_ask wsX6_ask ({ frames := 5, cells := 0, slots := 0, locals := 121 }) kd G ct [.ref (a 0)] (wX6 a ct g) o (wX6 a ct g) := by
  intro sz
  refine Met.ofW (cc := cX6_ask) (maxL := 8) (ret := (some .int)) (by decide) rfl ?_
  intro p e s m args below meth c s₁ B hml hv
  obtain ⟨rfl, hsz, hP, hK, hD0, hE⟩ := hv
  have hx := B.exec
  have hb := B.bytes
  have hr := B.returns
  have hts := atoms_spec (ws := wsX6_ask) B.pre
  have hown : s.vm.findClass RX6 = some m.cls := findClass_of_methodNamed B.named
  have hlocks := B.notSynchronized
  have inX1 : ∀ w ∈ wsX10, w ∈ wsX6_ask := by decide +kernel
  have inX5 : ∀ w ∈ wsX50, w ∈ wsX6_ask := by decide +kernel
  have inX6 : ∀ w ∈ wsX60, w ∈ wsX6_ask := by decide +kernel
  have fl19 := hts (.fieldLink RX6 19 "FittingStrides" "now" "LFittingStrides$Town;") (by decide +kernel)
  have fl37 := hts (.fieldLink RX6 37 "FittingStrides" "sights" "LFittingStrides$Sights;") (by decide +kernel)
  have fl84 := hts (.fieldLink RX6 84 "FittingStrides$Town" "plan" "LFittingStrides$Plan;") (by decide +kernel)
  have fl93 := hts (.fieldLink RX6 93 "FittingStrides$Plan" "stairs" "I") (by decide +kernel)
  subst hsz
  have hD := hD0.self (sz := s.heap.size)
  generalize hAe : va_A (wX6 a ct g) s.heap.size = A at hD hE ⊢
  have hA : ∀ q : Nat, s.heap.size ≤ q → A q := fun q h => by rw [← hAe]; exact Or.inr h
  have hW : WW G A s.heap (wX6 a ct g) s.heap [] := ⟨hP, hD, va_S.rf⟩
  have hl := lv_entry ([.ref (a 0)]) (n := 8) (Nat.le_of_ble_eq_true rfl)
  rw [lg_entry_eq]
  generalize (lg_sl ([.ref (a 0)]) ++ List.replicate (8 - (lg_sl ([.ref (a 0)])).length) Slot.unset).toArray = ls at hl ⊢
  have hl : lv_has ls 8 [(0, .ref (a 0))] := hl
  unfold f_X6_ask at hf
  show W p l e ({ frames := 5, cells := 0, slots := 0, locals := 121 } : Room) s m (List.toArray [.ref (a 0)]) below meth c s.heap [] 0 0 (MQ below (va_Qi (fun r (_ : Unit) => r = o) (fun _ t => Af_ G ct (wX6 a ct g) A t) A) (List.toArray [.ref (a 0)]) s 0 0 A) (F0 m 0 ls [])
  refine lv_aload_n hx hb dX6_ask_0 rfl (lv_at hl 0 rfl) ?_
  refine x_get (ci := 6) (v := .ref (a 65)) (C := RX6) (T := TX6) (N := 7) hx hb hts inX6 hown hK hW 0 rfl rfl 4 (by decide) fl37 (fun _ h9 => h9) rfl dX6_ask_1 ?_
  refine lv_aload_n hx hb dX6_ask_4 rfl (lv_at hl 0 rfl) ?_
  refine x_get (ci := 6) (v := .ref (a 26)) (C := RX6) (T := TX6) (N := 7) hx hb hts inX6 hown hK hW 0 rfl rfl 1 (by decide) fl19 (fun _ h9 => h9) rfl dX6_ask_5 ?_
  replace hf := bs_ hf; obtain ⟨r1, hcl, hf⟩ := hf
  refine x_callP_i (w' := (wX6 a ct g)) (As := [.ref (a 26)]) (rest := []) (ci := 2) ⟨hx, hb, hml, hown, hts⟩ (c_X2_stridesAsSeen l N kd G ct (ca_ 5 (sh_ 65 a) (sh_ 26 a)) (ca_ 5 (sh_ 65 g) (sh_ 26 g)) _ hcl) (cwV 1 hts gX6_ask_X2_stridesAsSeen rfl rfl rfl (by decide +kernel) ⟨Nat.le_of_ble_eq_true rfl, Nat.le_of_ble_eq_true rfl⟩) hK hE hA hW [45, 46, 47, 48, 17, 18, 19, 20, 21, 22, 23, 24, 25, 26, 27, 28, 29, 30, 0, 1, 2, 3, 4, 5, 6, 7, 8, 9, 10, 11, 12, 13, 14, 15, 16, 31, 32, 33, 34, 35, 36, 37, 38, 39, 40, 41, 42, 43, 44, 49, 50, 51, 52] [18, 19, 20, 21, 22, 23, 24, 25, 26, 27, 28, 29, 30, 31, 32, 33, 34, 4, 5, 6, 7, 8, 9, 10, 11, 12, 13, 14, 15, 16, 17, 35, 36, 37, 38, 39, 40, 41, 42, 43, 44, 45, 46, 47, 48, 0, 1, 2, 3, 49, 50, 51, 52] (wr := ([0, 1, 2, 3, 4, 5, 6, 7, 8, 9, 10, 11, 12, 13, 14, 15, 16, 31, 32, 33, 34, 35, 36, 37, 38, 39, 40, 41, 42, 43, 44, 49, 50, 51, 52] : List Nat).filterMap (fun i => (wX6 a ct g)[i]?)) rfl (wk_X6_65_26 a ct g) rfl (wi_X6_65_26 a ct g) 0 rfl rfl rfl rfl hl.1 rfl (lv_room (Nat.le_of_ble_eq_true rfl)) dX6_ask_8 (fun H locs hW => ?_)
  refine lv_istore_n (lv' := [(1, .int r1), (0, .ref (a 0))]) hx hb dX6_ask_11 rfl hl (by decide) rfl (fun ls hl => ?_)
  refine lv_iload_n hx hb dX6_ask_12 rfl (lv_at hl 0 rfl) ?_
  replace hf := bs_ hf; obtain ⟨r2, hcl, hf⟩ := hf
  refine x_callS_i (As := [.int r1]) (rest := []) ⟨hx, hb, hml, hown, hts⟩ (c_J6_bitCount_0f7a4 l N kd G ct r1 _ hcl) (va_cwS 1 hts gX6_ask_J6_bitCount_0f7a4 rfl rfl rfl (by decide +kernel) ⟨Nat.le_of_ble_eq_true rfl, Nat.le_of_ble_eq_true rfl⟩) hK hE hA hW rfl hl.1 rfl (lv_room (Nat.le_of_ble_eq_true rfl)) dX6_ask_13 (fun H locs hW => ?_)
  refine lv_istore_n (lv' := [(2, .int r2), (1, .int r1), (0, .ref (a 0))]) hx hb dX6_ask_16 rfl hl (by decide) rfl (fun ls hl => ?_)
  refine lv_iconst (v := (-1 : Int32)) hx hb dX6_ask_17 (by decide) ?_
  refine lv_istore_n (lv' := [(3, .int (-1 : Int32)), (2, .int r2), (1, .int r1), (0, .ref (a 0))]) hx hb dX6_ask_18 rfl hl (by decide) rfl (fun ls hl => ?_)
  refine lv_bipush (v := (25 : Int32)) hx hb dX6_ask_19 (by decide) ?_
  refine lv_istore (lv' := [(4, .int (25 : Int32)), (3, .int (-1 : Int32)), (2, .int r2), (1, .int r1), (0, .ref (a 0))]) hx hb dX6_ask_21 hl (by decide) rfl (fun ls hl => ?_)
  refine lv_iconst (v := (0 : Int32)) hx hb dX6_ask_23 (by decide) ?_
  refine lv_istore (lv' := [(5, .int (0 : Int32)), (4, .int (25 : Int32)), (3, .int (-1 : Int32)), (2, .int r2), (1, .int r1), (0, .ref (a 0))]) hx hb dX6_ask_24 hl (by decide) rfl (fun ls hl => ?_)
  replace hf := bs_ hf; obtain ⟨v3, hg, hf⟩ := hf
  have J3 : ∀ (H : Heap) (locs : List Loc) (ls : Array Slot), WW G A s.heap (wX6 a ct g) H locs → lv_has ls 8 [(3, .int v3)] → W p l e ({ frames := 5, cells := 0, slots := 0, locals := 121 } : Room) s m (List.toArray [.ref (a 0)]) below meth c H locs 0 0 (MQ below (va_Qi (fun r (_ : Unit) => r = o) (fun _ t => Af_ G ct (wX6 a ct g) A t) A) (List.toArray [.ref (a 0)]) s 0 0 A) (F0 m 99 ls []) := by
    intro H locs ls hW hl
    refine lv_iload_n hx hb dX6_ask_99 rfl (lv_at hl 0 rfl) ?_
    have ho := Option.some.inj hf
    subst ho
    exact x_reti (sz := 0) (w0 := []) (A1 := A) hx hb hr hlocks hK hW rfl rfl dX6_ask_100
  clear hf
  have L3 : ∀ (n : Nat) (y3_3 : Int32) (y3_4 : Int32) (y3_5 : Int32), f_X6_ask_L26 N g r1 r2 n y3_3 y3_4 y3_5 = some v3 → ∀ (H : Heap) (locs : List Loc) (ls : Array Slot), WW G A s.heap (wX6 a ct g) H locs → lv_has ls 8 [(0, .ref (a 0)), (1, .int r1), (2, .int r2), (3, .int y3_3), (4, .int y3_4), (5, .int y3_5)] → W p l e ({ frames := 5, cells := 0, slots := 0, locals := 121 } : Room) s m (List.toArray [.ref (a 0)]) below meth c H locs 0 0 (MQ below (va_Qi (fun r (_ : Unit) => r = o) (fun _ t => Af_ G ct (wX6 a ct g) A t) A) (List.toArray [.ref (a 0)]) s 0 0 A) (F0 m 26 ls []) := by
    intro n
    induction n with
    | zero =>
      intro y3_3 y3_4 y3_5 hf
      rw [f_X6_ask_L26] at hf
      cases hf
    | succ n ih =>
      intro y3_3 y3_4 y3_5 hf H locs ls hW hl
      rw [f_X6_ask_L26] at hf
      refine lv_iload hx hb dX6_ask_26 (lv_at hl 5 rfl) ?_
      refine lv_aload_n hx hb dX6_ask_28 rfl (lv_at hl 0 rfl) ?_
      refine x_get (ci := 6) (v := .ref (a 26)) (C := RX6) (T := TX6) (N := 7) hx hb hts inX6 hown hK hW 0 rfl rfl 1 (by decide) fl19 (fun _ h9 => h9) rfl dX6_ask_29 ?_
      refine x_get (ci := 5) (v := .ref (a 27)) (C := RX5) (T := TX5) (N := 4) hx hb hts inX5 hown hK hW 17 rfl rfl 0 (by decide) fl84 (fun _ h9 => h9) rfl dX6_ask_32 ?_
      refine x_get (ci := 1) (v := .int (g 29 0)) (C := RX1) (T := TX1) (N := 6) hx hb hts inX1 hown hK hW 18 rfl rfl 1 (by decide) fl93 (fun _ h9 => h9) rfl dX6_ask_35 ?_
      refine lv_icmp_ge (tgt := 99) hx hb dX6_ask_38 (by decide) (fun hc => ?_) (fun hc => ?_)
      · replace hf := ifp hc hf
        have hj := Option.some.inj hf
        subst hj
        exact J3 _ _ _ hW (lv_sub hl [3] rfl)
      · replace hf := ifn hc hf
        refine lv_iload_n hx hb dX6_ask_41 rfl (lv_at hl 1 rfl) ?_
        refine lv_aload_n hx hb dX6_ask_42 rfl (lv_at hl 0 rfl) ?_
        refine x_get (ci := 6) (v := .ref (a 26)) (C := RX6) (T := TX6) (N := 7) hx hb hts inX6 hown hK hW 0 rfl rfl 1 (by decide) fl19 (fun _ h9 => h9) rfl dX6_ask_43 ?_
        refine lv_iload hx hb dX6_ask_46 (lv_at hl 5 rfl) ?_
        replace hf := bs_ hf; obtain ⟨r4, hcl, hf⟩ := hf
        refine x_callV_i (w' := (wX6 a ct g)) (As := [.int y3_5]) (rest := [.int r1]) (ci := 5) ⟨hx, hb, hml, hown, hts⟩ (c_X5_stridesThatFit l N kd G ct (sh_ 26 a) (sh_ 26 g) y3_5 _ hcl) (cwV 1 hts gX6_ask_X5_stridesThatFit rfl rfl rfl (by decide +kernel) ⟨Nat.le_of_ble_eq_true rfl, Nat.le_of_ble_eq_true rfl⟩) hK hE hA hW ((wX6 a ct g).take 17) ((wX6 a ct g).drop 31) (wc_X6_26 a ct g) (wc_X6_26 a ct g) 0 rfl rfl rfl rfl hl.1 rfl (lv_room (Nat.le_of_ble_eq_true rfl)) dX6_ask_48 (fun H locs hW => ?_)
        refine lv_iand hx hb dX6_ask_51 ?_
        replace hf := bs_ hf; obtain ⟨r5, hcl, hf⟩ := hf
        refine x_callS_i (As := [.int (r1 &&& r4)]) (rest := []) ⟨hx, hb, hml, hown, hts⟩ (c_J6_bitCount_0f7a4 l N kd G ct (r1 &&& r4) _ hcl) (va_cwS 1 hts gX6_ask_J6_bitCount_0f7a4 rfl rfl rfl (by decide +kernel) ⟨Nat.le_of_ble_eq_true rfl, Nat.le_of_ble_eq_true rfl⟩) hK hE hA hW rfl hl.1 rfl (lv_room (Nat.le_of_ble_eq_true rfl)) dX6_ask_52 (fun H locs hW => ?_)
        refine lv_istore (lv' := [(6, .int r5), (0, .ref (a 0)), (1, .int r1), (2, .int r2), (3, .int y3_3), (4, .int y3_4), (5, .int y3_5)]) hx hb dX6_ask_55 hl (by decide) rfl (fun ls hl => ?_)
        refine lv_iload_n hx hb dX6_ask_57 rfl (lv_at hl 3 rfl) ?_
        refine lv_iconst (v := (2 : Int32)) hx hb dX6_ask_58 (by decide) ?_
        refine lv_iload hx hb dX6_ask_59 (lv_at hl 0 rfl) ?_
        refine lv_imul hx hb dX6_ask_61 ?_
        refine lv_isub hx hb dX6_ask_62 ?_
        refine va_mabs hx hb (hml.trans hl.1.symm) hown (hts (.methodLink RX6 222 Lib.Math.abs.name) (by decide +kernel)) (hts (.static Lib.Math.abs.name) (by decide +kernel)) (hts (.initialized "java/lang/Math") (by decide +kernel)) (hts (.code Lib.Math.abs.name Lib.Math.abs.code 1 (some .int)) (by decide +kernel)) (Nat.le_of_ble_eq_true rfl) (Nat.le_of_ble_eq_true rfl) (Nat.le_refl _) (Nat.le_refl _) dX6_ask_63 ?_
        refine lv_istore (lv' := [(7, .int (if 0 ≤ (r2 - ((2 : Int32) * r5)) then (r2 - ((2 : Int32) * r5)) else 0 - (r2 - ((2 : Int32) * r5)))), (6, .int r5), (0, .ref (a 0)), (1, .int r1), (2, .int r2), (3, .int y3_3), (4, .int y3_4), (5, .int y3_5)]) hx hb dX6_ask_66 hl (by decide) rfl (fun ls hl => ?_)
        refine lv_iload hx hb dX6_ask_68 (lv_at hl 1 rfl) ?_
        replace hf := bs_ hf; obtain ⟨j6, hg, hf⟩ := hf
        have J6 : ∀ (H : Heap) (locs : List Loc) (ls : Array Slot), WW G A s.heap (wX6 a ct g) H locs → lv_has ls 8 [(0, .ref (a 0)), (1, .int r1), (2, .int r2), (3, .int j6.1), (4, .int j6.2), (5, .int y3_5)] → W p l e ({ frames := 5, cells := 0, slots := 0, locals := 121 } : Room) s m (List.toArray [.ref (a 0)]) below meth c H locs 0 0 (MQ below (va_Qi (fun r (_ : Unit) => r = o) (fun _ t => Af_ G ct (wX6 a ct g) A t) A) (List.toArray [.ref (a 0)]) s 0 0 A) (F0 m 93 ls ([])) := by
          intro H locs ls hW hl
          refine lv_iinc (v := (y3_5 + (1 : Int32))) (lv' := [(5, .int (y3_5 + (1 : Int32))), (0, .ref (a 0)), (1, .int r1), (2, .int r2), (3, .int j6.1), (4, .int j6.2)]) hx hb dX6_ask_93 hl (k := 5) rfl rfl (by decide) rfl (fun ls hl => ?_)
          refine lv_goto (tgt := 26) hx hb dX6_ask_96 (by decide) ?_
          exact ih j6.1 j6.2 (y3_5 + (1 : Int32)) hf _ _ _ hW (lv_sub hl [1, 2, 3, 4, 5, 0] rfl)
        clear hf
        refine lv_if_le (tgt := 93) hx hb dX6_ask_70 (by decide) (fun hc => ?_) (fun hc => ?_)
        · have hf := ifp hc hg
          clear hg
          have hj := Option.some.inj hf
          subst hj
          exact J6 _ _ _ hW (lv_sub hl [2, 3, 4, 5, 6, 7] rfl)
        · have hf := ifn hc hg
          clear hg
          refine lv_iload hx hb dX6_ask_73 (lv_at hl 1 rfl) ?_
          refine lv_iload_n hx hb dX6_ask_75 rfl (lv_at hl 4 rfl) ?_
          refine lv_icmp_ge (tgt := 93) hx hb dX6_ask_76 (by decide) (fun hc => ?_) (fun hc => ?_)
          · replace hf := ifp hc hf
            have hj := Option.some.inj hf
            subst hj
            exact J6 _ _ _ hW (lv_sub hl [2, 3, 4, 5, 6, 7] rfl)
          · replace hf := ifn hc hf
            refine lv_iload hx hb dX6_ask_79 (lv_at hl 0 rfl) ?_
            refine lv_iload hx hb dX6_ask_81 (lv_at hl 6 rfl) ?_
            refine lv_icmp_ge (tgt := 93) hx hb dX6_ask_83 (by decide) (fun hc => ?_) (fun hc => ?_)
            · replace hf := ifp hc hf
              have hj := Option.some.inj hf
              subst hj
              exact J6 _ _ _ hW (lv_sub hl [2, 3, 4, 5, 6, 7] rfl)
            · replace hf := ifn hc hf
              refine lv_iload hx hb dX6_ask_86 (lv_at hl 0 rfl) ?_
              refine lv_istore (lv' := [(4, .int (if 0 ≤ (r2 - ((2 : Int32) * r5)) then (r2 - ((2 : Int32) * r5)) else 0 - (r2 - ((2 : Int32) * r5)))), (7, .int (if 0 ≤ (r2 - ((2 : Int32) * r5)) then (r2 - ((2 : Int32) * r5)) else 0 - (r2 - ((2 : Int32) * r5)))), (6, .int r5), (0, .ref (a 0)), (1, .int r1), (2, .int r2), (3, .int y3_3), (5, .int y3_5)]) hx hb dX6_ask_88 hl (by decide) rfl (fun ls hl => ?_)
              refine lv_iload hx hb dX6_ask_90 (lv_at hl 7 rfl) ?_
              refine lv_istore_n (lv' := [(3, .int y3_5), (4, .int (if 0 ≤ (r2 - ((2 : Int32) * r5)) then (r2 - ((2 : Int32) * r5)) else 0 - (r2 - ((2 : Int32) * r5)))), (7, .int (if 0 ≤ (r2 - ((2 : Int32) * r5)) then (r2 - ((2 : Int32) * r5)) else 0 - (r2 - ((2 : Int32) * r5)))), (6, .int r5), (0, .ref (a 0)), (1, .int r1), (2, .int r2), (5, .int y3_5)]) hx hb dX6_ask_92 rfl hl (by decide) rfl (fun ls hl => ?_)
              have hj := Option.some.inj hf
              subst hj
              exact J6 _ _ _ hW (lv_sub hl [4, 5, 6, 0, 1, 7] rfl)
  exact L3 N (-1 : Int32) (25 : Int32) (0 : Int32) hg _ _ _ hW (lv_sub hl [5, 4, 3, 2, 1, 0] rfl)
set_option maxHeartbeats 4000000 in
set_option maxRecDepth 100000 in
theorem c_X6_write (l : Launch) (N : Nat) (kd : (Nat → Nat) × (Nat → Nat)) (G : va_G) (ct : Nat → ClassId) (a : Nat → Nat) (g : St_) (x1 : Int32) (x2 : Int32) (o : (Int32 × St_)) (hf : f_X6_write N g x1 x2 = some o) : CtI l yX6_write wsX6_write ({ frames := 1, cells := 0, slots := 0, locals := 22 }) kd G ct [.ref (a 0), .int x1, .int x2] (wX6 a ct g) o.1 (wX6 a ct o.2) := by
  intro sz
  refine Met.ofW (cc := cX6_write) (maxL := 3) (ret := (some .int)) (by decide) rfl ?_
  intro p e s m args below meth c s₁ B hml hv
  obtain ⟨rfl, hsz, hP, hK, hD0, hE⟩ := hv
  have hx := B.exec
  have hb := B.bytes
  have hr := B.returns
  have hts := atoms_spec (ws := wsX6_write) B.pre
  have hown : s.vm.findClass RX6 = some m.cls := findClass_of_methodNamed B.named
  have hlocks := B.notSynchronized
  have inX0 : ∀ w ∈ wsX00, w ∈ wsX6_write := by decide +kernel
  have inX5 : ∀ w ∈ wsX50, w ∈ wsX6_write := by decide +kernel
  have inX6 : ∀ w ∈ wsX60, w ∈ wsX6_write := by decide +kernel
  have fl19 := hts (.fieldLink RX6 19 "FittingStrides" "now" "LFittingStrides$Town;") (by decide +kernel)
  have fl44 := hts (.fieldLink RX6 44 "FittingStrides" "book" "LFittingStrides$Book;") (by decide +kernel)
  have fl56 := hts (.constant RX6 56 (-1000000004)) (by decide +kernel)
  have fl83 := hts (.fieldLink RX6 83 "FittingStrides$Book" "count" "I") (by decide +kernel)
  have fl84 := hts (.fieldLink RX6 84 "FittingStrides$Town" "plan" "LFittingStrides$Plan;") (by decide +kernel)
  have fl96 := hts (.fieldLink RX6 96 "FittingStrides$Town" "state" "LFittingStrides$State;") (by decide +kernel)
  have fl114 := hts (.constant RX6 114 (-1000000001)) (by decide +kernel)
  subst hsz
  have hD := hD0.self (sz := s.heap.size)
  generalize hAe : va_A (wX6 a ct g) s.heap.size = A at hD hE ⊢
  have hA : ∀ q : Nat, s.heap.size ≤ q → A q := fun q h => by rw [← hAe]; exact Or.inr h
  have hW : WW G A s.heap (wX6 a ct g) s.heap [] := ⟨hP, hD, va_S.rf⟩
  have hl := lv_entry ([.ref (a 0), .int x1, .int x2]) (n := 3) (Nat.le_of_ble_eq_true rfl)
  rw [lg_entry_eq]
  generalize (lg_sl ([.ref (a 0), .int x1, .int x2]) ++ List.replicate (3 - (lg_sl ([.ref (a 0), .int x1, .int x2])).length) Slot.unset).toArray = ls at hl ⊢
  have hl : lv_has ls 3 [(0, .ref (a 0)), (1, .int x1), (2, .int x2)] := hl
  unfold f_X6_write at hf
  show W p l e ({ frames := 1, cells := 0, slots := 0, locals := 22 } : Room) s m (List.toArray [.ref (a 0), .int x1, .int x2]) below meth c s.heap [] 0 0 (MQ below (va_Qi (fun r (_ : Unit) => r = o.1) (fun _ t => Af_ G ct (wX6 a ct o.2) A t) A) (List.toArray [.ref (a 0), .int x1, .int x2]) s 0 0 A) (F0 m 0 ls [])
  refine lv_aload_n hx hb dX6_write_0 rfl (lv_at hl 0 rfl) ?_
  refine x_get (ci := 6) (v := .ref (a 26)) (C := RX6) (T := TX6) (N := 7) hx hb hts inX6 hown hK hW 0 rfl rfl 1 (by decide) fl19 (fun _ h9 => h9) rfl dX6_write_1 ?_
  refine x_get (ci := 5) (v := .ref (a 34)) (C := RX5) (T := TX5) (N := 4) hx hb hts inX5 hown hK hW 17 rfl rfl 1 (by decide) fl96 (fun _ h9 => h9) rfl dX6_write_4 ?_
  refine lv_iload_n hx hb dX6_write_7 rfl (lv_at hl 1 rfl) ?_
  replace hf := bs_ hf; obtain ⟨r1, hcl, hf⟩ := hf
  refine x_callV_i (w' := (wX6 a ct g)) (As := [.int x1]) (rest := []) (ci := 3) ⟨hx, hb, hml, hown, hts⟩ (c_X3_hasPerson l N kd G ct (sh_ 34 a) (sh_ 34 g) x1 _ hcl) (cwV 1 hts gX6_write_X3_hasPerson rfl rfl rfl (by decide +kernel) ⟨Nat.le_of_ble_eq_true rfl, Nat.le_of_ble_eq_true rfl⟩) hK hE hA hW ((wX6 a ct g).take 23) ((wX6 a ct g).drop 29) (wc_X6_34 a ct g) (wc_X6_34 a ct g) 0 rfl rfl rfl rfl hl.1 rfl (lv_room (Nat.le_of_ble_eq_true rfl)) dX6_write_8 (fun H locs hW => ?_)
  refine lv_if_eq (tgt := 28) hx hb dX6_write_11 (by decide) (fun hc => ?_) (fun hc => ?_)
  · replace hf := ifp hc hf
    refine lv_ldc (v := (-1000000001 : Int32)) hx hb hown fl114 dX6_write_28 ?_
    have ho := Option.some.inj hf
    subst ho
    exact x_reti (sz := 0) (w0 := []) (A1 := A) hx hb hr hlocks hK hW rfl rfl dX6_write_30
  · replace hf := ifn hc hf
    refine lv_aload_n hx hb dX6_write_14 rfl (lv_at hl 0 rfl) ?_
    refine x_get (ci := 6) (v := .ref (a 26)) (C := RX6) (T := TX6) (N := 7) hx hb hts inX6 hown hK hW 0 rfl rfl 1 (by decide) fl19 (fun _ h9 => h9) rfl dX6_write_15 ?_
    refine x_get (ci := 5) (v := .ref (a 27)) (C := RX5) (T := TX5) (N := 4) hx hb hts inX5 hown hK hW 17 rfl rfl 0 (by decide) fl84 (fun _ h9 => h9) rfl dX6_write_18 ?_
    refine lv_iload_n hx hb dX6_write_21 rfl (lv_at hl 2 rfl) ?_
    replace hf := bs_ hf; obtain ⟨r2, hcl, hf⟩ := hf
    refine x_callV_i (w' := (wX6 a ct g)) (As := [.int x2]) (rest := []) (ci := 1) ⟨hx, hb, hml, hown, hts⟩ (c_X1_hasStair l N kd G ct (sh_ 27 a) (sh_ 27 g) x2 _ hcl) (cwV 1 hts gX6_write_X1_hasStair rfl rfl rfl (by decide +kernel) ⟨Nat.le_of_ble_eq_true rfl, Nat.le_of_ble_eq_true rfl⟩) hK hE hA hW ((wX6 a ct g).take 18) ((wX6 a ct g).drop 23) (wc_X6_27 a ct g) (wc_X6_27 a ct g) 0 rfl rfl rfl rfl hl.1 rfl (lv_room (Nat.le_of_ble_eq_true rfl)) dX6_write_22 (fun H locs hW => ?_)
    refine lv_if_ne (tgt := 31) hx hb dX6_write_25 (by decide) (fun hc => ?_) (fun hc => ?_)
    · replace hf := ifn hc hf
      refine lv_aload_n hx hb dX6_write_31 rfl (lv_at hl 0 rfl) ?_
      refine x_get (ci := 6) (v := .ref (a 70)) (C := RX6) (T := TX6) (N := 7) hx hb hts inX6 hown hK hW 0 rfl rfl 5 (by decide) fl44 (fun _ h9 => h9) rfl dX6_write_32 ?_
      refine x_get (ci := 0) (v := .int (g 71 0)) (C := RX0) (T := TX0) (N := 4) hx hb hts inX0 hown hK hW 49 rfl rfl 0 (by decide) fl83 (fun _ h9 => h9) rfl dX6_write_35 ?_
      refine lv_bipush (v := (40 : Int32)) hx hb dX6_write_38 (by decide) ?_
      refine lv_icmp_lt (tgt := 46) hx hb dX6_write_40 (by decide) (fun hc => ?_) (fun hc => ?_)
      · replace hf := ifp hc hf
        refine lv_aload_n hx hb dX6_write_46 rfl (lv_at hl 0 rfl) ?_
        refine x_get (ci := 6) (v := .ref (a 70)) (C := RX6) (T := TX6) (N := 7) hx hb hts inX6 hown hK hW 0 rfl rfl 5 (by decide) fl44 (fun _ h9 => h9) rfl dX6_write_47 ?_
        refine lv_iload_n hx hb dX6_write_50 rfl (lv_at hl 1 rfl) ?_
        refine lv_iload_n hx hb dX6_write_51 rfl (lv_at hl 2 rfl) ?_
        replace hf := bs_ hf; obtain ⟨r3, hcl, hf⟩ := hf
        refine x_callV_v (w' := (wX6 a ct (pu_ 70 5 g r3))) (As := [.int x1, .int x2]) (rest := []) (ci := 0) ⟨hx, hb, hml, hown, hts⟩ (c_X0_append l N kd G ct (sh_ 70 a) (sh_ 70 g) x1 x2 _ hcl) (cwV 2 hts gX6_write_X0_append rfl rfl rfl (by decide +kernel) ⟨Nat.le_of_ble_eq_true rfl, Nat.le_of_ble_eq_true rfl⟩) hK hE hA hW ((wX6 a ct g).take 49) ((wX6 a ct g).drop 53) (wc_X6_70 a ct g) (wu_X6_70 a ct g r3) 0 rfl rfl rfl rfl hl.1 rfl (lv_room (Nat.le_of_ble_eq_true rfl)) dX6_write_52 (fun H locs hW => ?_)
        refine lv_aload_n hx hb dX6_write_55 rfl (lv_at hl 0 rfl) ?_
        refine x_get (ci := 6) (v := .ref (a 70)) (C := RX6) (T := TX6) (N := 7) hx hb hts inX6 hown hK hW 0 rfl rfl 5 (by decide) fl44 (fun _ h9 => h9) rfl dX6_write_56 ?_
        refine x_get (ci := 0) (v := .int (r3 1 0)) (C := RX0) (T := TX0) (N := 4) hx hb hts inX0 hown hK hW 49 rfl rfl 0 (by decide) fl83 (fun _ h9 => h9) rfl dX6_write_59 ?_
        have ho := Option.some.inj hf
        subst ho
        exact x_reti (sz := 0) (w0 := []) (A1 := A) hx hb hr hlocks hK hW rfl rfl dX6_write_62
      · replace hf := ifn hc hf
        refine lv_ldc (v := (-1000000004 : Int32)) hx hb hown fl56 dX6_write_43 ?_
        have ho := Option.some.inj hf
        subst ho
        exact x_reti (sz := 0) (w0 := []) (A1 := A) hx hb hr hlocks hK hW rfl rfl dX6_write_45
    · replace hf := ifp hc hf
      refine lv_ldc (v := (-1000000001 : Int32)) hx hb hown fl114 dX6_write_28 ?_
      have ho := Option.some.inj hf
      subst ho
      exact x_reti (sz := 0) (w0 := []) (A1 := A) hx hb hr hlocks hK hW rfl rfl dX6_write_30
set_option maxHeartbeats 4000000 in
set_option maxRecDepth 100000 in
theorem c_X6_tear (l : Launch) (N : Nat) (kd : (Nat → Nat) × (Nat → Nat)) (G : va_G) (ct : Nat → ClassId) (a : Nat → Nat) (g : St_) (o : (Int32 × St_)) (hf : f_X6_tear N g = some o) : CtI l yX6_tear wsX6_tear ({ frames := 0, cells := 0, slots := 0, locals := 0 }) kd G ct [.ref (a 0)] (wX6 a ct g) o.1 (wX6 a ct o.2) := by
  intro sz
  refine Met.ofW (cc := cX6_tear) (maxL := 2) (ret := (some .int)) (by decide) rfl ?_
  intro p e s m args below meth c s₁ B hml hv
  obtain ⟨rfl, hsz, hP, hK, hD0, hE⟩ := hv
  have hx := B.exec
  have hb := B.bytes
  have hr := B.returns
  have hts := atoms_spec (ws := wsX6_tear) B.pre
  have hown : s.vm.findClass RX6 = some m.cls := findClass_of_methodNamed B.named
  have hlocks := B.notSynchronized
  have inX0 : ∀ w ∈ wsX00, w ∈ wsX6_tear := by decide +kernel
  have inX2 : ∀ w ∈ wsX20, w ∈ wsX6_tear := by decide +kernel
  have inX6 : ∀ w ∈ wsX60, w ∈ wsX6_tear := by decide +kernel
  have fl37 := hts (.fieldLink RX6 37 "FittingStrides" "sights" "LFittingStrides$Sights;") (by decide +kernel)
  have fl44 := hts (.fieldLink RX6 44 "FittingStrides" "book" "LFittingStrides$Book;") (by decide +kernel)
  have fl80 := hts (.fieldLink RX6 80 "FittingStrides$Sights" "count" "I") (by decide +kernel)
  have fl83 := hts (.fieldLink RX6 83 "FittingStrides$Book" "count" "I") (by decide +kernel)
  subst hsz
  have hD := hD0.self (sz := s.heap.size)
  generalize hAe : va_A (wX6 a ct g) s.heap.size = A at hD hE ⊢
  have hA : ∀ q : Nat, s.heap.size ≤ q → A q := fun q h => by rw [← hAe]; exact Or.inr h
  have hW : WW G A s.heap (wX6 a ct g) s.heap [] := ⟨hP, hD, va_S.rf⟩
  have hl := lv_entry ([.ref (a 0)]) (n := 2) (Nat.le_of_ble_eq_true rfl)
  rw [lg_entry_eq]
  generalize (lg_sl ([.ref (a 0)]) ++ List.replicate (2 - (lg_sl ([.ref (a 0)])).length) Slot.unset).toArray = ls at hl ⊢
  have hl : lv_has ls 2 [(0, .ref (a 0))] := hl
  unfold f_X6_tear at hf
  show W p l e ({ frames := 0, cells := 0, slots := 0, locals := 0 } : Room) s m (List.toArray [.ref (a 0)]) below meth c s.heap [] 0 0 (MQ below (va_Qi (fun r (_ : Unit) => r = o.1) (fun _ t => Af_ G ct (wX6 a ct o.2) A t) A) (List.toArray [.ref (a 0)]) s 0 0 A) (F0 m 0 ls [])
  refine lv_aload_n hx hb dX6_tear_0 rfl (lv_at hl 0 rfl) ?_
  refine x_get (ci := 6) (v := .ref (a 70)) (C := RX6) (T := TX6) (N := 7) hx hb hts inX6 hown hK hW 0 rfl rfl 5 (by decide) fl44 (fun _ h9 => h9) rfl dX6_tear_1 ?_
  refine x_get (ci := 0) (v := .int (g 71 0)) (C := RX0) (T := TX0) (N := 4) hx hb hts inX0 hown hK hW 49 rfl rfl 0 (by decide) fl83 (fun _ h9 => h9) rfl dX6_tear_4 ?_
  refine lv_aload_n hx hb dX6_tear_7 rfl (lv_at hl 0 rfl) ?_
  refine x_get (ci := 6) (v := .ref (a 65)) (C := RX6) (T := TX6) (N := 7) hx hb hts inX6 hown hK hW 0 rfl rfl 4 (by decide) fl37 (fun _ h9 => h9) rfl dX6_tear_8 ?_
  refine x_get (ci := 2) (v := .int (g 66 0)) (C := RX2) (T := TX2) (N := 4) hx hb hts inX2 hown hK hW 45 rfl rfl 0 (by decide) fl80 (fun _ h9 => h9) rfl dX6_tear_11 ?_
  refine lv_iadd hx hb dX6_tear_14 ?_
  refine lv_istore_n (lv' := [(1, .int ((g 71 0) + (g 66 0))), (0, .ref (a 0))]) hx hb dX6_tear_15 rfl hl (by decide) rfl (fun ls hl => ?_)
  refine lv_aload_n hx hb dX6_tear_16 rfl (lv_at hl 1 rfl) ?_
  refine x_get (ci := 6) (v := .ref (a 70)) (C := RX6) (T := TX6) (N := 7) hx hb hts inX6 hown hK hW 0 rfl rfl 5 (by decide) fl44 (fun _ h9 => h9) rfl dX6_tear_17 ?_
  refine lv_iconst (v := (0 : Int32)) hx hb dX6_tear_20 (by decide) ?_
  refine x_put (w' := (wX6 a ct (up1 g 71 0 (0 : Int32)))) (fs := fsX0 (sh_ 70 a) (sh_ 70 g)) (ci := 0) (v := .int (0 : Int32)) (ty := .int) (C := RX0) (T := TX0) (N := 4) hx hb hts inX0 tyX0 tyX0_ok nmX0 hown hK hW 49 rfl rfl 0 (by decide) fl83 (fun _ h9 => h9) rfl (by decide +kernel) rfl rfl (Nat.le_of_ble_eq_true rfl) (wp_X6_71 a ct g (0 : Int32)) dX6_tear_21 (fun H locs hW => ?_)
  refine lv_aload_n hx hb dX6_tear_24 rfl (lv_at hl 1 rfl) ?_
  refine x_get (ci := 6) (v := .ref (a 65)) (C := RX6) (T := TX6) (N := 7) hx hb hts inX6 hown hK hW 0 rfl rfl 4 (by decide) fl37 (fun _ h9 => h9) rfl dX6_tear_25 ?_
  refine lv_iconst (v := (0 : Int32)) hx hb dX6_tear_28 (by decide) ?_
  refine x_put (w' := (wX6 a ct (up1 (up1 g 71 0 (0 : Int32)) 66 0 (0 : Int32)))) (fs := fsX2 (sh_ 65 a) (sh_ 65 (up1 g 71 0 (0 : Int32)))) (ci := 2) (v := .int (0 : Int32)) (ty := .int) (C := RX2) (T := TX2) (N := 4) hx hb hts inX2 tyX2 tyX2_ok nmX2 hown hK hW 45 rfl rfl 0 (by decide) fl80 (fun _ h9 => h9) rfl (by decide +kernel) rfl rfl (Nat.le_of_ble_eq_true rfl) (wp_X6_66 a ct (up1 g 71 0 (0 : Int32)) (0 : Int32)) dX6_tear_29 (fun H locs hW => ?_)
  refine lv_iload_n hx hb dX6_tear_32 rfl (lv_at hl 0 rfl) ?_
  have ho := Option.some.inj hf
  subst ho
  exact x_reti (sz := 0) (w0 := []) (A1 := A) hx hb hr hlocks hK hW rfl rfl dX6_tear_33
set_option maxHeartbeats 4000000 in
set_option maxRecDepth 100000 in
theorem c_X6_judge (l : Launch) (N : Nat) (kd : (Nat → Nat) × (Nat → Nat)) (G : va_G) (ct : Nat → ClassId) (a : Nat → Nat) (g : St_) (o : (Int32 × St_)) (hf : f_X6_judge N g = some o) : CtI l yX6_judge wsX6_judge ({ frames := 5, cells := 0, slots := 0, locals := 118 }) kd G ct [.ref (a 0)] (wX6 a ct g) o.1 (wX6 a ct o.2) := by
  intro sz
  refine Met.ofW (cc := cX6_judge) (maxL := 1) (ret := (some .int)) (by decide) rfl ?_
  intro p e s m args below meth c s₁ B hml hv
  obtain ⟨rfl, hsz, hP, hK, hD0, hE⟩ := hv
  have hx := B.exec
  have hb := B.bytes
  have hr := B.returns
  have hts := atoms_spec (ws := wsX6_judge) B.pre
  have hown : s.vm.findClass RX6 = some m.cls := findClass_of_methodNamed B.named
  have hlocks := B.notSynchronized
  have inX6 : ∀ w ∈ wsX60, w ∈ wsX6_judge := by decide +kernel
  have fl19 := hts (.fieldLink RX6 19 "FittingStrides" "now" "LFittingStrides$Town;") (by decide +kernel)
  have fl44 := hts (.fieldLink RX6 44 "FittingStrides" "book" "LFittingStrides$Book;") (by decide +kernel)
  subst hsz
  have hD := hD0.self (sz := s.heap.size)
  generalize hAe : va_A (wX6 a ct g) s.heap.size = A at hD hE ⊢
  have hA : ∀ q : Nat, s.heap.size ≤ q → A q := fun q h => by rw [← hAe]; exact Or.inr h
  have hW : WW G A s.heap (wX6 a ct g) s.heap [] := ⟨hP, hD, va_S.rf⟩
  have hl := lv_entry ([.ref (a 0)]) (n := 1) (Nat.le_of_ble_eq_true rfl)
  rw [lg_entry_eq]
  generalize (lg_sl ([.ref (a 0)]) ++ List.replicate (1 - (lg_sl ([.ref (a 0)])).length) Slot.unset).toArray = ls at hl ⊢
  have hl : lv_has ls 1 [(0, .ref (a 0))] := hl
  unfold f_X6_judge at hf
  show W p l e ({ frames := 5, cells := 0, slots := 0, locals := 118 } : Room) s m (List.toArray [.ref (a 0)]) below meth c s.heap [] 0 0 (MQ below (va_Qi (fun r (_ : Unit) => r = o.1) (fun _ t => Af_ G ct (wX6 a ct o.2) A t) A) (List.toArray [.ref (a 0)]) s 0 0 A) (F0 m 0 ls [])
  refine lv_aload_n hx hb dX6_judge_0 rfl (lv_at hl 0 rfl) ?_
  refine x_get (ci := 6) (v := .ref (a 70)) (C := RX6) (T := TX6) (N := 7) hx hb hts inX6 hown hK hW 0 rfl rfl 5 (by decide) fl44 (fun _ h9 => h9) rfl dX6_judge_1 ?_
  refine lv_aload_n hx hb dX6_judge_4 rfl (lv_at hl 0 rfl) ?_
  refine x_get (ci := 6) (v := .ref (a 26)) (C := RX6) (T := TX6) (N := 7) hx hb hts inX6 hown hK hW 0 rfl rfl 1 (by decide) fl19 (fun _ h9 => h9) rfl dX6_judge_5 ?_
  replace hf := bs_ hf; obtain ⟨r1, hcl, hf⟩ := hf
  refine x_callP_i (w' := (wX6 a ct (pu_ 70 5 (pu_ 26 19 g (sh_ 5 r1.2)) r1.2))) (As := [.ref (a 26)]) (rest := []) (ci := 0) ⟨hx, hb, hml, hown, hts⟩ (c_X0_firstWrong l N kd G ct (ca_ 5 (sh_ 70 a) (sh_ 26 a)) (ca_ 5 (sh_ 70 g) (sh_ 26 g)) _ hcl) (cwV 1 hts gX6_judge_X0_firstWrong rfl rfl rfl (by decide +kernel) ⟨Nat.le_of_ble_eq_true rfl, Nat.le_of_ble_eq_true rfl⟩) hK hE hA hW [49, 50, 51, 52, 17, 18, 19, 20, 21, 22, 23, 24, 25, 26, 27, 28, 29, 30, 0, 1, 2, 3, 4, 5, 6, 7, 8, 9, 10, 11, 12, 13, 14, 15, 16, 31, 32, 33, 34, 35, 36, 37, 38, 39, 40, 41, 42, 43, 44, 45, 46, 47, 48] [18, 19, 20, 21, 22, 23, 24, 25, 26, 27, 28, 29, 30, 31, 32, 33, 34, 4, 5, 6, 7, 8, 9, 10, 11, 12, 13, 14, 15, 16, 17, 35, 36, 37, 38, 39, 40, 41, 42, 43, 44, 45, 46, 47, 48, 49, 50, 51, 52, 0, 1, 2, 3] (wr := ([0, 1, 2, 3, 4, 5, 6, 7, 8, 9, 10, 11, 12, 13, 14, 15, 16, 31, 32, 33, 34, 35, 36, 37, 38, 39, 40, 41, 42, 43, 44, 45, 46, 47, 48] : List Nat).filterMap (fun i => (wX6 a ct g)[i]?)) rfl (wk_X6_70_26 a ct g) rfl (wv_X6_70_26 a ct g r1.2) 0 rfl rfl rfl rfl hl.1 rfl (lv_room (Nat.le_of_ble_eq_true rfl)) dX6_judge_8 (fun H locs hW => ?_)
  have ho := Option.some.inj hf
  subst ho
  exact x_reti (sz := 0) (w0 := []) (A1 := A) hx hb hr hlocks hK hW rfl rfl dX6_judge_11
set_option maxHeartbeats 4000000 in
set_option maxRecDepth 100000 in
theorem c_X6_seed (l : Launch) (N : Nat) (kd : (Nat → Nat) × (Nat → Nat)) (G : va_G) (ct : Nat → ClassId) (a : Nat → Nat) (g : St_) (x1 : Int32) (o : (Int32 × St_)) (hf : f_X6_seed N g x1 = some o) : CtI l yX6_seed wsX6_seed ({ frames := 0, cells := 0, slots := 0, locals := 0 }) kd G ct [.ref (a 0), .int x1] (wX6 a ct g) o.1 (wX6 a ct o.2) := by
  intro sz
  refine Met.ofW (cc := cX6_seed) (maxL := 3) (ret := (some .int)) (by decide) rfl ?_
  intro p e s m args below meth c s₁ B hml hv
  obtain ⟨rfl, hsz, hP, hK, hD0, hE⟩ := hv
  have hx := B.exec
  have hb := B.bytes
  have hr := B.returns
  have hts := atoms_spec (ws := wsX6_seed) B.pre
  have hown : s.vm.findClass RX6 = some m.cls := findClass_of_methodNamed B.named
  have hlocks := B.notSynchronized
  have inX3 : ∀ w ∈ wsX30, w ∈ wsX6_seed := by decide +kernel
  have inX5 : ∀ w ∈ wsX50, w ∈ wsX6_seed := by decide +kernel
  have inX6 : ∀ w ∈ wsX60, w ∈ wsX6_seed := by decide +kernel
  have fl19 := hts (.fieldLink RX6 19 "FittingStrides" "now" "LFittingStrides$Town;") (by decide +kernel)
  have fl52 := hts (.constant RX6 52 (-1000000002)) (by decide +kernel)
  have fl96 := hts (.fieldLink RX6 96 "FittingStrides$Town" "state" "LFittingStrides$State;") (by decide +kernel)
  have fl233 := hts (.fieldLink RX6 233 "FittingStrides$State" "seed" "I") (by decide +kernel)
  subst hsz
  have hD := hD0.self (sz := s.heap.size)
  generalize hAe : va_A (wX6 a ct g) s.heap.size = A at hD hE ⊢
  have hA : ∀ q : Nat, s.heap.size ≤ q → A q := fun q h => by rw [← hAe]; exact Or.inr h
  have hW : WW G A s.heap (wX6 a ct g) s.heap [] := ⟨hP, hD, va_S.rf⟩
  have hl := lv_entry ([.ref (a 0), .int x1]) (n := 3) (Nat.le_of_ble_eq_true rfl)
  rw [lg_entry_eq]
  generalize (lg_sl ([.ref (a 0), .int x1]) ++ List.replicate (3 - (lg_sl ([.ref (a 0), .int x1])).length) Slot.unset).toArray = ls at hl ⊢
  have hl : lv_has ls 3 [(0, .ref (a 0)), (1, .int x1)] := hl
  unfold f_X6_seed at hf
  show W p l e ({ frames := 0, cells := 0, slots := 0, locals := 0 } : Room) s m (List.toArray [.ref (a 0), .int x1]) below meth c s.heap [] 0 0 (MQ below (va_Qi (fun r (_ : Unit) => r = o.1) (fun _ t => Af_ G ct (wX6 a ct o.2) A t) A) (List.toArray [.ref (a 0), .int x1]) s 0 0 A) (F0 m 0 ls [])
  refine lv_iload_n hx hb dX6_seed_0 rfl (lv_at hl 1 rfl) ?_
  refine lv_if_ge (tgt := 7) hx hb dX6_seed_1 (by decide) (fun hc => ?_) (fun hc => ?_)
  · replace hf := ifp hc hf
    refine lv_aload_n hx hb dX6_seed_7 rfl (lv_at hl 0 rfl) ?_
    refine x_get (ci := 6) (v := .ref (a 26)) (C := RX6) (T := TX6) (N := 7) hx hb hts inX6 hown hK hW 0 rfl rfl 1 (by decide) fl19 (fun _ h9 => h9) rfl dX6_seed_8 ?_
    refine x_get (ci := 5) (v := .ref (a 34)) (C := RX5) (T := TX5) (N := 4) hx hb hts inX5 hown hK hW 17 rfl rfl 1 (by decide) fl96 (fun _ h9 => h9) rfl dX6_seed_11 ?_
    refine x_get (ci := 3) (v := .int (g 42 0)) (C := RX3) (T := TX3) (N := 8) hx hb hts inX3 hown hK hW 23 rfl rfl 7 (by decide) fl233 (fun _ h9 => h9) rfl dX6_seed_14 ?_
    refine lv_istore_n (lv' := [(2, .int (g 42 0)), (0, .ref (a 0)), (1, .int x1)]) hx hb dX6_seed_17 rfl hl (by decide) rfl (fun ls hl => ?_)
    refine lv_aload_n hx hb dX6_seed_18 rfl (lv_at hl 1 rfl) ?_
    refine x_get (ci := 6) (v := .ref (a 26)) (C := RX6) (T := TX6) (N := 7) hx hb hts inX6 hown hK hW 0 rfl rfl 1 (by decide) fl19 (fun _ h9 => h9) rfl dX6_seed_19 ?_
    refine x_get (ci := 5) (v := .ref (a 34)) (C := RX5) (T := TX5) (N := 4) hx hb hts inX5 hown hK hW 17 rfl rfl 1 (by decide) fl96 (fun _ h9 => h9) rfl dX6_seed_22 ?_
    refine lv_iload_n hx hb dX6_seed_25 rfl (lv_at hl 2 rfl) ?_
    refine x_put (w' := (wX6 a ct (up1 g 42 0 x1))) (fs := fsX3 (sh_ 34 a) (sh_ 34 g)) (ci := 3) (v := .int x1) (ty := .int) (C := RX3) (T := TX3) (N := 8) hx hb hts inX3 tyX3 tyX3_ok nmX3 hown hK hW 23 rfl rfl 7 (by decide) fl233 (fun _ h9 => h9) rfl (by decide +kernel) rfl rfl (Nat.le_of_ble_eq_true rfl) (wp_X6_42 a ct g x1) dX6_seed_26 (fun H locs hW => ?_)
    refine lv_iload_n hx hb dX6_seed_29 rfl (lv_at hl 0 rfl) ?_
    have ho := Option.some.inj hf
    subst ho
    exact x_reti (sz := 0) (w0 := []) (A1 := A) hx hb hr hlocks hK hW rfl rfl dX6_seed_30
  · replace hf := ifn hc hf
    refine lv_ldc (v := (-1000000002 : Int32)) hx hb hown fl52 dX6_seed_4 ?_
    have ho := Option.some.inj hf
    subst ho
    exact x_reti (sz := 0) (w0 := []) (A1 := A) hx hb hr hlocks hK hW rfl rfl dX6_seed_6
set_option maxHeartbeats 4000000 in
set_option maxRecDepth 100000 in
theorem c_X6_isImage (l : Launch) (N : Nat) (kd : (Nat → Nat) × (Nat → Nat)) (G : va_G) (ct : Nat → ClassId) (x0 : Int32) (o : Int32) (hf : f_X6_isImage N x0 = some o) : CtI l yX6_isImage wsX6_isImage ({ frames := 0, cells := 0, slots := 0, locals := 0 }) kd G ct [.int x0] ([] : va_W) o ([] : va_W) := by
  intro sz
  refine Met.ofW (cc := cX6_isImage) (maxL := 1) (ret := (some .boolean)) (by decide) rfl ?_
  intro p e s m args below meth c s₁ B hml hv
  obtain ⟨rfl, hsz, hP, hK, hD0, hE⟩ := hv
  have hx := B.exec
  have hb := B.bytes
  have hr := B.returns
  have hts := atoms_spec (ws := wsX6_isImage) B.pre
  have hown : s.vm.findClass RX6 = some m.cls := findClass_of_methodNamed B.named
  have hlocks := B.notSynchronized
  subst hsz
  have hD := hD0.self (sz := s.heap.size)
  generalize hAe : va_A ([] : va_W) s.heap.size = A at hD hE ⊢
  have hA : ∀ q : Nat, s.heap.size ≤ q → A q := fun q h => by rw [← hAe]; exact Or.inr h
  have hW : WW G A s.heap ([] : va_W) s.heap [] := ⟨hP, hD, va_S.rf⟩
  have hl := lv_entry ([.int x0]) (n := 1) (Nat.le_of_ble_eq_true rfl)
  rw [lg_entry_eq]
  generalize (lg_sl ([.int x0]) ++ List.replicate (1 - (lg_sl ([.int x0])).length) Slot.unset).toArray = ls at hl ⊢
  have hl : lv_has ls 1 [(0, .int x0)] := hl
  unfold f_X6_isImage at hf
  show W p l e ({ frames := 0, cells := 0, slots := 0, locals := 0 } : Room) s m (List.toArray [.int x0]) below meth c s.heap [] 0 0 (MQ below (va_Qi (fun r (_ : Unit) => r = o) (fun _ t => Af_ G ct ([] : va_W) A t) A) (List.toArray [.int x0]) s 0 0 A) (F0 m 0 ls [])
  refine lv_iload_n hx hb dX6_isImage_0 rfl (lv_at hl 0 rfl) ?_
  refine lv_if_lt (tgt := 13) hx hb dX6_isImage_1 (by decide) (fun hc => ?_) (fun hc => ?_)
  · replace hf := ifp hc hf
    refine lv_iconst (v := (0 : Int32)) hx hb dX6_isImage_13 (by decide) ?_
    have ho := Option.some.inj hf
    subst ho
    exact x_retz hx hb hr rfl hlocks hK hW rfl rfl dX6_isImage_14
  · replace hf := ifn hc hf
    refine lv_iload_n hx hb dX6_isImage_4 rfl (lv_at hl 0 rfl) ?_
    refine lv_iconst (v := (2 : Int32)) hx hb dX6_isImage_5 (by decide) ?_
    refine lv_icmp_ge (tgt := 13) hx hb dX6_isImage_6 (by decide) (fun hc => ?_) (fun hc => ?_)
    · replace hf := ifp hc hf
      refine lv_iconst (v := (0 : Int32)) hx hb dX6_isImage_13 (by decide) ?_
      have ho := Option.some.inj hf
      subst ho
      exact x_retz hx hb hr rfl hlocks hK hW rfl rfl dX6_isImage_14
    · replace hf := ifn hc hf
      refine lv_iconst (v := (1 : Int32)) hx hb dX6_isImage_9 (by decide) ?_
      refine lv_goto (tgt := 14) hx hb dX6_isImage_10 (by decide) ?_
      have ho := Option.some.inj hf
      subst ho
      exact x_retz hx hb hr rfl hlocks hK hW rfl rfl dX6_isImage_14
set_option maxHeartbeats 4000000 in
set_option maxRecDepth 100000 in
theorem c_X6_keep (l : Launch) (N : Nat) (kd : (Nat → Nat) × (Nat → Nat)) (G : va_G) (ct : Nat → ClassId) (a : Nat → Nat) (g : St_) (x1 : Int32) (o : (Int32 × St_)) (hf : f_X6_keep N g x1 = some o) : CtI l yX6_keep wsX6_keep ({ frames := 2, cells := 0, slots := 0, locals := 44 }) kd G ct [.ref (a 0), .int x1] (wX6 a ct g) o.1 (wX6 a ct o.2) := by
  intro sz
  refine Met.ofW (cc := cX6_keep) (maxL := 2) (ret := (some .int)) (by decide) rfl ?_
  intro p e s m args below meth c s₁ B hml hv
  obtain ⟨rfl, hsz, hP, hK, hD0, hE⟩ := hv
  have hx := B.exec
  have hb := B.bytes
  have hr := B.returns
  have hts := atoms_spec (ws := wsX6_keep) B.pre
  have hown : s.vm.findClass RX6 = some m.cls := findClass_of_methodNamed B.named
  have hlocks := B.notSynchronized
  have inX5 : ∀ w ∈ wsX50, w ∈ wsX6_keep := by decide +kernel
  have inX6 : ∀ w ∈ wsX60, w ∈ wsX6_keep := by decide +kernel
  have fl19 := hts (.fieldLink RX6 19 "FittingStrides" "now" "LFittingStrides$Town;") (by decide +kernel)
  have fl25 := hts (.fieldLink RX6 25 "FittingStrides" "images" "[LFittingStrides$State;") (by decide +kernel)
  have fl30 := hts (.fieldLink RX6 30 "FittingStrides" "kept" "[Z") (by decide +kernel)
  have fl96 := hts (.fieldLink RX6 96 "FittingStrides$Town" "state" "LFittingStrides$State;") (by decide +kernel)
  have fl114 := hts (.constant RX6 114 (-1000000001)) (by decide +kernel)
  subst hsz
  have hD := hD0.self (sz := s.heap.size)
  generalize hAe : va_A (wX6 a ct g) s.heap.size = A at hD hE ⊢
  have hA : ∀ q : Nat, s.heap.size ≤ q → A q := fun q h => by rw [← hAe]; exact Or.inr h
  have hW : WW G A s.heap (wX6 a ct g) s.heap [] := ⟨hP, hD, va_S.rf⟩
  have hl := lv_entry ([.ref (a 0), .int x1]) (n := 2) (Nat.le_of_ble_eq_true rfl)
  rw [lg_entry_eq]
  generalize (lg_sl ([.ref (a 0), .int x1]) ++ List.replicate (2 - (lg_sl ([.ref (a 0), .int x1])).length) Slot.unset).toArray = ls at hl ⊢
  have hl : lv_has ls 2 [(0, .ref (a 0)), (1, .int x1)] := hl
  unfold f_X6_keep at hf
  show W p l e ({ frames := 2, cells := 0, slots := 0, locals := 44 } : Room) s m (List.toArray [.ref (a 0), .int x1]) below meth c s.heap [] 0 0 (MQ below (va_Qi (fun r (_ : Unit) => r = o.1) (fun _ t => Af_ G ct (wX6 a ct o.2) A t) A) (List.toArray [.ref (a 0), .int x1]) s 0 0 A) (F0 m 0 ls [])
  refine lv_iload_n hx hb dX6_keep_0 rfl (lv_at hl 1 rfl) ?_
  replace hf := bs_ hf; obtain ⟨r1, hcl, hf⟩ := hf
  refine x_callS_i (As := [.int x1]) (rest := []) ⟨hx, hb, hml, hown, hts⟩ (c_X6_isImage l N kd G ct x1 _ hcl) (va_cwS 1 hts gX6_keep_X6_isImage rfl rfl rfl (by decide +kernel) ⟨Nat.le_of_ble_eq_true rfl, Nat.le_of_ble_eq_true rfl⟩) hK hE hA hW rfl hl.1 rfl (lv_room (Nat.le_of_ble_eq_true rfl)) dX6_keep_1 (fun H locs hW => ?_)
  refine lv_if_ne (tgt := 10) hx hb dX6_keep_4 (by decide) (fun hc => ?_) (fun hc => ?_)
  · replace hf := ifn hc hf
    refine lv_aload_n hx hb dX6_keep_10 rfl (lv_at hl 0 rfl) ?_
    refine x_get (ci := 6) (v := .ref (a 45)) (C := RX6) (T := TX6) (N := 7) hx hb hts inX6 hown hK hW 0 rfl rfl 2 (by decide) fl25 (fun _ h9 => h9) rfl dX6_keep_11 ?_
    refine lv_iload_n hx hb dX6_keep_14 rfl (lv_at hl 1 rfl) ?_
    by_cases q0 : x1 = (0 : Int32)
    · have hf := ifp q0 hf
      refine va_aldq (n := 2) (f := imF (a 46) (a 55)) hx hb hK hW.1 31 3 rfl rfl (by rw [q0]; exact okI_in (by decide)) dX6_keep_15 ?_
      have e9 : va_rf (imF (a 46) (a 55) x1.toNatClampNeg) = .ref (a 46) := by rw [q0]; rfl
      rw [e9]
      refine W.eq (g2 := F0 m 16 ls (.ref (a 46) :: [])) rfl ?_
      refine lv_aload_n hx hb dX6_keep_16 rfl (lv_at hl 0 rfl) ?_
      refine x_get (ci := 6) (v := .ref (a 26)) (C := RX6) (T := TX6) (N := 7) hx hb hts inX6 hown hK hW 0 rfl rfl 1 (by decide) fl19 (fun _ h9 => h9) rfl dX6_keep_17 ?_
      refine x_get (ci := 5) (v := .ref (a 34)) (C := RX5) (T := TX5) (N := 4) hx hb hts inX5 hown hK hW 17 rfl rfl 1 (by decide) fl96 (fun _ h9 => h9) rfl dX6_keep_20 ?_
      replace hf := bs_ hf; obtain ⟨r2, hcl, hf⟩ := hf
      refine x_callP_v (w' := (wX6 a ct (pu_ 46 9 (pu_ 34 9 g (sh_ 9 r2)) r2))) (As := [.ref (a 34)]) (rest := []) (ci := 3) ⟨hx, hb, hml, hown, hts⟩ (c_X3_become l N kd G ct (ca_ 9 (sh_ 46 a) (sh_ 34 a)) (ca_ 9 (sh_ 46 g) (sh_ 34 g)) _ hcl) (cwV 1 hts gX6_keep_X3_become rfl rfl rfl (by decide +kernel) ⟨Nat.le_of_ble_eq_true rfl, Nat.le_of_ble_eq_true rfl⟩) hK hE hA hW [32, 33, 34, 35, 36, 37, 23, 24, 25, 26, 27, 28, 0, 1, 2, 3, 4, 5, 6, 7, 8, 9, 10, 11, 12, 13, 14, 15, 16, 17, 18, 19, 20, 21, 22, 29, 30, 31, 38, 39, 40, 41, 42, 43, 44, 45, 46, 47, 48, 49, 50, 51, 52] [12, 13, 14, 15, 16, 17, 18, 19, 20, 21, 22, 23, 24, 25, 26, 27, 28, 29, 30, 31, 32, 33, 34, 6, 7, 8, 9, 10, 11, 35, 36, 37, 0, 1, 2, 3, 4, 5, 38, 39, 40, 41, 42, 43, 44, 45, 46, 47, 48, 49, 50, 51, 52] (wr := ([0, 1, 2, 3, 4, 5, 6, 7, 8, 9, 10, 11, 12, 13, 14, 15, 16, 17, 18, 19, 20, 21, 22, 29, 30, 31, 38, 39, 40, 41, 42, 43, 44, 45, 46, 47, 48, 49, 50, 51, 52] : List Nat).filterMap (fun i => (wX6 a ct g)[i]?)) rfl (wk_X6_46_34 a ct g) rfl (wv_X6_46_34 a ct g r2) 0 rfl rfl rfl rfl hl.1 rfl (lv_room (Nat.le_of_ble_eq_true rfl)) dX6_keep_23 (fun H locs hW => ?_)
      refine lv_aload_n hx hb dX6_keep_26 rfl (lv_at hl 0 rfl) ?_
      refine x_get (ci := 6) (v := .ref (a 64)) (C := RX6) (T := TX6) (N := 7) hx hb hts inX6 hown hK hW 0 rfl rfl 3 (by decide) fl30 (fun _ h9 => h9) rfl dX6_keep_27 ?_
      refine lv_iload_n hx hb dX6_keep_30 rfl (lv_at hl 1 rfl) ?_
      refine lv_iconst (v := (1 : Int32)) hx hb dX6_keep_31 (by decide) ?_
      replace hf := gd_s hf; obtain ⟨hin, hf⟩ := hf
      refine x_zast (w' := (wX6 a ct (up1 (pu_ 46 9 (pu_ 34 9 g (sh_ 9 r2)) r2) 64 x1.toNatClampNeg (vp_nar .boolean (1 : Int32))))) (n := 2) (f := (pu_ 46 9 (pu_ 34 9 g (sh_ 9 r2)) r2) 64) hx hb hK hW 44 rfl (okI_in hin) (ws_X6_64 a ct (pu_ 46 9 (pu_ 34 9 g (sh_ 9 r2)) r2) _ _) dX6_keep_32 (fun H locs hW => ?_)
      refine lv_iconst (v := (1 : Int32)) hx hb dX6_keep_33 (by decide) ?_
      have ho := Option.some.inj hf
      subst ho
      exact x_reti (sz := 0) (w0 := []) (A1 := A) hx hb hr hlocks hK hW rfl rfl dX6_keep_34
    · have hf := ifn q0 hf
      by_cases q1 : x1 = (1 : Int32)
      · have hf := ifp q1 hf
        refine va_aldq (n := 2) (f := imF (a 46) (a 55)) hx hb hK hW.1 31 3 rfl rfl (by rw [q1]; exact okI_in (by decide)) dX6_keep_15 ?_
        have e9 : va_rf (imF (a 46) (a 55) x1.toNatClampNeg) = .ref (a 55) := by rw [q1]; rfl
        rw [e9]
        refine W.eq (g2 := F0 m 16 ls (.ref (a 55) :: [])) rfl ?_
        refine lv_aload_n hx hb dX6_keep_16 rfl (lv_at hl 0 rfl) ?_
        refine x_get (ci := 6) (v := .ref (a 26)) (C := RX6) (T := TX6) (N := 7) hx hb hts inX6 hown hK hW 0 rfl rfl 1 (by decide) fl19 (fun _ h9 => h9) rfl dX6_keep_17 ?_
        refine x_get (ci := 5) (v := .ref (a 34)) (C := RX5) (T := TX5) (N := 4) hx hb hts inX5 hown hK hW 17 rfl rfl 1 (by decide) fl96 (fun _ h9 => h9) rfl dX6_keep_20 ?_
        replace hf := bs_ hf; obtain ⟨r3, hcl, hf⟩ := hf
        refine x_callP_v (w' := (wX6 a ct (pu_ 55 9 (pu_ 34 9 g (sh_ 9 r3)) r3))) (As := [.ref (a 34)]) (rest := []) (ci := 3) ⟨hx, hb, hml, hown, hts⟩ (c_X3_become l N kd G ct (ca_ 9 (sh_ 55 a) (sh_ 34 a)) (ca_ 9 (sh_ 55 g) (sh_ 34 g)) _ hcl) (cwV 1 hts gX6_keep_X3_become rfl rfl rfl (by decide +kernel) ⟨Nat.le_of_ble_eq_true rfl, Nat.le_of_ble_eq_true rfl⟩) hK hE hA hW [38, 39, 40, 41, 42, 43, 23, 24, 25, 26, 27, 28, 0, 1, 2, 3, 4, 5, 6, 7, 8, 9, 10, 11, 12, 13, 14, 15, 16, 17, 18, 19, 20, 21, 22, 29, 30, 31, 32, 33, 34, 35, 36, 37, 44, 45, 46, 47, 48, 49, 50, 51, 52] [12, 13, 14, 15, 16, 17, 18, 19, 20, 21, 22, 23, 24, 25, 26, 27, 28, 29, 30, 31, 32, 33, 34, 6, 7, 8, 9, 10, 11, 35, 36, 37, 38, 39, 40, 41, 42, 43, 0, 1, 2, 3, 4, 5, 44, 45, 46, 47, 48, 49, 50, 51, 52] (wr := ([0, 1, 2, 3, 4, 5, 6, 7, 8, 9, 10, 11, 12, 13, 14, 15, 16, 17, 18, 19, 20, 21, 22, 29, 30, 31, 32, 33, 34, 35, 36, 37, 44, 45, 46, 47, 48, 49, 50, 51, 52] : List Nat).filterMap (fun i => (wX6 a ct g)[i]?)) rfl (wk_X6_55_34 a ct g) rfl (wv_X6_55_34 a ct g r3) 0 rfl rfl rfl rfl hl.1 rfl (lv_room (Nat.le_of_ble_eq_true rfl)) dX6_keep_23 (fun H locs hW => ?_)
        refine lv_aload_n hx hb dX6_keep_26 rfl (lv_at hl 0 rfl) ?_
        refine x_get (ci := 6) (v := .ref (a 64)) (C := RX6) (T := TX6) (N := 7) hx hb hts inX6 hown hK hW 0 rfl rfl 3 (by decide) fl30 (fun _ h9 => h9) rfl dX6_keep_27 ?_
        refine lv_iload_n hx hb dX6_keep_30 rfl (lv_at hl 1 rfl) ?_
        refine lv_iconst (v := (1 : Int32)) hx hb dX6_keep_31 (by decide) ?_
        replace hf := gd_s hf; obtain ⟨hin, hf⟩ := hf
        refine x_zast (w' := (wX6 a ct (up1 (pu_ 55 9 (pu_ 34 9 g (sh_ 9 r3)) r3) 64 x1.toNatClampNeg (vp_nar .boolean (1 : Int32))))) (n := 2) (f := (pu_ 55 9 (pu_ 34 9 g (sh_ 9 r3)) r3) 64) hx hb hK hW 44 rfl (okI_in hin) (ws_X6_64 a ct (pu_ 55 9 (pu_ 34 9 g (sh_ 9 r3)) r3) _ _) dX6_keep_32 (fun H locs hW => ?_)
        refine lv_iconst (v := (1 : Int32)) hx hb dX6_keep_33 (by decide) ?_
        have ho := Option.some.inj hf
        subst ho
        exact x_reti (sz := 0) (w0 := []) (A1 := A) hx hb hr hlocks hK hW rfl rfl dX6_keep_34
      · have hf := ifn q1 hf
        cases hf
  · replace hf := ifp hc hf
    refine lv_ldc (v := (-1000000001 : Int32)) hx hb hown fl114 dX6_keep_7 ?_
    have ho := Option.some.inj hf
    subst ho
    exact x_reti (sz := 0) (w0 := []) (A1 := A) hx hb hr hlocks hK hW rfl rfl dX6_keep_9
set_option maxHeartbeats 4000000 in
set_option maxRecDepth 100000 in
theorem c_X6_goBack (l : Launch) (N : Nat) (kd : (Nat → Nat) × (Nat → Nat)) (G : va_G) (ct : Nat → ClassId) (a : Nat → Nat) (g : St_) (x1 : Int32) (o : (Int32 × St_)) (hf : f_X6_goBack N g x1 = some o) : CtI l yX6_goBack wsX6_goBack ({ frames := 2, cells := 0, slots := 0, locals := 44 }) kd G ct [.ref (a 0), .int x1] (wX6 a ct g) o.1 (wX6 a ct o.2) := by
  intro sz
  refine Met.ofW (cc := cX6_goBack) (maxL := 2) (ret := (some .int)) (by decide) rfl ?_
  intro p e s m args below meth c s₁ B hml hv
  obtain ⟨rfl, hsz, hP, hK, hD0, hE⟩ := hv
  have hx := B.exec
  have hb := B.bytes
  have hr := B.returns
  have hts := atoms_spec (ws := wsX6_goBack) B.pre
  have hown : s.vm.findClass RX6 = some m.cls := findClass_of_methodNamed B.named
  have hlocks := B.notSynchronized
  have inX5 : ∀ w ∈ wsX50, w ∈ wsX6_goBack := by decide +kernel
  have inX6 : ∀ w ∈ wsX60, w ∈ wsX6_goBack := by decide +kernel
  have fl19 := hts (.fieldLink RX6 19 "FittingStrides" "now" "LFittingStrides$Town;") (by decide +kernel)
  have fl25 := hts (.fieldLink RX6 25 "FittingStrides" "images" "[LFittingStrides$State;") (by decide +kernel)
  have fl30 := hts (.fieldLink RX6 30 "FittingStrides" "kept" "[Z") (by decide +kernel)
  have fl96 := hts (.fieldLink RX6 96 "FittingStrides$Town" "state" "LFittingStrides$State;") (by decide +kernel)
  have fl114 := hts (.constant RX6 114 (-1000000001)) (by decide +kernel)
  have fl168 := hts (.constant RX6 168 (-1000000003)) (by decide +kernel)
  subst hsz
  have hD := hD0.self (sz := s.heap.size)
  generalize hAe : va_A (wX6 a ct g) s.heap.size = A at hD hE ⊢
  have hA : ∀ q : Nat, s.heap.size ≤ q → A q := fun q h => by rw [← hAe]; exact Or.inr h
  have hW : WW G A s.heap (wX6 a ct g) s.heap [] := ⟨hP, hD, va_S.rf⟩
  have hl := lv_entry ([.ref (a 0), .int x1]) (n := 2) (Nat.le_of_ble_eq_true rfl)
  rw [lg_entry_eq]
  generalize (lg_sl ([.ref (a 0), .int x1]) ++ List.replicate (2 - (lg_sl ([.ref (a 0), .int x1])).length) Slot.unset).toArray = ls at hl ⊢
  have hl : lv_has ls 2 [(0, .ref (a 0)), (1, .int x1)] := hl
  unfold f_X6_goBack at hf
  show W p l e ({ frames := 2, cells := 0, slots := 0, locals := 44 } : Room) s m (List.toArray [.ref (a 0), .int x1]) below meth c s.heap [] 0 0 (MQ below (va_Qi (fun r (_ : Unit) => r = o.1) (fun _ t => Af_ G ct (wX6 a ct o.2) A t) A) (List.toArray [.ref (a 0), .int x1]) s 0 0 A) (F0 m 0 ls [])
  refine lv_iload_n hx hb dX6_goBack_0 rfl (lv_at hl 1 rfl) ?_
  replace hf := bs_ hf; obtain ⟨r1, hcl, hf⟩ := hf
  refine x_callS_i (As := [.int x1]) (rest := []) ⟨hx, hb, hml, hown, hts⟩ (c_X6_isImage l N kd G ct x1 _ hcl) (va_cwS 1 hts gX6_goBack_X6_isImage rfl rfl rfl (by decide +kernel) ⟨Nat.le_of_ble_eq_true rfl, Nat.le_of_ble_eq_true rfl⟩) hK hE hA hW rfl hl.1 rfl (lv_room (Nat.le_of_ble_eq_true rfl)) dX6_goBack_1 (fun H locs hW => ?_)
  refine lv_if_ne (tgt := 10) hx hb dX6_goBack_4 (by decide) (fun hc => ?_) (fun hc => ?_)
  · replace hf := ifn hc hf
    refine lv_aload_n hx hb dX6_goBack_10 rfl (lv_at hl 0 rfl) ?_
    refine x_get (ci := 6) (v := .ref (a 64)) (C := RX6) (T := TX6) (N := 7) hx hb hts inX6 hown hK hW 0 rfl rfl 3 (by decide) fl30 (fun _ h9 => h9) rfl dX6_goBack_11 ?_
    refine lv_iload_n hx hb dX6_goBack_14 rfl (lv_at hl 1 rfl) ?_
    replace hf := gd_s hf; obtain ⟨hin, hf⟩ := hf
    refine x_zald (n := 2) (f := g 64) hx hb hK hW 44 rfl (okI_in hin) dX6_goBack_15 ?_
    refine lv_if_ne (tgt := 22) hx hb dX6_goBack_16 (by decide) (fun hc => ?_) (fun hc => ?_)
    · replace hf := ifn hc hf
      refine lv_aload_n hx hb dX6_goBack_22 rfl (lv_at hl 0 rfl) ?_
      refine x_get (ci := 6) (v := .ref (a 26)) (C := RX6) (T := TX6) (N := 7) hx hb hts inX6 hown hK hW 0 rfl rfl 1 (by decide) fl19 (fun _ h9 => h9) rfl dX6_goBack_23 ?_
      refine x_get (ci := 5) (v := .ref (a 34)) (C := RX5) (T := TX5) (N := 4) hx hb hts inX5 hown hK hW 17 rfl rfl 1 (by decide) fl96 (fun _ h9 => h9) rfl dX6_goBack_26 ?_
      refine lv_aload_n hx hb dX6_goBack_29 rfl (lv_at hl 0 rfl) ?_
      refine x_get (ci := 6) (v := .ref (a 45)) (C := RX6) (T := TX6) (N := 7) hx hb hts inX6 hown hK hW 0 rfl rfl 2 (by decide) fl25 (fun _ h9 => h9) rfl dX6_goBack_30 ?_
      refine lv_iload_n hx hb dX6_goBack_33 rfl (lv_at hl 1 rfl) ?_
      by_cases q0 : x1 = (0 : Int32)
      · have hf := ifp q0 hf
        refine va_aldq (n := 2) (f := imF (a 46) (a 55)) hx hb hK hW.1 31 3 rfl rfl (by rw [q0]; exact okI_in (by decide)) dX6_goBack_34 ?_
        have e9 : va_rf (imF (a 46) (a 55) x1.toNatClampNeg) = .ref (a 46) := by rw [q0]; rfl
        rw [e9]
        refine W.eq (g2 := F0 m 35 ls (.ref (a 46) :: .ref (a 34) :: [])) rfl ?_
        replace hf := bs_ hf; obtain ⟨r2, hcl, hf⟩ := hf
        refine x_callP_v (w' := (wX6 a ct (pu_ 34 9 (pu_ 46 9 g (sh_ 9 r2)) r2))) (As := [.ref (a 46)]) (rest := []) (ci := 3) ⟨hx, hb, hml, hown, hts⟩ (c_X3_become l N kd G ct (ca_ 9 (sh_ 34 a) (sh_ 46 a)) (ca_ 9 (sh_ 34 g) (sh_ 46 g)) _ hcl) (cwV 1 hts gX6_goBack_X3_become rfl rfl rfl (by decide +kernel) ⟨Nat.le_of_ble_eq_true rfl, Nat.le_of_ble_eq_true rfl⟩) hK hE hA hW [23, 24, 25, 26, 27, 28, 32, 33, 34, 35, 36, 37, 0, 1, 2, 3, 4, 5, 6, 7, 8, 9, 10, 11, 12, 13, 14, 15, 16, 17, 18, 19, 20, 21, 22, 29, 30, 31, 38, 39, 40, 41, 42, 43, 44, 45, 46, 47, 48, 49, 50, 51, 52] [12, 13, 14, 15, 16, 17, 18, 19, 20, 21, 22, 23, 24, 25, 26, 27, 28, 29, 30, 31, 32, 33, 34, 0, 1, 2, 3, 4, 5, 35, 36, 37, 6, 7, 8, 9, 10, 11, 38, 39, 40, 41, 42, 43, 44, 45, 46, 47, 48, 49, 50, 51, 52] (wr := ([0, 1, 2, 3, 4, 5, 6, 7, 8, 9, 10, 11, 12, 13, 14, 15, 16, 17, 18, 19, 20, 21, 22, 29, 30, 31, 38, 39, 40, 41, 42, 43, 44, 45, 46, 47, 48, 49, 50, 51, 52] : List Nat).filterMap (fun i => (wX6 a ct g)[i]?)) rfl (wk_X6_34_46 a ct g) rfl (wv_X6_34_46 a ct g r2) 0 rfl rfl rfl rfl hl.1 rfl (lv_room (Nat.le_of_ble_eq_true rfl)) dX6_goBack_35 (fun H locs hW => ?_)
        refine lv_iconst (v := (1 : Int32)) hx hb dX6_goBack_38 (by decide) ?_
        have ho := Option.some.inj hf
        subst ho
        exact x_reti (sz := 0) (w0 := []) (A1 := A) hx hb hr hlocks hK hW rfl rfl dX6_goBack_39
      · have hf := ifn q0 hf
        by_cases q1 : x1 = (1 : Int32)
        · have hf := ifp q1 hf
          refine va_aldq (n := 2) (f := imF (a 46) (a 55)) hx hb hK hW.1 31 3 rfl rfl (by rw [q1]; exact okI_in (by decide)) dX6_goBack_34 ?_
          have e9 : va_rf (imF (a 46) (a 55) x1.toNatClampNeg) = .ref (a 55) := by rw [q1]; rfl
          rw [e9]
          refine W.eq (g2 := F0 m 35 ls (.ref (a 55) :: .ref (a 34) :: [])) rfl ?_
          replace hf := bs_ hf; obtain ⟨r3, hcl, hf⟩ := hf
          refine x_callP_v (w' := (wX6 a ct (pu_ 34 9 (pu_ 55 9 g (sh_ 9 r3)) r3))) (As := [.ref (a 55)]) (rest := []) (ci := 3) ⟨hx, hb, hml, hown, hts⟩ (c_X3_become l N kd G ct (ca_ 9 (sh_ 34 a) (sh_ 55 a)) (ca_ 9 (sh_ 34 g) (sh_ 55 g)) _ hcl) (cwV 1 hts gX6_goBack_X3_become rfl rfl rfl (by decide +kernel) ⟨Nat.le_of_ble_eq_true rfl, Nat.le_of_ble_eq_true rfl⟩) hK hE hA hW [23, 24, 25, 26, 27, 28, 38, 39, 40, 41, 42, 43, 0, 1, 2, 3, 4, 5, 6, 7, 8, 9, 10, 11, 12, 13, 14, 15, 16, 17, 18, 19, 20, 21, 22, 29, 30, 31, 32, 33, 34, 35, 36, 37, 44, 45, 46, 47, 48, 49, 50, 51, 52] [12, 13, 14, 15, 16, 17, 18, 19, 20, 21, 22, 23, 24, 25, 26, 27, 28, 29, 30, 31, 32, 33, 34, 0, 1, 2, 3, 4, 5, 35, 36, 37, 38, 39, 40, 41, 42, 43, 6, 7, 8, 9, 10, 11, 44, 45, 46, 47, 48, 49, 50, 51, 52] (wr := ([0, 1, 2, 3, 4, 5, 6, 7, 8, 9, 10, 11, 12, 13, 14, 15, 16, 17, 18, 19, 20, 21, 22, 29, 30, 31, 32, 33, 34, 35, 36, 37, 44, 45, 46, 47, 48, 49, 50, 51, 52] : List Nat).filterMap (fun i => (wX6 a ct g)[i]?)) rfl (wk_X6_34_55 a ct g) rfl (wv_X6_34_55 a ct g r3) 0 rfl rfl rfl rfl hl.1 rfl (lv_room (Nat.le_of_ble_eq_true rfl)) dX6_goBack_35 (fun H locs hW => ?_)
          refine lv_iconst (v := (1 : Int32)) hx hb dX6_goBack_38 (by decide) ?_
          have ho := Option.some.inj hf
          subst ho
          exact x_reti (sz := 0) (w0 := []) (A1 := A) hx hb hr hlocks hK hW rfl rfl dX6_goBack_39
        · have hf := ifn q1 hf
          cases hf
    · replace hf := ifp hc hf
      refine lv_ldc (v := (-1000000003 : Int32)) hx hb hown fl168 dX6_goBack_19 ?_
      have ho := Option.some.inj hf
      subst ho
      exact x_reti (sz := 0) (w0 := []) (A1 := A) hx hb hr hlocks hK hW rfl rfl dX6_goBack_21
  · replace hf := ifp hc hf
    refine lv_ldc (v := (-1000000001 : Int32)) hx hb hown fl114 dX6_goBack_7 ?_
    have ho := Option.some.inj hf
    subst ho
    exact x_reti (sz := 0) (w0 := []) (A1 := A) hx hb hr hlocks hK hW rfl rfl dX6_goBack_9
