set_option maxHeartbeats 4000000 in
set_option maxRecDepth 100000 in
theorem c_X5_strideOn (l : Launch) (N : Nat) (kd : (Nat → Nat) × (Nat → Nat)) (G : va_G) (ct : Nat → ClassId) (a : Nat → Nat) (g : St_) (x1 : Int32) (x2 : Int32) (o : Int32) (hf : f_X5_strideOn N g x1 x2 = some o) : CtI l yX5_strideOn wsX5_strideOn ({ frames := 2, cells := 0, slots := 0, locals := 49 }) kd G ct [.ref (a 0), .int x1, .int x2] (wX5 a ct g) o (wX5 a ct g) := by
  intro sz
  refine Met.ofW (cc := cX5_strideOn) (maxL := 5) (ret := (some .int)) (by decide) rfl ?_
  intro p e s m args below meth c s₁ B hml hv
  obtain ⟨rfl, hsz, hP, hK, hD0, hE⟩ := hv
  have hx := B.exec
  have hb := B.bytes
  have hr := B.returns
  have hts := atoms_spec (ws := wsX5_strideOn) B.pre
  have hown : s.vm.findClass RX5 = some m.cls := findClass_of_methodNamed B.named
  have hlocks := B.notSynchronized
  have inX3 : ∀ w ∈ wsX30, w ∈ wsX5_strideOn := by decide +kernel
  have inX5 : ∀ w ∈ wsX50, w ∈ wsX5_strideOn := by decide +kernel
  have fl21 := hts (.fieldLink RX5 21 "FittingStrides$Town" "state" "LFittingStrides$State;") (by decide +kernel)
  have fl66 := hts (.fieldLink RX5 66 "FittingStrides$State" "firsts" "[I") (by decide +kernel)
  have fl73 := hts (.fieldLink RX5 73 "FittingStrides$State" "seconds" "[I") (by decide +kernel)
  subst hsz
  have hD := hD0.self (sz := s.heap.size)
  generalize hAe : va_A (wX5 a ct g) s.heap.size = A at hD hE ⊢
  have hA : ∀ q : Nat, s.heap.size ≤ q → A q := fun q h => by rw [← hAe]; exact Or.inr h
  have hW : WW G A s.heap (wX5 a ct g) s.heap [] := ⟨hP, hD, va_S.rf⟩
  have hl := lv_entry ([.ref (a 0), .int x1, .int x2]) (n := 5) (Nat.le_of_ble_eq_true rfl)
  rw [lg_entry_eq]
  generalize (lg_sl ([.ref (a 0), .int x1, .int x2]) ++ List.replicate (5 - (lg_sl ([.ref (a 0), .int x1, .int x2])).length) Slot.unset).toArray = ls at hl ⊢
  have hl : lv_has ls 5 [(0, .ref (a 0)), (1, .int x1), (2, .int x2)] := hl
  unfold f_X5_strideOn at hf
  show W p l e ({ frames := 2, cells := 0, slots := 0, locals := 49 } : Room) s m (List.toArray [.ref (a 0), .int x1, .int x2]) below meth c s.heap [] 0 0 (MQ below (va_Qi (fun r (_ : Unit) => r = o) (fun _ t => Af_ G ct (wX5 a ct g) A t) A) (List.toArray [.ref (a 0), .int x1, .int x2]) s 0 0 A) (F0 m 0 ls [])
  refine lv_aload_n hx hb dX5_strideOn_0 rfl (lv_at hl 0 rfl) ?_
  refine x_get (ci := 5) (v := .ref (a 8)) (C := RX5) (T := TX5) (N := 4) hx hb hts inX5 hown hK hW 0 rfl rfl 1 (by decide) fl21 (fun _ h9 => h9) rfl dX5_strideOn_1 ?_
  refine x_get (ci := 3) (v := .ref (a 11)) (C := RX3) (T := TX3) (N := 8) hx hb hts inX3 hown hK hW 6 rfl rfl 2 (by decide) fl66 (fun _ h9 => h9) rfl dX5_strideOn_4 ?_
  refine lv_iload_n hx hb dX5_strideOn_7 rfl (lv_at hl 1 rfl) ?_
  replace hf := gd_s hf; obtain ⟨hin, hf⟩ := hf
  refine x_iald (n := 8) (f := g 11) hx hb hK hW 8 rfl (okI_in hin) dX5_strideOn_8 ?_
  refine lv_istore_n (lv' := [(3, .int (g 11 x1.toNatClampNeg)), (0, .ref (a 0)), (1, .int x1), (2, .int x2)]) hx hb dX5_strideOn_9 rfl hl (by decide) rfl (fun ls hl => ?_)
  refine lv_aload_n hx hb dX5_strideOn_10 rfl (lv_at hl 1 rfl) ?_
  refine x_get (ci := 5) (v := .ref (a 8)) (C := RX5) (T := TX5) (N := 4) hx hb hts inX5 hown hK hW 0 rfl rfl 1 (by decide) fl21 (fun _ h9 => h9) rfl dX5_strideOn_11 ?_
  refine x_get (ci := 3) (v := .ref (a 12)) (C := RX3) (T := TX3) (N := 8) hx hb hts inX3 hown hK hW 6 rfl rfl 3 (by decide) fl73 (fun _ h9 => h9) rfl dX5_strideOn_14 ?_
  refine lv_iload_n hx hb dX5_strideOn_17 rfl (lv_at hl 2 rfl) ?_
  replace hf := gd_s hf; obtain ⟨hin, hf⟩ := hf
  refine x_iald (n := 8) (f := g 12) hx hb hK hW 9 rfl (okI_in hin) dX5_strideOn_18 ?_
  refine lv_istore (lv' := [(4, .int (g 12 x1.toNatClampNeg)), (3, .int (g 11 x1.toNatClampNeg)), (0, .ref (a 0)), (1, .int x1), (2, .int x2)]) hx hb dX5_strideOn_19 hl (by decide) rfl (fun ls hl => ?_)
  refine lv_aload_n hx hb dX5_strideOn_21 rfl (lv_at hl 2 rfl) ?_
  refine lv_iload_n hx hb dX5_strideOn_22 rfl (lv_at hl 4 rfl) ?_
  refine lv_iload hx hb dX5_strideOn_23 (lv_at hl 0 rfl) ?_
  refine lv_iconst (v := (-1 : Int32)) hx hb dX5_strideOn_25 (by decide) ?_
  refine lv_iconst (v := (0 : Int32)) hx hb dX5_strideOn_26 (by decide) ?_
  replace hf := bs_ hf; obtain ⟨r1, hcl, hf⟩ := hf
  refine x_callW_i (w' := (wX5 a ct g)) (As := [.int x2, .int (g 12 x1.toNatClampNeg), .int (-1 : Int32), .int (0 : Int32)]) (rest := []) (ci := 5) ⟨hx, hb, hml, hown, hts⟩ (c_X5_allows l N kd G ct a g x2 (g 12 x1.toNatClampNeg) (-1 : Int32) (0 : Int32) _ hcl) (cwV 4 hts gX5_strideOn_X5_allows rfl rfl rfl (by decide +kernel) ⟨Nat.le_of_ble_eq_true rfl, Nat.le_of_ble_eq_true rfl⟩) hK hE hA hW rfl rfl 0 rfl rfl rfl rfl hl.1 rfl (lv_room (Nat.le_of_ble_eq_true rfl)) dX5_strideOn_27 (fun H locs hW => ?_)
  refine lv_if_ne (tgt := 35) hx hb dX5_strideOn_30 (by decide) (fun hc => ?_) (fun hc => ?_)
  · replace hf := ifn hc hf
    refine lv_aload_n hx hb dX5_strideOn_35 rfl (lv_at hl 2 rfl) ?_
    refine lv_iload_n hx hb dX5_strideOn_36 rfl (lv_at hl 4 rfl) ?_
    refine lv_iload_n hx hb dX5_strideOn_37 rfl (lv_at hl 1 rfl) ?_
    refine lv_iconst (v := (-1 : Int32)) hx hb dX5_strideOn_38 (by decide) ?_
    refine lv_iconst (v := (0 : Int32)) hx hb dX5_strideOn_39 (by decide) ?_
    replace hf := bs_ hf; obtain ⟨r2, hcl, hf⟩ := hf
    refine x_callW_i (w' := (wX5 a ct g)) (As := [.int x2, .int (g 11 x1.toNatClampNeg), .int (-1 : Int32), .int (0 : Int32)]) (rest := []) (ci := 5) ⟨hx, hb, hml, hown, hts⟩ (c_X5_allows l N kd G ct a g x2 (g 11 x1.toNatClampNeg) (-1 : Int32) (0 : Int32) _ hcl) (cwV 4 hts gX5_strideOn_X5_allows rfl rfl rfl (by decide +kernel) ⟨Nat.le_of_ble_eq_true rfl, Nat.le_of_ble_eq_true rfl⟩) hK hE hA hW rfl rfl 0 rfl rfl rfl rfl hl.1 rfl (lv_room (Nat.le_of_ble_eq_true rfl)) dX5_strideOn_40 (fun H locs hW => ?_)
    refine lv_if_eq (tgt := 55) hx hb dX5_strideOn_43 (by decide) (fun hc => ?_) (fun hc => ?_)
    · replace hf := ifp hc hf
      refine lv_iload hx hb dX5_strideOn_55 (lv_at hl 0 rfl) ?_
      have ho := Option.some.inj hf
      subst ho
      exact x_reti (sz := 0) (w0 := []) (A1 := A) hx hb hr hlocks hK hW rfl rfl dX5_strideOn_57
    · replace hf := ifn hc hf
      refine lv_iload_n hx hb dX5_strideOn_46 rfl (lv_at hl 1 rfl) ?_
      refine lv_iload hx hb dX5_strideOn_47 (lv_at hl 0 rfl) ?_
      refine va_mmax hx hb (hml.trans hl.1.symm) hown (hts (.methodLink RX5 122 Lib.Math.max.name) (by decide +kernel)) (hts (.static Lib.Math.max.name) (by decide +kernel)) (hts (.initialized "java/lang/Math") (by decide +kernel)) (hts (.code Lib.Math.max.name Lib.Math.max.code 2 (some .int)) (by decide +kernel)) (Nat.le_of_ble_eq_true rfl) (Nat.le_of_ble_eq_true rfl) (Nat.le_refl _) (Nat.le_refl _) dX5_strideOn_49 ?_
      refine lv_goto (tgt := 57) hx hb dX5_strideOn_52 (by decide) ?_
      have ho := Option.some.inj hf
      subst ho
      exact x_reti (sz := 0) (w0 := []) (A1 := A) hx hb hr hlocks hK hW rfl rfl dX5_strideOn_57
  · replace hf := ifp hc hf
    refine lv_iload_n hx hb dX5_strideOn_33 rfl (lv_at hl 1 rfl) ?_
    have ho := Option.some.inj hf
    subst ho
    exact x_reti (sz := 0) (w0 := []) (A1 := A) hx hb hr hlocks hK hW rfl rfl dX5_strideOn_34
set_option maxHeartbeats 4000000 in
set_option maxRecDepth 100000 in
theorem c_X5_stepsTaken (l : Launch) (N : Nat) (kd : (Nat → Nat) × (Nat → Nat)) (G : va_G) (ct : Nat → ClassId) (a : Nat → Nat) (g : St_) (x1 : Int32) (x2 : Int32) (o : Int32) (hf : f_X5_stepsTaken N g x1 x2 = some o) : CtI l yX5_stepsTaken wsX5_stepsTaken ({ frames := 0, cells := 0, slots := 0, locals := 0 }) kd G ct [.ref (a 0), .int x1, .int x2] (wX5 a ct g) o (wX5 a ct g) := by
  intro sz
  refine Met.ofW (cc := cX5_stepsTaken) (maxL := 6) (ret := (some .int)) (by decide) rfl ?_
  intro p e s m args below meth c s₁ B hml hv
  obtain ⟨rfl, hsz, hP, hK, hD0, hE⟩ := hv
  have hx := B.exec
  have hb := B.bytes
  have hr := B.returns
  have hts := atoms_spec (ws := wsX5_stepsTaken) B.pre
  have hown : s.vm.findClass RX5 = some m.cls := findClass_of_methodNamed B.named
  have hlocks := B.notSynchronized
  have inX1 : ∀ w ∈ wsX10, w ∈ wsX5_stepsTaken := by decide +kernel
  have inX3 : ∀ w ∈ wsX30, w ∈ wsX5_stepsTaken := by decide +kernel
  have inX5 : ∀ w ∈ wsX50, w ∈ wsX5_stepsTaken := by decide +kernel
  have fl12 := hts (.fieldLink RX5 12 "FittingStrides$Town" "plan" "LFittingStrides$Plan;") (by decide +kernel)
  have fl21 := hts (.fieldLink RX5 21 "FittingStrides$Town" "state" "LFittingStrides$State;") (by decide +kernel)
  have fl56 := hts (.fieldLink RX5 56 "FittingStrides$Plan" "parts" "[I") (by decide +kernel)
  have fl59 := hts (.fieldLink RX5 59 "FittingStrides$State" "steps" "[I") (by decide +kernel)
  subst hsz
  have hD := hD0.self (sz := s.heap.size)
  generalize hAe : va_A (wX5 a ct g) s.heap.size = A at hD hE ⊢
  have hA : ∀ q : Nat, s.heap.size ≤ q → A q := fun q h => by rw [← hAe]; exact Or.inr h
  have hW : WW G A s.heap (wX5 a ct g) s.heap [] := ⟨hP, hD, va_S.rf⟩
  have hl := lv_entry ([.ref (a 0), .int x1, .int x2]) (n := 6) (Nat.le_of_ble_eq_true rfl)
  rw [lg_entry_eq]
  generalize (lg_sl ([.ref (a 0), .int x1, .int x2]) ++ List.replicate (6 - (lg_sl ([.ref (a 0), .int x1, .int x2])).length) Slot.unset).toArray = ls at hl ⊢
  have hl : lv_has ls 6 [(0, .ref (a 0)), (1, .int x1), (2, .int x2)] := hl
  unfold f_X5_stepsTaken at hf
  show W p l e ({ frames := 0, cells := 0, slots := 0, locals := 0 } : Room) s m (List.toArray [.ref (a 0), .int x1, .int x2]) below meth c s.heap [] 0 0 (MQ below (va_Qi (fun r (_ : Unit) => r = o) (fun _ t => Af_ G ct (wX5 a ct g) A t) A) (List.toArray [.ref (a 0), .int x1, .int x2]) s 0 0 A) (F0 m 0 ls [])
  refine lv_iconst (v := (0 : Int32)) hx hb dX5_stepsTaken_0 (by decide) ?_
  refine lv_istore_n (lv' := [(3, .int (0 : Int32)), (0, .ref (a 0)), (1, .int x1), (2, .int x2)]) hx hb dX5_stepsTaken_1 rfl hl (by decide) rfl (fun ls hl => ?_)
  refine lv_iconst (v := (0 : Int32)) hx hb dX5_stepsTaken_2 (by decide) ?_
  refine lv_istore (lv' := [(4, .int (0 : Int32)), (3, .int (0 : Int32)), (0, .ref (a 0)), (1, .int x1), (2, .int x2)]) hx hb dX5_stepsTaken_3 hl (by decide) rfl (fun ls hl => ?_)
  replace hf := bs_ hf; obtain ⟨v1, hg, hf⟩ := hf
  have J1 : ∀ (H : Heap) (locs : List Loc) (ls : Array Slot), WW G A s.heap (wX5 a ct g) H locs → lv_has ls 6 [(3, .int v1)] → W p l e ({ frames := 0, cells := 0, slots := 0, locals := 0 } : Room) s m (List.toArray [.ref (a 0), .int x1, .int x2]) below meth c H locs 0 0 (MQ below (va_Qi (fun r (_ : Unit) => r = o) (fun _ t => Af_ G ct (wX5 a ct g) A t) A) (List.toArray [.ref (a 0), .int x1, .int x2]) s 0 0 A) (F0 m 60 ls []) := by
    intro H locs ls hW hl
    refine lv_iload_n hx hb dX5_stepsTaken_60 rfl (lv_at hl 0 rfl) ?_
    have ho := Option.some.inj hf
    subst ho
    exact x_reti (sz := 0) (w0 := []) (A1 := A) hx hb hr hlocks hK hW rfl rfl dX5_stepsTaken_61
  clear hf
  have L1 : ∀ (n : Nat) (y1_3 : Int32) (y1_4 : Int32), f_X5_stepsTaken_L5 N g x1 x2 n y1_3 y1_4 = some v1 → ∀ (H : Heap) (locs : List Loc) (ls : Array Slot), WW G A s.heap (wX5 a ct g) H locs → lv_has ls 6 [(0, .ref (a 0)), (1, .int x1), (2, .int x2), (3, .int y1_3), (4, .int y1_4)] → W p l e ({ frames := 0, cells := 0, slots := 0, locals := 0 } : Room) s m (List.toArray [.ref (a 0), .int x1, .int x2]) below meth c H locs 0 0 (MQ below (va_Qi (fun r (_ : Unit) => r = o) (fun _ t => Af_ G ct (wX5 a ct g) A t) A) (List.toArray [.ref (a 0), .int x1, .int x2]) s 0 0 A) (F0 m 5 ls []) := by
    intro n
    induction n with
    | zero =>
      intro y1_3 y1_4 hf
      rw [f_X5_stepsTaken_L5] at hf
      cases hf
    | succ n ih =>
      intro y1_3 y1_4 hf H locs ls hW hl
      rw [f_X5_stepsTaken_L5] at hf
      refine lv_iload hx hb dX5_stepsTaken_5 (lv_at hl 4 rfl) ?_
      refine lv_aload_n hx hb dX5_stepsTaken_7 rfl (lv_at hl 0 rfl) ?_
      refine x_get (ci := 5) (v := .ref (a 1)) (C := RX5) (T := TX5) (N := 4) hx hb hts inX5 hown hK hW 0 rfl rfl 0 (by decide) fl12 (fun _ h9 => h9) rfl dX5_stepsTaken_8 ?_
      refine x_get (ci := 1) (v := .ref (a 7)) (C := RX1) (T := TX1) (N := 6) hx hb hts inX1 hown hK hW 1 rfl rfl 5 (by decide) fl56 (fun _ h9 => h9) rfl dX5_stepsTaken_11 ?_
      refine lv_iload_n hx hb dX5_stepsTaken_14 rfl (lv_at hl 1 rfl) ?_
      replace hf := gd_s hf; obtain ⟨hin, hf⟩ := hf
      refine x_iald (n := 10) (f := g 7) hx hb hK hW 5 rfl (okI_in hin) dX5_stepsTaken_15 ?_
      refine lv_icmp_ge (tgt := 60) hx hb dX5_stepsTaken_16 (by decide) (fun hc => ?_) (fun hc => ?_)
      · replace hf := ifp hc hf
        have hj := Option.some.inj hf
        subst hj
        exact J1 _ _ _ hW (lv_sub hl [3] rfl)
      · replace hf := ifn hc hf
        refine lv_aload_n hx hb dX5_stepsTaken_19 rfl (lv_at hl 0 rfl) ?_
        refine x_get (ci := 5) (v := .ref (a 8)) (C := RX5) (T := TX5) (N := 4) hx hb hts inX5 hown hK hW 0 rfl rfl 1 (by decide) fl21 (fun _ h9 => h9) rfl dX5_stepsTaken_20 ?_
        refine x_get (ci := 3) (v := .ref (a 13)) (C := RX3) (T := TX3) (N := 8) hx hb hts inX3 hown hK hW 6 rfl rfl 4 (by decide) fl59 (fun _ h9 => h9) rfl dX5_stepsTaken_23 ?_
        refine lv_iconst (v := (3 : Int32)) hx hb dX5_stepsTaken_26 (by decide) ?_
        refine lv_iload_n hx hb dX5_stepsTaken_27 rfl (lv_at hl 1 rfl) ?_
        refine lv_imul hx hb dX5_stepsTaken_28 ?_
        refine lv_iload hx hb dX5_stepsTaken_29 (lv_at hl 4 rfl) ?_
        refine lv_iadd hx hb dX5_stepsTaken_31 ?_
        replace hf := gd_s hf; obtain ⟨hin, hf⟩ := hf
        refine x_iald (n := 30) (f := g 13) hx hb hK hW 10 rfl (okI_in hin) dX5_stepsTaken_32 ?_
        refine lv_istore (lv' := [(5, .int (g 13 (((3 : Int32) * x1) + y1_4).toNatClampNeg)), (0, .ref (a 0)), (1, .int x1), (2, .int x2), (3, .int y1_3), (4, .int y1_4)]) hx hb dX5_stepsTaken_33 hl (by decide) rfl (fun ls hl => ?_)
        refine lv_iload_n hx hb dX5_stepsTaken_35 rfl (lv_at hl 4 rfl) ?_
        refine lv_iload_n hx hb dX5_stepsTaken_36 rfl (lv_at hl 3 rfl) ?_
        replace hf := bs_ hf; obtain ⟨j2, hg, hf⟩ := hf
        have J2 : ∀ (H : Heap) (locs : List Loc) (ls : Array Slot), WW G A s.heap (wX5 a ct g) H locs → lv_has ls 6 [(0, .ref (a 0)), (1, .int x1), (2, .int x2), (4, .int y1_4)] → W p l e ({ frames := 0, cells := 0, slots := 0, locals := 0 } : Room) s m (List.toArray [.ref (a 0), .int x1, .int x2]) below meth c H locs 0 0 (MQ below (va_Qi (fun r (_ : Unit) => r = o) (fun _ t => Af_ G ct (wX5 a ct g) A t) A) (List.toArray [.ref (a 0), .int x1, .int x2]) s 0 0 A) (F0 m 52 ls (.int j2 :: .int y1_3 :: [])) := by
          intro H locs ls hW hl
          refine lv_iadd hx hb dX5_stepsTaken_52 ?_
          refine lv_istore_n (lv' := [(3, .int (y1_3 + j2)), (0, .ref (a 0)), (1, .int x1), (2, .int x2), (4, .int y1_4)]) hx hb dX5_stepsTaken_53 rfl hl (by decide) rfl (fun ls hl => ?_)
          refine lv_iinc (v := (y1_4 + (1 : Int32))) (lv' := [(4, .int (y1_4 + (1 : Int32))), (3, .int (y1_3 + j2)), (0, .ref (a 0)), (1, .int x1), (2, .int x2)]) hx hb dX5_stepsTaken_54 hl (k := 4) rfl rfl (by decide) rfl (fun ls hl => ?_)
          refine lv_goto (tgt := 5) hx hb dX5_stepsTaken_57 (by decide) ?_
          exact ih (y1_3 + j2) (y1_4 + (1 : Int32)) hf _ _ _ hW (lv_sub hl [2, 3, 4, 1, 0] rfl)
        clear hf
        refine lv_if_le (tgt := 51) hx hb dX5_stepsTaken_37 (by decide) (fun hc => ?_) (fun hc => ?_)
        · have hf := ifp hc hg
          clear hg
          refine lv_iconst (v := (0 : Int32)) hx hb dX5_stepsTaken_51 (by decide) ?_
          have hj := Option.some.inj hf
          subst hj
          exact J2 _ _ _ hW (lv_sub hl [1, 2, 3, 5] rfl)
        · have hf := ifn hc hg
          clear hg
          refine lv_iload hx hb dX5_stepsTaken_40 (lv_at hl 0 rfl) ?_
          refine lv_iload_n hx hb dX5_stepsTaken_42 rfl (lv_at hl 3 rfl) ?_
          refine lv_iadd hx hb dX5_stepsTaken_43 ?_
          refine lv_iconst (v := (1 : Int32)) hx hb dX5_stepsTaken_44 (by decide) ?_
          refine lv_isub hx hb dX5_stepsTaken_45 ?_
          refine lv_iload_n hx hb dX5_stepsTaken_46 rfl (lv_at hl 3 rfl) ?_
          replace hf := gd_s hf; obtain ⟨hnz, hf⟩ := hf
          refine lv_idiv hx hb dX5_stepsTaken_47 (nzI_s hnz) ?_
          refine lv_goto (tgt := 52) hx hb dX5_stepsTaken_48 (by decide) ?_
          have hj := Option.some.inj hf
          subst hj
          exact J2 _ _ _ hW (lv_sub hl [1, 2, 3, 5] rfl)
  exact L1 N (0 : Int32) (0 : Int32) hg _ _ _ hW (lv_sub hl [2, 3, 4, 1, 0] rfl)
set_option maxHeartbeats 4000000 in
set_option maxRecDepth 100000 in
theorem c_X5_travel (l : Launch) (N : Nat) (kd : (Nat → Nat) × (Nat → Nat)) (G : va_G) (ct : Nat → ClassId) (a : Nat → Nat) (g : St_) (x1 : Int32) (x2 : Int32) (o : (Int32 × St_)) (hf : f_X5_travel N g x1 x2 = some o) : CtI l yX5_travel wsX5_travel ({ frames := 4, cells := 0, slots := 0, locals := 94 }) kd G ct [.ref (a 0), .int x1, .int x2] (wX5 a ct g) o.1 (wX5 a ct o.2) := by
  intro sz
  refine Met.ofW (cc := cX5_travel) (maxL := 4) (ret := (some .boolean)) (by decide) rfl ?_
  intro p e s m args below meth c s₁ B hml hv
  obtain ⟨rfl, hsz, hP, hK, hD0, hE⟩ := hv
  have hx := B.exec
  have hb := B.bytes
  have hr := B.returns
  have hts := atoms_spec (ws := wsX5_travel) B.pre
  have hown : s.vm.findClass RX5 = some m.cls := findClass_of_methodNamed B.named
  have hlocks := B.notSynchronized
  have inX3 : ∀ w ∈ wsX30, w ∈ wsX5_travel := by decide +kernel
  have inX5 : ∀ w ∈ wsX50, w ∈ wsX5_travel := by decide +kernel
  have fl21 := hts (.fieldLink RX5 21 "FittingStrides$Town" "state" "LFittingStrides$State;") (by decide +kernel)
  have fl50 := hts (.fieldLink RX5 50 "FittingStrides$State" "worn" "[I") (by decide +kernel)
  have fl113 := hts (.fieldLink RX5 113 "FittingStrides$State" "at" "[I") (by decide +kernel)
  subst hsz
  have hD := hD0.self (sz := s.heap.size)
  generalize hAe : va_A (wX5 a ct g) s.heap.size = A at hD hE ⊢
  have hA : ∀ q : Nat, s.heap.size ≤ q → A q := fun q h => by rw [← hAe]; exact Or.inr h
  have hW : WW G A s.heap (wX5 a ct g) s.heap [] := ⟨hP, hD, va_S.rf⟩
  have hl := lv_entry ([.ref (a 0), .int x1, .int x2]) (n := 4) (Nat.le_of_ble_eq_true rfl)
  rw [lg_entry_eq]
  generalize (lg_sl ([.ref (a 0), .int x1, .int x2]) ++ List.replicate (4 - (lg_sl ([.ref (a 0), .int x1, .int x2])).length) Slot.unset).toArray = ls at hl ⊢
  have hl : lv_has ls 4 [(0, .ref (a 0)), (1, .int x1), (2, .int x2)] := hl
  unfold f_X5_travel at hf
  show W p l e ({ frames := 4, cells := 0, slots := 0, locals := 94 } : Room) s m (List.toArray [.ref (a 0), .int x1, .int x2]) below meth c s.heap [] 0 0 (MQ below (va_Qi (fun r (_ : Unit) => r = o.1) (fun _ t => Af_ G ct (wX5 a ct o.2) A t) A) (List.toArray [.ref (a 0), .int x1, .int x2]) s 0 0 A) (F0 m 0 ls [])
  refine lv_aload_n hx hb dX5_travel_0 rfl (lv_at hl 0 rfl) ?_
  refine lv_iload_n hx hb dX5_travel_1 rfl (lv_at hl 1 rfl) ?_
  refine lv_iload_n hx hb dX5_travel_2 rfl (lv_at hl 2 rfl) ?_
  refine lv_aload_n hx hb dX5_travel_3 rfl (lv_at hl 0 rfl) ?_
  refine x_get (ci := 5) (v := .ref (a 8)) (C := RX5) (T := TX5) (N := 4) hx hb hts inX5 hown hK hW 0 rfl rfl 1 (by decide) fl21 (fun _ h9 => h9) rfl dX5_travel_4 ?_
  refine x_get (ci := 3) (v := .ref (a 10)) (C := RX3) (T := TX3) (N := 8) hx hb hts inX3 hown hK hW 6 rfl rfl 1 (by decide) fl113 (fun _ h9 => h9) rfl dX5_travel_7 ?_
  refine lv_iload_n hx hb dX5_travel_10 rfl (lv_at hl 1 rfl) ?_
  replace hf := gd_s hf; obtain ⟨hin, hf⟩ := hf
  refine x_iald (n := 8) (f := g 10) hx hb hK hW 7 rfl (okI_in hin) dX5_travel_11 ?_
  replace hf := bs_ hf; obtain ⟨r1, hcl, hf⟩ := hf
  refine x_callW_i (w' := (wX5 a ct g)) (As := [.int x1, .int x2, .int (g 10 x1.toNatClampNeg)]) (rest := []) (ci := 5) ⟨hx, hb, hml, hown, hts⟩ (c_X5_otherEnd l N kd G ct a g x1 x2 (g 10 x1.toNatClampNeg) _ hcl) (cwV 3 hts gX5_travel_X5_otherEnd rfl rfl rfl (by decide +kernel) ⟨Nat.le_of_ble_eq_true rfl, Nat.le_of_ble_eq_true rfl⟩) hK hE hA hW rfl rfl 0 rfl rfl rfl rfl hl.1 rfl (lv_room (Nat.le_of_ble_eq_true rfl)) dX5_travel_12 (fun H locs hW => ?_)
  refine lv_istore_n (lv' := [(3, .int r1), (0, .ref (a 0)), (1, .int x1), (2, .int x2)]) hx hb dX5_travel_15 rfl hl (by decide) rfl (fun ls hl => ?_)
  refine lv_iload_n hx hb dX5_travel_16 rfl (lv_at hl 0 rfl) ?_
  refine lv_iconst (v := (-1 : Int32)) hx hb dX5_travel_17 (by decide) ?_
  refine lv_icmp_ne (tgt := 23) hx hb dX5_travel_18 (by decide) (fun hc => ?_) (fun hc => ?_)
  · replace hf := ifn hc hf
    refine lv_aload_n hx hb dX5_travel_23 rfl (lv_at hl 1 rfl) ?_
    refine x_get (ci := 5) (v := .ref (a 8)) (C := RX5) (T := TX5) (N := 4) hx hb hts inX5 hown hK hW 0 rfl rfl 1 (by decide) fl21 (fun _ h9 => h9) rfl dX5_travel_24 ?_
    refine x_get (ci := 3) (v := .ref (a 14)) (C := RX3) (T := TX3) (N := 8) hx hb hts inX3 hown hK hW 6 rfl rfl 5 (by decide) fl50 (fun _ h9 => h9) rfl dX5_travel_27 ?_
    refine lv_iload_n hx hb dX5_travel_30 rfl (lv_at hl 3 rfl) ?_
    refine lv_dup2_11 hx hb dX5_travel_31 rfl rfl ?_
    replace hf := gd_s hf; obtain ⟨hin, hf⟩ := hf
    refine x_iald (n := 10) (f := g 14) hx hb hK hW 11 rfl (okI_in hin) dX5_travel_32 ?_
    refine lv_aload_n hx hb dX5_travel_33 rfl (lv_at hl 1 rfl) ?_
    refine lv_iload_n hx hb dX5_travel_34 rfl (lv_at hl 3 rfl) ?_
    refine lv_aload_n hx hb dX5_travel_35 rfl (lv_at hl 1 rfl) ?_
    refine lv_iload_n hx hb dX5_travel_36 rfl (lv_at hl 2 rfl) ?_
    refine lv_iload_n hx hb dX5_travel_37 rfl (lv_at hl 3 rfl) ?_
    replace hf := bs_ hf; obtain ⟨r2, hcl, hf⟩ := hf
    refine x_callW_i (w' := (wX5 a ct g)) (As := [.int x1, .int x2]) (rest := [.int x2, .ref (a 0), .int (g 14 x2.toNatClampNeg), .int x2, .ref (a 14)]) (ci := 5) ⟨hx, hb, hml, hown, hts⟩ (c_X5_strideOn l N kd G ct a g x1 x2 _ hcl) (cwV 2 hts gX5_travel_X5_strideOn rfl rfl rfl (by decide +kernel) ⟨Nat.le_of_ble_eq_true rfl, Nat.le_of_ble_eq_true rfl⟩) hK hE hA hW rfl rfl 0 rfl rfl rfl rfl hl.1 rfl (lv_room (Nat.le_of_ble_eq_true rfl)) dX5_travel_38 (fun H locs hW => ?_)
    replace hf := bs_ hf; obtain ⟨r3, hcl, hf⟩ := hf
    refine x_callW_i (w' := (wX5 a ct g)) (As := [.int x2, .int r2]) (rest := [.int (g 14 x2.toNatClampNeg), .int x2, .ref (a 14)]) (ci := 5) ⟨hx, hb, hml, hown, hts⟩ (c_X5_stepsTaken l N kd G ct a g x2 r2 _ hcl) (cwV 2 hts gX5_travel_X5_stepsTaken rfl rfl rfl (by decide +kernel) ⟨Nat.le_of_ble_eq_true rfl, Nat.le_of_ble_eq_true rfl⟩) hK hE hA hW rfl rfl 0 rfl rfl rfl rfl hl.1 rfl (lv_room (Nat.le_of_ble_eq_true rfl)) dX5_travel_41 (fun H locs hW => ?_)
    refine lv_iadd hx hb dX5_travel_44 ?_
    replace hf := gd_s hf; obtain ⟨hin, hf⟩ := hf
    refine x_iast (w' := (wX5 a ct (up1 g 14 x2.toNatClampNeg ((g 14 x2.toNatClampNeg) + r3)))) (n := 10) (f := g 14) hx hb hK hW 11 rfl (okI_in hin) (ws_X5_14 a ct g _ _) dX5_travel_45 (fun H locs hW => ?_)
    refine lv_aload_n hx hb dX5_travel_46 rfl (lv_at hl 1 rfl) ?_
    refine x_get (ci := 5) (v := .ref (a 8)) (C := RX5) (T := TX5) (N := 4) hx hb hts inX5 hown hK hW 0 rfl rfl 1 (by decide) fl21 (fun _ h9 => h9) rfl dX5_travel_47 ?_
    refine x_get (ci := 3) (v := .ref (a 10)) (C := RX3) (T := TX3) (N := 8) hx hb hts inX3 hown hK hW 6 rfl rfl 1 (by decide) fl113 (fun _ h9 => h9) rfl dX5_travel_50 ?_
    refine lv_iload_n hx hb dX5_travel_53 rfl (lv_at hl 2 rfl) ?_
    refine lv_iload_n hx hb dX5_travel_54 rfl (lv_at hl 0 rfl) ?_
    replace hf := gd_s hf; obtain ⟨hin, hf⟩ := hf
    refine x_iast (w' := (wX5 a ct (up1 (up1 g 14 x2.toNatClampNeg ((g 14 x2.toNatClampNeg) + r3)) 10 x1.toNatClampNeg r1))) (n := 8) (f := (up1 g 14 x2.toNatClampNeg ((g 14 x2.toNatClampNeg) + r3)) 10) hx hb hK hW 7 rfl (okI_in hin) (ws_X5_10 a ct (up1 g 14 x2.toNatClampNeg ((g 14 x2.toNatClampNeg) + r3)) _ _) dX5_travel_55 (fun H locs hW => ?_)
    refine lv_iconst (v := (1 : Int32)) hx hb dX5_travel_56 (by decide) ?_
    have ho := Option.some.inj hf
    subst ho
    exact x_retz hx hb hr rfl hlocks hK hW rfl rfl dX5_travel_57
  · replace hf := ifp hc hf
    refine lv_iconst (v := (0 : Int32)) hx hb dX5_travel_21 (by decide) ?_
    have ho := Option.some.inj hf
    subst ho
    exact x_retz hx hb hr rfl hlocks hK hW rfl rfl dX5_travel_22
set_option maxHeartbeats 4000000 in
set_option maxRecDepth 100000 in
theorem c_X5_liveDay (l : Launch) (N : Nat) (kd : (Nat → Nat) × (Nat → Nat)) (G : va_G) (ct : Nat → ClassId) (a : Nat → Nat) (g : St_) (o : St_) (hf : f_X5_liveDay N g = some o) : CtV l yX5_liveDay wsX5_liveDay ({ frames := 5, cells := 0, slots := 0, locals := 117 }) kd G ct [.ref (a 0)] (wX5 a ct g) (wX5 a ct o) := by
  intro sz
  refine Met.ofW (cc := cX5_liveDay) (maxL := 5) (ret := none) (by decide) rfl ?_
  intro p e s m args below meth c s₁ B hml hv
  obtain ⟨rfl, hsz, hP, hK, hD0, hE⟩ := hv
  have hx := B.exec
  have hb := B.bytes
  have hr := B.returns
  have hts := atoms_spec (ws := wsX5_liveDay) B.pre
  have hown : s.vm.findClass RX5 = some m.cls := findClass_of_methodNamed B.named
  have hlocks := B.notSynchronized
  have inX1 : ∀ w ∈ wsX10, w ∈ wsX5_liveDay := by decide +kernel
  have inX3 : ∀ w ∈ wsX30, w ∈ wsX5_liveDay := by decide +kernel
  have inX5 : ∀ w ∈ wsX50, w ∈ wsX5_liveDay := by decide +kernel
  have fl12 := hts (.fieldLink RX5 12 "FittingStrides$Town" "plan" "LFittingStrides$Plan;") (by decide +kernel)
  have fl21 := hts (.fieldLink RX5 21 "FittingStrides$Town" "state" "LFittingStrides$State;") (by decide +kernel)
  have fl36 := hts (.fieldLink RX5 36 "FittingStrides$Plan" "stairs" "I") (by decide +kernel)
  have fl39 := hts (.fieldLink RX5 39 "FittingStrides$State" "persons" "I") (by decide +kernel)
  have fl66 := hts (.fieldLink RX5 66 "FittingStrides$State" "firsts" "[I") (by decide +kernel)
  have fl113 := hts (.fieldLink RX5 113 "FittingStrides$State" "at" "[I") (by decide +kernel)
  subst hsz
  have hD := hD0.self (sz := s.heap.size)
  generalize hAe : va_A (wX5 a ct g) s.heap.size = A at hD hE ⊢
  have hA : ∀ q : Nat, s.heap.size ≤ q → A q := fun q h => by rw [← hAe]; exact Or.inr h
  have hW : WW G A s.heap (wX5 a ct g) s.heap [] := ⟨hP, hD, va_S.rf⟩
  have hl := lv_entry ([.ref (a 0)]) (n := 5) (Nat.le_of_ble_eq_true rfl)
  rw [lg_entry_eq]
  generalize (lg_sl ([.ref (a 0)]) ++ List.replicate (5 - (lg_sl ([.ref (a 0)])).length) Slot.unset).toArray = ls at hl ⊢
  have hl : lv_has ls 5 [(0, .ref (a 0))] := hl
  unfold f_X5_liveDay at hf
  show W p l e ({ frames := 5, cells := 0, slots := 0, locals := 117 } : Room) s m (List.toArray [.ref (a 0)]) below meth c s.heap [] 0 0 (MQ below (va_Qv (fun (_ : Unit) => True) (fun _ t => Af_ G ct (wX5 a ct o) A t) A) (List.toArray [.ref (a 0)]) s 0 0 A) (F0 m 0 ls [])
  refine lv_aload_n hx hb dX5_liveDay_0 rfl (lv_at hl 0 rfl) ?_
  refine x_get (ci := 5) (v := .ref (a 8)) (C := RX5) (T := TX5) (N := 4) hx hb hts inX5 hown hK hW 0 rfl rfl 1 (by decide) fl21 (fun _ h9 => h9) rfl dX5_liveDay_1 ?_
  refine lv_aload_n hx hb dX5_liveDay_4 rfl (lv_at hl 0 rfl) ?_
  refine x_get (ci := 5) (v := .ref (a 8)) (C := RX5) (T := TX5) (N := 4) hx hb hts inX5 hown hK hW 0 rfl rfl 1 (by decide) fl21 (fun _ h9 => h9) rfl dX5_liveDay_5 ?_
  refine x_get (ci := 3) (v := .int (g 9 0)) (C := RX3) (T := TX3) (N := 8) hx hb hts inX3 hown hK hW 6 rfl rfl 0 (by decide) fl39 (fun _ h9 => h9) rfl dX5_liveDay_8 ?_
  replace hf := bs_ hf; obtain ⟨r1, hcl, hf⟩ := hf
  refine x_callV_i (w' := (wX5 a ct (pu_ 8 9 g r1.2))) (As := [.int (g 9 0)]) (rest := []) (ci := 3) ⟨hx, hb, hml, hown, hts⟩ (c_X3_draw l N kd G ct (sh_ 8 a) (sh_ 8 g) (g 9 0) _ hcl) (cwV 1 hts gX5_liveDay_X3_draw rfl rfl rfl (by decide +kernel) ⟨Nat.le_of_ble_eq_true rfl, Nat.le_of_ble_eq_true rfl⟩) hK hE hA hW ((wX5 a ct g).take 6) ((wX5 a ct g).drop 12) (wc_X5_8 a ct g) (wu_X5_8 a ct g r1.2) 0 rfl rfl rfl rfl hl.1 rfl (lv_room (Nat.le_of_ble_eq_true rfl)) dX5_liveDay_11 (fun H locs hW => ?_)
  refine lv_istore_n (lv' := [(1, .int r1.1), (0, .ref (a 0))]) hx hb dX5_liveDay_14 rfl hl (by decide) rfl (fun ls hl => ?_)
  refine lv_aload_n hx hb dX5_liveDay_15 rfl (lv_at hl 1 rfl) ?_
  refine x_get (ci := 5) (v := .ref (a 8)) (C := RX5) (T := TX5) (N := 4) hx hb hts inX5 hown hK hW 0 rfl rfl 1 (by decide) fl21 (fun _ h9 => h9) rfl dX5_liveDay_16 ?_
  refine lv_aload_n hx hb dX5_liveDay_19 rfl (lv_at hl 1 rfl) ?_
  refine x_get (ci := 5) (v := .ref (a 1)) (C := RX5) (T := TX5) (N := 4) hx hb hts inX5 hown hK hW 0 rfl rfl 0 (by decide) fl12 (fun _ h9 => h9) rfl dX5_liveDay_20 ?_
  refine x_get (ci := 1) (v := .int (g 3 0)) (C := RX1) (T := TX1) (N := 6) hx hb hts inX1 hown hK hW 1 rfl rfl 1 (by decide) fl36 (fun _ h9 => h9) rfl dX5_liveDay_23 ?_
  replace hf := bs_ hf; obtain ⟨r2, hcl, hf⟩ := hf
  refine x_callV_i (w' := (wX5 a ct (pu_ 8 9 (pu_ 8 9 g r1.2) r2.2))) (As := [.int (g 3 0)]) (rest := []) (ci := 3) ⟨hx, hb, hml, hown, hts⟩ (c_X3_draw l N kd G ct (sh_ 8 a) (sh_ 8 (pu_ 8 9 g r1.2)) (g 3 0) _ hcl) (cwV 1 hts gX5_liveDay_X3_draw rfl rfl rfl (by decide +kernel) ⟨Nat.le_of_ble_eq_true rfl, Nat.le_of_ble_eq_true rfl⟩) hK hE hA hW ((wX5 a ct (pu_ 8 9 g r1.2)).take 6) ((wX5 a ct (pu_ 8 9 g r1.2)).drop 12) (wc_X5_8 a ct (pu_ 8 9 g r1.2)) (wu_X5_8 a ct (pu_ 8 9 g r1.2) r2.2) 0 rfl rfl rfl rfl hl.1 rfl (lv_room (Nat.le_of_ble_eq_true rfl)) dX5_liveDay_26 (fun H locs hW => ?_)
  refine lv_istore_n (lv' := [(2, .int r2.1), (1, .int r1.1), (0, .ref (a 0))]) hx hb dX5_liveDay_29 rfl hl (by decide) rfl (fun ls hl => ?_)
  refine lv_aload_n hx hb dX5_liveDay_30 rfl (lv_at hl 2 rfl) ?_
  refine lv_iload_n hx hb dX5_liveDay_31 rfl (lv_at hl 1 rfl) ?_
  refine lv_iload_n hx hb dX5_liveDay_32 rfl (lv_at hl 0 rfl) ?_
  replace hf := bs_ hf; obtain ⟨r3, hcl, hf⟩ := hf
  refine x_callW_i (w' := (wX5 a ct r3.2)) (As := [.int r1.1, .int r2.1]) (rest := []) (ci := 5) ⟨hx, hb, hml, hown, hts⟩ (c_X5_travel l N kd G ct a (pu_ 8 9 (pu_ 8 9 g r1.2) r2.2) r1.1 r2.1 _ hcl) (cwV 2 hts gX5_liveDay_X5_travel rfl rfl rfl (by decide +kernel) ⟨Nat.le_of_ble_eq_true rfl, Nat.le_of_ble_eq_true rfl⟩) hK hE hA hW rfl rfl 0 rfl rfl rfl rfl hl.1 rfl (lv_room (Nat.le_of_ble_eq_true rfl)) dX5_liveDay_33 (fun H locs hW => ?_)
  refine lv_pop hx hb dX5_liveDay_36 rfl ?_
  refine lv_aload_n hx hb dX5_liveDay_37 rfl (lv_at hl 2 rfl) ?_
  refine x_get (ci := 5) (v := .ref (a 8)) (C := RX5) (T := TX5) (N := 4) hx hb hts inX5 hown hK hW 0 rfl rfl 1 (by decide) fl21 (fun _ h9 => h9) rfl dX5_liveDay_38 ?_
  refine lv_bipush (v := (16 : Int32)) hx hb dX5_liveDay_41 (by decide) ?_
  replace hf := bs_ hf; obtain ⟨r4, hcl, hf⟩ := hf
  refine x_callV_i (w' := (wX5 a ct (pu_ 8 9 r3.2 r4.2))) (As := [.int (16 : Int32)]) (rest := []) (ci := 3) ⟨hx, hb, hml, hown, hts⟩ (c_X3_draw l N kd G ct (sh_ 8 a) (sh_ 8 r3.2) (16 : Int32) _ hcl) (cwV 1 hts gX5_liveDay_X3_draw rfl rfl rfl (by decide +kernel) ⟨Nat.le_of_ble_eq_true rfl, Nat.le_of_ble_eq_true rfl⟩) hK hE hA hW ((wX5 a ct r3.2).take 6) ((wX5 a ct r3.2).drop 12) (wc_X5_8 a ct r3.2) (wu_X5_8 a ct r3.2 r4.2) 0 rfl rfl rfl rfl hl.1 rfl (lv_room (Nat.le_of_ble_eq_true rfl)) dX5_liveDay_43 (fun H locs hW => ?_)
  replace hf := bs_ hf; obtain ⟨j5, hg, hf⟩ := hf
  have J5 : ∀ (H : Heap) (locs : List Loc) (ls : Array Slot), WW G A s.heap (wX5 a ct (pu_ 8 9 r3.2 r4.2)) H locs → lv_has ls 5 [(0, .ref (a 0)), (1, .int r1.1)] → W p l e ({ frames := 5, cells := 0, slots := 0, locals := 117 } : Room) s m (List.toArray [.ref (a 0)]) below meth c H locs 0 0 (MQ below (va_Qv (fun (_ : Unit) => True) (fun _ t => Af_ G ct (wX5 a ct o) A t) A) (List.toArray [.ref (a 0)]) s 0 0 A) (F0 m 54 ls (.int j5 :: [])) := by
    intro H locs ls hW hl
    refine lv_istore_n (lv' := [(3, .int j5), (0, .ref (a 0)), (1, .int r1.1)]) hx hb dX5_liveDay_54 rfl hl (by decide) rfl (fun ls hl => ?_)
    refine lv_iload_n hx hb dX5_liveDay_55 rfl (lv_at hl 0 rfl) ?_
    refine lv_if_eq (tgt := 126) hx hb dX5_liveDay_56 (by decide) (fun hc => ?_) (fun hc => ?_)
    · replace hf := ifp hc hf
      have ho := Option.some.inj hf
      subst ho
      exact x_retv hx hb hr hlocks hK hW rfl dX5_liveDay_126
    · replace hf := ifn hc hf
      refine lv_aload_n hx hb dX5_liveDay_59 rfl (lv_at hl 1 rfl) ?_
      refine x_get (ci := 5) (v := .ref (a 8)) (C := RX5) (T := TX5) (N := 4) hx hb hts inX5 hown hK hW 0 rfl rfl 1 (by decide) fl21 (fun _ h9 => h9) rfl dX5_liveDay_60 ?_
      refine x_get (ci := 3) (v := .int (r4.2 1 0)) (C := RX3) (T := TX3) (N := 8) hx hb hts inX3 hown hK hW 6 rfl rfl 0 (by decide) fl39 (fun _ h9 => h9) rfl dX5_liveDay_63 ?_
      refine lv_bipush (v := (8 : Int32)) hx hb dX5_liveDay_66 (by decide) ?_
      refine lv_icmp_ge (tgt := 126) hx hb dX5_liveDay_68 (by decide) (fun hc => ?_) (fun hc => ?_)
      · replace hf := ifp hc hf
        have ho := Option.some.inj hf
        subst ho
        exact x_retv hx hb hr hlocks hK hW rfl dX5_liveDay_126
      · replace hf := ifn hc hf
        refine lv_aload_n hx hb dX5_liveDay_71 rfl (lv_at hl 1 rfl) ?_
        refine x_get (ci := 5) (v := .ref (a 8)) (C := RX5) (T := TX5) (N := 4) hx hb hts inX5 hown hK hW 0 rfl rfl 1 (by decide) fl21 (fun _ h9 => h9) rfl dX5_liveDay_72 ?_
        refine lv_iconst (v := (2 : Int32)) hx hb dX5_liveDay_75 (by decide) ?_
        replace hf := bs_ hf; obtain ⟨r6, hcl, hf⟩ := hf
        refine x_callV_i (w' := (wX5 a ct (pu_ 8 9 (pu_ 8 9 r3.2 r4.2) r6.2))) (As := [.int (2 : Int32)]) (rest := []) (ci := 3) ⟨hx, hb, hml, hown, hts⟩ (c_X3_draw l N kd G ct (sh_ 8 a) (sh_ 8 (pu_ 8 9 r3.2 r4.2)) (2 : Int32) _ hcl) (cwV 1 hts gX5_liveDay_X3_draw rfl rfl rfl (by decide +kernel) ⟨Nat.le_of_ble_eq_true rfl, Nat.le_of_ble_eq_true rfl⟩) hK hE hA hW ((wX5 a ct (pu_ 8 9 r3.2 r4.2)).take 6) ((wX5 a ct (pu_ 8 9 r3.2 r4.2)).drop 12) (wc_X5_8 a ct (pu_ 8 9 r3.2 r4.2)) (wu_X5_8 a ct (pu_ 8 9 r3.2 r4.2) r6.2) 0 rfl rfl rfl rfl hl.1 rfl (lv_room (Nat.le_of_ble_eq_true rfl)) dX5_liveDay_76 (fun H locs hW => ?_)
        replace hf := bs_ hf; obtain ⟨j7, hg, hf⟩ := hf
        have J7 : ∀ (H : Heap) (locs : List Loc) (ls : Array Slot), WW G A s.heap (wX5 a ct j7.2) H locs → lv_has ls 5 [(0, .ref (a 0)), (1, .int r1.1)] → W p l e ({ frames := 5, cells := 0, slots := 0, locals := 117 } : Room) s m (List.toArray [.ref (a 0)]) below meth c H locs 0 0 (MQ below (va_Qv (fun (_ : Unit) => True) (fun _ t => Af_ G ct (wX5 a ct o) A t) A) (List.toArray [.ref (a 0)]) s 0 0 A) (F0 m 105 ls (.int j7.1 :: [])) := by
          intro H locs ls hW hl
          refine lv_istore (lv' := [(4, .int j7.1), (0, .ref (a 0)), (1, .int r1.1)]) hx hb dX5_liveDay_105 hl (by decide) rfl (fun ls hl => ?_)
          refine lv_aload_n hx hb dX5_liveDay_107 rfl (lv_at hl 1 rfl) ?_
          refine x_get (ci := 5) (v := .ref (a 8)) (C := RX5) (T := TX5) (N := 4) hx hb hts inX5 hown hK hW 0 rfl rfl 1 (by decide) fl21 (fun _ h9 => h9) rfl dX5_liveDay_108 ?_
          refine lv_aload_n hx hb dX5_liveDay_111 rfl (lv_at hl 1 rfl) ?_
          refine x_get (ci := 5) (v := .ref (a 8)) (C := RX5) (T := TX5) (N := 4) hx hb hts inX5 hown hK hW 0 rfl rfl 1 (by decide) fl21 (fun _ h9 => h9) rfl dX5_liveDay_112 ?_
          refine x_get (ci := 3) (v := .ref (a 10)) (C := RX3) (T := TX3) (N := 8) hx hb hts inX3 hown hK hW 6 rfl rfl 1 (by decide) fl113 (fun _ h9 => h9) rfl dX5_liveDay_115 ?_
          refine lv_iload_n hx hb dX5_liveDay_118 rfl (lv_at hl 2 rfl) ?_
          replace hf := gd_s hf; obtain ⟨hin, hf⟩ := hf
          refine x_iald (n := 8) (f := j7.2 10) hx hb hK hW 7 rfl (okI_in hin) dX5_liveDay_119 ?_
          refine lv_iload hx hb dX5_liveDay_120 (lv_at hl 0 rfl) ?_
          refine lv_iconst (v := (0 : Int32)) hx hb dX5_liveDay_122 (by decide) ?_
          replace hf := bs_ hf; obtain ⟨r9, hcl, hf⟩ := hf
          refine x_callV_v (w' := (wX5 a ct (pu_ 8 9 j7.2 r9))) (As := [.int (j7.2 10 r1.1.toNatClampNeg), .int j7.1, .int (0 : Int32)]) (rest := []) (ci := 3) ⟨hx, hb, hml, hown, hts⟩ (c_X3_addPerson l N kd G ct (sh_ 8 a) (sh_ 8 j7.2) (j7.2 10 r1.1.toNatClampNeg) j7.1 (0 : Int32) _ hcl) (cwV 3 hts gX5_liveDay_X3_addPerson rfl rfl rfl (by decide +kernel) ⟨Nat.le_of_ble_eq_true rfl, Nat.le_of_ble_eq_true rfl⟩) hK hE hA hW ((wX5 a ct j7.2).take 6) ((wX5 a ct j7.2).drop 12) (wc_X5_8 a ct j7.2) (wu_X5_8 a ct j7.2 r9) 0 rfl rfl rfl rfl hl.1 rfl (lv_room (Nat.le_of_ble_eq_true rfl)) dX5_liveDay_123 (fun H locs hW => ?_)
          have ho := Option.some.inj hf
          subst ho
          exact x_retv hx hb hr hlocks hK hW rfl dX5_liveDay_126
        clear hf
        refine lv_if_ne (tgt := 94) hx hb dX5_liveDay_79 (by decide) (fun hc => ?_) (fun hc => ?_)
        · have hf := ifn hc hg
          clear hg
          refine lv_aload_n hx hb dX5_liveDay_94 rfl (lv_at hl 1 rfl) ?_
          refine x_get (ci := 5) (v := .ref (a 8)) (C := RX5) (T := TX5) (N := 4) hx hb hts inX5 hown hK hW 0 rfl rfl 1 (by decide) fl21 (fun _ h9 => h9) rfl dX5_liveDay_95 ?_
          refine lv_bipush (v := (24 : Int32)) hx hb dX5_liveDay_98 (by decide) ?_
          replace hf := bs_ hf; obtain ⟨r8, hcl, hf⟩ := hf
          refine x_callV_i (w' := (wX5 a ct (pu_ 8 9 (pu_ 8 9 (pu_ 8 9 r3.2 r4.2) r6.2) r8.2))) (As := [.int (24 : Int32)]) (rest := []) (ci := 3) ⟨hx, hb, hml, hown, hts⟩ (c_X3_draw l N kd G ct (sh_ 8 a) (sh_ 8 (pu_ 8 9 (pu_ 8 9 r3.2 r4.2) r6.2)) (24 : Int32) _ hcl) (cwV 1 hts gX5_liveDay_X3_draw rfl rfl rfl (by decide +kernel) ⟨Nat.le_of_ble_eq_true rfl, Nat.le_of_ble_eq_true rfl⟩) hK hE hA hW ((wX5 a ct (pu_ 8 9 (pu_ 8 9 r3.2 r4.2) r6.2)).take 6) ((wX5 a ct (pu_ 8 9 (pu_ 8 9 r3.2 r4.2) r6.2)).drop 12) (wc_X5_8 a ct (pu_ 8 9 (pu_ 8 9 r3.2 r4.2) r6.2)) (wu_X5_8 a ct (pu_ 8 9 (pu_ 8 9 r3.2 r4.2) r6.2) r8.2) 0 rfl rfl rfl rfl hl.1 rfl (lv_room (Nat.le_of_ble_eq_true rfl)) dX5_liveDay_100 (fun H locs hW => ?_)
          refine lv_iconst (v := (1 : Int32)) hx hb dX5_liveDay_103 (by decide) ?_
          refine lv_iadd hx hb dX5_liveDay_104 ?_
          have hj := Option.some.inj hf
          subst hj
          exact J7 _ _ _ hW (lv_sub hl [1, 2] rfl)
        · have hf := ifp hc hg
          clear hg
          refine lv_aload_n hx hb dX5_liveDay_82 rfl (lv_at hl 1 rfl) ?_
          refine x_get (ci := 5) (v := .ref (a 8)) (C := RX5) (T := TX5) (N := 4) hx hb hts inX5 hown hK hW 0 rfl rfl 1 (by decide) fl21 (fun _ h9 => h9) rfl dX5_liveDay_83 ?_
          refine x_get (ci := 3) (v := .ref (a 11)) (C := RX3) (T := TX3) (N := 8) hx hb hts inX3 hown hK hW 6 rfl rfl 2 (by decide) fl66 (fun _ h9 => h9) rfl dX5_liveDay_86 ?_
          refine lv_iload_n hx hb dX5_liveDay_89 rfl (lv_at hl 2 rfl) ?_
          replace hf := gd_s hf; obtain ⟨hin, hf⟩ := hf
          refine x_iald (n := 8) (f := r6.2 3) hx hb hK hW 8 rfl (okI_in hin) dX5_liveDay_90 ?_
          refine lv_goto (tgt := 105) hx hb dX5_liveDay_91 (by decide) ?_
          have hj := Option.some.inj hf
          subst hj
          exact J7 _ _ _ hW (lv_sub hl [1, 2] rfl)
  clear hf
  refine lv_if_ne (tgt := 53) hx hb dX5_liveDay_46 (by decide) (fun hc => ?_) (fun hc => ?_)
  · have hf := ifn hc hg
    clear hg
    refine lv_iconst (v := (0 : Int32)) hx hb dX5_liveDay_53 (by decide) ?_
    have hj := Option.some.inj hf
    subst hj
    exact J5 _ _ _ hW (lv_sub hl [2, 1] rfl)
  · have hf := ifp hc hg
    clear hg
    refine lv_iconst (v := (1 : Int32)) hx hb dX5_liveDay_49 (by decide) ?_
    refine lv_goto (tgt := 54) hx hb dX5_liveDay_50 (by decide) ?_
    have hj := Option.some.inj hf
    subst hj
    exact J5 _ _ _ hW (lv_sub hl [2, 1] rfl)
set_option maxHeartbeats 4000000 in
set_option maxRecDepth 100000 in
theorem c_X5_findLifts (l : Launch) (N : Nat) (kd : (Nat → Nat) × (Nat → Nat)) (G : va_G) (ct : Nat → ClassId) (a : Nat → Nat) (g : St_) (o : St_) (hf : f_X5_findLifts N g = some o) : CtV l yX5_findLifts wsX5_findLifts ({ frames := 3, cells := 0, slots := 0, locals := 73 }) kd G ct [.ref (a 0)] (wX5 a ct g) (wX5 a ct o) := by
  intro sz
  refine Met.ofW (cc := cX5_findLifts) (maxL := 6) (ret := none) (by decide) rfl ?_
  intro p e s m args below meth c s₁ B hml hv
  obtain ⟨rfl, hsz, hP, hK, hD0, hE⟩ := hv
  have hx := B.exec
  have hb := B.bytes
  have hr := B.returns
  have hts := atoms_spec (ws := wsX5_findLifts) B.pre
  have hown : s.vm.findClass RX5 = some m.cls := findClass_of_methodNamed B.named
  have hlocks := B.notSynchronized
  have inX1 : ∀ w ∈ wsX10, w ∈ wsX5_findLifts := by decide +kernel
  have inX3 : ∀ w ∈ wsX30, w ∈ wsX5_findLifts := by decide +kernel
  have inX5 : ∀ w ∈ wsX50, w ∈ wsX5_findLifts := by decide +kernel
  have fl12 := hts (.fieldLink RX5 12 "FittingStrides$Town" "plan" "LFittingStrides$Plan;") (by decide +kernel)
  have fl21 := hts (.fieldLink RX5 21 "FittingStrides$Town" "state" "LFittingStrides$State;") (by decide +kernel)
  have fl25 := hts (.fieldLink RX5 25 "FittingStrides$Town" "liftsUp" "[I") (by decide +kernel)
  have fl29 := hts (.fieldLink RX5 29 "FittingStrides$Town" "liftsDown" "[I") (by decide +kernel)
  have fl36 := hts (.fieldLink RX5 36 "FittingStrides$Plan" "stairs" "I") (by decide +kernel)
  have fl39 := hts (.fieldLink RX5 39 "FittingStrides$State" "persons" "I") (by decide +kernel)
  have fl66 := hts (.fieldLink RX5 66 "FittingStrides$State" "firsts" "[I") (by decide +kernel)
  have fl73 := hts (.fieldLink RX5 73 "FittingStrides$State" "seconds" "[I") (by decide +kernel)
  have fl97 := hts (.fieldLink RX5 97 "FittingStrides$Plan" "lows" "[I") (by decide +kernel)
  have fl100 := hts (.fieldLink RX5 100 "FittingStrides$Plan" "highs" "[I") (by decide +kernel)
  have fl113 := hts (.fieldLink RX5 113 "FittingStrides$State" "at" "[I") (by decide +kernel)
  subst hsz
  have hD := hD0.self (sz := s.heap.size)
  generalize hAe : va_A (wX5 a ct g) s.heap.size = A at hD hE ⊢
  have hA : ∀ q : Nat, s.heap.size ≤ q → A q := fun q h => by rw [← hAe]; exact Or.inr h
  have hW : WW G A s.heap (wX5 a ct g) s.heap [] := ⟨hP, hD, va_S.rf⟩
  have hl := lv_entry ([.ref (a 0)]) (n := 6) (Nat.le_of_ble_eq_true rfl)
  rw [lg_entry_eq]
  generalize (lg_sl ([.ref (a 0)]) ++ List.replicate (6 - (lg_sl ([.ref (a 0)])).length) Slot.unset).toArray = ls at hl ⊢
  have hl : lv_has ls 6 [(0, .ref (a 0))] := hl
  unfold f_X5_findLifts at hf
  show W p l e ({ frames := 3, cells := 0, slots := 0, locals := 73 } : Room) s m (List.toArray [.ref (a 0)]) below meth c s.heap [] 0 0 (MQ below (va_Qv (fun (_ : Unit) => True) (fun _ t => Af_ G ct (wX5 a ct o) A t) A) (List.toArray [.ref (a 0)]) s 0 0 A) (F0 m 0 ls [])
  refine lv_iconst (v := (0 : Int32)) hx hb dX5_findLifts_0 (by decide) ?_
  refine lv_istore_n (lv' := [(1, .int (0 : Int32)), (0, .ref (a 0))]) hx hb dX5_findLifts_1 rfl hl (by decide) rfl (fun ls hl => ?_)
  replace hf := bs_ hf; obtain ⟨v1, hg, hf⟩ := hf
  have J1 : ∀ (H : Heap) (locs : List Loc) (ls : Array Slot), WW G A s.heap (wX5 a ct v1) H locs → lv_has ls 6 [] → W p l e ({ frames := 3, cells := 0, slots := 0, locals := 73 } : Room) s m (List.toArray [.ref (a 0)]) below meth c H locs 0 0 (MQ below (va_Qv (fun (_ : Unit) => True) (fun _ t => Af_ G ct (wX5 a ct o) A t) A) (List.toArray [.ref (a 0)]) s 0 0 A) (F0 m 180 ls []) := by
    intro H locs ls hW hl
    have ho := Option.some.inj hf
    subst ho
    exact x_retv hx hb hr hlocks hK hW rfl dX5_findLifts_180
  clear hf
  have L1 : ∀ (n : Nat) (y1_1 : Int32) (g1 : St_), f_X5_findLifts_L2 N n y1_1 g1 = some v1 → ∀ (H : Heap) (locs : List Loc) (ls : Array Slot), WW G A s.heap (wX5 a ct g1) H locs → lv_has ls 6 [(0, .ref (a 0)), (1, .int y1_1)] → W p l e ({ frames := 3, cells := 0, slots := 0, locals := 73 } : Room) s m (List.toArray [.ref (a 0)]) below meth c H locs 0 0 (MQ below (va_Qv (fun (_ : Unit) => True) (fun _ t => Af_ G ct (wX5 a ct o) A t) A) (List.toArray [.ref (a 0)]) s 0 0 A) (F0 m 2 ls []) := by
    intro n
    induction n with
    | zero =>
      intro y1_1 g1 hf
      rw [f_X5_findLifts_L2] at hf
      cases hf
    | succ n ih =>
      intro y1_1 g1 hf H locs ls hW hl
      rw [f_X5_findLifts_L2] at hf
      refine lv_iload_n hx hb dX5_findLifts_2 rfl (lv_at hl 1 rfl) ?_
      refine lv_aload_n hx hb dX5_findLifts_3 rfl (lv_at hl 0 rfl) ?_
      refine x_get (ci := 5) (v := .ref (a 8)) (C := RX5) (T := TX5) (N := 4) hx hb hts inX5 hown hK hW 0 rfl rfl 1 (by decide) fl21 (fun _ h9 => h9) rfl dX5_findLifts_4 ?_
      refine x_get (ci := 3) (v := .int (g1 9 0)) (C := RX3) (T := TX3) (N := 8) hx hb hts inX3 hown hK hW 6 rfl rfl 0 (by decide) fl39 (fun _ h9 => h9) rfl dX5_findLifts_7 ?_
      refine lv_icmp_ge (tgt := 180) hx hb dX5_findLifts_10 (by decide) (fun hc => ?_) (fun hc => ?_)
      · replace hf := ifp hc hf
        have hj := Option.some.inj hf
        subst hj
        exact J1 _ _ _ hW (lv_sub hl [] rfl)
      · replace hf := ifn hc hf
        refine lv_aload_n hx hb dX5_findLifts_13 rfl (lv_at hl 0 rfl) ?_
        refine lv_aload_n hx hb dX5_findLifts_14 rfl (lv_at hl 0 rfl) ?_
        refine x_get (ci := 5) (v := .ref (a 8)) (C := RX5) (T := TX5) (N := 4) hx hb hts inX5 hown hK hW 0 rfl rfl 1 (by decide) fl21 (fun _ h9 => h9) rfl dX5_findLifts_15 ?_
        refine x_get (ci := 3) (v := .ref (a 11)) (C := RX3) (T := TX3) (N := 8) hx hb hts inX3 hown hK hW 6 rfl rfl 2 (by decide) fl66 (fun _ h9 => h9) rfl dX5_findLifts_18 ?_
        refine lv_iload_n hx hb dX5_findLifts_21 rfl (lv_at hl 1 rfl) ?_
        replace hf := gd_s hf; obtain ⟨hin, hf⟩ := hf
        refine x_iald (n := 8) (f := g1 11) hx hb hK hW 8 rfl (okI_in hin) dX5_findLifts_22 ?_
        refine lv_aload_n hx hb dX5_findLifts_23 rfl (lv_at hl 0 rfl) ?_
        refine x_get (ci := 5) (v := .ref (a 8)) (C := RX5) (T := TX5) (N := 4) hx hb hts inX5 hown hK hW 0 rfl rfl 1 (by decide) fl21 (fun _ h9 => h9) rfl dX5_findLifts_24 ?_
        refine x_get (ci := 3) (v := .ref (a 12)) (C := RX3) (T := TX3) (N := 8) hx hb hts inX3 hown hK hW 6 rfl rfl 3 (by decide) fl73 (fun _ h9 => h9) rfl dX5_findLifts_27 ?_
        refine lv_iload_n hx hb dX5_findLifts_30 rfl (lv_at hl 1 rfl) ?_
        replace hf := gd_s hf; obtain ⟨hin, hf⟩ := hf
        refine x_iald (n := 8) (f := g1 12) hx hb hK hW 9 rfl (okI_in hin) dX5_findLifts_31 ?_
        replace hf := bs_ hf; obtain ⟨r2, hcl, hf⟩ := hf
        refine x_callW_i (w' := (wX5 a ct g1)) (As := [.int (g1 11 y1_1.toNatClampNeg), .int (g1 12 y1_1.toNatClampNeg)]) (rest := []) (ci := 5) ⟨hx, hb, hml, hown, hts⟩ (c_X5_upStairs l N kd G ct a g1 (g1 11 y1_1.toNatClampNeg) (g1 12 y1_1.toNatClampNeg) _ hcl) (cwV 2 hts gX5_findLifts_X5_upStairs rfl rfl rfl (by decide +kernel) ⟨Nat.le_of_ble_eq_true rfl, Nat.le_of_ble_eq_true rfl⟩) hK hE hA hW rfl rfl 0 rfl rfl rfl rfl hl.1 rfl (lv_room (Nat.le_of_ble_eq_true rfl)) dX5_findLifts_32 (fun H locs hW => ?_)
        refine lv_istore_n (lv' := [(2, .int r2), (0, .ref (a 0)), (1, .int y1_1)]) hx hb dX5_findLifts_35 rfl hl (by decide) rfl (fun ls hl => ?_)
        refine lv_aload_n hx hb dX5_findLifts_36 rfl (lv_at hl 1 rfl) ?_
        refine lv_iload_n hx hb dX5_findLifts_37 rfl (lv_at hl 0 rfl) ?_
        replace hf := bs_ hf; obtain ⟨r3, hcl, hf⟩ := hf
        refine x_callW_i (w' := (wX5 a ct g1)) (As := [.int r2]) (rest := []) (ci := 5) ⟨hx, hb, hml, hown, hts⟩ (c_X5_downStairs l N kd G ct a g1 r2 _ hcl) (cwV 1 hts gX5_findLifts_X5_downStairs rfl rfl rfl (by decide +kernel) ⟨Nat.le_of_ble_eq_true rfl, Nat.le_of_ble_eq_true rfl⟩) hK hE hA hW rfl rfl 0 rfl rfl rfl rfl hl.1 rfl (lv_room (Nat.le_of_ble_eq_true rfl)) dX5_findLifts_38 (fun H locs hW => ?_)
        refine lv_istore_n (lv' := [(3, .int r3), (2, .int r2), (0, .ref (a 0)), (1, .int y1_1)]) hx hb dX5_findLifts_41 rfl hl (by decide) rfl (fun ls hl => ?_)
        refine lv_aload_n hx hb dX5_findLifts_42 rfl (lv_at hl 2 rfl) ?_
        refine lv_aload_n hx hb dX5_findLifts_43 rfl (lv_at hl 2 rfl) ?_
        refine x_get (ci := 5) (v := .ref (a 8)) (C := RX5) (T := TX5) (N := 4) hx hb hts inX5 hown hK hW 0 rfl rfl 1 (by decide) fl21 (fun _ h9 => h9) rfl dX5_findLifts_44 ?_
        refine x_get (ci := 3) (v := .ref (a 10)) (C := RX3) (T := TX3) (N := 8) hx hb hts inX3 hown hK hW 6 rfl rfl 1 (by decide) fl113 (fun _ h9 => h9) rfl dX5_findLifts_47 ?_
        refine lv_iload_n hx hb dX5_findLifts_50 rfl (lv_at hl 3 rfl) ?_
        replace hf := gd_s hf; obtain ⟨hin, hf⟩ := hf
        refine x_iald (n := 8) (f := g1 10) hx hb hK hW 7 rfl (okI_in hin) dX5_findLifts_51 ?_
        refine lv_iload_n hx hb dX5_findLifts_52 rfl (lv_at hl 1 rfl) ?_
        refine lv_iload_n hx hb dX5_findLifts_53 rfl (lv_at hl 0 rfl) ?_
        replace hf := bs_ hf; obtain ⟨r4, hcl, hf⟩ := hf
        refine x_callW_i (w' := (wX5 a ct g1)) (As := [.int (g1 10 y1_1.toNatClampNeg), .int r2, .int r3]) (rest := []) (ci := 5) ⟨hx, hb, hml, hown, hts⟩ (c_X5_spread l N kd G ct a g1 (g1 10 y1_1.toNatClampNeg) r2 r3 _ hcl) (cwV 3 hts gX5_findLifts_X5_spread rfl rfl rfl (by decide +kernel) ⟨Nat.le_of_ble_eq_true rfl, Nat.le_of_ble_eq_true rfl⟩) hK hE hA hW rfl rfl 0 rfl rfl rfl rfl hl.1 rfl (lv_room (Nat.le_of_ble_eq_true rfl)) dX5_findLifts_54 (fun H locs hW => ?_)
        refine lv_istore (lv' := [(4, .int r4), (3, .int r3), (2, .int r2), (0, .ref (a 0)), (1, .int y1_1)]) hx hb dX5_findLifts_57 hl (by decide) rfl (fun ls hl => ?_)
        refine lv_aload_n hx hb dX5_findLifts_59 rfl (lv_at hl 3 rfl) ?_
        refine x_get (ci := 5) (v := .ref (a 17)) (C := RX5) (T := TX5) (N := 4) hx hb hts inX5 hown hK hW 0 rfl rfl 2 (by decide) fl25 (fun _ h9 => h9) rfl dX5_findLifts_60 ?_
        refine lv_iload_n hx hb dX5_findLifts_63 rfl (lv_at hl 4 rfl) ?_
        refine lv_iconst (v := (0 : Int32)) hx hb dX5_findLifts_64 (by decide) ?_
        replace hf := gd_s hf; obtain ⟨hin, hf⟩ := hf
        refine x_iast (w' := (wX5 a ct (up1 g1 17 y1_1.toNatClampNeg (0 : Int32)))) (n := 8) (f := g1 17) hx hb hK hW 12 rfl (okI_in hin) (ws_X5_17 a ct g1 _ _) dX5_findLifts_65 (fun H locs hW => ?_)
        refine lv_aload_n hx hb dX5_findLifts_66 rfl (lv_at hl 3 rfl) ?_
        refine x_get (ci := 5) (v := .ref (a 18)) (C := RX5) (T := TX5) (N := 4) hx hb hts inX5 hown hK hW 0 rfl rfl 3 (by decide) fl29 (fun _ h9 => h9) rfl dX5_findLifts_67 ?_
        refine lv_iload_n hx hb dX5_findLifts_70 rfl (lv_at hl 4 rfl) ?_
        refine lv_iconst (v := (0 : Int32)) hx hb dX5_findLifts_71 (by decide) ?_
        replace hf := gd_s hf; obtain ⟨hin, hf⟩ := hf
        refine x_iast (w' := (wX5 a ct (up1 (up1 g1 17 y1_1.toNatClampNeg (0 : Int32)) 18 y1_1.toNatClampNeg (0 : Int32)))) (n := 8) (f := (up1 g1 17 y1_1.toNatClampNeg (0 : Int32)) 18) hx hb hK hW 13 rfl (okI_in hin) (ws_X5_18 a ct (up1 g1 17 y1_1.toNatClampNeg (0 : Int32)) _ _) dX5_findLifts_72 (fun H locs hW => ?_)
        refine lv_iconst (v := (0 : Int32)) hx hb dX5_findLifts_73 (by decide) ?_
        refine lv_istore (lv' := [(5, .int (0 : Int32)), (4, .int r4), (3, .int r3), (2, .int r2), (0, .ref (a 0)), (1, .int y1_1)]) hx hb dX5_findLifts_74 hl (by decide) rfl (fun ls hl => ?_)
        replace hf := bs_ hf; obtain ⟨v5, hg, hf⟩ := hf
        have J5 : ∀ (H : Heap) (locs : List Loc) (ls : Array Slot), WW G A s.heap (wX5 a ct v5) H locs → lv_has ls 6 [(0, .ref (a 0)), (1, .int y1_1)] → W p l e ({ frames := 3, cells := 0, slots := 0, locals := 73 } : Room) s m (List.toArray [.ref (a 0)]) below meth c H locs 0 0 (MQ below (va_Qv (fun (_ : Unit) => True) (fun _ t => Af_ G ct (wX5 a ct o) A t) A) (List.toArray [.ref (a 0)]) s 0 0 A) (F0 m 174 ls []) := by
          intro H locs ls hW hl
          refine lv_iinc (v := (y1_1 + (1 : Int32))) (lv' := [(1, .int (y1_1 + (1 : Int32))), (0, .ref (a 0))]) hx hb dX5_findLifts_174 hl (k := 1) rfl rfl (by decide) rfl (fun ls hl => ?_)
          refine lv_goto (tgt := 2) hx hb dX5_findLifts_177 (by decide) ?_
          exact ih (y1_1 + (1 : Int32)) v5 hf _ _ _ hW (lv_sub hl [1, 0] rfl)
        clear hf
        have L5 : ∀ (n : Nat) (y5_5 : Int32) (g5 : St_), f_X5_findLifts_L76 N y1_1 r2 r3 r4 n y5_5 g5 = some v5 → ∀ (H : Heap) (locs : List Loc) (ls : Array Slot), WW G A s.heap (wX5 a ct g5) H locs → lv_has ls 6 [(0, .ref (a 0)), (1, .int y1_1), (2, .int r2), (3, .int r3), (4, .int r4), (5, .int y5_5)] → W p l e ({ frames := 3, cells := 0, slots := 0, locals := 73 } : Room) s m (List.toArray [.ref (a 0)]) below meth c H locs 0 0 (MQ below (va_Qv (fun (_ : Unit) => True) (fun _ t => Af_ G ct (wX5 a ct o) A t) A) (List.toArray [.ref (a 0)]) s 0 0 A) (F0 m 76 ls []) := by
          intro n
          induction n with
          | zero =>
            intro y5_5 g5 hf
            rw [f_X5_findLifts_L76] at hf
            cases hf
          | succ n ih =>
            intro y5_5 g5 hf H locs ls hW hl
            rw [f_X5_findLifts_L76] at hf
            refine lv_iload hx hb dX5_findLifts_76 (lv_at hl 5 rfl) ?_
            refine lv_aload_n hx hb dX5_findLifts_78 rfl (lv_at hl 0 rfl) ?_
            refine x_get (ci := 5) (v := .ref (a 1)) (C := RX5) (T := TX5) (N := 4) hx hb hts inX5 hown hK hW 0 rfl rfl 0 (by decide) fl12 (fun _ h9 => h9) rfl dX5_findLifts_79 ?_
            refine x_get (ci := 1) (v := .int (g5 3 0)) (C := RX1) (T := TX1) (N := 6) hx hb hts inX1 hown hK hW 1 rfl rfl 1 (by decide) fl36 (fun _ h9 => h9) rfl dX5_findLifts_82 ?_
            refine lv_icmp_ge (tgt := 174) hx hb dX5_findLifts_85 (by decide) (fun hc => ?_) (fun hc => ?_)
            · replace hf := ifp hc hf
              have hj := Option.some.inj hf
              subst hj
              exact J5 _ _ _ hW (lv_sub hl [0, 1] rfl)
            · replace hf := ifn hc hf
              refine lv_iload_n hx hb dX5_findLifts_88 rfl (lv_at hl 2 rfl) ?_
              refine lv_iload hx hb dX5_findLifts_89 (lv_at hl 5 rfl) ?_
              replace hf := bs_ hf; obtain ⟨r6, hcl, hf⟩ := hf
              refine x_callSN_i (As := [.int r2, .int y5_5]) (rest := []) ⟨hx, hb, hml, hown, hts⟩ (c_X6_has l N kd G ct r2 y5_5 _ hcl) (⟨va_cnB 2 hts gX5_findLifts_X6_has_n93 rfl rfl rfl (hE.1 (RX5, 93, yX6_has) (by decide +kernel)) (hts (.initialized RX6) (by decide +kernel)) (by decide +kernel) ⟨Nat.le_of_ble_eq_true rfl, Nat.le_of_ble_eq_true rfl⟩, hts (.static yX6_has) (by decide +kernel), trivial⟩) hK hE hA hW rfl hl.1 rfl (lv_room (Nat.le_of_ble_eq_true rfl)) dX5_findLifts_91 (fun H locs hW => ?_)
              replace hf := bs_ hf; obtain ⟨j7, hg, hf⟩ := hf
              have J7 : ∀ (H : Heap) (locs : List Loc) (ls : Array Slot), WW G A s.heap (wX5 a ct j7) H locs → lv_has ls 6 [(0, .ref (a 0)), (1, .int y1_1), (2, .int r2), (3, .int r3), (4, .int r4), (5, .int y5_5)] → W p l e ({ frames := 3, cells := 0, slots := 0, locals := 73 } : Room) s m (List.toArray [.ref (a 0)]) below meth c H locs 0 0 (MQ below (va_Qv (fun (_ : Unit) => True) (fun _ t => Af_ G ct (wX5 a ct o) A t) A) (List.toArray [.ref (a 0)]) s 0 0 A) (F0 m 128 ls ([])) := by
                intro H locs ls hW hl
                refine lv_iload_n hx hb dX5_findLifts_128 rfl (lv_at hl 3 rfl) ?_
                refine lv_iload hx hb dX5_findLifts_129 (lv_at hl 5 rfl) ?_
                replace hf := bs_ hf; obtain ⟨r9, hcl, hf⟩ := hf
                refine x_callSN_i (As := [.int r3, .int y5_5]) (rest := []) ⟨hx, hb, hml, hown, hts⟩ (c_X6_has l N kd G ct r3 y5_5 _ hcl) (⟨va_cnB 2 hts gX5_findLifts_X6_has_n93 rfl rfl rfl (hE.1 (RX5, 93, yX6_has) (by decide +kernel)) (hts (.initialized RX6) (by decide +kernel)) (by decide +kernel) ⟨Nat.le_of_ble_eq_true rfl, Nat.le_of_ble_eq_true rfl⟩, hts (.static yX6_has) (by decide +kernel), trivial⟩) hK hE hA hW rfl hl.1 rfl (lv_room (Nat.le_of_ble_eq_true rfl)) dX5_findLifts_131 (fun H locs hW => ?_)
                replace hf := bs_ hf; obtain ⟨j10, hg, hf⟩ := hf
                have J10 : ∀ (H : Heap) (locs : List Loc) (ls : Array Slot), WW G A s.heap (wX5 a ct j10) H locs → lv_has ls 6 [(0, .ref (a 0)), (1, .int y1_1), (2, .int r2), (3, .int r3), (4, .int r4), (5, .int y5_5)] → W p l e ({ frames := 3, cells := 0, slots := 0, locals := 73 } : Room) s m (List.toArray [.ref (a 0)]) below meth c H locs 0 0 (MQ below (va_Qv (fun (_ : Unit) => True) (fun _ t => Af_ G ct (wX5 a ct o) A t) A) (List.toArray [.ref (a 0)]) s 0 0 A) (F0 m 168 ls ([])) := by
                  intro H locs ls hW hl
                  refine lv_iinc (v := (y5_5 + (1 : Int32))) (lv' := [(5, .int (y5_5 + (1 : Int32))), (0, .ref (a 0)), (1, .int y1_1), (2, .int r2), (3, .int r3), (4, .int r4)]) hx hb dX5_findLifts_168 hl (k := 5) rfl rfl (by decide) rfl (fun ls hl => ?_)
                  refine lv_goto (tgt := 76) hx hb dX5_findLifts_171 (by decide) ?_
                  exact ih (y5_5 + (1 : Int32)) j10 hf _ _ _ hW (lv_sub hl [1, 2, 3, 4, 5, 0] rfl)
                clear hf
                refine lv_if_eq (tgt := 168) hx hb dX5_findLifts_134 (by decide) (fun hc => ?_) (fun hc => ?_)
                · have hf := ifp hc hg
                  clear hg
                  have hj := Option.some.inj hf
                  subst hj
                  exact J10 _ _ _ hW (lv_sub hl [0, 1, 2, 3, 4, 5] rfl)
                · have hf := ifn hc hg
                  clear hg
                  refine lv_iload hx hb dX5_findLifts_137 (lv_at hl 4 rfl) ?_
                  refine lv_aload_n hx hb dX5_findLifts_139 rfl (lv_at hl 0 rfl) ?_
                  refine x_get (ci := 5) (v := .ref (a 1)) (C := RX5) (T := TX5) (N := 4) hx hb hts inX5 hown hK hW 0 rfl rfl 0 (by decide) fl12 (fun _ h9 => h9) rfl dX5_findLifts_140 ?_
                  refine x_get (ci := 1) (v := .ref (a 6)) (C := RX1) (T := TX1) (N := 6) hx hb hts inX1 hown hK hW 1 rfl rfl 4 (by decide) fl100 (fun _ h9 => h9) rfl dX5_findLifts_143 ?_
                  refine lv_iload hx hb dX5_findLifts_146 (lv_at hl 5 rfl) ?_
                  replace hf := gd_s hf; obtain ⟨hin, hf⟩ := hf
                  refine x_iald (n := 10) (f := j7 6) hx hb hK hW 4 rfl (okI_in hin) dX5_findLifts_148 ?_
                  replace hf := bs_ hf; obtain ⟨r11, hcl, hf⟩ := hf
                  refine x_callSN_i (As := [.int r4, .int (j7 6 y5_5.toNatClampNeg)]) (rest := []) ⟨hx, hb, hml, hown, hts⟩ (c_X6_has l N kd G ct r4 (j7 6 y5_5.toNatClampNeg) _ hcl) (⟨va_cnB 2 hts gX5_findLifts_X6_has_n93 rfl rfl rfl (hE.1 (RX5, 93, yX6_has) (by decide +kernel)) (hts (.initialized RX6) (by decide +kernel)) (by decide +kernel) ⟨Nat.le_of_ble_eq_true rfl, Nat.le_of_ble_eq_true rfl⟩, hts (.static yX6_has) (by decide +kernel), trivial⟩) hK hE hA hW rfl hl.1 rfl (lv_room (Nat.le_of_ble_eq_true rfl)) dX5_findLifts_149 (fun H locs hW => ?_)
                  refine lv_if_eq (tgt := 168) hx hb dX5_findLifts_152 (by decide) (fun hc => ?_) (fun hc => ?_)
                  · replace hf := ifp hc hf
                    have hj := Option.some.inj hf
                    subst hj
                    exact J10 _ _ _ hW (lv_sub hl [0, 1, 2, 3, 4, 5] rfl)
                  · replace hf := ifn hc hf
                    refine lv_aload_n hx hb dX5_findLifts_155 rfl (lv_at hl 0 rfl) ?_
                    refine x_get (ci := 5) (v := .ref (a 18)) (C := RX5) (T := TX5) (N := 4) hx hb hts inX5 hown hK hW 0 rfl rfl 3 (by decide) fl29 (fun _ h9 => h9) rfl dX5_findLifts_156 ?_
                    refine lv_iload_n hx hb dX5_findLifts_159 rfl (lv_at hl 1 rfl) ?_
                    refine lv_dup2_11 hx hb dX5_findLifts_160 rfl rfl ?_
                    replace hf := gd_s hf; obtain ⟨hin, hf⟩ := hf
                    refine x_iald (n := 8) (f := j7 18) hx hb hK hW 13 rfl (okI_in hin) dX5_findLifts_161 ?_
                    refine lv_iconst (v := (1 : Int32)) hx hb dX5_findLifts_162 (by decide) ?_
                    refine lv_iload hx hb dX5_findLifts_163 (lv_at hl 5 rfl) ?_
                    refine lv_ishl hx hb dX5_findLifts_165 ?_
                    refine lv_ior hx hb dX5_findLifts_166 ?_
                    replace hf := gd_s hf; obtain ⟨hin, hf⟩ := hf
                    refine x_iast (w' := (wX5 a ct (up1 j7 18 y1_1.toNatClampNeg ((j7 18 y1_1.toNatClampNeg) ||| ((1 : Int32) <<< (y5_5 &&& 31)))))) (n := 8) (f := j7 18) hx hb hK hW 13 rfl (okI_in hin) (ws_X5_18 a ct j7 _ _) dX5_findLifts_167 (fun H locs hW => ?_)
                    have hj := Option.some.inj hf
                    subst hj
                    exact J10 _ _ _ hW (lv_sub hl [0, 1, 2, 3, 4, 5] rfl)
              clear hf
              refine lv_if_eq (tgt := 128) hx hb dX5_findLifts_94 (by decide) (fun hc => ?_) (fun hc => ?_)
              · have hf := ifp hc hg
                clear hg
                have hj := Option.some.inj hf
                subst hj
                exact J7 _ _ _ hW (lv_sub hl [0, 1, 2, 3, 4, 5] rfl)
              · have hf := ifn hc hg
                clear hg
                refine lv_iload hx hb dX5_findLifts_97 (lv_at hl 4 rfl) ?_
                refine lv_aload_n hx hb dX5_findLifts_99 rfl (lv_at hl 0 rfl) ?_
                refine x_get (ci := 5) (v := .ref (a 1)) (C := RX5) (T := TX5) (N := 4) hx hb hts inX5 hown hK hW 0 rfl rfl 0 (by decide) fl12 (fun _ h9 => h9) rfl dX5_findLifts_100 ?_
                refine x_get (ci := 1) (v := .ref (a 5)) (C := RX1) (T := TX1) (N := 6) hx hb hts inX1 hown hK hW 1 rfl rfl 3 (by decide) fl97 (fun _ h9 => h9) rfl dX5_findLifts_103 ?_
                refine lv_iload hx hb dX5_findLifts_106 (lv_at hl 5 rfl) ?_
                replace hf := gd_s hf; obtain ⟨hin, hf⟩ := hf
                refine x_iald (n := 10) (f := g5 5) hx hb hK hW 3 rfl (okI_in hin) dX5_findLifts_108 ?_
                replace hf := bs_ hf; obtain ⟨r8, hcl, hf⟩ := hf
                refine x_callSN_i (As := [.int r4, .int (g5 5 y5_5.toNatClampNeg)]) (rest := []) ⟨hx, hb, hml, hown, hts⟩ (c_X6_has l N kd G ct r4 (g5 5 y5_5.toNatClampNeg) _ hcl) (⟨va_cnB 2 hts gX5_findLifts_X6_has_n93 rfl rfl rfl (hE.1 (RX5, 93, yX6_has) (by decide +kernel)) (hts (.initialized RX6) (by decide +kernel)) (by decide +kernel) ⟨Nat.le_of_ble_eq_true rfl, Nat.le_of_ble_eq_true rfl⟩, hts (.static yX6_has) (by decide +kernel), trivial⟩) hK hE hA hW rfl hl.1 rfl (lv_room (Nat.le_of_ble_eq_true rfl)) dX5_findLifts_109 (fun H locs hW => ?_)
                refine lv_if_eq (tgt := 128) hx hb dX5_findLifts_112 (by decide) (fun hc => ?_) (fun hc => ?_)
                · replace hf := ifp hc hf
                  have hj := Option.some.inj hf
                  subst hj
                  exact J7 _ _ _ hW (lv_sub hl [0, 1, 2, 3, 4, 5] rfl)
                · replace hf := ifn hc hf
                  refine lv_aload_n hx hb dX5_findLifts_115 rfl (lv_at hl 0 rfl) ?_
                  refine x_get (ci := 5) (v := .ref (a 17)) (C := RX5) (T := TX5) (N := 4) hx hb hts inX5 hown hK hW 0 rfl rfl 2 (by decide) fl25 (fun _ h9 => h9) rfl dX5_findLifts_116 ?_
                  refine lv_iload_n hx hb dX5_findLifts_119 rfl (lv_at hl 1 rfl) ?_
                  refine lv_dup2_11 hx hb dX5_findLifts_120 rfl rfl ?_
                  replace hf := gd_s hf; obtain ⟨hin, hf⟩ := hf
                  refine x_iald (n := 8) (f := g5 17) hx hb hK hW 12 rfl (okI_in hin) dX5_findLifts_121 ?_
                  refine lv_iconst (v := (1 : Int32)) hx hb dX5_findLifts_122 (by decide) ?_
                  refine lv_iload hx hb dX5_findLifts_123 (lv_at hl 5 rfl) ?_
                  refine lv_ishl hx hb dX5_findLifts_125 ?_
                  refine lv_ior hx hb dX5_findLifts_126 ?_
                  replace hf := gd_s hf; obtain ⟨hin, hf⟩ := hf
                  refine x_iast (w' := (wX5 a ct (up1 g5 17 y1_1.toNatClampNeg ((g5 17 y1_1.toNatClampNeg) ||| ((1 : Int32) <<< (y5_5 &&& 31)))))) (n := 8) (f := g5 17) hx hb hK hW 12 rfl (okI_in hin) (ws_X5_17 a ct g5 _ _) dX5_findLifts_127 (fun H locs hW => ?_)
                  have hj := Option.some.inj hf
                  subst hj
                  exact J7 _ _ _ hW (lv_sub hl [0, 1, 2, 3, 4, 5] rfl)
        exact L5 N (0 : Int32) (up1 (up1 g1 17 y1_1.toNatClampNeg (0 : Int32)) 18 y1_1.toNatClampNeg (0 : Int32)) hg _ _ _ hW (lv_sub hl [4, 5, 3, 2, 1, 0] rfl)
  exact L1 N (0 : Int32) g hg _ _ _ hW (lv_sub hl [1, 0] rfl)
set_option maxHeartbeats 4000000 in
set_option maxRecDepth 100000 in
theorem c_X5_isFewer (l : Launch) (N : Nat) (kd : (Nat → Nat) × (Nat → Nat)) (G : va_G) (ct : Nat → ClassId) (x0 : Int32) (x1 : Int32) (o : Int32) (hf : f_X5_isFewer N x0 x1 = some o) : CtI l yX5_isFewer wsX5_isFewer ({ frames := 1, cells := 0, slots := 0, locals := 20 }) kd G ct [.int x0, .int x1] ([] : va_W) o ([] : va_W) := by
  intro sz
  refine Met.ofW (cc := cX5_isFewer) (maxL := 2) (ret := (some .boolean)) (by decide) rfl ?_
  intro p e s m args below meth c s₁ B hml hv
  obtain ⟨rfl, hsz, hP, hK, hD0, hE⟩ := hv
  have hx := B.exec
  have hb := B.bytes
  have hr := B.returns
  have hts := atoms_spec (ws := wsX5_isFewer) B.pre
  have hown : s.vm.findClass RX5 = some m.cls := findClass_of_methodNamed B.named
  have hlocks := B.notSynchronized
  subst hsz
  have hD := hD0.self (sz := s.heap.size)
  generalize hAe : va_A ([] : va_W) s.heap.size = A at hD hE ⊢
  have hA : ∀ q : Nat, s.heap.size ≤ q → A q := fun q h => by rw [← hAe]; exact Or.inr h
  have hW : WW G A s.heap ([] : va_W) s.heap [] := ⟨hP, hD, va_S.rf⟩
  have hl := lv_entry ([.int x0, .int x1]) (n := 2) (Nat.le_of_ble_eq_true rfl)
  rw [lg_entry_eq]
  generalize (lg_sl ([.int x0, .int x1]) ++ List.replicate (2 - (lg_sl ([.int x0, .int x1])).length) Slot.unset).toArray = ls at hl ⊢
  have hl : lv_has ls 2 [(0, .int x0), (1, .int x1)] := hl
  unfold f_X5_isFewer at hf
  show W p l e ({ frames := 1, cells := 0, slots := 0, locals := 20 } : Room) s m (List.toArray [.int x0, .int x1]) below meth c s.heap [] 0 0 (MQ below (va_Qi (fun r (_ : Unit) => r = o) (fun _ t => Af_ G ct ([] : va_W) A t) A) (List.toArray [.int x0, .int x1]) s 0 0 A) (F0 m 0 ls [])
  refine lv_iload_n hx hb dX5_isFewer_0 rfl (lv_at hl 1 rfl) ?_
  refine lv_iconst (v := (-1 : Int32)) hx hb dX5_isFewer_1 (by decide) ?_
  refine lv_icmp_eq (tgt := 16) hx hb dX5_isFewer_2 (by decide) (fun hc => ?_) (fun hc => ?_)
  · replace hf := ifp hc hf
    refine lv_iconst (v := (1 : Int32)) hx hb dX5_isFewer_16 (by decide) ?_
    refine lv_goto (tgt := 21) hx hb dX5_isFewer_17 (by decide) ?_
    have ho := Option.some.inj hf
    subst ho
    exact x_retz hx hb hr rfl hlocks hK hW rfl rfl dX5_isFewer_21
  · replace hf := ifn hc hf
    refine lv_iload_n hx hb dX5_isFewer_5 rfl (lv_at hl 0 rfl) ?_
    replace hf := bs_ hf; obtain ⟨r1, hcl, hf⟩ := hf
    refine x_callS_i (As := [.int x0]) (rest := []) ⟨hx, hb, hml, hown, hts⟩ (c_J6_bitCount_0f7a4 l N kd G ct x0 _ hcl) (va_cwS 1 hts gX5_isFewer_J6_bitCount_0f7a4 rfl rfl rfl (by decide +kernel) ⟨Nat.le_of_ble_eq_true rfl, Nat.le_of_ble_eq_true rfl⟩) hK hE hA hW rfl hl.1 rfl (lv_room (Nat.le_of_ble_eq_true rfl)) dX5_isFewer_6 (fun H locs hW => ?_)
    refine lv_iload_n hx hb dX5_isFewer_9 rfl (lv_at hl 1 rfl) ?_
    replace hf := bs_ hf; obtain ⟨r2, hcl, hf⟩ := hf
    refine x_callS_i (As := [.int x1]) (rest := [.int r1]) ⟨hx, hb, hml, hown, hts⟩ (c_J6_bitCount_0f7a4 l N kd G ct x1 _ hcl) (va_cwS 1 hts gX5_isFewer_J6_bitCount_0f7a4 rfl rfl rfl (by decide +kernel) ⟨Nat.le_of_ble_eq_true rfl, Nat.le_of_ble_eq_true rfl⟩) hK hE hA hW rfl hl.1 rfl (lv_room (Nat.le_of_ble_eq_true rfl)) dX5_isFewer_10 (fun H locs hW => ?_)
    refine lv_icmp_ge (tgt := 20) hx hb dX5_isFewer_13 (by decide) (fun hc => ?_) (fun hc => ?_)
    · replace hf := ifp hc hf
      refine lv_iconst (v := (0 : Int32)) hx hb dX5_isFewer_20 (by decide) ?_
      have ho := Option.some.inj hf
      subst ho
      exact x_retz hx hb hr rfl hlocks hK hW rfl rfl dX5_isFewer_21
    · replace hf := ifn hc hf
      refine lv_iconst (v := (1 : Int32)) hx hb dX5_isFewer_16 (by decide) ?_
      refine lv_goto (tgt := 21) hx hb dX5_isFewer_17 (by decide) ?_
      have ho := Option.some.inj hf
      subst ho
      exact x_retz hx hb hr rfl hlocks hK hW rfl rfl dX5_isFewer_21
set_option maxHeartbeats 4000000 in
set_option maxRecDepth 100000 in
theorem c_X5_union__17 (l : Launch) (N : Nat) (kd : (Nat → Nat) × (Nat → Nat)) (G : va_G) (ct : Nat → ClassId) (a : Nat → Nat) (g : St_) (x2 : Int32) (o : Int32) (hf : f_X5_union__17 N g x2 = some o) : CtI l yX5_union wsX5_union ({ frames := 1, cells := 0, slots := 0, locals := 21 }) kd G ct [.ref (a 0), .ref (a 17), .int x2] (wX5 a ct g) o (wX5 a ct g) := by
  intro sz
  refine Met.ofW (cc := cX5_union) (maxL := 5) (ret := (some .int)) (by decide) rfl ?_
  intro p e s m args below meth c s₁ B hml hv
  obtain ⟨rfl, hsz, hP, hK, hD0, hE⟩ := hv
  have hx := B.exec
  have hb := B.bytes
  have hr := B.returns
  have hts := atoms_spec (ws := wsX5_union) B.pre
  have hown : s.vm.findClass RX5 = some m.cls := findClass_of_methodNamed B.named
  have hlocks := B.notSynchronized
  have inX3 : ∀ w ∈ wsX30, w ∈ wsX5_union := by decide +kernel
  have inX5 : ∀ w ∈ wsX50, w ∈ wsX5_union := by decide +kernel
  have fl21 := hts (.fieldLink RX5 21 "FittingStrides$Town" "state" "LFittingStrides$State;") (by decide +kernel)
  have fl39 := hts (.fieldLink RX5 39 "FittingStrides$State" "persons" "I") (by decide +kernel)
  subst hsz
  have hD := hD0.self (sz := s.heap.size)
  generalize hAe : va_A (wX5 a ct g) s.heap.size = A at hD hE ⊢
  have hA : ∀ q : Nat, s.heap.size ≤ q → A q := fun q h => by rw [← hAe]; exact Or.inr h
  have hW : WW G A s.heap (wX5 a ct g) s.heap [] := ⟨hP, hD, va_S.rf⟩
  have hl := lv_entry ([.ref (a 0), .ref (a 17), .int x2]) (n := 5) (Nat.le_of_ble_eq_true rfl)
  rw [lg_entry_eq]
  generalize (lg_sl ([.ref (a 0), .ref (a 17), .int x2]) ++ List.replicate (5 - (lg_sl ([.ref (a 0), .ref (a 17), .int x2])).length) Slot.unset).toArray = ls at hl ⊢
  have hl : lv_has ls 5 [(0, .ref (a 0)), (1, .ref (a 17)), (2, .int x2)] := hl
  unfold f_X5_union__17 at hf
  show W p l e ({ frames := 1, cells := 0, slots := 0, locals := 21 } : Room) s m (List.toArray [.ref (a 0), .ref (a 17), .int x2]) below meth c s.heap [] 0 0 (MQ below (va_Qi (fun r (_ : Unit) => r = o) (fun _ t => Af_ G ct (wX5 a ct g) A t) A) (List.toArray [.ref (a 0), .ref (a 17), .int x2]) s 0 0 A) (F0 m 0 ls [])
  refine lv_iconst (v := (0 : Int32)) hx hb dX5_union_0 (by decide) ?_
  refine lv_istore_n (lv' := [(3, .int (0 : Int32)), (0, .ref (a 0)), (1, .ref (a 17)), (2, .int x2)]) hx hb dX5_union_1 rfl hl (by decide) rfl (fun ls hl => ?_)
  refine lv_iconst (v := (0 : Int32)) hx hb dX5_union_2 (by decide) ?_
  refine lv_istore (lv' := [(4, .int (0 : Int32)), (3, .int (0 : Int32)), (0, .ref (a 0)), (1, .ref (a 17)), (2, .int x2)]) hx hb dX5_union_3 hl (by decide) rfl (fun ls hl => ?_)
  replace hf := bs_ hf; obtain ⟨v1, hg, hf⟩ := hf
  have J1 : ∀ (H : Heap) (locs : List Loc) (ls : Array Slot), WW G A s.heap (wX5 a ct g) H locs → lv_has ls 5 [(3, .int v1)] → W p l e ({ frames := 1, cells := 0, slots := 0, locals := 21 } : Room) s m (List.toArray [.ref (a 0), .ref (a 17), .int x2]) below meth c H locs 0 0 (MQ below (va_Qi (fun r (_ : Unit) => r = o) (fun _ t => Af_ G ct (wX5 a ct g) A t) A) (List.toArray [.ref (a 0), .ref (a 17), .int x2]) s 0 0 A) (F0 m 39 ls []) := by
    intro H locs ls hW hl
    refine lv_iload_n hx hb dX5_union_39 rfl (lv_at hl 0 rfl) ?_
    have ho := Option.some.inj hf
    subst ho
    exact x_reti (sz := 0) (w0 := []) (A1 := A) hx hb hr hlocks hK hW rfl rfl dX5_union_40
  clear hf
  have L1 : ∀ (n : Nat) (y1_3 : Int32) (y1_4 : Int32), f_X5_union__17_L5 N g x2 n y1_3 y1_4 = some v1 → ∀ (H : Heap) (locs : List Loc) (ls : Array Slot), WW G A s.heap (wX5 a ct g) H locs → lv_has ls 5 [(0, .ref (a 0)), (1, .ref (a 17)), (2, .int x2), (3, .int y1_3), (4, .int y1_4)] → W p l e ({ frames := 1, cells := 0, slots := 0, locals := 21 } : Room) s m (List.toArray [.ref (a 0), .ref (a 17), .int x2]) below meth c H locs 0 0 (MQ below (va_Qi (fun r (_ : Unit) => r = o) (fun _ t => Af_ G ct (wX5 a ct g) A t) A) (List.toArray [.ref (a 0), .ref (a 17), .int x2]) s 0 0 A) (F0 m 5 ls []) := by
    intro n
    induction n with
    | zero =>
      intro y1_3 y1_4 hf
      rw [f_X5_union__17_L5] at hf
      cases hf
    | succ n ih =>
      intro y1_3 y1_4 hf H locs ls hW hl
      rw [f_X5_union__17_L5] at hf
      refine lv_iload hx hb dX5_union_5 (lv_at hl 4 rfl) ?_
      refine lv_aload_n hx hb dX5_union_7 rfl (lv_at hl 0 rfl) ?_
      refine x_get (ci := 5) (v := .ref (a 8)) (C := RX5) (T := TX5) (N := 4) hx hb hts inX5 hown hK hW 0 rfl rfl 1 (by decide) fl21 (fun _ h9 => h9) rfl dX5_union_8 ?_
      refine x_get (ci := 3) (v := .int (g 9 0)) (C := RX3) (T := TX3) (N := 8) hx hb hts inX3 hown hK hW 6 rfl rfl 0 (by decide) fl39 (fun _ h9 => h9) rfl dX5_union_11 ?_
      refine lv_icmp_ge (tgt := 39) hx hb dX5_union_14 (by decide) (fun hc => ?_) (fun hc => ?_)
      · replace hf := ifp hc hf
        have hj := Option.some.inj hf
        subst hj
        exact J1 _ _ _ hW (lv_sub hl [3] rfl)
      · replace hf := ifn hc hf
        refine lv_iload_n hx hb dX5_union_17 rfl (lv_at hl 2 rfl) ?_
        refine lv_iload hx hb dX5_union_18 (lv_at hl 4 rfl) ?_
        replace hf := bs_ hf; obtain ⟨r2, hcl, hf⟩ := hf
        refine x_callSN_i (As := [.int x2, .int y1_4]) (rest := []) ⟨hx, hb, hml, hown, hts⟩ (c_X6_has l N kd G ct x2 y1_4 _ hcl) (⟨va_cnB 2 hts gX5_union_X6_has_n93 rfl rfl rfl (hE.1 (RX5, 93, yX6_has) (by decide +kernel)) (hts (.initialized RX6) (by decide +kernel)) (by decide +kernel) ⟨Nat.le_of_ble_eq_true rfl, Nat.le_of_ble_eq_true rfl⟩, hts (.static yX6_has) (by decide +kernel), trivial⟩) hK hE hA hW rfl hl.1 rfl (lv_room (Nat.le_of_ble_eq_true rfl)) dX5_union_20 (fun H locs hW => ?_)
        replace hf := bs_ hf; obtain ⟨j3, hg, hf⟩ := hf
        have J3 : ∀ (H : Heap) (locs : List Loc) (ls : Array Slot), WW G A s.heap (wX5 a ct g) H locs → lv_has ls 5 [(0, .ref (a 0)), (1, .ref (a 17)), (2, .int x2), (3, .int j3), (4, .int y1_4)] → W p l e ({ frames := 1, cells := 0, slots := 0, locals := 21 } : Room) s m (List.toArray [.ref (a 0), .ref (a 17), .int x2]) below meth c H locs 0 0 (MQ below (va_Qi (fun r (_ : Unit) => r = o) (fun _ t => Af_ G ct (wX5 a ct g) A t) A) (List.toArray [.ref (a 0), .ref (a 17), .int x2]) s 0 0 A) (F0 m 33 ls ([])) := by
          intro H locs ls hW hl
          refine lv_iinc (v := (y1_4 + (1 : Int32))) (lv' := [(4, .int (y1_4 + (1 : Int32))), (0, .ref (a 0)), (1, .ref (a 17)), (2, .int x2), (3, .int j3)]) hx hb dX5_union_33 hl (k := 4) rfl rfl (by decide) rfl (fun ls hl => ?_)
          refine lv_goto (tgt := 5) hx hb dX5_union_36 (by decide) ?_
          exact ih j3 (y1_4 + (1 : Int32)) hf _ _ _ hW (lv_sub hl [1, 2, 3, 4, 0] rfl)
        clear hf
        refine lv_if_eq (tgt := 33) hx hb dX5_union_23 (by decide) (fun hc => ?_) (fun hc => ?_)
        · have hf := ifp hc hg
          clear hg
          have hj := Option.some.inj hf
          subst hj
          exact J3 _ _ _ hW (lv_sub hl [0, 1, 2, 3, 4] rfl)
        · have hf := ifn hc hg
          clear hg
          refine lv_iload_n hx hb dX5_union_26 rfl (lv_at hl 3 rfl) ?_
          refine lv_aload_n hx hb dX5_union_27 rfl (lv_at hl 1 rfl) ?_
          refine lv_iload hx hb dX5_union_28 (lv_at hl 4 rfl) ?_
          replace hf := gd_s hf; obtain ⟨hin, hf⟩ := hf
          refine x_iald (n := 8) (f := g 17) hx hb hK hW 12 rfl (okI_in hin) dX5_union_30 ?_
          refine lv_ior hx hb dX5_union_31 ?_
          refine lv_istore_n (lv' := [(3, .int (y1_3 ||| (g 17 y1_4.toNatClampNeg))), (0, .ref (a 0)), (1, .ref (a 17)), (2, .int x2), (4, .int y1_4)]) hx hb dX5_union_32 rfl hl (by decide) rfl (fun ls hl => ?_)
          have hj := Option.some.inj hf
          subst hj
          exact J3 _ _ _ hW (lv_sub hl [1, 2, 3, 0, 4] rfl)
  exact L1 N (0 : Int32) (0 : Int32) hg _ _ _ hW (lv_sub hl [2, 3, 4, 1, 0] rfl)
set_option maxHeartbeats 4000000 in
set_option maxRecDepth 100000 in
theorem c_X5_union__18 (l : Launch) (N : Nat) (kd : (Nat → Nat) × (Nat → Nat)) (G : va_G) (ct : Nat → ClassId) (a : Nat → Nat) (g : St_) (x2 : Int32) (o : Int32) (hf : f_X5_union__18 N g x2 = some o) : CtI l yX5_union wsX5_union ({ frames := 1, cells := 0, slots := 0, locals := 21 }) kd G ct [.ref (a 0), .ref (a 18), .int x2] (wX5 a ct g) o (wX5 a ct g) := by
  intro sz
  refine Met.ofW (cc := cX5_union) (maxL := 5) (ret := (some .int)) (by decide) rfl ?_
  intro p e s m args below meth c s₁ B hml hv
  obtain ⟨rfl, hsz, hP, hK, hD0, hE⟩ := hv
  have hx := B.exec
  have hb := B.bytes
  have hr := B.returns
  have hts := atoms_spec (ws := wsX5_union) B.pre
  have hown : s.vm.findClass RX5 = some m.cls := findClass_of_methodNamed B.named
  have hlocks := B.notSynchronized
  have inX3 : ∀ w ∈ wsX30, w ∈ wsX5_union := by decide +kernel
  have inX5 : ∀ w ∈ wsX50, w ∈ wsX5_union := by decide +kernel
  have fl21 := hts (.fieldLink RX5 21 "FittingStrides$Town" "state" "LFittingStrides$State;") (by decide +kernel)
  have fl39 := hts (.fieldLink RX5 39 "FittingStrides$State" "persons" "I") (by decide +kernel)
  subst hsz
  have hD := hD0.self (sz := s.heap.size)
  generalize hAe : va_A (wX5 a ct g) s.heap.size = A at hD hE ⊢
  have hA : ∀ q : Nat, s.heap.size ≤ q → A q := fun q h => by rw [← hAe]; exact Or.inr h
  have hW : WW G A s.heap (wX5 a ct g) s.heap [] := ⟨hP, hD, va_S.rf⟩
  have hl := lv_entry ([.ref (a 0), .ref (a 18), .int x2]) (n := 5) (Nat.le_of_ble_eq_true rfl)
  rw [lg_entry_eq]
  generalize (lg_sl ([.ref (a 0), .ref (a 18), .int x2]) ++ List.replicate (5 - (lg_sl ([.ref (a 0), .ref (a 18), .int x2])).length) Slot.unset).toArray = ls at hl ⊢
  have hl : lv_has ls 5 [(0, .ref (a 0)), (1, .ref (a 18)), (2, .int x2)] := hl
  unfold f_X5_union__18 at hf
  show W p l e ({ frames := 1, cells := 0, slots := 0, locals := 21 } : Room) s m (List.toArray [.ref (a 0), .ref (a 18), .int x2]) below meth c s.heap [] 0 0 (MQ below (va_Qi (fun r (_ : Unit) => r = o) (fun _ t => Af_ G ct (wX5 a ct g) A t) A) (List.toArray [.ref (a 0), .ref (a 18), .int x2]) s 0 0 A) (F0 m 0 ls [])
  refine lv_iconst (v := (0 : Int32)) hx hb dX5_union_0 (by decide) ?_
  refine lv_istore_n (lv' := [(3, .int (0 : Int32)), (0, .ref (a 0)), (1, .ref (a 18)), (2, .int x2)]) hx hb dX5_union_1 rfl hl (by decide) rfl (fun ls hl => ?_)
  refine lv_iconst (v := (0 : Int32)) hx hb dX5_union_2 (by decide) ?_
  refine lv_istore (lv' := [(4, .int (0 : Int32)), (3, .int (0 : Int32)), (0, .ref (a 0)), (1, .ref (a 18)), (2, .int x2)]) hx hb dX5_union_3 hl (by decide) rfl (fun ls hl => ?_)
  replace hf := bs_ hf; obtain ⟨v1, hg, hf⟩ := hf
  have J1 : ∀ (H : Heap) (locs : List Loc) (ls : Array Slot), WW G A s.heap (wX5 a ct g) H locs → lv_has ls 5 [(3, .int v1)] → W p l e ({ frames := 1, cells := 0, slots := 0, locals := 21 } : Room) s m (List.toArray [.ref (a 0), .ref (a 18), .int x2]) below meth c H locs 0 0 (MQ below (va_Qi (fun r (_ : Unit) => r = o) (fun _ t => Af_ G ct (wX5 a ct g) A t) A) (List.toArray [.ref (a 0), .ref (a 18), .int x2]) s 0 0 A) (F0 m 39 ls []) := by
    intro H locs ls hW hl
    refine lv_iload_n hx hb dX5_union_39 rfl (lv_at hl 0 rfl) ?_
    have ho := Option.some.inj hf
    subst ho
    exact x_reti (sz := 0) (w0 := []) (A1 := A) hx hb hr hlocks hK hW rfl rfl dX5_union_40
  clear hf
  have L1 : ∀ (n : Nat) (y1_3 : Int32) (y1_4 : Int32), f_X5_union__18_L5 N g x2 n y1_3 y1_4 = some v1 → ∀ (H : Heap) (locs : List Loc) (ls : Array Slot), WW G A s.heap (wX5 a ct g) H locs → lv_has ls 5 [(0, .ref (a 0)), (1, .ref (a 18)), (2, .int x2), (3, .int y1_3), (4, .int y1_4)] → W p l e ({ frames := 1, cells := 0, slots := 0, locals := 21 } : Room) s m (List.toArray [.ref (a 0), .ref (a 18), .int x2]) below meth c H locs 0 0 (MQ below (va_Qi (fun r (_ : Unit) => r = o) (fun _ t => Af_ G ct (wX5 a ct g) A t) A) (List.toArray [.ref (a 0), .ref (a 18), .int x2]) s 0 0 A) (F0 m 5 ls []) := by
    intro n
    induction n with
    | zero =>
      intro y1_3 y1_4 hf
      rw [f_X5_union__18_L5] at hf
      cases hf
    | succ n ih =>
      intro y1_3 y1_4 hf H locs ls hW hl
      rw [f_X5_union__18_L5] at hf
      refine lv_iload hx hb dX5_union_5 (lv_at hl 4 rfl) ?_
      refine lv_aload_n hx hb dX5_union_7 rfl (lv_at hl 0 rfl) ?_
      refine x_get (ci := 5) (v := .ref (a 8)) (C := RX5) (T := TX5) (N := 4) hx hb hts inX5 hown hK hW 0 rfl rfl 1 (by decide) fl21 (fun _ h9 => h9) rfl dX5_union_8 ?_
      refine x_get (ci := 3) (v := .int (g 9 0)) (C := RX3) (T := TX3) (N := 8) hx hb hts inX3 hown hK hW 6 rfl rfl 0 (by decide) fl39 (fun _ h9 => h9) rfl dX5_union_11 ?_
      refine lv_icmp_ge (tgt := 39) hx hb dX5_union_14 (by decide) (fun hc => ?_) (fun hc => ?_)
      · replace hf := ifp hc hf
        have hj := Option.some.inj hf
        subst hj
        exact J1 _ _ _ hW (lv_sub hl [3] rfl)
      · replace hf := ifn hc hf
        refine lv_iload_n hx hb dX5_union_17 rfl (lv_at hl 2 rfl) ?_
        refine lv_iload hx hb dX5_union_18 (lv_at hl 4 rfl) ?_
        replace hf := bs_ hf; obtain ⟨r2, hcl, hf⟩ := hf
        refine x_callSN_i (As := [.int x2, .int y1_4]) (rest := []) ⟨hx, hb, hml, hown, hts⟩ (c_X6_has l N kd G ct x2 y1_4 _ hcl) (⟨va_cnB 2 hts gX5_union_X6_has_n93 rfl rfl rfl (hE.1 (RX5, 93, yX6_has) (by decide +kernel)) (hts (.initialized RX6) (by decide +kernel)) (by decide +kernel) ⟨Nat.le_of_ble_eq_true rfl, Nat.le_of_ble_eq_true rfl⟩, hts (.static yX6_has) (by decide +kernel), trivial⟩) hK hE hA hW rfl hl.1 rfl (lv_room (Nat.le_of_ble_eq_true rfl)) dX5_union_20 (fun H locs hW => ?_)
        replace hf := bs_ hf; obtain ⟨j3, hg, hf⟩ := hf
        have J3 : ∀ (H : Heap) (locs : List Loc) (ls : Array Slot), WW G A s.heap (wX5 a ct g) H locs → lv_has ls 5 [(0, .ref (a 0)), (1, .ref (a 18)), (2, .int x2), (3, .int j3), (4, .int y1_4)] → W p l e ({ frames := 1, cells := 0, slots := 0, locals := 21 } : Room) s m (List.toArray [.ref (a 0), .ref (a 18), .int x2]) below meth c H locs 0 0 (MQ below (va_Qi (fun r (_ : Unit) => r = o) (fun _ t => Af_ G ct (wX5 a ct g) A t) A) (List.toArray [.ref (a 0), .ref (a 18), .int x2]) s 0 0 A) (F0 m 33 ls ([])) := by
          intro H locs ls hW hl
          refine lv_iinc (v := (y1_4 + (1 : Int32))) (lv' := [(4, .int (y1_4 + (1 : Int32))), (0, .ref (a 0)), (1, .ref (a 18)), (2, .int x2), (3, .int j3)]) hx hb dX5_union_33 hl (k := 4) rfl rfl (by decide) rfl (fun ls hl => ?_)
          refine lv_goto (tgt := 5) hx hb dX5_union_36 (by decide) ?_
          exact ih j3 (y1_4 + (1 : Int32)) hf _ _ _ hW (lv_sub hl [1, 2, 3, 4, 0] rfl)
        clear hf
        refine lv_if_eq (tgt := 33) hx hb dX5_union_23 (by decide) (fun hc => ?_) (fun hc => ?_)
        · have hf := ifp hc hg
          clear hg
          have hj := Option.some.inj hf
          subst hj
          exact J3 _ _ _ hW (lv_sub hl [0, 1, 2, 3, 4] rfl)
        · have hf := ifn hc hg
          clear hg
          refine lv_iload_n hx hb dX5_union_26 rfl (lv_at hl 3 rfl) ?_
          refine lv_aload_n hx hb dX5_union_27 rfl (lv_at hl 1 rfl) ?_
          refine lv_iload hx hb dX5_union_28 (lv_at hl 4 rfl) ?_
          replace hf := gd_s hf; obtain ⟨hin, hf⟩ := hf
          refine x_iald (n := 8) (f := g 18) hx hb hK hW 13 rfl (okI_in hin) dX5_union_30 ?_
          refine lv_ior hx hb dX5_union_31 ?_
          refine lv_istore_n (lv' := [(3, .int (y1_3 ||| (g 18 y1_4.toNatClampNeg))), (0, .ref (a 0)), (1, .ref (a 18)), (2, .int x2), (4, .int y1_4)]) hx hb dX5_union_32 rfl hl (by decide) rfl (fun ls hl => ?_)
          have hj := Option.some.inj hf
          subst hj
          exact J3 _ _ _ hW (lv_sub hl [1, 2, 3, 0, 4] rfl)
  exact L1 N (0 : Int32) (0 : Int32) hg _ _ _ hW (lv_sub hl [2, 3, 4, 1, 0] rfl)
set_option maxHeartbeats 4000000 in
set_option maxRecDepth 100000 in
theorem c_X5_fewestCarriers (l : Launch) (N : Nat) (kd : (Nat → Nat) × (Nat → Nat)) (G : va_G) (ct : Nat → ClassId) (a : Nat → Nat) (g : St_) (x1 : Int32) (x2 : Int32) (o : (Int32 × St_)) (hf : f_X5_fewestCarriers N g x1 x2 = some o) : CtI l yX5_fewestCarriers wsX5_fewestCarriers ({ frames := 4, cells := 0, slots := 0, locals := 98 }) kd G ct [.ref (a 0), .int x1, .int x2] (wX5 a ct g) o.1 (wX5 a ct o.2) := by
  intro sz
  refine Met.ofW (cc := cX5_fewestCarriers) (maxL := 9) (ret := (some .int)) (by decide) rfl ?_
  intro p e s m args below meth c s₁ B hml hv
  obtain ⟨rfl, hsz, hP, hK, hD0, hE⟩ := hv
  have hx := B.exec
  have hb := B.bytes
  have hr := B.returns
  have hts := atoms_spec (ws := wsX5_fewestCarriers) B.pre
  have hown : s.vm.findClass RX5 = some m.cls := findClass_of_methodNamed B.named
  have hlocks := B.notSynchronized
  have inX3 : ∀ w ∈ wsX30, w ∈ wsX5_fewestCarriers := by decide +kernel
  have inX5 : ∀ w ∈ wsX50, w ∈ wsX5_fewestCarriers := by decide +kernel
  have fl21 := hts (.fieldLink RX5 21 "FittingStrides$Town" "state" "LFittingStrides$State;") (by decide +kernel)
  have fl25 := hts (.fieldLink RX5 25 "FittingStrides$Town" "liftsUp" "[I") (by decide +kernel)
  have fl29 := hts (.fieldLink RX5 29 "FittingStrides$Town" "liftsDown" "[I") (by decide +kernel)
  have fl39 := hts (.fieldLink RX5 39 "FittingStrides$State" "persons" "I") (by decide +kernel)
  have fl66 := hts (.fieldLink RX5 66 "FittingStrides$State" "firsts" "[I") (by decide +kernel)
  have fl73 := hts (.fieldLink RX5 73 "FittingStrides$State" "seconds" "[I") (by decide +kernel)
  have fl113 := hts (.fieldLink RX5 113 "FittingStrides$State" "at" "[I") (by decide +kernel)
  subst hsz
  have hD := hD0.self (sz := s.heap.size)
  generalize hAe : va_A (wX5 a ct g) s.heap.size = A at hD hE ⊢
  have hA : ∀ q : Nat, s.heap.size ≤ q → A q := fun q h => by rw [← hAe]; exact Or.inr h
  have hW : WW G A s.heap (wX5 a ct g) s.heap [] := ⟨hP, hD, va_S.rf⟩
  have hl := lv_entry ([.ref (a 0), .int x1, .int x2]) (n := 9) (Nat.le_of_ble_eq_true rfl)
  rw [lg_entry_eq]
  generalize (lg_sl ([.ref (a 0), .int x1, .int x2]) ++ List.replicate (9 - (lg_sl ([.ref (a 0), .int x1, .int x2])).length) Slot.unset).toArray = ls at hl ⊢
  have hl : lv_has ls 9 [(0, .ref (a 0)), (1, .int x1), (2, .int x2)] := hl
  unfold f_X5_fewestCarriers at hf
  show W p l e ({ frames := 4, cells := 0, slots := 0, locals := 98 } : Room) s m (List.toArray [.ref (a 0), .int x1, .int x2]) below meth c s.heap [] 0 0 (MQ below (va_Qi (fun r (_ : Unit) => r = o.1) (fun _ t => Af_ G ct (wX5 a ct o.2) A t) A) (List.toArray [.ref (a 0), .int x1, .int x2]) s 0 0 A) (F0 m 0 ls [])
  refine lv_aload_n hx hb dX5_fewestCarriers_0 rfl (lv_at hl 0 rfl) ?_
  replace hf := bs_ hf; obtain ⟨r1, hcl, hf⟩ := hf
  refine x_callW_v (w' := (wX5 a ct r1)) (As := []) (rest := []) (ci := 5) ⟨hx, hb, hml, hown, hts⟩ (c_X5_findLifts l N kd G ct a g _ hcl) (cwV 0 hts gX5_fewestCarriers_X5_findLifts rfl rfl rfl (by decide +kernel) ⟨Nat.le_of_ble_eq_true rfl, Nat.le_of_ble_eq_true rfl⟩) hK hE hA hW rfl rfl 0 rfl rfl rfl rfl hl.1 rfl (lv_room (Nat.le_of_ble_eq_true rfl)) dX5_fewestCarriers_1 (fun H locs hW => ?_)
  refine lv_aload_n hx hb dX5_fewestCarriers_4 rfl (lv_at hl 0 rfl) ?_
  refine lv_aload_n hx hb dX5_fewestCarriers_5 rfl (lv_at hl 0 rfl) ?_
  refine x_get (ci := 5) (v := .ref (a 8)) (C := RX5) (T := TX5) (N := 4) hx hb hts inX5 hown hK hW 0 rfl rfl 1 (by decide) fl21 (fun _ h9 => h9) rfl dX5_fewestCarriers_6 ?_
  refine x_get (ci := 3) (v := .ref (a 11)) (C := RX3) (T := TX3) (N := 8) hx hb hts inX3 hown hK hW 6 rfl rfl 2 (by decide) fl66 (fun _ h9 => h9) rfl dX5_fewestCarriers_9 ?_
  refine lv_iload_n hx hb dX5_fewestCarriers_12 rfl (lv_at hl 1 rfl) ?_
  replace hf := gd_s hf; obtain ⟨hin, hf⟩ := hf
  refine x_iald (n := 8) (f := r1 11) hx hb hK hW 8 rfl (okI_in hin) dX5_fewestCarriers_13 ?_
  refine lv_aload_n hx hb dX5_fewestCarriers_14 rfl (lv_at hl 0 rfl) ?_
  refine x_get (ci := 5) (v := .ref (a 8)) (C := RX5) (T := TX5) (N := 4) hx hb hts inX5 hown hK hW 0 rfl rfl 1 (by decide) fl21 (fun _ h9 => h9) rfl dX5_fewestCarriers_15 ?_
  refine x_get (ci := 3) (v := .ref (a 12)) (C := RX3) (T := TX3) (N := 8) hx hb hts inX3 hown hK hW 6 rfl rfl 3 (by decide) fl73 (fun _ h9 => h9) rfl dX5_fewestCarriers_18 ?_
  refine lv_iload_n hx hb dX5_fewestCarriers_21 rfl (lv_at hl 1 rfl) ?_
  replace hf := gd_s hf; obtain ⟨hin, hf⟩ := hf
  refine x_iald (n := 8) (f := r1 12) hx hb hK hW 9 rfl (okI_in hin) dX5_fewestCarriers_22 ?_
  replace hf := bs_ hf; obtain ⟨r2, hcl, hf⟩ := hf
  refine x_callW_i (w' := (wX5 a ct r1)) (As := [.int (r1 11 x1.toNatClampNeg), .int (r1 12 x1.toNatClampNeg)]) (rest := []) (ci := 5) ⟨hx, hb, hml, hown, hts⟩ (c_X5_upStairs l N kd G ct a r1 (r1 11 x1.toNatClampNeg) (r1 12 x1.toNatClampNeg) _ hcl) (cwV 2 hts gX5_fewestCarriers_X5_upStairs rfl rfl rfl (by decide +kernel) ⟨Nat.le_of_ble_eq_true rfl, Nat.le_of_ble_eq_true rfl⟩) hK hE hA hW rfl rfl 0 rfl rfl rfl rfl hl.1 rfl (lv_room (Nat.le_of_ble_eq_true rfl)) dX5_fewestCarriers_23 (fun H locs hW => ?_)
  refine lv_istore_n (lv' := [(3, .int r2), (0, .ref (a 0)), (1, .int x1), (2, .int x2)]) hx hb dX5_fewestCarriers_26 rfl hl (by decide) rfl (fun ls hl => ?_)
  refine lv_aload_n hx hb dX5_fewestCarriers_27 rfl (lv_at hl 1 rfl) ?_
  refine lv_iload_n hx hb dX5_fewestCarriers_28 rfl (lv_at hl 0 rfl) ?_
  replace hf := bs_ hf; obtain ⟨r3, hcl, hf⟩ := hf
  refine x_callW_i (w' := (wX5 a ct r1)) (As := [.int r2]) (rest := []) (ci := 5) ⟨hx, hb, hml, hown, hts⟩ (c_X5_downStairs l N kd G ct a r1 r2 _ hcl) (cwV 1 hts gX5_fewestCarriers_X5_downStairs rfl rfl rfl (by decide +kernel) ⟨Nat.le_of_ble_eq_true rfl, Nat.le_of_ble_eq_true rfl⟩) hK hE hA hW rfl rfl 0 rfl rfl rfl rfl hl.1 rfl (lv_room (Nat.le_of_ble_eq_true rfl)) dX5_fewestCarriers_29 (fun H locs hW => ?_)
  refine lv_istore (lv' := [(4, .int r3), (3, .int r2), (0, .ref (a 0)), (1, .int x1), (2, .int x2)]) hx hb dX5_fewestCarriers_32 hl (by decide) rfl (fun ls hl => ?_)
  refine lv_iconst (v := (-1 : Int32)) hx hb dX5_fewestCarriers_34 (by decide) ?_
  refine lv_istore (lv' := [(5, .int (-1 : Int32)), (4, .int r3), (3, .int r2), (0, .ref (a 0)), (1, .int x1), (2, .int x2)]) hx hb dX5_fewestCarriers_35 hl (by decide) rfl (fun ls hl => ?_)
  refine lv_iconst (v := (0 : Int32)) hx hb dX5_fewestCarriers_37 (by decide) ?_
  refine lv_istore (lv' := [(6, .int (0 : Int32)), (5, .int (-1 : Int32)), (4, .int r3), (3, .int r2), (0, .ref (a 0)), (1, .int x1), (2, .int x2)]) hx hb dX5_fewestCarriers_38 hl (by decide) rfl (fun ls hl => ?_)
  replace hf := bs_ hf; obtain ⟨v4, hg, hf⟩ := hf
  have J4 : ∀ (H : Heap) (locs : List Loc) (ls : Array Slot), WW G A s.heap (wX5 a ct r1) H locs → lv_has ls 9 [(5, .int v4)] → W p l e ({ frames := 4, cells := 0, slots := 0, locals := 98 } : Room) s m (List.toArray [.ref (a 0), .int x1, .int x2]) below meth c H locs 0 0 (MQ below (va_Qi (fun r (_ : Unit) => r = o.1) (fun _ t => Af_ G ct (wX5 a ct o.2) A t) A) (List.toArray [.ref (a 0), .int x1, .int x2]) s 0 0 A) (F0 m 132 ls []) := by
    intro H locs ls hW hl
    refine lv_iload hx hb dX5_fewestCarriers_132 (lv_at hl 0 rfl) ?_
    have ho := Option.some.inj hf
    subst ho
    exact x_reti (sz := 0) (w0 := []) (A1 := A) hx hb hr hlocks hK hW rfl rfl dX5_fewestCarriers_134
  clear hf
  have L4 : ∀ (n : Nat) (y4_5 : Int32) (y4_6 : Int32), f_X5_fewestCarriers_L40 N r1 x1 x2 r2 r3 n y4_5 y4_6 = some v4 → ∀ (H : Heap) (locs : List Loc) (ls : Array Slot), WW G A s.heap (wX5 a ct r1) H locs → lv_has ls 9 [(0, .ref (a 0)), (1, .int x1), (2, .int x2), (3, .int r2), (4, .int r3), (5, .int y4_5), (6, .int y4_6)] → W p l e ({ frames := 4, cells := 0, slots := 0, locals := 98 } : Room) s m (List.toArray [.ref (a 0), .int x1, .int x2]) below meth c H locs 0 0 (MQ below (va_Qi (fun r (_ : Unit) => r = o.1) (fun _ t => Af_ G ct (wX5 a ct o.2) A t) A) (List.toArray [.ref (a 0), .int x1, .int x2]) s 0 0 A) (F0 m 40 ls []) := by
    intro n
    induction n with
    | zero =>
      intro y4_5 y4_6 hf
      rw [f_X5_fewestCarriers_L40] at hf
      cases hf
    | succ n ih =>
      intro y4_5 y4_6 hf H locs ls hW hl
      rw [f_X5_fewestCarriers_L40] at hf
      refine lv_iload hx hb dX5_fewestCarriers_40 (lv_at hl 6 rfl) ?_
      refine lv_iconst (v := (1 : Int32)) hx hb dX5_fewestCarriers_42 (by decide) ?_
      refine lv_aload_n hx hb dX5_fewestCarriers_43 rfl (lv_at hl 0 rfl) ?_
      refine x_get (ci := 5) (v := .ref (a 8)) (C := RX5) (T := TX5) (N := 4) hx hb hts inX5 hown hK hW 0 rfl rfl 1 (by decide) fl21 (fun _ h9 => h9) rfl dX5_fewestCarriers_44 ?_
      refine x_get (ci := 3) (v := .int (r1 9 0)) (C := RX3) (T := TX3) (N := 8) hx hb hts inX3 hown hK hW 6 rfl rfl 0 (by decide) fl39 (fun _ h9 => h9) rfl dX5_fewestCarriers_47 ?_
      refine lv_ishl hx hb dX5_fewestCarriers_50 ?_
      refine lv_icmp_ge (tgt := 132) hx hb dX5_fewestCarriers_51 (by decide) (fun hc => ?_) (fun hc => ?_)
      · replace hf := ifp hc hf
        have hj := Option.some.inj hf
        subst hj
        exact J4 _ _ _ hW (lv_sub hl [5] rfl)
      · replace hf := ifn hc hf
        refine lv_iload hx hb dX5_fewestCarriers_54 (lv_at hl 6 rfl) ?_
        refine lv_iload hx hb dX5_fewestCarriers_56 (lv_at hl 5 rfl) ?_
        replace hf := bs_ hf; obtain ⟨r5, hcl, hf⟩ := hf
        refine x_callS_i (As := [.int y4_6, .int y4_5]) (rest := []) ⟨hx, hb, hml, hown, hts⟩ (c_X5_isFewer l N kd G ct y4_6 y4_5 _ hcl) (va_cwS 2 hts gX5_fewestCarriers_X5_isFewer rfl rfl rfl (by decide +kernel) ⟨Nat.le_of_ble_eq_true rfl, Nat.le_of_ble_eq_true rfl⟩) hK hE hA hW rfl hl.1 rfl (lv_room (Nat.le_of_ble_eq_true rfl)) dX5_fewestCarriers_58 (fun H locs hW => ?_)
        replace hf := bs_ hf; obtain ⟨j6, hg, hf⟩ := hf
        have J6 : ∀ (H : Heap) (locs : List Loc) (ls : Array Slot), WW G A s.heap (wX5 a ct r1) H locs → lv_has ls 9 [(0, .ref (a 0)), (1, .int x1), (2, .int x2), (3, .int r2), (4, .int r3), (5, .int j6), (6, .int y4_6)] → W p l e ({ frames := 4, cells := 0, slots := 0, locals := 98 } : Room) s m (List.toArray [.ref (a 0), .int x1, .int x2]) below meth c H locs 0 0 (MQ below (va_Qi (fun r (_ : Unit) => r = o.1) (fun _ t => Af_ G ct (wX5 a ct o.2) A t) A) (List.toArray [.ref (a 0), .int x1, .int x2]) s 0 0 A) (F0 m 126 ls ([])) := by
          intro H locs ls hW hl
          refine lv_iinc (v := (y4_6 + (1 : Int32))) (lv' := [(6, .int (y4_6 + (1 : Int32))), (0, .ref (a 0)), (1, .int x1), (2, .int x2), (3, .int r2), (4, .int r3), (5, .int j6)]) hx hb dX5_fewestCarriers_126 hl (k := 6) rfl rfl (by decide) rfl (fun ls hl => ?_)
          refine lv_goto (tgt := 40) hx hb dX5_fewestCarriers_129 (by decide) ?_
          exact ih j6 (y4_6 + (1 : Int32)) hf _ _ _ hW (lv_sub hl [1, 2, 3, 4, 5, 6, 0] rfl)
        clear hf
        refine lv_if_eq (tgt := 126) hx hb dX5_fewestCarriers_61 (by decide) (fun hc => ?_) (fun hc => ?_)
        · have hf := ifp hc hg
          clear hg
          have hj := Option.some.inj hf
          subst hj
          exact J6 _ _ _ hW (lv_sub hl [0, 1, 2, 3, 4, 5, 6] rfl)
        · have hf := ifn hc hg
          clear hg
          refine lv_iload_n hx hb dX5_fewestCarriers_64 rfl (lv_at hl 3 rfl) ?_
          refine lv_aload_n hx hb dX5_fewestCarriers_65 rfl (lv_at hl 0 rfl) ?_
          refine lv_aload_n hx hb dX5_fewestCarriers_66 rfl (lv_at hl 0 rfl) ?_
          refine x_get (ci := 5) (v := .ref (a 17)) (C := RX5) (T := TX5) (N := 4) hx hb hts inX5 hown hK hW 0 rfl rfl 2 (by decide) fl25 (fun _ h9 => h9) rfl dX5_fewestCarriers_67 ?_
          refine lv_iload hx hb dX5_fewestCarriers_70 (lv_at hl 6 rfl) ?_
          replace hf := bs_ hf; obtain ⟨r7, hcl, hf⟩ := hf
          refine x_callW_i (w' := (wX5 a ct r1)) (As := [.ref (a 17), .int y4_6]) (rest := [.int r2]) (ci := 5) ⟨hx, hb, hml, hown, hts⟩ (c_X5_union__17 l N kd G ct a r1 y4_6 _ hcl) (cwV 2 hts gX5_fewestCarriers_X5_union rfl rfl rfl (by decide +kernel) ⟨Nat.le_of_ble_eq_true rfl, Nat.le_of_ble_eq_true rfl⟩) hK hE hA hW rfl rfl 0 rfl rfl rfl rfl hl.1 rfl (lv_room (Nat.le_of_ble_eq_true rfl)) dX5_fewestCarriers_72 (fun H locs hW => ?_)
          refine lv_ior hx hb dX5_fewestCarriers_75 ?_
          refine lv_istore (lv' := [(7, .int (r2 ||| r7)), (0, .ref (a 0)), (1, .int x1), (2, .int x2), (3, .int r2), (4, .int r3), (5, .int y4_5), (6, .int y4_6)]) hx hb dX5_fewestCarriers_76 hl (by decide) rfl (fun ls hl => ?_)
          refine lv_iload hx hb dX5_fewestCarriers_78 (lv_at hl 5 rfl) ?_
          refine lv_aload_n hx hb dX5_fewestCarriers_80 rfl (lv_at hl 1 rfl) ?_
          refine lv_aload_n hx hb dX5_fewestCarriers_81 rfl (lv_at hl 1 rfl) ?_
          refine x_get (ci := 5) (v := .ref (a 18)) (C := RX5) (T := TX5) (N := 4) hx hb hts inX5 hown hK hW 0 rfl rfl 3 (by decide) fl29 (fun _ h9 => h9) rfl dX5_fewestCarriers_82 ?_
          refine lv_iload hx hb dX5_fewestCarriers_85 (lv_at hl 7 rfl) ?_
          replace hf := bs_ hf; obtain ⟨r8, hcl, hf⟩ := hf
          refine x_callW_i (w' := (wX5 a ct r1)) (As := [.ref (a 18), .int y4_6]) (rest := [.int r3]) (ci := 5) ⟨hx, hb, hml, hown, hts⟩ (c_X5_union__18 l N kd G ct a r1 y4_6 _ hcl) (cwV 2 hts gX5_fewestCarriers_X5_union rfl rfl rfl (by decide +kernel) ⟨Nat.le_of_ble_eq_true rfl, Nat.le_of_ble_eq_true rfl⟩) hK hE hA hW rfl rfl 0 rfl rfl rfl rfl hl.1 rfl (lv_room (Nat.le_of_ble_eq_true rfl)) dX5_fewestCarriers_87 (fun H locs hW => ?_)
          refine lv_ior hx hb dX5_fewestCarriers_90 ?_
          refine lv_istore (lv' := [(8, .int (r3 ||| r8)), (7, .int (r2 ||| r7)), (0, .ref (a 0)), (1, .int x1), (2, .int x2), (3, .int r2), (4, .int r3), (5, .int y4_5), (6, .int y4_6)]) hx hb dX5_fewestCarriers_91 hl (by decide) rfl (fun ls hl => ?_)
          refine lv_aload_n hx hb dX5_fewestCarriers_93 rfl (lv_at hl 2 rfl) ?_
          refine lv_aload_n hx hb dX5_fewestCarriers_94 rfl (lv_at hl 2 rfl) ?_
          refine x_get (ci := 5) (v := .ref (a 8)) (C := RX5) (T := TX5) (N := 4) hx hb hts inX5 hown hK hW 0 rfl rfl 1 (by decide) fl21 (fun _ h9 => h9) rfl dX5_fewestCarriers_95 ?_
          refine x_get (ci := 3) (v := .ref (a 10)) (C := RX3) (T := TX3) (N := 8) hx hb hts inX3 hown hK hW 6 rfl rfl 1 (by decide) fl113 (fun _ h9 => h9) rfl dX5_fewestCarriers_98 ?_
          refine lv_iload_n hx hb dX5_fewestCarriers_101 rfl (lv_at hl 3 rfl) ?_
          replace hf := gd_s hf; obtain ⟨hin, hf⟩ := hf
          refine x_iald (n := 8) (f := r1 10) hx hb hK hW 7 rfl (okI_in hin) dX5_fewestCarriers_102 ?_
          refine lv_iload hx hb dX5_fewestCarriers_103 (lv_at hl 1 rfl) ?_
          refine lv_iload hx hb dX5_fewestCarriers_105 (lv_at hl 0 rfl) ?_
          replace hf := bs_ hf; obtain ⟨r9, hcl, hf⟩ := hf
          refine x_callW_i (w' := (wX5 a ct r1)) (As := [.int (r1 10 x1.toNatClampNeg), .int (r2 ||| r7), .int (r3 ||| r8)]) (rest := []) (ci := 5) ⟨hx, hb, hml, hown, hts⟩ (c_X5_spread l N kd G ct a r1 (r1 10 x1.toNatClampNeg) (r2 ||| r7) (r3 ||| r8) _ hcl) (cwV 3 hts gX5_fewestCarriers_X5_spread rfl rfl rfl (by decide +kernel) ⟨Nat.le_of_ble_eq_true rfl, Nat.le_of_ble_eq_true rfl⟩) hK hE hA hW rfl rfl 0 rfl rfl rfl rfl hl.1 rfl (lv_room (Nat.le_of_ble_eq_true rfl)) dX5_fewestCarriers_107 (fun H locs hW => ?_)
          refine lv_iload_n hx hb dX5_fewestCarriers_110 rfl (lv_at hl 4 rfl) ?_
          replace hf := bs_ hf; obtain ⟨r10, hcl, hf⟩ := hf
          refine x_callSN_i (As := [.int r9, .int x2]) (rest := []) ⟨hx, hb, hml, hown, hts⟩ (c_X6_has l N kd G ct r9 x2 _ hcl) (⟨va_cnB 2 hts gX5_fewestCarriers_X6_has_n93 rfl rfl rfl (hE.1 (RX5, 93, yX6_has) (by decide +kernel)) (hts (.initialized RX6) (by decide +kernel)) (by decide +kernel) ⟨Nat.le_of_ble_eq_true rfl, Nat.le_of_ble_eq_true rfl⟩, hts (.static yX6_has) (by decide +kernel), trivial⟩) hK hE hA hW rfl hl.1 rfl (lv_room (Nat.le_of_ble_eq_true rfl)) dX5_fewestCarriers_111 (fun H locs hW => ?_)
          replace hf := bs_ hf; obtain ⟨j11, hg, hf⟩ := hf
          have J11 : ∀ (H : Heap) (locs : List Loc) (ls : Array Slot), WW G A s.heap (wX5 a ct r1) H locs → lv_has ls 9 [(0, .ref (a 0)), (1, .int x1), (2, .int x2), (3, .int r2), (4, .int r3), (6, .int y4_6)] → W p l e ({ frames := 4, cells := 0, slots := 0, locals := 98 } : Room) s m (List.toArray [.ref (a 0), .int x1, .int x2]) below meth c H locs 0 0 (MQ below (va_Qi (fun r (_ : Unit) => r = o.1) (fun _ t => Af_ G ct (wX5 a ct o.2) A t) A) (List.toArray [.ref (a 0), .int x1, .int x2]) s 0 0 A) (F0 m 124 ls (.int j11 :: [])) := by
            intro H locs ls hW hl
            refine lv_istore (lv' := [(5, .int j11), (0, .ref (a 0)), (1, .int x1), (2, .int x2), (3, .int r2), (4, .int r3), (6, .int y4_6)]) hx hb dX5_fewestCarriers_124 hl (by decide) rfl (fun ls hl => ?_)
            have hj := Option.some.inj hf
            subst hj
            exact J6 _ _ _ hW (lv_sub hl [1, 2, 3, 4, 5, 0, 6] rfl)
          clear hf
          refine lv_if_eq (tgt := 122) hx hb dX5_fewestCarriers_114 (by decide) (fun hc => ?_) (fun hc => ?_)
          · have hf := ifp hc hg
            clear hg
            refine lv_iload hx hb dX5_fewestCarriers_122 (lv_at hl 7 rfl) ?_
            have hj := Option.some.inj hf
            subst hj
            exact J11 _ _ _ hW (lv_sub hl [2, 3, 4, 5, 6, 8] rfl)
          · have hf := ifn hc hg
            clear hg
            refine lv_iload hx hb dX5_fewestCarriers_117 (lv_at hl 8 rfl) ?_
            refine lv_goto (tgt := 124) hx hb dX5_fewestCarriers_119 (by decide) ?_
            have hj := Option.some.inj hf
            subst hj
            exact J11 _ _ _ hW (lv_sub hl [2, 3, 4, 5, 6, 8] rfl)
  exact L4 N (-1 : Int32) (0 : Int32) hg _ _ _ hW (lv_sub hl [4, 5, 6, 3, 2, 1, 0] rfl)
set_option maxHeartbeats 4000000 in
set_option maxRecDepth 100000 in
theorem c_X5_fewestClimbers (l : Launch) (N : Nat) (kd : (Nat → Nat) × (Nat → Nat)) (G : va_G) (ct : Nat → ClassId) (a : Nat → Nat) (g : St_) (o : (Int32 × St_)) (hf : f_X5_fewestClimbers N g = some o) : CtI l yX5_fewestClimbers wsX5_fewestClimbers ({ frames := 3, cells := 0, slots := 0, locals := 73 }) kd G ct [.ref (a 0)] (wX5 a ct g) o.1 (wX5 a ct o.2) := by
  intro sz
  refine Met.ofW (cc := cX5_fewestClimbers) (maxL := 3) (ret := (some .int)) (by decide) rfl ?_
  intro p e s m args below meth c s₁ B hml hv
  obtain ⟨rfl, hsz, hP, hK, hD0, hE⟩ := hv
  have hx := B.exec
  have hb := B.bytes
  have hr := B.returns
  have hts := atoms_spec (ws := wsX5_fewestClimbers) B.pre
  have hown : s.vm.findClass RX5 = some m.cls := findClass_of_methodNamed B.named
  have hlocks := B.notSynchronized
  have inX3 : ∀ w ∈ wsX30, w ∈ wsX5_fewestClimbers := by decide +kernel
  have inX5 : ∀ w ∈ wsX50, w ∈ wsX5_fewestClimbers := by decide +kernel
  have fl21 := hts (.fieldLink RX5 21 "FittingStrides$Town" "state" "LFittingStrides$State;") (by decide +kernel)
  have fl25 := hts (.fieldLink RX5 25 "FittingStrides$Town" "liftsUp" "[I") (by decide +kernel)
  have fl39 := hts (.fieldLink RX5 39 "FittingStrides$State" "persons" "I") (by decide +kernel)
  have fl66 := hts (.fieldLink RX5 66 "FittingStrides$State" "firsts" "[I") (by decide +kernel)
  have fl73 := hts (.fieldLink RX5 73 "FittingStrides$State" "seconds" "[I") (by decide +kernel)
  subst hsz
  have hD := hD0.self (sz := s.heap.size)
  generalize hAe : va_A (wX5 a ct g) s.heap.size = A at hD hE ⊢
  have hA : ∀ q : Nat, s.heap.size ≤ q → A q := fun q h => by rw [← hAe]; exact Or.inr h
  have hW : WW G A s.heap (wX5 a ct g) s.heap [] := ⟨hP, hD, va_S.rf⟩
  have hl := lv_entry ([.ref (a 0)]) (n := 3) (Nat.le_of_ble_eq_true rfl)
  rw [lg_entry_eq]
  generalize (lg_sl ([.ref (a 0)]) ++ List.replicate (3 - (lg_sl ([.ref (a 0)])).length) Slot.unset).toArray = ls at hl ⊢
  have hl : lv_has ls 3 [(0, .ref (a 0))] := hl
  unfold f_X5_fewestClimbers at hf
  show W p l e ({ frames := 3, cells := 0, slots := 0, locals := 73 } : Room) s m (List.toArray [.ref (a 0)]) below meth c s.heap [] 0 0 (MQ below (va_Qi (fun r (_ : Unit) => r = o.1) (fun _ t => Af_ G ct (wX5 a ct o.2) A t) A) (List.toArray [.ref (a 0)]) s 0 0 A) (F0 m 0 ls [])
  refine lv_iconst (v := (0 : Int32)) hx hb dX5_fewestClimbers_0 (by decide) ?_
  refine lv_istore_n (lv' := [(1, .int (0 : Int32)), (0, .ref (a 0))]) hx hb dX5_fewestClimbers_1 rfl hl (by decide) rfl (fun ls hl => ?_)
  replace hf := bs_ hf; obtain ⟨v1, hg, hf⟩ := hf
  have J1 : ∀ (H : Heap) (locs : List Loc) (ls : Array Slot), WW G A s.heap (wX5 a ct v1) H locs → lv_has ls 3 [(0, .ref (a 0))] → W p l e ({ frames := 3, cells := 0, slots := 0, locals := 73 } : Room) s m (List.toArray [.ref (a 0)]) below meth c H locs 0 0 (MQ below (va_Qi (fun r (_ : Unit) => r = o.1) (fun _ t => Af_ G ct (wX5 a ct o.2) A t) A) (List.toArray [.ref (a 0)]) s 0 0 A) (F0 m 47 ls []) := by
    intro H locs ls hW hl
    refine lv_iconst (v := (-1 : Int32)) hx hb dX5_fewestClimbers_47 (by decide) ?_
    refine lv_istore_n (lv' := [(1, .int (-1 : Int32)), (0, .ref (a 0))]) hx hb dX5_fewestClimbers_48 rfl hl (by decide) rfl (fun ls hl => ?_)
    refine lv_iconst (v := (0 : Int32)) hx hb dX5_fewestClimbers_49 (by decide) ?_
    refine lv_istore_n (lv' := [(2, .int (0 : Int32)), (1, .int (-1 : Int32)), (0, .ref (a 0))]) hx hb dX5_fewestClimbers_50 rfl hl (by decide) rfl (fun ls hl => ?_)
    replace hf := bs_ hf; obtain ⟨v3, hg, hf⟩ := hf
    have J3 : ∀ (H : Heap) (locs : List Loc) (ls : Array Slot), WW G A s.heap (wX5 a ct v1) H locs → lv_has ls 3 [(1, .int v3)] → W p l e ({ frames := 3, cells := 0, slots := 0, locals := 73 } : Room) s m (List.toArray [.ref (a 0)]) below meth c H locs 0 0 (MQ below (va_Qi (fun r (_ : Unit) => r = o.1) (fun _ t => Af_ G ct (wX5 a ct o.2) A t) A) (List.toArray [.ref (a 0)]) s 0 0 A) (F0 m 96 ls []) := by
      intro H locs ls hW hl
      refine lv_iload_n hx hb dX5_fewestClimbers_96 rfl (lv_at hl 0 rfl) ?_
      have ho := Option.some.inj hf
      subst ho
      exact x_reti (sz := 0) (w0 := []) (A1 := A) hx hb hr hlocks hK hW rfl rfl dX5_fewestClimbers_97
    clear hf
    have L3 : ∀ (n : Nat) (y3_1 : Int32) (y3_2 : Int32), f_X5_fewestClimbers_L51 N v1 n y3_1 y3_2 = some v3 → ∀ (H : Heap) (locs : List Loc) (ls : Array Slot), WW G A s.heap (wX5 a ct v1) H locs → lv_has ls 3 [(0, .ref (a 0)), (1, .int y3_1), (2, .int y3_2)] → W p l e ({ frames := 3, cells := 0, slots := 0, locals := 73 } : Room) s m (List.toArray [.ref (a 0)]) below meth c H locs 0 0 (MQ below (va_Qi (fun r (_ : Unit) => r = o.1) (fun _ t => Af_ G ct (wX5 a ct o.2) A t) A) (List.toArray [.ref (a 0)]) s 0 0 A) (F0 m 51 ls []) := by
      intro n
      induction n with
      | zero =>
        intro y3_1 y3_2 hf
        rw [f_X5_fewestClimbers_L51] at hf
        cases hf
      | succ n ih =>
        intro y3_1 y3_2 hf H locs ls hW hl
        rw [f_X5_fewestClimbers_L51] at hf
        refine lv_iload_n hx hb dX5_fewestClimbers_51 rfl (lv_at hl 2 rfl) ?_
        refine lv_iconst (v := (1 : Int32)) hx hb dX5_fewestClimbers_52 (by decide) ?_
        refine lv_aload_n hx hb dX5_fewestClimbers_53 rfl (lv_at hl 0 rfl) ?_
        refine x_get (ci := 5) (v := .ref (a 8)) (C := RX5) (T := TX5) (N := 4) hx hb hts inX5 hown hK hW 0 rfl rfl 1 (by decide) fl21 (fun _ h9 => h9) rfl dX5_fewestClimbers_54 ?_
        refine x_get (ci := 3) (v := .int (v1 9 0)) (C := RX3) (T := TX3) (N := 8) hx hb hts inX3 hown hK hW 6 rfl rfl 0 (by decide) fl39 (fun _ h9 => h9) rfl dX5_fewestClimbers_57 ?_
        refine lv_ishl hx hb dX5_fewestClimbers_60 ?_
        refine lv_icmp_ge (tgt := 96) hx hb dX5_fewestClimbers_61 (by decide) (fun hc => ?_) (fun hc => ?_)
        · replace hf := ifp hc hf
          have hj := Option.some.inj hf
          subst hj
          exact J3 _ _ _ hW (lv_sub hl [1] rfl)
        · replace hf := ifn hc hf
          refine lv_iload_n hx hb dX5_fewestClimbers_64 rfl (lv_at hl 2 rfl) ?_
          refine lv_iload_n hx hb dX5_fewestClimbers_65 rfl (lv_at hl 1 rfl) ?_
          replace hf := bs_ hf; obtain ⟨r4, hcl, hf⟩ := hf
          refine x_callS_i (As := [.int y3_2, .int y3_1]) (rest := []) ⟨hx, hb, hml, hown, hts⟩ (c_X5_isFewer l N kd G ct y3_2 y3_1 _ hcl) (va_cwS 2 hts gX5_fewestClimbers_X5_isFewer rfl rfl rfl (by decide +kernel) ⟨Nat.le_of_ble_eq_true rfl, Nat.le_of_ble_eq_true rfl⟩) hK hE hA hW rfl hl.1 rfl (lv_room (Nat.le_of_ble_eq_true rfl)) dX5_fewestClimbers_66 (fun H locs hW => ?_)
          replace hf := bs_ hf; obtain ⟨j5, hg, hf⟩ := hf
          have J5 : ∀ (H : Heap) (locs : List Loc) (ls : Array Slot), WW G A s.heap (wX5 a ct v1) H locs → lv_has ls 3 [(0, .ref (a 0)), (1, .int j5), (2, .int y3_2)] → W p l e ({ frames := 3, cells := 0, slots := 0, locals := 73 } : Room) s m (List.toArray [.ref (a 0)]) below meth c H locs 0 0 (MQ below (va_Qi (fun r (_ : Unit) => r = o.1) (fun _ t => Af_ G ct (wX5 a ct o.2) A t) A) (List.toArray [.ref (a 0)]) s 0 0 A) (F0 m 90 ls ([])) := by
            intro H locs ls hW hl
            refine lv_iinc (v := (y3_2 + (1 : Int32))) (lv' := [(2, .int (y3_2 + (1 : Int32))), (0, .ref (a 0)), (1, .int j5)]) hx hb dX5_fewestClimbers_90 hl (k := 2) rfl rfl (by decide) rfl (fun ls hl => ?_)
            refine lv_goto (tgt := 51) hx hb dX5_fewestClimbers_93 (by decide) ?_
            exact ih j5 (y3_2 + (1 : Int32)) hf _ _ _ hW (lv_sub hl [1, 2, 0] rfl)
          clear hf
          refine lv_if_eq (tgt := 90) hx hb dX5_fewestClimbers_69 (by decide) (fun hc => ?_) (fun hc => ?_)
          · have hf := ifp hc hg
            clear hg
            have hj := Option.some.inj hf
            subst hj
            exact J5 _ _ _ hW (lv_sub hl [0, 1, 2] rfl)
          · have hf := ifn hc hg
            clear hg
            refine lv_aload_n hx hb dX5_fewestClimbers_72 rfl (lv_at hl 0 rfl) ?_
            refine lv_aload_n hx hb dX5_fewestClimbers_73 rfl (lv_at hl 0 rfl) ?_
            refine x_get (ci := 5) (v := .ref (a 17)) (C := RX5) (T := TX5) (N := 4) hx hb hts inX5 hown hK hW 0 rfl rfl 2 (by decide) fl25 (fun _ h9 => h9) rfl dX5_fewestClimbers_74 ?_
            refine lv_iload_n hx hb dX5_fewestClimbers_77 rfl (lv_at hl 2 rfl) ?_
            replace hf := bs_ hf; obtain ⟨r6, hcl, hf⟩ := hf
            refine x_callW_i (w' := (wX5 a ct v1)) (As := [.ref (a 17), .int y3_2]) (rest := []) (ci := 5) ⟨hx, hb, hml, hown, hts⟩ (c_X5_union__17 l N kd G ct a v1 y3_2 _ hcl) (cwV 2 hts gX5_fewestClimbers_X5_union rfl rfl rfl (by decide +kernel) ⟨Nat.le_of_ble_eq_true rfl, Nat.le_of_ble_eq_true rfl⟩) hK hE hA hW rfl rfl 0 rfl rfl rfl rfl hl.1 rfl (lv_room (Nat.le_of_ble_eq_true rfl)) dX5_fewestClimbers_78 (fun H locs hW => ?_)
            refine lv_aload_n hx hb dX5_fewestClimbers_81 rfl (lv_at hl 0 rfl) ?_
            replace hf := bs_ hf; obtain ⟨r7, hcl, hf⟩ := hf
            refine x_callW_i (w' := (wX5 a ct v1)) (As := []) (rest := [.int r6]) (ci := 5) ⟨hx, hb, hml, hown, hts⟩ (c_X5_allStairs l N kd G ct a v1 _ hcl) (cwV 0 hts gX5_fewestClimbers_X5_allStairs rfl rfl rfl (by decide +kernel) ⟨Nat.le_of_ble_eq_true rfl, Nat.le_of_ble_eq_true rfl⟩) hK hE hA hW rfl rfl 0 rfl rfl rfl rfl hl.1 rfl (lv_room (Nat.le_of_ble_eq_true rfl)) dX5_fewestClimbers_82 (fun H locs hW => ?_)
            refine lv_icmp_ne (tgt := 90) hx hb dX5_fewestClimbers_85 (by decide) (fun hc => ?_) (fun hc => ?_)
            · replace hf := ifn hc hf
              have hj := Option.some.inj hf
              subst hj
              exact J5 _ _ _ hW (lv_sub hl [0, 1, 2] rfl)
            · replace hf := ifp hc hf
              refine lv_iload_n hx hb dX5_fewestClimbers_88 rfl (lv_at hl 2 rfl) ?_
              refine lv_istore_n (lv' := [(1, .int y3_2), (0, .ref (a 0)), (2, .int y3_2)]) hx hb dX5_fewestClimbers_89 rfl hl (by decide) rfl (fun ls hl => ?_)
              have hj := Option.some.inj hf
              subst hj
              exact J5 _ _ _ hW (lv_sub hl [1, 0, 2] rfl)
    exact L3 N (-1 : Int32) (0 : Int32) hg _ _ _ hW (lv_sub hl [2, 1, 0] rfl)
  clear hf
  have L1 : ∀ (n : Nat) (y1_1 : Int32) (g1 : St_), f_X5_fewestClimbers_L2 N n y1_1 g1 = some v1 → ∀ (H : Heap) (locs : List Loc) (ls : Array Slot), WW G A s.heap (wX5 a ct g1) H locs → lv_has ls 3 [(0, .ref (a 0)), (1, .int y1_1)] → W p l e ({ frames := 3, cells := 0, slots := 0, locals := 73 } : Room) s m (List.toArray [.ref (a 0)]) below meth c H locs 0 0 (MQ below (va_Qi (fun r (_ : Unit) => r = o.1) (fun _ t => Af_ G ct (wX5 a ct o.2) A t) A) (List.toArray [.ref (a 0)]) s 0 0 A) (F0 m 2 ls []) := by
    intro n
    induction n with
    | zero =>
      intro y1_1 g1 hf
      rw [f_X5_fewestClimbers_L2] at hf
      cases hf
    | succ n ih =>
      intro y1_1 g1 hf H locs ls hW hl
      rw [f_X5_fewestClimbers_L2] at hf
      refine lv_iload_n hx hb dX5_fewestClimbers_2 rfl (lv_at hl 1 rfl) ?_
      refine lv_aload_n hx hb dX5_fewestClimbers_3 rfl (lv_at hl 0 rfl) ?_
      refine x_get (ci := 5) (v := .ref (a 8)) (C := RX5) (T := TX5) (N := 4) hx hb hts inX5 hown hK hW 0 rfl rfl 1 (by decide) fl21 (fun _ h9 => h9) rfl dX5_fewestClimbers_4 ?_
      refine x_get (ci := 3) (v := .int (g1 9 0)) (C := RX3) (T := TX3) (N := 8) hx hb hts inX3 hown hK hW 6 rfl rfl 0 (by decide) fl39 (fun _ h9 => h9) rfl dX5_fewestClimbers_7 ?_
      refine lv_icmp_ge (tgt := 47) hx hb dX5_fewestClimbers_10 (by decide) (fun hc => ?_) (fun hc => ?_)
      · replace hf := ifp hc hf
        have hj := Option.some.inj hf
        subst hj
        exact J1 _ _ _ hW (lv_sub hl [0] rfl)
      · replace hf := ifn hc hf
        refine lv_aload_n hx hb dX5_fewestClimbers_13 rfl (lv_at hl 0 rfl) ?_
        refine x_get (ci := 5) (v := .ref (a 17)) (C := RX5) (T := TX5) (N := 4) hx hb hts inX5 hown hK hW 0 rfl rfl 2 (by decide) fl25 (fun _ h9 => h9) rfl dX5_fewestClimbers_14 ?_
        refine lv_iload_n hx hb dX5_fewestClimbers_17 rfl (lv_at hl 1 rfl) ?_
        refine lv_aload_n hx hb dX5_fewestClimbers_18 rfl (lv_at hl 0 rfl) ?_
        refine lv_aload_n hx hb dX5_fewestClimbers_19 rfl (lv_at hl 0 rfl) ?_
        refine x_get (ci := 5) (v := .ref (a 8)) (C := RX5) (T := TX5) (N := 4) hx hb hts inX5 hown hK hW 0 rfl rfl 1 (by decide) fl21 (fun _ h9 => h9) rfl dX5_fewestClimbers_20 ?_
        refine x_get (ci := 3) (v := .ref (a 11)) (C := RX3) (T := TX3) (N := 8) hx hb hts inX3 hown hK hW 6 rfl rfl 2 (by decide) fl66 (fun _ h9 => h9) rfl dX5_fewestClimbers_23 ?_
        refine lv_iload_n hx hb dX5_fewestClimbers_26 rfl (lv_at hl 1 rfl) ?_
        replace hf := gd_s hf; obtain ⟨hin, hf⟩ := hf
        refine x_iald (n := 8) (f := g1 11) hx hb hK hW 8 rfl (okI_in hin) dX5_fewestClimbers_27 ?_
        refine lv_aload_n hx hb dX5_fewestClimbers_28 rfl (lv_at hl 0 rfl) ?_
        refine x_get (ci := 5) (v := .ref (a 8)) (C := RX5) (T := TX5) (N := 4) hx hb hts inX5 hown hK hW 0 rfl rfl 1 (by decide) fl21 (fun _ h9 => h9) rfl dX5_fewestClimbers_29 ?_
        refine x_get (ci := 3) (v := .ref (a 12)) (C := RX3) (T := TX3) (N := 8) hx hb hts inX3 hown hK hW 6 rfl rfl 3 (by decide) fl73 (fun _ h9 => h9) rfl dX5_fewestClimbers_32 ?_
        refine lv_iload_n hx hb dX5_fewestClimbers_35 rfl (lv_at hl 1 rfl) ?_
        replace hf := gd_s hf; obtain ⟨hin, hf⟩ := hf
        refine x_iald (n := 8) (f := g1 12) hx hb hK hW 9 rfl (okI_in hin) dX5_fewestClimbers_36 ?_
        replace hf := bs_ hf; obtain ⟨r2, hcl, hf⟩ := hf
        refine x_callW_i (w' := (wX5 a ct g1)) (As := [.int (g1 11 y1_1.toNatClampNeg), .int (g1 12 y1_1.toNatClampNeg)]) (rest := [.int y1_1, .ref (a 17)]) (ci := 5) ⟨hx, hb, hml, hown, hts⟩ (c_X5_upStairs l N kd G ct a g1 (g1 11 y1_1.toNatClampNeg) (g1 12 y1_1.toNatClampNeg) _ hcl) (cwV 2 hts gX5_fewestClimbers_X5_upStairs rfl rfl rfl (by decide +kernel) ⟨Nat.le_of_ble_eq_true rfl, Nat.le_of_ble_eq_true rfl⟩) hK hE hA hW rfl rfl 0 rfl rfl rfl rfl hl.1 rfl (lv_room (Nat.le_of_ble_eq_true rfl)) dX5_fewestClimbers_37 (fun H locs hW => ?_)
        replace hf := gd_s hf; obtain ⟨hin, hf⟩ := hf
        refine x_iast (w' := (wX5 a ct (up1 g1 17 y1_1.toNatClampNeg r2))) (n := 8) (f := g1 17) hx hb hK hW 12 rfl (okI_in hin) (ws_X5_17 a ct g1 _ _) dX5_fewestClimbers_40 (fun H locs hW => ?_)
        refine lv_iinc (v := (y1_1 + (1 : Int32))) (lv' := [(1, .int (y1_1 + (1 : Int32))), (0, .ref (a 0))]) hx hb dX5_fewestClimbers_41 hl (k := 1) rfl rfl (by decide) rfl (fun ls hl => ?_)
        refine lv_goto (tgt := 2) hx hb dX5_fewestClimbers_44 (by decide) ?_
        exact ih (y1_1 + (1 : Int32)) (up1 g1 17 y1_1.toNatClampNeg r2) hf _ _ _ hW (lv_sub hl [1, 0] rfl)
  exact L1 N (0 : Int32) g hg _ _ _ hW (lv_sub hl [1, 0] rfl)
set_option maxHeartbeats 4000000 in
set_option maxRecDepth 100000 in
theorem c_X6_feed (l : Launch) (N : Nat) (kd : (Nat → Nat) × (Nat → Nat)) (G : va_G) (ct : Nat → ClassId) (a : Nat → Nat) (g : St_) (x1 : Int32) (x2 : Int64) (o : (Int32 × St_)) (hf : f_X6_feed N g x1 x2 = some o) : CtI l yX6_feed wsX6_feed ({ frames := 1, cells := 0, slots := 0, locals := 21 }) kd G ct [.ref (a 0), .int x1, .long x2] (wX6 a ct g) o.1 (wX6 a ct o.2) := by
  intro sz
  refine Met.ofW (cc := cX6_feed) (maxL := 5) (ret := (some .int)) (by decide) rfl ?_
  intro p e s m args below meth c s₁ B hml hv
  obtain ⟨rfl, hsz, hP, hK, hD0, hE⟩ := hv
  have hx := B.exec
  have hb := B.bytes
  have hr := B.returns
  have hts := atoms_spec (ws := wsX6_feed) B.pre
  have hown : s.vm.findClass RX6 = some m.cls := findClass_of_methodNamed B.named
  have hlocks := B.notSynchronized
  have inX4 : ∀ w ∈ wsX40, w ∈ wsX6_feed := by decide +kernel
  have inX6 : ∀ w ∈ wsX60, w ∈ wsX6_feed := by decide +kernel
  have fl10 := hts (.fieldLink RX6 10 "FittingStrides" "text" "LFittingStrides$Text;") (by decide +kernel)
  have fl52 := hts (.constant RX6 52 (-1000000002)) (by decide +kernel)
  have fl53 := hts (.fieldLink RX6 53 "FittingStrides$Text" "length" "I") (by decide +kernel)
  have fl56 := hts (.constant RX6 56 (-1000000004)) (by decide +kernel)
  have fl57 := hts (.constantLong RX6 57 (255)) (by decide +kernel)
  subst hsz
  have hD := hD0.self (sz := s.heap.size)
  generalize hAe : va_A (wX6 a ct g) s.heap.size = A at hD hE ⊢
  have hA : ∀ q : Nat, s.heap.size ≤ q → A q := fun q h => by rw [← hAe]; exact Or.inr h
  have hW : WW G A s.heap (wX6 a ct g) s.heap [] := ⟨hP, hD, va_S.rf⟩
  have hl := lv_entry ([.ref (a 0), .int x1, .long x2]) (n := 5) (Nat.le_of_ble_eq_true rfl)
  rw [lg_entry_eq]
  generalize (lg_sl ([.ref (a 0), .int x1, .long x2]) ++ List.replicate (5 - (lg_sl ([.ref (a 0), .int x1, .long x2])).length) Slot.unset).toArray = ls at hl ⊢
  have hl : lv_has ls 5 [(0, .ref (a 0)), (1, .int x1), (2, .long x2)] := hl
  unfold f_X6_feed at hf
  show W p l e ({ frames := 1, cells := 0, slots := 0, locals := 21 } : Room) s m (List.toArray [.ref (a 0), .int x1, .long x2]) below meth c s.heap [] 0 0 (MQ below (va_Qi (fun r (_ : Unit) => r = o.1) (fun _ t => Af_ G ct (wX6 a ct o.2) A t) A) (List.toArray [.ref (a 0), .int x1, .long x2]) s 0 0 A) (F0 m 0 ls [])
  refine lv_iload_n hx hb dX6_feed_0 rfl (lv_at hl 1 rfl) ?_
  refine lv_iconst (v := (1 : Int32)) hx hb dX6_feed_1 (by decide) ?_
  refine lv_icmp_lt (tgt := 11) hx hb dX6_feed_2 (by decide) (fun hc => ?_) (fun hc => ?_)
  · replace hf := ifp hc hf
    refine lv_ldc (v := (-1000000002 : Int32)) hx hb hown fl52 dX6_feed_11 ?_
    have ho := Option.some.inj hf
    subst ho
    exact x_reti (sz := 0) (w0 := []) (A1 := A) hx hb hr hlocks hK hW rfl rfl dX6_feed_13
  · replace hf := ifn hc hf
    refine lv_iload_n hx hb dX6_feed_5 rfl (lv_at hl 1 rfl) ?_
    refine lv_bipush (v := (8 : Int32)) hx hb dX6_feed_6 (by decide) ?_
    refine lv_icmp_le (tgt := 14) hx hb dX6_feed_8 (by decide) (fun hc => ?_) (fun hc => ?_)
    · replace hf := ifp hc hf
      refine lv_aload_n hx hb dX6_feed_14 rfl (lv_at hl 0 rfl) ?_
      refine x_get (ci := 6) (v := .ref (a 1)) (C := RX6) (T := TX6) (N := 7) hx hb hts inX6 hown hK hW 0 rfl rfl 0 (by decide) fl10 (fun _ h9 => h9) rfl dX6_feed_15 ?_
      refine x_get (ci := 4) (v := .int (g 2 0)) (C := RX4) (T := TX4) (N := 6) hx hb hts inX4 hown hK hW 1 rfl rfl 0 (by decide) fl53 (fun _ h9 => h9) rfl dX6_feed_18 ?_
      refine lv_iload_n hx hb dX6_feed_21 rfl (lv_at hl 1 rfl) ?_
      refine lv_iadd hx hb dX6_feed_22 ?_
      refine lv_sipush (v := (500 : Int32)) hx hb dX6_feed_23 (by decide) ?_
      refine lv_icmp_le (tgt := 32) hx hb dX6_feed_26 (by decide) (fun hc => ?_) (fun hc => ?_)
      · replace hf := ifp hc hf
        refine lv_iload_n hx hb dX6_feed_32 rfl (lv_at hl 1 rfl) ?_
        refine lv_iconst (v := (1 : Int32)) hx hb dX6_feed_33 (by decide) ?_
        refine lv_isub hx hb dX6_feed_34 ?_
        refine lv_istore (lv' := [(4, .int (x1 - (1 : Int32))), (0, .ref (a 0)), (1, .int x1), (2, .long x2)]) hx hb dX6_feed_35 hl (by decide) rfl (fun ls hl => ?_)
        replace hf := bs_ hf; obtain ⟨v1, hg, hf⟩ := hf
        have J1 : ∀ (H : Heap) (locs : List Loc) (ls : Array Slot), WW G A s.heap (wX6 a ct v1) H locs → lv_has ls 5 [(0, .ref (a 0))] → W p l e ({ frames := 1, cells := 0, slots := 0, locals := 21 } : Room) s m (List.toArray [.ref (a 0), .int x1, .long x2]) below meth c H locs 0 0 (MQ below (va_Qi (fun r (_ : Unit) => r = o.1) (fun _ t => Af_ G ct (wX6 a ct o.2) A t) A) (List.toArray [.ref (a 0), .int x1, .long x2]) s 0 0 A) (F0 m 67 ls []) := by
          intro H locs ls hW hl
          refine lv_aload_n hx hb dX6_feed_67 rfl (lv_at hl 0 rfl) ?_
          refine x_get (ci := 6) (v := .ref (a 1)) (C := RX6) (T := TX6) (N := 7) hx hb hts inX6 hown hK hW 0 rfl rfl 0 (by decide) fl10 (fun _ h9 => h9) rfl dX6_feed_68 ?_
          refine x_get (ci := 4) (v := .int (v1 2 0)) (C := RX4) (T := TX4) (N := 6) hx hb hts inX4 hown hK hW 1 rfl rfl 0 (by decide) fl53 (fun _ h9 => h9) rfl dX6_feed_71 ?_
          have ho := Option.some.inj hf
          subst ho
          exact x_reti (sz := 0) (w0 := []) (A1 := A) hx hb hr hlocks hK hW rfl rfl dX6_feed_74
        clear hf
        have L1 : ∀ (n : Nat) (y1_4 : Int32) (g1 : St_), f_X6_feed_L37 N x2 n y1_4 g1 = some v1 → ∀ (H : Heap) (locs : List Loc) (ls : Array Slot), WW G A s.heap (wX6 a ct g1) H locs → lv_has ls 5 [(0, .ref (a 0)), (2, .long x2), (4, .int y1_4)] → W p l e ({ frames := 1, cells := 0, slots := 0, locals := 21 } : Room) s m (List.toArray [.ref (a 0), .int x1, .long x2]) below meth c H locs 0 0 (MQ below (va_Qi (fun r (_ : Unit) => r = o.1) (fun _ t => Af_ G ct (wX6 a ct o.2) A t) A) (List.toArray [.ref (a 0), .int x1, .long x2]) s 0 0 A) (F0 m 37 ls []) := by
          intro n
          induction n with
          | zero =>
            intro y1_4 g1 hf
            rw [f_X6_feed_L37] at hf
            cases hf
          | succ n ih =>
            intro y1_4 g1 hf H locs ls hW hl
            rw [f_X6_feed_L37] at hf
            refine lv_iload hx hb dX6_feed_37 (lv_at hl 2 rfl) ?_
            refine lv_if_lt (tgt := 67) hx hb dX6_feed_39 (by decide) (fun hc => ?_) (fun hc => ?_)
            · replace hf := ifp hc hf
              have hj := Option.some.inj hf
              subst hj
              exact J1 _ _ _ hW (lv_sub hl [0] rfl)
            · replace hf := ifn hc hf
              refine lv_aload_n hx hb dX6_feed_42 rfl (lv_at hl 0 rfl) ?_
              refine x_get (ci := 6) (v := .ref (a 1)) (C := RX6) (T := TX6) (N := 7) hx hb hts inX6 hown hK hW 0 rfl rfl 0 (by decide) fl10 (fun _ h9 => h9) rfl dX6_feed_43 ?_
              refine lv_lload_n hx hb dX6_feed_46 rfl (lv_at hl 1 rfl) ?_
              refine lv_bipush (v := (8 : Int32)) hx hb dX6_feed_47 (by decide) ?_
              refine lv_iload hx hb dX6_feed_49 (lv_at hl 2 rfl) ?_
              refine lv_imul hx hb dX6_feed_51 ?_
              refine lv_lushr hx hb dX6_feed_52 rfl ?_
              refine lv_ldc2 (v := (255 : Int64)) hx hb hown fl57 dX6_feed_53 ?_
              refine lv_land hx hb dX6_feed_56 ?_
              refine lv_l2i hx hb dX6_feed_57 rfl ?_
              replace hf := bs_ hf; obtain ⟨r2, hcl, hf⟩ := hf
              refine x_callV_v (w' := (wX6 a ct (pu_ 1 25 g1 r2))) (As := [.int ((x2.toUInt64 >>> (((8 : Int32) * y1_4).toInt64.toUInt64 &&& Int64.toUInt64 63)).toInt64 &&& (255 : Int64)).toInt32]) (rest := []) (ci := 4) ⟨hx, hb, hml, hown, hts⟩ (c_X4_append l N kd G ct (sh_ 1 a) (sh_ 1 g1) (((x2.toUInt64 >>> (((8 : Int32) * y1_4).toInt64.toUInt64 &&& Int64.toUInt64 63)).toInt64 &&& (255 : Int64)).toInt32) _ hcl) (cwV 1 hts gX6_feed_X4_append rfl rfl rfl (by decide +kernel) ⟨Nat.le_of_ble_eq_true rfl, Nat.le_of_ble_eq_true rfl⟩) hK hE hA hW ((wX6 a ct g1).take 1) ((wX6 a ct g1).drop 17) (wc_X6_1 a ct g1) (wu_X6_1 a ct g1 r2) 0 rfl rfl rfl rfl hl.1 rfl (lv_room (Nat.le_of_ble_eq_true rfl)) dX6_feed_58 (fun H locs hW => ?_)
              refine lv_iinc (v := (y1_4 + (-1 : Int32))) (lv' := [(4, .int (y1_4 + (-1 : Int32))), (0, .ref (a 0)), (2, .long x2)]) hx hb dX6_feed_61 hl (k := 2) rfl rfl (by decide) rfl (fun ls hl => ?_)
              refine lv_goto (tgt := 37) hx hb dX6_feed_64 (by decide) ?_
              exact ih (y1_4 + (-1 : Int32)) (pu_ 1 25 g1 r2) hf _ _ _ hW (lv_sub hl [1, 2, 0] rfl)
        exact L1 N (x1 - (1 : Int32)) g hg _ _ _ hW (lv_sub hl [1, 3, 0] rfl)
      · replace hf := ifn hc hf
        refine lv_ldc (v := (-1000000004 : Int32)) hx hb hown fl56 dX6_feed_29 ?_
        have ho := Option.some.inj hf
        subst ho
        exact x_reti (sz := 0) (w0 := []) (A1 := A) hx hb hr hlocks hK hW rfl rfl dX6_feed_31
    · replace hf := ifn hc hf
      refine lv_ldc (v := (-1000000002 : Int32)) hx hb hown fl52 dX6_feed_11 ?_
      have ho := Option.some.inj hf
      subst ho
      exact x_reti (sz := 0) (w0 := []) (A1 := A) hx hb hr hlocks hK hW rfl rfl dX6_feed_13
set_option maxHeartbeats 4000000 in
set_option maxRecDepth 100000 in
theorem c_X6_town (l : Launch) (N : Nat) (kd : (Nat → Nat) × (Nat → Nat)) (G : va_G) (ct : Nat → ClassId) (a : Nat → Nat) (g : St_) (o : (Int32 × St_)) (hf : f_X6_town N g = some o) : CtI l yX6_town wsX6_town ({ frames := 9, cells := 0, slots := 0, locals := 233 }) kd G ct [.ref (a 0)] (wX6 a ct g) o.1 (wX6 a ct o.2) := by
  intro sz
  refine Met.ofW (cc := cX6_town) (maxL := 3) (ret := (some .int)) (by decide) rfl ?_
  intro p e s m args below meth c s₁ B hml hv
  obtain ⟨rfl, hsz, hP, hK, hD0, hE⟩ := hv
  have hx := B.exec
  have hb := B.bytes
  have hr := B.returns
  have hts := atoms_spec (ws := wsX6_town) B.pre
  have hown : s.vm.findClass RX6 = some m.cls := findClass_of_methodNamed B.named
  have hlocks := B.notSynchronized
  have inX0 : ∀ w ∈ wsX00, w ∈ wsX6_town := by decide +kernel
  have inX1 : ∀ w ∈ wsX10, w ∈ wsX6_town := by decide +kernel
  have inX2 : ∀ w ∈ wsX20, w ∈ wsX6_town := by decide +kernel
  have inX4 : ∀ w ∈ wsX40, w ∈ wsX6_town := by decide +kernel
  have inX5 : ∀ w ∈ wsX50, w ∈ wsX6_town := by decide +kernel
  have inX6 : ∀ w ∈ wsX60, w ∈ wsX6_town := by decide +kernel
  have fl10 := hts (.fieldLink RX6 10 "FittingStrides" "text" "LFittingStrides$Text;") (by decide +kernel)
  have fl19 := hts (.fieldLink RX6 19 "FittingStrides" "now" "LFittingStrides$Town;") (by decide +kernel)
  have fl30 := hts (.fieldLink RX6 30 "FittingStrides" "kept" "[Z") (by decide +kernel)
  have fl37 := hts (.fieldLink RX6 37 "FittingStrides" "sights" "LFittingStrides$Sights;") (by decide +kernel)
  have fl44 := hts (.fieldLink RX6 44 "FittingStrides" "book" "LFittingStrides$Book;") (by decide +kernel)
  have fl48 := hts (.fieldLink RX6 48 "FittingStrides" "faultByte" "I") (by decide +kernel)
  have fl53 := hts (.fieldLink RX6 53 "FittingStrides$Text" "length" "I") (by decide +kernel)
  have fl67 := hts (.fieldLink RX6 67 "FittingStrides$Text" "faultAt" "I") (by decide +kernel)
  have fl70 := hts (.fieldLink RX6 70 "FittingStrides$Text" "faultKind" "I") (by decide +kernel)
  have fl73 := hts (.fieldLink RX6 73 "FittingStrides$Text" "draft" "LFittingStrides$Town;") (by decide +kernel)
  have fl80 := hts (.fieldLink RX6 80 "FittingStrides$Sights" "count" "I") (by decide +kernel)
  have fl83 := hts (.fieldLink RX6 83 "FittingStrides$Book" "count" "I") (by decide +kernel)
  have fl84 := hts (.fieldLink RX6 84 "FittingStrides$Town" "plan" "LFittingStrides$Plan;") (by decide +kernel)
  have fl88 := hts (.fieldLink RX6 88 "FittingStrides$Plan" "places" "I") (by decide +kernel)
  subst hsz
  have hD := hD0.self (sz := s.heap.size)
  generalize hAe : va_A (wX6 a ct g) s.heap.size = A at hD hE ⊢
  have hA : ∀ q : Nat, s.heap.size ≤ q → A q := fun q h => by rw [← hAe]; exact Or.inr h
  have hW : WW G A s.heap (wX6 a ct g) s.heap [] := ⟨hP, hD, va_S.rf⟩
  have hl := lv_entry ([.ref (a 0)]) (n := 3) (Nat.le_of_ble_eq_true rfl)
  rw [lg_entry_eq]
  generalize (lg_sl ([.ref (a 0)]) ++ List.replicate (3 - (lg_sl ([.ref (a 0)])).length) Slot.unset).toArray = ls at hl ⊢
  have hl : lv_has ls 3 [(0, .ref (a 0))] := hl
  unfold f_X6_town at hf
  show W p l e ({ frames := 9, cells := 0, slots := 0, locals := 233 } : Room) s m (List.toArray [.ref (a 0)]) below meth c s.heap [] 0 0 (MQ below (va_Qi (fun r (_ : Unit) => r = o.1) (fun _ t => Af_ G ct (wX6 a ct o.2) A t) A) (List.toArray [.ref (a 0)]) s 0 0 A) (F0 m 0 ls [])
  refine lv_aload_n hx hb dX6_town_0 rfl (lv_at hl 0 rfl) ?_
  refine x_get (ci := 6) (v := .ref (a 1)) (C := RX6) (T := TX6) (N := 7) hx hb hts inX6 hown hK hW 0 rfl rfl 0 (by decide) fl10 (fun _ h9 => h9) rfl dX6_town_1 ?_
  replace hf := bs_ hf; obtain ⟨r1, hcl, hf⟩ := hf
  refine x_callV_i (w' := (wX6 a ct (pu_ 1 25 g r1.2))) (As := []) (rest := []) (ci := 4) ⟨hx, hb, hml, hown, hts⟩ (c_X4_read l N kd G ct (sh_ 1 a) (sh_ 1 g) _ hcl) (cwV 0 hts gX6_town_X4_read rfl rfl rfl (by decide +kernel) ⟨Nat.le_of_ble_eq_true rfl, Nat.le_of_ble_eq_true rfl⟩) hK hE hA hW ((wX6 a ct g).take 1) ((wX6 a ct g).drop 17) (wc_X6_1 a ct g) (wu_X6_1 a ct g r1.2) 0 rfl rfl rfl rfl hl.1 rfl (lv_room (Nat.le_of_ble_eq_true rfl)) dX6_town_4 (fun H locs hW => ?_)
  refine lv_istore_n (lv' := [(1, .int r1.1), (0, .ref (a 0))]) hx hb dX6_town_7 rfl hl (by decide) rfl (fun ls hl => ?_)
  refine lv_aload_n hx hb dX6_town_8 rfl (lv_at hl 1 rfl) ?_
  refine x_get (ci := 6) (v := .ref (a 1)) (C := RX6) (T := TX6) (N := 7) hx hb hts inX6 hown hK hW 0 rfl rfl 0 (by decide) fl10 (fun _ h9 => h9) rfl dX6_town_9 ?_
  refine lv_iconst (v := (0 : Int32)) hx hb dX6_town_12 (by decide) ?_
  refine x_put (w' := (wX6 a ct (up1 (pu_ 1 25 g r1.2) 2 0 (0 : Int32)))) (fs := fsX4 (sh_ 1 a) (sh_ 1 (pu_ 1 25 g r1.2))) (ci := 4) (v := .int (0 : Int32)) (ty := .int) (C := RX4) (T := TX4) (N := 6) hx hb hts inX4 tyX4 tyX4_ok nmX4 hown hK hW 1 rfl rfl 0 (by decide) fl53 (fun _ h9 => h9) rfl (by decide +kernel) rfl rfl (Nat.le_of_ble_eq_true rfl) (wp_X6_2 a ct (pu_ 1 25 g r1.2) (0 : Int32)) dX6_town_13 (fun H locs hW => ?_)
  refine lv_iload_n hx hb dX6_town_16 rfl (lv_at hl 0 rfl) ?_
  refine lv_if_ne (tgt := 42) hx hb dX6_town_17 (by decide) (fun hc => ?_) (fun hc => ?_)
  · replace hf := ifn hc hf
    refine lv_aload_n hx hb dX6_town_42 rfl (lv_at hl 1 rfl) ?_
    refine lv_iconst (v := (-1 : Int32)) hx hb dX6_town_43 (by decide) ?_
    refine x_put (w' := (wX6 a ct (up1 (up1 (pu_ 1 25 g r1.2) 2 0 (0 : Int32)) 75 0 (-1 : Int32)))) (fs := fsX6 a (up1 (pu_ 1 25 g r1.2) 2 0 (0 : Int32))) (ci := 6) (v := .int (-1 : Int32)) (ty := .int) (C := RX6) (T := TX6) (N := 7) hx hb hts inX6 tyX6 tyX6_ok nmX6 hown hK hW 0 rfl rfl 6 (by decide) fl48 (fun _ h9 => h9) rfl (by decide +kernel) rfl rfl (Nat.le_of_ble_eq_true rfl) (wp_X6_75 a ct (up1 (pu_ 1 25 g r1.2) 2 0 (0 : Int32)) (-1 : Int32)) dX6_town_44 (fun H locs hW => ?_)
    refine lv_aload_n hx hb dX6_town_47 rfl (lv_at hl 1 rfl) ?_
    refine x_get (ci := 6) (v := .ref (a 26)) (C := RX6) (T := TX6) (N := 7) hx hb hts inX6 hown hK hW 0 rfl rfl 1 (by decide) fl19 (fun _ h9 => h9) rfl dX6_town_48 ?_
    refine lv_aload_n hx hb dX6_town_51 rfl (lv_at hl 1 rfl) ?_
    refine x_get (ci := 6) (v := .ref (a 1)) (C := RX6) (T := TX6) (N := 7) hx hb hts inX6 hown hK hW 0 rfl rfl 0 (by decide) fl10 (fun _ h9 => h9) rfl dX6_town_52 ?_
    refine x_get (ci := 4) (v := .ref (a 5)) (C := RX4) (T := TX4) (N := 6) hx hb hts inX4 hown hK hW 1 rfl rfl 3 (by decide) fl73 (fun _ h9 => h9) rfl dX6_town_55 ?_
    replace hf := bs_ hf; obtain ⟨r2, hcl, hf⟩ := hf
    refine x_callP_v (w' := (wX6 a ct (pu_ 26 19 (pu_ 5 19 (up1 (up1 (pu_ 1 25 g r1.2) 2 0 (0 : Int32)) 75 0 (-1 : Int32)) (sh_ 19 r2)) r2))) (As := [.ref (a 5)]) (rest := []) (ci := 5) ⟨hx, hb, hml, hown, hts⟩ (c_X5_becomeTold l N kd G ct (ca_ 19 (sh_ 26 a) (sh_ 5 a)) (ca_ 19 (sh_ 26 (up1 (up1 (pu_ 1 25 g r1.2) 2 0 (0 : Int32)) 75 0 (-1 : Int32))) (sh_ 5 (up1 (up1 (pu_ 1 25 g r1.2) 2 0 (0 : Int32)) 75 0 (-1 : Int32)))) _ hcl) (cwV 1 hts gX6_town_X5_becomeTold rfl rfl rfl (by decide +kernel) ⟨Nat.le_of_ble_eq_true rfl, Nat.le_of_ble_eq_true rfl⟩) hK hE hA hW [17, 18, 19, 20, 21, 22, 23, 24, 25, 26, 27, 28, 29, 30, 2, 3, 4, 5, 6, 7, 8, 9, 10, 11, 12, 13, 14, 15, 0, 1, 16, 31, 32, 33, 34, 35, 36, 37, 38, 39, 40, 41, 42, 43, 44, 45, 46, 47, 48, 49, 50, 51, 52] [28, 29, 14, 15, 16, 17, 18, 19, 20, 21, 22, 23, 24, 25, 26, 27, 30, 0, 1, 2, 3, 4, 5, 6, 7, 8, 9, 10, 11, 12, 13, 31, 32, 33, 34, 35, 36, 37, 38, 39, 40, 41, 42, 43, 44, 45, 46, 47, 48, 49, 50, 51, 52] (wr := ([0, 1, 16, 31, 32, 33, 34, 35, 36, 37, 38, 39, 40, 41, 42, 43, 44, 45, 46, 47, 48, 49, 50, 51, 52] : List Nat).filterMap (fun i => (wX6 a ct (up1 (up1 (pu_ 1 25 g r1.2) 2 0 (0 : Int32)) 75 0 (-1 : Int32)))[i]?)) rfl (wk_X6_26_5 a ct (up1 (up1 (pu_ 1 25 g r1.2) 2 0 (0 : Int32)) 75 0 (-1 : Int32))) rfl (wv_X6_26_5 a ct (up1 (up1 (pu_ 1 25 g r1.2) 2 0 (0 : Int32)) 75 0 (-1 : Int32)) r2) 0 rfl rfl rfl rfl hl.1 rfl (lv_room (Nat.le_of_ble_eq_true rfl)) dX6_town_58 (fun H locs hW => ?_)
    refine lv_iconst (v := (0 : Int32)) hx hb dX6_town_61 (by decide) ?_
    refine lv_istore_n (lv' := [(2, .int (0 : Int32)), (1, .int r1.1), (0, .ref (a 0))]) hx hb dX6_town_62 rfl hl (by decide) rfl (fun ls hl => ?_)
    replace hf := bs_ hf; obtain ⟨v3, hg, hf⟩ := hf
    have J3 : ∀ (H : Heap) (locs : List Loc) (ls : Array Slot), WW G A s.heap (wX6 a ct v3) H locs → lv_has ls 3 [(0, .ref (a 0))] → W p l e ({ frames := 9, cells := 0, slots := 0, locals := 233 } : Room) s m (List.toArray [.ref (a 0)]) below meth c H locs 0 0 (MQ below (va_Qi (fun r (_ : Unit) => r = o.1) (fun _ t => Af_ G ct (wX6 a ct o.2) A t) A) (List.toArray [.ref (a 0)]) s 0 0 A) (F0 m 81 ls []) := by
      intro H locs ls hW hl
      refine lv_aload_n hx hb dX6_town_81 rfl (lv_at hl 0 rfl) ?_
      refine x_get (ci := 6) (v := .ref (a 65)) (C := RX6) (T := TX6) (N := 7) hx hb hts inX6 hown hK hW 0 rfl rfl 4 (by decide) fl37 (fun _ h9 => h9) rfl dX6_town_82 ?_
      refine lv_iconst (v := (0 : Int32)) hx hb dX6_town_85 (by decide) ?_
      refine x_put (w' := (wX6 a ct (up1 v3 66 0 (0 : Int32)))) (fs := fsX2 (sh_ 65 a) (sh_ 65 v3)) (ci := 2) (v := .int (0 : Int32)) (ty := .int) (C := RX2) (T := TX2) (N := 4) hx hb hts inX2 tyX2 tyX2_ok nmX2 hown hK hW 45 rfl rfl 0 (by decide) fl80 (fun _ h9 => h9) rfl (by decide +kernel) rfl rfl (Nat.le_of_ble_eq_true rfl) (wp_X6_66 a ct v3 (0 : Int32)) dX6_town_86 (fun H locs hW => ?_)
      refine lv_aload_n hx hb dX6_town_89 rfl (lv_at hl 0 rfl) ?_
      refine x_get (ci := 6) (v := .ref (a 70)) (C := RX6) (T := TX6) (N := 7) hx hb hts inX6 hown hK hW 0 rfl rfl 5 (by decide) fl44 (fun _ h9 => h9) rfl dX6_town_90 ?_
      refine lv_iconst (v := (0 : Int32)) hx hb dX6_town_93 (by decide) ?_
      refine x_put (w' := (wX6 a ct (up1 (up1 v3 66 0 (0 : Int32)) 71 0 (0 : Int32)))) (fs := fsX0 (sh_ 70 a) (sh_ 70 (up1 v3 66 0 (0 : Int32)))) (ci := 0) (v := .int (0 : Int32)) (ty := .int) (C := RX0) (T := TX0) (N := 4) hx hb hts inX0 tyX0 tyX0_ok nmX0 hown hK hW 49 rfl rfl 0 (by decide) fl83 (fun _ h9 => h9) rfl (by decide +kernel) rfl rfl (Nat.le_of_ble_eq_true rfl) (wp_X6_71 a ct (up1 v3 66 0 (0 : Int32)) (0 : Int32)) dX6_town_94 (fun H locs hW => ?_)
      refine lv_aload_n hx hb dX6_town_97 rfl (lv_at hl 0 rfl) ?_
      refine x_get (ci := 6) (v := .ref (a 26)) (C := RX6) (T := TX6) (N := 7) hx hb hts inX6 hown hK hW 0 rfl rfl 1 (by decide) fl19 (fun _ h9 => h9) rfl dX6_town_98 ?_
      refine x_get (ci := 5) (v := .ref (a 27)) (C := RX5) (T := TX5) (N := 4) hx hb hts inX5 hown hK hW 17 rfl rfl 0 (by decide) fl84 (fun _ h9 => h9) rfl dX6_town_101 ?_
      refine x_get (ci := 1) (v := .int (v3 28 0)) (C := RX1) (T := TX1) (N := 6) hx hb hts inX1 hown hK hW 18 rfl rfl 0 (by decide) fl88 (fun _ h9 => h9) rfl dX6_town_104 ?_
      have ho := Option.some.inj hf
      subst ho
      exact x_reti (sz := 0) (w0 := []) (A1 := A) hx hb hr hlocks hK hW rfl rfl dX6_town_107
    clear hf
    have L3 : ∀ (n : Nat) (y3_2 : Int32) (g3 : St_), f_X6_town_L63 N n y3_2 g3 = some v3 → ∀ (H : Heap) (locs : List Loc) (ls : Array Slot), WW G A s.heap (wX6 a ct g3) H locs → lv_has ls 3 [(0, .ref (a 0)), (2, .int y3_2)] → W p l e ({ frames := 9, cells := 0, slots := 0, locals := 233 } : Room) s m (List.toArray [.ref (a 0)]) below meth c H locs 0 0 (MQ below (va_Qi (fun r (_ : Unit) => r = o.1) (fun _ t => Af_ G ct (wX6 a ct o.2) A t) A) (List.toArray [.ref (a 0)]) s 0 0 A) (F0 m 63 ls []) := by
      intro n
      induction n with
      | zero =>
        intro y3_2 g3 hf
        rw [f_X6_town_L63] at hf
        cases hf
      | succ n ih =>
        intro y3_2 g3 hf H locs ls hW hl
        rw [f_X6_town_L63] at hf
        refine lv_iload_n hx hb dX6_town_63 rfl (lv_at hl 1 rfl) ?_
        refine lv_iconst (v := (2 : Int32)) hx hb dX6_town_64 (by decide) ?_
        refine lv_icmp_ge (tgt := 81) hx hb dX6_town_65 (by decide) (fun hc => ?_) (fun hc => ?_)
        · replace hf := ifp hc hf
          have hj := Option.some.inj hf
          subst hj
          exact J3 _ _ _ hW (lv_sub hl [0] rfl)
        · replace hf := ifn hc hf
          refine lv_aload_n hx hb dX6_town_68 rfl (lv_at hl 0 rfl) ?_
          refine x_get (ci := 6) (v := .ref (a 64)) (C := RX6) (T := TX6) (N := 7) hx hb hts inX6 hown hK hW 0 rfl rfl 3 (by decide) fl30 (fun _ h9 => h9) rfl dX6_town_69 ?_
          refine lv_iload_n hx hb dX6_town_72 rfl (lv_at hl 1 rfl) ?_
          refine lv_iconst (v := (0 : Int32)) hx hb dX6_town_73 (by decide) ?_
          replace hf := gd_s hf; obtain ⟨hin, hf⟩ := hf
          refine x_zast (w' := (wX6 a ct (up1 g3 64 y3_2.toNatClampNeg (vp_nar .boolean (0 : Int32))))) (n := 2) (f := g3 64) hx hb hK hW 44 rfl (okI_in hin) (ws_X6_64 a ct g3 _ _) dX6_town_74 (fun H locs hW => ?_)
          refine lv_iinc (v := (y3_2 + (1 : Int32))) (lv' := [(2, .int (y3_2 + (1 : Int32))), (0, .ref (a 0))]) hx hb dX6_town_75 hl (k := 1) rfl rfl (by decide) rfl (fun ls hl => ?_)
          refine lv_goto (tgt := 63) hx hb dX6_town_78 (by decide) ?_
          exact ih (y3_2 + (1 : Int32)) (up1 g3 64 y3_2.toNatClampNeg (vp_nar .boolean (0 : Int32))) hf _ _ _ hW (lv_sub hl [1, 0] rfl)
    exact L3 N (0 : Int32) (pu_ 26 19 (pu_ 5 19 (up1 (up1 (pu_ 1 25 g r1.2) 2 0 (0 : Int32)) 75 0 (-1 : Int32)) (sh_ 19 r2)) r2) hg _ _ _ hW (lv_sub hl [2, 0] rfl)
  · replace hf := ifp hc hf
    refine lv_aload_n hx hb dX6_town_20 rfl (lv_at hl 1 rfl) ?_
    refine lv_aload_n hx hb dX6_town_21 rfl (lv_at hl 1 rfl) ?_
    refine x_get (ci := 6) (v := .ref (a 1)) (C := RX6) (T := TX6) (N := 7) hx hb hts inX6 hown hK hW 0 rfl rfl 0 (by decide) fl10 (fun _ h9 => h9) rfl dX6_town_22 ?_
    refine x_get (ci := 4) (v := .int (r1.2 3 0)) (C := RX4) (T := TX4) (N := 6) hx hb hts inX4 hown hK hW 1 rfl rfl 2 (by decide) fl67 (fun _ h9 => h9) rfl dX6_town_25 ?_
    refine x_put (w' := (wX6 a ct (up1 (up1 (pu_ 1 25 g r1.2) 2 0 (0 : Int32)) 75 0 (r1.2 3 0)))) (fs := fsX6 a (up1 (pu_ 1 25 g r1.2) 2 0 (0 : Int32))) (ci := 6) (v := .int (r1.2 3 0)) (ty := .int) (C := RX6) (T := TX6) (N := 7) hx hb hts inX6 tyX6 tyX6_ok nmX6 hown hK hW 0 rfl rfl 6 (by decide) fl48 (fun _ h9 => h9) rfl (by decide +kernel) rfl rfl (Nat.le_of_ble_eq_true rfl) (wp_X6_75 a ct (up1 (pu_ 1 25 g r1.2) 2 0 (0 : Int32)) (r1.2 3 0)) dX6_town_28 (fun H locs hW => ?_)
    refine lv_bipush (v := (-10 : Int32)) hx hb dX6_town_31 (by decide) ?_
    refine lv_aload_n hx hb dX6_town_33 rfl (lv_at hl 1 rfl) ?_
    refine x_get (ci := 6) (v := .ref (a 1)) (C := RX6) (T := TX6) (N := 7) hx hb hts inX6 hown hK hW 0 rfl rfl 0 (by decide) fl10 (fun _ h9 => h9) rfl dX6_town_34 ?_
    refine x_get (ci := 4) (v := .int (r1.2 2 0)) (C := RX4) (T := TX4) (N := 6) hx hb hts inX4 hown hK hW 1 rfl rfl 1 (by decide) fl70 (fun _ h9 => h9) rfl dX6_town_37 ?_
    refine lv_isub hx hb dX6_town_40 ?_
    have ho := Option.some.inj hf
    subst ho
    exact x_reti (sz := 0) (w0 := []) (A1 := A) hx hb hr hlocks hK hW rfl rfl dX6_town_41
