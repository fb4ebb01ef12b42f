set_option maxHeartbeats 4000000 in
set_option maxRecDepth 100000 in
theorem c_X7_takePerson (l : Launch) (N : Nat) (kd : (Nat → Nat) × (Nat → Nat)) (G : va_G) (ct : Nat → ClassId) (a : Nat → Nat) (g : St_) (sg : Int64) (o : (Int32 × St_)) (hf : f_X7_takePerson N g = some o) : CtI l yX7_takePerson wsX7_takePerson ({ frames := 3, cells := 0, slots := 0, locals := 73 }) kd G ct [.ref (a 0)] (wX7 a ct g sg) o.1 (wX7 a ct o.2 sg) := by
  intro sz
  refine Met.ofW (cc := cX7_takePerson) (maxL := 3) (ret := (some .int)) (by decide) rfl ?_
  intro p e s m args below meth c s₁ B hml hv
  obtain ⟨rfl, hsz, hP, hK, hD0, hE⟩ := hv
  have hx := B.exec
  have hb := B.bytes
  have hr := B.returns
  have hts := atoms_spec (ws := wsX7_takePerson) B.pre
  have hown : s.vm.findClass RX7 = some m.cls := findClass_of_methodNamed B.named
  have hlocks := B.notSynchronized
  have inX7 : ∀ w ∈ wsX70, w ∈ wsX7_takePerson := by decide +kernel
  have fl59 := hts (.fieldLink RX7 59 "FittingStridesModel" "readAt" "[I") (by decide +kernel)
  have fl62 := hts (.fieldLink RX7 62 "FittingStridesModel" "readFirst" "[I") (by decide +kernel)
  have fl65 := hts (.fieldLink RX7 65 "FittingStridesModel" "readSecond" "[I") (by decide +kernel)
  have fl144 := hts (.constantLong RX7 144 (48)) (by decide +kernel)
  have fl146 := hts (.constantLong RX7 146 (57)) (by decide +kernel)
  have fl179 := hts (.fieldLink RX7 179 "FittingStridesModel" "readPlaces" "I") (by decide +kernel)
  have fl186 := hts (.fieldLink RX7 186 "FittingStridesModel" "readPersons" "I") (by decide +kernel)
  subst hsz
  have hD := hD0.self (sz := s.heap.size)
  generalize hAe : va_A (wX7 a ct g sg) s.heap.size = A at hD hE ⊢
  have hA : ∀ q : Nat, s.heap.size ≤ q → A q := fun q h => by rw [← hAe]; exact Or.inr h
  have hW : WW G A s.heap (wX7 a ct g sg) s.heap [] := ⟨hP, hD, va_S.rf⟩
  have hl := lv_entry ([.ref (a 0)]) (n := 3) (Nat.le_of_ble_eq_true rfl)
  rw [lg_entry_eq]
  generalize (lg_sl ([.ref (a 0)]) ++ List.replicate (3 - (lg_sl ([.ref (a 0)])).length) Slot.unset).toArray = ls at hl ⊢
  have hl : lv_has ls 3 [(0, .ref (a 0))] := hl
  unfold f_X7_takePerson at hf
  show W p l e ({ frames := 3, cells := 0, slots := 0, locals := 73 } : Room) s m (List.toArray [.ref (a 0)]) below meth c s.heap [] 0 0 (MQ below (va_Qi (fun r (_ : Unit) => r = o.1) (fun _ t => Af_ G ct (wX7 a ct o.2 sg) A t) A) (List.toArray [.ref (a 0)]) s 0 0 A) (F0 m 0 ls [])
  refine lv_aload_n hx hb dX7_takePerson_0 rfl (lv_at hl 0 rfl) ?_
  refine x_get (ci := 7) (v := .int (g 30 0)) (C := RX7) (T := TX7) (N := 44) hx hb hts inX7 hown hK hW 0 rfl rfl 29 (by decide) fl186 (fun _ h9 => h9) rfl dX7_takePerson_1 ?_
  refine lv_istore_n (lv' := [(1, .int (g 30 0)), (0, .ref (a 0))]) hx hb dX7_takePerson_4 rfl hl (by decide) rfl (fun ls hl => ?_)
  refine lv_aload_n hx hb dX7_takePerson_5 rfl (lv_at hl 1 rfl) ?_
  refine lv_dup hx hb dX7_takePerson_6 rfl ?_
  refine x_get (ci := 7) (v := .int (g 30 0)) (C := RX7) (T := TX7) (N := 44) hx hb hts inX7 hown hK hW 0 rfl rfl 29 (by decide) fl186 (fun _ h9 => h9) rfl dX7_takePerson_7 ?_
  refine lv_iconst (v := (1 : Int32)) hx hb dX7_takePerson_10 (by decide) ?_
  refine lv_iadd hx hb dX7_takePerson_11 ?_
  refine x_put (w' := (wX7 a ct (up1 g 30 0 ((g 30 0) + (1 : Int32))) sg)) (fs := fsX7 a g sg) (ci := 7) (v := .int ((g 30 0) + (1 : Int32))) (ty := .int) (C := RX7) (T := TX7) (N := 44) hx hb hts inX7 tyX7 tyX7_ok nmX7 hown hK hW 0 rfl rfl 29 (by decide) fl186 (fun _ h9 => h9) rfl (by decide +kernel) rfl rfl (Nat.le_of_ble_eq_true rfl) (wp_X7_30 a ct g sg ((g 30 0) + (1 : Int32))) dX7_takePerson_12 (fun H locs hW => ?_)
  refine lv_aload_n hx hb dX7_takePerson_15 rfl (lv_at hl 1 rfl) ?_
  refine lv_aload_n hx hb dX7_takePerson_16 rfl (lv_at hl 1 rfl) ?_
  refine x_get (ci := 7) (v := .ref (a 31)) (C := RX7) (T := TX7) (N := 44) hx hb hts inX7 hown hK hW 0 rfl rfl 30 (by decide) fl59 (fun _ h9 => h9) rfl dX7_takePerson_17 ?_
  refine lv_iload_n hx hb dX7_takePerson_20 rfl (lv_at hl 0 rfl) ?_
  refine lv_iconst (v := (0 : Int32)) hx hb dX7_takePerson_21 (by decide) ?_
  refine lv_aload_n hx hb dX7_takePerson_22 rfl (lv_at hl 1 rfl) ?_
  refine x_get (ci := 7) (v := .int (g 23 0)) (C := RX7) (T := TX7) (N := 44) hx hb hts inX7 hown hK hW 0 rfl rfl 22 (by decide) fl179 (fun _ h9 => h9) rfl dX7_takePerson_23 ?_
  refine lv_iconst (v := (1 : Int32)) hx hb dX7_takePerson_26 (by decide) ?_
  refine lv_isub hx hb dX7_takePerson_27 ?_
  replace hf := bs_ hf; obtain ⟨r1, hcl, hf⟩ := hf
  refine x_callW_i (w' := (wX7 a ct r1.2 sg)) (As := [.ref (a 31), .int (g 30 0), .int (0 : Int32), .int ((g 23 0) - (1 : Int32))]) (rest := []) (ci := 7) ⟨hx, hb, hml, hown, hts⟩ (c_X7_into__31 l N kd G ct a (up1 g 30 0 ((g 30 0) + (1 : Int32))) sg (g 30 0) (0 : Int32) ((g 23 0) - (1 : Int32)) _ hcl) (cwV 4 hts gX7_takePerson_X7_into rfl rfl rfl (by decide +kernel) ⟨Nat.le_of_ble_eq_true rfl, Nat.le_of_ble_eq_true rfl⟩) hK hE hA hW rfl rfl 0 rfl rfl rfl rfl hl.1 rfl (lv_room (Nat.le_of_ble_eq_true rfl)) dX7_takePerson_28 (fun H locs hW => ?_)
  refine lv_istore_n (lv' := [(2, .int r1.1), (1, .int (g 30 0)), (0, .ref (a 0))]) hx hb dX7_takePerson_31 rfl hl (by decide) rfl (fun ls hl => ?_)
  refine lv_iload_n hx hb dX7_takePerson_32 rfl (lv_at hl 0 rfl) ?_
  replace hf := bs_ hf; obtain ⟨j2, hg, hf⟩ := hf
  have J2 : ∀ (H : Heap) (locs : List Loc) (ls : Array Slot), WW G A s.heap (wX7 a ct j2.2 sg) H locs → lv_has ls 3 [(0, .ref (a 0)), (1, .int (g 30 0))] → W p l e ({ frames := 3, cells := 0, slots := 0, locals := 73 } : Room) s m (List.toArray [.ref (a 0)]) below meth c H locs 0 0 (MQ below (va_Qi (fun r (_ : Unit) => r = o.1) (fun _ t => Af_ G ct (wX7 a ct o.2 sg) A t) A) (List.toArray [.ref (a 0)]) s 0 0 A) (F0 m 52 ls (.int j2.1 :: [])) := by
    intro H locs ls hW hl
    refine lv_istore_n (lv' := [(2, .int j2.1), (0, .ref (a 0)), (1, .int (g 30 0))]) hx hb dX7_takePerson_52 rfl hl (by decide) rfl (fun ls hl => ?_)
    refine lv_aload_n hx hb dX7_takePerson_53 rfl (lv_at hl 1 rfl) ?_
    refine x_get (ci := 7) (v := .ref (a 33)) (C := RX7) (T := TX7) (N := 44) hx hb hts inX7 hown hK hW 0 rfl rfl 32 (by decide) fl65 (fun _ h9 => h9) rfl dX7_takePerson_54 ?_
    refine lv_iload_n hx hb dX7_takePerson_57 rfl (lv_at hl 2 rfl) ?_
    refine lv_iconst (v := (0 : Int32)) hx hb dX7_takePerson_58 (by decide) ?_
    replace hf := gd_s hf; obtain ⟨hin, hf⟩ := hf
    refine x_iast (w' := (wX7 a ct (up1 j2.2 33 (g 30 0).toNatClampNeg (0 : Int32)) sg)) (n := 8) (f := j2.2 33) hx hb hK hW 18 rfl (okI_in hin) (ws_X7_33 a ct j2.2 sg _ _) dX7_takePerson_59 (fun H locs hW => ?_)
    refine lv_iload_n hx hb dX7_takePerson_60 rfl (lv_at hl 0 rfl) ?_
    refine lv_if_gt (tgt := 81) hx hb dX7_takePerson_61 (by decide) (fun hc => ?_) (fun hc => ?_)
    · replace hf := ifp hc hf
      refine lv_iload_n hx hb dX7_takePerson_81 rfl (lv_at hl 0 rfl) ?_
      refine lv_goto (tgt := 97) hx hb dX7_takePerson_82 (by decide) ?_
      have ho := Option.some.inj hf
      subst ho
      exact x_reti (sz := 0) (w0 := []) (A1 := A) hx hb hr hlocks hK hW rfl rfl dX7_takePerson_97
    · replace hf := ifn hc hf
      refine lv_aload_n hx hb dX7_takePerson_64 rfl (lv_at hl 1 rfl) ?_
      replace hf := bs_ hf; obtain ⟨r4, hcl, hf⟩ := hf
      refine x_callW_i (w' := (wX7 a ct r4.2 sg)) (As := []) (rest := []) (ci := 7) ⟨hx, hb, hml, hown, hts⟩ (c_X7_here l N kd G ct a (up1 j2.2 33 (g 30 0).toNatClampNeg (0 : Int32)) sg _ hcl) (cwV 0 hts gX7_takePerson_X7_here rfl rfl rfl (by decide +kernel) ⟨Nat.le_of_ble_eq_true rfl, Nat.le_of_ble_eq_true rfl⟩) hK hE hA hW rfl rfl 0 rfl rfl rfl rfl hl.1 rfl (lv_room (Nat.le_of_ble_eq_true rfl)) dX7_takePerson_65 (fun H locs hW => ?_)
      refine lv_i2l hx hb dX7_takePerson_68 rfl ?_
      refine lv_ldc2 (v := (48 : Int64)) hx hb hown fl144 dX7_takePerson_69 ?_
      refine lv_ldc2 (v := (57 : Int64)) hx hb hown fl146 dX7_takePerson_72 ?_
      replace hf := bs_ hf; obtain ⟨r5, hcl, hf⟩ := hf
      refine x_callS_i (As := [.long r4.1.toInt64, .long (48 : Int64), .long (57 : Int64)]) (rest := []) ⟨hx, hb, hml, hown, hts⟩ (c_X7_in l N kd G ct r4.1.toInt64 (48 : Int64) (57 : Int64) _ hcl) (va_cwS 3 hts gX7_takePerson_X7_in rfl rfl rfl (by decide +kernel) ⟨Nat.le_of_ble_eq_true rfl, Nat.le_of_ble_eq_true rfl⟩) hK hE hA hW rfl hl.1 rfl (lv_room (Nat.le_of_ble_eq_true rfl)) dX7_takePerson_75 (fun H locs hW => ?_)
      refine lv_if_ne (tgt := 85) hx hb dX7_takePerson_78 (by decide) (fun hc => ?_) (fun hc => ?_)
      · replace hf := ifn hc hf
        refine lv_aload_n hx hb dX7_takePerson_85 rfl (lv_at hl 1 rfl) ?_
        refine lv_aload_n hx hb dX7_takePerson_86 rfl (lv_at hl 1 rfl) ?_
        refine x_get (ci := 7) (v := .ref (a 33)) (C := RX7) (T := TX7) (N := 44) hx hb hts inX7 hown hK hW 0 rfl rfl 32 (by decide) fl65 (fun _ h9 => h9) rfl dX7_takePerson_87 ?_
        refine lv_iload_n hx hb dX7_takePerson_90 rfl (lv_at hl 2 rfl) ?_
        refine lv_iconst (v := (1 : Int32)) hx hb dX7_takePerson_91 (by decide) ?_
        refine lv_bipush (v := (24 : Int32)) hx hb dX7_takePerson_92 (by decide) ?_
        replace hf := bs_ hf; obtain ⟨r6, hcl, hf⟩ := hf
        refine x_callW_i (w' := (wX7 a ct r6.2 sg)) (As := [.ref (a 33), .int (g 30 0), .int (1 : Int32), .int (24 : Int32)]) (rest := []) (ci := 7) ⟨hx, hb, hml, hown, hts⟩ (c_X7_into__33 l N kd G ct a r4.2 sg (g 30 0) (1 : Int32) (24 : Int32) _ hcl) (cwV 4 hts gX7_takePerson_X7_into rfl rfl rfl (by decide +kernel) ⟨Nat.le_of_ble_eq_true rfl, Nat.le_of_ble_eq_true rfl⟩) hK hE hA hW rfl rfl 0 rfl rfl rfl rfl hl.1 rfl (lv_room (Nat.le_of_ble_eq_true rfl)) dX7_takePerson_94 (fun H locs hW => ?_)
        have ho := Option.some.inj hf
        subst ho
        exact x_reti (sz := 0) (w0 := []) (A1 := A) hx hb hr hlocks hK hW rfl rfl dX7_takePerson_97
      · replace hf := ifp hc hf
        refine lv_iload_n hx hb dX7_takePerson_81 rfl (lv_at hl 0 rfl) ?_
        refine lv_goto (tgt := 97) hx hb dX7_takePerson_82 (by decide) ?_
        have ho := Option.some.inj hf
        subst ho
        exact x_reti (sz := 0) (w0 := []) (A1 := A) hx hb hr hlocks hK hW rfl rfl dX7_takePerson_97
  clear hf
  refine lv_if_le (tgt := 40) hx hb dX7_takePerson_33 (by decide) (fun hc => ?_) (fun hc => ?_)
  · have hf := ifp hc hg
    clear hg
    refine lv_aload_n hx hb dX7_takePerson_40 rfl (lv_at hl 2 rfl) ?_
    refine lv_aload_n hx hb dX7_takePerson_41 rfl (lv_at hl 2 rfl) ?_
    refine x_get (ci := 7) (v := .ref (a 32)) (C := RX7) (T := TX7) (N := 44) hx hb hts inX7 hown hK hW 0 rfl rfl 31 (by decide) fl62 (fun _ h9 => h9) rfl dX7_takePerson_42 ?_
    refine lv_iload_n hx hb dX7_takePerson_45 rfl (lv_at hl 1 rfl) ?_
    refine lv_iconst (v := (1 : Int32)) hx hb dX7_takePerson_46 (by decide) ?_
    refine lv_bipush (v := (24 : Int32)) hx hb dX7_takePerson_47 (by decide) ?_
    replace hf := bs_ hf; obtain ⟨r3, hcl, hf⟩ := hf
    refine x_callW_i (w' := (wX7 a ct r3.2 sg)) (As := [.ref (a 32), .int (g 30 0), .int (1 : Int32), .int (24 : Int32)]) (rest := []) (ci := 7) ⟨hx, hb, hml, hown, hts⟩ (c_X7_into__32 l N kd G ct a r1.2 sg (g 30 0) (1 : Int32) (24 : Int32) _ hcl) (cwV 4 hts gX7_takePerson_X7_into rfl rfl rfl (by decide +kernel) ⟨Nat.le_of_ble_eq_true rfl, Nat.le_of_ble_eq_true rfl⟩) hK hE hA hW rfl rfl 0 rfl rfl rfl rfl hl.1 rfl (lv_room (Nat.le_of_ble_eq_true rfl)) dX7_takePerson_49 (fun H locs hW => ?_)
    have hj := Option.some.inj hf
    subst hj
    exact J2 _ _ _ hW (lv_sub hl [2, 1] rfl)
  · have hf := ifn hc hg
    clear hg
    refine lv_iload_n hx hb dX7_takePerson_36 rfl (lv_at hl 0 rfl) ?_
    refine lv_goto (tgt := 52) hx hb dX7_takePerson_37 (by decide) ?_
    have hj := Option.some.inj hf
    subst hj
    exact J2 _ _ _ hW (lv_sub hl [2, 1] rfl)
set_option maxHeartbeats 4000000 in
set_option maxRecDepth 100000 in
theorem c_X7_takeClause (l : Launch) (N : Nat) (kd : (Nat → Nat) × (Nat → Nat)) (G : va_G) (ct : Nat → ClassId) (a : Nat → Nat) (g : St_) (sg : Int64) (o : (Int32 × St_ × Int64)) (hf : f_X7_takeClause N g sg = some o) : CtI l yX7_takeClause wsX7_takeClause ({ frames := 5, cells := 0, slots := 0, locals := 119 }) kd G ct [.ref (a 0)] (wX7 a ct g sg) o.1 (wX7 a ct o.2.1 o.2.2) := by
  intro sz
  refine Met.ofW (cc := cX7_takeClause) (maxL := 4) (ret := (some .int)) (by decide) rfl ?_
  intro p e s m args below meth c s₁ B hml hv
  obtain ⟨rfl, hsz, hP, hK, hD0, hE⟩ := hv
  have hx := B.exec
  have hb := B.bytes
  have hr := B.returns
  have hts := atoms_spec (ws := wsX7_takeClause) B.pre
  have hown : s.vm.findClass RX7 = some m.cls := findClass_of_methodNamed B.named
  have hlocks := B.notSynchronized
  have inX7 : ∀ w ∈ wsX70, w ∈ wsX7_takeClause := by decide +kernel
  have fl118 := hts (.fieldLink RX7 118 "FittingStridesModel" "at0" "I") (by decide +kernel)
  have fl125 := hts (.fieldLink RX7 125 "FittingStridesModel" "said" "J") (by decide +kernel)
  have fl129 := hts (.fieldLink RX7 129 "FittingStridesModel" "wordEnd" "I") (by decide +kernel)
  have fl155 := hts (.fieldLink RX7 155 "FittingStridesModel" "number" "I") (by decide +kernel)
  have fl165 := hts (.fieldLink RX7 165 "FittingStridesModel" "readStairs" "I") (by decide +kernel)
  have fl179 := hts (.fieldLink RX7 179 "FittingStridesModel" "readPlaces" "I") (by decide +kernel)
  have fl186 := hts (.fieldLink RX7 186 "FittingStridesModel" "readPersons" "I") (by decide +kernel)
  subst hsz
  have hD := hD0.self (sz := s.heap.size)
  generalize hAe : va_A (wX7 a ct g sg) s.heap.size = A at hD hE ⊢
  have hA : ∀ q : Nat, s.heap.size ≤ q → A q := fun q h => by rw [← hAe]; exact Or.inr h
  have hW : WW G A s.heap (wX7 a ct g sg) s.heap [] := ⟨hP, hD, va_S.rf⟩
  have hl := lv_entry ([.ref (a 0)]) (n := 4) (Nat.le_of_ble_eq_true rfl)
  rw [lg_entry_eq]
  generalize (lg_sl ([.ref (a 0)]) ++ List.replicate (4 - (lg_sl ([.ref (a 0)])).length) Slot.unset).toArray = ls at hl ⊢
  have hl : lv_has ls 4 [(0, .ref (a 0))] := hl
  unfold f_X7_takeClause at hf
  show W p l e ({ frames := 5, cells := 0, slots := 0, locals := 119 } : Room) s m (List.toArray [.ref (a 0)]) below meth c s.heap [] 0 0 (MQ below (va_Qi (fun r (_ : Unit) => r = o.1) (fun _ t => Af_ G ct (wX7 a ct o.2.1 o.2.2) A t) A) (List.toArray [.ref (a 0)]) s 0 0 A) (F0 m 0 ls [])
  refine lv_aload_n hx hb dX7_takeClause_0 rfl (lv_at hl 0 rfl) ?_
  replace hf := bs_ hf; obtain ⟨r1, hcl, hf⟩ := hf
  refine x_callW_v (w' := (wX7 a ct r1.1 r1.2)) (As := []) (rest := []) (ci := 7) ⟨hx, hb, hml, hown, hts⟩ (c_X7_readWord l N kd G ct a g sg _ hcl) (cwV 0 hts gX7_takeClause_X7_readWord rfl rfl rfl (by decide +kernel) ⟨Nat.le_of_ble_eq_true rfl, Nat.le_of_ble_eq_true rfl⟩) hK hE hA hW rfl rfl 0 rfl rfl rfl rfl hl.1 rfl (lv_room (Nat.le_of_ble_eq_true rfl)) dX7_takeClause_1 (fun H locs hW => ?_)
  refine lv_aload_n hx hb dX7_takeClause_4 rfl (lv_at hl 0 rfl) ?_
  refine x_get (ci := 7) (v := .long r1.2) (C := RX7) (T := TX7) (N := 44) hx hb hts inX7 hown hK hW 0 rfl rfl 18 (by decide) fl125 (fun _ h9 => h9) rfl dX7_takeClause_5 ?_
  refine lv_bipush (v := (112 : Int32)) hx hb dX7_takeClause_8 (by decide) ?_
  refine lv_bipush (v := (108 : Int32)) hx hb dX7_takeClause_10 (by decide) ?_
  refine lv_bipush (v := (97 : Int32)) hx hb dX7_takeClause_12 (by decide) ?_
  refine lv_bipush (v := (99 : Int32)) hx hb dX7_takeClause_14 (by decide) ?_
  replace hf := bs_ hf; obtain ⟨r2, hcl, hf⟩ := hf
  refine x_callS_l (As := [.int (112 : Int32), .int (108 : Int32), .int (97 : Int32), .int (99 : Int32)]) (rest := [.long r1.2]) ⟨hx, hb, hml, hown, hts⟩ (c_X7_code l N kd G ct (112 : Int32) (108 : Int32) (97 : Int32) (99 : Int32) _ hcl) (va_cwS 4 hts gX7_takeClause_X7_code rfl rfl rfl (by decide +kernel) ⟨Nat.le_of_ble_eq_true rfl, Nat.le_of_ble_eq_true rfl⟩) hK hE hA hW rfl hl.1 rfl (lv_room (Nat.le_of_ble_eq_true rfl)) dX7_takeClause_16 (fun H locs hW => ?_)
  refine lv_bipush (v := (101 : Int32)) hx hb dX7_takeClause_19 (by decide) ?_
  refine lv_bipush (v := (115 : Int32)) hx hb dX7_takeClause_21 (by decide) ?_
  replace hf := bs_ hf; obtain ⟨r3, hcl, hf⟩ := hf
  refine x_callS_l (As := [.long r2, .int (101 : Int32), .int (115 : Int32)]) (rest := [.long r1.2]) ⟨hx, hb, hml, hown, hts⟩ (c_X7_longer l N kd G ct r2 (101 : Int32) (115 : Int32) _ hcl) (va_cwS 3 hts gX7_takeClause_X7_longer rfl rfl rfl (by decide +kernel) ⟨Nat.le_of_ble_eq_true rfl, Nat.le_of_ble_eq_true rfl⟩) hK hE hA hW rfl hl.1 rfl (lv_room (Nat.le_of_ble_eq_true rfl)) dX7_takeClause_23 (fun H locs hW => ?_)
  refine W.lcmp hx hb dX7_takeClause_26 ?_
  replace hf := bs_ hf; obtain ⟨j4, hg, hf⟩ := hf
  have J4 : ∀ (H : Heap) (locs : List Loc) (ls : Array Slot), WW G A s.heap (wX7 a ct r1.1 r1.2) H locs → lv_has ls 4 [(0, .ref (a 0))] → W p l e ({ frames := 5, cells := 0, slots := 0, locals := 119 } : Room) s m (List.toArray [.ref (a 0)]) below meth c H locs 0 0 (MQ below (va_Qi (fun r (_ : Unit) => r = o.1) (fun _ t => Af_ G ct (wX7 a ct o.2.1 o.2.2) A t) A) (List.toArray [.ref (a 0)]) s 0 0 A) (F0 m 64 ls (.int j4 :: [])) := by
    intro H locs ls hW hl
    refine lv_istore_n (lv' := [(1, .int j4), (0, .ref (a 0))]) hx hb dX7_takeClause_64 rfl hl (by decide) rfl (fun ls hl => ?_)
    refine lv_iload_n hx hb dX7_takeClause_65 rfl (lv_at hl 0 rfl) ?_
    replace hf := bs_ hf; obtain ⟨j7, hg, hf⟩ := hf
    have J7 : ∀ (H : Heap) (locs : List Loc) (ls : Array Slot), WW G A s.heap (wX7 a ct r1.1 r1.2) H locs → lv_has ls 4 [(0, .ref (a 0))] → W p l e ({ frames := 5, cells := 0, slots := 0, locals := 119 } : Room) s m (List.toArray [.ref (a 0)]) below meth c H locs 0 0 (MQ below (va_Qi (fun r (_ : Unit) => r = o.1) (fun _ t => Af_ G ct (wX7 a ct o.2.1 o.2.2) A t) A) (List.toArray [.ref (a 0)]) s 0 0 A) (F0 m 104 ls (.int j7 :: [])) := by
      intro H locs ls hW hl
      refine lv_istore_n (lv' := [(2, .int j7), (0, .ref (a 0))]) hx hb dX7_takeClause_104 rfl hl (by decide) rfl (fun ls hl => ?_)
      refine lv_iload_n hx hb dX7_takeClause_105 rfl (lv_at hl 0 rfl) ?_
      refine lv_if_lt (tgt := 120) hx hb dX7_takeClause_106 (by decide) (fun hc => ?_) (fun hc => ?_)
      · replace hf := ifp hc hf
        refine lv_aload_n hx hb dX7_takeClause_120 rfl (lv_at hl 1 rfl) ?_
        refine lv_iconst (v := (1 : Int32)) hx hb dX7_takeClause_121 (by decide) ?_
        refine lv_aload_n hx hb dX7_takeClause_122 rfl (lv_at hl 1 rfl) ?_
        refine x_get (ci := 7) (v := .int (r1.1 18 0)) (C := RX7) (T := TX7) (N := 44) hx hb hts inX7 hown hK hW 0 rfl rfl 17 (by decide) fl118 (fun _ h9 => h9) rfl dX7_takeClause_123 ?_
        replace hf := bs_ hf; obtain ⟨r10, hcl, hf⟩ := hf
        refine x_callW_i (w' := (wX7 a ct r10.2 r1.2)) (As := [.int (1 : Int32), .int (r1.1 18 0)]) (rest := []) (ci := 7) ⟨hx, hb, hml, hown, hts⟩ (c_X7_fails l N kd G ct a r1.1 r1.2 (1 : Int32) (r1.1 18 0) _ hcl) (cwV 2 hts gX7_takeClause_X7_fails rfl rfl rfl (by decide +kernel) ⟨Nat.le_of_ble_eq_true rfl, Nat.le_of_ble_eq_true rfl⟩) hK hE hA hW rfl rfl 0 rfl rfl rfl rfl hl.1 rfl (lv_room (Nat.le_of_ble_eq_true rfl)) dX7_takeClause_126 (fun H locs hW => ?_)
        have ho := Option.some.inj hf
        subst ho
        exact x_reti (sz := 0) (w0 := []) (A1 := A) hx hb hr hlocks hK hW rfl rfl dX7_takeClause_129
      · replace hf := ifn hc hf
        refine lv_iload_n hx hb dX7_takeClause_109 rfl (lv_at hl 0 rfl) ?_
        replace hf := bs_ hf; obtain ⟨jr, hg, hf⟩ := hf
        have hR11 : ∀ r, jr = Sum.inl r → r = o := fun r hr0 => by subst hr0; have h8 := se_l hf; exact Option.some.inj h8
        have J11 : ∀ (j11 : St_), jr = Sum.inr j11 → ∀ (H : Heap) (locs : List Loc) (ls : Array Slot), WW G A s.heap (wX7 a ct j11 r1.2) H locs → lv_has ls 4 [(0, .ref (a 0)), (2, .int j7)] → W p l e ({ frames := 5, cells := 0, slots := 0, locals := 119 } : Room) s m (List.toArray [.ref (a 0)]) below meth c H locs 0 0 (MQ below (va_Qi (fun r (_ : Unit) => r = o.1) (fun _ t => Af_ G ct (wX7 a ct o.2.1 o.2.2) A t) A) (List.toArray [.ref (a 0)]) s 0 0 A) (F0 m 130 ls ([])) := by
          intro j11 hjr H locs ls hW hl
          subst hjr
          replace hf := se_r hf
          refine lv_iload_n hx hb dX7_takeClause_130 rfl (lv_at hl 1 rfl) ?_
          replace hf := bs_ hf; obtain ⟨jr, hg, hf⟩ := hf
          have hR13 : ∀ r, jr = Sum.inl r → r = o := fun r hr0 => by subst hr0; have h8 := se_l hf; exact Option.some.inj h8
          have J13 : ∀ (j13 : St_), jr = Sum.inr j13 → ∀ (H : Heap) (locs : List Loc) (ls : Array Slot), WW G A s.heap (wX7 a ct j13 r1.2) H locs → lv_has ls 4 [(0, .ref (a 0)), (2, .int j7)] → W p l e ({ frames := 5, cells := 0, slots := 0, locals := 119 } : Room) s m (List.toArray [.ref (a 0)]) below meth c H locs 0 0 (MQ below (va_Qi (fun r (_ : Unit) => r = o.1) (fun _ t => Af_ G ct (wX7 a ct o.2.1 o.2.2) A t) A) (List.toArray [.ref (a 0)]) s 0 0 A) (F0 m 180 ls ([])) := by
            intro j13 hjr H locs ls hW hl
            subst hjr
            replace hf := se_r hf
            refine lv_aload_n hx hb dX7_takeClause_180 rfl (lv_at hl 0 rfl) ?_
            refine lv_aload_n hx hb dX7_takeClause_181 rfl (lv_at hl 0 rfl) ?_
            refine x_get (ci := 7) (v := .int (j13 20 0)) (C := RX7) (T := TX7) (N := 44) hx hb hts inX7 hown hK hW 0 rfl rfl 19 (by decide) fl129 (fun _ h9 => h9) rfl dX7_takeClause_182 ?_
            refine x_put (w' := (wX7 a ct (up1 j13 18 0 (j13 20 0)) r1.2)) (fs := fsX7 a j13 r1.2) (ci := 7) (v := .int (j13 20 0)) (ty := .int) (C := RX7) (T := TX7) (N := 44) hx hb hts inX7 tyX7 tyX7_ok nmX7 hown hK hW 0 rfl rfl 17 (by decide) fl118 (fun _ h9 => h9) rfl (by decide +kernel) rfl rfl (Nat.le_of_ble_eq_true rfl) (wp_X7_18 a ct j13 r1.2 (j13 20 0)) dX7_takeClause_185 (fun H locs hW => ?_)
            refine lv_iconst (v := (0 : Int32)) hx hb dX7_takeClause_188 (by decide) ?_
            refine lv_istore_n (lv' := [(3, .int (0 : Int32)), (0, .ref (a 0)), (2, .int j7)]) hx hb dX7_takeClause_189 rfl hl (by decide) rfl (fun ls hl => ?_)
            refine lv_iload_n hx hb dX7_takeClause_190 rfl (lv_at hl 2 rfl) ?_
            replace hf := bs_ hf; obtain ⟨j17, hg, hf⟩ := hf
            have J17 : ∀ (H : Heap) (locs : List Loc) (ls : Array Slot), WW G A s.heap (wX7 a ct j17.2.1 j17.2.2) H locs → lv_has ls 4 [(0, .ref (a 0)), (3, .int j17.1)] → W p l e ({ frames := 5, cells := 0, slots := 0, locals := 119 } : Room) s m (List.toArray [.ref (a 0)]) below meth c H locs 0 0 (MQ below (va_Qi (fun r (_ : Unit) => r = o.1) (fun _ t => Af_ G ct (wX7 a ct o.2.1 o.2.2) A t) A) (List.toArray [.ref (a 0)]) s 0 0 A) (F0 m 230 ls ([])) := by
              intro H locs ls hW hl
              refine lv_iload_n hx hb dX7_takeClause_230 rfl (lv_at hl 1 rfl) ?_
              refine lv_if_ne (tgt := 253) hx hb dX7_takeClause_231 (by decide) (fun hc => ?_) (fun hc => ?_)
              · replace hf := ifn hc hf
                refine lv_aload_n hx hb dX7_takeClause_253 rfl (lv_at hl 0 rfl) ?_
                refine lv_dup hx hb dX7_takeClause_254 rfl ?_
                refine x_get (ci := 7) (v := .int (j17.2.1 18 0)) (C := RX7) (T := TX7) (N := 44) hx hb hts inX7 hown hK hW 0 rfl rfl 17 (by decide) fl118 (fun _ h9 => h9) rfl dX7_takeClause_255 ?_
                refine lv_iconst (v := (1 : Int32)) hx hb dX7_takeClause_258 (by decide) ?_
                refine lv_iadd hx hb dX7_takeClause_259 ?_
                refine x_put (w' := (wX7 a ct (up1 j17.2.1 18 0 ((j17.2.1 18 0) + (1 : Int32))) j17.2.2)) (fs := fsX7 a j17.2.1 j17.2.2) (ci := 7) (v := .int ((j17.2.1 18 0) + (1 : Int32))) (ty := .int) (C := RX7) (T := TX7) (N := 44) hx hb hts inX7 tyX7 tyX7_ok nmX7 hown hK hW 0 rfl rfl 17 (by decide) fl118 (fun _ h9 => h9) rfl (by decide +kernel) rfl rfl (Nat.le_of_ble_eq_true rfl) (wp_X7_18 a ct j17.2.1 j17.2.2 ((j17.2.1 18 0) + (1 : Int32))) dX7_takeClause_260 (fun H locs hW => ?_)
                refine lv_iload_n hx hb dX7_takeClause_263 rfl (lv_at hl 1 rfl) ?_
                have ho := Option.some.inj hf
                subst ho
                exact x_reti (sz := 0) (w0 := []) (A1 := A) hx hb hr hlocks hK hW rfl rfl dX7_takeClause_264
              · replace hf := ifp hc hf
                refine lv_aload_n hx hb dX7_takeClause_234 rfl (lv_at hl 0 rfl) ?_
                replace hf := bs_ hf; obtain ⟨r22, hcl, hf⟩ := hf
                refine x_callW_i (w' := (wX7 a ct r22.2 j17.2.2)) (As := []) (rest := []) (ci := 7) ⟨hx, hb, hml, hown, hts⟩ (c_X7_here l N kd G ct a j17.2.1 j17.2.2 _ hcl) (cwV 0 hts gX7_takeClause_X7_here rfl rfl rfl (by decide +kernel) ⟨Nat.le_of_ble_eq_true rfl, Nat.le_of_ble_eq_true rfl⟩) hK hE hA hW rfl rfl 0 rfl rfl rfl rfl hl.1 rfl (lv_room (Nat.le_of_ble_eq_true rfl)) dX7_takeClause_235 (fun H locs hW => ?_)
                refine lv_bipush (v := (59 : Int32)) hx hb dX7_takeClause_238 (by decide) ?_
                refine lv_icmp_eq (tgt := 253) hx hb dX7_takeClause_240 (by decide) (fun hc => ?_) (fun hc => ?_)
                · replace hf := ifp hc hf
                  refine lv_aload_n hx hb dX7_takeClause_253 rfl (lv_at hl 0 rfl) ?_
                  refine lv_dup hx hb dX7_takeClause_254 rfl ?_
                  refine x_get (ci := 7) (v := .int (r22.2 18 0)) (C := RX7) (T := TX7) (N := 44) hx hb hts inX7 hown hK hW 0 rfl rfl 17 (by decide) fl118 (fun _ h9 => h9) rfl dX7_takeClause_255 ?_
                  refine lv_iconst (v := (1 : Int32)) hx hb dX7_takeClause_258 (by decide) ?_
                  refine lv_iadd hx hb dX7_takeClause_259 ?_
                  refine x_put (w' := (wX7 a ct (up1 r22.2 18 0 ((r22.2 18 0) + (1 : Int32))) j17.2.2)) (fs := fsX7 a r22.2 j17.2.2) (ci := 7) (v := .int ((r22.2 18 0) + (1 : Int32))) (ty := .int) (C := RX7) (T := TX7) (N := 44) hx hb hts inX7 tyX7 tyX7_ok nmX7 hown hK hW 0 rfl rfl 17 (by decide) fl118 (fun _ h9 => h9) rfl (by decide +kernel) rfl rfl (Nat.le_of_ble_eq_true rfl) (wp_X7_18 a ct r22.2 j17.2.2 ((r22.2 18 0) + (1 : Int32))) dX7_takeClause_260 (fun H locs hW => ?_)
                  refine lv_iload_n hx hb dX7_takeClause_263 rfl (lv_at hl 1 rfl) ?_
                  have ho := Option.some.inj hf
                  subst ho
                  exact x_reti (sz := 0) (w0 := []) (A1 := A) hx hb hr hlocks hK hW rfl rfl dX7_takeClause_264
                · replace hf := ifn hc hf
                  refine lv_aload_n hx hb dX7_takeClause_243 rfl (lv_at hl 0 rfl) ?_
                  refine lv_iconst (v := (1 : Int32)) hx hb dX7_takeClause_244 (by decide) ?_
                  refine lv_aload_n hx hb dX7_takeClause_245 rfl (lv_at hl 0 rfl) ?_
                  refine x_get (ci := 7) (v := .int (r22.2 18 0)) (C := RX7) (T := TX7) (N := 44) hx hb hts inX7 hown hK hW 0 rfl rfl 17 (by decide) fl118 (fun _ h9 => h9) rfl dX7_takeClause_246 ?_
                  replace hf := bs_ hf; obtain ⟨r23, hcl, hf⟩ := hf
                  refine x_callW_i (w' := (wX7 a ct r23.2 j17.2.2)) (As := [.int (1 : Int32), .int (r22.2 18 0)]) (rest := []) (ci := 7) ⟨hx, hb, hml, hown, hts⟩ (c_X7_fails l N kd G ct a r22.2 j17.2.2 (1 : Int32) (r22.2 18 0) _ hcl) (cwV 2 hts gX7_takeClause_X7_fails rfl rfl rfl (by decide +kernel) ⟨Nat.le_of_ble_eq_true rfl, Nat.le_of_ble_eq_true rfl⟩) hK hE hA hW rfl rfl 0 rfl rfl rfl rfl hl.1 rfl (lv_room (Nat.le_of_ble_eq_true rfl)) dX7_takeClause_249 (fun H locs hW => ?_)
                  have ho := Option.some.inj hf
                  subst ho
                  exact x_reti (sz := 0) (w0 := []) (A1 := A) hx hb hr hlocks hK hW rfl rfl dX7_takeClause_252
            clear hf
            refine lv_if_ne (tgt := 213) hx hb dX7_takeClause_191 (by decide) (fun hc => ?_) (fun hc => ?_)
            · have hf := ifn hc hg
              clear hg
              refine lv_iload_n hx hb dX7_takeClause_213 rfl (lv_at hl 2 rfl) ?_
              refine lv_iconst (v := (1 : Int32)) hx hb dX7_takeClause_214 (by decide) ?_
              replace hf := bs_ hf; obtain ⟨j18, hg, hf⟩ := hf
              have J18 : ∀ (H : Heap) (locs : List Loc) (ls : Array Slot), WW G A s.heap (wX7 a ct j18.2.1 j18.2.2) H locs → lv_has ls 4 [(0, .ref (a 0))] → W p l e ({ frames := 5, cells := 0, slots := 0, locals := 119 } : Room) s m (List.toArray [.ref (a 0)]) below meth c H locs 0 0 (MQ below (va_Qi (fun r (_ : Unit) => r = o.1) (fun _ t => Af_ G ct (wX7 a ct o.2.1 o.2.2) A t) A) (List.toArray [.ref (a 0)]) s 0 0 A) (F0 m 229 ls (.int j18.1 :: [])) := by
                intro H locs ls hW hl
                refine lv_istore_n (lv' := [(3, .int j18.1), (0, .ref (a 0))]) hx hb dX7_takeClause_229 rfl hl (by decide) rfl (fun ls hl => ?_)
                have hj := Option.some.inj hf
                subst hj
                exact J17 _ _ _ hW (lv_sub hl [1, 0] rfl)
              clear hf
              refine lv_icmp_ne (tgt := 225) hx hb dX7_takeClause_215 (by decide) (fun hc => ?_) (fun hc => ?_)
              · have hf := ifn hc hg
                clear hg
                refine lv_aload_n hx hb dX7_takeClause_225 rfl (lv_at hl 1 rfl) ?_
                replace hf := bs_ hf; obtain ⟨r19, hcl, hf⟩ := hf
                refine x_callW_i (w' := (wX7 a ct r19.2 r1.2)) (As := []) (rest := []) (ci := 7) ⟨hx, hb, hml, hown, hts⟩ (c_X7_takePerson l N kd G ct a (up1 j13 18 0 (j13 20 0)) r1.2 _ hcl) (cwV 0 hts gX7_takeClause_X7_takePerson rfl rfl rfl (by decide +kernel) ⟨Nat.le_of_ble_eq_true rfl, Nat.le_of_ble_eq_true rfl⟩) hK hE hA hW rfl rfl 0 rfl rfl rfl rfl hl.1 rfl (lv_room (Nat.le_of_ble_eq_true rfl)) dX7_takeClause_226 (fun H locs hW => ?_)
                have hj := Option.some.inj hf
                subst hj
                exact J18 _ _ _ hW (lv_sub hl [1] rfl)
              · have hf := ifp hc hg
                clear hg
                refine lv_aload_n hx hb dX7_takeClause_218 rfl (lv_at hl 1 rfl) ?_
                replace hf := bs_ hf; obtain ⟨r20, hcl, hf⟩ := hf
                refine x_callW_i (w' := (wX7 a ct r20.2.1 r20.2.2)) (As := []) (rest := []) (ci := 7) ⟨hx, hb, hml, hown, hts⟩ (c_X7_takeStair l N kd G ct a (up1 j13 18 0 (j13 20 0)) r1.2 _ hcl) (cwV 0 hts gX7_takeClause_X7_takeStair rfl rfl rfl (by decide +kernel) ⟨Nat.le_of_ble_eq_true rfl, Nat.le_of_ble_eq_true rfl⟩) hK hE hA hW rfl rfl 0 rfl rfl rfl rfl hl.1 rfl (lv_room (Nat.le_of_ble_eq_true rfl)) dX7_takeClause_219 (fun H locs hW => ?_)
                refine lv_goto (tgt := 229) hx hb dX7_takeClause_222 (by decide) ?_
                have hj := Option.some.inj hf
                subst hj
                exact J18 _ _ _ hW (lv_sub hl [1] rfl)
            · have hf := ifp hc hg
              clear hg
              refine lv_aload_n hx hb dX7_takeClause_194 rfl (lv_at hl 1 rfl) ?_
              refine lv_iconst (v := (1 : Int32)) hx hb dX7_takeClause_195 (by decide) ?_
              refine lv_bipush (v := (8 : Int32)) hx hb dX7_takeClause_196 (by decide) ?_
              replace hf := bs_ hf; obtain ⟨r21, hcl, hf⟩ := hf
              refine x_callW_i (w' := (wX7 a ct r21.2 r1.2)) (As := [.int (1 : Int32), .int (8 : Int32)]) (rest := []) (ci := 7) ⟨hx, hb, hml, hown, hts⟩ (c_X7_takeNumber l N kd G ct a (up1 j13 18 0 (j13 20 0)) r1.2 (1 : Int32) (8 : Int32) _ hcl) (cwV 2 hts gX7_takeClause_X7_takeNumber rfl rfl rfl (by decide +kernel) ⟨Nat.le_of_ble_eq_true rfl, Nat.le_of_ble_eq_true rfl⟩) hK hE hA hW rfl rfl 0 rfl rfl rfl rfl hl.1 rfl (lv_room (Nat.le_of_ble_eq_true rfl)) dX7_takeClause_198 (fun H locs hW => ?_)
              refine lv_istore_n (lv' := [(3, .int r21.1), (0, .ref (a 0)), (2, .int j7)]) hx hb dX7_takeClause_201 rfl hl (by decide) rfl (fun ls hl => ?_)
              refine lv_aload_n hx hb dX7_takeClause_202 rfl (lv_at hl 1 rfl) ?_
              refine lv_aload_n hx hb dX7_takeClause_203 rfl (lv_at hl 1 rfl) ?_
              refine x_get (ci := 7) (v := .int (r21.2 21 0)) (C := RX7) (T := TX7) (N := 44) hx hb hts inX7 hown hK hW 0 rfl rfl 20 (by decide) fl155 (fun _ h9 => h9) rfl dX7_takeClause_204 ?_
              refine x_put (w' := (wX7 a ct (up1 r21.2 23 0 (r21.2 21 0)) r1.2)) (fs := fsX7 a r21.2 r1.2) (ci := 7) (v := .int (r21.2 21 0)) (ty := .int) (C := RX7) (T := TX7) (N := 44) hx hb hts inX7 tyX7 tyX7_ok nmX7 hown hK hW 0 rfl rfl 22 (by decide) fl179 (fun _ h9 => h9) rfl (by decide +kernel) rfl rfl (Nat.le_of_ble_eq_true rfl) (wp_X7_23 a ct r21.2 r1.2 (r21.2 21 0)) dX7_takeClause_207 (fun H locs hW => ?_)
              refine lv_goto (tgt := 230) hx hb dX7_takeClause_210 (by decide) ?_
              have hj := Option.some.inj hf
              subst hj
              exact J17 _ _ _ hW (lv_sub hl [1, 0] rfl)
          clear hf
          refine lv_if_ne (tgt := 144) hx hb dX7_takeClause_131 (by decide) (fun hc => ?_) (fun hc => ?_)
          · have hf := ifn hc hg
            clear hg
            refine lv_iload_n hx hb dX7_takeClause_144 rfl (lv_at hl 1 rfl) ?_
            refine lv_iconst (v := (1 : Int32)) hx hb dX7_takeClause_145 (by decide) ?_
            refine lv_icmp_ne (tgt := 161) hx hb dX7_takeClause_146 (by decide) (fun hc => ?_) (fun hc => ?_)
            · replace hf := ifn hc hf
              refine lv_aload_n hx hb dX7_takeClause_161 rfl (lv_at hl 0 rfl) ?_
              refine x_get (ci := 7) (v := .int (j11 30 0)) (C := RX7) (T := TX7) (N := 44) hx hb hts inX7 hown hK hW 0 rfl rfl 29 (by decide) fl186 (fun _ h9 => h9) rfl dX7_takeClause_162 ?_
              refine lv_bipush (v := (8 : Int32)) hx hb dX7_takeClause_165 (by decide) ?_
              refine lv_icmp_ne (tgt := 180) hx hb dX7_takeClause_167 (by decide) (fun hc => ?_) (fun hc => ?_)
              · replace hf := ifn hc hf
                have hj := (Option.some.inj hf).symm
                exact J13 _ hj _ _ _ hW (lv_sub hl [0, 1] rfl)
              · replace hf := ifp hc hf
                refine lv_aload_n hx hb dX7_takeClause_170 rfl (lv_at hl 0 rfl) ?_
                refine lv_iconst (v := (3 : Int32)) hx hb dX7_takeClause_171 (by decide) ?_
                refine lv_aload_n hx hb dX7_takeClause_172 rfl (lv_at hl 0 rfl) ?_
                refine x_get (ci := 7) (v := .int (j11 18 0)) (C := RX7) (T := TX7) (N := 44) hx hb hts inX7 hown hK hW 0 rfl rfl 17 (by decide) fl118 (fun _ h9 => h9) rfl dX7_takeClause_173 ?_
                replace hf := bs_ hf; obtain ⟨r14, hcl, hf⟩ := hf
                refine x_callW_i (w' := (wX7 a ct r14.2 r1.2)) (As := [.int (3 : Int32), .int (j11 18 0)]) (rest := []) (ci := 7) ⟨hx, hb, hml, hown, hts⟩ (c_X7_fails l N kd G ct a j11 r1.2 (3 : Int32) (j11 18 0) _ hcl) (cwV 2 hts gX7_takeClause_X7_fails rfl rfl rfl (by decide +kernel) ⟨Nat.le_of_ble_eq_true rfl, Nat.le_of_ble_eq_true rfl⟩) hK hE hA hW rfl rfl 0 rfl rfl rfl rfl hl.1 rfl (lv_room (Nat.le_of_ble_eq_true rfl)) dX7_takeClause_176 (fun H locs hW => ?_)
                have ho := hR13 _ (Option.some.inj hf).symm
                subst ho
                exact x_reti (sz := 0) (w0 := []) (A1 := A) hx hb hr hlocks hK hW rfl rfl dX7_takeClause_179
            · replace hf := ifp hc hf
              refine lv_aload_n hx hb dX7_takeClause_149 rfl (lv_at hl 0 rfl) ?_
              refine x_get (ci := 7) (v := .int (j11 24 0)) (C := RX7) (T := TX7) (N := 44) hx hb hts inX7 hown hK hW 0 rfl rfl 23 (by decide) fl165 (fun _ h9 => h9) rfl dX7_takeClause_150 ?_
              refine lv_bipush (v := (10 : Int32)) hx hb dX7_takeClause_153 (by decide) ?_
              refine lv_icmp_ne (tgt := 180) hx hb dX7_takeClause_155 (by decide) (fun hc => ?_) (fun hc => ?_)
              · replace hf := ifn hc hf
                have hj := (Option.some.inj hf).symm
                exact J13 _ hj _ _ _ hW (lv_sub hl [0, 1] rfl)
              · replace hf := ifp hc hf
                refine lv_goto (tgt := 170) hx hb dX7_takeClause_158 (by decide) ?_
                refine lv_aload_n hx hb dX7_takeClause_170 rfl (lv_at hl 0 rfl) ?_
                refine lv_iconst (v := (3 : Int32)) hx hb dX7_takeClause_171 (by decide) ?_
                refine lv_aload_n hx hb dX7_takeClause_172 rfl (lv_at hl 0 rfl) ?_
                refine x_get (ci := 7) (v := .int (j11 18 0)) (C := RX7) (T := TX7) (N := 44) hx hb hts inX7 hown hK hW 0 rfl rfl 17 (by decide) fl118 (fun _ h9 => h9) rfl dX7_takeClause_173 ?_
                replace hf := bs_ hf; obtain ⟨r15, hcl, hf⟩ := hf
                refine x_callW_i (w' := (wX7 a ct r15.2 r1.2)) (As := [.int (3 : Int32), .int (j11 18 0)]) (rest := []) (ci := 7) ⟨hx, hb, hml, hown, hts⟩ (c_X7_fails l N kd G ct a j11 r1.2 (3 : Int32) (j11 18 0) _ hcl) (cwV 2 hts gX7_takeClause_X7_fails rfl rfl rfl (by decide +kernel) ⟨Nat.le_of_ble_eq_true rfl, Nat.le_of_ble_eq_true rfl⟩) hK hE hA hW rfl rfl 0 rfl rfl rfl rfl hl.1 rfl (lv_room (Nat.le_of_ble_eq_true rfl)) dX7_takeClause_176 (fun H locs hW => ?_)
                have ho := hR13 _ (Option.some.inj hf).symm
                subst ho
                exact x_reti (sz := 0) (w0 := []) (A1 := A) hx hb hr hlocks hK hW rfl rfl dX7_takeClause_179
          · have hf := ifp hc hg
            clear hg
            refine lv_aload_n hx hb dX7_takeClause_134 rfl (lv_at hl 0 rfl) ?_
            refine x_get (ci := 7) (v := .int (j11 23 0)) (C := RX7) (T := TX7) (N := 44) hx hb hts inX7 hown hK hW 0 rfl rfl 22 (by decide) fl179 (fun _ h9 => h9) rfl dX7_takeClause_135 ?_
            refine lv_if_le (tgt := 180) hx hb dX7_takeClause_138 (by decide) (fun hc => ?_) (fun hc => ?_)
            · replace hf := ifp hc hf
              have hj := (Option.some.inj hf).symm
              exact J13 _ hj _ _ _ hW (lv_sub hl [0, 1] rfl)
            · replace hf := ifn hc hf
              refine lv_goto (tgt := 170) hx hb dX7_takeClause_141 (by decide) ?_
              refine lv_aload_n hx hb dX7_takeClause_170 rfl (lv_at hl 0 rfl) ?_
              refine lv_iconst (v := (3 : Int32)) hx hb dX7_takeClause_171 (by decide) ?_
              refine lv_aload_n hx hb dX7_takeClause_172 rfl (lv_at hl 0 rfl) ?_
              refine x_get (ci := 7) (v := .int (j11 18 0)) (C := RX7) (T := TX7) (N := 44) hx hb hts inX7 hown hK hW 0 rfl rfl 17 (by decide) fl118 (fun _ h9 => h9) rfl dX7_takeClause_173 ?_
              replace hf := bs_ hf; obtain ⟨r16, hcl, hf⟩ := hf
              refine x_callW_i (w' := (wX7 a ct r16.2 r1.2)) (As := [.int (3 : Int32), .int (j11 18 0)]) (rest := []) (ci := 7) ⟨hx, hb, hml, hown, hts⟩ (c_X7_fails l N kd G ct a j11 r1.2 (3 : Int32) (j11 18 0) _ hcl) (cwV 2 hts gX7_takeClause_X7_fails rfl rfl rfl (by decide +kernel) ⟨Nat.le_of_ble_eq_true rfl, Nat.le_of_ble_eq_true rfl⟩) hK hE hA hW rfl rfl 0 rfl rfl rfl rfl hl.1 rfl (lv_room (Nat.le_of_ble_eq_true rfl)) dX7_takeClause_176 (fun H locs hW => ?_)
              have ho := hR13 _ (Option.some.inj hf).symm
              subst ho
              exact x_reti (sz := 0) (w0 := []) (A1 := A) hx hb hr hlocks hK hW rfl rfl dX7_takeClause_179
        clear hf
        refine lv_if_le (tgt := 130) hx hb dX7_takeClause_110 (by decide) (fun hc => ?_) (fun hc => ?_)
        · have hf := ifp hc hg
          clear hg
          have hj := (Option.some.inj hf).symm
          exact J11 _ hj _ _ _ hW (lv_sub hl [1, 0] rfl)
        · have hf := ifn hc hg
          clear hg
          refine lv_aload_n hx hb dX7_takeClause_113 rfl (lv_at hl 1 rfl) ?_
          refine x_get (ci := 7) (v := .int (r1.1 23 0)) (C := RX7) (T := TX7) (N := 44) hx hb hts inX7 hown hK hW 0 rfl rfl 22 (by decide) fl179 (fun _ h9 => h9) rfl dX7_takeClause_114 ?_
          refine lv_if_ne (tgt := 130) hx hb dX7_takeClause_117 (by decide) (fun hc => ?_) (fun hc => ?_)
          · replace hf := ifn hc hf
            have hj := (Option.some.inj hf).symm
            exact J11 _ hj _ _ _ hW (lv_sub hl [1, 0] rfl)
          · replace hf := ifp hc hf
            refine lv_aload_n hx hb dX7_takeClause_120 rfl (lv_at hl 1 rfl) ?_
            refine lv_iconst (v := (1 : Int32)) hx hb dX7_takeClause_121 (by decide) ?_
            refine lv_aload_n hx hb dX7_takeClause_122 rfl (lv_at hl 1 rfl) ?_
            refine x_get (ci := 7) (v := .int (r1.1 18 0)) (C := RX7) (T := TX7) (N := 44) hx hb hts inX7 hown hK hW 0 rfl rfl 17 (by decide) fl118 (fun _ h9 => h9) rfl dX7_takeClause_123 ?_
            replace hf := bs_ hf; obtain ⟨r12, hcl, hf⟩ := hf
            refine x_callW_i (w' := (wX7 a ct r12.2 r1.2)) (As := [.int (1 : Int32), .int (r1.1 18 0)]) (rest := []) (ci := 7) ⟨hx, hb, hml, hown, hts⟩ (c_X7_fails l N kd G ct a r1.1 r1.2 (1 : Int32) (r1.1 18 0) _ hcl) (cwV 2 hts gX7_takeClause_X7_fails rfl rfl rfl (by decide +kernel) ⟨Nat.le_of_ble_eq_true rfl, Nat.le_of_ble_eq_true rfl⟩) hK hE hA hW rfl rfl 0 rfl rfl rfl rfl hl.1 rfl (lv_room (Nat.le_of_ble_eq_true rfl)) dX7_takeClause_126 (fun H locs hW => ?_)
            have ho := hR11 _ (Option.some.inj hf).symm
            subst ho
            exact x_reti (sz := 0) (w0 := []) (A1 := A) hx hb hr hlocks hK hW rfl rfl dX7_takeClause_129
    clear hf
    refine lv_if_lt (tgt := 73) hx hb dX7_takeClause_66 (by decide) (fun hc => ?_) (fun hc => ?_)
    · have hf := ifp hc hg
      clear hg
      refine lv_aload_n hx hb dX7_takeClause_73 rfl (lv_at hl 1 rfl) ?_
      refine x_get (ci := 7) (v := .long r1.2) (C := RX7) (T := TX7) (N := 44) hx hb hts inX7 hown hK hW 0 rfl rfl 18 (by decide) fl125 (fun _ h9 => h9) rfl dX7_takeClause_74 ?_
      refine lv_bipush (v := (112 : Int32)) hx hb dX7_takeClause_77 (by decide) ?_
      refine lv_bipush (v := (101 : Int32)) hx hb dX7_takeClause_79 (by decide) ?_
      refine lv_bipush (v := (114 : Int32)) hx hb dX7_takeClause_81 (by decide) ?_
      refine lv_bipush (v := (115 : Int32)) hx hb dX7_takeClause_83 (by decide) ?_
      replace hf := bs_ hf; obtain ⟨r8, hcl, hf⟩ := hf
      refine x_callS_l (As := [.int (112 : Int32), .int (101 : Int32), .int (114 : Int32), .int (115 : Int32)]) (rest := [.long r1.2]) ⟨hx, hb, hml, hown, hts⟩ (c_X7_code l N kd G ct (112 : Int32) (101 : Int32) (114 : Int32) (115 : Int32) _ hcl) (va_cwS 4 hts gX7_takeClause_X7_code rfl rfl rfl (by decide +kernel) ⟨Nat.le_of_ble_eq_true rfl, Nat.le_of_ble_eq_true rfl⟩) hK hE hA hW rfl hl.1 rfl (lv_room (Nat.le_of_ble_eq_true rfl)) dX7_takeClause_85 (fun H locs hW => ?_)
      refine lv_bipush (v := (111 : Int32)) hx hb dX7_takeClause_88 (by decide) ?_
      refine lv_bipush (v := (110 : Int32)) hx hb dX7_takeClause_90 (by decide) ?_
      replace hf := bs_ hf; obtain ⟨r9, hcl, hf⟩ := hf
      refine x_callS_l (As := [.long r8, .int (111 : Int32), .int (110 : Int32)]) (rest := [.long r1.2]) ⟨hx, hb, hml, hown, hts⟩ (c_X7_longer l N kd G ct r8 (111 : Int32) (110 : Int32) _ hcl) (va_cwS 3 hts gX7_takeClause_X7_longer rfl rfl rfl (by decide +kernel) ⟨Nat.le_of_ble_eq_true rfl, Nat.le_of_ble_eq_true rfl⟩) hK hE hA hW rfl hl.1 rfl (lv_room (Nat.le_of_ble_eq_true rfl)) dX7_takeClause_92 (fun H locs hW => ?_)
      refine W.lcmp hx hb dX7_takeClause_95 ?_
      refine lv_if_ne (tgt := 103) hx hb dX7_takeClause_96 (by decide) (fun hc => ?_) (fun hc => ?_)
      · replace hf := ifn hc hf
        refine lv_iconst (v := (-1 : Int32)) hx hb dX7_takeClause_103 (by decide) ?_
        have hj := Option.some.inj hf
        subst hj
        exact J7 _ _ _ hW (lv_sub hl [1] rfl)
      · replace hf := ifp hc hf
        refine lv_iconst (v := (2 : Int32)) hx hb dX7_takeClause_99 (by decide) ?_
        refine lv_goto (tgt := 104) hx hb dX7_takeClause_100 (by decide) ?_
        have hj := Option.some.inj hf
        subst hj
        exact J7 _ _ _ hW (lv_sub hl [1] rfl)
    · have hf := ifn hc hg
      clear hg
      refine lv_iload_n hx hb dX7_takeClause_69 rfl (lv_at hl 0 rfl) ?_
      refine lv_goto (tgt := 104) hx hb dX7_takeClause_70 (by decide) ?_
      have hj := Option.some.inj hf
      subst hj
      exact J7 _ _ _ hW (lv_sub hl [1] rfl)
  clear hf
  refine lv_if_ne (tgt := 34) hx hb dX7_takeClause_27 (by decide) (fun hc => ?_) (fun hc => ?_)
  · have hf := ifn hc hg
    clear hg
    refine lv_aload_n hx hb dX7_takeClause_34 rfl (lv_at hl 0 rfl) ?_
    refine x_get (ci := 7) (v := .long r1.2) (C := RX7) (T := TX7) (N := 44) hx hb hts inX7 hown hK hW 0 rfl rfl 18 (by decide) fl125 (fun _ h9 => h9) rfl dX7_takeClause_35 ?_
    refine lv_bipush (v := (115 : Int32)) hx hb dX7_takeClause_38 (by decide) ?_
    refine lv_bipush (v := (116 : Int32)) hx hb dX7_takeClause_40 (by decide) ?_
    refine lv_bipush (v := (97 : Int32)) hx hb dX7_takeClause_42 (by decide) ?_
    refine lv_bipush (v := (105 : Int32)) hx hb dX7_takeClause_44 (by decide) ?_
    replace hf := bs_ hf; obtain ⟨r5, hcl, hf⟩ := hf
    refine x_callS_l (As := [.int (115 : Int32), .int (116 : Int32), .int (97 : Int32), .int (105 : Int32)]) (rest := [.long r1.2]) ⟨hx, hb, hml, hown, hts⟩ (c_X7_code l N kd G ct (115 : Int32) (116 : Int32) (97 : Int32) (105 : Int32) _ hcl) (va_cwS 4 hts gX7_takeClause_X7_code rfl rfl rfl (by decide +kernel) ⟨Nat.le_of_ble_eq_true rfl, Nat.le_of_ble_eq_true rfl⟩) hK hE hA hW rfl hl.1 rfl (lv_room (Nat.le_of_ble_eq_true rfl)) dX7_takeClause_46 (fun H locs hW => ?_)
    refine lv_bipush (v := (114 : Int32)) hx hb dX7_takeClause_49 (by decide) ?_
    refine lv_iconst (v := (0 : Int32)) hx hb dX7_takeClause_51 (by decide) ?_
    replace hf := bs_ hf; obtain ⟨r6, hcl, hf⟩ := hf
    refine x_callS_l (As := [.long r5, .int (114 : Int32), .int (0 : Int32)]) (rest := [.long r1.2]) ⟨hx, hb, hml, hown, hts⟩ (c_X7_longer l N kd G ct r5 (114 : Int32) (0 : Int32) _ hcl) (va_cwS 3 hts gX7_takeClause_X7_longer rfl rfl rfl (by decide +kernel) ⟨Nat.le_of_ble_eq_true rfl, Nat.le_of_ble_eq_true rfl⟩) hK hE hA hW rfl hl.1 rfl (lv_room (Nat.le_of_ble_eq_true rfl)) dX7_takeClause_52 (fun H locs hW => ?_)
    refine W.lcmp hx hb dX7_takeClause_55 ?_
    refine lv_if_ne (tgt := 63) hx hb dX7_takeClause_56 (by decide) (fun hc => ?_) (fun hc => ?_)
    · replace hf := ifn hc hf
      refine lv_iconst (v := (-1 : Int32)) hx hb dX7_takeClause_63 (by decide) ?_
      have hj := Option.some.inj hf
      subst hj
      exact J4 _ _ _ hW (lv_sub hl [0] rfl)
    · replace hf := ifp hc hf
      refine lv_iconst (v := (1 : Int32)) hx hb dX7_takeClause_59 (by decide) ?_
      refine lv_goto (tgt := 64) hx hb dX7_takeClause_60 (by decide) ?_
      have hj := Option.some.inj hf
      subst hj
      exact J4 _ _ _ hW (lv_sub hl [0] rfl)
  · have hf := ifp hc hg
    clear hg
    refine lv_iconst (v := (0 : Int32)) hx hb dX7_takeClause_30 (by decide) ?_
    refine lv_goto (tgt := 64) hx hb dX7_takeClause_31 (by decide) ?_
    have hj := Option.some.inj hf
    subst hj
    exact J4 _ _ _ hW (lv_sub hl [0] rfl)
set_option maxHeartbeats 4000000 in
set_option maxRecDepth 100000 in
theorem c_X7_town (l : Launch) (N : Nat) (kd : (Nat → Nat) × (Nat → Nat)) (G : va_G) (ct : Nat → ClassId) (a : Nat → Nat) (g : St_) (sg : Int64) (o : (Int32 × St_ × Int64)) (hf : f_X7_town N g sg = some o) : CtI l yX7_town wsX7_town ({ frames := 6, cells := 0, slots := 0, locals := 142 }) kd G ct [.ref (a 0)] (wX7 a ct g sg) o.1 (wX7 a ct o.2.1 o.2.2) := by
  intro sz
  refine Met.ofW (cc := cX7_town) (maxL := 3) (ret := (some .int)) (by decide) rfl ?_
  intro p e s m args below meth c s₁ B hml hv
  obtain ⟨rfl, hsz, hP, hK, hD0, hE⟩ := hv
  have hx := B.exec
  have hb := B.bytes
  have hr := B.returns
  have hts := atoms_spec (ws := wsX7_town) B.pre
  have hown : s.vm.findClass RX7 = some m.cls := findClass_of_methodNamed B.named
  have hlocks := B.notSynchronized
  have inX7 : ∀ w ∈ wsX70, w ∈ wsX7_town := by decide +kernel
  have fl7 := hts (.fieldLink RX7 7 "FittingStridesModel" "kind" "[I") (by decide +kernel)
  have fl13 := hts (.fieldLink RX7 13 "FittingStridesModel" "low" "[I") (by decide +kernel)
  have fl16 := hts (.fieldLink RX7 16 "FittingStridesModel" "high" "[I") (by decide +kernel)
  have fl19 := hts (.fieldLink RX7 19 "FittingStridesModel" "parts" "[I") (by decide +kernel)
  have fl22 := hts (.fieldLink RX7 22 "FittingStridesModel" "steps" "[I") (by decide +kernel)
  have fl25 := hts (.fieldLink RX7 25 "FittingStridesModel" "worn" "[I") (by decide +kernel)
  have fl28 := hts (.fieldLink RX7 28 "FittingStridesModel" "at" "[I") (by decide +kernel)
  have fl31 := hts (.fieldLink RX7 31 "FittingStridesModel" "first" "[I") (by decide +kernel)
  have fl34 := hts (.fieldLink RX7 34 "FittingStridesModel" "second" "[I") (by decide +kernel)
  have fl40 := hts (.fieldLink RX7 40 "FittingStridesModel" "faultPlace" "I") (by decide +kernel)
  have fl44 := hts (.fieldLink RX7 44 "FittingStridesModel" "readKind" "[I") (by decide +kernel)
  have fl47 := hts (.fieldLink RX7 47 "FittingStridesModel" "readLow" "[I") (by decide +kernel)
  have fl50 := hts (.fieldLink RX7 50 "FittingStridesModel" "readHigh" "[I") (by decide +kernel)
  have fl53 := hts (.fieldLink RX7 53 "FittingStridesModel" "readParts" "[I") (by decide +kernel)
  have fl56 := hts (.fieldLink RX7 56 "FittingStridesModel" "readSteps" "[I") (by decide +kernel)
  have fl59 := hts (.fieldLink RX7 59 "FittingStridesModel" "readAt" "[I") (by decide +kernel)
  have fl62 := hts (.fieldLink RX7 62 "FittingStridesModel" "readFirst" "[I") (by decide +kernel)
  have fl65 := hts (.fieldLink RX7 65 "FittingStridesModel" "readSecond" "[I") (by decide +kernel)
  have fl93 := hts (.fieldLink RX7 93 "FittingStridesModel" "isKept" "[Z") (by decide +kernel)
  have fl96 := hts (.fieldLink RX7 96 "FittingStridesModel" "places" "I") (by decide +kernel)
  have fl103 := hts (.fieldLink RX7 103 "FittingStridesModel" "stairs" "I") (by decide +kernel)
  have fl106 := hts (.fieldLink RX7 106 "FittingStridesModel" "persons" "I") (by decide +kernel)
  have fl112 := hts (.fieldLink RX7 112 "FittingStridesModel" "texted" "I") (by decide +kernel)
  have fl118 := hts (.fieldLink RX7 118 "FittingStridesModel" "at0" "I") (by decide +kernel)
  have fl165 := hts (.fieldLink RX7 165 "FittingStridesModel" "readStairs" "I") (by decide +kernel)
  have fl179 := hts (.fieldLink RX7 179 "FittingStridesModel" "readPlaces" "I") (by decide +kernel)
  have fl186 := hts (.fieldLink RX7 186 "FittingStridesModel" "readPersons" "I") (by decide +kernel)
  have fl198 := hts (.fieldLink RX7 198 "FittingStridesModel" "sights" "I") (by decide +kernel)
  have fl201 := hts (.fieldLink RX7 201 "FittingStridesModel" "booked" "I") (by decide +kernel)
  subst hsz
  have hD := hD0.self (sz := s.heap.size)
  generalize hAe : va_A (wX7 a ct g sg) s.heap.size = A at hD hE ⊢
  have hA : ∀ q : Nat, s.heap.size ≤ q → A q := fun q h => by rw [← hAe]; exact Or.inr h
  have hW : WW G A s.heap (wX7 a ct g sg) s.heap [] := ⟨hP, hD, va_S.rf⟩
  have hl := lv_entry ([.ref (a 0)]) (n := 3) (Nat.le_of_ble_eq_true rfl)
  rw [lg_entry_eq]
  generalize (lg_sl ([.ref (a 0)]) ++ List.replicate (3 - (lg_sl ([.ref (a 0)])).length) Slot.unset).toArray = ls at hl ⊢
  have hl : lv_has ls 3 [(0, .ref (a 0))] := hl
  unfold f_X7_town at hf
  show W p l e ({ frames := 6, cells := 0, slots := 0, locals := 142 } : Room) s m (List.toArray [.ref (a 0)]) below meth c s.heap [] 0 0 (MQ below (va_Qi (fun r (_ : Unit) => r = o.1) (fun _ t => Af_ G ct (wX7 a ct o.2.1 o.2.2) A t) A) (List.toArray [.ref (a 0)]) s 0 0 A) (F0 m 0 ls [])
  refine lv_aload_n hx hb dX7_town_0 rfl (lv_at hl 0 rfl) ?_
  refine lv_iconst (v := (-1 : Int32)) hx hb dX7_town_1 (by decide) ?_
  refine x_put (w' := (wX7 a ct (up1 g 17 0 (-1 : Int32)) sg)) (fs := fsX7 a g sg) (ci := 7) (v := .int (-1 : Int32)) (ty := .int) (C := RX7) (T := TX7) (N := 44) hx hb hts inX7 tyX7 tyX7_ok nmX7 hown hK hW 0 rfl rfl 16 (by decide) fl40 (fun _ h9 => h9) rfl (by decide +kernel) rfl rfl (Nat.le_of_ble_eq_true rfl) (wp_X7_17 a ct g sg (-1 : Int32)) dX7_town_2 (fun H locs hW => ?_)
  refine lv_aload_n hx hb dX7_town_5 rfl (lv_at hl 0 rfl) ?_
  refine lv_iconst (v := (0 : Int32)) hx hb dX7_town_6 (by decide) ?_
  refine x_put (w' := (wX7 a ct (up1 (up1 g 17 0 (-1 : Int32)) 18 0 (0 : Int32)) sg)) (fs := fsX7 a (up1 g 17 0 (-1 : Int32)) sg) (ci := 7) (v := .int (0 : Int32)) (ty := .int) (C := RX7) (T := TX7) (N := 44) hx hb hts inX7 tyX7 tyX7_ok nmX7 hown hK hW 0 rfl rfl 17 (by decide) fl118 (fun _ h9 => h9) rfl (by decide +kernel) rfl rfl (Nat.le_of_ble_eq_true rfl) (wp_X7_18 a ct (up1 g 17 0 (-1 : Int32)) sg (0 : Int32)) dX7_town_7 (fun H locs hW => ?_)
  refine lv_aload_n hx hb dX7_town_10 rfl (lv_at hl 0 rfl) ?_
  refine lv_iconst (v := (0 : Int32)) hx hb dX7_town_11 (by decide) ?_
  refine x_put (w' := (wX7 a ct (up1 (up1 (up1 g 17 0 (-1 : Int32)) 18 0 (0 : Int32)) 23 0 (0 : Int32)) sg)) (fs := fsX7 a (up1 (up1 g 17 0 (-1 : Int32)) 18 0 (0 : Int32)) sg) (ci := 7) (v := .int (0 : Int32)) (ty := .int) (C := RX7) (T := TX7) (N := 44) hx hb hts inX7 tyX7 tyX7_ok nmX7 hown hK hW 0 rfl rfl 22 (by decide) fl179 (fun _ h9 => h9) rfl (by decide +kernel) rfl rfl (Nat.le_of_ble_eq_true rfl) (wp_X7_23 a ct (up1 (up1 g 17 0 (-1 : Int32)) 18 0 (0 : Int32)) sg (0 : Int32)) dX7_town_12 (fun H locs hW => ?_)
  refine lv_aload_n hx hb dX7_town_15 rfl (lv_at hl 0 rfl) ?_
  refine lv_iconst (v := (0 : Int32)) hx hb dX7_town_16 (by decide) ?_
  refine x_put (w' := (wX7 a ct (up1 (up1 (up1 (up1 g 17 0 (-1 : Int32)) 18 0 (0 : Int32)) 23 0 (0 : Int32)) 24 0 (0 : Int32)) sg)) (fs := fsX7 a (up1 (up1 (up1 g 17 0 (-1 : Int32)) 18 0 (0 : Int32)) 23 0 (0 : Int32)) sg) (ci := 7) (v := .int (0 : Int32)) (ty := .int) (C := RX7) (T := TX7) (N := 44) hx hb hts inX7 tyX7 tyX7_ok nmX7 hown hK hW 0 rfl rfl 23 (by decide) fl165 (fun _ h9 => h9) rfl (by decide +kernel) rfl rfl (Nat.le_of_ble_eq_true rfl) (wp_X7_24 a ct (up1 (up1 (up1 g 17 0 (-1 : Int32)) 18 0 (0 : Int32)) 23 0 (0 : Int32)) sg (0 : Int32)) dX7_town_17 (fun H locs hW => ?_)
  refine lv_aload_n hx hb dX7_town_20 rfl (lv_at hl 0 rfl) ?_
  refine lv_iconst (v := (0 : Int32)) hx hb dX7_town_21 (by decide) ?_
  refine x_put (w' := (wX7 a ct (up1 (up1 (up1 (up1 (up1 g 17 0 (-1 : Int32)) 18 0 (0 : Int32)) 23 0 (0 : Int32)) 24 0 (0 : Int32)) 30 0 (0 : Int32)) sg)) (fs := fsX7 a (up1 (up1 (up1 (up1 g 17 0 (-1 : Int32)) 18 0 (0 : Int32)) 23 0 (0 : Int32)) 24 0 (0 : Int32)) sg) (ci := 7) (v := .int (0 : Int32)) (ty := .int) (C := RX7) (T := TX7) (N := 44) hx hb hts inX7 tyX7 tyX7_ok nmX7 hown hK hW 0 rfl rfl 29 (by decide) fl186 (fun _ h9 => h9) rfl (by decide +kernel) rfl rfl (Nat.le_of_ble_eq_true rfl) (wp_X7_30 a ct (up1 (up1 (up1 (up1 g 17 0 (-1 : Int32)) 18 0 (0 : Int32)) 23 0 (0 : Int32)) 24 0 (0 : Int32)) sg (0 : Int32)) dX7_town_22 (fun H locs hW => ?_)
  refine lv_iconst (v := (0 : Int32)) hx hb dX7_town_25 (by decide) ?_
  refine lv_istore_n (lv' := [(1, .int (0 : Int32)), (0, .ref (a 0))]) hx hb dX7_town_26 rfl hl (by decide) rfl (fun ls hl => ?_)
  replace hf := bs_ hf; obtain ⟨v1, hg, hf⟩ := hf
  have J1 : ∀ (H : Heap) (locs : List Loc) (ls : Array Slot), WW G A s.heap (wX7 a ct v1.2.1 v1.2.2) H locs → lv_has ls 3 [(0, .ref (a 0)), (1, .int v1.1)] → W p l e ({ frames := 6, cells := 0, slots := 0, locals := 142 } : Room) s m (List.toArray [.ref (a 0)]) below meth c H locs 0 0 (MQ below (va_Qi (fun r (_ : Unit) => r = o.1) (fun _ t => Af_ G ct (wX7 a ct o.2.1 o.2.2) A t) A) (List.toArray [.ref (a 0)]) s 0 0 A) (F0 m 46 ls []) := by
    intro H locs ls hW hl
    refine lv_aload_n hx hb dX7_town_46 rfl (lv_at hl 0 rfl) ?_
    refine lv_iconst (v := (0 : Int32)) hx hb dX7_town_47 (by decide) ?_
    refine x_put (w' := (wX7 a ct (up1 v1.2.1 16 0 (0 : Int32)) v1.2.2)) (fs := fsX7 a v1.2.1 v1.2.2) (ci := 7) (v := .int (0 : Int32)) (ty := .int) (C := RX7) (T := TX7) (N := 44) hx hb hts inX7 tyX7 tyX7_ok nmX7 hown hK hW 0 rfl rfl 15 (by decide) fl112 (fun _ h9 => h9) rfl (by decide +kernel) rfl rfl (Nat.le_of_ble_eq_true rfl) (wp_X7_16 a ct v1.2.1 v1.2.2 (0 : Int32)) dX7_town_48 (fun H locs hW => ?_)
    refine lv_iload_n hx hb dX7_town_51 rfl (lv_at hl 1 rfl) ?_
    refine lv_if_le (tgt := 60) hx hb dX7_town_52 (by decide) (fun hc => ?_) (fun hc => ?_)
    · replace hf := ifp hc hf
      refine lv_aload_n hx hb dX7_town_60 rfl (lv_at hl 0 rfl) ?_
      refine lv_aload_n hx hb dX7_town_61 rfl (lv_at hl 0 rfl) ?_
      refine x_get (ci := 7) (v := .int (v1.2.1 23 0)) (C := RX7) (T := TX7) (N := 44) hx hb hts inX7 hown hK hW 0 rfl rfl 22 (by decide) fl179 (fun _ h9 => h9) rfl dX7_town_62 ?_
      refine x_put (w' := (wX7 a ct (up1 (up1 v1.2.1 16 0 (0 : Int32)) 1 0 (v1.2.1 23 0)) v1.2.2)) (fs := fsX7 a (up1 v1.2.1 16 0 (0 : Int32)) v1.2.2) (ci := 7) (v := .int (v1.2.1 23 0)) (ty := .int) (C := RX7) (T := TX7) (N := 44) hx hb hts inX7 tyX7 tyX7_ok nmX7 hown hK hW 0 rfl rfl 0 (by decide) fl96 (fun _ h9 => h9) rfl (by decide +kernel) rfl rfl (Nat.le_of_ble_eq_true rfl) (wp_X7_1 a ct (up1 v1.2.1 16 0 (0 : Int32)) v1.2.2 (v1.2.1 23 0)) dX7_town_65 (fun H locs hW => ?_)
      refine lv_aload_n hx hb dX7_town_68 rfl (lv_at hl 0 rfl) ?_
      refine lv_aload_n hx hb dX7_town_69 rfl (lv_at hl 0 rfl) ?_
      refine x_get (ci := 7) (v := .int (v1.2.1 24 0)) (C := RX7) (T := TX7) (N := 44) hx hb hts inX7 hown hK hW 0 rfl rfl 23 (by decide) fl165 (fun _ h9 => h9) rfl dX7_town_70 ?_
      refine x_put (w' := (wX7 a ct (up1 (up1 (up1 v1.2.1 16 0 (0 : Int32)) 1 0 (v1.2.1 23 0)) 2 0 (v1.2.1 24 0)) v1.2.2)) (fs := fsX7 a (up1 (up1 v1.2.1 16 0 (0 : Int32)) 1 0 (v1.2.1 23 0)) v1.2.2) (ci := 7) (v := .int (v1.2.1 24 0)) (ty := .int) (C := RX7) (T := TX7) (N := 44) hx hb hts inX7 tyX7 tyX7_ok nmX7 hown hK hW 0 rfl rfl 1 (by decide) fl103 (fun _ h9 => h9) rfl (by decide +kernel) rfl rfl (Nat.le_of_ble_eq_true rfl) (wp_X7_2 a ct (up1 (up1 v1.2.1 16 0 (0 : Int32)) 1 0 (v1.2.1 23 0)) v1.2.2 (v1.2.1 24 0)) dX7_town_73 (fun H locs hW => ?_)
      refine lv_aload_n hx hb dX7_town_76 rfl (lv_at hl 0 rfl) ?_
      refine lv_aload_n hx hb dX7_town_77 rfl (lv_at hl 0 rfl) ?_
      refine x_get (ci := 7) (v := .int (v1.2.1 30 0)) (C := RX7) (T := TX7) (N := 44) hx hb hts inX7 hown hK hW 0 rfl rfl 29 (by decide) fl186 (fun _ h9 => h9) rfl dX7_town_78 ?_
      refine x_put (w' := (wX7 a ct (up1 (up1 (up1 (up1 v1.2.1 16 0 (0 : Int32)) 1 0 (v1.2.1 23 0)) 2 0 (v1.2.1 24 0)) 9 0 (v1.2.1 30 0)) v1.2.2)) (fs := fsX7 a (up1 (up1 (up1 v1.2.1 16 0 (0 : Int32)) 1 0 (v1.2.1 23 0)) 2 0 (v1.2.1 24 0)) v1.2.2) (ci := 7) (v := .int (v1.2.1 30 0)) (ty := .int) (C := RX7) (T := TX7) (N := 44) hx hb hts inX7 tyX7 tyX7_ok nmX7 hown hK hW 0 rfl rfl 8 (by decide) fl106 (fun _ h9 => h9) rfl (by decide +kernel) rfl rfl (Nat.le_of_ble_eq_true rfl) (wp_X7_9 a ct (up1 (up1 (up1 v1.2.1 16 0 (0 : Int32)) 1 0 (v1.2.1 23 0)) 2 0 (v1.2.1 24 0)) v1.2.2 (v1.2.1 30 0)) dX7_town_81 (fun H locs hW => ?_)
      refine lv_iconst (v := (0 : Int32)) hx hb dX7_town_84 (by decide) ?_
      refine lv_istore_n (lv' := [(2, .int (0 : Int32)), (0, .ref (a 0)), (1, .int v1.1)]) hx hb dX7_town_85 rfl hl (by decide) rfl (fun ls hl => ?_)
      replace hf := bs_ hf; obtain ⟨v4, hg, hf⟩ := hf
      have J4 : ∀ (H : Heap) (locs : List Loc) (ls : Array Slot), WW G A s.heap (wX7 a ct v4 v1.2.2) H locs → lv_has ls 3 [(0, .ref (a 0))] → W p l e ({ frames := 6, cells := 0, slots := 0, locals := 142 } : Room) s m (List.toArray [.ref (a 0)]) below meth c H locs 0 0 (MQ below (va_Qi (fun r (_ : Unit) => r = o.1) (fun _ t => Af_ G ct (wX7 a ct o.2.1 o.2.2) A t) A) (List.toArray [.ref (a 0)]) s 0 0 A) (F0 m 153 ls []) := by
        intro H locs ls hW hl
        refine lv_iconst (v := (0 : Int32)) hx hb dX7_town_153 (by decide) ?_
        refine lv_istore_n (lv' := [(2, .int (0 : Int32)), (0, .ref (a 0))]) hx hb dX7_town_154 rfl hl (by decide) rfl (fun ls hl => ?_)
        replace hf := bs_ hf; obtain ⟨v5, hg, hf⟩ := hf
        have J5 : ∀ (H : Heap) (locs : List Loc) (ls : Array Slot), WW G A s.heap (wX7 a ct v5 v1.2.2) H locs → lv_has ls 3 [(0, .ref (a 0))] → W p l e ({ frames := 6, cells := 0, slots := 0, locals := 142 } : Room) s m (List.toArray [.ref (a 0)]) below meth c H locs 0 0 (MQ below (va_Qi (fun r (_ : Unit) => r = o.1) (fun _ t => Af_ G ct (wX7 a ct o.2.1 o.2.2) A t) A) (List.toArray [.ref (a 0)]) s 0 0 A) (F0 m 179 ls []) := by
          intro H locs ls hW hl
          refine lv_iconst (v := (0 : Int32)) hx hb dX7_town_179 (by decide) ?_
          refine lv_istore_n (lv' := [(2, .int (0 : Int32)), (0, .ref (a 0))]) hx hb dX7_town_180 rfl hl (by decide) rfl (fun ls hl => ?_)
          replace hf := bs_ hf; obtain ⟨v6, hg, hf⟩ := hf
          have J6 : ∀ (H : Heap) (locs : List Loc) (ls : Array Slot), WW G A s.heap (wX7 a ct v6 v1.2.2) H locs → lv_has ls 3 [(0, .ref (a 0))] → W p l e ({ frames := 6, cells := 0, slots := 0, locals := 142 } : Room) s m (List.toArray [.ref (a 0)]) below meth c H locs 0 0 (MQ below (va_Qi (fun r (_ : Unit) => r = o.1) (fun _ t => Af_ G ct (wX7 a ct o.2.1 o.2.2) A t) A) (List.toArray [.ref (a 0)]) s 0 0 A) (F0 m 229 ls []) := by
            intro H locs ls hW hl
            refine lv_aload_n hx hb dX7_town_229 rfl (lv_at hl 0 rfl) ?_
            refine lv_iconst (v := (0 : Int32)) hx hb dX7_town_230 (by decide) ?_
            refine x_put (w' := (wX7 a ct (up1 v6 35 0 (0 : Int32)) v1.2.2)) (fs := fsX7 a v6 v1.2.2) (ci := 7) (v := .int (0 : Int32)) (ty := .int) (C := RX7) (T := TX7) (N := 44) hx hb hts inX7 tyX7 tyX7_ok nmX7 hown hK hW 0 rfl rfl 34 (by decide) fl198 (fun _ h9 => h9) rfl (by decide +kernel) rfl rfl (Nat.le_of_ble_eq_true rfl) (wp_X7_35 a ct v6 v1.2.2 (0 : Int32)) dX7_town_231 (fun H locs hW => ?_)
            refine lv_aload_n hx hb dX7_town_234 rfl (lv_at hl 0 rfl) ?_
            refine lv_iconst (v := (0 : Int32)) hx hb dX7_town_235 (by decide) ?_
            refine x_put (w' := (wX7 a ct (up1 (up1 v6 35 0 (0 : Int32)) 39 0 (0 : Int32)) v1.2.2)) (fs := fsX7 a (up1 v6 35 0 (0 : Int32)) v1.2.2) (ci := 7) (v := .int (0 : Int32)) (ty := .int) (C := RX7) (T := TX7) (N := 44) hx hb hts inX7 tyX7 tyX7_ok nmX7 hown hK hW 0 rfl rfl 38 (by decide) fl201 (fun _ h9 => h9) rfl (by decide +kernel) rfl rfl (Nat.le_of_ble_eq_true rfl) (wp_X7_39 a ct (up1 v6 35 0 (0 : Int32)) v1.2.2 (0 : Int32)) dX7_town_236 (fun H locs hW => ?_)
            refine lv_aload_n hx hb dX7_town_239 rfl (lv_at hl 0 rfl) ?_
            refine x_get (ci := 7) (v := .ref (a 44)) (C := RX7) (T := TX7) (N := 44) hx hb hts inX7 hown hK hW 0 rfl rfl 43 (by decide) fl93 (fun _ h9 => h9) rfl dX7_town_240 ?_
            refine lv_iconst (v := (0 : Int32)) hx hb dX7_town_243 (by decide) ?_
            refine lv_iconst (v := (0 : Int32)) hx hb dX7_town_244 (by decide) ?_
            replace hf := gd_s hf; obtain ⟨hin, hf⟩ := hf
            refine x_zast (w' := (wX7 a ct (up1 (up1 (up1 v6 35 0 (0 : Int32)) 39 0 (0 : Int32)) 44 (0 : Int32).toNatClampNeg (vp_nar .boolean (0 : Int32))) v1.2.2)) (n := 2) (f := (up1 (up1 v6 35 0 (0 : Int32)) 39 0 (0 : Int32)) 44) hx hb hK hW 27 rfl (okI_in hin) (ws_X7_44 a ct (up1 (up1 v6 35 0 (0 : Int32)) 39 0 (0 : Int32)) v1.2.2 _ _) dX7_town_245 (fun H locs hW => ?_)
            refine lv_aload_n hx hb dX7_town_246 rfl (lv_at hl 0 rfl) ?_
            refine x_get (ci := 7) (v := .ref (a 44)) (C := RX7) (T := TX7) (N := 44) hx hb hts inX7 hown hK hW 0 rfl rfl 43 (by decide) fl93 (fun _ h9 => h9) rfl dX7_town_247 ?_
            refine lv_iconst (v := (1 : Int32)) hx hb dX7_town_250 (by decide) ?_
            refine lv_iconst (v := (0 : Int32)) hx hb dX7_town_251 (by decide) ?_
            replace hf := gd_s hf; obtain ⟨hin, hf⟩ := hf
            refine x_zast (w' := (wX7 a ct (up1 (up1 (up1 (up1 v6 35 0 (0 : Int32)) 39 0 (0 : Int32)) 44 (0 : Int32).toNatClampNeg (vp_nar .boolean (0 : Int32))) 44 (1 : Int32).toNatClampNeg (vp_nar .boolean (0 : Int32))) v1.2.2)) (n := 2) (f := (up1 (up1 (up1 v6 35 0 (0 : Int32)) 39 0 (0 : Int32)) 44 (0 : Int32).toNatClampNeg (vp_nar .boolean (0 : Int32))) 44) hx hb hK hW 27 rfl (okI_in hin) (ws_X7_44 a ct (up1 (up1 (up1 v6 35 0 (0 : Int32)) 39 0 (0 : Int32)) 44 (0 : Int32).toNatClampNeg (vp_nar .boolean (0 : Int32))) v1.2.2 _ _) dX7_town_252 (fun H locs hW => ?_)
            refine lv_aload_n hx hb dX7_town_253 rfl (lv_at hl 0 rfl) ?_
            refine x_get (ci := 7) (v := .int (v6 1 0)) (C := RX7) (T := TX7) (N := 44) hx hb hts inX7 hown hK hW 0 rfl rfl 0 (by decide) fl96 (fun _ h9 => h9) rfl dX7_town_254 ?_
            have ho := Option.some.inj hf
            subst ho
            exact x_reti (sz := 0) (w0 := []) (A1 := A) hx hb hr hlocks hK hW rfl rfl dX7_town_257
          clear hf
          have L6 : ∀ (n : Nat) (y6_2 : Int32) (g6 : St_), f_X7_town_L181 N v1.2.2 n y6_2 g6 = some v6 → ∀ (H : Heap) (locs : List Loc) (ls : Array Slot), WW G A s.heap (wX7 a ct g6 v1.2.2) H locs → lv_has ls 3 [(0, .ref (a 0)), (2, .int y6_2)] → W p l e ({ frames := 6, cells := 0, slots := 0, locals := 142 } : Room) s m (List.toArray [.ref (a 0)]) below meth c H locs 0 0 (MQ below (va_Qi (fun r (_ : Unit) => r = o.1) (fun _ t => Af_ G ct (wX7 a ct o.2.1 o.2.2) A t) A) (List.toArray [.ref (a 0)]) s 0 0 A) (F0 m 181 ls []) := by
            intro n
            induction n with
            | zero =>
              intro y6_2 g6 hf
              rw [f_X7_town_L181] at hf
              cases hf
            | succ n ih =>
              intro y6_2 g6 hf H locs ls hW hl
              rw [f_X7_town_L181] at hf
              refine lv_iload_n hx hb dX7_town_181 rfl (lv_at hl 1 rfl) ?_
              refine lv_bipush (v := (8 : Int32)) hx hb dX7_town_182 (by decide) ?_
              refine lv_icmp_ge (tgt := 229) hx hb dX7_town_184 (by decide) (fun hc => ?_) (fun hc => ?_)
              · replace hf := ifp hc hf
                have hj := Option.some.inj hf
                subst hj
                exact J6 _ _ _ hW (lv_sub hl [0] rfl)
              · replace hf := ifn hc hf
                refine lv_aload_n hx hb dX7_town_187 rfl (lv_at hl 0 rfl) ?_
                refine x_get (ci := 7) (v := .ref (a 10)) (C := RX7) (T := TX7) (N := 44) hx hb hts inX7 hown hK hW 0 rfl rfl 9 (by decide) fl28 (fun _ h9 => h9) rfl dX7_town_188 ?_
                refine lv_iload_n hx hb dX7_town_191 rfl (lv_at hl 1 rfl) ?_
                refine lv_aload_n hx hb dX7_town_192 rfl (lv_at hl 0 rfl) ?_
                refine x_get (ci := 7) (v := .ref (a 31)) (C := RX7) (T := TX7) (N := 44) hx hb hts inX7 hown hK hW 0 rfl rfl 30 (by decide) fl59 (fun _ h9 => h9) rfl dX7_town_193 ?_
                refine lv_iload_n hx hb dX7_town_196 rfl (lv_at hl 1 rfl) ?_
                replace hf := gd_s hf; obtain ⟨hin, hf⟩ := hf
                refine x_iald (n := 8) (f := g6 31) hx hb hK hW 16 rfl (okI_in hin) dX7_town_197 ?_
                replace hf := gd_s hf; obtain ⟨hin, hf⟩ := hf
                refine x_iast (w' := (wX7 a ct (up1 g6 10 y6_2.toNatClampNeg (g6 31 y6_2.toNatClampNeg)) v1.2.2)) (n := 8) (f := g6 10) hx hb hK hW 7 rfl (okI_in hin) (ws_X7_10 a ct g6 v1.2.2 _ _) dX7_town_198 (fun H locs hW => ?_)
                refine lv_aload_n hx hb dX7_town_199 rfl (lv_at hl 0 rfl) ?_
                refine x_get (ci := 7) (v := .ref (a 11)) (C := RX7) (T := TX7) (N := 44) hx hb hts inX7 hown hK hW 0 rfl rfl 10 (by decide) fl31 (fun _ h9 => h9) rfl dX7_town_200 ?_
                refine lv_iload_n hx hb dX7_town_203 rfl (lv_at hl 1 rfl) ?_
                refine lv_aload_n hx hb dX7_town_204 rfl (lv_at hl 0 rfl) ?_
                refine x_get (ci := 7) (v := .ref (a 32)) (C := RX7) (T := TX7) (N := 44) hx hb hts inX7 hown hK hW 0 rfl rfl 31 (by decide) fl62 (fun _ h9 => h9) rfl dX7_town_205 ?_
                refine lv_iload_n hx hb dX7_town_208 rfl (lv_at hl 1 rfl) ?_
                replace hf := gd_s hf; obtain ⟨hin, hf⟩ := hf
                refine x_iald (n := 8) (f := g6 32) hx hb hK hW 17 rfl (okI_in hin) dX7_town_209 ?_
                replace hf := gd_s hf; obtain ⟨hin, hf⟩ := hf
                refine x_iast (w' := (wX7 a ct (up1 (up1 g6 10 y6_2.toNatClampNeg (g6 31 y6_2.toNatClampNeg)) 11 y6_2.toNatClampNeg (g6 32 y6_2.toNatClampNeg)) v1.2.2)) (n := 8) (f := (up1 g6 10 y6_2.toNatClampNeg (g6 31 y6_2.toNatClampNeg)) 11) hx hb hK hW 8 rfl (okI_in hin) (ws_X7_11 a ct (up1 g6 10 y6_2.toNatClampNeg (g6 31 y6_2.toNatClampNeg)) v1.2.2 _ _) dX7_town_210 (fun H locs hW => ?_)
                refine lv_aload_n hx hb dX7_town_211 rfl (lv_at hl 0 rfl) ?_
                refine x_get (ci := 7) (v := .ref (a 12)) (C := RX7) (T := TX7) (N := 44) hx hb hts inX7 hown hK hW 0 rfl rfl 11 (by decide) fl34 (fun _ h9 => h9) rfl dX7_town_212 ?_
                refine lv_iload_n hx hb dX7_town_215 rfl (lv_at hl 1 rfl) ?_
                refine lv_aload_n hx hb dX7_town_216 rfl (lv_at hl 0 rfl) ?_
                refine x_get (ci := 7) (v := .ref (a 33)) (C := RX7) (T := TX7) (N := 44) hx hb hts inX7 hown hK hW 0 rfl rfl 32 (by decide) fl65 (fun _ h9 => h9) rfl dX7_town_217 ?_
                refine lv_iload_n hx hb dX7_town_220 rfl (lv_at hl 1 rfl) ?_
                replace hf := gd_s hf; obtain ⟨hin, hf⟩ := hf
                refine x_iald (n := 8) (f := g6 33) hx hb hK hW 18 rfl (okI_in hin) dX7_town_221 ?_
                replace hf := gd_s hf; obtain ⟨hin, hf⟩ := hf
                refine x_iast (w' := (wX7 a ct (up1 (up1 (up1 g6 10 y6_2.toNatClampNeg (g6 31 y6_2.toNatClampNeg)) 11 y6_2.toNatClampNeg (g6 32 y6_2.toNatClampNeg)) 12 y6_2.toNatClampNeg (g6 33 y6_2.toNatClampNeg)) v1.2.2)) (n := 8) (f := (up1 (up1 g6 10 y6_2.toNatClampNeg (g6 31 y6_2.toNatClampNeg)) 11 y6_2.toNatClampNeg (g6 32 y6_2.toNatClampNeg)) 12) hx hb hK hW 9 rfl (okI_in hin) (ws_X7_12 a ct (up1 (up1 g6 10 y6_2.toNatClampNeg (g6 31 y6_2.toNatClampNeg)) 11 y6_2.toNatClampNeg (g6 32 y6_2.toNatClampNeg)) v1.2.2 _ _) dX7_town_222 (fun H locs hW => ?_)
                refine lv_iinc (v := (y6_2 + (1 : Int32))) (lv' := [(2, .int (y6_2 + (1 : Int32))), (0, .ref (a 0))]) hx hb dX7_town_223 hl (k := 1) rfl rfl (by decide) rfl (fun ls hl => ?_)
                refine lv_goto (tgt := 181) hx hb dX7_town_226 (by decide) ?_
                exact ih (y6_2 + (1 : Int32)) (up1 (up1 (up1 g6 10 y6_2.toNatClampNeg (g6 31 y6_2.toNatClampNeg)) 11 y6_2.toNatClampNeg (g6 32 y6_2.toNatClampNeg)) 12 y6_2.toNatClampNeg (g6 33 y6_2.toNatClampNeg)) hf _ _ _ hW (lv_sub hl [1, 0] rfl)
          exact L6 N (0 : Int32) v5 hg _ _ _ hW (lv_sub hl [1, 0] rfl)
        clear hf
        have L5 : ∀ (n : Nat) (y5_2 : Int32) (g5 : St_), f_X7_town_L155 N v1.2.2 n y5_2 g5 = some v5 → ∀ (H : Heap) (locs : List Loc) (ls : Array Slot), WW G A s.heap (wX7 a ct g5 v1.2.2) H locs → lv_has ls 3 [(0, .ref (a 0)), (2, .int y5_2)] → W p l e ({ frames := 6, cells := 0, slots := 0, locals := 142 } : Room) s m (List.toArray [.ref (a 0)]) below meth c H locs 0 0 (MQ below (va_Qi (fun r (_ : Unit) => r = o.1) (fun _ t => Af_ G ct (wX7 a ct o.2.1 o.2.2) A t) A) (List.toArray [.ref (a 0)]) s 0 0 A) (F0 m 155 ls []) := by
          intro n
          induction n with
          | zero =>
            intro y5_2 g5 hf
            rw [f_X7_town_L155] at hf
            cases hf
          | succ n ih =>
            intro y5_2 g5 hf H locs ls hW hl
            rw [f_X7_town_L155] at hf
            refine lv_iload_n hx hb dX7_town_155 rfl (lv_at hl 1 rfl) ?_
            refine lv_bipush (v := (30 : Int32)) hx hb dX7_town_156 (by decide) ?_
            refine lv_icmp_ge (tgt := 179) hx hb dX7_town_158 (by decide) (fun hc => ?_) (fun hc => ?_)
            · replace hf := ifp hc hf
              have hj := Option.some.inj hf
              subst hj
              exact J5 _ _ _ hW (lv_sub hl [0] rfl)
            · replace hf := ifn hc hf
              refine lv_aload_n hx hb dX7_town_161 rfl (lv_at hl 0 rfl) ?_
              refine x_get (ci := 7) (v := .ref (a 7)) (C := RX7) (T := TX7) (N := 44) hx hb hts inX7 hown hK hW 0 rfl rfl 6 (by decide) fl22 (fun _ h9 => h9) rfl dX7_town_162 ?_
              refine lv_iload_n hx hb dX7_town_165 rfl (lv_at hl 1 rfl) ?_
              refine lv_aload_n hx hb dX7_town_166 rfl (lv_at hl 0 rfl) ?_
              refine x_get (ci := 7) (v := .ref (a 29)) (C := RX7) (T := TX7) (N := 44) hx hb hts inX7 hown hK hW 0 rfl rfl 28 (by decide) fl56 (fun _ h9 => h9) rfl dX7_town_167 ?_
              refine lv_iload_n hx hb dX7_town_170 rfl (lv_at hl 1 rfl) ?_
              replace hf := gd_s hf; obtain ⟨hin, hf⟩ := hf
              refine x_iald (n := 30) (f := g5 29) hx hb hK hW 15 rfl (okI_in hin) dX7_town_171 ?_
              replace hf := gd_s hf; obtain ⟨hin, hf⟩ := hf
              refine x_iast (w' := (wX7 a ct (up1 g5 7 y5_2.toNatClampNeg (g5 29 y5_2.toNatClampNeg)) v1.2.2)) (n := 30) (f := g5 7) hx hb hK hW 5 rfl (okI_in hin) (ws_X7_7 a ct g5 v1.2.2 _ _) dX7_town_172 (fun H locs hW => ?_)
              refine lv_iinc (v := (y5_2 + (1 : Int32))) (lv' := [(2, .int (y5_2 + (1 : Int32))), (0, .ref (a 0))]) hx hb dX7_town_173 hl (k := 1) rfl rfl (by decide) rfl (fun ls hl => ?_)
              refine lv_goto (tgt := 155) hx hb dX7_town_176 (by decide) ?_
              exact ih (y5_2 + (1 : Int32)) (up1 g5 7 y5_2.toNatClampNeg (g5 29 y5_2.toNatClampNeg)) hf _ _ _ hW (lv_sub hl [1, 0] rfl)
        exact L5 N (0 : Int32) v4 hg _ _ _ hW (lv_sub hl [1, 0] rfl)
      clear hf
      have L4 : ∀ (n : Nat) (y4_2 : Int32) (g4 : St_), f_X7_town_L86 N v1.2.2 n y4_2 g4 = some v4 → ∀ (H : Heap) (locs : List Loc) (ls : Array Slot), WW G A s.heap (wX7 a ct g4 v1.2.2) H locs → lv_has ls 3 [(0, .ref (a 0)), (2, .int y4_2)] → W p l e ({ frames := 6, cells := 0, slots := 0, locals := 142 } : Room) s m (List.toArray [.ref (a 0)]) below meth c H locs 0 0 (MQ below (va_Qi (fun r (_ : Unit) => r = o.1) (fun _ t => Af_ G ct (wX7 a ct o.2.1 o.2.2) A t) A) (List.toArray [.ref (a 0)]) s 0 0 A) (F0 m 86 ls []) := by
        intro n
        induction n with
        | zero =>
          intro y4_2 g4 hf
          rw [f_X7_town_L86] at hf
          cases hf
        | succ n ih =>
          intro y4_2 g4 hf H locs ls hW hl
          rw [f_X7_town_L86] at hf
          refine lv_iload_n hx hb dX7_town_86 rfl (lv_at hl 1 rfl) ?_
          refine lv_bipush (v := (10 : Int32)) hx hb dX7_town_87 (by decide) ?_
          refine lv_icmp_ge (tgt := 153) hx hb dX7_town_89 (by decide) (fun hc => ?_) (fun hc => ?_)
          · replace hf := ifp hc hf
            have hj := Option.some.inj hf
            subst hj
            exact J4 _ _ _ hW (lv_sub hl [0] rfl)
          · replace hf := ifn hc hf
            refine lv_aload_n hx hb dX7_town_92 rfl (lv_at hl 0 rfl) ?_
            refine x_get (ci := 7) (v := .ref (a 3)) (C := RX7) (T := TX7) (N := 44) hx hb hts inX7 hown hK hW 0 rfl rfl 2 (by decide) fl7 (fun _ h9 => h9) rfl dX7_town_93 ?_
            refine lv_iload_n hx hb dX7_town_96 rfl (lv_at hl 1 rfl) ?_
            refine lv_aload_n hx hb dX7_town_97 rfl (lv_at hl 0 rfl) ?_
            refine x_get (ci := 7) (v := .ref (a 25)) (C := RX7) (T := TX7) (N := 44) hx hb hts inX7 hown hK hW 0 rfl rfl 24 (by decide) fl44 (fun _ h9 => h9) rfl dX7_town_98 ?_
            refine lv_iload_n hx hb dX7_town_101 rfl (lv_at hl 1 rfl) ?_
            replace hf := gd_s hf; obtain ⟨hin, hf⟩ := hf
            refine x_iald (n := 10) (f := g4 25) hx hb hK hW 11 rfl (okI_in hin) dX7_town_102 ?_
            replace hf := gd_s hf; obtain ⟨hin, hf⟩ := hf
            refine x_iast (w' := (wX7 a ct (up1 g4 3 y4_2.toNatClampNeg (g4 25 y4_2.toNatClampNeg)) v1.2.2)) (n := 10) (f := g4 3) hx hb hK hW 1 rfl (okI_in hin) (ws_X7_3 a ct g4 v1.2.2 _ _) dX7_town_103 (fun H locs hW => ?_)
            refine lv_aload_n hx hb dX7_town_104 rfl (lv_at hl 0 rfl) ?_
            refine x_get (ci := 7) (v := .ref (a 4)) (C := RX7) (T := TX7) (N := 44) hx hb hts inX7 hown hK hW 0 rfl rfl 3 (by decide) fl13 (fun _ h9 => h9) rfl dX7_town_105 ?_
            refine lv_iload_n hx hb dX7_town_108 rfl (lv_at hl 1 rfl) ?_
            refine lv_aload_n hx hb dX7_town_109 rfl (lv_at hl 0 rfl) ?_
            refine x_get (ci := 7) (v := .ref (a 26)) (C := RX7) (T := TX7) (N := 44) hx hb hts inX7 hown hK hW 0 rfl rfl 25 (by decide) fl47 (fun _ h9 => h9) rfl dX7_town_110 ?_
            refine lv_iload_n hx hb dX7_town_113 rfl (lv_at hl 1 rfl) ?_
            replace hf := gd_s hf; obtain ⟨hin, hf⟩ := hf
            refine x_iald (n := 10) (f := g4 26) hx hb hK hW 12 rfl (okI_in hin) dX7_town_114 ?_
            replace hf := gd_s hf; obtain ⟨hin, hf⟩ := hf
            refine x_iast (w' := (wX7 a ct (up1 (up1 g4 3 y4_2.toNatClampNeg (g4 25 y4_2.toNatClampNeg)) 4 y4_2.toNatClampNeg (g4 26 y4_2.toNatClampNeg)) v1.2.2)) (n := 10) (f := (up1 g4 3 y4_2.toNatClampNeg (g4 25 y4_2.toNatClampNeg)) 4) hx hb hK hW 2 rfl (okI_in hin) (ws_X7_4 a ct (up1 g4 3 y4_2.toNatClampNeg (g4 25 y4_2.toNatClampNeg)) v1.2.2 _ _) dX7_town_115 (fun H locs hW => ?_)
            refine lv_aload_n hx hb dX7_town_116 rfl (lv_at hl 0 rfl) ?_
            refine x_get (ci := 7) (v := .ref (a 5)) (C := RX7) (T := TX7) (N := 44) hx hb hts inX7 hown hK hW 0 rfl rfl 4 (by decide) fl16 (fun _ h9 => h9) rfl dX7_town_117 ?_
            refine lv_iload_n hx hb dX7_town_120 rfl (lv_at hl 1 rfl) ?_
            refine lv_aload_n hx hb dX7_town_121 rfl (lv_at hl 0 rfl) ?_
            refine x_get (ci := 7) (v := .ref (a 27)) (C := RX7) (T := TX7) (N := 44) hx hb hts inX7 hown hK hW 0 rfl rfl 26 (by decide) fl50 (fun _ h9 => h9) rfl dX7_town_122 ?_
            refine lv_iload_n hx hb dX7_town_125 rfl (lv_at hl 1 rfl) ?_
            replace hf := gd_s hf; obtain ⟨hin, hf⟩ := hf
            refine x_iald (n := 10) (f := g4 27) hx hb hK hW 13 rfl (okI_in hin) dX7_town_126 ?_
            replace hf := gd_s hf; obtain ⟨hin, hf⟩ := hf
            refine x_iast (w' := (wX7 a ct (up1 (up1 (up1 g4 3 y4_2.toNatClampNeg (g4 25 y4_2.toNatClampNeg)) 4 y4_2.toNatClampNeg (g4 26 y4_2.toNatClampNeg)) 5 y4_2.toNatClampNeg (g4 27 y4_2.toNatClampNeg)) v1.2.2)) (n := 10) (f := (up1 (up1 g4 3 y4_2.toNatClampNeg (g4 25 y4_2.toNatClampNeg)) 4 y4_2.toNatClampNeg (g4 26 y4_2.toNatClampNeg)) 5) hx hb hK hW 3 rfl (okI_in hin) (ws_X7_5 a ct (up1 (up1 g4 3 y4_2.toNatClampNeg (g4 25 y4_2.toNatClampNeg)) 4 y4_2.toNatClampNeg (g4 26 y4_2.toNatClampNeg)) v1.2.2 _ _) dX7_town_127 (fun H locs hW => ?_)
            refine lv_aload_n hx hb dX7_town_128 rfl (lv_at hl 0 rfl) ?_
            refine x_get (ci := 7) (v := .ref (a 6)) (C := RX7) (T := TX7) (N := 44) hx hb hts inX7 hown hK hW 0 rfl rfl 5 (by decide) fl19 (fun _ h9 => h9) rfl dX7_town_129 ?_
            refine lv_iload_n hx hb dX7_town_132 rfl (lv_at hl 1 rfl) ?_
            refine lv_aload_n hx hb dX7_town_133 rfl (lv_at hl 0 rfl) ?_
            refine x_get (ci := 7) (v := .ref (a 28)) (C := RX7) (T := TX7) (N := 44) hx hb hts inX7 hown hK hW 0 rfl rfl 27 (by decide) fl53 (fun _ h9 => h9) rfl dX7_town_134 ?_
            refine lv_iload_n hx hb dX7_town_137 rfl (lv_at hl 1 rfl) ?_
            replace hf := gd_s hf; obtain ⟨hin, hf⟩ := hf
            refine x_iald (n := 10) (f := g4 28) hx hb hK hW 14 rfl (okI_in hin) dX7_town_138 ?_
            replace hf := gd_s hf; obtain ⟨hin, hf⟩ := hf
            refine x_iast (w' := (wX7 a ct (up1 (up1 (up1 (up1 g4 3 y4_2.toNatClampNeg (g4 25 y4_2.toNatClampNeg)) 4 y4_2.toNatClampNeg (g4 26 y4_2.toNatClampNeg)) 5 y4_2.toNatClampNeg (g4 27 y4_2.toNatClampNeg)) 6 y4_2.toNatClampNeg (g4 28 y4_2.toNatClampNeg)) v1.2.2)) (n := 10) (f := (up1 (up1 (up1 g4 3 y4_2.toNatClampNeg (g4 25 y4_2.toNatClampNeg)) 4 y4_2.toNatClampNeg (g4 26 y4_2.toNatClampNeg)) 5 y4_2.toNatClampNeg (g4 27 y4_2.toNatClampNeg)) 6) hx hb hK hW 4 rfl (okI_in hin) (ws_X7_6 a ct (up1 (up1 (up1 g4 3 y4_2.toNatClampNeg (g4 25 y4_2.toNatClampNeg)) 4 y4_2.toNatClampNeg (g4 26 y4_2.toNatClampNeg)) 5 y4_2.toNatClampNeg (g4 27 y4_2.toNatClampNeg)) v1.2.2 _ _) dX7_town_139 (fun H locs hW => ?_)
            refine lv_aload_n hx hb dX7_town_140 rfl (lv_at hl 0 rfl) ?_
            refine x_get (ci := 7) (v := .ref (a 8)) (C := RX7) (T := TX7) (N := 44) hx hb hts inX7 hown hK hW 0 rfl rfl 7 (by decide) fl25 (fun _ h9 => h9) rfl dX7_town_141 ?_
            refine lv_iload_n hx hb dX7_town_144 rfl (lv_at hl 1 rfl) ?_
            refine lv_iconst (v := (0 : Int32)) hx hb dX7_town_145 (by decide) ?_
            replace hf := gd_s hf; obtain ⟨hin, hf⟩ := hf
            refine x_iast (w' := (wX7 a ct (up1 (up1 (up1 (up1 (up1 g4 3 y4_2.toNatClampNeg (g4 25 y4_2.toNatClampNeg)) 4 y4_2.toNatClampNeg (g4 26 y4_2.toNatClampNeg)) 5 y4_2.toNatClampNeg (g4 27 y4_2.toNatClampNeg)) 6 y4_2.toNatClampNeg (g4 28 y4_2.toNatClampNeg)) 8 y4_2.toNatClampNeg (0 : Int32)) v1.2.2)) (n := 10) (f := (up1 (up1 (up1 (up1 g4 3 y4_2.toNatClampNeg (g4 25 y4_2.toNatClampNeg)) 4 y4_2.toNatClampNeg (g4 26 y4_2.toNatClampNeg)) 5 y4_2.toNatClampNeg (g4 27 y4_2.toNatClampNeg)) 6 y4_2.toNatClampNeg (g4 28 y4_2.toNatClampNeg)) 8) hx hb hK hW 6 rfl (okI_in hin) (ws_X7_8 a ct (up1 (up1 (up1 (up1 g4 3 y4_2.toNatClampNeg (g4 25 y4_2.toNatClampNeg)) 4 y4_2.toNatClampNeg (g4 26 y4_2.toNatClampNeg)) 5 y4_2.toNatClampNeg (g4 27 y4_2.toNatClampNeg)) 6 y4_2.toNatClampNeg (g4 28 y4_2.toNatClampNeg)) v1.2.2 _ _) dX7_town_146 (fun H locs hW => ?_)
            refine lv_iinc (v := (y4_2 + (1 : Int32))) (lv' := [(2, .int (y4_2 + (1 : Int32))), (0, .ref (a 0))]) hx hb dX7_town_147 hl (k := 1) rfl rfl (by decide) rfl (fun ls hl => ?_)
            refine lv_goto (tgt := 86) hx hb dX7_town_150 (by decide) ?_
            exact ih (y4_2 + (1 : Int32)) (up1 (up1 (up1 (up1 (up1 g4 3 y4_2.toNatClampNeg (g4 25 y4_2.toNatClampNeg)) 4 y4_2.toNatClampNeg (g4 26 y4_2.toNatClampNeg)) 5 y4_2.toNatClampNeg (g4 27 y4_2.toNatClampNeg)) 6 y4_2.toNatClampNeg (g4 28 y4_2.toNatClampNeg)) 8 y4_2.toNatClampNeg (0 : Int32)) hf _ _ _ hW (lv_sub hl [1, 0] rfl)
      exact L4 N (0 : Int32) (up1 (up1 (up1 (up1 v1.2.1 16 0 (0 : Int32)) 1 0 (v1.2.1 23 0)) 2 0 (v1.2.1 24 0)) 9 0 (v1.2.1 30 0)) hg _ _ _ hW (lv_sub hl [1, 0] rfl)
    · replace hf := ifn hc hf
      refine lv_bipush (v := (-10 : Int32)) hx hb dX7_town_55 (by decide) ?_
      refine lv_iload_n hx hb dX7_town_57 rfl (lv_at hl 1 rfl) ?_
      refine lv_isub hx hb dX7_town_58 ?_
      have ho := Option.some.inj hf
      subst ho
      exact x_reti (sz := 0) (w0 := []) (A1 := A) hx hb hr hlocks hK hW rfl rfl dX7_town_59
  clear hf
  have L1 : ∀ (n : Nat) (y1_1 : Int32) (g1 : St_) (t1 : Int64), f_X7_town_L27 N n y1_1 g1 t1 = some v1 → ∀ (H : Heap) (locs : List Loc) (ls : Array Slot), WW G A s.heap (wX7 a ct g1 t1) H locs → lv_has ls 3 [(0, .ref (a 0)), (1, .int y1_1)] → W p l e ({ frames := 6, cells := 0, slots := 0, locals := 142 } : Room) s m (List.toArray [.ref (a 0)]) below meth c H locs 0 0 (MQ below (va_Qi (fun r (_ : Unit) => r = o.1) (fun _ t => Af_ G ct (wX7 a ct o.2.1 o.2.2) A t) A) (List.toArray [.ref (a 0)]) s 0 0 A) (F0 m 27 ls []) := by
    intro n
    induction n with
    | zero =>
      intro y1_1 g1 t1 hf
      rw [f_X7_town_L27] at hf
      cases hf
    | succ n ih =>
      intro y1_1 g1 t1 hf H locs ls hW hl
      rw [f_X7_town_L27] at hf
      refine lv_iload_n hx hb dX7_town_27 rfl (lv_at hl 1 rfl) ?_
      refine lv_if_ne (tgt := 46) hx hb dX7_town_28 (by decide) (fun hc => ?_) (fun hc => ?_)
      · replace hf := ifn hc hf
        have hj := Option.some.inj hf
        subst hj
        exact J1 _ _ _ hW (lv_sub hl [0, 1] rfl)
      · replace hf := ifp hc hf
        refine lv_aload_n hx hb dX7_town_31 rfl (lv_at hl 0 rfl) ?_
        replace hf := bs_ hf; obtain ⟨r2, hcl, hf⟩ := hf
        refine x_callW_i (w' := (wX7 a ct r2.2 t1)) (As := []) (rest := []) (ci := 7) ⟨hx, hb, hml, hown, hts⟩ (c_X7_here l N kd G ct a g1 t1 _ hcl) (cwV 0 hts gX7_town_X7_here rfl rfl rfl (by decide +kernel) ⟨Nat.le_of_ble_eq_true rfl, Nat.le_of_ble_eq_true rfl⟩) hK hE hA hW rfl rfl 0 rfl rfl rfl rfl hl.1 rfl (lv_room (Nat.le_of_ble_eq_true rfl)) dX7_town_32 (fun H locs hW => ?_)
        refine lv_if_lt (tgt := 46) hx hb dX7_town_35 (by decide) (fun hc => ?_) (fun hc => ?_)
        · replace hf := ifp hc hf
          have hj := Option.some.inj hf
          subst hj
          exact J1 _ _ _ hW (lv_sub hl [0, 1] rfl)
        · replace hf := ifn hc hf
          refine lv_aload_n hx hb dX7_town_38 rfl (lv_at hl 0 rfl) ?_
          replace hf := bs_ hf; obtain ⟨r3, hcl, hf⟩ := hf
          refine x_callW_i (w' := (wX7 a ct r3.2.1 r3.2.2)) (As := []) (rest := []) (ci := 7) ⟨hx, hb, hml, hown, hts⟩ (c_X7_takeClause l N kd G ct a r2.2 t1 _ hcl) (cwV 0 hts gX7_town_X7_takeClause rfl rfl rfl (by decide +kernel) ⟨Nat.le_of_ble_eq_true rfl, Nat.le_of_ble_eq_true rfl⟩) hK hE hA hW rfl rfl 0 rfl rfl rfl rfl hl.1 rfl (lv_room (Nat.le_of_ble_eq_true rfl)) dX7_town_39 (fun H locs hW => ?_)
          refine lv_istore_n (lv' := [(1, .int r3.1), (0, .ref (a 0))]) hx hb dX7_town_42 rfl hl (by decide) rfl (fun ls hl => ?_)
          refine lv_goto (tgt := 27) hx hb dX7_town_43 (by decide) ?_
          exact ih r3.1 r3.2.1 r3.2.2 hf _ _ _ hW (lv_sub hl [1, 0] rfl)
  exact L1 N (0 : Int32) (up1 (up1 (up1 (up1 (up1 g 17 0 (-1 : Int32)) 18 0 (0 : Int32)) 23 0 (0 : Int32)) 24 0 (0 : Int32)) 30 0 (0 : Int32)) sg hg _ _ _ hW (lv_sub hl [1, 0] rfl)
set_option maxHeartbeats 4000000 in
set_option maxRecDepth 100000 in
theorem c_X7_fault (l : Launch) (N : Nat) (kd : (Nat → Nat) × (Nat → Nat)) (G : va_G) (ct : Nat → ClassId) (a : Nat → Nat) (g : St_) (sg : Int64) (o : Int32) (hf : f_X7_fault N g = some o) : CtI l yX7_fault wsX7_fault ({ frames := 0, cells := 0, slots := 0, locals := 0 }) kd G ct [.ref (a 0)] (wX7 a ct g sg) o (wX7 a ct g sg) := by
  intro sz
  refine Met.ofW (cc := cX7_fault) (maxL := 1) (ret := (some .int)) (by decide) rfl ?_
  intro p e s m args below meth c s₁ B hml hv
  obtain ⟨rfl, hsz, hP, hK, hD0, hE⟩ := hv
  have hx := B.exec
  have hb := B.bytes
  have hr := B.returns
  have hts := atoms_spec (ws := wsX7_fault) B.pre
  have hown : s.vm.findClass RX7 = some m.cls := findClass_of_methodNamed B.named
  have hlocks := B.notSynchronized
  have inX7 : ∀ w ∈ wsX70, w ∈ wsX7_fault := by decide +kernel
  have fl40 := hts (.fieldLink RX7 40 "FittingStridesModel" "faultPlace" "I") (by decide +kernel)
  subst hsz
  have hD := hD0.self (sz := s.heap.size)
  generalize hAe : va_A (wX7 a ct g sg) s.heap.size = A at hD hE ⊢
  have hA : ∀ q : Nat, s.heap.size ≤ q → A q := fun q h => by rw [← hAe]; exact Or.inr h
  have hW : WW G A s.heap (wX7 a ct g sg) s.heap [] := ⟨hP, hD, va_S.rf⟩
  have hl := lv_entry ([.ref (a 0)]) (n := 1) (Nat.le_of_ble_eq_true rfl)
  rw [lg_entry_eq]
  generalize (lg_sl ([.ref (a 0)]) ++ List.replicate (1 - (lg_sl ([.ref (a 0)])).length) Slot.unset).toArray = ls at hl ⊢
  have hl : lv_has ls 1 [(0, .ref (a 0))] := hl
  unfold f_X7_fault at hf
  show W p l e ({ frames := 0, cells := 0, slots := 0, locals := 0 } : Room) s m (List.toArray [.ref (a 0)]) below meth c s.heap [] 0 0 (MQ below (va_Qi (fun r (_ : Unit) => r = o) (fun _ t => Af_ G ct (wX7 a ct g sg) A t) A) (List.toArray [.ref (a 0)]) s 0 0 A) (F0 m 0 ls [])
  refine lv_aload_n hx hb dX7_fault_0 rfl (lv_at hl 0 rfl) ?_
  refine x_get (ci := 7) (v := .int (g 17 0)) (C := RX7) (T := TX7) (N := 44) hx hb hts inX7 hown hK hW 0 rfl rfl 16 (by decide) fl40 (fun _ h9 => h9) rfl dX7_fault_1 ?_
  have ho := Option.some.inj hf
  subst ho
  exact x_reti (sz := 0) (w0 := []) (A1 := A) hx hb hr hlocks hK hW rfl rfl dX7_fault_4
set_option maxHeartbeats 4000000 in
set_option maxRecDepth 100000 in
theorem c_X7_allWorn (l : Launch) (N : Nat) (kd : (Nat → Nat) × (Nat → Nat)) (G : va_G) (ct : Nat → ClassId) (a : Nat → Nat) (g : St_) (sg : Int64) (o : Int32) (hf : f_X7_allWorn N g = some o) : CtI l yX7_allWorn wsX7_allWorn ({ frames := 0, cells := 0, slots := 0, locals := 0 }) kd G ct [.ref (a 0)] (wX7 a ct g sg) o (wX7 a ct g sg) := by
  intro sz
  refine Met.ofW (cc := cX7_allWorn) (maxL := 3) (ret := (some .int)) (by decide) rfl ?_
  intro p e s m args below meth c s₁ B hml hv
  obtain ⟨rfl, hsz, hP, hK, hD0, hE⟩ := hv
  have hx := B.exec
  have hb := B.bytes
  have hr := B.returns
  have hts := atoms_spec (ws := wsX7_allWorn) B.pre
  have hown : s.vm.findClass RX7 = some m.cls := findClass_of_methodNamed B.named
  have hlocks := B.notSynchronized
  have inX7 : ∀ w ∈ wsX70, w ∈ wsX7_allWorn := by decide +kernel
  have fl25 := hts (.fieldLink RX7 25 "FittingStridesModel" "worn" "[I") (by decide +kernel)
  have fl103 := hts (.fieldLink RX7 103 "FittingStridesModel" "stairs" "I") (by decide +kernel)
  subst hsz
  have hD := hD0.self (sz := s.heap.size)
  generalize hAe : va_A (wX7 a ct g sg) s.heap.size = A at hD hE ⊢
  have hA : ∀ q : Nat, s.heap.size ≤ q → A q := fun q h => by rw [← hAe]; exact Or.inr h
  have hW : WW G A s.heap (wX7 a ct g sg) s.heap [] := ⟨hP, hD, va_S.rf⟩
  have hl := lv_entry ([.ref (a 0)]) (n := 3) (Nat.le_of_ble_eq_true rfl)
  rw [lg_entry_eq]
  generalize (lg_sl ([.ref (a 0)]) ++ List.replicate (3 - (lg_sl ([.ref (a 0)])).length) Slot.unset).toArray = ls at hl ⊢
  have hl : lv_has ls 3 [(0, .ref (a 0))] := hl
  unfold f_X7_allWorn at hf
  show W p l e ({ frames := 0, cells := 0, slots := 0, locals := 0 } : Room) s m (List.toArray [.ref (a 0)]) below meth c s.heap [] 0 0 (MQ below (va_Qi (fun r (_ : Unit) => r = o) (fun _ t => Af_ G ct (wX7 a ct g sg) A t) A) (List.toArray [.ref (a 0)]) s 0 0 A) (F0 m 0 ls [])
  refine lv_iconst (v := (0 : Int32)) hx hb dX7_allWorn_0 (by decide) ?_
  refine lv_istore_n (lv' := [(1, .int (0 : Int32)), (0, .ref (a 0))]) hx hb dX7_allWorn_1 rfl hl (by decide) rfl (fun ls hl => ?_)
  refine lv_iconst (v := (0 : Int32)) hx hb dX7_allWorn_2 (by decide) ?_
  refine lv_istore_n (lv' := [(2, .int (0 : Int32)), (1, .int (0 : Int32)), (0, .ref (a 0))]) hx hb dX7_allWorn_3 rfl hl (by decide) rfl (fun ls hl => ?_)
  replace hf := bs_ hf; obtain ⟨v1, hg, hf⟩ := hf
  have J1 : ∀ (H : Heap) (locs : List Loc) (ls : Array Slot), WW G A s.heap (wX7 a ct g sg) H locs → lv_has ls 3 [(1, .int v1)] → W p l e ({ frames := 0, cells := 0, slots := 0, locals := 0 } : Room) s m (List.toArray [.ref (a 0)]) below meth c H locs 0 0 (MQ below (va_Qi (fun r (_ : Unit) => r = o) (fun _ t => Af_ G ct (wX7 a ct g sg) A t) A) (List.toArray [.ref (a 0)]) s 0 0 A) (F0 m 27 ls []) := by
    intro H locs ls hW hl
    refine lv_iload_n hx hb dX7_allWorn_27 rfl (lv_at hl 0 rfl) ?_
    have ho := Option.some.inj hf
    subst ho
    exact x_reti (sz := 0) (w0 := []) (A1 := A) hx hb hr hlocks hK hW rfl rfl dX7_allWorn_28
  clear hf
  have L1 : ∀ (n : Nat) (y1_1 : Int32) (y1_2 : Int32), f_X7_allWorn_L4 N g n y1_1 y1_2 = some v1 → ∀ (H : Heap) (locs : List Loc) (ls : Array Slot), WW G A s.heap (wX7 a ct g sg) H locs → lv_has ls 3 [(0, .ref (a 0)), (1, .int y1_1), (2, .int y1_2)] → W p l e ({ frames := 0, cells := 0, slots := 0, locals := 0 } : Room) s m (List.toArray [.ref (a 0)]) below meth c H locs 0 0 (MQ below (va_Qi (fun r (_ : Unit) => r = o) (fun _ t => Af_ G ct (wX7 a ct g sg) A t) A) (List.toArray [.ref (a 0)]) s 0 0 A) (F0 m 4 ls []) := by
    intro n
    induction n with
    | zero =>
      intro y1_1 y1_2 hf
      rw [f_X7_allWorn_L4] at hf
      cases hf
    | succ n ih =>
      intro y1_1 y1_2 hf H locs ls hW hl
      rw [f_X7_allWorn_L4] at hf
      refine lv_iload_n hx hb dX7_allWorn_4 rfl (lv_at hl 2 rfl) ?_
      refine lv_aload_n hx hb dX7_allWorn_5 rfl (lv_at hl 0 rfl) ?_
      refine x_get (ci := 7) (v := .int (g 2 0)) (C := RX7) (T := TX7) (N := 44) hx hb hts inX7 hown hK hW 0 rfl rfl 1 (by decide) fl103 (fun _ h9 => h9) rfl dX7_allWorn_6 ?_
      refine lv_icmp_ge (tgt := 27) hx hb dX7_allWorn_9 (by decide) (fun hc => ?_) (fun hc => ?_)
      · replace hf := ifp hc hf
        have hj := Option.some.inj hf
        subst hj
        exact J1 _ _ _ hW (lv_sub hl [1] rfl)
      · replace hf := ifn hc hf
        refine lv_iload_n hx hb dX7_allWorn_12 rfl (lv_at hl 1 rfl) ?_
        refine lv_aload_n hx hb dX7_allWorn_13 rfl (lv_at hl 0 rfl) ?_
        refine x_get (ci := 7) (v := .ref (a 8)) (C := RX7) (T := TX7) (N := 44) hx hb hts inX7 hown hK hW 0 rfl rfl 7 (by decide) fl25 (fun _ h9 => h9) rfl dX7_allWorn_14 ?_
        refine lv_iload_n hx hb dX7_allWorn_17 rfl (lv_at hl 2 rfl) ?_
        replace hf := gd_s hf; obtain ⟨hin, hf⟩ := hf
        refine x_iald (n := 10) (f := g 8) hx hb hK hW 6 rfl (okI_in hin) dX7_allWorn_18 ?_
        refine lv_iadd hx hb dX7_allWorn_19 ?_
        refine lv_istore_n (lv' := [(1, .int (y1_1 + (g 8 y1_2.toNatClampNeg))), (0, .ref (a 0)), (2, .int y1_2)]) hx hb dX7_allWorn_20 rfl hl (by decide) rfl (fun ls hl => ?_)
        refine lv_iinc (v := (y1_2 + (1 : Int32))) (lv' := [(2, .int (y1_2 + (1 : Int32))), (1, .int (y1_1 + (g 8 y1_2.toNatClampNeg))), (0, .ref (a 0))]) hx hb dX7_allWorn_21 hl (k := 2) rfl rfl (by decide) rfl (fun ls hl => ?_)
        refine lv_goto (tgt := 4) hx hb dX7_allWorn_24 (by decide) ?_
        exact ih (y1_1 + (g 8 y1_2.toNatClampNeg)) (y1_2 + (1 : Int32)) hf _ _ _ hW (lv_sub hl [2, 1, 0] rfl)
  exact L1 N (0 : Int32) (0 : Int32) hg _ _ _ hW (lv_sub hl [2, 1, 0] rfl)
set_option maxHeartbeats 4000000 in
set_option maxRecDepth 100000 in
theorem c_X7_told (l : Launch) (N : Nat) (kd : (Nat → Nat) × (Nat → Nat)) (G : va_G) (ct : Nat → ClassId) (a : Nat → Nat) (g : St_) (sg : Int64) (x1 : Int32) (o : Int32) (hf : f_X7_told N g x1 = some o) : CtI l yX7_told wsX7_told ({ frames := 1, cells := 0, slots := 0, locals := 22 }) kd G ct [.ref (a 0), .int x1] (wX7 a ct g sg) o (wX7 a ct g sg) := by
  intro sz
  refine Met.ofW (cc := cX7_told) (maxL := 2) (ret := (some .int)) (by decide) rfl ?_
  intro p e s m args below meth c s₁ B hml hv
  obtain ⟨rfl, hsz, hP, hK, hD0, hE⟩ := hv
  have hx := B.exec
  have hb := B.bytes
  have hr := B.returns
  have hts := atoms_spec (ws := wsX7_told) B.pre
  have hown : s.vm.findClass RX7 = some m.cls := findClass_of_methodNamed B.named
  have hlocks := B.notSynchronized
  have inX7 : ∀ w ∈ wsX70, w ∈ wsX7_told := by decide +kernel
  have fl96 := hts (.fieldLink RX7 96 "FittingStridesModel" "places" "I") (by decide +kernel)
  have fl103 := hts (.fieldLink RX7 103 "FittingStridesModel" "stairs" "I") (by decide +kernel)
  have fl106 := hts (.fieldLink RX7 106 "FittingStridesModel" "persons" "I") (by decide +kernel)
  have fl111 := hts (.constant RX7 111 (-1000000002)) (by decide +kernel)
  have fl112 := hts (.fieldLink RX7 112 "FittingStridesModel" "texted" "I") (by decide +kernel)
  have fl198 := hts (.fieldLink RX7 198 "FittingStridesModel" "sights" "I") (by decide +kernel)
  have fl201 := hts (.fieldLink RX7 201 "FittingStridesModel" "booked" "I") (by decide +kernel)
  have fl204 := hts (.fieldLink RX7 204 "FittingStridesModel" "law" "I") (by decide +kernel)
  subst hsz
  have hD := hD0.self (sz := s.heap.size)
  generalize hAe : va_A (wX7 a ct g sg) s.heap.size = A at hD hE ⊢
  have hA : ∀ q : Nat, s.heap.size ≤ q → A q := fun q h => by rw [← hAe]; exact Or.inr h
  have hW : WW G A s.heap (wX7 a ct g sg) s.heap [] := ⟨hP, hD, va_S.rf⟩
  have hl := lv_entry ([.ref (a 0), .int x1]) (n := 2) (Nat.le_of_ble_eq_true rfl)
  rw [lg_entry_eq]
  generalize (lg_sl ([.ref (a 0), .int x1]) ++ List.replicate (2 - (lg_sl ([.ref (a 0), .int x1])).length) Slot.unset).toArray = ls at hl ⊢
  have hl : lv_has ls 2 [(0, .ref (a 0)), (1, .int x1)] := hl
  unfold f_X7_told at hf
  show W p l e ({ frames := 1, cells := 0, slots := 0, locals := 22 } : Room) s m (List.toArray [.ref (a 0), .int x1]) below meth c s.heap [] 0 0 (MQ below (va_Qi (fun r (_ : Unit) => r = o) (fun _ t => Af_ G ct (wX7 a ct g sg) A t) A) (List.toArray [.ref (a 0), .int x1]) s 0 0 A) (F0 m 0 ls [])
  refine lv_iload_n hx hb dX7_told_0 rfl (lv_at hl 1 rfl) ?_
  by_cases q0 : x1 = (0 : Int32)
  · replace hf := ifp q0 hf
    refine lv_tableIn (tgt := 48) (off := 47) hx hb dX7_told_1 (by rw [q0]; decide) (by rw [q0]; decide) (by rw [q0]; rfl) (by decide) ?_
    refine lv_aload_n hx hb dX7_told_48 rfl (lv_at hl 0 rfl) ?_
    refine x_get (ci := 7) (v := .int (g 1 0)) (C := RX7) (T := TX7) (N := 44) hx hb hts inX7 hown hK hW 0 rfl rfl 0 (by decide) fl96 (fun _ h9 => h9) rfl dX7_told_49 ?_
    have ho := Option.some.inj hf
    subst ho
    exact x_reti (sz := 0) (w0 := []) (A1 := A) hx hb hr hlocks hK hW rfl rfl dX7_told_52
  · replace hf := ifn q0 hf
    by_cases q1 : x1 = (1 : Int32)
    · replace hf := ifp q1 hf
      refine lv_tableIn (tgt := 53) (off := 52) hx hb dX7_told_1 (by rw [q1]; decide) (by rw [q1]; decide) (by rw [q1]; rfl) (by decide) ?_
      refine lv_aload_n hx hb dX7_told_53 rfl (lv_at hl 0 rfl) ?_
      refine x_get (ci := 7) (v := .int (g 2 0)) (C := RX7) (T := TX7) (N := 44) hx hb hts inX7 hown hK hW 0 rfl rfl 1 (by decide) fl103 (fun _ h9 => h9) rfl dX7_told_54 ?_
      have ho := Option.some.inj hf
      subst ho
      exact x_reti (sz := 0) (w0 := []) (A1 := A) hx hb hr hlocks hK hW rfl rfl dX7_told_57
    · replace hf := ifn q1 hf
      by_cases q2 : x1 = (2 : Int32)
      · replace hf := ifp q2 hf
        refine lv_tableIn (tgt := 58) (off := 57) hx hb dX7_told_1 (by rw [q2]; decide) (by rw [q2]; decide) (by rw [q2]; rfl) (by decide) ?_
        refine lv_aload_n hx hb dX7_told_58 rfl (lv_at hl 0 rfl) ?_
        refine x_get (ci := 7) (v := .int (g 9 0)) (C := RX7) (T := TX7) (N := 44) hx hb hts inX7 hown hK hW 0 rfl rfl 8 (by decide) fl106 (fun _ h9 => h9) rfl dX7_told_59 ?_
        have ho := Option.some.inj hf
        subst ho
        exact x_reti (sz := 0) (w0 := []) (A1 := A) hx hb hr hlocks hK hW rfl rfl dX7_told_62
      · replace hf := ifn q2 hf
        by_cases q3 : x1 = (3 : Int32)
        · replace hf := ifp q3 hf
          refine lv_tableIn (tgt := 63) (off := 62) hx hb dX7_told_1 (by rw [q3]; decide) (by rw [q3]; decide) (by rw [q3]; rfl) (by decide) ?_
          refine lv_aload_n hx hb dX7_told_63 rfl (lv_at hl 0 rfl) ?_
          refine x_get (ci := 7) (v := .int (g 16 0)) (C := RX7) (T := TX7) (N := 44) hx hb hts inX7 hown hK hW 0 rfl rfl 15 (by decide) fl112 (fun _ h9 => h9) rfl dX7_told_64 ?_
          have ho := Option.some.inj hf
          subst ho
          exact x_reti (sz := 0) (w0 := []) (A1 := A) hx hb hr hlocks hK hW rfl rfl dX7_told_67
        · replace hf := ifn q3 hf
          by_cases q4 : x1 = (4 : Int32)
          · replace hf := ifp q4 hf
            refine lv_tableIn (tgt := 68) (off := 67) hx hb dX7_told_1 (by rw [q4]; decide) (by rw [q4]; decide) (by rw [q4]; rfl) (by decide) ?_
            refine lv_aload_n hx hb dX7_told_68 rfl (lv_at hl 0 rfl) ?_
            refine x_get (ci := 7) (v := .int (g 13 0)) (C := RX7) (T := TX7) (N := 44) hx hb hts inX7 hown hK hW 0 rfl rfl 12 (by decide) fl204 (fun _ h9 => h9) rfl dX7_told_69 ?_
            have ho := Option.some.inj hf
            subst ho
            exact x_reti (sz := 0) (w0 := []) (A1 := A) hx hb hr hlocks hK hW rfl rfl dX7_told_72
          · replace hf := ifn q4 hf
            by_cases q5 : x1 = (5 : Int32)
            · replace hf := ifp q5 hf
              refine lv_tableIn (tgt := 73) (off := 72) hx hb dX7_told_1 (by rw [q5]; decide) (by rw [q5]; decide) (by rw [q5]; rfl) (by decide) ?_
              refine lv_aload_n hx hb dX7_told_73 rfl (lv_at hl 0 rfl) ?_
              refine x_get (ci := 7) (v := .int (g 35 0)) (C := RX7) (T := TX7) (N := 44) hx hb hts inX7 hown hK hW 0 rfl rfl 34 (by decide) fl198 (fun _ h9 => h9) rfl dX7_told_74 ?_
              have ho := Option.some.inj hf
              subst ho
              exact x_reti (sz := 0) (w0 := []) (A1 := A) hx hb hr hlocks hK hW rfl rfl dX7_told_77
            · replace hf := ifn q5 hf
              by_cases q6 : x1 = (6 : Int32)
              · replace hf := ifp q6 hf
                refine lv_tableIn (tgt := 78) (off := 77) hx hb dX7_told_1 (by rw [q6]; decide) (by rw [q6]; decide) (by rw [q6]; rfl) (by decide) ?_
                refine lv_aload_n hx hb dX7_told_78 rfl (lv_at hl 0 rfl) ?_
                refine x_get (ci := 7) (v := .int (g 39 0)) (C := RX7) (T := TX7) (N := 44) hx hb hts inX7 hown hK hW 0 rfl rfl 38 (by decide) fl201 (fun _ h9 => h9) rfl dX7_told_79 ?_
                have ho := Option.some.inj hf
                subst ho
                exact x_reti (sz := 0) (w0 := []) (A1 := A) hx hb hr hlocks hK hW rfl rfl dX7_told_82
              · replace hf := ifn q6 hf
                by_cases q7 : x1 = (7 : Int32)
                · replace hf := ifp q7 hf
                  refine lv_tableIn (tgt := 83) (off := 82) hx hb dX7_told_1 (by rw [q7]; decide) (by rw [q7]; decide) (by rw [q7]; rfl) (by decide) ?_
                  refine lv_aload_n hx hb dX7_told_83 rfl (lv_at hl 0 rfl) ?_
                  replace hf := bs_ hf; obtain ⟨r1, hcl, hf⟩ := hf
                  refine x_callW_i (w' := (wX7 a ct g sg)) (As := []) (rest := []) (ci := 7) ⟨hx, hb, hml, hown, hts⟩ (c_X7_allWorn l N kd G ct a g sg _ hcl) (cwV 0 hts gX7_told_X7_allWorn rfl rfl rfl (by decide +kernel) ⟨Nat.le_of_ble_eq_true rfl, Nat.le_of_ble_eq_true rfl⟩) hK hE hA hW rfl rfl 0 rfl rfl rfl rfl hl.1 rfl (lv_room (Nat.le_of_ble_eq_true rfl)) dX7_told_84 (fun H locs hW => ?_)
                  have ho := Option.some.inj hf
                  subst ho
                  exact x_reti (sz := 0) (w0 := []) (A1 := A) hx hb hr hlocks hK hW rfl rfl dX7_told_87
                · replace hf := ifn q7 hf
                  refine lv_tableOut (tgt := 88) hx hb dX7_told_1 (by have h0 := lv_neT q0 (show (0 : Int32).toInt = 0 from rfl); have h1 := lv_neT q1 (show (1 : Int32).toInt = 1 from rfl); have h2 := lv_neT q2 (show (2 : Int32).toInt = 2 from rfl); have h3 := lv_neT q3 (show (3 : Int32).toInt = 3 from rfl); have h4 := lv_neT q4 (show (4 : Int32).toInt = 4 from rfl); have h5 := lv_neT q5 (show (5 : Int32).toInt = 5 from rfl); have h6 := lv_neT q6 (show (6 : Int32).toInt = 6 from rfl); have h7 := lv_neT q7 (show (7 : Int32).toInt = 7 from rfl); omega) (by decide) ?_
                  refine lv_ldc (v := (-1000000002 : Int32)) hx hb hown fl111 dX7_told_88 ?_
                  have ho := Option.some.inj hf
                  subst ho
                  exact x_reti (sz := 0) (w0 := []) (A1 := A) hx hb hr hlocks hK hW rfl rfl dX7_told_90
set_option maxHeartbeats 4000000 in
set_option maxRecDepth 100000 in
theorem c_X7_isFit (l : Launch) (N : Nat) (kd : (Nat → Nat) × (Nat → Nat)) (G : va_G) (ct : Nat → ClassId) (a : Nat → Nat) (g : St_) (sg : Int64) (x1 : Int32) (x2 : Int32) (o : Int32) (hf : f_X7_isFit N g x1 x2 = some o) : CtI l yX7_isFit wsX7_isFit ({ frames := 0, cells := 0, slots := 0, locals := 0 }) kd G ct [.ref (a 0), .int x1, .int x2] (wX7 a ct g sg) o (wX7 a ct g sg) := by
  intro sz
  refine Met.ofW (cc := cX7_isFit) (maxL := 6) (ret := (some .boolean)) (by decide) rfl ?_
  intro p e s m args below meth c s₁ B hml hv
  obtain ⟨rfl, hsz, hP, hK, hD0, hE⟩ := hv
  have hx := B.exec
  have hb := B.bytes
  have hr := B.returns
  have hts := atoms_spec (ws := wsX7_isFit) B.pre
  have hown : s.vm.findClass RX7 = some m.cls := findClass_of_methodNamed B.named
  have hlocks := B.notSynchronized
  have inX7 : ∀ w ∈ wsX70, w ∈ wsX7_isFit := by decide +kernel
  have fl7 := hts (.fieldLink RX7 7 "FittingStridesModel" "kind" "[I") (by decide +kernel)
  have fl19 := hts (.fieldLink RX7 19 "FittingStridesModel" "parts" "[I") (by decide +kernel)
  have fl22 := hts (.fieldLink RX7 22 "FittingStridesModel" "steps" "[I") (by decide +kernel)
  subst hsz
  have hD := hD0.self (sz := s.heap.size)
  generalize hAe : va_A (wX7 a ct g sg) s.heap.size = A at hD hE ⊢
  have hA : ∀ q : Nat, s.heap.size ≤ q → A q := fun q h => by rw [← hAe]; exact Or.inr h
  have hW : WW G A s.heap (wX7 a ct g sg) s.heap [] := ⟨hP, hD, va_S.rf⟩
  have hl := lv_entry ([.ref (a 0), .int x1, .int x2]) (n := 6) (Nat.le_of_ble_eq_true rfl)
  rw [lg_entry_eq]
  generalize (lg_sl ([.ref (a 0), .int x1, .int x2]) ++ List.replicate (6 - (lg_sl ([.ref (a 0), .int x1, .int x2])).length) Slot.unset).toArray = ls at hl ⊢
  have hl : lv_has ls 6 [(0, .ref (a 0)), (1, .int x1), (2, .int x2)] := hl
  unfold f_X7_isFit at hf
  show W p l e ({ frames := 0, cells := 0, slots := 0, locals := 0 } : Room) s m (List.toArray [.ref (a 0), .int x1, .int x2]) below meth c s.heap [] 0 0 (MQ below (va_Qi (fun r (_ : Unit) => r = o) (fun _ t => Af_ G ct (wX7 a ct g sg) A t) A) (List.toArray [.ref (a 0), .int x1, .int x2]) s 0 0 A) (F0 m 0 ls [])
  refine lv_iload_n hx hb dX7_isFit_0 rfl (lv_at hl 2 rfl) ?_
  refine lv_if_ne (tgt := 6) hx hb dX7_isFit_1 (by decide) (fun hc => ?_) (fun hc => ?_)
  · replace hf := ifn hc hf
    refine lv_iconst (v := (1 : Int32)) hx hb dX7_isFit_6 (by decide) ?_
    refine lv_istore_n (lv' := [(3, .int (1 : Int32)), (0, .ref (a 0)), (1, .int x1), (2, .int x2)]) hx hb dX7_isFit_7 rfl hl (by decide) rfl (fun ls hl => ?_)
    refine lv_iconst (v := (0 : Int32)) hx hb dX7_isFit_8 (by decide) ?_
    refine lv_istore (lv' := [(4, .int (0 : Int32)), (3, .int (1 : Int32)), (0, .ref (a 0)), (1, .int x1), (2, .int x2)]) hx hb dX7_isFit_9 hl (by decide) rfl (fun ls hl => ?_)
    replace hf := bs_ hf; obtain ⟨v1, hg, hf⟩ := hf
    have J1 : ∀ (H : Heap) (locs : List Loc) (ls : Array Slot), WW G A s.heap (wX7 a ct g sg) H locs → lv_has ls 6 [(3, .int v1)] → W p l e ({ frames := 0, cells := 0, slots := 0, locals := 0 } : Room) s m (List.toArray [.ref (a 0), .int x1, .int x2]) below meth c H locs 0 0 (MQ below (va_Qi (fun r (_ : Unit) => r = o) (fun _ t => Af_ G ct (wX7 a ct g sg) A t) A) (List.toArray [.ref (a 0), .int x1, .int x2]) s 0 0 A) (F0 m 91 ls []) := by
      intro H locs ls hW hl
      refine lv_iload_n hx hb dX7_isFit_91 rfl (lv_at hl 0 rfl) ?_
      replace hf := gd_s hf; obtain ⟨hB, hf⟩ := hf
      have ho := Option.some.inj hf
      subst ho
      exact x_retz hx hb hr (isB_nar hB) hlocks hK hW rfl rfl dX7_isFit_92
    clear hf
    have L1 : ∀ (n : Nat) (y1_3 : Int32) (y1_4 : Int32), f_X7_isFit_L11 N g x1 x2 n y1_3 y1_4 = some v1 → ∀ (H : Heap) (locs : List Loc) (ls : Array Slot), WW G A s.heap (wX7 a ct g sg) H locs → lv_has ls 6 [(0, .ref (a 0)), (1, .int x1), (2, .int x2), (3, .int y1_3), (4, .int y1_4)] → W p l e ({ frames := 0, cells := 0, slots := 0, locals := 0 } : Room) s m (List.toArray [.ref (a 0), .int x1, .int x2]) below meth c H locs 0 0 (MQ below (va_Qi (fun r (_ : Unit) => r = o) (fun _ t => Af_ G ct (wX7 a ct g sg) A t) A) (List.toArray [.ref (a 0), .int x1, .int x2]) s 0 0 A) (F0 m 11 ls []) := by
      intro n
      induction n with
      | zero =>
        intro y1_3 y1_4 hf
        rw [f_X7_isFit_L11] at hf
        cases hf
      | succ n ih =>
        intro y1_3 y1_4 hf H locs ls hW hl
        rw [f_X7_isFit_L11] at hf
        refine lv_iload hx hb dX7_isFit_11 (lv_at hl 4 rfl) ?_
        refine lv_aload_n hx hb dX7_isFit_13 rfl (lv_at hl 0 rfl) ?_
        refine x_get (ci := 7) (v := .ref (a 6)) (C := RX7) (T := TX7) (N := 44) hx hb hts inX7 hown hK hW 0 rfl rfl 5 (by decide) fl19 (fun _ h9 => h9) rfl dX7_isFit_14 ?_
        refine lv_iload_n hx hb dX7_isFit_17 rfl (lv_at hl 1 rfl) ?_
        replace hf := gd_s hf; obtain ⟨hin, hf⟩ := hf
        refine x_iald (n := 10) (f := g 6) hx hb hK hW 4 rfl (okI_in hin) dX7_isFit_18 ?_
        refine lv_icmp_ge (tgt := 91) hx hb dX7_isFit_19 (by decide) (fun hc => ?_) (fun hc => ?_)
        · replace hf := ifp hc hf
          have hj := Option.some.inj hf
          subst hj
          exact J1 _ _ _ hW (lv_sub hl [3] rfl)
        · replace hf := ifn hc hf
          refine lv_aload_n hx hb dX7_isFit_22 rfl (lv_at hl 0 rfl) ?_
          refine x_get (ci := 7) (v := .ref (a 7)) (C := RX7) (T := TX7) (N := 44) hx hb hts inX7 hown hK hW 0 rfl rfl 6 (by decide) fl22 (fun _ h9 => h9) rfl dX7_isFit_23 ?_
          refine lv_iconst (v := (3 : Int32)) hx hb dX7_isFit_26 (by decide) ?_
          refine lv_iload_n hx hb dX7_isFit_27 rfl (lv_at hl 1 rfl) ?_
          refine lv_imul hx hb dX7_isFit_28 ?_
          refine lv_iload hx hb dX7_isFit_29 (lv_at hl 4 rfl) ?_
          refine lv_iadd hx hb dX7_isFit_31 ?_
          replace hf := gd_s hf; obtain ⟨hin, hf⟩ := hf
          refine x_iald (n := 30) (f := g 7) hx hb hK hW 5 rfl (okI_in hin) dX7_isFit_32 ?_
          refine lv_istore (lv' := [(5, .int (g 7 (((3 : Int32) * x1) + y1_4).toNatClampNeg)), (0, .ref (a 0)), (1, .int x1), (2, .int x2), (3, .int y1_3), (4, .int y1_4)]) hx hb dX7_isFit_33 hl (by decide) rfl (fun ls hl => ?_)
          refine lv_iload_n hx hb dX7_isFit_35 rfl (lv_at hl 4 rfl) ?_
          replace hf := bs_ hf; obtain ⟨j2, hg, hf⟩ := hf
          have J2 : ∀ (H : Heap) (locs : List Loc) (ls : Array Slot), WW G A s.heap (wX7 a ct g sg) H locs → lv_has ls 6 [(0, .ref (a 0)), (1, .int x1), (2, .int x2), (4, .int y1_4)] → W p l e ({ frames := 0, cells := 0, slots := 0, locals := 0 } : Room) s m (List.toArray [.ref (a 0), .int x1, .int x2]) below meth c H locs 0 0 (MQ below (va_Qi (fun r (_ : Unit) => r = o) (fun _ t => Af_ G ct (wX7 a ct g sg) A t) A) (List.toArray [.ref (a 0), .int x1, .int x2]) s 0 0 A) (F0 m 84 ls (.int j2 :: [])) := by
            intro H locs ls hW hl
            refine lv_istore_n (lv' := [(3, .int j2), (0, .ref (a 0)), (1, .int x1), (2, .int x2), (4, .int y1_4)]) hx hb dX7_isFit_84 rfl hl (by decide) rfl (fun ls hl => ?_)
            refine lv_iinc (v := (y1_4 + (1 : Int32))) (lv' := [(4, .int (y1_4 + (1 : Int32))), (3, .int j2), (0, .ref (a 0)), (1, .int x1), (2, .int x2)]) hx hb dX7_isFit_85 hl (k := 4) rfl rfl (by decide) rfl (fun ls hl => ?_)
            refine lv_goto (tgt := 11) hx hb dX7_isFit_88 (by decide) ?_
            exact ih j2 (y1_4 + (1 : Int32)) hf _ _ _ hW (lv_sub hl [2, 3, 4, 1, 0] rfl)
          clear hf
          refine lv_if_eq (tgt := 83) hx hb dX7_isFit_36 (by decide) (fun hc => ?_) (fun hc => ?_)
          · have hf := ifp hc hg
            clear hg
            refine lv_iconst (v := (0 : Int32)) hx hb dX7_isFit_83 (by decide) ?_
            have hj := Option.some.inj hf
            subst hj
            exact J2 _ _ _ hW (lv_sub hl [1, 2, 3, 5] rfl)
          · have hf := ifn hc hg
            clear hg
            refine lv_aload_n hx hb dX7_isFit_39 rfl (lv_at hl 1 rfl) ?_
            refine x_get (ci := 7) (v := .ref (a 3)) (C := RX7) (T := TX7) (N := 44) hx hb hts inX7 hown hK hW 0 rfl rfl 2 (by decide) fl7 (fun _ h9 => h9) rfl dX7_isFit_40 ?_
            refine lv_iload_n hx hb dX7_isFit_43 rfl (lv_at hl 2 rfl) ?_
            replace hf := gd_s hf; obtain ⟨hin, hf⟩ := hf
            refine x_iald (n := 10) (f := g 3) hx hb hK hW 1 rfl (okI_in hin) dX7_isFit_44 ?_
            refine lv_iconst (v := (1 : Int32)) hx hb dX7_isFit_45 (by decide) ?_
            refine lv_icmp_eq (tgt := 79) hx hb dX7_isFit_46 (by decide) (fun hc => ?_) (fun hc => ?_)
            · replace hf := ifp hc hf
              refine lv_iconst (v := (1 : Int32)) hx hb dX7_isFit_79 (by decide) ?_
              refine lv_goto (tgt := 84) hx hb dX7_isFit_80 (by decide) ?_
              have hj := Option.some.inj hf
              subst hj
              exact J2 _ _ _ hW (lv_sub hl [1, 2, 3, 5] rfl)
            · replace hf := ifn hc hf
              refine lv_aload_n hx hb dX7_isFit_49 rfl (lv_at hl 1 rfl) ?_
              refine x_get (ci := 7) (v := .ref (a 3)) (C := RX7) (T := TX7) (N := 44) hx hb hts inX7 hown hK hW 0 rfl rfl 2 (by decide) fl7 (fun _ h9 => h9) rfl dX7_isFit_50 ?_
              refine lv_iload_n hx hb dX7_isFit_53 rfl (lv_at hl 2 rfl) ?_
              replace hf := gd_s hf; obtain ⟨hin, hf⟩ := hf
              refine x_iald (n := 10) (f := g 3) hx hb hK hW 1 rfl (okI_in hin) dX7_isFit_54 ?_
              refine lv_if_ne (tgt := 68) hx hb dX7_isFit_55 (by decide) (fun hc => ?_) (fun hc => ?_)
              · replace hf := ifn hc hf
                refine lv_iload_n hx hb dX7_isFit_68 rfl (lv_at hl 3 rfl) ?_
                refine lv_iconst (v := (1 : Int32)) hx hb dX7_isFit_69 (by decide) ?_
                refine lv_icmp_eq (tgt := 79) hx hb dX7_isFit_70 (by decide) (fun hc => ?_) (fun hc => ?_)
                · replace hf := ifp hc hf
                  refine lv_iconst (v := (1 : Int32)) hx hb dX7_isFit_79 (by decide) ?_
                  refine lv_goto (tgt := 84) hx hb dX7_isFit_80 (by decide) ?_
                  have hj := Option.some.inj hf
                  subst hj
                  exact J2 _ _ _ hW (lv_sub hl [1, 2, 3, 5] rfl)
                · replace hf := ifn hc hf
                  refine lv_iload_n hx hb dX7_isFit_73 rfl (lv_at hl 3 rfl) ?_
                  refine lv_iload hx hb dX7_isFit_74 (lv_at hl 0 rfl) ?_
                  refine lv_icmp_ne (tgt := 83) hx hb dX7_isFit_76 (by decide) (fun hc => ?_) (fun hc => ?_)
                  · replace hf := ifn hc hf
                    refine lv_iconst (v := (0 : Int32)) hx hb dX7_isFit_83 (by decide) ?_
                    have hj := Option.some.inj hf
                    subst hj
                    exact J2 _ _ _ hW (lv_sub hl [1, 2, 3, 5] rfl)
                  · replace hf := ifp hc hf
                    refine lv_iconst (v := (1 : Int32)) hx hb dX7_isFit_79 (by decide) ?_
                    refine lv_goto (tgt := 84) hx hb dX7_isFit_80 (by decide) ?_
                    have hj := Option.some.inj hf
                    subst hj
                    exact J2 _ _ _ hW (lv_sub hl [1, 2, 3, 5] rfl)
              · replace hf := ifp hc hf
                refine lv_iload hx hb dX7_isFit_58 (lv_at hl 0 rfl) ?_
                refine lv_iload_n hx hb dX7_isFit_60 rfl (lv_at hl 3 rfl) ?_
                replace hf := gd_s hf; obtain ⟨hnz, hf⟩ := hf
                refine lv_irem hx hb dX7_isFit_61 (nzI_s hnz) ?_
                refine lv_if_ne (tgt := 83) hx hb dX7_isFit_62 (by decide) (fun hc => ?_) (fun hc => ?_)
                · replace hf := ifn hc hf
                  refine lv_iconst (v := (0 : Int32)) hx hb dX7_isFit_83 (by decide) ?_
                  have hj := Option.some.inj hf
                  subst hj
                  exact J2 _ _ _ hW (lv_sub hl [1, 2, 3, 5] rfl)
                · replace hf := ifp hc hf
                  refine lv_goto (tgt := 79) hx hb dX7_isFit_65 (by decide) ?_
                  refine lv_iconst (v := (1 : Int32)) hx hb dX7_isFit_79 (by decide) ?_
                  refine lv_goto (tgt := 84) hx hb dX7_isFit_80 (by decide) ?_
                  have hj := Option.some.inj hf
                  subst hj
                  exact J2 _ _ _ hW (lv_sub hl [1, 2, 3, 5] rfl)
    exact L1 N (1 : Int32) (0 : Int32) hg _ _ _ hW (lv_sub hl [2, 3, 4, 1, 0] rfl)
  · replace hf := ifp hc hf
    refine lv_iconst (v := (0 : Int32)) hx hb dX7_isFit_4 (by decide) ?_
    have ho := Option.some.inj hf
    subst ho
    exact x_retz hx hb hr rfl hlocks hK hW rfl rfl dX7_isFit_5
set_option maxHeartbeats 4000000 in
set_option maxRecDepth 100000 in
theorem c_X7_mayClimb (l : Launch) (N : Nat) (kd : (Nat → Nat) × (Nat → Nat)) (G : va_G) (ct : Nat → ClassId) (a : Nat → Nat) (g : St_) (sg : Int64) (x1 : Int32) (x2 : Int32) (o : Int32) (hf : f_X7_mayClimb N g x1 x2 = some o) : CtI l yX7_mayClimb wsX7_mayClimb ({ frames := 1, cells := 0, slots := 0, locals := 25 }) kd G ct [.ref (a 0), .int x1, .int x2] (wX7 a ct g sg) o (wX7 a ct g sg) := by
  intro sz
  refine Met.ofW (cc := cX7_mayClimb) (maxL := 3) (ret := (some .boolean)) (by decide) rfl ?_
  intro p e s m args below meth c s₁ B hml hv
  obtain ⟨rfl, hsz, hP, hK, hD0, hE⟩ := hv
  have hx := B.exec
  have hb := B.bytes
  have hr := B.returns
  have hts := atoms_spec (ws := wsX7_mayClimb) B.pre
  have hown : s.vm.findClass RX7 = some m.cls := findClass_of_methodNamed B.named
  have hlocks := B.notSynchronized
  have inX7 : ∀ w ∈ wsX70, w ∈ wsX7_mayClimb := by decide +kernel
  have fl31 := hts (.fieldLink RX7 31 "FittingStridesModel" "first" "[I") (by decide +kernel)
  have fl34 := hts (.fieldLink RX7 34 "FittingStridesModel" "second" "[I") (by decide +kernel)
  subst hsz
  have hD := hD0.self (sz := s.heap.size)
  generalize hAe : va_A (wX7 a ct g sg) s.heap.size = A at hD hE ⊢
  have hA : ∀ q : Nat, s.heap.size ≤ q → A q := fun q h => by rw [← hAe]; exact Or.inr h
  have hW : WW G A s.heap (wX7 a ct g sg) s.heap [] := ⟨hP, hD, va_S.rf⟩
  have hl := lv_entry ([.ref (a 0), .int x1, .int x2]) (n := 3) (Nat.le_of_ble_eq_true rfl)
  rw [lg_entry_eq]
  generalize (lg_sl ([.ref (a 0), .int x1, .int x2]) ++ List.replicate (3 - (lg_sl ([.ref (a 0), .int x1, .int x2])).length) Slot.unset).toArray = ls at hl ⊢
  have hl : lv_has ls 3 [(0, .ref (a 0)), (1, .int x1), (2, .int x2)] := hl
  unfold f_X7_mayClimb at hf
  show W p l e ({ frames := 1, cells := 0, slots := 0, locals := 25 } : Room) s m (List.toArray [.ref (a 0), .int x1, .int x2]) below meth c s.heap [] 0 0 (MQ below (va_Qi (fun r (_ : Unit) => r = o) (fun _ t => Af_ G ct (wX7 a ct g sg) A t) A) (List.toArray [.ref (a 0), .int x1, .int x2]) s 0 0 A) (F0 m 0 ls [])
  refine lv_aload_n hx hb dX7_mayClimb_0 rfl (lv_at hl 0 rfl) ?_
  refine lv_iload_n hx hb dX7_mayClimb_1 rfl (lv_at hl 2 rfl) ?_
  refine lv_aload_n hx hb dX7_mayClimb_2 rfl (lv_at hl 0 rfl) ?_
  refine x_get (ci := 7) (v := .ref (a 11)) (C := RX7) (T := TX7) (N := 44) hx hb hts inX7 hown hK hW 0 rfl rfl 10 (by decide) fl31 (fun _ h9 => h9) rfl dX7_mayClimb_3 ?_
  refine lv_iload_n hx hb dX7_mayClimb_6 rfl (lv_at hl 1 rfl) ?_
  replace hf := gd_s hf; obtain ⟨hin, hf⟩ := hf
  refine x_iald (n := 8) (f := g 11) hx hb hK hW 8 rfl (okI_in hin) dX7_mayClimb_7 ?_
  replace hf := bs_ hf; obtain ⟨r1, hcl, hf⟩ := hf
  refine x_callW_i (w' := (wX7 a ct g sg)) (As := [.int x2, .int (g 11 x1.toNatClampNeg)]) (rest := []) (ci := 7) ⟨hx, hb, hml, hown, hts⟩ (c_X7_isFit l N kd G ct a g sg x2 (g 11 x1.toNatClampNeg) _ hcl) (cwV 2 hts gX7_mayClimb_X7_isFit rfl rfl rfl (by decide +kernel) ⟨Nat.le_of_ble_eq_true rfl, Nat.le_of_ble_eq_true rfl⟩) hK hE hA hW rfl rfl 0 rfl rfl rfl rfl hl.1 rfl (lv_room (Nat.le_of_ble_eq_true rfl)) dX7_mayClimb_8 (fun H locs hW => ?_)
  refine lv_if_ne (tgt := 28) hx hb dX7_mayClimb_11 (by decide) (fun hc => ?_) (fun hc => ?_)
  · replace hf := ifn hc hf
    refine lv_iconst (v := (1 : Int32)) hx hb dX7_mayClimb_28 (by decide) ?_
    refine lv_goto (tgt := 33) hx hb dX7_mayClimb_29 (by decide) ?_
    have ho := Option.some.inj hf
    subst ho
    exact x_retz hx hb hr rfl hlocks hK hW rfl rfl dX7_mayClimb_33
  · replace hf := ifp hc hf
    refine lv_aload_n hx hb dX7_mayClimb_14 rfl (lv_at hl 0 rfl) ?_
    refine lv_iload_n hx hb dX7_mayClimb_15 rfl (lv_at hl 2 rfl) ?_
    refine lv_aload_n hx hb dX7_mayClimb_16 rfl (lv_at hl 0 rfl) ?_
    refine x_get (ci := 7) (v := .ref (a 12)) (C := RX7) (T := TX7) (N := 44) hx hb hts inX7 hown hK hW 0 rfl rfl 11 (by decide) fl34 (fun _ h9 => h9) rfl dX7_mayClimb_17 ?_
    refine lv_iload_n hx hb dX7_mayClimb_20 rfl (lv_at hl 1 rfl) ?_
    replace hf := gd_s hf; obtain ⟨hin, hf⟩ := hf
    refine x_iald (n := 8) (f := g 12) hx hb hK hW 9 rfl (okI_in hin) dX7_mayClimb_21 ?_
    replace hf := bs_ hf; obtain ⟨r2, hcl, hf⟩ := hf
    refine x_callW_i (w' := (wX7 a ct g sg)) (As := [.int x2, .int (g 12 x1.toNatClampNeg)]) (rest := []) (ci := 7) ⟨hx, hb, hml, hown, hts⟩ (c_X7_isFit l N kd G ct a g sg x2 (g 12 x1.toNatClampNeg) _ hcl) (cwV 2 hts gX7_mayClimb_X7_isFit rfl rfl rfl (by decide +kernel) ⟨Nat.le_of_ble_eq_true rfl, Nat.le_of_ble_eq_true rfl⟩) hK hE hA hW rfl rfl 0 rfl rfl rfl rfl hl.1 rfl (lv_room (Nat.le_of_ble_eq_true rfl)) dX7_mayClimb_22 (fun H locs hW => ?_)
    refine lv_if_eq (tgt := 32) hx hb dX7_mayClimb_25 (by decide) (fun hc => ?_) (fun hc => ?_)
    · replace hf := ifp hc hf
      refine lv_iconst (v := (0 : Int32)) hx hb dX7_mayClimb_32 (by decide) ?_
      have ho := Option.some.inj hf
      subst ho
      exact x_retz hx hb hr rfl hlocks hK hW rfl rfl dX7_mayClimb_33
    · replace hf := ifn hc hf
      refine lv_iconst (v := (1 : Int32)) hx hb dX7_mayClimb_28 (by decide) ?_
      refine lv_goto (tgt := 33) hx hb dX7_mayClimb_29 (by decide) ?_
      have ho := Option.some.inj hf
      subst ho
      exact x_retz hx hb hr rfl hlocks hK hW rfl rfl dX7_mayClimb_33
set_option maxHeartbeats 4000000 in
set_option maxRecDepth 100000 in
theorem c_X7_climbers (l : Launch) (N : Nat) (kd : (Nat → Nat) × (Nat → Nat)) (G : va_G) (ct : Nat → ClassId) (a : Nat → Nat) (g : St_) (sg : Int64) (x1 : Int32) (o : Int32) (hf : f_X7_climbers N g x1 = some o) : CtI l yX7_climbers wsX7_climbers ({ frames := 2, cells := 0, slots := 0, locals := 47 }) kd G ct [.ref (a 0), .int x1] (wX7 a ct g sg) o (wX7 a ct g sg) := by
  intro sz
  refine Met.ofW (cc := cX7_climbers) (maxL := 4) (ret := (some .int)) (by decide) rfl ?_
  intro p e s m args below meth c s₁ B hml hv
  obtain ⟨rfl, hsz, hP, hK, hD0, hE⟩ := hv
  have hx := B.exec
  have hb := B.bytes
  have hr := B.returns
  have hts := atoms_spec (ws := wsX7_climbers) B.pre
  have hown : s.vm.findClass RX7 = some m.cls := findClass_of_methodNamed B.named
  have hlocks := B.notSynchronized
  have inX7 : ∀ w ∈ wsX70, w ∈ wsX7_climbers := by decide +kernel
  have fl106 := hts (.fieldLink RX7 106 "FittingStridesModel" "persons" "I") (by decide +kernel)
  subst hsz
  have hD := hD0.self (sz := s.heap.size)
  generalize hAe : va_A (wX7 a ct g sg) s.heap.size = A at hD hE ⊢
  have hA : ∀ q : Nat, s.heap.size ≤ q → A q := fun q h => by rw [← hAe]; exact Or.inr h
  have hW : WW G A s.heap (wX7 a ct g sg) s.heap [] := ⟨hP, hD, va_S.rf⟩
  have hl := lv_entry ([.ref (a 0), .int x1]) (n := 4) (Nat.le_of_ble_eq_true rfl)
  rw [lg_entry_eq]
  generalize (lg_sl ([.ref (a 0), .int x1]) ++ List.replicate (4 - (lg_sl ([.ref (a 0), .int x1])).length) Slot.unset).toArray = ls at hl ⊢
  have hl : lv_has ls 4 [(0, .ref (a 0)), (1, .int x1)] := hl
  unfold f_X7_climbers at hf
  show W p l e ({ frames := 2, cells := 0, slots := 0, locals := 47 } : Room) s m (List.toArray [.ref (a 0), .int x1]) below meth c s.heap [] 0 0 (MQ below (va_Qi (fun r (_ : Unit) => r = o) (fun _ t => Af_ G ct (wX7 a ct g sg) A t) A) (List.toArray [.ref (a 0), .int x1]) s 0 0 A) (F0 m 0 ls [])
  refine lv_iconst (v := (0 : Int32)) hx hb dX7_climbers_0 (by decide) ?_
  refine lv_istore_n (lv' := [(2, .int (0 : Int32)), (0, .ref (a 0)), (1, .int x1)]) hx hb dX7_climbers_1 rfl hl (by decide) rfl (fun ls hl => ?_)
  refine lv_iconst (v := (0 : Int32)) hx hb dX7_climbers_2 (by decide) ?_
  refine lv_istore_n (lv' := [(3, .int (0 : Int32)), (2, .int (0 : Int32)), (0, .ref (a 0)), (1, .int x1)]) hx hb dX7_climbers_3 rfl hl (by decide) rfl (fun ls hl => ?_)
  replace hf := bs_ hf; obtain ⟨v1, hg, hf⟩ := hf
  have J1 : ∀ (H : Heap) (locs : List Loc) (ls : Array Slot), WW G A s.heap (wX7 a ct g sg) H locs → lv_has ls 4 [(2, .int v1)] → W p l e ({ frames := 2, cells := 0, slots := 0, locals := 47 } : Room) s m (List.toArray [.ref (a 0), .int x1]) below meth c H locs 0 0 (MQ below (va_Qi (fun r (_ : Unit) => r = o) (fun _ t => Af_ G ct (wX7 a ct g sg) A t) A) (List.toArray [.ref (a 0), .int x1]) s 0 0 A) (F0 m 37 ls []) := by
    intro H locs ls hW hl
    refine lv_iload_n hx hb dX7_climbers_37 rfl (lv_at hl 0 rfl) ?_
    have ho := Option.some.inj hf
    subst ho
    exact x_reti (sz := 0) (w0 := []) (A1 := A) hx hb hr hlocks hK hW rfl rfl dX7_climbers_38
  clear hf
  have L1 : ∀ (n : Nat) (y1_2 : Int32) (y1_3 : Int32), f_X7_climbers_L4 N g x1 n y1_2 y1_3 = some v1 → ∀ (H : Heap) (locs : List Loc) (ls : Array Slot), WW G A s.heap (wX7 a ct g sg) H locs → lv_has ls 4 [(0, .ref (a 0)), (1, .int x1), (2, .int y1_2), (3, .int y1_3)] → W p l e ({ frames := 2, cells := 0, slots := 0, locals := 47 } : Room) s m (List.toArray [.ref (a 0), .int x1]) below meth c H locs 0 0 (MQ below (va_Qi (fun r (_ : Unit) => r = o) (fun _ t => Af_ G ct (wX7 a ct g sg) A t) A) (List.toArray [.ref (a 0), .int x1]) s 0 0 A) (F0 m 4 ls []) := by
    intro n
    induction n with
    | zero =>
      intro y1_2 y1_3 hf
      rw [f_X7_climbers_L4] at hf
      cases hf
    | succ n ih =>
      intro y1_2 y1_3 hf H locs ls hW hl
      rw [f_X7_climbers_L4] at hf
      refine lv_iload_n hx hb dX7_climbers_4 rfl (lv_at hl 3 rfl) ?_
      refine lv_aload_n hx hb dX7_climbers_5 rfl (lv_at hl 0 rfl) ?_
      refine x_get (ci := 7) (v := .int (g 9 0)) (C := RX7) (T := TX7) (N := 44) hx hb hts inX7 hown hK hW 0 rfl rfl 8 (by decide) fl106 (fun _ h9 => h9) rfl dX7_climbers_6 ?_
      refine lv_icmp_ge (tgt := 37) hx hb dX7_climbers_9 (by decide) (fun hc => ?_) (fun hc => ?_)
      · replace hf := ifp hc hf
        have hj := Option.some.inj hf
        subst hj
        exact J1 _ _ _ hW (lv_sub hl [2] rfl)
      · replace hf := ifn hc hf
        refine lv_iload_n hx hb dX7_climbers_12 rfl (lv_at hl 2 rfl) ?_
        refine lv_aload_n hx hb dX7_climbers_13 rfl (lv_at hl 0 rfl) ?_
        refine lv_iload_n hx hb dX7_climbers_14 rfl (lv_at hl 3 rfl) ?_
        refine lv_iload_n hx hb dX7_climbers_15 rfl (lv_at hl 1 rfl) ?_
        replace hf := bs_ hf; obtain ⟨r2, hcl, hf⟩ := hf
        refine x_callW_i (w' := (wX7 a ct g sg)) (As := [.int y1_3, .int x1]) (rest := [.int y1_2]) (ci := 7) ⟨hx, hb, hml, hown, hts⟩ (c_X7_mayClimb l N kd G ct a g sg y1_3 x1 _ hcl) (cwV 2 hts gX7_climbers_X7_mayClimb rfl rfl rfl (by decide +kernel) ⟨Nat.le_of_ble_eq_true rfl, Nat.le_of_ble_eq_true rfl⟩) hK hE hA hW rfl rfl 0 rfl rfl rfl rfl hl.1 rfl (lv_room (Nat.le_of_ble_eq_true rfl)) dX7_climbers_16 (fun H locs hW => ?_)
        replace hf := bs_ hf; obtain ⟨j3, hg, hf⟩ := hf
        have J3 : ∀ (H : Heap) (locs : List Loc) (ls : Array Slot), WW G A s.heap (wX7 a ct g sg) H locs → lv_has ls 4 [(0, .ref (a 0)), (1, .int x1), (3, .int y1_3)] → W p l e ({ frames := 2, cells := 0, slots := 0, locals := 47 } : Room) s m (List.toArray [.ref (a 0), .int x1]) below meth c H locs 0 0 (MQ below (va_Qi (fun r (_ : Unit) => r = o) (fun _ t => Af_ G ct (wX7 a ct g sg) A t) A) (List.toArray [.ref (a 0), .int x1]) s 0 0 A) (F0 m 29 ls (.int j3 :: .int y1_2 :: [])) := by
          intro H locs ls hW hl
          refine lv_ior hx hb dX7_climbers_29 ?_
          refine lv_istore_n (lv' := [(2, .int (y1_2 ||| j3)), (0, .ref (a 0)), (1, .int x1), (3, .int y1_3)]) hx hb dX7_climbers_30 rfl hl (by decide) rfl (fun ls hl => ?_)
          refine lv_iinc (v := (y1_3 + (1 : Int32))) (lv' := [(3, .int (y1_3 + (1 : Int32))), (2, .int (y1_2 ||| j3)), (0, .ref (a 0)), (1, .int x1)]) hx hb dX7_climbers_31 hl (k := 3) rfl rfl (by decide) rfl (fun ls hl => ?_)
          refine lv_goto (tgt := 4) hx hb dX7_climbers_34 (by decide) ?_
          exact ih (y1_2 ||| j3) (y1_3 + (1 : Int32)) hf _ _ _ hW (lv_sub hl [2, 3, 1, 0] rfl)
        clear hf
        refine lv_if_eq (tgt := 28) hx hb dX7_climbers_19 (by decide) (fun hc => ?_) (fun hc => ?_)
        · have hf := ifp hc hg
          clear hg
          refine lv_iconst (v := (0 : Int32)) hx hb dX7_climbers_28 (by decide) ?_
          have hj := Option.some.inj hf
          subst hj
          exact J3 _ _ _ hW (lv_sub hl [0, 1, 3] rfl)
        · have hf := ifn hc hg
          clear hg
          refine lv_iconst (v := (1 : Int32)) hx hb dX7_climbers_22 (by decide) ?_
          refine lv_iload_n hx hb dX7_climbers_23 rfl (lv_at hl 3 rfl) ?_
          refine lv_ishl hx hb dX7_climbers_24 ?_
          refine lv_goto (tgt := 29) hx hb dX7_climbers_25 (by decide) ?_
          have hj := Option.some.inj hf
          subst hj
          exact J3 _ _ _ hW (lv_sub hl [0, 1, 3] rfl)
  exact L1 N (0 : Int32) (0 : Int32) hg _ _ _ hW (lv_sub hl [2, 3, 1, 0] rfl)
set_option maxHeartbeats 4000000 in
set_option maxRecDepth 100000 in
theorem c_X7_stair (l : Launch) (N : Nat) (kd : (Nat → Nat) × (Nat → Nat)) (G : va_G) (ct : Nat → ClassId) (a : Nat → Nat) (g : St_) (sg : Int64) (x1 : Int32) (x2 : Int32) (o : Int32) (hf : f_X7_stair N g x1 x2 = some o) : CtI l yX7_stair wsX7_stair ({ frames := 3, cells := 0, slots := 0, locals := 70 }) kd G ct [.ref (a 0), .int x1, .int x2] (wX7 a ct g sg) o (wX7 a ct g sg) := by
  intro sz
  refine Met.ofW (cc := cX7_stair) (maxL := 3) (ret := (some .int)) (by decide) rfl ?_
  intro p e s m args below meth c s₁ B hml hv
  obtain ⟨rfl, hsz, hP, hK, hD0, hE⟩ := hv
  have hx := B.exec
  have hb := B.bytes
  have hr := B.returns
  have hts := atoms_spec (ws := wsX7_stair) B.pre
  have hown : s.vm.findClass RX7 = some m.cls := findClass_of_methodNamed B.named
  have hlocks := B.notSynchronized
  have inX7 : ∀ w ∈ wsX70, w ∈ wsX7_stair := by decide +kernel
  have fl7 := hts (.fieldLink RX7 7 "FittingStridesModel" "kind" "[I") (by decide +kernel)
  have fl13 := hts (.fieldLink RX7 13 "FittingStridesModel" "low" "[I") (by decide +kernel)
  have fl16 := hts (.fieldLink RX7 16 "FittingStridesModel" "high" "[I") (by decide +kernel)
  have fl19 := hts (.fieldLink RX7 19 "FittingStridesModel" "parts" "[I") (by decide +kernel)
  have fl22 := hts (.fieldLink RX7 22 "FittingStridesModel" "steps" "[I") (by decide +kernel)
  have fl25 := hts (.fieldLink RX7 25 "FittingStridesModel" "worn" "[I") (by decide +kernel)
  have fl111 := hts (.constant RX7 111 (-1000000002)) (by decide +kernel)
  have fl221 := hts (.constant RX7 221 (-1000000001)) (by decide +kernel)
  subst hsz
  have hD := hD0.self (sz := s.heap.size)
  generalize hAe : va_A (wX7 a ct g sg) s.heap.size = A at hD hE ⊢
  have hA : ∀ q : Nat, s.heap.size ≤ q → A q := fun q h => by rw [← hAe]; exact Or.inr h
  have hW : WW G A s.heap (wX7 a ct g sg) s.heap [] := ⟨hP, hD, va_S.rf⟩
  have hl := lv_entry ([.ref (a 0), .int x1, .int x2]) (n := 3) (Nat.le_of_ble_eq_true rfl)
  rw [lg_entry_eq]
  generalize (lg_sl ([.ref (a 0), .int x1, .int x2]) ++ List.replicate (3 - (lg_sl ([.ref (a 0), .int x1, .int x2])).length) Slot.unset).toArray = ls at hl ⊢
  have hl : lv_has ls 3 [(0, .ref (a 0)), (1, .int x1), (2, .int x2)] := hl
  unfold f_X7_stair at hf
  show W p l e ({ frames := 3, cells := 0, slots := 0, locals := 70 } : Room) s m (List.toArray [.ref (a 0), .int x1, .int x2]) below meth c s.heap [] 0 0 (MQ below (va_Qi (fun r (_ : Unit) => r = o) (fun _ t => Af_ G ct (wX7 a ct g sg) A t) A) (List.toArray [.ref (a 0), .int x1, .int x2]) s 0 0 A) (F0 m 0 ls [])
  refine lv_aload_n hx hb dX7_stair_0 rfl (lv_at hl 0 rfl) ?_
  refine lv_iload_n hx hb dX7_stair_1 rfl (lv_at hl 1 rfl) ?_
  replace hf := bs_ hf; obtain ⟨r1, hcl, hf⟩ := hf
  refine x_callW_i (w' := (wX7 a ct g sg)) (As := [.int x1]) (rest := []) (ci := 7) ⟨hx, hb, hml, hown, hts⟩ (c_X7_isStair l N kd G ct a g sg x1 _ hcl) (cwV 1 hts gX7_stair_X7_isStair rfl rfl rfl (by decide +kernel) ⟨Nat.le_of_ble_eq_true rfl, Nat.le_of_ble_eq_true rfl⟩) hK hE hA hW rfl rfl 0 rfl rfl rfl rfl hl.1 rfl (lv_room (Nat.le_of_ble_eq_true rfl)) dX7_stair_2 (fun H locs hW => ?_)
  refine lv_if_ne (tgt := 11) hx hb dX7_stair_5 (by decide) (fun hc => ?_) (fun hc => ?_)
  · replace hf := ifn hc hf
    refine lv_iload_n hx hb dX7_stair_11 rfl (lv_at hl 2 rfl) ?_
    by_cases q0 : x2 = (0 : Int32)
    · replace hf := ifp q0 hf
      refine lv_tableIn (tgt := 64) (off := 52) hx hb dX7_stair_12 (by rw [q0]; decide) (by rw [q0]; decide) (by rw [q0]; rfl) (by decide) ?_
      refine lv_aload_n hx hb dX7_stair_64 rfl (lv_at hl 0 rfl) ?_
      refine x_get (ci := 7) (v := .ref (a 3)) (C := RX7) (T := TX7) (N := 44) hx hb hts inX7 hown hK hW 0 rfl rfl 2 (by decide) fl7 (fun _ h9 => h9) rfl dX7_stair_65 ?_
      refine lv_iload_n hx hb dX7_stair_68 rfl (lv_at hl 1 rfl) ?_
      replace hf := gd_s hf; obtain ⟨hin, hf⟩ := hf
      refine x_iald (n := 10) (f := g 3) hx hb hK hW 1 rfl (okI_in hin) dX7_stair_69 ?_
      have ho := Option.some.inj hf
      subst ho
      exact x_reti (sz := 0) (w0 := []) (A1 := A) hx hb hr hlocks hK hW rfl rfl dX7_stair_70
    · replace hf := ifn q0 hf
      by_cases q1 : x2 = (1 : Int32)
      · replace hf := ifp q1 hf
        refine lv_tableIn (tgt := 71) (off := 59) hx hb dX7_stair_12 (by rw [q1]; decide) (by rw [q1]; decide) (by rw [q1]; rfl) (by decide) ?_
        refine lv_aload_n hx hb dX7_stair_71 rfl (lv_at hl 0 rfl) ?_
        refine x_get (ci := 7) (v := .ref (a 4)) (C := RX7) (T := TX7) (N := 44) hx hb hts inX7 hown hK hW 0 rfl rfl 3 (by decide) fl13 (fun _ h9 => h9) rfl dX7_stair_72 ?_
        refine lv_iload_n hx hb dX7_stair_75 rfl (lv_at hl 1 rfl) ?_
        replace hf := gd_s hf; obtain ⟨hin, hf⟩ := hf
        refine x_iald (n := 10) (f := g 4) hx hb hK hW 2 rfl (okI_in hin) dX7_stair_76 ?_
        have ho := Option.some.inj hf
        subst ho
        exact x_reti (sz := 0) (w0 := []) (A1 := A) hx hb hr hlocks hK hW rfl rfl dX7_stair_77
      · replace hf := ifn q1 hf
        by_cases q2 : x2 = (2 : Int32)
        · replace hf := ifp q2 hf
          refine lv_tableIn (tgt := 78) (off := 66) hx hb dX7_stair_12 (by rw [q2]; decide) (by rw [q2]; decide) (by rw [q2]; rfl) (by decide) ?_
          refine lv_aload_n hx hb dX7_stair_78 rfl (lv_at hl 0 rfl) ?_
          refine x_get (ci := 7) (v := .ref (a 5)) (C := RX7) (T := TX7) (N := 44) hx hb hts inX7 hown hK hW 0 rfl rfl 4 (by decide) fl16 (fun _ h9 => h9) rfl dX7_stair_79 ?_
          refine lv_iload_n hx hb dX7_stair_82 rfl (lv_at hl 1 rfl) ?_
          replace hf := gd_s hf; obtain ⟨hin, hf⟩ := hf
          refine x_iald (n := 10) (f := g 5) hx hb hK hW 3 rfl (okI_in hin) dX7_stair_83 ?_
          have ho := Option.some.inj hf
          subst ho
          exact x_reti (sz := 0) (w0 := []) (A1 := A) hx hb hr hlocks hK hW rfl rfl dX7_stair_84
        · replace hf := ifn q2 hf
          by_cases q3 : x2 = (3 : Int32)
          · replace hf := ifp q3 hf
            refine lv_tableIn (tgt := 85) (off := 73) hx hb dX7_stair_12 (by rw [q3]; decide) (by rw [q3]; decide) (by rw [q3]; rfl) (by decide) ?_
            refine lv_aload_n hx hb dX7_stair_85 rfl (lv_at hl 0 rfl) ?_
            refine x_get (ci := 7) (v := .ref (a 6)) (C := RX7) (T := TX7) (N := 44) hx hb hts inX7 hown hK hW 0 rfl rfl 5 (by decide) fl19 (fun _ h9 => h9) rfl dX7_stair_86 ?_
            refine lv_iload_n hx hb dX7_stair_89 rfl (lv_at hl 1 rfl) ?_
            replace hf := gd_s hf; obtain ⟨hin, hf⟩ := hf
            refine x_iald (n := 10) (f := g 6) hx hb hK hW 4 rfl (okI_in hin) dX7_stair_90 ?_
            have ho := Option.some.inj hf
            subst ho
            exact x_reti (sz := 0) (w0 := []) (A1 := A) hx hb hr hlocks hK hW rfl rfl dX7_stair_91
          · replace hf := ifn q3 hf
            by_cases q4 : x2 = (4 : Int32)
            · replace hf := ifp q4 hf
              refine lv_tableIn (tgt := 92) (off := 80) hx hb dX7_stair_12 (by rw [q4]; decide) (by rw [q4]; decide) (by rw [q4]; rfl) (by decide) ?_
              refine lv_aload_n hx hb dX7_stair_92 rfl (lv_at hl 0 rfl) ?_
              refine x_get (ci := 7) (v := .ref (a 7)) (C := RX7) (T := TX7) (N := 44) hx hb hts inX7 hown hK hW 0 rfl rfl 6 (by decide) fl22 (fun _ h9 => h9) rfl dX7_stair_93 ?_
              refine lv_iconst (v := (3 : Int32)) hx hb dX7_stair_96 (by decide) ?_
              refine lv_iload_n hx hb dX7_stair_97 rfl (lv_at hl 1 rfl) ?_
              refine lv_imul hx hb dX7_stair_98 ?_
              replace hf := gd_s hf; obtain ⟨hin, hf⟩ := hf
              refine x_iald (n := 30) (f := g 7) hx hb hK hW 5 rfl (okI_in hin) dX7_stair_99 ?_
              have ho := Option.some.inj hf
              subst ho
              exact x_reti (sz := 0) (w0 := []) (A1 := A) hx hb hr hlocks hK hW rfl rfl dX7_stair_100
            · replace hf := ifn q4 hf
              by_cases q5 : x2 = (5 : Int32)
              · replace hf := ifp q5 hf
                refine lv_tableIn (tgt := 101) (off := 89) hx hb dX7_stair_12 (by rw [q5]; decide) (by rw [q5]; decide) (by rw [q5]; rfl) (by decide) ?_
                refine lv_aload_n hx hb dX7_stair_101 rfl (lv_at hl 0 rfl) ?_
                refine x_get (ci := 7) (v := .ref (a 6)) (C := RX7) (T := TX7) (N := 44) hx hb hts inX7 hown hK hW 0 rfl rfl 5 (by decide) fl19 (fun _ h9 => h9) rfl dX7_stair_102 ?_
                refine lv_iload_n hx hb dX7_stair_105 rfl (lv_at hl 1 rfl) ?_
                replace hf := gd_s hf; obtain ⟨hin, hf⟩ := hf
                refine x_iald (n := 10) (f := g 6) hx hb hK hW 4 rfl (okI_in hin) dX7_stair_106 ?_
                refine lv_iconst (v := (1 : Int32)) hx hb dX7_stair_107 (by decide) ?_
                refine lv_icmp_le (tgt := 124) hx hb dX7_stair_108 (by decide) (fun hc => ?_) (fun hc => ?_)
                · replace hf := ifp hc hf
                  refine lv_iconst (v := (0 : Int32)) hx hb dX7_stair_124 (by decide) ?_
                  have ho := Option.some.inj hf
                  subst ho
                  exact x_reti (sz := 0) (w0 := []) (A1 := A) hx hb hr hlocks hK hW rfl rfl dX7_stair_125
                · replace hf := ifn hc hf
                  refine lv_aload_n hx hb dX7_stair_111 rfl (lv_at hl 0 rfl) ?_
                  refine x_get (ci := 7) (v := .ref (a 7)) (C := RX7) (T := TX7) (N := 44) hx hb hts inX7 hown hK hW 0 rfl rfl 6 (by decide) fl22 (fun _ h9 => h9) rfl dX7_stair_112 ?_
                  refine lv_iconst (v := (3 : Int32)) hx hb dX7_stair_115 (by decide) ?_
                  refine lv_iload_n hx hb dX7_stair_116 rfl (lv_at hl 1 rfl) ?_
                  refine lv_imul hx hb dX7_stair_117 ?_
                  refine lv_iconst (v := (1 : Int32)) hx hb dX7_stair_118 (by decide) ?_
                  refine lv_iadd hx hb dX7_stair_119 ?_
                  replace hf := gd_s hf; obtain ⟨hin, hf⟩ := hf
                  refine x_iald (n := 30) (f := g 7) hx hb hK hW 5 rfl (okI_in hin) dX7_stair_120 ?_
                  refine lv_goto (tgt := 125) hx hb dX7_stair_121 (by decide) ?_
                  have ho := Option.some.inj hf
                  subst ho
                  exact x_reti (sz := 0) (w0 := []) (A1 := A) hx hb hr hlocks hK hW rfl rfl dX7_stair_125
              · replace hf := ifn q5 hf
                by_cases q6 : x2 = (6 : Int32)
                · replace hf := ifp q6 hf
                  refine lv_tableIn (tgt := 126) (off := 114) hx hb dX7_stair_12 (by rw [q6]; decide) (by rw [q6]; decide) (by rw [q6]; rfl) (by decide) ?_
                  refine lv_aload_n hx hb dX7_stair_126 rfl (lv_at hl 0 rfl) ?_
                  refine x_get (ci := 7) (v := .ref (a 6)) (C := RX7) (T := TX7) (N := 44) hx hb hts inX7 hown hK hW 0 rfl rfl 5 (by decide) fl19 (fun _ h9 => h9) rfl dX7_stair_127 ?_
                  refine lv_iload_n hx hb dX7_stair_130 rfl (lv_at hl 1 rfl) ?_
                  replace hf := gd_s hf; obtain ⟨hin, hf⟩ := hf
                  refine x_iald (n := 10) (f := g 6) hx hb hK hW 4 rfl (okI_in hin) dX7_stair_131 ?_
                  refine lv_iconst (v := (2 : Int32)) hx hb dX7_stair_132 (by decide) ?_
                  refine lv_icmp_le (tgt := 149) hx hb dX7_stair_133 (by decide) (fun hc => ?_) (fun hc => ?_)
                  · replace hf := ifp hc hf
                    refine lv_iconst (v := (0 : Int32)) hx hb dX7_stair_149 (by decide) ?_
                    have ho := Option.some.inj hf
                    subst ho
                    exact x_reti (sz := 0) (w0 := []) (A1 := A) hx hb hr hlocks hK hW rfl rfl dX7_stair_150
                  · replace hf := ifn hc hf
                    refine lv_aload_n hx hb dX7_stair_136 rfl (lv_at hl 0 rfl) ?_
                    refine x_get (ci := 7) (v := .ref (a 7)) (C := RX7) (T := TX7) (N := 44) hx hb hts inX7 hown hK hW 0 rfl rfl 6 (by decide) fl22 (fun _ h9 => h9) rfl dX7_stair_137 ?_
                    refine lv_iconst (v := (3 : Int32)) hx hb dX7_stair_140 (by decide) ?_
                    refine lv_iload_n hx hb dX7_stair_141 rfl (lv_at hl 1 rfl) ?_
                    refine lv_imul hx hb dX7_stair_142 ?_
                    refine lv_iconst (v := (2 : Int32)) hx hb dX7_stair_143 (by decide) ?_
                    refine lv_iadd hx hb dX7_stair_144 ?_
                    replace hf := gd_s hf; obtain ⟨hin, hf⟩ := hf
                    refine x_iald (n := 30) (f := g 7) hx hb hK hW 5 rfl (okI_in hin) dX7_stair_145 ?_
                    refine lv_goto (tgt := 150) hx hb dX7_stair_146 (by decide) ?_
                    have ho := Option.some.inj hf
                    subst ho
                    exact x_reti (sz := 0) (w0 := []) (A1 := A) hx hb hr hlocks hK hW rfl rfl dX7_stair_150
                · replace hf := ifn q6 hf
                  by_cases q7 : x2 = (7 : Int32)
                  · replace hf := ifp q7 hf
                    refine lv_tableIn (tgt := 151) (off := 139) hx hb dX7_stair_12 (by rw [q7]; decide) (by rw [q7]; decide) (by rw [q7]; rfl) (by decide) ?_
                    refine lv_aload_n hx hb dX7_stair_151 rfl (lv_at hl 0 rfl) ?_
                    refine x_get (ci := 7) (v := .ref (a 8)) (C := RX7) (T := TX7) (N := 44) hx hb hts inX7 hown hK hW 0 rfl rfl 7 (by decide) fl25 (fun _ h9 => h9) rfl dX7_stair_152 ?_
                    refine lv_iload_n hx hb dX7_stair_155 rfl (lv_at hl 1 rfl) ?_
                    replace hf := gd_s hf; obtain ⟨hin, hf⟩ := hf
                    refine x_iald (n := 10) (f := g 8) hx hb hK hW 6 rfl (okI_in hin) dX7_stair_156 ?_
                    have ho := Option.some.inj hf
                    subst ho
                    exact x_reti (sz := 0) (w0 := []) (A1 := A) hx hb hr hlocks hK hW rfl rfl dX7_stair_157
                  · replace hf := ifn q7 hf
                    by_cases q8 : x2 = (8 : Int32)
                    · replace hf := ifp q8 hf
                      refine lv_tableIn (tgt := 158) (off := 146) hx hb dX7_stair_12 (by rw [q8]; decide) (by rw [q8]; decide) (by rw [q8]; rfl) (by decide) ?_
                      refine lv_aload_n hx hb dX7_stair_158 rfl (lv_at hl 0 rfl) ?_
                      refine lv_iload_n hx hb dX7_stair_159 rfl (lv_at hl 1 rfl) ?_
                      replace hf := bs_ hf; obtain ⟨r2, hcl, hf⟩ := hf
                      refine x_callW_i (w' := (wX7 a ct g sg)) (As := [.int x1]) (rest := []) (ci := 7) ⟨hx, hb, hml, hown, hts⟩ (c_X7_climbers l N kd G ct a g sg x1 _ hcl) (cwV 1 hts gX7_stair_X7_climbers rfl rfl rfl (by decide +kernel) ⟨Nat.le_of_ble_eq_true rfl, Nat.le_of_ble_eq_true rfl⟩) hK hE hA hW rfl rfl 0 rfl rfl rfl rfl hl.1 rfl (lv_room (Nat.le_of_ble_eq_true rfl)) dX7_stair_160 (fun H locs hW => ?_)
                      have ho := Option.some.inj hf
                      subst ho
                      exact x_reti (sz := 0) (w0 := []) (A1 := A) hx hb hr hlocks hK hW rfl rfl dX7_stair_163
                    · replace hf := ifn q8 hf
                      refine lv_tableOut (tgt := 164) hx hb dX7_stair_12 (by have h0 := lv_neT q0 (show (0 : Int32).toInt = 0 from rfl); have h1 := lv_neT q1 (show (1 : Int32).toInt = 1 from rfl); have h2 := lv_neT q2 (show (2 : Int32).toInt = 2 from rfl); have h3 := lv_neT q3 (show (3 : Int32).toInt = 3 from rfl); have h4 := lv_neT q4 (show (4 : Int32).toInt = 4 from rfl); have h5 := lv_neT q5 (show (5 : Int32).toInt = 5 from rfl); have h6 := lv_neT q6 (show (6 : Int32).toInt = 6 from rfl); have h7 := lv_neT q7 (show (7 : Int32).toInt = 7 from rfl); have h8 := lv_neT q8 (show (8 : Int32).toInt = 8 from rfl); omega) (by decide) ?_
                      refine lv_ldc (v := (-1000000002 : Int32)) hx hb hown fl111 dX7_stair_164 ?_
                      have ho := Option.some.inj hf
                      subst ho
                      exact x_reti (sz := 0) (w0 := []) (A1 := A) hx hb hr hlocks hK hW rfl rfl dX7_stair_166
  · replace hf := ifp hc hf
    refine lv_ldc (v := (-1000000001 : Int32)) hx hb hown fl221 dX7_stair_8 ?_
    have ho := Option.some.inj hf
    subst ho
    exact x_reti (sz := 0) (w0 := []) (A1 := A) hx hb hr hlocks hK hW rfl rfl dX7_stair_10
