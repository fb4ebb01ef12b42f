set_option maxHeartbeats 4000000 in
set_option maxRecDepth 100000 in
theorem c_X7_canGo (l : Launch) (N : Nat) (kd : (Nat → Nat) × (Nat → Nat)) (G : va_G) (ct : Nat → ClassId) (a : Nat → Nat) (g : St_) (sg : Int64) (x1 : Int32) (x2 : Int32) (o : Int32) (hf : f_X7_canGo N g x1 x2 = some o) : CtI l yX7_canGo wsX7_canGo ({ frames := 2, cells := 0, slots := 0, locals := 47 }) kd G ct [.ref (a 0), .int x1, .int x2] (wX7 a ct g sg) o (wX7 a ct g sg) := by
  intro sz
  refine Met.ofW (cc := cX7_canGo) (maxL := 3) (ret := (some .boolean)) (by decide) rfl ?_
  intro p e s m args below meth c s₁ B hml hv
  obtain ⟨rfl, hsz, hP, hK, hD0, hE⟩ := hv
  have hx := B.exec
  have hb := B.bytes
  have hr := B.returns
  have hts := atoms_spec (ws := wsX7_canGo) B.pre
  have hown : s.vm.findClass RX7 = some m.cls := findClass_of_methodNamed B.named
  have hlocks := B.notSynchronized
  have inX7 : ∀ w ∈ wsX70, w ∈ wsX7_canGo := by decide +kernel
  have fl13 := hts (.fieldLink RX7 13 "FittingStridesModel" "low" "[I") (by decide +kernel)
  have fl16 := hts (.fieldLink RX7 16 "FittingStridesModel" "high" "[I") (by decide +kernel)
  have fl28 := hts (.fieldLink RX7 28 "FittingStridesModel" "at" "[I") (by decide +kernel)
  have fl204 := hts (.fieldLink RX7 204 "FittingStridesModel" "law" "I") (by decide +kernel)
  subst hsz
  have hD := hD0.self (sz := s.heap.size)
  generalize hAe : va_A (wX7 a ct g sg) s.heap.size = A at hD hE ⊢
  have hA : ∀ q : Nat, s.heap.size ≤ q → A q := fun q h => by rw [← hAe]; exact Or.inr h
  have hW : WW G A s.heap (wX7 a ct g sg) s.heap [] := ⟨hP, hD, va_S.rf⟩
  have hl := lv_entry ([.ref (a 0), .int x1, .int x2]) (n := 3) (Nat.le_of_ble_eq_true rfl)
  rw [lg_entry_eq]
  generalize (lg_sl ([.ref (a 0), .int x1, .int x2]) ++ List.replicate (3 - (lg_sl ([.ref (a 0), .int x1, .int x2])).length) Slot.unset).toArray = ls at hl ⊢
  have hl : lv_has ls 3 [(0, .ref (a 0)), (1, .int x1), (2, .int x2)] := hl
  unfold f_X7_canGo at hf
  show W p l e ({ frames := 2, cells := 0, slots := 0, locals := 47 } : Room) s m (List.toArray [.ref (a 0), .int x1, .int x2]) below meth c s.heap [] 0 0 (MQ below (va_Qi (fun r (_ : Unit) => r = o) (fun _ t => Af_ G ct (wX7 a ct g sg) A t) A) (List.toArray [.ref (a 0), .int x1, .int x2]) s 0 0 A) (F0 m 0 ls [])
  refine lv_aload_n hx hb dX7_canGo_0 rfl (lv_at hl 0 rfl) ?_
  refine x_get (ci := 7) (v := .ref (a 10)) (C := RX7) (T := TX7) (N := 44) hx hb hts inX7 hown hK hW 0 rfl rfl 9 (by decide) fl28 (fun _ h9 => h9) rfl dX7_canGo_1 ?_
  refine lv_iload_n hx hb dX7_canGo_4 rfl (lv_at hl 1 rfl) ?_
  replace hf := gd_s hf; obtain ⟨hin, hf⟩ := hf
  refine x_iald (n := 8) (f := g 10) hx hb hK hW 7 rfl (okI_in hin) dX7_canGo_5 ?_
  refine lv_aload_n hx hb dX7_canGo_6 rfl (lv_at hl 0 rfl) ?_
  refine x_get (ci := 7) (v := .ref (a 4)) (C := RX7) (T := TX7) (N := 44) hx hb hts inX7 hown hK hW 0 rfl rfl 3 (by decide) fl13 (fun _ h9 => h9) rfl dX7_canGo_7 ?_
  refine lv_iload_n hx hb dX7_canGo_10 rfl (lv_at hl 2 rfl) ?_
  replace hf := gd_s hf; obtain ⟨hin, hf⟩ := hf
  refine x_iald (n := 10) (f := g 4) hx hb hK hW 2 rfl (okI_in hin) dX7_canGo_11 ?_
  refine lv_icmp_ne (tgt := 24) hx hb dX7_canGo_12 (by decide) (fun hc => ?_) (fun hc => ?_)
  · replace hf := ifn hc hf
    refine lv_aload_n hx hb dX7_canGo_24 rfl (lv_at hl 0 rfl) ?_
    refine x_get (ci := 7) (v := .ref (a 10)) (C := RX7) (T := TX7) (N := 44) hx hb hts inX7 hown hK hW 0 rfl rfl 9 (by decide) fl28 (fun _ h9 => h9) rfl dX7_canGo_25 ?_
    refine lv_iload_n hx hb dX7_canGo_28 rfl (lv_at hl 1 rfl) ?_
    replace hf := gd_s hf; obtain ⟨hin, hf⟩ := hf
    refine x_iald (n := 8) (f := g 10) hx hb hK hW 7 rfl (okI_in hin) dX7_canGo_29 ?_
    refine lv_aload_n hx hb dX7_canGo_30 rfl (lv_at hl 0 rfl) ?_
    refine x_get (ci := 7) (v := .ref (a 5)) (C := RX7) (T := TX7) (N := 44) hx hb hts inX7 hown hK hW 0 rfl rfl 4 (by decide) fl16 (fun _ h9 => h9) rfl dX7_canGo_31 ?_
    refine lv_iload_n hx hb dX7_canGo_34 rfl (lv_at hl 2 rfl) ?_
    replace hf := gd_s hf; obtain ⟨hin, hf⟩ := hf
    refine x_iald (n := 10) (f := g 5) hx hb hK hW 3 rfl (okI_in hin) dX7_canGo_35 ?_
    refine lv_icmp_ne (tgt := 60) hx hb dX7_canGo_36 (by decide) (fun hc => ?_) (fun hc => ?_)
    · replace hf := ifn hc hf
      refine lv_iconst (v := (0 : Int32)) hx hb dX7_canGo_60 (by decide) ?_
      have ho := Option.some.inj hf
      subst ho
      exact x_retz hx hb hr rfl hlocks hK hW rfl rfl dX7_canGo_61
    · replace hf := ifp hc hf
      refine lv_aload_n hx hb dX7_canGo_39 rfl (lv_at hl 0 rfl) ?_
      refine x_get (ci := 7) (v := .int (g 13 0)) (C := RX7) (T := TX7) (N := 44) hx hb hts inX7 hown hK hW 0 rfl rfl 12 (by decide) fl204 (fun _ h9 => h9) rfl dX7_canGo_40 ?_
      refine lv_iconst (v := (1 : Int32)) hx hb dX7_canGo_43 (by decide) ?_
      refine lv_icmp_eq (tgt := 56) hx hb dX7_canGo_44 (by decide) (fun hc => ?_) (fun hc => ?_)
      · replace hf := ifp hc hf
        refine lv_iconst (v := (1 : Int32)) hx hb dX7_canGo_56 (by decide) ?_
        refine lv_goto (tgt := 61) hx hb dX7_canGo_57 (by decide) ?_
        have ho := Option.some.inj hf
        subst ho
        exact x_retz hx hb hr rfl hlocks hK hW rfl rfl dX7_canGo_61
      · replace hf := ifn hc hf
        refine lv_aload_n hx hb dX7_canGo_47 rfl (lv_at hl 0 rfl) ?_
        refine lv_iload_n hx hb dX7_canGo_48 rfl (lv_at hl 1 rfl) ?_
        refine lv_iload_n hx hb dX7_canGo_49 rfl (lv_at hl 2 rfl) ?_
        replace hf := bs_ hf; obtain ⟨r1, hcl, hf⟩ := hf
        refine x_callW_i (w' := (wX7 a ct g sg)) (As := [.int x1, .int x2]) (rest := []) (ci := 7) ⟨hx, hb, hml, hown, hts⟩ (c_X7_mayClimb l N kd G ct a g sg x1 x2 _ hcl) (cwV 2 hts gX7_canGo_X7_mayClimb rfl rfl rfl (by decide +kernel) ⟨Nat.le_of_ble_eq_true rfl, Nat.le_of_ble_eq_true rfl⟩) hK hE hA hW rfl rfl 0 rfl rfl rfl rfl hl.1 rfl (lv_room (Nat.le_of_ble_eq_true rfl)) dX7_canGo_50 (fun H locs hW => ?_)
        refine lv_if_eq (tgt := 60) hx hb dX7_canGo_53 (by decide) (fun hc => ?_) (fun hc => ?_)
        · replace hf := ifp hc hf
          refine lv_iconst (v := (0 : Int32)) hx hb dX7_canGo_60 (by decide) ?_
          have ho := Option.some.inj hf
          subst ho
          exact x_retz hx hb hr rfl hlocks hK hW rfl rfl dX7_canGo_61
        · replace hf := ifn hc hf
          refine lv_iconst (v := (1 : Int32)) hx hb dX7_canGo_56 (by decide) ?_
          refine lv_goto (tgt := 61) hx hb dX7_canGo_57 (by decide) ?_
          have ho := Option.some.inj hf
          subst ho
          exact x_retz hx hb hr rfl hlocks hK hW rfl rfl dX7_canGo_61
  · replace hf := ifp hc hf
    refine lv_aload_n hx hb dX7_canGo_15 rfl (lv_at hl 0 rfl) ?_
    refine lv_iload_n hx hb dX7_canGo_16 rfl (lv_at hl 1 rfl) ?_
    refine lv_iload_n hx hb dX7_canGo_17 rfl (lv_at hl 2 rfl) ?_
    replace hf := bs_ hf; obtain ⟨r2, hcl, hf⟩ := hf
    refine x_callW_i (w' := (wX7 a ct g sg)) (As := [.int x1, .int x2]) (rest := []) (ci := 7) ⟨hx, hb, hml, hown, hts⟩ (c_X7_mayClimb l N kd G ct a g sg x1 x2 _ hcl) (cwV 2 hts gX7_canGo_X7_mayClimb rfl rfl rfl (by decide +kernel) ⟨Nat.le_of_ble_eq_true rfl, Nat.le_of_ble_eq_true rfl⟩) hK hE hA hW rfl rfl 0 rfl rfl rfl rfl hl.1 rfl (lv_room (Nat.le_of_ble_eq_true rfl)) dX7_canGo_18 (fun H locs hW => ?_)
    refine lv_if_ne (tgt := 56) hx hb dX7_canGo_21 (by decide) (fun hc => ?_) (fun hc => ?_)
    · replace hf := ifn hc hf
      refine lv_iconst (v := (1 : Int32)) hx hb dX7_canGo_56 (by decide) ?_
      refine lv_goto (tgt := 61) hx hb dX7_canGo_57 (by decide) ?_
      have ho := Option.some.inj hf
      subst ho
      exact x_retz hx hb hr rfl hlocks hK hW rfl rfl dX7_canGo_61
    · replace hf := ifp hc hf
      refine lv_aload_n hx hb dX7_canGo_24 rfl (lv_at hl 0 rfl) ?_
      refine x_get (ci := 7) (v := .ref (a 10)) (C := RX7) (T := TX7) (N := 44) hx hb hts inX7 hown hK hW 0 rfl rfl 9 (by decide) fl28 (fun _ h9 => h9) rfl dX7_canGo_25 ?_
      refine lv_iload_n hx hb dX7_canGo_28 rfl (lv_at hl 1 rfl) ?_
      replace hf := gd_s hf; obtain ⟨hin, hf⟩ := hf
      refine x_iald (n := 8) (f := g 10) hx hb hK hW 7 rfl (okI_in hin) dX7_canGo_29 ?_
      refine lv_aload_n hx hb dX7_canGo_30 rfl (lv_at hl 0 rfl) ?_
      refine x_get (ci := 7) (v := .ref (a 5)) (C := RX7) (T := TX7) (N := 44) hx hb hts inX7 hown hK hW 0 rfl rfl 4 (by decide) fl16 (fun _ h9 => h9) rfl dX7_canGo_31 ?_
      refine lv_iload_n hx hb dX7_canGo_34 rfl (lv_at hl 2 rfl) ?_
      replace hf := gd_s hf; obtain ⟨hin, hf⟩ := hf
      refine x_iald (n := 10) (f := g 5) hx hb hK hW 3 rfl (okI_in hin) dX7_canGo_35 ?_
      refine lv_icmp_ne (tgt := 60) hx hb dX7_canGo_36 (by decide) (fun hc => ?_) (fun hc => ?_)
      · replace hf := ifn hc hf
        refine lv_iconst (v := (0 : Int32)) hx hb dX7_canGo_60 (by decide) ?_
        have ho := Option.some.inj hf
        subst ho
        exact x_retz hx hb hr rfl hlocks hK hW rfl rfl dX7_canGo_61
      · replace hf := ifp hc hf
        refine lv_aload_n hx hb dX7_canGo_39 rfl (lv_at hl 0 rfl) ?_
        refine x_get (ci := 7) (v := .int (g 13 0)) (C := RX7) (T := TX7) (N := 44) hx hb hts inX7 hown hK hW 0 rfl rfl 12 (by decide) fl204 (fun _ h9 => h9) rfl dX7_canGo_40 ?_
        refine lv_iconst (v := (1 : Int32)) hx hb dX7_canGo_43 (by decide) ?_
        refine lv_icmp_eq (tgt := 56) hx hb dX7_canGo_44 (by decide) (fun hc => ?_) (fun hc => ?_)
        · replace hf := ifp hc hf
          refine lv_iconst (v := (1 : Int32)) hx hb dX7_canGo_56 (by decide) ?_
          refine lv_goto (tgt := 61) hx hb dX7_canGo_57 (by decide) ?_
          have ho := Option.some.inj hf
          subst ho
          exact x_retz hx hb hr rfl hlocks hK hW rfl rfl dX7_canGo_61
        · replace hf := ifn hc hf
          refine lv_aload_n hx hb dX7_canGo_47 rfl (lv_at hl 0 rfl) ?_
          refine lv_iload_n hx hb dX7_canGo_48 rfl (lv_at hl 1 rfl) ?_
          refine lv_iload_n hx hb dX7_canGo_49 rfl (lv_at hl 2 rfl) ?_
          replace hf := bs_ hf; obtain ⟨r3, hcl, hf⟩ := hf
          refine x_callW_i (w' := (wX7 a ct g sg)) (As := [.int x1, .int x2]) (rest := []) (ci := 7) ⟨hx, hb, hml, hown, hts⟩ (c_X7_mayClimb l N kd G ct a g sg x1 x2 _ hcl) (cwV 2 hts gX7_canGo_X7_mayClimb rfl rfl rfl (by decide +kernel) ⟨Nat.le_of_ble_eq_true rfl, Nat.le_of_ble_eq_true rfl⟩) hK hE hA hW rfl rfl 0 rfl rfl rfl rfl hl.1 rfl (lv_room (Nat.le_of_ble_eq_true rfl)) dX7_canGo_50 (fun H locs hW => ?_)
          refine lv_if_eq (tgt := 60) hx hb dX7_canGo_53 (by decide) (fun hc => ?_) (fun hc => ?_)
          · replace hf := ifp hc hf
            refine lv_iconst (v := (0 : Int32)) hx hb dX7_canGo_60 (by decide) ?_
            have ho := Option.some.inj hf
            subst ho
            exact x_retz hx hb hr rfl hlocks hK hW rfl rfl dX7_canGo_61
          · replace hf := ifn hc hf
            refine lv_iconst (v := (1 : Int32)) hx hb dX7_canGo_56 (by decide) ?_
            refine lv_goto (tgt := 61) hx hb dX7_canGo_57 (by decide) ?_
            have ho := Option.some.inj hf
            subst ho
            exact x_retz hx hb hr rfl hlocks hK hW rfl rfl dX7_canGo_61
set_option maxHeartbeats 4000000 in
set_option maxRecDepth 100000 in
theorem c_X7_goNow (l : Launch) (N : Nat) (kd : (Nat → Nat) × (Nat → Nat)) (G : va_G) (ct : Nat → ClassId) (a : Nat → Nat) (g : St_) (sg : Int64) (x1 : Int32) (x2 : Int32) (o : St_) (hf : f_X7_goNow N g x1 x2 = some o) : CtV l yX7_goNow wsX7_goNow ({ frames := 1, cells := 0, slots := 0, locals := 25 }) kd G ct [.ref (a 0), .int x1, .int x2] (wX7 a ct g sg) (wX7 a ct o sg) := by
  intro sz
  refine Met.ofW (cc := cX7_goNow) (maxL := 7) (ret := none) (by decide) rfl ?_
  intro p e s m args below meth c s₁ B hml hv
  obtain ⟨rfl, hsz, hP, hK, hD0, hE⟩ := hv
  have hx := B.exec
  have hb := B.bytes
  have hr := B.returns
  have hts := atoms_spec (ws := wsX7_goNow) B.pre
  have hown : s.vm.findClass RX7 = some m.cls := findClass_of_methodNamed B.named
  have hlocks := B.notSynchronized
  have inX7 : ∀ w ∈ wsX70, w ∈ wsX7_goNow := by decide +kernel
  have fl13 := hts (.fieldLink RX7 13 "FittingStridesModel" "low" "[I") (by decide +kernel)
  have fl16 := hts (.fieldLink RX7 16 "FittingStridesModel" "high" "[I") (by decide +kernel)
  have fl19 := hts (.fieldLink RX7 19 "FittingStridesModel" "parts" "[I") (by decide +kernel)
  have fl22 := hts (.fieldLink RX7 22 "FittingStridesModel" "steps" "[I") (by decide +kernel)
  have fl25 := hts (.fieldLink RX7 25 "FittingStridesModel" "worn" "[I") (by decide +kernel)
  have fl28 := hts (.fieldLink RX7 28 "FittingStridesModel" "at" "[I") (by decide +kernel)
  have fl31 := hts (.fieldLink RX7 31 "FittingStridesModel" "first" "[I") (by decide +kernel)
  have fl34 := hts (.fieldLink RX7 34 "FittingStridesModel" "second" "[I") (by decide +kernel)
  subst hsz
  have hD := hD0.self (sz := s.heap.size)
  generalize hAe : va_A (wX7 a ct g sg) s.heap.size = A at hD hE ⊢
  have hA : ∀ q : Nat, s.heap.size ≤ q → A q := fun q h => by rw [← hAe]; exact Or.inr h
  have hW : WW G A s.heap (wX7 a ct g sg) s.heap [] := ⟨hP, hD, va_S.rf⟩
  have hl := lv_entry ([.ref (a 0), .int x1, .int x2]) (n := 7) (Nat.le_of_ble_eq_true rfl)
  rw [lg_entry_eq]
  generalize (lg_sl ([.ref (a 0), .int x1, .int x2]) ++ List.replicate (7 - (lg_sl ([.ref (a 0), .int x1, .int x2])).length) Slot.unset).toArray = ls at hl ⊢
  have hl : lv_has ls 7 [(0, .ref (a 0)), (1, .int x1), (2, .int x2)] := hl
  unfold f_X7_goNow at hf
  show W p l e ({ frames := 1, cells := 0, slots := 0, locals := 25 } : Room) s m (List.toArray [.ref (a 0), .int x1, .int x2]) below meth c s.heap [] 0 0 (MQ below (va_Qv (fun (_ : Unit) => True) (fun _ t => Af_ G ct (wX7 a ct o sg) A t) A) (List.toArray [.ref (a 0), .int x1, .int x2]) s 0 0 A) (F0 m 0 ls [])
  refine lv_aload_n hx hb dX7_goNow_0 rfl (lv_at hl 0 rfl) ?_
  refine lv_iload_n hx hb dX7_goNow_1 rfl (lv_at hl 2 rfl) ?_
  refine lv_aload_n hx hb dX7_goNow_2 rfl (lv_at hl 0 rfl) ?_
  refine x_get (ci := 7) (v := .ref (a 11)) (C := RX7) (T := TX7) (N := 44) hx hb hts inX7 hown hK hW 0 rfl rfl 10 (by decide) fl31 (fun _ h9 => h9) rfl dX7_goNow_3 ?_
  refine lv_iload_n hx hb dX7_goNow_6 rfl (lv_at hl 1 rfl) ?_
  replace hf := gd_s hf; obtain ⟨hin, hf⟩ := hf
  refine x_iald (n := 8) (f := g 11) hx hb hK hW 8 rfl (okI_in hin) dX7_goNow_7 ?_
  replace hf := bs_ hf; obtain ⟨r1, hcl, hf⟩ := hf
  refine x_callW_i (w' := (wX7 a ct g sg)) (As := [.int x2, .int (g 11 x1.toNatClampNeg)]) (rest := []) (ci := 7) ⟨hx, hb, hml, hown, hts⟩ (c_X7_isFit l N kd G ct a g sg x2 (g 11 x1.toNatClampNeg) _ hcl) (cwV 2 hts gX7_goNow_X7_isFit rfl rfl rfl (by decide +kernel) ⟨Nat.le_of_ble_eq_true rfl, Nat.le_of_ble_eq_true rfl⟩) hK hE hA hW rfl rfl 0 rfl rfl rfl rfl hl.1 rfl (lv_room (Nat.le_of_ble_eq_true rfl)) dX7_goNow_8 (fun H locs hW => ?_)
  refine lv_istore_n (lv' := [(3, .int r1), (0, .ref (a 0)), (1, .int x1), (2, .int x2)]) hx hb dX7_goNow_11 rfl hl (by decide) rfl (fun ls hl => ?_)
  refine lv_aload_n hx hb dX7_goNow_12 rfl (lv_at hl 1 rfl) ?_
  refine lv_iload_n hx hb dX7_goNow_13 rfl (lv_at hl 3 rfl) ?_
  refine lv_aload_n hx hb dX7_goNow_14 rfl (lv_at hl 1 rfl) ?_
  refine x_get (ci := 7) (v := .ref (a 12)) (C := RX7) (T := TX7) (N := 44) hx hb hts inX7 hown hK hW 0 rfl rfl 11 (by decide) fl34 (fun _ h9 => h9) rfl dX7_goNow_15 ?_
  refine lv_iload_n hx hb dX7_goNow_18 rfl (lv_at hl 2 rfl) ?_
  replace hf := gd_s hf; obtain ⟨hin, hf⟩ := hf
  refine x_iald (n := 8) (f := g 12) hx hb hK hW 9 rfl (okI_in hin) dX7_goNow_19 ?_
  replace hf := bs_ hf; obtain ⟨r2, hcl, hf⟩ := hf
  refine x_callW_i (w' := (wX7 a ct g sg)) (As := [.int x2, .int (g 12 x1.toNatClampNeg)]) (rest := []) (ci := 7) ⟨hx, hb, hml, hown, hts⟩ (c_X7_isFit l N kd G ct a g sg x2 (g 12 x1.toNatClampNeg) _ hcl) (cwV 2 hts gX7_goNow_X7_isFit rfl rfl rfl (by decide +kernel) ⟨Nat.le_of_ble_eq_true rfl, Nat.le_of_ble_eq_true rfl⟩) hK hE hA hW rfl rfl 0 rfl rfl rfl rfl hl.1 rfl (lv_room (Nat.le_of_ble_eq_true rfl)) dX7_goNow_20 (fun H locs hW => ?_)
  refine lv_istore (lv' := [(4, .int r2), (3, .int r1), (0, .ref (a 0)), (1, .int x1), (2, .int x2)]) hx hb dX7_goNow_23 hl (by decide) rfl (fun ls hl => ?_)
  refine lv_iload hx hb dX7_goNow_25 (lv_at hl 0 rfl) ?_
  replace hf := bs_ hf; obtain ⟨j3, hg, hf⟩ := hf
  have J3 : ∀ (H : Heap) (locs : List Loc) (ls : Array Slot), WW G A s.heap (wX7 a ct g sg) H locs → lv_has ls 7 [(0, .ref (a 0)), (1, .int x1), (2, .int x2)] → W p l e ({ frames := 1, cells := 0, slots := 0, locals := 25 } : Room) s m (List.toArray [.ref (a 0), .int x1, .int x2]) below meth c H locs 0 0 (MQ below (va_Qv (fun (_ : Unit) => True) (fun _ t => Af_ G ct (wX7 a ct o sg) A t) A) (List.toArray [.ref (a 0), .int x1, .int x2]) s 0 0 A) (F0 m 64 ls (.int j3 :: [])) := by
    intro H locs ls hW hl
    refine lv_istore (lv' := [(5, .int j3), (0, .ref (a 0)), (1, .int x1), (2, .int x2)]) hx hb dX7_goNow_64 hl (by decide) rfl (fun ls hl => ?_)
    refine lv_iconst (v := (0 : Int32)) hx hb dX7_goNow_66 (by decide) ?_
    refine lv_istore (lv' := [(6, .int (0 : Int32)), (5, .int j3), (0, .ref (a 0)), (1, .int x1), (2, .int x2)]) hx hb dX7_goNow_67 hl (by decide) rfl (fun ls hl => ?_)
    replace hf := bs_ hf; obtain ⟨v4, hg, hf⟩ := hf
    have J4 : ∀ (H : Heap) (locs : List Loc) (ls : Array Slot), WW G A s.heap (wX7 a ct v4 sg) H locs → lv_has ls 7 [(0, .ref (a 0)), (1, .int x1), (2, .int x2)] → W p l e ({ frames := 1, cells := 0, slots := 0, locals := 25 } : Room) s m (List.toArray [.ref (a 0), .int x1, .int x2]) below meth c H locs 0 0 (MQ below (va_Qv (fun (_ : Unit) => True) (fun _ t => Af_ G ct (wX7 a ct o sg) A t) A) (List.toArray [.ref (a 0), .int x1, .int x2]) s 0 0 A) (F0 m 114 ls []) := by
      intro H locs ls hW hl
      refine lv_aload_n hx hb dX7_goNow_114 rfl (lv_at hl 0 rfl) ?_
      refine x_get (ci := 7) (v := .ref (a 10)) (C := RX7) (T := TX7) (N := 44) hx hb hts inX7 hown hK hW 0 rfl rfl 9 (by decide) fl28 (fun _ h9 => h9) rfl dX7_goNow_115 ?_
      refine lv_iload_n hx hb dX7_goNow_118 rfl (lv_at hl 1 rfl) ?_
      refine lv_aload_n hx hb dX7_goNow_119 rfl (lv_at hl 0 rfl) ?_
      refine x_get (ci := 7) (v := .ref (a 10)) (C := RX7) (T := TX7) (N := 44) hx hb hts inX7 hown hK hW 0 rfl rfl 9 (by decide) fl28 (fun _ h9 => h9) rfl dX7_goNow_120 ?_
      refine lv_iload_n hx hb dX7_goNow_123 rfl (lv_at hl 1 rfl) ?_
      replace hf := gd_s hf; obtain ⟨hin, hf⟩ := hf
      refine x_iald (n := 8) (f := v4 10) hx hb hK hW 7 rfl (okI_in hin) dX7_goNow_124 ?_
      refine lv_aload_n hx hb dX7_goNow_125 rfl (lv_at hl 0 rfl) ?_
      refine x_get (ci := 7) (v := .ref (a 4)) (C := RX7) (T := TX7) (N := 44) hx hb hts inX7 hown hK hW 0 rfl rfl 3 (by decide) fl13 (fun _ h9 => h9) rfl dX7_goNow_126 ?_
      refine lv_iload_n hx hb dX7_goNow_129 rfl (lv_at hl 2 rfl) ?_
      replace hf := gd_s hf; obtain ⟨hin, hf⟩ := hf
      refine x_iald (n := 10) (f := v4 4) hx hb hK hW 2 rfl (okI_in hin) dX7_goNow_130 ?_
      refine lv_icmp_ne (tgt := 143) hx hb dX7_goNow_131 (by decide) (fun hc => ?_) (fun hc => ?_)
      · replace hf := ifn hc hf
        refine lv_aload_n hx hb dX7_goNow_143 rfl (lv_at hl 0 rfl) ?_
        refine x_get (ci := 7) (v := .ref (a 4)) (C := RX7) (T := TX7) (N := 44) hx hb hts inX7 hown hK hW 0 rfl rfl 3 (by decide) fl13 (fun _ h9 => h9) rfl dX7_goNow_144 ?_
        refine lv_iload_n hx hb dX7_goNow_147 rfl (lv_at hl 2 rfl) ?_
        replace hf := gd_s hf; obtain ⟨hin, hf⟩ := hf
        refine x_iald (n := 10) (f := v4 4) hx hb hK hW 2 rfl (okI_in hin) dX7_goNow_148 ?_
        replace hf := gd_s hf; obtain ⟨hin, hf⟩ := hf
        refine x_iast (w' := (wX7 a ct (up1 v4 10 x1.toNatClampNeg (v4 4 x2.toNatClampNeg)) sg)) (n := 8) (f := v4 10) hx hb hK hW 7 rfl (okI_in hin) rfl dX7_goNow_149 (fun H locs hW => ?_)
        have ho := Option.some.inj hf
        subst ho
        exact x_retv hx hb hr hlocks hK hW rfl dX7_goNow_150
      · replace hf := ifp hc hf
        refine lv_aload_n hx hb dX7_goNow_134 rfl (lv_at hl 0 rfl) ?_
        refine x_get (ci := 7) (v := .ref (a 5)) (C := RX7) (T := TX7) (N := 44) hx hb hts inX7 hown hK hW 0 rfl rfl 4 (by decide) fl16 (fun _ h9 => h9) rfl dX7_goNow_135 ?_
        refine lv_iload_n hx hb dX7_goNow_138 rfl (lv_at hl 2 rfl) ?_
        replace hf := gd_s hf; obtain ⟨hin, hf⟩ := hf
        refine x_iald (n := 10) (f := v4 5) hx hb hK hW 3 rfl (okI_in hin) dX7_goNow_139 ?_
        refine lv_goto (tgt := 149) hx hb dX7_goNow_140 (by decide) ?_
        replace hf := gd_s hf; obtain ⟨hin, hf⟩ := hf
        refine x_iast (w' := (wX7 a ct (up1 v4 10 x1.toNatClampNeg (v4 5 x2.toNatClampNeg)) sg)) (n := 8) (f := v4 10) hx hb hK hW 7 rfl (okI_in hin) rfl dX7_goNow_149 (fun H locs hW => ?_)
        have ho := Option.some.inj hf
        subst ho
        exact x_retv hx hb hr hlocks hK hW rfl dX7_goNow_150
    clear hf
    have L4 : ∀ (n : Nat) (y4_6 : Int32) (g4 : St_), f_X7_goNow_L69 N x2 j3 n y4_6 g4 = some v4 → ∀ (H : Heap) (locs : List Loc) (ls : Array Slot), WW G A s.heap (wX7 a ct g4 sg) H locs → lv_has ls 7 [(0, .ref (a 0)), (1, .int x1), (2, .int x2), (5, .int j3), (6, .int y4_6)] → W p l e ({ frames := 1, cells := 0, slots := 0, locals := 25 } : Room) s m (List.toArray [.ref (a 0), .int x1, .int x2]) below meth c H locs 0 0 (MQ below (va_Qv (fun (_ : Unit) => True) (fun _ t => Af_ G ct (wX7 a ct o sg) A t) A) (List.toArray [.ref (a 0), .int x1, .int x2]) s 0 0 A) (F0 m 69 ls []) := by
      intro n
      induction n with
      | zero =>
        intro y4_6 g4 hf
        rw [f_X7_goNow_L69] at hf
        cases hf
      | succ n ih =>
        intro y4_6 g4 hf H locs ls hW hl
        rw [f_X7_goNow_L69] at hf
        refine lv_iload hx hb dX7_goNow_69 (lv_at hl 4 rfl) ?_
        refine lv_aload_n hx hb dX7_goNow_71 rfl (lv_at hl 0 rfl) ?_
        refine x_get (ci := 7) (v := .ref (a 6)) (C := RX7) (T := TX7) (N := 44) hx hb hts inX7 hown hK hW 0 rfl rfl 5 (by decide) fl19 (fun _ h9 => h9) rfl dX7_goNow_72 ?_
        refine lv_iload_n hx hb dX7_goNow_75 rfl (lv_at hl 2 rfl) ?_
        replace hf := gd_s hf; obtain ⟨hin, hf⟩ := hf
        refine x_iald (n := 10) (f := g4 6) hx hb hK hW 4 rfl (okI_in hin) dX7_goNow_76 ?_
        refine lv_icmp_ge (tgt := 114) hx hb dX7_goNow_77 (by decide) (fun hc => ?_) (fun hc => ?_)
        · replace hf := ifp hc hf
          have hj := Option.some.inj hf
          subst hj
          exact J4 _ _ _ hW (lv_sub hl [0, 1, 2] rfl)
        · replace hf := ifn hc hf
          refine lv_aload_n hx hb dX7_goNow_80 rfl (lv_at hl 0 rfl) ?_
          refine x_get (ci := 7) (v := .ref (a 8)) (C := RX7) (T := TX7) (N := 44) hx hb hts inX7 hown hK hW 0 rfl rfl 7 (by decide) fl25 (fun _ h9 => h9) rfl dX7_goNow_81 ?_
          refine lv_iload_n hx hb dX7_goNow_84 rfl (lv_at hl 2 rfl) ?_
          refine lv_dup2_11 hx hb dX7_goNow_85 rfl rfl ?_
          replace hf := gd_s hf; obtain ⟨hin, hf⟩ := hf
          refine x_iald (n := 10) (f := g4 8) hx hb hK hW 6 rfl (okI_in hin) dX7_goNow_86 ?_
          refine lv_aload_n hx hb dX7_goNow_87 rfl (lv_at hl 0 rfl) ?_
          refine x_get (ci := 7) (v := .ref (a 7)) (C := RX7) (T := TX7) (N := 44) hx hb hts inX7 hown hK hW 0 rfl rfl 6 (by decide) fl22 (fun _ h9 => h9) rfl dX7_goNow_88 ?_
          refine lv_iconst (v := (3 : Int32)) hx hb dX7_goNow_91 (by decide) ?_
          refine lv_iload_n hx hb dX7_goNow_92 rfl (lv_at hl 2 rfl) ?_
          refine lv_imul hx hb dX7_goNow_93 ?_
          refine lv_iload hx hb dX7_goNow_94 (lv_at hl 4 rfl) ?_
          refine lv_iadd hx hb dX7_goNow_96 ?_
          replace hf := gd_s hf; obtain ⟨hin, hf⟩ := hf
          refine x_iald (n := 30) (f := g4 7) hx hb hK hW 5 rfl (okI_in hin) dX7_goNow_97 ?_
          refine lv_iload hx hb dX7_goNow_98 (lv_at hl 3 rfl) ?_
          refine lv_iadd hx hb dX7_goNow_100 ?_
          refine lv_iconst (v := (1 : Int32)) hx hb dX7_goNow_101 (by decide) ?_
          refine lv_isub hx hb dX7_goNow_102 ?_
          refine lv_iload hx hb dX7_goNow_103 (lv_at hl 3 rfl) ?_
          replace hf := gd_s hf; obtain ⟨hnz, hf⟩ := hf
          refine lv_idiv hx hb dX7_goNow_105 (nzI_s hnz) ?_
          refine lv_iadd hx hb dX7_goNow_106 ?_
          replace hf := gd_s hf; obtain ⟨hin, hf⟩ := hf
          refine x_iast (w' := (wX7 a ct (up1 g4 8 x2.toNatClampNeg ((g4 8 x2.toNatClampNeg) + ((((g4 7 (((3 : Int32) * x2) + y4_6).toNatClampNeg) + j3) - (1 : Int32)) / j3))) sg)) (n := 10) (f := g4 8) hx hb hK hW 6 rfl (okI_in hin) rfl dX7_goNow_107 (fun H locs hW => ?_)
          refine lv_iinc (v := (y4_6 + (1 : Int32))) (lv' := [(6, .int (y4_6 + (1 : Int32))), (0, .ref (a 0)), (1, .int x1), (2, .int x2), (5, .int j3)]) hx hb dX7_goNow_108 hl (k := 4) rfl rfl (by decide) rfl (fun ls hl => ?_)
          refine lv_goto (tgt := 69) hx hb dX7_goNow_111 (by decide) ?_
          exact ih (y4_6 + (1 : Int32)) (up1 g4 8 x2.toNatClampNeg ((g4 8 x2.toNatClampNeg) + ((((g4 7 (((3 : Int32) * x2) + y4_6).toNatClampNeg) + j3) - (1 : Int32)) / j3))) hf _ _ _ hW (lv_sub hl [1, 2, 3, 4, 0] rfl)
    exact L4 N (0 : Int32) g hg _ _ _ hW (lv_sub hl [2, 3, 4, 1, 0] rfl)
  clear hf
  refine lv_if_eq (tgt := 58) hx hb dX7_goNow_27 (by decide) (fun hc => ?_) (fun hc => ?_)
  · have hf := ifp hc hg
    clear hg
    refine lv_aload_n hx hb dX7_goNow_58 rfl (lv_at hl 2 rfl) ?_
    refine x_get (ci := 7) (v := .ref (a 11)) (C := RX7) (T := TX7) (N := 44) hx hb hts inX7 hown hK hW 0 rfl rfl 10 (by decide) fl31 (fun _ h9 => h9) rfl dX7_goNow_59 ?_
    refine lv_iload_n hx hb dX7_goNow_62 rfl (lv_at hl 3 rfl) ?_
    replace hf := gd_s hf; obtain ⟨hin, hf⟩ := hf
    refine x_iald (n := 8) (f := g 11) hx hb hK hW 8 rfl (okI_in hin) dX7_goNow_63 ?_
    have hj := Option.some.inj hf
    subst hj
    exact J3 _ _ _ hW (lv_sub hl [2, 3, 4] rfl)
  · have hf := ifn hc hg
    clear hg
    refine lv_iload_n hx hb dX7_goNow_30 rfl (lv_at hl 1 rfl) ?_
    refine lv_if_eq (tgt := 49) hx hb dX7_goNow_31 (by decide) (fun hc => ?_) (fun hc => ?_)
    · replace hf := ifp hc hf
      refine lv_aload_n hx hb dX7_goNow_49 rfl (lv_at hl 2 rfl) ?_
      refine x_get (ci := 7) (v := .ref (a 12)) (C := RX7) (T := TX7) (N := 44) hx hb hts inX7 hown hK hW 0 rfl rfl 11 (by decide) fl34 (fun _ h9 => h9) rfl dX7_goNow_50 ?_
      refine lv_iload_n hx hb dX7_goNow_53 rfl (lv_at hl 3 rfl) ?_
      replace hf := gd_s hf; obtain ⟨hin, hf⟩ := hf
      refine x_iald (n := 8) (f := g 12) hx hb hK hW 9 rfl (okI_in hin) dX7_goNow_54 ?_
      refine lv_goto (tgt := 64) hx hb dX7_goNow_55 (by decide) ?_
      have hj := Option.some.inj hf
      subst hj
      exact J3 _ _ _ hW (lv_sub hl [2, 3, 4] rfl)
    · replace hf := ifn hc hf
      refine lv_aload_n hx hb dX7_goNow_34 rfl (lv_at hl 2 rfl) ?_
      refine x_get (ci := 7) (v := .ref (a 12)) (C := RX7) (T := TX7) (N := 44) hx hb hts inX7 hown hK hW 0 rfl rfl 11 (by decide) fl34 (fun _ h9 => h9) rfl dX7_goNow_35 ?_
      refine lv_iload_n hx hb dX7_goNow_38 rfl (lv_at hl 3 rfl) ?_
      replace hf := gd_s hf; obtain ⟨hin, hf⟩ := hf
      refine x_iald (n := 8) (f := g 12) hx hb hK hW 9 rfl (okI_in hin) dX7_goNow_39 ?_
      refine lv_aload_n hx hb dX7_goNow_40 rfl (lv_at hl 2 rfl) ?_
      refine x_get (ci := 7) (v := .ref (a 11)) (C := RX7) (T := TX7) (N := 44) hx hb hts inX7 hown hK hW 0 rfl rfl 10 (by decide) fl31 (fun _ h9 => h9) rfl dX7_goNow_41 ?_
      refine lv_iload_n hx hb dX7_goNow_44 rfl (lv_at hl 3 rfl) ?_
      replace hf := gd_s hf; obtain ⟨hin, hf⟩ := hf
      refine x_iald (n := 8) (f := g 11) hx hb hK hW 8 rfl (okI_in hin) dX7_goNow_45 ?_
      refine lv_icmp_le (tgt := 58) hx hb dX7_goNow_46 (by decide) (fun hc => ?_) (fun hc => ?_)
      · replace hf := ifp hc hf
        refine lv_aload_n hx hb dX7_goNow_58 rfl (lv_at hl 2 rfl) ?_
        refine x_get (ci := 7) (v := .ref (a 11)) (C := RX7) (T := TX7) (N := 44) hx hb hts inX7 hown hK hW 0 rfl rfl 10 (by decide) fl31 (fun _ h9 => h9) rfl dX7_goNow_59 ?_
        refine lv_iload_n hx hb dX7_goNow_62 rfl (lv_at hl 3 rfl) ?_
        replace hf := gd_s hf; obtain ⟨hin, hf⟩ := hf
        refine x_iald (n := 8) (f := g 11) hx hb hK hW 8 rfl (okI_in hin) dX7_goNow_63 ?_
        have hj := Option.some.inj hf
        subst hj
        exact J3 _ _ _ hW (lv_sub hl [2, 3, 4] rfl)
      · replace hf := ifn hc hf
        refine lv_aload_n hx hb dX7_goNow_49 rfl (lv_at hl 2 rfl) ?_
        refine x_get (ci := 7) (v := .ref (a 12)) (C := RX7) (T := TX7) (N := 44) hx hb hts inX7 hown hK hW 0 rfl rfl 11 (by decide) fl34 (fun _ h9 => h9) rfl dX7_goNow_50 ?_
        refine lv_iload_n hx hb dX7_goNow_53 rfl (lv_at hl 3 rfl) ?_
        replace hf := gd_s hf; obtain ⟨hin, hf⟩ := hf
        refine x_iald (n := 8) (f := g 12) hx hb hK hW 9 rfl (okI_in hin) dX7_goNow_54 ?_
        refine lv_goto (tgt := 64) hx hb dX7_goNow_55 (by decide) ?_
        have hj := Option.some.inj hf
        subst hj
        exact J3 _ _ _ hW (lv_sub hl [2, 3, 4] rfl)
set_option maxHeartbeats 4000000 in
set_option maxRecDepth 100000 in
theorem c_X7_go (l : Launch) (N : Nat) (kd : (Nat → Nat) × (Nat → Nat)) (G : va_G) (ct : Nat → ClassId) (a : Nat → Nat) (g : St_) (sg : Int64) (x1 : Int32) (x2 : Int32) (o : (Int32 × St_)) (hf : f_X7_go N g x1 x2 = some o) : CtI l yX7_go wsX7_go ({ frames := 3, cells := 0, slots := 0, locals := 69 }) kd G ct [.ref (a 0), .int x1, .int x2] (wX7 a ct g sg) o.1 (wX7 a ct o.2 sg) := by
  intro sz
  refine Met.ofW (cc := cX7_go) (maxL := 3) (ret := (some .int)) (by decide) rfl ?_
  intro p e s m args below meth c s₁ B hml hv
  obtain ⟨rfl, hsz, hP, hK, hD0, hE⟩ := hv
  have hx := B.exec
  have hb := B.bytes
  have hr := B.returns
  have hts := atoms_spec (ws := wsX7_go) B.pre
  have hown : s.vm.findClass RX7 = some m.cls := findClass_of_methodNamed B.named
  have hlocks := B.notSynchronized
  have inX7 : ∀ w ∈ wsX70, w ∈ wsX7_go := by decide +kernel
  have fl28 := hts (.fieldLink RX7 28 "FittingStridesModel" "at" "[I") (by decide +kernel)
  have fl221 := hts (.constant RX7 221 (-1000000001)) (by decide +kernel)
  have fl243 := hts (.constant RX7 243 (-1000000003)) (by decide +kernel)
  subst hsz
  have hD := hD0.self (sz := s.heap.size)
  generalize hAe : va_A (wX7 a ct g sg) s.heap.size = A at hD hE ⊢
  have hA : ∀ q : Nat, s.heap.size ≤ q → A q := fun q h => by rw [← hAe]; exact Or.inr h
  have hW : WW G A s.heap (wX7 a ct g sg) s.heap [] := ⟨hP, hD, va_S.rf⟩
  have hl := lv_entry ([.ref (a 0), .int x1, .int x2]) (n := 3) (Nat.le_of_ble_eq_true rfl)
  rw [lg_entry_eq]
  generalize (lg_sl ([.ref (a 0), .int x1, .int x2]) ++ List.replicate (3 - (lg_sl ([.ref (a 0), .int x1, .int x2])).length) Slot.unset).toArray = ls at hl ⊢
  have hl : lv_has ls 3 [(0, .ref (a 0)), (1, .int x1), (2, .int x2)] := hl
  unfold f_X7_go at hf
  show W p l e ({ frames := 3, cells := 0, slots := 0, locals := 69 } : Room) s m (List.toArray [.ref (a 0), .int x1, .int x2]) below meth c s.heap [] 0 0 (MQ below (va_Qi (fun r (_ : Unit) => r = o.1) (fun _ t => Af_ G ct (wX7 a ct o.2 sg) A t) A) (List.toArray [.ref (a 0), .int x1, .int x2]) s 0 0 A) (F0 m 0 ls [])
  refine lv_aload_n hx hb dX7_go_0 rfl (lv_at hl 0 rfl) ?_
  refine lv_iload_n hx hb dX7_go_1 rfl (lv_at hl 1 rfl) ?_
  replace hf := bs_ hf; obtain ⟨r1, hcl, hf⟩ := hf
  refine x_callW_i (w' := (wX7 a ct g sg)) (As := [.int x1]) (rest := []) (ci := 7) ⟨hx, hb, hml, hown, hts⟩ (c_X7_isPerson l N kd G ct a g sg x1 _ hcl) (cwV 1 hts gX7_go_X7_isPerson rfl rfl rfl (by decide +kernel) ⟨Nat.le_of_ble_eq_true rfl, Nat.le_of_ble_eq_true rfl⟩) hK hE hA hW rfl rfl 0 rfl rfl rfl rfl hl.1 rfl (lv_room (Nat.le_of_ble_eq_true rfl)) dX7_go_2 (fun H locs hW => ?_)
  refine lv_if_eq (tgt := 16) hx hb dX7_go_5 (by decide) (fun hc => ?_) (fun hc => ?_)
  · replace hf := ifp hc hf
    refine lv_ldc (v := (-1000000001 : Int32)) hx hb hown fl221 dX7_go_16 ?_
    have ho := Option.some.inj hf
    subst ho
    exact x_reti (sz := 0) (w0 := []) (A1 := A) hx hb hr hlocks hK hW rfl rfl dX7_go_18
  · replace hf := ifn hc hf
    refine lv_aload_n hx hb dX7_go_8 rfl (lv_at hl 0 rfl) ?_
    refine lv_iload_n hx hb dX7_go_9 rfl (lv_at hl 2 rfl) ?_
    replace hf := bs_ hf; obtain ⟨r2, hcl, hf⟩ := hf
    refine x_callW_i (w' := (wX7 a ct g sg)) (As := [.int x2]) (rest := []) (ci := 7) ⟨hx, hb, hml, hown, hts⟩ (c_X7_isStair l N kd G ct a g sg x2 _ hcl) (cwV 1 hts gX7_go_X7_isStair rfl rfl rfl (by decide +kernel) ⟨Nat.le_of_ble_eq_true rfl, Nat.le_of_ble_eq_true rfl⟩) hK hE hA hW rfl rfl 0 rfl rfl rfl rfl hl.1 rfl (lv_room (Nat.le_of_ble_eq_true rfl)) dX7_go_10 (fun H locs hW => ?_)
    refine lv_if_ne (tgt := 19) hx hb dX7_go_13 (by decide) (fun hc => ?_) (fun hc => ?_)
    · replace hf := ifn hc hf
      refine lv_aload_n hx hb dX7_go_19 rfl (lv_at hl 0 rfl) ?_
      refine lv_iload_n hx hb dX7_go_20 rfl (lv_at hl 1 rfl) ?_
      refine lv_iload_n hx hb dX7_go_21 rfl (lv_at hl 2 rfl) ?_
      replace hf := bs_ hf; obtain ⟨r3, hcl, hf⟩ := hf
      refine x_callW_i (w' := (wX7 a ct g sg)) (As := [.int x1, .int x2]) (rest := []) (ci := 7) ⟨hx, hb, hml, hown, hts⟩ (c_X7_canGo l N kd G ct a g sg x1 x2 _ hcl) (cwV 2 hts gX7_go_X7_canGo rfl rfl rfl (by decide +kernel) ⟨Nat.le_of_ble_eq_true rfl, Nat.le_of_ble_eq_true rfl⟩) hK hE hA hW rfl rfl 0 rfl rfl rfl rfl hl.1 rfl (lv_room (Nat.le_of_ble_eq_true rfl)) dX7_go_22 (fun H locs hW => ?_)
      refine lv_if_ne (tgt := 31) hx hb dX7_go_25 (by decide) (fun hc => ?_) (fun hc => ?_)
      · replace hf := ifn hc hf
        refine lv_aload_n hx hb dX7_go_31 rfl (lv_at hl 0 rfl) ?_
        refine lv_iload_n hx hb dX7_go_32 rfl (lv_at hl 1 rfl) ?_
        refine lv_iload_n hx hb dX7_go_33 rfl (lv_at hl 2 rfl) ?_
        replace hf := bs_ hf; obtain ⟨r4, hcl, hf⟩ := hf
        refine x_callW_v (w' := (wX7 a ct r4 sg)) (As := [.int x1, .int x2]) (rest := []) (ci := 7) ⟨hx, hb, hml, hown, hts⟩ (c_X7_goNow l N kd G ct a g sg x1 x2 _ hcl) (cwV 2 hts gX7_go_X7_goNow rfl rfl rfl (by decide +kernel) ⟨Nat.le_of_ble_eq_true rfl, Nat.le_of_ble_eq_true rfl⟩) hK hE hA hW rfl rfl 0 rfl rfl rfl rfl hl.1 rfl (lv_room (Nat.le_of_ble_eq_true rfl)) dX7_go_34 (fun H locs hW => ?_)
        refine lv_aload_n hx hb dX7_go_37 rfl (lv_at hl 0 rfl) ?_
        refine x_get (ci := 7) (v := .ref (a 10)) (C := RX7) (T := TX7) (N := 44) hx hb hts inX7 hown hK hW 0 rfl rfl 9 (by decide) fl28 (fun _ h9 => h9) rfl dX7_go_38 ?_
        refine lv_iload_n hx hb dX7_go_41 rfl (lv_at hl 1 rfl) ?_
        replace hf := gd_s hf; obtain ⟨hin, hf⟩ := hf
        refine x_iald (n := 8) (f := r4 10) hx hb hK hW 7 rfl (okI_in hin) dX7_go_42 ?_
        have ho := Option.some.inj hf
        subst ho
        exact x_reti (sz := 0) (w0 := []) (A1 := A) hx hb hr hlocks hK hW rfl rfl dX7_go_43
      · replace hf := ifp hc hf
        refine lv_ldc (v := (-1000000003 : Int32)) hx hb hown fl243 dX7_go_28 ?_
        have ho := Option.some.inj hf
        subst ho
        exact x_reti (sz := 0) (w0 := []) (A1 := A) hx hb hr hlocks hK hW rfl rfl dX7_go_30
    · replace hf := ifp hc hf
      refine lv_ldc (v := (-1000000001 : Int32)) hx hb hown fl221 dX7_go_16 ?_
      have ho := Option.some.inj hf
      subst ho
      exact x_reti (sz := 0) (w0 := []) (A1 := A) hx hb hr hlocks hK hW rfl rfl dX7_go_18
set_option maxHeartbeats 4000000 in
set_option maxRecDepth 100000 in
theorem c_X7_build (l : Launch) (N : Nat) (kd : (Nat → Nat) × (Nat → Nat)) (G : va_G) (ct : Nat → ClassId) (a : Nat → Nat) (g : St_) (sg : Int64) (x1 : Int32) (x2 : Int32) (x3 : Int32) (o : (Int32 × St_)) (hf : f_X7_build N g x1 x2 x3 = some o) : CtI l yX7_build wsX7_build ({ frames := 2, cells := 0, slots := 0, locals := 46 }) kd G ct [.ref (a 0), .int x1, .int x2, .int x3] (wX7 a ct g sg) o.1 (wX7 a ct o.2 sg) := by
  intro sz
  refine Met.ofW (cc := cX7_build) (maxL := 5) (ret := (some .int)) (by decide) rfl ?_
  intro p e s m args below meth c s₁ B hml hv
  obtain ⟨rfl, hsz, hP, hK, hD0, hE⟩ := hv
  have hx := B.exec
  have hb := B.bytes
  have hr := B.returns
  have hts := atoms_spec (ws := wsX7_build) B.pre
  have hown : s.vm.findClass RX7 = some m.cls := findClass_of_methodNamed B.named
  have hlocks := B.notSynchronized
  have inX7 : ∀ w ∈ wsX70, w ∈ wsX7_build := by decide +kernel
  have fl19 := hts (.fieldLink RX7 19 "FittingStridesModel" "parts" "[I") (by decide +kernel)
  have fl22 := hts (.fieldLink RX7 22 "FittingStridesModel" "steps" "[I") (by decide +kernel)
  have fl111 := hts (.constant RX7 111 (-1000000002)) (by decide +kernel)
  have fl221 := hts (.constant RX7 221 (-1000000001)) (by decide +kernel)
  have fl248 := hts (.constantLong RX7 248 (720)) (by decide +kernel)
  subst hsz
  have hD := hD0.self (sz := s.heap.size)
  generalize hAe : va_A (wX7 a ct g sg) s.heap.size = A at hD hE ⊢
  have hA : ∀ q : Nat, s.heap.size ≤ q → A q := fun q h => by rw [← hAe]; exact Or.inr h
  have hW : WW G A s.heap (wX7 a ct g sg) s.heap [] := ⟨hP, hD, va_S.rf⟩
  have hl := lv_entry ([.ref (a 0), .int x1, .int x2, .int x3]) (n := 5) (Nat.le_of_ble_eq_true rfl)
  rw [lg_entry_eq]
  generalize (lg_sl ([.ref (a 0), .int x1, .int x2, .int x3]) ++ List.replicate (5 - (lg_sl ([.ref (a 0), .int x1, .int x2, .int x3])).length) Slot.unset).toArray = ls at hl ⊢
  have hl : lv_has ls 5 [(0, .ref (a 0)), (1, .int x1), (2, .int x2), (3, .int x3)] := hl
  unfold f_X7_build at hf
  show W p l e ({ frames := 2, cells := 0, slots := 0, locals := 46 } : Room) s m (List.toArray [.ref (a 0), .int x1, .int x2, .int x3]) below meth c s.heap [] 0 0 (MQ below (va_Qi (fun r (_ : Unit) => r = o.1) (fun _ t => Af_ G ct (wX7 a ct o.2 sg) A t) A) (List.toArray [.ref (a 0), .int x1, .int x2, .int x3]) s 0 0 A) (F0 m 0 ls [])
  refine lv_aload_n hx hb dX7_build_0 rfl (lv_at hl 0 rfl) ?_
  refine lv_iload_n hx hb dX7_build_1 rfl (lv_at hl 1 rfl) ?_
  replace hf := bs_ hf; obtain ⟨r1, hcl, hf⟩ := hf
  refine x_callW_i (w' := (wX7 a ct g sg)) (As := [.int x1]) (rest := []) (ci := 7) ⟨hx, hb, hml, hown, hts⟩ (c_X7_isStair l N kd G ct a g sg x1 _ hcl) (cwV 1 hts gX7_build_X7_isStair rfl rfl rfl (by decide +kernel) ⟨Nat.le_of_ble_eq_true rfl, Nat.le_of_ble_eq_true rfl⟩) hK hE hA hW rfl rfl 0 rfl rfl rfl rfl hl.1 rfl (lv_room (Nat.le_of_ble_eq_true rfl)) dX7_build_2 (fun H locs hW => ?_)
  refine lv_if_eq (tgt := 26) hx hb dX7_build_5 (by decide) (fun hc => ?_) (fun hc => ?_)
  · replace hf := ifp hc hf
    refine lv_ldc (v := (-1000000001 : Int32)) hx hb hown fl221 dX7_build_26 ?_
    have ho := Option.some.inj hf
    subst ho
    exact x_reti (sz := 0) (w0 := []) (A1 := A) hx hb hr hlocks hK hW rfl rfl dX7_build_28
  · replace hf := ifn hc hf
    refine lv_iload_n hx hb dX7_build_8 rfl (lv_at hl 2 rfl) ?_
    refine lv_i2l hx hb dX7_build_9 rfl ?_
    refine lv_lconst (v := (0 : Int64)) hx hb dX7_build_10 (by decide) ?_
    refine lv_aload_n hx hb dX7_build_11 rfl (lv_at hl 0 rfl) ?_
    refine x_get (ci := 7) (v := .ref (a 6)) (C := RX7) (T := TX7) (N := 44) hx hb hts inX7 hown hK hW 0 rfl rfl 5 (by decide) fl19 (fun _ h9 => h9) rfl dX7_build_12 ?_
    refine lv_iload_n hx hb dX7_build_15 rfl (lv_at hl 1 rfl) ?_
    replace hf := gd_s hf; obtain ⟨hin, hf⟩ := hf
    refine x_iald (n := 10) (f := g 6) hx hb hK hW 4 rfl (okI_in hin) dX7_build_16 ?_
    refine lv_iconst (v := (1 : Int32)) hx hb dX7_build_17 (by decide) ?_
    refine lv_isub hx hb dX7_build_18 ?_
    refine lv_i2l hx hb dX7_build_19 rfl ?_
    replace hf := bs_ hf; obtain ⟨r2, hcl, hf⟩ := hf
    refine x_callS_i (As := [.long x2.toInt64, .long (0 : Int64), .long ((g 6 x1.toNatClampNeg) - (1 : Int32)).toInt64]) (rest := []) ⟨hx, hb, hml, hown, hts⟩ (c_X7_in l N kd G ct x2.toInt64 (0 : Int64) (((g 6 x1.toNatClampNeg) - (1 : Int32)).toInt64) _ hcl) (va_cwS 3 hts gX7_build_X7_in rfl rfl rfl (by decide +kernel) ⟨Nat.le_of_ble_eq_true rfl, Nat.le_of_ble_eq_true rfl⟩) hK hE hA hW rfl hl.1 rfl (lv_room (Nat.le_of_ble_eq_true rfl)) dX7_build_20 (fun H locs hW => ?_)
    refine lv_if_ne (tgt := 29) hx hb dX7_build_23 (by decide) (fun hc => ?_) (fun hc => ?_)
    · replace hf := ifn hc hf
      refine lv_iload_n hx hb dX7_build_29 rfl (lv_at hl 3 rfl) ?_
      refine lv_i2l hx hb dX7_build_30 rfl ?_
      refine lv_lconst (v := (1 : Int64)) hx hb dX7_build_31 (by decide) ?_
      refine lv_ldc2 (v := (720 : Int64)) hx hb hown fl248 dX7_build_32 ?_
      replace hf := bs_ hf; obtain ⟨r3, hcl, hf⟩ := hf
      refine x_callS_i (As := [.long x3.toInt64, .long (1 : Int64), .long (720 : Int64)]) (rest := []) ⟨hx, hb, hml, hown, hts⟩ (c_X7_in l N kd G ct x3.toInt64 (1 : Int64) (720 : Int64) _ hcl) (va_cwS 3 hts gX7_build_X7_in rfl rfl rfl (by decide +kernel) ⟨Nat.le_of_ble_eq_true rfl, Nat.le_of_ble_eq_true rfl⟩) hK hE hA hW rfl hl.1 rfl (lv_room (Nat.le_of_ble_eq_true rfl)) dX7_build_35 (fun H locs hW => ?_)
      refine lv_if_ne (tgt := 44) hx hb dX7_build_38 (by decide) (fun hc => ?_) (fun hc => ?_)
      · replace hf := ifn hc hf
        refine lv_aload_n hx hb dX7_build_44 rfl (lv_at hl 0 rfl) ?_
        refine x_get (ci := 7) (v := .ref (a 7)) (C := RX7) (T := TX7) (N := 44) hx hb hts inX7 hown hK hW 0 rfl rfl 6 (by decide) fl22 (fun _ h9 => h9) rfl dX7_build_45 ?_
        refine lv_iconst (v := (3 : Int32)) hx hb dX7_build_48 (by decide) ?_
        refine lv_iload_n hx hb dX7_build_49 rfl (lv_at hl 1 rfl) ?_
        refine lv_imul hx hb dX7_build_50 ?_
        refine lv_iload_n hx hb dX7_build_51 rfl (lv_at hl 2 rfl) ?_
        refine lv_iadd hx hb dX7_build_52 ?_
        replace hf := gd_s hf; obtain ⟨hin, hf⟩ := hf
        refine x_iald (n := 30) (f := g 7) hx hb hK hW 5 rfl (okI_in hin) dX7_build_53 ?_
        refine lv_istore (lv' := [(4, .int (g 7 (((3 : Int32) * x1) + x2).toNatClampNeg)), (0, .ref (a 0)), (1, .int x1), (2, .int x2), (3, .int x3)]) hx hb dX7_build_54 hl (by decide) rfl (fun ls hl => ?_)
        refine lv_aload_n hx hb dX7_build_56 rfl (lv_at hl 1 rfl) ?_
        refine x_get (ci := 7) (v := .ref (a 7)) (C := RX7) (T := TX7) (N := 44) hx hb hts inX7 hown hK hW 0 rfl rfl 6 (by decide) fl22 (fun _ h9 => h9) rfl dX7_build_57 ?_
        refine lv_iconst (v := (3 : Int32)) hx hb dX7_build_60 (by decide) ?_
        refine lv_iload_n hx hb dX7_build_61 rfl (lv_at hl 2 rfl) ?_
        refine lv_imul hx hb dX7_build_62 ?_
        refine lv_iload_n hx hb dX7_build_63 rfl (lv_at hl 3 rfl) ?_
        refine lv_iadd hx hb dX7_build_64 ?_
        refine lv_iload_n hx hb dX7_build_65 rfl (lv_at hl 4 rfl) ?_
        replace hf := gd_s hf; obtain ⟨hin, hf⟩ := hf
        refine x_iast (w' := (wX7 a ct (up1 g 7 (((3 : Int32) * x1) + x2).toNatClampNeg x3) sg)) (n := 30) (f := g 7) hx hb hK hW 5 rfl (okI_in hin) rfl dX7_build_66 (fun H locs hW => ?_)
        refine lv_iload hx hb dX7_build_67 (lv_at hl 0 rfl) ?_
        have ho := Option.some.inj hf
        subst ho
        exact x_reti (sz := 0) (w0 := []) (A1 := A) hx hb hr hlocks hK hW rfl rfl dX7_build_69
      · replace hf := ifp hc hf
        refine lv_ldc (v := (-1000000002 : Int32)) hx hb hown fl111 dX7_build_41 ?_
        have ho := Option.some.inj hf
        subst ho
        exact x_reti (sz := 0) (w0 := []) (A1 := A) hx hb hr hlocks hK hW rfl rfl dX7_build_43
    · replace hf := ifp hc hf
      refine lv_ldc (v := (-1000000001 : Int32)) hx hb hown fl221 dX7_build_26 ?_
      have ho := Option.some.inj hf
      subst ho
      exact x_reti (sz := 0) (w0 := []) (A1 := A) hx hb hr hlocks hK hW rfl rfl dX7_build_28
set_option maxHeartbeats 4000000 in
set_option maxRecDepth 100000 in
theorem c_X7_law (l : Launch) (N : Nat) (kd : (Nat → Nat) × (Nat → Nat)) (G : va_G) (ct : Nat → ClassId) (a : Nat → Nat) (g : St_) (sg : Int64) (x1 : Int32) (o : (Int32 × St_)) (hf : f_X7_law N g x1 = some o) : CtI l yX7_law wsX7_law ({ frames := 1, cells := 0, slots := 0, locals := 25 }) kd G ct [.ref (a 0), .int x1] (wX7 a ct g sg) o.1 (wX7 a ct o.2 sg) := by
  intro sz
  refine Met.ofW (cc := cX7_law) (maxL := 3) (ret := (some .int)) (by decide) rfl ?_
  intro p e s m args below meth c s₁ B hml hv
  obtain ⟨rfl, hsz, hP, hK, hD0, hE⟩ := hv
  have hx := B.exec
  have hb := B.bytes
  have hr := B.returns
  have hts := atoms_spec (ws := wsX7_law) B.pre
  have hown : s.vm.findClass RX7 = some m.cls := findClass_of_methodNamed B.named
  have hlocks := B.notSynchronized
  have inX7 : ∀ w ∈ wsX70, w ∈ wsX7_law := by decide +kernel
  have fl111 := hts (.constant RX7 111 (-1000000002)) (by decide +kernel)
  have fl204 := hts (.fieldLink RX7 204 "FittingStridesModel" "law" "I") (by decide +kernel)
  subst hsz
  have hD := hD0.self (sz := s.heap.size)
  generalize hAe : va_A (wX7 a ct g sg) s.heap.size = A at hD hE ⊢
  have hA : ∀ q : Nat, s.heap.size ≤ q → A q := fun q h => by rw [← hAe]; exact Or.inr h
  have hW : WW G A s.heap (wX7 a ct g sg) s.heap [] := ⟨hP, hD, va_S.rf⟩
  have hl := lv_entry ([.ref (a 0), .int x1]) (n := 3) (Nat.le_of_ble_eq_true rfl)
  rw [lg_entry_eq]
  generalize (lg_sl ([.ref (a 0), .int x1]) ++ List.replicate (3 - (lg_sl ([.ref (a 0), .int x1])).length) Slot.unset).toArray = ls at hl ⊢
  have hl : lv_has ls 3 [(0, .ref (a 0)), (1, .int x1)] := hl
  unfold f_X7_law at hf
  show W p l e ({ frames := 1, cells := 0, slots := 0, locals := 25 } : Room) s m (List.toArray [.ref (a 0), .int x1]) below meth c s.heap [] 0 0 (MQ below (va_Qi (fun r (_ : Unit) => r = o.1) (fun _ t => Af_ G ct (wX7 a ct o.2 sg) A t) A) (List.toArray [.ref (a 0), .int x1]) s 0 0 A) (F0 m 0 ls [])
  refine lv_iload_n hx hb dX7_law_0 rfl (lv_at hl 1 rfl) ?_
  refine lv_i2l hx hb dX7_law_1 rfl ?_
  refine lv_lconst (v := (0 : Int64)) hx hb dX7_law_2 (by decide) ?_
  refine lv_lconst (v := (1 : Int64)) hx hb dX7_law_3 (by decide) ?_
  replace hf := bs_ hf; obtain ⟨r1, hcl, hf⟩ := hf
  refine x_callS_i (As := [.long x1.toInt64, .long (0 : Int64), .long (1 : Int64)]) (rest := []) ⟨hx, hb, hml, hown, hts⟩ (c_X7_in l N kd G ct x1.toInt64 (0 : Int64) (1 : Int64) _ hcl) (va_cwS 3 hts gX7_law_X7_in rfl rfl rfl (by decide +kernel) ⟨Nat.le_of_ble_eq_true rfl, Nat.le_of_ble_eq_true rfl⟩) hK hE hA hW rfl hl.1 rfl (lv_room (Nat.le_of_ble_eq_true rfl)) dX7_law_4 (fun H locs hW => ?_)
  refine lv_if_ne (tgt := 13) hx hb dX7_law_7 (by decide) (fun hc => ?_) (fun hc => ?_)
  · replace hf := ifn hc hf
    refine lv_aload_n hx hb dX7_law_13 rfl (lv_at hl 0 rfl) ?_
    refine x_get (ci := 7) (v := .int (g 13 0)) (C := RX7) (T := TX7) (N := 44) hx hb hts inX7 hown hK hW 0 rfl rfl 12 (by decide) fl204 (fun _ h9 => h9) rfl dX7_law_14 ?_
    refine lv_istore_n (lv' := [(2, .int (g 13 0)), (0, .ref (a 0)), (1, .int x1)]) hx hb dX7_law_17 rfl hl (by decide) rfl (fun ls hl => ?_)
    refine lv_aload_n hx hb dX7_law_18 rfl (lv_at hl 1 rfl) ?_
    refine lv_iload_n hx hb dX7_law_19 rfl (lv_at hl 2 rfl) ?_
    refine x_put (w' := (wX7 a ct (up1 g 13 0 x1) sg)) (ci := 7) (v := .int x1) (ty := .int) (C := RX7) (T := TX7) (N := 44) hx hb hts inX7 tyX7 tyX7_ok nmX7 hown hK hW 0 rfl rfl 12 (by decide) fl204 (fun _ h9 => h9) rfl (by decide +kernel) rfl rfl (Nat.le_of_ble_eq_true rfl) rfl dX7_law_20 (fun H locs hW => ?_)
    refine lv_iload_n hx hb dX7_law_23 rfl (lv_at hl 0 rfl) ?_
    have ho := Option.some.inj hf
    subst ho
    exact x_reti (sz := 0) (w0 := []) (A1 := A) hx hb hr hlocks hK hW rfl rfl dX7_law_24
  · replace hf := ifp hc hf
    refine lv_ldc (v := (-1000000002 : Int32)) hx hb hown fl111 dX7_law_10 ?_
    have ho := Option.some.inj hf
    subst ho
    exact x_reti (sz := 0) (w0 := []) (A1 := A) hx hb hr hlocks hK hW rfl rfl dX7_law_12
set_option maxHeartbeats 4000000 in
set_option maxRecDepth 100000 in
theorem c_X7_draw (l : Launch) (N : Nat) (kd : (Nat → Nat) × (Nat → Nat)) (G : va_G) (ct : Nat → ClassId) (a : Nat → Nat) (g : St_) (sg : Int64) (x1 : Int32) (o : (Int32 × St_)) (hf : f_X7_draw N g x1 = some o) : CtI l yX7_draw wsX7_draw ({ frames := 0, cells := 0, slots := 0, locals := 0 }) kd G ct [.ref (a 0), .int x1] (wX7 a ct g sg) o.1 (wX7 a ct o.2 sg) := by
  intro sz
  refine Met.ofW (cc := cX7_draw) (maxL := 2) (ret := (some .int)) (by decide) rfl ?_
  intro p e s m args below meth c s₁ B hml hv
  obtain ⟨rfl, hsz, hP, hK, hD0, hE⟩ := hv
  have hx := B.exec
  have hb := B.bytes
  have hr := B.returns
  have hts := atoms_spec (ws := wsX7_draw) B.pre
  have hown : s.vm.findClass RX7 = some m.cls := findClass_of_methodNamed B.named
  have hlocks := B.notSynchronized
  have inX7 : ∀ w ∈ wsX70, w ∈ wsX7_draw := by decide +kernel
  have fl250 := hts (.fieldLink RX7 250 "FittingStridesModel" "seed" "I") (by decide +kernel)
  have fl253 := hts (.constantLong RX7 253 (1103515245)) (by decide +kernel)
  have fl255 := hts (.constantLong RX7 255 (12345)) (by decide +kernel)
  have fl257 := hts (.constantLong RX7 257 (2147483648)) (by decide +kernel)
  have fl259 := hts (.constant RX7 259 (65536)) (by decide +kernel)
  subst hsz
  have hD := hD0.self (sz := s.heap.size)
  generalize hAe : va_A (wX7 a ct g sg) s.heap.size = A at hD hE ⊢
  have hA : ∀ q : Nat, s.heap.size ≤ q → A q := fun q h => by rw [← hAe]; exact Or.inr h
  have hW : WW G A s.heap (wX7 a ct g sg) s.heap [] := ⟨hP, hD, va_S.rf⟩
  have hl := lv_entry ([.ref (a 0), .int x1]) (n := 2) (Nat.le_of_ble_eq_true rfl)
  rw [lg_entry_eq]
  generalize (lg_sl ([.ref (a 0), .int x1]) ++ List.replicate (2 - (lg_sl ([.ref (a 0), .int x1])).length) Slot.unset).toArray = ls at hl ⊢
  have hl : lv_has ls 2 [(0, .ref (a 0)), (1, .int x1)] := hl
  unfold f_X7_draw at hf
  show W p l e ({ frames := 0, cells := 0, slots := 0, locals := 0 } : Room) s m (List.toArray [.ref (a 0), .int x1]) below meth c s.heap [] 0 0 (MQ below (va_Qi (fun r (_ : Unit) => r = o.1) (fun _ t => Af_ G ct (wX7 a ct o.2 sg) A t) A) (List.toArray [.ref (a 0), .int x1]) s 0 0 A) (F0 m 0 ls [])
  refine lv_aload_n hx hb dX7_draw_0 rfl (lv_at hl 0 rfl) ?_
  refine lv_aload_n hx hb dX7_draw_1 rfl (lv_at hl 0 rfl) ?_
  refine x_get (ci := 7) (v := .int (g 14 0)) (C := RX7) (T := TX7) (N := 44) hx hb hts inX7 hown hK hW 0 rfl rfl 13 (by decide) fl250 (fun _ h9 => h9) rfl dX7_draw_2 ?_
  refine lv_i2l hx hb dX7_draw_5 rfl ?_
  refine lv_ldc2 (v := (1103515245 : Int64)) hx hb hown fl253 dX7_draw_6 ?_
  refine lv_lmul hx hb dX7_draw_9 ?_
  refine lv_ldc2 (v := (12345 : Int64)) hx hb hown fl255 dX7_draw_10 ?_
  refine lv_ladd hx hb dX7_draw_13 ?_
  refine lv_ldc2 (v := (2147483648 : Int64)) hx hb hown fl257 dX7_draw_14 ?_
  replace hf := gd_s hf; obtain ⟨hnz, hf⟩ := hf
  refine lv_lrem hx hb dX7_draw_17 (nzL_s hnz) ?_
  refine lv_l2i hx hb dX7_draw_18 rfl ?_
  refine x_put (w' := (wX7 a ct (up1 g 14 0 (((((g 14 0).toInt64 * (1103515245 : Int64)) + (12345 : Int64)) - (((g 14 0).toInt64 * (1103515245 : Int64)) + (12345 : Int64)) / (2147483648 : Int64) * (2147483648 : Int64)).toInt32)) sg)) (ci := 7) (v := .int ((((g 14 0).toInt64 * (1103515245 : Int64)) + (12345 : Int64)) - (((g 14 0).toInt64 * (1103515245 : Int64)) + (12345 : Int64)) / (2147483648 : Int64) * (2147483648 : Int64)).toInt32) (ty := .int) (C := RX7) (T := TX7) (N := 44) hx hb hts inX7 tyX7 tyX7_ok nmX7 hown hK hW 0 rfl rfl 13 (by decide) fl250 (fun _ h9 => h9) rfl (by decide +kernel) rfl rfl (Nat.le_of_ble_eq_true rfl) rfl dX7_draw_19 (fun H locs hW => ?_)
  refine lv_aload_n hx hb dX7_draw_22 rfl (lv_at hl 0 rfl) ?_
  refine x_get (ci := 7) (v := .int (((((g 14 0).toInt64 * (1103515245 : Int64)) + (12345 : Int64)) - (((g 14 0).toInt64 * (1103515245 : Int64)) + (12345 : Int64)) / (2147483648 : Int64) * (2147483648 : Int64)).toInt32)) (C := RX7) (T := TX7) (N := 44) hx hb hts inX7 hown hK hW 0 rfl rfl 13 (by decide) fl250 (fun _ h9 => h9) rfl dX7_draw_23 ?_
  refine lv_ldcw (v := (65536 : Int32)) hx hb hown fl259 dX7_draw_26 ?_
  replace hf := gd_s hf; obtain ⟨hnz, hf⟩ := hf
  refine lv_idiv hx hb dX7_draw_29 (nzI_s hnz) ?_
  refine lv_iload_n hx hb dX7_draw_30 rfl (lv_at hl 1 rfl) ?_
  replace hf := gd_s hf; obtain ⟨hnz, hf⟩ := hf
  refine lv_irem hx hb dX7_draw_31 (nzI_s hnz) ?_
  have ho := Option.some.inj hf
  subst ho
  exact x_reti (sz := 0) (w0 := []) (A1 := A) hx hb hr hlocks hK hW rfl rfl dX7_draw_32
set_option maxHeartbeats 4000000 in
set_option maxRecDepth 100000 in
theorem c_X7_dayNow (l : Launch) (N : Nat) (kd : (Nat → Nat) × (Nat → Nat)) (G : va_G) (ct : Nat → ClassId) (a : Nat → Nat) (g : St_) (sg : Int64) (o : St_) (hf : f_X7_dayNow N g = some o) : CtV l yX7_dayNow wsX7_dayNow ({ frames := 3, cells := 0, slots := 0, locals := 69 }) kd G ct [.ref (a 0)] (wX7 a ct g sg) (wX7 a ct o sg) := by
  intro sz
  refine Met.ofW (cc := cX7_dayNow) (maxL := 3) (ret := none) (by decide) rfl ?_
  intro p e s m args below meth c s₁ B hml hv
  obtain ⟨rfl, hsz, hP, hK, hD0, hE⟩ := hv
  have hx := B.exec
  have hb := B.bytes
  have hr := B.returns
  have hts := atoms_spec (ws := wsX7_dayNow) B.pre
  have hown : s.vm.findClass RX7 = some m.cls := findClass_of_methodNamed B.named
  have hlocks := B.notSynchronized
  have inX7 : ∀ w ∈ wsX70, w ∈ wsX7_dayNow := by decide +kernel
  have fl28 := hts (.fieldLink RX7 28 "FittingStridesModel" "at" "[I") (by decide +kernel)
  have fl31 := hts (.fieldLink RX7 31 "FittingStridesModel" "first" "[I") (by decide +kernel)
  have fl34 := hts (.fieldLink RX7 34 "FittingStridesModel" "second" "[I") (by decide +kernel)
  have fl103 := hts (.fieldLink RX7 103 "FittingStridesModel" "stairs" "I") (by decide +kernel)
  have fl106 := hts (.fieldLink RX7 106 "FittingStridesModel" "persons" "I") (by decide +kernel)
  subst hsz
  have hD := hD0.self (sz := s.heap.size)
  generalize hAe : va_A (wX7 a ct g sg) s.heap.size = A at hD hE ⊢
  have hA : ∀ q : Nat, s.heap.size ≤ q → A q := fun q h => by rw [← hAe]; exact Or.inr h
  have hW : WW G A s.heap (wX7 a ct g sg) s.heap [] := ⟨hP, hD, va_S.rf⟩
  have hl := lv_entry ([.ref (a 0)]) (n := 3) (Nat.le_of_ble_eq_true rfl)
  rw [lg_entry_eq]
  generalize (lg_sl ([.ref (a 0)]) ++ List.replicate (3 - (lg_sl ([.ref (a 0)])).length) Slot.unset).toArray = ls at hl ⊢
  have hl : lv_has ls 3 [(0, .ref (a 0))] := hl
  unfold f_X7_dayNow at hf
  show W p l e ({ frames := 3, cells := 0, slots := 0, locals := 69 } : Room) s m (List.toArray [.ref (a 0)]) below meth c s.heap [] 0 0 (MQ below (va_Qv (fun (_ : Unit) => True) (fun _ t => Af_ G ct (wX7 a ct o sg) A t) A) (List.toArray [.ref (a 0)]) s 0 0 A) (F0 m 0 ls [])
  refine lv_aload_n hx hb dX7_dayNow_0 rfl (lv_at hl 0 rfl) ?_
  refine lv_aload_n hx hb dX7_dayNow_1 rfl (lv_at hl 0 rfl) ?_
  refine x_get (ci := 7) (v := .int (g 9 0)) (C := RX7) (T := TX7) (N := 44) hx hb hts inX7 hown hK hW 0 rfl rfl 8 (by decide) fl106 (fun _ h9 => h9) rfl dX7_dayNow_2 ?_
  replace hf := bs_ hf; obtain ⟨r1, hcl, hf⟩ := hf
  refine x_callW_i (w' := (wX7 a ct r1.2 sg)) (As := [.int (g 9 0)]) (rest := []) (ci := 7) ⟨hx, hb, hml, hown, hts⟩ (c_X7_draw l N kd G ct a g sg (g 9 0) _ hcl) (cwV 1 hts gX7_dayNow_X7_draw rfl rfl rfl (by decide +kernel) ⟨Nat.le_of_ble_eq_true rfl, Nat.le_of_ble_eq_true rfl⟩) hK hE hA hW rfl rfl 0 rfl rfl rfl rfl hl.1 rfl (lv_room (Nat.le_of_ble_eq_true rfl)) dX7_dayNow_5 (fun H locs hW => ?_)
  refine lv_istore_n (lv' := [(1, .int r1.1), (0, .ref (a 0))]) hx hb dX7_dayNow_8 rfl hl (by decide) rfl (fun ls hl => ?_)
  refine lv_aload_n hx hb dX7_dayNow_9 rfl (lv_at hl 1 rfl) ?_
  refine lv_aload_n hx hb dX7_dayNow_10 rfl (lv_at hl 1 rfl) ?_
  refine x_get (ci := 7) (v := .int (r1.2 2 0)) (C := RX7) (T := TX7) (N := 44) hx hb hts inX7 hown hK hW 0 rfl rfl 1 (by decide) fl103 (fun _ h9 => h9) rfl dX7_dayNow_11 ?_
  replace hf := bs_ hf; obtain ⟨r2, hcl, hf⟩ := hf
  refine x_callW_i (w' := (wX7 a ct r2.2 sg)) (As := [.int (r1.2 2 0)]) (rest := []) (ci := 7) ⟨hx, hb, hml, hown, hts⟩ (c_X7_draw l N kd G ct a r1.2 sg (r1.2 2 0) _ hcl) (cwV 1 hts gX7_dayNow_X7_draw rfl rfl rfl (by decide +kernel) ⟨Nat.le_of_ble_eq_true rfl, Nat.le_of_ble_eq_true rfl⟩) hK hE hA hW rfl rfl 0 rfl rfl rfl rfl hl.1 rfl (lv_room (Nat.le_of_ble_eq_true rfl)) dX7_dayNow_14 (fun H locs hW => ?_)
  refine lv_istore_n (lv' := [(2, .int r2.1), (1, .int r1.1), (0, .ref (a 0))]) hx hb dX7_dayNow_17 rfl hl (by decide) rfl (fun ls hl => ?_)
  refine lv_aload_n hx hb dX7_dayNow_18 rfl (lv_at hl 2 rfl) ?_
  refine lv_iload_n hx hb dX7_dayNow_19 rfl (lv_at hl 1 rfl) ?_
  refine lv_iload_n hx hb dX7_dayNow_20 rfl (lv_at hl 0 rfl) ?_
  replace hf := bs_ hf; obtain ⟨r3, hcl, hf⟩ := hf
  refine x_callW_i (w' := (wX7 a ct r2.2 sg)) (As := [.int r1.1, .int r2.1]) (rest := []) (ci := 7) ⟨hx, hb, hml, hown, hts⟩ (c_X7_canGo l N kd G ct a r2.2 sg r1.1 r2.1 _ hcl) (cwV 2 hts gX7_dayNow_X7_canGo rfl rfl rfl (by decide +kernel) ⟨Nat.le_of_ble_eq_true rfl, Nat.le_of_ble_eq_true rfl⟩) hK hE hA hW rfl rfl 0 rfl rfl rfl rfl hl.1 rfl (lv_room (Nat.le_of_ble_eq_true rfl)) dX7_dayNow_21 (fun H locs hW => ?_)
  replace hf := bs_ hf; obtain ⟨j4, hg, hf⟩ := hf
  have J4 : ∀ (H : Heap) (locs : List Loc) (ls : Array Slot), WW G A s.heap (wX7 a ct j4 sg) H locs → lv_has ls 3 [(0, .ref (a 0)), (1, .int r1.1)] → W p l e ({ frames := 3, cells := 0, slots := 0, locals := 69 } : Room) s m (List.toArray [.ref (a 0)]) below meth c H locs 0 0 (MQ below (va_Qv (fun (_ : Unit) => True) (fun _ t => Af_ G ct (wX7 a ct o sg) A t) A) (List.toArray [.ref (a 0)]) s 0 0 A) (F0 m 33 ls ([])) := by
    intro H locs ls hW hl
    refine lv_aload_n hx hb dX7_dayNow_33 rfl (lv_at hl 0 rfl) ?_
    refine lv_bipush (v := (16 : Int32)) hx hb dX7_dayNow_34 (by decide) ?_
    replace hf := bs_ hf; obtain ⟨r6, hcl, hf⟩ := hf
    refine x_callW_i (w' := (wX7 a ct r6.2 sg)) (As := [.int (16 : Int32)]) (rest := []) (ci := 7) ⟨hx, hb, hml, hown, hts⟩ (c_X7_draw l N kd G ct a j4 sg (16 : Int32) _ hcl) (cwV 1 hts gX7_dayNow_X7_draw rfl rfl rfl (by decide +kernel) ⟨Nat.le_of_ble_eq_true rfl, Nat.le_of_ble_eq_true rfl⟩) hK hE hA hW rfl rfl 0 rfl rfl rfl rfl hl.1 rfl (lv_room (Nat.le_of_ble_eq_true rfl)) dX7_dayNow_36 (fun H locs hW => ?_)
    refine lv_if_ne (tgt := 120) hx hb dX7_dayNow_39 (by decide) (fun hc => ?_) (fun hc => ?_)
    · replace hf := ifn hc hf
      have ho := Option.some.inj hf
      subst ho
      exact x_retv hx hb hr hlocks hK hW rfl dX7_dayNow_120
    · replace hf := ifp hc hf
      refine lv_aload_n hx hb dX7_dayNow_42 rfl (lv_at hl 0 rfl) ?_
      refine x_get (ci := 7) (v := .int (r6.2 9 0)) (C := RX7) (T := TX7) (N := 44) hx hb hts inX7 hown hK hW 0 rfl rfl 8 (by decide) fl106 (fun _ h9 => h9) rfl dX7_dayNow_43 ?_
      refine lv_bipush (v := (8 : Int32)) hx hb dX7_dayNow_46 (by decide) ?_
      refine lv_icmp_ge (tgt := 120) hx hb dX7_dayNow_48 (by decide) (fun hc => ?_) (fun hc => ?_)
      · replace hf := ifp hc hf
        have ho := Option.some.inj hf
        subst ho
        exact x_retv hx hb hr hlocks hK hW rfl dX7_dayNow_120
      · replace hf := ifn hc hf
        refine lv_aload_n hx hb dX7_dayNow_51 rfl (lv_at hl 0 rfl) ?_
        refine x_get (ci := 7) (v := .ref (a 10)) (C := RX7) (T := TX7) (N := 44) hx hb hts inX7 hown hK hW 0 rfl rfl 9 (by decide) fl28 (fun _ h9 => h9) rfl dX7_dayNow_52 ?_
        refine lv_aload_n hx hb dX7_dayNow_55 rfl (lv_at hl 0 rfl) ?_
        refine x_get (ci := 7) (v := .int (r6.2 9 0)) (C := RX7) (T := TX7) (N := 44) hx hb hts inX7 hown hK hW 0 rfl rfl 8 (by decide) fl106 (fun _ h9 => h9) rfl dX7_dayNow_56 ?_
        refine lv_aload_n hx hb dX7_dayNow_59 rfl (lv_at hl 0 rfl) ?_
        refine x_get (ci := 7) (v := .ref (a 10)) (C := RX7) (T := TX7) (N := 44) hx hb hts inX7 hown hK hW 0 rfl rfl 9 (by decide) fl28 (fun _ h9 => h9) rfl dX7_dayNow_60 ?_
        refine lv_iload_n hx hb dX7_dayNow_63 rfl (lv_at hl 1 rfl) ?_
        replace hf := gd_s hf; obtain ⟨hin, hf⟩ := hf
        refine x_iald (n := 8) (f := r6.2 10) hx hb hK hW 7 rfl (okI_in hin) dX7_dayNow_64 ?_
        replace hf := gd_s hf; obtain ⟨hin, hf⟩ := hf
        refine x_iast (w' := (wX7 a ct (up1 r6.2 10 (r6.2 9 0).toNatClampNeg (r6.2 10 r1.1.toNatClampNeg)) sg)) (n := 8) (f := r6.2 10) hx hb hK hW 7 rfl (okI_in hin) rfl dX7_dayNow_65 (fun H locs hW => ?_)
        refine lv_aload_n hx hb dX7_dayNow_66 rfl (lv_at hl 0 rfl) ?_
        refine x_get (ci := 7) (v := .ref (a 11)) (C := RX7) (T := TX7) (N := 44) hx hb hts inX7 hown hK hW 0 rfl rfl 10 (by decide) fl31 (fun _ h9 => h9) rfl dX7_dayNow_67 ?_
        refine lv_aload_n hx hb dX7_dayNow_70 rfl (lv_at hl 0 rfl) ?_
        refine x_get (ci := 7) (v := .int (r6.2 9 0)) (C := RX7) (T := TX7) (N := 44) hx hb hts inX7 hown hK hW 0 rfl rfl 8 (by decide) fl106 (fun _ h9 => h9) rfl dX7_dayNow_71 ?_
        refine lv_aload_n hx hb dX7_dayNow_74 rfl (lv_at hl 0 rfl) ?_
        refine lv_iconst (v := (2 : Int32)) hx hb dX7_dayNow_75 (by decide) ?_
        replace hf := bs_ hf; obtain ⟨r7, hcl, hf⟩ := hf
        refine x_callW_i (w' := (wX7 a ct r7.2 sg)) (As := [.int (2 : Int32)]) (rest := [.int (r6.2 9 0), .ref (a 11)]) (ci := 7) ⟨hx, hb, hml, hown, hts⟩ (c_X7_draw l N kd G ct a (up1 r6.2 10 (r6.2 9 0).toNatClampNeg (r6.2 10 r1.1.toNatClampNeg)) sg (2 : Int32) _ hcl) (cwV 1 hts gX7_dayNow_X7_draw rfl rfl rfl (by decide +kernel) ⟨Nat.le_of_ble_eq_true rfl, Nat.le_of_ble_eq_true rfl⟩) hK hE hA hW rfl rfl 0 rfl rfl rfl rfl hl.1 rfl (lv_room (Nat.le_of_ble_eq_true rfl)) dX7_dayNow_76 (fun H locs hW => ?_)
        replace hf := bs_ hf; obtain ⟨j8, hg, hf⟩ := hf
        have J8 : ∀ (H : Heap) (locs : List Loc) (ls : Array Slot), WW G A s.heap (wX7 a ct j8.2 sg) H locs → lv_has ls 3 [(0, .ref (a 0))] → W p l e ({ frames := 3, cells := 0, slots := 0, locals := 69 } : Room) s m (List.toArray [.ref (a 0)]) below meth c H locs 0 0 (MQ below (va_Qv (fun (_ : Unit) => True) (fun _ t => Af_ G ct (wX7 a ct o sg) A t) A) (List.toArray [.ref (a 0)]) s 0 0 A) (F0 m 99 ls (.int j8.1 :: .int (r6.2 9 0) :: .ref (a 11) :: [])) := by
          intro H locs ls hW hl
          replace hf := gd_s hf; obtain ⟨hin, hf⟩ := hf
          refine x_iast (w' := (wX7 a ct (up1 j8.2 11 (r6.2 9 0).toNatClampNeg j8.1) sg)) (n := 8) (f := j8.2 11) hx hb hK hW 8 rfl (okI_in hin) rfl dX7_dayNow_99 (fun H locs hW => ?_)
          refine lv_aload_n hx hb dX7_dayNow_100 rfl (lv_at hl 0 rfl) ?_
          refine x_get (ci := 7) (v := .ref (a 12)) (C := RX7) (T := TX7) (N := 44) hx hb hts inX7 hown hK hW 0 rfl rfl 11 (by decide) fl34 (fun _ h9 => h9) rfl dX7_dayNow_101 ?_
          refine lv_aload_n hx hb dX7_dayNow_104 rfl (lv_at hl 0 rfl) ?_
          refine x_get (ci := 7) (v := .int (j8.2 9 0)) (C := RX7) (T := TX7) (N := 44) hx hb hts inX7 hown hK hW 0 rfl rfl 8 (by decide) fl106 (fun _ h9 => h9) rfl dX7_dayNow_105 ?_
          refine lv_iconst (v := (0 : Int32)) hx hb dX7_dayNow_108 (by decide) ?_
          replace hf := gd_s hf; obtain ⟨hin, hf⟩ := hf
          refine x_iast (w' := (wX7 a ct (up1 (up1 j8.2 11 (r6.2 9 0).toNatClampNeg j8.1) 12 (j8.2 9 0).toNatClampNeg (0 : Int32)) sg)) (n := 8) (f := (up1 j8.2 11 (r6.2 9 0).toNatClampNeg j8.1) 12) hx hb hK hW 9 rfl (okI_in hin) rfl dX7_dayNow_109 (fun H locs hW => ?_)
          refine lv_aload_n hx hb dX7_dayNow_110 rfl (lv_at hl 0 rfl) ?_
          refine lv_dup hx hb dX7_dayNow_111 rfl ?_
          refine x_get (ci := 7) (v := .int (j8.2 9 0)) (C := RX7) (T := TX7) (N := 44) hx hb hts inX7 hown hK hW 0 rfl rfl 8 (by decide) fl106 (fun _ h9 => h9) rfl dX7_dayNow_112 ?_
          refine lv_iconst (v := (1 : Int32)) hx hb dX7_dayNow_115 (by decide) ?_
          refine lv_iadd hx hb dX7_dayNow_116 ?_
          refine x_put (w' := (wX7 a ct (up1 (up1 (up1 j8.2 11 (r6.2 9 0).toNatClampNeg j8.1) 12 (j8.2 9 0).toNatClampNeg (0 : Int32)) 9 0 ((j8.2 9 0) + (1 : Int32))) sg)) (ci := 7) (v := .int ((j8.2 9 0) + (1 : Int32))) (ty := .int) (C := RX7) (T := TX7) (N := 44) hx hb hts inX7 tyX7 tyX7_ok nmX7 hown hK hW 0 rfl rfl 8 (by decide) fl106 (fun _ h9 => h9) rfl (by decide +kernel) rfl rfl (Nat.le_of_ble_eq_true rfl) rfl dX7_dayNow_117 (fun H locs hW => ?_)
          have ho := Option.some.inj hf
          subst ho
          exact x_retv hx hb hr hlocks hK hW rfl dX7_dayNow_120
        clear hf
        refine lv_if_ne (tgt := 91) hx hb dX7_dayNow_79 (by decide) (fun hc => ?_) (fun hc => ?_)
        · have hf := ifn hc hg
          clear hg
          refine lv_aload_n hx hb dX7_dayNow_91 rfl (lv_at hl 0 rfl) ?_
          refine lv_bipush (v := (24 : Int32)) hx hb dX7_dayNow_92 (by decide) ?_
          replace hf := bs_ hf; obtain ⟨r9, hcl, hf⟩ := hf
          refine x_callW_i (w' := (wX7 a ct r9.2 sg)) (As := [.int (24 : Int32)]) (rest := [.int (r6.2 9 0), .ref (a 11)]) (ci := 7) ⟨hx, hb, hml, hown, hts⟩ (c_X7_draw l N kd G ct a r7.2 sg (24 : Int32) _ hcl) (cwV 1 hts gX7_dayNow_X7_draw rfl rfl rfl (by decide +kernel) ⟨Nat.le_of_ble_eq_true rfl, Nat.le_of_ble_eq_true rfl⟩) hK hE hA hW rfl rfl 0 rfl rfl rfl rfl hl.1 rfl (lv_room (Nat.le_of_ble_eq_true rfl)) dX7_dayNow_94 (fun H locs hW => ?_)
          refine lv_iconst (v := (1 : Int32)) hx hb dX7_dayNow_97 (by decide) ?_
          refine lv_iadd hx hb dX7_dayNow_98 ?_
          have hj := Option.some.inj hf
          subst hj
          exact J8 _ _ _ hW (lv_sub hl [0] rfl)
        · have hf := ifp hc hg
          clear hg
          refine lv_aload_n hx hb dX7_dayNow_82 rfl (lv_at hl 0 rfl) ?_
          refine x_get (ci := 7) (v := .ref (a 11)) (C := RX7) (T := TX7) (N := 44) hx hb hts inX7 hown hK hW 0 rfl rfl 10 (by decide) fl31 (fun _ h9 => h9) rfl dX7_dayNow_83 ?_
          refine lv_iload_n hx hb dX7_dayNow_86 rfl (lv_at hl 1 rfl) ?_
          replace hf := gd_s hf; obtain ⟨hin, hf⟩ := hf
          refine x_iald (n := 8) (f := r7.2 11) hx hb hK hW 8 rfl (okI_in hin) dX7_dayNow_87 ?_
          refine lv_goto (tgt := 99) hx hb dX7_dayNow_88 (by decide) ?_
          have hj := Option.some.inj hf
          subst hj
          exact J8 _ _ _ hW (lv_sub hl [0] rfl)
  clear hf
  refine lv_if_eq (tgt := 33) hx hb dX7_dayNow_24 (by decide) (fun hc => ?_) (fun hc => ?_)
  · have hf := ifp hc hg
    clear hg
    have hj := Option.some.inj hf
    subst hj
    exact J4 _ _ _ hW (lv_sub hl [2, 1] rfl)
  · have hf := ifn hc hg
    clear hg
    refine lv_aload_n hx hb dX7_dayNow_27 rfl (lv_at hl 2 rfl) ?_
    refine lv_iload_n hx hb dX7_dayNow_28 rfl (lv_at hl 1 rfl) ?_
    refine lv_iload_n hx hb dX7_dayNow_29 rfl (lv_at hl 0 rfl) ?_
    replace hf := bs_ hf; obtain ⟨r5, hcl, hf⟩ := hf
    refine x_callW_v (w' := (wX7 a ct r5 sg)) (As := [.int r1.1, .int r2.1]) (rest := []) (ci := 7) ⟨hx, hb, hml, hown, hts⟩ (c_X7_goNow l N kd G ct a r2.2 sg r1.1 r2.1 _ hcl) (cwV 2 hts gX7_dayNow_X7_goNow rfl rfl rfl (by decide +kernel) ⟨Nat.le_of_ble_eq_true rfl, Nat.le_of_ble_eq_true rfl⟩) hK hE hA hW rfl rfl 0 rfl rfl rfl rfl hl.1 rfl (lv_room (Nat.le_of_ble_eq_true rfl)) dX7_dayNow_30 (fun H locs hW => ?_)
    have hj := Option.some.inj hf
    subst hj
    exact J4 _ _ _ hW (lv_sub hl [2, 1] rfl)
set_option maxHeartbeats 4000000 in
set_option maxRecDepth 100000 in
theorem c_X7_drift (l : Launch) (N : Nat) (kd : (Nat → Nat) × (Nat → Nat)) (G : va_G) (ct : Nat → ClassId) (a : Nat → Nat) (g : St_) (sg : Int64) (x1 : Int32) (o : (Int32 × St_)) (hf : f_X7_drift N g x1 = some o) : CtI l yX7_drift wsX7_drift ({ frames := 4, cells := 0, slots := 0, locals := 91 }) kd G ct [.ref (a 0), .int x1] (wX7 a ct g sg) o.1 (wX7 a ct o.2 sg) := by
  intro sz
  refine Met.ofW (cc := cX7_drift) (maxL := 3) (ret := (some .int)) (by decide) rfl ?_
  intro p e s m args below meth c s₁ B hml hv
  obtain ⟨rfl, hsz, hP, hK, hD0, hE⟩ := hv
  have hx := B.exec
  have hb := B.bytes
  have hr := B.returns
  have hts := atoms_spec (ws := wsX7_drift) B.pre
  have hown : s.vm.findClass RX7 = some m.cls := findClass_of_methodNamed B.named
  have hlocks := B.notSynchronized
  have inX7 : ∀ w ∈ wsX70, w ∈ wsX7_drift := by decide +kernel
  have fl103 := hts (.fieldLink RX7 103 "FittingStridesModel" "stairs" "I") (by decide +kernel)
  have fl106 := hts (.fieldLink RX7 106 "FittingStridesModel" "persons" "I") (by decide +kernel)
  have fl111 := hts (.constant RX7 111 (-1000000002)) (by decide +kernel)
  have fl243 := hts (.constant RX7 243 (-1000000003)) (by decide +kernel)
  have fl263 := hts (.constantLong RX7 263 (99)) (by decide +kernel)
  subst hsz
  have hD := hD0.self (sz := s.heap.size)
  generalize hAe : va_A (wX7 a ct g sg) s.heap.size = A at hD hE ⊢
  have hA : ∀ q : Nat, s.heap.size ≤ q → A q := fun q h => by rw [← hAe]; exact Or.inr h
  have hW : WW G A s.heap (wX7 a ct g sg) s.heap [] := ⟨hP, hD, va_S.rf⟩
  have hl := lv_entry ([.ref (a 0), .int x1]) (n := 3) (Nat.le_of_ble_eq_true rfl)
  rw [lg_entry_eq]
  generalize (lg_sl ([.ref (a 0), .int x1]) ++ List.replicate (3 - (lg_sl ([.ref (a 0), .int x1])).length) Slot.unset).toArray = ls at hl ⊢
  have hl : lv_has ls 3 [(0, .ref (a 0)), (1, .int x1)] := hl
  unfold f_X7_drift at hf
  show W p l e ({ frames := 4, cells := 0, slots := 0, locals := 91 } : Room) s m (List.toArray [.ref (a 0), .int x1]) below meth c s.heap [] 0 0 (MQ below (va_Qi (fun r (_ : Unit) => r = o.1) (fun _ t => Af_ G ct (wX7 a ct o.2 sg) A t) A) (List.toArray [.ref (a 0), .int x1]) s 0 0 A) (F0 m 0 ls [])
  refine lv_iload_n hx hb dX7_drift_0 rfl (lv_at hl 1 rfl) ?_
  refine lv_i2l hx hb dX7_drift_1 rfl ?_
  refine lv_lconst (v := (1 : Int64)) hx hb dX7_drift_2 (by decide) ?_
  refine lv_ldc2 (v := (99 : Int64)) hx hb hown fl263 dX7_drift_3 ?_
  replace hf := bs_ hf; obtain ⟨r1, hcl, hf⟩ := hf
  refine x_callS_i (As := [.long x1.toInt64, .long (1 : Int64), .long (99 : Int64)]) (rest := []) ⟨hx, hb, hml, hown, hts⟩ (c_X7_in l N kd G ct x1.toInt64 (1 : Int64) (99 : Int64) _ hcl) (va_cwS 3 hts gX7_drift_X7_in rfl rfl rfl (by decide +kernel) ⟨Nat.le_of_ble_eq_true rfl, Nat.le_of_ble_eq_true rfl⟩) hK hE hA hW rfl hl.1 rfl (lv_room (Nat.le_of_ble_eq_true rfl)) dX7_drift_6 (fun H locs hW => ?_)
  refine lv_if_ne (tgt := 15) hx hb dX7_drift_9 (by decide) (fun hc => ?_) (fun hc => ?_)
  · replace hf := ifn hc hf
    refine lv_aload_n hx hb dX7_drift_15 rfl (lv_at hl 0 rfl) ?_
    refine x_get (ci := 7) (v := .int (g 9 0)) (C := RX7) (T := TX7) (N := 44) hx hb hts inX7 hown hK hW 0 rfl rfl 8 (by decide) fl106 (fun _ h9 => h9) rfl dX7_drift_16 ?_
    refine lv_if_eq (tgt := 29) hx hb dX7_drift_19 (by decide) (fun hc => ?_) (fun hc => ?_)
    · replace hf := ifp hc hf
      refine lv_ldc (v := (-1000000003 : Int32)) hx hb hown fl243 dX7_drift_29 ?_
      have ho := Option.some.inj hf
      subst ho
      exact x_reti (sz := 0) (w0 := []) (A1 := A) hx hb hr hlocks hK hW rfl rfl dX7_drift_31
    · replace hf := ifn hc hf
      refine lv_aload_n hx hb dX7_drift_22 rfl (lv_at hl 0 rfl) ?_
      refine x_get (ci := 7) (v := .int (g 2 0)) (C := RX7) (T := TX7) (N := 44) hx hb hts inX7 hown hK hW 0 rfl rfl 1 (by decide) fl103 (fun _ h9 => h9) rfl dX7_drift_23 ?_
      refine lv_if_ne (tgt := 32) hx hb dX7_drift_26 (by decide) (fun hc => ?_) (fun hc => ?_)
      · replace hf := ifn hc hf
        refine lv_iconst (v := (0 : Int32)) hx hb dX7_drift_32 (by decide) ?_
        refine lv_istore_n (lv' := [(2, .int (0 : Int32)), (0, .ref (a 0)), (1, .int x1)]) hx hb dX7_drift_33 rfl hl (by decide) rfl (fun ls hl => ?_)
        replace hf := bs_ hf; obtain ⟨v2, hg, hf⟩ := hf
        have J2 : ∀ (H : Heap) (locs : List Loc) (ls : Array Slot), WW G A s.heap (wX7 a ct v2 sg) H locs → lv_has ls 3 [(0, .ref (a 0))] → W p l e ({ frames := 4, cells := 0, slots := 0, locals := 91 } : Room) s m (List.toArray [.ref (a 0), .int x1]) below meth c H locs 0 0 (MQ below (va_Qi (fun r (_ : Unit) => r = o.1) (fun _ t => Af_ G ct (wX7 a ct o.2 sg) A t) A) (List.toArray [.ref (a 0), .int x1]) s 0 0 A) (F0 m 49 ls []) := by
          intro H locs ls hW hl
          refine lv_aload_n hx hb dX7_drift_49 rfl (lv_at hl 0 rfl) ?_
          refine x_get (ci := 7) (v := .int (v2 9 0)) (C := RX7) (T := TX7) (N := 44) hx hb hts inX7 hown hK hW 0 rfl rfl 8 (by decide) fl106 (fun _ h9 => h9) rfl dX7_drift_50 ?_
          have ho := Option.some.inj hf
          subst ho
          exact x_reti (sz := 0) (w0 := []) (A1 := A) hx hb hr hlocks hK hW rfl rfl dX7_drift_53
        clear hf
        have L2 : ∀ (n : Nat) (y2_2 : Int32) (g2 : St_), f_X7_drift_L34 N x1 n y2_2 g2 = some v2 → ∀ (H : Heap) (locs : List Loc) (ls : Array Slot), WW G A s.heap (wX7 a ct g2 sg) H locs → lv_has ls 3 [(0, .ref (a 0)), (1, .int x1), (2, .int y2_2)] → W p l e ({ frames := 4, cells := 0, slots := 0, locals := 91 } : Room) s m (List.toArray [.ref (a 0), .int x1]) below meth c H locs 0 0 (MQ below (va_Qi (fun r (_ : Unit) => r = o.1) (fun _ t => Af_ G ct (wX7 a ct o.2 sg) A t) A) (List.toArray [.ref (a 0), .int x1]) s 0 0 A) (F0 m 34 ls []) := by
          intro n
          induction n with
          | zero =>
            intro y2_2 g2 hf
            rw [f_X7_drift_L34] at hf
            cases hf
          | succ n ih =>
            intro y2_2 g2 hf H locs ls hW hl
            rw [f_X7_drift_L34] at hf
            refine lv_iload_n hx hb dX7_drift_34 rfl (lv_at hl 2 rfl) ?_
            refine lv_iload_n hx hb dX7_drift_35 rfl (lv_at hl 1 rfl) ?_
            refine lv_icmp_ge (tgt := 49) hx hb dX7_drift_36 (by decide) (fun hc => ?_) (fun hc => ?_)
            · replace hf := ifp hc hf
              have hj := Option.some.inj hf
              subst hj
              exact J2 _ _ _ hW (lv_sub hl [0] rfl)
            · replace hf := ifn hc hf
              refine lv_aload_n hx hb dX7_drift_39 rfl (lv_at hl 0 rfl) ?_
              replace hf := bs_ hf; obtain ⟨r3, hcl, hf⟩ := hf
              refine x_callW_v (w' := (wX7 a ct r3 sg)) (As := []) (rest := []) (ci := 7) ⟨hx, hb, hml, hown, hts⟩ (c_X7_dayNow l N kd G ct a g2 sg _ hcl) (cwV 0 hts gX7_drift_X7_dayNow rfl rfl rfl (by decide +kernel) ⟨Nat.le_of_ble_eq_true rfl, Nat.le_of_ble_eq_true rfl⟩) hK hE hA hW rfl rfl 0 rfl rfl rfl rfl hl.1 rfl (lv_room (Nat.le_of_ble_eq_true rfl)) dX7_drift_40 (fun H locs hW => ?_)
              refine lv_iinc (v := (y2_2 + (1 : Int32))) (lv' := [(2, .int (y2_2 + (1 : Int32))), (0, .ref (a 0)), (1, .int x1)]) hx hb dX7_drift_43 hl (k := 2) rfl rfl (by decide) rfl (fun ls hl => ?_)
              refine lv_goto (tgt := 34) hx hb dX7_drift_46 (by decide) ?_
              exact ih (y2_2 + (1 : Int32)) r3 hf _ _ _ hW (lv_sub hl [1, 2, 0] rfl)
        exact L2 N (0 : Int32) g hg _ _ _ hW (lv_sub hl [1, 2, 0] rfl)
      · replace hf := ifp hc hf
        refine lv_ldc (v := (-1000000003 : Int32)) hx hb hown fl243 dX7_drift_29 ?_
        have ho := Option.some.inj hf
        subst ho
        exact x_reti (sz := 0) (w0 := []) (A1 := A) hx hb hr hlocks hK hW rfl rfl dX7_drift_31
  · replace hf := ifp hc hf
    refine lv_ldc (v := (-1000000002 : Int32)) hx hb hown fl111 dX7_drift_12 ?_
    have ho := Option.some.inj hf
    subst ho
    exact x_reti (sz := 0) (w0 := []) (A1 := A) hx hb hr hlocks hK hW rfl rfl dX7_drift_14
set_option maxHeartbeats 4000000 in
set_option maxRecDepth 100000 in
theorem c_X7_reach (l : Launch) (N : Nat) (kd : (Nat → Nat) × (Nat → Nat)) (G : va_G) (ct : Nat → ClassId) (a : Nat → Nat) (g : St_) (sg : Int64) (x1 : Int32) (x2 : Int32) (o : Int32) (hf : f_X7_reach N g x1 x2 = some o) : CtI l yX7_reach wsX7_reach ({ frames := 2, cells := 0, slots := 0, locals := 52 }) kd G ct [.ref (a 0), .int x1, .int x2] (wX7 a ct g sg) o (wX7 a ct g sg) := by
  intro sz
  refine Met.ofW (cc := cX7_reach) (maxL := 3) (ret := (some .int)) (by decide) rfl ?_
  intro p e s m args below meth c s₁ B hml hv
  obtain ⟨rfl, hsz, hP, hK, hD0, hE⟩ := hv
  have hx := B.exec
  have hb := B.bytes
  have hr := B.returns
  have hts := atoms_spec (ws := wsX7_reach) B.pre
  have hown : s.vm.findClass RX7 = some m.cls := findClass_of_methodNamed B.named
  have hlocks := B.notSynchronized
  have fl111 := hts (.constant RX7 111 (-1000000002)) (by decide +kernel)
  have fl221 := hts (.constant RX7 221 (-1000000001)) (by decide +kernel)
  have fl238 := hts (.constantLong RX7 238 (24)) (by decide +kernel)
  subst hsz
  have hD := hD0.self (sz := s.heap.size)
  generalize hAe : va_A (wX7 a ct g sg) s.heap.size = A at hD hE ⊢
  have hA : ∀ q : Nat, s.heap.size ≤ q → A q := fun q h => by rw [← hAe]; exact Or.inr h
  have hW : WW G A s.heap (wX7 a ct g sg) s.heap [] := ⟨hP, hD, va_S.rf⟩
  have hl := lv_entry ([.ref (a 0), .int x1, .int x2]) (n := 3) (Nat.le_of_ble_eq_true rfl)
  rw [lg_entry_eq]
  generalize (lg_sl ([.ref (a 0), .int x1, .int x2]) ++ List.replicate (3 - (lg_sl ([.ref (a 0), .int x1, .int x2])).length) Slot.unset).toArray = ls at hl ⊢
  have hl : lv_has ls 3 [(0, .ref (a 0)), (1, .int x1), (2, .int x2)] := hl
  unfold f_X7_reach at hf
  show W p l e ({ frames := 2, cells := 0, slots := 0, locals := 52 } : Room) s m (List.toArray [.ref (a 0), .int x1, .int x2]) below meth c s.heap [] 0 0 (MQ below (va_Qi (fun r (_ : Unit) => r = o) (fun _ t => Af_ G ct (wX7 a ct g sg) A t) A) (List.toArray [.ref (a 0), .int x1, .int x2]) s 0 0 A) (F0 m 0 ls [])
  refine lv_aload_n hx hb dX7_reach_0 rfl (lv_at hl 0 rfl) ?_
  refine lv_iload_n hx hb dX7_reach_1 rfl (lv_at hl 1 rfl) ?_
  replace hf := bs_ hf; obtain ⟨r1, hcl, hf⟩ := hf
  refine x_callW_i (w' := (wX7 a ct g sg)) (As := [.int x1]) (rest := []) (ci := 7) ⟨hx, hb, hml, hown, hts⟩ (c_X7_isPlace l N kd G ct a g sg x1 _ hcl) (cwV 1 hts gX7_reach_X7_isPlace rfl rfl rfl (by decide +kernel) ⟨Nat.le_of_ble_eq_true rfl, Nat.le_of_ble_eq_true rfl⟩) hK hE hA hW rfl rfl 0 rfl rfl rfl rfl hl.1 rfl (lv_room (Nat.le_of_ble_eq_true rfl)) dX7_reach_2 (fun H locs hW => ?_)
  refine lv_if_ne (tgt := 11) hx hb dX7_reach_5 (by decide) (fun hc => ?_) (fun hc => ?_)
  · replace hf := ifn hc hf
    refine lv_iload_n hx hb dX7_reach_11 rfl (lv_at hl 2 rfl) ?_
    refine lv_i2l hx hb dX7_reach_12 rfl ?_
    refine lv_lconst (v := (1 : Int64)) hx hb dX7_reach_13 (by decide) ?_
    refine lv_ldc2 (v := (24 : Int64)) hx hb hown fl238 dX7_reach_14 ?_
    replace hf := bs_ hf; obtain ⟨r2, hcl, hf⟩ := hf
    refine x_callS_i (As := [.long x2.toInt64, .long (1 : Int64), .long (24 : Int64)]) (rest := []) ⟨hx, hb, hml, hown, hts⟩ (c_X7_in l N kd G ct x2.toInt64 (1 : Int64) (24 : Int64) _ hcl) (va_cwS 3 hts gX7_reach_X7_in rfl rfl rfl (by decide +kernel) ⟨Nat.le_of_ble_eq_true rfl, Nat.le_of_ble_eq_true rfl⟩) hK hE hA hW rfl hl.1 rfl (lv_room (Nat.le_of_ble_eq_true rfl)) dX7_reach_17 (fun H locs hW => ?_)
    refine lv_if_eq (tgt := 33) hx hb dX7_reach_20 (by decide) (fun hc => ?_) (fun hc => ?_)
    · replace hf := ifp hc hf
      refine lv_ldc (v := (-1000000002 : Int32)) hx hb hown fl111 dX7_reach_33 ?_
      have ho := Option.some.inj hf
      subst ho
      exact x_reti (sz := 0) (w0 := []) (A1 := A) hx hb hr hlocks hK hW rfl rfl dX7_reach_35
    · replace hf := ifn hc hf
      refine lv_aload_n hx hb dX7_reach_23 rfl (lv_at hl 0 rfl) ?_
      refine lv_iload_n hx hb dX7_reach_24 rfl (lv_at hl 1 rfl) ?_
      refine lv_iload_n hx hb dX7_reach_25 rfl (lv_at hl 2 rfl) ?_
      refine lv_iconst (v := (0 : Int32)) hx hb dX7_reach_26 (by decide) ?_
      replace hf := bs_ hf; obtain ⟨r3, hcl, hf⟩ := hf
      refine x_callW_i (w' := (wX7 a ct g sg)) (As := [.int x1, .int x2, .int (0 : Int32)]) (rest := []) (ci := 7) ⟨hx, hb, hml, hown, hts⟩ (c_X7_reachOf l N kd G ct a g sg x1 x2 (0 : Int32) _ hcl) (cwV 3 hts gX7_reach_X7_reachOf rfl rfl rfl (by decide +kernel) ⟨Nat.le_of_ble_eq_true rfl, Nat.le_of_ble_eq_true rfl⟩) hK hE hA hW rfl rfl 0 rfl rfl rfl rfl hl.1 rfl (lv_room (Nat.le_of_ble_eq_true rfl)) dX7_reach_27 (fun H locs hW => ?_)
      refine lv_goto (tgt := 35) hx hb dX7_reach_30 (by decide) ?_
      have ho := Option.some.inj hf
      subst ho
      exact x_reti (sz := 0) (w0 := []) (A1 := A) hx hb hr hlocks hK hW rfl rfl dX7_reach_35
  · replace hf := ifp hc hf
    refine lv_ldc (v := (-1000000001 : Int32)) hx hb hown fl221 dX7_reach_8 ?_
    have ho := Option.some.inj hf
    subst ho
    exact x_reti (sz := 0) (w0 := []) (A1 := A) hx hb hr hlocks hK hW rfl rfl dX7_reach_10
set_option maxHeartbeats 4000000 in
set_option maxRecDepth 100000 in
theorem c_X7_guests (l : Launch) (N : Nat) (kd : (Nat → Nat) × (Nat → Nat)) (G : va_G) (ct : Nat → ClassId) (a : Nat → Nat) (g : St_) (sg : Int64) (x1 : Int32) (o : Int32) (hf : f_X7_guests N g x1 = some o) : CtI l yX7_guests wsX7_guests ({ frames := 3, cells := 0, slots := 0, locals := 73 }) kd G ct [.ref (a 0), .int x1] (wX7 a ct g sg) o (wX7 a ct g sg) := by
  intro sz
  refine Met.ofW (cc := cX7_guests) (maxL := 4) (ret := (some .int)) (by decide) rfl ?_
  intro p e s m args below meth c s₁ B hml hv
  obtain ⟨rfl, hsz, hP, hK, hD0, hE⟩ := hv
  have hx := B.exec
  have hb := B.bytes
  have hr := B.returns
  have hts := atoms_spec (ws := wsX7_guests) B.pre
  have hown : s.vm.findClass RX7 = some m.cls := findClass_of_methodNamed B.named
  have hlocks := B.notSynchronized
  have inX7 : ∀ w ∈ wsX70, w ∈ wsX7_guests := by decide +kernel
  have fl28 := hts (.fieldLink RX7 28 "FittingStridesModel" "at" "[I") (by decide +kernel)
  have fl106 := hts (.fieldLink RX7 106 "FittingStridesModel" "persons" "I") (by decide +kernel)
  have fl221 := hts (.constant RX7 221 (-1000000001)) (by decide +kernel)
  subst hsz
  have hD := hD0.self (sz := s.heap.size)
  generalize hAe : va_A (wX7 a ct g sg) s.heap.size = A at hD hE ⊢
  have hA : ∀ q : Nat, s.heap.size ≤ q → A q := fun q h => by rw [← hAe]; exact Or.inr h
  have hW : WW G A s.heap (wX7 a ct g sg) s.heap [] := ⟨hP, hD, va_S.rf⟩
  have hl := lv_entry ([.ref (a 0), .int x1]) (n := 4) (Nat.le_of_ble_eq_true rfl)
  rw [lg_entry_eq]
  generalize (lg_sl ([.ref (a 0), .int x1]) ++ List.replicate (4 - (lg_sl ([.ref (a 0), .int x1])).length) Slot.unset).toArray = ls at hl ⊢
  have hl : lv_has ls 4 [(0, .ref (a 0)), (1, .int x1)] := hl
  unfold f_X7_guests at hf
  show W p l e ({ frames := 3, cells := 0, slots := 0, locals := 73 } : Room) s m (List.toArray [.ref (a 0), .int x1]) below meth c s.heap [] 0 0 (MQ below (va_Qi (fun r (_ : Unit) => r = o) (fun _ t => Af_ G ct (wX7 a ct g sg) A t) A) (List.toArray [.ref (a 0), .int x1]) s 0 0 A) (F0 m 0 ls [])
  refine lv_aload_n hx hb dX7_guests_0 rfl (lv_at hl 0 rfl) ?_
  refine lv_iload_n hx hb dX7_guests_1 rfl (lv_at hl 1 rfl) ?_
  replace hf := bs_ hf; obtain ⟨r1, hcl, hf⟩ := hf
  refine x_callW_i (w' := (wX7 a ct g sg)) (As := [.int x1]) (rest := []) (ci := 7) ⟨hx, hb, hml, hown, hts⟩ (c_X7_isPerson l N kd G ct a g sg x1 _ hcl) (cwV 1 hts gX7_guests_X7_isPerson rfl rfl rfl (by decide +kernel) ⟨Nat.le_of_ble_eq_true rfl, Nat.le_of_ble_eq_true rfl⟩) hK hE hA hW rfl rfl 0 rfl rfl rfl rfl hl.1 rfl (lv_room (Nat.le_of_ble_eq_true rfl)) dX7_guests_2 (fun H locs hW => ?_)
  refine lv_if_ne (tgt := 11) hx hb dX7_guests_5 (by decide) (fun hc => ?_) (fun hc => ?_)
  · replace hf := ifn hc hf
    refine lv_iconst (v := (0 : Int32)) hx hb dX7_guests_11 (by decide) ?_
    refine lv_istore_n (lv' := [(2, .int (0 : Int32)), (0, .ref (a 0)), (1, .int x1)]) hx hb dX7_guests_12 rfl hl (by decide) rfl (fun ls hl => ?_)
    refine lv_iconst (v := (0 : Int32)) hx hb dX7_guests_13 (by decide) ?_
    refine lv_istore_n (lv' := [(3, .int (0 : Int32)), (2, .int (0 : Int32)), (0, .ref (a 0)), (1, .int x1)]) hx hb dX7_guests_14 rfl hl (by decide) rfl (fun ls hl => ?_)
    replace hf := bs_ hf; obtain ⟨v2, hg, hf⟩ := hf
    have J2 : ∀ (H : Heap) (locs : List Loc) (ls : Array Slot), WW G A s.heap (wX7 a ct g sg) H locs → lv_has ls 4 [(2, .int v2)] → W p l e ({ frames := 3, cells := 0, slots := 0, locals := 73 } : Room) s m (List.toArray [.ref (a 0), .int x1]) below meth c H locs 0 0 (MQ below (va_Qi (fun r (_ : Unit) => r = o) (fun _ t => Af_ G ct (wX7 a ct g sg) A t) A) (List.toArray [.ref (a 0), .int x1]) s 0 0 A) (F0 m 61 ls []) := by
      intro H locs ls hW hl
      refine lv_iload_n hx hb dX7_guests_61 rfl (lv_at hl 0 rfl) ?_
      have ho := Option.some.inj hf
      subst ho
      exact x_reti (sz := 0) (w0 := []) (A1 := A) hx hb hr hlocks hK hW rfl rfl dX7_guests_62
    clear hf
    have L2 : ∀ (n : Nat) (y2_2 : Int32) (y2_3 : Int32), f_X7_guests_L15 N g x1 n y2_2 y2_3 = some v2 → ∀ (H : Heap) (locs : List Loc) (ls : Array Slot), WW G A s.heap (wX7 a ct g sg) H locs → lv_has ls 4 [(0, .ref (a 0)), (1, .int x1), (2, .int y2_2), (3, .int y2_3)] → W p l e ({ frames := 3, cells := 0, slots := 0, locals := 73 } : Room) s m (List.toArray [.ref (a 0), .int x1]) below meth c H locs 0 0 (MQ below (va_Qi (fun r (_ : Unit) => r = o) (fun _ t => Af_ G ct (wX7 a ct g sg) A t) A) (List.toArray [.ref (a 0), .int x1]) s 0 0 A) (F0 m 15 ls []) := by
      intro n
      induction n with
      | zero =>
        intro y2_2 y2_3 hf
        rw [f_X7_guests_L15] at hf
        cases hf
      | succ n ih =>
        intro y2_2 y2_3 hf H locs ls hW hl
        rw [f_X7_guests_L15] at hf
        refine lv_iload_n hx hb dX7_guests_15 rfl (lv_at hl 3 rfl) ?_
        refine lv_aload_n hx hb dX7_guests_16 rfl (lv_at hl 0 rfl) ?_
        refine x_get (ci := 7) (v := .int (g 9 0)) (C := RX7) (T := TX7) (N := 44) hx hb hts inX7 hown hK hW 0 rfl rfl 8 (by decide) fl106 (fun _ h9 => h9) rfl dX7_guests_17 ?_
        refine lv_icmp_ge (tgt := 61) hx hb dX7_guests_20 (by decide) (fun hc => ?_) (fun hc => ?_)
        · replace hf := ifp hc hf
          have hj := Option.some.inj hf
          subst hj
          exact J2 _ _ _ hW (lv_sub hl [2] rfl)
        · replace hf := ifn hc hf
          refine lv_iload_n hx hb dX7_guests_23 rfl (lv_at hl 2 rfl) ?_
          refine lv_iload_n hx hb dX7_guests_24 rfl (lv_at hl 3 rfl) ?_
          refine lv_iload_n hx hb dX7_guests_25 rfl (lv_at hl 1 rfl) ?_
          replace hf := bs_ hf; obtain ⟨j3, hg, hf⟩ := hf
          have J3 : ∀ (H : Heap) (locs : List Loc) (ls : Array Slot), WW G A s.heap (wX7 a ct g sg) H locs → lv_has ls 4 [(0, .ref (a 0)), (1, .int x1), (3, .int y2_3)] → W p l e ({ frames := 3, cells := 0, slots := 0, locals := 73 } : Room) s m (List.toArray [.ref (a 0), .int x1]) below meth c H locs 0 0 (MQ below (va_Qi (fun r (_ : Unit) => r = o) (fun _ t => Af_ G ct (wX7 a ct g sg) A t) A) (List.toArray [.ref (a 0), .int x1]) s 0 0 A) (F0 m 53 ls (.int j3 :: .int y2_2 :: [])) := by
            intro H locs ls hW hl
            refine lv_ior hx hb dX7_guests_53 ?_
            refine lv_istore_n (lv' := [(2, .int (y2_2 ||| j3)), (0, .ref (a 0)), (1, .int x1), (3, .int y2_3)]) hx hb dX7_guests_54 rfl hl (by decide) rfl (fun ls hl => ?_)
            refine lv_iinc (v := (y2_3 + (1 : Int32))) (lv' := [(3, .int (y2_3 + (1 : Int32))), (2, .int (y2_2 ||| j3)), (0, .ref (a 0)), (1, .int x1)]) hx hb dX7_guests_55 hl (k := 3) rfl rfl (by decide) rfl (fun ls hl => ?_)
            refine lv_goto (tgt := 15) hx hb dX7_guests_58 (by decide) ?_
            exact ih (y2_2 ||| j3) (y2_3 + (1 : Int32)) hf _ _ _ hW (lv_sub hl [2, 3, 1, 0] rfl)
          clear hf
          refine lv_icmp_eq (tgt := 52) hx hb dX7_guests_26 (by decide) (fun hc => ?_) (fun hc => ?_)
          · have hf := ifp hc hg
            clear hg
            refine lv_iconst (v := (0 : Int32)) hx hb dX7_guests_52 (by decide) ?_
            have hj := Option.some.inj hf
            subst hj
            exact J3 _ _ _ hW (lv_sub hl [0, 1, 3] rfl)
          · have hf := ifn hc hg
            clear hg
            refine lv_aload_n hx hb dX7_guests_29 rfl (lv_at hl 0 rfl) ?_
            refine lv_iload_n hx hb dX7_guests_30 rfl (lv_at hl 3 rfl) ?_
            replace hf := bs_ hf; obtain ⟨r4, hcl, hf⟩ := hf
            refine x_callW_i (w' := (wX7 a ct g sg)) (As := [.int y2_3]) (rest := [.int y2_2]) (ci := 7) ⟨hx, hb, hml, hown, hts⟩ (c_X7_reachOfPerson l N kd G ct a g sg y2_3 _ hcl) (cwV 1 hts gX7_guests_X7_reachOfPerson rfl rfl rfl (by decide +kernel) ⟨Nat.le_of_ble_eq_true rfl, Nat.le_of_ble_eq_true rfl⟩) hK hE hA hW rfl rfl 0 rfl rfl rfl rfl hl.1 rfl (lv_room (Nat.le_of_ble_eq_true rfl)) dX7_guests_31 (fun H locs hW => ?_)
            refine lv_aload_n hx hb dX7_guests_34 rfl (lv_at hl 0 rfl) ?_
            refine x_get (ci := 7) (v := .ref (a 10)) (C := RX7) (T := TX7) (N := 44) hx hb hts inX7 hown hK hW 0 rfl rfl 9 (by decide) fl28 (fun _ h9 => h9) rfl dX7_guests_35 ?_
            refine lv_iload_n hx hb dX7_guests_38 rfl (lv_at hl 1 rfl) ?_
            replace hf := gd_s hf; obtain ⟨hin, hf⟩ := hf
            refine x_iald (n := 8) (f := g 10) hx hb hK hW 7 rfl (okI_in hin) dX7_guests_39 ?_
            replace hf := bs_ hf; obtain ⟨r5, hcl, hf⟩ := hf
            refine x_callS_i (As := [.int r4, .int (g 10 x1.toNatClampNeg)]) (rest := [.int y2_2]) ⟨hx, hb, hml, hown, hts⟩ (c_X7_has l N kd G ct r4 (g 10 x1.toNatClampNeg) _ hcl) (va_cwS 2 hts gX7_guests_X7_has rfl rfl rfl (by decide +kernel) ⟨Nat.le_of_ble_eq_true rfl, Nat.le_of_ble_eq_true rfl⟩) hK hE hA hW rfl hl.1 rfl (lv_room (Nat.le_of_ble_eq_true rfl)) dX7_guests_40 (fun H locs hW => ?_)
            refine lv_if_eq (tgt := 52) hx hb dX7_guests_43 (by decide) (fun hc => ?_) (fun hc => ?_)
            · replace hf := ifp hc hf
              refine lv_iconst (v := (0 : Int32)) hx hb dX7_guests_52 (by decide) ?_
              have hj := Option.some.inj hf
              subst hj
              exact J3 _ _ _ hW (lv_sub hl [0, 1, 3] rfl)
            · replace hf := ifn hc hf
              refine lv_iconst (v := (1 : Int32)) hx hb dX7_guests_46 (by decide) ?_
              refine lv_iload_n hx hb dX7_guests_47 rfl (lv_at hl 3 rfl) ?_
              refine lv_ishl hx hb dX7_guests_48 ?_
              refine lv_goto (tgt := 53) hx hb dX7_guests_49 (by decide) ?_
              have hj := Option.some.inj hf
              subst hj
              exact J3 _ _ _ hW (lv_sub hl [0, 1, 3] rfl)
    exact L2 N (0 : Int32) (0 : Int32) hg _ _ _ hW (lv_sub hl [2, 3, 1, 0] rfl)
  · replace hf := ifp hc hf
    refine lv_ldc (v := (-1000000001 : Int32)) hx hb hown fl221 dX7_guests_8 ?_
    have ho := Option.some.inj hf
    subst ho
    exact x_reti (sz := 0) (w0 := []) (A1 := A) hx hb hr hlocks hK hW rfl rfl dX7_guests_10
set_option maxHeartbeats 4000000 in
set_option maxRecDepth 100000 in
theorem c_X7_isWish (l : Launch) (N : Nat) (kd : (Nat → Nat) × (Nat → Nat)) (G : va_G) (ct : Nat → ClassId) (a : Nat → Nat) (g : St_) (sg : Int64) (x1 : Int32) (x2 : Int32) (x3 : Int32) (o : Int32) (hf : f_X7_isWish N g x1 x2 x3 = some o) : CtI l yX7_isWish wsX7_isWish ({ frames := 1, cells := 0, slots := 0, locals := 21 }) kd G ct [.ref (a 0), .int x1, .int x2, .int x3] (wX7 a ct g sg) o (wX7 a ct g sg) := by
  intro sz
  refine Met.ofW (cc := cX7_isWish) (maxL := 8) (ret := (some .boolean)) (by decide) rfl ?_
  intro p e s m args below meth c s₁ B hml hv
  obtain ⟨rfl, hsz, hP, hK, hD0, hE⟩ := hv
  have hx := B.exec
  have hb := B.bytes
  have hr := B.returns
  have hts := atoms_spec (ws := wsX7_isWish) B.pre
  have hown : s.vm.findClass RX7 = some m.cls := findClass_of_methodNamed B.named
  have hlocks := B.notSynchronized
  have inX7 : ∀ w ∈ wsX70, w ∈ wsX7_isWish := by decide +kernel
  have fl31 := hts (.fieldLink RX7 31 "FittingStridesModel" "first" "[I") (by decide +kernel)
  have fl34 := hts (.fieldLink RX7 34 "FittingStridesModel" "second" "[I") (by decide +kernel)
  have fl106 := hts (.fieldLink RX7 106 "FittingStridesModel" "persons" "I") (by decide +kernel)
  subst hsz
  have hD := hD0.self (sz := s.heap.size)
  generalize hAe : va_A (wX7 a ct g sg) s.heap.size = A at hD hE ⊢
  have hA : ∀ q : Nat, s.heap.size ≤ q → A q := fun q h => by rw [← hAe]; exact Or.inr h
  have hW : WW G A s.heap (wX7 a ct g sg) s.heap [] := ⟨hP, hD, va_S.rf⟩
  have hl := lv_entry ([.ref (a 0), .int x1, .int x2, .int x3]) (n := 8) (Nat.le_of_ble_eq_true rfl)
  rw [lg_entry_eq]
  generalize (lg_sl ([.ref (a 0), .int x1, .int x2, .int x3]) ++ List.replicate (8 - (lg_sl ([.ref (a 0), .int x1, .int x2, .int x3])).length) Slot.unset).toArray = ls at hl ⊢
  have hl : lv_has ls 8 [(0, .ref (a 0)), (1, .int x1), (2, .int x2), (3, .int x3)] := hl
  unfold f_X7_isWish at hf
  show W p l e ({ frames := 1, cells := 0, slots := 0, locals := 21 } : Room) s m (List.toArray [.ref (a 0), .int x1, .int x2, .int x3]) below meth c s.heap [] 0 0 (MQ below (va_Qi (fun r (_ : Unit) => r = o) (fun _ t => Af_ G ct (wX7 a ct g sg) A t) A) (List.toArray [.ref (a 0), .int x1, .int x2, .int x3]) s 0 0 A) (F0 m 0 ls [])
  refine lv_iconst (v := (1 : Int32)) hx hb dX7_isWish_0 (by decide) ?_
  refine lv_istore (lv' := [(4, .int (1 : Int32)), (0, .ref (a 0)), (1, .int x1), (2, .int x2), (3, .int x3)]) hx hb dX7_isWish_1 hl (by decide) rfl (fun ls hl => ?_)
  refine lv_iconst (v := (0 : Int32)) hx hb dX7_isWish_3 (by decide) ?_
  refine lv_istore (lv' := [(5, .int (0 : Int32)), (4, .int (1 : Int32)), (0, .ref (a 0)), (1, .int x1), (2, .int x2), (3, .int x3)]) hx hb dX7_isWish_4 hl (by decide) rfl (fun ls hl => ?_)
  replace hf := bs_ hf; obtain ⟨v1, hg, hf⟩ := hf
  have J1 : ∀ (H : Heap) (locs : List Loc) (ls : Array Slot), WW G A s.heap (wX7 a ct g sg) H locs → lv_has ls 8 [(4, .int v1)] → W p l e ({ frames := 1, cells := 0, slots := 0, locals := 21 } : Room) s m (List.toArray [.ref (a 0), .int x1, .int x2, .int x3]) below meth c H locs 0 0 (MQ below (va_Qi (fun r (_ : Unit) => r = o) (fun _ t => Af_ G ct (wX7 a ct g sg) A t) A) (List.toArray [.ref (a 0), .int x1, .int x2, .int x3]) s 0 0 A) (F0 m 114 ls []) := by
    intro H locs ls hW hl
    refine lv_iload hx hb dX7_isWish_114 (lv_at hl 0 rfl) ?_
    replace hf := gd_s hf; obtain ⟨hB, hf⟩ := hf
    have ho := Option.some.inj hf
    subst ho
    exact x_retz hx hb hr (isB_nar hB) hlocks hK hW rfl rfl dX7_isWish_116
  clear hf
  have L1 : ∀ (n : Nat) (y1_4 : Int32) (y1_5 : Int32), f_X7_isWish_L6 N g x1 x2 x3 n y1_4 y1_5 = some v1 → ∀ (H : Heap) (locs : List Loc) (ls : Array Slot), WW G A s.heap (wX7 a ct g sg) H locs → lv_has ls 8 [(0, .ref (a 0)), (1, .int x1), (2, .int x2), (3, .int x3), (4, .int y1_4), (5, .int y1_5)] → W p l e ({ frames := 1, cells := 0, slots := 0, locals := 21 } : Room) s m (List.toArray [.ref (a 0), .int x1, .int x2, .int x3]) below meth c H locs 0 0 (MQ below (va_Qi (fun r (_ : Unit) => r = o) (fun _ t => Af_ G ct (wX7 a ct g sg) A t) A) (List.toArray [.ref (a 0), .int x1, .int x2, .int x3]) s 0 0 A) (F0 m 6 ls []) := by
    intro n
    induction n with
    | zero =>
      intro y1_4 y1_5 hf
      rw [f_X7_isWish_L6] at hf
      cases hf
    | succ n ih =>
      intro y1_4 y1_5 hf H locs ls hW hl
      rw [f_X7_isWish_L6] at hf
      refine lv_iload hx hb dX7_isWish_6 (lv_at hl 5 rfl) ?_
      refine lv_aload_n hx hb dX7_isWish_8 rfl (lv_at hl 0 rfl) ?_
      refine x_get (ci := 7) (v := .int (g 9 0)) (C := RX7) (T := TX7) (N := 44) hx hb hts inX7 hown hK hW 0 rfl rfl 8 (by decide) fl106 (fun _ h9 => h9) rfl dX7_isWish_9 ?_
      refine lv_icmp_ge (tgt := 114) hx hb dX7_isWish_12 (by decide) (fun hc => ?_) (fun hc => ?_)
      · replace hf := ifp hc hf
        have hj := Option.some.inj hf
        subst hj
        exact J1 _ _ _ hW (lv_sub hl [4] rfl)
      · replace hf := ifn hc hf
        refine lv_iload_n hx hb dX7_isWish_15 rfl (lv_at hl 1 rfl) ?_
        refine lv_aload_n hx hb dX7_isWish_16 rfl (lv_at hl 0 rfl) ?_
        refine x_get (ci := 7) (v := .ref (a 11)) (C := RX7) (T := TX7) (N := 44) hx hb hts inX7 hown hK hW 0 rfl rfl 10 (by decide) fl31 (fun _ h9 => h9) rfl dX7_isWish_17 ?_
        refine lv_iload hx hb dX7_isWish_20 (lv_at hl 5 rfl) ?_
        replace hf := gd_s hf; obtain ⟨hin, hf⟩ := hf
        refine x_iald (n := 8) (f := g 11) hx hb hK hW 8 rfl (okI_in hin) dX7_isWish_22 ?_
        replace hf := gd_s hf; obtain ⟨hnz, hf⟩ := hf
        refine lv_irem hx hb dX7_isWish_23 (nzI_s hnz) ?_
        replace hf := bs_ hf; obtain ⟨j2, hg, hf⟩ := hf
        have J2 : ∀ (H : Heap) (locs : List Loc) (ls : Array Slot), WW G A s.heap (wX7 a ct g sg) H locs → lv_has ls 8 [(0, .ref (a 0)), (1, .int x1), (2, .int x2), (3, .int x3), (4, .int y1_4), (5, .int y1_5)] → W p l e ({ frames := 1, cells := 0, slots := 0, locals := 21 } : Room) s m (List.toArray [.ref (a 0), .int x1, .int x2, .int x3]) below meth c H locs 0 0 (MQ below (va_Qi (fun r (_ : Unit) => r = o) (fun _ t => Af_ G ct (wX7 a ct g sg) A t) A) (List.toArray [.ref (a 0), .int x1, .int x2, .int x3]) s 0 0 A) (F0 m 32 ls (.int j2 :: [])) := by
          intro H locs ls hW hl
          refine lv_istore (lv' := [(6, .int j2), (0, .ref (a 0)), (1, .int x1), (2, .int x2), (3, .int x3), (4, .int y1_4), (5, .int y1_5)]) hx hb dX7_isWish_32 hl (by decide) rfl (fun ls hl => ?_)
          refine lv_iload hx hb dX7_isWish_34 (lv_at hl 0 rfl) ?_
          replace hf := bs_ hf; obtain ⟨j3, hg, hf⟩ := hf
          have J3 : ∀ (H : Heap) (locs : List Loc) (ls : Array Slot), WW G A s.heap (wX7 a ct g sg) H locs → lv_has ls 8 [(0, .ref (a 0)), (1, .int x1), (2, .int x2), (3, .int x3), (4, .int y1_4), (5, .int y1_5), (6, .int j2)] → W p l e ({ frames := 1, cells := 0, slots := 0, locals := 21 } : Room) s m (List.toArray [.ref (a 0), .int x1, .int x2, .int x3]) below meth c H locs 0 0 (MQ below (va_Qi (fun r (_ : Unit) => r = o) (fun _ t => Af_ G ct (wX7 a ct g sg) A t) A) (List.toArray [.ref (a 0), .int x1, .int x2, .int x3]) s 0 0 A) (F0 m 66 ls (.int j3 :: [])) := by
            intro H locs ls hW hl
            refine lv_istore (lv' := [(7, .int j3), (0, .ref (a 0)), (1, .int x1), (2, .int x2), (3, .int x3), (4, .int y1_4), (5, .int y1_5), (6, .int j2)]) hx hb dX7_isWish_66 hl (by decide) rfl (fun ls hl => ?_)
            refine lv_iload hx hb dX7_isWish_68 (lv_at hl 5 rfl) ?_
            replace hf := bs_ hf; obtain ⟨j4, hg, hf⟩ := hf
            have J4 : ∀ (H : Heap) (locs : List Loc) (ls : Array Slot), WW G A s.heap (wX7 a ct g sg) H locs → lv_has ls 8 [(0, .ref (a 0)), (1, .int x1), (2, .int x2), (3, .int x3), (5, .int y1_5)] → W p l e ({ frames := 1, cells := 0, slots := 0, locals := 21 } : Room) s m (List.toArray [.ref (a 0), .int x1, .int x2, .int x3]) below meth c H locs 0 0 (MQ below (va_Qi (fun r (_ : Unit) => r = o) (fun _ t => Af_ G ct (wX7 a ct g sg) A t) A) (List.toArray [.ref (a 0), .int x1, .int x2, .int x3]) s 0 0 A) (F0 m 106 ls (.int j4 :: [])) := by
              intro H locs ls hW hl
              refine lv_istore (lv' := [(4, .int j4), (0, .ref (a 0)), (1, .int x1), (2, .int x2), (3, .int x3), (5, .int y1_5)]) hx hb dX7_isWish_106 hl (by decide) rfl (fun ls hl => ?_)
              refine lv_iinc (v := (y1_5 + (1 : Int32))) (lv' := [(5, .int (y1_5 + (1 : Int32))), (4, .int j4), (0, .ref (a 0)), (1, .int x1), (2, .int x2), (3, .int x3)]) hx hb dX7_isWish_108 hl (k := 5) rfl rfl (by decide) rfl (fun ls hl => ?_)
              refine lv_goto (tgt := 6) hx hb dX7_isWish_111 (by decide) ?_
              exact ih j4 (y1_5 + (1 : Int32)) hf _ _ _ hW (lv_sub hl [2, 3, 4, 5, 1, 0] rfl)
            clear hf
            refine lv_if_eq (tgt := 105) hx hb dX7_isWish_70 (by decide) (fun hc => ?_) (fun hc => ?_)
            · have hf := ifp hc hg
              clear hg
              refine lv_iconst (v := (0 : Int32)) hx hb dX7_isWish_105 (by decide) ?_
              have hj := Option.some.inj hf
              subst hj
              exact J4 _ _ _ hW (lv_sub hl [1, 2, 3, 4, 6] rfl)
            · have hf := ifn hc hg
              clear hg
              refine lv_iload_n hx hb dX7_isWish_73 rfl (lv_at hl 3 rfl) ?_
              refine lv_iload hx hb dX7_isWish_74 (lv_at hl 6 rfl) ?_
              replace hf := bs_ hf; obtain ⟨r5, hcl, hf⟩ := hf
              refine x_callS_i (As := [.int x2, .int y1_5]) (rest := []) ⟨hx, hb, hml, hown, hts⟩ (c_X7_has l N kd G ct x2 y1_5 _ hcl) (va_cwS 2 hts gX7_isWish_X7_has rfl rfl rfl (by decide +kernel) ⟨Nat.le_of_ble_eq_true rfl, Nat.le_of_ble_eq_true rfl⟩) hK hE hA hW rfl hl.1 rfl (lv_room (Nat.le_of_ble_eq_true rfl)) dX7_isWish_76 (fun H locs hW => ?_)
              refine lv_if_eq (tgt := 87) hx hb dX7_isWish_79 (by decide) (fun hc => ?_) (fun hc => ?_)
              · replace hf := ifp hc hf
                refine lv_iload_n hx hb dX7_isWish_87 rfl (lv_at hl 4 rfl) ?_
                refine lv_iload hx hb dX7_isWish_88 (lv_at hl 6 rfl) ?_
                replace hf := bs_ hf; obtain ⟨r6, hcl, hf⟩ := hf
                refine x_callS_i (As := [.int x3, .int y1_5]) (rest := []) ⟨hx, hb, hml, hown, hts⟩ (c_X7_has l N kd G ct x3 y1_5 _ hcl) (va_cwS 2 hts gX7_isWish_X7_has rfl rfl rfl (by decide +kernel) ⟨Nat.le_of_ble_eq_true rfl, Nat.le_of_ble_eq_true rfl⟩) hK hE hA hW rfl hl.1 rfl (lv_room (Nat.le_of_ble_eq_true rfl)) dX7_isWish_90 (fun H locs hW => ?_)
                refine lv_if_eq (tgt := 101) hx hb dX7_isWish_93 (by decide) (fun hc => ?_) (fun hc => ?_)
                · replace hf := ifp hc hf
                  refine lv_iconst (v := (1 : Int32)) hx hb dX7_isWish_101 (by decide) ?_
                  refine lv_goto (tgt := 106) hx hb dX7_isWish_102 (by decide) ?_
                  have hj := Option.some.inj hf
                  subst hj
                  exact J4 _ _ _ hW (lv_sub hl [1, 2, 3, 4, 6] rfl)
                · replace hf := ifn hc hf
                  refine lv_iload hx hb dX7_isWish_96 (lv_at hl 0 rfl) ?_
                  refine lv_if_ne (tgt := 105) hx hb dX7_isWish_98 (by decide) (fun hc => ?_) (fun hc => ?_)
                  · replace hf := ifn hc hf
                    refine lv_iconst (v := (0 : Int32)) hx hb dX7_isWish_105 (by decide) ?_
                    have hj := Option.some.inj hf
                    subst hj
                    exact J4 _ _ _ hW (lv_sub hl [1, 2, 3, 4, 6] rfl)
                  · replace hf := ifp hc hf
                    refine lv_iconst (v := (1 : Int32)) hx hb dX7_isWish_101 (by decide) ?_
                    refine lv_goto (tgt := 106) hx hb dX7_isWish_102 (by decide) ?_
                    have hj := Option.some.inj hf
                    subst hj
                    exact J4 _ _ _ hW (lv_sub hl [1, 2, 3, 4, 6] rfl)
              · replace hf := ifn hc hf
                refine lv_iload hx hb dX7_isWish_82 (lv_at hl 7 rfl) ?_
                refine lv_if_eq (tgt := 105) hx hb dX7_isWish_84 (by decide) (fun hc => ?_) (fun hc => ?_)
                · replace hf := ifp hc hf
                  refine lv_iconst (v := (0 : Int32)) hx hb dX7_isWish_105 (by decide) ?_
                  have hj := Option.some.inj hf
                  subst hj
                  exact J4 _ _ _ hW (lv_sub hl [1, 2, 3, 4, 6] rfl)
                · replace hf := ifn hc hf
                  refine lv_iload_n hx hb dX7_isWish_87 rfl (lv_at hl 4 rfl) ?_
                  refine lv_iload hx hb dX7_isWish_88 (lv_at hl 6 rfl) ?_
                  replace hf := bs_ hf; obtain ⟨r7, hcl, hf⟩ := hf
                  refine x_callS_i (As := [.int x3, .int y1_5]) (rest := []) ⟨hx, hb, hml, hown, hts⟩ (c_X7_has l N kd G ct x3 y1_5 _ hcl) (va_cwS 2 hts gX7_isWish_X7_has rfl rfl rfl (by decide +kernel) ⟨Nat.le_of_ble_eq_true rfl, Nat.le_of_ble_eq_true rfl⟩) hK hE hA hW rfl hl.1 rfl (lv_room (Nat.le_of_ble_eq_true rfl)) dX7_isWish_90 (fun H locs hW => ?_)
                  refine lv_if_eq (tgt := 101) hx hb dX7_isWish_93 (by decide) (fun hc => ?_) (fun hc => ?_)
                  · replace hf := ifp hc hf
                    refine lv_iconst (v := (1 : Int32)) hx hb dX7_isWish_101 (by decide) ?_
                    refine lv_goto (tgt := 106) hx hb dX7_isWish_102 (by decide) ?_
                    have hj := Option.some.inj hf
                    subst hj
                    exact J4 _ _ _ hW (lv_sub hl [1, 2, 3, 4, 6] rfl)
                  · replace hf := ifn hc hf
                    refine lv_iload hx hb dX7_isWish_96 (lv_at hl 0 rfl) ?_
                    refine lv_if_ne (tgt := 105) hx hb dX7_isWish_98 (by decide) (fun hc => ?_) (fun hc => ?_)
                    · replace hf := ifn hc hf
                      refine lv_iconst (v := (0 : Int32)) hx hb dX7_isWish_105 (by decide) ?_
                      have hj := Option.some.inj hf
                      subst hj
                      exact J4 _ _ _ hW (lv_sub hl [1, 2, 3, 4, 6] rfl)
                    · replace hf := ifp hc hf
                      refine lv_iconst (v := (1 : Int32)) hx hb dX7_isWish_101 (by decide) ?_
                      refine lv_goto (tgt := 106) hx hb dX7_isWish_102 (by decide) ?_
                      have hj := Option.some.inj hf
                      subst hj
                      exact J4 _ _ _ hW (lv_sub hl [1, 2, 3, 4, 6] rfl)
          clear hf
          refine lv_if_ne (tgt := 61) hx hb dX7_isWish_36 (by decide) (fun hc => ?_) (fun hc => ?_)
          · have hf := ifn hc hg
            clear hg
            refine lv_iconst (v := (1 : Int32)) hx hb dX7_isWish_61 (by decide) ?_
            refine lv_goto (tgt := 66) hx hb dX7_isWish_62 (by decide) ?_
            have hj := Option.some.inj hf
            subst hj
            exact J3 _ _ _ hW (lv_sub hl [1, 2, 3, 4, 5, 6, 0] rfl)
          · have hf := ifp hc hg
            clear hg
            refine lv_aload_n hx hb dX7_isWish_39 rfl (lv_at hl 1 rfl) ?_
            refine x_get (ci := 7) (v := .ref (a 12)) (C := RX7) (T := TX7) (N := 44) hx hb hts inX7 hown hK hW 0 rfl rfl 11 (by decide) fl34 (fun _ h9 => h9) rfl dX7_isWish_40 ?_
            refine lv_iload hx hb dX7_isWish_43 (lv_at hl 6 rfl) ?_
            replace hf := gd_s hf; obtain ⟨hin, hf⟩ := hf
            refine x_iald (n := 8) (f := g 12) hx hb hK hW 9 rfl (okI_in hin) dX7_isWish_45 ?_
            refine lv_if_le (tgt := 65) hx hb dX7_isWish_46 (by decide) (fun hc => ?_) (fun hc => ?_)
            · replace hf := ifp hc hf
              refine lv_iconst (v := (0 : Int32)) hx hb dX7_isWish_65 (by decide) ?_
              have hj := Option.some.inj hf
              subst hj
              exact J3 _ _ _ hW (lv_sub hl [1, 2, 3, 4, 5, 6, 0] rfl)
            · replace hf := ifn hc hf
              refine lv_iload_n hx hb dX7_isWish_49 rfl (lv_at hl 2 rfl) ?_
              refine lv_aload_n hx hb dX7_isWish_50 rfl (lv_at hl 1 rfl) ?_
              refine x_get (ci := 7) (v := .ref (a 12)) (C := RX7) (T := TX7) (N := 44) hx hb hts inX7 hown hK hW 0 rfl rfl 11 (by decide) fl34 (fun _ h9 => h9) rfl dX7_isWish_51 ?_
              refine lv_iload hx hb dX7_isWish_54 (lv_at hl 6 rfl) ?_
              replace hf := gd_s hf; obtain ⟨hin, hf⟩ := hf
              refine x_iald (n := 8) (f := g 12) hx hb hK hW 9 rfl (okI_in hin) dX7_isWish_56 ?_
              replace hf := gd_s hf; obtain ⟨hnz, hf⟩ := hf
              refine lv_irem hx hb dX7_isWish_57 (nzI_s hnz) ?_
              refine lv_if_ne (tgt := 65) hx hb dX7_isWish_58 (by decide) (fun hc => ?_) (fun hc => ?_)
              · replace hf := ifn hc hf
                refine lv_iconst (v := (0 : Int32)) hx hb dX7_isWish_65 (by decide) ?_
                have hj := Option.some.inj hf
                subst hj
                exact J3 _ _ _ hW (lv_sub hl [1, 2, 3, 4, 5, 6, 0] rfl)
              · replace hf := ifp hc hf
                refine lv_iconst (v := (1 : Int32)) hx hb dX7_isWish_61 (by decide) ?_
                refine lv_goto (tgt := 66) hx hb dX7_isWish_62 (by decide) ?_
                have hj := Option.some.inj hf
                subst hj
                exact J3 _ _ _ hW (lv_sub hl [1, 2, 3, 4, 5, 6, 0] rfl)
        clear hf
        refine lv_if_ne (tgt := 31) hx hb dX7_isWish_24 (by decide) (fun hc => ?_) (fun hc => ?_)
        · have hf := ifn hc hg
          clear hg
          refine lv_iconst (v := (0 : Int32)) hx hb dX7_isWish_31 (by decide) ?_
          have hj := Option.some.inj hf
          subst hj
          exact J2 _ _ _ hW (lv_sub hl [0, 1, 2, 3, 4, 5] rfl)
        · have hf := ifp hc hg
          clear hg
          refine lv_iconst (v := (1 : Int32)) hx hb dX7_isWish_27 (by decide) ?_
          refine lv_goto (tgt := 32) hx hb dX7_isWish_28 (by decide) ?_
          have hj := Option.some.inj hf
          subst hj
          exact J2 _ _ _ hW (lv_sub hl [0, 1, 2, 3, 4, 5] rfl)
  exact L1 N (1 : Int32) (0 : Int32) hg _ _ _ hW (lv_sub hl [2, 3, 4, 5, 1, 0] rfl)
set_option maxHeartbeats 4000000 in
set_option maxRecDepth 100000 in
theorem c_X7_wish (l : Launch) (N : Nat) (kd : (Nat → Nat) × (Nat → Nat)) (G : va_G) (ct : Nat → ClassId) (a : Nat → Nat) (g : St_) (sg : Int64) (x1 : Int32) (x2 : Int32) (o : Int32) (hf : f_X7_wish N g x1 x2 = some o) : CtI l yX7_wish wsX7_wish ({ frames := 2, cells := 0, slots := 0, locals := 48 }) kd G ct [.ref (a 0), .int x1, .int x2] (wX7 a ct g sg) o (wX7 a ct g sg) := by
  intro sz
  refine Met.ofW (cc := cX7_wish) (maxL := 5) (ret := (some .int)) (by decide) rfl ?_
  intro p e s m args below meth c s₁ B hml hv
  obtain ⟨rfl, hsz, hP, hK, hD0, hE⟩ := hv
  have hx := B.exec
  have hb := B.bytes
  have hr := B.returns
  have hts := atoms_spec (ws := wsX7_wish) B.pre
  have hown : s.vm.findClass RX7 = some m.cls := findClass_of_methodNamed B.named
  have hlocks := B.notSynchronized
  have inX7 : ∀ w ∈ wsX70, w ∈ wsX7_wish := by decide +kernel
  have fl106 := hts (.fieldLink RX7 106 "FittingStridesModel" "persons" "I") (by decide +kernel)
  have fl221 := hts (.constant RX7 221 (-1000000001)) (by decide +kernel)
  have fl271 := hts (.constant RX7 271 (100000)) (by decide +kernel)
  subst hsz
  have hD := hD0.self (sz := s.heap.size)
  generalize hAe : va_A (wX7 a ct g sg) s.heap.size = A at hD hE ⊢
  have hA : ∀ q : Nat, s.heap.size ≤ q → A q := fun q h => by rw [← hAe]; exact Or.inr h
  have hW : WW G A s.heap (wX7 a ct g sg) s.heap [] := ⟨hP, hD, va_S.rf⟩
  have hl := lv_entry ([.ref (a 0), .int x1, .int x2]) (n := 5) (Nat.le_of_ble_eq_true rfl)
  rw [lg_entry_eq]
  generalize (lg_sl ([.ref (a 0), .int x1, .int x2]) ++ List.replicate (5 - (lg_sl ([.ref (a 0), .int x1, .int x2])).length) Slot.unset).toArray = ls at hl ⊢
  have hl : lv_has ls 5 [(0, .ref (a 0)), (1, .int x1), (2, .int x2)] := hl
  unfold f_X7_wish at hf
  show W p l e ({ frames := 2, cells := 0, slots := 0, locals := 48 } : Room) s m (List.toArray [.ref (a 0), .int x1, .int x2]) below meth c s.heap [] 0 0 (MQ below (va_Qi (fun r (_ : Unit) => r = o) (fun _ t => Af_ G ct (wX7 a ct g sg) A t) A) (List.toArray [.ref (a 0), .int x1, .int x2]) s 0 0 A) (F0 m 0 ls [])
  refine lv_iconst (v := (1 : Int32)) hx hb dX7_wish_0 (by decide) ?_
  refine lv_aload_n hx hb dX7_wish_1 rfl (lv_at hl 0 rfl) ?_
  refine x_get (ci := 7) (v := .int (g 9 0)) (C := RX7) (T := TX7) (N := 44) hx hb hts inX7 hown hK hW 0 rfl rfl 8 (by decide) fl106 (fun _ h9 => h9) rfl dX7_wish_2 ?_
  refine lv_ishl hx hb dX7_wish_5 ?_
  refine lv_iconst (v := (1 : Int32)) hx hb dX7_wish_6 (by decide) ?_
  refine lv_isub hx hb dX7_wish_7 ?_
  refine lv_istore_n (lv' := [(3, .int (((1 : Int32) <<< ((g 9 0) &&& 31)) - (1 : Int32))), (0, .ref (a 0)), (1, .int x1), (2, .int x2)]) hx hb dX7_wish_8 rfl hl (by decide) rfl (fun ls hl => ?_)
  refine lv_iload_n hx hb dX7_wish_9 rfl (lv_at hl 2 rfl) ?_
  refine lv_i2l hx hb dX7_wish_10 rfl ?_
  refine lv_lconst (v := (0 : Int64)) hx hb dX7_wish_11 (by decide) ?_
  refine lv_iload_n hx hb dX7_wish_12 rfl (lv_at hl 0 rfl) ?_
  refine lv_i2l hx hb dX7_wish_13 rfl ?_
  replace hf := bs_ hf; obtain ⟨r1, hcl, hf⟩ := hf
  refine x_callS_i (As := [.long x1.toInt64, .long (0 : Int64), .long (((1 : Int32) <<< ((g 9 0) &&& 31)) - (1 : Int32)).toInt64]) (rest := []) ⟨hx, hb, hml, hown, hts⟩ (c_X7_in l N kd G ct x1.toInt64 (0 : Int64) ((((1 : Int32) <<< ((g 9 0) &&& 31)) - (1 : Int32)).toInt64) _ hcl) (va_cwS 3 hts gX7_wish_X7_in rfl rfl rfl (by decide +kernel) ⟨Nat.le_of_ble_eq_true rfl, Nat.le_of_ble_eq_true rfl⟩) hK hE hA hW rfl hl.1 rfl (lv_room (Nat.le_of_ble_eq_true rfl)) dX7_wish_14 (fun H locs hW => ?_)
  refine lv_if_eq (tgt := 31) hx hb dX7_wish_17 (by decide) (fun hc => ?_) (fun hc => ?_)
  · replace hf := ifp hc hf
    refine lv_ldc (v := (-1000000001 : Int32)) hx hb hown fl221 dX7_wish_31 ?_
    have ho := Option.some.inj hf
    subst ho
    exact x_reti (sz := 0) (w0 := []) (A1 := A) hx hb hr hlocks hK hW rfl rfl dX7_wish_33
  · replace hf := ifn hc hf
    refine lv_iload_n hx hb dX7_wish_20 rfl (lv_at hl 3 rfl) ?_
    refine lv_i2l hx hb dX7_wish_21 rfl ?_
    refine lv_lconst (v := (0 : Int64)) hx hb dX7_wish_22 (by decide) ?_
    refine lv_iload_n hx hb dX7_wish_23 rfl (lv_at hl 0 rfl) ?_
    refine lv_i2l hx hb dX7_wish_24 rfl ?_
    replace hf := bs_ hf; obtain ⟨r2, hcl, hf⟩ := hf
    refine x_callS_i (As := [.long x2.toInt64, .long (0 : Int64), .long (((1 : Int32) <<< ((g 9 0) &&& 31)) - (1 : Int32)).toInt64]) (rest := []) ⟨hx, hb, hml, hown, hts⟩ (c_X7_in l N kd G ct x2.toInt64 (0 : Int64) ((((1 : Int32) <<< ((g 9 0) &&& 31)) - (1 : Int32)).toInt64) _ hcl) (va_cwS 3 hts gX7_wish_X7_in rfl rfl rfl (by decide +kernel) ⟨Nat.le_of_ble_eq_true rfl, Nat.le_of_ble_eq_true rfl⟩) hK hE hA hW rfl hl.1 rfl (lv_room (Nat.le_of_ble_eq_true rfl)) dX7_wish_25 (fun H locs hW => ?_)
    refine lv_if_ne (tgt := 34) hx hb dX7_wish_28 (by decide) (fun hc => ?_) (fun hc => ?_)
    · replace hf := ifn hc hf
      refine lv_iconst (v := (1 : Int32)) hx hb dX7_wish_34 (by decide) ?_
      refine lv_istore (lv' := [(4, .int (1 : Int32)), (3, .int (((1 : Int32) <<< ((g 9 0) &&& 31)) - (1 : Int32))), (0, .ref (a 0)), (1, .int x1), (2, .int x2)]) hx hb dX7_wish_35 hl (by decide) rfl (fun ls hl => ?_)
      replace hf := bs_ hf; obtain ⟨jr, hg, hf⟩ := hf
      have hR3 : ∀ r, jr = Sum.inl r → r = o := fun r hr0 => by subst hr0; have h8 := se_l hf; exact Option.some.inj h8
      have J3 : ∀ (v3 : Unit), jr = Sum.inr v3 → ∀ (H : Heap) (locs : List Loc) (ls : Array Slot), WW G A s.heap (wX7 a ct g sg) H locs → lv_has ls 5 [] → W p l e ({ frames := 2, cells := 0, slots := 0, locals := 48 } : Room) s m (List.toArray [.ref (a 0), .int x1, .int x2]) below meth c H locs 0 0 (MQ below (va_Qi (fun r (_ : Unit) => r = o) (fun _ t => Af_ G ct (wX7 a ct g sg) A t) A) (List.toArray [.ref (a 0), .int x1, .int x2]) s 0 0 A) (F0 m 65 ls []) := by
        intro v3 hjr H locs ls hW hl
        subst hjr
        replace hf := se_r hf
        refine lv_iconst (v := (-1 : Int32)) hx hb dX7_wish_65 (by decide) ?_
        have ho := Option.some.inj hf
        subst ho
        exact x_reti (sz := 0) (w0 := []) (A1 := A) hx hb hr hlocks hK hW rfl rfl dX7_wish_66
      clear hf
      have L3 : ∀ (n : Nat) (y3_4 : Int32), f_X7_wish_L37 N g x1 x2 n y3_4 = some jr → ∀ (H : Heap) (locs : List Loc) (ls : Array Slot), WW G A s.heap (wX7 a ct g sg) H locs → lv_has ls 5 [(0, .ref (a 0)), (1, .int x1), (2, .int x2), (4, .int y3_4)] → W p l e ({ frames := 2, cells := 0, slots := 0, locals := 48 } : Room) s m (List.toArray [.ref (a 0), .int x1, .int x2]) below meth c H locs 0 0 (MQ below (va_Qi (fun r (_ : Unit) => r = o) (fun _ t => Af_ G ct (wX7 a ct g sg) A t) A) (List.toArray [.ref (a 0), .int x1, .int x2]) s 0 0 A) (F0 m 37 ls []) := by
        intro n
        induction n with
        | zero =>
          intro y3_4 hf
          rw [f_X7_wish_L37] at hf
          cases hf
        | succ n ih =>
          intro y3_4 hf H locs ls hW hl
          rw [f_X7_wish_L37] at hf
          refine lv_iload hx hb dX7_wish_37 (lv_at hl 3 rfl) ?_
          refine lv_ldcw (v := (100000 : Int32)) hx hb hown fl271 dX7_wish_39 ?_
          refine lv_icmp_gt (tgt := 65) hx hb dX7_wish_42 (by decide) (fun hc => ?_) (fun hc => ?_)
          · replace hf := ifp hc hf
            have hj := (Option.some.inj hf).symm
            exact J3 _ hj _ _ _ hW (lv_sub hl [] rfl)
          · replace hf := ifn hc hf
            refine lv_aload_n hx hb dX7_wish_45 rfl (lv_at hl 0 rfl) ?_
            refine lv_iload hx hb dX7_wish_46 (lv_at hl 3 rfl) ?_
            refine lv_iload_n hx hb dX7_wish_48 rfl (lv_at hl 1 rfl) ?_
            refine lv_iload_n hx hb dX7_wish_49 rfl (lv_at hl 2 rfl) ?_
            replace hf := bs_ hf; obtain ⟨r4, hcl, hf⟩ := hf
            refine x_callW_i (w' := (wX7 a ct g sg)) (As := [.int y3_4, .int x1, .int x2]) (rest := []) (ci := 7) ⟨hx, hb, hml, hown, hts⟩ (c_X7_isWish l N kd G ct a g sg y3_4 x1 x2 _ hcl) (cwV 3 hts gX7_wish_X7_isWish rfl rfl rfl (by decide +kernel) ⟨Nat.le_of_ble_eq_true rfl, Nat.le_of_ble_eq_true rfl⟩) hK hE hA hW rfl rfl 0 rfl rfl rfl rfl hl.1 rfl (lv_room (Nat.le_of_ble_eq_true rfl)) dX7_wish_50 (fun H locs hW => ?_)
            refine lv_if_eq (tgt := 59) hx hb dX7_wish_53 (by decide) (fun hc => ?_) (fun hc => ?_)
            · replace hf := ifp hc hf
              refine lv_iinc (v := (y3_4 + (1 : Int32))) (lv' := [(4, .int (y3_4 + (1 : Int32))), (0, .ref (a 0)), (1, .int x1), (2, .int x2)]) hx hb dX7_wish_59 hl (k := 3) rfl rfl (by decide) rfl (fun ls hl => ?_)
              refine lv_goto (tgt := 37) hx hb dX7_wish_62 (by decide) ?_
              exact ih (y3_4 + (1 : Int32)) hf _ _ _ hW (lv_sub hl [1, 2, 3, 0] rfl)
            · replace hf := ifn hc hf
              refine lv_iload hx hb dX7_wish_56 (lv_at hl 3 rfl) ?_
              have ho := hR3 _ (Option.some.inj hf).symm
              subst ho
              exact x_reti (sz := 0) (w0 := []) (A1 := A) hx hb hr hlocks hK hW rfl rfl dX7_wish_58
      exact L3 N (1 : Int32) hg _ _ _ hW (lv_sub hl [2, 3, 4, 0] rfl)
    · replace hf := ifp hc hf
      refine lv_ldc (v := (-1000000001 : Int32)) hx hb hown fl221 dX7_wish_31 ?_
      have ho := Option.some.inj hf
      subst ho
      exact x_reti (sz := 0) (w0 := []) (A1 := A) hx hb hr hlocks hK hW rfl rfl dX7_wish_33
set_option maxHeartbeats 4000000 in
set_option maxRecDepth 100000 in
theorem c_X7_pair (l : Launch) (N : Nat) (kd : (Nat → Nat) × (Nat → Nat)) (G : va_G) (ct : Nat → ClassId) (a : Nat → Nat) (g : St_) (sg : Int64) (x1 : Int32) (x2 : Int32) (x3 : Int32) (o : Int32) (hf : f_X7_pair N g x1 x2 x3 = some o) : CtI l yX7_pair wsX7_pair ({ frames := 3, cells := 0, slots := 0, locals := 73 }) kd G ct [.ref (a 0), .int x1, .int x2, .int x3] (wX7 a ct g sg) o (wX7 a ct g sg) := by
  intro sz
  refine Met.ofW (cc := cX7_pair) (maxL := 5) (ret := (some .int)) (by decide) rfl ?_
  intro p e s m args below meth c s₁ B hml hv
  obtain ⟨rfl, hsz, hP, hK, hD0, hE⟩ := hv
  have hx := B.exec
  have hb := B.bytes
  have hr := B.returns
  have hts := atoms_spec (ws := wsX7_pair) B.pre
  have hown : s.vm.findClass RX7 = some m.cls := findClass_of_methodNamed B.named
  have hlocks := B.notSynchronized
  have inX7 : ∀ w ∈ wsX70, w ∈ wsX7_pair := by decide +kernel
  have fl31 := hts (.fieldLink RX7 31 "FittingStridesModel" "first" "[I") (by decide +kernel)
  have fl111 := hts (.constant RX7 111 (-1000000002)) (by decide +kernel)
  have fl221 := hts (.constant RX7 221 (-1000000001)) (by decide +kernel)
  subst hsz
  have hD := hD0.self (sz := s.heap.size)
  generalize hAe : va_A (wX7 a ct g sg) s.heap.size = A at hD hE ⊢
  have hA : ∀ q : Nat, s.heap.size ≤ q → A q := fun q h => by rw [← hAe]; exact Or.inr h
  have hW : WW G A s.heap (wX7 a ct g sg) s.heap [] := ⟨hP, hD, va_S.rf⟩
  have hl := lv_entry ([.ref (a 0), .int x1, .int x2, .int x3]) (n := 5) (Nat.le_of_ble_eq_true rfl)
  rw [lg_entry_eq]
  generalize (lg_sl ([.ref (a 0), .int x1, .int x2, .int x3]) ++ List.replicate (5 - (lg_sl ([.ref (a 0), .int x1, .int x2, .int x3])).length) Slot.unset).toArray = ls at hl ⊢
  have hl : lv_has ls 5 [(0, .ref (a 0)), (1, .int x1), (2, .int x2), (3, .int x3)] := hl
  unfold f_X7_pair at hf
  show W p l e ({ frames := 3, cells := 0, slots := 0, locals := 73 } : Room) s m (List.toArray [.ref (a 0), .int x1, .int x2, .int x3]) below meth c s.heap [] 0 0 (MQ below (va_Qi (fun r (_ : Unit) => r = o) (fun _ t => Af_ G ct (wX7 a ct g sg) A t) A) (List.toArray [.ref (a 0), .int x1, .int x2, .int x3]) s 0 0 A) (F0 m 0 ls [])
  refine lv_aload_n hx hb dX7_pair_0 rfl (lv_at hl 0 rfl) ?_
  refine lv_iload_n hx hb dX7_pair_1 rfl (lv_at hl 1 rfl) ?_
  replace hf := bs_ hf; obtain ⟨r1, hcl, hf⟩ := hf
  refine x_callW_i (w' := (wX7 a ct g sg)) (As := [.int x1]) (rest := []) (ci := 7) ⟨hx, hb, hml, hown, hts⟩ (c_X7_isPerson l N kd G ct a g sg x1 _ hcl) (cwV 1 hts gX7_pair_X7_isPerson rfl rfl rfl (by decide +kernel) ⟨Nat.le_of_ble_eq_true rfl, Nat.le_of_ble_eq_true rfl⟩) hK hE hA hW rfl rfl 0 rfl rfl rfl rfl hl.1 rfl (lv_room (Nat.le_of_ble_eq_true rfl)) dX7_pair_2 (fun H locs hW => ?_)
  refine lv_if_eq (tgt := 21) hx hb dX7_pair_5 (by decide) (fun hc => ?_) (fun hc => ?_)
  · replace hf := ifp hc hf
    refine lv_ldc (v := (-1000000001 : Int32)) hx hb hown fl221 dX7_pair_21 ?_
    have ho := Option.some.inj hf
    subst ho
    exact x_reti (sz := 0) (w0 := []) (A1 := A) hx hb hr hlocks hK hW rfl rfl dX7_pair_23
  · replace hf := ifn hc hf
    refine lv_aload_n hx hb dX7_pair_8 rfl (lv_at hl 0 rfl) ?_
    refine lv_iload_n hx hb dX7_pair_9 rfl (lv_at hl 2 rfl) ?_
    replace hf := bs_ hf; obtain ⟨r2, hcl, hf⟩ := hf
    refine x_callW_i (w' := (wX7 a ct g sg)) (As := [.int x2]) (rest := []) (ci := 7) ⟨hx, hb, hml, hown, hts⟩ (c_X7_isPerson l N kd G ct a g sg x2 _ hcl) (cwV 1 hts gX7_pair_X7_isPerson rfl rfl rfl (by decide +kernel) ⟨Nat.le_of_ble_eq_true rfl, Nat.le_of_ble_eq_true rfl⟩) hK hE hA hW rfl rfl 0 rfl rfl rfl rfl hl.1 rfl (lv_room (Nat.le_of_ble_eq_true rfl)) dX7_pair_10 (fun H locs hW => ?_)
    refine lv_if_eq (tgt := 21) hx hb dX7_pair_13 (by decide) (fun hc => ?_) (fun hc => ?_)
    · replace hf := ifp hc hf
      refine lv_ldc (v := (-1000000001 : Int32)) hx hb hown fl221 dX7_pair_21 ?_
      have ho := Option.some.inj hf
      subst ho
      exact x_reti (sz := 0) (w0 := []) (A1 := A) hx hb hr hlocks hK hW rfl rfl dX7_pair_23
    · replace hf := ifn hc hf
      refine lv_iload_n hx hb dX7_pair_16 rfl (lv_at hl 1 rfl) ?_
      refine lv_iload_n hx hb dX7_pair_17 rfl (lv_at hl 2 rfl) ?_
      refine lv_icmp_ne (tgt := 24) hx hb dX7_pair_18 (by decide) (fun hc => ?_) (fun hc => ?_)
      · replace hf := ifn hc hf
        refine lv_iload_n hx hb dX7_pair_24 rfl (lv_at hl 3 rfl) ?_
        refine lv_i2l hx hb dX7_pair_25 rfl ?_
        refine lv_lconst (v := (0 : Int64)) hx hb dX7_pair_26 (by decide) ?_
        refine lv_lconst (v := (1 : Int64)) hx hb dX7_pair_27 (by decide) ?_
        replace hf := bs_ hf; obtain ⟨r3, hcl, hf⟩ := hf
        refine x_callS_i (As := [.long x3.toInt64, .long (0 : Int64), .long (1 : Int64)]) (rest := []) ⟨hx, hb, hml, hown, hts⟩ (c_X7_in l N kd G ct x3.toInt64 (0 : Int64) (1 : Int64) _ hcl) (va_cwS 3 hts gX7_pair_X7_in rfl rfl rfl (by decide +kernel) ⟨Nat.le_of_ble_eq_true rfl, Nat.le_of_ble_eq_true rfl⟩) hK hE hA hW rfl hl.1 rfl (lv_room (Nat.le_of_ble_eq_true rfl)) dX7_pair_28 (fun H locs hW => ?_)
        refine lv_if_ne (tgt := 37) hx hb dX7_pair_31 (by decide) (fun hc => ?_) (fun hc => ?_)
        · replace hf := ifn hc hf
          refine lv_iload_n hx hb dX7_pair_37 rfl (lv_at hl 3 rfl) ?_
          refine lv_if_ne (tgt := 53) hx hb dX7_pair_38 (by decide) (fun hc => ?_) (fun hc => ?_)
          · replace hf := ifn hc hf
            refine lv_iconst (v := (1 : Int32)) hx hb dX7_pair_53 (by decide) ?_
            refine lv_istore (lv' := [(4, .int (1 : Int32)), (0, .ref (a 0)), (1, .int x1), (2, .int x2), (3, .int x3)]) hx hb dX7_pair_54 hl (by decide) rfl (fun ls hl => ?_)
            replace hf := bs_ hf; obtain ⟨v4, hg, hf⟩ := hf
            have J4 : ∀ (H : Heap) (locs : List Loc) (ls : Array Slot), WW G A s.heap (wX7 a ct g sg) H locs → lv_has ls 5 [(4, .int v4)] → W p l e ({ frames := 3, cells := 0, slots := 0, locals := 73 } : Room) s m (List.toArray [.ref (a 0), .int x1, .int x2, .int x3]) below meth c H locs 0 0 (MQ below (va_Qi (fun r (_ : Unit) => r = o) (fun _ t => Af_ G ct (wX7 a ct g sg) A t) A) (List.toArray [.ref (a 0), .int x1, .int x2, .int x3]) s 0 0 A) (F0 m 86 ls []) := by
              intro H locs ls hW hl
              refine lv_iload hx hb dX7_pair_86 (lv_at hl 0 rfl) ?_
              have ho := Option.some.inj hf
              subst ho
              exact x_reti (sz := 0) (w0 := []) (A1 := A) hx hb hr hlocks hK hW rfl rfl dX7_pair_88
            clear hf
            have L4 : ∀ (n : Nat) (y4_4 : Int32), f_X7_pair_L56 N g x1 x2 n y4_4 = some v4 → ∀ (H : Heap) (locs : List Loc) (ls : Array Slot), WW G A s.heap (wX7 a ct g sg) H locs → lv_has ls 5 [(0, .ref (a 0)), (1, .int x1), (2, .int x2), (4, .int y4_4)] → W p l e ({ frames := 3, cells := 0, slots := 0, locals := 73 } : Room) s m (List.toArray [.ref (a 0), .int x1, .int x2, .int x3]) below meth c H locs 0 0 (MQ below (va_Qi (fun r (_ : Unit) => r = o) (fun _ t => Af_ G ct (wX7 a ct g sg) A t) A) (List.toArray [.ref (a 0), .int x1, .int x2, .int x3]) s 0 0 A) (F0 m 56 ls []) := by
              intro n
              induction n with
              | zero =>
                intro y4_4 hf
                rw [f_X7_pair_L56] at hf
                cases hf
              | succ n ih =>
                intro y4_4 hf H locs ls hW hl
                rw [f_X7_pair_L56] at hf
                refine lv_iload hx hb dX7_pair_56 (lv_at hl 3 rfl) ?_
                refine lv_aload_n hx hb dX7_pair_58 rfl (lv_at hl 0 rfl) ?_
                refine x_get (ci := 7) (v := .ref (a 11)) (C := RX7) (T := TX7) (N := 44) hx hb hts inX7 hown hK hW 0 rfl rfl 10 (by decide) fl31 (fun _ h9 => h9) rfl dX7_pair_59 ?_
                refine lv_iload_n hx hb dX7_pair_62 rfl (lv_at hl 1 rfl) ?_
                replace hf := gd_s hf; obtain ⟨hin, hf⟩ := hf
                refine x_iald (n := 8) (f := g 11) hx hb hK hW 8 rfl (okI_in hin) dX7_pair_63 ?_
                replace hf := gd_s hf; obtain ⟨hnz, hf⟩ := hf
                refine lv_irem hx hb dX7_pair_64 (nzI_s hnz) ?_
                refine lv_if_ne (tgt := 80) hx hb dX7_pair_65 (by decide) (fun hc => ?_) (fun hc => ?_)
                · replace hf := ifn hc hf
                  refine lv_iinc (v := (y4_4 + (1 : Int32))) (lv' := [(4, .int (y4_4 + (1 : Int32))), (0, .ref (a 0)), (1, .int x1), (2, .int x2)]) hx hb dX7_pair_80 hl (k := 3) rfl rfl (by decide) rfl (fun ls hl => ?_)
                  refine lv_goto (tgt := 56) hx hb dX7_pair_83 (by decide) ?_
                  exact ih (y4_4 + (1 : Int32)) hf _ _ _ hW (lv_sub hl [1, 2, 3, 0] rfl)
                · replace hf := ifp hc hf
                  refine lv_iload hx hb dX7_pair_68 (lv_at hl 3 rfl) ?_
                  refine lv_aload_n hx hb dX7_pair_70 rfl (lv_at hl 0 rfl) ?_
                  refine x_get (ci := 7) (v := .ref (a 11)) (C := RX7) (T := TX7) (N := 44) hx hb hts inX7 hown hK hW 0 rfl rfl 10 (by decide) fl31 (fun _ h9 => h9) rfl dX7_pair_71 ?_
                  refine lv_iload_n hx hb dX7_pair_74 rfl (lv_at hl 2 rfl) ?_
                  replace hf := gd_s hf; obtain ⟨hin, hf⟩ := hf
                  refine x_iald (n := 8) (f := g 11) hx hb hK hW 8 rfl (okI_in hin) dX7_pair_75 ?_
                  replace hf := gd_s hf; obtain ⟨hnz, hf⟩ := hf
                  refine lv_irem hx hb dX7_pair_76 (nzI_s hnz) ?_
                  refine lv_if_eq (tgt := 86) hx hb dX7_pair_77 (by decide) (fun hc => ?_) (fun hc => ?_)
                  · replace hf := ifp hc hf
                    have hj := Option.some.inj hf
                    subst hj
                    exact J4 _ _ _ hW (lv_sub hl [3] rfl)
                  · replace hf := ifn hc hf
                    refine lv_iinc (v := (y4_4 + (1 : Int32))) (lv' := [(4, .int (y4_4 + (1 : Int32))), (0, .ref (a 0)), (1, .int x1), (2, .int x2)]) hx hb dX7_pair_80 hl (k := 3) rfl rfl (by decide) rfl (fun ls hl => ?_)
                    refine lv_goto (tgt := 56) hx hb dX7_pair_83 (by decide) ?_
                    exact ih (y4_4 + (1 : Int32)) hf _ _ _ hW (lv_sub hl [1, 2, 3, 0] rfl)
            exact L4 N (1 : Int32) hg _ _ _ hW (lv_sub hl [1, 2, 3, 0] rfl)
          · replace hf := ifp hc hf
            refine lv_aload_n hx hb dX7_pair_41 rfl (lv_at hl 0 rfl) ?_
            refine lv_iload_n hx hb dX7_pair_42 rfl (lv_at hl 1 rfl) ?_
            replace hf := bs_ hf; obtain ⟨r5, hcl, hf⟩ := hf
            refine x_callW_i (w' := (wX7 a ct g sg)) (As := [.int x1]) (rest := []) (ci := 7) ⟨hx, hb, hml, hown, hts⟩ (c_X7_reachOfPerson l N kd G ct a g sg x1 _ hcl) (cwV 1 hts gX7_pair_X7_reachOfPerson rfl rfl rfl (by decide +kernel) ⟨Nat.le_of_ble_eq_true rfl, Nat.le_of_ble_eq_true rfl⟩) hK hE hA hW rfl rfl 0 rfl rfl rfl rfl hl.1 rfl (lv_room (Nat.le_of_ble_eq_true rfl)) dX7_pair_43 (fun H locs hW => ?_)
            refine lv_aload_n hx hb dX7_pair_46 rfl (lv_at hl 0 rfl) ?_
            refine lv_iload_n hx hb dX7_pair_47 rfl (lv_at hl 2 rfl) ?_
            replace hf := bs_ hf; obtain ⟨r6, hcl, hf⟩ := hf
            refine x_callW_i (w' := (wX7 a ct g sg)) (As := [.int x2]) (rest := [.int r5]) (ci := 7) ⟨hx, hb, hml, hown, hts⟩ (c_X7_reachOfPerson l N kd G ct a g sg x2 _ hcl) (cwV 1 hts gX7_pair_X7_reachOfPerson rfl rfl rfl (by decide +kernel) ⟨Nat.le_of_ble_eq_true rfl, Nat.le_of_ble_eq_true rfl⟩) hK hE hA hW rfl rfl 0 rfl rfl rfl rfl hl.1 rfl (lv_room (Nat.le_of_ble_eq_true rfl)) dX7_pair_48 (fun H locs hW => ?_)
            refine lv_iand hx hb dX7_pair_51 ?_
            have ho := Option.some.inj hf
            subst ho
            exact x_reti (sz := 0) (w0 := []) (A1 := A) hx hb hr hlocks hK hW rfl rfl dX7_pair_52
        · replace hf := ifp hc hf
          refine lv_ldc (v := (-1000000002 : Int32)) hx hb hown fl111 dX7_pair_34 ?_
          have ho := Option.some.inj hf
          subst ho
          exact x_reti (sz := 0) (w0 := []) (A1 := A) hx hb hr hlocks hK hW rfl rfl dX7_pair_36
      · replace hf := ifp hc hf
        refine lv_ldc (v := (-1000000001 : Int32)) hx hb hown fl221 dX7_pair_21 ?_
        have ho := Option.some.inj hf
        subst ho
        exact x_reti (sz := 0) (w0 := []) (A1 := A) hx hb hr hlocks hK hW rfl rfl dX7_pair_23
set_option maxHeartbeats 4000000 in
set_option maxRecDepth 100000 in
theorem c_X7_isCarried (l : Launch) (N : Nat) (kd : (Nat → Nat) × (Nat → Nat)) (G : va_G) (ct : Nat → ClassId) (a : Nat → Nat) (g : St_) (sg : Int64) (x1 : Int32) (x2 : Int32) (x3 : Int32) (x4 : Int32) (o : Int32) (hf : f_X7_isCarried N g x1 x2 x3 x4 = some o) : CtI l yX7_isCarried wsX7_isCarried ({ frames := 2, cells := 0, slots := 0, locals := 47 }) kd G ct [.ref (a 0), .int x1, .int x2, .int x3, .int x4] (wX7 a ct g sg) o (wX7 a ct g sg) := by
  intro sz
  refine Met.ofW (cc := cX7_isCarried) (maxL := 8) (ret := (some .boolean)) (by decide) rfl ?_
  intro p e s m args below meth c s₁ B hml hv
  obtain ⟨rfl, hsz, hP, hK, hD0, hE⟩ := hv
  have hx := B.exec
  have hb := B.bytes
  have hr := B.returns
  have hts := atoms_spec (ws := wsX7_isCarried) B.pre
  have hown : s.vm.findClass RX7 = some m.cls := findClass_of_methodNamed B.named
  have hlocks := B.notSynchronized
  have inX7 : ∀ w ∈ wsX70, w ∈ wsX7_isCarried := by decide +kernel
  have fl13 := hts (.fieldLink RX7 13 "FittingStridesModel" "low" "[I") (by decide +kernel)
  have fl68 := hts (.fieldLink RX7 68 "FittingStridesModel" "reaches" "[I") (by decide +kernel)
  have fl106 := hts (.fieldLink RX7 106 "FittingStridesModel" "persons" "I") (by decide +kernel)
  have fl204 := hts (.fieldLink RX7 204 "FittingStridesModel" "law" "I") (by decide +kernel)
  subst hsz
  have hD := hD0.self (sz := s.heap.size)
  generalize hAe : va_A (wX7 a ct g sg) s.heap.size = A at hD hE ⊢
  have hA : ∀ q : Nat, s.heap.size ≤ q → A q := fun q h => by rw [← hAe]; exact Or.inr h
  have hW : WW G A s.heap (wX7 a ct g sg) s.heap [] := ⟨hP, hD, va_S.rf⟩
  have hl := lv_entry ([.ref (a 0), .int x1, .int x2, .int x3, .int x4]) (n := 8) (Nat.le_of_ble_eq_true rfl)
  rw [lg_entry_eq]
  generalize (lg_sl ([.ref (a 0), .int x1, .int x2, .int x3, .int x4]) ++ List.replicate (8 - (lg_sl ([.ref (a 0), .int x1, .int x2, .int x3, .int x4])).length) Slot.unset).toArray = ls at hl ⊢
  have hl : lv_has ls 8 [(0, .ref (a 0)), (1, .int x1), (2, .int x2), (3, .int x3), (4, .int x4)] := hl
  unfold f_X7_isCarried at hf
  show W p l e ({ frames := 2, cells := 0, slots := 0, locals := 47 } : Room) s m (List.toArray [.ref (a 0), .int x1, .int x2, .int x3, .int x4]) below meth c s.heap [] 0 0 (MQ below (va_Qi (fun r (_ : Unit) => r = o) (fun _ t => Af_ G ct (wX7 a ct g sg) A t) A) (List.toArray [.ref (a 0), .int x1, .int x2, .int x3, .int x4]) s 0 0 A) (F0 m 0 ls [])
  refine lv_iload hx hb dX7_isCarried_0 (lv_at hl 4 rfl) ?_
  refine lv_aload_n hx hb dX7_isCarried_2 rfl (lv_at hl 0 rfl) ?_
  refine x_get (ci := 7) (v := .ref (a 4)) (C := RX7) (T := TX7) (N := 44) hx hb hts inX7 hown hK hW 0 rfl rfl 3 (by decide) fl13 (fun _ h9 => h9) rfl dX7_isCarried_3 ?_
  refine lv_iload_n hx hb dX7_isCarried_6 rfl (lv_at hl 3 rfl) ?_
  replace hf := gd_s hf; obtain ⟨hin, hf⟩ := hf
  refine x_iald (n := 10) (f := g 4) hx hb hK hW 2 rfl (okI_in hin) dX7_isCarried_7 ?_
  replace hf := bs_ hf; obtain ⟨j1, hg, hf⟩ := hf
  have J1 : ∀ (H : Heap) (locs : List Loc) (ls : Array Slot), WW G A s.heap (wX7 a ct g sg) H locs → lv_has ls 8 [(0, .ref (a 0)), (1, .int x1), (2, .int x2), (3, .int x3), (4, .int x4)] → W p l e ({ frames := 2, cells := 0, slots := 0, locals := 47 } : Room) s m (List.toArray [.ref (a 0), .int x1, .int x2, .int x3, .int x4]) below meth c H locs 0 0 (MQ below (va_Qi (fun r (_ : Unit) => r = o) (fun _ t => Af_ G ct (wX7 a ct g sg) A t) A) (List.toArray [.ref (a 0), .int x1, .int x2, .int x3, .int x4]) s 0 0 A) (F0 m 16 ls (.int j1 :: [])) := by
    intro H locs ls hW hl
    refine lv_istore (lv' := [(5, .int j1), (0, .ref (a 0)), (1, .int x1), (2, .int x2), (3, .int x3), (4, .int x4)]) hx hb dX7_isCarried_16 hl (by decide) rfl (fun ls hl => ?_)
    refine lv_aload_n hx hb dX7_isCarried_18 rfl (lv_at hl 1 rfl) ?_
    refine lv_iload_n hx hb dX7_isCarried_19 rfl (lv_at hl 2 rfl) ?_
    refine lv_iload_n hx hb dX7_isCarried_20 rfl (lv_at hl 4 rfl) ?_
    replace hf := bs_ hf; obtain ⟨r2, hcl, hf⟩ := hf
    refine x_callW_i (w' := (wX7 a ct g sg)) (As := [.int x1, .int x3]) (rest := []) (ci := 7) ⟨hx, hb, hml, hown, hts⟩ (c_X7_mayClimb l N kd G ct a g sg x1 x3 _ hcl) (cwV 2 hts gX7_isCarried_X7_mayClimb rfl rfl rfl (by decide +kernel) ⟨Nat.le_of_ble_eq_true rfl, Nat.le_of_ble_eq_true rfl⟩) hK hE hA hW rfl rfl 0 rfl rfl rfl rfl hl.1 rfl (lv_room (Nat.le_of_ble_eq_true rfl)) dX7_isCarried_21 (fun H locs hW => ?_)
    replace hf := bs_ hf; obtain ⟨j3, hg, hf⟩ := hf
    have J3 : ∀ (H : Heap) (locs : List Loc) (ls : Array Slot), WW G A s.heap (wX7 a ct g sg) H locs → lv_has ls 8 [(0, .ref (a 0)), (2, .int x2), (3, .int x3), (4, .int x4), (5, .int j1)] → W p l e ({ frames := 2, cells := 0, slots := 0, locals := 47 } : Room) s m (List.toArray [.ref (a 0), .int x1, .int x2, .int x3, .int x4]) below meth c H locs 0 0 (MQ below (va_Qi (fun r (_ : Unit) => r = o) (fun _ t => Af_ G ct (wX7 a ct g sg) A t) A) (List.toArray [.ref (a 0), .int x1, .int x2, .int x3, .int x4]) s 0 0 A) (F0 m 45 ls (.int j3 :: [])) := by
      intro H locs ls hW hl
      refine lv_istore (lv' := [(6, .int j3), (0, .ref (a 0)), (2, .int x2), (3, .int x3), (4, .int x4), (5, .int j1)]) hx hb dX7_isCarried_45 hl (by decide) rfl (fun ls hl => ?_)
      refine lv_iconst (v := (0 : Int32)) hx hb dX7_isCarried_47 (by decide) ?_
      refine lv_istore (lv' := [(7, .int (0 : Int32)), (6, .int j3), (0, .ref (a 0)), (2, .int x2), (3, .int x3), (4, .int x4), (5, .int j1)]) hx hb dX7_isCarried_48 hl (by decide) rfl (fun ls hl => ?_)
      replace hf := bs_ hf; obtain ⟨v4, hg, hf⟩ := hf
      have J4 : ∀ (H : Heap) (locs : List Loc) (ls : Array Slot), WW G A s.heap (wX7 a ct g sg) H locs → lv_has ls 8 [(6, .int v4)] → W p l e ({ frames := 2, cells := 0, slots := 0, locals := 47 } : Room) s m (List.toArray [.ref (a 0), .int x1, .int x2, .int x3, .int x4]) below meth c H locs 0 0 (MQ below (va_Qi (fun r (_ : Unit) => r = o) (fun _ t => Af_ G ct (wX7 a ct g sg) A t) A) (List.toArray [.ref (a 0), .int x1, .int x2, .int x3, .int x4]) s 0 0 A) (F0 m 124 ls []) := by
        intro H locs ls hW hl
        refine lv_iload hx hb dX7_isCarried_124 (lv_at hl 0 rfl) ?_
        replace hf := gd_s hf; obtain ⟨hB, hf⟩ := hf
        have ho := Option.some.inj hf
        subst ho
        exact x_retz hx hb hr (isB_nar hB) hlocks hK hW rfl rfl dX7_isCarried_126
      clear hf
      have L4 : ∀ (n : Nat) (y4_6 : Int32) (y4_7 : Int32), f_X7_isCarried_L50 N g x2 x3 x4 j1 n y4_6 y4_7 = some v4 → ∀ (H : Heap) (locs : List Loc) (ls : Array Slot), WW G A s.heap (wX7 a ct g sg) H locs → lv_has ls 8 [(0, .ref (a 0)), (2, .int x2), (3, .int x3), (4, .int x4), (5, .int j1), (6, .int y4_6), (7, .int y4_7)] → W p l e ({ frames := 2, cells := 0, slots := 0, locals := 47 } : Room) s m (List.toArray [.ref (a 0), .int x1, .int x2, .int x3, .int x4]) below meth c H locs 0 0 (MQ below (va_Qi (fun r (_ : Unit) => r = o) (fun _ t => Af_ G ct (wX7 a ct g sg) A t) A) (List.toArray [.ref (a 0), .int x1, .int x2, .int x3, .int x4]) s 0 0 A) (F0 m 50 ls []) := by
        intro n
        induction n with
        | zero =>
          intro y4_6 y4_7 hf
          rw [f_X7_isCarried_L50] at hf
          cases hf
        | succ n ih =>
          intro y4_6 y4_7 hf H locs ls hW hl
          rw [f_X7_isCarried_L50] at hf
          refine lv_iload hx hb dX7_isCarried_50 (lv_at hl 6 rfl) ?_
          refine lv_aload_n hx hb dX7_isCarried_52 rfl (lv_at hl 0 rfl) ?_
          refine x_get (ci := 7) (v := .int (g 9 0)) (C := RX7) (T := TX7) (N := 44) hx hb hts inX7 hown hK hW 0 rfl rfl 8 (by decide) fl106 (fun _ h9 => h9) rfl dX7_isCarried_53 ?_
          refine lv_icmp_ge (tgt := 124) hx hb dX7_isCarried_56 (by decide) (fun hc => ?_) (fun hc => ?_)
          · replace hf := ifp hc hf
            have hj := Option.some.inj hf
            subst hj
            exact J4 _ _ _ hW (lv_sub hl [5] rfl)
          · replace hf := ifn hc hf
            refine lv_iload hx hb dX7_isCarried_59 (lv_at hl 5 rfl) ?_
            replace hf := bs_ hf; obtain ⟨j5, hg, hf⟩ := hf
            have J5 : ∀ (H : Heap) (locs : List Loc) (ls : Array Slot), WW G A s.heap (wX7 a ct g sg) H locs → lv_has ls 8 [(0, .ref (a 0)), (2, .int x2), (3, .int x3), (4, .int x4), (5, .int j1), (7, .int y4_7)] → W p l e ({ frames := 2, cells := 0, slots := 0, locals := 47 } : Room) s m (List.toArray [.ref (a 0), .int x1, .int x2, .int x3, .int x4]) below meth c H locs 0 0 (MQ below (va_Qi (fun r (_ : Unit) => r = o) (fun _ t => Af_ G ct (wX7 a ct g sg) A t) A) (List.toArray [.ref (a 0), .int x1, .int x2, .int x3, .int x4]) s 0 0 A) (F0 m 116 ls (.int j5 :: [])) := by
              intro H locs ls hW hl
              refine lv_istore (lv' := [(6, .int j5), (0, .ref (a 0)), (2, .int x2), (3, .int x3), (4, .int x4), (5, .int j1), (7, .int y4_7)]) hx hb dX7_isCarried_116 hl (by decide) rfl (fun ls hl => ?_)
              refine lv_iinc (v := (y4_7 + (1 : Int32))) (lv' := [(7, .int (y4_7 + (1 : Int32))), (6, .int j5), (0, .ref (a 0)), (2, .int x2), (3, .int x3), (4, .int x4), (5, .int j1)]) hx hb dX7_isCarried_118 hl (k := 6) rfl rfl (by decide) rfl (fun ls hl => ?_)
              refine lv_goto (tgt := 50) hx hb dX7_isCarried_121 (by decide) ?_
              exact ih j5 (y4_7 + (1 : Int32)) hf _ _ _ hW (lv_sub hl [2, 3, 4, 5, 6, 1, 0] rfl)
            clear hf
            refine lv_if_ne (tgt := 111) hx hb dX7_isCarried_61 (by decide) (fun hc => ?_) (fun hc => ?_)
            · have hf := ifn hc hg
              clear hg
              refine lv_iconst (v := (1 : Int32)) hx hb dX7_isCarried_111 (by decide) ?_
              refine lv_goto (tgt := 116) hx hb dX7_isCarried_112 (by decide) ?_
              have hj := Option.some.inj hf
              subst hj
              exact J5 _ _ _ hW (lv_sub hl [0, 1, 2, 3, 4, 6] rfl)
            · have hf := ifp hc hg
              clear hg
              refine lv_iload_n hx hb dX7_isCarried_64 rfl (lv_at hl 1 rfl) ?_
              refine lv_iload hx hb dX7_isCarried_65 (lv_at hl 6 rfl) ?_
              replace hf := bs_ hf; obtain ⟨r6, hcl, hf⟩ := hf
              refine x_callS_i (As := [.int x2, .int y4_7]) (rest := []) ⟨hx, hb, hml, hown, hts⟩ (c_X7_has l N kd G ct x2 y4_7 _ hcl) (va_cwS 2 hts gX7_isCarried_X7_has rfl rfl rfl (by decide +kernel) ⟨Nat.le_of_ble_eq_true rfl, Nat.le_of_ble_eq_true rfl⟩) hK hE hA hW rfl hl.1 rfl (lv_room (Nat.le_of_ble_eq_true rfl)) dX7_isCarried_67 (fun H locs hW => ?_)
              refine lv_if_eq (tgt := 115) hx hb dX7_isCarried_70 (by decide) (fun hc => ?_) (fun hc => ?_)
              · replace hf := ifp hc hf
                refine lv_iconst (v := (0 : Int32)) hx hb dX7_isCarried_115 (by decide) ?_
                have hj := Option.some.inj hf
                subst hj
                exact J5 _ _ _ hW (lv_sub hl [0, 1, 2, 3, 4, 6] rfl)
              · replace hf := ifn hc hf
                refine lv_aload_n hx hb dX7_isCarried_73 rfl (lv_at hl 0 rfl) ?_
                refine x_get (ci := 7) (v := .ref (a 34)) (C := RX7) (T := TX7) (N := 44) hx hb hts inX7 hown hK hW 0 rfl rfl 33 (by decide) fl68 (fun _ h9 => h9) rfl dX7_isCarried_74 ?_
                refine lv_iload hx hb dX7_isCarried_77 (lv_at hl 6 rfl) ?_
                replace hf := gd_s hf; obtain ⟨hin, hf⟩ := hf
                refine x_iald (n := 8) (f := g 34) hx hb hK hW 19 rfl (okI_in hin) dX7_isCarried_79 ?_
                refine lv_iload hx hb dX7_isCarried_80 (lv_at hl 3 rfl) ?_
                replace hf := bs_ hf; obtain ⟨r7, hcl, hf⟩ := hf
                refine x_callS_i (As := [.int (g 34 y4_7.toNatClampNeg), .int x4]) (rest := []) ⟨hx, hb, hml, hown, hts⟩ (c_X7_has l N kd G ct (g 34 y4_7.toNatClampNeg) x4 _ hcl) (va_cwS 2 hts gX7_isCarried_X7_has rfl rfl rfl (by decide +kernel) ⟨Nat.le_of_ble_eq_true rfl, Nat.le_of_ble_eq_true rfl⟩) hK hE hA hW rfl hl.1 rfl (lv_room (Nat.le_of_ble_eq_true rfl)) dX7_isCarried_82 (fun H locs hW => ?_)
                refine lv_if_eq (tgt := 115) hx hb dX7_isCarried_85 (by decide) (fun hc => ?_) (fun hc => ?_)
                · replace hf := ifp hc hf
                  refine lv_iconst (v := (0 : Int32)) hx hb dX7_isCarried_115 (by decide) ?_
                  have hj := Option.some.inj hf
                  subst hj
                  exact J5 _ _ _ hW (lv_sub hl [0, 1, 2, 3, 4, 6] rfl)
                · replace hf := ifn hc hf
                  refine lv_aload_n hx hb dX7_isCarried_88 rfl (lv_at hl 0 rfl) ?_
                  refine lv_iload hx hb dX7_isCarried_89 (lv_at hl 6 rfl) ?_
                  refine lv_iload_n hx hb dX7_isCarried_91 rfl (lv_at hl 2 rfl) ?_
                  replace hf := bs_ hf; obtain ⟨r8, hcl, hf⟩ := hf
                  refine x_callW_i (w' := (wX7 a ct g sg)) (As := [.int y4_7, .int x3]) (rest := []) (ci := 7) ⟨hx, hb, hml, hown, hts⟩ (c_X7_mayClimb l N kd G ct a g sg y4_7 x3 _ hcl) (cwV 2 hts gX7_isCarried_X7_mayClimb rfl rfl rfl (by decide +kernel) ⟨Nat.le_of_ble_eq_true rfl, Nat.le_of_ble_eq_true rfl⟩) hK hE hA hW rfl rfl 0 rfl rfl rfl rfl hl.1 rfl (lv_room (Nat.le_of_ble_eq_true rfl)) dX7_isCarried_92 (fun H locs hW => ?_)
                  refine lv_if_ne (tgt := 111) hx hb dX7_isCarried_95 (by decide) (fun hc => ?_) (fun hc => ?_)
                  · replace hf := ifn hc hf
                    refine lv_iconst (v := (1 : Int32)) hx hb dX7_isCarried_111 (by decide) ?_
                    refine lv_goto (tgt := 116) hx hb dX7_isCarried_112 (by decide) ?_
                    have hj := Option.some.inj hf
                    subst hj
                    exact J5 _ _ _ hW (lv_sub hl [0, 1, 2, 3, 4, 6] rfl)
                  · replace hf := ifp hc hf
                    refine lv_iload hx hb dX7_isCarried_98 (lv_at hl 4 rfl) ?_
                    refine lv_if_ne (tgt := 115) hx hb dX7_isCarried_100 (by decide) (fun hc => ?_) (fun hc => ?_)
                    · replace hf := ifn hc hf
                      refine lv_iconst (v := (0 : Int32)) hx hb dX7_isCarried_115 (by decide) ?_
                      have hj := Option.some.inj hf
                      subst hj
                      exact J5 _ _ _ hW (lv_sub hl [0, 1, 2, 3, 4, 6] rfl)
                    · replace hf := ifp hc hf
                      refine lv_aload_n hx hb dX7_isCarried_103 rfl (lv_at hl 0 rfl) ?_
                      refine x_get (ci := 7) (v := .int (g 13 0)) (C := RX7) (T := TX7) (N := 44) hx hb hts inX7 hown hK hW 0 rfl rfl 12 (by decide) fl204 (fun _ h9 => h9) rfl dX7_isCarried_104 ?_
                      refine lv_iconst (v := (1 : Int32)) hx hb dX7_isCarried_107 (by decide) ?_
                      refine lv_icmp_ne (tgt := 115) hx hb dX7_isCarried_108 (by decide) (fun hc => ?_) (fun hc => ?_)
                      · replace hf := ifn hc hf
                        refine lv_iconst (v := (0 : Int32)) hx hb dX7_isCarried_115 (by decide) ?_
                        have hj := Option.some.inj hf
                        subst hj
                        exact J5 _ _ _ hW (lv_sub hl [0, 1, 2, 3, 4, 6] rfl)
                      · replace hf := ifp hc hf
                        refine lv_iconst (v := (1 : Int32)) hx hb dX7_isCarried_111 (by decide) ?_
                        refine lv_goto (tgt := 116) hx hb dX7_isCarried_112 (by decide) ?_
                        have hj := Option.some.inj hf
                        subst hj
                        exact J5 _ _ _ hW (lv_sub hl [0, 1, 2, 3, 4, 6] rfl)
      exact L4 N j3 (0 : Int32) hg _ _ _ hW (lv_sub hl [2, 3, 4, 5, 6, 1, 0] rfl)
    clear hf
    refine lv_if_ne (tgt := 40) hx hb dX7_isCarried_24 (by decide) (fun hc => ?_) (fun hc => ?_)
    · have hf := ifn hc hg
      clear hg
      refine lv_iconst (v := (1 : Int32)) hx hb dX7_isCarried_40 (by decide) ?_
      refine lv_goto (tgt := 45) hx hb dX7_isCarried_41 (by decide) ?_
      have hj := Option.some.inj hf
      subst hj
      exact J3 _ _ _ hW (lv_sub hl [1, 3, 4, 5, 0] rfl)
    · have hf := ifp hc hg
      clear hg
      refine lv_iload hx hb dX7_isCarried_27 (lv_at hl 0 rfl) ?_
      refine lv_if_ne (tgt := 44) hx hb dX7_isCarried_29 (by decide) (fun hc => ?_) (fun hc => ?_)
      · replace hf := ifn hc hf
        refine lv_iconst (v := (0 : Int32)) hx hb dX7_isCarried_44 (by decide) ?_
        have hj := Option.some.inj hf
        subst hj
        exact J3 _ _ _ hW (lv_sub hl [1, 3, 4, 5, 0] rfl)
      · replace hf := ifp hc hf
        refine lv_aload_n hx hb dX7_isCarried_32 rfl (lv_at hl 1 rfl) ?_
        refine x_get (ci := 7) (v := .int (g 13 0)) (C := RX7) (T := TX7) (N := 44) hx hb hts inX7 hown hK hW 0 rfl rfl 12 (by decide) fl204 (fun _ h9 => h9) rfl dX7_isCarried_33 ?_
        refine lv_iconst (v := (1 : Int32)) hx hb dX7_isCarried_36 (by decide) ?_
        refine lv_icmp_ne (tgt := 44) hx hb dX7_isCarried_37 (by decide) (fun hc => ?_) (fun hc => ?_)
        · replace hf := ifn hc hf
          refine lv_iconst (v := (0 : Int32)) hx hb dX7_isCarried_44 (by decide) ?_
          have hj := Option.some.inj hf
          subst hj
          exact J3 _ _ _ hW (lv_sub hl [1, 3, 4, 5, 0] rfl)
        · replace hf := ifp hc hf
          refine lv_iconst (v := (1 : Int32)) hx hb dX7_isCarried_40 (by decide) ?_
          refine lv_goto (tgt := 45) hx hb dX7_isCarried_41 (by decide) ?_
          have hj := Option.some.inj hf
          subst hj
          exact J3 _ _ _ hW (lv_sub hl [1, 3, 4, 5, 0] rfl)
  clear hf
  refine lv_icmp_ne (tgt := 15) hx hb dX7_isCarried_8 (by decide) (fun hc => ?_) (fun hc => ?_)
  · have hf := ifn hc hg
    clear hg
    refine lv_iconst (v := (0 : Int32)) hx hb dX7_isCarried_15 (by decide) ?_
    have hj := Option.some.inj hf
    subst hj
    exact J1 _ _ _ hW (lv_sub hl [0, 1, 2, 3, 4] rfl)
  · have hf := ifp hc hg
    clear hg
    refine lv_iconst (v := (1 : Int32)) hx hb dX7_isCarried_11 (by decide) ?_
    refine lv_goto (tgt := 16) hx hb dX7_isCarried_12 (by decide) ?_
    have hj := Option.some.inj hf
    subst hj
    exact J1 _ _ _ hW (lv_sub hl [0, 1, 2, 3, 4] rfl)
