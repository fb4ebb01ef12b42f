set_option maxHeartbeats 4000000 in
set_option maxRecDepth 100000 in
theorem c_X4_readPlace (l : Launch) (N : Nat) (kd : (Nat → Nat) × (Nat → Nat)) (G : va_G) (ct : Nat → ClassId) (a : Nat → Nat) (g : St_) (x1 : Int32) (o : (Int32 × St_)) (hf : f_X4_readPlace N g x1 = some o) : CtI l yX4_readPlace wsX4_readPlace ({ frames := 2, cells := 0, slots := 0, locals := 47 }) kd G ct [.ref (a 0), .int x1] (wX4 a ct g) o.1 (wX4 a ct o.2) := by
  intro sz
  refine Met.ofW (cc := cX4_readPlace) (maxL := 4) (ret := (some .int)) (by decide) rfl ?_
  intro p e s m args below meth c s₁ B hml hv
  obtain ⟨rfl, hsz, hP, hK, hD0, hE⟩ := hv
  have hx := B.exec
  have hb := B.bytes
  have hr := B.returns
  have hts := atoms_spec (ws := wsX4_readPlace) B.pre
  have hown : s.vm.findClass RX4 = some m.cls := findClass_of_methodNamed B.named
  have hlocks := B.notSynchronized
  have inX1 : ∀ w ∈ wsX10, w ∈ wsX4_readPlace := by decide +kernel
  have inX4 : ∀ w ∈ wsX40, w ∈ wsX4_readPlace := by decide +kernel
  have inX5 : ∀ w ∈ wsX50, w ∈ wsX4_readPlace := by decide +kernel
  have fl12 := hts (.fieldLink RX4 12 "FittingStrides$Text" "draft" "LFittingStrides$Town;") (by decide +kernel)
  have fl29 := hts (.fieldLink RX4 29 "FittingStrides$Text" "at" "I") (by decide +kernel)
  have fl54 := hts (.fieldLink RX4 54 "FittingStrides$Town" "plan" "LFittingStrides$Plan;") (by decide +kernel)
  have fl58 := hts (.fieldLink RX4 58 "FittingStrides$Plan" "places" "I") (by decide +kernel)
  subst hsz
  have hD := hD0.self (sz := s.heap.size)
  generalize hAe : va_A (wX4 a ct g) s.heap.size = A at hD hE ⊢
  have hA : ∀ q : Nat, s.heap.size ≤ q → A q := fun q h => by rw [← hAe]; exact Or.inr h
  have hW : WW G A s.heap (wX4 a ct g) s.heap [] := ⟨hP, hD, va_S.rf⟩
  have hl := lv_entry ([.ref (a 0), .int x1]) (n := 4) (Nat.le_of_ble_eq_true rfl)
  rw [lg_entry_eq]
  generalize (lg_sl ([.ref (a 0), .int x1]) ++ List.replicate (4 - (lg_sl ([.ref (a 0), .int x1])).length) Slot.unset).toArray = ls at hl ⊢
  have hl : lv_has ls 4 [(0, .ref (a 0)), (1, .int x1)] := hl
  unfold f_X4_readPlace at hf
  show W p l e ({ frames := 2, cells := 0, slots := 0, locals := 47 } : Room) s m (List.toArray [.ref (a 0), .int x1]) below meth c s.heap [] 0 0 (MQ below (va_Qi (fun r (_ : Unit) => r = o.1) (fun _ t => Af_ G ct (wX4 a ct o.2) A t) A) (List.toArray [.ref (a 0), .int x1]) s 0 0 A) (F0 m 0 ls [])
  refine lv_aload_n hx hb dX4_readPlace_0 rfl (lv_at hl 0 rfl) ?_
  replace hf := bs_ hf; obtain ⟨r1, hcl, hf⟩ := hf
  refine x_callW_i (w' := (wX4 a ct r1.2)) (As := []) (rest := []) (ci := 4) ⟨hx, hb, hml, hown, hts⟩ (c_X4_look l N kd G ct a g _ hcl) (cwV 0 hts gX4_readPlace_X4_look rfl rfl rfl (by decide +kernel) ⟨Nat.le_of_ble_eq_true rfl, Nat.le_of_ble_eq_true rfl⟩) hK hE hA hW rfl rfl 0 rfl rfl rfl rfl hl.1 rfl (lv_room (Nat.le_of_ble_eq_true rfl)) dX4_readPlace_1 (fun H locs hW => ?_)
  refine lv_pop hx hb dX4_readPlace_4 rfl ?_
  refine lv_aload_n hx hb dX4_readPlace_5 rfl (lv_at hl 0 rfl) ?_
  refine x_get (ci := 4) (v := .int (r1.2 24 0)) (C := RX4) (T := TX4) (N := 6) hx hb hts inX4 hown hK hW 0 rfl rfl 5 (by decide) fl29 (fun _ h9 => h9) rfl dX4_readPlace_6 ?_
  refine lv_istore_n (lv' := [(2, .int (r1.2 24 0)), (0, .ref (a 0)), (1, .int x1)]) hx hb dX4_readPlace_9 rfl hl (by decide) rfl (fun ls hl => ?_)
  refine lv_aload_n hx hb dX4_readPlace_10 rfl (lv_at hl 1 rfl) ?_
  refine lv_iconst (v := (0 : Int32)) hx hb dX4_readPlace_11 (by decide) ?_
  refine lv_aload_n hx hb dX4_readPlace_12 rfl (lv_at hl 1 rfl) ?_
  refine x_get (ci := 4) (v := .ref (a 4)) (C := RX4) (T := TX4) (N := 6) hx hb hts inX4 hown hK hW 0 rfl rfl 3 (by decide) fl12 (fun _ h9 => h9) rfl dX4_readPlace_13 ?_
  refine x_get (ci := 5) (v := .ref (a 5)) (C := RX5) (T := TX5) (N := 4) hx hb hts inX5 hown hK hW 1 rfl rfl 0 (by decide) fl54 (fun _ h9 => h9) rfl dX4_readPlace_16 ?_
  refine x_get (ci := 1) (v := .int (r1.2 6 0)) (C := RX1) (T := TX1) (N := 6) hx hb hts inX1 hown hK hW 2 rfl rfl 0 (by decide) fl58 (fun _ h9 => h9) rfl dX4_readPlace_19 ?_
  refine lv_iconst (v := (1 : Int32)) hx hb dX4_readPlace_22 (by decide) ?_
  refine lv_isub hx hb dX4_readPlace_23 ?_
  replace hf := bs_ hf; obtain ⟨r2, hcl, hf⟩ := hf
  refine x_callW_i (w' := (wX4 a ct r2.2)) (As := [.int (0 : Int32), .int ((r1.2 6 0) - (1 : Int32))]) (rest := []) (ci := 4) ⟨hx, hb, hml, hown, hts⟩ (c_X4_readNumber l N kd G ct a r1.2 (0 : Int32) ((r1.2 6 0) - (1 : Int32)) _ hcl) (cwV 2 hts gX4_readPlace_X4_readNumber rfl rfl rfl (by decide +kernel) ⟨Nat.le_of_ble_eq_true rfl, Nat.le_of_ble_eq_true rfl⟩) hK hE hA hW rfl rfl 0 rfl rfl rfl rfl hl.1 rfl (lv_room (Nat.le_of_ble_eq_true rfl)) dX4_readPlace_24 (fun H locs hW => ?_)
  refine lv_istore_n (lv' := [(3, .int r2.1), (2, .int (r1.2 24 0)), (0, .ref (a 0)), (1, .int x1)]) hx hb dX4_readPlace_27 rfl hl (by decide) rfl (fun ls hl => ?_)
  refine lv_iload_n hx hb dX4_readPlace_28 rfl (lv_at hl 0 rfl) ?_
  refine lv_iconst (v := (-1 : Int32)) hx hb dX4_readPlace_29 (by decide) ?_
  refine lv_icmp_eq (tgt := 46) hx hb dX4_readPlace_30 (by decide) (fun hc => ?_) (fun hc => ?_)
  · replace hf := ifp hc hf
    refine lv_iload_n hx hb dX4_readPlace_46 rfl (lv_at hl 0 rfl) ?_
    have ho := Option.some.inj hf
    subst ho
    exact x_reti (sz := 0) (w0 := []) (A1 := A) hx hb hr hlocks hK hW rfl rfl dX4_readPlace_47
  · replace hf := ifn hc hf
    refine lv_iload_n hx hb dX4_readPlace_33 rfl (lv_at hl 0 rfl) ?_
    refine lv_iload_n hx hb dX4_readPlace_34 rfl (lv_at hl 3 rfl) ?_
    refine lv_icmp_ne (tgt := 46) hx hb dX4_readPlace_35 (by decide) (fun hc => ?_) (fun hc => ?_)
    · replace hf := ifn hc hf
      refine lv_iload_n hx hb dX4_readPlace_46 rfl (lv_at hl 0 rfl) ?_
      have ho := Option.some.inj hf
      subst ho
      exact x_reti (sz := 0) (w0 := []) (A1 := A) hx hb hr hlocks hK hW rfl rfl dX4_readPlace_47
    · replace hf := ifp hc hf
      refine lv_aload_n hx hb dX4_readPlace_38 rfl (lv_at hl 2 rfl) ?_
      refine lv_iconst (v := (4 : Int32)) hx hb dX4_readPlace_39 (by decide) ?_
      refine lv_iload_n hx hb dX4_readPlace_40 rfl (lv_at hl 1 rfl) ?_
      replace hf := bs_ hf; obtain ⟨r3, hcl, hf⟩ := hf
      refine x_callW_v (w' := (wX4 a ct r3)) (As := [.int (4 : Int32), .int (r1.2 24 0)]) (rest := []) (ci := 4) ⟨hx, hb, hml, hown, hts⟩ (c_X4_fail l N kd G ct a r2.2 (4 : Int32) (r1.2 24 0) _ hcl) (cwV 2 hts gX4_readPlace_X4_fail rfl rfl rfl (by decide +kernel) ⟨Nat.le_of_ble_eq_true rfl, Nat.le_of_ble_eq_true rfl⟩) hK hE hA hW rfl rfl 0 rfl rfl rfl rfl hl.1 rfl (lv_room (Nat.le_of_ble_eq_true rfl)) dX4_readPlace_41 (fun H locs hW => ?_)
      refine lv_iconst (v := (-1 : Int32)) hx hb dX4_readPlace_44 (by decide) ?_
      have ho := Option.some.inj hf
      subst ho
      exact x_reti (sz := 0) (w0 := []) (A1 := A) hx hb hr hlocks hK hW rfl rfl dX4_readPlace_45
set_option maxHeartbeats 4000000 in
set_option maxRecDepth 100000 in
theorem c_X4_readParts (l : Launch) (N : Nat) (kd : (Nat → Nat) × (Nat → Nat)) (G : va_G) (ct : Nat → ClassId) (a : Nat → Nat) (g : St_) (x1 : Int32) (o : (Int32 × St_)) (hf : f_X4_readParts N g x1 = some o) : CtI l yX4_readParts wsX4_readParts ({ frames := 2, cells := 0, slots := 0, locals := 47 }) kd G ct [.ref (a 0), .int x1] (wX4 a ct g) o.1 (wX4 a ct o.2) := by
  intro sz
  refine Met.ofW (cc := cX4_readParts) (maxL := 4) (ret := (some .int)) (by decide) rfl ?_
  intro p e s m args below meth c s₁ B hml hv
  obtain ⟨rfl, hsz, hP, hK, hD0, hE⟩ := hv
  have hx := B.exec
  have hb := B.bytes
  have hr := B.returns
  have hts := atoms_spec (ws := wsX4_readParts) B.pre
  have hown : s.vm.findClass RX4 = some m.cls := findClass_of_methodNamed B.named
  have hlocks := B.notSynchronized
  have inX3 : ∀ w ∈ wsX30, w ∈ wsX4_readParts := by decide +kernel
  have inX4 : ∀ w ∈ wsX40, w ∈ wsX4_readParts := by decide +kernel
  have inX5 : ∀ w ∈ wsX50, w ∈ wsX4_readParts := by decide +kernel
  have fl12 := hts (.fieldLink RX4 12 "FittingStrides$Text" "draft" "LFittingStrides$Town;") (by decide +kernel)
  have fl29 := hts (.fieldLink RX4 29 "FittingStrides$Text" "at" "I") (by decide +kernel)
  have fl114 := hts (.fieldLink RX4 114 "FittingStrides$Town" "state" "LFittingStrides$State;") (by decide +kernel)
  have fl118 := hts (.fieldLink RX4 118 "FittingStrides$State" "steps" "[I") (by decide +kernel)
  subst hsz
  have hD := hD0.self (sz := s.heap.size)
  generalize hAe : va_A (wX4 a ct g) s.heap.size = A at hD hE ⊢
  have hA : ∀ q : Nat, s.heap.size ≤ q → A q := fun q h => by rw [← hAe]; exact Or.inr h
  have hW : WW G A s.heap (wX4 a ct g) s.heap [] := ⟨hP, hD, va_S.rf⟩
  have hl := lv_entry ([.ref (a 0), .int x1]) (n := 4) (Nat.le_of_ble_eq_true rfl)
  rw [lg_entry_eq]
  generalize (lg_sl ([.ref (a 0), .int x1]) ++ List.replicate (4 - (lg_sl ([.ref (a 0), .int x1])).length) Slot.unset).toArray = ls at hl ⊢
  have hl : lv_has ls 4 [(0, .ref (a 0)), (1, .int x1)] := hl
  unfold f_X4_readParts at hf
  show W p l e ({ frames := 2, cells := 0, slots := 0, locals := 47 } : Room) s m (List.toArray [.ref (a 0), .int x1]) below meth c s.heap [] 0 0 (MQ below (va_Qi (fun r (_ : Unit) => r = o.1) (fun _ t => Af_ G ct (wX4 a ct o.2) A t) A) (List.toArray [.ref (a 0), .int x1]) s 0 0 A) (F0 m 0 ls [])
  refine lv_iconst (v := (0 : Int32)) hx hb dX4_readParts_0 (by decide) ?_
  refine lv_istore_n (lv' := [(2, .int (0 : Int32)), (0, .ref (a 0)), (1, .int x1)]) hx hb dX4_readParts_1 rfl hl (by decide) rfl (fun ls hl => ?_)
  replace hf := bs_ hf; obtain ⟨jr, hg, hf⟩ := hf
  have hR1 : ∀ r, jr = Sum.inl r → r = o := fun r hr0 => by subst hr0; have h8 := se_l hf; exact Option.some.inj h8
  have J1 : ∀ (v1 : St_), jr = Sum.inr v1 → ∀ (H : Heap) (locs : List Loc) (ls : Array Slot), WW G A s.heap (wX4 a ct v1) H locs → lv_has ls 4 [] → W p l e ({ frames := 2, cells := 0, slots := 0, locals := 47 } : Room) s m (List.toArray [.ref (a 0), .int x1]) below meth c H locs 0 0 (MQ below (va_Qi (fun r (_ : Unit) => r = o.1) (fun _ t => Af_ G ct (wX4 a ct o.2) A t) A) (List.toArray [.ref (a 0), .int x1]) s 0 0 A) (F0 m 87 ls []) := by
    intro v1 hjr H locs ls hW hl
    subst hjr
    replace hf := se_r hf
    refine lv_iconst (v := (-1 : Int32)) hx hb dX4_readParts_87 (by decide) ?_
    have ho := Option.some.inj hf
    subst ho
    exact x_reti (sz := 0) (w0 := []) (A1 := A) hx hb hr hlocks hK hW rfl rfl dX4_readParts_88
  clear hf
  have L1 : ∀ (n : Nat) (y1_2 : Int32) (g1 : St_), f_X4_readParts_L2 N x1 n y1_2 g1 = some jr → ∀ (H : Heap) (locs : List Loc) (ls : Array Slot), WW G A s.heap (wX4 a ct g1) H locs → lv_has ls 4 [(0, .ref (a 0)), (1, .int x1), (2, .int y1_2)] → W p l e ({ frames := 2, cells := 0, slots := 0, locals := 47 } : Room) s m (List.toArray [.ref (a 0), .int x1]) below meth c H locs 0 0 (MQ below (va_Qi (fun r (_ : Unit) => r = o.1) (fun _ t => Af_ G ct (wX4 a ct o.2) A t) A) (List.toArray [.ref (a 0), .int x1]) s 0 0 A) (F0 m 2 ls []) := by
    intro n
    induction n with
    | zero =>
      intro y1_2 g1 hf
      rw [f_X4_readParts_L2] at hf
      cases hf
    | succ n ih =>
      intro y1_2 g1 hf H locs ls hW hl
      rw [f_X4_readParts_L2] at hf
      refine lv_iload_n hx hb dX4_readParts_2 rfl (lv_at hl 2 rfl) ?_
      refine lv_iconst (v := (3 : Int32)) hx hb dX4_readParts_3 (by decide) ?_
      refine lv_icmp_ge (tgt := 87) hx hb dX4_readParts_4 (by decide) (fun hc => ?_) (fun hc => ?_)
      · replace hf := ifp hc hf
        have hj := (Option.some.inj hf).symm
        exact J1 _ hj _ _ _ hW (lv_sub hl [] rfl)
      · replace hf := ifn hc hf
        refine lv_aload_n hx hb dX4_readParts_7 rfl (lv_at hl 0 rfl) ?_
        refine lv_iconst (v := (1 : Int32)) hx hb dX4_readParts_8 (by decide) ?_
        refine lv_sipush (v := (720 : Int32)) hx hb dX4_readParts_9 (by decide) ?_
        replace hf := bs_ hf; obtain ⟨r2, hcl, hf⟩ := hf
        refine x_callW_i (w' := (wX4 a ct r2.2)) (As := [.int (1 : Int32), .int (720 : Int32)]) (rest := []) (ci := 4) ⟨hx, hb, hml, hown, hts⟩ (c_X4_readNumber l N kd G ct a g1 (1 : Int32) (720 : Int32) _ hcl) (cwV 2 hts gX4_readParts_X4_readNumber rfl rfl rfl (by decide +kernel) ⟨Nat.le_of_ble_eq_true rfl, Nat.le_of_ble_eq_true rfl⟩) hK hE hA hW rfl rfl 0 rfl rfl rfl rfl hl.1 rfl (lv_room (Nat.le_of_ble_eq_true rfl)) dX4_readParts_12 (fun H locs hW => ?_)
        refine lv_istore_n (lv' := [(3, .int r2.1), (0, .ref (a 0)), (1, .int x1), (2, .int y1_2)]) hx hb dX4_readParts_15 rfl hl (by decide) rfl (fun ls hl => ?_)
        refine lv_iload_n hx hb dX4_readParts_16 rfl (lv_at hl 0 rfl) ?_
        refine lv_iconst (v := (-1 : Int32)) hx hb dX4_readParts_17 (by decide) ?_
        refine lv_icmp_ne (tgt := 23) hx hb dX4_readParts_18 (by decide) (fun hc => ?_) (fun hc => ?_)
        · replace hf := ifn hc hf
          refine lv_aload_n hx hb dX4_readParts_23 rfl (lv_at hl 1 rfl) ?_
          refine x_get (ci := 4) (v := .ref (a 4)) (C := RX4) (T := TX4) (N := 6) hx hb hts inX4 hown hK hW 0 rfl rfl 3 (by decide) fl12 (fun _ h9 => h9) rfl dX4_readParts_24 ?_
          refine x_get (ci := 5) (v := .ref (a 12)) (C := RX5) (T := TX5) (N := 4) hx hb hts inX5 hown hK hW 1 rfl rfl 1 (by decide) fl114 (fun _ h9 => h9) rfl dX4_readParts_27 ?_
          refine x_get (ci := 3) (v := .ref (a 17)) (C := RX3) (T := TX3) (N := 8) hx hb hts inX3 hown hK hW 7 rfl rfl 4 (by decide) fl118 (fun _ h9 => h9) rfl dX4_readParts_30 ?_
          refine lv_iconst (v := (3 : Int32)) hx hb dX4_readParts_33 (by decide) ?_
          refine lv_iload_n hx hb dX4_readParts_34 rfl (lv_at hl 2 rfl) ?_
          refine lv_imul hx hb dX4_readParts_35 ?_
          refine lv_iload_n hx hb dX4_readParts_36 rfl (lv_at hl 3 rfl) ?_
          refine lv_iadd hx hb dX4_readParts_37 ?_
          refine lv_iload_n hx hb dX4_readParts_38 rfl (lv_at hl 0 rfl) ?_
          replace hf := gd_s hf; obtain ⟨hin, hf⟩ := hf
          refine x_iast (w' := (wX4 a ct (up1 r2.2 17 (((3 : Int32) * x1) + y1_2).toNatClampNeg r2.1))) (n := 30) (f := r2.2 17) hx hb hK hW 11 rfl (okI_in hin) (ws_X4_17 a ct r2.2 _ _) dX4_readParts_39 (fun H locs hW => ?_)
          refine lv_iload_n hx hb dX4_readParts_40 rfl (lv_at hl 3 rfl) ?_
          refine lv_iconst (v := (2 : Int32)) hx hb dX4_readParts_41 (by decide) ?_
          refine lv_icmp_eq (tgt := 54) hx hb dX4_readParts_42 (by decide) (fun hc => ?_) (fun hc => ?_)
          · replace hf := ifp hc hf
            refine lv_aload_n hx hb dX4_readParts_54 rfl (lv_at hl 1 rfl) ?_
            refine lv_bipush (v := (59 : Int32)) hx hb dX4_readParts_55 (by decide) ?_
            replace hf := bs_ hf; obtain ⟨r3, hcl, hf⟩ := hf
            refine x_callW_i (w' := (wX4 a ct r3.2)) (As := [.int (59 : Int32)]) (rest := []) (ci := 4) ⟨hx, hb, hml, hown, hts⟩ (c_X4_readSign l N kd G ct a (up1 r2.2 17 (((3 : Int32) * x1) + y1_2).toNatClampNeg r2.1) (59 : Int32) _ hcl) (cwV 1 hts gX4_readParts_X4_readSign rfl rfl rfl (by decide +kernel) ⟨Nat.le_of_ble_eq_true rfl, Nat.le_of_ble_eq_true rfl⟩) hK hE hA hW rfl rfl 0 rfl rfl rfl rfl hl.1 rfl (lv_room (Nat.le_of_ble_eq_true rfl)) dX4_readParts_57 (fun H locs hW => ?_)
            refine lv_if_eq (tgt := 69) hx hb dX4_readParts_60 (by decide) (fun hc => ?_) (fun hc => ?_)
            · replace hf := ifp hc hf
              refine lv_iconst (v := (-1 : Int32)) hx hb dX4_readParts_69 (by decide) ?_
              have ho := hR1 _ (Option.some.inj hf).symm
              subst ho
              exact x_reti (sz := 0) (w0 := []) (A1 := A) hx hb hr hlocks hK hW rfl rfl dX4_readParts_70
            · replace hf := ifn hc hf
              refine lv_iload_n hx hb dX4_readParts_63 rfl (lv_at hl 3 rfl) ?_
              refine lv_iconst (v := (1 : Int32)) hx hb dX4_readParts_64 (by decide) ?_
              refine lv_iadd hx hb dX4_readParts_65 ?_
              refine lv_goto (tgt := 70) hx hb dX4_readParts_66 (by decide) ?_
              have ho := hR1 _ (Option.some.inj hf).symm
              subst ho
              exact x_reti (sz := 0) (w0 := []) (A1 := A) hx hb hr hlocks hK hW rfl rfl dX4_readParts_70
          · replace hf := ifn hc hf
            refine lv_aload_n hx hb dX4_readParts_45 rfl (lv_at hl 1 rfl) ?_
            replace hf := bs_ hf; obtain ⟨r4, hcl, hf⟩ := hf
            refine x_callW_i (w' := (wX4 a ct r4.2)) (As := []) (rest := []) (ci := 4) ⟨hx, hb, hml, hown, hts⟩ (c_X4_look l N kd G ct a (up1 r2.2 17 (((3 : Int32) * x1) + y1_2).toNatClampNeg r2.1) _ hcl) (cwV 0 hts gX4_readParts_X4_look rfl rfl rfl (by decide +kernel) ⟨Nat.le_of_ble_eq_true rfl, Nat.le_of_ble_eq_true rfl⟩) hK hE hA hW rfl rfl 0 rfl rfl rfl rfl hl.1 rfl (lv_room (Nat.le_of_ble_eq_true rfl)) dX4_readParts_46 (fun H locs hW => ?_)
            refine lv_bipush (v := (44 : Int32)) hx hb dX4_readParts_49 (by decide) ?_
            refine lv_icmp_eq (tgt := 71) hx hb dX4_readParts_51 (by decide) (fun hc => ?_) (fun hc => ?_)
            · replace hf := ifp hc hf
              refine lv_aload_n hx hb dX4_readParts_71 rfl (lv_at hl 1 rfl) ?_
              refine lv_dup hx hb dX4_readParts_72 rfl ?_
              refine x_get (ci := 4) (v := .int (r4.2 24 0)) (C := RX4) (T := TX4) (N := 6) hx hb hts inX4 hown hK hW 0 rfl rfl 5 (by decide) fl29 (fun _ h9 => h9) rfl dX4_readParts_73 ?_
              refine lv_iconst (v := (1 : Int32)) hx hb dX4_readParts_76 (by decide) ?_
              refine lv_iadd hx hb dX4_readParts_77 ?_
              refine x_put (w' := (wX4 a ct (up1 r4.2 24 0 ((r4.2 24 0) + (1 : Int32))))) (fs := fsX4 a r4.2) (ci := 4) (v := .int ((r4.2 24 0) + (1 : Int32))) (ty := .int) (C := RX4) (T := TX4) (N := 6) hx hb hts inX4 tyX4 tyX4_ok nmX4 hown hK hW 0 rfl rfl 5 (by decide) fl29 (fun _ h9 => h9) rfl (by decide +kernel) rfl rfl (Nat.le_of_ble_eq_true rfl) (wp_X4_24 a ct r4.2 ((r4.2 24 0) + (1 : Int32))) dX4_readParts_78 (fun H locs hW => ?_)
              refine lv_iinc (v := (y1_2 + (1 : Int32))) (lv' := [(2, .int (y1_2 + (1 : Int32))), (3, .int r2.1), (0, .ref (a 0)), (1, .int x1)]) hx hb dX4_readParts_81 hl (k := 3) rfl rfl (by decide) rfl (fun ls hl => ?_)
              refine lv_goto (tgt := 2) hx hb dX4_readParts_84 (by decide) ?_
              exact ih (y1_2 + (1 : Int32)) (up1 r4.2 24 0 ((r4.2 24 0) + (1 : Int32))) hf _ _ _ hW (lv_sub hl [2, 3, 0] rfl)
            · replace hf := ifn hc hf
              refine lv_aload_n hx hb dX4_readParts_54 rfl (lv_at hl 1 rfl) ?_
              refine lv_bipush (v := (59 : Int32)) hx hb dX4_readParts_55 (by decide) ?_
              replace hf := bs_ hf; obtain ⟨r5, hcl, hf⟩ := hf
              refine x_callW_i (w' := (wX4 a ct r5.2)) (As := [.int (59 : Int32)]) (rest := []) (ci := 4) ⟨hx, hb, hml, hown, hts⟩ (c_X4_readSign l N kd G ct a r4.2 (59 : Int32) _ hcl) (cwV 1 hts gX4_readParts_X4_readSign rfl rfl rfl (by decide +kernel) ⟨Nat.le_of_ble_eq_true rfl, Nat.le_of_ble_eq_true rfl⟩) hK hE hA hW rfl rfl 0 rfl rfl rfl rfl hl.1 rfl (lv_room (Nat.le_of_ble_eq_true rfl)) dX4_readParts_57 (fun H locs hW => ?_)
              refine lv_if_eq (tgt := 69) hx hb dX4_readParts_60 (by decide) (fun hc => ?_) (fun hc => ?_)
              · replace hf := ifp hc hf
                refine lv_iconst (v := (-1 : Int32)) hx hb dX4_readParts_69 (by decide) ?_
                have ho := hR1 _ (Option.some.inj hf).symm
                subst ho
                exact x_reti (sz := 0) (w0 := []) (A1 := A) hx hb hr hlocks hK hW rfl rfl dX4_readParts_70
              · replace hf := ifn hc hf
                refine lv_iload_n hx hb dX4_readParts_63 rfl (lv_at hl 3 rfl) ?_
                refine lv_iconst (v := (1 : Int32)) hx hb dX4_readParts_64 (by decide) ?_
                refine lv_iadd hx hb dX4_readParts_65 ?_
                refine lv_goto (tgt := 70) hx hb dX4_readParts_66 (by decide) ?_
                have ho := hR1 _ (Option.some.inj hf).symm
                subst ho
                exact x_reti (sz := 0) (w0 := []) (A1 := A) hx hb hr hlocks hK hW rfl rfl dX4_readParts_70
        · replace hf := ifp hc hf
          refine lv_iconst (v := (-1 : Int32)) hx hb dX4_readParts_21 (by decide) ?_
          have ho := hR1 _ (Option.some.inj hf).symm
          subst ho
          exact x_reti (sz := 0) (w0 := []) (A1 := A) hx hb hr hlocks hK hW rfl rfl dX4_readParts_22
  exact L1 N (0 : Int32) g hg _ _ _ hW (lv_sub hl [1, 2, 0] rfl)
set_option maxHeartbeats 4000000 in
set_option maxRecDepth 100000 in
theorem c_X4_readStair (l : Launch) (N : Nat) (kd : (Nat → Nat) × (Nat → Nat)) (G : va_G) (ct : Nat → ClassId) (a : Nat → Nat) (g : St_) (x1 : Int32) (o : St_) (hf : f_X4_readStair N g x1 = some o) : CtV l yX4_readStair wsX4_readStair ({ frames := 6, cells := 0, slots := 0, locals := 164 }) kd G ct [.ref (a 0), .int x1] (wX4 a ct g) (wX4 a ct o) := by
  intro sz
  refine Met.ofW (cc := cX4_readStair) (maxL := 7) (ret := none) (by decide) rfl ?_
  intro p e s m args below meth c s₁ B hml hv
  obtain ⟨rfl, hsz, hP, hK, hD0, hE⟩ := hv
  have hx := B.exec
  have hb := B.bytes
  have hr := B.returns
  have hts := atoms_spec (ws := wsX4_readStair) B.pre
  have hown : s.vm.findClass RX4 = some m.cls := findClass_of_methodNamed B.named
  have hlocks := B.notSynchronized
  have inX1 : ∀ w ∈ wsX10, w ∈ wsX4_readStair := by decide +kernel
  have inX4 : ∀ w ∈ wsX40, w ∈ wsX4_readStair := by decide +kernel
  have inX5 : ∀ w ∈ wsX50, w ∈ wsX4_readStair := by decide +kernel
  have fl12 := hts (.fieldLink RX4 12 "FittingStrides$Text" "draft" "LFittingStrides$Town;") (by decide +kernel)
  have fl54 := hts (.fieldLink RX4 54 "FittingStrides$Town" "plan" "LFittingStrides$Plan;") (by decide +kernel)
  have fl88 := hts (.fieldLink RX4 88 "FittingStrides$Plan" "stairs" "I") (by decide +kernel)
  have fl101 := hts (.fieldLink RX4 101 "FittingStrides$Plan" "kinds" "[I") (by decide +kernel)
  have fl105 := hts (.fieldLink RX4 105 "FittingStrides$Plan" "lows" "[I") (by decide +kernel)
  have fl108 := hts (.fieldLink RX4 108 "FittingStrides$Plan" "highs" "[I") (by decide +kernel)
  have fl111 := hts (.fieldLink RX4 111 "FittingStrides$Plan" "parts" "[I") (by decide +kernel)
  subst hsz
  have hD := hD0.self (sz := s.heap.size)
  generalize hAe : va_A (wX4 a ct g) s.heap.size = A at hD hE ⊢
  have hA : ∀ q : Nat, s.heap.size ≤ q → A q := fun q h => by rw [← hAe]; exact Or.inr h
  have hW : WW G A s.heap (wX4 a ct g) s.heap [] := ⟨hP, hD, va_S.rf⟩
  have hl := lv_entry ([.ref (a 0), .int x1]) (n := 7) (Nat.le_of_ble_eq_true rfl)
  rw [lg_entry_eq]
  generalize (lg_sl ([.ref (a 0), .int x1]) ++ List.replicate (7 - (lg_sl ([.ref (a 0), .int x1])).length) Slot.unset).toArray = ls at hl ⊢
  have hl : lv_has ls 7 [(0, .ref (a 0)), (1, .int x1)] := hl
  unfold f_X4_readStair at hf
  show W p l e ({ frames := 6, cells := 0, slots := 0, locals := 164 } : Room) s m (List.toArray [.ref (a 0), .int x1]) below meth c s.heap [] 0 0 (MQ below (va_Qv (fun (_ : Unit) => True) (fun _ t => Af_ G ct (wX4 a ct o) A t) A) (List.toArray [.ref (a 0), .int x1]) s 0 0 A) (F0 m 0 ls [])
  refine lv_aload_n hx hb dX4_readStair_0 rfl (lv_at hl 0 rfl) ?_
  refine x_get (ci := 4) (v := .ref (a 4)) (C := RX4) (T := TX4) (N := 6) hx hb hts inX4 hown hK hW 0 rfl rfl 3 (by decide) fl12 (fun _ h9 => h9) rfl dX4_readStair_1 ?_
  refine x_get (ci := 5) (v := .ref (a 5)) (C := RX5) (T := TX5) (N := 4) hx hb hts inX5 hown hK hW 1 rfl rfl 0 (by decide) fl54 (fun _ h9 => h9) rfl dX4_readStair_4 ?_
  refine x_get (ci := 1) (v := .int (g 7 0)) (C := RX1) (T := TX1) (N := 6) hx hb hts inX1 hown hK hW 2 rfl rfl 1 (by decide) fl88 (fun _ h9 => h9) rfl dX4_readStair_7 ?_
  refine lv_istore_n (lv' := [(2, .int (g 7 0)), (0, .ref (a 0)), (1, .int x1)]) hx hb dX4_readStair_10 rfl hl (by decide) rfl (fun ls hl => ?_)
  refine lv_iload_n hx hb dX4_readStair_11 rfl (lv_at hl 0 rfl) ?_
  refine lv_bipush (v := (10 : Int32)) hx hb dX4_readStair_12 (by decide) ?_
  refine lv_icmp_lt (tgt := 24) hx hb dX4_readStair_14 (by decide) (fun hc => ?_) (fun hc => ?_)
  · replace hf := ifp hc hf
    refine lv_aload_n hx hb dX4_readStair_24 rfl (lv_at hl 1 rfl) ?_
    replace hf := bs_ hf; obtain ⟨r1, hcl, hf⟩ := hf
    refine x_callW_i (w' := (wX4 a ct r1.2)) (As := []) (rest := []) (ci := 4) ⟨hx, hb, hml, hown, hts⟩ (c_X4_readKind l N kd G ct a g _ hcl) (cwV 0 hts gX4_readStair_X4_readKind rfl rfl rfl (by decide +kernel) ⟨Nat.le_of_ble_eq_true rfl, Nat.le_of_ble_eq_true rfl⟩) hK hE hA hW rfl rfl 0 rfl rfl rfl rfl hl.1 rfl (lv_room (Nat.le_of_ble_eq_true rfl)) dX4_readStair_25 (fun H locs hW => ?_)
    refine lv_istore_n (lv' := [(3, .int r1.1), (2, .int (g 7 0)), (0, .ref (a 0)), (1, .int x1)]) hx hb dX4_readStair_28 rfl hl (by decide) rfl (fun ls hl => ?_)
    refine lv_iload_n hx hb dX4_readStair_29 rfl (lv_at hl 0 rfl) ?_
    refine lv_iconst (v := (-1 : Int32)) hx hb dX4_readStair_30 (by decide) ?_
    replace hf := bs_ hf; obtain ⟨j2, hg, hf⟩ := hf
    have J2 : ∀ (H : Heap) (locs : List Loc) (ls : Array Slot), WW G A s.heap (wX4 a ct j2.2) H locs → lv_has ls 7 [(0, .ref (a 0)), (2, .int (g 7 0)), (3, .int r1.1)] → W p l e ({ frames := 6, cells := 0, slots := 0, locals := 164 } : Room) s m (List.toArray [.ref (a 0), .int x1]) below meth c H locs 0 0 (MQ below (va_Qv (fun (_ : Unit) => True) (fun _ t => Af_ G ct (wX4 a ct o) A t) A) (List.toArray [.ref (a 0), .int x1]) s 0 0 A) (F0 m 43 ls (.int j2.1 :: [])) := by
      intro H locs ls hW hl
      refine lv_istore (lv' := [(4, .int j2.1), (0, .ref (a 0)), (2, .int (g 7 0)), (3, .int r1.1)]) hx hb dX4_readStair_43 hl (by decide) rfl (fun ls hl => ?_)
      refine lv_iload hx hb dX4_readStair_45 (lv_at hl 0 rfl) ?_
      refine lv_iconst (v := (-1 : Int32)) hx hb dX4_readStair_47 (by decide) ?_
      replace hf := bs_ hf; obtain ⟨j4, hg, hf⟩ := hf
      have J4 : ∀ (H : Heap) (locs : List Loc) (ls : Array Slot), WW G A s.heap (wX4 a ct j4.2) H locs → lv_has ls 7 [(0, .ref (a 0)), (2, .int (g 7 0)), (3, .int r1.1), (4, .int j2.1)] → W p l e ({ frames := 6, cells := 0, slots := 0, locals := 164 } : Room) s m (List.toArray [.ref (a 0), .int x1]) below meth c H locs 0 0 (MQ below (va_Qv (fun (_ : Unit) => True) (fun _ t => Af_ G ct (wX4 a ct o) A t) A) (List.toArray [.ref (a 0), .int x1]) s 0 0 A) (F0 m 61 ls (.int j4.1 :: [])) := by
        intro H locs ls hW hl
        refine lv_istore (lv' := [(5, .int j4.1), (0, .ref (a 0)), (2, .int (g 7 0)), (3, .int r1.1), (4, .int j2.1)]) hx hb dX4_readStair_61 hl (by decide) rfl (fun ls hl => ?_)
        refine lv_iload hx hb dX4_readStair_63 (lv_at hl 0 rfl) ?_
        refine lv_iconst (v := (-1 : Int32)) hx hb dX4_readStair_65 (by decide) ?_
        replace hf := bs_ hf; obtain ⟨j6, hg, hf⟩ := hf
        have J6 : ∀ (H : Heap) (locs : List Loc) (ls : Array Slot), WW G A s.heap (wX4 a ct j6.2) H locs → lv_has ls 7 [(0, .ref (a 0)), (2, .int (g 7 0)), (3, .int r1.1), (4, .int j2.1), (5, .int j4.1)] → W p l e ({ frames := 6, cells := 0, slots := 0, locals := 164 } : Room) s m (List.toArray [.ref (a 0), .int x1]) below meth c H locs 0 0 (MQ below (va_Qv (fun (_ : Unit) => True) (fun _ t => Af_ G ct (wX4 a ct o) A t) A) (List.toArray [.ref (a 0), .int x1]) s 0 0 A) (F0 m 78 ls (.int j6.1 :: [])) := by
          intro H locs ls hW hl
          refine lv_istore (lv' := [(6, .int j6.1), (0, .ref (a 0)), (2, .int (g 7 0)), (3, .int r1.1), (4, .int j2.1), (5, .int j4.1)]) hx hb dX4_readStair_78 hl (by decide) rfl (fun ls hl => ?_)
          refine lv_iload hx hb dX4_readStair_80 (lv_at hl 0 rfl) ?_
          refine lv_iconst (v := (-1 : Int32)) hx hb dX4_readStair_82 (by decide) ?_
          refine lv_icmp_eq (tgt := 154) hx hb dX4_readStair_83 (by decide) (fun hc => ?_) (fun hc => ?_)
          · replace hf := ifp hc hf
            have ho := Option.some.inj hf
            subst ho
            exact x_retv hx hb hr hlocks hK hW rfl dX4_readStair_154
          · replace hf := ifn hc hf
            refine lv_aload_n hx hb dX4_readStair_86 rfl (lv_at hl 1 rfl) ?_
            refine x_get (ci := 4) (v := .ref (a 4)) (C := RX4) (T := TX4) (N := 6) hx hb hts inX4 hown hK hW 0 rfl rfl 3 (by decide) fl12 (fun _ h9 => h9) rfl dX4_readStair_87 ?_
            refine x_get (ci := 5) (v := .ref (a 5)) (C := RX5) (T := TX5) (N := 4) hx hb hts inX5 hown hK hW 1 rfl rfl 0 (by decide) fl54 (fun _ h9 => h9) rfl dX4_readStair_90 ?_
            refine x_get (ci := 1) (v := .ref (a 8)) (C := RX1) (T := TX1) (N := 6) hx hb hts inX1 hown hK hW 2 rfl rfl 2 (by decide) fl101 (fun _ h9 => h9) rfl dX4_readStair_93 ?_
            refine lv_iload_n hx hb dX4_readStair_96 rfl (lv_at hl 2 rfl) ?_
            refine lv_iload_n hx hb dX4_readStair_97 rfl (lv_at hl 3 rfl) ?_
            replace hf := gd_s hf; obtain ⟨hin, hf⟩ := hf
            refine x_iast (w' := (wX4 a ct (up1 j6.2 8 (g 7 0).toNatClampNeg r1.1))) (n := 10) (f := j6.2 8) hx hb hK hW 3 rfl (okI_in hin) (ws_X4_8 a ct j6.2 _ _) dX4_readStair_98 (fun H locs hW => ?_)
            refine lv_aload_n hx hb dX4_readStair_99 rfl (lv_at hl 1 rfl) ?_
            refine x_get (ci := 4) (v := .ref (a 4)) (C := RX4) (T := TX4) (N := 6) hx hb hts inX4 hown hK hW 0 rfl rfl 3 (by decide) fl12 (fun _ h9 => h9) rfl dX4_readStair_100 ?_
            refine x_get (ci := 5) (v := .ref (a 5)) (C := RX5) (T := TX5) (N := 4) hx hb hts inX5 hown hK hW 1 rfl rfl 0 (by decide) fl54 (fun _ h9 => h9) rfl dX4_readStair_103 ?_
            refine x_get (ci := 1) (v := .ref (a 9)) (C := RX1) (T := TX1) (N := 6) hx hb hts inX1 hown hK hW 2 rfl rfl 3 (by decide) fl105 (fun _ h9 => h9) rfl dX4_readStair_106 ?_
            refine lv_iload_n hx hb dX4_readStair_109 rfl (lv_at hl 2 rfl) ?_
            refine lv_iload hx hb dX4_readStair_110 (lv_at hl 4 rfl) ?_
            replace hf := gd_s hf; obtain ⟨hin, hf⟩ := hf
            refine x_iast (w' := (wX4 a ct (up1 (up1 j6.2 8 (g 7 0).toNatClampNeg r1.1) 9 (g 7 0).toNatClampNeg j2.1))) (n := 10) (f := (up1 j6.2 8 (g 7 0).toNatClampNeg r1.1) 9) hx hb hK hW 4 rfl (okI_in hin) (ws_X4_9 a ct (up1 j6.2 8 (g 7 0).toNatClampNeg r1.1) _ _) dX4_readStair_112 (fun H locs hW => ?_)
            refine lv_aload_n hx hb dX4_readStair_113 rfl (lv_at hl 1 rfl) ?_
            refine x_get (ci := 4) (v := .ref (a 4)) (C := RX4) (T := TX4) (N := 6) hx hb hts inX4 hown hK hW 0 rfl rfl 3 (by decide) fl12 (fun _ h9 => h9) rfl dX4_readStair_114 ?_
            refine x_get (ci := 5) (v := .ref (a 5)) (C := RX5) (T := TX5) (N := 4) hx hb hts inX5 hown hK hW 1 rfl rfl 0 (by decide) fl54 (fun _ h9 => h9) rfl dX4_readStair_117 ?_
            refine x_get (ci := 1) (v := .ref (a 10)) (C := RX1) (T := TX1) (N := 6) hx hb hts inX1 hown hK hW 2 rfl rfl 4 (by decide) fl108 (fun _ h9 => h9) rfl dX4_readStair_120 ?_
            refine lv_iload_n hx hb dX4_readStair_123 rfl (lv_at hl 2 rfl) ?_
            refine lv_iload hx hb dX4_readStair_124 (lv_at hl 5 rfl) ?_
            replace hf := gd_s hf; obtain ⟨hin, hf⟩ := hf
            refine x_iast (w' := (wX4 a ct (up1 (up1 (up1 j6.2 8 (g 7 0).toNatClampNeg r1.1) 9 (g 7 0).toNatClampNeg j2.1) 10 (g 7 0).toNatClampNeg j4.1))) (n := 10) (f := (up1 (up1 j6.2 8 (g 7 0).toNatClampNeg r1.1) 9 (g 7 0).toNatClampNeg j2.1) 10) hx hb hK hW 5 rfl (okI_in hin) (ws_X4_10 a ct (up1 (up1 j6.2 8 (g 7 0).toNatClampNeg r1.1) 9 (g 7 0).toNatClampNeg j2.1) _ _) dX4_readStair_126 (fun H locs hW => ?_)
            refine lv_aload_n hx hb dX4_readStair_127 rfl (lv_at hl 1 rfl) ?_
            refine x_get (ci := 4) (v := .ref (a 4)) (C := RX4) (T := TX4) (N := 6) hx hb hts inX4 hown hK hW 0 rfl rfl 3 (by decide) fl12 (fun _ h9 => h9) rfl dX4_readStair_128 ?_
            refine x_get (ci := 5) (v := .ref (a 5)) (C := RX5) (T := TX5) (N := 4) hx hb hts inX5 hown hK hW 1 rfl rfl 0 (by decide) fl54 (fun _ h9 => h9) rfl dX4_readStair_131 ?_
            refine x_get (ci := 1) (v := .ref (a 11)) (C := RX1) (T := TX1) (N := 6) hx hb hts inX1 hown hK hW 2 rfl rfl 5 (by decide) fl111 (fun _ h9 => h9) rfl dX4_readStair_134 ?_
            refine lv_iload_n hx hb dX4_readStair_137 rfl (lv_at hl 2 rfl) ?_
            refine lv_iload hx hb dX4_readStair_138 (lv_at hl 0 rfl) ?_
            replace hf := gd_s hf; obtain ⟨hin, hf⟩ := hf
            refine x_iast (w' := (wX4 a ct (up1 (up1 (up1 (up1 j6.2 8 (g 7 0).toNatClampNeg r1.1) 9 (g 7 0).toNatClampNeg j2.1) 10 (g 7 0).toNatClampNeg j4.1) 11 (g 7 0).toNatClampNeg j6.1))) (n := 10) (f := (up1 (up1 (up1 j6.2 8 (g 7 0).toNatClampNeg r1.1) 9 (g 7 0).toNatClampNeg j2.1) 10 (g 7 0).toNatClampNeg j4.1) 11) hx hb hK hW 6 rfl (okI_in hin) (ws_X4_11 a ct (up1 (up1 (up1 j6.2 8 (g 7 0).toNatClampNeg r1.1) 9 (g 7 0).toNatClampNeg j2.1) 10 (g 7 0).toNatClampNeg j4.1) _ _) dX4_readStair_140 (fun H locs hW => ?_)
            refine lv_aload_n hx hb dX4_readStair_141 rfl (lv_at hl 1 rfl) ?_
            refine x_get (ci := 4) (v := .ref (a 4)) (C := RX4) (T := TX4) (N := 6) hx hb hts inX4 hown hK hW 0 rfl rfl 3 (by decide) fl12 (fun _ h9 => h9) rfl dX4_readStair_142 ?_
            refine x_get (ci := 5) (v := .ref (a 5)) (C := RX5) (T := TX5) (N := 4) hx hb hts inX5 hown hK hW 1 rfl rfl 0 (by decide) fl54 (fun _ h9 => h9) rfl dX4_readStair_145 ?_
            refine lv_iload_n hx hb dX4_readStair_148 rfl (lv_at hl 2 rfl) ?_
            refine lv_iconst (v := (1 : Int32)) hx hb dX4_readStair_149 (by decide) ?_
            refine lv_iadd hx hb dX4_readStair_150 ?_
            refine x_put (w' := (wX4 a ct (up1 (up1 (up1 (up1 (up1 j6.2 8 (g 7 0).toNatClampNeg r1.1) 9 (g 7 0).toNatClampNeg j2.1) 10 (g 7 0).toNatClampNeg j4.1) 11 (g 7 0).toNatClampNeg j6.1) 7 0 ((g 7 0) + (1 : Int32))))) (fs := fsX1 (sh_ 5 a) (sh_ 5 (up1 (up1 (up1 (up1 j6.2 8 (g 7 0).toNatClampNeg r1.1) 9 (g 7 0).toNatClampNeg j2.1) 10 (g 7 0).toNatClampNeg j4.1) 11 (g 7 0).toNatClampNeg j6.1))) (ci := 1) (v := .int ((g 7 0) + (1 : Int32))) (ty := .int) (C := RX1) (T := TX1) (N := 6) hx hb hts inX1 tyX1 tyX1_ok nmX1 hown hK hW 2 rfl rfl 1 (by decide) fl88 (fun _ h9 => h9) rfl (by decide +kernel) rfl rfl (Nat.le_of_ble_eq_true rfl) (wp_X4_7 a ct (up1 (up1 (up1 (up1 j6.2 8 (g 7 0).toNatClampNeg r1.1) 9 (g 7 0).toNatClampNeg j2.1) 10 (g 7 0).toNatClampNeg j4.1) 11 (g 7 0).toNatClampNeg j6.1) ((g 7 0) + (1 : Int32))) dX4_readStair_151 (fun H locs hW => ?_)
            have ho := Option.some.inj hf
            subst ho
            exact x_retv hx hb hr hlocks hK hW rfl dX4_readStair_154
        clear hf
        refine lv_icmp_ne (tgt := 73) hx hb dX4_readStair_66 (by decide) (fun hc => ?_) (fun hc => ?_)
        · have hf := ifn hc hg
          clear hg
          refine lv_aload_n hx hb dX4_readStair_73 rfl (lv_at hl 1 rfl) ?_
          refine lv_iload_n hx hb dX4_readStair_74 rfl (lv_at hl 2 rfl) ?_
          replace hf := bs_ hf; obtain ⟨r7, hcl, hf⟩ := hf
          refine x_callW_i (w' := (wX4 a ct r7.2)) (As := [.int (g 7 0)]) (rest := []) (ci := 4) ⟨hx, hb, hml, hown, hts⟩ (c_X4_readParts l N kd G ct a j4.2 (g 7 0) _ hcl) (cwV 1 hts gX4_readStair_X4_readParts rfl rfl rfl (by decide +kernel) ⟨Nat.le_of_ble_eq_true rfl, Nat.le_of_ble_eq_true rfl⟩) hK hE hA hW rfl rfl 0 rfl rfl rfl rfl hl.1 rfl (lv_room (Nat.le_of_ble_eq_true rfl)) dX4_readStair_75 (fun H locs hW => ?_)
          have hj := Option.some.inj hf
          subst hj
          exact J6 _ _ _ hW (lv_sub hl [1, 2, 3, 4, 0] rfl)
        · have hf := ifp hc hg
          clear hg
          refine lv_iconst (v := (-1 : Int32)) hx hb dX4_readStair_69 (by decide) ?_
          refine lv_goto (tgt := 78) hx hb dX4_readStair_70 (by decide) ?_
          have hj := Option.some.inj hf
          subst hj
          exact J6 _ _ _ hW (lv_sub hl [1, 2, 3, 4, 0] rfl)
      clear hf
      refine lv_icmp_ne (tgt := 55) hx hb dX4_readStair_48 (by decide) (fun hc => ?_) (fun hc => ?_)
      · have hf := ifn hc hg
        clear hg
        refine lv_aload_n hx hb dX4_readStair_55 rfl (lv_at hl 1 rfl) ?_
        refine lv_iload hx hb dX4_readStair_56 (lv_at hl 0 rfl) ?_
        replace hf := bs_ hf; obtain ⟨r5, hcl, hf⟩ := hf
        refine x_callW_i (w' := (wX4 a ct r5.2)) (As := [.int j2.1]) (rest := []) (ci := 4) ⟨hx, hb, hml, hown, hts⟩ (c_X4_readPlace l N kd G ct a j2.2 j2.1 _ hcl) (cwV 1 hts gX4_readStair_X4_readPlace rfl rfl rfl (by decide +kernel) ⟨Nat.le_of_ble_eq_true rfl, Nat.le_of_ble_eq_true rfl⟩) hK hE hA hW rfl rfl 0 rfl rfl rfl rfl hl.1 rfl (lv_room (Nat.le_of_ble_eq_true rfl)) dX4_readStair_58 (fun H locs hW => ?_)
        have hj := Option.some.inj hf
        subst hj
        exact J4 _ _ _ hW (lv_sub hl [1, 2, 3, 0] rfl)
      · have hf := ifp hc hg
        clear hg
        refine lv_iconst (v := (-1 : Int32)) hx hb dX4_readStair_51 (by decide) ?_
        refine lv_goto (tgt := 61) hx hb dX4_readStair_52 (by decide) ?_
        have hj := Option.some.inj hf
        subst hj
        exact J4 _ _ _ hW (lv_sub hl [1, 2, 3, 0] rfl)
    clear hf
    refine lv_icmp_ne (tgt := 38) hx hb dX4_readStair_31 (by decide) (fun hc => ?_) (fun hc => ?_)
    · have hf := ifn hc hg
      clear hg
      refine lv_aload_n hx hb dX4_readStair_38 rfl (lv_at hl 2 rfl) ?_
      refine lv_iconst (v := (-1 : Int32)) hx hb dX4_readStair_39 (by decide) ?_
      replace hf := bs_ hf; obtain ⟨r3, hcl, hf⟩ := hf
      refine x_callW_i (w' := (wX4 a ct r3.2)) (As := [.int (-1 : Int32)]) (rest := []) (ci := 4) ⟨hx, hb, hml, hown, hts⟩ (c_X4_readPlace l N kd G ct a r1.2 (-1 : Int32) _ hcl) (cwV 1 hts gX4_readStair_X4_readPlace rfl rfl rfl (by decide +kernel) ⟨Nat.le_of_ble_eq_true rfl, Nat.le_of_ble_eq_true rfl⟩) hK hE hA hW rfl rfl 0 rfl rfl rfl rfl hl.1 rfl (lv_room (Nat.le_of_ble_eq_true rfl)) dX4_readStair_40 (fun H locs hW => ?_)
      have hj := Option.some.inj hf
      subst hj
      exact J2 _ _ _ hW (lv_sub hl [2, 1, 0] rfl)
    · have hf := ifp hc hg
      clear hg
      refine lv_iconst (v := (-1 : Int32)) hx hb dX4_readStair_34 (by decide) ?_
      refine lv_goto (tgt := 43) hx hb dX4_readStair_35 (by decide) ?_
      have hj := Option.some.inj hf
      subst hj
      exact J2 _ _ _ hW (lv_sub hl [2, 1, 0] rfl)
  · replace hf := ifn hc hf
    refine lv_aload_n hx hb dX4_readStair_17 rfl (lv_at hl 1 rfl) ?_
    refine lv_iconst (v := (3 : Int32)) hx hb dX4_readStair_18 (by decide) ?_
    refine lv_iload_n hx hb dX4_readStair_19 rfl (lv_at hl 2 rfl) ?_
    replace hf := bs_ hf; obtain ⟨r8, hcl, hf⟩ := hf
    refine x_callW_v (w' := (wX4 a ct r8)) (As := [.int (3 : Int32), .int x1]) (rest := []) (ci := 4) ⟨hx, hb, hml, hown, hts⟩ (c_X4_fail l N kd G ct a g (3 : Int32) x1 _ hcl) (cwV 2 hts gX4_readStair_X4_fail rfl rfl rfl (by decide +kernel) ⟨Nat.le_of_ble_eq_true rfl, Nat.le_of_ble_eq_true rfl⟩) hK hE hA hW rfl rfl 0 rfl rfl rfl rfl hl.1 rfl (lv_room (Nat.le_of_ble_eq_true rfl)) dX4_readStair_20 (fun H locs hW => ?_)
    have ho := Option.some.inj hf
    subst ho
    exact x_retv hx hb hr hlocks hK hW rfl dX4_readStair_23
set_option maxHeartbeats 4000000 in
set_option maxRecDepth 100000 in
theorem c_X4_readPerson (l : Launch) (N : Nat) (kd : (Nat → Nat) × (Nat → Nat)) (G : va_G) (ct : Nat → ClassId) (a : Nat → Nat) (g : St_) (x1 : Int32) (o : St_) (hf : f_X4_readPerson N g x1 = some o) : CtV l yX4_readPerson wsX4_readPerson ({ frames := 3, cells := 0, slots := 0, locals := 70 }) kd G ct [.ref (a 0), .int x1] (wX4 a ct g) (wX4 a ct o) := by
  intro sz
  refine Met.ofW (cc := cX4_readPerson) (maxL := 5) (ret := none) (by decide) rfl ?_
  intro p e s m args below meth c s₁ B hml hv
  obtain ⟨rfl, hsz, hP, hK, hD0, hE⟩ := hv
  have hx := B.exec
  have hb := B.bytes
  have hr := B.returns
  have hts := atoms_spec (ws := wsX4_readPerson) B.pre
  have hown : s.vm.findClass RX4 = some m.cls := findClass_of_methodNamed B.named
  have hlocks := B.notSynchronized
  have inX3 : ∀ w ∈ wsX30, w ∈ wsX4_readPerson := by decide +kernel
  have inX4 : ∀ w ∈ wsX40, w ∈ wsX4_readPerson := by decide +kernel
  have inX5 : ∀ w ∈ wsX50, w ∈ wsX4_readPerson := by decide +kernel
  have fl12 := hts (.fieldLink RX4 12 "FittingStrides$Text" "draft" "LFittingStrides$Town;") (by decide +kernel)
  have fl114 := hts (.fieldLink RX4 114 "FittingStrides$Town" "state" "LFittingStrides$State;") (by decide +kernel)
  have fl123 := hts (.fieldLink RX4 123 "FittingStrides$State" "persons" "I") (by decide +kernel)
  subst hsz
  have hD := hD0.self (sz := s.heap.size)
  generalize hAe : va_A (wX4 a ct g) s.heap.size = A at hD hE ⊢
  have hA : ∀ q : Nat, s.heap.size ≤ q → A q := fun q h => by rw [← hAe]; exact Or.inr h
  have hW : WW G A s.heap (wX4 a ct g) s.heap [] := ⟨hP, hD, va_S.rf⟩
  have hl := lv_entry ([.ref (a 0), .int x1]) (n := 5) (Nat.le_of_ble_eq_true rfl)
  rw [lg_entry_eq]
  generalize (lg_sl ([.ref (a 0), .int x1]) ++ List.replicate (5 - (lg_sl ([.ref (a 0), .int x1])).length) Slot.unset).toArray = ls at hl ⊢
  have hl : lv_has ls 5 [(0, .ref (a 0)), (1, .int x1)] := hl
  unfold f_X4_readPerson at hf
  show W p l e ({ frames := 3, cells := 0, slots := 0, locals := 70 } : Room) s m (List.toArray [.ref (a 0), .int x1]) below meth c s.heap [] 0 0 (MQ below (va_Qv (fun (_ : Unit) => True) (fun _ t => Af_ G ct (wX4 a ct o) A t) A) (List.toArray [.ref (a 0), .int x1]) s 0 0 A) (F0 m 0 ls [])
  refine lv_aload_n hx hb dX4_readPerson_0 rfl (lv_at hl 0 rfl) ?_
  refine x_get (ci := 4) (v := .ref (a 4)) (C := RX4) (T := TX4) (N := 6) hx hb hts inX4 hown hK hW 0 rfl rfl 3 (by decide) fl12 (fun _ h9 => h9) rfl dX4_readPerson_1 ?_
  refine x_get (ci := 5) (v := .ref (a 12)) (C := RX5) (T := TX5) (N := 4) hx hb hts inX5 hown hK hW 1 rfl rfl 1 (by decide) fl114 (fun _ h9 => h9) rfl dX4_readPerson_4 ?_
  refine x_get (ci := 3) (v := .int (g 13 0)) (C := RX3) (T := TX3) (N := 8) hx hb hts inX3 hown hK hW 7 rfl rfl 0 (by decide) fl123 (fun _ h9 => h9) rfl dX4_readPerson_7 ?_
  refine lv_bipush (v := (8 : Int32)) hx hb dX4_readPerson_10 (by decide) ?_
  refine lv_icmp_lt (tgt := 22) hx hb dX4_readPerson_12 (by decide) (fun hc => ?_) (fun hc => ?_)
  · replace hf := ifp hc hf
    refine lv_aload_n hx hb dX4_readPerson_22 rfl (lv_at hl 0 rfl) ?_
    refine lv_iconst (v := (-1 : Int32)) hx hb dX4_readPerson_23 (by decide) ?_
    replace hf := bs_ hf; obtain ⟨r1, hcl, hf⟩ := hf
    refine x_callW_i (w' := (wX4 a ct r1.2)) (As := [.int (-1 : Int32)]) (rest := []) (ci := 4) ⟨hx, hb, hml, hown, hts⟩ (c_X4_readPlace l N kd G ct a g (-1 : Int32) _ hcl) (cwV 1 hts gX4_readPerson_X4_readPlace rfl rfl rfl (by decide +kernel) ⟨Nat.le_of_ble_eq_true rfl, Nat.le_of_ble_eq_true rfl⟩) hK hE hA hW rfl rfl 0 rfl rfl rfl rfl hl.1 rfl (lv_room (Nat.le_of_ble_eq_true rfl)) dX4_readPerson_24 (fun H locs hW => ?_)
    refine lv_istore_n (lv' := [(2, .int r1.1), (0, .ref (a 0)), (1, .int x1)]) hx hb dX4_readPerson_27 rfl hl (by decide) rfl (fun ls hl => ?_)
    refine lv_iload_n hx hb dX4_readPerson_28 rfl (lv_at hl 0 rfl) ?_
    refine lv_iconst (v := (-1 : Int32)) hx hb dX4_readPerson_29 (by decide) ?_
    replace hf := bs_ hf; obtain ⟨j2, hg, hf⟩ := hf
    have J2 : ∀ (H : Heap) (locs : List Loc) (ls : Array Slot), WW G A s.heap (wX4 a ct j2.2) H locs → lv_has ls 5 [(0, .ref (a 0)), (2, .int r1.1)] → W p l e ({ frames := 3, cells := 0, slots := 0, locals := 70 } : Room) s m (List.toArray [.ref (a 0), .int x1]) below meth c H locs 0 0 (MQ below (va_Qv (fun (_ : Unit) => True) (fun _ t => Af_ G ct (wX4 a ct o) A t) A) (List.toArray [.ref (a 0), .int x1]) s 0 0 A) (F0 m 44 ls (.int j2.1 :: [])) := by
      intro H locs ls hW hl
      refine lv_istore_n (lv' := [(3, .int j2.1), (0, .ref (a 0)), (2, .int r1.1)]) hx hb dX4_readPerson_44 rfl hl (by decide) rfl (fun ls hl => ?_)
      refine lv_iload_n hx hb dX4_readPerson_45 rfl (lv_at hl 0 rfl) ?_
      refine lv_iconst (v := (-1 : Int32)) hx hb dX4_readPerson_46 (by decide) ?_
      refine lv_icmp_ne (tgt := 51) hx hb dX4_readPerson_47 (by decide) (fun hc => ?_) (fun hc => ?_)
      · replace hf := ifn hc hf
        refine lv_aload_n hx hb dX4_readPerson_51 rfl (lv_at hl 1 rfl) ?_
        replace hf := bs_ hf; obtain ⟨r4, hcl, hf⟩ := hf
        refine x_callW_i (w' := (wX4 a ct r4.2)) (As := []) (rest := []) (ci := 4) ⟨hx, hb, hml, hown, hts⟩ (c_X4_look l N kd G ct a j2.2 _ hcl) (cwV 0 hts gX4_readPerson_X4_look rfl rfl rfl (by decide +kernel) ⟨Nat.le_of_ble_eq_true rfl, Nat.le_of_ble_eq_true rfl⟩) hK hE hA hW rfl rfl 0 rfl rfl rfl rfl hl.1 rfl (lv_room (Nat.le_of_ble_eq_true rfl)) dX4_readPerson_52 (fun H locs hW => ?_)
        replace hf := bs_ hf; obtain ⟨r5, hcl, hf⟩ := hf
        refine x_callS_i (As := [.int r4.1]) (rest := []) ⟨hx, hb, hml, hown, hts⟩ (c_X4_isFigure l N kd G ct r4.1 _ hcl) (va_cwS 1 hts gX4_readPerson_X4_isFigure rfl rfl rfl (by decide +kernel) ⟨Nat.le_of_ble_eq_true rfl, Nat.le_of_ble_eq_true rfl⟩) hK hE hA hW rfl hl.1 rfl (lv_room (Nat.le_of_ble_eq_true rfl)) dX4_readPerson_55 (fun H locs hW => ?_)
        replace hf := bs_ hf; obtain ⟨j6, hg, hf⟩ := hf
        have J6 : ∀ (H : Heap) (locs : List Loc) (ls : Array Slot), WW G A s.heap (wX4 a ct j6.2) H locs → lv_has ls 5 [(0, .ref (a 0)), (2, .int r1.1), (3, .int j2.1)] → W p l e ({ frames := 3, cells := 0, slots := 0, locals := 70 } : Room) s m (List.toArray [.ref (a 0), .int x1]) below meth c H locs 0 0 (MQ below (va_Qv (fun (_ : Unit) => True) (fun _ t => Af_ G ct (wX4 a ct o) A t) A) (List.toArray [.ref (a 0), .int x1]) s 0 0 A) (F0 m 72 ls (.int j6.1 :: [])) := by
          intro H locs ls hW hl
          refine lv_istore (lv' := [(4, .int j6.1), (0, .ref (a 0)), (2, .int r1.1), (3, .int j2.1)]) hx hb dX4_readPerson_72 hl (by decide) rfl (fun ls hl => ?_)
          refine lv_iload hx hb dX4_readPerson_74 (lv_at hl 0 rfl) ?_
          refine lv_iconst (v := (-1 : Int32)) hx hb dX4_readPerson_76 (by decide) ?_
          refine lv_icmp_eq (tgt := 103) hx hb dX4_readPerson_77 (by decide) (fun hc => ?_) (fun hc => ?_)
          · replace hf := ifp hc hf
            have ho := Option.some.inj hf
            subst ho
            exact x_retv hx hb hr hlocks hK hW rfl dX4_readPerson_103
          · replace hf := ifn hc hf
            refine lv_aload_n hx hb dX4_readPerson_80 rfl (lv_at hl 1 rfl) ?_
            refine lv_bipush (v := (59 : Int32)) hx hb dX4_readPerson_81 (by decide) ?_
            replace hf := bs_ hf; obtain ⟨r8, hcl, hf⟩ := hf
            refine x_callW_i (w' := (wX4 a ct r8.2)) (As := [.int (59 : Int32)]) (rest := []) (ci := 4) ⟨hx, hb, hml, hown, hts⟩ (c_X4_readSign l N kd G ct a j6.2 (59 : Int32) _ hcl) (cwV 1 hts gX4_readPerson_X4_readSign rfl rfl rfl (by decide +kernel) ⟨Nat.le_of_ble_eq_true rfl, Nat.le_of_ble_eq_true rfl⟩) hK hE hA hW rfl rfl 0 rfl rfl rfl rfl hl.1 rfl (lv_room (Nat.le_of_ble_eq_true rfl)) dX4_readPerson_83 (fun H locs hW => ?_)
            refine lv_if_eq (tgt := 103) hx hb dX4_readPerson_86 (by decide) (fun hc => ?_) (fun hc => ?_)
            · replace hf := ifp hc hf
              have ho := Option.some.inj hf
              subst ho
              exact x_retv hx hb hr hlocks hK hW rfl dX4_readPerson_103
            · replace hf := ifn hc hf
              refine lv_aload_n hx hb dX4_readPerson_89 rfl (lv_at hl 1 rfl) ?_
              refine x_get (ci := 4) (v := .ref (a 4)) (C := RX4) (T := TX4) (N := 6) hx hb hts inX4 hown hK hW 0 rfl rfl 3 (by decide) fl12 (fun _ h9 => h9) rfl dX4_readPerson_90 ?_
              refine x_get (ci := 5) (v := .ref (a 12)) (C := RX5) (T := TX5) (N := 4) hx hb hts inX5 hown hK hW 1 rfl rfl 1 (by decide) fl114 (fun _ h9 => h9) rfl dX4_readPerson_93 ?_
              refine lv_iload_n hx hb dX4_readPerson_96 rfl (lv_at hl 2 rfl) ?_
              refine lv_iload_n hx hb dX4_readPerson_97 rfl (lv_at hl 3 rfl) ?_
              refine lv_iload hx hb dX4_readPerson_98 (lv_at hl 0 rfl) ?_
              replace hf := bs_ hf; obtain ⟨r9, hcl, hf⟩ := hf
              refine x_callV_v (w' := (wX4 a ct (pu_ 12 9 r8.2 r9))) (As := [.int r1.1, .int j2.1, .int j6.1]) (rest := []) (ci := 3) ⟨hx, hb, hml, hown, hts⟩ (c_X3_addPerson l N kd G ct (sh_ 12 a) (sh_ 12 r8.2) r1.1 j2.1 j6.1 _ hcl) (cwV 3 hts gX4_readPerson_X3_addPerson rfl rfl rfl (by decide +kernel) ⟨Nat.le_of_ble_eq_true rfl, Nat.le_of_ble_eq_true rfl⟩) hK hE hA hW ((wX4 a ct r8.2).take 7) ((wX4 a ct r8.2).drop 13) (wc_X4_12 a ct r8.2) (wu_X4_12 a ct r8.2 r9) 0 rfl rfl rfl rfl hl.1 rfl (lv_room (Nat.le_of_ble_eq_true rfl)) dX4_readPerson_100 (fun H locs hW => ?_)
              have ho := Option.some.inj hf
              subst ho
              exact x_retv hx hb hr hlocks hK hW rfl dX4_readPerson_103
        clear hf
        refine lv_if_eq (tgt := 71) hx hb dX4_readPerson_58 (by decide) (fun hc => ?_) (fun hc => ?_)
        · have hf := ifp hc hg
          clear hg
          refine lv_iconst (v := (0 : Int32)) hx hb dX4_readPerson_71 (by decide) ?_
          have hj := Option.some.inj hf
          subst hj
          exact J6 _ _ _ hW (lv_sub hl [1, 2, 0] rfl)
        · have hf := ifn hc hg
          clear hg
          refine lv_aload_n hx hb dX4_readPerson_61 rfl (lv_at hl 1 rfl) ?_
          refine lv_iconst (v := (1 : Int32)) hx hb dX4_readPerson_62 (by decide) ?_
          refine lv_bipush (v := (24 : Int32)) hx hb dX4_readPerson_63 (by decide) ?_
          replace hf := bs_ hf; obtain ⟨r7, hcl, hf⟩ := hf
          refine x_callW_i (w' := (wX4 a ct r7.2)) (As := [.int (1 : Int32), .int (24 : Int32)]) (rest := []) (ci := 4) ⟨hx, hb, hml, hown, hts⟩ (c_X4_readNumber l N kd G ct a r4.2 (1 : Int32) (24 : Int32) _ hcl) (cwV 2 hts gX4_readPerson_X4_readNumber rfl rfl rfl (by decide +kernel) ⟨Nat.le_of_ble_eq_true rfl, Nat.le_of_ble_eq_true rfl⟩) hK hE hA hW rfl rfl 0 rfl rfl rfl rfl hl.1 rfl (lv_room (Nat.le_of_ble_eq_true rfl)) dX4_readPerson_65 (fun H locs hW => ?_)
          refine lv_goto (tgt := 72) hx hb dX4_readPerson_68 (by decide) ?_
          have hj := Option.some.inj hf
          subst hj
          exact J6 _ _ _ hW (lv_sub hl [1, 2, 0] rfl)
      · replace hf := ifp hc hf
        have ho := Option.some.inj hf
        subst ho
        exact x_retv hx hb hr hlocks hK hW rfl dX4_readPerson_50
    clear hf
    refine lv_icmp_ne (tgt := 37) hx hb dX4_readPerson_30 (by decide) (fun hc => ?_) (fun hc => ?_)
    · have hf := ifn hc hg
      clear hg
      refine lv_aload_n hx hb dX4_readPerson_37 rfl (lv_at hl 1 rfl) ?_
      refine lv_iconst (v := (1 : Int32)) hx hb dX4_readPerson_38 (by decide) ?_
      refine lv_bipush (v := (24 : Int32)) hx hb dX4_readPerson_39 (by decide) ?_
      replace hf := bs_ hf; obtain ⟨r3, hcl, hf⟩ := hf
      refine x_callW_i (w' := (wX4 a ct r3.2)) (As := [.int (1 : Int32), .int (24 : Int32)]) (rest := []) (ci := 4) ⟨hx, hb, hml, hown, hts⟩ (c_X4_readNumber l N kd G ct a r1.2 (1 : Int32) (24 : Int32) _ hcl) (cwV 2 hts gX4_readPerson_X4_readNumber rfl rfl rfl (by decide +kernel) ⟨Nat.le_of_ble_eq_true rfl, Nat.le_of_ble_eq_true rfl⟩) hK hE hA hW rfl rfl 0 rfl rfl rfl rfl hl.1 rfl (lv_room (Nat.le_of_ble_eq_true rfl)) dX4_readPerson_41 (fun H locs hW => ?_)
      have hj := Option.some.inj hf
      subst hj
      exact J2 _ _ _ hW (lv_sub hl [1, 0] rfl)
    · have hf := ifp hc hg
      clear hg
      refine lv_iconst (v := (-1 : Int32)) hx hb dX4_readPerson_33 (by decide) ?_
      refine lv_goto (tgt := 44) hx hb dX4_readPerson_34 (by decide) ?_
      have hj := Option.some.inj hf
      subst hj
      exact J2 _ _ _ hW (lv_sub hl [1, 0] rfl)
  · replace hf := ifn hc hf
    refine lv_aload_n hx hb dX4_readPerson_15 rfl (lv_at hl 0 rfl) ?_
    refine lv_iconst (v := (3 : Int32)) hx hb dX4_readPerson_16 (by decide) ?_
    refine lv_iload_n hx hb dX4_readPerson_17 rfl (lv_at hl 1 rfl) ?_
    replace hf := bs_ hf; obtain ⟨r10, hcl, hf⟩ := hf
    refine x_callW_v (w' := (wX4 a ct r10)) (As := [.int (3 : Int32), .int x1]) (rest := []) (ci := 4) ⟨hx, hb, hml, hown, hts⟩ (c_X4_fail l N kd G ct a g (3 : Int32) x1 _ hcl) (cwV 2 hts gX4_readPerson_X4_fail rfl rfl rfl (by decide +kernel) ⟨Nat.le_of_ble_eq_true rfl, Nat.le_of_ble_eq_true rfl⟩) hK hE hA hW rfl rfl 0 rfl rfl rfl rfl hl.1 rfl (lv_room (Nat.le_of_ble_eq_true rfl)) dX4_readPerson_18 (fun H locs hW => ?_)
    have ho := Option.some.inj hf
    subst ho
    exact x_retv hx hb hr hlocks hK hW rfl dX4_readPerson_21
set_option maxHeartbeats 4000000 in
set_option maxRecDepth 100000 in
theorem c_X4_readClause (l : Launch) (N : Nat) (kd : (Nat → Nat) × (Nat → Nat)) (G : va_G) (ct : Nat → ClassId) (a : Nat → Nat) (g : St_) (o : St_) (hf : f_X4_readClause N g = some o) : CtV l yX4_readClause wsX4_readClause ({ frames := 7, cells := 0, slots := 0, locals := 190 }) kd G ct [.ref (a 0)] (wX4 a ct g) (wX4 a ct o) := by
  intro sz
  refine Met.ofW (cc := cX4_readClause) (maxL := 3) (ret := none) (by decide) rfl ?_
  intro p e s m args below meth c s₁ B hml hv
  obtain ⟨rfl, hsz, hP, hK, hD0, hE⟩ := hv
  have hx := B.exec
  have hb := B.bytes
  have hr := B.returns
  have hts := atoms_spec (ws := wsX4_readClause) B.pre
  have hown : s.vm.findClass RX4 = some m.cls := findClass_of_methodNamed B.named
  have hlocks := B.notSynchronized
  have inX1 : ∀ w ∈ wsX10, w ∈ wsX4_readClause := by decide +kernel
  have inX4 : ∀ w ∈ wsX40, w ∈ wsX4_readClause := by decide +kernel
  have inX5 : ∀ w ∈ wsX50, w ∈ wsX4_readClause := by decide +kernel
  have fl12 := hts (.fieldLink RX4 12 "FittingStrides$Text" "draft" "LFittingStrides$Town;") (by decide +kernel)
  have fl29 := hts (.fieldLink RX4 29 "FittingStrides$Text" "at" "I") (by decide +kernel)
  have fl54 := hts (.fieldLink RX4 54 "FittingStrides$Town" "plan" "LFittingStrides$Plan;") (by decide +kernel)
  have fl58 := hts (.fieldLink RX4 58 "FittingStrides$Plan" "places" "I") (by decide +kernel)
  subst hsz
  have hD := hD0.self (sz := s.heap.size)
  generalize hAe : va_A (wX4 a ct g) s.heap.size = A at hD hE ⊢
  have hA : ∀ q : Nat, s.heap.size ≤ q → A q := fun q h => by rw [← hAe]; exact Or.inr h
  have hW : WW G A s.heap (wX4 a ct g) s.heap [] := ⟨hP, hD, va_S.rf⟩
  have hl := lv_entry ([.ref (a 0)]) (n := 3) (Nat.le_of_ble_eq_true rfl)
  rw [lg_entry_eq]
  generalize (lg_sl ([.ref (a 0)]) ++ List.replicate (3 - (lg_sl ([.ref (a 0)])).length) Slot.unset).toArray = ls at hl ⊢
  have hl : lv_has ls 3 [(0, .ref (a 0))] := hl
  unfold f_X4_readClause at hf
  show W p l e ({ frames := 7, cells := 0, slots := 0, locals := 190 } : Room) s m (List.toArray [.ref (a 0)]) below meth c s.heap [] 0 0 (MQ below (va_Qv (fun (_ : Unit) => True) (fun _ t => Af_ G ct (wX4 a ct o) A t) A) (List.toArray [.ref (a 0)]) s 0 0 A) (F0 m 0 ls [])
  refine lv_aload_n hx hb dX4_readClause_0 rfl (lv_at hl 0 rfl) ?_
  refine x_get (ci := 4) (v := .int (g 24 0)) (C := RX4) (T := TX4) (N := 6) hx hb hts inX4 hown hK hW 0 rfl rfl 5 (by decide) fl29 (fun _ h9 => h9) rfl dX4_readClause_1 ?_
  refine lv_istore_n (lv' := [(1, .int (g 24 0)), (0, .ref (a 0))]) hx hb dX4_readClause_4 rfl hl (by decide) rfl (fun ls hl => ?_)
  refine lv_aload_n hx hb dX4_readClause_5 rfl (lv_at hl 1 rfl) ?_
  replace hf := bs_ hf; obtain ⟨r1, hcl, hf⟩ := hf
  refine x_callW_v (w' := (wX4 a ct r1)) (As := []) (rest := []) (ci := 4) ⟨hx, hb, hml, hown, hts⟩ (c_X4_skipWord l N kd G ct a g _ hcl) (cwV 0 hts gX4_readClause_X4_skipWord rfl rfl rfl (by decide +kernel) ⟨Nat.le_of_ble_eq_true rfl, Nat.le_of_ble_eq_true rfl⟩) hK hE hA hW rfl rfl 0 rfl rfl rfl rfl hl.1 rfl (lv_room (Nat.le_of_ble_eq_true rfl)) dX4_readClause_6 (fun H locs hW => ?_)
  refine lv_aload_n hx hb dX4_readClause_9 rfl (lv_at hl 1 rfl) ?_
  refine lv_iload_n hx hb dX4_readClause_10 rfl (lv_at hl 0 rfl) ?_
  refine va_ldcS (tx := "places") hx hb hown (hE.2.1 (48, "places", 0) (by decide +kernel)) dX4_readClause_11 ?_
  replace hf := bs_ hf; obtain ⟨r2, hcl, hf⟩ := hf
  refine x_callW_i (w' := (wX4 a ct r1)) (As := [.int (g 24 0), .ref (kd.1 0)]) (rest := []) (ci := 4) ⟨hx, hb, hml, hown, hts⟩ (c_X4_isWord l N kd G ct a r1 (g 24 0) 0 _ hcl (by decide)) (cwV 2 hts gX4_readClause_X4_isWord rfl rfl rfl (by decide +kernel) ⟨Nat.le_of_ble_eq_true rfl, Nat.le_of_ble_eq_true rfl⟩) hK hE hA hW rfl rfl 0 rfl rfl rfl rfl hl.1 rfl (lv_room (Nat.le_of_ble_eq_true rfl)) dX4_readClause_13 (fun H locs hW => ?_)
  refine lv_istore_n (lv' := [(2, .int r2), (1, .int (g 24 0)), (0, .ref (a 0))]) hx hb dX4_readClause_16 rfl hl (by decide) rfl (fun ls hl => ?_)
  refine lv_aload_n hx hb dX4_readClause_17 rfl (lv_at hl 2 rfl) ?_
  refine x_get (ci := 4) (v := .ref (a 4)) (C := RX4) (T := TX4) (N := 6) hx hb hts inX4 hown hK hW 0 rfl rfl 3 (by decide) fl12 (fun _ h9 => h9) rfl dX4_readClause_18 ?_
  refine x_get (ci := 5) (v := .ref (a 5)) (C := RX5) (T := TX5) (N := 4) hx hb hts inX5 hown hK hW 1 rfl rfl 0 (by decide) fl54 (fun _ h9 => h9) rfl dX4_readClause_21 ?_
  refine x_get (ci := 1) (v := .int (r1 6 0)) (C := RX1) (T := TX1) (N := 6) hx hb hts inX1 hown hK hW 2 rfl rfl 0 (by decide) fl58 (fun _ h9 => h9) rfl dX4_readClause_24 ?_
  refine lv_if_ne (tgt := 50) hx hb dX4_readClause_27 (by decide) (fun hc => ?_) (fun hc => ?_)
  · replace hf := ifn hc hf
    refine lv_iload_n hx hb dX4_readClause_50 rfl (lv_at hl 0 rfl) ?_
    refine lv_if_eq (tgt := 63) hx hb dX4_readClause_51 (by decide) (fun hc => ?_) (fun hc => ?_)
    · replace hf := ifp hc hf
      refine lv_aload_n hx hb dX4_readClause_63 rfl (lv_at hl 2 rfl) ?_
      refine lv_iload_n hx hb dX4_readClause_64 rfl (lv_at hl 1 rfl) ?_
      refine va_ldcS (tx := "stair") hx hb hown (hE.2.1 (69, "stair", 1) (by decide +kernel)) dX4_readClause_65 ?_
      replace hf := bs_ hf; obtain ⟨r3, hcl, hf⟩ := hf
      refine x_callW_i (w' := (wX4 a ct r1)) (As := [.int (g 24 0), .ref (kd.1 1)]) (rest := []) (ci := 4) ⟨hx, hb, hml, hown, hts⟩ (c_X4_isWord l N kd G ct a r1 (g 24 0) 1 _ hcl (by decide)) (cwV 2 hts gX4_readClause_X4_isWord rfl rfl rfl (by decide +kernel) ⟨Nat.le_of_ble_eq_true rfl, Nat.le_of_ble_eq_true rfl⟩) hK hE hA hW rfl rfl 0 rfl rfl rfl rfl hl.1 rfl (lv_room (Nat.le_of_ble_eq_true rfl)) dX4_readClause_67 (fun H locs hW => ?_)
      refine lv_if_eq (tgt := 81) hx hb dX4_readClause_70 (by decide) (fun hc => ?_) (fun hc => ?_)
      · replace hf := ifp hc hf
        refine lv_aload_n hx hb dX4_readClause_81 rfl (lv_at hl 2 rfl) ?_
        refine lv_iload_n hx hb dX4_readClause_82 rfl (lv_at hl 1 rfl) ?_
        refine va_ldcS (tx := "person") hx hb hown (hE.2.1 (75, "person", 2) (by decide +kernel)) dX4_readClause_83 ?_
        replace hf := bs_ hf; obtain ⟨r4, hcl, hf⟩ := hf
        refine x_callW_i (w' := (wX4 a ct r1)) (As := [.int (g 24 0), .ref (kd.1 2)]) (rest := []) (ci := 4) ⟨hx, hb, hml, hown, hts⟩ (c_X4_isWord l N kd G ct a r1 (g 24 0) 2 _ hcl (by decide)) (cwV 2 hts gX4_readClause_X4_isWord rfl rfl rfl (by decide +kernel) ⟨Nat.le_of_ble_eq_true rfl, Nat.le_of_ble_eq_true rfl⟩) hK hE hA hW rfl rfl 0 rfl rfl rfl rfl hl.1 rfl (lv_room (Nat.le_of_ble_eq_true rfl)) dX4_readClause_85 (fun H locs hW => ?_)
        refine lv_if_eq (tgt := 99) hx hb dX4_readClause_88 (by decide) (fun hc => ?_) (fun hc => ?_)
        · replace hf := ifp hc hf
          refine lv_aload_n hx hb dX4_readClause_99 rfl (lv_at hl 2 rfl) ?_
          refine lv_iconst (v := (1 : Int32)) hx hb dX4_readClause_100 (by decide) ?_
          refine lv_iload_n hx hb dX4_readClause_101 rfl (lv_at hl 1 rfl) ?_
          replace hf := bs_ hf; obtain ⟨r5, hcl, hf⟩ := hf
          refine x_callW_v (w' := (wX4 a ct r5)) (As := [.int (1 : Int32), .int (g 24 0)]) (rest := []) (ci := 4) ⟨hx, hb, hml, hown, hts⟩ (c_X4_fail l N kd G ct a r1 (1 : Int32) (g 24 0) _ hcl) (cwV 2 hts gX4_readClause_X4_fail rfl rfl rfl (by decide +kernel) ⟨Nat.le_of_ble_eq_true rfl, Nat.le_of_ble_eq_true rfl⟩) hK hE hA hW rfl rfl 0 rfl rfl rfl rfl hl.1 rfl (lv_room (Nat.le_of_ble_eq_true rfl)) dX4_readClause_102 (fun H locs hW => ?_)
          have ho := Option.some.inj hf
          subst ho
          exact x_retv hx hb hr hlocks hK hW rfl dX4_readClause_105
        · replace hf := ifn hc hf
          refine lv_aload_n hx hb dX4_readClause_91 rfl (lv_at hl 2 rfl) ?_
          refine lv_iload_n hx hb dX4_readClause_92 rfl (lv_at hl 1 rfl) ?_
          replace hf := bs_ hf; obtain ⟨r6, hcl, hf⟩ := hf
          refine x_callW_v (w' := (wX4 a ct r6)) (As := [.int (g 24 0)]) (rest := []) (ci := 4) ⟨hx, hb, hml, hown, hts⟩ (c_X4_readPerson l N kd G ct a r1 (g 24 0) _ hcl) (cwV 1 hts gX4_readClause_X4_readPerson rfl rfl rfl (by decide +kernel) ⟨Nat.le_of_ble_eq_true rfl, Nat.le_of_ble_eq_true rfl⟩) hK hE hA hW rfl rfl 0 rfl rfl rfl rfl hl.1 rfl (lv_room (Nat.le_of_ble_eq_true rfl)) dX4_readClause_93 (fun H locs hW => ?_)
          refine lv_goto (tgt := 105) hx hb dX4_readClause_96 (by decide) ?_
          have ho := Option.some.inj hf
          subst ho
          exact x_retv hx hb hr hlocks hK hW rfl dX4_readClause_105
      · replace hf := ifn hc hf
        refine lv_aload_n hx hb dX4_readClause_73 rfl (lv_at hl 2 rfl) ?_
        refine lv_iload_n hx hb dX4_readClause_74 rfl (lv_at hl 1 rfl) ?_
        replace hf := bs_ hf; obtain ⟨r7, hcl, hf⟩ := hf
        refine x_callW_v (w' := (wX4 a ct r7)) (As := [.int (g 24 0)]) (rest := []) (ci := 4) ⟨hx, hb, hml, hown, hts⟩ (c_X4_readStair l N kd G ct a r1 (g 24 0) _ hcl) (cwV 1 hts gX4_readClause_X4_readStair rfl rfl rfl (by decide +kernel) ⟨Nat.le_of_ble_eq_true rfl, Nat.le_of_ble_eq_true rfl⟩) hK hE hA hW rfl rfl 0 rfl rfl rfl rfl hl.1 rfl (lv_room (Nat.le_of_ble_eq_true rfl)) dX4_readClause_75 (fun H locs hW => ?_)
        refine lv_goto (tgt := 105) hx hb dX4_readClause_78 (by decide) ?_
        have ho := Option.some.inj hf
        subst ho
        exact x_retv hx hb hr hlocks hK hW rfl dX4_readClause_105
    · replace hf := ifn hc hf
      refine lv_aload_n hx hb dX4_readClause_54 rfl (lv_at hl 2 rfl) ?_
      refine lv_iconst (v := (3 : Int32)) hx hb dX4_readClause_55 (by decide) ?_
      refine lv_iload_n hx hb dX4_readClause_56 rfl (lv_at hl 1 rfl) ?_
      replace hf := bs_ hf; obtain ⟨r8, hcl, hf⟩ := hf
      refine x_callW_v (w' := (wX4 a ct r8)) (As := [.int (3 : Int32), .int (g 24 0)]) (rest := []) (ci := 4) ⟨hx, hb, hml, hown, hts⟩ (c_X4_fail l N kd G ct a r1 (3 : Int32) (g 24 0) _ hcl) (cwV 2 hts gX4_readClause_X4_fail rfl rfl rfl (by decide +kernel) ⟨Nat.le_of_ble_eq_true rfl, Nat.le_of_ble_eq_true rfl⟩) hK hE hA hW rfl rfl 0 rfl rfl rfl rfl hl.1 rfl (lv_room (Nat.le_of_ble_eq_true rfl)) dX4_readClause_57 (fun H locs hW => ?_)
      refine lv_goto (tgt := 105) hx hb dX4_readClause_60 (by decide) ?_
      have ho := Option.some.inj hf
      subst ho
      exact x_retv hx hb hr hlocks hK hW rfl dX4_readClause_105
  · replace hf := ifp hc hf
    refine lv_iload_n hx hb dX4_readClause_30 rfl (lv_at hl 0 rfl) ?_
    refine lv_if_eq (tgt := 41) hx hb dX4_readClause_31 (by decide) (fun hc => ?_) (fun hc => ?_)
    · replace hf := ifp hc hf
      refine lv_aload_n hx hb dX4_readClause_41 rfl (lv_at hl 2 rfl) ?_
      refine lv_iconst (v := (1 : Int32)) hx hb dX4_readClause_42 (by decide) ?_
      refine lv_iload_n hx hb dX4_readClause_43 rfl (lv_at hl 1 rfl) ?_
      replace hf := bs_ hf; obtain ⟨r9, hcl, hf⟩ := hf
      refine x_callW_v (w' := (wX4 a ct r9)) (As := [.int (1 : Int32), .int (g 24 0)]) (rest := []) (ci := 4) ⟨hx, hb, hml, hown, hts⟩ (c_X4_fail l N kd G ct a r1 (1 : Int32) (g 24 0) _ hcl) (cwV 2 hts gX4_readClause_X4_fail rfl rfl rfl (by decide +kernel) ⟨Nat.le_of_ble_eq_true rfl, Nat.le_of_ble_eq_true rfl⟩) hK hE hA hW rfl rfl 0 rfl rfl rfl rfl hl.1 rfl (lv_room (Nat.le_of_ble_eq_true rfl)) dX4_readClause_44 (fun H locs hW => ?_)
      refine lv_goto (tgt := 105) hx hb dX4_readClause_47 (by decide) ?_
      have ho := Option.some.inj hf
      subst ho
      exact x_retv hx hb hr hlocks hK hW rfl dX4_readClause_105
    · replace hf := ifn hc hf
      refine lv_aload_n hx hb dX4_readClause_34 rfl (lv_at hl 2 rfl) ?_
      replace hf := bs_ hf; obtain ⟨r10, hcl, hf⟩ := hf
      refine x_callW_v (w' := (wX4 a ct r10)) (As := []) (rest := []) (ci := 4) ⟨hx, hb, hml, hown, hts⟩ (c_X4_readPlaces l N kd G ct a r1 _ hcl) (cwV 0 hts gX4_readClause_X4_readPlaces rfl rfl rfl (by decide +kernel) ⟨Nat.le_of_ble_eq_true rfl, Nat.le_of_ble_eq_true rfl⟩) hK hE hA hW rfl rfl 0 rfl rfl rfl rfl hl.1 rfl (lv_room (Nat.le_of_ble_eq_true rfl)) dX4_readClause_35 (fun H locs hW => ?_)
      refine lv_goto (tgt := 105) hx hb dX4_readClause_38 (by decide) ?_
      have ho := Option.some.inj hf
      subst ho
      exact x_retv hx hb hr hlocks hK hW rfl dX4_readClause_105
set_option maxHeartbeats 4000000 in
set_option maxRecDepth 100000 in
theorem c_X4_read (l : Launch) (N : Nat) (kd : (Nat → Nat) × (Nat → Nat)) (G : va_G) (ct : Nat → ClassId) (a : Nat → Nat) (g : St_) (o : (Int32 × St_)) (hf : f_X4_read N g = some o) : CtI l yX4_read wsX4_read ({ frames := 8, cells := 0, slots := 0, locals := 212 }) kd G ct [.ref (a 0)] (wX4 a ct g) o.1 (wX4 a ct o.2) := by
  intro sz
  refine Met.ofW (cc := cX4_read) (maxL := 2) (ret := (some .boolean)) (by decide) rfl ?_
  intro p e s m args below meth c s₁ B hml hv
  obtain ⟨rfl, hsz, hP, hK, hD0, hE⟩ := hv
  have hx := B.exec
  have hb := B.bytes
  have hr := B.returns
  have hts := atoms_spec (ws := wsX4_read) B.pre
  have hown : s.vm.findClass RX4 = some m.cls := findClass_of_methodNamed B.named
  have hlocks := B.notSynchronized
  have inX4 : ∀ w ∈ wsX40, w ∈ wsX4_read := by decide +kernel
  have fl12 := hts (.fieldLink RX4 12 "FittingStrides$Text" "draft" "LFittingStrides$Town;") (by decide +kernel)
  have fl29 := hts (.fieldLink RX4 29 "FittingStrides$Text" "at" "I") (by decide +kernel)
  have fl32 := hts (.fieldLink RX4 32 "FittingStrides$Text" "faultKind" "I") (by decide +kernel)
  have fl35 := hts (.fieldLink RX4 35 "FittingStrides$Text" "faultAt" "I") (by decide +kernel)
  subst hsz
  have hD := hD0.self (sz := s.heap.size)
  generalize hAe : va_A (wX4 a ct g) s.heap.size = A at hD hE ⊢
  have hA : ∀ q : Nat, s.heap.size ≤ q → A q := fun q h => by rw [← hAe]; exact Or.inr h
  have hW : WW G A s.heap (wX4 a ct g) s.heap [] := ⟨hP, hD, va_S.rf⟩
  have hl := lv_entry ([.ref (a 0)]) (n := 2) (Nat.le_of_ble_eq_true rfl)
  rw [lg_entry_eq]
  generalize (lg_sl ([.ref (a 0)]) ++ List.replicate (2 - (lg_sl ([.ref (a 0)])).length) Slot.unset).toArray = ls at hl ⊢
  have hl : lv_has ls 2 [(0, .ref (a 0))] := hl
  unfold f_X4_read at hf
  show W p l e ({ frames := 8, cells := 0, slots := 0, locals := 212 } : Room) s m (List.toArray [.ref (a 0)]) below meth c s.heap [] 0 0 (MQ below (va_Qi (fun r (_ : Unit) => r = o.1) (fun _ t => Af_ G ct (wX4 a ct o.2) A t) A) (List.toArray [.ref (a 0)]) s 0 0 A) (F0 m 0 ls [])
  refine lv_aload_n hx hb dX4_read_0 rfl (lv_at hl 0 rfl) ?_
  refine x_get (ci := 4) (v := .ref (a 4)) (C := RX4) (T := TX4) (N := 6) hx hb hts inX4 hown hK hW 0 rfl rfl 3 (by decide) fl12 (fun _ h9 => h9) rfl dX4_read_1 ?_
  replace hf := bs_ hf; obtain ⟨r1, hcl, hf⟩ := hf
  refine x_callV_v (w' := (wX4 a ct (pu_ 4 19 g r1))) (As := []) (rest := []) (ci := 5) ⟨hx, hb, hml, hown, hts⟩ (c_X5_clear l N kd G ct (sh_ 4 a) (sh_ 4 g) _ hcl) (cwV 0 hts gX4_read_X5_clear rfl rfl rfl (by decide +kernel) ⟨Nat.le_of_ble_eq_true rfl, Nat.le_of_ble_eq_true rfl⟩) hK hE hA hW ((wX4 a ct g).take 1) ((wX4 a ct g).drop 15) (wc_X4_4 a ct g) (wu_X4_4 a ct g r1) 0 rfl rfl rfl rfl hl.1 rfl (lv_room (Nat.le_of_ble_eq_true rfl)) dX4_read_4 (fun H locs hW => ?_)
  refine lv_aload_n hx hb dX4_read_7 rfl (lv_at hl 0 rfl) ?_
  refine lv_iconst (v := (0 : Int32)) hx hb dX4_read_8 (by decide) ?_
  refine x_put (w' := (wX4 a ct (up1 (pu_ 4 19 g r1) 24 0 (0 : Int32)))) (fs := fsX4 a (pu_ 4 19 g r1)) (ci := 4) (v := .int (0 : Int32)) (ty := .int) (C := RX4) (T := TX4) (N := 6) hx hb hts inX4 tyX4 tyX4_ok nmX4 hown hK hW 0 rfl rfl 5 (by decide) fl29 (fun _ h9 => h9) rfl (by decide +kernel) rfl rfl (Nat.le_of_ble_eq_true rfl) (wp_X4_24 a ct (pu_ 4 19 g r1) (0 : Int32)) dX4_read_9 (fun H locs hW => ?_)
  refine lv_aload_n hx hb dX4_read_12 rfl (lv_at hl 0 rfl) ?_
  refine lv_iconst (v := (0 : Int32)) hx hb dX4_read_13 (by decide) ?_
  refine x_put (w' := (wX4 a ct (up1 (up1 (pu_ 4 19 g r1) 24 0 (0 : Int32)) 2 0 (0 : Int32)))) (fs := fsX4 a (up1 (pu_ 4 19 g r1) 24 0 (0 : Int32))) (ci := 4) (v := .int (0 : Int32)) (ty := .int) (C := RX4) (T := TX4) (N := 6) hx hb hts inX4 tyX4 tyX4_ok nmX4 hown hK hW 0 rfl rfl 1 (by decide) fl32 (fun _ h9 => h9) rfl (by decide +kernel) rfl rfl (Nat.le_of_ble_eq_true rfl) (wp_X4_2 a ct (up1 (pu_ 4 19 g r1) 24 0 (0 : Int32)) (0 : Int32)) dX4_read_14 (fun H locs hW => ?_)
  refine lv_aload_n hx hb dX4_read_17 rfl (lv_at hl 0 rfl) ?_
  refine lv_iconst (v := (-1 : Int32)) hx hb dX4_read_18 (by decide) ?_
  refine x_put (w' := (wX4 a ct (up1 (up1 (up1 (pu_ 4 19 g r1) 24 0 (0 : Int32)) 2 0 (0 : Int32)) 3 0 (-1 : Int32)))) (fs := fsX4 a (up1 (up1 (pu_ 4 19 g r1) 24 0 (0 : Int32)) 2 0 (0 : Int32))) (ci := 4) (v := .int (-1 : Int32)) (ty := .int) (C := RX4) (T := TX4) (N := 6) hx hb hts inX4 tyX4 tyX4_ok nmX4 hown hK hW 0 rfl rfl 2 (by decide) fl35 (fun _ h9 => h9) rfl (by decide +kernel) rfl rfl (Nat.le_of_ble_eq_true rfl) (wp_X4_3 a ct (up1 (up1 (pu_ 4 19 g r1) 24 0 (0 : Int32)) 2 0 (0 : Int32)) (-1 : Int32)) dX4_read_19 (fun H locs hW => ?_)
  refine lv_iconst (v := (0 : Int32)) hx hb dX4_read_22 (by decide) ?_
  refine lv_istore_n (lv' := [(1, .int (0 : Int32)), (0, .ref (a 0))]) hx hb dX4_read_23 rfl hl (by decide) rfl (fun ls hl => ?_)
  replace hf := bs_ hf; obtain ⟨v2, hg, hf⟩ := hf
  have J2 : ∀ (H : Heap) (locs : List Loc) (ls : Array Slot), WW G A s.heap (wX4 a ct v2) H locs → lv_has ls 2 [(0, .ref (a 0))] → W p l e ({ frames := 8, cells := 0, slots := 0, locals := 212 } : Room) s m (List.toArray [.ref (a 0)]) below meth c H locs 0 0 (MQ below (va_Qi (fun r (_ : Unit) => r = o.1) (fun _ t => Af_ G ct (wX4 a ct o.2) A t) A) (List.toArray [.ref (a 0)]) s 0 0 A) (F0 m 56 ls []) := by
    intro H locs ls hW hl
    refine lv_aload_n hx hb dX4_read_56 rfl (lv_at hl 0 rfl) ?_
    refine x_get (ci := 4) (v := .int (v2 2 0)) (C := RX4) (T := TX4) (N := 6) hx hb hts inX4 hown hK hW 0 rfl rfl 1 (by decide) fl32 (fun _ h9 => h9) rfl dX4_read_57 ?_
    refine lv_if_ne (tgt := 67) hx hb dX4_read_60 (by decide) (fun hc => ?_) (fun hc => ?_)
    · replace hf := ifn hc hf
      refine lv_iconst (v := (0 : Int32)) hx hb dX4_read_67 (by decide) ?_
      have ho := Option.some.inj hf
      subst ho
      exact x_retz hx hb hr rfl hlocks hK hW rfl rfl dX4_read_68
    · replace hf := ifp hc hf
      refine lv_iconst (v := (1 : Int32)) hx hb dX4_read_63 (by decide) ?_
      refine lv_goto (tgt := 68) hx hb dX4_read_64 (by decide) ?_
      have ho := Option.some.inj hf
      subst ho
      exact x_retz hx hb hr rfl hlocks hK hW rfl rfl dX4_read_68
  clear hf
  have L2 : ∀ (n : Nat) (y2_1 : Int32) (g2 : St_), f_X4_read_L24 N n y2_1 g2 = some v2 → ∀ (H : Heap) (locs : List Loc) (ls : Array Slot), WW G A s.heap (wX4 a ct g2) H locs → lv_has ls 2 [(0, .ref (a 0)), (1, .int y2_1)] → W p l e ({ frames := 8, cells := 0, slots := 0, locals := 212 } : Room) s m (List.toArray [.ref (a 0)]) below meth c H locs 0 0 (MQ below (va_Qi (fun r (_ : Unit) => r = o.1) (fun _ t => Af_ G ct (wX4 a ct o.2) A t) A) (List.toArray [.ref (a 0)]) s 0 0 A) (F0 m 24 ls []) := by
    intro n
    induction n with
    | zero =>
      intro y2_1 g2 hf
      rw [f_X4_read_L24] at hf
      cases hf
    | succ n ih =>
      intro y2_1 g2 hf H locs ls hW hl
      rw [f_X4_read_L24] at hf
      refine lv_iload_n hx hb dX4_read_24 rfl (lv_at hl 1 rfl) ?_
      refine lv_sipush (v := (500 : Int32)) hx hb dX4_read_25 (by decide) ?_
      refine lv_icmp_ge (tgt := 56) hx hb dX4_read_28 (by decide) (fun hc => ?_) (fun hc => ?_)
      · replace hf := ifp hc hf
        have hj := Option.some.inj hf
        subst hj
        exact J2 _ _ _ hW (lv_sub hl [0] rfl)
      · replace hf := ifn hc hf
        refine lv_aload_n hx hb dX4_read_31 rfl (lv_at hl 0 rfl) ?_
        refine x_get (ci := 4) (v := .int (g2 2 0)) (C := RX4) (T := TX4) (N := 6) hx hb hts inX4 hown hK hW 0 rfl rfl 1 (by decide) fl32 (fun _ h9 => h9) rfl dX4_read_32 ?_
        refine lv_if_ne (tgt := 56) hx hb dX4_read_35 (by decide) (fun hc => ?_) (fun hc => ?_)
        · replace hf := ifn hc hf
          have hj := Option.some.inj hf
          subst hj
          exact J2 _ _ _ hW (lv_sub hl [0] rfl)
        · replace hf := ifp hc hf
          refine lv_aload_n hx hb dX4_read_38 rfl (lv_at hl 0 rfl) ?_
          replace hf := bs_ hf; obtain ⟨r3, hcl, hf⟩ := hf
          refine x_callW_i (w' := (wX4 a ct r3.2)) (As := []) (rest := []) (ci := 4) ⟨hx, hb, hml, hown, hts⟩ (c_X4_look l N kd G ct a g2 _ hcl) (cwV 0 hts gX4_read_X4_look rfl rfl rfl (by decide +kernel) ⟨Nat.le_of_ble_eq_true rfl, Nat.le_of_ble_eq_true rfl⟩) hK hE hA hW rfl rfl 0 rfl rfl rfl rfl hl.1 rfl (lv_room (Nat.le_of_ble_eq_true rfl)) dX4_read_39 (fun H locs hW => ?_)
          refine lv_iconst (v := (-1 : Int32)) hx hb dX4_read_42 (by decide) ?_
          refine lv_icmp_eq (tgt := 56) hx hb dX4_read_43 (by decide) (fun hc => ?_) (fun hc => ?_)
          · replace hf := ifp hc hf
            have hj := Option.some.inj hf
            subst hj
            exact J2 _ _ _ hW (lv_sub hl [0] rfl)
          · replace hf := ifn hc hf
            refine lv_aload_n hx hb dX4_read_46 rfl (lv_at hl 0 rfl) ?_
            replace hf := bs_ hf; obtain ⟨r4, hcl, hf⟩ := hf
            refine x_callW_v (w' := (wX4 a ct r4)) (As := []) (rest := []) (ci := 4) ⟨hx, hb, hml, hown, hts⟩ (c_X4_readClause l N kd G ct a r3.2 _ hcl) (cwV 0 hts gX4_read_X4_readClause rfl rfl rfl (by decide +kernel) ⟨Nat.le_of_ble_eq_true rfl, Nat.le_of_ble_eq_true rfl⟩) hK hE hA hW rfl rfl 0 rfl rfl rfl rfl hl.1 rfl (lv_room (Nat.le_of_ble_eq_true rfl)) dX4_read_47 (fun H locs hW => ?_)
            refine lv_iinc (v := (y2_1 + (1 : Int32))) (lv' := [(1, .int (y2_1 + (1 : Int32))), (0, .ref (a 0))]) hx hb dX4_read_50 hl (k := 1) rfl rfl (by decide) rfl (fun ls hl => ?_)
            refine lv_goto (tgt := 24) hx hb dX4_read_53 (by decide) ?_
            exact ih (y2_1 + (1 : Int32)) r4 hf _ _ _ hW (lv_sub hl [1, 0] rfl)
  exact L2 N (0 : Int32) (up1 (up1 (up1 (pu_ 4 19 g r1) 24 0 (0 : Int32)) 2 0 (0 : Int32)) 3 0 (-1 : Int32)) hg _ _ _ hW (lv_sub hl [1, 0] rfl)
set_option maxHeartbeats 4000000 in
set_option maxRecDepth 100000 in
theorem c_X5_becomeTold (l : Launch) (N : Nat) (kd : (Nat → Nat) × (Nat → Nat)) (G : va_G) (ct : Nat → ClassId) (a : Nat → Nat) (g : St_) (o : St_) (hf : f_X5_becomeTold N g = some o) : CtV l yX5_becomeTold wsX5_becomeTold ({ frames := 1, cells := 0, slots := 0, locals := 22 }) kd G ct [.ref (a 0), .ref (a 19)] (wX5 a ct g ++ wX5 (sh_ 19 a) ct (sh_ 19 g)) (wX5 a ct o ++ wX5 (sh_ 19 a) ct (sh_ 19 o)) := by
  intro sz
  refine Met.ofW (cc := cX5_becomeTold) (maxL := 2) (ret := none) (by decide) rfl ?_
  intro p e s m args below meth c s₁ B hml hv
  obtain ⟨rfl, hsz, hP, hK, hD0, hE⟩ := hv
  have hx := B.exec
  have hb := B.bytes
  have hr := B.returns
  have hts := atoms_spec (ws := wsX5_becomeTold) B.pre
  have hown : s.vm.findClass RX5 = some m.cls := findClass_of_methodNamed B.named
  have hlocks := B.notSynchronized
  have inX5 : ∀ w ∈ wsX50, w ∈ wsX5_becomeTold := by decide +kernel
  have fl12 := hts (.fieldLink RX5 12 "FittingStrides$Town" "plan" "LFittingStrides$Plan;") (by decide +kernel)
  have fl21 := hts (.fieldLink RX5 21 "FittingStrides$Town" "state" "LFittingStrides$State;") (by decide +kernel)
  subst hsz
  have hD := hD0.self (sz := s.heap.size)
  generalize hAe : va_A (wX5 a ct g ++ wX5 (sh_ 19 a) ct (sh_ 19 g)) s.heap.size = A at hD hE ⊢
  have hA : ∀ q : Nat, s.heap.size ≤ q → A q := fun q h => by rw [← hAe]; exact Or.inr h
  have hW : WW G A s.heap (wX5 a ct g ++ wX5 (sh_ 19 a) ct (sh_ 19 g)) s.heap [] := ⟨hP, hD, va_S.rf⟩
  have hl := lv_entry ([.ref (a 0), .ref (a 19)]) (n := 2) (Nat.le_of_ble_eq_true rfl)
  rw [lg_entry_eq]
  generalize (lg_sl ([.ref (a 0), .ref (a 19)]) ++ List.replicate (2 - (lg_sl ([.ref (a 0), .ref (a 19)])).length) Slot.unset).toArray = ls at hl ⊢
  have hl : lv_has ls 2 [(0, .ref (a 0)), (1, .ref (a 19))] := hl
  unfold f_X5_becomeTold at hf
  show W p l e ({ frames := 1, cells := 0, slots := 0, locals := 22 } : Room) s m (List.toArray [.ref (a 0), .ref (a 19)]) below meth c s.heap [] 0 0 (MQ below (va_Qv (fun (_ : Unit) => True) (fun _ t => Af_ G ct (wX5 a ct o ++ wX5 (sh_ 19 a) ct (sh_ 19 o)) A t) A) (List.toArray [.ref (a 0), .ref (a 19)]) s 0 0 A) (F0 m 0 ls [])
  refine lv_aload_n hx hb dX5_becomeTold_0 rfl (lv_at hl 0 rfl) ?_
  refine x_get (ci := 5) (v := .ref (a 1)) (C := RX5) (T := TX5) (N := 4) hx hb hts inX5 hown hK hW 0 rfl rfl 0 (by decide) fl12 (fun _ h9 => h9) rfl dX5_becomeTold_1 ?_
  refine lv_aload_n hx hb dX5_becomeTold_4 rfl (lv_at hl 1 rfl) ?_
  refine x_get (ci := 5) (v := .ref (a 20)) (C := RX5) (T := TX5) (N := 4) hx hb hts inX5 hown hK hW 14 rfl rfl 0 (by decide) fl12 (fun _ h9 => h9) rfl dX5_becomeTold_5 ?_
  replace hf := bs_ hf; obtain ⟨r1, hcl, hf⟩ := hf
  refine x_callP_v (w' := (wX5 a ct (pu_ 1 7 (pu_ 20 7 g (sh_ 7 r1)) r1) ++ wX5 (sh_ 19 a) ct (sh_ 19 (pu_ 1 7 (pu_ 20 7 g (sh_ 7 r1)) r1)))) (As := [.ref (a 20)]) (rest := []) (ci := 1) ⟨hx, hb, hml, hown, hts⟩ (c_X1_become l N kd G ct (ca_ 7 (sh_ 1 a) (sh_ 20 a)) (ca_ 7 (sh_ 1 g) (sh_ 20 g)) _ hcl) (cwV 1 hts gX5_becomeTold_X1_become rfl rfl rfl (by decide +kernel) ⟨Nat.le_of_ble_eq_true rfl, Nat.le_of_ble_eq_true rfl⟩) hK hE hA hW [1, 2, 3, 4, 5, 15, 16, 17, 18, 19, 0, 6, 7, 8, 9, 10, 11, 12, 13, 14, 20, 21, 22, 23, 24, 25, 26, 27] [10, 0, 1, 2, 3, 4, 11, 12, 13, 14, 15, 16, 17, 18, 19, 5, 6, 7, 8, 9, 20, 21, 22, 23, 24, 25, 26, 27] (wr := ([0, 6, 7, 8, 9, 10, 11, 12, 13, 14, 20, 21, 22, 23, 24, 25, 26, 27] : List Nat).filterMap (fun i => (wX5 a ct g ++ wX5 (sh_ 19 a) ct (sh_ 19 g))[i]?)) rfl (wk_X5X5_1_20 a ct g) rfl (wv_X5X5_1_20 a ct g r1) 0 rfl rfl rfl rfl hl.1 rfl (lv_room (Nat.le_of_ble_eq_true rfl)) dX5_becomeTold_8 (fun H locs hW => ?_)
  refine lv_aload_n hx hb dX5_becomeTold_11 rfl (lv_at hl 0 rfl) ?_
  refine x_get (ci := 5) (v := .ref (a 8)) (C := RX5) (T := TX5) (N := 4) hx hb hts inX5 hown hK hW 0 rfl rfl 1 (by decide) fl21 (fun _ h9 => h9) rfl dX5_becomeTold_12 ?_
  refine lv_aload_n hx hb dX5_becomeTold_15 rfl (lv_at hl 1 rfl) ?_
  refine x_get (ci := 5) (v := .ref (a 27)) (C := RX5) (T := TX5) (N := 4) hx hb hts inX5 hown hK hW 14 rfl rfl 1 (by decide) fl21 (fun _ h9 => h9) rfl dX5_becomeTold_16 ?_
  replace hf := bs_ hf; obtain ⟨r2, hcl, hf⟩ := hf
  refine x_callP_v (w' := (wX5 a ct (pu_ 8 9 (pu_ 27 9 (pu_ 1 7 (pu_ 20 7 g (sh_ 7 r1)) r1) (sh_ 9 r2)) r2) ++ wX5 (sh_ 19 a) ct (sh_ 19 (pu_ 8 9 (pu_ 27 9 (pu_ 1 7 (pu_ 20 7 g (sh_ 7 r1)) r1) (sh_ 9 r2)) r2)))) (As := [.ref (a 27)]) (rest := []) (ci := 3) ⟨hx, hb, hml, hown, hts⟩ (c_X3_becomeTold l N kd G ct (ca_ 9 (sh_ 8 a) (sh_ 27 a)) (ca_ 9 (sh_ 8 (pu_ 1 7 (pu_ 20 7 g (sh_ 7 r1)) r1)) (sh_ 27 (pu_ 1 7 (pu_ 20 7 g (sh_ 7 r1)) r1))) _ hcl) (cwV 1 hts gX5_becomeTold_X3_becomeTold rfl rfl rfl (by decide +kernel) ⟨Nat.le_of_ble_eq_true rfl, Nat.le_of_ble_eq_true rfl⟩) hK hE hA hW [6, 7, 8, 9, 10, 11, 20, 21, 22, 23, 24, 25, 0, 1, 2, 3, 4, 5, 12, 13, 14, 15, 16, 17, 18, 19, 26, 27] [12, 13, 14, 15, 16, 17, 0, 1, 2, 3, 4, 5, 18, 19, 20, 21, 22, 23, 24, 25, 6, 7, 8, 9, 10, 11, 26, 27] (wr := ([0, 1, 2, 3, 4, 5, 12, 13, 14, 15, 16, 17, 18, 19, 26, 27] : List Nat).filterMap (fun i => (wX5 a ct (pu_ 1 7 (pu_ 20 7 g (sh_ 7 r1)) r1) ++ wX5 (sh_ 19 a) ct (sh_ 19 (pu_ 1 7 (pu_ 20 7 g (sh_ 7 r1)) r1)))[i]?)) rfl (wk_X5X5_8_27 a ct (pu_ 1 7 (pu_ 20 7 g (sh_ 7 r1)) r1)) rfl (wv_X5X5_8_27 a ct (pu_ 1 7 (pu_ 20 7 g (sh_ 7 r1)) r1) r2) 0 rfl rfl rfl rfl hl.1 rfl (lv_room (Nat.le_of_ble_eq_true rfl)) dX5_becomeTold_19 (fun H locs hW => ?_)
  have ho := Option.some.inj hf
  subst ho
  exact x_retv hx hb hr hlocks hK hW rfl dX5_becomeTold_22
set_option maxHeartbeats 4000000 in
set_option maxRecDepth 100000 in
theorem c_X5_allWorn (l : Launch) (N : Nat) (kd : (Nat → Nat) × (Nat → Nat)) (G : va_G) (ct : Nat → ClassId) (a : Nat → Nat) (g : St_) (o : Int32) (hf : f_X5_allWorn N g = some o) : CtI l yX5_allWorn wsX5_allWorn ({ frames := 0, cells := 0, slots := 0, locals := 0 }) kd G ct [.ref (a 0)] (wX5 a ct g) o (wX5 a ct g) := by
  intro sz
  refine Met.ofW (cc := cX5_allWorn) (maxL := 3) (ret := (some .int)) (by decide) rfl ?_
  intro p e s m args below meth c s₁ B hml hv
  obtain ⟨rfl, hsz, hP, hK, hD0, hE⟩ := hv
  have hx := B.exec
  have hb := B.bytes
  have hr := B.returns
  have hts := atoms_spec (ws := wsX5_allWorn) B.pre
  have hown : s.vm.findClass RX5 = some m.cls := findClass_of_methodNamed B.named
  have hlocks := B.notSynchronized
  have inX1 : ∀ w ∈ wsX10, w ∈ wsX5_allWorn := by decide +kernel
  have inX3 : ∀ w ∈ wsX30, w ∈ wsX5_allWorn := by decide +kernel
  have inX5 : ∀ w ∈ wsX50, w ∈ wsX5_allWorn := by decide +kernel
  have fl12 := hts (.fieldLink RX5 12 "FittingStrides$Town" "plan" "LFittingStrides$Plan;") (by decide +kernel)
  have fl21 := hts (.fieldLink RX5 21 "FittingStrides$Town" "state" "LFittingStrides$State;") (by decide +kernel)
  have fl36 := hts (.fieldLink RX5 36 "FittingStrides$Plan" "stairs" "I") (by decide +kernel)
  have fl50 := hts (.fieldLink RX5 50 "FittingStrides$State" "worn" "[I") (by decide +kernel)
  subst hsz
  have hD := hD0.self (sz := s.heap.size)
  generalize hAe : va_A (wX5 a ct g) s.heap.size = A at hD hE ⊢
  have hA : ∀ q : Nat, s.heap.size ≤ q → A q := fun q h => by rw [← hAe]; exact Or.inr h
  have hW : WW G A s.heap (wX5 a ct g) s.heap [] := ⟨hP, hD, va_S.rf⟩
  have hl := lv_entry ([.ref (a 0)]) (n := 3) (Nat.le_of_ble_eq_true rfl)
  rw [lg_entry_eq]
  generalize (lg_sl ([.ref (a 0)]) ++ List.replicate (3 - (lg_sl ([.ref (a 0)])).length) Slot.unset).toArray = ls at hl ⊢
  have hl : lv_has ls 3 [(0, .ref (a 0))] := hl
  unfold f_X5_allWorn at hf
  show W p l e ({ frames := 0, cells := 0, slots := 0, locals := 0 } : Room) s m (List.toArray [.ref (a 0)]) below meth c s.heap [] 0 0 (MQ below (va_Qi (fun r (_ : Unit) => r = o) (fun _ t => Af_ G ct (wX5 a ct g) A t) A) (List.toArray [.ref (a 0)]) s 0 0 A) (F0 m 0 ls [])
  refine lv_iconst (v := (0 : Int32)) hx hb dX5_allWorn_0 (by decide) ?_
  refine lv_istore_n (lv' := [(1, .int (0 : Int32)), (0, .ref (a 0))]) hx hb dX5_allWorn_1 rfl hl (by decide) rfl (fun ls hl => ?_)
  refine lv_iconst (v := (0 : Int32)) hx hb dX5_allWorn_2 (by decide) ?_
  refine lv_istore_n (lv' := [(2, .int (0 : Int32)), (1, .int (0 : Int32)), (0, .ref (a 0))]) hx hb dX5_allWorn_3 rfl hl (by decide) rfl (fun ls hl => ?_)
  replace hf := bs_ hf; obtain ⟨v1, hg, hf⟩ := hf
  have J1 : ∀ (H : Heap) (locs : List Loc) (ls : Array Slot), WW G A s.heap (wX5 a ct g) H locs → lv_has ls 3 [(1, .int v1)] → W p l e ({ frames := 0, cells := 0, slots := 0, locals := 0 } : Room) s m (List.toArray [.ref (a 0)]) below meth c H locs 0 0 (MQ below (va_Qi (fun r (_ : Unit) => r = o) (fun _ t => Af_ G ct (wX5 a ct g) A t) A) (List.toArray [.ref (a 0)]) s 0 0 A) (F0 m 33 ls []) := by
    intro H locs ls hW hl
    refine lv_iload_n hx hb dX5_allWorn_33 rfl (lv_at hl 0 rfl) ?_
    have ho := Option.some.inj hf
    subst ho
    exact x_reti (sz := 0) (w0 := []) (A1 := A) hx hb hr hlocks hK hW rfl rfl dX5_allWorn_34
  clear hf
  have L1 : ∀ (n : Nat) (y1_1 : Int32) (y1_2 : Int32), f_X5_allWorn_L4 N g n y1_1 y1_2 = some v1 → ∀ (H : Heap) (locs : List Loc) (ls : Array Slot), WW G A s.heap (wX5 a ct g) H locs → lv_has ls 3 [(0, .ref (a 0)), (1, .int y1_1), (2, .int y1_2)] → W p l e ({ frames := 0, cells := 0, slots := 0, locals := 0 } : Room) s m (List.toArray [.ref (a 0)]) below meth c H locs 0 0 (MQ below (va_Qi (fun r (_ : Unit) => r = o) (fun _ t => Af_ G ct (wX5 a ct g) A t) A) (List.toArray [.ref (a 0)]) s 0 0 A) (F0 m 4 ls []) := by
    intro n
    induction n with
    | zero =>
      intro y1_1 y1_2 hf
      rw [f_X5_allWorn_L4] at hf
      cases hf
    | succ n ih =>
      intro y1_1 y1_2 hf H locs ls hW hl
      rw [f_X5_allWorn_L4] at hf
      refine lv_iload_n hx hb dX5_allWorn_4 rfl (lv_at hl 2 rfl) ?_
      refine lv_aload_n hx hb dX5_allWorn_5 rfl (lv_at hl 0 rfl) ?_
      refine x_get (ci := 5) (v := .ref (a 1)) (C := RX5) (T := TX5) (N := 4) hx hb hts inX5 hown hK hW 0 rfl rfl 0 (by decide) fl12 (fun _ h9 => h9) rfl dX5_allWorn_6 ?_
      refine x_get (ci := 1) (v := .int (g 3 0)) (C := RX1) (T := TX1) (N := 6) hx hb hts inX1 hown hK hW 1 rfl rfl 1 (by decide) fl36 (fun _ h9 => h9) rfl dX5_allWorn_9 ?_
      refine lv_icmp_ge (tgt := 33) hx hb dX5_allWorn_12 (by decide) (fun hc => ?_) (fun hc => ?_)
      · replace hf := ifp hc hf
        have hj := Option.some.inj hf
        subst hj
        exact J1 _ _ _ hW (lv_sub hl [1] rfl)
      · replace hf := ifn hc hf
        refine lv_iload_n hx hb dX5_allWorn_15 rfl (lv_at hl 1 rfl) ?_
        refine lv_aload_n hx hb dX5_allWorn_16 rfl (lv_at hl 0 rfl) ?_
        refine x_get (ci := 5) (v := .ref (a 8)) (C := RX5) (T := TX5) (N := 4) hx hb hts inX5 hown hK hW 0 rfl rfl 1 (by decide) fl21 (fun _ h9 => h9) rfl dX5_allWorn_17 ?_
        refine x_get (ci := 3) (v := .ref (a 14)) (C := RX3) (T := TX3) (N := 8) hx hb hts inX3 hown hK hW 6 rfl rfl 5 (by decide) fl50 (fun _ h9 => h9) rfl dX5_allWorn_20 ?_
        refine lv_iload_n hx hb dX5_allWorn_23 rfl (lv_at hl 2 rfl) ?_
        replace hf := gd_s hf; obtain ⟨hin, hf⟩ := hf
        refine x_iald (n := 10) (f := g 14) hx hb hK hW 11 rfl (okI_in hin) dX5_allWorn_24 ?_
        refine lv_iadd hx hb dX5_allWorn_25 ?_
        refine lv_istore_n (lv' := [(1, .int (y1_1 + (g 14 y1_2.toNatClampNeg))), (0, .ref (a 0)), (2, .int y1_2)]) hx hb dX5_allWorn_26 rfl hl (by decide) rfl (fun ls hl => ?_)
        refine lv_iinc (v := (y1_2 + (1 : Int32))) (lv' := [(2, .int (y1_2 + (1 : Int32))), (1, .int (y1_1 + (g 14 y1_2.toNatClampNeg))), (0, .ref (a 0))]) hx hb dX5_allWorn_27 hl (k := 2) rfl rfl (by decide) rfl (fun ls hl => ?_)
        refine lv_goto (tgt := 4) hx hb dX5_allWorn_30 (by decide) ?_
        exact ih (y1_1 + (g 14 y1_2.toNatClampNeg)) (y1_2 + (1 : Int32)) hf _ _ _ hW (lv_sub hl [2, 1, 0] rfl)
  exact L1 N (0 : Int32) (0 : Int32) hg _ _ _ hW (lv_sub hl [2, 1, 0] rfl)
set_option maxHeartbeats 4000000 in
set_option maxRecDepth 100000 in
theorem c_X5_climbers (l : Launch) (N : Nat) (kd : (Nat → Nat) × (Nat → Nat)) (G : va_G) (ct : Nat → ClassId) (a : Nat → Nat) (g : St_) (x1 : Int32) (x2 : Int32) (x3 : Int32) (o : Int32) (hf : f_X5_climbers N g x1 x2 x3 = some o) : CtI l yX5_climbers wsX5_climbers ({ frames := 2, cells := 0, slots := 0, locals := 49 }) kd G ct [.ref (a 0), .int x1, .int x2, .int x3] (wX5 a ct g) o (wX5 a ct g) := by
  intro sz
  refine Met.ofW (cc := cX5_climbers) (maxL := 6) (ret := (some .int)) (by decide) rfl ?_
  intro p e s m args below meth c s₁ B hml hv
  obtain ⟨rfl, hsz, hP, hK, hD0, hE⟩ := hv
  have hx := B.exec
  have hb := B.bytes
  have hr := B.returns
  have hts := atoms_spec (ws := wsX5_climbers) B.pre
  have hown : s.vm.findClass RX5 = some m.cls := findClass_of_methodNamed B.named
  have hlocks := B.notSynchronized
  have inX3 : ∀ w ∈ wsX30, w ∈ wsX5_climbers := by decide +kernel
  have inX5 : ∀ w ∈ wsX50, w ∈ wsX5_climbers := by decide +kernel
  have fl21 := hts (.fieldLink RX5 21 "FittingStrides$Town" "state" "LFittingStrides$State;") (by decide +kernel)
  have fl39 := hts (.fieldLink RX5 39 "FittingStrides$State" "persons" "I") (by decide +kernel)
  have fl66 := hts (.fieldLink RX5 66 "FittingStrides$State" "firsts" "[I") (by decide +kernel)
  have fl73 := hts (.fieldLink RX5 73 "FittingStrides$State" "seconds" "[I") (by decide +kernel)
  subst hsz
  have hD := hD0.self (sz := s.heap.size)
  generalize hAe : va_A (wX5 a ct g) s.heap.size = A at hD hE ⊢
  have hA : ∀ q : Nat, s.heap.size ≤ q → A q := fun q h => by rw [← hAe]; exact Or.inr h
  have hW : WW G A s.heap (wX5 a ct g) s.heap [] := ⟨hP, hD, va_S.rf⟩
  have hl := lv_entry ([.ref (a 0), .int x1, .int x2, .int x3]) (n := 6) (Nat.le_of_ble_eq_true rfl)
  rw [lg_entry_eq]
  generalize (lg_sl ([.ref (a 0), .int x1, .int x2, .int x3]) ++ List.replicate (6 - (lg_sl ([.ref (a 0), .int x1, .int x2, .int x3])).length) Slot.unset).toArray = ls at hl ⊢
  have hl : lv_has ls 6 [(0, .ref (a 0)), (1, .int x1), (2, .int x2), (3, .int x3)] := hl
  unfold f_X5_climbers at hf
  show W p l e ({ frames := 2, cells := 0, slots := 0, locals := 49 } : Room) s m (List.toArray [.ref (a 0), .int x1, .int x2, .int x3]) below meth c s.heap [] 0 0 (MQ below (va_Qi (fun r (_ : Unit) => r = o) (fun _ t => Af_ G ct (wX5 a ct g) A t) A) (List.toArray [.ref (a 0), .int x1, .int x2, .int x3]) s 0 0 A) (F0 m 0 ls [])
  refine lv_iconst (v := (0 : Int32)) hx hb dX5_climbers_0 (by decide) ?_
  refine lv_istore (lv' := [(4, .int (0 : Int32)), (0, .ref (a 0)), (1, .int x1), (2, .int x2), (3, .int x3)]) hx hb dX5_climbers_1 hl (by decide) rfl (fun ls hl => ?_)
  refine lv_iconst (v := (0 : Int32)) hx hb dX5_climbers_3 (by decide) ?_
  refine lv_istore (lv' := [(5, .int (0 : Int32)), (4, .int (0 : Int32)), (0, .ref (a 0)), (1, .int x1), (2, .int x2), (3, .int x3)]) hx hb dX5_climbers_4 hl (by decide) rfl (fun ls hl => ?_)
  replace hf := bs_ hf; obtain ⟨v1, hg, hf⟩ := hf
  have J1 : ∀ (H : Heap) (locs : List Loc) (ls : Array Slot), WW G A s.heap (wX5 a ct g) H locs → lv_has ls 6 [(4, .int v1)] → W p l e ({ frames := 2, cells := 0, slots := 0, locals := 49 } : Room) s m (List.toArray [.ref (a 0), .int x1, .int x2, .int x3]) below meth c H locs 0 0 (MQ below (va_Qi (fun r (_ : Unit) => r = o) (fun _ t => Af_ G ct (wX5 a ct g) A t) A) (List.toArray [.ref (a 0), .int x1, .int x2, .int x3]) s 0 0 A) (F0 m 73 ls []) := by
    intro H locs ls hW hl
    refine lv_iload hx hb dX5_climbers_73 (lv_at hl 0 rfl) ?_
    have ho := Option.some.inj hf
    subst ho
    exact x_reti (sz := 0) (w0 := []) (A1 := A) hx hb hr hlocks hK hW rfl rfl dX5_climbers_75
  clear hf
  have L1 : ∀ (n : Nat) (y1_4 : Int32) (y1_5 : Int32), f_X5_climbers_L6 N g x1 x2 x3 n y1_4 y1_5 = some v1 → ∀ (H : Heap) (locs : List Loc) (ls : Array Slot), WW G A s.heap (wX5 a ct g) H locs → lv_has ls 6 [(0, .ref (a 0)), (1, .int x1), (2, .int x2), (3, .int x3), (4, .int y1_4), (5, .int y1_5)] → W p l e ({ frames := 2, cells := 0, slots := 0, locals := 49 } : Room) s m (List.toArray [.ref (a 0), .int x1, .int x2, .int x3]) below meth c H locs 0 0 (MQ below (va_Qi (fun r (_ : Unit) => r = o) (fun _ t => Af_ G ct (wX5 a ct g) A t) A) (List.toArray [.ref (a 0), .int x1, .int x2, .int x3]) s 0 0 A) (F0 m 6 ls []) := by
    intro n
    induction n with
    | zero =>
      intro y1_4 y1_5 hf
      rw [f_X5_climbers_L6] at hf
      cases hf
    | succ n ih =>
      intro y1_4 y1_5 hf H locs ls hW hl
      rw [f_X5_climbers_L6] at hf
      refine lv_iload hx hb dX5_climbers_6 (lv_at hl 5 rfl) ?_
      refine lv_aload_n hx hb dX5_climbers_8 rfl (lv_at hl 0 rfl) ?_
      refine x_get (ci := 5) (v := .ref (a 8)) (C := RX5) (T := TX5) (N := 4) hx hb hts inX5 hown hK hW 0 rfl rfl 1 (by decide) fl21 (fun _ h9 => h9) rfl dX5_climbers_9 ?_
      refine x_get (ci := 3) (v := .int (g 9 0)) (C := RX3) (T := TX3) (N := 8) hx hb hts inX3 hown hK hW 6 rfl rfl 0 (by decide) fl39 (fun _ h9 => h9) rfl dX5_climbers_12 ?_
      refine lv_icmp_ge (tgt := 73) hx hb dX5_climbers_15 (by decide) (fun hc => ?_) (fun hc => ?_)
      · replace hf := ifp hc hf
        have hj := Option.some.inj hf
        subst hj
        exact J1 _ _ _ hW (lv_sub hl [4] rfl)
      · replace hf := ifn hc hf
        refine lv_aload_n hx hb dX5_climbers_18 rfl (lv_at hl 0 rfl) ?_
        refine lv_iload_n hx hb dX5_climbers_19 rfl (lv_at hl 1 rfl) ?_
        refine lv_aload_n hx hb dX5_climbers_20 rfl (lv_at hl 0 rfl) ?_
        refine x_get (ci := 5) (v := .ref (a 8)) (C := RX5) (T := TX5) (N := 4) hx hb hts inX5 hown hK hW 0 rfl rfl 1 (by decide) fl21 (fun _ h9 => h9) rfl dX5_climbers_21 ?_
        refine x_get (ci := 3) (v := .ref (a 11)) (C := RX3) (T := TX3) (N := 8) hx hb hts inX3 hown hK hW 6 rfl rfl 2 (by decide) fl66 (fun _ h9 => h9) rfl dX5_climbers_24 ?_
        refine lv_iload hx hb dX5_climbers_27 (lv_at hl 5 rfl) ?_
        replace hf := gd_s hf; obtain ⟨hin, hf⟩ := hf
        refine x_iald (n := 8) (f := g 11) hx hb hK hW 8 rfl (okI_in hin) dX5_climbers_29 ?_
        refine lv_iload_n hx hb dX5_climbers_30 rfl (lv_at hl 2 rfl) ?_
        refine lv_iload_n hx hb dX5_climbers_31 rfl (lv_at hl 3 rfl) ?_
        replace hf := bs_ hf; obtain ⟨r2, hcl, hf⟩ := hf
        refine x_callW_i (w' := (wX5 a ct g)) (As := [.int x1, .int (g 11 y1_5.toNatClampNeg), .int x2, .int x3]) (rest := []) (ci := 5) ⟨hx, hb, hml, hown, hts⟩ (c_X5_allows l N kd G ct a g x1 (g 11 y1_5.toNatClampNeg) x2 x3 _ hcl) (cwV 4 hts gX5_climbers_X5_allows rfl rfl rfl (by decide +kernel) ⟨Nat.le_of_ble_eq_true rfl, Nat.le_of_ble_eq_true rfl⟩) hK hE hA hW rfl rfl 0 rfl rfl rfl rfl hl.1 rfl (lv_room (Nat.le_of_ble_eq_true rfl)) dX5_climbers_32 (fun H locs hW => ?_)
        replace hf := bs_ hf; obtain ⟨j3, hg, hf⟩ := hf
        have J3 : ∀ (H : Heap) (locs : List Loc) (ls : Array Slot), WW G A s.heap (wX5 a ct g) H locs → lv_has ls 6 [(0, .ref (a 0)), (1, .int x1), (2, .int x2), (3, .int x3), (4, .int j3), (5, .int y1_5)] → W p l e ({ frames := 2, cells := 0, slots := 0, locals := 49 } : Room) s m (List.toArray [.ref (a 0), .int x1, .int x2, .int x3]) below meth c H locs 0 0 (MQ below (va_Qi (fun r (_ : Unit) => r = o) (fun _ t => Af_ G ct (wX5 a ct g) A t) A) (List.toArray [.ref (a 0), .int x1, .int x2, .int x3]) s 0 0 A) (F0 m 67 ls ([])) := by
          intro H locs ls hW hl
          refine lv_iinc (v := (y1_5 + (1 : Int32))) (lv' := [(5, .int (y1_5 + (1 : Int32))), (0, .ref (a 0)), (1, .int x1), (2, .int x2), (3, .int x3), (4, .int j3)]) hx hb dX5_climbers_67 hl (k := 5) rfl rfl (by decide) rfl (fun ls hl => ?_)
          refine lv_goto (tgt := 6) hx hb dX5_climbers_70 (by decide) ?_
          exact ih j3 (y1_5 + (1 : Int32)) hf _ _ _ hW (lv_sub hl [1, 2, 3, 4, 5, 0] rfl)
        clear hf
        refine lv_if_ne (tgt := 58) hx hb dX5_climbers_35 (by decide) (fun hc => ?_) (fun hc => ?_)
        · have hf := ifn hc hg
          clear hg
          refine lv_iload hx hb dX5_climbers_58 (lv_at hl 4 rfl) ?_
          refine lv_iconst (v := (1 : Int32)) hx hb dX5_climbers_60 (by decide) ?_
          refine lv_iload hx hb dX5_climbers_61 (lv_at hl 5 rfl) ?_
          refine lv_ishl hx hb dX5_climbers_63 ?_
          refine lv_ior hx hb dX5_climbers_64 ?_
          refine lv_istore (lv' := [(4, .int (y1_4 ||| ((1 : Int32) <<< (y1_5 &&& 31)))), (0, .ref (a 0)), (1, .int x1), (2, .int x2), (3, .int x3), (5, .int y1_5)]) hx hb dX5_climbers_65 hl (by decide) rfl (fun ls hl => ?_)
          have hj := Option.some.inj hf
          subst hj
          exact J3 _ _ _ hW (lv_sub hl [1, 2, 3, 4, 0, 5] rfl)
        · have hf := ifp hc hg
          clear hg
          refine lv_aload_n hx hb dX5_climbers_38 rfl (lv_at hl 0 rfl) ?_
          refine lv_iload_n hx hb dX5_climbers_39 rfl (lv_at hl 1 rfl) ?_
          refine lv_aload_n hx hb dX5_climbers_40 rfl (lv_at hl 0 rfl) ?_
          refine x_get (ci := 5) (v := .ref (a 8)) (C := RX5) (T := TX5) (N := 4) hx hb hts inX5 hown hK hW 0 rfl rfl 1 (by decide) fl21 (fun _ h9 => h9) rfl dX5_climbers_41 ?_
          refine x_get (ci := 3) (v := .ref (a 12)) (C := RX3) (T := TX3) (N := 8) hx hb hts inX3 hown hK hW 6 rfl rfl 3 (by decide) fl73 (fun _ h9 => h9) rfl dX5_climbers_44 ?_
          refine lv_iload hx hb dX5_climbers_47 (lv_at hl 5 rfl) ?_
          replace hf := gd_s hf; obtain ⟨hin, hf⟩ := hf
          refine x_iald (n := 8) (f := g 12) hx hb hK hW 9 rfl (okI_in hin) dX5_climbers_49 ?_
          refine lv_iload_n hx hb dX5_climbers_50 rfl (lv_at hl 2 rfl) ?_
          refine lv_iload_n hx hb dX5_climbers_51 rfl (lv_at hl 3 rfl) ?_
          replace hf := bs_ hf; obtain ⟨r4, hcl, hf⟩ := hf
          refine x_callW_i (w' := (wX5 a ct g)) (As := [.int x1, .int (g 12 y1_5.toNatClampNeg), .int x2, .int x3]) (rest := []) (ci := 5) ⟨hx, hb, hml, hown, hts⟩ (c_X5_allows l N kd G ct a g x1 (g 12 y1_5.toNatClampNeg) x2 x3 _ hcl) (cwV 4 hts gX5_climbers_X5_allows rfl rfl rfl (by decide +kernel) ⟨Nat.le_of_ble_eq_true rfl, Nat.le_of_ble_eq_true rfl⟩) hK hE hA hW rfl rfl 0 rfl rfl rfl rfl hl.1 rfl (lv_room (Nat.le_of_ble_eq_true rfl)) dX5_climbers_52 (fun H locs hW => ?_)
          refine lv_if_eq (tgt := 67) hx hb dX5_climbers_55 (by decide) (fun hc => ?_) (fun hc => ?_)
          · replace hf := ifp hc hf
            have hj := Option.some.inj hf
            subst hj
            exact J3 _ _ _ hW (lv_sub hl [0, 1, 2, 3, 4, 5] rfl)
          · replace hf := ifn hc hf
            refine lv_iload hx hb dX5_climbers_58 (lv_at hl 4 rfl) ?_
            refine lv_iconst (v := (1 : Int32)) hx hb dX5_climbers_60 (by decide) ?_
            refine lv_iload hx hb dX5_climbers_61 (lv_at hl 5 rfl) ?_
            refine lv_ishl hx hb dX5_climbers_63 ?_
            refine lv_ior hx hb dX5_climbers_64 ?_
            refine lv_istore (lv' := [(4, .int (y1_4 ||| ((1 : Int32) <<< (y1_5 &&& 31)))), (0, .ref (a 0)), (1, .int x1), (2, .int x2), (3, .int x3), (5, .int y1_5)]) hx hb dX5_climbers_65 hl (by decide) rfl (fun ls hl => ?_)
            have hj := Option.some.inj hf
            subst hj
            exact J3 _ _ _ hW (lv_sub hl [1, 2, 3, 4, 0, 5] rfl)
  exact L1 N (0 : Int32) (0 : Int32) hg _ _ _ hW (lv_sub hl [2, 3, 4, 5, 1, 0] rfl)
set_option maxHeartbeats 4000000 in
set_option maxRecDepth 100000 in
theorem c_J6_bitCount_0f7a4 (l : Launch) (N : Nat) (kd : (Nat → Nat) × (Nat → Nat)) (G : va_G) (ct : Nat → ClassId) (x0 : Int32) (o : Int32) (hf : f_J6_bitCount_0f7a4 N x0 = some o) : CtI l yJ6_bitCount_0f7a4 wsJ6_bitCount_0f7a4 ({ frames := 0, cells := 0, slots := 0, locals := 0 }) kd G ct [.int x0] ([] : va_W) o ([] : va_W) := by
  intro sz
  refine Met.ofW (cc := cJ6_bitCount_0f7a4) (maxL := 1) (ret := (some .int)) (by decide) rfl ?_
  intro p e s m args below meth c s₁ B hml hv
  obtain ⟨rfl, hsz, hP, hK, hD0, hE⟩ := hv
  have hx := B.exec
  have hb := B.bytes
  have hr := B.returns
  have hts := atoms_spec (ws := wsJ6_bitCount_0f7a4) B.pre
  have hown : s.vm.findClass RJ6 = some m.cls := findClass_of_methodNamed B.named
  have hlocks := B.notSynchronized
  have fl265 := hts (.constant RJ6 265 (1431655765)) (by decide +kernel)
  have fl266 := hts (.constant RJ6 266 (858993459)) (by decide +kernel)
  have fl267 := hts (.constant RJ6 267 (252645135)) (by decide +kernel)
  subst hsz
  have hD := hD0.self (sz := s.heap.size)
  generalize hAe : va_A ([] : va_W) s.heap.size = A at hD hE ⊢
  have hA : ∀ q : Nat, s.heap.size ≤ q → A q := fun q h => by rw [← hAe]; exact Or.inr h
  have hW : WW G A s.heap ([] : va_W) s.heap [] := ⟨hP, hD, va_S.rf⟩
  have hl := lv_entry ([.int x0]) (n := 1) (Nat.le_of_ble_eq_true rfl)
  rw [lg_entry_eq]
  generalize (lg_sl ([.int x0]) ++ List.replicate (1 - (lg_sl ([.int x0])).length) Slot.unset).toArray = ls at hl ⊢
  have hl : lv_has ls 1 [(0, .int x0)] := hl
  unfold f_J6_bitCount_0f7a4 at hf
  show W p l e ({ frames := 0, cells := 0, slots := 0, locals := 0 } : Room) s m (List.toArray [.int x0]) below meth c s.heap [] 0 0 (MQ below (va_Qi (fun r (_ : Unit) => r = o) (fun _ t => Af_ G ct ([] : va_W) A t) A) (List.toArray [.int x0]) s 0 0 A) (F0 m 0 ls [])
  refine lv_iload_n hx hb dJ6_bitCount_0f7a4_0 rfl (lv_at hl 0 rfl) ?_
  refine lv_iload_n hx hb dJ6_bitCount_0f7a4_1 rfl (lv_at hl 0 rfl) ?_
  refine lv_iconst (v := (1 : Int32)) hx hb dJ6_bitCount_0f7a4_2 (by decide) ?_
  refine lv_iushr hx hb dJ6_bitCount_0f7a4_3 rfl ?_
  refine lv_ldcw (v := (1431655765 : Int32)) hx hb hown fl265 dJ6_bitCount_0f7a4_4 ?_
  refine lv_iand hx hb dJ6_bitCount_0f7a4_7 ?_
  refine lv_isub hx hb dJ6_bitCount_0f7a4_8 ?_
  refine lv_istore_n (lv' := [(0, .int (x0 - ((x0.toUInt32 >>> ((1 : Int32).toUInt32 &&& Int32.toUInt32 31)).toInt32 &&& (1431655765 : Int32))))]) hx hb dJ6_bitCount_0f7a4_9 rfl hl (by decide) rfl (fun ls hl => ?_)
  refine lv_iload_n hx hb dJ6_bitCount_0f7a4_10 rfl (lv_at hl 0 rfl) ?_
  refine lv_ldcw (v := (858993459 : Int32)) hx hb hown fl266 dJ6_bitCount_0f7a4_11 ?_
  refine lv_iand hx hb dJ6_bitCount_0f7a4_14 ?_
  refine lv_iload_n hx hb dJ6_bitCount_0f7a4_15 rfl (lv_at hl 0 rfl) ?_
  refine lv_iconst (v := (2 : Int32)) hx hb dJ6_bitCount_0f7a4_16 (by decide) ?_
  refine lv_iushr hx hb dJ6_bitCount_0f7a4_17 rfl ?_
  refine lv_ldcw (v := (858993459 : Int32)) hx hb hown fl266 dJ6_bitCount_0f7a4_18 ?_
  refine lv_iand hx hb dJ6_bitCount_0f7a4_21 ?_
  refine lv_iadd hx hb dJ6_bitCount_0f7a4_22 ?_
  refine lv_istore_n (lv' := [(0, .int (((x0 - ((x0.toUInt32 >>> ((1 : Int32).toUInt32 &&& Int32.toUInt32 31)).toInt32 &&& (1431655765 : Int32))) &&& (858993459 : Int32)) + (((x0 - ((x0.toUInt32 >>> ((1 : Int32).toUInt32 &&& Int32.toUInt32 31)).toInt32 &&& (1431655765 : Int32))).toUInt32 >>> ((2 : Int32).toUInt32 &&& Int32.toUInt32 31)).toInt32 &&& (858993459 : Int32))))]) hx hb dJ6_bitCount_0f7a4_23 rfl hl (by decide) rfl (fun ls hl => ?_)
  refine lv_iload_n hx hb dJ6_bitCount_0f7a4_24 rfl (lv_at hl 0 rfl) ?_
  refine lv_iload_n hx hb dJ6_bitCount_0f7a4_25 rfl (lv_at hl 0 rfl) ?_
  refine lv_iconst (v := (4 : Int32)) hx hb dJ6_bitCount_0f7a4_26 (by decide) ?_
  refine lv_iushr hx hb dJ6_bitCount_0f7a4_27 rfl ?_
  refine lv_iadd hx hb dJ6_bitCount_0f7a4_28 ?_
  refine lv_ldcw (v := (252645135 : Int32)) hx hb hown fl267 dJ6_bitCount_0f7a4_29 ?_
  refine lv_iand hx hb dJ6_bitCount_0f7a4_32 ?_
  refine lv_istore_n (lv' := [(0, .int (((((x0 - ((x0.toUInt32 >>> ((1 : Int32).toUInt32 &&& Int32.toUInt32 31)).toInt32 &&& (1431655765 : Int32))) &&& (858993459 : Int32)) + (((x0 - ((x0.toUInt32 >>> ((1 : Int32).toUInt32 &&& Int32.toUInt32 31)).toInt32 &&& (1431655765 : Int32))).toUInt32 >>> ((2 : Int32).toUInt32 &&& Int32.toUInt32 31)).toInt32 &&& (858993459 : Int32))) + ((((x0 - ((x0.toUInt32 >>> ((1 : Int32).toUInt32 &&& Int32.toUInt32 31)).toInt32 &&& (1431655765 : Int32))) &&& (858993459 : Int32)) + (((x0 - ((x0.toUInt32 >>> ((1 : Int32).toUInt32 &&& Int32.toUInt32 31)).toInt32 &&& (1431655765 : Int32))).toUInt32 >>> ((2 : Int32).toUInt32 &&& Int32.toUInt32 31)).toInt32 &&& (858993459 : Int32))).toUInt32 >>> ((4 : Int32).toUInt32 &&& Int32.toUInt32 31)).toInt32) &&& (252645135 : Int32)))]) hx hb dJ6_bitCount_0f7a4_33 rfl hl (by decide) rfl (fun ls hl => ?_)
  refine lv_iload_n hx hb dJ6_bitCount_0f7a4_34 rfl (lv_at hl 0 rfl) ?_
  refine lv_iload_n hx hb dJ6_bitCount_0f7a4_35 rfl (lv_at hl 0 rfl) ?_
  refine lv_bipush (v := (8 : Int32)) hx hb dJ6_bitCount_0f7a4_36 (by decide) ?_
  refine lv_iushr hx hb dJ6_bitCount_0f7a4_38 rfl ?_
  refine lv_iadd hx hb dJ6_bitCount_0f7a4_39 ?_
  refine lv_istore_n (lv' := [(0, .int ((((((x0 - ((x0.toUInt32 >>> ((1 : Int32).toUInt32 &&& Int32.toUInt32 31)).toInt32 &&& (1431655765 : Int32))) &&& (858993459 : Int32)) + (((x0 - ((x0.toUInt32 >>> ((1 : Int32).toUInt32 &&& Int32.toUInt32 31)).toInt32 &&& (1431655765 : Int32))).toUInt32 >>> ((2 : Int32).toUInt32 &&& Int32.toUInt32 31)).toInt32 &&& (858993459 : Int32))) + ((((x0 - ((x0.toUInt32 >>> ((1 : Int32).toUInt32 &&& Int32.toUInt32 31)).toInt32 &&& (1431655765 : Int32))) &&& (858993459 : Int32)) + (((x0 - ((x0.toUInt32 >>> ((1 : Int32).toUInt32 &&& Int32.toUInt32 31)).toInt32 &&& (1431655765 : Int32))).toUInt32 >>> ((2 : Int32).toUInt32 &&& Int32.toUInt32 31)).toInt32 &&& (858993459 : Int32))).toUInt32 >>> ((4 : Int32).toUInt32 &&& Int32.toUInt32 31)).toInt32) &&& (252645135 : Int32)) + ((((((x0 - ((x0.toUInt32 >>> ((1 : Int32).toUInt32 &&& Int32.toUInt32 31)).toInt32 &&& (1431655765 : Int32))) &&& (858993459 : Int32)) + (((x0 - ((x0.toUInt32 >>> ((1 : Int32).toUInt32 &&& Int32.toUInt32 31)).toInt32 &&& (1431655765 : Int32))).toUInt32 >>> ((2 : Int32).toUInt32 &&& Int32.toUInt32 31)).toInt32 &&& (858993459 : Int32))) + ((((x0 - ((x0.toUInt32 >>> ((1 : Int32).toUInt32 &&& Int32.toUInt32 31)).toInt32 &&& (1431655765 : Int32))) &&& (858993459 : Int32)) + (((x0 - ((x0.toUInt32 >>> ((1 : Int32).toUInt32 &&& Int32.toUInt32 31)).toInt32 &&& (1431655765 : Int32))).toUInt32 >>> ((2 : Int32).toUInt32 &&& Int32.toUInt32 31)).toInt32 &&& (858993459 : Int32))).toUInt32 >>> ((4 : Int32).toUInt32 &&& Int32.toUInt32 31)).toInt32) &&& (252645135 : Int32)).toUInt32 >>> ((8 : Int32).toUInt32 &&& Int32.toUInt32 31)).toInt32))]) hx hb dJ6_bitCount_0f7a4_40 rfl hl (by decide) rfl (fun ls hl => ?_)
  refine lv_iload_n hx hb dJ6_bitCount_0f7a4_41 rfl (lv_at hl 0 rfl) ?_
  refine lv_iload_n hx hb dJ6_bitCount_0f7a4_42 rfl (lv_at hl 0 rfl) ?_
  refine lv_bipush (v := (16 : Int32)) hx hb dJ6_bitCount_0f7a4_43 (by decide) ?_
  refine lv_iushr hx hb dJ6_bitCount_0f7a4_45 rfl ?_
  refine lv_iadd hx hb dJ6_bitCount_0f7a4_46 ?_
  refine lv_istore_n (lv' := [(0, .int (((((((x0 - ((x0.toUInt32 >>> ((1 : Int32).toUInt32 &&& Int32.toUInt32 31)).toInt32 &&& (1431655765 : Int32))) &&& (858993459 : Int32)) + (((x0 - ((x0.toUInt32 >>> ((1 : Int32).toUInt32 &&& Int32.toUInt32 31)).toInt32 &&& (1431655765 : Int32))).toUInt32 >>> ((2 : Int32).toUInt32 &&& Int32.toUInt32 31)).toInt32 &&& (858993459 : Int32))) + ((((x0 - ((x0.toUInt32 >>> ((1 : Int32).toUInt32 &&& Int32.toUInt32 31)).toInt32 &&& (1431655765 : Int32))) &&& (858993459 : Int32)) + (((x0 - ((x0.toUInt32 >>> ((1 : Int32).toUInt32 &&& Int32.toUInt32 31)).toInt32 &&& (1431655765 : Int32))).toUInt32 >>> ((2 : Int32).toUInt32 &&& Int32.toUInt32 31)).toInt32 &&& (858993459 : Int32))).toUInt32 >>> ((4 : Int32).toUInt32 &&& Int32.toUInt32 31)).toInt32) &&& (252645135 : Int32)) + ((((((x0 - ((x0.toUInt32 >>> ((1 : Int32).toUInt32 &&& Int32.toUInt32 31)).toInt32 &&& (1431655765 : Int32))) &&& (858993459 : Int32)) + (((x0 - ((x0.toUInt32 >>> ((1 : Int32).toUInt32 &&& Int32.toUInt32 31)).toInt32 &&& (1431655765 : Int32))).toUInt32 >>> ((2 : Int32).toUInt32 &&& Int32.toUInt32 31)).toInt32 &&& (858993459 : Int32))) + ((((x0 - ((x0.toUInt32 >>> ((1 : Int32).toUInt32 &&& Int32.toUInt32 31)).toInt32 &&& (1431655765 : Int32))) &&& (858993459 : Int32)) + (((x0 - ((x0.toUInt32 >>> ((1 : Int32).toUInt32 &&& Int32.toUInt32 31)).toInt32 &&& (1431655765 : Int32))).toUInt32 >>> ((2 : Int32).toUInt32 &&& Int32.toUInt32 31)).toInt32 &&& (858993459 : Int32))).toUInt32 >>> ((4 : Int32).toUInt32 &&& Int32.toUInt32 31)).toInt32) &&& (252645135 : Int32)).toUInt32 >>> ((8 : Int32).toUInt32 &&& Int32.toUInt32 31)).toInt32) + (((((((x0 - ((x0.toUInt32 >>> ((1 : Int32).toUInt32 &&& Int32.toUInt32 31)).toInt32 &&& (1431655765 : Int32))) &&& (858993459 : Int32)) + (((x0 - ((x0.toUInt32 >>> ((1 : Int32).toUInt32 &&& Int32.toUInt32 31)).toInt32 &&& (1431655765 : Int32))).toUInt32 >>> ((2 : Int32).toUInt32 &&& Int32.toUInt32 31)).toInt32 &&& (858993459 : Int32))) + ((((x0 - ((x0.toUInt32 >>> ((1 : Int32).toUInt32 &&& Int32.toUInt32 31)).toInt32 &&& (1431655765 : Int32))) &&& (858993459 : Int32)) + (((x0 - ((x0.toUInt32 >>> ((1 : Int32).toUInt32 &&& Int32.toUInt32 31)).toInt32 &&& (1431655765 : Int32))).toUInt32 >>> ((2 : Int32).toUInt32 &&& Int32.toUInt32 31)).toInt32 &&& (858993459 : Int32))).toUInt32 >>> ((4 : Int32).toUInt32 &&& Int32.toUInt32 31)).toInt32) &&& (252645135 : Int32)) + ((((((x0 - ((x0.toUInt32 >>> ((1 : Int32).toUInt32 &&& Int32.toUInt32 31)).toInt32 &&& (1431655765 : Int32))) &&& (858993459 : Int32)) + (((x0 - ((x0.toUInt32 >>> ((1 : Int32).toUInt32 &&& Int32.toUInt32 31)).toInt32 &&& (1431655765 : Int32))).toUInt32 >>> ((2 : Int32).toUInt32 &&& Int32.toUInt32 31)).toInt32 &&& (858993459 : Int32))) + ((((x0 - ((x0.toUInt32 >>> ((1 : Int32).toUInt32 &&& Int32.toUInt32 31)).toInt32 &&& (1431655765 : Int32))) &&& (858993459 : Int32)) + (((x0 - ((x0.toUInt32 >>> ((1 : Int32).toUInt32 &&& Int32.toUInt32 31)).toInt32 &&& (1431655765 : Int32))).toUInt32 >>> ((2 : Int32).toUInt32 &&& Int32.toUInt32 31)).toInt32 &&& (858993459 : Int32))).toUInt32 >>> ((4 : Int32).toUInt32 &&& Int32.toUInt32 31)).toInt32) &&& (252645135 : Int32)).toUInt32 >>> ((8 : Int32).toUInt32 &&& Int32.toUInt32 31)).toInt32).toUInt32 >>> ((16 : Int32).toUInt32 &&& Int32.toUInt32 31)).toInt32))]) hx hb dJ6_bitCount_0f7a4_47 rfl hl (by decide) rfl (fun ls hl => ?_)
  refine lv_iload_n hx hb dJ6_bitCount_0f7a4_48 rfl (lv_at hl 0 rfl) ?_
  refine lv_bipush (v := (63 : Int32)) hx hb dJ6_bitCount_0f7a4_49 (by decide) ?_
  refine lv_iand hx hb dJ6_bitCount_0f7a4_51 ?_
  have ho := Option.some.inj hf
  subst ho
  exact x_reti (sz := 0) (w0 := []) (A1 := A) hx hb hr hlocks hK hW rfl rfl dJ6_bitCount_0f7a4_52
set_option maxHeartbeats 4000000 in
set_option maxRecDepth 100000 in
theorem c_X5_shutOutByLess (l : Launch) (N : Nat) (kd : (Nat → Nat) × (Nat → Nat)) (G : va_G) (ct : Nat → ClassId) (a : Nat → Nat) (g : St_) (x1 : Int32) (x2 : Int32) (o : Int32) (hf : f_X5_shutOutByLess N g x1 x2 = some o) : CtI l yX5_shutOutByLess wsX5_shutOutByLess ({ frames := 3, cells := 0, slots := 0, locals := 74 }) kd G ct [.ref (a 0), .int x1, .int x2] (wX5 a ct g) o (wX5 a ct g) := by
  intro sz
  refine Met.ofW (cc := cX5_shutOutByLess) (maxL := 3) (ret := (some .int)) (by decide) rfl ?_
  intro p e s m args below meth c s₁ B hml hv
  obtain ⟨rfl, hsz, hP, hK, hD0, hE⟩ := hv
  have hx := B.exec
  have hb := B.bytes
  have hr := B.returns
  have hts := atoms_spec (ws := wsX5_shutOutByLess) B.pre
  have hown : s.vm.findClass RX5 = some m.cls := findClass_of_methodNamed B.named
  have hlocks := B.notSynchronized
  have inX3 : ∀ w ∈ wsX30, w ∈ wsX5_shutOutByLess := by decide +kernel
  have inX5 : ∀ w ∈ wsX50, w ∈ wsX5_shutOutByLess := by decide +kernel
  have fl21 := hts (.fieldLink RX5 21 "FittingStrides$Town" "state" "LFittingStrides$State;") (by decide +kernel)
  have fl59 := hts (.fieldLink RX5 59 "FittingStrides$State" "steps" "[I") (by decide +kernel)
  subst hsz
  have hD := hD0.self (sz := s.heap.size)
  generalize hAe : va_A (wX5 a ct g) s.heap.size = A at hD hE ⊢
  have hA : ∀ q : Nat, s.heap.size ≤ q → A q := fun q h => by rw [← hAe]; exact Or.inr h
  have hW : WW G A s.heap (wX5 a ct g) s.heap [] := ⟨hP, hD, va_S.rf⟩
  have hl := lv_entry ([.ref (a 0), .int x1, .int x2]) (n := 3) (Nat.le_of_ble_eq_true rfl)
  rw [lg_entry_eq]
  generalize (lg_sl ([.ref (a 0), .int x1, .int x2]) ++ List.replicate (3 - (lg_sl ([.ref (a 0), .int x1, .int x2])).length) Slot.unset).toArray = ls at hl ⊢
  have hl : lv_has ls 3 [(0, .ref (a 0)), (1, .int x1), (2, .int x2)] := hl
  unfold f_X5_shutOutByLess at hf
  show W p l e ({ frames := 3, cells := 0, slots := 0, locals := 74 } : Room) s m (List.toArray [.ref (a 0), .int x1, .int x2]) below meth c s.heap [] 0 0 (MQ below (va_Qi (fun r (_ : Unit) => r = o) (fun _ t => Af_ G ct (wX5 a ct g) A t) A) (List.toArray [.ref (a 0), .int x1, .int x2]) s 0 0 A) (F0 m 0 ls [])
  refine lv_aload_n hx hb dX5_shutOutByLess_0 rfl (lv_at hl 0 rfl) ?_
  refine x_get (ci := 5) (v := .ref (a 8)) (C := RX5) (T := TX5) (N := 4) hx hb hts inX5 hown hK hW 0 rfl rfl 1 (by decide) fl21 (fun _ h9 => h9) rfl dX5_shutOutByLess_1 ?_
  refine x_get (ci := 3) (v := .ref (a 13)) (C := RX3) (T := TX3) (N := 8) hx hb hts inX3 hown hK hW 6 rfl rfl 4 (by decide) fl59 (fun _ h9 => h9) rfl dX5_shutOutByLess_4 ?_
  refine lv_iconst (v := (3 : Int32)) hx hb dX5_shutOutByLess_7 (by decide) ?_
  refine lv_iload_n hx hb dX5_shutOutByLess_8 rfl (lv_at hl 1 rfl) ?_
  refine lv_imul hx hb dX5_shutOutByLess_9 ?_
  refine lv_iload_n hx hb dX5_shutOutByLess_10 rfl (lv_at hl 2 rfl) ?_
  refine lv_iadd hx hb dX5_shutOutByLess_11 ?_
  replace hf := gd_s hf; obtain ⟨hin, hf⟩ := hf
  refine x_iald (n := 30) (f := g 13) hx hb hK hW 10 rfl (okI_in hin) dX5_shutOutByLess_12 ?_
  refine lv_iconst (v := (2 : Int32)) hx hb dX5_shutOutByLess_13 (by decide) ?_
  refine lv_icmp_ge (tgt := 19) hx hb dX5_shutOutByLess_14 (by decide) (fun hc => ?_) (fun hc => ?_)
  · replace hf := ifp hc hf
    refine lv_aload_n hx hb dX5_shutOutByLess_19 rfl (lv_at hl 0 rfl) ?_
    refine lv_iload_n hx hb dX5_shutOutByLess_20 rfl (lv_at hl 1 rfl) ?_
    refine lv_iconst (v := (-1 : Int32)) hx hb dX5_shutOutByLess_21 (by decide) ?_
    refine lv_iconst (v := (0 : Int32)) hx hb dX5_shutOutByLess_22 (by decide) ?_
    replace hf := bs_ hf; obtain ⟨r1, hcl, hf⟩ := hf
    refine x_callW_i (w' := (wX5 a ct g)) (As := [.int x1, .int (-1 : Int32), .int (0 : Int32)]) (rest := []) (ci := 5) ⟨hx, hb, hml, hown, hts⟩ (c_X5_climbers l N kd G ct a g x1 (-1 : Int32) (0 : Int32) _ hcl) (cwV 3 hts gX5_shutOutByLess_X5_climbers rfl rfl rfl (by decide +kernel) ⟨Nat.le_of_ble_eq_true rfl, Nat.le_of_ble_eq_true rfl⟩) hK hE hA hW rfl rfl 0 rfl rfl rfl rfl hl.1 rfl (lv_room (Nat.le_of_ble_eq_true rfl)) dX5_shutOutByLess_23 (fun H locs hW => ?_)
    refine lv_aload_n hx hb dX5_shutOutByLess_26 rfl (lv_at hl 0 rfl) ?_
    refine lv_iload_n hx hb dX5_shutOutByLess_27 rfl (lv_at hl 1 rfl) ?_
    refine lv_iload_n hx hb dX5_shutOutByLess_28 rfl (lv_at hl 2 rfl) ?_
    refine lv_iconst (v := (-1 : Int32)) hx hb dX5_shutOutByLess_29 (by decide) ?_
    replace hf := bs_ hf; obtain ⟨r2, hcl, hf⟩ := hf
    refine x_callW_i (w' := (wX5 a ct g)) (As := [.int x1, .int x2, .int (-1 : Int32)]) (rest := [.int r1]) (ci := 5) ⟨hx, hb, hml, hown, hts⟩ (c_X5_climbers l N kd G ct a g x1 x2 (-1 : Int32) _ hcl) (cwV 3 hts gX5_shutOutByLess_X5_climbers rfl rfl rfl (by decide +kernel) ⟨Nat.le_of_ble_eq_true rfl, Nat.le_of_ble_eq_true rfl⟩) hK hE hA hW rfl rfl 0 rfl rfl rfl rfl hl.1 rfl (lv_room (Nat.le_of_ble_eq_true rfl)) dX5_shutOutByLess_30 (fun H locs hW => ?_)
    refine lv_iconst (v := (-1 : Int32)) hx hb dX5_shutOutByLess_33 (by decide) ?_
    refine lv_ixor hx hb dX5_shutOutByLess_34 ?_
    refine lv_iand hx hb dX5_shutOutByLess_35 ?_
    replace hf := bs_ hf; obtain ⟨r3, hcl, hf⟩ := hf
    refine x_callS_i (As := [.int (r1 &&& (r2 ^^^ (-1 : Int32)))]) (rest := []) ⟨hx, hb, hml, hown, hts⟩ (c_J6_bitCount_0f7a4 l N kd G ct (r1 &&& (r2 ^^^ (-1 : Int32))) _ hcl) (va_cwS 1 hts gX5_shutOutByLess_J6_bitCount_0f7a4 rfl rfl rfl (by decide +kernel) ⟨Nat.le_of_ble_eq_true rfl, Nat.le_of_ble_eq_true rfl⟩) hK hE hA hW rfl hl.1 rfl (lv_room (Nat.le_of_ble_eq_true rfl)) dX5_shutOutByLess_36 (fun H locs hW => ?_)
    have ho := Option.some.inj hf
    subst ho
    exact x_reti (sz := 0) (w0 := []) (A1 := A) hx hb hr hlocks hK hW rfl rfl dX5_shutOutByLess_39
  · replace hf := ifn hc hf
    refine lv_iconst (v := (0 : Int32)) hx hb dX5_shutOutByLess_17 (by decide) ?_
    have ho := Option.some.inj hf
    subst ho
    exact x_reti (sz := 0) (w0 := []) (A1 := A) hx hb hr hlocks hK hW rfl rfl dX5_shutOutByLess_18
set_option maxHeartbeats 4000000 in
set_option maxRecDepth 100000 in
theorem c_X5_stridesThatFit (l : Launch) (N : Nat) (kd : (Nat → Nat) × (Nat → Nat)) (G : va_G) (ct : Nat → ClassId) (a : Nat → Nat) (g : St_) (x1 : Int32) (o : Int32) (hf : f_X5_stridesThatFit N g x1 = some o) : CtI l yX5_stridesThatFit wsX5_stridesThatFit ({ frames := 2, cells := 0, slots := 0, locals := 49 }) kd G ct [.ref (a 0), .int x1] (wX5 a ct g) o (wX5 a ct g) := by
  intro sz
  refine Met.ofW (cc := cX5_stridesThatFit) (maxL := 4) (ret := (some .int)) (by decide) rfl ?_
  intro p e s m args below meth c s₁ B hml hv
  obtain ⟨rfl, hsz, hP, hK, hD0, hE⟩ := hv
  have hx := B.exec
  have hb := B.bytes
  have hr := B.returns
  have hts := atoms_spec (ws := wsX5_stridesThatFit) B.pre
  have hown : s.vm.findClass RX5 = some m.cls := findClass_of_methodNamed B.named
  have hlocks := B.notSynchronized
  subst hsz
  have hD := hD0.self (sz := s.heap.size)
  generalize hAe : va_A (wX5 a ct g) s.heap.size = A at hD hE ⊢
  have hA : ∀ q : Nat, s.heap.size ≤ q → A q := fun q h => by rw [← hAe]; exact Or.inr h
  have hW : WW G A s.heap (wX5 a ct g) s.heap [] := ⟨hP, hD, va_S.rf⟩
  have hl := lv_entry ([.ref (a 0), .int x1]) (n := 4) (Nat.le_of_ble_eq_true rfl)
  rw [lg_entry_eq]
  generalize (lg_sl ([.ref (a 0), .int x1]) ++ List.replicate (4 - (lg_sl ([.ref (a 0), .int x1])).length) Slot.unset).toArray = ls at hl ⊢
  have hl : lv_has ls 4 [(0, .ref (a 0)), (1, .int x1)] := hl
  unfold f_X5_stridesThatFit at hf
  show W p l e ({ frames := 2, cells := 0, slots := 0, locals := 49 } : Room) s m (List.toArray [.ref (a 0), .int x1]) below meth c s.heap [] 0 0 (MQ below (va_Qi (fun r (_ : Unit) => r = o) (fun _ t => Af_ G ct (wX5 a ct g) A t) A) (List.toArray [.ref (a 0), .int x1]) s 0 0 A) (F0 m 0 ls [])
  refine lv_iconst (v := (0 : Int32)) hx hb dX5_stridesThatFit_0 (by decide) ?_
  refine lv_istore_n (lv' := [(2, .int (0 : Int32)), (0, .ref (a 0)), (1, .int x1)]) hx hb dX5_stridesThatFit_1 rfl hl (by decide) rfl (fun ls hl => ?_)
  refine lv_iconst (v := (1 : Int32)) hx hb dX5_stridesThatFit_2 (by decide) ?_
  refine lv_istore_n (lv' := [(3, .int (1 : Int32)), (2, .int (0 : Int32)), (0, .ref (a 0)), (1, .int x1)]) hx hb dX5_stridesThatFit_3 rfl hl (by decide) rfl (fun ls hl => ?_)
  replace hf := bs_ hf; obtain ⟨v1, hg, hf⟩ := hf
  have J1 : ∀ (H : Heap) (locs : List Loc) (ls : Array Slot), WW G A s.heap (wX5 a ct g) H locs → lv_has ls 4 [(2, .int v1)] → W p l e ({ frames := 2, cells := 0, slots := 0, locals := 49 } : Room) s m (List.toArray [.ref (a 0), .int x1]) below meth c H locs 0 0 (MQ below (va_Qi (fun r (_ : Unit) => r = o) (fun _ t => Af_ G ct (wX5 a ct g) A t) A) (List.toArray [.ref (a 0), .int x1]) s 0 0 A) (F0 m 35 ls []) := by
    intro H locs ls hW hl
    refine lv_iload_n hx hb dX5_stridesThatFit_35 rfl (lv_at hl 0 rfl) ?_
    have ho := Option.some.inj hf
    subst ho
    exact x_reti (sz := 0) (w0 := []) (A1 := A) hx hb hr hlocks hK hW rfl rfl dX5_stridesThatFit_36
  clear hf
  have L1 : ∀ (n : Nat) (y1_2 : Int32) (y1_3 : Int32), f_X5_stridesThatFit_L4 N g x1 n y1_2 y1_3 = some v1 → ∀ (H : Heap) (locs : List Loc) (ls : Array Slot), WW G A s.heap (wX5 a ct g) H locs → lv_has ls 4 [(0, .ref (a 0)), (1, .int x1), (2, .int y1_2), (3, .int y1_3)] → W p l e ({ frames := 2, cells := 0, slots := 0, locals := 49 } : Room) s m (List.toArray [.ref (a 0), .int x1]) below meth c H locs 0 0 (MQ below (va_Qi (fun r (_ : Unit) => r = o) (fun _ t => Af_ G ct (wX5 a ct g) A t) A) (List.toArray [.ref (a 0), .int x1]) s 0 0 A) (F0 m 4 ls []) := by
    intro n
    induction n with
    | zero =>
      intro y1_2 y1_3 hf
      rw [f_X5_stridesThatFit_L4] at hf
      cases hf
    | succ n ih =>
      intro y1_2 y1_3 hf H locs ls hW hl
      rw [f_X5_stridesThatFit_L4] at hf
      refine lv_iload_n hx hb dX5_stridesThatFit_4 rfl (lv_at hl 3 rfl) ?_
      refine lv_bipush (v := (24 : Int32)) hx hb dX5_stridesThatFit_5 (by decide) ?_
      refine lv_icmp_gt (tgt := 35) hx hb dX5_stridesThatFit_7 (by decide) (fun hc => ?_) (fun hc => ?_)
      · replace hf := ifp hc hf
        have hj := Option.some.inj hf
        subst hj
        exact J1 _ _ _ hW (lv_sub hl [2] rfl)
      · replace hf := ifn hc hf
        refine lv_aload_n hx hb dX5_stridesThatFit_10 rfl (lv_at hl 0 rfl) ?_
        refine lv_iload_n hx hb dX5_stridesThatFit_11 rfl (lv_at hl 1 rfl) ?_
        refine lv_iload_n hx hb dX5_stridesThatFit_12 rfl (lv_at hl 3 rfl) ?_
        refine lv_iconst (v := (-1 : Int32)) hx hb dX5_stridesThatFit_13 (by decide) ?_
        refine lv_iconst (v := (0 : Int32)) hx hb dX5_stridesThatFit_14 (by decide) ?_
        replace hf := bs_ hf; obtain ⟨r2, hcl, hf⟩ := hf
        refine x_callW_i (w' := (wX5 a ct g)) (As := [.int x1, .int y1_3, .int (-1 : Int32), .int (0 : Int32)]) (rest := []) (ci := 5) ⟨hx, hb, hml, hown, hts⟩ (c_X5_allows l N kd G ct a g x1 y1_3 (-1 : Int32) (0 : Int32) _ hcl) (cwV 4 hts gX5_stridesThatFit_X5_allows rfl rfl rfl (by decide +kernel) ⟨Nat.le_of_ble_eq_true rfl, Nat.le_of_ble_eq_true rfl⟩) hK hE hA hW rfl rfl 0 rfl rfl rfl rfl hl.1 rfl (lv_room (Nat.le_of_ble_eq_true rfl)) dX5_stridesThatFit_15 (fun H locs hW => ?_)
        replace hf := bs_ hf; obtain ⟨j3, hg, hf⟩ := hf
        have J3 : ∀ (H : Heap) (locs : List Loc) (ls : Array Slot), WW G A s.heap (wX5 a ct g) H locs → lv_has ls 4 [(0, .ref (a 0)), (1, .int x1), (2, .int j3), (3, .int y1_3)] → W p l e ({ frames := 2, cells := 0, slots := 0, locals := 49 } : Room) s m (List.toArray [.ref (a 0), .int x1]) below meth c H locs 0 0 (MQ below (va_Qi (fun r (_ : Unit) => r = o) (fun _ t => Af_ G ct (wX5 a ct g) A t) A) (List.toArray [.ref (a 0), .int x1]) s 0 0 A) (F0 m 29 ls ([])) := by
          intro H locs ls hW hl
          refine lv_iinc (v := (y1_3 + (1 : Int32))) (lv' := [(3, .int (y1_3 + (1 : Int32))), (0, .ref (a 0)), (1, .int x1), (2, .int j3)]) hx hb dX5_stridesThatFit_29 hl (k := 3) rfl rfl (by decide) rfl (fun ls hl => ?_)
          refine lv_goto (tgt := 4) hx hb dX5_stridesThatFit_32 (by decide) ?_
          exact ih j3 (y1_3 + (1 : Int32)) hf _ _ _ hW (lv_sub hl [1, 2, 3, 0] rfl)
        clear hf
        refine lv_if_eq (tgt := 29) hx hb dX5_stridesThatFit_18 (by decide) (fun hc => ?_) (fun hc => ?_)
        · have hf := ifp hc hg
          clear hg
          have hj := Option.some.inj hf
          subst hj
          exact J3 _ _ _ hW (lv_sub hl [0, 1, 2, 3] rfl)
        · have hf := ifn hc hg
          clear hg
          refine lv_iload_n hx hb dX5_stridesThatFit_21 rfl (lv_at hl 2 rfl) ?_
          refine lv_iconst (v := (1 : Int32)) hx hb dX5_stridesThatFit_22 (by decide) ?_
          refine lv_iload_n hx hb dX5_stridesThatFit_23 rfl (lv_at hl 3 rfl) ?_
          refine lv_iconst (v := (1 : Int32)) hx hb dX5_stridesThatFit_24 (by decide) ?_
          refine lv_isub hx hb dX5_stridesThatFit_25 ?_
          refine lv_ishl hx hb dX5_stridesThatFit_26 ?_
          refine lv_ior hx hb dX5_stridesThatFit_27 ?_
          refine lv_istore_n (lv' := [(2, .int (y1_2 ||| ((1 : Int32) <<< ((y1_3 - (1 : Int32)) &&& 31)))), (0, .ref (a 0)), (1, .int x1), (3, .int y1_3)]) hx hb dX5_stridesThatFit_28 rfl hl (by decide) rfl (fun ls hl => ?_)
          have hj := Option.some.inj hf
          subst hj
          exact J3 _ _ _ hW (lv_sub hl [1, 2, 0, 3] rfl)
  exact L1 N (0 : Int32) (1 : Int32) hg _ _ _ hW (lv_sub hl [2, 3, 1, 0] rfl)
set_option maxHeartbeats 4000000 in
set_option maxRecDepth 100000 in
theorem c_X5_reachFrom (l : Launch) (N : Nat) (kd : (Nat → Nat) × (Nat → Nat)) (G : va_G) (ct : Nat → ClassId) (a : Nat → Nat) (g : St_) (x1 : Int32) (x2 : Int32) (x3 : Int32) (o : Int32) (hf : f_X5_reachFrom N g x1 x2 x3 = some o) : CtI l yX5_reachFrom wsX5_reachFrom ({ frames := 3, cells := 0, slots := 0, locals := 73 }) kd G ct [.ref (a 0), .int x1, .int x2, .int x3] (wX5 a ct g) o (wX5 a ct g) := by
  intro sz
  refine Met.ofW (cc := cX5_reachFrom) (maxL := 5) (ret := (some .int)) (by decide) rfl ?_
  intro p e s m args below meth c s₁ B hml hv
  obtain ⟨rfl, hsz, hP, hK, hD0, hE⟩ := hv
  have hx := B.exec
  have hb := B.bytes
  have hr := B.returns
  have hts := atoms_spec (ws := wsX5_reachFrom) B.pre
  have hown : s.vm.findClass RX5 = some m.cls := findClass_of_methodNamed B.named
  have hlocks := B.notSynchronized
  subst hsz
  have hD := hD0.self (sz := s.heap.size)
  generalize hAe : va_A (wX5 a ct g) s.heap.size = A at hD hE ⊢
  have hA : ∀ q : Nat, s.heap.size ≤ q → A q := fun q h => by rw [← hAe]; exact Or.inr h
  have hW : WW G A s.heap (wX5 a ct g) s.heap [] := ⟨hP, hD, va_S.rf⟩
  have hl := lv_entry ([.ref (a 0), .int x1, .int x2, .int x3]) (n := 5) (Nat.le_of_ble_eq_true rfl)
  rw [lg_entry_eq]
  generalize (lg_sl ([.ref (a 0), .int x1, .int x2, .int x3]) ++ List.replicate (5 - (lg_sl ([.ref (a 0), .int x1, .int x2, .int x3])).length) Slot.unset).toArray = ls at hl ⊢
  have hl : lv_has ls 5 [(0, .ref (a 0)), (1, .int x1), (2, .int x2), (3, .int x3)] := hl
  unfold f_X5_reachFrom at hf
  show W p l e ({ frames := 3, cells := 0, slots := 0, locals := 73 } : Room) s m (List.toArray [.ref (a 0), .int x1, .int x2, .int x3]) below meth c s.heap [] 0 0 (MQ below (va_Qi (fun r (_ : Unit) => r = o) (fun _ t => Af_ G ct (wX5 a ct g) A t) A) (List.toArray [.ref (a 0), .int x1, .int x2, .int x3]) s 0 0 A) (F0 m 0 ls [])
  refine lv_aload_n hx hb dX5_reachFrom_0 rfl (lv_at hl 0 rfl) ?_
  refine lv_iload_n hx hb dX5_reachFrom_1 rfl (lv_at hl 2 rfl) ?_
  refine lv_iload_n hx hb dX5_reachFrom_2 rfl (lv_at hl 3 rfl) ?_
  replace hf := bs_ hf; obtain ⟨r1, hcl, hf⟩ := hf
  refine x_callW_i (w' := (wX5 a ct g)) (As := [.int x2, .int x3]) (rest := []) (ci := 5) ⟨hx, hb, hml, hown, hts⟩ (c_X5_upStairs l N kd G ct a g x2 x3 _ hcl) (cwV 2 hts gX5_reachFrom_X5_upStairs rfl rfl rfl (by decide +kernel) ⟨Nat.le_of_ble_eq_true rfl, Nat.le_of_ble_eq_true rfl⟩) hK hE hA hW rfl rfl 0 rfl rfl rfl rfl hl.1 rfl (lv_room (Nat.le_of_ble_eq_true rfl)) dX5_reachFrom_3 (fun H locs hW => ?_)
  refine lv_istore (lv' := [(4, .int r1), (0, .ref (a 0)), (1, .int x1), (2, .int x2), (3, .int x3)]) hx hb dX5_reachFrom_6 hl (by decide) rfl (fun ls hl => ?_)
  refine lv_aload_n hx hb dX5_reachFrom_8 rfl (lv_at hl 1 rfl) ?_
  refine lv_iload_n hx hb dX5_reachFrom_9 rfl (lv_at hl 2 rfl) ?_
  refine lv_iload hx hb dX5_reachFrom_10 (lv_at hl 0 rfl) ?_
  refine lv_aload_n hx hb dX5_reachFrom_12 rfl (lv_at hl 1 rfl) ?_
  refine lv_iload hx hb dX5_reachFrom_13 (lv_at hl 0 rfl) ?_
  replace hf := bs_ hf; obtain ⟨r2, hcl, hf⟩ := hf
  refine x_callW_i (w' := (wX5 a ct g)) (As := [.int r1]) (rest := [.int r1, .int x1, .ref (a 0)]) (ci := 5) ⟨hx, hb, hml, hown, hts⟩ (c_X5_downStairs l N kd G ct a g r1 _ hcl) (cwV 1 hts gX5_reachFrom_X5_downStairs rfl rfl rfl (by decide +kernel) ⟨Nat.le_of_ble_eq_true rfl, Nat.le_of_ble_eq_true rfl⟩) hK hE hA hW rfl rfl 0 rfl rfl rfl rfl hl.1 rfl (lv_room (Nat.le_of_ble_eq_true rfl)) dX5_reachFrom_15 (fun H locs hW => ?_)
  replace hf := bs_ hf; obtain ⟨r3, hcl, hf⟩ := hf
  refine x_callW_i (w' := (wX5 a ct g)) (As := [.int x1, .int r1, .int r2]) (rest := []) (ci := 5) ⟨hx, hb, hml, hown, hts⟩ (c_X5_spread l N kd G ct a g x1 r1 r2 _ hcl) (cwV 3 hts gX5_reachFrom_X5_spread rfl rfl rfl (by decide +kernel) ⟨Nat.le_of_ble_eq_true rfl, Nat.le_of_ble_eq_true rfl⟩) hK hE hA hW rfl rfl 0 rfl rfl rfl rfl hl.1 rfl (lv_room (Nat.le_of_ble_eq_true rfl)) dX5_reachFrom_18 (fun H locs hW => ?_)
  have ho := Option.some.inj hf
  subst ho
  exact x_reti (sz := 0) (w0 := []) (A1 := A) hx hb hr hlocks hK hW rfl rfl dX5_reachFrom_21
set_option maxHeartbeats 4000000 in
set_option maxRecDepth 100000 in
theorem c_X5_reachOfPerson (l : Launch) (N : Nat) (kd : (Nat → Nat) × (Nat → Nat)) (G : va_G) (ct : Nat → ClassId) (a : Nat → Nat) (g : St_) (x1 : Int32) (o : Int32) (hf : f_X5_reachOfPerson N g x1 = some o) : CtI l yX5_reachOfPerson wsX5_reachOfPerson ({ frames := 4, cells := 0, slots := 0, locals := 97 }) kd G ct [.ref (a 0), .int x1] (wX5 a ct g) o (wX5 a ct g) := by
  intro sz
  refine Met.ofW (cc := cX5_reachOfPerson) (maxL := 2) (ret := (some .int)) (by decide) rfl ?_
  intro p e s m args below meth c s₁ B hml hv
  obtain ⟨rfl, hsz, hP, hK, hD0, hE⟩ := hv
  have hx := B.exec
  have hb := B.bytes
  have hr := B.returns
  have hts := atoms_spec (ws := wsX5_reachOfPerson) B.pre
  have hown : s.vm.findClass RX5 = some m.cls := findClass_of_methodNamed B.named
  have hlocks := B.notSynchronized
  have inX3 : ∀ w ∈ wsX30, w ∈ wsX5_reachOfPerson := by decide +kernel
  have inX5 : ∀ w ∈ wsX50, w ∈ wsX5_reachOfPerson := by decide +kernel
  have fl21 := hts (.fieldLink RX5 21 "FittingStrides$Town" "state" "LFittingStrides$State;") (by decide +kernel)
  have fl66 := hts (.fieldLink RX5 66 "FittingStrides$State" "firsts" "[I") (by decide +kernel)
  have fl73 := hts (.fieldLink RX5 73 "FittingStrides$State" "seconds" "[I") (by decide +kernel)
  have fl113 := hts (.fieldLink RX5 113 "FittingStrides$State" "at" "[I") (by decide +kernel)
  subst hsz
  have hD := hD0.self (sz := s.heap.size)
  generalize hAe : va_A (wX5 a ct g) s.heap.size = A at hD hE ⊢
  have hA : ∀ q : Nat, s.heap.size ≤ q → A q := fun q h => by rw [← hAe]; exact Or.inr h
  have hW : WW G A s.heap (wX5 a ct g) s.heap [] := ⟨hP, hD, va_S.rf⟩
  have hl := lv_entry ([.ref (a 0), .int x1]) (n := 2) (Nat.le_of_ble_eq_true rfl)
  rw [lg_entry_eq]
  generalize (lg_sl ([.ref (a 0), .int x1]) ++ List.replicate (2 - (lg_sl ([.ref (a 0), .int x1])).length) Slot.unset).toArray = ls at hl ⊢
  have hl : lv_has ls 2 [(0, .ref (a 0)), (1, .int x1)] := hl
  unfold f_X5_reachOfPerson at hf
  show W p l e ({ frames := 4, cells := 0, slots := 0, locals := 97 } : Room) s m (List.toArray [.ref (a 0), .int x1]) below meth c s.heap [] 0 0 (MQ below (va_Qi (fun r (_ : Unit) => r = o) (fun _ t => Af_ G ct (wX5 a ct g) A t) A) (List.toArray [.ref (a 0), .int x1]) s 0 0 A) (F0 m 0 ls [])
  refine lv_aload_n hx hb dX5_reachOfPerson_0 rfl (lv_at hl 0 rfl) ?_
  refine lv_aload_n hx hb dX5_reachOfPerson_1 rfl (lv_at hl 0 rfl) ?_
  refine x_get (ci := 5) (v := .ref (a 8)) (C := RX5) (T := TX5) (N := 4) hx hb hts inX5 hown hK hW 0 rfl rfl 1 (by decide) fl21 (fun _ h9 => h9) rfl dX5_reachOfPerson_2 ?_
  refine x_get (ci := 3) (v := .ref (a 10)) (C := RX3) (T := TX3) (N := 8) hx hb hts inX3 hown hK hW 6 rfl rfl 1 (by decide) fl113 (fun _ h9 => h9) rfl dX5_reachOfPerson_5 ?_
  refine lv_iload_n hx hb dX5_reachOfPerson_8 rfl (lv_at hl 1 rfl) ?_
  replace hf := gd_s hf; obtain ⟨hin, hf⟩ := hf
  refine x_iald (n := 8) (f := g 10) hx hb hK hW 7 rfl (okI_in hin) dX5_reachOfPerson_9 ?_
  refine lv_aload_n hx hb dX5_reachOfPerson_10 rfl (lv_at hl 0 rfl) ?_
  refine x_get (ci := 5) (v := .ref (a 8)) (C := RX5) (T := TX5) (N := 4) hx hb hts inX5 hown hK hW 0 rfl rfl 1 (by decide) fl21 (fun _ h9 => h9) rfl dX5_reachOfPerson_11 ?_
  refine x_get (ci := 3) (v := .ref (a 11)) (C := RX3) (T := TX3) (N := 8) hx hb hts inX3 hown hK hW 6 rfl rfl 2 (by decide) fl66 (fun _ h9 => h9) rfl dX5_reachOfPerson_14 ?_
  refine lv_iload_n hx hb dX5_reachOfPerson_17 rfl (lv_at hl 1 rfl) ?_
  replace hf := gd_s hf; obtain ⟨hin, hf⟩ := hf
  refine x_iald (n := 8) (f := g 11) hx hb hK hW 8 rfl (okI_in hin) dX5_reachOfPerson_18 ?_
  refine lv_aload_n hx hb dX5_reachOfPerson_19 rfl (lv_at hl 0 rfl) ?_
  refine x_get (ci := 5) (v := .ref (a 8)) (C := RX5) (T := TX5) (N := 4) hx hb hts inX5 hown hK hW 0 rfl rfl 1 (by decide) fl21 (fun _ h9 => h9) rfl dX5_reachOfPerson_20 ?_
  refine x_get (ci := 3) (v := .ref (a 12)) (C := RX3) (T := TX3) (N := 8) hx hb hts inX3 hown hK hW 6 rfl rfl 3 (by decide) fl73 (fun _ h9 => h9) rfl dX5_reachOfPerson_23 ?_
  refine lv_iload_n hx hb dX5_reachOfPerson_26 rfl (lv_at hl 1 rfl) ?_
  replace hf := gd_s hf; obtain ⟨hin, hf⟩ := hf
  refine x_iald (n := 8) (f := g 12) hx hb hK hW 9 rfl (okI_in hin) dX5_reachOfPerson_27 ?_
  replace hf := bs_ hf; obtain ⟨r1, hcl, hf⟩ := hf
  refine x_callW_i (w' := (wX5 a ct g)) (As := [.int (g 10 x1.toNatClampNeg), .int (g 11 x1.toNatClampNeg), .int (g 12 x1.toNatClampNeg)]) (rest := []) (ci := 5) ⟨hx, hb, hml, hown, hts⟩ (c_X5_reachFrom l N kd G ct a g (g 10 x1.toNatClampNeg) (g 11 x1.toNatClampNeg) (g 12 x1.toNatClampNeg) _ hcl) (cwV 3 hts gX5_reachOfPerson_X5_reachFrom rfl rfl rfl (by decide +kernel) ⟨Nat.le_of_ble_eq_true rfl, Nat.le_of_ble_eq_true rfl⟩) hK hE hA hW rfl rfl 0 rfl rfl rfl rfl hl.1 rfl (lv_room (Nat.le_of_ble_eq_true rfl)) dX5_reachOfPerson_28 (fun H locs hW => ?_)
  have ho := Option.some.inj hf
  subst ho
  exact x_reti (sz := 0) (w0 := []) (A1 := A) hx hb hr hlocks hK hW rfl rfl dX5_reachOfPerson_31
