set_option maxHeartbeats 4000000 in
set_option maxRecDepth 100000 in
theorem c_X0_append (l : Launch) (N : Nat) (kd : (Nat → Nat) × (Nat → Nat)) (G : va_G) (ct : Nat → ClassId) (a : Nat → Nat) (g : St_) (x1 : Int32) (x2 : Int32) (o : St_) (hf : f_X0_append N g x1 x2 = some o) : CtV l yX0_append wsX0_append ({ frames := 0, cells := 0, slots := 0, locals := 0 }) kd G ct [.ref (a 0), .int x1, .int x2] (wX0 a ct g) (wX0 a ct o) := by
  intro sz
  refine Met.ofW (cc := cX0_append) (maxL := 3) (ret := none) (by decide) rfl ?_
  intro p e s m args below meth c s₁ B hml hv
  obtain ⟨rfl, hsz, hP, hK, hD0, hE⟩ := hv
  have hx := B.exec
  have hb := B.bytes
  have hr := B.returns
  have hts := atoms_spec (ws := wsX0_append) B.pre
  have hown : s.vm.findClass RX0 = some m.cls := findClass_of_methodNamed B.named
  have hlocks := B.notSynchronized
  have inX0 : ∀ w ∈ wsX00, w ∈ wsX0_append := by decide +kernel
  have fl9 := hts (.fieldLink RX0 9 "FittingStrides$Book" "goers" "[I") (by decide +kernel)
  have fl15 := hts (.fieldLink RX0 15 "FittingStrides$Book" "ways" "[I") (by decide +kernel)
  have fl21 := hts (.fieldLink RX0 21 "FittingStrides$Book" "count" "I") (by decide +kernel)
  subst hsz
  have hD := hD0.self (sz := s.heap.size)
  generalize hAe : va_A (wX0 a ct g) s.heap.size = A at hD hE ⊢
  have hA : ∀ q : Nat, s.heap.size ≤ q → A q := fun q h => by rw [← hAe]; exact Or.inr h
  have hW : WW G A s.heap (wX0 a ct g) s.heap [] := ⟨hP, hD, va_S.rf⟩
  have hl := lv_entry ([.ref (a 0), .int x1, .int x2]) (n := 3) (Nat.le_of_ble_eq_true rfl)
  rw [lg_entry_eq]
  generalize (lg_sl ([.ref (a 0), .int x1, .int x2]) ++ List.replicate (3 - (lg_sl ([.ref (a 0), .int x1, .int x2])).length) Slot.unset).toArray = ls at hl ⊢
  have hl : lv_has ls 3 [(0, .ref (a 0)), (1, .int x1), (2, .int x2)] := hl
  unfold f_X0_append at hf
  show W p l e ({ frames := 0, cells := 0, slots := 0, locals := 0 } : Room) s m (List.toArray [.ref (a 0), .int x1, .int x2]) below meth c s.heap [] 0 0 (MQ below (va_Qv (fun (_ : Unit) => True) (fun _ t => Af_ G ct (wX0 a ct o) A t) A) (List.toArray [.ref (a 0), .int x1, .int x2]) s 0 0 A) (F0 m 0 ls [])
  refine lv_aload_n hx hb dX0_append_0 rfl (lv_at hl 0 rfl) ?_
  refine x_get (ci := 0) (v := .int (g 1 0)) (C := RX0) (T := TX0) (N := 4) hx hb hts inX0 hown hK hW 0 rfl rfl 0 (by decide) fl21 (fun _ h9 => h9) rfl dX0_append_1 ?_
  refine lv_bipush (v := (40 : Int32)) hx hb dX0_append_4 (by decide) ?_
  refine lv_icmp_ge (tgt := 39) hx hb dX0_append_6 (by decide) (fun hc => ?_) (fun hc => ?_)
  · replace hf := ifp hc hf
    have ho := Option.some.inj hf
    subst ho
    exact x_retv hx hb hr hlocks hK hW rfl dX0_append_39
  · replace hf := ifn hc hf
    refine lv_aload_n hx hb dX0_append_9 rfl (lv_at hl 0 rfl) ?_
    refine x_get (ci := 0) (v := .ref (a 2)) (C := RX0) (T := TX0) (N := 4) hx hb hts inX0 hown hK hW 0 rfl rfl 1 (by decide) fl9 (fun _ h9 => h9) rfl dX0_append_10 ?_
    refine lv_aload_n hx hb dX0_append_13 rfl (lv_at hl 0 rfl) ?_
    refine x_get (ci := 0) (v := .int (g 1 0)) (C := RX0) (T := TX0) (N := 4) hx hb hts inX0 hown hK hW 0 rfl rfl 0 (by decide) fl21 (fun _ h9 => h9) rfl dX0_append_14 ?_
    refine lv_iload_n hx hb dX0_append_17 rfl (lv_at hl 1 rfl) ?_
    replace hf := gd_s hf; obtain ⟨hin, hf⟩ := hf
    refine x_iast (w' := (wX0 a ct (up1 g 2 (g 1 0).toNatClampNeg x1))) (n := 40) (f := g 2) hx hb hK hW 1 rfl (okI_in hin) (ws_X0_2 a ct g _ _) dX0_append_18 (fun H locs hW => ?_)
    refine lv_aload_n hx hb dX0_append_19 rfl (lv_at hl 0 rfl) ?_
    refine x_get (ci := 0) (v := .ref (a 3)) (C := RX0) (T := TX0) (N := 4) hx hb hts inX0 hown hK hW 0 rfl rfl 2 (by decide) fl15 (fun _ h9 => h9) rfl dX0_append_20 ?_
    refine lv_aload_n hx hb dX0_append_23 rfl (lv_at hl 0 rfl) ?_
    refine x_get (ci := 0) (v := .int (g 1 0)) (C := RX0) (T := TX0) (N := 4) hx hb hts inX0 hown hK hW 0 rfl rfl 0 (by decide) fl21 (fun _ h9 => h9) rfl dX0_append_24 ?_
    refine lv_iload_n hx hb dX0_append_27 rfl (lv_at hl 2 rfl) ?_
    replace hf := gd_s hf; obtain ⟨hin, hf⟩ := hf
    refine x_iast (w' := (wX0 a ct (up1 (up1 g 2 (g 1 0).toNatClampNeg x1) 3 (g 1 0).toNatClampNeg x2))) (n := 40) (f := (up1 g 2 (g 1 0).toNatClampNeg x1) 3) hx hb hK hW 2 rfl (okI_in hin) (ws_X0_3 a ct (up1 g 2 (g 1 0).toNatClampNeg x1) _ _) dX0_append_28 (fun H locs hW => ?_)
    refine lv_aload_n hx hb dX0_append_29 rfl (lv_at hl 0 rfl) ?_
    refine lv_dup hx hb dX0_append_30 rfl ?_
    refine x_get (ci := 0) (v := .int (g 1 0)) (C := RX0) (T := TX0) (N := 4) hx hb hts inX0 hown hK hW 0 rfl rfl 0 (by decide) fl21 (fun _ h9 => h9) rfl dX0_append_31 ?_
    refine lv_iconst (v := (1 : Int32)) hx hb dX0_append_34 (by decide) ?_
    refine lv_iadd hx hb dX0_append_35 ?_
    refine x_put (w' := (wX0 a ct (up1 (up1 (up1 g 2 (g 1 0).toNatClampNeg x1) 3 (g 1 0).toNatClampNeg x2) 1 0 ((g 1 0) + (1 : Int32))))) (fs := fsX0 a (up1 (up1 g 2 (g 1 0).toNatClampNeg x1) 3 (g 1 0).toNatClampNeg x2)) (ci := 0) (v := .int ((g 1 0) + (1 : Int32))) (ty := .int) (C := RX0) (T := TX0) (N := 4) hx hb hts inX0 tyX0 tyX0_ok nmX0 hown hK hW 0 rfl rfl 0 (by decide) fl21 (fun _ h9 => h9) rfl (by decide +kernel) rfl rfl (Nat.le_of_ble_eq_true rfl) (wp_X0_1 a ct (up1 (up1 g 2 (g 1 0).toNatClampNeg x1) 3 (g 1 0).toNatClampNeg x2) ((g 1 0) + (1 : Int32))) dX0_append_36 (fun H locs hW => ?_)
    have ho := Option.some.inj hf
    subst ho
    exact x_retv hx hb hr hlocks hK hW rfl dX0_append_39
set_option maxHeartbeats 4000000 in
set_option maxRecDepth 100000 in
theorem c_X3_hasPerson (l : Launch) (N : Nat) (kd : (Nat → Nat) × (Nat → Nat)) (G : va_G) (ct : Nat → ClassId) (a : Nat → Nat) (g : St_) (x1 : Int32) (o : Int32) (hf : f_X3_hasPerson N g x1 = some o) : CtI l yX3_hasPerson wsX3_hasPerson ({ frames := 0, cells := 0, slots := 0, locals := 0 }) kd G ct [.ref (a 0), .int x1] (wX3 a ct g) o (wX3 a ct g) := by
  intro sz
  refine Met.ofW (cc := cX3_hasPerson) (maxL := 2) (ret := (some .boolean)) (by decide) rfl ?_
  intro p e s m args below meth c s₁ B hml hv
  obtain ⟨rfl, hsz, hP, hK, hD0, hE⟩ := hv
  have hx := B.exec
  have hb := B.bytes
  have hr := B.returns
  have hts := atoms_spec (ws := wsX3_hasPerson) B.pre
  have hown : s.vm.findClass RX3 = some m.cls := findClass_of_methodNamed B.named
  have hlocks := B.notSynchronized
  have inX3 : ∀ w ∈ wsX30, w ∈ wsX3_hasPerson := by decide +kernel
  have fl27 := hts (.fieldLink RX3 27 "FittingStrides$State" "persons" "I") (by decide +kernel)
  subst hsz
  have hD := hD0.self (sz := s.heap.size)
  generalize hAe : va_A (wX3 a ct g) s.heap.size = A at hD hE ⊢
  have hA : ∀ q : Nat, s.heap.size ≤ q → A q := fun q h => by rw [← hAe]; exact Or.inr h
  have hW : WW G A s.heap (wX3 a ct g) s.heap [] := ⟨hP, hD, va_S.rf⟩
  have hl := lv_entry ([.ref (a 0), .int x1]) (n := 2) (Nat.le_of_ble_eq_true rfl)
  rw [lg_entry_eq]
  generalize (lg_sl ([.ref (a 0), .int x1]) ++ List.replicate (2 - (lg_sl ([.ref (a 0), .int x1])).length) Slot.unset).toArray = ls at hl ⊢
  have hl : lv_has ls 2 [(0, .ref (a 0)), (1, .int x1)] := hl
  unfold f_X3_hasPerson at hf
  show W p l e ({ frames := 0, cells := 0, slots := 0, locals := 0 } : Room) s m (List.toArray [.ref (a 0), .int x1]) below meth c s.heap [] 0 0 (MQ below (va_Qi (fun r (_ : Unit) => r = o) (fun _ t => Af_ G ct (wX3 a ct g) A t) A) (List.toArray [.ref (a 0), .int x1]) s 0 0 A) (F0 m 0 ls [])
  refine lv_iload_n hx hb dX3_hasPerson_0 rfl (lv_at hl 1 rfl) ?_
  refine lv_if_lt (tgt := 16) hx hb dX3_hasPerson_1 (by decide) (fun hc => ?_) (fun hc => ?_)
  · replace hf := ifp hc hf
    refine lv_iconst (v := (0 : Int32)) hx hb dX3_hasPerson_16 (by decide) ?_
    have ho := Option.some.inj hf
    subst ho
    exact x_retz hx hb hr rfl hlocks hK hW rfl rfl dX3_hasPerson_17
  · replace hf := ifn hc hf
    refine lv_iload_n hx hb dX3_hasPerson_4 rfl (lv_at hl 1 rfl) ?_
    refine lv_aload_n hx hb dX3_hasPerson_5 rfl (lv_at hl 0 rfl) ?_
    refine x_get (ci := 3) (v := .int (g 1 0)) (C := RX3) (T := TX3) (N := 8) hx hb hts inX3 hown hK hW 0 rfl rfl 0 (by decide) fl27 (fun _ h9 => h9) rfl dX3_hasPerson_6 ?_
    refine lv_icmp_ge (tgt := 16) hx hb dX3_hasPerson_9 (by decide) (fun hc => ?_) (fun hc => ?_)
    · replace hf := ifp hc hf
      refine lv_iconst (v := (0 : Int32)) hx hb dX3_hasPerson_16 (by decide) ?_
      have ho := Option.some.inj hf
      subst ho
      exact x_retz hx hb hr rfl hlocks hK hW rfl rfl dX3_hasPerson_17
    · replace hf := ifn hc hf
      refine lv_iconst (v := (1 : Int32)) hx hb dX3_hasPerson_12 (by decide) ?_
      refine lv_goto (tgt := 17) hx hb dX3_hasPerson_13 (by decide) ?_
      have ho := Option.some.inj hf
      subst ho
      exact x_retz hx hb hr rfl hlocks hK hW rfl rfl dX3_hasPerson_17
set_option maxHeartbeats 4000000 in
set_option maxRecDepth 100000 in
theorem c_X1_hasStair (l : Launch) (N : Nat) (kd : (Nat → Nat) × (Nat → Nat)) (G : va_G) (ct : Nat → ClassId) (a : Nat → Nat) (g : St_) (x1 : Int32) (o : Int32) (hf : f_X1_hasStair N g x1 = some o) : CtI l yX1_hasStair wsX1_hasStair ({ frames := 0, cells := 0, slots := 0, locals := 0 }) kd G ct [.ref (a 0), .int x1] (wX1 a ct g) o (wX1 a ct g) := by
  intro sz
  refine Met.ofW (cc := cX1_hasStair) (maxL := 2) (ret := (some .boolean)) (by decide) rfl ?_
  intro p e s m args below meth c s₁ B hml hv
  obtain ⟨rfl, hsz, hP, hK, hD0, hE⟩ := hv
  have hx := B.exec
  have hb := B.bytes
  have hr := B.returns
  have hts := atoms_spec (ws := wsX1_hasStair) B.pre
  have hown : s.vm.findClass RX1 = some m.cls := findClass_of_methodNamed B.named
  have hlocks := B.notSynchronized
  have inX1 : ∀ w ∈ wsX10, w ∈ wsX1_hasStair := by decide +kernel
  have fl28 := hts (.fieldLink RX1 28 "FittingStrides$Plan" "stairs" "I") (by decide +kernel)
  subst hsz
  have hD := hD0.self (sz := s.heap.size)
  generalize hAe : va_A (wX1 a ct g) s.heap.size = A at hD hE ⊢
  have hA : ∀ q : Nat, s.heap.size ≤ q → A q := fun q h => by rw [← hAe]; exact Or.inr h
  have hW : WW G A s.heap (wX1 a ct g) s.heap [] := ⟨hP, hD, va_S.rf⟩
  have hl := lv_entry ([.ref (a 0), .int x1]) (n := 2) (Nat.le_of_ble_eq_true rfl)
  rw [lg_entry_eq]
  generalize (lg_sl ([.ref (a 0), .int x1]) ++ List.replicate (2 - (lg_sl ([.ref (a 0), .int x1])).length) Slot.unset).toArray = ls at hl ⊢
  have hl : lv_has ls 2 [(0, .ref (a 0)), (1, .int x1)] := hl
  unfold f_X1_hasStair at hf
  show W p l e ({ frames := 0, cells := 0, slots := 0, locals := 0 } : Room) s m (List.toArray [.ref (a 0), .int x1]) below meth c s.heap [] 0 0 (MQ below (va_Qi (fun r (_ : Unit) => r = o) (fun _ t => Af_ G ct (wX1 a ct g) A t) A) (List.toArray [.ref (a 0), .int x1]) s 0 0 A) (F0 m 0 ls [])
  refine lv_iload_n hx hb dX1_hasStair_0 rfl (lv_at hl 1 rfl) ?_
  refine lv_if_lt (tgt := 16) hx hb dX1_hasStair_1 (by decide) (fun hc => ?_) (fun hc => ?_)
  · replace hf := ifp hc hf
    refine lv_iconst (v := (0 : Int32)) hx hb dX1_hasStair_16 (by decide) ?_
    have ho := Option.some.inj hf
    subst ho
    exact x_retz hx hb hr rfl hlocks hK hW rfl rfl dX1_hasStair_17
  · replace hf := ifn hc hf
    refine lv_iload_n hx hb dX1_hasStair_4 rfl (lv_at hl 1 rfl) ?_
    refine lv_aload_n hx hb dX1_hasStair_5 rfl (lv_at hl 0 rfl) ?_
    refine x_get (ci := 1) (v := .int (g 2 0)) (C := RX1) (T := TX1) (N := 6) hx hb hts inX1 hown hK hW 0 rfl rfl 1 (by decide) fl28 (fun _ h9 => h9) rfl dX1_hasStair_6 ?_
    refine lv_icmp_ge (tgt := 16) hx hb dX1_hasStair_9 (by decide) (fun hc => ?_) (fun hc => ?_)
    · replace hf := ifp hc hf
      refine lv_iconst (v := (0 : Int32)) hx hb dX1_hasStair_16 (by decide) ?_
      have ho := Option.some.inj hf
      subst ho
      exact x_retz hx hb hr rfl hlocks hK hW rfl rfl dX1_hasStair_17
    · replace hf := ifn hc hf
      refine lv_iconst (v := (1 : Int32)) hx hb dX1_hasStair_12 (by decide) ?_
      refine lv_goto (tgt := 17) hx hb dX1_hasStair_13 (by decide) ?_
      have ho := Option.some.inj hf
      subst ho
      exact x_retz hx hb hr rfl hlocks hK hW rfl rfl dX1_hasStair_17
set_option maxHeartbeats 4000000 in
set_option maxRecDepth 100000 in
theorem c_X6_goesInto (l : Launch) (N : Nat) (kd : (Nat → Nat) × (Nat → Nat)) (G : va_G) (ct : Nat → ClassId) (x0 : Int32) (x1 : Int64) (o : Int32) (hf : f_X6_goesInto N x0 x1 = some o) : CtI l yX6_goesInto wsX6_goesInto ({ frames := 0, cells := 0, slots := 0, locals := 0 }) kd G ct [.int x0, .long x1] ([] : va_W) o ([] : va_W) := by
  intro sz
  refine Met.ofW (cc := cX6_goesInto) (maxL := 3) (ret := (some .boolean)) (by decide) rfl ?_
  intro p e s m args below meth c s₁ B hml hv
  obtain ⟨rfl, hsz, hP, hK, hD0, hE⟩ := hv
  have hx := B.exec
  have hb := B.bytes
  have hr := B.returns
  have hts := atoms_spec (ws := wsX6_goesInto) B.pre
  have hown : s.vm.findClass RX6 = some m.cls := findClass_of_methodNamed B.named
  have hlocks := B.notSynchronized
  subst hsz
  have hD := hD0.self (sz := s.heap.size)
  generalize hAe : va_A ([] : va_W) s.heap.size = A at hD hE ⊢
  have hA : ∀ q : Nat, s.heap.size ≤ q → A q := fun q h => by rw [← hAe]; exact Or.inr h
  have hW : WW G A s.heap ([] : va_W) s.heap [] := ⟨hP, hD, va_S.rf⟩
  have hl := lv_entry ([.int x0, .long x1]) (n := 3) (Nat.le_of_ble_eq_true rfl)
  rw [lg_entry_eq]
  generalize (lg_sl ([.int x0, .long x1]) ++ List.replicate (3 - (lg_sl ([.int x0, .long x1])).length) Slot.unset).toArray = ls at hl ⊢
  have hl : lv_has ls 3 [(0, .int x0), (1, .long x1)] := hl
  unfold f_X6_goesInto at hf
  show W p l e ({ frames := 0, cells := 0, slots := 0, locals := 0 } : Room) s m (List.toArray [.int x0, .long x1]) below meth c s.heap [] 0 0 (MQ below (va_Qi (fun r (_ : Unit) => r = o) (fun _ t => Af_ G ct ([] : va_W) A t) A) (List.toArray [.int x0, .long x1]) s 0 0 A) (F0 m 0 ls [])
  refine lv_iload_n hx hb dX6_goesInto_0 rfl (lv_at hl 0 rfl) ?_
  refine lv_if_le (tgt := 17) hx hb dX6_goesInto_1 (by decide) (fun hc => ?_) (fun hc => ?_)
  · replace hf := ifp hc hf
    refine lv_iconst (v := (0 : Int32)) hx hb dX6_goesInto_17 (by decide) ?_
    have ho := Option.some.inj hf
    subst ho
    exact x_retz hx hb hr rfl hlocks hK hW rfl rfl dX6_goesInto_18
  · replace hf := ifn hc hf
    refine lv_lload_n hx hb dX6_goesInto_4 rfl (lv_at hl 1 rfl) ?_
    refine lv_iload_n hx hb dX6_goesInto_5 rfl (lv_at hl 0 rfl) ?_
    refine lv_i2l hx hb dX6_goesInto_6 rfl ?_
    replace hf := gd_s hf; obtain ⟨hnz, hf⟩ := hf
    refine lv_lrem hx hb dX6_goesInto_7 (nzL_s hnz) ?_
    refine lv_lconst (v := (0 : Int64)) hx hb dX6_goesInto_8 (by decide) ?_
    refine W.lcmp hx hb dX6_goesInto_9 ?_
    refine lv_if_ne (tgt := 17) hx hb dX6_goesInto_10 (by decide) (fun hc => ?_) (fun hc => ?_)
    · replace hf := ifn hc hf
      refine lv_iconst (v := (0 : Int32)) hx hb dX6_goesInto_17 (by decide) ?_
      have ho := Option.some.inj hf
      subst ho
      exact x_retz hx hb hr rfl hlocks hK hW rfl rfl dX6_goesInto_18
    · replace hf := ifp hc hf
      refine lv_iconst (v := (1 : Int32)) hx hb dX6_goesInto_13 (by decide) ?_
      refine lv_goto (tgt := 18) hx hb dX6_goesInto_14 (by decide) ?_
      have ho := Option.some.inj hf
      subst ho
      exact x_retz hx hb hr rfl hlocks hK hW rfl rfl dX6_goesInto_18
set_option maxHeartbeats 4000000 in
set_option maxRecDepth 100000 in
theorem c_X5_allows (l : Launch) (N : Nat) (kd : (Nat → Nat) × (Nat → Nat)) (G : va_G) (ct : Nat → ClassId) (a : Nat → Nat) (g : St_) (x1 : Int32) (x2 : Int32) (x3 : Int32) (x4 : Int32) (o : Int32) (hf : f_X5_allows N g x1 x2 x3 x4 = some o) : CtI l yX5_allows wsX5_allows ({ frames := 1, cells := 0, slots := 0, locals := 22 }) kd G ct [.ref (a 0), .int x1, .int x2, .int x3, .int x4] (wX5 a ct g) o (wX5 a ct g) := by
  intro sz
  refine Met.ofW (cc := cX5_allows) (maxL := 8) (ret := (some .boolean)) (by decide) rfl ?_
  intro p e s m args below meth c s₁ B hml hv
  obtain ⟨rfl, hsz, hP, hK, hD0, hE⟩ := hv
  have hx := B.exec
  have hb := B.bytes
  have hr := B.returns
  have hts := atoms_spec (ws := wsX5_allows) B.pre
  have hown : s.vm.findClass RX5 = some m.cls := findClass_of_methodNamed B.named
  have hlocks := B.notSynchronized
  have inX1 : ∀ w ∈ wsX10, w ∈ wsX5_allows := by decide +kernel
  have inX3 : ∀ w ∈ wsX30, w ∈ wsX5_allows := by decide +kernel
  have inX5 : ∀ w ∈ wsX50, w ∈ wsX5_allows := by decide +kernel
  have fl12 := hts (.fieldLink RX5 12 "FittingStrides$Town" "plan" "LFittingStrides$Plan;") (by decide +kernel)
  have fl21 := hts (.fieldLink RX5 21 "FittingStrides$Town" "state" "LFittingStrides$State;") (by decide +kernel)
  have fl53 := hts (.fieldLink RX5 53 "FittingStrides$Plan" "kinds" "[I") (by decide +kernel)
  have fl56 := hts (.fieldLink RX5 56 "FittingStrides$Plan" "parts" "[I") (by decide +kernel)
  have fl59 := hts (.fieldLink RX5 59 "FittingStrides$State" "steps" "[I") (by decide +kernel)
  subst hsz
  have hD := hD0.self (sz := s.heap.size)
  generalize hAe : va_A (wX5 a ct g) s.heap.size = A at hD hE ⊢
  have hA : ∀ q : Nat, s.heap.size ≤ q → A q := fun q h => by rw [← hAe]; exact Or.inr h
  have hW : WW G A s.heap (wX5 a ct g) s.heap [] := ⟨hP, hD, va_S.rf⟩
  have hl := lv_entry ([.ref (a 0), .int x1, .int x2, .int x3, .int x4]) (n := 8) (Nat.le_of_ble_eq_true rfl)
  rw [lg_entry_eq]
  generalize (lg_sl ([.ref (a 0), .int x1, .int x2, .int x3, .int x4]) ++ List.replicate (8 - (lg_sl ([.ref (a 0), .int x1, .int x2, .int x3, .int x4])).length) Slot.unset).toArray = ls at hl ⊢
  have hl : lv_has ls 8 [(0, .ref (a 0)), (1, .int x1), (2, .int x2), (3, .int x3), (4, .int x4)] := hl
  unfold f_X5_allows at hf
  show W p l e ({ frames := 1, cells := 0, slots := 0, locals := 22 } : Room) s m (List.toArray [.ref (a 0), .int x1, .int x2, .int x3, .int x4]) below meth c s.heap [] 0 0 (MQ below (va_Qi (fun r (_ : Unit) => r = o) (fun _ t => Af_ G ct (wX5 a ct g) A t) A) (List.toArray [.ref (a 0), .int x1, .int x2, .int x3, .int x4]) s 0 0 A) (F0 m 0 ls [])
  refine lv_iload_n hx hb dX5_allows_0 rfl (lv_at hl 2 rfl) ?_
  refine lv_iconst (v := (1 : Int32)) hx hb dX5_allows_1 (by decide) ?_
  refine lv_icmp_ge (tgt := 7) hx hb dX5_allows_2 (by decide) (fun hc => ?_) (fun hc => ?_)
  · replace hf := ifp hc hf
    refine lv_aload_n hx hb dX5_allows_7 rfl (lv_at hl 0 rfl) ?_
    refine x_get (ci := 5) (v := .ref (a 1)) (C := RX5) (T := TX5) (N := 4) hx hb hts inX5 hown hK hW 0 rfl rfl 0 (by decide) fl12 (fun _ h9 => h9) rfl dX5_allows_8 ?_
    refine x_get (ci := 1) (v := .ref (a 4)) (C := RX1) (T := TX1) (N := 6) hx hb hts inX1 hown hK hW 1 rfl rfl 2 (by decide) fl53 (fun _ h9 => h9) rfl dX5_allows_11 ?_
    refine lv_iload_n hx hb dX5_allows_14 rfl (lv_at hl 1 rfl) ?_
    replace hf := gd_s hf; obtain ⟨hin, hf⟩ := hf
    refine x_iald (n := 10) (f := g 4) hx hb hK hW 2 rfl (okI_in hin) dX5_allows_15 ?_
    refine lv_istore (lv' := [(5, .int (g 4 x1.toNatClampNeg)), (0, .ref (a 0)), (1, .int x1), (2, .int x2), (3, .int x3), (4, .int x4)]) hx hb dX5_allows_16 hl (by decide) rfl (fun ls hl => ?_)
    refine lv_iload hx hb dX5_allows_18 (lv_at hl 0 rfl) ?_
    refine lv_iconst (v := (1 : Int32)) hx hb dX5_allows_20 (by decide) ?_
    refine lv_icmp_eq (tgt := 35) hx hb dX5_allows_21 (by decide) (fun hc => ?_) (fun hc => ?_)
    · replace hf := ifp hc hf
      refine lv_iconst (v := (1 : Int32)) hx hb dX5_allows_35 (by decide) ?_
      have ho := Option.some.inj hf
      subst ho
      exact x_retz hx hb hr rfl hlocks hK hW rfl rfl dX5_allows_36
    · replace hf := ifn hc hf
      refine lv_iload hx hb dX5_allows_24 (lv_at hl 0 rfl) ?_
      refine lv_iconst (v := (2 : Int32)) hx hb dX5_allows_26 (by decide) ?_
      replace hf := bs_ hf; obtain ⟨jr, hg, hf⟩ := hf
      have hR1 : ∀ r, jr = Sum.inl r → r = o := fun r hr0 => by subst hr0; have h8 := se_l hf; exact Option.some.inj h8
      have J1 : ∀ (j1 : Unit), jr = Sum.inr j1 → ∀ (H : Heap) (locs : List Loc) (ls : Array Slot), WW G A s.heap (wX5 a ct g) H locs → lv_has ls 8 [(0, .ref (a 0)), (1, .int x1), (2, .int x2), (3, .int x3), (4, .int x4), (5, .int (g 4 x1.toNatClampNeg))] → W p l e ({ frames := 1, cells := 0, slots := 0, locals := 22 } : Room) s m (List.toArray [.ref (a 0), .int x1, .int x2, .int x3, .int x4]) below meth c H locs 0 0 (MQ below (va_Qi (fun r (_ : Unit) => r = o) (fun _ t => Af_ G ct (wX5 a ct g) A t) A) (List.toArray [.ref (a 0), .int x1, .int x2, .int x3, .int x4]) s 0 0 A) (F0 m 37 ls ([])) := by
        intro j1 hjr H locs ls hW hl
        subst hjr
        replace hf := se_r hf
        refine lv_iconst (v := (0 : Int32)) hx hb dX5_allows_37 (by decide) ?_
        refine lv_istore (lv' := [(6, .int (0 : Int32)), (0, .ref (a 0)), (1, .int x1), (2, .int x2), (3, .int x3), (4, .int x4), (5, .int (g 4 x1.toNatClampNeg))]) hx hb dX5_allows_38 hl (by decide) rfl (fun ls hl => ?_)
        replace hf := bs_ hf; obtain ⟨jr, hg, hf⟩ := hf
        have hR2 : ∀ r, jr = Sum.inl r → r = o := fun r hr0 => by subst hr0; have h8 := se_l hf; exact Option.some.inj h8
        have J2 : ∀ (v2 : Unit), jr = Sum.inr v2 → ∀ (H : Heap) (locs : List Loc) (ls : Array Slot), WW G A s.heap (wX5 a ct g) H locs → lv_has ls 8 [] → W p l e ({ frames := 1, cells := 0, slots := 0, locals := 22 } : Room) s m (List.toArray [.ref (a 0), .int x1, .int x2, .int x3, .int x4]) below meth c H locs 0 0 (MQ below (va_Qi (fun r (_ : Unit) => r = o) (fun _ t => Af_ G ct (wX5 a ct g) A t) A) (List.toArray [.ref (a 0), .int x1, .int x2, .int x3, .int x4]) s 0 0 A) (F0 m 116 ls []) := by
          intro v2 hjr H locs ls hW hl
          subst hjr
          replace hf := se_r hf
          refine lv_iconst (v := (1 : Int32)) hx hb dX5_allows_116 (by decide) ?_
          have ho := Option.some.inj hf
          subst ho
          exact x_retz hx hb hr rfl hlocks hK hW rfl rfl dX5_allows_117
        clear hf
        have L2 : ∀ (n : Nat) (y2_6 : Int32), f_X5_allows_L40 N g x1 x2 x3 x4 (g 4 x1.toNatClampNeg) n y2_6 = some jr → ∀ (H : Heap) (locs : List Loc) (ls : Array Slot), WW G A s.heap (wX5 a ct g) H locs → lv_has ls 8 [(0, .ref (a 0)), (1, .int x1), (2, .int x2), (3, .int x3), (4, .int x4), (5, .int (g 4 x1.toNatClampNeg)), (6, .int y2_6)] → W p l e ({ frames := 1, cells := 0, slots := 0, locals := 22 } : Room) s m (List.toArray [.ref (a 0), .int x1, .int x2, .int x3, .int x4]) below meth c H locs 0 0 (MQ below (va_Qi (fun r (_ : Unit) => r = o) (fun _ t => Af_ G ct (wX5 a ct g) A t) A) (List.toArray [.ref (a 0), .int x1, .int x2, .int x3, .int x4]) s 0 0 A) (F0 m 40 ls []) := by
          intro n
          induction n with
          | zero =>
            intro y2_6 hf
            rw [f_X5_allows_L40] at hf
            cases hf
          | succ n ih =>
            intro y2_6 hf H locs ls hW hl
            rw [f_X5_allows_L40] at hf
            refine lv_iload hx hb dX5_allows_40 (lv_at hl 6 rfl) ?_
            refine lv_aload_n hx hb dX5_allows_42 rfl (lv_at hl 0 rfl) ?_
            refine x_get (ci := 5) (v := .ref (a 1)) (C := RX5) (T := TX5) (N := 4) hx hb hts inX5 hown hK hW 0 rfl rfl 0 (by decide) fl12 (fun _ h9 => h9) rfl dX5_allows_43 ?_
            refine x_get (ci := 1) (v := .ref (a 7)) (C := RX1) (T := TX1) (N := 6) hx hb hts inX1 hown hK hW 1 rfl rfl 5 (by decide) fl56 (fun _ h9 => h9) rfl dX5_allows_46 ?_
            refine lv_iload_n hx hb dX5_allows_49 rfl (lv_at hl 1 rfl) ?_
            replace hf := gd_s hf; obtain ⟨hin, hf⟩ := hf
            refine x_iald (n := 10) (f := g 7) hx hb hK hW 5 rfl (okI_in hin) dX5_allows_50 ?_
            refine lv_icmp_ge (tgt := 116) hx hb dX5_allows_51 (by decide) (fun hc => ?_) (fun hc => ?_)
            · replace hf := ifp hc hf
              have hj := (Option.some.inj hf).symm
              exact J2 _ hj _ _ _ hW (lv_sub hl [] rfl)
            · replace hf := ifn hc hf
              refine lv_aload_n hx hb dX5_allows_54 rfl (lv_at hl 0 rfl) ?_
              refine x_get (ci := 5) (v := .ref (a 8)) (C := RX5) (T := TX5) (N := 4) hx hb hts inX5 hown hK hW 0 rfl rfl 1 (by decide) fl21 (fun _ h9 => h9) rfl dX5_allows_55 ?_
              refine x_get (ci := 3) (v := .ref (a 13)) (C := RX3) (T := TX3) (N := 8) hx hb hts inX3 hown hK hW 6 rfl rfl 4 (by decide) fl59 (fun _ h9 => h9) rfl dX5_allows_58 ?_
              refine lv_iconst (v := (3 : Int32)) hx hb dX5_allows_61 (by decide) ?_
              refine lv_iload_n hx hb dX5_allows_62 rfl (lv_at hl 1 rfl) ?_
              refine lv_imul hx hb dX5_allows_63 ?_
              refine lv_iload hx hb dX5_allows_64 (lv_at hl 6 rfl) ?_
              refine lv_iadd hx hb dX5_allows_66 ?_
              replace hf := gd_s hf; obtain ⟨hin, hf⟩ := hf
              refine x_iald (n := 30) (f := g 13) hx hb hK hW 10 rfl (okI_in hin) dX5_allows_67 ?_
              refine lv_iload hx hb dX5_allows_68 (lv_at hl 6 rfl) ?_
              refine lv_iload_n hx hb dX5_allows_70 rfl (lv_at hl 3 rfl) ?_
              replace hf := bs_ hf; obtain ⟨j3, hg, hf⟩ := hf
              have J3 : ∀ (H : Heap) (locs : List Loc) (ls : Array Slot), WW G A s.heap (wX5 a ct g) H locs → lv_has ls 8 [(0, .ref (a 0)), (1, .int x1), (2, .int x2), (3, .int x3), (4, .int x4), (5, .int (g 4 x1.toNatClampNeg)), (6, .int y2_6)] → W p l e ({ frames := 1, cells := 0, slots := 0, locals := 22 } : Room) s m (List.toArray [.ref (a 0), .int x1, .int x2, .int x3, .int x4]) below meth c H locs 0 0 (MQ below (va_Qi (fun r (_ : Unit) => r = o) (fun _ t => Af_ G ct (wX5 a ct g) A t) A) (List.toArray [.ref (a 0), .int x1, .int x2, .int x3, .int x4]) s 0 0 A) (F0 m 80 ls (.int j3 :: .int (g 13 (((3 : Int32) * x1) + y2_6).toNatClampNeg) :: [])) := by
                intro H locs ls hW hl
                refine lv_iadd hx hb dX5_allows_80 ?_
                refine lv_istore (lv' := [(7, .int ((g 13 (((3 : Int32) * x1) + y2_6).toNatClampNeg) + j3)), (0, .ref (a 0)), (1, .int x1), (2, .int x2), (3, .int x3), (4, .int x4), (5, .int (g 4 x1.toNatClampNeg)), (6, .int y2_6)]) hx hb dX5_allows_81 hl (by decide) rfl (fun ls hl => ?_)
                refine lv_iload hx hb dX5_allows_83 (lv_at hl 6 rfl) ?_
                refine lv_iconst (v := (2 : Int32)) hx hb dX5_allows_85 (by decide) ?_
                replace hf := bs_ hf; obtain ⟨jr, hg, hf⟩ := hf
                have hR4 : ∀ r, jr = Sum.inl r → r = o := fun r hr0 => by subst hr0; have h8 := se_l hf; exact hR2 r (Option.some.inj h8).symm
                have J4 : ∀ (j4 : Unit), jr = Sum.inr j4 → ∀ (H : Heap) (locs : List Loc) (ls : Array Slot), WW G A s.heap (wX5 a ct g) H locs → lv_has ls 8 [(0, .ref (a 0)), (1, .int x1), (2, .int x2), (3, .int x3), (4, .int x4), (5, .int (g 4 x1.toNatClampNeg)), (6, .int y2_6)] → W p l e ({ frames := 1, cells := 0, slots := 0, locals := 22 } : Room) s m (List.toArray [.ref (a 0), .int x1, .int x2, .int x3, .int x4]) below meth c H locs 0 0 (MQ below (va_Qi (fun r (_ : Unit) => r = o) (fun _ t => Af_ G ct (wX5 a ct g) A t) A) (List.toArray [.ref (a 0), .int x1, .int x2, .int x3, .int x4]) s 0 0 A) (F0 m 110 ls ([])) := by
                  intro j4 hjr H locs ls hW hl
                  subst hjr
                  replace hf := se_r hf
                  refine lv_iinc (v := (y2_6 + (1 : Int32))) (lv' := [(6, .int (y2_6 + (1 : Int32))), (0, .ref (a 0)), (1, .int x1), (2, .int x2), (3, .int x3), (4, .int x4), (5, .int (g 4 x1.toNatClampNeg))]) hx hb dX5_allows_110 hl (k := 6) rfl rfl (by decide) rfl (fun ls hl => ?_)
                  refine lv_goto (tgt := 40) hx hb dX5_allows_113 (by decide) ?_
                  exact ih (y2_6 + (1 : Int32)) hf _ _ _ hW (lv_sub hl [1, 2, 3, 4, 5, 6, 0] rfl)
                clear hf
                refine lv_icmp_ne (tgt := 98) hx hb dX5_allows_86 (by decide) (fun hc => ?_) (fun hc => ?_)
                · have hf := ifn hc hg
                  clear hg
                  refine lv_iload_n hx hb dX5_allows_98 rfl (lv_at hl 3 rfl) ?_
                  refine lv_iload hx hb dX5_allows_99 (lv_at hl 0 rfl) ?_
                  refine lv_i2l hx hb dX5_allows_101 rfl ?_
                  replace hf := bs_ hf; obtain ⟨r5, hcl, hf⟩ := hf
                  refine x_callSN_i (As := [.int x2, .long ((g 13 (((3 : Int32) * x1) + y2_6).toNatClampNeg) + j3).toInt64]) (rest := []) ⟨hx, hb, hml, hown, hts⟩ (c_X6_goesInto l N kd G ct x2 (((g 13 (((3 : Int32) * x1) + y2_6).toNatClampNeg) + j3).toInt64) _ hcl) (⟨va_cnB 2 hts gX5_allows_X6_goesInto_n62 rfl rfl rfl (hE.1 (RX5, 62, yX6_goesInto) (by decide +kernel)) (hts (.initialized RX6) (by decide +kernel)) (by decide +kernel) ⟨Nat.le_of_ble_eq_true rfl, Nat.le_of_ble_eq_true rfl⟩, hts (.static yX6_goesInto) (by decide +kernel), trivial⟩) hK hE hA hW rfl hl.1 rfl (lv_room (Nat.le_of_ble_eq_true rfl)) dX5_allows_102 (fun H locs hW => ?_)
                  refine lv_if_ne (tgt := 110) hx hb dX5_allows_105 (by decide) (fun hc => ?_) (fun hc => ?_)
                  · replace hf := ifn hc hf
                    have hj := (Option.some.inj hf).symm
                    exact J4 _ hj _ _ _ hW (lv_sub hl [1, 2, 3, 4, 5, 6, 7] rfl)
                  · replace hf := ifp hc hf
                    refine lv_iconst (v := (0 : Int32)) hx hb dX5_allows_108 (by decide) ?_
                    have ho := hR4 _ (Option.some.inj hf).symm
                    subst ho
                    exact x_retz hx hb hr rfl hlocks hK hW rfl rfl dX5_allows_109
                · have hf := ifp hc hg
                  clear hg
                  refine lv_iload hx hb dX5_allows_89 (lv_at hl 0 rfl) ?_
                  refine lv_iload_n hx hb dX5_allows_91 rfl (lv_at hl 3 rfl) ?_
                  refine lv_icmp_eq (tgt := 110) hx hb dX5_allows_92 (by decide) (fun hc => ?_) (fun hc => ?_)
                  · replace hf := ifp hc hf
                    have hj := (Option.some.inj hf).symm
                    exact J4 _ hj _ _ _ hW (lv_sub hl [1, 2, 3, 4, 5, 6, 7] rfl)
                  · replace hf := ifn hc hf
                    refine lv_goto (tgt := 108) hx hb dX5_allows_95 (by decide) ?_
                    refine lv_iconst (v := (0 : Int32)) hx hb dX5_allows_108 (by decide) ?_
                    have ho := hR4 _ (Option.some.inj hf).symm
                    subst ho
                    exact x_retz hx hb hr rfl hlocks hK hW rfl rfl dX5_allows_109
              clear hf
              refine lv_icmp_ne (tgt := 79) hx hb dX5_allows_71 (by decide) (fun hc => ?_) (fun hc => ?_)
              · have hf := ifn hc hg
                clear hg
                refine lv_iconst (v := (0 : Int32)) hx hb dX5_allows_79 (by decide) ?_
                have hj := Option.some.inj hf
                subst hj
                exact J3 _ _ _ hW (lv_sub hl [0, 1, 2, 3, 4, 5, 6] rfl)
              · have hf := ifp hc hg
                clear hg
                refine lv_iload hx hb dX5_allows_74 (lv_at hl 4 rfl) ?_
                refine lv_goto (tgt := 80) hx hb dX5_allows_76 (by decide) ?_
                have hj := Option.some.inj hf
                subst hj
                exact J3 _ _ _ hW (lv_sub hl [0, 1, 2, 3, 4, 5, 6] rfl)
        exact L2 N (0 : Int32) hg _ _ _ hW (lv_sub hl [1, 2, 3, 4, 5, 6, 0] rfl)
      clear hf
      refine lv_icmp_ne (tgt := 37) hx hb dX5_allows_27 (by decide) (fun hc => ?_) (fun hc => ?_)
      · have hf := ifn hc hg
        clear hg
        have hj := (Option.some.inj hf).symm
        exact J1 _ hj _ _ _ hW (lv_sub hl [1, 2, 3, 4, 5, 0] rfl)
      · have hf := ifp hc hg
        clear hg
        refine lv_iload_n hx hb dX5_allows_30 rfl (lv_at hl 3 rfl) ?_
        refine lv_iconst (v := (1 : Int32)) hx hb dX5_allows_31 (by decide) ?_
        refine lv_icmp_ne (tgt := 37) hx hb dX5_allows_32 (by decide) (fun hc => ?_) (fun hc => ?_)
        · replace hf := ifn hc hf
          have hj := (Option.some.inj hf).symm
          exact J1 _ hj _ _ _ hW (lv_sub hl [1, 2, 3, 4, 5, 0] rfl)
        · replace hf := ifp hc hf
          refine lv_iconst (v := (1 : Int32)) hx hb dX5_allows_35 (by decide) ?_
          have ho := hR1 _ (Option.some.inj hf).symm
          subst ho
          exact x_retz hx hb hr rfl hlocks hK hW rfl rfl dX5_allows_36
  · replace hf := ifn hc hf
    refine lv_iconst (v := (0 : Int32)) hx hb dX5_allows_5 (by decide) ?_
    have ho := Option.some.inj hf
    subst ho
    exact x_retz hx hb hr rfl hlocks hK hW rfl rfl dX5_allows_6
set_option maxHeartbeats 4000000 in
set_option maxRecDepth 100000 in
theorem c_X5_mayClimb (l : Launch) (N : Nat) (kd : (Nat → Nat) × (Nat → Nat)) (G : va_G) (ct : Nat → ClassId) (a : Nat → Nat) (g : St_) (x1 : Int32) (x2 : Int32) (o : Int32) (hf : f_X5_mayClimb N g x1 x2 = some o) : CtI l yX5_mayClimb wsX5_mayClimb ({ frames := 2, cells := 0, slots := 0, locals := 49 }) kd G ct [.ref (a 0), .int x1, .int x2] (wX5 a ct g) o (wX5 a ct g) := by
  intro sz
  refine Met.ofW (cc := cX5_mayClimb) (maxL := 3) (ret := (some .boolean)) (by decide) rfl ?_
  intro p e s m args below meth c s₁ B hml hv
  obtain ⟨rfl, hsz, hP, hK, hD0, hE⟩ := hv
  have hx := B.exec
  have hb := B.bytes
  have hr := B.returns
  have hts := atoms_spec (ws := wsX5_mayClimb) B.pre
  have hown : s.vm.findClass RX5 = some m.cls := findClass_of_methodNamed B.named
  have hlocks := B.notSynchronized
  have inX3 : ∀ w ∈ wsX30, w ∈ wsX5_mayClimb := by decide +kernel
  have inX5 : ∀ w ∈ wsX50, w ∈ wsX5_mayClimb := by decide +kernel
  have fl21 := hts (.fieldLink RX5 21 "FittingStrides$Town" "state" "LFittingStrides$State;") (by decide +kernel)
  have fl66 := hts (.fieldLink RX5 66 "FittingStrides$State" "firsts" "[I") (by decide +kernel)
  have fl73 := hts (.fieldLink RX5 73 "FittingStrides$State" "seconds" "[I") (by decide +kernel)
  subst hsz
  have hD := hD0.self (sz := s.heap.size)
  generalize hAe : va_A (wX5 a ct g) s.heap.size = A at hD hE ⊢
  have hA : ∀ q : Nat, s.heap.size ≤ q → A q := fun q h => by rw [← hAe]; exact Or.inr h
  have hW : WW G A s.heap (wX5 a ct g) s.heap [] := ⟨hP, hD, va_S.rf⟩
  have hl := lv_entry ([.ref (a 0), .int x1, .int x2]) (n := 3) (Nat.le_of_ble_eq_true rfl)
  rw [lg_entry_eq]
  generalize (lg_sl ([.ref (a 0), .int x1, .int x2]) ++ List.replicate (3 - (lg_sl ([.ref (a 0), .int x1, .int x2])).length) Slot.unset).toArray = ls at hl ⊢
  have hl : lv_has ls 3 [(0, .ref (a 0)), (1, .int x1), (2, .int x2)] := hl
  unfold f_X5_mayClimb at hf
  show W p l e ({ frames := 2, cells := 0, slots := 0, locals := 49 } : Room) s m (List.toArray [.ref (a 0), .int x1, .int x2]) below meth c s.heap [] 0 0 (MQ below (va_Qi (fun r (_ : Unit) => r = o) (fun _ t => Af_ G ct (wX5 a ct g) A t) A) (List.toArray [.ref (a 0), .int x1, .int x2]) s 0 0 A) (F0 m 0 ls [])
  refine lv_aload_n hx hb dX5_mayClimb_0 rfl (lv_at hl 0 rfl) ?_
  refine lv_iload_n hx hb dX5_mayClimb_1 rfl (lv_at hl 2 rfl) ?_
  refine lv_aload_n hx hb dX5_mayClimb_2 rfl (lv_at hl 0 rfl) ?_
  refine x_get (ci := 5) (v := .ref (a 8)) (C := RX5) (T := TX5) (N := 4) hx hb hts inX5 hown hK hW 0 rfl rfl 1 (by decide) fl21 (fun _ h9 => h9) rfl dX5_mayClimb_3 ?_
  refine x_get (ci := 3) (v := .ref (a 11)) (C := RX3) (T := TX3) (N := 8) hx hb hts inX3 hown hK hW 6 rfl rfl 2 (by decide) fl66 (fun _ h9 => h9) rfl dX5_mayClimb_6 ?_
  refine lv_iload_n hx hb dX5_mayClimb_9 rfl (lv_at hl 1 rfl) ?_
  replace hf := gd_s hf; obtain ⟨hin, hf⟩ := hf
  refine x_iald (n := 8) (f := g 11) hx hb hK hW 8 rfl (okI_in hin) dX5_mayClimb_10 ?_
  refine lv_iconst (v := (-1 : Int32)) hx hb dX5_mayClimb_11 (by decide) ?_
  refine lv_iconst (v := (0 : Int32)) hx hb dX5_mayClimb_12 (by decide) ?_
  replace hf := bs_ hf; obtain ⟨r1, hcl, hf⟩ := hf
  refine x_callW_i (w' := (wX5 a ct g)) (As := [.int x2, .int (g 11 x1.toNatClampNeg), .int (-1 : Int32), .int (0 : Int32)]) (rest := []) (ci := 5) ⟨hx, hb, hml, hown, hts⟩ (c_X5_allows l N kd G ct a g x2 (g 11 x1.toNatClampNeg) (-1 : Int32) (0 : Int32) _ hcl) (cwV 4 hts gX5_mayClimb_X5_allows rfl rfl rfl (by decide +kernel) ⟨Nat.le_of_ble_eq_true rfl, Nat.le_of_ble_eq_true rfl⟩) hK hE hA hW rfl rfl 0 rfl rfl rfl rfl hl.1 rfl (lv_room (Nat.le_of_ble_eq_true rfl)) dX5_mayClimb_13 (fun H locs hW => ?_)
  refine lv_if_ne (tgt := 38) hx hb dX5_mayClimb_16 (by decide) (fun hc => ?_) (fun hc => ?_)
  · replace hf := ifn hc hf
    refine lv_iconst (v := (1 : Int32)) hx hb dX5_mayClimb_38 (by decide) ?_
    refine lv_goto (tgt := 43) hx hb dX5_mayClimb_39 (by decide) ?_
    have ho := Option.some.inj hf
    subst ho
    exact x_retz hx hb hr rfl hlocks hK hW rfl rfl dX5_mayClimb_43
  · replace hf := ifp hc hf
    refine lv_aload_n hx hb dX5_mayClimb_19 rfl (lv_at hl 0 rfl) ?_
    refine lv_iload_n hx hb dX5_mayClimb_20 rfl (lv_at hl 2 rfl) ?_
    refine lv_aload_n hx hb dX5_mayClimb_21 rfl (lv_at hl 0 rfl) ?_
    refine x_get (ci := 5) (v := .ref (a 8)) (C := RX5) (T := TX5) (N := 4) hx hb hts inX5 hown hK hW 0 rfl rfl 1 (by decide) fl21 (fun _ h9 => h9) rfl dX5_mayClimb_22 ?_
    refine x_get (ci := 3) (v := .ref (a 12)) (C := RX3) (T := TX3) (N := 8) hx hb hts inX3 hown hK hW 6 rfl rfl 3 (by decide) fl73 (fun _ h9 => h9) rfl dX5_mayClimb_25 ?_
    refine lv_iload_n hx hb dX5_mayClimb_28 rfl (lv_at hl 1 rfl) ?_
    replace hf := gd_s hf; obtain ⟨hin, hf⟩ := hf
    refine x_iald (n := 8) (f := g 12) hx hb hK hW 9 rfl (okI_in hin) dX5_mayClimb_29 ?_
    refine lv_iconst (v := (-1 : Int32)) hx hb dX5_mayClimb_30 (by decide) ?_
    refine lv_iconst (v := (0 : Int32)) hx hb dX5_mayClimb_31 (by decide) ?_
    replace hf := bs_ hf; obtain ⟨r2, hcl, hf⟩ := hf
    refine x_callW_i (w' := (wX5 a ct g)) (As := [.int x2, .int (g 12 x1.toNatClampNeg), .int (-1 : Int32), .int (0 : Int32)]) (rest := []) (ci := 5) ⟨hx, hb, hml, hown, hts⟩ (c_X5_allows l N kd G ct a g x2 (g 12 x1.toNatClampNeg) (-1 : Int32) (0 : Int32) _ hcl) (cwV 4 hts gX5_mayClimb_X5_allows rfl rfl rfl (by decide +kernel) ⟨Nat.le_of_ble_eq_true rfl, Nat.le_of_ble_eq_true rfl⟩) hK hE hA hW rfl rfl 0 rfl rfl rfl rfl hl.1 rfl (lv_room (Nat.le_of_ble_eq_true rfl)) dX5_mayClimb_32 (fun H locs hW => ?_)
    refine lv_if_eq (tgt := 42) hx hb dX5_mayClimb_35 (by decide) (fun hc => ?_) (fun hc => ?_)
    · replace hf := ifp hc hf
      refine lv_iconst (v := (0 : Int32)) hx hb dX5_mayClimb_42 (by decide) ?_
      have ho := Option.some.inj hf
      subst ho
      exact x_retz hx hb hr rfl hlocks hK hW rfl rfl dX5_mayClimb_43
    · replace hf := ifn hc hf
      refine lv_iconst (v := (1 : Int32)) hx hb dX5_mayClimb_38 (by decide) ?_
      refine lv_goto (tgt := 43) hx hb dX5_mayClimb_39 (by decide) ?_
      have ho := Option.some.inj hf
      subst ho
      exact x_retz hx hb hr rfl hlocks hK hW rfl rfl dX5_mayClimb_43
set_option maxHeartbeats 4000000 in
set_option maxRecDepth 100000 in
theorem c_X5_otherEnd (l : Launch) (N : Nat) (kd : (Nat → Nat) × (Nat → Nat)) (G : va_G) (ct : Nat → ClassId) (a : Nat → Nat) (g : St_) (x1 : Int32) (x2 : Int32) (x3 : Int32) (o : Int32) (hf : f_X5_otherEnd N g x1 x2 x3 = some o) : CtI l yX5_otherEnd wsX5_otherEnd ({ frames := 3, cells := 0, slots := 0, locals := 71 }) kd G ct [.ref (a 0), .int x1, .int x2, .int x3] (wX5 a ct g) o (wX5 a ct g) := by
  intro sz
  refine Met.ofW (cc := cX5_otherEnd) (maxL := 4) (ret := (some .int)) (by decide) rfl ?_
  intro p e s m args below meth c s₁ B hml hv
  obtain ⟨rfl, hsz, hP, hK, hD0, hE⟩ := hv
  have hx := B.exec
  have hb := B.bytes
  have hr := B.returns
  have hts := atoms_spec (ws := wsX5_otherEnd) B.pre
  have hown : s.vm.findClass RX5 = some m.cls := findClass_of_methodNamed B.named
  have hlocks := B.notSynchronized
  have inX1 : ∀ w ∈ wsX10, w ∈ wsX5_otherEnd := by decide +kernel
  have inX3 : ∀ w ∈ wsX30, w ∈ wsX5_otherEnd := by decide +kernel
  have inX5 : ∀ w ∈ wsX50, w ∈ wsX5_otherEnd := by decide +kernel
  have fl12 := hts (.fieldLink RX5 12 "FittingStrides$Town" "plan" "LFittingStrides$Plan;") (by decide +kernel)
  have fl21 := hts (.fieldLink RX5 21 "FittingStrides$Town" "state" "LFittingStrides$State;") (by decide +kernel)
  have fl86 := hts (.fieldLink RX5 86 "FittingStrides$State" "law" "I") (by decide +kernel)
  have fl97 := hts (.fieldLink RX5 97 "FittingStrides$Plan" "lows" "[I") (by decide +kernel)
  have fl100 := hts (.fieldLink RX5 100 "FittingStrides$Plan" "highs" "[I") (by decide +kernel)
  subst hsz
  have hD := hD0.self (sz := s.heap.size)
  generalize hAe : va_A (wX5 a ct g) s.heap.size = A at hD hE ⊢
  have hA : ∀ q : Nat, s.heap.size ≤ q → A q := fun q h => by rw [← hAe]; exact Or.inr h
  have hW : WW G A s.heap (wX5 a ct g) s.heap [] := ⟨hP, hD, va_S.rf⟩
  have hl := lv_entry ([.ref (a 0), .int x1, .int x2, .int x3]) (n := 4) (Nat.le_of_ble_eq_true rfl)
  rw [lg_entry_eq]
  generalize (lg_sl ([.ref (a 0), .int x1, .int x2, .int x3]) ++ List.replicate (4 - (lg_sl ([.ref (a 0), .int x1, .int x2, .int x3])).length) Slot.unset).toArray = ls at hl ⊢
  have hl : lv_has ls 4 [(0, .ref (a 0)), (1, .int x1), (2, .int x2), (3, .int x3)] := hl
  unfold f_X5_otherEnd at hf
  show W p l e ({ frames := 3, cells := 0, slots := 0, locals := 71 } : Room) s m (List.toArray [.ref (a 0), .int x1, .int x2, .int x3]) below meth c s.heap [] 0 0 (MQ below (va_Qi (fun r (_ : Unit) => r = o) (fun _ t => Af_ G ct (wX5 a ct g) A t) A) (List.toArray [.ref (a 0), .int x1, .int x2, .int x3]) s 0 0 A) (F0 m 0 ls [])
  refine lv_iload_n hx hb dX5_otherEnd_0 rfl (lv_at hl 3 rfl) ?_
  refine lv_aload_n hx hb dX5_otherEnd_1 rfl (lv_at hl 0 rfl) ?_
  refine x_get (ci := 5) (v := .ref (a 1)) (C := RX5) (T := TX5) (N := 4) hx hb hts inX5 hown hK hW 0 rfl rfl 0 (by decide) fl12 (fun _ h9 => h9) rfl dX5_otherEnd_2 ?_
  refine x_get (ci := 1) (v := .ref (a 5)) (C := RX1) (T := TX1) (N := 6) hx hb hts inX1 hown hK hW 1 rfl rfl 3 (by decide) fl97 (fun _ h9 => h9) rfl dX5_otherEnd_5 ?_
  refine lv_iload_n hx hb dX5_otherEnd_8 rfl (lv_at hl 2 rfl) ?_
  replace hf := gd_s hf; obtain ⟨hin, hf⟩ := hf
  refine x_iald (n := 10) (f := g 5) hx hb hK hW 3 rfl (okI_in hin) dX5_otherEnd_9 ?_
  refine lv_icmp_ne (tgt := 36) hx hb dX5_otherEnd_10 (by decide) (fun hc => ?_) (fun hc => ?_)
  · replace hf := ifn hc hf
    refine lv_iload_n hx hb dX5_otherEnd_36 rfl (lv_at hl 3 rfl) ?_
    refine lv_aload_n hx hb dX5_otherEnd_37 rfl (lv_at hl 0 rfl) ?_
    refine x_get (ci := 5) (v := .ref (a 1)) (C := RX5) (T := TX5) (N := 4) hx hb hts inX5 hown hK hW 0 rfl rfl 0 (by decide) fl12 (fun _ h9 => h9) rfl dX5_otherEnd_38 ?_
    refine x_get (ci := 1) (v := .ref (a 6)) (C := RX1) (T := TX1) (N := 6) hx hb hts inX1 hown hK hW 1 rfl rfl 4 (by decide) fl100 (fun _ h9 => h9) rfl dX5_otherEnd_41 ?_
    refine lv_iload_n hx hb dX5_otherEnd_44 rfl (lv_at hl 2 rfl) ?_
    replace hf := gd_s hf; obtain ⟨hin, hf⟩ := hf
    refine x_iald (n := 10) (f := g 6) hx hb hK hW 4 rfl (okI_in hin) dX5_otherEnd_45 ?_
    refine lv_icmp_ne (tgt := 83) hx hb dX5_otherEnd_46 (by decide) (fun hc => ?_) (fun hc => ?_)
    · replace hf := ifn hc hf
      refine lv_iconst (v := (-1 : Int32)) hx hb dX5_otherEnd_83 (by decide) ?_
      have ho := Option.some.inj hf
      subst ho
      exact x_reti (sz := 0) (w0 := []) (A1 := A) hx hb hr hlocks hK hW rfl rfl dX5_otherEnd_84
    · replace hf := ifp hc hf
      refine lv_aload_n hx hb dX5_otherEnd_49 rfl (lv_at hl 0 rfl) ?_
      refine x_get (ci := 5) (v := .ref (a 8)) (C := RX5) (T := TX5) (N := 4) hx hb hts inX5 hown hK hW 0 rfl rfl 1 (by decide) fl21 (fun _ h9 => h9) rfl dX5_otherEnd_50 ?_
      refine x_get (ci := 3) (v := .int (g 15 0)) (C := RX3) (T := TX3) (N := 8) hx hb hts inX3 hown hK hW 6 rfl rfl 6 (by decide) fl86 (fun _ h9 => h9) rfl dX5_otherEnd_53 ?_
      refine lv_iconst (v := (1 : Int32)) hx hb dX5_otherEnd_56 (by decide) ?_
      refine lv_icmp_eq (tgt := 69) hx hb dX5_otherEnd_57 (by decide) (fun hc => ?_) (fun hc => ?_)
      · replace hf := ifp hc hf
        refine lv_aload_n hx hb dX5_otherEnd_69 rfl (lv_at hl 0 rfl) ?_
        refine x_get (ci := 5) (v := .ref (a 1)) (C := RX5) (T := TX5) (N := 4) hx hb hts inX5 hown hK hW 0 rfl rfl 0 (by decide) fl12 (fun _ h9 => h9) rfl dX5_otherEnd_70 ?_
        refine x_get (ci := 1) (v := .ref (a 5)) (C := RX1) (T := TX1) (N := 6) hx hb hts inX1 hown hK hW 1 rfl rfl 3 (by decide) fl97 (fun _ h9 => h9) rfl dX5_otherEnd_73 ?_
        refine lv_iload_n hx hb dX5_otherEnd_76 rfl (lv_at hl 2 rfl) ?_
        replace hf := gd_s hf; obtain ⟨hin, hf⟩ := hf
        refine x_iald (n := 10) (f := g 5) hx hb hK hW 3 rfl (okI_in hin) dX5_otherEnd_77 ?_
        refine lv_goto (tgt := 82) hx hb dX5_otherEnd_78 (by decide) ?_
        have ho := Option.some.inj hf
        subst ho
        exact x_reti (sz := 0) (w0 := []) (A1 := A) hx hb hr hlocks hK hW rfl rfl dX5_otherEnd_82
      · replace hf := ifn hc hf
        refine lv_aload_n hx hb dX5_otherEnd_60 rfl (lv_at hl 0 rfl) ?_
        refine lv_iload_n hx hb dX5_otherEnd_61 rfl (lv_at hl 1 rfl) ?_
        refine lv_iload_n hx hb dX5_otherEnd_62 rfl (lv_at hl 2 rfl) ?_
        replace hf := bs_ hf; obtain ⟨r1, hcl, hf⟩ := hf
        refine x_callW_i (w' := (wX5 a ct g)) (As := [.int x1, .int x2]) (rest := []) (ci := 5) ⟨hx, hb, hml, hown, hts⟩ (c_X5_mayClimb l N kd G ct a g x1 x2 _ hcl) (cwV 2 hts gX5_otherEnd_X5_mayClimb rfl rfl rfl (by decide +kernel) ⟨Nat.le_of_ble_eq_true rfl, Nat.le_of_ble_eq_true rfl⟩) hK hE hA hW rfl rfl 0 rfl rfl rfl rfl hl.1 rfl (lv_room (Nat.le_of_ble_eq_true rfl)) dX5_otherEnd_63 (fun H locs hW => ?_)
        refine lv_if_eq (tgt := 81) hx hb dX5_otherEnd_66 (by decide) (fun hc => ?_) (fun hc => ?_)
        · replace hf := ifp hc hf
          refine lv_iconst (v := (-1 : Int32)) hx hb dX5_otherEnd_81 (by decide) ?_
          have ho := Option.some.inj hf
          subst ho
          exact x_reti (sz := 0) (w0 := []) (A1 := A) hx hb hr hlocks hK hW rfl rfl dX5_otherEnd_82
        · replace hf := ifn hc hf
          refine lv_aload_n hx hb dX5_otherEnd_69 rfl (lv_at hl 0 rfl) ?_
          refine x_get (ci := 5) (v := .ref (a 1)) (C := RX5) (T := TX5) (N := 4) hx hb hts inX5 hown hK hW 0 rfl rfl 0 (by decide) fl12 (fun _ h9 => h9) rfl dX5_otherEnd_70 ?_
          refine x_get (ci := 1) (v := .ref (a 5)) (C := RX1) (T := TX1) (N := 6) hx hb hts inX1 hown hK hW 1 rfl rfl 3 (by decide) fl97 (fun _ h9 => h9) rfl dX5_otherEnd_73 ?_
          refine lv_iload_n hx hb dX5_otherEnd_76 rfl (lv_at hl 2 rfl) ?_
          replace hf := gd_s hf; obtain ⟨hin, hf⟩ := hf
          refine x_iald (n := 10) (f := g 5) hx hb hK hW 3 rfl (okI_in hin) dX5_otherEnd_77 ?_
          refine lv_goto (tgt := 82) hx hb dX5_otherEnd_78 (by decide) ?_
          have ho := Option.some.inj hf
          subst ho
          exact x_reti (sz := 0) (w0 := []) (A1 := A) hx hb hr hlocks hK hW rfl rfl dX5_otherEnd_82
  · replace hf := ifp hc hf
    refine lv_aload_n hx hb dX5_otherEnd_13 rfl (lv_at hl 0 rfl) ?_
    refine lv_iload_n hx hb dX5_otherEnd_14 rfl (lv_at hl 1 rfl) ?_
    refine lv_iload_n hx hb dX5_otherEnd_15 rfl (lv_at hl 2 rfl) ?_
    replace hf := bs_ hf; obtain ⟨r2, hcl, hf⟩ := hf
    refine x_callW_i (w' := (wX5 a ct g)) (As := [.int x1, .int x2]) (rest := []) (ci := 5) ⟨hx, hb, hml, hown, hts⟩ (c_X5_mayClimb l N kd G ct a g x1 x2 _ hcl) (cwV 2 hts gX5_otherEnd_X5_mayClimb rfl rfl rfl (by decide +kernel) ⟨Nat.le_of_ble_eq_true rfl, Nat.le_of_ble_eq_true rfl⟩) hK hE hA hW rfl rfl 0 rfl rfl rfl rfl hl.1 rfl (lv_room (Nat.le_of_ble_eq_true rfl)) dX5_otherEnd_16 (fun H locs hW => ?_)
    refine lv_if_eq (tgt := 34) hx hb dX5_otherEnd_19 (by decide) (fun hc => ?_) (fun hc => ?_)
    · replace hf := ifp hc hf
      refine lv_iconst (v := (-1 : Int32)) hx hb dX5_otherEnd_34 (by decide) ?_
      have ho := Option.some.inj hf
      subst ho
      exact x_reti (sz := 0) (w0 := []) (A1 := A) hx hb hr hlocks hK hW rfl rfl dX5_otherEnd_35
    · replace hf := ifn hc hf
      refine lv_aload_n hx hb dX5_otherEnd_22 rfl (lv_at hl 0 rfl) ?_
      refine x_get (ci := 5) (v := .ref (a 1)) (C := RX5) (T := TX5) (N := 4) hx hb hts inX5 hown hK hW 0 rfl rfl 0 (by decide) fl12 (fun _ h9 => h9) rfl dX5_otherEnd_23 ?_
      refine x_get (ci := 1) (v := .ref (a 6)) (C := RX1) (T := TX1) (N := 6) hx hb hts inX1 hown hK hW 1 rfl rfl 4 (by decide) fl100 (fun _ h9 => h9) rfl dX5_otherEnd_26 ?_
      refine lv_iload_n hx hb dX5_otherEnd_29 rfl (lv_at hl 2 rfl) ?_
      replace hf := gd_s hf; obtain ⟨hin, hf⟩ := hf
      refine x_iald (n := 10) (f := g 6) hx hb hK hW 4 rfl (okI_in hin) dX5_otherEnd_30 ?_
      refine lv_goto (tgt := 35) hx hb dX5_otherEnd_31 (by decide) ?_
      have ho := Option.some.inj hf
      subst ho
      exact x_reti (sz := 0) (w0 := []) (A1 := A) hx hb hr hlocks hK hW rfl rfl dX5_otherEnd_35
set_option maxHeartbeats 4000000 in
set_option maxRecDepth 100000 in
theorem c_X0_firstWrong (l : Launch) (N : Nat) (kd : (Nat → Nat) × (Nat → Nat)) (G : va_G) (ct : Nat → ClassId) (a : Nat → Nat) (g : St_) (o : (Int32 × St_)) (hf : f_X0_firstWrong N g = some o) : CtI l yX0_firstWrong wsX0_firstWrong ({ frames := 4, cells := 0, slots := 0, locals := 94 }) kd G ct [.ref (a 0), .ref (a 5)] (wX0 a ct g ++ wX5 (sh_ 5 a) ct (sh_ 5 g)) o.1 (wX0 a ct o.2 ++ wX5 (sh_ 5 a) ct (sh_ 5 o.2)) := by
  intro sz
  refine Met.ofW (cc := cX0_firstWrong) (maxL := 5) (ret := (some .int)) (by decide) rfl ?_
  intro p e s m args below meth c s₁ B hml hv
  obtain ⟨rfl, hsz, hP, hK, hD0, hE⟩ := hv
  have hx := B.exec
  have hb := B.bytes
  have hr := B.returns
  have hts := atoms_spec (ws := wsX0_firstWrong) B.pre
  have hown : s.vm.findClass RX0 = some m.cls := findClass_of_methodNamed B.named
  have hlocks := B.notSynchronized
  have inX0 : ∀ w ∈ wsX00, w ∈ wsX0_firstWrong := by decide +kernel
  have inX3 : ∀ w ∈ wsX30, w ∈ wsX0_firstWrong := by decide +kernel
  have inX5 : ∀ w ∈ wsX50, w ∈ wsX0_firstWrong := by decide +kernel
  have fl9 := hts (.fieldLink RX0 9 "FittingStrides$Book" "goers" "[I") (by decide +kernel)
  have fl15 := hts (.fieldLink RX0 15 "FittingStrides$Book" "ways" "[I") (by decide +kernel)
  have fl18 := hts (.fieldLink RX0 18 "FittingStrides$Book" "whereNow" "[I") (by decide +kernel)
  have fl21 := hts (.fieldLink RX0 21 "FittingStrides$Book" "count" "I") (by decide +kernel)
  have fl25 := hts (.fieldLink RX0 25 "FittingStrides$Town" "state" "LFittingStrides$State;") (by decide +kernel)
  have fl31 := hts (.fieldLink RX0 31 "FittingStrides$State" "persons" "I") (by decide +kernel)
  have fl36 := hts (.fieldLink RX0 36 "FittingStrides$State" "at" "[I") (by decide +kernel)
  have fl43 := hts (.fieldLink RX0 43 "FittingStrides$Town" "plan" "LFittingStrides$Plan;") (by decide +kernel)
  subst hsz
  have hD := hD0.self (sz := s.heap.size)
  generalize hAe : va_A (wX0 a ct g ++ wX5 (sh_ 5 a) ct (sh_ 5 g)) s.heap.size = A at hD hE ⊢
  have hA : ∀ q : Nat, s.heap.size ≤ q → A q := fun q h => by rw [← hAe]; exact Or.inr h
  have hW : WW G A s.heap (wX0 a ct g ++ wX5 (sh_ 5 a) ct (sh_ 5 g)) s.heap [] := ⟨hP, hD, va_S.rf⟩
  have hl := lv_entry ([.ref (a 0), .ref (a 5)]) (n := 5) (Nat.le_of_ble_eq_true rfl)
  rw [lg_entry_eq]
  generalize (lg_sl ([.ref (a 0), .ref (a 5)]) ++ List.replicate (5 - (lg_sl ([.ref (a 0), .ref (a 5)])).length) Slot.unset).toArray = ls at hl ⊢
  have hl : lv_has ls 5 [(0, .ref (a 0)), (1, .ref (a 5))] := hl
  unfold f_X0_firstWrong at hf
  show W p l e ({ frames := 4, cells := 0, slots := 0, locals := 94 } : Room) s m (List.toArray [.ref (a 0), .ref (a 5)]) below meth c s.heap [] 0 0 (MQ below (va_Qi (fun r (_ : Unit) => r = o.1) (fun _ t => Af_ G ct (wX0 a ct o.2 ++ wX5 (sh_ 5 a) ct (sh_ 5 o.2)) A t) A) (List.toArray [.ref (a 0), .ref (a 5)]) s 0 0 A) (F0 m 0 ls [])
  refine lv_iconst (v := (0 : Int32)) hx hb dX0_firstWrong_0 (by decide) ?_
  refine lv_istore_n (lv' := [(2, .int (0 : Int32)), (0, .ref (a 0)), (1, .ref (a 5))]) hx hb dX0_firstWrong_1 rfl hl (by decide) rfl (fun ls hl => ?_)
  replace hf := bs_ hf; obtain ⟨v1, hg, hf⟩ := hf
  have J1 : ∀ (H : Heap) (locs : List Loc) (ls : Array Slot), WW G A s.heap (wX0 a ct v1 ++ wX5 (sh_ 5 a) ct (sh_ 5 v1)) H locs → lv_has ls 5 [(0, .ref (a 0)), (1, .ref (a 5))] → W p l e ({ frames := 4, cells := 0, slots := 0, locals := 94 } : Room) s m (List.toArray [.ref (a 0), .ref (a 5)]) below meth c H locs 0 0 (MQ below (va_Qi (fun r (_ : Unit) => r = o.1) (fun _ t => Af_ G ct (wX0 a ct o.2 ++ wX5 (sh_ 5 a) ct (sh_ 5 o.2)) A t) A) (List.toArray [.ref (a 0), .ref (a 5)]) s 0 0 A) (F0 m 34 ls []) := by
    intro H locs ls hW hl
    refine lv_iconst (v := (0 : Int32)) hx hb dX0_firstWrong_34 (by decide) ?_
    refine lv_istore_n (lv' := [(2, .int (0 : Int32)), (0, .ref (a 0)), (1, .ref (a 5))]) hx hb dX0_firstWrong_35 rfl hl (by decide) rfl (fun ls hl => ?_)
    replace hf := bs_ hf; obtain ⟨jr, hg, hf⟩ := hf
    have hR2 : ∀ r, jr = Sum.inl r → r = o := fun r hr0 => by subst hr0; have h8 := se_l hf; exact Option.some.inj h8
    have J2 : ∀ (v2 : St_), jr = Sum.inr v2 → ∀ (H : Heap) (locs : List Loc) (ls : Array Slot), WW G A s.heap (wX0 a ct v2 ++ wX5 (sh_ 5 a) ct (sh_ 5 v2)) H locs → lv_has ls 5 [] → W p l e ({ frames := 4, cells := 0, slots := 0, locals := 94 } : Room) s m (List.toArray [.ref (a 0), .ref (a 5)]) below meth c H locs 0 0 (MQ below (va_Qi (fun r (_ : Unit) => r = o.1) (fun _ t => Af_ G ct (wX0 a ct o.2 ++ wX5 (sh_ 5 a) ct (sh_ 5 o.2)) A t) A) (List.toArray [.ref (a 0), .ref (a 5)]) s 0 0 A) (F0 m 121 ls []) := by
      intro v2 hjr H locs ls hW hl
      subst hjr
      replace hf := se_r hf
      refine lv_iconst (v := (-1 : Int32)) hx hb dX0_firstWrong_121 (by decide) ?_
      have ho := Option.some.inj hf
      subst ho
      exact x_reti (sz := 0) (w0 := []) (A1 := A) hx hb hr hlocks hK hW rfl rfl dX0_firstWrong_122
    clear hf
    have L2 : ∀ (n : Nat) (y2_2 : Int32) (g2 : St_), f_X0_firstWrong_L36 N n y2_2 g2 = some jr → ∀ (H : Heap) (locs : List Loc) (ls : Array Slot), WW G A s.heap (wX0 a ct g2 ++ wX5 (sh_ 5 a) ct (sh_ 5 g2)) H locs → lv_has ls 5 [(0, .ref (a 0)), (1, .ref (a 5)), (2, .int y2_2)] → W p l e ({ frames := 4, cells := 0, slots := 0, locals := 94 } : Room) s m (List.toArray [.ref (a 0), .ref (a 5)]) below meth c H locs 0 0 (MQ below (va_Qi (fun r (_ : Unit) => r = o.1) (fun _ t => Af_ G ct (wX0 a ct o.2 ++ wX5 (sh_ 5 a) ct (sh_ 5 o.2)) A t) A) (List.toArray [.ref (a 0), .ref (a 5)]) s 0 0 A) (F0 m 36 ls []) := by
      intro n
      induction n with
      | zero =>
        intro y2_2 g2 hf
        rw [f_X0_firstWrong_L36] at hf
        cases hf
      | succ n ih =>
        intro y2_2 g2 hf H locs ls hW hl
        rw [f_X0_firstWrong_L36] at hf
        refine lv_iload_n hx hb dX0_firstWrong_36 rfl (lv_at hl 2 rfl) ?_
        refine lv_aload_n hx hb dX0_firstWrong_37 rfl (lv_at hl 0 rfl) ?_
        refine x_get (ci := 0) (v := .int (g2 1 0)) (C := RX0) (T := TX0) (N := 4) hx hb hts inX0 hown hK hW 0 rfl rfl 0 (by decide) fl21 (fun _ h9 => h9) rfl dX0_firstWrong_38 ?_
        refine lv_icmp_ge (tgt := 121) hx hb dX0_firstWrong_41 (by decide) (fun hc => ?_) (fun hc => ?_)
        · replace hf := ifp hc hf
          have hj := (Option.some.inj hf).symm
          exact J2 _ hj _ _ _ hW (lv_sub hl [] rfl)
        · replace hf := ifn hc hf
          refine lv_aload_n hx hb dX0_firstWrong_44 rfl (lv_at hl 0 rfl) ?_
          refine x_get (ci := 0) (v := .ref (a 2)) (C := RX0) (T := TX0) (N := 4) hx hb hts inX0 hown hK hW 0 rfl rfl 1 (by decide) fl9 (fun _ h9 => h9) rfl dX0_firstWrong_45 ?_
          refine lv_iload_n hx hb dX0_firstWrong_48 rfl (lv_at hl 2 rfl) ?_
          replace hf := gd_s hf; obtain ⟨hin, hf⟩ := hf
          refine x_iald (n := 40) (f := g2 2) hx hb hK hW 1 rfl (okI_in hin) dX0_firstWrong_49 ?_
          refine lv_istore_n (lv' := [(3, .int (g2 2 y2_2.toNatClampNeg)), (0, .ref (a 0)), (1, .ref (a 5)), (2, .int y2_2)]) hx hb dX0_firstWrong_50 rfl hl (by decide) rfl (fun ls hl => ?_)
          refine lv_aload_n hx hb dX0_firstWrong_51 rfl (lv_at hl 2 rfl) ?_
          refine x_get (ci := 5) (v := .ref (a 13)) (C := RX5) (T := TX5) (N := 4) hx hb hts inX5 hown hK hW 4 rfl rfl 1 (by decide) fl25 (fun _ h9 => h9) rfl dX0_firstWrong_52 ?_
          refine lv_iload_n hx hb dX0_firstWrong_55 rfl (lv_at hl 0 rfl) ?_
          replace hf := bs_ hf; obtain ⟨r3, hcl, hf⟩ := hf
          refine x_callV_i (w' := (wX0 a ct g2 ++ wX5 (sh_ 5 a) ct (sh_ 5 g2))) (As := [.int (g2 2 y2_2.toNatClampNeg)]) (rest := []) (ci := 3) ⟨hx, hb, hml, hown, hts⟩ (c_X3_hasPerson l N kd G ct (sh_ 13 a) (sh_ 13 g2) (g2 2 y2_2.toNatClampNeg) _ hcl) (cwV 1 hts gX0_firstWrong_X3_hasPerson rfl rfl rfl (by decide +kernel) ⟨Nat.le_of_ble_eq_true rfl, Nat.le_of_ble_eq_true rfl⟩) hK hE hA hW ((wX0 a ct g2 ++ wX5 (sh_ 5 a) ct (sh_ 5 g2)).take 10) ((wX0 a ct g2 ++ wX5 (sh_ 5 a) ct (sh_ 5 g2)).drop 16) (wc_X0X5_13 a ct g2) (wc_X0X5_13 a ct g2) 0 rfl rfl rfl rfl hl.1 rfl (lv_room (Nat.le_of_ble_eq_true rfl)) dX0_firstWrong_56 (fun H locs hW => ?_)
          refine lv_if_eq (tgt := 78) hx hb dX0_firstWrong_59 (by decide) (fun hc => ?_) (fun hc => ?_)
          · replace hf := ifp hc hf
            refine lv_iload_n hx hb dX0_firstWrong_78 rfl (lv_at hl 3 rfl) ?_
            have ho := hR2 _ (Option.some.inj hf).symm
            subst ho
            exact x_reti (sz := 0) (w0 := []) (A1 := A) hx hb hr hlocks hK hW rfl rfl dX0_firstWrong_79
          · replace hf := ifn hc hf
            refine lv_aload_n hx hb dX0_firstWrong_62 rfl (lv_at hl 2 rfl) ?_
            refine x_get (ci := 5) (v := .ref (a 6)) (C := RX5) (T := TX5) (N := 4) hx hb hts inX5 hown hK hW 4 rfl rfl 0 (by decide) fl43 (fun _ h9 => h9) rfl dX0_firstWrong_63 ?_
            refine lv_aload_n hx hb dX0_firstWrong_66 rfl (lv_at hl 1 rfl) ?_
            refine x_get (ci := 0) (v := .ref (a 3)) (C := RX0) (T := TX0) (N := 4) hx hb hts inX0 hown hK hW 0 rfl rfl 2 (by decide) fl15 (fun _ h9 => h9) rfl dX0_firstWrong_67 ?_
            refine lv_iload_n hx hb dX0_firstWrong_70 rfl (lv_at hl 3 rfl) ?_
            replace hf := gd_s hf; obtain ⟨hin, hf⟩ := hf
            refine x_iald (n := 40) (f := g2 3) hx hb hK hW 2 rfl (okI_in hin) dX0_firstWrong_71 ?_
            replace hf := bs_ hf; obtain ⟨r4, hcl, hf⟩ := hf
            refine x_callV_i (w' := (wX0 a ct g2 ++ wX5 (sh_ 5 a) ct (sh_ 5 g2))) (As := [.int (g2 3 y2_2.toNatClampNeg)]) (rest := []) (ci := 1) ⟨hx, hb, hml, hown, hts⟩ (c_X1_hasStair l N kd G ct (sh_ 6 a) (sh_ 6 g2) (g2 3 y2_2.toNatClampNeg) _ hcl) (cwV 1 hts gX0_firstWrong_X1_hasStair rfl rfl rfl (by decide +kernel) ⟨Nat.le_of_ble_eq_true rfl, Nat.le_of_ble_eq_true rfl⟩) hK hE hA hW ((wX0 a ct g2 ++ wX5 (sh_ 5 a) ct (sh_ 5 g2)).take 5) ((wX0 a ct g2 ++ wX5 (sh_ 5 a) ct (sh_ 5 g2)).drop 10) (wc_X0X5_6 a ct g2) (wc_X0X5_6 a ct g2) 0 rfl rfl rfl rfl hl.1 rfl (lv_room (Nat.le_of_ble_eq_true rfl)) dX0_firstWrong_72 (fun H locs hW => ?_)
            refine lv_if_ne (tgt := 80) hx hb dX0_firstWrong_75 (by decide) (fun hc => ?_) (fun hc => ?_)
            · replace hf := ifn hc hf
              refine lv_aload_n hx hb dX0_firstWrong_80 rfl (lv_at hl 2 rfl) ?_
              refine lv_iload_n hx hb dX0_firstWrong_81 rfl (lv_at hl 0 rfl) ?_
              refine lv_aload_n hx hb dX0_firstWrong_82 rfl (lv_at hl 1 rfl) ?_
              refine x_get (ci := 0) (v := .ref (a 3)) (C := RX0) (T := TX0) (N := 4) hx hb hts inX0 hown hK hW 0 rfl rfl 2 (by decide) fl15 (fun _ h9 => h9) rfl dX0_firstWrong_83 ?_
              refine lv_iload_n hx hb dX0_firstWrong_86 rfl (lv_at hl 3 rfl) ?_
              replace hf := gd_s hf; obtain ⟨hin, hf⟩ := hf
              refine x_iald (n := 40) (f := g2 3) hx hb hK hW 2 rfl (okI_in hin) dX0_firstWrong_87 ?_
              refine lv_aload_n hx hb dX0_firstWrong_88 rfl (lv_at hl 1 rfl) ?_
              refine x_get (ci := 0) (v := .ref (a 4)) (C := RX0) (T := TX0) (N := 4) hx hb hts inX0 hown hK hW 0 rfl rfl 3 (by decide) fl18 (fun _ h9 => h9) rfl dX0_firstWrong_89 ?_
              refine lv_iload_n hx hb dX0_firstWrong_92 rfl (lv_at hl 0 rfl) ?_
              replace hf := gd_s hf; obtain ⟨hin, hf⟩ := hf
              refine x_iald (n := 8) (f := g2 4) hx hb hK hW 3 rfl (okI_in hin) dX0_firstWrong_93 ?_
              replace hf := bs_ hf; obtain ⟨r5, hcl, hf⟩ := hf
              refine x_callV_i (w' := (wX0 a ct g2 ++ wX5 (sh_ 5 a) ct (sh_ 5 g2))) (As := [.int (g2 2 y2_2.toNatClampNeg), .int (g2 3 y2_2.toNatClampNeg), .int (g2 4 (g2 2 y2_2.toNatClampNeg).toNatClampNeg)]) (rest := []) (ci := 5) ⟨hx, hb, hml, hown, hts⟩ (c_X5_otherEnd l N kd G ct (sh_ 5 a) (sh_ 5 g2) (g2 2 y2_2.toNatClampNeg) (g2 3 y2_2.toNatClampNeg) (g2 4 (g2 2 y2_2.toNatClampNeg).toNatClampNeg) _ hcl) (cwV 3 hts gX0_firstWrong_X5_otherEnd rfl rfl rfl (by decide +kernel) ⟨Nat.le_of_ble_eq_true rfl, Nat.le_of_ble_eq_true rfl⟩) hK hE hA hW ((wX0 a ct g2 ++ wX5 (sh_ 5 a) ct (sh_ 5 g2)).take 4) ((wX0 a ct g2 ++ wX5 (sh_ 5 a) ct (sh_ 5 g2)).drop 18) (wc_X0X5_5 a ct g2) (wc_X0X5_5 a ct g2) 0 rfl rfl rfl rfl hl.1 rfl (lv_room (Nat.le_of_ble_eq_true rfl)) dX0_firstWrong_94 (fun H locs hW => ?_)
              refine lv_istore (lv' := [(4, .int r5), (3, .int (g2 2 y2_2.toNatClampNeg)), (0, .ref (a 0)), (1, .ref (a 5)), (2, .int y2_2)]) hx hb dX0_firstWrong_97 hl (by decide) rfl (fun ls hl => ?_)
              refine lv_iload hx hb dX0_firstWrong_99 (lv_at hl 0 rfl) ?_
              refine lv_iconst (v := (-1 : Int32)) hx hb dX0_firstWrong_101 (by decide) ?_
              refine lv_icmp_ne (tgt := 107) hx hb dX0_firstWrong_102 (by decide) (fun hc => ?_) (fun hc => ?_)
              · replace hf := ifn hc hf
                refine lv_aload_n hx hb dX0_firstWrong_107 rfl (lv_at hl 2 rfl) ?_
                refine x_get (ci := 0) (v := .ref (a 4)) (C := RX0) (T := TX0) (N := 4) hx hb hts inX0 hown hK hW 0 rfl rfl 3 (by decide) fl18 (fun _ h9 => h9) rfl dX0_firstWrong_108 ?_
                refine lv_iload_n hx hb dX0_firstWrong_111 rfl (lv_at hl 1 rfl) ?_
                refine lv_iload hx hb dX0_firstWrong_112 (lv_at hl 0 rfl) ?_
                replace hf := gd_s hf; obtain ⟨hin, hf⟩ := hf
                refine x_iast (w' := (wX0 a ct (up1 g2 4 (g2 2 y2_2.toNatClampNeg).toNatClampNeg r5) ++ wX5 (sh_ 5 a) ct (sh_ 5 (up1 g2 4 (g2 2 y2_2.toNatClampNeg).toNatClampNeg r5)))) (n := 8) (f := g2 4) hx hb hK hW 3 rfl (okI_in hin) (ws_X0X5_4 a ct g2 _ _) dX0_firstWrong_114 (fun H locs hW => ?_)
                refine lv_iinc (v := (y2_2 + (1 : Int32))) (lv' := [(2, .int (y2_2 + (1 : Int32))), (4, .int r5), (3, .int (g2 2 y2_2.toNatClampNeg)), (0, .ref (a 0)), (1, .ref (a 5))]) hx hb dX0_firstWrong_115 hl (k := 4) rfl rfl (by decide) rfl (fun ls hl => ?_)
                refine lv_goto (tgt := 36) hx hb dX0_firstWrong_118 (by decide) ?_
                exact ih (y2_2 + (1 : Int32)) (up1 g2 4 (g2 2 y2_2.toNatClampNeg).toNatClampNeg r5) hf _ _ _ hW (lv_sub hl [3, 4, 0] rfl)
              · replace hf := ifp hc hf
                refine lv_iload_n hx hb dX0_firstWrong_105 rfl (lv_at hl 4 rfl) ?_
                have ho := hR2 _ (Option.some.inj hf).symm
                subst ho
                exact x_reti (sz := 0) (w0 := []) (A1 := A) hx hb hr hlocks hK hW rfl rfl dX0_firstWrong_106
            · replace hf := ifp hc hf
              refine lv_iload_n hx hb dX0_firstWrong_78 rfl (lv_at hl 3 rfl) ?_
              have ho := hR2 _ (Option.some.inj hf).symm
              subst ho
              exact x_reti (sz := 0) (w0 := []) (A1 := A) hx hb hr hlocks hK hW rfl rfl dX0_firstWrong_79
    exact L2 N (0 : Int32) v1 hg _ _ _ hW (lv_sub hl [1, 2, 0] rfl)
  clear hf
  have L1 : ∀ (n : Nat) (y1_2 : Int32) (g1 : St_), f_X0_firstWrong_L2 N n y1_2 g1 = some v1 → ∀ (H : Heap) (locs : List Loc) (ls : Array Slot), WW G A s.heap (wX0 a ct g1 ++ wX5 (sh_ 5 a) ct (sh_ 5 g1)) H locs → lv_has ls 5 [(0, .ref (a 0)), (1, .ref (a 5)), (2, .int y1_2)] → W p l e ({ frames := 4, cells := 0, slots := 0, locals := 94 } : Room) s m (List.toArray [.ref (a 0), .ref (a 5)]) below meth c H locs 0 0 (MQ below (va_Qi (fun r (_ : Unit) => r = o.1) (fun _ t => Af_ G ct (wX0 a ct o.2 ++ wX5 (sh_ 5 a) ct (sh_ 5 o.2)) A t) A) (List.toArray [.ref (a 0), .ref (a 5)]) s 0 0 A) (F0 m 2 ls []) := by
    intro n
    induction n with
    | zero =>
      intro y1_2 g1 hf
      rw [f_X0_firstWrong_L2] at hf
      cases hf
    | succ n ih =>
      intro y1_2 g1 hf H locs ls hW hl
      rw [f_X0_firstWrong_L2] at hf
      refine lv_iload_n hx hb dX0_firstWrong_2 rfl (lv_at hl 2 rfl) ?_
      refine lv_aload_n hx hb dX0_firstWrong_3 rfl (lv_at hl 1 rfl) ?_
      refine x_get (ci := 5) (v := .ref (a 13)) (C := RX5) (T := TX5) (N := 4) hx hb hts inX5 hown hK hW 4 rfl rfl 1 (by decide) fl25 (fun _ h9 => h9) rfl dX0_firstWrong_4 ?_
      refine x_get (ci := 3) (v := .int (g1 14 0)) (C := RX3) (T := TX3) (N := 8) hx hb hts inX3 hown hK hW 10 rfl rfl 0 (by decide) fl31 (fun _ h9 => h9) rfl dX0_firstWrong_7 ?_
      refine lv_icmp_ge (tgt := 34) hx hb dX0_firstWrong_10 (by decide) (fun hc => ?_) (fun hc => ?_)
      · replace hf := ifp hc hf
        have hj := Option.some.inj hf
        subst hj
        exact J1 _ _ _ hW (lv_sub hl [0, 1] rfl)
      · replace hf := ifn hc hf
        refine lv_aload_n hx hb dX0_firstWrong_13 rfl (lv_at hl 0 rfl) ?_
        refine x_get (ci := 0) (v := .ref (a 4)) (C := RX0) (T := TX0) (N := 4) hx hb hts inX0 hown hK hW 0 rfl rfl 3 (by decide) fl18 (fun _ h9 => h9) rfl dX0_firstWrong_14 ?_
        refine lv_iload_n hx hb dX0_firstWrong_17 rfl (lv_at hl 2 rfl) ?_
        refine lv_aload_n hx hb dX0_firstWrong_18 rfl (lv_at hl 1 rfl) ?_
        refine x_get (ci := 5) (v := .ref (a 13)) (C := RX5) (T := TX5) (N := 4) hx hb hts inX5 hown hK hW 4 rfl rfl 1 (by decide) fl25 (fun _ h9 => h9) rfl dX0_firstWrong_19 ?_
        refine x_get (ci := 3) (v := .ref (a 15)) (C := RX3) (T := TX3) (N := 8) hx hb hts inX3 hown hK hW 10 rfl rfl 1 (by decide) fl36 (fun _ h9 => h9) rfl dX0_firstWrong_22 ?_
        refine lv_iload_n hx hb dX0_firstWrong_25 rfl (lv_at hl 2 rfl) ?_
        replace hf := gd_s hf; obtain ⟨hin, hf⟩ := hf
        refine x_iald (n := 8) (f := g1 15) hx hb hK hW 11 rfl (okI_in hin) dX0_firstWrong_26 ?_
        replace hf := gd_s hf; obtain ⟨hin, hf⟩ := hf
        refine x_iast (w' := (wX0 a ct (up1 g1 4 y1_2.toNatClampNeg (g1 15 y1_2.toNatClampNeg)) ++ wX5 (sh_ 5 a) ct (sh_ 5 (up1 g1 4 y1_2.toNatClampNeg (g1 15 y1_2.toNatClampNeg))))) (n := 8) (f := g1 4) hx hb hK hW 3 rfl (okI_in hin) (ws_X0X5_4 a ct g1 _ _) dX0_firstWrong_27 (fun H locs hW => ?_)
        refine lv_iinc (v := (y1_2 + (1 : Int32))) (lv' := [(2, .int (y1_2 + (1 : Int32))), (0, .ref (a 0)), (1, .ref (a 5))]) hx hb dX0_firstWrong_28 hl (k := 2) rfl rfl (by decide) rfl (fun ls hl => ?_)
        refine lv_goto (tgt := 2) hx hb dX0_firstWrong_31 (by decide) ?_
        exact ih (y1_2 + (1 : Int32)) (up1 g1 4 y1_2.toNatClampNeg (g1 15 y1_2.toNatClampNeg)) hf _ _ _ hW (lv_sub hl [1, 2, 0] rfl)
  exact L1 N (0 : Int32) g hg _ _ _ hW (lv_sub hl [1, 2, 0] rfl)
set_option maxHeartbeats 4000000 in
set_option maxRecDepth 100000 in
theorem c_X1_hasPlace (l : Launch) (N : Nat) (kd : (Nat → Nat) × (Nat → Nat)) (G : va_G) (ct : Nat → ClassId) (a : Nat → Nat) (g : St_) (x1 : Int32) (o : Int32) (hf : f_X1_hasPlace N g x1 = some o) : CtI l yX1_hasPlace wsX1_hasPlace ({ frames := 0, cells := 0, slots := 0, locals := 0 }) kd G ct [.ref (a 0), .int x1] (wX1 a ct g) o (wX1 a ct g) := by
  intro sz
  refine Met.ofW (cc := cX1_hasPlace) (maxL := 2) (ret := (some .boolean)) (by decide) rfl ?_
  intro p e s m args below meth c s₁ B hml hv
  obtain ⟨rfl, hsz, hP, hK, hD0, hE⟩ := hv
  have hx := B.exec
  have hb := B.bytes
  have hr := B.returns
  have hts := atoms_spec (ws := wsX1_hasPlace) B.pre
  have hown : s.vm.findClass RX1 = some m.cls := findClass_of_methodNamed B.named
  have hlocks := B.notSynchronized
  have inX1 : ∀ w ∈ wsX10, w ∈ wsX1_hasPlace := by decide +kernel
  have fl24 := hts (.fieldLink RX1 24 "FittingStrides$Plan" "places" "I") (by decide +kernel)
  subst hsz
  have hD := hD0.self (sz := s.heap.size)
  generalize hAe : va_A (wX1 a ct g) s.heap.size = A at hD hE ⊢
  have hA : ∀ q : Nat, s.heap.size ≤ q → A q := fun q h => by rw [← hAe]; exact Or.inr h
  have hW : WW G A s.heap (wX1 a ct g) s.heap [] := ⟨hP, hD, va_S.rf⟩
  have hl := lv_entry ([.ref (a 0), .int x1]) (n := 2) (Nat.le_of_ble_eq_true rfl)
  rw [lg_entry_eq]
  generalize (lg_sl ([.ref (a 0), .int x1]) ++ List.replicate (2 - (lg_sl ([.ref (a 0), .int x1])).length) Slot.unset).toArray = ls at hl ⊢
  have hl : lv_has ls 2 [(0, .ref (a 0)), (1, .int x1)] := hl
  unfold f_X1_hasPlace at hf
  show W p l e ({ frames := 0, cells := 0, slots := 0, locals := 0 } : Room) s m (List.toArray [.ref (a 0), .int x1]) below meth c s.heap [] 0 0 (MQ below (va_Qi (fun r (_ : Unit) => r = o) (fun _ t => Af_ G ct (wX1 a ct g) A t) A) (List.toArray [.ref (a 0), .int x1]) s 0 0 A) (F0 m 0 ls [])
  refine lv_iload_n hx hb dX1_hasPlace_0 rfl (lv_at hl 1 rfl) ?_
  refine lv_if_lt (tgt := 16) hx hb dX1_hasPlace_1 (by decide) (fun hc => ?_) (fun hc => ?_)
  · replace hf := ifp hc hf
    refine lv_iconst (v := (0 : Int32)) hx hb dX1_hasPlace_16 (by decide) ?_
    have ho := Option.some.inj hf
    subst ho
    exact x_retz hx hb hr rfl hlocks hK hW rfl rfl dX1_hasPlace_17
  · replace hf := ifn hc hf
    refine lv_iload_n hx hb dX1_hasPlace_4 rfl (lv_at hl 1 rfl) ?_
    refine lv_aload_n hx hb dX1_hasPlace_5 rfl (lv_at hl 0 rfl) ?_
    refine x_get (ci := 1) (v := .int (g 1 0)) (C := RX1) (T := TX1) (N := 6) hx hb hts inX1 hown hK hW 0 rfl rfl 0 (by decide) fl24 (fun _ h9 => h9) rfl dX1_hasPlace_6 ?_
    refine lv_icmp_ge (tgt := 16) hx hb dX1_hasPlace_9 (by decide) (fun hc => ?_) (fun hc => ?_)
    · replace hf := ifp hc hf
      refine lv_iconst (v := (0 : Int32)) hx hb dX1_hasPlace_16 (by decide) ?_
      have ho := Option.some.inj hf
      subst ho
      exact x_retz hx hb hr rfl hlocks hK hW rfl rfl dX1_hasPlace_17
    · replace hf := ifn hc hf
      refine lv_iconst (v := (1 : Int32)) hx hb dX1_hasPlace_12 (by decide) ?_
      refine lv_goto (tgt := 17) hx hb dX1_hasPlace_13 (by decide) ?_
      have ho := Option.some.inj hf
      subst ho
      exact x_retz hx hb hr rfl hlocks hK hW rfl rfl dX1_hasPlace_17
set_option maxHeartbeats 4000000 in
set_option maxRecDepth 100000 in
theorem c_X1_hasPart (l : Launch) (N : Nat) (kd : (Nat → Nat) × (Nat → Nat)) (G : va_G) (ct : Nat → ClassId) (a : Nat → Nat) (g : St_) (x1 : Int32) (x2 : Int32) (o : Int32) (hf : f_X1_hasPart N g x1 x2 = some o) : CtI l yX1_hasPart wsX1_hasPart ({ frames := 1, cells := 0, slots := 0, locals := 21 }) kd G ct [.ref (a 0), .int x1, .int x2] (wX1 a ct g) o (wX1 a ct g) := by
  intro sz
  refine Met.ofW (cc := cX1_hasPart) (maxL := 3) (ret := (some .boolean)) (by decide) rfl ?_
  intro p e s m args below meth c s₁ B hml hv
  obtain ⟨rfl, hsz, hP, hK, hD0, hE⟩ := hv
  have hx := B.exec
  have hb := B.bytes
  have hr := B.returns
  have hts := atoms_spec (ws := wsX1_hasPart) B.pre
  have hown : s.vm.findClass RX1 = some m.cls := findClass_of_methodNamed B.named
  have hlocks := B.notSynchronized
  have inX1 : ∀ w ∈ wsX10, w ∈ wsX1_hasPart := by decide +kernel
  have fl21 := hts (.fieldLink RX1 21 "FittingStrides$Plan" "parts" "[I") (by decide +kernel)
  subst hsz
  have hD := hD0.self (sz := s.heap.size)
  generalize hAe : va_A (wX1 a ct g) s.heap.size = A at hD hE ⊢
  have hA : ∀ q : Nat, s.heap.size ≤ q → A q := fun q h => by rw [← hAe]; exact Or.inr h
  have hW : WW G A s.heap (wX1 a ct g) s.heap [] := ⟨hP, hD, va_S.rf⟩
  have hl := lv_entry ([.ref (a 0), .int x1, .int x2]) (n := 3) (Nat.le_of_ble_eq_true rfl)
  rw [lg_entry_eq]
  generalize (lg_sl ([.ref (a 0), .int x1, .int x2]) ++ List.replicate (3 - (lg_sl ([.ref (a 0), .int x1, .int x2])).length) Slot.unset).toArray = ls at hl ⊢
  have hl : lv_has ls 3 [(0, .ref (a 0)), (1, .int x1), (2, .int x2)] := hl
  unfold f_X1_hasPart at hf
  show W p l e ({ frames := 1, cells := 0, slots := 0, locals := 21 } : Room) s m (List.toArray [.ref (a 0), .int x1, .int x2]) below meth c s.heap [] 0 0 (MQ below (va_Qi (fun r (_ : Unit) => r = o) (fun _ t => Af_ G ct (wX1 a ct g) A t) A) (List.toArray [.ref (a 0), .int x1, .int x2]) s 0 0 A) (F0 m 0 ls [])
  refine lv_aload_n hx hb dX1_hasPart_0 rfl (lv_at hl 0 rfl) ?_
  refine lv_iload_n hx hb dX1_hasPart_1 rfl (lv_at hl 1 rfl) ?_
  replace hf := bs_ hf; obtain ⟨r1, hcl, hf⟩ := hf
  refine x_callW_i (w' := (wX1 a ct g)) (As := [.int x1]) (rest := []) (ci := 1) ⟨hx, hb, hml, hown, hts⟩ (c_X1_hasStair l N kd G ct a g x1 _ hcl) (cwV 1 hts gX1_hasPart_X1_hasStair rfl rfl rfl (by decide +kernel) ⟨Nat.le_of_ble_eq_true rfl, Nat.le_of_ble_eq_true rfl⟩) hK hE hA hW rfl rfl 0 rfl rfl rfl rfl hl.1 rfl (lv_room (Nat.le_of_ble_eq_true rfl)) dX1_hasPart_2 (fun H locs hW => ?_)
  refine lv_if_eq (tgt := 26) hx hb dX1_hasPart_5 (by decide) (fun hc => ?_) (fun hc => ?_)
  · replace hf := ifp hc hf
    refine lv_iconst (v := (0 : Int32)) hx hb dX1_hasPart_26 (by decide) ?_
    have ho := Option.some.inj hf
    subst ho
    exact x_retz hx hb hr rfl hlocks hK hW rfl rfl dX1_hasPart_27
  · replace hf := ifn hc hf
    refine lv_iload_n hx hb dX1_hasPart_8 rfl (lv_at hl 2 rfl) ?_
    refine lv_if_lt (tgt := 26) hx hb dX1_hasPart_9 (by decide) (fun hc => ?_) (fun hc => ?_)
    · replace hf := ifp hc hf
      refine lv_iconst (v := (0 : Int32)) hx hb dX1_hasPart_26 (by decide) ?_
      have ho := Option.some.inj hf
      subst ho
      exact x_retz hx hb hr rfl hlocks hK hW rfl rfl dX1_hasPart_27
    · replace hf := ifn hc hf
      refine lv_iload_n hx hb dX1_hasPart_12 rfl (lv_at hl 2 rfl) ?_
      refine lv_aload_n hx hb dX1_hasPart_13 rfl (lv_at hl 0 rfl) ?_
      refine x_get (ci := 1) (v := .ref (a 6)) (C := RX1) (T := TX1) (N := 6) hx hb hts inX1 hown hK hW 0 rfl rfl 5 (by decide) fl21 (fun _ h9 => h9) rfl dX1_hasPart_14 ?_
      refine lv_iload_n hx hb dX1_hasPart_17 rfl (lv_at hl 1 rfl) ?_
      replace hf := gd_s hf; obtain ⟨hin, hf⟩ := hf
      refine x_iald (n := 10) (f := g 6) hx hb hK hW 4 rfl (okI_in hin) dX1_hasPart_18 ?_
      refine lv_icmp_ge (tgt := 26) hx hb dX1_hasPart_19 (by decide) (fun hc => ?_) (fun hc => ?_)
      · replace hf := ifp hc hf
        refine lv_iconst (v := (0 : Int32)) hx hb dX1_hasPart_26 (by decide) ?_
        have ho := Option.some.inj hf
        subst ho
        exact x_retz hx hb hr rfl hlocks hK hW rfl rfl dX1_hasPart_27
      · replace hf := ifn hc hf
        refine lv_iconst (v := (1 : Int32)) hx hb dX1_hasPart_22 (by decide) ?_
        refine lv_goto (tgt := 27) hx hb dX1_hasPart_23 (by decide) ?_
        have ho := Option.some.inj hf
        subst ho
        exact x_retz hx hb hr rfl hlocks hK hW rfl rfl dX1_hasPart_27
set_option maxHeartbeats 4000000 in
set_option maxRecDepth 100000 in
theorem c_X1_become (l : Launch) (N : Nat) (kd : (Nat → Nat) × (Nat → Nat)) (G : va_G) (ct : Nat → ClassId) (a : Nat → Nat) (g : St_) (o : St_) (hf : f_X1_become N g = some o) : CtV l yX1_become wsX1_become ({ frames := 0, cells := 0, slots := 0, locals := 0 }) kd G ct [.ref (a 0), .ref (a 7)] (wX1 a ct g ++ wX1 (sh_ 7 a) ct (sh_ 7 g)) (wX1 a ct o ++ wX1 (sh_ 7 a) ct (sh_ 7 o)) := by
  intro sz
  refine Met.ofW (cc := cX1_become) (maxL := 3) (ret := none) (by decide) rfl ?_
  intro p e s m args below meth c s₁ B hml hv
  obtain ⟨rfl, hsz, hP, hK, hD0, hE⟩ := hv
  have hx := B.exec
  have hb := B.bytes
  have hr := B.returns
  have hts := atoms_spec (ws := wsX1_become) B.pre
  have hown : s.vm.findClass RX1 = some m.cls := findClass_of_methodNamed B.named
  have hlocks := B.notSynchronized
  have inX1 : ∀ w ∈ wsX10, w ∈ wsX1_become := by decide +kernel
  have fl9 := hts (.fieldLink RX1 9 "FittingStrides$Plan" "kinds" "[I") (by decide +kernel)
  have fl15 := hts (.fieldLink RX1 15 "FittingStrides$Plan" "lows" "[I") (by decide +kernel)
  have fl18 := hts (.fieldLink RX1 18 "FittingStrides$Plan" "highs" "[I") (by decide +kernel)
  have fl21 := hts (.fieldLink RX1 21 "FittingStrides$Plan" "parts" "[I") (by decide +kernel)
  have fl24 := hts (.fieldLink RX1 24 "FittingStrides$Plan" "places" "I") (by decide +kernel)
  have fl28 := hts (.fieldLink RX1 28 "FittingStrides$Plan" "stairs" "I") (by decide +kernel)
  subst hsz
  have hD := hD0.self (sz := s.heap.size)
  generalize hAe : va_A (wX1 a ct g ++ wX1 (sh_ 7 a) ct (sh_ 7 g)) s.heap.size = A at hD hE ⊢
  have hA : ∀ q : Nat, s.heap.size ≤ q → A q := fun q h => by rw [← hAe]; exact Or.inr h
  have hW : WW G A s.heap (wX1 a ct g ++ wX1 (sh_ 7 a) ct (sh_ 7 g)) s.heap [] := ⟨hP, hD, va_S.rf⟩
  have hl := lv_entry ([.ref (a 0), .ref (a 7)]) (n := 3) (Nat.le_of_ble_eq_true rfl)
  rw [lg_entry_eq]
  generalize (lg_sl ([.ref (a 0), .ref (a 7)]) ++ List.replicate (3 - (lg_sl ([.ref (a 0), .ref (a 7)])).length) Slot.unset).toArray = ls at hl ⊢
  have hl : lv_has ls 3 [(0, .ref (a 0)), (1, .ref (a 7))] := hl
  unfold f_X1_become at hf
  show W p l e ({ frames := 0, cells := 0, slots := 0, locals := 0 } : Room) s m (List.toArray [.ref (a 0), .ref (a 7)]) below meth c s.heap [] 0 0 (MQ below (va_Qv (fun (_ : Unit) => True) (fun _ t => Af_ G ct (wX1 a ct o ++ wX1 (sh_ 7 a) ct (sh_ 7 o)) A t) A) (List.toArray [.ref (a 0), .ref (a 7)]) s 0 0 A) (F0 m 0 ls [])
  refine lv_aload_n hx hb dX1_become_0 rfl (lv_at hl 0 rfl) ?_
  refine lv_aload_n hx hb dX1_become_1 rfl (lv_at hl 1 rfl) ?_
  refine x_get (ci := 1) (v := .int (g 8 0)) (C := RX1) (T := TX1) (N := 6) hx hb hts inX1 hown hK hW 5 rfl rfl 0 (by decide) fl24 (fun _ h9 => h9) rfl dX1_become_2 ?_
  refine x_put (w' := (wX1 a ct (up1 g 1 0 (g 8 0)) ++ wX1 (sh_ 7 a) ct (sh_ 7 (up1 g 1 0 (g 8 0))))) (fs := fsX1 a g) (ci := 1) (v := .int (g 8 0)) (ty := .int) (C := RX1) (T := TX1) (N := 6) hx hb hts inX1 tyX1 tyX1_ok nmX1 hown hK hW 0 rfl rfl 0 (by decide) fl24 (fun _ h9 => h9) rfl (by decide +kernel) rfl rfl (Nat.le_of_ble_eq_true rfl) (wp_X1X1_1 a ct g (g 8 0)) dX1_become_5 (fun H locs hW => ?_)
  refine lv_aload_n hx hb dX1_become_8 rfl (lv_at hl 0 rfl) ?_
  refine lv_aload_n hx hb dX1_become_9 rfl (lv_at hl 1 rfl) ?_
  refine x_get (ci := 1) (v := .int (g 9 0)) (C := RX1) (T := TX1) (N := 6) hx hb hts inX1 hown hK hW 5 rfl rfl 1 (by decide) fl28 (fun _ h9 => h9) rfl dX1_become_10 ?_
  refine x_put (w' := (wX1 a ct (up1 (up1 g 1 0 (g 8 0)) 2 0 (g 9 0)) ++ wX1 (sh_ 7 a) ct (sh_ 7 (up1 (up1 g 1 0 (g 8 0)) 2 0 (g 9 0))))) (fs := fsX1 a (up1 g 1 0 (g 8 0))) (ci := 1) (v := .int (g 9 0)) (ty := .int) (C := RX1) (T := TX1) (N := 6) hx hb hts inX1 tyX1 tyX1_ok nmX1 hown hK hW 0 rfl rfl 1 (by decide) fl28 (fun _ h9 => h9) rfl (by decide +kernel) rfl rfl (Nat.le_of_ble_eq_true rfl) (wp_X1X1_2 a ct (up1 g 1 0 (g 8 0)) (g 9 0)) dX1_become_13 (fun H locs hW => ?_)
  refine lv_iconst (v := (0 : Int32)) hx hb dX1_become_16 (by decide) ?_
  refine lv_istore_n (lv' := [(2, .int (0 : Int32)), (0, .ref (a 0)), (1, .ref (a 7))]) hx hb dX1_become_17 rfl hl (by decide) rfl (fun ls hl => ?_)
  replace hf := bs_ hf; obtain ⟨v1, hg, hf⟩ := hf
  have J1 : ∀ (H : Heap) (locs : List Loc) (ls : Array Slot), WW G A s.heap (wX1 a ct v1 ++ wX1 (sh_ 7 a) ct (sh_ 7 v1)) H locs → lv_has ls 3 [] → W p l e ({ frames := 0, cells := 0, slots := 0, locals := 0 } : Room) s m (List.toArray [.ref (a 0), .ref (a 7)]) below meth c H locs 0 0 (MQ below (va_Qv (fun (_ : Unit) => True) (fun _ t => Af_ G ct (wX1 a ct o ++ wX1 (sh_ 7 a) ct (sh_ 7 o)) A t) A) (List.toArray [.ref (a 0), .ref (a 7)]) s 0 0 A) (F0 m 78 ls []) := by
    intro H locs ls hW hl
    have ho := Option.some.inj hf
    subst ho
    exact x_retv hx hb hr hlocks hK hW rfl dX1_become_78
  clear hf
  have L1 : ∀ (n : Nat) (y1_2 : Int32) (g1 : St_), f_X1_become_L18 N n y1_2 g1 = some v1 → ∀ (H : Heap) (locs : List Loc) (ls : Array Slot), WW G A s.heap (wX1 a ct g1 ++ wX1 (sh_ 7 a) ct (sh_ 7 g1)) H locs → lv_has ls 3 [(0, .ref (a 0)), (1, .ref (a 7)), (2, .int y1_2)] → W p l e ({ frames := 0, cells := 0, slots := 0, locals := 0 } : Room) s m (List.toArray [.ref (a 0), .ref (a 7)]) below meth c H locs 0 0 (MQ below (va_Qv (fun (_ : Unit) => True) (fun _ t => Af_ G ct (wX1 a ct o ++ wX1 (sh_ 7 a) ct (sh_ 7 o)) A t) A) (List.toArray [.ref (a 0), .ref (a 7)]) s 0 0 A) (F0 m 18 ls []) := by
    intro n
    induction n with
    | zero =>
      intro y1_2 g1 hf
      rw [f_X1_become_L18] at hf
      cases hf
    | succ n ih =>
      intro y1_2 g1 hf H locs ls hW hl
      rw [f_X1_become_L18] at hf
      refine lv_iload_n hx hb dX1_become_18 rfl (lv_at hl 2 rfl) ?_
      refine lv_bipush (v := (10 : Int32)) hx hb dX1_become_19 (by decide) ?_
      refine lv_icmp_ge (tgt := 78) hx hb dX1_become_21 (by decide) (fun hc => ?_) (fun hc => ?_)
      · replace hf := ifp hc hf
        have hj := Option.some.inj hf
        subst hj
        exact J1 _ _ _ hW (lv_sub hl [] rfl)
      · replace hf := ifn hc hf
        refine lv_aload_n hx hb dX1_become_24 rfl (lv_at hl 0 rfl) ?_
        refine x_get (ci := 1) (v := .ref (a 3)) (C := RX1) (T := TX1) (N := 6) hx hb hts inX1 hown hK hW 0 rfl rfl 2 (by decide) fl9 (fun _ h9 => h9) rfl dX1_become_25 ?_
        refine lv_iload_n hx hb dX1_become_28 rfl (lv_at hl 2 rfl) ?_
        refine lv_aload_n hx hb dX1_become_29 rfl (lv_at hl 1 rfl) ?_
        refine x_get (ci := 1) (v := .ref (a 10)) (C := RX1) (T := TX1) (N := 6) hx hb hts inX1 hown hK hW 5 rfl rfl 2 (by decide) fl9 (fun _ h9 => h9) rfl dX1_become_30 ?_
        refine lv_iload_n hx hb dX1_become_33 rfl (lv_at hl 2 rfl) ?_
        replace hf := gd_s hf; obtain ⟨hin, hf⟩ := hf
        refine x_iald (n := 10) (f := g1 10) hx hb hK hW 6 rfl (okI_in hin) dX1_become_34 ?_
        replace hf := gd_s hf; obtain ⟨hin, hf⟩ := hf
        refine x_iast (w' := (wX1 a ct (up1 g1 3 y1_2.toNatClampNeg (g1 10 y1_2.toNatClampNeg)) ++ wX1 (sh_ 7 a) ct (sh_ 7 (up1 g1 3 y1_2.toNatClampNeg (g1 10 y1_2.toNatClampNeg))))) (n := 10) (f := g1 3) hx hb hK hW 1 rfl (okI_in hin) (ws_X1X1_3 a ct g1 _ _) dX1_become_35 (fun H locs hW => ?_)
        refine lv_aload_n hx hb dX1_become_36 rfl (lv_at hl 0 rfl) ?_
        refine x_get (ci := 1) (v := .ref (a 4)) (C := RX1) (T := TX1) (N := 6) hx hb hts inX1 hown hK hW 0 rfl rfl 3 (by decide) fl15 (fun _ h9 => h9) rfl dX1_become_37 ?_
        refine lv_iload_n hx hb dX1_become_40 rfl (lv_at hl 2 rfl) ?_
        refine lv_aload_n hx hb dX1_become_41 rfl (lv_at hl 1 rfl) ?_
        refine x_get (ci := 1) (v := .ref (a 11)) (C := RX1) (T := TX1) (N := 6) hx hb hts inX1 hown hK hW 5 rfl rfl 3 (by decide) fl15 (fun _ h9 => h9) rfl dX1_become_42 ?_
        refine lv_iload_n hx hb dX1_become_45 rfl (lv_at hl 2 rfl) ?_
        replace hf := gd_s hf; obtain ⟨hin, hf⟩ := hf
        refine x_iald (n := 10) (f := g1 11) hx hb hK hW 7 rfl (okI_in hin) dX1_become_46 ?_
        replace hf := gd_s hf; obtain ⟨hin, hf⟩ := hf
        refine x_iast (w' := (wX1 a ct (up1 (up1 g1 3 y1_2.toNatClampNeg (g1 10 y1_2.toNatClampNeg)) 4 y1_2.toNatClampNeg (g1 11 y1_2.toNatClampNeg)) ++ wX1 (sh_ 7 a) ct (sh_ 7 (up1 (up1 g1 3 y1_2.toNatClampNeg (g1 10 y1_2.toNatClampNeg)) 4 y1_2.toNatClampNeg (g1 11 y1_2.toNatClampNeg))))) (n := 10) (f := (up1 g1 3 y1_2.toNatClampNeg (g1 10 y1_2.toNatClampNeg)) 4) hx hb hK hW 2 rfl (okI_in hin) (ws_X1X1_4 a ct (up1 g1 3 y1_2.toNatClampNeg (g1 10 y1_2.toNatClampNeg)) _ _) dX1_become_47 (fun H locs hW => ?_)
        refine lv_aload_n hx hb dX1_become_48 rfl (lv_at hl 0 rfl) ?_
        refine x_get (ci := 1) (v := .ref (a 5)) (C := RX1) (T := TX1) (N := 6) hx hb hts inX1 hown hK hW 0 rfl rfl 4 (by decide) fl18 (fun _ h9 => h9) rfl dX1_become_49 ?_
        refine lv_iload_n hx hb dX1_become_52 rfl (lv_at hl 2 rfl) ?_
        refine lv_aload_n hx hb dX1_become_53 rfl (lv_at hl 1 rfl) ?_
        refine x_get (ci := 1) (v := .ref (a 12)) (C := RX1) (T := TX1) (N := 6) hx hb hts inX1 hown hK hW 5 rfl rfl 4 (by decide) fl18 (fun _ h9 => h9) rfl dX1_become_54 ?_
        refine lv_iload_n hx hb dX1_become_57 rfl (lv_at hl 2 rfl) ?_
        replace hf := gd_s hf; obtain ⟨hin, hf⟩ := hf
        refine x_iald (n := 10) (f := g1 12) hx hb hK hW 8 rfl (okI_in hin) dX1_become_58 ?_
        replace hf := gd_s hf; obtain ⟨hin, hf⟩ := hf
        refine x_iast (w' := (wX1 a ct (up1 (up1 (up1 g1 3 y1_2.toNatClampNeg (g1 10 y1_2.toNatClampNeg)) 4 y1_2.toNatClampNeg (g1 11 y1_2.toNatClampNeg)) 5 y1_2.toNatClampNeg (g1 12 y1_2.toNatClampNeg)) ++ wX1 (sh_ 7 a) ct (sh_ 7 (up1 (up1 (up1 g1 3 y1_2.toNatClampNeg (g1 10 y1_2.toNatClampNeg)) 4 y1_2.toNatClampNeg (g1 11 y1_2.toNatClampNeg)) 5 y1_2.toNatClampNeg (g1 12 y1_2.toNatClampNeg))))) (n := 10) (f := (up1 (up1 g1 3 y1_2.toNatClampNeg (g1 10 y1_2.toNatClampNeg)) 4 y1_2.toNatClampNeg (g1 11 y1_2.toNatClampNeg)) 5) hx hb hK hW 3 rfl (okI_in hin) (ws_X1X1_5 a ct (up1 (up1 g1 3 y1_2.toNatClampNeg (g1 10 y1_2.toNatClampNeg)) 4 y1_2.toNatClampNeg (g1 11 y1_2.toNatClampNeg)) _ _) dX1_become_59 (fun H locs hW => ?_)
        refine lv_aload_n hx hb dX1_become_60 rfl (lv_at hl 0 rfl) ?_
        refine x_get (ci := 1) (v := .ref (a 6)) (C := RX1) (T := TX1) (N := 6) hx hb hts inX1 hown hK hW 0 rfl rfl 5 (by decide) fl21 (fun _ h9 => h9) rfl dX1_become_61 ?_
        refine lv_iload_n hx hb dX1_become_64 rfl (lv_at hl 2 rfl) ?_
        refine lv_aload_n hx hb dX1_become_65 rfl (lv_at hl 1 rfl) ?_
        refine x_get (ci := 1) (v := .ref (a 13)) (C := RX1) (T := TX1) (N := 6) hx hb hts inX1 hown hK hW 5 rfl rfl 5 (by decide) fl21 (fun _ h9 => h9) rfl dX1_become_66 ?_
        refine lv_iload_n hx hb dX1_become_69 rfl (lv_at hl 2 rfl) ?_
        replace hf := gd_s hf; obtain ⟨hin, hf⟩ := hf
        refine x_iald (n := 10) (f := g1 13) hx hb hK hW 9 rfl (okI_in hin) dX1_become_70 ?_
        replace hf := gd_s hf; obtain ⟨hin, hf⟩ := hf
        refine x_iast (w' := (wX1 a ct (up1 (up1 (up1 (up1 g1 3 y1_2.toNatClampNeg (g1 10 y1_2.toNatClampNeg)) 4 y1_2.toNatClampNeg (g1 11 y1_2.toNatClampNeg)) 5 y1_2.toNatClampNeg (g1 12 y1_2.toNatClampNeg)) 6 y1_2.toNatClampNeg (g1 13 y1_2.toNatClampNeg)) ++ wX1 (sh_ 7 a) ct (sh_ 7 (up1 (up1 (up1 (up1 g1 3 y1_2.toNatClampNeg (g1 10 y1_2.toNatClampNeg)) 4 y1_2.toNatClampNeg (g1 11 y1_2.toNatClampNeg)) 5 y1_2.toNatClampNeg (g1 12 y1_2.toNatClampNeg)) 6 y1_2.toNatClampNeg (g1 13 y1_2.toNatClampNeg))))) (n := 10) (f := (up1 (up1 (up1 g1 3 y1_2.toNatClampNeg (g1 10 y1_2.toNatClampNeg)) 4 y1_2.toNatClampNeg (g1 11 y1_2.toNatClampNeg)) 5 y1_2.toNatClampNeg (g1 12 y1_2.toNatClampNeg)) 6) hx hb hK hW 4 rfl (okI_in hin) (ws_X1X1_6 a ct (up1 (up1 (up1 g1 3 y1_2.toNatClampNeg (g1 10 y1_2.toNatClampNeg)) 4 y1_2.toNatClampNeg (g1 11 y1_2.toNatClampNeg)) 5 y1_2.toNatClampNeg (g1 12 y1_2.toNatClampNeg)) _ _) dX1_become_71 (fun H locs hW => ?_)
        refine lv_iinc (v := (y1_2 + (1 : Int32))) (lv' := [(2, .int (y1_2 + (1 : Int32))), (0, .ref (a 0)), (1, .ref (a 7))]) hx hb dX1_become_72 hl (k := 2) rfl rfl (by decide) rfl (fun ls hl => ?_)
        refine lv_goto (tgt := 18) hx hb dX1_become_75 (by decide) ?_
        exact ih (y1_2 + (1 : Int32)) (up1 (up1 (up1 (up1 g1 3 y1_2.toNatClampNeg (g1 10 y1_2.toNatClampNeg)) 4 y1_2.toNatClampNeg (g1 11 y1_2.toNatClampNeg)) 5 y1_2.toNatClampNeg (g1 12 y1_2.toNatClampNeg)) 6 y1_2.toNatClampNeg (g1 13 y1_2.toNatClampNeg)) hf _ _ _ hW (lv_sub hl [1, 2, 0] rfl)
  exact L1 N (0 : Int32) (up1 (up1 g 1 0 (g 8 0)) 2 0 (g 9 0)) hg _ _ _ hW (lv_sub hl [1, 2, 0] rfl)
set_option maxHeartbeats 4000000 in
set_option maxRecDepth 100000 in
theorem c_X2_append (l : Launch) (N : Nat) (kd : (Nat → Nat) × (Nat → Nat)) (G : va_G) (ct : Nat → ClassId) (a : Nat → Nat) (g : St_) (x1 : Int32) (x2 : Int32) (x3 : Int32) (o : St_) (hf : f_X2_append N g x1 x2 x3 = some o) : CtV l yX2_append wsX2_append ({ frames := 0, cells := 0, slots := 0, locals := 0 }) kd G ct [.ref (a 0), .int x1, .int x2, .int x3] (wX2 a ct g) (wX2 a ct o) := by
  intro sz
  refine Met.ofW (cc := cX2_append) (maxL := 4) (ret := none) (by decide) rfl ?_
  intro p e s m args below meth c s₁ B hml hv
  obtain ⟨rfl, hsz, hP, hK, hD0, hE⟩ := hv
  have hx := B.exec
  have hb := B.bytes
  have hr := B.returns
  have hts := atoms_spec (ws := wsX2_append) B.pre
  have hown : s.vm.findClass RX2 = some m.cls := findClass_of_methodNamed B.named
  have hlocks := B.notSynchronized
  have inX2 : ∀ w ∈ wsX20, w ∈ wsX2_append := by decide +kernel
  have fl9 := hts (.fieldLink RX2 9 "FittingStrides$Sights" "begins" "[I") (by decide +kernel)
  have fl15 := hts (.fieldLink RX2 15 "FittingStrides$Sights" "ends" "[I") (by decide +kernel)
  have fl18 := hts (.fieldLink RX2 18 "FittingStrides$Sights" "came" "[Z") (by decide +kernel)
  have fl22 := hts (.fieldLink RX2 22 "FittingStrides$Sights" "count" "I") (by decide +kernel)
  subst hsz
  have hD := hD0.self (sz := s.heap.size)
  generalize hAe : va_A (wX2 a ct g) s.heap.size = A at hD hE ⊢
  have hA : ∀ q : Nat, s.heap.size ≤ q → A q := fun q h => by rw [← hAe]; exact Or.inr h
  have hW : WW G A s.heap (wX2 a ct g) s.heap [] := ⟨hP, hD, va_S.rf⟩
  have hl := lv_entry ([.ref (a 0), .int x1, .int x2, .int x3]) (n := 4) (Nat.le_of_ble_eq_true rfl)
  rw [lg_entry_eq]
  generalize (lg_sl ([.ref (a 0), .int x1, .int x2, .int x3]) ++ List.replicate (4 - (lg_sl ([.ref (a 0), .int x1, .int x2, .int x3])).length) Slot.unset).toArray = ls at hl ⊢
  have hl : lv_has ls 4 [(0, .ref (a 0)), (1, .int x1), (2, .int x2), (3, .int x3)] := hl
  unfold f_X2_append at hf
  show W p l e ({ frames := 0, cells := 0, slots := 0, locals := 0 } : Room) s m (List.toArray [.ref (a 0), .int x1, .int x2, .int x3]) below meth c s.heap [] 0 0 (MQ below (va_Qv (fun (_ : Unit) => True) (fun _ t => Af_ G ct (wX2 a ct o) A t) A) (List.toArray [.ref (a 0), .int x1, .int x2, .int x3]) s 0 0 A) (F0 m 0 ls [])
  refine lv_aload_n hx hb dX2_append_0 rfl (lv_at hl 0 rfl) ?_
  refine x_get (ci := 2) (v := .int (g 1 0)) (C := RX2) (T := TX2) (N := 4) hx hb hts inX2 hown hK hW 0 rfl rfl 0 (by decide) fl22 (fun _ h9 => h9) rfl dX2_append_1 ?_
  refine lv_bipush (v := (20 : Int32)) hx hb dX2_append_4 (by decide) ?_
  refine lv_icmp_ge (tgt := 49) hx hb dX2_append_6 (by decide) (fun hc => ?_) (fun hc => ?_)
  · replace hf := ifp hc hf
    have ho := Option.some.inj hf
    subst ho
    exact x_retv hx hb hr hlocks hK hW rfl dX2_append_49
  · replace hf := ifn hc hf
    refine lv_aload_n hx hb dX2_append_9 rfl (lv_at hl 0 rfl) ?_
    refine x_get (ci := 2) (v := .ref (a 2)) (C := RX2) (T := TX2) (N := 4) hx hb hts inX2 hown hK hW 0 rfl rfl 1 (by decide) fl9 (fun _ h9 => h9) rfl dX2_append_10 ?_
    refine lv_aload_n hx hb dX2_append_13 rfl (lv_at hl 0 rfl) ?_
    refine x_get (ci := 2) (v := .int (g 1 0)) (C := RX2) (T := TX2) (N := 4) hx hb hts inX2 hown hK hW 0 rfl rfl 0 (by decide) fl22 (fun _ h9 => h9) rfl dX2_append_14 ?_
    refine lv_iload_n hx hb dX2_append_17 rfl (lv_at hl 1 rfl) ?_
    replace hf := gd_s hf; obtain ⟨hin, hf⟩ := hf
    refine x_iast (w' := (wX2 a ct (up1 g 2 (g 1 0).toNatClampNeg x1))) (n := 20) (f := g 2) hx hb hK hW 1 rfl (okI_in hin) (ws_X2_2 a ct g _ _) dX2_append_18 (fun H locs hW => ?_)
    refine lv_aload_n hx hb dX2_append_19 rfl (lv_at hl 0 rfl) ?_
    refine x_get (ci := 2) (v := .ref (a 3)) (C := RX2) (T := TX2) (N := 4) hx hb hts inX2 hown hK hW 0 rfl rfl 2 (by decide) fl15 (fun _ h9 => h9) rfl dX2_append_20 ?_
    refine lv_aload_n hx hb dX2_append_23 rfl (lv_at hl 0 rfl) ?_
    refine x_get (ci := 2) (v := .int (g 1 0)) (C := RX2) (T := TX2) (N := 4) hx hb hts inX2 hown hK hW 0 rfl rfl 0 (by decide) fl22 (fun _ h9 => h9) rfl dX2_append_24 ?_
    refine lv_iload_n hx hb dX2_append_27 rfl (lv_at hl 2 rfl) ?_
    replace hf := gd_s hf; obtain ⟨hin, hf⟩ := hf
    refine x_iast (w' := (wX2 a ct (up1 (up1 g 2 (g 1 0).toNatClampNeg x1) 3 (g 1 0).toNatClampNeg x2))) (n := 20) (f := (up1 g 2 (g 1 0).toNatClampNeg x1) 3) hx hb hK hW 2 rfl (okI_in hin) (ws_X2_3 a ct (up1 g 2 (g 1 0).toNatClampNeg x1) _ _) dX2_append_28 (fun H locs hW => ?_)
    refine lv_aload_n hx hb dX2_append_29 rfl (lv_at hl 0 rfl) ?_
    refine x_get (ci := 2) (v := .ref (a 4)) (C := RX2) (T := TX2) (N := 4) hx hb hts inX2 hown hK hW 0 rfl rfl 3 (by decide) fl18 (fun _ h9 => h9) rfl dX2_append_30 ?_
    refine lv_aload_n hx hb dX2_append_33 rfl (lv_at hl 0 rfl) ?_
    refine x_get (ci := 2) (v := .int (g 1 0)) (C := RX2) (T := TX2) (N := 4) hx hb hts inX2 hown hK hW 0 rfl rfl 0 (by decide) fl22 (fun _ h9 => h9) rfl dX2_append_34 ?_
    refine lv_iload_n hx hb dX2_append_37 rfl (lv_at hl 3 rfl) ?_
    replace hf := gd_s hf; obtain ⟨hin, hf⟩ := hf
    refine x_zast (w' := (wX2 a ct (up1 (up1 (up1 g 2 (g 1 0).toNatClampNeg x1) 3 (g 1 0).toNatClampNeg x2) 4 (g 1 0).toNatClampNeg (vp_nar .boolean x3)))) (n := 20) (f := (up1 (up1 g 2 (g 1 0).toNatClampNeg x1) 3 (g 1 0).toNatClampNeg x2) 4) hx hb hK hW 3 rfl (okI_in hin) (ws_X2_4 a ct (up1 (up1 g 2 (g 1 0).toNatClampNeg x1) 3 (g 1 0).toNatClampNeg x2) _ _) dX2_append_38 (fun H locs hW => ?_)
    refine lv_aload_n hx hb dX2_append_39 rfl (lv_at hl 0 rfl) ?_
    refine lv_dup hx hb dX2_append_40 rfl ?_
    refine x_get (ci := 2) (v := .int (g 1 0)) (C := RX2) (T := TX2) (N := 4) hx hb hts inX2 hown hK hW 0 rfl rfl 0 (by decide) fl22 (fun _ h9 => h9) rfl dX2_append_41 ?_
    refine lv_iconst (v := (1 : Int32)) hx hb dX2_append_44 (by decide) ?_
    refine lv_iadd hx hb dX2_append_45 ?_
    refine x_put (w' := (wX2 a ct (up1 (up1 (up1 (up1 g 2 (g 1 0).toNatClampNeg x1) 3 (g 1 0).toNatClampNeg x2) 4 (g 1 0).toNatClampNeg (vp_nar .boolean x3)) 1 0 ((g 1 0) + (1 : Int32))))) (fs := fsX2 a (up1 (up1 (up1 g 2 (g 1 0).toNatClampNeg x1) 3 (g 1 0).toNatClampNeg x2) 4 (g 1 0).toNatClampNeg (vp_nar .boolean x3))) (ci := 2) (v := .int ((g 1 0) + (1 : Int32))) (ty := .int) (C := RX2) (T := TX2) (N := 4) hx hb hts inX2 tyX2 tyX2_ok nmX2 hown hK hW 0 rfl rfl 0 (by decide) fl22 (fun _ h9 => h9) rfl (by decide +kernel) rfl rfl (Nat.le_of_ble_eq_true rfl) (wp_X2_1 a ct (up1 (up1 (up1 g 2 (g 1 0).toNatClampNeg x1) 3 (g 1 0).toNatClampNeg x2) 4 (g 1 0).toNatClampNeg (vp_nar .boolean x3)) ((g 1 0) + (1 : Int32))) dX2_append_46 (fun H locs hW => ?_)
    have ho := Option.some.inj hf
    subst ho
    exact x_retv hx hb hr hlocks hK hW rfl dX2_append_49
set_option maxHeartbeats 4000000 in
set_option maxRecDepth 100000 in
theorem c_X5_upStairs (l : Launch) (N : Nat) (kd : (Nat → Nat) × (Nat → Nat)) (G : va_G) (ct : Nat → ClassId) (a : Nat → Nat) (g : St_) (x1 : Int32) (x2 : Int32) (o : Int32) (hf : f_X5_upStairs N g x1 x2 = some o) : CtI l yX5_upStairs wsX5_upStairs ({ frames := 2, cells := 0, slots := 0, locals := 49 }) kd G ct [.ref (a 0), .int x1, .int x2] (wX5 a ct g) o (wX5 a ct g) := by
  intro sz
  refine Met.ofW (cc := cX5_upStairs) (maxL := 5) (ret := (some .int)) (by decide) rfl ?_
  intro p e s m args below meth c s₁ B hml hv
  obtain ⟨rfl, hsz, hP, hK, hD0, hE⟩ := hv
  have hx := B.exec
  have hb := B.bytes
  have hr := B.returns
  have hts := atoms_spec (ws := wsX5_upStairs) B.pre
  have hown : s.vm.findClass RX5 = some m.cls := findClass_of_methodNamed B.named
  have hlocks := B.notSynchronized
  have inX1 : ∀ w ∈ wsX10, w ∈ wsX5_upStairs := by decide +kernel
  have inX5 : ∀ w ∈ wsX50, w ∈ wsX5_upStairs := by decide +kernel
  have fl12 := hts (.fieldLink RX5 12 "FittingStrides$Town" "plan" "LFittingStrides$Plan;") (by decide +kernel)
  have fl36 := hts (.fieldLink RX5 36 "FittingStrides$Plan" "stairs" "I") (by decide +kernel)
  subst hsz
  have hD := hD0.self (sz := s.heap.size)
  generalize hAe : va_A (wX5 a ct g) s.heap.size = A at hD hE ⊢
  have hA : ∀ q : Nat, s.heap.size ≤ q → A q := fun q h => by rw [← hAe]; exact Or.inr h
  have hW : WW G A s.heap (wX5 a ct g) s.heap [] := ⟨hP, hD, va_S.rf⟩
  have hl := lv_entry ([.ref (a 0), .int x1, .int x2]) (n := 5) (Nat.le_of_ble_eq_true rfl)
  rw [lg_entry_eq]
  generalize (lg_sl ([.ref (a 0), .int x1, .int x2]) ++ List.replicate (5 - (lg_sl ([.ref (a 0), .int x1, .int x2])).length) Slot.unset).toArray = ls at hl ⊢
  have hl : lv_has ls 5 [(0, .ref (a 0)), (1, .int x1), (2, .int x2)] := hl
  unfold f_X5_upStairs at hf
  show W p l e ({ frames := 2, cells := 0, slots := 0, locals := 49 } : Room) s m (List.toArray [.ref (a 0), .int x1, .int x2]) below meth c s.heap [] 0 0 (MQ below (va_Qi (fun r (_ : Unit) => r = o) (fun _ t => Af_ G ct (wX5 a ct g) A t) A) (List.toArray [.ref (a 0), .int x1, .int x2]) s 0 0 A) (F0 m 0 ls [])
  refine lv_iconst (v := (0 : Int32)) hx hb dX5_upStairs_0 (by decide) ?_
  refine lv_istore_n (lv' := [(3, .int (0 : Int32)), (0, .ref (a 0)), (1, .int x1), (2, .int x2)]) hx hb dX5_upStairs_1 rfl hl (by decide) rfl (fun ls hl => ?_)
  refine lv_iconst (v := (0 : Int32)) hx hb dX5_upStairs_2 (by decide) ?_
  refine lv_istore (lv' := [(4, .int (0 : Int32)), (3, .int (0 : Int32)), (0, .ref (a 0)), (1, .int x1), (2, .int x2)]) hx hb dX5_upStairs_3 hl (by decide) rfl (fun ls hl => ?_)
  replace hf := bs_ hf; obtain ⟨v1, hg, hf⟩ := hf
  have J1 : ∀ (H : Heap) (locs : List Loc) (ls : Array Slot), WW G A s.heap (wX5 a ct g) H locs → lv_has ls 5 [(3, .int v1)] → W p l e ({ frames := 2, cells := 0, slots := 0, locals := 49 } : Room) s m (List.toArray [.ref (a 0), .int x1, .int x2]) below meth c H locs 0 0 (MQ below (va_Qi (fun r (_ : Unit) => r = o) (fun _ t => Af_ G ct (wX5 a ct g) A t) A) (List.toArray [.ref (a 0), .int x1, .int x2]) s 0 0 A) (F0 m 54 ls []) := by
    intro H locs ls hW hl
    refine lv_iload_n hx hb dX5_upStairs_54 rfl (lv_at hl 0 rfl) ?_
    have ho := Option.some.inj hf
    subst ho
    exact x_reti (sz := 0) (w0 := []) (A1 := A) hx hb hr hlocks hK hW rfl rfl dX5_upStairs_55
  clear hf
  have L1 : ∀ (n : Nat) (y1_3 : Int32) (y1_4 : Int32), f_X5_upStairs_L5 N g x1 x2 n y1_3 y1_4 = some v1 → ∀ (H : Heap) (locs : List Loc) (ls : Array Slot), WW G A s.heap (wX5 a ct g) H locs → lv_has ls 5 [(0, .ref (a 0)), (1, .int x1), (2, .int x2), (3, .int y1_3), (4, .int y1_4)] → W p l e ({ frames := 2, cells := 0, slots := 0, locals := 49 } : Room) s m (List.toArray [.ref (a 0), .int x1, .int x2]) below meth c H locs 0 0 (MQ below (va_Qi (fun r (_ : Unit) => r = o) (fun _ t => Af_ G ct (wX5 a ct g) A t) A) (List.toArray [.ref (a 0), .int x1, .int x2]) s 0 0 A) (F0 m 5 ls []) := by
    intro n
    induction n with
    | zero =>
      intro y1_3 y1_4 hf
      rw [f_X5_upStairs_L5] at hf
      cases hf
    | succ n ih =>
      intro y1_3 y1_4 hf H locs ls hW hl
      rw [f_X5_upStairs_L5] at hf
      refine lv_iload hx hb dX5_upStairs_5 (lv_at hl 4 rfl) ?_
      refine lv_aload_n hx hb dX5_upStairs_7 rfl (lv_at hl 0 rfl) ?_
      refine x_get (ci := 5) (v := .ref (a 1)) (C := RX5) (T := TX5) (N := 4) hx hb hts inX5 hown hK hW 0 rfl rfl 0 (by decide) fl12 (fun _ h9 => h9) rfl dX5_upStairs_8 ?_
      refine x_get (ci := 1) (v := .int (g 3 0)) (C := RX1) (T := TX1) (N := 6) hx hb hts inX1 hown hK hW 1 rfl rfl 1 (by decide) fl36 (fun _ h9 => h9) rfl dX5_upStairs_11 ?_
      refine lv_icmp_ge (tgt := 54) hx hb dX5_upStairs_14 (by decide) (fun hc => ?_) (fun hc => ?_)
      · replace hf := ifp hc hf
        have hj := Option.some.inj hf
        subst hj
        exact J1 _ _ _ hW (lv_sub hl [3] rfl)
      · replace hf := ifn hc hf
        refine lv_aload_n hx hb dX5_upStairs_17 rfl (lv_at hl 0 rfl) ?_
        refine lv_iload hx hb dX5_upStairs_18 (lv_at hl 4 rfl) ?_
        refine lv_iload_n hx hb dX5_upStairs_20 rfl (lv_at hl 1 rfl) ?_
        refine lv_iconst (v := (-1 : Int32)) hx hb dX5_upStairs_21 (by decide) ?_
        refine lv_iconst (v := (0 : Int32)) hx hb dX5_upStairs_22 (by decide) ?_
        replace hf := bs_ hf; obtain ⟨r2, hcl, hf⟩ := hf
        refine x_callW_i (w' := (wX5 a ct g)) (As := [.int y1_4, .int x1, .int (-1 : Int32), .int (0 : Int32)]) (rest := []) (ci := 5) ⟨hx, hb, hml, hown, hts⟩ (c_X5_allows l N kd G ct a g y1_4 x1 (-1 : Int32) (0 : Int32) _ hcl) (cwV 4 hts gX5_upStairs_X5_allows rfl rfl rfl (by decide +kernel) ⟨Nat.le_of_ble_eq_true rfl, Nat.le_of_ble_eq_true rfl⟩) hK hE hA hW rfl rfl 0 rfl rfl rfl rfl hl.1 rfl (lv_room (Nat.le_of_ble_eq_true rfl)) dX5_upStairs_23 (fun H locs hW => ?_)
        replace hf := bs_ hf; obtain ⟨j3, hg, hf⟩ := hf
        have J3 : ∀ (H : Heap) (locs : List Loc) (ls : Array Slot), WW G A s.heap (wX5 a ct g) H locs → lv_has ls 5 [(0, .ref (a 0)), (1, .int x1), (2, .int x2), (3, .int j3), (4, .int y1_4)] → W p l e ({ frames := 2, cells := 0, slots := 0, locals := 49 } : Room) s m (List.toArray [.ref (a 0), .int x1, .int x2]) below meth c H locs 0 0 (MQ below (va_Qi (fun r (_ : Unit) => r = o) (fun _ t => Af_ G ct (wX5 a ct g) A t) A) (List.toArray [.ref (a 0), .int x1, .int x2]) s 0 0 A) (F0 m 48 ls ([])) := by
          intro H locs ls hW hl
          refine lv_iinc (v := (y1_4 + (1 : Int32))) (lv' := [(4, .int (y1_4 + (1 : Int32))), (0, .ref (a 0)), (1, .int x1), (2, .int x2), (3, .int j3)]) hx hb dX5_upStairs_48 hl (k := 4) rfl rfl (by decide) rfl (fun ls hl => ?_)
          refine lv_goto (tgt := 5) hx hb dX5_upStairs_51 (by decide) ?_
          exact ih j3 (y1_4 + (1 : Int32)) hf _ _ _ hW (lv_sub hl [1, 2, 3, 4, 0] rfl)
        clear hf
        refine lv_if_ne (tgt := 41) hx hb dX5_upStairs_26 (by decide) (fun hc => ?_) (fun hc => ?_)
        · have hf := ifn hc hg
          clear hg
          refine lv_iload_n hx hb dX5_upStairs_41 rfl (lv_at hl 3 rfl) ?_
          refine lv_iconst (v := (1 : Int32)) hx hb dX5_upStairs_42 (by decide) ?_
          refine lv_iload hx hb dX5_upStairs_43 (lv_at hl 4 rfl) ?_
          refine lv_ishl hx hb dX5_upStairs_45 ?_
          refine lv_ior hx hb dX5_upStairs_46 ?_
          refine lv_istore_n (lv' := [(3, .int (y1_3 ||| ((1 : Int32) <<< (y1_4 &&& 31)))), (0, .ref (a 0)), (1, .int x1), (2, .int x2), (4, .int y1_4)]) hx hb dX5_upStairs_47 rfl hl (by decide) rfl (fun ls hl => ?_)
          have hj := Option.some.inj hf
          subst hj
          exact J3 _ _ _ hW (lv_sub hl [1, 2, 3, 0, 4] rfl)
        · have hf := ifp hc hg
          clear hg
          refine lv_aload_n hx hb dX5_upStairs_29 rfl (lv_at hl 0 rfl) ?_
          refine lv_iload hx hb dX5_upStairs_30 (lv_at hl 4 rfl) ?_
          refine lv_iload_n hx hb dX5_upStairs_32 rfl (lv_at hl 2 rfl) ?_
          refine lv_iconst (v := (-1 : Int32)) hx hb dX5_upStairs_33 (by decide) ?_
          refine lv_iconst (v := (0 : Int32)) hx hb dX5_upStairs_34 (by decide) ?_
          replace hf := bs_ hf; obtain ⟨r4, hcl, hf⟩ := hf
          refine x_callW_i (w' := (wX5 a ct g)) (As := [.int y1_4, .int x2, .int (-1 : Int32), .int (0 : Int32)]) (rest := []) (ci := 5) ⟨hx, hb, hml, hown, hts⟩ (c_X5_allows l N kd G ct a g y1_4 x2 (-1 : Int32) (0 : Int32) _ hcl) (cwV 4 hts gX5_upStairs_X5_allows rfl rfl rfl (by decide +kernel) ⟨Nat.le_of_ble_eq_true rfl, Nat.le_of_ble_eq_true rfl⟩) hK hE hA hW rfl rfl 0 rfl rfl rfl rfl hl.1 rfl (lv_room (Nat.le_of_ble_eq_true rfl)) dX5_upStairs_35 (fun H locs hW => ?_)
          refine lv_if_eq (tgt := 48) hx hb dX5_upStairs_38 (by decide) (fun hc => ?_) (fun hc => ?_)
          · replace hf := ifp hc hf
            have hj := Option.some.inj hf
            subst hj
            exact J3 _ _ _ hW (lv_sub hl [0, 1, 2, 3, 4] rfl)
          · replace hf := ifn hc hf
            refine lv_iload_n hx hb dX5_upStairs_41 rfl (lv_at hl 3 rfl) ?_
            refine lv_iconst (v := (1 : Int32)) hx hb dX5_upStairs_42 (by decide) ?_
            refine lv_iload hx hb dX5_upStairs_43 (lv_at hl 4 rfl) ?_
            refine lv_ishl hx hb dX5_upStairs_45 ?_
            refine lv_ior hx hb dX5_upStairs_46 ?_
            refine lv_istore_n (lv' := [(3, .int (y1_3 ||| ((1 : Int32) <<< (y1_4 &&& 31)))), (0, .ref (a 0)), (1, .int x1), (2, .int x2), (4, .int y1_4)]) hx hb dX5_upStairs_47 rfl hl (by decide) rfl (fun ls hl => ?_)
            have hj := Option.some.inj hf
            subst hj
            exact J3 _ _ _ hW (lv_sub hl [1, 2, 3, 0, 4] rfl)
  exact L1 N (0 : Int32) (0 : Int32) hg _ _ _ hW (lv_sub hl [2, 3, 4, 1, 0] rfl)
set_option maxHeartbeats 4000000 in
set_option maxRecDepth 100000 in
theorem c_X5_allStairs (l : Launch) (N : Nat) (kd : (Nat → Nat) × (Nat → Nat)) (G : va_G) (ct : Nat → ClassId) (a : Nat → Nat) (g : St_) (o : Int32) (hf : f_X5_allStairs N g = some o) : CtI l yX5_allStairs wsX5_allStairs ({ frames := 0, cells := 0, slots := 0, locals := 0 }) kd G ct [.ref (a 0)] (wX5 a ct g) o (wX5 a ct g) := by
  intro sz
  refine Met.ofW (cc := cX5_allStairs) (maxL := 1) (ret := (some .int)) (by decide) rfl ?_
  intro p e s m args below meth c s₁ B hml hv
  obtain ⟨rfl, hsz, hP, hK, hD0, hE⟩ := hv
  have hx := B.exec
  have hb := B.bytes
  have hr := B.returns
  have hts := atoms_spec (ws := wsX5_allStairs) B.pre
  have hown : s.vm.findClass RX5 = some m.cls := findClass_of_methodNamed B.named
  have hlocks := B.notSynchronized
  have inX1 : ∀ w ∈ wsX10, w ∈ wsX5_allStairs := by decide +kernel
  have inX5 : ∀ w ∈ wsX50, w ∈ wsX5_allStairs := by decide +kernel
  have fl12 := hts (.fieldLink RX5 12 "FittingStrides$Town" "plan" "LFittingStrides$Plan;") (by decide +kernel)
  have fl36 := hts (.fieldLink RX5 36 "FittingStrides$Plan" "stairs" "I") (by decide +kernel)
  subst hsz
  have hD := hD0.self (sz := s.heap.size)
  generalize hAe : va_A (wX5 a ct g) s.heap.size = A at hD hE ⊢
  have hA : ∀ q : Nat, s.heap.size ≤ q → A q := fun q h => by rw [← hAe]; exact Or.inr h
  have hW : WW G A s.heap (wX5 a ct g) s.heap [] := ⟨hP, hD, va_S.rf⟩
  have hl := lv_entry ([.ref (a 0)]) (n := 1) (Nat.le_of_ble_eq_true rfl)
  rw [lg_entry_eq]
  generalize (lg_sl ([.ref (a 0)]) ++ List.replicate (1 - (lg_sl ([.ref (a 0)])).length) Slot.unset).toArray = ls at hl ⊢
  have hl : lv_has ls 1 [(0, .ref (a 0))] := hl
  unfold f_X5_allStairs at hf
  show W p l e ({ frames := 0, cells := 0, slots := 0, locals := 0 } : Room) s m (List.toArray [.ref (a 0)]) below meth c s.heap [] 0 0 (MQ below (va_Qi (fun r (_ : Unit) => r = o) (fun _ t => Af_ G ct (wX5 a ct g) A t) A) (List.toArray [.ref (a 0)]) s 0 0 A) (F0 m 0 ls [])
  refine lv_iconst (v := (1 : Int32)) hx hb dX5_allStairs_0 (by decide) ?_
  refine lv_aload_n hx hb dX5_allStairs_1 rfl (lv_at hl 0 rfl) ?_
  refine x_get (ci := 5) (v := .ref (a 1)) (C := RX5) (T := TX5) (N := 4) hx hb hts inX5 hown hK hW 0 rfl rfl 0 (by decide) fl12 (fun _ h9 => h9) rfl dX5_allStairs_2 ?_
  refine x_get (ci := 1) (v := .int (g 3 0)) (C := RX1) (T := TX1) (N := 6) hx hb hts inX1 hown hK hW 1 rfl rfl 1 (by decide) fl36 (fun _ h9 => h9) rfl dX5_allStairs_5 ?_
  refine lv_ishl hx hb dX5_allStairs_8 ?_
  refine lv_iconst (v := (1 : Int32)) hx hb dX5_allStairs_9 (by decide) ?_
  refine lv_isub hx hb dX5_allStairs_10 ?_
  have ho := Option.some.inj hf
  subst ho
  exact x_reti (sz := 0) (w0 := []) (A1 := A) hx hb hr hlocks hK hW rfl rfl dX5_allStairs_11
set_option maxHeartbeats 4000000 in
set_option maxRecDepth 100000 in
theorem c_X5_downStairs (l : Launch) (N : Nat) (kd : (Nat → Nat) × (Nat → Nat)) (G : va_G) (ct : Nat → ClassId) (a : Nat → Nat) (g : St_) (x1 : Int32) (o : Int32) (hf : f_X5_downStairs N g x1 = some o) : CtI l yX5_downStairs wsX5_downStairs ({ frames := 1, cells := 0, slots := 0, locals := 20 }) kd G ct [.ref (a 0), .int x1] (wX5 a ct g) o (wX5 a ct g) := by
  intro sz
  refine Met.ofW (cc := cX5_downStairs) (maxL := 2) (ret := (some .int)) (by decide) rfl ?_
  intro p e s m args below meth c s₁ B hml hv
  obtain ⟨rfl, hsz, hP, hK, hD0, hE⟩ := hv
  have hx := B.exec
  have hb := B.bytes
  have hr := B.returns
  have hts := atoms_spec (ws := wsX5_downStairs) B.pre
  have hown : s.vm.findClass RX5 = some m.cls := findClass_of_methodNamed B.named
  have hlocks := B.notSynchronized
  have inX3 : ∀ w ∈ wsX30, w ∈ wsX5_downStairs := by decide +kernel
  have inX5 : ∀ w ∈ wsX50, w ∈ wsX5_downStairs := by decide +kernel
  have fl21 := hts (.fieldLink RX5 21 "FittingStrides$Town" "state" "LFittingStrides$State;") (by decide +kernel)
  have fl86 := hts (.fieldLink RX5 86 "FittingStrides$State" "law" "I") (by decide +kernel)
  subst hsz
  have hD := hD0.self (sz := s.heap.size)
  generalize hAe : va_A (wX5 a ct g) s.heap.size = A at hD hE ⊢
  have hA : ∀ q : Nat, s.heap.size ≤ q → A q := fun q h => by rw [← hAe]; exact Or.inr h
  have hW : WW G A s.heap (wX5 a ct g) s.heap [] := ⟨hP, hD, va_S.rf⟩
  have hl := lv_entry ([.ref (a 0), .int x1]) (n := 2) (Nat.le_of_ble_eq_true rfl)
  rw [lg_entry_eq]
  generalize (lg_sl ([.ref (a 0), .int x1]) ++ List.replicate (2 - (lg_sl ([.ref (a 0), .int x1])).length) Slot.unset).toArray = ls at hl ⊢
  have hl : lv_has ls 2 [(0, .ref (a 0)), (1, .int x1)] := hl
  unfold f_X5_downStairs at hf
  show W p l e ({ frames := 1, cells := 0, slots := 0, locals := 20 } : Room) s m (List.toArray [.ref (a 0), .int x1]) below meth c s.heap [] 0 0 (MQ below (va_Qi (fun r (_ : Unit) => r = o) (fun _ t => Af_ G ct (wX5 a ct g) A t) A) (List.toArray [.ref (a 0), .int x1]) s 0 0 A) (F0 m 0 ls [])
  refine lv_aload_n hx hb dX5_downStairs_0 rfl (lv_at hl 0 rfl) ?_
  refine x_get (ci := 5) (v := .ref (a 8)) (C := RX5) (T := TX5) (N := 4) hx hb hts inX5 hown hK hW 0 rfl rfl 1 (by decide) fl21 (fun _ h9 => h9) rfl dX5_downStairs_1 ?_
  refine x_get (ci := 3) (v := .int (g 15 0)) (C := RX3) (T := TX3) (N := 8) hx hb hts inX3 hown hK hW 6 rfl rfl 6 (by decide) fl86 (fun _ h9 => h9) rfl dX5_downStairs_4 ?_
  refine lv_iconst (v := (1 : Int32)) hx hb dX5_downStairs_7 (by decide) ?_
  refine lv_icmp_ne (tgt := 18) hx hb dX5_downStairs_8 (by decide) (fun hc => ?_) (fun hc => ?_)
  · replace hf := ifn hc hf
    refine lv_iload_n hx hb dX5_downStairs_18 rfl (lv_at hl 1 rfl) ?_
    have ho := Option.some.inj hf
    subst ho
    exact x_reti (sz := 0) (w0 := []) (A1 := A) hx hb hr hlocks hK hW rfl rfl dX5_downStairs_19
  · replace hf := ifp hc hf
    refine lv_aload_n hx hb dX5_downStairs_11 rfl (lv_at hl 0 rfl) ?_
    replace hf := bs_ hf; obtain ⟨r1, hcl, hf⟩ := hf
    refine x_callW_i (w' := (wX5 a ct g)) (As := []) (rest := []) (ci := 5) ⟨hx, hb, hml, hown, hts⟩ (c_X5_allStairs l N kd G ct a g _ hcl) (cwV 0 hts gX5_downStairs_X5_allStairs rfl rfl rfl (by decide +kernel) ⟨Nat.le_of_ble_eq_true rfl, Nat.le_of_ble_eq_true rfl⟩) hK hE hA hW rfl rfl 0 rfl rfl rfl rfl hl.1 rfl (lv_room (Nat.le_of_ble_eq_true rfl)) dX5_downStairs_12 (fun H locs hW => ?_)
    refine lv_goto (tgt := 19) hx hb dX5_downStairs_15 (by decide) ?_
    have ho := Option.some.inj hf
    subst ho
    exact x_reti (sz := 0) (w0 := []) (A1 := A) hx hb hr hlocks hK hW rfl rfl dX5_downStairs_19
set_option maxHeartbeats 4000000 in
set_option maxRecDepth 100000 in
theorem c_X6_has (l : Launch) (N : Nat) (kd : (Nat → Nat) × (Nat → Nat)) (G : va_G) (ct : Nat → ClassId) (x0 : Int32) (x1 : Int32) (o : Int32) (hf : f_X6_has N x0 x1 = some o) : CtI l yX6_has wsX6_has ({ frames := 0, cells := 0, slots := 0, locals := 0 }) kd G ct [.int x0, .int x1] ([] : va_W) o ([] : va_W) := by
  intro sz
  refine Met.ofW (cc := cX6_has) (maxL := 2) (ret := (some .boolean)) (by decide) rfl ?_
  intro p e s m args below meth c s₁ B hml hv
  obtain ⟨rfl, hsz, hP, hK, hD0, hE⟩ := hv
  have hx := B.exec
  have hb := B.bytes
  have hr := B.returns
  have hts := atoms_spec (ws := wsX6_has) B.pre
  have hown : s.vm.findClass RX6 = some m.cls := findClass_of_methodNamed B.named
  have hlocks := B.notSynchronized
  subst hsz
  have hD := hD0.self (sz := s.heap.size)
  generalize hAe : va_A ([] : va_W) s.heap.size = A at hD hE ⊢
  have hA : ∀ q : Nat, s.heap.size ≤ q → A q := fun q h => by rw [← hAe]; exact Or.inr h
  have hW : WW G A s.heap ([] : va_W) s.heap [] := ⟨hP, hD, va_S.rf⟩
  have hl := lv_entry ([.int x0, .int x1]) (n := 2) (Nat.le_of_ble_eq_true rfl)
  rw [lg_entry_eq]
  generalize (lg_sl ([.int x0, .int x1]) ++ List.replicate (2 - (lg_sl ([.int x0, .int x1])).length) Slot.unset).toArray = ls at hl ⊢
  have hl : lv_has ls 2 [(0, .int x0), (1, .int x1)] := hl
  unfold f_X6_has at hf
  show W p l e ({ frames := 0, cells := 0, slots := 0, locals := 0 } : Room) s m (List.toArray [.int x0, .int x1]) below meth c s.heap [] 0 0 (MQ below (va_Qi (fun r (_ : Unit) => r = o) (fun _ t => Af_ G ct ([] : va_W) A t) A) (List.toArray [.int x0, .int x1]) s 0 0 A) (F0 m 0 ls [])
  refine lv_iload_n hx hb dX6_has_0 rfl (lv_at hl 1 rfl) ?_
  refine lv_if_lt (tgt := 23) hx hb dX6_has_1 (by decide) (fun hc => ?_) (fun hc => ?_)
  · replace hf := ifp hc hf
    refine lv_iconst (v := (0 : Int32)) hx hb dX6_has_23 (by decide) ?_
    have ho := Option.some.inj hf
    subst ho
    exact x_retz hx hb hr rfl hlocks hK hW rfl rfl dX6_has_24
  · replace hf := ifn hc hf
    refine lv_iload_n hx hb dX6_has_4 rfl (lv_at hl 1 rfl) ?_
    refine lv_bipush (v := (31 : Int32)) hx hb dX6_has_5 (by decide) ?_
    refine lv_icmp_ge (tgt := 23) hx hb dX6_has_7 (by decide) (fun hc => ?_) (fun hc => ?_)
    · replace hf := ifp hc hf
      refine lv_iconst (v := (0 : Int32)) hx hb dX6_has_23 (by decide) ?_
      have ho := Option.some.inj hf
      subst ho
      exact x_retz hx hb hr rfl hlocks hK hW rfl rfl dX6_has_24
    · replace hf := ifn hc hf
      refine lv_iload_n hx hb dX6_has_10 rfl (lv_at hl 0 rfl) ?_
      refine lv_iload_n hx hb dX6_has_11 rfl (lv_at hl 1 rfl) ?_
      refine lv_ishr hx hb dX6_has_12 ?_
      refine lv_iconst (v := (1 : Int32)) hx hb dX6_has_13 (by decide) ?_
      refine lv_iand hx hb dX6_has_14 ?_
      refine lv_iconst (v := (1 : Int32)) hx hb dX6_has_15 (by decide) ?_
      refine lv_icmp_ne (tgt := 23) hx hb dX6_has_16 (by decide) (fun hc => ?_) (fun hc => ?_)
      · replace hf := ifn hc hf
        refine lv_iconst (v := (0 : Int32)) hx hb dX6_has_23 (by decide) ?_
        have ho := Option.some.inj hf
        subst ho
        exact x_retz hx hb hr rfl hlocks hK hW rfl rfl dX6_has_24
      · replace hf := ifp hc hf
        refine lv_iconst (v := (1 : Int32)) hx hb dX6_has_19 (by decide) ?_
        refine lv_goto (tgt := 24) hx hb dX6_has_20 (by decide) ?_
        have ho := Option.some.inj hf
        subst ho
        exact x_retz hx hb hr rfl hlocks hK hW rfl rfl dX6_has_24
set_option maxHeartbeats 4000000 in
set_option maxRecDepth 100000 in
theorem c_X5_spread (l : Launch) (N : Nat) (kd : (Nat → Nat) × (Nat → Nat)) (G : va_G) (ct : Nat → ClassId) (a : Nat → Nat) (g : St_) (x1 : Int32) (x2 : Int32) (x3 : Int32) (o : Int32) (hf : f_X5_spread N g x1 x2 x3 = some o) : CtI l yX5_spread wsX5_spread ({ frames := 1, cells := 0, slots := 0, locals := 21 }) kd G ct [.ref (a 0), .int x1, .int x2, .int x3] (wX5 a ct g) o (wX5 a ct g) := by
  intro sz
  refine Met.ofW (cc := cX5_spread) (maxL := 8) (ret := (some .int)) (by decide) rfl ?_
  intro p e s m args below meth c s₁ B hml hv
  obtain ⟨rfl, hsz, hP, hK, hD0, hE⟩ := hv
  have hx := B.exec
  have hb := B.bytes
  have hr := B.returns
  have hts := atoms_spec (ws := wsX5_spread) B.pre
  have hown : s.vm.findClass RX5 = some m.cls := findClass_of_methodNamed B.named
  have hlocks := B.notSynchronized
  have inX1 : ∀ w ∈ wsX10, w ∈ wsX5_spread := by decide +kernel
  have inX5 : ∀ w ∈ wsX50, w ∈ wsX5_spread := by decide +kernel
  have fl12 := hts (.fieldLink RX5 12 "FittingStrides$Town" "plan" "LFittingStrides$Plan;") (by decide +kernel)
  have fl32 := hts (.fieldLink RX5 32 "FittingStrides$Plan" "places" "I") (by decide +kernel)
  have fl36 := hts (.fieldLink RX5 36 "FittingStrides$Plan" "stairs" "I") (by decide +kernel)
  have fl97 := hts (.fieldLink RX5 97 "FittingStrides$Plan" "lows" "[I") (by decide +kernel)
  have fl100 := hts (.fieldLink RX5 100 "FittingStrides$Plan" "highs" "[I") (by decide +kernel)
  subst hsz
  have hD := hD0.self (sz := s.heap.size)
  generalize hAe : va_A (wX5 a ct g) s.heap.size = A at hD hE ⊢
  have hA : ∀ q : Nat, s.heap.size ≤ q → A q := fun q h => by rw [← hAe]; exact Or.inr h
  have hW : WW G A s.heap (wX5 a ct g) s.heap [] := ⟨hP, hD, va_S.rf⟩
  have hl := lv_entry ([.ref (a 0), .int x1, .int x2, .int x3]) (n := 8) (Nat.le_of_ble_eq_true rfl)
  rw [lg_entry_eq]
  generalize (lg_sl ([.ref (a 0), .int x1, .int x2, .int x3]) ++ List.replicate (8 - (lg_sl ([.ref (a 0), .int x1, .int x2, .int x3])).length) Slot.unset).toArray = ls at hl ⊢
  have hl : lv_has ls 8 [(0, .ref (a 0)), (1, .int x1), (2, .int x2), (3, .int x3)] := hl
  unfold f_X5_spread at hf
  show W p l e ({ frames := 1, cells := 0, slots := 0, locals := 21 } : Room) s m (List.toArray [.ref (a 0), .int x1, .int x2, .int x3]) below meth c s.heap [] 0 0 (MQ below (va_Qi (fun r (_ : Unit) => r = o) (fun _ t => Af_ G ct (wX5 a ct g) A t) A) (List.toArray [.ref (a 0), .int x1, .int x2, .int x3]) s 0 0 A) (F0 m 0 ls [])
  refine lv_iconst (v := (1 : Int32)) hx hb dX5_spread_0 (by decide) ?_
  refine lv_iload_n hx hb dX5_spread_1 rfl (lv_at hl 1 rfl) ?_
  refine lv_ishl hx hb dX5_spread_2 ?_
  refine lv_istore (lv' := [(4, .int ((1 : Int32) <<< (x1 &&& 31))), (0, .ref (a 0)), (1, .int x1), (2, .int x2), (3, .int x3)]) hx hb dX5_spread_3 hl (by decide) rfl (fun ls hl => ?_)
  refine lv_iconst (v := (0 : Int32)) hx hb dX5_spread_5 (by decide) ?_
  refine lv_istore (lv' := [(5, .int (0 : Int32)), (4, .int ((1 : Int32) <<< (x1 &&& 31))), (0, .ref (a 0)), (1, .int x1), (2, .int x2), (3, .int x3)]) hx hb dX5_spread_6 hl (by decide) rfl (fun ls hl => ?_)
  refine lv_iconst (v := (0 : Int32)) hx hb dX5_spread_8 (by decide) ?_
  refine lv_istore (lv' := [(6, .int (0 : Int32)), (5, .int (0 : Int32)), (4, .int ((1 : Int32) <<< (x1 &&& 31))), (0, .ref (a 0)), (1, .int x1), (2, .int x2), (3, .int x3)]) hx hb dX5_spread_9 hl (by decide) rfl (fun ls hl => ?_)
  replace hf := bs_ hf; obtain ⟨v1, hg, hf⟩ := hf
  have J1 : ∀ (H : Heap) (locs : List Loc) (ls : Array Slot), WW G A s.heap (wX5 a ct g) H locs → lv_has ls 8 [(4, .int v1)] → W p l e ({ frames := 1, cells := 0, slots := 0, locals := 21 } : Room) s m (List.toArray [.ref (a 0), .int x1, .int x2, .int x3]) below meth c H locs 0 0 (MQ below (va_Qi (fun r (_ : Unit) => r = o) (fun _ t => Af_ G ct (wX5 a ct g) A t) A) (List.toArray [.ref (a 0), .int x1, .int x2, .int x3]) s 0 0 A) (F0 m 149 ls []) := by
    intro H locs ls hW hl
    refine lv_iload hx hb dX5_spread_149 (lv_at hl 0 rfl) ?_
    have ho := Option.some.inj hf
    subst ho
    exact x_reti (sz := 0) (w0 := []) (A1 := A) hx hb hr hlocks hK hW rfl rfl dX5_spread_151
  clear hf
  have L1 : ∀ (n : Nat) (y1_4 : Int32) (y1_5 : Int32) (y1_6 : Int32), f_X5_spread_L11 N g x2 x3 n y1_4 y1_5 y1_6 = some v1 → ∀ (H : Heap) (locs : List Loc) (ls : Array Slot), WW G A s.heap (wX5 a ct g) H locs → lv_has ls 8 [(0, .ref (a 0)), (2, .int x2), (3, .int x3), (4, .int y1_4), (5, .int y1_5), (6, .int y1_6)] → W p l e ({ frames := 1, cells := 0, slots := 0, locals := 21 } : Room) s m (List.toArray [.ref (a 0), .int x1, .int x2, .int x3]) below meth c H locs 0 0 (MQ below (va_Qi (fun r (_ : Unit) => r = o) (fun _ t => Af_ G ct (wX5 a ct g) A t) A) (List.toArray [.ref (a 0), .int x1, .int x2, .int x3]) s 0 0 A) (F0 m 11 ls []) := by
    intro n
    induction n with
    | zero =>
      intro y1_4 y1_5 y1_6 hf
      rw [f_X5_spread_L11] at hf
      cases hf
    | succ n ih =>
      intro y1_4 y1_5 y1_6 hf H locs ls hW hl
      rw [f_X5_spread_L11] at hf
      refine lv_iload hx hb dX5_spread_11 (lv_at hl 5 rfl) ?_
      refine lv_aload_n hx hb dX5_spread_13 rfl (lv_at hl 0 rfl) ?_
      refine x_get (ci := 5) (v := .ref (a 1)) (C := RX5) (T := TX5) (N := 4) hx hb hts inX5 hown hK hW 0 rfl rfl 0 (by decide) fl12 (fun _ h9 => h9) rfl dX5_spread_14 ?_
      refine x_get (ci := 1) (v := .int (g 2 0)) (C := RX1) (T := TX1) (N := 6) hx hb hts inX1 hown hK hW 1 rfl rfl 0 (by decide) fl32 (fun _ h9 => h9) rfl dX5_spread_17 ?_
      refine lv_icmp_ge (tgt := 149) hx hb dX5_spread_20 (by decide) (fun hc => ?_) (fun hc => ?_)
      · replace hf := ifp hc hf
        have hj := Option.some.inj hf
        subst hj
        exact J1 _ _ _ hW (lv_sub hl [3] rfl)
      · replace hf := ifn hc hf
        refine lv_iload hx hb dX5_spread_23 (lv_at hl 3 rfl) ?_
        refine lv_iload hx hb dX5_spread_25 (lv_at hl 4 rfl) ?_
        refine lv_icmp_eq (tgt := 149) hx hb dX5_spread_27 (by decide) (fun hc => ?_) (fun hc => ?_)
        · replace hf := ifp hc hf
          have hj := Option.some.inj hf
          subst hj
          exact J1 _ _ _ hW (lv_sub hl [3] rfl)
        · replace hf := ifn hc hf
          refine lv_iload hx hb dX5_spread_30 (lv_at hl 3 rfl) ?_
          refine lv_istore (lv' := [(5, .int y1_4), (0, .ref (a 0)), (2, .int x2), (3, .int x3), (4, .int y1_4), (6, .int y1_6)]) hx hb dX5_spread_32 hl (by decide) rfl (fun ls hl => ?_)
          refine lv_iconst (v := (0 : Int32)) hx hb dX5_spread_34 (by decide) ?_
          refine lv_istore (lv' := [(7, .int (0 : Int32)), (5, .int y1_4), (0, .ref (a 0)), (2, .int x2), (3, .int x3), (4, .int y1_4), (6, .int y1_6)]) hx hb dX5_spread_35 hl (by decide) rfl (fun ls hl => ?_)
          replace hf := bs_ hf; obtain ⟨v2, hg, hf⟩ := hf
          have J2 : ∀ (H : Heap) (locs : List Loc) (ls : Array Slot), WW G A s.heap (wX5 a ct g) H locs → lv_has ls 8 [(0, .ref (a 0)), (2, .int x2), (3, .int x3), (4, .int v2), (5, .int y1_4), (6, .int y1_6)] → W p l e ({ frames := 1, cells := 0, slots := 0, locals := 21 } : Room) s m (List.toArray [.ref (a 0), .int x1, .int x2, .int x3]) below meth c H locs 0 0 (MQ below (va_Qi (fun r (_ : Unit) => r = o) (fun _ t => Af_ G ct (wX5 a ct g) A t) A) (List.toArray [.ref (a 0), .int x1, .int x2, .int x3]) s 0 0 A) (F0 m 143 ls []) := by
            intro H locs ls hW hl
            refine lv_iinc (v := (y1_6 + (1 : Int32))) (lv' := [(6, .int (y1_6 + (1 : Int32))), (0, .ref (a 0)), (2, .int x2), (3, .int x3), (4, .int v2), (5, .int y1_4)]) hx hb dX5_spread_143 hl (k := 5) rfl rfl (by decide) rfl (fun ls hl => ?_)
            refine lv_goto (tgt := 11) hx hb dX5_spread_146 (by decide) ?_
            exact ih v2 y1_4 (y1_6 + (1 : Int32)) hf _ _ _ hW (lv_sub hl [1, 2, 3, 4, 5, 0] rfl)
          clear hf
          have L2 : ∀ (n : Nat) (y2_4 : Int32) (y2_7 : Int32), f_X5_spread_L37 N g x2 x3 n y2_4 y2_7 = some v2 → ∀ (H : Heap) (locs : List Loc) (ls : Array Slot), WW G A s.heap (wX5 a ct g) H locs → lv_has ls 8 [(0, .ref (a 0)), (2, .int x2), (3, .int x3), (4, .int y2_4), (5, .int y1_4), (6, .int y1_6), (7, .int y2_7)] → W p l e ({ frames := 1, cells := 0, slots := 0, locals := 21 } : Room) s m (List.toArray [.ref (a 0), .int x1, .int x2, .int x3]) below meth c H locs 0 0 (MQ below (va_Qi (fun r (_ : Unit) => r = o) (fun _ t => Af_ G ct (wX5 a ct g) A t) A) (List.toArray [.ref (a 0), .int x1, .int x2, .int x3]) s 0 0 A) (F0 m 37 ls []) := by
            intro n
            induction n with
            | zero =>
              intro y2_4 y2_7 hf
              rw [f_X5_spread_L37] at hf
              cases hf
            | succ n ih =>
              intro y2_4 y2_7 hf H locs ls hW hl
              rw [f_X5_spread_L37] at hf
              refine lv_iload hx hb dX5_spread_37 (lv_at hl 6 rfl) ?_
              refine lv_aload_n hx hb dX5_spread_39 rfl (lv_at hl 0 rfl) ?_
              refine x_get (ci := 5) (v := .ref (a 1)) (C := RX5) (T := TX5) (N := 4) hx hb hts inX5 hown hK hW 0 rfl rfl 0 (by decide) fl12 (fun _ h9 => h9) rfl dX5_spread_40 ?_
              refine x_get (ci := 1) (v := .int (g 3 0)) (C := RX1) (T := TX1) (N := 6) hx hb hts inX1 hown hK hW 1 rfl rfl 1 (by decide) fl36 (fun _ h9 => h9) rfl dX5_spread_43 ?_
              refine lv_icmp_ge (tgt := 143) hx hb dX5_spread_46 (by decide) (fun hc => ?_) (fun hc => ?_)
              · replace hf := ifp hc hf
                have hj := Option.some.inj hf
                subst hj
                exact J2 _ _ _ hW (lv_sub hl [0, 1, 2, 3, 4, 5] rfl)
              · replace hf := ifn hc hf
                refine lv_iload_n hx hb dX5_spread_49 rfl (lv_at hl 1 rfl) ?_
                refine lv_iload hx hb dX5_spread_50 (lv_at hl 6 rfl) ?_
                replace hf := bs_ hf; obtain ⟨r3, hcl, hf⟩ := hf
                refine x_callSN_i (As := [.int x2, .int y2_7]) (rest := []) ⟨hx, hb, hml, hown, hts⟩ (c_X6_has l N kd G ct x2 y2_7 _ hcl) (⟨va_cnB 2 hts gX5_spread_X6_has_n93 rfl rfl rfl (hE.1 (RX5, 93, yX6_has) (by decide +kernel)) (hts (.initialized RX6) (by decide +kernel)) (by decide +kernel) ⟨Nat.le_of_ble_eq_true rfl, Nat.le_of_ble_eq_true rfl⟩, hts (.static yX6_has) (by decide +kernel), trivial⟩) hK hE hA hW rfl hl.1 rfl (lv_room (Nat.le_of_ble_eq_true rfl)) dX5_spread_52 (fun H locs hW => ?_)
                replace hf := bs_ hf; obtain ⟨j4, hg, hf⟩ := hf
                have J4 : ∀ (H : Heap) (locs : List Loc) (ls : Array Slot), WW G A s.heap (wX5 a ct g) H locs → lv_has ls 8 [(0, .ref (a 0)), (2, .int x2), (3, .int x3), (4, .int j4), (5, .int y1_4), (6, .int y1_6), (7, .int y2_7)] → W p l e ({ frames := 1, cells := 0, slots := 0, locals := 21 } : Room) s m (List.toArray [.ref (a 0), .int x1, .int x2, .int x3]) below meth c H locs 0 0 (MQ below (va_Qi (fun r (_ : Unit) => r = o) (fun _ t => Af_ G ct (wX5 a ct g) A t) A) (List.toArray [.ref (a 0), .int x1, .int x2, .int x3]) s 0 0 A) (F0 m 93 ls ([])) := by
                  intro H locs ls hW hl
                  refine lv_iload_n hx hb dX5_spread_93 rfl (lv_at hl 2 rfl) ?_
                  refine lv_iload hx hb dX5_spread_94 (lv_at hl 6 rfl) ?_
                  replace hf := bs_ hf; obtain ⟨r6, hcl, hf⟩ := hf
                  refine x_callSN_i (As := [.int x3, .int y2_7]) (rest := []) ⟨hx, hb, hml, hown, hts⟩ (c_X6_has l N kd G ct x3 y2_7 _ hcl) (⟨va_cnB 2 hts gX5_spread_X6_has_n93 rfl rfl rfl (hE.1 (RX5, 93, yX6_has) (by decide +kernel)) (hts (.initialized RX6) (by decide +kernel)) (by decide +kernel) ⟨Nat.le_of_ble_eq_true rfl, Nat.le_of_ble_eq_true rfl⟩, hts (.static yX6_has) (by decide +kernel), trivial⟩) hK hE hA hW rfl hl.1 rfl (lv_room (Nat.le_of_ble_eq_true rfl)) dX5_spread_96 (fun H locs hW => ?_)
                  replace hf := bs_ hf; obtain ⟨j7, hg, hf⟩ := hf
                  have J7 : ∀ (H : Heap) (locs : List Loc) (ls : Array Slot), WW G A s.heap (wX5 a ct g) H locs → lv_has ls 8 [(0, .ref (a 0)), (2, .int x2), (3, .int x3), (4, .int j7), (5, .int y1_4), (6, .int y1_6), (7, .int y2_7)] → W p l e ({ frames := 1, cells := 0, slots := 0, locals := 21 } : Room) s m (List.toArray [.ref (a 0), .int x1, .int x2, .int x3]) below meth c H locs 0 0 (MQ below (va_Qi (fun r (_ : Unit) => r = o) (fun _ t => Af_ G ct (wX5 a ct g) A t) A) (List.toArray [.ref (a 0), .int x1, .int x2, .int x3]) s 0 0 A) (F0 m 137 ls ([])) := by
                    intro H locs ls hW hl
                    refine lv_iinc (v := (y2_7 + (1 : Int32))) (lv' := [(7, .int (y2_7 + (1 : Int32))), (0, .ref (a 0)), (2, .int x2), (3, .int x3), (4, .int j7), (5, .int y1_4), (6, .int y1_6)]) hx hb dX5_spread_137 hl (k := 6) rfl rfl (by decide) rfl (fun ls hl => ?_)
                    refine lv_goto (tgt := 37) hx hb dX5_spread_140 (by decide) ?_
                    exact ih j7 (y2_7 + (1 : Int32)) hf _ _ _ hW (lv_sub hl [1, 2, 3, 4, 5, 6, 0] rfl)
                  clear hf
                  refine lv_if_eq (tgt := 137) hx hb dX5_spread_99 (by decide) (fun hc => ?_) (fun hc => ?_)
                  · have hf := ifp hc hg
                    clear hg
                    have hj := Option.some.inj hf
                    subst hj
                    exact J7 _ _ _ hW (lv_sub hl [0, 1, 2, 3, 4, 5, 6] rfl)
                  · have hf := ifn hc hg
                    clear hg
                    refine lv_iload hx hb dX5_spread_102 (lv_at hl 3 rfl) ?_
                    refine lv_aload_n hx hb dX5_spread_104 rfl (lv_at hl 0 rfl) ?_
                    refine x_get (ci := 5) (v := .ref (a 1)) (C := RX5) (T := TX5) (N := 4) hx hb hts inX5 hown hK hW 0 rfl rfl 0 (by decide) fl12 (fun _ h9 => h9) rfl dX5_spread_105 ?_
                    refine x_get (ci := 1) (v := .ref (a 6)) (C := RX1) (T := TX1) (N := 6) hx hb hts inX1 hown hK hW 1 rfl rfl 4 (by decide) fl100 (fun _ h9 => h9) rfl dX5_spread_108 ?_
                    refine lv_iload hx hb dX5_spread_111 (lv_at hl 6 rfl) ?_
                    replace hf := gd_s hf; obtain ⟨hin, hf⟩ := hf
                    refine x_iald (n := 10) (f := g 6) hx hb hK hW 4 rfl (okI_in hin) dX5_spread_113 ?_
                    replace hf := bs_ hf; obtain ⟨r8, hcl, hf⟩ := hf
                    refine x_callSN_i (As := [.int j4, .int (g 6 y2_7.toNatClampNeg)]) (rest := []) ⟨hx, hb, hml, hown, hts⟩ (c_X6_has l N kd G ct j4 (g 6 y2_7.toNatClampNeg) _ hcl) (⟨va_cnB 2 hts gX5_spread_X6_has_n93 rfl rfl rfl (hE.1 (RX5, 93, yX6_has) (by decide +kernel)) (hts (.initialized RX6) (by decide +kernel)) (by decide +kernel) ⟨Nat.le_of_ble_eq_true rfl, Nat.le_of_ble_eq_true rfl⟩, hts (.static yX6_has) (by decide +kernel), trivial⟩) hK hE hA hW rfl hl.1 rfl (lv_room (Nat.le_of_ble_eq_true rfl)) dX5_spread_114 (fun H locs hW => ?_)
                    refine lv_if_eq (tgt := 137) hx hb dX5_spread_117 (by decide) (fun hc => ?_) (fun hc => ?_)
                    · replace hf := ifp hc hf
                      have hj := Option.some.inj hf
                      subst hj
                      exact J7 _ _ _ hW (lv_sub hl [0, 1, 2, 3, 4, 5, 6] rfl)
                    · replace hf := ifn hc hf
                      refine lv_iload hx hb dX5_spread_120 (lv_at hl 3 rfl) ?_
                      refine lv_iconst (v := (1 : Int32)) hx hb dX5_spread_122 (by decide) ?_
                      refine lv_aload_n hx hb dX5_spread_123 rfl (lv_at hl 0 rfl) ?_
                      refine x_get (ci := 5) (v := .ref (a 1)) (C := RX5) (T := TX5) (N := 4) hx hb hts inX5 hown hK hW 0 rfl rfl 0 (by decide) fl12 (fun _ h9 => h9) rfl dX5_spread_124 ?_
                      refine x_get (ci := 1) (v := .ref (a 5)) (C := RX1) (T := TX1) (N := 6) hx hb hts inX1 hown hK hW 1 rfl rfl 3 (by decide) fl97 (fun _ h9 => h9) rfl dX5_spread_127 ?_
                      refine lv_iload hx hb dX5_spread_130 (lv_at hl 6 rfl) ?_
                      replace hf := gd_s hf; obtain ⟨hin, hf⟩ := hf
                      refine x_iald (n := 10) (f := g 5) hx hb hK hW 3 rfl (okI_in hin) dX5_spread_132 ?_
                      refine lv_ishl hx hb dX5_spread_133 ?_
                      refine lv_ior hx hb dX5_spread_134 ?_
                      refine lv_istore (lv' := [(4, .int (j4 ||| ((1 : Int32) <<< ((g 5 y2_7.toNatClampNeg) &&& 31)))), (0, .ref (a 0)), (2, .int x2), (3, .int x3), (5, .int y1_4), (6, .int y1_6), (7, .int y2_7)]) hx hb dX5_spread_135 hl (by decide) rfl (fun ls hl => ?_)
                      have hj := Option.some.inj hf
                      subst hj
                      exact J7 _ _ _ hW (lv_sub hl [1, 2, 3, 0, 4, 5, 6] rfl)
                clear hf
                refine lv_if_eq (tgt := 93) hx hb dX5_spread_55 (by decide) (fun hc => ?_) (fun hc => ?_)
                · have hf := ifp hc hg
                  clear hg
                  have hj := Option.some.inj hf
                  subst hj
                  exact J4 _ _ _ hW (lv_sub hl [0, 1, 2, 3, 4, 5, 6] rfl)
                · have hf := ifn hc hg
                  clear hg
                  refine lv_iload hx hb dX5_spread_58 (lv_at hl 3 rfl) ?_
                  refine lv_aload_n hx hb dX5_spread_60 rfl (lv_at hl 0 rfl) ?_
                  refine x_get (ci := 5) (v := .ref (a 1)) (C := RX5) (T := TX5) (N := 4) hx hb hts inX5 hown hK hW 0 rfl rfl 0 (by decide) fl12 (fun _ h9 => h9) rfl dX5_spread_61 ?_
                  refine x_get (ci := 1) (v := .ref (a 5)) (C := RX1) (T := TX1) (N := 6) hx hb hts inX1 hown hK hW 1 rfl rfl 3 (by decide) fl97 (fun _ h9 => h9) rfl dX5_spread_64 ?_
                  refine lv_iload hx hb dX5_spread_67 (lv_at hl 6 rfl) ?_
                  replace hf := gd_s hf; obtain ⟨hin, hf⟩ := hf
                  refine x_iald (n := 10) (f := g 5) hx hb hK hW 3 rfl (okI_in hin) dX5_spread_69 ?_
                  replace hf := bs_ hf; obtain ⟨r5, hcl, hf⟩ := hf
                  refine x_callSN_i (As := [.int y2_4, .int (g 5 y2_7.toNatClampNeg)]) (rest := []) ⟨hx, hb, hml, hown, hts⟩ (c_X6_has l N kd G ct y2_4 (g 5 y2_7.toNatClampNeg) _ hcl) (⟨va_cnB 2 hts gX5_spread_X6_has_n93 rfl rfl rfl (hE.1 (RX5, 93, yX6_has) (by decide +kernel)) (hts (.initialized RX6) (by decide +kernel)) (by decide +kernel) ⟨Nat.le_of_ble_eq_true rfl, Nat.le_of_ble_eq_true rfl⟩, hts (.static yX6_has) (by decide +kernel), trivial⟩) hK hE hA hW rfl hl.1 rfl (lv_room (Nat.le_of_ble_eq_true rfl)) dX5_spread_70 (fun H locs hW => ?_)
                  refine lv_if_eq (tgt := 93) hx hb dX5_spread_73 (by decide) (fun hc => ?_) (fun hc => ?_)
                  · replace hf := ifp hc hf
                    have hj := Option.some.inj hf
                    subst hj
                    exact J4 _ _ _ hW (lv_sub hl [0, 1, 2, 3, 4, 5, 6] rfl)
                  · replace hf := ifn hc hf
                    refine lv_iload hx hb dX5_spread_76 (lv_at hl 3 rfl) ?_
                    refine lv_iconst (v := (1 : Int32)) hx hb dX5_spread_78 (by decide) ?_
                    refine lv_aload_n hx hb dX5_spread_79 rfl (lv_at hl 0 rfl) ?_
                    refine x_get (ci := 5) (v := .ref (a 1)) (C := RX5) (T := TX5) (N := 4) hx hb hts inX5 hown hK hW 0 rfl rfl 0 (by decide) fl12 (fun _ h9 => h9) rfl dX5_spread_80 ?_
                    refine x_get (ci := 1) (v := .ref (a 6)) (C := RX1) (T := TX1) (N := 6) hx hb hts inX1 hown hK hW 1 rfl rfl 4 (by decide) fl100 (fun _ h9 => h9) rfl dX5_spread_83 ?_
                    refine lv_iload hx hb dX5_spread_86 (lv_at hl 6 rfl) ?_
                    replace hf := gd_s hf; obtain ⟨hin, hf⟩ := hf
                    refine x_iald (n := 10) (f := g 6) hx hb hK hW 4 rfl (okI_in hin) dX5_spread_88 ?_
                    refine lv_ishl hx hb dX5_spread_89 ?_
                    refine lv_ior hx hb dX5_spread_90 ?_
                    refine lv_istore (lv' := [(4, .int (y2_4 ||| ((1 : Int32) <<< ((g 6 y2_7.toNatClampNeg) &&& 31)))), (0, .ref (a 0)), (2, .int x2), (3, .int x3), (5, .int y1_4), (6, .int y1_6), (7, .int y2_7)]) hx hb dX5_spread_91 hl (by decide) rfl (fun ls hl => ?_)
                    have hj := Option.some.inj hf
                    subst hj
                    exact J4 _ _ _ hW (lv_sub hl [1, 2, 3, 0, 4, 5, 6] rfl)
          exact L2 N y1_4 (0 : Int32) hg _ _ _ hW (lv_sub hl [2, 3, 4, 5, 1, 6, 0] rfl)
  exact L1 N ((1 : Int32) <<< (x1 &&& 31)) (0 : Int32) (0 : Int32) hg _ _ _ hW (lv_sub hl [3, 5, 6, 2, 1, 0] rfl)
