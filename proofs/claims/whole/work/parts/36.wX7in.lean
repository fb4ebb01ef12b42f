set_option maxHeartbeats 4000000 in
set_option maxRecDepth 100000 in
theorem c_X7_in (l : Launch) (N : Nat) (kd : (Nat → Nat) × (Nat → Nat)) (G : va_G) (ct : Nat → ClassId) (x0 : Int64) (x2 : Int64) (x4 : Int64) (o : Int32) (hf : f_X7_in N x0 x2 x4 = some o) : CtI l yX7_in wsX7_in ({ frames := 0, cells := 0, slots := 0, locals := 0 }) kd G ct [.long x0, .long x2, .long x4] ([] : va_W) o ([] : va_W) := by
  intro sz
  refine Met.ofW (cc := cX7_in) (maxL := 6) (ret := (some .boolean)) (by decide) rfl ?_
  intro p e s m args below meth c s₁ B hml hv
  obtain ⟨rfl, hsz, hP, hK, hD0, hE⟩ := hv
  have hx := B.exec
  have hb := B.bytes
  have hr := B.returns
  have hts := atoms_spec (ws := wsX7_in) B.pre
  have hown : s.vm.findClass RX7 = some m.cls := findClass_of_methodNamed B.named
  have hlocks := B.notSynchronized
  subst hsz
  have hD := hD0.self (sz := s.heap.size)
  generalize hAe : va_A ([] : va_W) s.heap.size = A at hD hE ⊢
  have hA : ∀ q : Nat, s.heap.size ≤ q → A q := fun q h => by rw [← hAe]; exact Or.inr h
  have hW : WW G A s.heap ([] : va_W) s.heap [] := ⟨hP, hD, va_S.rf⟩
  have hl := lv_entry ([.long x0, .long x2, .long x4]) (n := 6) (Nat.le_of_ble_eq_true rfl)
  rw [lg_entry_eq]
  generalize (lg_sl ([.long x0, .long x2, .long x4]) ++ List.replicate (6 - (lg_sl ([.long x0, .long x2, .long x4])).length) Slot.unset).toArray = ls at hl ⊢
  have hl : lv_has ls 6 [(0, .long x0), (2, .long x2), (4, .long x4)] := hl
  unfold f_X7_in at hf
  show W p l e ({ frames := 0, cells := 0, slots := 0, locals := 0 } : Room) s m (List.toArray [.long x0, .long x2, .long x4]) below meth c s.heap [] 0 0 (MQ below (va_Qi (fun r (_ : Unit) => r = o) (fun _ t => Af_ G ct ([] : va_W) A t) A) (List.toArray [.long x0, .long x2, .long x4]) s 0 0 A) (F0 m 0 ls [])
  refine lv_lload_n hx hb dX7_in_0 rfl (lv_at hl 0 rfl) ?_
  refine lv_lload_n hx hb dX7_in_1 rfl (lv_at hl 1 rfl) ?_
  refine W.lcmp hx hb dX7_in_2 ?_
  refine lv_if_lt (tgt := 17) hx hb dX7_in_3 (by decide) (fun hc => ?_) (fun hc => ?_)
  · replace hf := ifp hc hf
    refine lv_iconst (v := (0 : Int32)) hx hb dX7_in_17 (by decide) ?_
    have ho := Option.some.inj hf
    subst ho
    exact x_retz hx hb hr rfl hlocks hK hW rfl rfl dX7_in_18
  · replace hf := ifn hc hf
    refine lv_lload_n hx hb dX7_in_6 rfl (lv_at hl 0 rfl) ?_
    refine lv_lload hx hb dX7_in_7 (lv_at hl 2 rfl) ?_
    refine W.lcmp hx hb dX7_in_9 ?_
    refine lv_if_gt (tgt := 17) hx hb dX7_in_10 (by decide) (fun hc => ?_) (fun hc => ?_)
    · replace hf := ifp hc hf
      refine lv_iconst (v := (0 : Int32)) hx hb dX7_in_17 (by decide) ?_
      have ho := Option.some.inj hf
      subst ho
      exact x_retz hx hb hr rfl hlocks hK hW rfl rfl dX7_in_18
    · replace hf := ifn hc hf
      refine lv_iconst (v := (1 : Int32)) hx hb dX7_in_13 (by decide) ?_
      refine lv_goto (tgt := 18) hx hb dX7_in_14 (by decide) ?_
      have ho := Option.some.inj hf
      subst ho
      exact x_retz hx hb hr rfl hlocks hK hW rfl rfl dX7_in_18
set_option maxHeartbeats 4000000 in
set_option maxRecDepth 100000 in
theorem c_X7_has (l : Launch) (N : Nat) (kd : (Nat → Nat) × (Nat → Nat)) (G : va_G) (ct : Nat → ClassId) (x0 : Int32) (x1 : Int32) (o : Int32) (hf : f_X7_has N x0 x1 = some o) : CtI l yX7_has wsX7_has ({ frames := 0, cells := 0, slots := 0, locals := 0 }) kd G ct [.int x0, .int x1] ([] : va_W) o ([] : va_W) := by
  intro sz
  refine Met.ofW (cc := cX7_has) (maxL := 2) (ret := (some .boolean)) (by decide) rfl ?_
  intro p e s m args below meth c s₁ B hml hv
  obtain ⟨rfl, hsz, hP, hK, hD0, hE⟩ := hv
  have hx := B.exec
  have hb := B.bytes
  have hr := B.returns
  have hts := atoms_spec (ws := wsX7_has) B.pre
  have hown : s.vm.findClass RX7 = some m.cls := findClass_of_methodNamed B.named
  have hlocks := B.notSynchronized
  subst hsz
  have hD := hD0.self (sz := s.heap.size)
  generalize hAe : va_A ([] : va_W) s.heap.size = A at hD hE ⊢
  have hA : ∀ q : Nat, s.heap.size ≤ q → A q := fun q h => by rw [← hAe]; exact Or.inr h
  have hW : WW G A s.heap ([] : va_W) s.heap [] := ⟨hP, hD, va_S.rf⟩
  have hl := lv_entry ([.int x0, .int x1]) (n := 2) (Nat.le_of_ble_eq_true rfl)
  rw [lg_entry_eq]
  generalize (lg_sl ([.int x0, .int x1]) ++ List.replicate (2 - (lg_sl ([.int x0, .int x1])).length) Slot.unset).toArray = ls at hl ⊢
  have hl : lv_has ls 2 [(0, .int x0), (1, .int x1)] := hl
  unfold f_X7_has at hf
  show W p l e ({ frames := 0, cells := 0, slots := 0, locals := 0 } : Room) s m (List.toArray [.int x0, .int x1]) below meth c s.heap [] 0 0 (MQ below (va_Qi (fun r (_ : Unit) => r = o) (fun _ t => Af_ G ct ([] : va_W) A t) A) (List.toArray [.int x0, .int x1]) s 0 0 A) (F0 m 0 ls [])
  refine lv_iload_n hx hb dX7_has_0 rfl (lv_at hl 0 rfl) ?_
  refine lv_iload_n hx hb dX7_has_1 rfl (lv_at hl 1 rfl) ?_
  refine lv_ishr hx hb dX7_has_2 ?_
  refine lv_iconst (v := (1 : Int32)) hx hb dX7_has_3 (by decide) ?_
  refine lv_iand hx hb dX7_has_4 ?_
  refine lv_iconst (v := (1 : Int32)) hx hb dX7_has_5 (by decide) ?_
  refine lv_icmp_ne (tgt := 13) hx hb dX7_has_6 (by decide) (fun hc => ?_) (fun hc => ?_)
  · replace hf := ifn hc hf
    refine lv_iconst (v := (0 : Int32)) hx hb dX7_has_13 (by decide) ?_
    have ho := Option.some.inj hf
    subst ho
    exact x_retz hx hb hr rfl hlocks hK hW rfl rfl dX7_has_14
  · replace hf := ifp hc hf
    refine lv_iconst (v := (1 : Int32)) hx hb dX7_has_9 (by decide) ?_
    refine lv_goto (tgt := 14) hx hb dX7_has_10 (by decide) ?_
    have ho := Option.some.inj hf
    subst ho
    exact x_retz hx hb hr rfl hlocks hK hW rfl rfl dX7_has_14
set_option maxHeartbeats 4000000 in
set_option maxRecDepth 100000 in
theorem c_X7_bits (l : Launch) (N : Nat) (kd : (Nat → Nat) × (Nat → Nat)) (G : va_G) (ct : Nat → ClassId) (x0 : Int32) (o : Int32) (hf : f_X7_bits N x0 = some o) : CtI l yX7_bits wsX7_bits ({ frames := 0, cells := 0, slots := 0, locals := 0 }) kd G ct [.int x0] ([] : va_W) o ([] : va_W) := by
  intro sz
  refine Met.ofW (cc := cX7_bits) (maxL := 3) (ret := (some .int)) (by decide) rfl ?_
  intro p e s m args below meth c s₁ B hml hv
  obtain ⟨rfl, hsz, hP, hK, hD0, hE⟩ := hv
  have hx := B.exec
  have hb := B.bytes
  have hr := B.returns
  have hts := atoms_spec (ws := wsX7_bits) B.pre
  have hown : s.vm.findClass RX7 = some m.cls := findClass_of_methodNamed B.named
  have hlocks := B.notSynchronized
  subst hsz
  have hD := hD0.self (sz := s.heap.size)
  generalize hAe : va_A ([] : va_W) s.heap.size = A at hD hE ⊢
  have hA : ∀ q : Nat, s.heap.size ≤ q → A q := fun q h => by rw [← hAe]; exact Or.inr h
  have hW : WW G A s.heap ([] : va_W) s.heap [] := ⟨hP, hD, va_S.rf⟩
  have hl := lv_entry ([.int x0]) (n := 3) (Nat.le_of_ble_eq_true rfl)
  rw [lg_entry_eq]
  generalize (lg_sl ([.int x0]) ++ List.replicate (3 - (lg_sl ([.int x0])).length) Slot.unset).toArray = ls at hl ⊢
  have hl : lv_has ls 3 [(0, .int x0)] := hl
  unfold f_X7_bits at hf
  show W p l e ({ frames := 0, cells := 0, slots := 0, locals := 0 } : Room) s m (List.toArray [.int x0]) below meth c s.heap [] 0 0 (MQ below (va_Qi (fun r (_ : Unit) => r = o) (fun _ t => Af_ G ct ([] : va_W) A t) A) (List.toArray [.int x0]) s 0 0 A) (F0 m 0 ls [])
  refine lv_iconst (v := (0 : Int32)) hx hb dX7_bits_0 (by decide) ?_
  refine lv_istore_n (lv' := [(1, .int (0 : Int32)), (0, .int x0)]) hx hb dX7_bits_1 rfl hl (by decide) rfl (fun ls hl => ?_)
  refine lv_iconst (v := (0 : Int32)) hx hb dX7_bits_2 (by decide) ?_
  refine lv_istore_n (lv' := [(2, .int (0 : Int32)), (1, .int (0 : Int32)), (0, .int x0)]) hx hb dX7_bits_3 rfl hl (by decide) rfl (fun ls hl => ?_)
  replace hf := bs_ hf; obtain ⟨v1, hg, hf⟩ := hf
  have J1 : ∀ (H : Heap) (locs : List Loc) (ls : Array Slot), WW G A s.heap ([] : va_W) H locs → lv_has ls 3 [(1, .int v1)] → W p l e ({ frames := 0, cells := 0, slots := 0, locals := 0 } : Room) s m (List.toArray [.int x0]) below meth c H locs 0 0 (MQ below (va_Qi (fun r (_ : Unit) => r = o) (fun _ t => Af_ G ct ([] : va_W) A t) A) (List.toArray [.int x0]) s 0 0 A) (F0 m 24 ls []) := by
    intro H locs ls hW hl
    refine lv_iload_n hx hb dX7_bits_24 rfl (lv_at hl 0 rfl) ?_
    have ho := Option.some.inj hf
    subst ho
    exact x_reti (sz := 0) (w0 := []) (A1 := A) hx hb hr hlocks hK hW rfl rfl dX7_bits_25
  clear hf
  have L1 : ∀ (n : Nat) (y1_1 : Int32) (y1_2 : Int32), f_X7_bits_L4 N x0 n y1_1 y1_2 = some v1 → ∀ (H : Heap) (locs : List Loc) (ls : Array Slot), WW G A s.heap ([] : va_W) H locs → lv_has ls 3 [(0, .int x0), (1, .int y1_1), (2, .int y1_2)] → W p l e ({ frames := 0, cells := 0, slots := 0, locals := 0 } : Room) s m (List.toArray [.int x0]) below meth c H locs 0 0 (MQ below (va_Qi (fun r (_ : Unit) => r = o) (fun _ t => Af_ G ct ([] : va_W) A t) A) (List.toArray [.int x0]) s 0 0 A) (F0 m 4 ls []) := by
    intro n
    induction n with
    | zero =>
      intro y1_1 y1_2 hf
      rw [f_X7_bits_L4] at hf
      cases hf
    | succ n ih =>
      intro y1_1 y1_2 hf H locs ls hW hl
      rw [f_X7_bits_L4] at hf
      refine lv_iload_n hx hb dX7_bits_4 rfl (lv_at hl 2 rfl) ?_
      refine lv_bipush (v := (24 : Int32)) hx hb dX7_bits_5 (by decide) ?_
      refine lv_icmp_ge (tgt := 24) hx hb dX7_bits_7 (by decide) (fun hc => ?_) (fun hc => ?_)
      · replace hf := ifp hc hf
        have hj := Option.some.inj hf
        subst hj
        exact J1 _ _ _ hW (lv_sub hl [1] rfl)
      · replace hf := ifn hc hf
        refine lv_iload_n hx hb dX7_bits_10 rfl (lv_at hl 1 rfl) ?_
        refine lv_iload_n hx hb dX7_bits_11 rfl (lv_at hl 0 rfl) ?_
        refine lv_iload_n hx hb dX7_bits_12 rfl (lv_at hl 2 rfl) ?_
        refine lv_ishr hx hb dX7_bits_13 ?_
        refine lv_iconst (v := (1 : Int32)) hx hb dX7_bits_14 (by decide) ?_
        refine lv_iand hx hb dX7_bits_15 ?_
        refine lv_iadd hx hb dX7_bits_16 ?_
        refine lv_istore_n (lv' := [(1, .int (y1_1 + ((x0 >>> (y1_2 &&& 31)) &&& (1 : Int32)))), (0, .int x0), (2, .int y1_2)]) hx hb dX7_bits_17 rfl hl (by decide) rfl (fun ls hl => ?_)
        refine lv_iinc (v := (y1_2 + (1 : Int32))) (lv' := [(2, .int (y1_2 + (1 : Int32))), (1, .int (y1_1 + ((x0 >>> (y1_2 &&& 31)) &&& (1 : Int32)))), (0, .int x0)]) hx hb dX7_bits_18 hl (k := 2) rfl rfl (by decide) rfl (fun ls hl => ?_)
        refine lv_goto (tgt := 4) hx hb dX7_bits_21 (by decide) ?_
        exact ih (y1_1 + ((x0 >>> (y1_2 &&& 31)) &&& (1 : Int32))) (y1_2 + (1 : Int32)) hf _ _ _ hW (lv_sub hl [2, 1, 0] rfl)
  exact L1 N (0 : Int32) (0 : Int32) hg _ _ _ hW (lv_sub hl [2, 1, 0] rfl)
set_option maxHeartbeats 4000000 in
set_option maxRecDepth 100000 in
theorem c_X7_isPlace (l : Launch) (N : Nat) (kd : (Nat → Nat) × (Nat → Nat)) (G : va_G) (ct : Nat → ClassId) (a : Nat → Nat) (g : St_) (sg : Int64) (x1 : Int32) (o : Int32) (hf : f_X7_isPlace N g x1 = some o) : CtI l yX7_isPlace wsX7_isPlace ({ frames := 1, cells := 0, slots := 0, locals := 25 }) kd G ct [.ref (a 0), .int x1] (wX7 a ct g sg) o (wX7 a ct g sg) := by
  intro sz
  refine Met.ofW (cc := cX7_isPlace) (maxL := 2) (ret := (some .boolean)) (by decide) rfl ?_
  intro p e s m args below meth c s₁ B hml hv
  obtain ⟨rfl, hsz, hP, hK, hD0, hE⟩ := hv
  have hx := B.exec
  have hb := B.bytes
  have hr := B.returns
  have hts := atoms_spec (ws := wsX7_isPlace) B.pre
  have hown : s.vm.findClass RX7 = some m.cls := findClass_of_methodNamed B.named
  have hlocks := B.notSynchronized
  have inX7 : ∀ w ∈ wsX70, w ∈ wsX7_isPlace := by decide +kernel
  have fl96 := hts (.fieldLink RX7 96 "FittingStridesModel" "places" "I") (by decide +kernel)
  subst hsz
  have hD := hD0.self (sz := s.heap.size)
  generalize hAe : va_A (wX7 a ct g sg) s.heap.size = A at hD hE ⊢
  have hA : ∀ q : Nat, s.heap.size ≤ q → A q := fun q h => by rw [← hAe]; exact Or.inr h
  have hW : WW G A s.heap (wX7 a ct g sg) s.heap [] := ⟨hP, hD, va_S.rf⟩
  have hl := lv_entry ([.ref (a 0), .int x1]) (n := 2) (Nat.le_of_ble_eq_true rfl)
  rw [lg_entry_eq]
  generalize (lg_sl ([.ref (a 0), .int x1]) ++ List.replicate (2 - (lg_sl ([.ref (a 0), .int x1])).length) Slot.unset).toArray = ls at hl ⊢
  have hl : lv_has ls 2 [(0, .ref (a 0)), (1, .int x1)] := hl
  unfold f_X7_isPlace at hf
  show W p l e ({ frames := 1, cells := 0, slots := 0, locals := 25 } : Room) s m (List.toArray [.ref (a 0), .int x1]) below meth c s.heap [] 0 0 (MQ below (va_Qi (fun r (_ : Unit) => r = o) (fun _ t => Af_ G ct (wX7 a ct g sg) A t) A) (List.toArray [.ref (a 0), .int x1]) s 0 0 A) (F0 m 0 ls [])
  refine lv_iload_n hx hb dX7_isPlace_0 rfl (lv_at hl 1 rfl) ?_
  refine lv_i2l hx hb dX7_isPlace_1 rfl ?_
  refine lv_lconst (v := (0 : Int64)) hx hb dX7_isPlace_2 (by decide) ?_
  refine lv_aload_n hx hb dX7_isPlace_3 rfl (lv_at hl 0 rfl) ?_
  refine x_get (ci := 7) (v := .int (g 1 0)) (C := RX7) (T := TX7) (N := 44) hx hb hts inX7 hown hK hW 0 rfl rfl 0 (by decide) fl96 (fun _ h9 => h9) rfl dX7_isPlace_4 ?_
  refine lv_iconst (v := (1 : Int32)) hx hb dX7_isPlace_7 (by decide) ?_
  refine lv_isub hx hb dX7_isPlace_8 ?_
  refine lv_i2l hx hb dX7_isPlace_9 rfl ?_
  replace hf := bs_ hf; obtain ⟨r1, hcl, hf⟩ := hf
  refine x_callS_i (As := [.long x1.toInt64, .long (0 : Int64), .long ((g 1 0) - (1 : Int32)).toInt64]) (rest := []) ⟨hx, hb, hml, hown, hts⟩ (c_X7_in l N kd G ct x1.toInt64 (0 : Int64) (((g 1 0) - (1 : Int32)).toInt64) _ hcl) (va_cwS 3 hts gX7_isPlace_X7_in rfl rfl rfl (by decide +kernel) ⟨Nat.le_of_ble_eq_true rfl, Nat.le_of_ble_eq_true rfl⟩) hK hE hA hW rfl hl.1 rfl (lv_room (Nat.le_of_ble_eq_true rfl)) dX7_isPlace_10 (fun H locs hW => ?_)
  replace hf := gd_s hf; obtain ⟨hB, hf⟩ := hf
  have ho := Option.some.inj hf
  subst ho
  exact x_retz hx hb hr (isB_nar hB) hlocks hK hW rfl rfl dX7_isPlace_13
set_option maxHeartbeats 4000000 in
set_option maxRecDepth 100000 in
theorem c_X7_isStair (l : Launch) (N : Nat) (kd : (Nat → Nat) × (Nat → Nat)) (G : va_G) (ct : Nat → ClassId) (a : Nat → Nat) (g : St_) (sg : Int64) (x1 : Int32) (o : Int32) (hf : f_X7_isStair N g x1 = some o) : CtI l yX7_isStair wsX7_isStair ({ frames := 1, cells := 0, slots := 0, locals := 25 }) kd G ct [.ref (a 0), .int x1] (wX7 a ct g sg) o (wX7 a ct g sg) := by
  intro sz
  refine Met.ofW (cc := cX7_isStair) (maxL := 2) (ret := (some .boolean)) (by decide) rfl ?_
  intro p e s m args below meth c s₁ B hml hv
  obtain ⟨rfl, hsz, hP, hK, hD0, hE⟩ := hv
  have hx := B.exec
  have hb := B.bytes
  have hr := B.returns
  have hts := atoms_spec (ws := wsX7_isStair) B.pre
  have hown : s.vm.findClass RX7 = some m.cls := findClass_of_methodNamed B.named
  have hlocks := B.notSynchronized
  have inX7 : ∀ w ∈ wsX70, w ∈ wsX7_isStair := by decide +kernel
  have fl103 := hts (.fieldLink RX7 103 "FittingStridesModel" "stairs" "I") (by decide +kernel)
  subst hsz
  have hD := hD0.self (sz := s.heap.size)
  generalize hAe : va_A (wX7 a ct g sg) s.heap.size = A at hD hE ⊢
  have hA : ∀ q : Nat, s.heap.size ≤ q → A q := fun q h => by rw [← hAe]; exact Or.inr h
  have hW : WW G A s.heap (wX7 a ct g sg) s.heap [] := ⟨hP, hD, va_S.rf⟩
  have hl := lv_entry ([.ref (a 0), .int x1]) (n := 2) (Nat.le_of_ble_eq_true rfl)
  rw [lg_entry_eq]
  generalize (lg_sl ([.ref (a 0), .int x1]) ++ List.replicate (2 - (lg_sl ([.ref (a 0), .int x1])).length) Slot.unset).toArray = ls at hl ⊢
  have hl : lv_has ls 2 [(0, .ref (a 0)), (1, .int x1)] := hl
  unfold f_X7_isStair at hf
  show W p l e ({ frames := 1, cells := 0, slots := 0, locals := 25 } : Room) s m (List.toArray [.ref (a 0), .int x1]) below meth c s.heap [] 0 0 (MQ below (va_Qi (fun r (_ : Unit) => r = o) (fun _ t => Af_ G ct (wX7 a ct g sg) A t) A) (List.toArray [.ref (a 0), .int x1]) s 0 0 A) (F0 m 0 ls [])
  refine lv_iload_n hx hb dX7_isStair_0 rfl (lv_at hl 1 rfl) ?_
  refine lv_i2l hx hb dX7_isStair_1 rfl ?_
  refine lv_lconst (v := (0 : Int64)) hx hb dX7_isStair_2 (by decide) ?_
  refine lv_aload_n hx hb dX7_isStair_3 rfl (lv_at hl 0 rfl) ?_
  refine x_get (ci := 7) (v := .int (g 2 0)) (C := RX7) (T := TX7) (N := 44) hx hb hts inX7 hown hK hW 0 rfl rfl 1 (by decide) fl103 (fun _ h9 => h9) rfl dX7_isStair_4 ?_
  refine lv_iconst (v := (1 : Int32)) hx hb dX7_isStair_7 (by decide) ?_
  refine lv_isub hx hb dX7_isStair_8 ?_
  refine lv_i2l hx hb dX7_isStair_9 rfl ?_
  replace hf := bs_ hf; obtain ⟨r1, hcl, hf⟩ := hf
  refine x_callS_i (As := [.long x1.toInt64, .long (0 : Int64), .long ((g 2 0) - (1 : Int32)).toInt64]) (rest := []) ⟨hx, hb, hml, hown, hts⟩ (c_X7_in l N kd G ct x1.toInt64 (0 : Int64) (((g 2 0) - (1 : Int32)).toInt64) _ hcl) (va_cwS 3 hts gX7_isStair_X7_in rfl rfl rfl (by decide +kernel) ⟨Nat.le_of_ble_eq_true rfl, Nat.le_of_ble_eq_true rfl⟩) hK hE hA hW rfl hl.1 rfl (lv_room (Nat.le_of_ble_eq_true rfl)) dX7_isStair_10 (fun H locs hW => ?_)
  replace hf := gd_s hf; obtain ⟨hB, hf⟩ := hf
  have ho := Option.some.inj hf
  subst ho
  exact x_retz hx hb hr (isB_nar hB) hlocks hK hW rfl rfl dX7_isStair_13
set_option maxHeartbeats 4000000 in
set_option maxRecDepth 100000 in
theorem c_X7_isPerson (l : Launch) (N : Nat) (kd : (Nat → Nat) × (Nat → Nat)) (G : va_G) (ct : Nat → ClassId) (a : Nat → Nat) (g : St_) (sg : Int64) (x1 : Int32) (o : Int32) (hf : f_X7_isPerson N g x1 = some o) : CtI l yX7_isPerson wsX7_isPerson ({ frames := 1, cells := 0, slots := 0, locals := 25 }) kd G ct [.ref (a 0), .int x1] (wX7 a ct g sg) o (wX7 a ct g sg) := by
  intro sz
  refine Met.ofW (cc := cX7_isPerson) (maxL := 2) (ret := (some .boolean)) (by decide) rfl ?_
  intro p e s m args below meth c s₁ B hml hv
  obtain ⟨rfl, hsz, hP, hK, hD0, hE⟩ := hv
  have hx := B.exec
  have hb := B.bytes
  have hr := B.returns
  have hts := atoms_spec (ws := wsX7_isPerson) B.pre
  have hown : s.vm.findClass RX7 = some m.cls := findClass_of_methodNamed B.named
  have hlocks := B.notSynchronized
  have inX7 : ∀ w ∈ wsX70, w ∈ wsX7_isPerson := by decide +kernel
  have fl106 := hts (.fieldLink RX7 106 "FittingStridesModel" "persons" "I") (by decide +kernel)
  subst hsz
  have hD := hD0.self (sz := s.heap.size)
  generalize hAe : va_A (wX7 a ct g sg) s.heap.size = A at hD hE ⊢
  have hA : ∀ q : Nat, s.heap.size ≤ q → A q := fun q h => by rw [← hAe]; exact Or.inr h
  have hW : WW G A s.heap (wX7 a ct g sg) s.heap [] := ⟨hP, hD, va_S.rf⟩
  have hl := lv_entry ([.ref (a 0), .int x1]) (n := 2) (Nat.le_of_ble_eq_true rfl)
  rw [lg_entry_eq]
  generalize (lg_sl ([.ref (a 0), .int x1]) ++ List.replicate (2 - (lg_sl ([.ref (a 0), .int x1])).length) Slot.unset).toArray = ls at hl ⊢
  have hl : lv_has ls 2 [(0, .ref (a 0)), (1, .int x1)] := hl
  unfold f_X7_isPerson at hf
  show W p l e ({ frames := 1, cells := 0, slots := 0, locals := 25 } : Room) s m (List.toArray [.ref (a 0), .int x1]) below meth c s.heap [] 0 0 (MQ below (va_Qi (fun r (_ : Unit) => r = o) (fun _ t => Af_ G ct (wX7 a ct g sg) A t) A) (List.toArray [.ref (a 0), .int x1]) s 0 0 A) (F0 m 0 ls [])
  refine lv_iload_n hx hb dX7_isPerson_0 rfl (lv_at hl 1 rfl) ?_
  refine lv_i2l hx hb dX7_isPerson_1 rfl ?_
  refine lv_lconst (v := (0 : Int64)) hx hb dX7_isPerson_2 (by decide) ?_
  refine lv_aload_n hx hb dX7_isPerson_3 rfl (lv_at hl 0 rfl) ?_
  refine x_get (ci := 7) (v := .int (g 9 0)) (C := RX7) (T := TX7) (N := 44) hx hb hts inX7 hown hK hW 0 rfl rfl 8 (by decide) fl106 (fun _ h9 => h9) rfl dX7_isPerson_4 ?_
  refine lv_iconst (v := (1 : Int32)) hx hb dX7_isPerson_7 (by decide) ?_
  refine lv_isub hx hb dX7_isPerson_8 ?_
  refine lv_i2l hx hb dX7_isPerson_9 rfl ?_
  replace hf := bs_ hf; obtain ⟨r1, hcl, hf⟩ := hf
  refine x_callS_i (As := [.long x1.toInt64, .long (0 : Int64), .long ((g 9 0) - (1 : Int32)).toInt64]) (rest := []) ⟨hx, hb, hml, hown, hts⟩ (c_X7_in l N kd G ct x1.toInt64 (0 : Int64) (((g 9 0) - (1 : Int32)).toInt64) _ hcl) (va_cwS 3 hts gX7_isPerson_X7_in rfl rfl rfl (by decide +kernel) ⟨Nat.le_of_ble_eq_true rfl, Nat.le_of_ble_eq_true rfl⟩) hK hE hA hW rfl hl.1 rfl (lv_room (Nat.le_of_ble_eq_true rfl)) dX7_isPerson_10 (fun H locs hW => ?_)
  replace hf := gd_s hf; obtain ⟨hB, hf⟩ := hf
  have ho := Option.some.inj hf
  subst ho
  exact x_retz hx hb hr (isB_nar hB) hlocks hK hW rfl rfl dX7_isPerson_13
set_option maxHeartbeats 4000000 in
set_option maxRecDepth 100000 in
theorem c_X7_feed (l : Launch) (N : Nat) (kd : (Nat → Nat) × (Nat → Nat)) (G : va_G) (ct : Nat → ClassId) (a : Nat → Nat) (g : St_) (sg : Int64) (x1 : Int32) (x2 : Int64) (o : (Int32 × St_)) (hf : f_X7_feed N g x1 x2 = some o) : CtI l yX7_feed wsX7_feed ({ frames := 1, cells := 0, slots := 0, locals := 25 }) kd G ct [.ref (a 0), .int x1, .long x2] (wX7 a ct g sg) o.1 (wX7 a ct o.2 sg) := by
  intro sz
  refine Met.ofW (cc := cX7_feed) (maxL := 5) (ret := (some .int)) (by decide) rfl ?_
  intro p e s m args below meth c s₁ B hml hv
  obtain ⟨rfl, hsz, hP, hK, hD0, hE⟩ := hv
  have hx := B.exec
  have hb := B.bytes
  have hr := B.returns
  have hts := atoms_spec (ws := wsX7_feed) B.pre
  have hown : s.vm.findClass RX7 = some m.cls := findClass_of_methodNamed B.named
  have hlocks := B.notSynchronized
  have inX7 : ∀ w ∈ wsX70, w ∈ wsX7_feed := by decide +kernel
  have fl37 := hts (.fieldLink RX7 37 "FittingStridesModel" "text" "[I") (by decide +kernel)
  have fl109 := hts (.constantLong RX7 109 (8)) (by decide +kernel)
  have fl111 := hts (.constant RX7 111 (-1000000002)) (by decide +kernel)
  have fl112 := hts (.fieldLink RX7 112 "FittingStridesModel" "texted" "I") (by decide +kernel)
  have fl115 := hts (.constant RX7 115 (-1000000004)) (by decide +kernel)
  have fl116 := hts (.constantLong RX7 116 (255)) (by decide +kernel)
  subst hsz
  have hD := hD0.self (sz := s.heap.size)
  generalize hAe : va_A (wX7 a ct g sg) s.heap.size = A at hD hE ⊢
  have hA : ∀ q : Nat, s.heap.size ≤ q → A q := fun q h => by rw [← hAe]; exact Or.inr h
  have hW : WW G A s.heap (wX7 a ct g sg) s.heap [] := ⟨hP, hD, va_S.rf⟩
  have hl := lv_entry ([.ref (a 0), .int x1, .long x2]) (n := 5) (Nat.le_of_ble_eq_true rfl)
  rw [lg_entry_eq]
  generalize (lg_sl ([.ref (a 0), .int x1, .long x2]) ++ List.replicate (5 - (lg_sl ([.ref (a 0), .int x1, .long x2])).length) Slot.unset).toArray = ls at hl ⊢
  have hl : lv_has ls 5 [(0, .ref (a 0)), (1, .int x1), (2, .long x2)] := hl
  unfold f_X7_feed at hf
  show W p l e ({ frames := 1, cells := 0, slots := 0, locals := 25 } : Room) s m (List.toArray [.ref (a 0), .int x1, .long x2]) below meth c s.heap [] 0 0 (MQ below (va_Qi (fun r (_ : Unit) => r = o.1) (fun _ t => Af_ G ct (wX7 a ct o.2 sg) A t) A) (List.toArray [.ref (a 0), .int x1, .long x2]) s 0 0 A) (F0 m 0 ls [])
  refine lv_iload_n hx hb dX7_feed_0 rfl (lv_at hl 1 rfl) ?_
  refine lv_i2l hx hb dX7_feed_1 rfl ?_
  refine lv_lconst (v := (1 : Int64)) hx hb dX7_feed_2 (by decide) ?_
  refine lv_ldc2 (v := (8 : Int64)) hx hb hown fl109 dX7_feed_3 ?_
  replace hf := bs_ hf; obtain ⟨r1, hcl, hf⟩ := hf
  refine x_callS_i (As := [.long x1.toInt64, .long (1 : Int64), .long (8 : Int64)]) (rest := []) ⟨hx, hb, hml, hown, hts⟩ (c_X7_in l N kd G ct x1.toInt64 (1 : Int64) (8 : Int64) _ hcl) (va_cwS 3 hts gX7_feed_X7_in rfl rfl rfl (by decide +kernel) ⟨Nat.le_of_ble_eq_true rfl, Nat.le_of_ble_eq_true rfl⟩) hK hE hA hW rfl hl.1 rfl (lv_room (Nat.le_of_ble_eq_true rfl)) dX7_feed_6 (fun H locs hW => ?_)
  refine lv_if_ne (tgt := 15) hx hb dX7_feed_9 (by decide) (fun hc => ?_) (fun hc => ?_)
  · replace hf := ifn hc hf
    refine lv_aload_n hx hb dX7_feed_15 rfl (lv_at hl 0 rfl) ?_
    refine x_get (ci := 7) (v := .int (g 16 0)) (C := RX7) (T := TX7) (N := 44) hx hb hts inX7 hown hK hW 0 rfl rfl 15 (by decide) fl112 (fun _ h9 => h9) rfl dX7_feed_16 ?_
    refine lv_iload_n hx hb dX7_feed_19 rfl (lv_at hl 1 rfl) ?_
    refine lv_iadd hx hb dX7_feed_20 ?_
    refine lv_sipush (v := (500 : Int32)) hx hb dX7_feed_21 (by decide) ?_
    refine lv_icmp_le (tgt := 30) hx hb dX7_feed_24 (by decide) (fun hc => ?_) (fun hc => ?_)
    · replace hf := ifp hc hf
      refine lv_iload_n hx hb dX7_feed_30 rfl (lv_at hl 1 rfl) ?_
      refine lv_iconst (v := (1 : Int32)) hx hb dX7_feed_31 (by decide) ?_
      refine lv_isub hx hb dX7_feed_32 ?_
      refine lv_istore (lv' := [(4, .int (x1 - (1 : Int32))), (0, .ref (a 0)), (1, .int x1), (2, .long x2)]) hx hb dX7_feed_33 hl (by decide) rfl (fun ls hl => ?_)
      replace hf := bs_ hf; obtain ⟨v2, hg, hf⟩ := hf
      have J2 : ∀ (H : Heap) (locs : List Loc) (ls : Array Slot), WW G A s.heap (wX7 a ct v2 sg) H locs → lv_has ls 5 [(0, .ref (a 0))] → W p l e ({ frames := 1, cells := 0, slots := 0, locals := 25 } : Room) s m (List.toArray [.ref (a 0), .int x1, .long x2]) below meth c H locs 0 0 (MQ below (va_Qi (fun r (_ : Unit) => r = o.1) (fun _ t => Af_ G ct (wX7 a ct o.2 sg) A t) A) (List.toArray [.ref (a 0), .int x1, .long x2]) s 0 0 A) (F0 m 77 ls []) := by
        intro H locs ls hW hl
        refine lv_aload_n hx hb dX7_feed_77 rfl (lv_at hl 0 rfl) ?_
        refine x_get (ci := 7) (v := .int (v2 16 0)) (C := RX7) (T := TX7) (N := 44) hx hb hts inX7 hown hK hW 0 rfl rfl 15 (by decide) fl112 (fun _ h9 => h9) rfl dX7_feed_78 ?_
        have ho := Option.some.inj hf
        subst ho
        exact x_reti (sz := 0) (w0 := []) (A1 := A) hx hb hr hlocks hK hW rfl rfl dX7_feed_81
      clear hf
      have L2 : ∀ (n : Nat) (y2_4 : Int32) (g2 : St_), f_X7_feed_L35 N x2 n y2_4 g2 = some v2 → ∀ (H : Heap) (locs : List Loc) (ls : Array Slot), WW G A s.heap (wX7 a ct g2 sg) H locs → lv_has ls 5 [(0, .ref (a 0)), (2, .long x2), (4, .int y2_4)] → W p l e ({ frames := 1, cells := 0, slots := 0, locals := 25 } : Room) s m (List.toArray [.ref (a 0), .int x1, .long x2]) below meth c H locs 0 0 (MQ below (va_Qi (fun r (_ : Unit) => r = o.1) (fun _ t => Af_ G ct (wX7 a ct o.2 sg) A t) A) (List.toArray [.ref (a 0), .int x1, .long x2]) s 0 0 A) (F0 m 35 ls []) := by
        intro n
        induction n with
        | zero =>
          intro y2_4 g2 hf
          rw [f_X7_feed_L35] at hf
          cases hf
        | succ n ih =>
          intro y2_4 g2 hf H locs ls hW hl
          rw [f_X7_feed_L35] at hf
          refine lv_iload hx hb dX7_feed_35 (lv_at hl 2 rfl) ?_
          refine lv_if_lt (tgt := 77) hx hb dX7_feed_37 (by decide) (fun hc => ?_) (fun hc => ?_)
          · replace hf := ifp hc hf
            have hj := Option.some.inj hf
            subst hj
            exact J2 _ _ _ hW (lv_sub hl [0] rfl)
          · replace hf := ifn hc hf
            refine lv_aload_n hx hb dX7_feed_40 rfl (lv_at hl 0 rfl) ?_
            refine x_get (ci := 7) (v := .ref (a 15)) (C := RX7) (T := TX7) (N := 44) hx hb hts inX7 hown hK hW 0 rfl rfl 14 (by decide) fl37 (fun _ h9 => h9) rfl dX7_feed_41 ?_
            refine lv_aload_n hx hb dX7_feed_44 rfl (lv_at hl 0 rfl) ?_
            refine x_get (ci := 7) (v := .int (g2 16 0)) (C := RX7) (T := TX7) (N := 44) hx hb hts inX7 hown hK hW 0 rfl rfl 15 (by decide) fl112 (fun _ h9 => h9) rfl dX7_feed_45 ?_
            refine lv_lload_n hx hb dX7_feed_48 rfl (lv_at hl 1 rfl) ?_
            refine lv_bipush (v := (8 : Int32)) hx hb dX7_feed_49 (by decide) ?_
            refine lv_iload hx hb dX7_feed_51 (lv_at hl 2 rfl) ?_
            refine lv_imul hx hb dX7_feed_53 ?_
            refine lv_lshr hx hb dX7_feed_54 rfl ?_
            refine lv_ldc2 (v := (255 : Int64)) hx hb hown fl116 dX7_feed_55 ?_
            refine lv_land hx hb dX7_feed_58 ?_
            refine lv_l2i hx hb dX7_feed_59 rfl ?_
            replace hf := gd_s hf; obtain ⟨hin, hf⟩ := hf
            refine x_iast (w' := (wX7 a ct (up1 g2 15 (g2 16 0).toNatClampNeg (((x2 >>> (((8 : Int32) * y2_4).toInt64 &&& 63)) &&& (255 : Int64)).toInt32)) sg)) (n := 500) (f := g2 15) hx hb hK hW 10 rfl (okI_in hin) (ws_X7_15 a ct g2 sg _ _) dX7_feed_60 (fun H locs hW => ?_)
            refine lv_aload_n hx hb dX7_feed_61 rfl (lv_at hl 0 rfl) ?_
            refine lv_dup hx hb dX7_feed_62 rfl ?_
            refine x_get (ci := 7) (v := .int (g2 16 0)) (C := RX7) (T := TX7) (N := 44) hx hb hts inX7 hown hK hW 0 rfl rfl 15 (by decide) fl112 (fun _ h9 => h9) rfl dX7_feed_63 ?_
            refine lv_iconst (v := (1 : Int32)) hx hb dX7_feed_66 (by decide) ?_
            refine lv_iadd hx hb dX7_feed_67 ?_
            refine x_put (w' := (wX7 a ct (up1 (up1 g2 15 (g2 16 0).toNatClampNeg (((x2 >>> (((8 : Int32) * y2_4).toInt64 &&& 63)) &&& (255 : Int64)).toInt32)) 16 0 ((g2 16 0) + (1 : Int32))) sg)) (fs := fsX7 a (up1 g2 15 (g2 16 0).toNatClampNeg (((x2 >>> (((8 : Int32) * y2_4).toInt64 &&& 63)) &&& (255 : Int64)).toInt32)) sg) (ci := 7) (v := .int ((g2 16 0) + (1 : Int32))) (ty := .int) (C := RX7) (T := TX7) (N := 44) hx hb hts inX7 tyX7 tyX7_ok nmX7 hown hK hW 0 rfl rfl 15 (by decide) fl112 (fun _ h9 => h9) rfl (by decide +kernel) rfl rfl (Nat.le_of_ble_eq_true rfl) (wp_X7_16 a ct (up1 g2 15 (g2 16 0).toNatClampNeg (((x2 >>> (((8 : Int32) * y2_4).toInt64 &&& 63)) &&& (255 : Int64)).toInt32)) sg ((g2 16 0) + (1 : Int32))) dX7_feed_68 (fun H locs hW => ?_)
            refine lv_iinc (v := (y2_4 + (-1 : Int32))) (lv' := [(4, .int (y2_4 + (-1 : Int32))), (0, .ref (a 0)), (2, .long x2)]) hx hb dX7_feed_71 hl (k := 2) rfl rfl (by decide) rfl (fun ls hl => ?_)
            refine lv_goto (tgt := 35) hx hb dX7_feed_74 (by decide) ?_
            exact ih (y2_4 + (-1 : Int32)) (up1 (up1 g2 15 (g2 16 0).toNatClampNeg (((x2 >>> (((8 : Int32) * y2_4).toInt64 &&& 63)) &&& (255 : Int64)).toInt32)) 16 0 ((g2 16 0) + (1 : Int32))) hf _ _ _ hW (lv_sub hl [1, 2, 0] rfl)
      exact L2 N (x1 - (1 : Int32)) g hg _ _ _ hW (lv_sub hl [1, 3, 0] rfl)
    · replace hf := ifn hc hf
      refine lv_ldc (v := (-1000000004 : Int32)) hx hb hown fl115 dX7_feed_27 ?_
      have ho := Option.some.inj hf
      subst ho
      exact x_reti (sz := 0) (w0 := []) (A1 := A) hx hb hr hlocks hK hW rfl rfl dX7_feed_29
  · replace hf := ifp hc hf
    refine lv_ldc (v := (-1000000002 : Int32)) hx hb hown fl111 dX7_feed_12 ?_
    have ho := Option.some.inj hf
    subst ho
    exact x_reti (sz := 0) (w0 := []) (A1 := A) hx hb hr hlocks hK hW rfl rfl dX7_feed_14
set_option maxHeartbeats 4000000 in
set_option maxRecDepth 100000 in
theorem c_X7_here (l : Launch) (N : Nat) (kd : (Nat → Nat) × (Nat → Nat)) (G : va_G) (ct : Nat → ClassId) (a : Nat → Nat) (g : St_) (sg : Int64) (o : (Int32 × St_)) (hf : f_X7_here N g = some o) : CtI l yX7_here wsX7_here ({ frames := 0, cells := 0, slots := 0, locals := 0 }) kd G ct [.ref (a 0)] (wX7 a ct g sg) o.1 (wX7 a ct o.2 sg) := by
  intro sz
  refine Met.ofW (cc := cX7_here) (maxL := 1) (ret := (some .int)) (by decide) rfl ?_
  intro p e s m args below meth c s₁ B hml hv
  obtain ⟨rfl, hsz, hP, hK, hD0, hE⟩ := hv
  have hx := B.exec
  have hb := B.bytes
  have hr := B.returns
  have hts := atoms_spec (ws := wsX7_here) B.pre
  have hown : s.vm.findClass RX7 = some m.cls := findClass_of_methodNamed B.named
  have hlocks := B.notSynchronized
  have inX7 : ∀ w ∈ wsX70, w ∈ wsX7_here := by decide +kernel
  have fl37 := hts (.fieldLink RX7 37 "FittingStridesModel" "text" "[I") (by decide +kernel)
  have fl112 := hts (.fieldLink RX7 112 "FittingStridesModel" "texted" "I") (by decide +kernel)
  have fl118 := hts (.fieldLink RX7 118 "FittingStridesModel" "at0" "I") (by decide +kernel)
  subst hsz
  have hD := hD0.self (sz := s.heap.size)
  generalize hAe : va_A (wX7 a ct g sg) s.heap.size = A at hD hE ⊢
  have hA : ∀ q : Nat, s.heap.size ≤ q → A q := fun q h => by rw [← hAe]; exact Or.inr h
  have hW : WW G A s.heap (wX7 a ct g sg) s.heap [] := ⟨hP, hD, va_S.rf⟩
  have hl := lv_entry ([.ref (a 0)]) (n := 1) (Nat.le_of_ble_eq_true rfl)
  rw [lg_entry_eq]
  generalize (lg_sl ([.ref (a 0)]) ++ List.replicate (1 - (lg_sl ([.ref (a 0)])).length) Slot.unset).toArray = ls at hl ⊢
  have hl : lv_has ls 1 [(0, .ref (a 0))] := hl
  unfold f_X7_here at hf
  show W p l e ({ frames := 0, cells := 0, slots := 0, locals := 0 } : Room) s m (List.toArray [.ref (a 0)]) below meth c s.heap [] 0 0 (MQ below (va_Qi (fun r (_ : Unit) => r = o.1) (fun _ t => Af_ G ct (wX7 a ct o.2 sg) A t) A) (List.toArray [.ref (a 0)]) s 0 0 A) (F0 m 0 ls [])
  replace hf := bs_ hf; obtain ⟨v1, hg, hf⟩ := hf
  have J1 : ∀ (H : Heap) (locs : List Loc) (ls : Array Slot), WW G A s.heap (wX7 a ct v1 sg) H locs → lv_has ls 1 [(0, .ref (a 0))] → W p l e ({ frames := 0, cells := 0, slots := 0, locals := 0 } : Room) s m (List.toArray [.ref (a 0)]) below meth c H locs 0 0 (MQ below (va_Qi (fun r (_ : Unit) => r = o.1) (fun _ t => Af_ G ct (wX7 a ct o.2 sg) A t) A) (List.toArray [.ref (a 0)]) s 0 0 A) (F0 m 38 ls []) := by
    intro H locs ls hW hl
    refine lv_aload_n hx hb dX7_here_38 rfl (lv_at hl 0 rfl) ?_
    refine x_get (ci := 7) (v := .int (v1 18 0)) (C := RX7) (T := TX7) (N := 44) hx hb hts inX7 hown hK hW 0 rfl rfl 17 (by decide) fl118 (fun _ h9 => h9) rfl dX7_here_39 ?_
    refine lv_aload_n hx hb dX7_here_42 rfl (lv_at hl 0 rfl) ?_
    refine x_get (ci := 7) (v := .int (v1 16 0)) (C := RX7) (T := TX7) (N := 44) hx hb hts inX7 hown hK hW 0 rfl rfl 15 (by decide) fl112 (fun _ h9 => h9) rfl dX7_here_43 ?_
    refine lv_icmp_ge (tgt := 61) hx hb dX7_here_46 (by decide) (fun hc => ?_) (fun hc => ?_)
    · replace hf := ifp hc hf
      refine lv_iconst (v := (-1 : Int32)) hx hb dX7_here_61 (by decide) ?_
      have ho := Option.some.inj hf
      subst ho
      exact x_reti (sz := 0) (w0 := []) (A1 := A) hx hb hr hlocks hK hW rfl rfl dX7_here_62
    · replace hf := ifn hc hf
      refine lv_aload_n hx hb dX7_here_49 rfl (lv_at hl 0 rfl) ?_
      refine x_get (ci := 7) (v := .ref (a 15)) (C := RX7) (T := TX7) (N := 44) hx hb hts inX7 hown hK hW 0 rfl rfl 14 (by decide) fl37 (fun _ h9 => h9) rfl dX7_here_50 ?_
      refine lv_aload_n hx hb dX7_here_53 rfl (lv_at hl 0 rfl) ?_
      refine x_get (ci := 7) (v := .int (v1 18 0)) (C := RX7) (T := TX7) (N := 44) hx hb hts inX7 hown hK hW 0 rfl rfl 17 (by decide) fl118 (fun _ h9 => h9) rfl dX7_here_54 ?_
      replace hf := gd_s hf; obtain ⟨hin, hf⟩ := hf
      refine x_iald (n := 500) (f := v1 15) hx hb hK hW 10 rfl (okI_in hin) dX7_here_57 ?_
      refine lv_goto (tgt := 62) hx hb dX7_here_58 (by decide) ?_
      have ho := Option.some.inj hf
      subst ho
      exact x_reti (sz := 0) (w0 := []) (A1 := A) hx hb hr hlocks hK hW rfl rfl dX7_here_62
  clear hf
  have L1 : ∀ (n : Nat) (g1 : St_), f_X7_here_L0 N n g1 = some v1 → ∀ (H : Heap) (locs : List Loc) (ls : Array Slot), WW G A s.heap (wX7 a ct g1 sg) H locs → lv_has ls 1 [(0, .ref (a 0))] → W p l e ({ frames := 0, cells := 0, slots := 0, locals := 0 } : Room) s m (List.toArray [.ref (a 0)]) below meth c H locs 0 0 (MQ below (va_Qi (fun r (_ : Unit) => r = o.1) (fun _ t => Af_ G ct (wX7 a ct o.2 sg) A t) A) (List.toArray [.ref (a 0)]) s 0 0 A) (F0 m 0 ls []) := by
    intro n
    induction n with
    | zero =>
      intro g1 hf
      rw [f_X7_here_L0] at hf
      cases hf
    | succ n ih =>
      intro g1 hf H locs ls hW hl
      rw [f_X7_here_L0] at hf
      refine lv_aload_n hx hb dX7_here_0 rfl (lv_at hl 0 rfl) ?_
      refine x_get (ci := 7) (v := .int (g1 18 0)) (C := RX7) (T := TX7) (N := 44) hx hb hts inX7 hown hK hW 0 rfl rfl 17 (by decide) fl118 (fun _ h9 => h9) rfl dX7_here_1 ?_
      refine lv_aload_n hx hb dX7_here_4 rfl (lv_at hl 0 rfl) ?_
      refine x_get (ci := 7) (v := .int (g1 16 0)) (C := RX7) (T := TX7) (N := 44) hx hb hts inX7 hown hK hW 0 rfl rfl 15 (by decide) fl112 (fun _ h9 => h9) rfl dX7_here_5 ?_
      refine lv_icmp_ge (tgt := 38) hx hb dX7_here_8 (by decide) (fun hc => ?_) (fun hc => ?_)
      · replace hf := ifp hc hf
        have hj := Option.some.inj hf
        subst hj
        exact J1 _ _ _ hW (lv_sub hl [0] rfl)
      · replace hf := ifn hc hf
        refine lv_aload_n hx hb dX7_here_11 rfl (lv_at hl 0 rfl) ?_
        refine x_get (ci := 7) (v := .ref (a 15)) (C := RX7) (T := TX7) (N := 44) hx hb hts inX7 hown hK hW 0 rfl rfl 14 (by decide) fl37 (fun _ h9 => h9) rfl dX7_here_12 ?_
        refine lv_aload_n hx hb dX7_here_15 rfl (lv_at hl 0 rfl) ?_
        refine x_get (ci := 7) (v := .int (g1 18 0)) (C := RX7) (T := TX7) (N := 44) hx hb hts inX7 hown hK hW 0 rfl rfl 17 (by decide) fl118 (fun _ h9 => h9) rfl dX7_here_16 ?_
        replace hf := gd_s hf; obtain ⟨hin, hf⟩ := hf
        refine x_iald (n := 500) (f := g1 15) hx hb hK hW 10 rfl (okI_in hin) dX7_here_19 ?_
        refine lv_bipush (v := (32 : Int32)) hx hb dX7_here_20 (by decide) ?_
        refine lv_icmp_ne (tgt := 38) hx hb dX7_here_22 (by decide) (fun hc => ?_) (fun hc => ?_)
        · replace hf := ifn hc hf
          have hj := Option.some.inj hf
          subst hj
          exact J1 _ _ _ hW (lv_sub hl [0] rfl)
        · replace hf := ifp hc hf
          refine lv_aload_n hx hb dX7_here_25 rfl (lv_at hl 0 rfl) ?_
          refine lv_dup hx hb dX7_here_26 rfl ?_
          refine x_get (ci := 7) (v := .int (g1 18 0)) (C := RX7) (T := TX7) (N := 44) hx hb hts inX7 hown hK hW 0 rfl rfl 17 (by decide) fl118 (fun _ h9 => h9) rfl dX7_here_27 ?_
          refine lv_iconst (v := (1 : Int32)) hx hb dX7_here_30 (by decide) ?_
          refine lv_iadd hx hb dX7_here_31 ?_
          refine x_put (w' := (wX7 a ct (up1 g1 18 0 ((g1 18 0) + (1 : Int32))) sg)) (fs := fsX7 a g1 sg) (ci := 7) (v := .int ((g1 18 0) + (1 : Int32))) (ty := .int) (C := RX7) (T := TX7) (N := 44) hx hb hts inX7 tyX7 tyX7_ok nmX7 hown hK hW 0 rfl rfl 17 (by decide) fl118 (fun _ h9 => h9) rfl (by decide +kernel) rfl rfl (Nat.le_of_ble_eq_true rfl) (wp_X7_18 a ct g1 sg ((g1 18 0) + (1 : Int32))) dX7_here_32 (fun H locs hW => ?_)
          refine lv_goto (tgt := 0) hx hb dX7_here_35 (by decide) ?_
          exact ih (up1 g1 18 0 ((g1 18 0) + (1 : Int32))) hf _ _ _ hW (lv_sub hl [0] rfl)
  exact L1 N g hg _ _ _ hW (lv_sub hl [0] rfl)
set_option maxHeartbeats 4000000 in
set_option maxRecDepth 100000 in
theorem c_X7_fails (l : Launch) (N : Nat) (kd : (Nat → Nat) × (Nat → Nat)) (G : va_G) (ct : Nat → ClassId) (a : Nat → Nat) (g : St_) (sg : Int64) (x1 : Int32) (x2 : Int32) (o : (Int32 × St_)) (hf : f_X7_fails N g x1 x2 = some o) : CtI l yX7_fails wsX7_fails ({ frames := 0, cells := 0, slots := 0, locals := 0 }) kd G ct [.ref (a 0), .int x1, .int x2] (wX7 a ct g sg) o.1 (wX7 a ct o.2 sg) := by
  intro sz
  refine Met.ofW (cc := cX7_fails) (maxL := 3) (ret := (some .int)) (by decide) rfl ?_
  intro p e s m args below meth c s₁ B hml hv
  obtain ⟨rfl, hsz, hP, hK, hD0, hE⟩ := hv
  have hx := B.exec
  have hb := B.bytes
  have hr := B.returns
  have hts := atoms_spec (ws := wsX7_fails) B.pre
  have hown : s.vm.findClass RX7 = some m.cls := findClass_of_methodNamed B.named
  have hlocks := B.notSynchronized
  have inX7 : ∀ w ∈ wsX70, w ∈ wsX7_fails := by decide +kernel
  have fl40 := hts (.fieldLink RX7 40 "FittingStridesModel" "faultPlace" "I") (by decide +kernel)
  subst hsz
  have hD := hD0.self (sz := s.heap.size)
  generalize hAe : va_A (wX7 a ct g sg) s.heap.size = A at hD hE ⊢
  have hA : ∀ q : Nat, s.heap.size ≤ q → A q := fun q h => by rw [← hAe]; exact Or.inr h
  have hW : WW G A s.heap (wX7 a ct g sg) s.heap [] := ⟨hP, hD, va_S.rf⟩
  have hl := lv_entry ([.ref (a 0), .int x1, .int x2]) (n := 3) (Nat.le_of_ble_eq_true rfl)
  rw [lg_entry_eq]
  generalize (lg_sl ([.ref (a 0), .int x1, .int x2]) ++ List.replicate (3 - (lg_sl ([.ref (a 0), .int x1, .int x2])).length) Slot.unset).toArray = ls at hl ⊢
  have hl : lv_has ls 3 [(0, .ref (a 0)), (1, .int x1), (2, .int x2)] := hl
  unfold f_X7_fails at hf
  show W p l e ({ frames := 0, cells := 0, slots := 0, locals := 0 } : Room) s m (List.toArray [.ref (a 0), .int x1, .int x2]) below meth c s.heap [] 0 0 (MQ below (va_Qi (fun r (_ : Unit) => r = o.1) (fun _ t => Af_ G ct (wX7 a ct o.2 sg) A t) A) (List.toArray [.ref (a 0), .int x1, .int x2]) s 0 0 A) (F0 m 0 ls [])
  refine lv_aload_n hx hb dX7_fails_0 rfl (lv_at hl 0 rfl) ?_
  refine lv_iload_n hx hb dX7_fails_1 rfl (lv_at hl 2 rfl) ?_
  refine x_put (w' := (wX7 a ct (up1 g 17 0 x2) sg)) (fs := fsX7 a g sg) (ci := 7) (v := .int x2) (ty := .int) (C := RX7) (T := TX7) (N := 44) hx hb hts inX7 tyX7 tyX7_ok nmX7 hown hK hW 0 rfl rfl 16 (by decide) fl40 (fun _ h9 => h9) rfl (by decide +kernel) rfl rfl (Nat.le_of_ble_eq_true rfl) (wp_X7_17 a ct g sg x2) dX7_fails_2 (fun H locs hW => ?_)
  refine lv_iload_n hx hb dX7_fails_5 rfl (lv_at hl 1 rfl) ?_
  have ho := Option.some.inj hf
  subst ho
  exact x_reti (sz := 0) (w0 := []) (A1 := A) hx hb hr hlocks hK hW rfl rfl dX7_fails_6
set_option maxHeartbeats 4000000 in
set_option maxRecDepth 100000 in
theorem c_X7_readWord (l : Launch) (N : Nat) (kd : (Nat → Nat) × (Nat → Nat)) (G : va_G) (ct : Nat → ClassId) (a : Nat → Nat) (g : St_) (sg : Int64) (o : (St_ × Int64)) (hf : f_X7_readWord N g sg = some o) : CtV l yX7_readWord wsX7_readWord ({ frames := 1, cells := 0, slots := 0, locals := 25 }) kd G ct [.ref (a 0)] (wX7 a ct g sg) (wX7 a ct o.1 o.2) := by
  intro sz
  refine Met.ofW (cc := cX7_readWord) (maxL := 2) (ret := none) (by decide) rfl ?_
  intro p e s m args below meth c s₁ B hml hv
  obtain ⟨rfl, hsz, hP, hK, hD0, hE⟩ := hv
  have hx := B.exec
  have hb := B.bytes
  have hr := B.returns
  have hts := atoms_spec (ws := wsX7_readWord) B.pre
  have hown : s.vm.findClass RX7 = some m.cls := findClass_of_methodNamed B.named
  have hlocks := B.notSynchronized
  have inX7 : ∀ w ∈ wsX70, w ∈ wsX7_readWord := by decide +kernel
  have fl37 := hts (.fieldLink RX7 37 "FittingStridesModel" "text" "[I") (by decide +kernel)
  have fl112 := hts (.fieldLink RX7 112 "FittingStridesModel" "texted" "I") (by decide +kernel)
  have fl118 := hts (.fieldLink RX7 118 "FittingStridesModel" "at0" "I") (by decide +kernel)
  have fl125 := hts (.fieldLink RX7 125 "FittingStridesModel" "said" "J") (by decide +kernel)
  have fl129 := hts (.fieldLink RX7 129 "FittingStridesModel" "wordEnd" "I") (by decide +kernel)
  have fl132 := hts (.constantLong RX7 132 (97)) (by decide +kernel)
  have fl134 := hts (.constantLong RX7 134 (122)) (by decide +kernel)
  have fl136 := hts (.constantLong RX7 136 (10000000000000)) (by decide +kernel)
  have fl138 := hts (.constantLong RX7 138 (20000000000000)) (by decide +kernel)
  have fl140 := hts (.constantLong RX7 140 (27)) (by decide +kernel)
  have fl142 := hts (.constantLong RX7 142 (96)) (by decide +kernel)
  subst hsz
  have hD := hD0.self (sz := s.heap.size)
  generalize hAe : va_A (wX7 a ct g sg) s.heap.size = A at hD hE ⊢
  have hA : ∀ q : Nat, s.heap.size ≤ q → A q := fun q h => by rw [← hAe]; exact Or.inr h
  have hW : WW G A s.heap (wX7 a ct g sg) s.heap [] := ⟨hP, hD, va_S.rf⟩
  have hl := lv_entry ([.ref (a 0)]) (n := 2) (Nat.le_of_ble_eq_true rfl)
  rw [lg_entry_eq]
  generalize (lg_sl ([.ref (a 0)]) ++ List.replicate (2 - (lg_sl ([.ref (a 0)])).length) Slot.unset).toArray = ls at hl ⊢
  have hl : lv_has ls 2 [(0, .ref (a 0))] := hl
  unfold f_X7_readWord at hf
  show W p l e ({ frames := 1, cells := 0, slots := 0, locals := 25 } : Room) s m (List.toArray [.ref (a 0)]) below meth c s.heap [] 0 0 (MQ below (va_Qv (fun (_ : Unit) => True) (fun _ t => Af_ G ct (wX7 a ct o.1 o.2) A t) A) (List.toArray [.ref (a 0)]) s 0 0 A) (F0 m 0 ls [])
  refine lv_aload_n hx hb dX7_readWord_0 rfl (lv_at hl 0 rfl) ?_
  replace hf := bs_ hf; obtain ⟨r1, hcl, hf⟩ := hf
  refine x_callW_i (w' := (wX7 a ct r1.2 sg)) (As := []) (rest := []) (ci := 7) ⟨hx, hb, hml, hown, hts⟩ (c_X7_here l N kd G ct a g sg _ hcl) (cwV 0 hts gX7_readWord_X7_here rfl rfl rfl (by decide +kernel) ⟨Nat.le_of_ble_eq_true rfl, Nat.le_of_ble_eq_true rfl⟩) hK hE hA hW rfl rfl 0 rfl rfl rfl rfl hl.1 rfl (lv_room (Nat.le_of_ble_eq_true rfl)) dX7_readWord_1 (fun H locs hW => ?_)
  refine lv_istore_n (lv' := [(1, .int r1.1), (0, .ref (a 0))]) hx hb dX7_readWord_4 rfl hl (by decide) rfl (fun ls hl => ?_)
  refine lv_aload_n hx hb dX7_readWord_5 rfl (lv_at hl 1 rfl) ?_
  refine lv_lconst (v := (0 : Int64)) hx hb dX7_readWord_6 (by decide) ?_
  refine x_put (w' := (wX7 a ct r1.2 (0 : Int64))) (fs := fsX7 a r1.2 sg) (ci := 7) (v := .long (0 : Int64)) (ty := .long) (C := RX7) (T := TX7) (N := 44) hx hb hts inX7 tyX7 tyX7_ok nmX7 hown hK hW 0 rfl rfl 18 (by decide) fl125 (fun _ h9 => h9) rfl (by decide +kernel) rfl rfl (Nat.le_of_ble_eq_true rfl) (wp_X7_19 a ct r1.2 sg (0 : Int64)) dX7_readWord_7 (fun H locs hW => ?_)
  refine lv_aload_n hx hb dX7_readWord_10 rfl (lv_at hl 1 rfl) ?_
  refine lv_aload_n hx hb dX7_readWord_11 rfl (lv_at hl 1 rfl) ?_
  refine x_get (ci := 7) (v := .int (r1.2 18 0)) (C := RX7) (T := TX7) (N := 44) hx hb hts inX7 hown hK hW 0 rfl rfl 17 (by decide) fl118 (fun _ h9 => h9) rfl dX7_readWord_12 ?_
  refine x_put (w' := (wX7 a ct (up1 r1.2 20 0 (r1.2 18 0)) (0 : Int64))) (fs := fsX7 a r1.2 (0 : Int64)) (ci := 7) (v := .int (r1.2 18 0)) (ty := .int) (C := RX7) (T := TX7) (N := 44) hx hb hts inX7 tyX7 tyX7_ok nmX7 hown hK hW 0 rfl rfl 19 (by decide) fl129 (fun _ h9 => h9) rfl (by decide +kernel) rfl rfl (Nat.le_of_ble_eq_true rfl) (wp_X7_20 a ct r1.2 (0 : Int64) (r1.2 18 0)) dX7_readWord_15 (fun H locs hW => ?_)
  replace hf := bs_ hf; obtain ⟨v2, hg, hf⟩ := hf
  have J2 : ∀ (H : Heap) (locs : List Loc) (ls : Array Slot), WW G A s.heap (wX7 a ct v2.1 v2.2) H locs → lv_has ls 2 [] → W p l e ({ frames := 1, cells := 0, slots := 0, locals := 25 } : Room) s m (List.toArray [.ref (a 0)]) below meth c H locs 0 0 (MQ below (va_Qv (fun (_ : Unit) => True) (fun _ t => Af_ G ct (wX7 a ct o.1 o.2) A t) A) (List.toArray [.ref (a 0)]) s 0 0 A) (F0 m 108 ls []) := by
    intro H locs ls hW hl
    have ho := Option.some.inj hf
    subst ho
    exact x_retv hx hb hr hlocks hK hW rfl dX7_readWord_108
  clear hf
  have L2 : ∀ (n : Nat) (g2 : St_) (t2 : Int64), f_X7_readWord_L18 N n g2 t2 = some v2 → ∀ (H : Heap) (locs : List Loc) (ls : Array Slot), WW G A s.heap (wX7 a ct g2 t2) H locs → lv_has ls 2 [(0, .ref (a 0))] → W p l e ({ frames := 1, cells := 0, slots := 0, locals := 25 } : Room) s m (List.toArray [.ref (a 0)]) below meth c H locs 0 0 (MQ below (va_Qv (fun (_ : Unit) => True) (fun _ t => Af_ G ct (wX7 a ct o.1 o.2) A t) A) (List.toArray [.ref (a 0)]) s 0 0 A) (F0 m 18 ls []) := by
    intro n
    induction n with
    | zero =>
      intro g2 t2 hf
      rw [f_X7_readWord_L18] at hf
      cases hf
    | succ n ih =>
      intro g2 t2 hf H locs ls hW hl
      rw [f_X7_readWord_L18] at hf
      refine lv_aload_n hx hb dX7_readWord_18 rfl (lv_at hl 0 rfl) ?_
      refine x_get (ci := 7) (v := .int (g2 20 0)) (C := RX7) (T := TX7) (N := 44) hx hb hts inX7 hown hK hW 0 rfl rfl 19 (by decide) fl129 (fun _ h9 => h9) rfl dX7_readWord_19 ?_
      refine lv_aload_n hx hb dX7_readWord_22 rfl (lv_at hl 0 rfl) ?_
      refine x_get (ci := 7) (v := .int (g2 16 0)) (C := RX7) (T := TX7) (N := 44) hx hb hts inX7 hown hK hW 0 rfl rfl 15 (by decide) fl112 (fun _ h9 => h9) rfl dX7_readWord_23 ?_
      refine lv_icmp_ge (tgt := 108) hx hb dX7_readWord_26 (by decide) (fun hc => ?_) (fun hc => ?_)
      · replace hf := ifp hc hf
        have hj := Option.some.inj hf
        subst hj
        exact J2 _ _ _ hW (lv_sub hl [] rfl)
      · replace hf := ifn hc hf
        refine lv_aload_n hx hb dX7_readWord_29 rfl (lv_at hl 0 rfl) ?_
        refine x_get (ci := 7) (v := .ref (a 15)) (C := RX7) (T := TX7) (N := 44) hx hb hts inX7 hown hK hW 0 rfl rfl 14 (by decide) fl37 (fun _ h9 => h9) rfl dX7_readWord_30 ?_
        refine lv_aload_n hx hb dX7_readWord_33 rfl (lv_at hl 0 rfl) ?_
        refine x_get (ci := 7) (v := .int (g2 20 0)) (C := RX7) (T := TX7) (N := 44) hx hb hts inX7 hown hK hW 0 rfl rfl 19 (by decide) fl129 (fun _ h9 => h9) rfl dX7_readWord_34 ?_
        replace hf := gd_s hf; obtain ⟨hin, hf⟩ := hf
        refine x_iald (n := 500) (f := g2 15) hx hb hK hW 10 rfl (okI_in hin) dX7_readWord_37 ?_
        refine lv_i2l hx hb dX7_readWord_38 rfl ?_
        refine lv_ldc2 (v := (97 : Int64)) hx hb hown fl132 dX7_readWord_39 ?_
        refine lv_ldc2 (v := (122 : Int64)) hx hb hown fl134 dX7_readWord_42 ?_
        replace hf := bs_ hf; obtain ⟨r3, hcl, hf⟩ := hf
        refine x_callS_i (As := [.long (g2 15 (g2 20 0).toNatClampNeg).toInt64, .long (97 : Int64), .long (122 : Int64)]) (rest := []) ⟨hx, hb, hml, hown, hts⟩ (c_X7_in l N kd G ct ((g2 15 (g2 20 0).toNatClampNeg).toInt64) (97 : Int64) (122 : Int64) _ hcl) (va_cwS 3 hts gX7_readWord_X7_in rfl rfl rfl (by decide +kernel) ⟨Nat.le_of_ble_eq_true rfl, Nat.le_of_ble_eq_true rfl⟩) hK hE hA hW rfl hl.1 rfl (lv_room (Nat.le_of_ble_eq_true rfl)) dX7_readWord_45 (fun H locs hW => ?_)
        refine lv_if_eq (tgt := 108) hx hb dX7_readWord_48 (by decide) (fun hc => ?_) (fun hc => ?_)
        · replace hf := ifp hc hf
          have hj := Option.some.inj hf
          subst hj
          exact J2 _ _ _ hW (lv_sub hl [] rfl)
        · replace hf := ifn hc hf
          refine lv_aload_n hx hb dX7_readWord_51 rfl (lv_at hl 0 rfl) ?_
          refine lv_aload_n hx hb dX7_readWord_52 rfl (lv_at hl 0 rfl) ?_
          refine x_get (ci := 7) (v := .long t2) (C := RX7) (T := TX7) (N := 44) hx hb hts inX7 hown hK hW 0 rfl rfl 18 (by decide) fl125 (fun _ h9 => h9) rfl dX7_readWord_53 ?_
          refine lv_ldc2 (v := (10000000000000 : Int64)) hx hb hown fl136 dX7_readWord_56 ?_
          refine W.lcmp hx hb dX7_readWord_59 ?_
          replace hf := bs_ hf; obtain ⟨j4, hg, hf⟩ := hf
          have J4 : ∀ (H : Heap) (locs : List Loc) (ls : Array Slot), WW G A s.heap (wX7 a ct g2 t2) H locs → lv_has ls 2 [(0, .ref (a 0))] → W p l e ({ frames := 1, cells := 0, slots := 0, locals := 25 } : Room) s m (List.toArray [.ref (a 0)]) below meth c H locs 0 0 (MQ below (va_Qv (fun (_ : Unit) => True) (fun _ t => Af_ G ct (wX7 a ct o.1 o.2) A t) A) (List.toArray [.ref (a 0)]) s 0 0 A) (F0 m 92 ls (.long j4 :: .ref (a 0) :: [])) := by
            intro H locs ls hW hl
            refine x_put (w' := (wX7 a ct g2 j4)) (fs := fsX7 a g2 t2) (ci := 7) (v := .long j4) (ty := .long) (C := RX7) (T := TX7) (N := 44) hx hb hts inX7 tyX7 tyX7_ok nmX7 hown hK hW 0 rfl rfl 18 (by decide) fl125 (fun _ h9 => h9) rfl (by decide +kernel) rfl rfl (Nat.le_of_ble_eq_true rfl) (wp_X7_19 a ct g2 t2 j4) dX7_readWord_92 (fun H locs hW => ?_)
            refine lv_aload_n hx hb dX7_readWord_95 rfl (lv_at hl 0 rfl) ?_
            refine lv_dup hx hb dX7_readWord_96 rfl ?_
            refine x_get (ci := 7) (v := .int (g2 20 0)) (C := RX7) (T := TX7) (N := 44) hx hb hts inX7 hown hK hW 0 rfl rfl 19 (by decide) fl129 (fun _ h9 => h9) rfl dX7_readWord_97 ?_
            refine lv_iconst (v := (1 : Int32)) hx hb dX7_readWord_100 (by decide) ?_
            refine lv_iadd hx hb dX7_readWord_101 ?_
            refine x_put (w' := (wX7 a ct (up1 g2 20 0 ((g2 20 0) + (1 : Int32))) j4)) (fs := fsX7 a g2 j4) (ci := 7) (v := .int ((g2 20 0) + (1 : Int32))) (ty := .int) (C := RX7) (T := TX7) (N := 44) hx hb hts inX7 tyX7 tyX7_ok nmX7 hown hK hW 0 rfl rfl 19 (by decide) fl129 (fun _ h9 => h9) rfl (by decide +kernel) rfl rfl (Nat.le_of_ble_eq_true rfl) (wp_X7_20 a ct g2 j4 ((g2 20 0) + (1 : Int32))) dX7_readWord_102 (fun H locs hW => ?_)
            refine lv_goto (tgt := 18) hx hb dX7_readWord_105 (by decide) ?_
            exact ih (up1 g2 20 0 ((g2 20 0) + (1 : Int32))) j4 hf _ _ _ hW (lv_sub hl [0] rfl)
          clear hf
          refine lv_if_le (tgt := 69) hx hb dX7_readWord_60 (by decide) (fun hc => ?_) (fun hc => ?_)
          · have hf := ifp hc hg
            clear hg
            refine lv_ldc2 (v := (27 : Int64)) hx hb hown fl140 dX7_readWord_69 ?_
            refine lv_aload_n hx hb dX7_readWord_72 rfl (lv_at hl 0 rfl) ?_
            refine x_get (ci := 7) (v := .long t2) (C := RX7) (T := TX7) (N := 44) hx hb hts inX7 hown hK hW 0 rfl rfl 18 (by decide) fl125 (fun _ h9 => h9) rfl dX7_readWord_73 ?_
            refine lv_lmul hx hb dX7_readWord_76 ?_
            refine lv_aload_n hx hb dX7_readWord_77 rfl (lv_at hl 0 rfl) ?_
            refine x_get (ci := 7) (v := .ref (a 15)) (C := RX7) (T := TX7) (N := 44) hx hb hts inX7 hown hK hW 0 rfl rfl 14 (by decide) fl37 (fun _ h9 => h9) rfl dX7_readWord_78 ?_
            refine lv_aload_n hx hb dX7_readWord_81 rfl (lv_at hl 0 rfl) ?_
            refine x_get (ci := 7) (v := .int (g2 20 0)) (C := RX7) (T := TX7) (N := 44) hx hb hts inX7 hown hK hW 0 rfl rfl 19 (by decide) fl129 (fun _ h9 => h9) rfl dX7_readWord_82 ?_
            replace hf := gd_s hf; obtain ⟨hin, hf⟩ := hf
            refine x_iald (n := 500) (f := g2 15) hx hb hK hW 10 rfl (okI_in hin) dX7_readWord_85 ?_
            refine lv_i2l hx hb dX7_readWord_86 rfl ?_
            refine lv_ladd hx hb dX7_readWord_87 ?_
            refine lv_ldc2 (v := (96 : Int64)) hx hb hown fl142 dX7_readWord_88 ?_
            refine lv_lsub hx hb dX7_readWord_91 ?_
            have hj := Option.some.inj hf
            subst hj
            exact J4 _ _ _ hW (lv_sub hl [0] rfl)
          · have hf := ifn hc hg
            clear hg
            refine lv_ldc2 (v := (20000000000000 : Int64)) hx hb hown fl138 dX7_readWord_63 ?_
            refine lv_goto (tgt := 92) hx hb dX7_readWord_66 (by decide) ?_
            have hj := Option.some.inj hf
            subst hj
            exact J4 _ _ _ hW (lv_sub hl [0] rfl)
  exact L2 N (up1 r1.2 20 0 (r1.2 18 0)) (0 : Int64) hg _ _ _ hW (lv_sub hl [1] rfl)
set_option maxHeartbeats 4000000 in
set_option maxRecDepth 100000 in
theorem c_X7_code (l : Launch) (N : Nat) (kd : (Nat → Nat) × (Nat → Nat)) (G : va_G) (ct : Nat → ClassId) (x0 : Int32) (x1 : Int32) (x2 : Int32) (x3 : Int32) (o : Int64) (hf : f_X7_code N x0 x1 x2 x3 = some o) : CtL l yX7_code wsX7_code ({ frames := 0, cells := 0, slots := 0, locals := 0 }) kd G ct [.int x0, .int x1, .int x2, .int x3] ([] : va_W) o ([] : va_W) := by
  intro sz
  refine Met.ofW (cc := cX7_code) (maxL := 4) (ret := (some .long)) (by decide) rfl ?_
  intro p e s m args below meth c s₁ B hml hv
  obtain ⟨rfl, hsz, hP, hK, hD0, hE⟩ := hv
  have hx := B.exec
  have hb := B.bytes
  have hr := B.returns
  have hts := atoms_spec (ws := wsX7_code) B.pre
  have hown : s.vm.findClass RX7 = some m.cls := findClass_of_methodNamed B.named
  have hlocks := B.notSynchronized
  have fl140 := hts (.constantLong RX7 140 (27)) (by decide +kernel)
  have fl142 := hts (.constantLong RX7 142 (96)) (by decide +kernel)
  subst hsz
  have hD := hD0.self (sz := s.heap.size)
  generalize hAe : va_A ([] : va_W) s.heap.size = A at hD hE ⊢
  have hA : ∀ q : Nat, s.heap.size ≤ q → A q := fun q h => by rw [← hAe]; exact Or.inr h
  have hW : WW G A s.heap ([] : va_W) s.heap [] := ⟨hP, hD, va_S.rf⟩
  have hl := lv_entry ([.int x0, .int x1, .int x2, .int x3]) (n := 4) (Nat.le_of_ble_eq_true rfl)
  rw [lg_entry_eq]
  generalize (lg_sl ([.int x0, .int x1, .int x2, .int x3]) ++ List.replicate (4 - (lg_sl ([.int x0, .int x1, .int x2, .int x3])).length) Slot.unset).toArray = ls at hl ⊢
  have hl : lv_has ls 4 [(0, .int x0), (1, .int x1), (2, .int x2), (3, .int x3)] := hl
  unfold f_X7_code at hf
  show W p l e ({ frames := 0, cells := 0, slots := 0, locals := 0 } : Room) s m (List.toArray [.int x0, .int x1, .int x2, .int x3]) below meth c s.heap [] 0 0 (MQ below (va_Ql (fun r (_ : Unit) => r = o) (fun _ t => Af_ G ct ([] : va_W) A t) A) (List.toArray [.int x0, .int x1, .int x2, .int x3]) s 0 0 A) (F0 m 0 ls [])
  refine lv_ldc2 (v := (27 : Int64)) hx hb hown fl140 dX7_code_0 ?_
  refine lv_ldc2 (v := (27 : Int64)) hx hb hown fl140 dX7_code_3 ?_
  refine lv_ldc2 (v := (27 : Int64)) hx hb hown fl140 dX7_code_6 ?_
  refine lv_iload_n hx hb dX7_code_9 rfl (lv_at hl 0 rfl) ?_
  refine lv_i2l hx hb dX7_code_10 rfl ?_
  refine lv_ldc2 (v := (96 : Int64)) hx hb hown fl142 dX7_code_11 ?_
  refine lv_lsub hx hb dX7_code_14 ?_
  refine lv_lmul hx hb dX7_code_15 ?_
  refine lv_iload_n hx hb dX7_code_16 rfl (lv_at hl 1 rfl) ?_
  refine lv_i2l hx hb dX7_code_17 rfl ?_
  refine lv_ladd hx hb dX7_code_18 ?_
  refine lv_ldc2 (v := (96 : Int64)) hx hb hown fl142 dX7_code_19 ?_
  refine lv_lsub hx hb dX7_code_22 ?_
  refine lv_lmul hx hb dX7_code_23 ?_
  refine lv_iload_n hx hb dX7_code_24 rfl (lv_at hl 2 rfl) ?_
  refine lv_i2l hx hb dX7_code_25 rfl ?_
  refine lv_ladd hx hb dX7_code_26 ?_
  refine lv_ldc2 (v := (96 : Int64)) hx hb hown fl142 dX7_code_27 ?_
  refine lv_lsub hx hb dX7_code_30 ?_
  refine lv_lmul hx hb dX7_code_31 ?_
  refine lv_iload_n hx hb dX7_code_32 rfl (lv_at hl 3 rfl) ?_
  refine lv_i2l hx hb dX7_code_33 rfl ?_
  refine lv_ladd hx hb dX7_code_34 ?_
  refine lv_ldc2 (v := (96 : Int64)) hx hb hown fl142 dX7_code_35 ?_
  refine lv_lsub hx hb dX7_code_38 ?_
  have ho := Option.some.inj hf
  subst ho
  exact x_retl hx hb hr hlocks hK hW rfl rfl dX7_code_39
set_option maxHeartbeats 4000000 in
set_option maxRecDepth 100000 in
theorem c_X7_longer (l : Launch) (N : Nat) (kd : (Nat → Nat) × (Nat → Nat)) (G : va_G) (ct : Nat → ClassId) (x0 : Int64) (x2 : Int32) (x3 : Int32) (o : Int64) (hf : f_X7_longer N x0 x2 x3 = some o) : CtL l yX7_longer wsX7_longer ({ frames := 0, cells := 0, slots := 0, locals := 0 }) kd G ct [.long x0, .int x2, .int x3] ([] : va_W) o ([] : va_W) := by
  intro sz
  refine Met.ofW (cc := cX7_longer) (maxL := 4) (ret := (some .long)) (by decide) rfl ?_
  intro p e s m args below meth c s₁ B hml hv
  obtain ⟨rfl, hsz, hP, hK, hD0, hE⟩ := hv
  have hx := B.exec
  have hb := B.bytes
  have hr := B.returns
  have hts := atoms_spec (ws := wsX7_longer) B.pre
  have hown : s.vm.findClass RX7 = some m.cls := findClass_of_methodNamed B.named
  have hlocks := B.notSynchronized
  have fl140 := hts (.constantLong RX7 140 (27)) (by decide +kernel)
  have fl142 := hts (.constantLong RX7 142 (96)) (by decide +kernel)
  subst hsz
  have hD := hD0.self (sz := s.heap.size)
  generalize hAe : va_A ([] : va_W) s.heap.size = A at hD hE ⊢
  have hA : ∀ q : Nat, s.heap.size ≤ q → A q := fun q h => by rw [← hAe]; exact Or.inr h
  have hW : WW G A s.heap ([] : va_W) s.heap [] := ⟨hP, hD, va_S.rf⟩
  have hl := lv_entry ([.long x0, .int x2, .int x3]) (n := 4) (Nat.le_of_ble_eq_true rfl)
  rw [lg_entry_eq]
  generalize (lg_sl ([.long x0, .int x2, .int x3]) ++ List.replicate (4 - (lg_sl ([.long x0, .int x2, .int x3])).length) Slot.unset).toArray = ls at hl ⊢
  have hl : lv_has ls 4 [(0, .long x0), (2, .int x2), (3, .int x3)] := hl
  unfold f_X7_longer at hf
  show W p l e ({ frames := 0, cells := 0, slots := 0, locals := 0 } : Room) s m (List.toArray [.long x0, .int x2, .int x3]) below meth c s.heap [] 0 0 (MQ below (va_Ql (fun r (_ : Unit) => r = o) (fun _ t => Af_ G ct ([] : va_W) A t) A) (List.toArray [.long x0, .int x2, .int x3]) s 0 0 A) (F0 m 0 ls [])
  refine lv_iload_n hx hb dX7_longer_0 rfl (lv_at hl 2 rfl) ?_
  refine lv_if_ne (tgt := 19) hx hb dX7_longer_1 (by decide) (fun hc => ?_) (fun hc => ?_)
  · replace hf := ifn hc hf
    refine lv_ldc2 (v := (27 : Int64)) hx hb hown fl140 dX7_longer_19 ?_
    refine lv_ldc2 (v := (27 : Int64)) hx hb hown fl140 dX7_longer_22 ?_
    refine lv_lload_n hx hb dX7_longer_25 rfl (lv_at hl 0 rfl) ?_
    refine lv_lmul hx hb dX7_longer_26 ?_
    refine lv_iload_n hx hb dX7_longer_27 rfl (lv_at hl 1 rfl) ?_
    refine lv_i2l hx hb dX7_longer_28 rfl ?_
    refine lv_ladd hx hb dX7_longer_29 ?_
    refine lv_ldc2 (v := (96 : Int64)) hx hb hown fl142 dX7_longer_30 ?_
    refine lv_lsub hx hb dX7_longer_33 ?_
    refine lv_lmul hx hb dX7_longer_34 ?_
    refine lv_iload_n hx hb dX7_longer_35 rfl (lv_at hl 2 rfl) ?_
    refine lv_i2l hx hb dX7_longer_36 rfl ?_
    refine lv_ladd hx hb dX7_longer_37 ?_
    refine lv_ldc2 (v := (96 : Int64)) hx hb hown fl142 dX7_longer_38 ?_
    refine lv_lsub hx hb dX7_longer_41 ?_
    have ho := Option.some.inj hf
    subst ho
    exact x_retl hx hb hr hlocks hK hW rfl rfl dX7_longer_42
  · replace hf := ifp hc hf
    refine lv_ldc2 (v := (27 : Int64)) hx hb hown fl140 dX7_longer_4 ?_
    refine lv_lload_n hx hb dX7_longer_7 rfl (lv_at hl 0 rfl) ?_
    refine lv_lmul hx hb dX7_longer_8 ?_
    refine lv_iload_n hx hb dX7_longer_9 rfl (lv_at hl 1 rfl) ?_
    refine lv_i2l hx hb dX7_longer_10 rfl ?_
    refine lv_ladd hx hb dX7_longer_11 ?_
    refine lv_ldc2 (v := (96 : Int64)) hx hb hown fl142 dX7_longer_12 ?_
    refine lv_lsub hx hb dX7_longer_15 ?_
    refine lv_goto (tgt := 42) hx hb dX7_longer_16 (by decide) ?_
    have ho := Option.some.inj hf
    subst ho
    exact x_retl hx hb hr hlocks hK hW rfl rfl dX7_longer_42
set_option maxHeartbeats 4000000 in
set_option maxRecDepth 100000 in
theorem c_X7_takeNumber (l : Launch) (N : Nat) (kd : (Nat → Nat) × (Nat → Nat)) (G : va_G) (ct : Nat → ClassId) (a : Nat → Nat) (g : St_) (sg : Int64) (x1 : Int32) (x2 : Int32) (o : (Int32 × St_)) (hf : f_X7_takeNumber N g x1 x2 = some o) : CtI l yX7_takeNumber wsX7_takeNumber ({ frames := 1, cells := 0, slots := 0, locals := 25 }) kd G ct [.ref (a 0), .int x1, .int x2] (wX7 a ct g sg) o.1 (wX7 a ct o.2 sg) := by
  intro sz
  refine Met.ofW (cc := cX7_takeNumber) (maxL := 4) (ret := (some .int)) (by decide) rfl ?_
  intro p e s m args below meth c s₁ B hml hv
  obtain ⟨rfl, hsz, hP, hK, hD0, hE⟩ := hv
  have hx := B.exec
  have hb := B.bytes
  have hr := B.returns
  have hts := atoms_spec (ws := wsX7_takeNumber) B.pre
  have hown : s.vm.findClass RX7 = some m.cls := findClass_of_methodNamed B.named
  have hlocks := B.notSynchronized
  have inX7 : ∀ w ∈ wsX70, w ∈ wsX7_takeNumber := by decide +kernel
  have fl37 := hts (.fieldLink RX7 37 "FittingStridesModel" "text" "[I") (by decide +kernel)
  have fl112 := hts (.fieldLink RX7 112 "FittingStridesModel" "texted" "I") (by decide +kernel)
  have fl118 := hts (.fieldLink RX7 118 "FittingStridesModel" "at0" "I") (by decide +kernel)
  have fl144 := hts (.constantLong RX7 144 (48)) (by decide +kernel)
  have fl146 := hts (.constantLong RX7 146 (57)) (by decide +kernel)
  have fl152 := hts (.fieldLink RX7 152 "FittingStridesModel" "numberAt" "I") (by decide +kernel)
  have fl155 := hts (.fieldLink RX7 155 "FittingStridesModel" "number" "I") (by decide +kernel)
  subst hsz
  have hD := hD0.self (sz := s.heap.size)
  generalize hAe : va_A (wX7 a ct g sg) s.heap.size = A at hD hE ⊢
  have hA : ∀ q : Nat, s.heap.size ≤ q → A q := fun q h => by rw [← hAe]; exact Or.inr h
  have hW : WW G A s.heap (wX7 a ct g sg) s.heap [] := ⟨hP, hD, va_S.rf⟩
  have hl := lv_entry ([.ref (a 0), .int x1, .int x2]) (n := 4) (Nat.le_of_ble_eq_true rfl)
  rw [lg_entry_eq]
  generalize (lg_sl ([.ref (a 0), .int x1, .int x2]) ++ List.replicate (4 - (lg_sl ([.ref (a 0), .int x1, .int x2])).length) Slot.unset).toArray = ls at hl ⊢
  have hl : lv_has ls 4 [(0, .ref (a 0)), (1, .int x1), (2, .int x2)] := hl
  unfold f_X7_takeNumber at hf
  show W p l e ({ frames := 1, cells := 0, slots := 0, locals := 25 } : Room) s m (List.toArray [.ref (a 0), .int x1, .int x2]) below meth c s.heap [] 0 0 (MQ below (va_Qi (fun r (_ : Unit) => r = o.1) (fun _ t => Af_ G ct (wX7 a ct o.2 sg) A t) A) (List.toArray [.ref (a 0), .int x1, .int x2]) s 0 0 A) (F0 m 0 ls [])
  refine lv_aload_n hx hb dX7_takeNumber_0 rfl (lv_at hl 0 rfl) ?_
  replace hf := bs_ hf; obtain ⟨r1, hcl, hf⟩ := hf
  refine x_callW_i (w' := (wX7 a ct r1.2 sg)) (As := []) (rest := []) (ci := 7) ⟨hx, hb, hml, hown, hts⟩ (c_X7_here l N kd G ct a g sg _ hcl) (cwV 0 hts gX7_takeNumber_X7_here rfl rfl rfl (by decide +kernel) ⟨Nat.le_of_ble_eq_true rfl, Nat.le_of_ble_eq_true rfl⟩) hK hE hA hW rfl rfl 0 rfl rfl rfl rfl hl.1 rfl (lv_room (Nat.le_of_ble_eq_true rfl)) dX7_takeNumber_1 (fun H locs hW => ?_)
  refine lv_istore_n (lv' := [(3, .int r1.1), (0, .ref (a 0)), (1, .int x1), (2, .int x2)]) hx hb dX7_takeNumber_4 rfl hl (by decide) rfl (fun ls hl => ?_)
  refine lv_iload_n hx hb dX7_takeNumber_5 rfl (lv_at hl 0 rfl) ?_
  refine lv_i2l hx hb dX7_takeNumber_6 rfl ?_
  refine lv_ldc2 (v := (48 : Int64)) hx hb hown fl144 dX7_takeNumber_7 ?_
  refine lv_ldc2 (v := (57 : Int64)) hx hb hown fl146 dX7_takeNumber_10 ?_
  replace hf := bs_ hf; obtain ⟨r2, hcl, hf⟩ := hf
  refine x_callS_i (As := [.long r1.1.toInt64, .long (48 : Int64), .long (57 : Int64)]) (rest := []) ⟨hx, hb, hml, hown, hts⟩ (c_X7_in l N kd G ct r1.1.toInt64 (48 : Int64) (57 : Int64) _ hcl) (va_cwS 3 hts gX7_takeNumber_X7_in rfl rfl rfl (by decide +kernel) ⟨Nat.le_of_ble_eq_true rfl, Nat.le_of_ble_eq_true rfl⟩) hK hE hA hW rfl hl.1 rfl (lv_room (Nat.le_of_ble_eq_true rfl)) dX7_takeNumber_13 (fun H locs hW => ?_)
  refine lv_if_ne (tgt := 29) hx hb dX7_takeNumber_16 (by decide) (fun hc => ?_) (fun hc => ?_)
  · replace hf := ifn hc hf
    refine lv_aload_n hx hb dX7_takeNumber_29 rfl (lv_at hl 1 rfl) ?_
    refine lv_aload_n hx hb dX7_takeNumber_30 rfl (lv_at hl 1 rfl) ?_
    refine x_get (ci := 7) (v := .int (r1.2 18 0)) (C := RX7) (T := TX7) (N := 44) hx hb hts inX7 hown hK hW 0 rfl rfl 17 (by decide) fl118 (fun _ h9 => h9) rfl dX7_takeNumber_31 ?_
    refine x_put (w' := (wX7 a ct (up1 r1.2 22 0 (r1.2 18 0)) sg)) (fs := fsX7 a r1.2 sg) (ci := 7) (v := .int (r1.2 18 0)) (ty := .int) (C := RX7) (T := TX7) (N := 44) hx hb hts inX7 tyX7 tyX7_ok nmX7 hown hK hW 0 rfl rfl 21 (by decide) fl152 (fun _ h9 => h9) rfl (by decide +kernel) rfl rfl (Nat.le_of_ble_eq_true rfl) (wp_X7_22 a ct r1.2 sg (r1.2 18 0)) dX7_takeNumber_34 (fun H locs hW => ?_)
    refine lv_aload_n hx hb dX7_takeNumber_37 rfl (lv_at hl 1 rfl) ?_
    refine lv_iconst (v := (0 : Int32)) hx hb dX7_takeNumber_38 (by decide) ?_
    refine x_put (w' := (wX7 a ct (up1 (up1 r1.2 22 0 (r1.2 18 0)) 21 0 (0 : Int32)) sg)) (fs := fsX7 a (up1 r1.2 22 0 (r1.2 18 0)) sg) (ci := 7) (v := .int (0 : Int32)) (ty := .int) (C := RX7) (T := TX7) (N := 44) hx hb hts inX7 tyX7 tyX7_ok nmX7 hown hK hW 0 rfl rfl 20 (by decide) fl155 (fun _ h9 => h9) rfl (by decide +kernel) rfl rfl (Nat.le_of_ble_eq_true rfl) (wp_X7_21 a ct (up1 r1.2 22 0 (r1.2 18 0)) sg (0 : Int32)) dX7_takeNumber_39 (fun H locs hW => ?_)
    replace hf := bs_ hf; obtain ⟨v3, hg, hf⟩ := hf
    have J3 : ∀ (H : Heap) (locs : List Loc) (ls : Array Slot), WW G A s.heap (wX7 a ct v3 sg) H locs → lv_has ls 4 [(0, .ref (a 0)), (1, .int x1), (2, .int x2)] → W p l e ({ frames := 1, cells := 0, slots := 0, locals := 25 } : Room) s m (List.toArray [.ref (a 0), .int x1, .int x2]) below meth c H locs 0 0 (MQ below (va_Qi (fun r (_ : Unit) => r = o.1) (fun _ t => Af_ G ct (wX7 a ct o.2 sg) A t) A) (List.toArray [.ref (a 0), .int x1, .int x2]) s 0 0 A) (F0 m 129 ls []) := by
      intro H locs ls hW hl
      refine lv_aload_n hx hb dX7_takeNumber_129 rfl (lv_at hl 0 rfl) ?_
      refine x_get (ci := 7) (v := .int (v3 18 0)) (C := RX7) (T := TX7) (N := 44) hx hb hts inX7 hown hK hW 0 rfl rfl 17 (by decide) fl118 (fun _ h9 => h9) rfl dX7_takeNumber_130 ?_
      refine lv_aload_n hx hb dX7_takeNumber_133 rfl (lv_at hl 0 rfl) ?_
      refine x_get (ci := 7) (v := .int (v3 22 0)) (C := RX7) (T := TX7) (N := 44) hx hb hts inX7 hown hK hW 0 rfl rfl 21 (by decide) fl152 (fun _ h9 => h9) rfl dX7_takeNumber_134 ?_
      refine lv_isub hx hb dX7_takeNumber_137 ?_
      refine lv_iconst (v := (3 : Int32)) hx hb dX7_takeNumber_138 (by decide) ?_
      refine lv_icmp_gt (tgt := 157) hx hb dX7_takeNumber_139 (by decide) (fun hc => ?_) (fun hc => ?_)
      · replace hf := ifp hc hf
        refine lv_aload_n hx hb dX7_takeNumber_157 rfl (lv_at hl 0 rfl) ?_
        refine lv_iconst (v := (2 : Int32)) hx hb dX7_takeNumber_158 (by decide) ?_
        refine lv_aload_n hx hb dX7_takeNumber_159 rfl (lv_at hl 0 rfl) ?_
        refine x_get (ci := 7) (v := .int (v3 22 0)) (C := RX7) (T := TX7) (N := 44) hx hb hts inX7 hown hK hW 0 rfl rfl 21 (by decide) fl152 (fun _ h9 => h9) rfl dX7_takeNumber_160 ?_
        replace hf := bs_ hf; obtain ⟨r6, hcl, hf⟩ := hf
        refine x_callW_i (w' := (wX7 a ct r6.2 sg)) (As := [.int (2 : Int32), .int (v3 22 0)]) (rest := []) (ci := 7) ⟨hx, hb, hml, hown, hts⟩ (c_X7_fails l N kd G ct a v3 sg (2 : Int32) (v3 22 0) _ hcl) (cwV 2 hts gX7_takeNumber_X7_fails rfl rfl rfl (by decide +kernel) ⟨Nat.le_of_ble_eq_true rfl, Nat.le_of_ble_eq_true rfl⟩) hK hE hA hW rfl rfl 0 rfl rfl rfl rfl hl.1 rfl (lv_room (Nat.le_of_ble_eq_true rfl)) dX7_takeNumber_163 (fun H locs hW => ?_)
        refine lv_goto (tgt := 170) hx hb dX7_takeNumber_166 (by decide) ?_
        have ho := Option.some.inj hf
        subst ho
        exact x_reti (sz := 0) (w0 := []) (A1 := A) hx hb hr hlocks hK hW rfl rfl dX7_takeNumber_170
      · replace hf := ifn hc hf
        refine lv_aload_n hx hb dX7_takeNumber_142 rfl (lv_at hl 0 rfl) ?_
        refine x_get (ci := 7) (v := .int (v3 21 0)) (C := RX7) (T := TX7) (N := 44) hx hb hts inX7 hown hK hW 0 rfl rfl 20 (by decide) fl155 (fun _ h9 => h9) rfl dX7_takeNumber_143 ?_
        refine lv_i2l hx hb dX7_takeNumber_146 rfl ?_
        refine lv_iload_n hx hb dX7_takeNumber_147 rfl (lv_at hl 1 rfl) ?_
        refine lv_i2l hx hb dX7_takeNumber_148 rfl ?_
        refine lv_iload_n hx hb dX7_takeNumber_149 rfl (lv_at hl 2 rfl) ?_
        refine lv_i2l hx hb dX7_takeNumber_150 rfl ?_
        replace hf := bs_ hf; obtain ⟨r7, hcl, hf⟩ := hf
        refine x_callS_i (As := [.long (v3 21 0).toInt64, .long x1.toInt64, .long x2.toInt64]) (rest := []) ⟨hx, hb, hml, hown, hts⟩ (c_X7_in l N kd G ct ((v3 21 0).toInt64) x1.toInt64 x2.toInt64 _ hcl) (va_cwS 3 hts gX7_takeNumber_X7_in rfl rfl rfl (by decide +kernel) ⟨Nat.le_of_ble_eq_true rfl, Nat.le_of_ble_eq_true rfl⟩) hK hE hA hW rfl hl.1 rfl (lv_room (Nat.le_of_ble_eq_true rfl)) dX7_takeNumber_151 (fun H locs hW => ?_)
        refine lv_if_ne (tgt := 169) hx hb dX7_takeNumber_154 (by decide) (fun hc => ?_) (fun hc => ?_)
        · replace hf := ifn hc hf
          refine lv_iconst (v := (0 : Int32)) hx hb dX7_takeNumber_169 (by decide) ?_
          have ho := Option.some.inj hf
          subst ho
          exact x_reti (sz := 0) (w0 := []) (A1 := A) hx hb hr hlocks hK hW rfl rfl dX7_takeNumber_170
        · replace hf := ifp hc hf
          refine lv_aload_n hx hb dX7_takeNumber_157 rfl (lv_at hl 0 rfl) ?_
          refine lv_iconst (v := (2 : Int32)) hx hb dX7_takeNumber_158 (by decide) ?_
          refine lv_aload_n hx hb dX7_takeNumber_159 rfl (lv_at hl 0 rfl) ?_
          refine x_get (ci := 7) (v := .int (v3 22 0)) (C := RX7) (T := TX7) (N := 44) hx hb hts inX7 hown hK hW 0 rfl rfl 21 (by decide) fl152 (fun _ h9 => h9) rfl dX7_takeNumber_160 ?_
          replace hf := bs_ hf; obtain ⟨r8, hcl, hf⟩ := hf
          refine x_callW_i (w' := (wX7 a ct r8.2 sg)) (As := [.int (2 : Int32), .int (v3 22 0)]) (rest := []) (ci := 7) ⟨hx, hb, hml, hown, hts⟩ (c_X7_fails l N kd G ct a v3 sg (2 : Int32) (v3 22 0) _ hcl) (cwV 2 hts gX7_takeNumber_X7_fails rfl rfl rfl (by decide +kernel) ⟨Nat.le_of_ble_eq_true rfl, Nat.le_of_ble_eq_true rfl⟩) hK hE hA hW rfl rfl 0 rfl rfl rfl rfl hl.1 rfl (lv_room (Nat.le_of_ble_eq_true rfl)) dX7_takeNumber_163 (fun H locs hW => ?_)
          refine lv_goto (tgt := 170) hx hb dX7_takeNumber_166 (by decide) ?_
          have ho := Option.some.inj hf
          subst ho
          exact x_reti (sz := 0) (w0 := []) (A1 := A) hx hb hr hlocks hK hW rfl rfl dX7_takeNumber_170
    clear hf
    have L3 : ∀ (n : Nat) (g3 : St_), f_X7_takeNumber_L42 N n g3 = some v3 → ∀ (H : Heap) (locs : List Loc) (ls : Array Slot), WW G A s.heap (wX7 a ct g3 sg) H locs → lv_has ls 4 [(0, .ref (a 0)), (1, .int x1), (2, .int x2)] → W p l e ({ frames := 1, cells := 0, slots := 0, locals := 25 } : Room) s m (List.toArray [.ref (a 0), .int x1, .int x2]) below meth c H locs 0 0 (MQ below (va_Qi (fun r (_ : Unit) => r = o.1) (fun _ t => Af_ G ct (wX7 a ct o.2 sg) A t) A) (List.toArray [.ref (a 0), .int x1, .int x2]) s 0 0 A) (F0 m 42 ls []) := by
      intro n
      induction n with
      | zero =>
        intro g3 hf
        rw [f_X7_takeNumber_L42] at hf
        cases hf
      | succ n ih =>
        intro g3 hf H locs ls hW hl
        rw [f_X7_takeNumber_L42] at hf
        refine lv_aload_n hx hb dX7_takeNumber_42 rfl (lv_at hl 0 rfl) ?_
        refine x_get (ci := 7) (v := .int (g3 18 0)) (C := RX7) (T := TX7) (N := 44) hx hb hts inX7 hown hK hW 0 rfl rfl 17 (by decide) fl118 (fun _ h9 => h9) rfl dX7_takeNumber_43 ?_
        refine lv_aload_n hx hb dX7_takeNumber_46 rfl (lv_at hl 0 rfl) ?_
        refine x_get (ci := 7) (v := .int (g3 16 0)) (C := RX7) (T := TX7) (N := 44) hx hb hts inX7 hown hK hW 0 rfl rfl 15 (by decide) fl112 (fun _ h9 => h9) rfl dX7_takeNumber_47 ?_
        refine lv_icmp_ge (tgt := 129) hx hb dX7_takeNumber_50 (by decide) (fun hc => ?_) (fun hc => ?_)
        · replace hf := ifp hc hf
          have hj := Option.some.inj hf
          subst hj
          exact J3 _ _ _ hW (lv_sub hl [0, 1, 2] rfl)
        · replace hf := ifn hc hf
          refine lv_aload_n hx hb dX7_takeNumber_53 rfl (lv_at hl 0 rfl) ?_
          refine x_get (ci := 7) (v := .ref (a 15)) (C := RX7) (T := TX7) (N := 44) hx hb hts inX7 hown hK hW 0 rfl rfl 14 (by decide) fl37 (fun _ h9 => h9) rfl dX7_takeNumber_54 ?_
          refine lv_aload_n hx hb dX7_takeNumber_57 rfl (lv_at hl 0 rfl) ?_
          refine x_get (ci := 7) (v := .int (g3 18 0)) (C := RX7) (T := TX7) (N := 44) hx hb hts inX7 hown hK hW 0 rfl rfl 17 (by decide) fl118 (fun _ h9 => h9) rfl dX7_takeNumber_58 ?_
          replace hf := gd_s hf; obtain ⟨hin, hf⟩ := hf
          refine x_iald (n := 500) (f := g3 15) hx hb hK hW 10 rfl (okI_in hin) dX7_takeNumber_61 ?_
          refine lv_i2l hx hb dX7_takeNumber_62 rfl ?_
          refine lv_ldc2 (v := (48 : Int64)) hx hb hown fl144 dX7_takeNumber_63 ?_
          refine lv_ldc2 (v := (57 : Int64)) hx hb hown fl146 dX7_takeNumber_66 ?_
          replace hf := bs_ hf; obtain ⟨r4, hcl, hf⟩ := hf
          refine x_callS_i (As := [.long (g3 15 (g3 18 0).toNatClampNeg).toInt64, .long (48 : Int64), .long (57 : Int64)]) (rest := []) ⟨hx, hb, hml, hown, hts⟩ (c_X7_in l N kd G ct ((g3 15 (g3 18 0).toNatClampNeg).toInt64) (48 : Int64) (57 : Int64) _ hcl) (va_cwS 3 hts gX7_takeNumber_X7_in rfl rfl rfl (by decide +kernel) ⟨Nat.le_of_ble_eq_true rfl, Nat.le_of_ble_eq_true rfl⟩) hK hE hA hW rfl hl.1 rfl (lv_room (Nat.le_of_ble_eq_true rfl)) dX7_takeNumber_69 (fun H locs hW => ?_)
          refine lv_if_eq (tgt := 129) hx hb dX7_takeNumber_72 (by decide) (fun hc => ?_) (fun hc => ?_)
          · replace hf := ifp hc hf
            have hj := Option.some.inj hf
            subst hj
            exact J3 _ _ _ hW (lv_sub hl [0, 1, 2] rfl)
          · replace hf := ifn hc hf
            refine lv_aload_n hx hb dX7_takeNumber_75 rfl (lv_at hl 0 rfl) ?_
            refine lv_aload_n hx hb dX7_takeNumber_76 rfl (lv_at hl 0 rfl) ?_
            refine x_get (ci := 7) (v := .int (g3 21 0)) (C := RX7) (T := TX7) (N := 44) hx hb hts inX7 hown hK hW 0 rfl rfl 20 (by decide) fl155 (fun _ h9 => h9) rfl dX7_takeNumber_77 ?_
            refine lv_sipush (v := (10000 : Int32)) hx hb dX7_takeNumber_80 (by decide) ?_
            replace hf := bs_ hf; obtain ⟨j5, hg, hf⟩ := hf
            have J5 : ∀ (H : Heap) (locs : List Loc) (ls : Array Slot), WW G A s.heap (wX7 a ct g3 sg) H locs → lv_has ls 4 [(0, .ref (a 0)), (1, .int x1), (2, .int x2)] → W p l e ({ frames := 1, cells := 0, slots := 0, locals := 25 } : Room) s m (List.toArray [.ref (a 0), .int x1, .int x2]) below meth c H locs 0 0 (MQ below (va_Qi (fun r (_ : Unit) => r = o.1) (fun _ t => Af_ G ct (wX7 a ct o.2 sg) A t) A) (List.toArray [.ref (a 0), .int x1, .int x2]) s 0 0 A) (F0 m 113 ls (.int j5 :: .ref (a 0) :: [])) := by
              intro H locs ls hW hl
              refine x_put (w' := (wX7 a ct (up1 g3 21 0 j5) sg)) (fs := fsX7 a g3 sg) (ci := 7) (v := .int j5) (ty := .int) (C := RX7) (T := TX7) (N := 44) hx hb hts inX7 tyX7 tyX7_ok nmX7 hown hK hW 0 rfl rfl 20 (by decide) fl155 (fun _ h9 => h9) rfl (by decide +kernel) rfl rfl (Nat.le_of_ble_eq_true rfl) (wp_X7_21 a ct g3 sg j5) dX7_takeNumber_113 (fun H locs hW => ?_)
              refine lv_aload_n hx hb dX7_takeNumber_116 rfl (lv_at hl 0 rfl) ?_
              refine lv_dup hx hb dX7_takeNumber_117 rfl ?_
              refine x_get (ci := 7) (v := .int (g3 18 0)) (C := RX7) (T := TX7) (N := 44) hx hb hts inX7 hown hK hW 0 rfl rfl 17 (by decide) fl118 (fun _ h9 => h9) rfl dX7_takeNumber_118 ?_
              refine lv_iconst (v := (1 : Int32)) hx hb dX7_takeNumber_121 (by decide) ?_
              refine lv_iadd hx hb dX7_takeNumber_122 ?_
              refine x_put (w' := (wX7 a ct (up1 (up1 g3 21 0 j5) 18 0 ((g3 18 0) + (1 : Int32))) sg)) (fs := fsX7 a (up1 g3 21 0 j5) sg) (ci := 7) (v := .int ((g3 18 0) + (1 : Int32))) (ty := .int) (C := RX7) (T := TX7) (N := 44) hx hb hts inX7 tyX7 tyX7_ok nmX7 hown hK hW 0 rfl rfl 17 (by decide) fl118 (fun _ h9 => h9) rfl (by decide +kernel) rfl rfl (Nat.le_of_ble_eq_true rfl) (wp_X7_18 a ct (up1 g3 21 0 j5) sg ((g3 18 0) + (1 : Int32))) dX7_takeNumber_123 (fun H locs hW => ?_)
              refine lv_goto (tgt := 42) hx hb dX7_takeNumber_126 (by decide) ?_
              exact ih (up1 (up1 g3 21 0 j5) 18 0 ((g3 18 0) + (1 : Int32))) hf _ _ _ hW (lv_sub hl [0, 1, 2] rfl)
            clear hf
            refine lv_icmp_le (tgt := 93) hx hb dX7_takeNumber_83 (by decide) (fun hc => ?_) (fun hc => ?_)
            · have hf := ifp hc hg
              clear hg
              refine lv_bipush (v := (10 : Int32)) hx hb dX7_takeNumber_93 (by decide) ?_
              refine lv_aload_n hx hb dX7_takeNumber_95 rfl (lv_at hl 0 rfl) ?_
              refine x_get (ci := 7) (v := .int (g3 21 0)) (C := RX7) (T := TX7) (N := 44) hx hb hts inX7 hown hK hW 0 rfl rfl 20 (by decide) fl155 (fun _ h9 => h9) rfl dX7_takeNumber_96 ?_
              refine lv_imul hx hb dX7_takeNumber_99 ?_
              refine lv_aload_n hx hb dX7_takeNumber_100 rfl (lv_at hl 0 rfl) ?_
              refine x_get (ci := 7) (v := .ref (a 15)) (C := RX7) (T := TX7) (N := 44) hx hb hts inX7 hown hK hW 0 rfl rfl 14 (by decide) fl37 (fun _ h9 => h9) rfl dX7_takeNumber_101 ?_
              refine lv_aload_n hx hb dX7_takeNumber_104 rfl (lv_at hl 0 rfl) ?_
              refine x_get (ci := 7) (v := .int (g3 18 0)) (C := RX7) (T := TX7) (N := 44) hx hb hts inX7 hown hK hW 0 rfl rfl 17 (by decide) fl118 (fun _ h9 => h9) rfl dX7_takeNumber_105 ?_
              replace hf := gd_s hf; obtain ⟨hin, hf⟩ := hf
              refine x_iald (n := 500) (f := g3 15) hx hb hK hW 10 rfl (okI_in hin) dX7_takeNumber_108 ?_
              refine lv_iadd hx hb dX7_takeNumber_109 ?_
              refine lv_bipush (v := (48 : Int32)) hx hb dX7_takeNumber_110 (by decide) ?_
              refine lv_isub hx hb dX7_takeNumber_112 ?_
              have hj := Option.some.inj hf
              subst hj
              exact J5 _ _ _ hW (lv_sub hl [0, 1, 2] rfl)
            · have hf := ifn hc hg
              clear hg
              refine lv_aload_n hx hb dX7_takeNumber_86 rfl (lv_at hl 0 rfl) ?_
              refine x_get (ci := 7) (v := .int (g3 21 0)) (C := RX7) (T := TX7) (N := 44) hx hb hts inX7 hown hK hW 0 rfl rfl 20 (by decide) fl155 (fun _ h9 => h9) rfl dX7_takeNumber_87 ?_
              refine lv_goto (tgt := 113) hx hb dX7_takeNumber_90 (by decide) ?_
              have hj := Option.some.inj hf
              subst hj
              exact J5 _ _ _ hW (lv_sub hl [0, 1, 2] rfl)
    exact L3 N (up1 (up1 r1.2 22 0 (r1.2 18 0)) 21 0 (0 : Int32)) hg _ _ _ hW (lv_sub hl [1, 2, 3] rfl)
  · replace hf := ifp hc hf
    refine lv_aload_n hx hb dX7_takeNumber_19 rfl (lv_at hl 1 rfl) ?_
    refine lv_iconst (v := (1 : Int32)) hx hb dX7_takeNumber_20 (by decide) ?_
    refine lv_aload_n hx hb dX7_takeNumber_21 rfl (lv_at hl 1 rfl) ?_
    refine x_get (ci := 7) (v := .int (r1.2 18 0)) (C := RX7) (T := TX7) (N := 44) hx hb hts inX7 hown hK hW 0 rfl rfl 17 (by decide) fl118 (fun _ h9 => h9) rfl dX7_takeNumber_22 ?_
    replace hf := bs_ hf; obtain ⟨r9, hcl, hf⟩ := hf
    refine x_callW_i (w' := (wX7 a ct r9.2 sg)) (As := [.int (1 : Int32), .int (r1.2 18 0)]) (rest := []) (ci := 7) ⟨hx, hb, hml, hown, hts⟩ (c_X7_fails l N kd G ct a r1.2 sg (1 : Int32) (r1.2 18 0) _ hcl) (cwV 2 hts gX7_takeNumber_X7_fails rfl rfl rfl (by decide +kernel) ⟨Nat.le_of_ble_eq_true rfl, Nat.le_of_ble_eq_true rfl⟩) hK hE hA hW rfl rfl 0 rfl rfl rfl rfl hl.1 rfl (lv_room (Nat.le_of_ble_eq_true rfl)) dX7_takeNumber_25 (fun H locs hW => ?_)
    have ho := Option.some.inj hf
    subst ho
    exact x_reti (sz := 0) (w0 := []) (A1 := A) hx hb hr hlocks hK hW rfl rfl dX7_takeNumber_28
set_option maxHeartbeats 4000000 in
set_option maxRecDepth 100000 in
theorem c_X7_into__26 (l : Launch) (N : Nat) (kd : (Nat → Nat) × (Nat → Nat)) (G : va_G) (ct : Nat → ClassId) (a : Nat → Nat) (g : St_) (sg : Int64) (x2 : Int32) (x3 : Int32) (x4 : Int32) (o : (Int32 × St_)) (hf : f_X7_into__26 N g x2 x3 x4 = some o) : CtI l yX7_into wsX7_into ({ frames := 2, cells := 0, slots := 0, locals := 48 }) kd G ct [.ref (a 0), .ref (a 26), .int x2, .int x3, .int x4] (wX7 a ct g sg) o.1 (wX7 a ct o.2 sg) := by
  intro sz
  refine Met.ofW (cc := cX7_into) (maxL := 6) (ret := (some .int)) (by decide) rfl ?_
  intro p e s m args below meth c s₁ B hml hv
  obtain ⟨rfl, hsz, hP, hK, hD0, hE⟩ := hv
  have hx := B.exec
  have hb := B.bytes
  have hr := B.returns
  have hts := atoms_spec (ws := wsX7_into) B.pre
  have hown : s.vm.findClass RX7 = some m.cls := findClass_of_methodNamed B.named
  have hlocks := B.notSynchronized
  have inX7 : ∀ w ∈ wsX70, w ∈ wsX7_into := by decide +kernel
  have fl155 := hts (.fieldLink RX7 155 "FittingStridesModel" "number" "I") (by decide +kernel)
  subst hsz
  have hD := hD0.self (sz := s.heap.size)
  generalize hAe : va_A (wX7 a ct g sg) s.heap.size = A at hD hE ⊢
  have hA : ∀ q : Nat, s.heap.size ≤ q → A q := fun q h => by rw [← hAe]; exact Or.inr h
  have hW : WW G A s.heap (wX7 a ct g sg) s.heap [] := ⟨hP, hD, va_S.rf⟩
  have hl := lv_entry ([.ref (a 0), .ref (a 26), .int x2, .int x3, .int x4]) (n := 6) (Nat.le_of_ble_eq_true rfl)
  rw [lg_entry_eq]
  generalize (lg_sl ([.ref (a 0), .ref (a 26), .int x2, .int x3, .int x4]) ++ List.replicate (6 - (lg_sl ([.ref (a 0), .ref (a 26), .int x2, .int x3, .int x4])).length) Slot.unset).toArray = ls at hl ⊢
  have hl : lv_has ls 6 [(0, .ref (a 0)), (1, .ref (a 26)), (2, .int x2), (3, .int x3), (4, .int x4)] := hl
  unfold f_X7_into__26 at hf
  show W p l e ({ frames := 2, cells := 0, slots := 0, locals := 48 } : Room) s m (List.toArray [.ref (a 0), .ref (a 26), .int x2, .int x3, .int x4]) below meth c s.heap [] 0 0 (MQ below (va_Qi (fun r (_ : Unit) => r = o.1) (fun _ t => Af_ G ct (wX7 a ct o.2 sg) A t) A) (List.toArray [.ref (a 0), .ref (a 26), .int x2, .int x3, .int x4]) s 0 0 A) (F0 m 0 ls [])
  refine lv_aload_n hx hb dX7_into_0 rfl (lv_at hl 0 rfl) ?_
  refine lv_iload_n hx hb dX7_into_1 rfl (lv_at hl 3 rfl) ?_
  refine lv_iload hx hb dX7_into_2 (lv_at hl 4 rfl) ?_
  replace hf := bs_ hf; obtain ⟨r1, hcl, hf⟩ := hf
  refine x_callW_i (w' := (wX7 a ct r1.2 sg)) (As := [.int x3, .int x4]) (rest := []) (ci := 7) ⟨hx, hb, hml, hown, hts⟩ (c_X7_takeNumber l N kd G ct a g sg x3 x4 _ hcl) (cwV 2 hts gX7_into_X7_takeNumber rfl rfl rfl (by decide +kernel) ⟨Nat.le_of_ble_eq_true rfl, Nat.le_of_ble_eq_true rfl⟩) hK hE hA hW rfl rfl 0 rfl rfl rfl rfl hl.1 rfl (lv_room (Nat.le_of_ble_eq_true rfl)) dX7_into_4 (fun H locs hW => ?_)
  refine lv_istore (lv' := [(5, .int r1.1), (0, .ref (a 0)), (1, .ref (a 26)), (2, .int x2), (3, .int x3), (4, .int x4)]) hx hb dX7_into_7 hl (by decide) rfl (fun ls hl => ?_)
  refine lv_aload_n hx hb dX7_into_9 rfl (lv_at hl 2 rfl) ?_
  refine lv_iload_n hx hb dX7_into_10 rfl (lv_at hl 3 rfl) ?_
  refine lv_aload_n hx hb dX7_into_11 rfl (lv_at hl 1 rfl) ?_
  refine x_get (ci := 7) (v := .int (r1.2 21 0)) (C := RX7) (T := TX7) (N := 44) hx hb hts inX7 hown hK hW 0 rfl rfl 20 (by decide) fl155 (fun _ h9 => h9) rfl dX7_into_12 ?_
  replace hf := gd_s hf; obtain ⟨hin, hf⟩ := hf
  refine x_iast (w' := (wX7 a ct (up1 r1.2 26 x2.toNatClampNeg (r1.2 21 0)) sg)) (n := 10) (f := r1.2 26) hx hb hK hW 12 rfl (okI_in hin) (ws_X7_26 a ct r1.2 sg _ _) dX7_into_15 (fun H locs hW => ?_)
  refine lv_iload hx hb dX7_into_16 (lv_at hl 0 rfl) ?_
  have ho := Option.some.inj hf
  subst ho
  exact x_reti (sz := 0) (w0 := []) (A1 := A) hx hb hr hlocks hK hW rfl rfl dX7_into_18
set_option maxHeartbeats 4000000 in
set_option maxRecDepth 100000 in
theorem c_X7_into__27 (l : Launch) (N : Nat) (kd : (Nat → Nat) × (Nat → Nat)) (G : va_G) (ct : Nat → ClassId) (a : Nat → Nat) (g : St_) (sg : Int64) (x2 : Int32) (x3 : Int32) (x4 : Int32) (o : (Int32 × St_)) (hf : f_X7_into__27 N g x2 x3 x4 = some o) : CtI l yX7_into wsX7_into ({ frames := 2, cells := 0, slots := 0, locals := 48 }) kd G ct [.ref (a 0), .ref (a 27), .int x2, .int x3, .int x4] (wX7 a ct g sg) o.1 (wX7 a ct o.2 sg) := by
  intro sz
  refine Met.ofW (cc := cX7_into) (maxL := 6) (ret := (some .int)) (by decide) rfl ?_
  intro p e s m args below meth c s₁ B hml hv
  obtain ⟨rfl, hsz, hP, hK, hD0, hE⟩ := hv
  have hx := B.exec
  have hb := B.bytes
  have hr := B.returns
  have hts := atoms_spec (ws := wsX7_into) B.pre
  have hown : s.vm.findClass RX7 = some m.cls := findClass_of_methodNamed B.named
  have hlocks := B.notSynchronized
  have inX7 : ∀ w ∈ wsX70, w ∈ wsX7_into := by decide +kernel
  have fl155 := hts (.fieldLink RX7 155 "FittingStridesModel" "number" "I") (by decide +kernel)
  subst hsz
  have hD := hD0.self (sz := s.heap.size)
  generalize hAe : va_A (wX7 a ct g sg) s.heap.size = A at hD hE ⊢
  have hA : ∀ q : Nat, s.heap.size ≤ q → A q := fun q h => by rw [← hAe]; exact Or.inr h
  have hW : WW G A s.heap (wX7 a ct g sg) s.heap [] := ⟨hP, hD, va_S.rf⟩
  have hl := lv_entry ([.ref (a 0), .ref (a 27), .int x2, .int x3, .int x4]) (n := 6) (Nat.le_of_ble_eq_true rfl)
  rw [lg_entry_eq]
  generalize (lg_sl ([.ref (a 0), .ref (a 27), .int x2, .int x3, .int x4]) ++ List.replicate (6 - (lg_sl ([.ref (a 0), .ref (a 27), .int x2, .int x3, .int x4])).length) Slot.unset).toArray = ls at hl ⊢
  have hl : lv_has ls 6 [(0, .ref (a 0)), (1, .ref (a 27)), (2, .int x2), (3, .int x3), (4, .int x4)] := hl
  unfold f_X7_into__27 at hf
  show W p l e ({ frames := 2, cells := 0, slots := 0, locals := 48 } : Room) s m (List.toArray [.ref (a 0), .ref (a 27), .int x2, .int x3, .int x4]) below meth c s.heap [] 0 0 (MQ below (va_Qi (fun r (_ : Unit) => r = o.1) (fun _ t => Af_ G ct (wX7 a ct o.2 sg) A t) A) (List.toArray [.ref (a 0), .ref (a 27), .int x2, .int x3, .int x4]) s 0 0 A) (F0 m 0 ls [])
  refine lv_aload_n hx hb dX7_into_0 rfl (lv_at hl 0 rfl) ?_
  refine lv_iload_n hx hb dX7_into_1 rfl (lv_at hl 3 rfl) ?_
  refine lv_iload hx hb dX7_into_2 (lv_at hl 4 rfl) ?_
  replace hf := bs_ hf; obtain ⟨r1, hcl, hf⟩ := hf
  refine x_callW_i (w' := (wX7 a ct r1.2 sg)) (As := [.int x3, .int x4]) (rest := []) (ci := 7) ⟨hx, hb, hml, hown, hts⟩ (c_X7_takeNumber l N kd G ct a g sg x3 x4 _ hcl) (cwV 2 hts gX7_into_X7_takeNumber rfl rfl rfl (by decide +kernel) ⟨Nat.le_of_ble_eq_true rfl, Nat.le_of_ble_eq_true rfl⟩) hK hE hA hW rfl rfl 0 rfl rfl rfl rfl hl.1 rfl (lv_room (Nat.le_of_ble_eq_true rfl)) dX7_into_4 (fun H locs hW => ?_)
  refine lv_istore (lv' := [(5, .int r1.1), (0, .ref (a 0)), (1, .ref (a 27)), (2, .int x2), (3, .int x3), (4, .int x4)]) hx hb dX7_into_7 hl (by decide) rfl (fun ls hl => ?_)
  refine lv_aload_n hx hb dX7_into_9 rfl (lv_at hl 2 rfl) ?_
  refine lv_iload_n hx hb dX7_into_10 rfl (lv_at hl 3 rfl) ?_
  refine lv_aload_n hx hb dX7_into_11 rfl (lv_at hl 1 rfl) ?_
  refine x_get (ci := 7) (v := .int (r1.2 21 0)) (C := RX7) (T := TX7) (N := 44) hx hb hts inX7 hown hK hW 0 rfl rfl 20 (by decide) fl155 (fun _ h9 => h9) rfl dX7_into_12 ?_
  replace hf := gd_s hf; obtain ⟨hin, hf⟩ := hf
  refine x_iast (w' := (wX7 a ct (up1 r1.2 27 x2.toNatClampNeg (r1.2 21 0)) sg)) (n := 10) (f := r1.2 27) hx hb hK hW 13 rfl (okI_in hin) (ws_X7_27 a ct r1.2 sg _ _) dX7_into_15 (fun H locs hW => ?_)
  refine lv_iload hx hb dX7_into_16 (lv_at hl 0 rfl) ?_
  have ho := Option.some.inj hf
  subst ho
  exact x_reti (sz := 0) (w0 := []) (A1 := A) hx hb hr hlocks hK hW rfl rfl dX7_into_18
set_option maxHeartbeats 4000000 in
set_option maxRecDepth 100000 in
theorem c_X7_into__29 (l : Launch) (N : Nat) (kd : (Nat → Nat) × (Nat → Nat)) (G : va_G) (ct : Nat → ClassId) (a : Nat → Nat) (g : St_) (sg : Int64) (x2 : Int32) (x3 : Int32) (x4 : Int32) (o : (Int32 × St_)) (hf : f_X7_into__29 N g x2 x3 x4 = some o) : CtI l yX7_into wsX7_into ({ frames := 2, cells := 0, slots := 0, locals := 48 }) kd G ct [.ref (a 0), .ref (a 29), .int x2, .int x3, .int x4] (wX7 a ct g sg) o.1 (wX7 a ct o.2 sg) := by
  intro sz
  refine Met.ofW (cc := cX7_into) (maxL := 6) (ret := (some .int)) (by decide) rfl ?_
  intro p e s m args below meth c s₁ B hml hv
  obtain ⟨rfl, hsz, hP, hK, hD0, hE⟩ := hv
  have hx := B.exec
  have hb := B.bytes
  have hr := B.returns
  have hts := atoms_spec (ws := wsX7_into) B.pre
  have hown : s.vm.findClass RX7 = some m.cls := findClass_of_methodNamed B.named
  have hlocks := B.notSynchronized
  have inX7 : ∀ w ∈ wsX70, w ∈ wsX7_into := by decide +kernel
  have fl155 := hts (.fieldLink RX7 155 "FittingStridesModel" "number" "I") (by decide +kernel)
  subst hsz
  have hD := hD0.self (sz := s.heap.size)
  generalize hAe : va_A (wX7 a ct g sg) s.heap.size = A at hD hE ⊢
  have hA : ∀ q : Nat, s.heap.size ≤ q → A q := fun q h => by rw [← hAe]; exact Or.inr h
  have hW : WW G A s.heap (wX7 a ct g sg) s.heap [] := ⟨hP, hD, va_S.rf⟩
  have hl := lv_entry ([.ref (a 0), .ref (a 29), .int x2, .int x3, .int x4]) (n := 6) (Nat.le_of_ble_eq_true rfl)
  rw [lg_entry_eq]
  generalize (lg_sl ([.ref (a 0), .ref (a 29), .int x2, .int x3, .int x4]) ++ List.replicate (6 - (lg_sl ([.ref (a 0), .ref (a 29), .int x2, .int x3, .int x4])).length) Slot.unset).toArray = ls at hl ⊢
  have hl : lv_has ls 6 [(0, .ref (a 0)), (1, .ref (a 29)), (2, .int x2), (3, .int x3), (4, .int x4)] := hl
  unfold f_X7_into__29 at hf
  show W p l e ({ frames := 2, cells := 0, slots := 0, locals := 48 } : Room) s m (List.toArray [.ref (a 0), .ref (a 29), .int x2, .int x3, .int x4]) below meth c s.heap [] 0 0 (MQ below (va_Qi (fun r (_ : Unit) => r = o.1) (fun _ t => Af_ G ct (wX7 a ct o.2 sg) A t) A) (List.toArray [.ref (a 0), .ref (a 29), .int x2, .int x3, .int x4]) s 0 0 A) (F0 m 0 ls [])
  refine lv_aload_n hx hb dX7_into_0 rfl (lv_at hl 0 rfl) ?_
  refine lv_iload_n hx hb dX7_into_1 rfl (lv_at hl 3 rfl) ?_
  refine lv_iload hx hb dX7_into_2 (lv_at hl 4 rfl) ?_
  replace hf := bs_ hf; obtain ⟨r1, hcl, hf⟩ := hf
  refine x_callW_i (w' := (wX7 a ct r1.2 sg)) (As := [.int x3, .int x4]) (rest := []) (ci := 7) ⟨hx, hb, hml, hown, hts⟩ (c_X7_takeNumber l N kd G ct a g sg x3 x4 _ hcl) (cwV 2 hts gX7_into_X7_takeNumber rfl rfl rfl (by decide +kernel) ⟨Nat.le_of_ble_eq_true rfl, Nat.le_of_ble_eq_true rfl⟩) hK hE hA hW rfl rfl 0 rfl rfl rfl rfl hl.1 rfl (lv_room (Nat.le_of_ble_eq_true rfl)) dX7_into_4 (fun H locs hW => ?_)
  refine lv_istore (lv' := [(5, .int r1.1), (0, .ref (a 0)), (1, .ref (a 29)), (2, .int x2), (3, .int x3), (4, .int x4)]) hx hb dX7_into_7 hl (by decide) rfl (fun ls hl => ?_)
  refine lv_aload_n hx hb dX7_into_9 rfl (lv_at hl 2 rfl) ?_
  refine lv_iload_n hx hb dX7_into_10 rfl (lv_at hl 3 rfl) ?_
  refine lv_aload_n hx hb dX7_into_11 rfl (lv_at hl 1 rfl) ?_
  refine x_get (ci := 7) (v := .int (r1.2 21 0)) (C := RX7) (T := TX7) (N := 44) hx hb hts inX7 hown hK hW 0 rfl rfl 20 (by decide) fl155 (fun _ h9 => h9) rfl dX7_into_12 ?_
  replace hf := gd_s hf; obtain ⟨hin, hf⟩ := hf
  refine x_iast (w' := (wX7 a ct (up1 r1.2 29 x2.toNatClampNeg (r1.2 21 0)) sg)) (n := 30) (f := r1.2 29) hx hb hK hW 15 rfl (okI_in hin) (ws_X7_29 a ct r1.2 sg _ _) dX7_into_15 (fun H locs hW => ?_)
  refine lv_iload hx hb dX7_into_16 (lv_at hl 0 rfl) ?_
  have ho := Option.some.inj hf
  subst ho
  exact x_reti (sz := 0) (w0 := []) (A1 := A) hx hb hr hlocks hK hW rfl rfl dX7_into_18
set_option maxHeartbeats 4000000 in
set_option maxRecDepth 100000 in
theorem c_X7_into__31 (l : Launch) (N : Nat) (kd : (Nat → Nat) × (Nat → Nat)) (G : va_G) (ct : Nat → ClassId) (a : Nat → Nat) (g : St_) (sg : Int64) (x2 : Int32) (x3 : Int32) (x4 : Int32) (o : (Int32 × St_)) (hf : f_X7_into__31 N g x2 x3 x4 = some o) : CtI l yX7_into wsX7_into ({ frames := 2, cells := 0, slots := 0, locals := 48 }) kd G ct [.ref (a 0), .ref (a 31), .int x2, .int x3, .int x4] (wX7 a ct g sg) o.1 (wX7 a ct o.2 sg) := by
  intro sz
  refine Met.ofW (cc := cX7_into) (maxL := 6) (ret := (some .int)) (by decide) rfl ?_
  intro p e s m args below meth c s₁ B hml hv
  obtain ⟨rfl, hsz, hP, hK, hD0, hE⟩ := hv
  have hx := B.exec
  have hb := B.bytes
  have hr := B.returns
  have hts := atoms_spec (ws := wsX7_into) B.pre
  have hown : s.vm.findClass RX7 = some m.cls := findClass_of_methodNamed B.named
  have hlocks := B.notSynchronized
  have inX7 : ∀ w ∈ wsX70, w ∈ wsX7_into := by decide +kernel
  have fl155 := hts (.fieldLink RX7 155 "FittingStridesModel" "number" "I") (by decide +kernel)
  subst hsz
  have hD := hD0.self (sz := s.heap.size)
  generalize hAe : va_A (wX7 a ct g sg) s.heap.size = A at hD hE ⊢
  have hA : ∀ q : Nat, s.heap.size ≤ q → A q := fun q h => by rw [← hAe]; exact Or.inr h
  have hW : WW G A s.heap (wX7 a ct g sg) s.heap [] := ⟨hP, hD, va_S.rf⟩
  have hl := lv_entry ([.ref (a 0), .ref (a 31), .int x2, .int x3, .int x4]) (n := 6) (Nat.le_of_ble_eq_true rfl)
  rw [lg_entry_eq]
  generalize (lg_sl ([.ref (a 0), .ref (a 31), .int x2, .int x3, .int x4]) ++ List.replicate (6 - (lg_sl ([.ref (a 0), .ref (a 31), .int x2, .int x3, .int x4])).length) Slot.unset).toArray = ls at hl ⊢
  have hl : lv_has ls 6 [(0, .ref (a 0)), (1, .ref (a 31)), (2, .int x2), (3, .int x3), (4, .int x4)] := hl
  unfold f_X7_into__31 at hf
  show W p l e ({ frames := 2, cells := 0, slots := 0, locals := 48 } : Room) s m (List.toArray [.ref (a 0), .ref (a 31), .int x2, .int x3, .int x4]) below meth c s.heap [] 0 0 (MQ below (va_Qi (fun r (_ : Unit) => r = o.1) (fun _ t => Af_ G ct (wX7 a ct o.2 sg) A t) A) (List.toArray [.ref (a 0), .ref (a 31), .int x2, .int x3, .int x4]) s 0 0 A) (F0 m 0 ls [])
  refine lv_aload_n hx hb dX7_into_0 rfl (lv_at hl 0 rfl) ?_
  refine lv_iload_n hx hb dX7_into_1 rfl (lv_at hl 3 rfl) ?_
  refine lv_iload hx hb dX7_into_2 (lv_at hl 4 rfl) ?_
  replace hf := bs_ hf; obtain ⟨r1, hcl, hf⟩ := hf
  refine x_callW_i (w' := (wX7 a ct r1.2 sg)) (As := [.int x3, .int x4]) (rest := []) (ci := 7) ⟨hx, hb, hml, hown, hts⟩ (c_X7_takeNumber l N kd G ct a g sg x3 x4 _ hcl) (cwV 2 hts gX7_into_X7_takeNumber rfl rfl rfl (by decide +kernel) ⟨Nat.le_of_ble_eq_true rfl, Nat.le_of_ble_eq_true rfl⟩) hK hE hA hW rfl rfl 0 rfl rfl rfl rfl hl.1 rfl (lv_room (Nat.le_of_ble_eq_true rfl)) dX7_into_4 (fun H locs hW => ?_)
  refine lv_istore (lv' := [(5, .int r1.1), (0, .ref (a 0)), (1, .ref (a 31)), (2, .int x2), (3, .int x3), (4, .int x4)]) hx hb dX7_into_7 hl (by decide) rfl (fun ls hl => ?_)
  refine lv_aload_n hx hb dX7_into_9 rfl (lv_at hl 2 rfl) ?_
  refine lv_iload_n hx hb dX7_into_10 rfl (lv_at hl 3 rfl) ?_
  refine lv_aload_n hx hb dX7_into_11 rfl (lv_at hl 1 rfl) ?_
  refine x_get (ci := 7) (v := .int (r1.2 21 0)) (C := RX7) (T := TX7) (N := 44) hx hb hts inX7 hown hK hW 0 rfl rfl 20 (by decide) fl155 (fun _ h9 => h9) rfl dX7_into_12 ?_
  replace hf := gd_s hf; obtain ⟨hin, hf⟩ := hf
  refine x_iast (w' := (wX7 a ct (up1 r1.2 31 x2.toNatClampNeg (r1.2 21 0)) sg)) (n := 8) (f := r1.2 31) hx hb hK hW 16 rfl (okI_in hin) (ws_X7_31 a ct r1.2 sg _ _) dX7_into_15 (fun H locs hW => ?_)
  refine lv_iload hx hb dX7_into_16 (lv_at hl 0 rfl) ?_
  have ho := Option.some.inj hf
  subst ho
  exact x_reti (sz := 0) (w0 := []) (A1 := A) hx hb hr hlocks hK hW rfl rfl dX7_into_18
set_option maxHeartbeats 4000000 in
set_option maxRecDepth 100000 in
theorem c_X7_into__32 (l : Launch) (N : Nat) (kd : (Nat → Nat) × (Nat → Nat)) (G : va_G) (ct : Nat → ClassId) (a : Nat → Nat) (g : St_) (sg : Int64) (x2 : Int32) (x3 : Int32) (x4 : Int32) (o : (Int32 × St_)) (hf : f_X7_into__32 N g x2 x3 x4 = some o) : CtI l yX7_into wsX7_into ({ frames := 2, cells := 0, slots := 0, locals := 48 }) kd G ct [.ref (a 0), .ref (a 32), .int x2, .int x3, .int x4] (wX7 a ct g sg) o.1 (wX7 a ct o.2 sg) := by
  intro sz
  refine Met.ofW (cc := cX7_into) (maxL := 6) (ret := (some .int)) (by decide) rfl ?_
  intro p e s m args below meth c s₁ B hml hv
  obtain ⟨rfl, hsz, hP, hK, hD0, hE⟩ := hv
  have hx := B.exec
  have hb := B.bytes
  have hr := B.returns
  have hts := atoms_spec (ws := wsX7_into) B.pre
  have hown : s.vm.findClass RX7 = some m.cls := findClass_of_methodNamed B.named
  have hlocks := B.notSynchronized
  have inX7 : ∀ w ∈ wsX70, w ∈ wsX7_into := by decide +kernel
  have fl155 := hts (.fieldLink RX7 155 "FittingStridesModel" "number" "I") (by decide +kernel)
  subst hsz
  have hD := hD0.self (sz := s.heap.size)
  generalize hAe : va_A (wX7 a ct g sg) s.heap.size = A at hD hE ⊢
  have hA : ∀ q : Nat, s.heap.size ≤ q → A q := fun q h => by rw [← hAe]; exact Or.inr h
  have hW : WW G A s.heap (wX7 a ct g sg) s.heap [] := ⟨hP, hD, va_S.rf⟩
  have hl := lv_entry ([.ref (a 0), .ref (a 32), .int x2, .int x3, .int x4]) (n := 6) (Nat.le_of_ble_eq_true rfl)
  rw [lg_entry_eq]
  generalize (lg_sl ([.ref (a 0), .ref (a 32), .int x2, .int x3, .int x4]) ++ List.replicate (6 - (lg_sl ([.ref (a 0), .ref (a 32), .int x2, .int x3, .int x4])).length) Slot.unset).toArray = ls at hl ⊢
  have hl : lv_has ls 6 [(0, .ref (a 0)), (1, .ref (a 32)), (2, .int x2), (3, .int x3), (4, .int x4)] := hl
  unfold f_X7_into__32 at hf
  show W p l e ({ frames := 2, cells := 0, slots := 0, locals := 48 } : Room) s m (List.toArray [.ref (a 0), .ref (a 32), .int x2, .int x3, .int x4]) below meth c s.heap [] 0 0 (MQ below (va_Qi (fun r (_ : Unit) => r = o.1) (fun _ t => Af_ G ct (wX7 a ct o.2 sg) A t) A) (List.toArray [.ref (a 0), .ref (a 32), .int x2, .int x3, .int x4]) s 0 0 A) (F0 m 0 ls [])
  refine lv_aload_n hx hb dX7_into_0 rfl (lv_at hl 0 rfl) ?_
  refine lv_iload_n hx hb dX7_into_1 rfl (lv_at hl 3 rfl) ?_
  refine lv_iload hx hb dX7_into_2 (lv_at hl 4 rfl) ?_
  replace hf := bs_ hf; obtain ⟨r1, hcl, hf⟩ := hf
  refine x_callW_i (w' := (wX7 a ct r1.2 sg)) (As := [.int x3, .int x4]) (rest := []) (ci := 7) ⟨hx, hb, hml, hown, hts⟩ (c_X7_takeNumber l N kd G ct a g sg x3 x4 _ hcl) (cwV 2 hts gX7_into_X7_takeNumber rfl rfl rfl (by decide +kernel) ⟨Nat.le_of_ble_eq_true rfl, Nat.le_of_ble_eq_true rfl⟩) hK hE hA hW rfl rfl 0 rfl rfl rfl rfl hl.1 rfl (lv_room (Nat.le_of_ble_eq_true rfl)) dX7_into_4 (fun H locs hW => ?_)
  refine lv_istore (lv' := [(5, .int r1.1), (0, .ref (a 0)), (1, .ref (a 32)), (2, .int x2), (3, .int x3), (4, .int x4)]) hx hb dX7_into_7 hl (by decide) rfl (fun ls hl => ?_)
  refine lv_aload_n hx hb dX7_into_9 rfl (lv_at hl 2 rfl) ?_
  refine lv_iload_n hx hb dX7_into_10 rfl (lv_at hl 3 rfl) ?_
  refine lv_aload_n hx hb dX7_into_11 rfl (lv_at hl 1 rfl) ?_
  refine x_get (ci := 7) (v := .int (r1.2 21 0)) (C := RX7) (T := TX7) (N := 44) hx hb hts inX7 hown hK hW 0 rfl rfl 20 (by decide) fl155 (fun _ h9 => h9) rfl dX7_into_12 ?_
  replace hf := gd_s hf; obtain ⟨hin, hf⟩ := hf
  refine x_iast (w' := (wX7 a ct (up1 r1.2 32 x2.toNatClampNeg (r1.2 21 0)) sg)) (n := 8) (f := r1.2 32) hx hb hK hW 17 rfl (okI_in hin) (ws_X7_32 a ct r1.2 sg _ _) dX7_into_15 (fun H locs hW => ?_)
  refine lv_iload hx hb dX7_into_16 (lv_at hl 0 rfl) ?_
  have ho := Option.some.inj hf
  subst ho
  exact x_reti (sz := 0) (w0 := []) (A1 := A) hx hb hr hlocks hK hW rfl rfl dX7_into_18
set_option maxHeartbeats 4000000 in
set_option maxRecDepth 100000 in
theorem c_X7_into__33 (l : Launch) (N : Nat) (kd : (Nat → Nat) × (Nat → Nat)) (G : va_G) (ct : Nat → ClassId) (a : Nat → Nat) (g : St_) (sg : Int64) (x2 : Int32) (x3 : Int32) (x4 : Int32) (o : (Int32 × St_)) (hf : f_X7_into__33 N g x2 x3 x4 = some o) : CtI l yX7_into wsX7_into ({ frames := 2, cells := 0, slots := 0, locals := 48 }) kd G ct [.ref (a 0), .ref (a 33), .int x2, .int x3, .int x4] (wX7 a ct g sg) o.1 (wX7 a ct o.2 sg) := by
  intro sz
  refine Met.ofW (cc := cX7_into) (maxL := 6) (ret := (some .int)) (by decide) rfl ?_
  intro p e s m args below meth c s₁ B hml hv
  obtain ⟨rfl, hsz, hP, hK, hD0, hE⟩ := hv
  have hx := B.exec
  have hb := B.bytes
  have hr := B.returns
  have hts := atoms_spec (ws := wsX7_into) B.pre
  have hown : s.vm.findClass RX7 = some m.cls := findClass_of_methodNamed B.named
  have hlocks := B.notSynchronized
  have inX7 : ∀ w ∈ wsX70, w ∈ wsX7_into := by decide +kernel
  have fl155 := hts (.fieldLink RX7 155 "FittingStridesModel" "number" "I") (by decide +kernel)
  subst hsz
  have hD := hD0.self (sz := s.heap.size)
  generalize hAe : va_A (wX7 a ct g sg) s.heap.size = A at hD hE ⊢
  have hA : ∀ q : Nat, s.heap.size ≤ q → A q := fun q h => by rw [← hAe]; exact Or.inr h
  have hW : WW G A s.heap (wX7 a ct g sg) s.heap [] := ⟨hP, hD, va_S.rf⟩
  have hl := lv_entry ([.ref (a 0), .ref (a 33), .int x2, .int x3, .int x4]) (n := 6) (Nat.le_of_ble_eq_true rfl)
  rw [lg_entry_eq]
  generalize (lg_sl ([.ref (a 0), .ref (a 33), .int x2, .int x3, .int x4]) ++ List.replicate (6 - (lg_sl ([.ref (a 0), .ref (a 33), .int x2, .int x3, .int x4])).length) Slot.unset).toArray = ls at hl ⊢
  have hl : lv_has ls 6 [(0, .ref (a 0)), (1, .ref (a 33)), (2, .int x2), (3, .int x3), (4, .int x4)] := hl
  unfold f_X7_into__33 at hf
  show W p l e ({ frames := 2, cells := 0, slots := 0, locals := 48 } : Room) s m (List.toArray [.ref (a 0), .ref (a 33), .int x2, .int x3, .int x4]) below meth c s.heap [] 0 0 (MQ below (va_Qi (fun r (_ : Unit) => r = o.1) (fun _ t => Af_ G ct (wX7 a ct o.2 sg) A t) A) (List.toArray [.ref (a 0), .ref (a 33), .int x2, .int x3, .int x4]) s 0 0 A) (F0 m 0 ls [])
  refine lv_aload_n hx hb dX7_into_0 rfl (lv_at hl 0 rfl) ?_
  refine lv_iload_n hx hb dX7_into_1 rfl (lv_at hl 3 rfl) ?_
  refine lv_iload hx hb dX7_into_2 (lv_at hl 4 rfl) ?_
  replace hf := bs_ hf; obtain ⟨r1, hcl, hf⟩ := hf
  refine x_callW_i (w' := (wX7 a ct r1.2 sg)) (As := [.int x3, .int x4]) (rest := []) (ci := 7) ⟨hx, hb, hml, hown, hts⟩ (c_X7_takeNumber l N kd G ct a g sg x3 x4 _ hcl) (cwV 2 hts gX7_into_X7_takeNumber rfl rfl rfl (by decide +kernel) ⟨Nat.le_of_ble_eq_true rfl, Nat.le_of_ble_eq_true rfl⟩) hK hE hA hW rfl rfl 0 rfl rfl rfl rfl hl.1 rfl (lv_room (Nat.le_of_ble_eq_true rfl)) dX7_into_4 (fun H locs hW => ?_)
  refine lv_istore (lv' := [(5, .int r1.1), (0, .ref (a 0)), (1, .ref (a 33)), (2, .int x2), (3, .int x3), (4, .int x4)]) hx hb dX7_into_7 hl (by decide) rfl (fun ls hl => ?_)
  refine lv_aload_n hx hb dX7_into_9 rfl (lv_at hl 2 rfl) ?_
  refine lv_iload_n hx hb dX7_into_10 rfl (lv_at hl 3 rfl) ?_
  refine lv_aload_n hx hb dX7_into_11 rfl (lv_at hl 1 rfl) ?_
  refine x_get (ci := 7) (v := .int (r1.2 21 0)) (C := RX7) (T := TX7) (N := 44) hx hb hts inX7 hown hK hW 0 rfl rfl 20 (by decide) fl155 (fun _ h9 => h9) rfl dX7_into_12 ?_
  replace hf := gd_s hf; obtain ⟨hin, hf⟩ := hf
  refine x_iast (w' := (wX7 a ct (up1 r1.2 33 x2.toNatClampNeg (r1.2 21 0)) sg)) (n := 8) (f := r1.2 33) hx hb hK hW 18 rfl (okI_in hin) (ws_X7_33 a ct r1.2 sg _ _) dX7_into_15 (fun H locs hW => ?_)
  refine lv_iload hx hb dX7_into_16 (lv_at hl 0 rfl) ?_
  have ho := Option.some.inj hf
  subst ho
  exact x_reti (sz := 0) (w0 := []) (A1 := A) hx hb hr hlocks hK hW rfl rfl dX7_into_18
set_option maxHeartbeats 4000000 in
set_option maxRecDepth 100000 in
theorem c_X7_takeParts (l : Launch) (N : Nat) (kd : (Nat → Nat) × (Nat → Nat)) (G : va_G) (ct : Nat → ClassId) (a : Nat → Nat) (g : St_) (sg : Int64) (x1 : Int32) (o : (Int32 × St_)) (hf : f_X7_takeParts N g x1 = some o) : CtI l yX7_takeParts wsX7_takeParts ({ frames := 3, cells := 0, slots := 0, locals := 73 }) kd G ct [.ref (a 0), .int x1] (wX7 a ct g sg) o.1 (wX7 a ct o.2 sg) := by
  intro sz
  refine Met.ofW (cc := cX7_takeParts) (maxL := 4) (ret := (some .int)) (by decide) rfl ?_
  intro p e s m args below meth c s₁ B hml hv
  obtain ⟨rfl, hsz, hP, hK, hD0, hE⟩ := hv
  have hx := B.exec
  have hb := B.bytes
  have hr := B.returns
  have hts := atoms_spec (ws := wsX7_takeParts) B.pre
  have hown : s.vm.findClass RX7 = some m.cls := findClass_of_methodNamed B.named
  have hlocks := B.notSynchronized
  have inX7 : ∀ w ∈ wsX70, w ∈ wsX7_takeParts := by decide +kernel
  have fl53 := hts (.fieldLink RX7 53 "FittingStridesModel" "readParts" "[I") (by decide +kernel)
  have fl56 := hts (.fieldLink RX7 56 "FittingStridesModel" "readSteps" "[I") (by decide +kernel)
  have fl118 := hts (.fieldLink RX7 118 "FittingStridesModel" "at0" "I") (by decide +kernel)
  subst hsz
  have hD := hD0.self (sz := s.heap.size)
  generalize hAe : va_A (wX7 a ct g sg) s.heap.size = A at hD hE ⊢
  have hA : ∀ q : Nat, s.heap.size ≤ q → A q := fun q h => by rw [← hAe]; exact Or.inr h
  have hW : WW G A s.heap (wX7 a ct g sg) s.heap [] := ⟨hP, hD, va_S.rf⟩
  have hl := lv_entry ([.ref (a 0), .int x1]) (n := 4) (Nat.le_of_ble_eq_true rfl)
  rw [lg_entry_eq]
  generalize (lg_sl ([.ref (a 0), .int x1]) ++ List.replicate (4 - (lg_sl ([.ref (a 0), .int x1])).length) Slot.unset).toArray = ls at hl ⊢
  have hl : lv_has ls 4 [(0, .ref (a 0)), (1, .int x1)] := hl
  unfold f_X7_takeParts at hf
  show W p l e ({ frames := 3, cells := 0, slots := 0, locals := 73 } : Room) s m (List.toArray [.ref (a 0), .int x1]) below meth c s.heap [] 0 0 (MQ below (va_Qi (fun r (_ : Unit) => r = o.1) (fun _ t => Af_ G ct (wX7 a ct o.2 sg) A t) A) (List.toArray [.ref (a 0), .int x1]) s 0 0 A) (F0 m 0 ls [])
  refine lv_aload_n hx hb dX7_takeParts_0 rfl (lv_at hl 0 rfl) ?_
  refine x_get (ci := 7) (v := .ref (a 28)) (C := RX7) (T := TX7) (N := 44) hx hb hts inX7 hown hK hW 0 rfl rfl 27 (by decide) fl53 (fun _ h9 => h9) rfl dX7_takeParts_1 ?_
  refine lv_iload_n hx hb dX7_takeParts_4 rfl (lv_at hl 1 rfl) ?_
  refine lv_iconst (v := (0 : Int32)) hx hb dX7_takeParts_5 (by decide) ?_
  replace hf := gd_s hf; obtain ⟨hin, hf⟩ := hf
  refine x_iast (w' := (wX7 a ct (up1 g 28 x1.toNatClampNeg (0 : Int32)) sg)) (n := 10) (f := g 28) hx hb hK hW 14 rfl (okI_in hin) (ws_X7_28 a ct g sg _ _) dX7_takeParts_6 (fun H locs hW => ?_)
  refine lv_iconst (v := (1 : Int32)) hx hb dX7_takeParts_7 (by decide) ?_
  refine lv_istore_n (lv' := [(2, .int (1 : Int32)), (0, .ref (a 0)), (1, .int x1)]) hx hb dX7_takeParts_8 rfl hl (by decide) rfl (fun ls hl => ?_)
  replace hf := bs_ hf; obtain ⟨jr, hg, hf⟩ := hf
  have hR1 : ∀ r, jr = Sum.inl r → r = o := fun r hr0 => by subst hr0; have h8 := se_l hf; exact Option.some.inj h8
  have J1 : ∀ (v1 : St_), jr = Sum.inr v1 → ∀ (H : Heap) (locs : List Loc) (ls : Array Slot), WW G A s.heap (wX7 a ct v1 sg) H locs → lv_has ls 4 [] → W p l e ({ frames := 3, cells := 0, slots := 0, locals := 73 } : Room) s m (List.toArray [.ref (a 0), .int x1]) below meth c H locs 0 0 (MQ below (va_Qi (fun r (_ : Unit) => r = o.1) (fun _ t => Af_ G ct (wX7 a ct o.2 sg) A t) A) (List.toArray [.ref (a 0), .int x1]) s 0 0 A) (F0 m 112 ls []) := by
    intro v1 hjr H locs ls hW hl
    subst hjr
    replace hf := se_r hf
    refine lv_iconst (v := (0 : Int32)) hx hb dX7_takeParts_112 (by decide) ?_
    have ho := Option.some.inj hf
    subst ho
    exact x_reti (sz := 0) (w0 := []) (A1 := A) hx hb hr hlocks hK hW rfl rfl dX7_takeParts_113
  clear hf
  have L1 : ∀ (n : Nat) (y1_2 : Int32) (g1 : St_), f_X7_takeParts_L9 N x1 n y1_2 g1 = some jr → ∀ (H : Heap) (locs : List Loc) (ls : Array Slot), WW G A s.heap (wX7 a ct g1 sg) H locs → lv_has ls 4 [(0, .ref (a 0)), (1, .int x1), (2, .int y1_2)] → W p l e ({ frames := 3, cells := 0, slots := 0, locals := 73 } : Room) s m (List.toArray [.ref (a 0), .int x1]) below meth c H locs 0 0 (MQ below (va_Qi (fun r (_ : Unit) => r = o.1) (fun _ t => Af_ G ct (wX7 a ct o.2 sg) A t) A) (List.toArray [.ref (a 0), .int x1]) s 0 0 A) (F0 m 9 ls []) := by
    intro n
    induction n with
    | zero =>
      intro y1_2 g1 hf
      rw [f_X7_takeParts_L9] at hf
      cases hf
    | succ n ih =>
      intro y1_2 g1 hf H locs ls hW hl
      rw [f_X7_takeParts_L9] at hf
      refine lv_iload_n hx hb dX7_takeParts_9 rfl (lv_at hl 2 rfl) ?_
      refine lv_if_eq (tgt := 112) hx hb dX7_takeParts_10 (by decide) (fun hc => ?_) (fun hc => ?_)
      · replace hf := ifp hc hf
        have hj := (Option.some.inj hf).symm
        exact J1 _ hj _ _ _ hW (lv_sub hl [] rfl)
      · replace hf := ifn hc hf
        refine lv_aload_n hx hb dX7_takeParts_13 rfl (lv_at hl 0 rfl) ?_
        refine lv_aload_n hx hb dX7_takeParts_14 rfl (lv_at hl 0 rfl) ?_
        refine x_get (ci := 7) (v := .ref (a 29)) (C := RX7) (T := TX7) (N := 44) hx hb hts inX7 hown hK hW 0 rfl rfl 28 (by decide) fl56 (fun _ h9 => h9) rfl dX7_takeParts_15 ?_
        refine lv_iconst (v := (3 : Int32)) hx hb dX7_takeParts_18 (by decide) ?_
        refine lv_iload_n hx hb dX7_takeParts_19 rfl (lv_at hl 1 rfl) ?_
        refine lv_imul hx hb dX7_takeParts_20 ?_
        refine lv_aload_n hx hb dX7_takeParts_21 rfl (lv_at hl 0 rfl) ?_
        refine x_get (ci := 7) (v := .ref (a 28)) (C := RX7) (T := TX7) (N := 44) hx hb hts inX7 hown hK hW 0 rfl rfl 27 (by decide) fl53 (fun _ h9 => h9) rfl dX7_takeParts_22 ?_
        refine lv_iload_n hx hb dX7_takeParts_25 rfl (lv_at hl 1 rfl) ?_
        replace hf := gd_s hf; obtain ⟨hin, hf⟩ := hf
        refine x_iald (n := 10) (f := g1 28) hx hb hK hW 14 rfl (okI_in hin) dX7_takeParts_26 ?_
        refine lv_iadd hx hb dX7_takeParts_27 ?_
        refine lv_iconst (v := (1 : Int32)) hx hb dX7_takeParts_28 (by decide) ?_
        refine lv_sipush (v := (720 : Int32)) hx hb dX7_takeParts_29 (by decide) ?_
        replace hf := bs_ hf; obtain ⟨r2, hcl, hf⟩ := hf
        refine x_callW_i (w' := (wX7 a ct r2.2 sg)) (As := [.ref (a 29), .int (((3 : Int32) * x1) + (g1 28 x1.toNatClampNeg)), .int (1 : Int32), .int (720 : Int32)]) (rest := []) (ci := 7) ⟨hx, hb, hml, hown, hts⟩ (c_X7_into__29 l N kd G ct a g1 sg (((3 : Int32) * x1) + (g1 28 x1.toNatClampNeg)) (1 : Int32) (720 : Int32) _ hcl) (cwV 4 hts gX7_takeParts_X7_into rfl rfl rfl (by decide +kernel) ⟨Nat.le_of_ble_eq_true rfl, Nat.le_of_ble_eq_true rfl⟩) hK hE hA hW rfl rfl 0 rfl rfl rfl rfl hl.1 rfl (lv_room (Nat.le_of_ble_eq_true rfl)) dX7_takeParts_32 (fun H locs hW => ?_)
        refine lv_istore_n (lv' := [(3, .int r2.1), (0, .ref (a 0)), (1, .int x1), (2, .int y1_2)]) hx hb dX7_takeParts_35 rfl hl (by decide) rfl (fun ls hl => ?_)
        refine lv_iload_n hx hb dX7_takeParts_36 rfl (lv_at hl 0 rfl) ?_
        refine lv_if_le (tgt := 42) hx hb dX7_takeParts_37 (by decide) (fun hc => ?_) (fun hc => ?_)
        · replace hf := ifp hc hf
          refine lv_aload_n hx hb dX7_takeParts_42 rfl (lv_at hl 1 rfl) ?_
          refine x_get (ci := 7) (v := .ref (a 28)) (C := RX7) (T := TX7) (N := 44) hx hb hts inX7 hown hK hW 0 rfl rfl 27 (by decide) fl53 (fun _ h9 => h9) rfl dX7_takeParts_43 ?_
          refine lv_iload_n hx hb dX7_takeParts_46 rfl (lv_at hl 2 rfl) ?_
          refine lv_dup2_11 hx hb dX7_takeParts_47 rfl rfl ?_
          replace hf := gd_s hf; obtain ⟨hin, hf⟩ := hf
          refine x_iald (n := 10) (f := r2.2 28) hx hb hK hW 14 rfl (okI_in hin) dX7_takeParts_48 ?_
          refine lv_iconst (v := (1 : Int32)) hx hb dX7_takeParts_49 (by decide) ?_
          refine lv_iadd hx hb dX7_takeParts_50 ?_
          replace hf := gd_s hf; obtain ⟨hin, hf⟩ := hf
          refine x_iast (w' := (wX7 a ct (up1 r2.2 28 x1.toNatClampNeg ((r2.2 28 x1.toNatClampNeg) + (1 : Int32))) sg)) (n := 10) (f := r2.2 28) hx hb hK hW 14 rfl (okI_in hin) (ws_X7_28 a ct r2.2 sg _ _) dX7_takeParts_51 (fun H locs hW => ?_)
          refine lv_aload_n hx hb dX7_takeParts_52 rfl (lv_at hl 1 rfl) ?_
          replace hf := bs_ hf; obtain ⟨r3, hcl, hf⟩ := hf
          refine x_callW_i (w' := (wX7 a ct r3.2 sg)) (As := []) (rest := []) (ci := 7) ⟨hx, hb, hml, hown, hts⟩ (c_X7_here l N kd G ct a (up1 r2.2 28 x1.toNatClampNeg ((r2.2 28 x1.toNatClampNeg) + (1 : Int32))) sg _ hcl) (cwV 0 hts gX7_takeParts_X7_here rfl rfl rfl (by decide +kernel) ⟨Nat.le_of_ble_eq_true rfl, Nat.le_of_ble_eq_true rfl⟩) hK hE hA hW rfl rfl 0 rfl rfl rfl rfl hl.1 rfl (lv_room (Nat.le_of_ble_eq_true rfl)) dX7_takeParts_53 (fun H locs hW => ?_)
          refine lv_bipush (v := (44 : Int32)) hx hb dX7_takeParts_56 (by decide) ?_
          replace hf := bs_ hf; obtain ⟨j4, hg, hf⟩ := hf
          have J4 : ∀ (H : Heap) (locs : List Loc) (ls : Array Slot), WW G A s.heap (wX7 a ct r3.2 sg) H locs → lv_has ls 4 [(0, .ref (a 0)), (1, .int x1)] → W p l e ({ frames := 3, cells := 0, slots := 0, locals := 73 } : Room) s m (List.toArray [.ref (a 0), .int x1]) below meth c H locs 0 0 (MQ below (va_Qi (fun r (_ : Unit) => r = o.1) (fun _ t => Af_ G ct (wX7 a ct o.2 sg) A t) A) (List.toArray [.ref (a 0), .int x1]) s 0 0 A) (F0 m 66 ls (.int j4 :: [])) := by
            intro H locs ls hW hl
            refine lv_istore_n (lv' := [(2, .int j4), (0, .ref (a 0)), (1, .int x1)]) hx hb dX7_takeParts_66 rfl hl (by decide) rfl (fun ls hl => ?_)
            refine lv_iload_n hx hb dX7_takeParts_67 rfl (lv_at hl 0 rfl) ?_
            replace hf := bs_ hf; obtain ⟨jr, hg, hf⟩ := hf
            have hR5 : ∀ r, jr = Sum.inl r → r = o := fun r hr0 => by subst hr0; have h8 := se_l hf; exact hR1 r (Option.some.inj h8).symm
            have J5 : ∀ (j5 : St_), jr = Sum.inr j5 → ∀ (H : Heap) (locs : List Loc) (ls : Array Slot), WW G A s.heap (wX7 a ct j5 sg) H locs → lv_has ls 4 [(0, .ref (a 0)), (1, .int x1), (2, .int j4)] → W p l e ({ frames := 3, cells := 0, slots := 0, locals := 73 } : Room) s m (List.toArray [.ref (a 0), .int x1]) below meth c H locs 0 0 (MQ below (va_Qi (fun r (_ : Unit) => r = o.1) (fun _ t => Af_ G ct (wX7 a ct o.2 sg) A t) A) (List.toArray [.ref (a 0), .int x1]) s 0 0 A) (F0 m 91 ls ([])) := by
              intro j5 hjr H locs ls hW hl
              subst hjr
              replace hf := se_r hf
              refine lv_aload_n hx hb dX7_takeParts_91 rfl (lv_at hl 0 rfl) ?_
              refine lv_dup hx hb dX7_takeParts_92 rfl ?_
              refine x_get (ci := 7) (v := .int (j5 18 0)) (C := RX7) (T := TX7) (N := 44) hx hb hts inX7 hown hK hW 0 rfl rfl 17 (by decide) fl118 (fun _ h9 => h9) rfl dX7_takeParts_93 ?_
              refine lv_iload_n hx hb dX7_takeParts_96 rfl (lv_at hl 2 rfl) ?_
              replace hf := bs_ hf; obtain ⟨j7, hg, hf⟩ := hf
              have J7 : ∀ (H : Heap) (locs : List Loc) (ls : Array Slot), WW G A s.heap (wX7 a ct j5 sg) H locs → lv_has ls 4 [(0, .ref (a 0)), (1, .int x1), (2, .int j4)] → W p l e ({ frames := 3, cells := 0, slots := 0, locals := 73 } : Room) s m (List.toArray [.ref (a 0), .int x1]) below meth c H locs 0 0 (MQ below (va_Qi (fun r (_ : Unit) => r = o.1) (fun _ t => Af_ G ct (wX7 a ct o.2 sg) A t) A) (List.toArray [.ref (a 0), .int x1]) s 0 0 A) (F0 m 105 ls (.int j7 :: .int (j5 18 0) :: .ref (a 0) :: [])) := by
                intro H locs ls hW hl
                refine lv_iadd hx hb dX7_takeParts_105 ?_
                refine x_put (w' := (wX7 a ct (up1 j5 18 0 ((j5 18 0) + j7)) sg)) (fs := fsX7 a j5 sg) (ci := 7) (v := .int ((j5 18 0) + j7)) (ty := .int) (C := RX7) (T := TX7) (N := 44) hx hb hts inX7 tyX7 tyX7_ok nmX7 hown hK hW 0 rfl rfl 17 (by decide) fl118 (fun _ h9 => h9) rfl (by decide +kernel) rfl rfl (Nat.le_of_ble_eq_true rfl) (wp_X7_18 a ct j5 sg ((j5 18 0) + j7)) dX7_takeParts_106 (fun H locs hW => ?_)
                refine lv_goto (tgt := 9) hx hb dX7_takeParts_109 (by decide) ?_
                exact ih j4 (up1 j5 18 0 ((j5 18 0) + j7)) hf _ _ _ hW (lv_sub hl [0, 1, 2] rfl)
              clear hf
              refine lv_if_eq (tgt := 104) hx hb dX7_takeParts_97 (by decide) (fun hc => ?_) (fun hc => ?_)
              · have hf := ifp hc hg
                clear hg
                refine lv_iconst (v := (0 : Int32)) hx hb dX7_takeParts_104 (by decide) ?_
                have hj := Option.some.inj hf
                subst hj
                exact J7 _ _ _ hW (lv_sub hl [0, 1, 2] rfl)
              · have hf := ifn hc hg
                clear hg
                refine lv_iconst (v := (1 : Int32)) hx hb dX7_takeParts_100 (by decide) ?_
                refine lv_goto (tgt := 105) hx hb dX7_takeParts_101 (by decide) ?_
                have hj := Option.some.inj hf
                subst hj
                exact J7 _ _ _ hW (lv_sub hl [0, 1, 2] rfl)
            clear hf
            refine lv_if_eq (tgt := 91) hx hb dX7_takeParts_68 (by decide) (fun hc => ?_) (fun hc => ?_)
            · have hf := ifp hc hg
              clear hg
              have hj := (Option.some.inj hf).symm
              exact J5 _ hj _ _ _ hW (lv_sub hl [1, 2, 0] rfl)
            · have hf := ifn hc hg
              clear hg
              refine lv_aload_n hx hb dX7_takeParts_71 rfl (lv_at hl 1 rfl) ?_
              refine x_get (ci := 7) (v := .ref (a 28)) (C := RX7) (T := TX7) (N := 44) hx hb hts inX7 hown hK hW 0 rfl rfl 27 (by decide) fl53 (fun _ h9 => h9) rfl dX7_takeParts_72 ?_
              refine lv_iload_n hx hb dX7_takeParts_75 rfl (lv_at hl 2 rfl) ?_
              replace hf := gd_s hf; obtain ⟨hin, hf⟩ := hf
              refine x_iald (n := 10) (f := r3.2 28) hx hb hK hW 14 rfl (okI_in hin) dX7_takeParts_76 ?_
              refine lv_iconst (v := (3 : Int32)) hx hb dX7_takeParts_77 (by decide) ?_
              refine lv_icmp_ne (tgt := 91) hx hb dX7_takeParts_78 (by decide) (fun hc => ?_) (fun hc => ?_)
              · replace hf := ifn hc hf
                have hj := (Option.some.inj hf).symm
                exact J5 _ hj _ _ _ hW (lv_sub hl [1, 2, 0] rfl)
              · replace hf := ifp hc hf
                refine lv_aload_n hx hb dX7_takeParts_81 rfl (lv_at hl 1 rfl) ?_
                refine lv_iconst (v := (1 : Int32)) hx hb dX7_takeParts_82 (by decide) ?_
                refine lv_aload_n hx hb dX7_takeParts_83 rfl (lv_at hl 1 rfl) ?_
                refine x_get (ci := 7) (v := .int (r3.2 18 0)) (C := RX7) (T := TX7) (N := 44) hx hb hts inX7 hown hK hW 0 rfl rfl 17 (by decide) fl118 (fun _ h9 => h9) rfl dX7_takeParts_84 ?_
                replace hf := bs_ hf; obtain ⟨r6, hcl, hf⟩ := hf
                refine x_callW_i (w' := (wX7 a ct r6.2 sg)) (As := [.int (1 : Int32), .int (r3.2 18 0)]) (rest := []) (ci := 7) ⟨hx, hb, hml, hown, hts⟩ (c_X7_fails l N kd G ct a r3.2 sg (1 : Int32) (r3.2 18 0) _ hcl) (cwV 2 hts gX7_takeParts_X7_fails rfl rfl rfl (by decide +kernel) ⟨Nat.le_of_ble_eq_true rfl, Nat.le_of_ble_eq_true rfl⟩) hK hE hA hW rfl rfl 0 rfl rfl rfl rfl hl.1 rfl (lv_room (Nat.le_of_ble_eq_true rfl)) dX7_takeParts_87 (fun H locs hW => ?_)
                have ho := hR5 _ (Option.some.inj hf).symm
                subst ho
                exact x_reti (sz := 0) (w0 := []) (A1 := A) hx hb hr hlocks hK hW rfl rfl dX7_takeParts_90
          clear hf
          refine lv_icmp_ne (tgt := 65) hx hb dX7_takeParts_58 (by decide) (fun hc => ?_) (fun hc => ?_)
          · have hf := ifn hc hg
            clear hg
            refine lv_iconst (v := (0 : Int32)) hx hb dX7_takeParts_65 (by decide) ?_
            have hj := Option.some.inj hf
            subst hj
            exact J4 _ _ _ hW (lv_sub hl [1, 2] rfl)
          · have hf := ifp hc hg
            clear hg
            refine lv_iconst (v := (1 : Int32)) hx hb dX7_takeParts_61 (by decide) ?_
            refine lv_goto (tgt := 66) hx hb dX7_takeParts_62 (by decide) ?_
            have hj := Option.some.inj hf
            subst hj
            exact J4 _ _ _ hW (lv_sub hl [1, 2] rfl)
        · replace hf := ifn hc hf
          refine lv_iload_n hx hb dX7_takeParts_40 rfl (lv_at hl 0 rfl) ?_
          have ho := hR1 _ (Option.some.inj hf).symm
          subst ho
          exact x_reti (sz := 0) (w0 := []) (A1 := A) hx hb hr hlocks hK hW rfl rfl dX7_takeParts_41
  exact L1 N (1 : Int32) (up1 g 28 x1.toNatClampNeg (0 : Int32)) hg _ _ _ hW (lv_sub hl [1, 2, 0] rfl)
set_option maxHeartbeats 4000000 in
set_option maxRecDepth 100000 in
theorem c_X7_takeStair (l : Launch) (N : Nat) (kd : (Nat → Nat) × (Nat → Nat)) (G : va_G) (ct : Nat → ClassId) (a : Nat → Nat) (g : St_) (sg : Int64) (o : (Int32 × St_ × Int64)) (hf : f_X7_takeStair N g sg = some o) : CtI l yX7_takeStair wsX7_takeStair ({ frames := 4, cells := 0, slots := 0, locals := 96 }) kd G ct [.ref (a 0)] (wX7 a ct g sg) o.1 (wX7 a ct o.2.1 o.2.2) := by
  intro sz
  refine Met.ofW (cc := cX7_takeStair) (maxL := 4) (ret := (some .int)) (by decide) rfl ?_
  intro p e s m args below meth c s₁ B hml hv
  obtain ⟨rfl, hsz, hP, hK, hD0, hE⟩ := hv
  have hx := B.exec
  have hb := B.bytes
  have hr := B.returns
  have hts := atoms_spec (ws := wsX7_takeStair) B.pre
  have hown : s.vm.findClass RX7 = some m.cls := findClass_of_methodNamed B.named
  have hlocks := B.notSynchronized
  have inX7 : ∀ w ∈ wsX70, w ∈ wsX7_takeStair := by decide +kernel
  have fl44 := hts (.fieldLink RX7 44 "FittingStridesModel" "readKind" "[I") (by decide +kernel)
  have fl47 := hts (.fieldLink RX7 47 "FittingStridesModel" "readLow" "[I") (by decide +kernel)
  have fl50 := hts (.fieldLink RX7 50 "FittingStridesModel" "readHigh" "[I") (by decide +kernel)
  have fl118 := hts (.fieldLink RX7 118 "FittingStridesModel" "at0" "I") (by decide +kernel)
  have fl125 := hts (.fieldLink RX7 125 "FittingStridesModel" "said" "J") (by decide +kernel)
  have fl129 := hts (.fieldLink RX7 129 "FittingStridesModel" "wordEnd" "I") (by decide +kernel)
  have fl152 := hts (.fieldLink RX7 152 "FittingStridesModel" "numberAt" "I") (by decide +kernel)
  have fl165 := hts (.fieldLink RX7 165 "FittingStridesModel" "readStairs" "I") (by decide +kernel)
  have fl179 := hts (.fieldLink RX7 179 "FittingStridesModel" "readPlaces" "I") (by decide +kernel)
  subst hsz
  have hD := hD0.self (sz := s.heap.size)
  generalize hAe : va_A (wX7 a ct g sg) s.heap.size = A at hD hE ⊢
  have hA : ∀ q : Nat, s.heap.size ≤ q → A q := fun q h => by rw [← hAe]; exact Or.inr h
  have hW : WW G A s.heap (wX7 a ct g sg) s.heap [] := ⟨hP, hD, va_S.rf⟩
  have hl := lv_entry ([.ref (a 0)]) (n := 4) (Nat.le_of_ble_eq_true rfl)
  rw [lg_entry_eq]
  generalize (lg_sl ([.ref (a 0)]) ++ List.replicate (4 - (lg_sl ([.ref (a 0)])).length) Slot.unset).toArray = ls at hl ⊢
  have hl : lv_has ls 4 [(0, .ref (a 0))] := hl
  unfold f_X7_takeStair at hf
  show W p l e ({ frames := 4, cells := 0, slots := 0, locals := 96 } : Room) s m (List.toArray [.ref (a 0)]) below meth c s.heap [] 0 0 (MQ below (va_Qi (fun r (_ : Unit) => r = o.1) (fun _ t => Af_ G ct (wX7 a ct o.2.1 o.2.2) A t) A) (List.toArray [.ref (a 0)]) s 0 0 A) (F0 m 0 ls [])
  refine lv_aload_n hx hb dX7_takeStair_0 rfl (lv_at hl 0 rfl) ?_
  refine x_get (ci := 7) (v := .int (g 24 0)) (C := RX7) (T := TX7) (N := 44) hx hb hts inX7 hown hK hW 0 rfl rfl 23 (by decide) fl165 (fun _ h9 => h9) rfl dX7_takeStair_1 ?_
  refine lv_istore_n (lv' := [(1, .int (g 24 0)), (0, .ref (a 0))]) hx hb dX7_takeStair_4 rfl hl (by decide) rfl (fun ls hl => ?_)
  refine lv_aload_n hx hb dX7_takeStair_5 rfl (lv_at hl 1 rfl) ?_
  refine lv_dup hx hb dX7_takeStair_6 rfl ?_
  refine x_get (ci := 7) (v := .int (g 24 0)) (C := RX7) (T := TX7) (N := 44) hx hb hts inX7 hown hK hW 0 rfl rfl 23 (by decide) fl165 (fun _ h9 => h9) rfl dX7_takeStair_7 ?_
  refine lv_iconst (v := (1 : Int32)) hx hb dX7_takeStair_10 (by decide) ?_
  refine lv_iadd hx hb dX7_takeStair_11 ?_
  refine x_put (w' := (wX7 a ct (up1 g 24 0 ((g 24 0) + (1 : Int32))) sg)) (fs := fsX7 a g sg) (ci := 7) (v := .int ((g 24 0) + (1 : Int32))) (ty := .int) (C := RX7) (T := TX7) (N := 44) hx hb hts inX7 tyX7 tyX7_ok nmX7 hown hK hW 0 rfl rfl 23 (by decide) fl165 (fun _ h9 => h9) rfl (by decide +kernel) rfl rfl (Nat.le_of_ble_eq_true rfl) (wp_X7_24 a ct g sg ((g 24 0) + (1 : Int32))) dX7_takeStair_12 (fun H locs hW => ?_)
  refine lv_aload_n hx hb dX7_takeStair_15 rfl (lv_at hl 1 rfl) ?_
  replace hf := bs_ hf; obtain ⟨r1, hcl, hf⟩ := hf
  refine x_callW_v (w' := (wX7 a ct r1.1 r1.2)) (As := []) (rest := []) (ci := 7) ⟨hx, hb, hml, hown, hts⟩ (c_X7_readWord l N kd G ct a (up1 g 24 0 ((g 24 0) + (1 : Int32))) sg _ hcl) (cwV 0 hts gX7_takeStair_X7_readWord rfl rfl rfl (by decide +kernel) ⟨Nat.le_of_ble_eq_true rfl, Nat.le_of_ble_eq_true rfl⟩) hK hE hA hW rfl rfl 0 rfl rfl rfl rfl hl.1 rfl (lv_room (Nat.le_of_ble_eq_true rfl)) dX7_takeStair_16 (fun H locs hW => ?_)
  refine lv_aload_n hx hb dX7_takeStair_19 rfl (lv_at hl 1 rfl) ?_
  refine x_get (ci := 7) (v := .long r1.2) (C := RX7) (T := TX7) (N := 44) hx hb hts inX7 hown hK hW 0 rfl rfl 18 (by decide) fl125 (fun _ h9 => h9) rfl dX7_takeStair_20 ?_
  refine lv_bipush (v := (112 : Int32)) hx hb dX7_takeStair_23 (by decide) ?_
  refine lv_bipush (v := (108 : Int32)) hx hb dX7_takeStair_25 (by decide) ?_
  refine lv_bipush (v := (97 : Int32)) hx hb dX7_takeStair_27 (by decide) ?_
  refine lv_bipush (v := (105 : Int32)) hx hb dX7_takeStair_29 (by decide) ?_
  replace hf := bs_ hf; obtain ⟨r2, hcl, hf⟩ := hf
  refine x_callS_l (As := [.int (112 : Int32), .int (108 : Int32), .int (97 : Int32), .int (105 : Int32)]) (rest := [.long r1.2]) ⟨hx, hb, hml, hown, hts⟩ (c_X7_code l N kd G ct (112 : Int32) (108 : Int32) (97 : Int32) (105 : Int32) _ hcl) (va_cwS 4 hts gX7_takeStair_X7_code rfl rfl rfl (by decide +kernel) ⟨Nat.le_of_ble_eq_true rfl, Nat.le_of_ble_eq_true rfl⟩) hK hE hA hW rfl hl.1 rfl (lv_room (Nat.le_of_ble_eq_true rfl)) dX7_takeStair_31 (fun H locs hW => ?_)
  refine lv_bipush (v := (110 : Int32)) hx hb dX7_takeStair_34 (by decide) ?_
  refine lv_iconst (v := (0 : Int32)) hx hb dX7_takeStair_36 (by decide) ?_
  replace hf := bs_ hf; obtain ⟨r3, hcl, hf⟩ := hf
  refine x_callS_l (As := [.long r2, .int (110 : Int32), .int (0 : Int32)]) (rest := [.long r1.2]) ⟨hx, hb, hml, hown, hts⟩ (c_X7_longer l N kd G ct r2 (110 : Int32) (0 : Int32) _ hcl) (va_cwS 3 hts gX7_takeStair_X7_longer rfl rfl rfl (by decide +kernel) ⟨Nat.le_of_ble_eq_true rfl, Nat.le_of_ble_eq_true rfl⟩) hK hE hA hW rfl hl.1 rfl (lv_room (Nat.le_of_ble_eq_true rfl)) dX7_takeStair_37 (fun H locs hW => ?_)
  refine W.lcmp hx hb dX7_takeStair_40 ?_
  replace hf := bs_ hf; obtain ⟨j4, hg, hf⟩ := hf
  have J4 : ∀ (H : Heap) (locs : List Loc) (ls : Array Slot), WW G A s.heap (wX7 a ct r1.1 r1.2) H locs → lv_has ls 4 [(0, .ref (a 0)), (1, .int (g 24 0))] → W p l e ({ frames := 4, cells := 0, slots := 0, locals := 96 } : Room) s m (List.toArray [.ref (a 0)]) below meth c H locs 0 0 (MQ below (va_Qi (fun r (_ : Unit) => r = o.1) (fun _ t => Af_ G ct (wX7 a ct o.2.1 o.2.2) A t) A) (List.toArray [.ref (a 0)]) s 0 0 A) (F0 m 95 ls (.int j4 :: [])) := by
    intro H locs ls hW hl
    refine lv_istore_n (lv' := [(2, .int j4), (0, .ref (a 0)), (1, .int (g 24 0))]) hx hb dX7_takeStair_95 rfl hl (by decide) rfl (fun ls hl => ?_)
    refine lv_iload_n hx hb dX7_takeStair_96 rfl (lv_at hl 0 rfl) ?_
    refine lv_if_ge (tgt := 110) hx hb dX7_takeStair_97 (by decide) (fun hc => ?_) (fun hc => ?_)
    · replace hf := ifp hc hf
      refine lv_aload_n hx hb dX7_takeStair_110 rfl (lv_at hl 1 rfl) ?_
      refine lv_aload_n hx hb dX7_takeStair_111 rfl (lv_at hl 1 rfl) ?_
      refine x_get (ci := 7) (v := .int (r1.1 20 0)) (C := RX7) (T := TX7) (N := 44) hx hb hts inX7 hown hK hW 0 rfl rfl 19 (by decide) fl129 (fun _ h9 => h9) rfl dX7_takeStair_112 ?_
      refine x_put (w' := (wX7 a ct (up1 r1.1 18 0 (r1.1 20 0)) r1.2)) (fs := fsX7 a r1.1 r1.2) (ci := 7) (v := .int (r1.1 20 0)) (ty := .int) (C := RX7) (T := TX7) (N := 44) hx hb hts inX7 tyX7 tyX7_ok nmX7 hown hK hW 0 rfl rfl 17 (by decide) fl118 (fun _ h9 => h9) rfl (by decide +kernel) rfl rfl (Nat.le_of_ble_eq_true rfl) (wp_X7_18 a ct r1.1 r1.2 (r1.1 20 0)) dX7_takeStair_115 (fun H locs hW => ?_)
      refine lv_aload_n hx hb dX7_takeStair_118 rfl (lv_at hl 1 rfl) ?_
      refine x_get (ci := 7) (v := .ref (a 25)) (C := RX7) (T := TX7) (N := 44) hx hb hts inX7 hown hK hW 0 rfl rfl 24 (by decide) fl44 (fun _ h9 => h9) rfl dX7_takeStair_119 ?_
      refine lv_iload_n hx hb dX7_takeStair_122 rfl (lv_at hl 2 rfl) ?_
      refine lv_iload_n hx hb dX7_takeStair_123 rfl (lv_at hl 0 rfl) ?_
      replace hf := gd_s hf; obtain ⟨hin, hf⟩ := hf
      refine x_iast (w' := (wX7 a ct (up1 (up1 r1.1 18 0 (r1.1 20 0)) 25 (g 24 0).toNatClampNeg j4) r1.2)) (n := 10) (f := (up1 r1.1 18 0 (r1.1 20 0)) 25) hx hb hK hW 11 rfl (okI_in hin) (ws_X7_25 a ct (up1 r1.1 18 0 (r1.1 20 0)) r1.2 _ _) dX7_takeStair_124 (fun H locs hW => ?_)
      refine lv_aload_n hx hb dX7_takeStair_125 rfl (lv_at hl 1 rfl) ?_
      refine lv_aload_n hx hb dX7_takeStair_126 rfl (lv_at hl 1 rfl) ?_
      refine x_get (ci := 7) (v := .ref (a 26)) (C := RX7) (T := TX7) (N := 44) hx hb hts inX7 hown hK hW 0 rfl rfl 25 (by decide) fl47 (fun _ h9 => h9) rfl dX7_takeStair_127 ?_
      refine lv_iload_n hx hb dX7_takeStair_130 rfl (lv_at hl 2 rfl) ?_
      refine lv_iconst (v := (0 : Int32)) hx hb dX7_takeStair_131 (by decide) ?_
      refine lv_aload_n hx hb dX7_takeStair_132 rfl (lv_at hl 1 rfl) ?_
      refine x_get (ci := 7) (v := .int (r1.1 23 0)) (C := RX7) (T := TX7) (N := 44) hx hb hts inX7 hown hK hW 0 rfl rfl 22 (by decide) fl179 (fun _ h9 => h9) rfl dX7_takeStair_133 ?_
      refine lv_iconst (v := (1 : Int32)) hx hb dX7_takeStair_136 (by decide) ?_
      refine lv_isub hx hb dX7_takeStair_137 ?_
      replace hf := bs_ hf; obtain ⟨r7, hcl, hf⟩ := hf
      refine x_callW_i (w' := (wX7 a ct r7.2 r1.2)) (As := [.ref (a 26), .int (g 24 0), .int (0 : Int32), .int ((r1.1 23 0) - (1 : Int32))]) (rest := []) (ci := 7) ⟨hx, hb, hml, hown, hts⟩ (c_X7_into__26 l N kd G ct a (up1 (up1 r1.1 18 0 (r1.1 20 0)) 25 (g 24 0).toNatClampNeg j4) r1.2 (g 24 0) (0 : Int32) ((r1.1 23 0) - (1 : Int32)) _ hcl) (cwV 4 hts gX7_takeStair_X7_into rfl rfl rfl (by decide +kernel) ⟨Nat.le_of_ble_eq_true rfl, Nat.le_of_ble_eq_true rfl⟩) hK hE hA hW rfl rfl 0 rfl rfl rfl rfl hl.1 rfl (lv_room (Nat.le_of_ble_eq_true rfl)) dX7_takeStair_138 (fun H locs hW => ?_)
      refine lv_istore_n (lv' := [(3, .int r7.1), (2, .int j4), (0, .ref (a 0)), (1, .int (g 24 0))]) hx hb dX7_takeStair_141 rfl hl (by decide) rfl (fun ls hl => ?_)
      refine lv_iload_n hx hb dX7_takeStair_142 rfl (lv_at hl 0 rfl) ?_
      replace hf := bs_ hf; obtain ⟨j8, hg, hf⟩ := hf
      have J8 : ∀ (H : Heap) (locs : List Loc) (ls : Array Slot), WW G A s.heap (wX7 a ct j8.2 r1.2) H locs → lv_has ls 4 [(0, .ref (a 0)), (1, .int (g 24 0))] → W p l e ({ frames := 4, cells := 0, slots := 0, locals := 96 } : Room) s m (List.toArray [.ref (a 0)]) below meth c H locs 0 0 (MQ below (va_Qi (fun r (_ : Unit) => r = o.1) (fun _ t => Af_ G ct (wX7 a ct o.2.1 o.2.2) A t) A) (List.toArray [.ref (a 0)]) s 0 0 A) (F0 m 166 ls (.int j8.1 :: [])) := by
        intro H locs ls hW hl
        refine lv_istore_n (lv' := [(3, .int j8.1), (0, .ref (a 0)), (1, .int (g 24 0))]) hx hb dX7_takeStair_166 rfl hl (by decide) rfl (fun ls hl => ?_)
        refine lv_iload_n hx hb dX7_takeStair_167 rfl (lv_at hl 0 rfl) ?_
        refine lv_if_le (tgt := 173) hx hb dX7_takeStair_168 (by decide) (fun hc => ?_) (fun hc => ?_)
        · replace hf := ifp hc hf
          refine lv_aload_n hx hb dX7_takeStair_173 rfl (lv_at hl 1 rfl) ?_
          refine x_get (ci := 7) (v := .ref (a 26)) (C := RX7) (T := TX7) (N := 44) hx hb hts inX7 hown hK hW 0 rfl rfl 25 (by decide) fl47 (fun _ h9 => h9) rfl dX7_takeStair_174 ?_
          refine lv_iload_n hx hb dX7_takeStair_177 rfl (lv_at hl 2 rfl) ?_
          replace hf := gd_s hf; obtain ⟨hin, hf⟩ := hf
          refine x_iald (n := 10) (f := j8.2 26) hx hb hK hW 12 rfl (okI_in hin) dX7_takeStair_178 ?_
          refine lv_aload_n hx hb dX7_takeStair_179 rfl (lv_at hl 1 rfl) ?_
          refine x_get (ci := 7) (v := .ref (a 27)) (C := RX7) (T := TX7) (N := 44) hx hb hts inX7 hown hK hW 0 rfl rfl 26 (by decide) fl50 (fun _ h9 => h9) rfl dX7_takeStair_180 ?_
          refine lv_iload_n hx hb dX7_takeStair_183 rfl (lv_at hl 2 rfl) ?_
          replace hf := gd_s hf; obtain ⟨hin, hf⟩ := hf
          refine x_iald (n := 10) (f := j8.2 27) hx hb hK hW 13 rfl (okI_in hin) dX7_takeStair_184 ?_
          refine lv_icmp_ne (tgt := 200) hx hb dX7_takeStair_185 (by decide) (fun hc => ?_) (fun hc => ?_)
          · replace hf := ifn hc hf
            refine lv_aload_n hx hb dX7_takeStair_200 rfl (lv_at hl 1 rfl) ?_
            refine lv_iload_n hx hb dX7_takeStair_201 rfl (lv_at hl 2 rfl) ?_
            replace hf := bs_ hf; obtain ⟨r10, hcl, hf⟩ := hf
            refine x_callW_i (w' := (wX7 a ct r10.2 r1.2)) (As := [.int (g 24 0)]) (rest := []) (ci := 7) ⟨hx, hb, hml, hown, hts⟩ (c_X7_takeParts l N kd G ct a j8.2 r1.2 (g 24 0) _ hcl) (cwV 1 hts gX7_takeStair_X7_takeParts rfl rfl rfl (by decide +kernel) ⟨Nat.le_of_ble_eq_true rfl, Nat.le_of_ble_eq_true rfl⟩) hK hE hA hW rfl rfl 0 rfl rfl rfl rfl hl.1 rfl (lv_room (Nat.le_of_ble_eq_true rfl)) dX7_takeStair_202 (fun H locs hW => ?_)
            have ho := Option.some.inj hf
            subst ho
            exact x_reti (sz := 0) (w0 := []) (A1 := A) hx hb hr hlocks hK hW rfl rfl dX7_takeStair_205
          · replace hf := ifp hc hf
            refine lv_aload_n hx hb dX7_takeStair_188 rfl (lv_at hl 1 rfl) ?_
            refine lv_iconst (v := (4 : Int32)) hx hb dX7_takeStair_189 (by decide) ?_
            refine lv_aload_n hx hb dX7_takeStair_190 rfl (lv_at hl 1 rfl) ?_
            refine x_get (ci := 7) (v := .int (j8.2 22 0)) (C := RX7) (T := TX7) (N := 44) hx hb hts inX7 hown hK hW 0 rfl rfl 21 (by decide) fl152 (fun _ h9 => h9) rfl dX7_takeStair_191 ?_
            replace hf := bs_ hf; obtain ⟨r11, hcl, hf⟩ := hf
            refine x_callW_i (w' := (wX7 a ct r11.2 r1.2)) (As := [.int (4 : Int32), .int (j8.2 22 0)]) (rest := []) (ci := 7) ⟨hx, hb, hml, hown, hts⟩ (c_X7_fails l N kd G ct a j8.2 r1.2 (4 : Int32) (j8.2 22 0) _ hcl) (cwV 2 hts gX7_takeStair_X7_fails rfl rfl rfl (by decide +kernel) ⟨Nat.le_of_ble_eq_true rfl, Nat.le_of_ble_eq_true rfl⟩) hK hE hA hW rfl rfl 0 rfl rfl rfl rfl hl.1 rfl (lv_room (Nat.le_of_ble_eq_true rfl)) dX7_takeStair_194 (fun H locs hW => ?_)
            refine lv_goto (tgt := 205) hx hb dX7_takeStair_197 (by decide) ?_
            have ho := Option.some.inj hf
            subst ho
            exact x_reti (sz := 0) (w0 := []) (A1 := A) hx hb hr hlocks hK hW rfl rfl dX7_takeStair_205
        · replace hf := ifn hc hf
          refine lv_iload_n hx hb dX7_takeStair_171 rfl (lv_at hl 0 rfl) ?_
          have ho := Option.some.inj hf
          subst ho
          exact x_reti (sz := 0) (w0 := []) (A1 := A) hx hb hr hlocks hK hW rfl rfl dX7_takeStair_172
      clear hf
      refine lv_if_le (tgt := 150) hx hb dX7_takeStair_143 (by decide) (fun hc => ?_) (fun hc => ?_)
      · have hf := ifp hc hg
        clear hg
        refine lv_aload_n hx hb dX7_takeStair_150 rfl (lv_at hl 2 rfl) ?_
        refine lv_aload_n hx hb dX7_takeStair_151 rfl (lv_at hl 2 rfl) ?_
        refine x_get (ci := 7) (v := .ref (a 27)) (C := RX7) (T := TX7) (N := 44) hx hb hts inX7 hown hK hW 0 rfl rfl 26 (by decide) fl50 (fun _ h9 => h9) rfl dX7_takeStair_152 ?_
        refine lv_iload_n hx hb dX7_takeStair_155 rfl (lv_at hl 3 rfl) ?_
        refine lv_iconst (v := (0 : Int32)) hx hb dX7_takeStair_156 (by decide) ?_
        refine lv_aload_n hx hb dX7_takeStair_157 rfl (lv_at hl 2 rfl) ?_
        refine x_get (ci := 7) (v := .int (r7.2 23 0)) (C := RX7) (T := TX7) (N := 44) hx hb hts inX7 hown hK hW 0 rfl rfl 22 (by decide) fl179 (fun _ h9 => h9) rfl dX7_takeStair_158 ?_
        refine lv_iconst (v := (1 : Int32)) hx hb dX7_takeStair_161 (by decide) ?_
        refine lv_isub hx hb dX7_takeStair_162 ?_
        replace hf := bs_ hf; obtain ⟨r9, hcl, hf⟩ := hf
        refine x_callW_i (w' := (wX7 a ct r9.2 r1.2)) (As := [.ref (a 27), .int (g 24 0), .int (0 : Int32), .int ((r7.2 23 0) - (1 : Int32))]) (rest := []) (ci := 7) ⟨hx, hb, hml, hown, hts⟩ (c_X7_into__27 l N kd G ct a r7.2 r1.2 (g 24 0) (0 : Int32) ((r7.2 23 0) - (1 : Int32)) _ hcl) (cwV 4 hts gX7_takeStair_X7_into rfl rfl rfl (by decide +kernel) ⟨Nat.le_of_ble_eq_true rfl, Nat.le_of_ble_eq_true rfl⟩) hK hE hA hW rfl rfl 0 rfl rfl rfl rfl hl.1 rfl (lv_room (Nat.le_of_ble_eq_true rfl)) dX7_takeStair_163 (fun H locs hW => ?_)
        have hj := Option.some.inj hf
        subst hj
        exact J8 _ _ _ hW (lv_sub hl [2, 3] rfl)
      · have hf := ifn hc hg
        clear hg
        refine lv_iload_n hx hb dX7_takeStair_146 rfl (lv_at hl 0 rfl) ?_
        refine lv_goto (tgt := 166) hx hb dX7_takeStair_147 (by decide) ?_
        have hj := Option.some.inj hf
        subst hj
        exact J8 _ _ _ hW (lv_sub hl [2, 3] rfl)
    · replace hf := ifn hc hf
      refine lv_aload_n hx hb dX7_takeStair_100 rfl (lv_at hl 1 rfl) ?_
      refine lv_iconst (v := (1 : Int32)) hx hb dX7_takeStair_101 (by decide) ?_
      refine lv_aload_n hx hb dX7_takeStair_102 rfl (lv_at hl 1 rfl) ?_
      refine x_get (ci := 7) (v := .int (r1.1 18 0)) (C := RX7) (T := TX7) (N := 44) hx hb hts inX7 hown hK hW 0 rfl rfl 17 (by decide) fl118 (fun _ h9 => h9) rfl dX7_takeStair_103 ?_
      replace hf := bs_ hf; obtain ⟨r12, hcl, hf⟩ := hf
      refine x_callW_i (w' := (wX7 a ct r12.2 r1.2)) (As := [.int (1 : Int32), .int (r1.1 18 0)]) (rest := []) (ci := 7) ⟨hx, hb, hml, hown, hts⟩ (c_X7_fails l N kd G ct a r1.1 r1.2 (1 : Int32) (r1.1 18 0) _ hcl) (cwV 2 hts gX7_takeStair_X7_fails rfl rfl rfl (by decide +kernel) ⟨Nat.le_of_ble_eq_true rfl, Nat.le_of_ble_eq_true rfl⟩) hK hE hA hW rfl rfl 0 rfl rfl rfl rfl hl.1 rfl (lv_room (Nat.le_of_ble_eq_true rfl)) dX7_takeStair_106 (fun H locs hW => ?_)
      have ho := Option.some.inj hf
      subst ho
      exact x_reti (sz := 0) (w0 := []) (A1 := A) hx hb hr hlocks hK hW rfl rfl dX7_takeStair_109
  clear hf
  refine lv_if_ne (tgt := 48) hx hb dX7_takeStair_41 (by decide) (fun hc => ?_) (fun hc => ?_)
  · have hf := ifn hc hg
    clear hg
    refine lv_aload_n hx hb dX7_takeStair_48 rfl (lv_at hl 1 rfl) ?_
    refine x_get (ci := 7) (v := .long r1.2) (C := RX7) (T := TX7) (N := 44) hx hb hts inX7 hown hK hW 0 rfl rfl 18 (by decide) fl125 (fun _ h9 => h9) rfl dX7_takeStair_49 ?_
    refine lv_bipush (v := (111 : Int32)) hx hb dX7_takeStair_52 (by decide) ?_
    refine lv_bipush (v := (112 : Int32)) hx hb dX7_takeStair_54 (by decide) ?_
    refine lv_bipush (v := (101 : Int32)) hx hb dX7_takeStair_56 (by decide) ?_
    refine lv_bipush (v := (110 : Int32)) hx hb dX7_takeStair_58 (by decide) ?_
    replace hf := bs_ hf; obtain ⟨r5, hcl, hf⟩ := hf
    refine x_callS_l (As := [.int (111 : Int32), .int (112 : Int32), .int (101 : Int32), .int (110 : Int32)]) (rest := [.long r1.2]) ⟨hx, hb, hml, hown, hts⟩ (c_X7_code l N kd G ct (111 : Int32) (112 : Int32) (101 : Int32) (110 : Int32) _ hcl) (va_cwS 4 hts gX7_takeStair_X7_code rfl rfl rfl (by decide +kernel) ⟨Nat.le_of_ble_eq_true rfl, Nat.le_of_ble_eq_true rfl⟩) hK hE hA hW rfl hl.1 rfl (lv_room (Nat.le_of_ble_eq_true rfl)) dX7_takeStair_60 (fun H locs hW => ?_)
    refine W.lcmp hx hb dX7_takeStair_63 ?_
    refine lv_if_ne (tgt := 71) hx hb dX7_takeStair_64 (by decide) (fun hc => ?_) (fun hc => ?_)
    · replace hf := ifn hc hf
      refine lv_aload_n hx hb dX7_takeStair_71 rfl (lv_at hl 1 rfl) ?_
      refine x_get (ci := 7) (v := .long r1.2) (C := RX7) (T := TX7) (N := 44) hx hb hts inX7 hown hK hW 0 rfl rfl 18 (by decide) fl125 (fun _ h9 => h9) rfl dX7_takeStair_72 ?_
      refine lv_bipush (v := (108 : Int32)) hx hb dX7_takeStair_75 (by decide) ?_
      refine lv_bipush (v := (101 : Int32)) hx hb dX7_takeStair_77 (by decide) ?_
      refine lv_bipush (v := (97 : Int32)) hx hb dX7_takeStair_79 (by decide) ?_
      refine lv_bipush (v := (112 : Int32)) hx hb dX7_takeStair_81 (by decide) ?_
      replace hf := bs_ hf; obtain ⟨r6, hcl, hf⟩ := hf
      refine x_callS_l (As := [.int (108 : Int32), .int (101 : Int32), .int (97 : Int32), .int (112 : Int32)]) (rest := [.long r1.2]) ⟨hx, hb, hml, hown, hts⟩ (c_X7_code l N kd G ct (108 : Int32) (101 : Int32) (97 : Int32) (112 : Int32) _ hcl) (va_cwS 4 hts gX7_takeStair_X7_code rfl rfl rfl (by decide +kernel) ⟨Nat.le_of_ble_eq_true rfl, Nat.le_of_ble_eq_true rfl⟩) hK hE hA hW rfl hl.1 rfl (lv_room (Nat.le_of_ble_eq_true rfl)) dX7_takeStair_83 (fun H locs hW => ?_)
      refine W.lcmp hx hb dX7_takeStair_86 ?_
      refine lv_if_ne (tgt := 94) hx hb dX7_takeStair_87 (by decide) (fun hc => ?_) (fun hc => ?_)
      · replace hf := ifn hc hf
        refine lv_iconst (v := (-1 : Int32)) hx hb dX7_takeStair_94 (by decide) ?_
        have hj := Option.some.inj hf
        subst hj
        exact J4 _ _ _ hW (lv_sub hl [1, 0] rfl)
      · replace hf := ifp hc hf
        refine lv_iconst (v := (2 : Int32)) hx hb dX7_takeStair_90 (by decide) ?_
        refine lv_goto (tgt := 95) hx hb dX7_takeStair_91 (by decide) ?_
        have hj := Option.some.inj hf
        subst hj
        exact J4 _ _ _ hW (lv_sub hl [1, 0] rfl)
    · replace hf := ifp hc hf
      refine lv_iconst (v := (1 : Int32)) hx hb dX7_takeStair_67 (by decide) ?_
      refine lv_goto (tgt := 95) hx hb dX7_takeStair_68 (by decide) ?_
      have hj := Option.some.inj hf
      subst hj
      exact J4 _ _ _ hW (lv_sub hl [1, 0] rfl)
  · have hf := ifp hc hg
    clear hg
    refine lv_iconst (v := (0 : Int32)) hx hb dX7_takeStair_44 (by decide) ?_
    refine lv_goto (tgt := 95) hx hb dX7_takeStair_45 (by decide) ?_
    have hj := Option.some.inj hf
    subst hj
    exact J4 _ _ _ hW (lv_sub hl [1, 0] rfl)
