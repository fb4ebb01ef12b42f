set_option maxHeartbeats 4000000 in
set_option maxRecDepth 100000 in
theorem c_X0_init (l : Launch) (kd : (Nat → Nat) × (Nat → Nat)) (G : va_G) (ct : Nat → ClassId) (h0 : Nat) : CtN l yX0_init wsX0_init ({ frames := 1, cells := 3, slots := 88, locals := 20 }) kd G ct h0 [(h0, .inr (0, [.int 0, .null, .null, .null]))] (fun a => wX0 a ct Z_) 3 88 := by
  intro sz
  refine Met.ofW (cc := cX0_init) (maxL := 1) (ret := none) (by decide) rfl ?_
  intro p e s m args below meth c s₁ B hml hv
  obtain ⟨⟨rfl, hsz, hP, hK, hD0, hE⟩, hAO⟩ := hv
  have hx := B.exec
  have hb := B.bytes
  have hr := B.returns
  have hts := atoms_spec (ws := wsX0_init) B.pre
  have hown : s.vm.findClass RX0 = some m.cls := findClass_of_methodNamed B.named
  have hlocks := B.notSynchronized
  have hin : meth.name = "<init>" := (name_of_methodNamed B.named B.method).1
  have inX0 : ∀ w ∈ wsX00, w ∈ wsX0_init := by decide +kernel
  have fl9 := hts (.fieldLink RX0 9 "FittingStrides$Book" "goers" "[I") (by decide +kernel)
  have fl15 := hts (.fieldLink RX0 15 "FittingStrides$Book" "ways" "[I") (by decide +kernel)
  have fl18 := hts (.fieldLink RX0 18 "FittingStrides$Book" "whereNow" "[I") (by decide +kernel)
  subst hsz
  have hD := hD0.self (sz := s.heap.size)
  generalize hAe : va_A [(h0, .inr (0, [.int 0, .null, .null, .null]))] s.heap.size = A at hD hE ⊢
  have hA : ∀ q : Nat, s.heap.size ≤ q → A q := fun q h => by rw [← hAe]; exact Or.inr h
  have hW : WW G A s.heap ([(h0, .inr (0, [.int 0, .null, .null, .null]))] : va_W) s.heap [] := ⟨hP, hD, va_S.rf⟩
  have hl := lv_entry ([.ref h0]) (n := 1) (Nat.le_of_ble_eq_true rfl)
  rw [lg_entry_eq]
  generalize (lg_sl ([.ref h0]) ++ List.replicate (1 - (lg_sl ([.ref h0])).length) Slot.unset).toArray = ls at hl ⊢
  have hl : lv_has ls 1 [(0, .ref h0)] := hl
  show W p l e ({ frames := 1, cells := 3, slots := 88, locals := 20 } : Room) s m (List.toArray [.ref h0]) below meth c s.heap [] 0 0 (MQ below (va_Qv (fun (a : Nat → Nat) => a 0 = h0) (fun a t => Af_ G ct ((fun a => wX0 a ct Z_) a) A t) A) (List.toArray [.ref h0]) s 3 88 A) (F0 m 0 ls [])
  refine lv_aload_n hx hb dX0_init_0 rfl (lv_at hl 0 rfl) ?_
  refine W.objInit hx hb hown (hts (.methodLink RX0 3 objectInit) (by decide +kernel)) (hts (.instanceMethod objectInit) (by decide +kernel)) (hts (.code objectInit ⟨#[0xb1]⟩ 1 none) (by decide +kernel)) rfl (by rw [hml]; exact hl.1) rfl dX0_init_1 (Nat.le_of_ble_eq_true rfl) (Nat.le_of_ble_eq_true rfl) ?_
  refine W.eq (g2 := F0 m 4 ls []) rfl ?_
  refine lv_aload_n hx hb dX0_init_4 rfl (lv_at hl 0 rfl) ?_
  refine lv_bipush (v := (40 : Int32)) hx hb dX0_init_5 (by decide) ?_
  refine x_newi (N' := 40) hx hb (hts (.arrayClass .int) (by decide +kernel)) hK hW hA (by decide) (by decide) (by decide) (Nat.le_of_ble_eq_true rfl) (Nat.le_of_ble_eq_true rfl) dX0_init_7 (fun q1 H hW => ?_)
  replace hW : WW G A s.heap ((h0, .inr (0, [.int 0, .null, .null, .null])) :: (q1, .inl (ct 0, 40, .inl (fun _ => 0))) :: [] : va_W) H _ := hW.cast (by simp only [List.cons_append, List.append_assoc, List.nil_append, List.append_nil])
  refine x_putF (w' := ((h0, .inr (0, [.int 0, .ref q1, .null, .null])) :: (q1, .inl (ct 0, 40, .inl (fun _ => 0))) :: [] : va_W)) (ci := 0) (v := .ref q1) (ty := (.array .int)) (C := RX0) (T := TX0) (N := 4) hx hb hts inX0 tyX0 tyX0_ok nmX0 hown hK hW 0 rfl rfl 1 (by decide) fl9 (fun _ h9 => h9) rfl hin rfl (by decide +kernel) rfl rfl (Nat.le_of_ble_eq_true rfl) rfl dX0_init_9 (fun H locs hW => ?_)
  refine lv_aload_n hx hb dX0_init_12 rfl (lv_at hl 0 rfl) ?_
  refine lv_bipush (v := (40 : Int32)) hx hb dX0_init_13 (by decide) ?_
  refine x_newi (N' := 40) hx hb (hts (.arrayClass .int) (by decide +kernel)) hK hW hA (by decide) (by decide) (by decide) (Nat.le_of_ble_eq_true rfl) (Nat.le_of_ble_eq_true rfl) dX0_init_15 (fun q2 H hW => ?_)
  replace hW : WW G A s.heap ((h0, .inr (0, [.int 0, .ref q1, .null, .null])) :: (q1, .inl (ct 0, 40, .inl (fun _ => 0))) :: (q2, .inl (ct 0, 40, .inl (fun _ => 0))) :: [] : va_W) H _ := hW.cast (by simp only [List.cons_append, List.append_assoc, List.nil_append, List.append_nil])
  refine x_putF (w' := ((h0, .inr (0, [.int 0, .ref q1, .ref q2, .null])) :: (q1, .inl (ct 0, 40, .inl (fun _ => 0))) :: (q2, .inl (ct 0, 40, .inl (fun _ => 0))) :: [] : va_W)) (ci := 0) (v := .ref q2) (ty := (.array .int)) (C := RX0) (T := TX0) (N := 4) hx hb hts inX0 tyX0 tyX0_ok nmX0 hown hK hW 0 rfl rfl 2 (by decide) fl15 (fun _ h9 => h9) rfl hin rfl (by decide +kernel) rfl rfl (Nat.le_of_ble_eq_true rfl) rfl dX0_init_17 (fun H locs hW => ?_)
  refine lv_aload_n hx hb dX0_init_20 rfl (lv_at hl 0 rfl) ?_
  refine lv_bipush (v := (8 : Int32)) hx hb dX0_init_21 (by decide) ?_
  refine x_newi (N' := 8) hx hb (hts (.arrayClass .int) (by decide +kernel)) hK hW hA (by decide) (by decide) (by decide) (Nat.le_of_ble_eq_true rfl) (Nat.le_of_ble_eq_true rfl) dX0_init_23 (fun q3 H hW => ?_)
  replace hW : WW G A s.heap ((h0, .inr (0, [.int 0, .ref q1, .ref q2, .null])) :: (q1, .inl (ct 0, 40, .inl (fun _ => 0))) :: (q2, .inl (ct 0, 40, .inl (fun _ => 0))) :: (q3, .inl (ct 0, 8, .inl (fun _ => 0))) :: [] : va_W) H _ := hW.cast (by simp only [List.cons_append, List.append_assoc, List.nil_append, List.append_nil])
  refine x_putF (w' := ((h0, .inr (0, [.int 0, .ref q1, .ref q2, .ref q3])) :: (q1, .inl (ct 0, 40, .inl (fun _ => 0))) :: (q2, .inl (ct 0, 40, .inl (fun _ => 0))) :: (q3, .inl (ct 0, 8, .inl (fun _ => 0))) :: [] : va_W)) (ci := 0) (v := .ref q3) (ty := (.array .int)) (C := RX0) (T := TX0) (N := 4) hx hb hts inX0 tyX0 tyX0_ok nmX0 hown hK hW 0 rfl rfl 3 (by decide) fl18 (fun _ h9 => h9) rfl hin rfl (by decide +kernel) rfl rfl (Nat.le_of_ble_eq_true rfl) rfl dX0_init_25 (fun H locs hW => ?_)
  exact x_retN (fun i => bif Nat.beq i 0 then h0 else bif Nat.beq i 2 then q1 else bif Nat.beq i 3 then q2 else bif Nat.beq i 4 then q3 else 0) hx hb hr hlocks hK hW rfl rfl dX0_init_28
set_option maxHeartbeats 4000000 in
set_option maxRecDepth 100000 in
theorem c_X1_init (l : Launch) (kd : (Nat → Nat) × (Nat → Nat)) (G : va_G) (ct : Nat → ClassId) (h0 : Nat) : CtN l yX1_init wsX1_init ({ frames := 1, cells := 4, slots := 40, locals := 20 }) kd G ct h0 [(h0, .inr (1, [.int 0, .int 0, .null, .null, .null, .null]))] (fun a => wX1 a ct Z_) 4 40 := by
  intro sz
  refine Met.ofW (cc := cX1_init) (maxL := 1) (ret := none) (by decide) rfl ?_
  intro p e s m args below meth c s₁ B hml hv
  obtain ⟨⟨rfl, hsz, hP, hK, hD0, hE⟩, hAO⟩ := hv
  have hx := B.exec
  have hb := B.bytes
  have hr := B.returns
  have hts := atoms_spec (ws := wsX1_init) B.pre
  have hown : s.vm.findClass RX1 = some m.cls := findClass_of_methodNamed B.named
  have hlocks := B.notSynchronized
  have hin : meth.name = "<init>" := (name_of_methodNamed B.named B.method).1
  have inX1 : ∀ w ∈ wsX10, w ∈ wsX1_init := by decide +kernel
  have fl9 := hts (.fieldLink RX1 9 "FittingStrides$Plan" "kinds" "[I") (by decide +kernel)
  have fl15 := hts (.fieldLink RX1 15 "FittingStrides$Plan" "lows" "[I") (by decide +kernel)
  have fl18 := hts (.fieldLink RX1 18 "FittingStrides$Plan" "highs" "[I") (by decide +kernel)
  have fl21 := hts (.fieldLink RX1 21 "FittingStrides$Plan" "parts" "[I") (by decide +kernel)
  subst hsz
  have hD := hD0.self (sz := s.heap.size)
  generalize hAe : va_A [(h0, .inr (1, [.int 0, .int 0, .null, .null, .null, .null]))] s.heap.size = A at hD hE ⊢
  have hA : ∀ q : Nat, s.heap.size ≤ q → A q := fun q h => by rw [← hAe]; exact Or.inr h
  have hW : WW G A s.heap ([(h0, .inr (1, [.int 0, .int 0, .null, .null, .null, .null]))] : va_W) s.heap [] := ⟨hP, hD, va_S.rf⟩
  have hl := lv_entry ([.ref h0]) (n := 1) (Nat.le_of_ble_eq_true rfl)
  rw [lg_entry_eq]
  generalize (lg_sl ([.ref h0]) ++ List.replicate (1 - (lg_sl ([.ref h0])).length) Slot.unset).toArray = ls at hl ⊢
  have hl : lv_has ls 1 [(0, .ref h0)] := hl
  show W p l e ({ frames := 1, cells := 4, slots := 40, locals := 20 } : Room) s m (List.toArray [.ref h0]) below meth c s.heap [] 0 0 (MQ below (va_Qv (fun (a : Nat → Nat) => a 0 = h0) (fun a t => Af_ G ct ((fun a => wX1 a ct Z_) a) A t) A) (List.toArray [.ref h0]) s 4 40 A) (F0 m 0 ls [])
  refine lv_aload_n hx hb dX1_init_0 rfl (lv_at hl 0 rfl) ?_
  refine W.objInit hx hb hown (hts (.methodLink RX1 3 objectInit) (by decide +kernel)) (hts (.instanceMethod objectInit) (by decide +kernel)) (hts (.code objectInit ⟨#[0xb1]⟩ 1 none) (by decide +kernel)) rfl (by rw [hml]; exact hl.1) rfl dX1_init_1 (Nat.le_of_ble_eq_true rfl) (Nat.le_of_ble_eq_true rfl) ?_
  refine W.eq (g2 := F0 m 4 ls []) rfl ?_
  refine lv_aload_n hx hb dX1_init_4 rfl (lv_at hl 0 rfl) ?_
  refine lv_bipush (v := (10 : Int32)) hx hb dX1_init_5 (by decide) ?_
  refine x_newi (N' := 10) hx hb (hts (.arrayClass .int) (by decide +kernel)) hK hW hA (by decide) (by decide) (by decide) (Nat.le_of_ble_eq_true rfl) (Nat.le_of_ble_eq_true rfl) dX1_init_7 (fun q1 H hW => ?_)
  replace hW : WW G A s.heap ((h0, .inr (1, [.int 0, .int 0, .null, .null, .null, .null])) :: (q1, .inl (ct 0, 10, .inl (fun _ => 0))) :: [] : va_W) H _ := hW.cast (by simp only [List.cons_append, List.append_assoc, List.nil_append, List.append_nil])
  refine x_putF (w' := ((h0, .inr (1, [.int 0, .int 0, .ref q1, .null, .null, .null])) :: (q1, .inl (ct 0, 10, .inl (fun _ => 0))) :: [] : va_W)) (ci := 1) (v := .ref q1) (ty := (.array .int)) (C := RX1) (T := TX1) (N := 6) hx hb hts inX1 tyX1 tyX1_ok nmX1 hown hK hW 0 rfl rfl 2 (by decide) fl9 (fun _ h9 => h9) rfl hin rfl (by decide +kernel) rfl rfl (Nat.le_of_ble_eq_true rfl) rfl dX1_init_9 (fun H locs hW => ?_)
  refine lv_aload_n hx hb dX1_init_12 rfl (lv_at hl 0 rfl) ?_
  refine lv_bipush (v := (10 : Int32)) hx hb dX1_init_13 (by decide) ?_
  refine x_newi (N' := 10) hx hb (hts (.arrayClass .int) (by decide +kernel)) hK hW hA (by decide) (by decide) (by decide) (Nat.le_of_ble_eq_true rfl) (Nat.le_of_ble_eq_true rfl) dX1_init_15 (fun q2 H hW => ?_)
  replace hW : WW G A s.heap ((h0, .inr (1, [.int 0, .int 0, .ref q1, .null, .null, .null])) :: (q1, .inl (ct 0, 10, .inl (fun _ => 0))) :: (q2, .inl (ct 0, 10, .inl (fun _ => 0))) :: [] : va_W) H _ := hW.cast (by simp only [List.cons_append, List.append_assoc, List.nil_append, List.append_nil])
  refine x_putF (w' := ((h0, .inr (1, [.int 0, .int 0, .ref q1, .ref q2, .null, .null])) :: (q1, .inl (ct 0, 10, .inl (fun _ => 0))) :: (q2, .inl (ct 0, 10, .inl (fun _ => 0))) :: [] : va_W)) (ci := 1) (v := .ref q2) (ty := (.array .int)) (C := RX1) (T := TX1) (N := 6) hx hb hts inX1 tyX1 tyX1_ok nmX1 hown hK hW 0 rfl rfl 3 (by decide) fl15 (fun _ h9 => h9) rfl hin rfl (by decide +kernel) rfl rfl (Nat.le_of_ble_eq_true rfl) rfl dX1_init_17 (fun H locs hW => ?_)
  refine lv_aload_n hx hb dX1_init_20 rfl (lv_at hl 0 rfl) ?_
  refine lv_bipush (v := (10 : Int32)) hx hb dX1_init_21 (by decide) ?_
  refine x_newi (N' := 10) hx hb (hts (.arrayClass .int) (by decide +kernel)) hK hW hA (by decide) (by decide) (by decide) (Nat.le_of_ble_eq_true rfl) (Nat.le_of_ble_eq_true rfl) dX1_init_23 (fun q3 H hW => ?_)
  replace hW : WW G A s.heap ((h0, .inr (1, [.int 0, .int 0, .ref q1, .ref q2, .null, .null])) :: (q1, .inl (ct 0, 10, .inl (fun _ => 0))) :: (q2, .inl (ct 0, 10, .inl (fun _ => 0))) :: (q3, .inl (ct 0, 10, .inl (fun _ => 0))) :: [] : va_W) H _ := hW.cast (by simp only [List.cons_append, List.append_assoc, List.nil_append, List.append_nil])
  refine x_putF (w' := ((h0, .inr (1, [.int 0, .int 0, .ref q1, .ref q2, .ref q3, .null])) :: (q1, .inl (ct 0, 10, .inl (fun _ => 0))) :: (q2, .inl (ct 0, 10, .inl (fun _ => 0))) :: (q3, .inl (ct 0, 10, .inl (fun _ => 0))) :: [] : va_W)) (ci := 1) (v := .ref q3) (ty := (.array .int)) (C := RX1) (T := TX1) (N := 6) hx hb hts inX1 tyX1 tyX1_ok nmX1 hown hK hW 0 rfl rfl 4 (by decide) fl18 (fun _ h9 => h9) rfl hin rfl (by decide +kernel) rfl rfl (Nat.le_of_ble_eq_true rfl) rfl dX1_init_25 (fun H locs hW => ?_)
  refine lv_aload_n hx hb dX1_init_28 rfl (lv_at hl 0 rfl) ?_
  refine lv_bipush (v := (10 : Int32)) hx hb dX1_init_29 (by decide) ?_
  refine x_newi (N' := 10) hx hb (hts (.arrayClass .int) (by decide +kernel)) hK hW hA (by decide) (by decide) (by decide) (Nat.le_of_ble_eq_true rfl) (Nat.le_of_ble_eq_true rfl) dX1_init_31 (fun q4 H hW => ?_)
  replace hW : WW G A s.heap ((h0, .inr (1, [.int 0, .int 0, .ref q1, .ref q2, .ref q3, .null])) :: (q1, .inl (ct 0, 10, .inl (fun _ => 0))) :: (q2, .inl (ct 0, 10, .inl (fun _ => 0))) :: (q3, .inl (ct 0, 10, .inl (fun _ => 0))) :: (q4, .inl (ct 0, 10, .inl (fun _ => 0))) :: [] : va_W) H _ := hW.cast (by simp only [List.cons_append, List.append_assoc, List.nil_append, List.append_nil])
  refine x_putF (w' := ((h0, .inr (1, [.int 0, .int 0, .ref q1, .ref q2, .ref q3, .ref q4])) :: (q1, .inl (ct 0, 10, .inl (fun _ => 0))) :: (q2, .inl (ct 0, 10, .inl (fun _ => 0))) :: (q3, .inl (ct 0, 10, .inl (fun _ => 0))) :: (q4, .inl (ct 0, 10, .inl (fun _ => 0))) :: [] : va_W)) (ci := 1) (v := .ref q4) (ty := (.array .int)) (C := RX1) (T := TX1) (N := 6) hx hb hts inX1 tyX1 tyX1_ok nmX1 hown hK hW 0 rfl rfl 5 (by decide) fl21 (fun _ h9 => h9) rfl hin rfl (by decide +kernel) rfl rfl (Nat.le_of_ble_eq_true rfl) rfl dX1_init_33 (fun H locs hW => ?_)
  exact x_retN (fun i => bif Nat.beq i 0 then h0 else bif Nat.beq i 3 then q1 else bif Nat.beq i 4 then q2 else bif Nat.beq i 5 then q3 else bif Nat.beq i 6 then q4 else 0) hx hb hr hlocks hK hW rfl rfl dX1_init_36
set_option maxHeartbeats 4000000 in
set_option maxRecDepth 100000 in
theorem c_X2_init (l : Launch) (kd : (Nat → Nat) × (Nat → Nat)) (G : va_G) (ct : Nat → ClassId) (h0 : Nat) : CtN l yX2_init wsX2_init ({ frames := 1, cells := 3, slots := 60, locals := 20 }) kd G ct h0 [(h0, .inr (2, [.int 0, .null, .null, .null]))] (fun a => wX2 a ct Z_) 3 60 := by
  intro sz
  refine Met.ofW (cc := cX2_init) (maxL := 1) (ret := none) (by decide) rfl ?_
  intro p e s m args below meth c s₁ B hml hv
  obtain ⟨⟨rfl, hsz, hP, hK, hD0, hE⟩, hAO⟩ := hv
  have hx := B.exec
  have hb := B.bytes
  have hr := B.returns
  have hts := atoms_spec (ws := wsX2_init) B.pre
  have hown : s.vm.findClass RX2 = some m.cls := findClass_of_methodNamed B.named
  have hlocks := B.notSynchronized
  have hin : meth.name = "<init>" := (name_of_methodNamed B.named B.method).1
  have inX2 : ∀ w ∈ wsX20, w ∈ wsX2_init := by decide +kernel
  have fl9 := hts (.fieldLink RX2 9 "FittingStrides$Sights" "begins" "[I") (by decide +kernel)
  have fl15 := hts (.fieldLink RX2 15 "FittingStrides$Sights" "ends" "[I") (by decide +kernel)
  have fl18 := hts (.fieldLink RX2 18 "FittingStrides$Sights" "came" "[Z") (by decide +kernel)
  subst hsz
  have hD := hD0.self (sz := s.heap.size)
  generalize hAe : va_A [(h0, .inr (2, [.int 0, .null, .null, .null]))] s.heap.size = A at hD hE ⊢
  have hA : ∀ q : Nat, s.heap.size ≤ q → A q := fun q h => by rw [← hAe]; exact Or.inr h
  have hW : WW G A s.heap ([(h0, .inr (2, [.int 0, .null, .null, .null]))] : va_W) s.heap [] := ⟨hP, hD, va_S.rf⟩
  have hl := lv_entry ([.ref h0]) (n := 1) (Nat.le_of_ble_eq_true rfl)
  rw [lg_entry_eq]
  generalize (lg_sl ([.ref h0]) ++ List.replicate (1 - (lg_sl ([.ref h0])).length) Slot.unset).toArray = ls at hl ⊢
  have hl : lv_has ls 1 [(0, .ref h0)] := hl
  show W p l e ({ frames := 1, cells := 3, slots := 60, locals := 20 } : Room) s m (List.toArray [.ref h0]) below meth c s.heap [] 0 0 (MQ below (va_Qv (fun (a : Nat → Nat) => a 0 = h0) (fun a t => Af_ G ct ((fun a => wX2 a ct Z_) a) A t) A) (List.toArray [.ref h0]) s 3 60 A) (F0 m 0 ls [])
  refine lv_aload_n hx hb dX2_init_0 rfl (lv_at hl 0 rfl) ?_
  refine W.objInit hx hb hown (hts (.methodLink RX2 3 objectInit) (by decide +kernel)) (hts (.instanceMethod objectInit) (by decide +kernel)) (hts (.code objectInit ⟨#[0xb1]⟩ 1 none) (by decide +kernel)) rfl (by rw [hml]; exact hl.1) rfl dX2_init_1 (Nat.le_of_ble_eq_true rfl) (Nat.le_of_ble_eq_true rfl) ?_
  refine W.eq (g2 := F0 m 4 ls []) rfl ?_
  refine lv_aload_n hx hb dX2_init_4 rfl (lv_at hl 0 rfl) ?_
  refine lv_bipush (v := (20 : Int32)) hx hb dX2_init_5 (by decide) ?_
  refine x_newi (N' := 20) hx hb (hts (.arrayClass .int) (by decide +kernel)) hK hW hA (by decide) (by decide) (by decide) (Nat.le_of_ble_eq_true rfl) (Nat.le_of_ble_eq_true rfl) dX2_init_7 (fun q1 H hW => ?_)
  replace hW : WW G A s.heap ((h0, .inr (2, [.int 0, .null, .null, .null])) :: (q1, .inl (ct 0, 20, .inl (fun _ => 0))) :: [] : va_W) H _ := hW.cast (by simp only [List.cons_append, List.append_assoc, List.nil_append, List.append_nil])
  refine x_putF (w' := ((h0, .inr (2, [.int 0, .ref q1, .null, .null])) :: (q1, .inl (ct 0, 20, .inl (fun _ => 0))) :: [] : va_W)) (ci := 2) (v := .ref q1) (ty := (.array .int)) (C := RX2) (T := TX2) (N := 4) hx hb hts inX2 tyX2 tyX2_ok nmX2 hown hK hW 0 rfl rfl 1 (by decide) fl9 (fun _ h9 => h9) rfl hin rfl (by decide +kernel) rfl rfl (Nat.le_of_ble_eq_true rfl) rfl dX2_init_9 (fun H locs hW => ?_)
  refine lv_aload_n hx hb dX2_init_12 rfl (lv_at hl 0 rfl) ?_
  refine lv_bipush (v := (20 : Int32)) hx hb dX2_init_13 (by decide) ?_
  refine x_newi (N' := 20) hx hb (hts (.arrayClass .int) (by decide +kernel)) hK hW hA (by decide) (by decide) (by decide) (Nat.le_of_ble_eq_true rfl) (Nat.le_of_ble_eq_true rfl) dX2_init_15 (fun q2 H hW => ?_)
  replace hW : WW G A s.heap ((h0, .inr (2, [.int 0, .ref q1, .null, .null])) :: (q1, .inl (ct 0, 20, .inl (fun _ => 0))) :: (q2, .inl (ct 0, 20, .inl (fun _ => 0))) :: [] : va_W) H _ := hW.cast (by simp only [List.cons_append, List.append_assoc, List.nil_append, List.append_nil])
  refine x_putF (w' := ((h0, .inr (2, [.int 0, .ref q1, .ref q2, .null])) :: (q1, .inl (ct 0, 20, .inl (fun _ => 0))) :: (q2, .inl (ct 0, 20, .inl (fun _ => 0))) :: [] : va_W)) (ci := 2) (v := .ref q2) (ty := (.array .int)) (C := RX2) (T := TX2) (N := 4) hx hb hts inX2 tyX2 tyX2_ok nmX2 hown hK hW 0 rfl rfl 2 (by decide) fl15 (fun _ h9 => h9) rfl hin rfl (by decide +kernel) rfl rfl (Nat.le_of_ble_eq_true rfl) rfl dX2_init_17 (fun H locs hW => ?_)
  refine lv_aload_n hx hb dX2_init_20 rfl (lv_at hl 0 rfl) ?_
  refine lv_bipush (v := (20 : Int32)) hx hb dX2_init_21 (by decide) ?_
  refine x_newz (N' := 20) hx hb (hts (.arrayClass .boolean) (by decide +kernel)) hK hW hA (by decide) (by decide) (by decide) (Nat.le_of_ble_eq_true rfl) (Nat.le_of_ble_eq_true rfl) dX2_init_23 (fun q3 H hW => ?_)
  replace hW : WW G A s.heap ((h0, .inr (2, [.int 0, .ref q1, .ref q2, .null])) :: (q1, .inl (ct 0, 20, .inl (fun _ => 0))) :: (q2, .inl (ct 0, 20, .inl (fun _ => 0))) :: (q3, .inl (ct 2, 20, .inl (fun _ => 0))) :: [] : va_W) H _ := hW.cast (by simp only [List.cons_append, List.append_assoc, List.nil_append, List.append_nil])
  refine x_putF (w' := ((h0, .inr (2, [.int 0, .ref q1, .ref q2, .ref q3])) :: (q1, .inl (ct 0, 20, .inl (fun _ => 0))) :: (q2, .inl (ct 0, 20, .inl (fun _ => 0))) :: (q3, .inl (ct 2, 20, .inl (fun _ => 0))) :: [] : va_W)) (ci := 2) (v := .ref q3) (ty := (.array .boolean)) (C := RX2) (T := TX2) (N := 4) hx hb hts inX2 tyX2 tyX2_ok nmX2 hown hK hW 0 rfl rfl 3 (by decide) fl18 (fun _ h9 => h9) rfl hin rfl (by decide +kernel) rfl rfl (Nat.le_of_ble_eq_true rfl) rfl dX2_init_25 (fun H locs hW => ?_)
  exact x_retN (fun i => bif Nat.beq i 0 then h0 else bif Nat.beq i 2 then q1 else bif Nat.beq i 3 then q2 else bif Nat.beq i 4 then q3 else 0) hx hb hr hlocks hK hW rfl rfl dX2_init_28
set_option maxHeartbeats 4000000 in
set_option maxRecDepth 100000 in
theorem c_X3_init (l : Launch) (kd : (Nat → Nat) × (Nat → Nat)) (G : va_G) (ct : Nat → ClassId) (h0 : Nat) : CtN l yX3_init wsX3_init ({ frames := 1, cells := 5, slots := 64, locals := 20 }) kd G ct h0 [(h0, .inr (3, [.int 0, .null, .null, .null, .null, .null, .int 0, .int 0]))] (fun a => wX3 a ct Z_) 5 64 := by
  intro sz
  refine Met.ofW (cc := cX3_init) (maxL := 1) (ret := none) (by decide) rfl ?_
  intro p e s m args below meth c s₁ B hml hv
  obtain ⟨⟨rfl, hsz, hP, hK, hD0, hE⟩, hAO⟩ := hv
  have hx := B.exec
  have hb := B.bytes
  have hr := B.returns
  have hts := atoms_spec (ws := wsX3_init) B.pre
  have hown : s.vm.findClass RX3 = some m.cls := findClass_of_methodNamed B.named
  have hlocks := B.notSynchronized
  have hin : meth.name = "<init>" := (name_of_methodNamed B.named B.method).1
  have inX3 : ∀ w ∈ wsX30, w ∈ wsX3_init := by decide +kernel
  have fl9 := hts (.fieldLink RX3 9 "FittingStrides$State" "at" "[I") (by decide +kernel)
  have fl15 := hts (.fieldLink RX3 15 "FittingStrides$State" "firsts" "[I") (by decide +kernel)
  have fl18 := hts (.fieldLink RX3 18 "FittingStrides$State" "seconds" "[I") (by decide +kernel)
  have fl21 := hts (.fieldLink RX3 21 "FittingStrides$State" "steps" "[I") (by decide +kernel)
  have fl24 := hts (.fieldLink RX3 24 "FittingStrides$State" "worn" "[I") (by decide +kernel)
  subst hsz
  have hD := hD0.self (sz := s.heap.size)
  generalize hAe : va_A [(h0, .inr (3, [.int 0, .null, .null, .null, .null, .null, .int 0, .int 0]))] s.heap.size = A at hD hE ⊢
  have hA : ∀ q : Nat, s.heap.size ≤ q → A q := fun q h => by rw [← hAe]; exact Or.inr h
  have hW : WW G A s.heap ([(h0, .inr (3, [.int 0, .null, .null, .null, .null, .null, .int 0, .int 0]))] : va_W) s.heap [] := ⟨hP, hD, va_S.rf⟩
  have hl := lv_entry ([.ref h0]) (n := 1) (Nat.le_of_ble_eq_true rfl)
  rw [lg_entry_eq]
  generalize (lg_sl ([.ref h0]) ++ List.replicate (1 - (lg_sl ([.ref h0])).length) Slot.unset).toArray = ls at hl ⊢
  have hl : lv_has ls 1 [(0, .ref h0)] := hl
  show W p l e ({ frames := 1, cells := 5, slots := 64, locals := 20 } : Room) s m (List.toArray [.ref h0]) below meth c s.heap [] 0 0 (MQ below (va_Qv (fun (a : Nat → Nat) => a 0 = h0) (fun a t => Af_ G ct ((fun a => wX3 a ct Z_) a) A t) A) (List.toArray [.ref h0]) s 5 64 A) (F0 m 0 ls [])
  refine lv_aload_n hx hb dX3_init_0 rfl (lv_at hl 0 rfl) ?_
  refine W.objInit hx hb hown (hts (.methodLink RX3 3 objectInit) (by decide +kernel)) (hts (.instanceMethod objectInit) (by decide +kernel)) (hts (.code objectInit ⟨#[0xb1]⟩ 1 none) (by decide +kernel)) rfl (by rw [hml]; exact hl.1) rfl dX3_init_1 (Nat.le_of_ble_eq_true rfl) (Nat.le_of_ble_eq_true rfl) ?_
  refine W.eq (g2 := F0 m 4 ls []) rfl ?_
  refine lv_aload_n hx hb dX3_init_4 rfl (lv_at hl 0 rfl) ?_
  refine lv_bipush (v := (8 : Int32)) hx hb dX3_init_5 (by decide) ?_
  refine x_newi (N' := 8) hx hb (hts (.arrayClass .int) (by decide +kernel)) hK hW hA (by decide) (by decide) (by decide) (Nat.le_of_ble_eq_true rfl) (Nat.le_of_ble_eq_true rfl) dX3_init_7 (fun q1 H hW => ?_)
  replace hW : WW G A s.heap ((h0, .inr (3, [.int 0, .null, .null, .null, .null, .null, .int 0, .int 0])) :: (q1, .inl (ct 0, 8, .inl (fun _ => 0))) :: [] : va_W) H _ := hW.cast (by simp only [List.cons_append, List.append_assoc, List.nil_append, List.append_nil])
  refine x_putF (w' := ((h0, .inr (3, [.int 0, .ref q1, .null, .null, .null, .null, .int 0, .int 0])) :: (q1, .inl (ct 0, 8, .inl (fun _ => 0))) :: [] : va_W)) (ci := 3) (v := .ref q1) (ty := (.array .int)) (C := RX3) (T := TX3) (N := 8) hx hb hts inX3 tyX3 tyX3_ok nmX3 hown hK hW 0 rfl rfl 1 (by decide) fl9 (fun _ h9 => h9) rfl hin rfl (by decide +kernel) rfl rfl (Nat.le_of_ble_eq_true rfl) rfl dX3_init_9 (fun H locs hW => ?_)
  refine lv_aload_n hx hb dX3_init_12 rfl (lv_at hl 0 rfl) ?_
  refine lv_bipush (v := (8 : Int32)) hx hb dX3_init_13 (by decide) ?_
  refine x_newi (N' := 8) hx hb (hts (.arrayClass .int) (by decide +kernel)) hK hW hA (by decide) (by decide) (by decide) (Nat.le_of_ble_eq_true rfl) (Nat.le_of_ble_eq_true rfl) dX3_init_15 (fun q2 H hW => ?_)
  replace hW : WW G A s.heap ((h0, .inr (3, [.int 0, .ref q1, .null, .null, .null, .null, .int 0, .int 0])) :: (q1, .inl (ct 0, 8, .inl (fun _ => 0))) :: (q2, .inl (ct 0, 8, .inl (fun _ => 0))) :: [] : va_W) H _ := hW.cast (by simp only [List.cons_append, List.append_assoc, List.nil_append, List.append_nil])
  refine x_putF (w' := ((h0, .inr (3, [.int 0, .ref q1, .ref q2, .null, .null, .null, .int 0, .int 0])) :: (q1, .inl (ct 0, 8, .inl (fun _ => 0))) :: (q2, .inl (ct 0, 8, .inl (fun _ => 0))) :: [] : va_W)) (ci := 3) (v := .ref q2) (ty := (.array .int)) (C := RX3) (T := TX3) (N := 8) hx hb hts inX3 tyX3 tyX3_ok nmX3 hown hK hW 0 rfl rfl 2 (by decide) fl15 (fun _ h9 => h9) rfl hin rfl (by decide +kernel) rfl rfl (Nat.le_of_ble_eq_true rfl) rfl dX3_init_17 (fun H locs hW => ?_)
  refine lv_aload_n hx hb dX3_init_20 rfl (lv_at hl 0 rfl) ?_
  refine lv_bipush (v := (8 : Int32)) hx hb dX3_init_21 (by decide) ?_
  refine x_newi (N' := 8) hx hb (hts (.arrayClass .int) (by decide +kernel)) hK hW hA (by decide) (by decide) (by decide) (Nat.le_of_ble_eq_true rfl) (Nat.le_of_ble_eq_true rfl) dX3_init_23 (fun q3 H hW => ?_)
  replace hW : WW G A s.heap ((h0, .inr (3, [.int 0, .ref q1, .ref q2, .null, .null, .null, .int 0, .int 0])) :: (q1, .inl (ct 0, 8, .inl (fun _ => 0))) :: (q2, .inl (ct 0, 8, .inl (fun _ => 0))) :: (q3, .inl (ct 0, 8, .inl (fun _ => 0))) :: [] : va_W) H _ := hW.cast (by simp only [List.cons_append, List.append_assoc, List.nil_append, List.append_nil])
  refine x_putF (w' := ((h0, .inr (3, [.int 0, .ref q1, .ref q2, .ref q3, .null, .null, .int 0, .int 0])) :: (q1, .inl (ct 0, 8, .inl (fun _ => 0))) :: (q2, .inl (ct 0, 8, .inl (fun _ => 0))) :: (q3, .inl (ct 0, 8, .inl (fun _ => 0))) :: [] : va_W)) (ci := 3) (v := .ref q3) (ty := (.array .int)) (C := RX3) (T := TX3) (N := 8) hx hb hts inX3 tyX3 tyX3_ok nmX3 hown hK hW 0 rfl rfl 3 (by decide) fl18 (fun _ h9 => h9) rfl hin rfl (by decide +kernel) rfl rfl (Nat.le_of_ble_eq_true rfl) rfl dX3_init_25 (fun H locs hW => ?_)
  refine lv_aload_n hx hb dX3_init_28 rfl (lv_at hl 0 rfl) ?_
  refine lv_bipush (v := (30 : Int32)) hx hb dX3_init_29 (by decide) ?_
  refine x_newi (N' := 30) hx hb (hts (.arrayClass .int) (by decide +kernel)) hK hW hA (by decide) (by decide) (by decide) (Nat.le_of_ble_eq_true rfl) (Nat.le_of_ble_eq_true rfl) dX3_init_31 (fun q4 H hW => ?_)
  replace hW : WW G A s.heap ((h0, .inr (3, [.int 0, .ref q1, .ref q2, .ref q3, .null, .null, .int 0, .int 0])) :: (q1, .inl (ct 0, 8, .inl (fun _ => 0))) :: (q2, .inl (ct 0, 8, .inl (fun _ => 0))) :: (q3, .inl (ct 0, 8, .inl (fun _ => 0))) :: (q4, .inl (ct 0, 30, .inl (fun _ => 0))) :: [] : va_W) H _ := hW.cast (by simp only [List.cons_append, List.append_assoc, List.nil_append, List.append_nil])
  refine x_putF (w' := ((h0, .inr (3, [.int 0, .ref q1, .ref q2, .ref q3, .ref q4, .null, .int 0, .int 0])) :: (q1, .inl (ct 0, 8, .inl (fun _ => 0))) :: (q2, .inl (ct 0, 8, .inl (fun _ => 0))) :: (q3, .inl (ct 0, 8, .inl (fun _ => 0))) :: (q4, .inl (ct 0, 30, .inl (fun _ => 0))) :: [] : va_W)) (ci := 3) (v := .ref q4) (ty := (.array .int)) (C := RX3) (T := TX3) (N := 8) hx hb hts inX3 tyX3 tyX3_ok nmX3 hown hK hW 0 rfl rfl 4 (by decide) fl21 (fun _ h9 => h9) rfl hin rfl (by decide +kernel) rfl rfl (Nat.le_of_ble_eq_true rfl) rfl dX3_init_33 (fun H locs hW => ?_)
  refine lv_aload_n hx hb dX3_init_36 rfl (lv_at hl 0 rfl) ?_
  refine lv_bipush (v := (10 : Int32)) hx hb dX3_init_37 (by decide) ?_
  refine x_newi (N' := 10) hx hb (hts (.arrayClass .int) (by decide +kernel)) hK hW hA (by decide) (by decide) (by decide) (Nat.le_of_ble_eq_true rfl) (Nat.le_of_ble_eq_true rfl) dX3_init_39 (fun q5 H hW => ?_)
  replace hW : WW G A s.heap ((h0, .inr (3, [.int 0, .ref q1, .ref q2, .ref q3, .ref q4, .null, .int 0, .int 0])) :: (q1, .inl (ct 0, 8, .inl (fun _ => 0))) :: (q2, .inl (ct 0, 8, .inl (fun _ => 0))) :: (q3, .inl (ct 0, 8, .inl (fun _ => 0))) :: (q4, .inl (ct 0, 30, .inl (fun _ => 0))) :: (q5, .inl (ct 0, 10, .inl (fun _ => 0))) :: [] : va_W) H _ := hW.cast (by simp only [List.cons_append, List.append_assoc, List.nil_append, List.append_nil])
  refine x_putF (w' := ((h0, .inr (3, [.int 0, .ref q1, .ref q2, .ref q3, .ref q4, .ref q5, .int 0, .int 0])) :: (q1, .inl (ct 0, 8, .inl (fun _ => 0))) :: (q2, .inl (ct 0, 8, .inl (fun _ => 0))) :: (q3, .inl (ct 0, 8, .inl (fun _ => 0))) :: (q4, .inl (ct 0, 30, .inl (fun _ => 0))) :: (q5, .inl (ct 0, 10, .inl (fun _ => 0))) :: [] : va_W)) (ci := 3) (v := .ref q5) (ty := (.array .int)) (C := RX3) (T := TX3) (N := 8) hx hb hts inX3 tyX3 tyX3_ok nmX3 hown hK hW 0 rfl rfl 5 (by decide) fl24 (fun _ h9 => h9) rfl hin rfl (by decide +kernel) rfl rfl (Nat.le_of_ble_eq_true rfl) rfl dX3_init_41 (fun H locs hW => ?_)
  exact x_retN (fun i => bif Nat.beq i 0 then h0 else bif Nat.beq i 2 then q1 else bif Nat.beq i 3 then q2 else bif Nat.beq i 4 then q3 else bif Nat.beq i 5 then q4 else bif Nat.beq i 6 then q5 else 0) hx hb hr hlocks hK hW rfl rfl dX3_init_44
set_option maxHeartbeats 4000000 in
set_option maxRecDepth 100000 in
theorem c_X5_init (l : Launch) (kd : (Nat → Nat) × (Nat → Nat)) (G : va_G) (ct : Nat → ClassId) (h0 : Nat) : CtN l yX5_init wsX5_init ({ frames := 2, cells := 13, slots := 134, locals := 40 }) kd G ct h0 [(h0, .inr (5, [.null, .null, .null, .null]))] (fun a => wX5 a ct Z_) 13 134 := by
  intro sz
  refine Met.ofW (cc := cX5_init) (maxL := 1) (ret := none) (by decide) rfl ?_
  intro p e s m args below meth c s₁ B hml hv
  obtain ⟨⟨rfl, hsz, hP, hK, hD0, hE⟩, hAO⟩ := hv
  have hx := B.exec
  have hb := B.bytes
  have hr := B.returns
  have hts := atoms_spec (ws := wsX5_init) B.pre
  have hown : s.vm.findClass RX5 = some m.cls := findClass_of_methodNamed B.named
  have hlocks := B.notSynchronized
  have hin : meth.name = "<init>" := (name_of_methodNamed B.named B.method).1
  have inX1 : ∀ w ∈ wsX10, w ∈ wsX5_init := by decide +kernel
  have inX3 : ∀ w ∈ wsX30, w ∈ wsX5_init := by decide +kernel
  have inX5 : ∀ w ∈ wsX50, w ∈ wsX5_init := by decide +kernel
  have fl12 := hts (.fieldLink RX5 12 "FittingStrides$Town" "plan" "LFittingStrides$Plan;") (by decide +kernel)
  have fl21 := hts (.fieldLink RX5 21 "FittingStrides$Town" "state" "LFittingStrides$State;") (by decide +kernel)
  have fl25 := hts (.fieldLink RX5 25 "FittingStrides$Town" "liftsUp" "[I") (by decide +kernel)
  have fl29 := hts (.fieldLink RX5 29 "FittingStrides$Town" "liftsDown" "[I") (by decide +kernel)
  subst hsz
  have hD := hD0.self (sz := s.heap.size)
  generalize hAe : va_A [(h0, .inr (5, [.null, .null, .null, .null]))] s.heap.size = A at hD hE ⊢
  have hA : ∀ q : Nat, s.heap.size ≤ q → A q := fun q h => by rw [← hAe]; exact Or.inr h
  have hW : WW G A s.heap ([(h0, .inr (5, [.null, .null, .null, .null]))] : va_W) s.heap [] := ⟨hP, hD, va_S.rf⟩
  have hl := lv_entry ([.ref h0]) (n := 1) (Nat.le_of_ble_eq_true rfl)
  rw [lg_entry_eq]
  generalize (lg_sl ([.ref h0]) ++ List.replicate (1 - (lg_sl ([.ref h0])).length) Slot.unset).toArray = ls at hl ⊢
  have hl : lv_has ls 1 [(0, .ref h0)] := hl
  show W p l e ({ frames := 2, cells := 13, slots := 134, locals := 40 } : Room) s m (List.toArray [.ref h0]) below meth c s.heap [] 0 0 (MQ below (va_Qv (fun (a : Nat → Nat) => a 0 = h0) (fun a t => Af_ G ct ((fun a => wX5 a ct Z_) a) A t) A) (List.toArray [.ref h0]) s 13 134 A) (F0 m 0 ls [])
  refine lv_aload_n hx hb dX5_init_0 rfl (lv_at hl 0 rfl) ?_
  refine W.objInit hx hb hown (hts (.methodLink RX5 3 objectInit) (by decide +kernel)) (hts (.instanceMethod objectInit) (by decide +kernel)) (hts (.code objectInit ⟨#[0xb1]⟩ 1 none) (by decide +kernel)) rfl (by rw [hml]; exact hl.1) rfl dX5_init_1 (Nat.le_of_ble_eq_true rfl) (Nat.le_of_ble_eq_true rfl) ?_
  refine W.eq (g2 := F0 m 4 ls []) rfl ?_
  refine lv_aload_n hx hb dX5_init_4 rfl (lv_at hl 0 rfl) ?_
  refine x_new (ci := 1) (fs := [.int 0, .int 0, .null, .null, .null, .null]) (C := RX1) (T := TX1) (N := 6) hx hb hts inX1 tyX1 tyX1_ok hown (hts (.classLink RX5 9 RX1) (by decide +kernel)) (hts (.instantiable RX1 6) (by decide +kernel)) (hts (.initialized RX1) (by decide +kernel)) hK hW hA rfl (by decide +kernel) (Nat.le_of_ble_eq_true rfl) (Nat.le_of_ble_eq_true rfl) dX5_init_5 (fun q1 H hW => ?_)
  replace hW : WW G A s.heap ((h0, .inr (5, [.null, .null, .null, .null])) :: (q1, .inr (1, [.int 0, .int 0, .null, .null, .null, .null])) :: [] : va_W) H _ := hW.cast (by simp only [List.cons_append, List.append_assoc, List.nil_append, List.append_nil])
  refine lv_dup hx hb dX5_init_8 rfl ?_
  refine x_callIN (rest := [.ref q1, .ref h0]) ⟨hx, hb, hml, hown, hts⟩ (c_X1_init l kd G ct q1) ⟨va_cnB 0 hts gX5_init_X1_init_n11 rfl rfl rfl (hE.1 (RX5, 11, yX1_init) (by decide +kernel)) (hts (.initialized RX1) (by decide +kernel)) (by decide +kernel) ⟨Nat.le_of_ble_eq_true rfl, Nat.le_of_ble_eq_true rfl⟩, rfl, hts (.instanceMethod yX1_init) (by decide +kernel)⟩ hK hE hAO hA hW ((h0, .inr (5, [.null, .null, .null, .null])) :: [] : va_W) (by simp only [List.cons_append, List.append_assoc, List.nil_append, List.append_nil]) hl.1 rfl (lv_room (Nat.le_of_ble_eq_true rfl)) dX5_init_9 ⟨Nat.le_of_ble_eq_true rfl, Nat.le_of_ble_eq_true rfl⟩ (fun a2 hq0 H locs hWn => ?_)
  subst hq0
  replace hW : WW G A s.heap ((h0, .inr (5, [.null, .null, .null, .null])) :: (wX1 a2 ct Z_) : va_W) H _ := hWn.cast (by simp only [List.cons_append, List.append_assoc, List.nil_append, List.append_nil])
  refine x_putF (w' := ((h0, .inr (5, [.ref (a2 0), .null, .null, .null])) :: (wX1 a2 ct Z_) : va_W)) (ci := 5) (v := .ref (a2 0)) (ty := (.object "FittingStrides$Plan")) (C := RX5) (T := TX5) (N := 4) hx hb hts inX5 tyX5 tyX5_ok nmX5 hown hK hW 0 rfl rfl 0 (by decide) fl12 (fun _ h9 => h9) rfl hin rfl (by decide +kernel) rfl rfl (Nat.le_of_ble_eq_true rfl) rfl dX5_init_12 (fun H locs hW => ?_)
  refine lv_aload_n hx hb dX5_init_15 rfl (lv_at hl 0 rfl) ?_
  refine x_new (ci := 3) (fs := [.int 0, .null, .null, .null, .null, .null, .int 0, .int 0]) (C := RX3) (T := TX3) (N := 8) hx hb hts inX3 tyX3 tyX3_ok hown (hts (.classLink RX5 18 RX3) (by decide +kernel)) (hts (.instantiable RX3 8) (by decide +kernel)) (hts (.initialized RX3) (by decide +kernel)) hK hW hA rfl (by decide +kernel) (Nat.le_of_ble_eq_true rfl) (Nat.le_of_ble_eq_true rfl) dX5_init_16 (fun q3 H hW => ?_)
  replace hW : WW G A s.heap ((h0, .inr (5, [.ref (a2 0), .null, .null, .null])) :: (wX1 a2 ct Z_ ++ ((q3, .inr (3, [.int 0, .null, .null, .null, .null, .null, .int 0, .int 0])) :: [])) : va_W) H _ := hW.cast (by simp only [List.cons_append, List.append_assoc, List.nil_append, List.append_nil])
  refine lv_dup hx hb dX5_init_19 rfl ?_
  refine x_callIN (rest := [.ref q3, .ref h0]) ⟨hx, hb, hml, hown, hts⟩ (c_X3_init l kd G ct q3) ⟨va_cnB 0 hts gX5_init_X3_init_n20 rfl rfl rfl (hE.1 (RX5, 20, yX3_init) (by decide +kernel)) (hts (.initialized RX3) (by decide +kernel)) (by decide +kernel) ⟨Nat.le_of_ble_eq_true rfl, Nat.le_of_ble_eq_true rfl⟩, rfl, hts (.instanceMethod yX3_init) (by decide +kernel)⟩ hK hE hAO hA hW ((h0, .inr (5, [.ref (a2 0), .null, .null, .null])) :: (wX1 a2 ct Z_) : va_W) (by simp only [List.cons_append, List.append_assoc, List.nil_append, List.append_nil]) hl.1 rfl (lv_room (Nat.le_of_ble_eq_true rfl)) dX5_init_20 ⟨Nat.le_of_ble_eq_true rfl, Nat.le_of_ble_eq_true rfl⟩ (fun a4 hq0 H locs hWn => ?_)
  subst hq0
  replace hW : WW G A s.heap ((h0, .inr (5, [.ref (a2 0), .null, .null, .null])) :: (wX1 a2 ct Z_ ++ (wX3 a4 ct Z_)) : va_W) H _ := hWn.cast (by simp only [List.cons_append, List.append_assoc, List.nil_append, List.append_nil])
  refine x_putF (w' := ((h0, .inr (5, [.ref (a2 0), .ref (a4 0), .null, .null])) :: (wX1 a2 ct Z_ ++ (wX3 a4 ct Z_)) : va_W)) (ci := 5) (v := .ref (a4 0)) (ty := (.object "FittingStrides$State")) (C := RX5) (T := TX5) (N := 4) hx hb hts inX5 tyX5 tyX5_ok nmX5 hown hK hW 0 rfl rfl 1 (by decide) fl21 (fun _ h9 => h9) rfl hin rfl (by decide +kernel) rfl rfl (Nat.le_of_ble_eq_true rfl) rfl dX5_init_23 (fun H locs hW => ?_)
  refine lv_aload_n hx hb dX5_init_26 rfl (lv_at hl 0 rfl) ?_
  refine lv_bipush (v := (8 : Int32)) hx hb dX5_init_27 (by decide) ?_
  refine x_newi (N' := 8) hx hb (hts (.arrayClass .int) (by decide +kernel)) hK hW hA (by decide) (by decide) (by decide) (Nat.le_of_ble_eq_true rfl) (Nat.le_of_ble_eq_true rfl) dX5_init_29 (fun q5 H hW => ?_)
  replace hW : WW G A s.heap ((h0, .inr (5, [.ref (a2 0), .ref (a4 0), .null, .null])) :: (wX1 a2 ct Z_ ++ (wX3 a4 ct Z_ ++ ((q5, .inl (ct 0, 8, .inl (fun _ => 0))) :: []))) : va_W) H _ := hW.cast (by simp only [List.cons_append, List.append_assoc, List.nil_append, List.append_nil])
  refine x_putF (w' := ((h0, .inr (5, [.ref (a2 0), .ref (a4 0), .ref q5, .null])) :: (wX1 a2 ct Z_ ++ (wX3 a4 ct Z_ ++ ((q5, .inl (ct 0, 8, .inl (fun _ => 0))) :: []))) : va_W)) (ci := 5) (v := .ref q5) (ty := (.array .int)) (C := RX5) (T := TX5) (N := 4) hx hb hts inX5 tyX5 tyX5_ok nmX5 hown hK hW 0 rfl rfl 2 (by decide) fl25 (fun _ h9 => h9) rfl hin rfl (by decide +kernel) rfl rfl (Nat.le_of_ble_eq_true rfl) rfl dX5_init_31 (fun H locs hW => ?_)
  refine lv_aload_n hx hb dX5_init_34 rfl (lv_at hl 0 rfl) ?_
  refine lv_bipush (v := (8 : Int32)) hx hb dX5_init_35 (by decide) ?_
  refine x_newi (N' := 8) hx hb (hts (.arrayClass .int) (by decide +kernel)) hK hW hA (by decide) (by decide) (by decide) (Nat.le_of_ble_eq_true rfl) (Nat.le_of_ble_eq_true rfl) dX5_init_37 (fun q6 H hW => ?_)
  replace hW : WW G A s.heap ((h0, .inr (5, [.ref (a2 0), .ref (a4 0), .ref q5, .null])) :: (wX1 a2 ct Z_ ++ (wX3 a4 ct Z_ ++ ((q5, .inl (ct 0, 8, .inl (fun _ => 0))) :: (q6, .inl (ct 0, 8, .inl (fun _ => 0))) :: []))) : va_W) H _ := hW.cast (by simp only [List.cons_append, List.append_assoc, List.nil_append, List.append_nil])
  refine x_putF (w' := ((h0, .inr (5, [.ref (a2 0), .ref (a4 0), .ref q5, .ref q6])) :: (wX1 a2 ct Z_ ++ (wX3 a4 ct Z_ ++ ((q5, .inl (ct 0, 8, .inl (fun _ => 0))) :: (q6, .inl (ct 0, 8, .inl (fun _ => 0))) :: []))) : va_W)) (ci := 5) (v := .ref q6) (ty := (.array .int)) (C := RX5) (T := TX5) (N := 4) hx hb hts inX5 tyX5 tyX5_ok nmX5 hown hK hW 0 rfl rfl 3 (by decide) fl29 (fun _ h9 => h9) rfl hin rfl (by decide +kernel) rfl rfl (Nat.le_of_ble_eq_true rfl) rfl dX5_init_39 (fun H locs hW => ?_)
  exact x_retN (fun i => bif Nat.beq i 0 then h0 else bif Nat.ble i 7 then a2 (i - 1) else bif Nat.ble i 16 then a4 (i - 8) else bif Nat.beq i 17 then q5 else bif Nat.beq i 18 then q6 else 0) hx hb hr hlocks hK hW rfl rfl dX5_init_42
set_option maxHeartbeats 4000000 in
set_option maxRecDepth 100000 in
theorem c_X4_init (l : Launch) (kd : (Nat → Nat) × (Nat → Nat)) (G : va_G) (ct : Nat → ClassId) (h0 : Nat) : CtN l yX4_init wsX4_init ({ frames := 3, cells := 15, slots := 638, locals := 60 }) kd G ct h0 [(h0, .inr (4, [.int 0, .int 0, .int 0, .null, .null, .int 0]))] (fun a => wX4 a ct Z_) 15 638 := by
  intro sz
  refine Met.ofW (cc := cX4_init) (maxL := 1) (ret := none) (by decide) rfl ?_
  intro p e s m args below meth c s₁ B hml hv
  obtain ⟨⟨rfl, hsz, hP, hK, hD0, hE⟩, hAO⟩ := hv
  have hx := B.exec
  have hb := B.bytes
  have hr := B.returns
  have hts := atoms_spec (ws := wsX4_init) B.pre
  have hown : s.vm.findClass RX4 = some m.cls := findClass_of_methodNamed B.named
  have hlocks := B.notSynchronized
  have hin : meth.name = "<init>" := (name_of_methodNamed B.named B.method).1
  have inX4 : ∀ w ∈ wsX40, w ∈ wsX4_init := by decide +kernel
  have inX5 : ∀ w ∈ wsX50, w ∈ wsX4_init := by decide +kernel
  have fl12 := hts (.fieldLink RX4 12 "FittingStrides$Text" "draft" "LFittingStrides$Town;") (by decide +kernel)
  have fl18 := hts (.fieldLink RX4 18 "FittingStrides$Text" "bytes" "[B") (by decide +kernel)
  subst hsz
  have hD := hD0.self (sz := s.heap.size)
  generalize hAe : va_A [(h0, .inr (4, [.int 0, .int 0, .int 0, .null, .null, .int 0]))] s.heap.size = A at hD hE ⊢
  have hA : ∀ q : Nat, s.heap.size ≤ q → A q := fun q h => by rw [← hAe]; exact Or.inr h
  have hW : WW G A s.heap ([(h0, .inr (4, [.int 0, .int 0, .int 0, .null, .null, .int 0]))] : va_W) s.heap [] := ⟨hP, hD, va_S.rf⟩
  have hl := lv_entry ([.ref h0]) (n := 1) (Nat.le_of_ble_eq_true rfl)
  rw [lg_entry_eq]
  generalize (lg_sl ([.ref h0]) ++ List.replicate (1 - (lg_sl ([.ref h0])).length) Slot.unset).toArray = ls at hl ⊢
  have hl : lv_has ls 1 [(0, .ref h0)] := hl
  show W p l e ({ frames := 3, cells := 15, slots := 638, locals := 60 } : Room) s m (List.toArray [.ref h0]) below meth c s.heap [] 0 0 (MQ below (va_Qv (fun (a : Nat → Nat) => a 0 = h0) (fun a t => Af_ G ct ((fun a => wX4 a ct Z_) a) A t) A) (List.toArray [.ref h0]) s 15 638 A) (F0 m 0 ls [])
  refine lv_aload_n hx hb dX4_init_0 rfl (lv_at hl 0 rfl) ?_
  refine W.objInit hx hb hown (hts (.methodLink RX4 3 objectInit) (by decide +kernel)) (hts (.instanceMethod objectInit) (by decide +kernel)) (hts (.code objectInit ⟨#[0xb1]⟩ 1 none) (by decide +kernel)) rfl (by rw [hml]; exact hl.1) rfl dX4_init_1 (Nat.le_of_ble_eq_true rfl) (Nat.le_of_ble_eq_true rfl) ?_
  refine W.eq (g2 := F0 m 4 ls []) rfl ?_
  refine lv_aload_n hx hb dX4_init_4 rfl (lv_at hl 0 rfl) ?_
  refine x_new (ci := 5) (fs := [.null, .null, .null, .null]) (C := RX5) (T := TX5) (N := 4) hx hb hts inX5 tyX5 tyX5_ok hown (hts (.classLink RX4 9 RX5) (by decide +kernel)) (hts (.instantiable RX5 4) (by decide +kernel)) (hts (.initialized RX5) (by decide +kernel)) hK hW hA rfl (by decide +kernel) (Nat.le_of_ble_eq_true rfl) (Nat.le_of_ble_eq_true rfl) dX4_init_5 (fun q1 H hW => ?_)
  replace hW : WW G A s.heap ((h0, .inr (4, [.int 0, .int 0, .int 0, .null, .null, .int 0])) :: (q1, .inr (5, [.null, .null, .null, .null])) :: [] : va_W) H _ := hW.cast (by simp only [List.cons_append, List.append_assoc, List.nil_append, List.append_nil])
  refine lv_dup hx hb dX4_init_8 rfl ?_
  refine x_callIN (rest := [.ref q1, .ref h0]) ⟨hx, hb, hml, hown, hts⟩ (c_X5_init l kd G ct q1) ⟨va_cnB 0 hts gX4_init_X5_init_n11 rfl rfl rfl (hE.1 (RX4, 11, yX5_init) (by decide +kernel)) (hts (.initialized RX5) (by decide +kernel)) (by decide +kernel) ⟨Nat.le_of_ble_eq_true rfl, Nat.le_of_ble_eq_true rfl⟩, rfl, hts (.instanceMethod yX5_init) (by decide +kernel)⟩ hK hE hAO hA hW ((h0, .inr (4, [.int 0, .int 0, .int 0, .null, .null, .int 0])) :: [] : va_W) (by simp only [List.cons_append, List.append_assoc, List.nil_append, List.append_nil]) hl.1 rfl (lv_room (Nat.le_of_ble_eq_true rfl)) dX4_init_9 ⟨Nat.le_of_ble_eq_true rfl, Nat.le_of_ble_eq_true rfl⟩ (fun a2 hq0 H locs hWn => ?_)
  subst hq0
  replace hW : WW G A s.heap ((h0, .inr (4, [.int 0, .int 0, .int 0, .null, .null, .int 0])) :: (wX5 a2 ct Z_) : va_W) H _ := hWn.cast (by simp only [List.cons_append, List.append_assoc, List.nil_append, List.append_nil])
  refine x_putF (w' := ((h0, .inr (4, [.int 0, .int 0, .int 0, .ref (a2 0), .null, .int 0])) :: (wX5 a2 ct Z_) : va_W)) (ci := 4) (v := .ref (a2 0)) (ty := (.object "FittingStrides$Town")) (C := RX4) (T := TX4) (N := 6) hx hb hts inX4 tyX4 tyX4_ok nmX4 hown hK hW 0 rfl rfl 3 (by decide) fl12 (fun _ h9 => h9) rfl hin rfl (by decide +kernel) rfl rfl (Nat.le_of_ble_eq_true rfl) rfl dX4_init_12 (fun H locs hW => ?_)
  refine lv_aload_n hx hb dX4_init_15 rfl (lv_at hl 0 rfl) ?_
  refine lv_sipush (v := (500 : Int32)) hx hb dX4_init_16 (by decide) ?_
  refine x_newb (N' := 500) hx hb (hts (.arrayClass .byte) (by decide +kernel)) hK hW hA (by decide) (by decide) (by decide) (Nat.le_of_ble_eq_true rfl) (Nat.le_of_ble_eq_true rfl) dX4_init_19 (fun q3 H hW => ?_)
  replace hW : WW G A s.heap ((h0, .inr (4, [.int 0, .int 0, .int 0, .ref (a2 0), .null, .int 0])) :: (wX5 a2 ct Z_ ++ ((q3, .inl (ct 1, 500, .inl (fun _ => 0))) :: [])) : va_W) H _ := hW.cast (by simp only [List.cons_append, List.append_assoc, List.nil_append, List.append_nil])
  refine x_putF (w' := ((h0, .inr (4, [.int 0, .int 0, .int 0, .ref (a2 0), .ref q3, .int 0])) :: (wX5 a2 ct Z_ ++ ((q3, .inl (ct 1, 500, .inl (fun _ => 0))) :: [])) : va_W)) (ci := 4) (v := .ref q3) (ty := (.array .byte)) (C := RX4) (T := TX4) (N := 6) hx hb hts inX4 tyX4 tyX4_ok nmX4 hown hK hW 0 rfl rfl 4 (by decide) fl18 (fun _ h9 => h9) rfl hin rfl (by decide +kernel) rfl rfl (Nat.le_of_ble_eq_true rfl) rfl dX4_init_21 (fun H locs hW => ?_)
  exact x_retN (fun i => bif Nat.beq i 0 then h0 else bif Nat.ble i 22 then a2 (i - 4) else bif Nat.beq i 23 then q3 else 0) hx hb hr hlocks hK hW rfl rfl dX4_init_24
