set_option maxHeartbeats 4000000 in
set_option maxRecDepth 100000 in
theorem c_X2_isAsSeen (l : Launch) (N : Nat) (kd : (Nat → Nat) × (Nat → Nat)) (G : va_G) (ct : Nat → ClassId) (a : Nat → Nat) (g : St_) (x2 : Int32) (o : Int32) (hf : f_X2_isAsSeen N g x2 = some o) : CtI l yX2_isAsSeen wsX2_isAsSeen ({ frames := 3, cells := 0, slots := 0, locals := 73 }) kd G ct [.ref (a 0), .ref (a 5), .int x2] (wX2 a ct g ++ wX5 (sh_ 5 a) ct (sh_ 5 g)) o (wX2 a ct g ++ wX5 (sh_ 5 a) ct (sh_ 5 g)) := by
  intro sz
  refine Met.ofW (cc := cX2_isAsSeen) (maxL := 6) (ret := (some .boolean)) (by decide) rfl ?_
  intro p e s m args below meth c s₁ B hml hv
  obtain ⟨rfl, hsz, hP, hK, hD0, hE⟩ := hv
  have hx := B.exec
  have hb := B.bytes
  have hr := B.returns
  have hts := atoms_spec (ws := wsX2_isAsSeen) B.pre
  have hown : s.vm.findClass RX2 = some m.cls := findClass_of_methodNamed B.named
  have hlocks := B.notSynchronized
  have inX2 : ∀ w ∈ wsX20, w ∈ wsX2_isAsSeen := by decide +kernel
  have fl9 := hts (.fieldLink RX2 9 "FittingStrides$Sights" "begins" "[I") (by decide +kernel)
  have fl15 := hts (.fieldLink RX2 15 "FittingStrides$Sights" "ends" "[I") (by decide +kernel)
  have fl18 := hts (.fieldLink RX2 18 "FittingStrides$Sights" "came" "[Z") (by decide +kernel)
  have fl22 := hts (.fieldLink RX2 22 "FittingStrides$Sights" "count" "I") (by decide +kernel)
  subst hsz
  have hD := hD0.self (sz := s.heap.size)
  generalize hAe : va_A (wX2 a ct g ++ wX5 (sh_ 5 a) ct (sh_ 5 g)) s.heap.size = A at hD hE ⊢
  have hA : ∀ q : Nat, s.heap.size ≤ q → A q := fun q h => by rw [← hAe]; exact Or.inr h
  have hW : WW G A s.heap (wX2 a ct g ++ wX5 (sh_ 5 a) ct (sh_ 5 g)) s.heap [] := ⟨hP, hD, va_S.rf⟩
  have hl := lv_entry ([.ref (a 0), .ref (a 5), .int x2]) (n := 6) (Nat.le_of_ble_eq_true rfl)
  rw [lg_entry_eq]
  generalize (lg_sl ([.ref (a 0), .ref (a 5), .int x2]) ++ List.replicate (6 - (lg_sl ([.ref (a 0), .ref (a 5), .int x2])).length) Slot.unset).toArray = ls at hl ⊢
  have hl : lv_has ls 6 [(0, .ref (a 0)), (1, .ref (a 5)), (2, .int x2)] := hl
  unfold f_X2_isAsSeen at hf
  show W p l e ({ frames := 3, cells := 0, slots := 0, locals := 73 } : Room) s m (List.toArray [.ref (a 0), .ref (a 5), .int x2]) below meth c s.heap [] 0 0 (MQ below (va_Qi (fun r (_ : Unit) => r = o) (fun _ t => Af_ G ct (wX2 a ct g ++ wX5 (sh_ 5 a) ct (sh_ 5 g)) A t) A) (List.toArray [.ref (a 0), .ref (a 5), .int x2]) s 0 0 A) (F0 m 0 ls [])
  refine lv_aload_n hx hb dX2_isAsSeen_0 rfl (lv_at hl 1 rfl) ?_
  refine lv_iload_n hx hb dX2_isAsSeen_1 rfl (lv_at hl 2 rfl) ?_
  refine lv_iconst (v := (0 : Int32)) hx hb dX2_isAsSeen_2 (by decide) ?_
  replace hf := bs_ hf; obtain ⟨r1, hcl, hf⟩ := hf
  refine x_callV_i (w' := (wX2 a ct g ++ wX5 (sh_ 5 a) ct (sh_ 5 g))) (As := [.int x2, .int (0 : Int32)]) (rest := []) (ci := 5) ⟨hx, hb, hml, hown, hts⟩ (c_X5_upStairs l N kd G ct (sh_ 5 a) (sh_ 5 g) x2 (0 : Int32) _ hcl) (cwV 2 hts gX2_isAsSeen_X5_upStairs rfl rfl rfl (by decide +kernel) ⟨Nat.le_of_ble_eq_true rfl, Nat.le_of_ble_eq_true rfl⟩) hK hE hA hW ((wX2 a ct g ++ wX5 (sh_ 5 a) ct (sh_ 5 g)).take 4) ((wX2 a ct g ++ wX5 (sh_ 5 a) ct (sh_ 5 g)).drop 18) (wc_X2X5_5 a ct g) (wc_X2X5_5 a ct g) 0 rfl rfl rfl rfl hl.1 rfl (lv_room (Nat.le_of_ble_eq_true rfl)) dX2_isAsSeen_3 (fun H locs hW => ?_)
  refine lv_istore_n (lv' := [(3, .int r1), (0, .ref (a 0)), (1, .ref (a 5)), (2, .int x2)]) hx hb dX2_isAsSeen_6 rfl hl (by decide) rfl (fun ls hl => ?_)
  refine lv_aload_n hx hb dX2_isAsSeen_7 rfl (lv_at hl 2 rfl) ?_
  refine lv_iload_n hx hb dX2_isAsSeen_8 rfl (lv_at hl 0 rfl) ?_
  replace hf := bs_ hf; obtain ⟨r2, hcl, hf⟩ := hf
  refine x_callV_i (w' := (wX2 a ct g ++ wX5 (sh_ 5 a) ct (sh_ 5 g))) (As := [.int r1]) (rest := []) (ci := 5) ⟨hx, hb, hml, hown, hts⟩ (c_X5_downStairs l N kd G ct (sh_ 5 a) (sh_ 5 g) r1 _ hcl) (cwV 1 hts gX2_isAsSeen_X5_downStairs rfl rfl rfl (by decide +kernel) ⟨Nat.le_of_ble_eq_true rfl, Nat.le_of_ble_eq_true rfl⟩) hK hE hA hW ((wX2 a ct g ++ wX5 (sh_ 5 a) ct (sh_ 5 g)).take 4) ((wX2 a ct g ++ wX5 (sh_ 5 a) ct (sh_ 5 g)).drop 18) (wc_X2X5_5 a ct g) (wc_X2X5_5 a ct g) 0 rfl rfl rfl rfl hl.1 rfl (lv_room (Nat.le_of_ble_eq_true rfl)) dX2_isAsSeen_9 (fun H locs hW => ?_)
  refine lv_istore (lv' := [(4, .int r2), (3, .int r1), (0, .ref (a 0)), (1, .ref (a 5)), (2, .int x2)]) hx hb dX2_isAsSeen_12 hl (by decide) rfl (fun ls hl => ?_)
  refine lv_iconst (v := (0 : Int32)) hx hb dX2_isAsSeen_14 (by decide) ?_
  refine lv_istore (lv' := [(5, .int (0 : Int32)), (4, .int r2), (3, .int r1), (0, .ref (a 0)), (1, .ref (a 5)), (2, .int x2)]) hx hb dX2_isAsSeen_15 hl (by decide) rfl (fun ls hl => ?_)
  replace hf := bs_ hf; obtain ⟨jr, hg, hf⟩ := hf
  have hR3 : ∀ r, jr = Sum.inl r → r = o := fun r hr0 => by subst hr0; have h8 := se_l hf; exact Option.some.inj h8
  have J3 : ∀ (v3 : Unit), jr = Sum.inr v3 → ∀ (H : Heap) (locs : List Loc) (ls : Array Slot), WW G A s.heap (wX2 a ct g ++ wX5 (sh_ 5 a) ct (sh_ 5 g)) H locs → lv_has ls 6 [] → W p l e ({ frames := 3, cells := 0, slots := 0, locals := 73 } : Room) s m (List.toArray [.ref (a 0), .ref (a 5), .int x2]) below meth c H locs 0 0 (MQ below (va_Qi (fun r (_ : Unit) => r = o) (fun _ t => Af_ G ct (wX2 a ct g ++ wX5 (sh_ 5 a) ct (sh_ 5 g)) A t) A) (List.toArray [.ref (a 0), .ref (a 5), .int x2]) s 0 0 A) (F0 m 68 ls []) := by
    intro v3 hjr H locs ls hW hl
    subst hjr
    replace hf := se_r hf
    refine lv_iconst (v := (1 : Int32)) hx hb dX2_isAsSeen_68 (by decide) ?_
    have ho := Option.some.inj hf
    subst ho
    exact x_retz hx hb hr rfl hlocks hK hW rfl rfl dX2_isAsSeen_69
  clear hf
  have L3 : ∀ (n : Nat) (y3_5 : Int32), f_X2_isAsSeen_L17 N g r1 r2 n y3_5 = some jr → ∀ (H : Heap) (locs : List Loc) (ls : Array Slot), WW G A s.heap (wX2 a ct g ++ wX5 (sh_ 5 a) ct (sh_ 5 g)) H locs → lv_has ls 6 [(0, .ref (a 0)), (1, .ref (a 5)), (3, .int r1), (4, .int r2), (5, .int y3_5)] → W p l e ({ frames := 3, cells := 0, slots := 0, locals := 73 } : Room) s m (List.toArray [.ref (a 0), .ref (a 5), .int x2]) below meth c H locs 0 0 (MQ below (va_Qi (fun r (_ : Unit) => r = o) (fun _ t => Af_ G ct (wX2 a ct g ++ wX5 (sh_ 5 a) ct (sh_ 5 g)) A t) A) (List.toArray [.ref (a 0), .ref (a 5), .int x2]) s 0 0 A) (F0 m 17 ls []) := by
    intro n
    induction n with
    | zero =>
      intro y3_5 hf
      rw [f_X2_isAsSeen_L17] at hf
      cases hf
    | succ n ih =>
      intro y3_5 hf H locs ls hW hl
      rw [f_X2_isAsSeen_L17] at hf
      refine lv_iload hx hb dX2_isAsSeen_17 (lv_at hl 4 rfl) ?_
      refine lv_aload_n hx hb dX2_isAsSeen_19 rfl (lv_at hl 0 rfl) ?_
      refine x_get (ci := 2) (v := .int (g 1 0)) (C := RX2) (T := TX2) (N := 4) hx hb hts inX2 hown hK hW 0 rfl rfl 0 (by decide) fl22 (fun _ h9 => h9) rfl dX2_isAsSeen_20 ?_
      refine lv_icmp_ge (tgt := 68) hx hb dX2_isAsSeen_23 (by decide) (fun hc => ?_) (fun hc => ?_)
      · replace hf := ifp hc hf
        have hj := (Option.some.inj hf).symm
        exact J3 _ hj _ _ _ hW (lv_sub hl [] rfl)
      · replace hf := ifn hc hf
        refine lv_aload_n hx hb dX2_isAsSeen_26 rfl (lv_at hl 1 rfl) ?_
        refine lv_aload_n hx hb dX2_isAsSeen_27 rfl (lv_at hl 0 rfl) ?_
        refine x_get (ci := 2) (v := .ref (a 2)) (C := RX2) (T := TX2) (N := 4) hx hb hts inX2 hown hK hW 0 rfl rfl 1 (by decide) fl9 (fun _ h9 => h9) rfl dX2_isAsSeen_28 ?_
        refine lv_iload hx hb dX2_isAsSeen_31 (lv_at hl 4 rfl) ?_
        replace hf := gd_s hf; obtain ⟨hin, hf⟩ := hf
        refine x_iald (n := 20) (f := g 2) hx hb hK hW 1 rfl (okI_in hin) dX2_isAsSeen_33 ?_
        refine lv_iload_n hx hb dX2_isAsSeen_34 rfl (lv_at hl 2 rfl) ?_
        refine lv_iload hx hb dX2_isAsSeen_35 (lv_at hl 3 rfl) ?_
        replace hf := bs_ hf; obtain ⟨r4, hcl, hf⟩ := hf
        refine x_callV_i (w' := (wX2 a ct g ++ wX5 (sh_ 5 a) ct (sh_ 5 g))) (As := [.int (g 2 y3_5.toNatClampNeg), .int r1, .int r2]) (rest := []) (ci := 5) ⟨hx, hb, hml, hown, hts⟩ (c_X5_spread l N kd G ct (sh_ 5 a) (sh_ 5 g) (g 2 y3_5.toNatClampNeg) r1 r2 _ hcl) (cwV 3 hts gX2_isAsSeen_X5_spread rfl rfl rfl (by decide +kernel) ⟨Nat.le_of_ble_eq_true rfl, Nat.le_of_ble_eq_true rfl⟩) hK hE hA hW ((wX2 a ct g ++ wX5 (sh_ 5 a) ct (sh_ 5 g)).take 4) ((wX2 a ct g ++ wX5 (sh_ 5 a) ct (sh_ 5 g)).drop 18) (wc_X2X5_5 a ct g) (wc_X2X5_5 a ct g) 0 rfl rfl rfl rfl hl.1 rfl (lv_room (Nat.le_of_ble_eq_true rfl)) dX2_isAsSeen_37 (fun H locs hW => ?_)
        refine lv_aload_n hx hb dX2_isAsSeen_40 rfl (lv_at hl 0 rfl) ?_
        refine x_get (ci := 2) (v := .ref (a 3)) (C := RX2) (T := TX2) (N := 4) hx hb hts inX2 hown hK hW 0 rfl rfl 2 (by decide) fl15 (fun _ h9 => h9) rfl dX2_isAsSeen_41 ?_
        refine lv_iload hx hb dX2_isAsSeen_44 (lv_at hl 4 rfl) ?_
        replace hf := gd_s hf; obtain ⟨hin, hf⟩ := hf
        refine x_iald (n := 20) (f := g 3) hx hb hK hW 2 rfl (okI_in hin) dX2_isAsSeen_46 ?_
        replace hf := bs_ hf; obtain ⟨r5, hcl, hf⟩ := hf
        refine x_callSN_i (As := [.int r4, .int (g 3 y3_5.toNatClampNeg)]) (rest := []) ⟨hx, hb, hml, hown, hts⟩ (c_X6_has l N kd G ct r4 (g 3 y3_5.toNatClampNeg) _ hcl) (⟨va_cnB 2 hts gX2_isAsSeen_X6_has_n44 rfl rfl rfl (hE.1 (RX2, 44, yX6_has) (by decide +kernel)) (hts (.initialized RX6) (by decide +kernel)) (by decide +kernel) ⟨Nat.le_of_ble_eq_true rfl, Nat.le_of_ble_eq_true rfl⟩, hts (.static yX6_has) (by decide +kernel), trivial⟩) hK hE hA hW rfl hl.1 rfl (lv_room (Nat.le_of_ble_eq_true rfl)) dX2_isAsSeen_47 (fun H locs hW => ?_)
        refine lv_aload_n hx hb dX2_isAsSeen_50 rfl (lv_at hl 0 rfl) ?_
        refine x_get (ci := 2) (v := .ref (a 4)) (C := RX2) (T := TX2) (N := 4) hx hb hts inX2 hown hK hW 0 rfl rfl 3 (by decide) fl18 (fun _ h9 => h9) rfl dX2_isAsSeen_51 ?_
        refine lv_iload hx hb dX2_isAsSeen_54 (lv_at hl 4 rfl) ?_
        replace hf := gd_s hf; obtain ⟨hin, hf⟩ := hf
        refine x_zald (n := 20) (f := g 4) hx hb hK hW 3 rfl (okI_in hin) dX2_isAsSeen_56 ?_
        refine lv_icmp_eq (tgt := 62) hx hb dX2_isAsSeen_57 (by decide) (fun hc => ?_) (fun hc => ?_)
        · replace hf := ifp hc hf
          refine lv_iinc (v := (y3_5 + (1 : Int32))) (lv' := [(5, .int (y3_5 + (1 : Int32))), (0, .ref (a 0)), (1, .ref (a 5)), (3, .int r1), (4, .int r2)]) hx hb dX2_isAsSeen_62 hl (k := 4) rfl rfl (by decide) rfl (fun ls hl => ?_)
          refine lv_goto (tgt := 17) hx hb dX2_isAsSeen_65 (by decide) ?_
          exact ih (y3_5 + (1 : Int32)) hf _ _ _ hW (lv_sub hl [1, 2, 3, 4, 0] rfl)
        · replace hf := ifn hc hf
          refine lv_iconst (v := (0 : Int32)) hx hb dX2_isAsSeen_60 (by decide) ?_
          have ho := hR3 _ (Option.some.inj hf).symm
          subst ho
          exact x_retz hx hb hr rfl hlocks hK hW rfl rfl dX2_isAsSeen_61
  exact L3 N (0 : Int32) hg _ _ _ hW (lv_sub hl [3, 4, 2, 1, 0] rfl)
set_option maxHeartbeats 4000000 in
set_option maxRecDepth 100000 in
theorem c_X2_stridesAsSeen (l : Launch) (N : Nat) (kd : (Nat → Nat) × (Nat → Nat)) (G : va_G) (ct : Nat → ClassId) (a : Nat → Nat) (g : St_) (o : Int32) (hf : f_X2_stridesAsSeen N g = some o) : CtI l yX2_stridesAsSeen wsX2_stridesAsSeen ({ frames := 4, cells := 0, slots := 0, locals := 98 }) kd G ct [.ref (a 0), .ref (a 5)] (wX2 a ct g ++ wX5 (sh_ 5 a) ct (sh_ 5 g)) o (wX2 a ct g ++ wX5 (sh_ 5 a) ct (sh_ 5 g)) := by
  intro sz
  refine Met.ofW (cc := cX2_stridesAsSeen) (maxL := 4) (ret := (some .int)) (by decide) rfl ?_
  intro p e s m args below meth c s₁ B hml hv
  obtain ⟨rfl, hsz, hP, hK, hD0, hE⟩ := hv
  have hx := B.exec
  have hb := B.bytes
  have hr := B.returns
  have hts := atoms_spec (ws := wsX2_stridesAsSeen) B.pre
  have hown : s.vm.findClass RX2 = some m.cls := findClass_of_methodNamed B.named
  have hlocks := B.notSynchronized
  subst hsz
  have hD := hD0.self (sz := s.heap.size)
  generalize hAe : va_A (wX2 a ct g ++ wX5 (sh_ 5 a) ct (sh_ 5 g)) s.heap.size = A at hD hE ⊢
  have hA : ∀ q : Nat, s.heap.size ≤ q → A q := fun q h => by rw [← hAe]; exact Or.inr h
  have hW : WW G A s.heap (wX2 a ct g ++ wX5 (sh_ 5 a) ct (sh_ 5 g)) s.heap [] := ⟨hP, hD, va_S.rf⟩
  have hl := lv_entry ([.ref (a 0), .ref (a 5)]) (n := 4) (Nat.le_of_ble_eq_true rfl)
  rw [lg_entry_eq]
  generalize (lg_sl ([.ref (a 0), .ref (a 5)]) ++ List.replicate (4 - (lg_sl ([.ref (a 0), .ref (a 5)])).length) Slot.unset).toArray = ls at hl ⊢
  have hl : lv_has ls 4 [(0, .ref (a 0)), (1, .ref (a 5))] := hl
  unfold f_X2_stridesAsSeen at hf
  show W p l e ({ frames := 4, cells := 0, slots := 0, locals := 98 } : Room) s m (List.toArray [.ref (a 0), .ref (a 5)]) below meth c s.heap [] 0 0 (MQ below (va_Qi (fun r (_ : Unit) => r = o) (fun _ t => Af_ G ct (wX2 a ct g ++ wX5 (sh_ 5 a) ct (sh_ 5 g)) A t) A) (List.toArray [.ref (a 0), .ref (a 5)]) s 0 0 A) (F0 m 0 ls [])
  refine lv_iconst (v := (0 : Int32)) hx hb dX2_stridesAsSeen_0 (by decide) ?_
  refine lv_istore_n (lv' := [(2, .int (0 : Int32)), (0, .ref (a 0)), (1, .ref (a 5))]) hx hb dX2_stridesAsSeen_1 rfl hl (by decide) rfl (fun ls hl => ?_)
  refine lv_iconst (v := (1 : Int32)) hx hb dX2_stridesAsSeen_2 (by decide) ?_
  refine lv_istore_n (lv' := [(3, .int (1 : Int32)), (2, .int (0 : Int32)), (0, .ref (a 0)), (1, .ref (a 5))]) hx hb dX2_stridesAsSeen_3 rfl hl (by decide) rfl (fun ls hl => ?_)
  replace hf := bs_ hf; obtain ⟨v1, hg, hf⟩ := hf
  have J1 : ∀ (H : Heap) (locs : List Loc) (ls : Array Slot), WW G A s.heap (wX2 a ct g ++ wX5 (sh_ 5 a) ct (sh_ 5 g)) H locs → lv_has ls 4 [(2, .int v1)] → W p l e ({ frames := 4, cells := 0, slots := 0, locals := 98 } : Room) s m (List.toArray [.ref (a 0), .ref (a 5)]) below meth c H locs 0 0 (MQ below (va_Qi (fun r (_ : Unit) => r = o) (fun _ t => Af_ G ct (wX2 a ct g ++ wX5 (sh_ 5 a) ct (sh_ 5 g)) A t) A) (List.toArray [.ref (a 0), .ref (a 5)]) s 0 0 A) (F0 m 33 ls []) := by
    intro H locs ls hW hl
    refine lv_iload_n hx hb dX2_stridesAsSeen_33 rfl (lv_at hl 0 rfl) ?_
    have ho := Option.some.inj hf
    subst ho
    exact x_reti (sz := 0) (w0 := []) (A1 := A) hx hb hr hlocks hK hW rfl rfl dX2_stridesAsSeen_34
  clear hf
  have L1 : ∀ (n : Nat) (y1_2 : Int32) (y1_3 : Int32), f_X2_stridesAsSeen_L4 N g n y1_2 y1_3 = some v1 → ∀ (H : Heap) (locs : List Loc) (ls : Array Slot), WW G A s.heap (wX2 a ct g ++ wX5 (sh_ 5 a) ct (sh_ 5 g)) H locs → lv_has ls 4 [(0, .ref (a 0)), (1, .ref (a 5)), (2, .int y1_2), (3, .int y1_3)] → W p l e ({ frames := 4, cells := 0, slots := 0, locals := 98 } : Room) s m (List.toArray [.ref (a 0), .ref (a 5)]) below meth c H locs 0 0 (MQ below (va_Qi (fun r (_ : Unit) => r = o) (fun _ t => Af_ G ct (wX2 a ct g ++ wX5 (sh_ 5 a) ct (sh_ 5 g)) A t) A) (List.toArray [.ref (a 0), .ref (a 5)]) s 0 0 A) (F0 m 4 ls []) := by
    intro n
    induction n with
    | zero =>
      intro y1_2 y1_3 hf
      rw [f_X2_stridesAsSeen_L4] at hf
      cases hf
    | succ n ih =>
      intro y1_2 y1_3 hf H locs ls hW hl
      rw [f_X2_stridesAsSeen_L4] at hf
      refine lv_iload_n hx hb dX2_stridesAsSeen_4 rfl (lv_at hl 3 rfl) ?_
      refine lv_bipush (v := (24 : Int32)) hx hb dX2_stridesAsSeen_5 (by decide) ?_
      refine lv_icmp_gt (tgt := 33) hx hb dX2_stridesAsSeen_7 (by decide) (fun hc => ?_) (fun hc => ?_)
      · replace hf := ifp hc hf
        have hj := Option.some.inj hf
        subst hj
        exact J1 _ _ _ hW (lv_sub hl [2] rfl)
      · replace hf := ifn hc hf
        refine lv_aload_n hx hb dX2_stridesAsSeen_10 rfl (lv_at hl 0 rfl) ?_
        refine lv_aload_n hx hb dX2_stridesAsSeen_11 rfl (lv_at hl 1 rfl) ?_
        refine lv_iload_n hx hb dX2_stridesAsSeen_12 rfl (lv_at hl 3 rfl) ?_
        replace hf := bs_ hf; obtain ⟨r2, hcl, hf⟩ := hf
        refine x_callW_i (w' := (wX2 a ct g ++ wX5 (sh_ 5 a) ct (sh_ 5 g))) (As := [.ref (a 5), .int y1_3]) (rest := []) (ci := 2) ⟨hx, hb, hml, hown, hts⟩ (c_X2_isAsSeen l N kd G ct a g y1_3 _ hcl) (cwV 2 hts gX2_stridesAsSeen_X2_isAsSeen rfl rfl rfl (by decide +kernel) ⟨Nat.le_of_ble_eq_true rfl, Nat.le_of_ble_eq_true rfl⟩) hK hE hA hW rfl rfl 0 rfl rfl rfl rfl hl.1 rfl (lv_room (Nat.le_of_ble_eq_true rfl)) dX2_stridesAsSeen_13 (fun H locs hW => ?_)
        replace hf := bs_ hf; obtain ⟨j3, hg, hf⟩ := hf
        have J3 : ∀ (H : Heap) (locs : List Loc) (ls : Array Slot), WW G A s.heap (wX2 a ct g ++ wX5 (sh_ 5 a) ct (sh_ 5 g)) H locs → lv_has ls 4 [(0, .ref (a 0)), (1, .ref (a 5)), (2, .int j3), (3, .int y1_3)] → W p l e ({ frames := 4, cells := 0, slots := 0, locals := 98 } : Room) s m (List.toArray [.ref (a 0), .ref (a 5)]) below meth c H locs 0 0 (MQ below (va_Qi (fun r (_ : Unit) => r = o) (fun _ t => Af_ G ct (wX2 a ct g ++ wX5 (sh_ 5 a) ct (sh_ 5 g)) A t) A) (List.toArray [.ref (a 0), .ref (a 5)]) s 0 0 A) (F0 m 27 ls ([])) := by
          intro H locs ls hW hl
          refine lv_iinc (v := (y1_3 + (1 : Int32))) (lv' := [(3, .int (y1_3 + (1 : Int32))), (0, .ref (a 0)), (1, .ref (a 5)), (2, .int j3)]) hx hb dX2_stridesAsSeen_27 hl (k := 3) rfl rfl (by decide) rfl (fun ls hl => ?_)
          refine lv_goto (tgt := 4) hx hb dX2_stridesAsSeen_30 (by decide) ?_
          exact ih j3 (y1_3 + (1 : Int32)) hf _ _ _ hW (lv_sub hl [1, 2, 3, 0] rfl)
        clear hf
        refine lv_if_eq (tgt := 27) hx hb dX2_stridesAsSeen_16 (by decide) (fun hc => ?_) (fun hc => ?_)
        · have hf := ifp hc hg
          clear hg
          have hj := Option.some.inj hf
          subst hj
          exact J3 _ _ _ hW (lv_sub hl [0, 1, 2, 3] rfl)
        · have hf := ifn hc hg
          clear hg
          refine lv_iload_n hx hb dX2_stridesAsSeen_19 rfl (lv_at hl 2 rfl) ?_
          refine lv_iconst (v := (1 : Int32)) hx hb dX2_stridesAsSeen_20 (by decide) ?_
          refine lv_iload_n hx hb dX2_stridesAsSeen_21 rfl (lv_at hl 3 rfl) ?_
          refine lv_iconst (v := (1 : Int32)) hx hb dX2_stridesAsSeen_22 (by decide) ?_
          refine lv_isub hx hb dX2_stridesAsSeen_23 ?_
          refine lv_ishl hx hb dX2_stridesAsSeen_24 ?_
          refine lv_ior hx hb dX2_stridesAsSeen_25 ?_
          refine lv_istore_n (lv' := [(2, .int (y1_2 ||| ((1 : Int32) <<< ((y1_3 - (1 : Int32)) &&& 31)))), (0, .ref (a 0)), (1, .ref (a 5)), (3, .int y1_3)]) hx hb dX2_stridesAsSeen_26 rfl hl (by decide) rfl (fun ls hl => ?_)
          have hj := Option.some.inj hf
          subst hj
          exact J3 _ _ _ hW (lv_sub hl [1, 2, 0, 3] rfl)
  exact L1 N (0 : Int32) (1 : Int32) hg _ _ _ hW (lv_sub hl [2, 3, 1, 0] rfl)
set_option maxHeartbeats 4000000 in
set_option maxRecDepth 100000 in
theorem c_X3_hasPersons (l : Launch) (N : Nat) (kd : (Nat → Nat) × (Nat → Nat)) (G : va_G) (ct : Nat → ClassId) (a : Nat → Nat) (g : St_) (x1 : Int32) (o : Int32) (hf : f_X3_hasPersons N g x1 = some o) : CtI l yX3_hasPersons wsX3_hasPersons ({ frames := 0, cells := 0, slots := 0, locals := 0 }) kd G ct [.ref (a 0), .int x1] (wX3 a ct g) o (wX3 a ct g) := by
  intro sz
  refine Met.ofW (cc := cX3_hasPersons) (maxL := 2) (ret := (some .boolean)) (by decide) rfl ?_
  intro p e s m args below meth c s₁ B hml hv
  obtain ⟨rfl, hsz, hP, hK, hD0, hE⟩ := hv
  have hx := B.exec
  have hb := B.bytes
  have hr := B.returns
  have hts := atoms_spec (ws := wsX3_hasPersons) B.pre
  have hown : s.vm.findClass RX3 = some m.cls := findClass_of_methodNamed B.named
  have hlocks := B.notSynchronized
  have inX3 : ∀ w ∈ wsX30, w ∈ wsX3_hasPersons := by decide +kernel
  have fl27 := hts (.fieldLink RX3 27 "FittingStrides$State" "persons" "I") (by decide +kernel)
  subst hsz
  have hD := hD0.self (sz := s.heap.size)
  generalize hAe : va_A (wX3 a ct g) s.heap.size = A at hD hE ⊢
  have hA : ∀ q : Nat, s.heap.size ≤ q → A q := fun q h => by rw [← hAe]; exact Or.inr h
  have hW : WW G A s.heap (wX3 a ct g) s.heap [] := ⟨hP, hD, va_S.rf⟩
  have hl := lv_entry ([.ref (a 0), .int x1]) (n := 2) (Nat.le_of_ble_eq_true rfl)
  rw [lg_entry_eq]
  generalize (lg_sl ([.ref (a 0), .int x1]) ++ List.replicate (2 - (lg_sl ([.ref (a 0), .int x1])).length) Slot.unset).toArray = ls at hl ⊢
  have hl : lv_has ls 2 [(0, .ref (a 0)), (1, .int x1)] := hl
  unfold f_X3_hasPersons at hf
  show W p l e ({ frames := 0, cells := 0, slots := 0, locals := 0 } : Room) s m (List.toArray [.ref (a 0), .int x1]) below meth c s.heap [] 0 0 (MQ below (va_Qi (fun r (_ : Unit) => r = o) (fun _ t => Af_ G ct (wX3 a ct g) A t) A) (List.toArray [.ref (a 0), .int x1]) s 0 0 A) (F0 m 0 ls [])
  refine lv_iload_n hx hb dX3_hasPersons_0 rfl (lv_at hl 1 rfl) ?_
  refine lv_if_lt (tgt := 18) hx hb dX3_hasPersons_1 (by decide) (fun hc => ?_) (fun hc => ?_)
  · replace hf := ifp hc hf
    refine lv_iconst (v := (0 : Int32)) hx hb dX3_hasPersons_18 (by decide) ?_
    have ho := Option.some.inj hf
    subst ho
    exact x_retz hx hb hr rfl hlocks hK hW rfl rfl dX3_hasPersons_19
  · replace hf := ifn hc hf
    refine lv_iload_n hx hb dX3_hasPersons_4 rfl (lv_at hl 1 rfl) ?_
    refine lv_iconst (v := (1 : Int32)) hx hb dX3_hasPersons_5 (by decide) ?_
    refine lv_aload_n hx hb dX3_hasPersons_6 rfl (lv_at hl 0 rfl) ?_
    refine x_get (ci := 3) (v := .int (g 1 0)) (C := RX3) (T := TX3) (N := 8) hx hb hts inX3 hown hK hW 0 rfl rfl 0 (by decide) fl27 (fun _ h9 => h9) rfl dX3_hasPersons_7 ?_
    refine lv_ishl hx hb dX3_hasPersons_10 ?_
    refine lv_icmp_ge (tgt := 18) hx hb dX3_hasPersons_11 (by decide) (fun hc => ?_) (fun hc => ?_)
    · replace hf := ifp hc hf
      refine lv_iconst (v := (0 : Int32)) hx hb dX3_hasPersons_18 (by decide) ?_
      have ho := Option.some.inj hf
      subst ho
      exact x_retz hx hb hr rfl hlocks hK hW rfl rfl dX3_hasPersons_19
    · replace hf := ifn hc hf
      refine lv_iconst (v := (1 : Int32)) hx hb dX3_hasPersons_14 (by decide) ?_
      refine lv_goto (tgt := 19) hx hb dX3_hasPersons_15 (by decide) ?_
      have ho := Option.some.inj hf
      subst ho
      exact x_retz hx hb hr rfl hlocks hK hW rfl rfl dX3_hasPersons_19
set_option maxHeartbeats 4000000 in
set_option maxRecDepth 100000 in
theorem c_X3_addPerson (l : Launch) (N : Nat) (kd : (Nat → Nat) × (Nat → Nat)) (G : va_G) (ct : Nat → ClassId) (a : Nat → Nat) (g : St_) (x1 : Int32) (x2 : Int32) (x3 : Int32) (o : St_) (hf : f_X3_addPerson N g x1 x2 x3 = some o) : CtV l yX3_addPerson wsX3_addPerson ({ frames := 0, cells := 0, slots := 0, locals := 0 }) kd G ct [.ref (a 0), .int x1, .int x2, .int x3] (wX3 a ct g) (wX3 a ct o) := by
  intro sz
  refine Met.ofW (cc := cX3_addPerson) (maxL := 4) (ret := none) (by decide) rfl ?_
  intro p e s m args below meth c s₁ B hml hv
  obtain ⟨rfl, hsz, hP, hK, hD0, hE⟩ := hv
  have hx := B.exec
  have hb := B.bytes
  have hr := B.returns
  have hts := atoms_spec (ws := wsX3_addPerson) B.pre
  have hown : s.vm.findClass RX3 = some m.cls := findClass_of_methodNamed B.named
  have hlocks := B.notSynchronized
  have inX3 : ∀ w ∈ wsX30, w ∈ wsX3_addPerson := by decide +kernel
  have fl9 := hts (.fieldLink RX3 9 "FittingStrides$State" "at" "[I") (by decide +kernel)
  have fl15 := hts (.fieldLink RX3 15 "FittingStrides$State" "firsts" "[I") (by decide +kernel)
  have fl18 := hts (.fieldLink RX3 18 "FittingStrides$State" "seconds" "[I") (by decide +kernel)
  have fl27 := hts (.fieldLink RX3 27 "FittingStrides$State" "persons" "I") (by decide +kernel)
  subst hsz
  have hD := hD0.self (sz := s.heap.size)
  generalize hAe : va_A (wX3 a ct g) s.heap.size = A at hD hE ⊢
  have hA : ∀ q : Nat, s.heap.size ≤ q → A q := fun q h => by rw [← hAe]; exact Or.inr h
  have hW : WW G A s.heap (wX3 a ct g) s.heap [] := ⟨hP, hD, va_S.rf⟩
  have hl := lv_entry ([.ref (a 0), .int x1, .int x2, .int x3]) (n := 4) (Nat.le_of_ble_eq_true rfl)
  rw [lg_entry_eq]
  generalize (lg_sl ([.ref (a 0), .int x1, .int x2, .int x3]) ++ List.replicate (4 - (lg_sl ([.ref (a 0), .int x1, .int x2, .int x3])).length) Slot.unset).toArray = ls at hl ⊢
  have hl : lv_has ls 4 [(0, .ref (a 0)), (1, .int x1), (2, .int x2), (3, .int x3)] := hl
  unfold f_X3_addPerson at hf
  show W p l e ({ frames := 0, cells := 0, slots := 0, locals := 0 } : Room) s m (List.toArray [.ref (a 0), .int x1, .int x2, .int x3]) below meth c s.heap [] 0 0 (MQ below (va_Qv (fun (_ : Unit) => True) (fun _ t => Af_ G ct (wX3 a ct o) A t) A) (List.toArray [.ref (a 0), .int x1, .int x2, .int x3]) s 0 0 A) (F0 m 0 ls [])
  refine lv_aload_n hx hb dX3_addPerson_0 rfl (lv_at hl 0 rfl) ?_
  refine x_get (ci := 3) (v := .int (g 1 0)) (C := RX3) (T := TX3) (N := 8) hx hb hts inX3 hown hK hW 0 rfl rfl 0 (by decide) fl27 (fun _ h9 => h9) rfl dX3_addPerson_1 ?_
  refine lv_bipush (v := (8 : Int32)) hx hb dX3_addPerson_4 (by decide) ?_
  refine lv_icmp_ge (tgt := 49) hx hb dX3_addPerson_6 (by decide) (fun hc => ?_) (fun hc => ?_)
  · replace hf := ifp hc hf
    have ho := Option.some.inj hf
    subst ho
    exact x_retv hx hb hr hlocks hK hW rfl dX3_addPerson_49
  · replace hf := ifn hc hf
    refine lv_aload_n hx hb dX3_addPerson_9 rfl (lv_at hl 0 rfl) ?_
    refine x_get (ci := 3) (v := .ref (a 2)) (C := RX3) (T := TX3) (N := 8) hx hb hts inX3 hown hK hW 0 rfl rfl 1 (by decide) fl9 (fun _ h9 => h9) rfl dX3_addPerson_10 ?_
    refine lv_aload_n hx hb dX3_addPerson_13 rfl (lv_at hl 0 rfl) ?_
    refine x_get (ci := 3) (v := .int (g 1 0)) (C := RX3) (T := TX3) (N := 8) hx hb hts inX3 hown hK hW 0 rfl rfl 0 (by decide) fl27 (fun _ h9 => h9) rfl dX3_addPerson_14 ?_
    refine lv_iload_n hx hb dX3_addPerson_17 rfl (lv_at hl 1 rfl) ?_
    replace hf := gd_s hf; obtain ⟨hin, hf⟩ := hf
    refine x_iast (w' := (wX3 a ct (up1 g 2 (g 1 0).toNatClampNeg x1))) (n := 8) (f := g 2) hx hb hK hW 1 rfl (okI_in hin) (ws_X3_2 a ct g _ _) dX3_addPerson_18 (fun H locs hW => ?_)
    refine lv_aload_n hx hb dX3_addPerson_19 rfl (lv_at hl 0 rfl) ?_
    refine x_get (ci := 3) (v := .ref (a 3)) (C := RX3) (T := TX3) (N := 8) hx hb hts inX3 hown hK hW 0 rfl rfl 2 (by decide) fl15 (fun _ h9 => h9) rfl dX3_addPerson_20 ?_
    refine lv_aload_n hx hb dX3_addPerson_23 rfl (lv_at hl 0 rfl) ?_
    refine x_get (ci := 3) (v := .int (g 1 0)) (C := RX3) (T := TX3) (N := 8) hx hb hts inX3 hown hK hW 0 rfl rfl 0 (by decide) fl27 (fun _ h9 => h9) rfl dX3_addPerson_24 ?_
    refine lv_iload_n hx hb dX3_addPerson_27 rfl (lv_at hl 2 rfl) ?_
    replace hf := gd_s hf; obtain ⟨hin, hf⟩ := hf
    refine x_iast (w' := (wX3 a ct (up1 (up1 g 2 (g 1 0).toNatClampNeg x1) 3 (g 1 0).toNatClampNeg x2))) (n := 8) (f := (up1 g 2 (g 1 0).toNatClampNeg x1) 3) hx hb hK hW 2 rfl (okI_in hin) (ws_X3_3 a ct (up1 g 2 (g 1 0).toNatClampNeg x1) _ _) dX3_addPerson_28 (fun H locs hW => ?_)
    refine lv_aload_n hx hb dX3_addPerson_29 rfl (lv_at hl 0 rfl) ?_
    refine x_get (ci := 3) (v := .ref (a 4)) (C := RX3) (T := TX3) (N := 8) hx hb hts inX3 hown hK hW 0 rfl rfl 3 (by decide) fl18 (fun _ h9 => h9) rfl dX3_addPerson_30 ?_
    refine lv_aload_n hx hb dX3_addPerson_33 rfl (lv_at hl 0 rfl) ?_
    refine x_get (ci := 3) (v := .int (g 1 0)) (C := RX3) (T := TX3) (N := 8) hx hb hts inX3 hown hK hW 0 rfl rfl 0 (by decide) fl27 (fun _ h9 => h9) rfl dX3_addPerson_34 ?_
    refine lv_iload_n hx hb dX3_addPerson_37 rfl (lv_at hl 3 rfl) ?_
    replace hf := gd_s hf; obtain ⟨hin, hf⟩ := hf
    refine x_iast (w' := (wX3 a ct (up1 (up1 (up1 g 2 (g 1 0).toNatClampNeg x1) 3 (g 1 0).toNatClampNeg x2) 4 (g 1 0).toNatClampNeg x3))) (n := 8) (f := (up1 (up1 g 2 (g 1 0).toNatClampNeg x1) 3 (g 1 0).toNatClampNeg x2) 4) hx hb hK hW 3 rfl (okI_in hin) (ws_X3_4 a ct (up1 (up1 g 2 (g 1 0).toNatClampNeg x1) 3 (g 1 0).toNatClampNeg x2) _ _) dX3_addPerson_38 (fun H locs hW => ?_)
    refine lv_aload_n hx hb dX3_addPerson_39 rfl (lv_at hl 0 rfl) ?_
    refine lv_dup hx hb dX3_addPerson_40 rfl ?_
    refine x_get (ci := 3) (v := .int (g 1 0)) (C := RX3) (T := TX3) (N := 8) hx hb hts inX3 hown hK hW 0 rfl rfl 0 (by decide) fl27 (fun _ h9 => h9) rfl dX3_addPerson_41 ?_
    refine lv_iconst (v := (1 : Int32)) hx hb dX3_addPerson_44 (by decide) ?_
    refine lv_iadd hx hb dX3_addPerson_45 ?_
    refine x_put (w' := (wX3 a ct (up1 (up1 (up1 (up1 g 2 (g 1 0).toNatClampNeg x1) 3 (g 1 0).toNatClampNeg x2) 4 (g 1 0).toNatClampNeg x3) 1 0 ((g 1 0) + (1 : Int32))))) (fs := fsX3 a (up1 (up1 (up1 g 2 (g 1 0).toNatClampNeg x1) 3 (g 1 0).toNatClampNeg x2) 4 (g 1 0).toNatClampNeg x3)) (ci := 3) (v := .int ((g 1 0) + (1 : Int32))) (ty := .int) (C := RX3) (T := TX3) (N := 8) hx hb hts inX3 tyX3 tyX3_ok nmX3 hown hK hW 0 rfl rfl 0 (by decide) fl27 (fun _ h9 => h9) rfl (by decide +kernel) rfl rfl (Nat.le_of_ble_eq_true rfl) (wp_X3_1 a ct (up1 (up1 (up1 g 2 (g 1 0).toNatClampNeg x1) 3 (g 1 0).toNatClampNeg x2) 4 (g 1 0).toNatClampNeg x3) ((g 1 0) + (1 : Int32))) dX3_addPerson_46 (fun H locs hW => ?_)
    have ho := Option.some.inj hf
    subst ho
    exact x_retv hx hb hr hlocks hK hW rfl dX3_addPerson_49
set_option maxHeartbeats 4000000 in
set_option maxRecDepth 100000 in
theorem c_X3_becomeTold (l : Launch) (N : Nat) (kd : (Nat → Nat) × (Nat → Nat)) (G : va_G) (ct : Nat → ClassId) (a : Nat → Nat) (g : St_) (o : St_) (hf : f_X3_becomeTold N g = some o) : CtV l yX3_becomeTold wsX3_becomeTold ({ frames := 0, cells := 0, slots := 0, locals := 0 }) kd G ct [.ref (a 0), .ref (a 9)] (wX3 a ct g ++ wX3 (sh_ 9 a) ct (sh_ 9 g)) (wX3 a ct o ++ wX3 (sh_ 9 a) ct (sh_ 9 o)) := by
  intro sz
  refine Met.ofW (cc := cX3_becomeTold) (maxL := 3) (ret := none) (by decide) rfl ?_
  intro p e s m args below meth c s₁ B hml hv
  obtain ⟨rfl, hsz, hP, hK, hD0, hE⟩ := hv
  have hx := B.exec
  have hb := B.bytes
  have hr := B.returns
  have hts := atoms_spec (ws := wsX3_becomeTold) B.pre
  have hown : s.vm.findClass RX3 = some m.cls := findClass_of_methodNamed B.named
  have hlocks := B.notSynchronized
  have inX3 : ∀ w ∈ wsX30, w ∈ wsX3_becomeTold := by decide +kernel
  have fl9 := hts (.fieldLink RX3 9 "FittingStrides$State" "at" "[I") (by decide +kernel)
  have fl15 := hts (.fieldLink RX3 15 "FittingStrides$State" "firsts" "[I") (by decide +kernel)
  have fl18 := hts (.fieldLink RX3 18 "FittingStrides$State" "seconds" "[I") (by decide +kernel)
  have fl21 := hts (.fieldLink RX3 21 "FittingStrides$State" "steps" "[I") (by decide +kernel)
  have fl24 := hts (.fieldLink RX3 24 "FittingStrides$State" "worn" "[I") (by decide +kernel)
  have fl27 := hts (.fieldLink RX3 27 "FittingStrides$State" "persons" "I") (by decide +kernel)
  subst hsz
  have hD := hD0.self (sz := s.heap.size)
  generalize hAe : va_A (wX3 a ct g ++ wX3 (sh_ 9 a) ct (sh_ 9 g)) s.heap.size = A at hD hE ⊢
  have hA : ∀ q : Nat, s.heap.size ≤ q → A q := fun q h => by rw [← hAe]; exact Or.inr h
  have hW : WW G A s.heap (wX3 a ct g ++ wX3 (sh_ 9 a) ct (sh_ 9 g)) s.heap [] := ⟨hP, hD, va_S.rf⟩
  have hl := lv_entry ([.ref (a 0), .ref (a 9)]) (n := 3) (Nat.le_of_ble_eq_true rfl)
  rw [lg_entry_eq]
  generalize (lg_sl ([.ref (a 0), .ref (a 9)]) ++ List.replicate (3 - (lg_sl ([.ref (a 0), .ref (a 9)])).length) Slot.unset).toArray = ls at hl ⊢
  have hl : lv_has ls 3 [(0, .ref (a 0)), (1, .ref (a 9))] := hl
  unfold f_X3_becomeTold at hf
  show W p l e ({ frames := 0, cells := 0, slots := 0, locals := 0 } : Room) s m (List.toArray [.ref (a 0), .ref (a 9)]) below meth c s.heap [] 0 0 (MQ below (va_Qv (fun (_ : Unit) => True) (fun _ t => Af_ G ct (wX3 a ct o ++ wX3 (sh_ 9 a) ct (sh_ 9 o)) A t) A) (List.toArray [.ref (a 0), .ref (a 9)]) s 0 0 A) (F0 m 0 ls [])
  refine lv_aload_n hx hb dX3_becomeTold_0 rfl (lv_at hl 0 rfl) ?_
  refine lv_aload_n hx hb dX3_becomeTold_1 rfl (lv_at hl 1 rfl) ?_
  refine x_get (ci := 3) (v := .int (g 10 0)) (C := RX3) (T := TX3) (N := 8) hx hb hts inX3 hown hK hW 6 rfl rfl 0 (by decide) fl27 (fun _ h9 => h9) rfl dX3_becomeTold_2 ?_
  refine x_put (w' := (wX3 a ct (up1 g 1 0 (g 10 0)) ++ wX3 (sh_ 9 a) ct (sh_ 9 (up1 g 1 0 (g 10 0))))) (fs := fsX3 a g) (ci := 3) (v := .int (g 10 0)) (ty := .int) (C := RX3) (T := TX3) (N := 8) hx hb hts inX3 tyX3 tyX3_ok nmX3 hown hK hW 0 rfl rfl 0 (by decide) fl27 (fun _ h9 => h9) rfl (by decide +kernel) rfl rfl (Nat.le_of_ble_eq_true rfl) (wp_X3X3_1 a ct g (g 10 0)) dX3_becomeTold_5 (fun H locs hW => ?_)
  refine lv_iconst (v := (0 : Int32)) hx hb dX3_becomeTold_8 (by decide) ?_
  refine lv_istore_n (lv' := [(2, .int (0 : Int32)), (0, .ref (a 0)), (1, .ref (a 9))]) hx hb dX3_becomeTold_9 rfl hl (by decide) rfl (fun ls hl => ?_)
  replace hf := bs_ hf; obtain ⟨v1, hg, hf⟩ := hf
  have J1 : ∀ (H : Heap) (locs : List Loc) (ls : Array Slot), WW G A s.heap (wX3 a ct v1 ++ wX3 (sh_ 9 a) ct (sh_ 9 v1)) H locs → lv_has ls 3 [(0, .ref (a 0)), (1, .ref (a 9))] → W p l e ({ frames := 0, cells := 0, slots := 0, locals := 0 } : Room) s m (List.toArray [.ref (a 0), .ref (a 9)]) below meth c H locs 0 0 (MQ below (va_Qv (fun (_ : Unit) => True) (fun _ t => Af_ G ct (wX3 a ct o ++ wX3 (sh_ 9 a) ct (sh_ 9 o)) A t) A) (List.toArray [.ref (a 0), .ref (a 9)]) s 0 0 A) (F0 m 58 ls []) := by
    intro H locs ls hW hl
    refine lv_iconst (v := (0 : Int32)) hx hb dX3_becomeTold_58 (by decide) ?_
    refine lv_istore_n (lv' := [(2, .int (0 : Int32)), (0, .ref (a 0)), (1, .ref (a 9))]) hx hb dX3_becomeTold_59 rfl hl (by decide) rfl (fun ls hl => ?_)
    replace hf := bs_ hf; obtain ⟨v2, hg, hf⟩ := hf
    have J2 : ∀ (H : Heap) (locs : List Loc) (ls : Array Slot), WW G A s.heap (wX3 a ct v2 ++ wX3 (sh_ 9 a) ct (sh_ 9 v2)) H locs → lv_has ls 3 [(0, .ref (a 0))] → W p l e ({ frames := 0, cells := 0, slots := 0, locals := 0 } : Room) s m (List.toArray [.ref (a 0), .ref (a 9)]) below meth c H locs 0 0 (MQ below (va_Qv (fun (_ : Unit) => True) (fun _ t => Af_ G ct (wX3 a ct o ++ wX3 (sh_ 9 a) ct (sh_ 9 o)) A t) A) (List.toArray [.ref (a 0), .ref (a 9)]) s 0 0 A) (F0 m 84 ls []) := by
      intro H locs ls hW hl
      refine lv_iconst (v := (0 : Int32)) hx hb dX3_becomeTold_84 (by decide) ?_
      refine lv_istore_n (lv' := [(2, .int (0 : Int32)), (0, .ref (a 0))]) hx hb dX3_becomeTold_85 rfl hl (by decide) rfl (fun ls hl => ?_)
      replace hf := bs_ hf; obtain ⟨v3, hg, hf⟩ := hf
      have J3 : ∀ (H : Heap) (locs : List Loc) (ls : Array Slot), WW G A s.heap (wX3 a ct v3 ++ wX3 (sh_ 9 a) ct (sh_ 9 v3)) H locs → lv_has ls 3 [] → W p l e ({ frames := 0, cells := 0, slots := 0, locals := 0 } : Room) s m (List.toArray [.ref (a 0), .ref (a 9)]) below meth c H locs 0 0 (MQ below (va_Qv (fun (_ : Unit) => True) (fun _ t => Af_ G ct (wX3 a ct o ++ wX3 (sh_ 9 a) ct (sh_ 9 o)) A t) A) (List.toArray [.ref (a 0), .ref (a 9)]) s 0 0 A) (F0 m 105 ls []) := by
        intro H locs ls hW hl
        have ho := Option.some.inj hf
        subst ho
        exact x_retv hx hb hr hlocks hK hW rfl dX3_becomeTold_105
      clear hf
      have L3 : ∀ (n : Nat) (y3_2 : Int32) (g3 : St_), f_X3_becomeTold_L86 N n y3_2 g3 = some v3 → ∀ (H : Heap) (locs : List Loc) (ls : Array Slot), WW G A s.heap (wX3 a ct g3 ++ wX3 (sh_ 9 a) ct (sh_ 9 g3)) H locs → lv_has ls 3 [(0, .ref (a 0)), (2, .int y3_2)] → W p l e ({ frames := 0, cells := 0, slots := 0, locals := 0 } : Room) s m (List.toArray [.ref (a 0), .ref (a 9)]) below meth c H locs 0 0 (MQ below (va_Qv (fun (_ : Unit) => True) (fun _ t => Af_ G ct (wX3 a ct o ++ wX3 (sh_ 9 a) ct (sh_ 9 o)) A t) A) (List.toArray [.ref (a 0), .ref (a 9)]) s 0 0 A) (F0 m 86 ls []) := by
        intro n
        induction n with
        | zero =>
          intro y3_2 g3 hf
          rw [f_X3_becomeTold_L86] at hf
          cases hf
        | succ n ih =>
          intro y3_2 g3 hf H locs ls hW hl
          rw [f_X3_becomeTold_L86] at hf
          refine lv_iload_n hx hb dX3_becomeTold_86 rfl (lv_at hl 1 rfl) ?_
          refine lv_bipush (v := (10 : Int32)) hx hb dX3_becomeTold_87 (by decide) ?_
          refine lv_icmp_ge (tgt := 105) hx hb dX3_becomeTold_89 (by decide) (fun hc => ?_) (fun hc => ?_)
          · replace hf := ifp hc hf
            have hj := Option.some.inj hf
            subst hj
            exact J3 _ _ _ hW (lv_sub hl [] rfl)
          · replace hf := ifn hc hf
            refine lv_aload_n hx hb dX3_becomeTold_92 rfl (lv_at hl 0 rfl) ?_
            refine x_get (ci := 3) (v := .ref (a 6)) (C := RX3) (T := TX3) (N := 8) hx hb hts inX3 hown hK hW 0 rfl rfl 5 (by decide) fl24 (fun _ h9 => h9) rfl dX3_becomeTold_93 ?_
            refine lv_iload_n hx hb dX3_becomeTold_96 rfl (lv_at hl 1 rfl) ?_
            refine lv_iconst (v := (0 : Int32)) hx hb dX3_becomeTold_97 (by decide) ?_
            replace hf := gd_s hf; obtain ⟨hin, hf⟩ := hf
            refine x_iast (w' := (wX3 a ct (up1 g3 6 y3_2.toNatClampNeg (0 : Int32)) ++ wX3 (sh_ 9 a) ct (sh_ 9 (up1 g3 6 y3_2.toNatClampNeg (0 : Int32))))) (n := 10) (f := g3 6) hx hb hK hW 5 rfl (okI_in hin) (ws_X3X3_6 a ct g3 _ _) dX3_becomeTold_98 (fun H locs hW => ?_)
            refine lv_iinc (v := (y3_2 + (1 : Int32))) (lv' := [(2, .int (y3_2 + (1 : Int32))), (0, .ref (a 0))]) hx hb dX3_becomeTold_99 hl (k := 1) rfl rfl (by decide) rfl (fun ls hl => ?_)
            refine lv_goto (tgt := 86) hx hb dX3_becomeTold_102 (by decide) ?_
            exact ih (y3_2 + (1 : Int32)) (up1 g3 6 y3_2.toNatClampNeg (0 : Int32)) hf _ _ _ hW (lv_sub hl [1, 0] rfl)
      exact L3 N (0 : Int32) v2 hg _ _ _ hW (lv_sub hl [1, 0] rfl)
    clear hf
    have L2 : ∀ (n : Nat) (y2_2 : Int32) (g2 : St_), f_X3_becomeTold_L60 N n y2_2 g2 = some v2 → ∀ (H : Heap) (locs : List Loc) (ls : Array Slot), WW G A s.heap (wX3 a ct g2 ++ wX3 (sh_ 9 a) ct (sh_ 9 g2)) H locs → lv_has ls 3 [(0, .ref (a 0)), (1, .ref (a 9)), (2, .int y2_2)] → W p l e ({ frames := 0, cells := 0, slots := 0, locals := 0 } : Room) s m (List.toArray [.ref (a 0), .ref (a 9)]) below meth c H locs 0 0 (MQ below (va_Qv (fun (_ : Unit) => True) (fun _ t => Af_ G ct (wX3 a ct o ++ wX3 (sh_ 9 a) ct (sh_ 9 o)) A t) A) (List.toArray [.ref (a 0), .ref (a 9)]) s 0 0 A) (F0 m 60 ls []) := by
      intro n
      induction n with
      | zero =>
        intro y2_2 g2 hf
        rw [f_X3_becomeTold_L60] at hf
        cases hf
      | succ n ih =>
        intro y2_2 g2 hf H locs ls hW hl
        rw [f_X3_becomeTold_L60] at hf
        refine lv_iload_n hx hb dX3_becomeTold_60 rfl (lv_at hl 2 rfl) ?_
        refine lv_bipush (v := (30 : Int32)) hx hb dX3_becomeTold_61 (by decide) ?_
        refine lv_icmp_ge (tgt := 84) hx hb dX3_becomeTold_63 (by decide) (fun hc => ?_) (fun hc => ?_)
        · replace hf := ifp hc hf
          have hj := Option.some.inj hf
          subst hj
          exact J2 _ _ _ hW (lv_sub hl [0] rfl)
        · replace hf := ifn hc hf
          refine lv_aload_n hx hb dX3_becomeTold_66 rfl (lv_at hl 0 rfl) ?_
          refine x_get (ci := 3) (v := .ref (a 5)) (C := RX3) (T := TX3) (N := 8) hx hb hts inX3 hown hK hW 0 rfl rfl 4 (by decide) fl21 (fun _ h9 => h9) rfl dX3_becomeTold_67 ?_
          refine lv_iload_n hx hb dX3_becomeTold_70 rfl (lv_at hl 2 rfl) ?_
          refine lv_aload_n hx hb dX3_becomeTold_71 rfl (lv_at hl 1 rfl) ?_
          refine x_get (ci := 3) (v := .ref (a 14)) (C := RX3) (T := TX3) (N := 8) hx hb hts inX3 hown hK hW 6 rfl rfl 4 (by decide) fl21 (fun _ h9 => h9) rfl dX3_becomeTold_72 ?_
          refine lv_iload_n hx hb dX3_becomeTold_75 rfl (lv_at hl 2 rfl) ?_
          replace hf := gd_s hf; obtain ⟨hin, hf⟩ := hf
          refine x_iald (n := 30) (f := g2 14) hx hb hK hW 10 rfl (okI_in hin) dX3_becomeTold_76 ?_
          replace hf := gd_s hf; obtain ⟨hin, hf⟩ := hf
          refine x_iast (w' := (wX3 a ct (up1 g2 5 y2_2.toNatClampNeg (g2 14 y2_2.toNatClampNeg)) ++ wX3 (sh_ 9 a) ct (sh_ 9 (up1 g2 5 y2_2.toNatClampNeg (g2 14 y2_2.toNatClampNeg))))) (n := 30) (f := g2 5) hx hb hK hW 4 rfl (okI_in hin) (ws_X3X3_5 a ct g2 _ _) dX3_becomeTold_77 (fun H locs hW => ?_)
          refine lv_iinc (v := (y2_2 + (1 : Int32))) (lv' := [(2, .int (y2_2 + (1 : Int32))), (0, .ref (a 0)), (1, .ref (a 9))]) hx hb dX3_becomeTold_78 hl (k := 2) rfl rfl (by decide) rfl (fun ls hl => ?_)
          refine lv_goto (tgt := 60) hx hb dX3_becomeTold_81 (by decide) ?_
          exact ih (y2_2 + (1 : Int32)) (up1 g2 5 y2_2.toNatClampNeg (g2 14 y2_2.toNatClampNeg)) hf _ _ _ hW (lv_sub hl [1, 2, 0] rfl)
    exact L2 N (0 : Int32) v1 hg _ _ _ hW (lv_sub hl [1, 2, 0] rfl)
  clear hf
  have L1 : ∀ (n : Nat) (y1_2 : Int32) (g1 : St_), f_X3_becomeTold_L10 N n y1_2 g1 = some v1 → ∀ (H : Heap) (locs : List Loc) (ls : Array Slot), WW G A s.heap (wX3 a ct g1 ++ wX3 (sh_ 9 a) ct (sh_ 9 g1)) H locs → lv_has ls 3 [(0, .ref (a 0)), (1, .ref (a 9)), (2, .int y1_2)] → W p l e ({ frames := 0, cells := 0, slots := 0, locals := 0 } : Room) s m (List.toArray [.ref (a 0), .ref (a 9)]) below meth c H locs 0 0 (MQ below (va_Qv (fun (_ : Unit) => True) (fun _ t => Af_ G ct (wX3 a ct o ++ wX3 (sh_ 9 a) ct (sh_ 9 o)) A t) A) (List.toArray [.ref (a 0), .ref (a 9)]) s 0 0 A) (F0 m 10 ls []) := by
    intro n
    induction n with
    | zero =>
      intro y1_2 g1 hf
      rw [f_X3_becomeTold_L10] at hf
      cases hf
    | succ n ih =>
      intro y1_2 g1 hf H locs ls hW hl
      rw [f_X3_becomeTold_L10] at hf
      refine lv_iload_n hx hb dX3_becomeTold_10 rfl (lv_at hl 2 rfl) ?_
      refine lv_bipush (v := (8 : Int32)) hx hb dX3_becomeTold_11 (by decide) ?_
      refine lv_icmp_ge (tgt := 58) hx hb dX3_becomeTold_13 (by decide) (fun hc => ?_) (fun hc => ?_)
      · replace hf := ifp hc hf
        have hj := Option.some.inj hf
        subst hj
        exact J1 _ _ _ hW (lv_sub hl [0, 1] rfl)
      · replace hf := ifn hc hf
        refine lv_aload_n hx hb dX3_becomeTold_16 rfl (lv_at hl 0 rfl) ?_
        refine x_get (ci := 3) (v := .ref (a 2)) (C := RX3) (T := TX3) (N := 8) hx hb hts inX3 hown hK hW 0 rfl rfl 1 (by decide) fl9 (fun _ h9 => h9) rfl dX3_becomeTold_17 ?_
        refine lv_iload_n hx hb dX3_becomeTold_20 rfl (lv_at hl 2 rfl) ?_
        refine lv_aload_n hx hb dX3_becomeTold_21 rfl (lv_at hl 1 rfl) ?_
        refine x_get (ci := 3) (v := .ref (a 11)) (C := RX3) (T := TX3) (N := 8) hx hb hts inX3 hown hK hW 6 rfl rfl 1 (by decide) fl9 (fun _ h9 => h9) rfl dX3_becomeTold_22 ?_
        refine lv_iload_n hx hb dX3_becomeTold_25 rfl (lv_at hl 2 rfl) ?_
        replace hf := gd_s hf; obtain ⟨hin, hf⟩ := hf
        refine x_iald (n := 8) (f := g1 11) hx hb hK hW 7 rfl (okI_in hin) dX3_becomeTold_26 ?_
        replace hf := gd_s hf; obtain ⟨hin, hf⟩ := hf
        refine x_iast (w' := (wX3 a ct (up1 g1 2 y1_2.toNatClampNeg (g1 11 y1_2.toNatClampNeg)) ++ wX3 (sh_ 9 a) ct (sh_ 9 (up1 g1 2 y1_2.toNatClampNeg (g1 11 y1_2.toNatClampNeg))))) (n := 8) (f := g1 2) hx hb hK hW 1 rfl (okI_in hin) (ws_X3X3_2 a ct g1 _ _) dX3_becomeTold_27 (fun H locs hW => ?_)
        refine lv_aload_n hx hb dX3_becomeTold_28 rfl (lv_at hl 0 rfl) ?_
        refine x_get (ci := 3) (v := .ref (a 3)) (C := RX3) (T := TX3) (N := 8) hx hb hts inX3 hown hK hW 0 rfl rfl 2 (by decide) fl15 (fun _ h9 => h9) rfl dX3_becomeTold_29 ?_
        refine lv_iload_n hx hb dX3_becomeTold_32 rfl (lv_at hl 2 rfl) ?_
        refine lv_aload_n hx hb dX3_becomeTold_33 rfl (lv_at hl 1 rfl) ?_
        refine x_get (ci := 3) (v := .ref (a 12)) (C := RX3) (T := TX3) (N := 8) hx hb hts inX3 hown hK hW 6 rfl rfl 2 (by decide) fl15 (fun _ h9 => h9) rfl dX3_becomeTold_34 ?_
        refine lv_iload_n hx hb dX3_becomeTold_37 rfl (lv_at hl 2 rfl) ?_
        replace hf := gd_s hf; obtain ⟨hin, hf⟩ := hf
        refine x_iald (n := 8) (f := g1 12) hx hb hK hW 8 rfl (okI_in hin) dX3_becomeTold_38 ?_
        replace hf := gd_s hf; obtain ⟨hin, hf⟩ := hf
        refine x_iast (w' := (wX3 a ct (up1 (up1 g1 2 y1_2.toNatClampNeg (g1 11 y1_2.toNatClampNeg)) 3 y1_2.toNatClampNeg (g1 12 y1_2.toNatClampNeg)) ++ wX3 (sh_ 9 a) ct (sh_ 9 (up1 (up1 g1 2 y1_2.toNatClampNeg (g1 11 y1_2.toNatClampNeg)) 3 y1_2.toNatClampNeg (g1 12 y1_2.toNatClampNeg))))) (n := 8) (f := (up1 g1 2 y1_2.toNatClampNeg (g1 11 y1_2.toNatClampNeg)) 3) hx hb hK hW 2 rfl (okI_in hin) (ws_X3X3_3 a ct (up1 g1 2 y1_2.toNatClampNeg (g1 11 y1_2.toNatClampNeg)) _ _) dX3_becomeTold_39 (fun H locs hW => ?_)
        refine lv_aload_n hx hb dX3_becomeTold_40 rfl (lv_at hl 0 rfl) ?_
        refine x_get (ci := 3) (v := .ref (a 4)) (C := RX3) (T := TX3) (N := 8) hx hb hts inX3 hown hK hW 0 rfl rfl 3 (by decide) fl18 (fun _ h9 => h9) rfl dX3_becomeTold_41 ?_
        refine lv_iload_n hx hb dX3_becomeTold_44 rfl (lv_at hl 2 rfl) ?_
        refine lv_aload_n hx hb dX3_becomeTold_45 rfl (lv_at hl 1 rfl) ?_
        refine x_get (ci := 3) (v := .ref (a 13)) (C := RX3) (T := TX3) (N := 8) hx hb hts inX3 hown hK hW 6 rfl rfl 3 (by decide) fl18 (fun _ h9 => h9) rfl dX3_becomeTold_46 ?_
        refine lv_iload_n hx hb dX3_becomeTold_49 rfl (lv_at hl 2 rfl) ?_
        replace hf := gd_s hf; obtain ⟨hin, hf⟩ := hf
        refine x_iald (n := 8) (f := g1 13) hx hb hK hW 9 rfl (okI_in hin) dX3_becomeTold_50 ?_
        replace hf := gd_s hf; obtain ⟨hin, hf⟩ := hf
        refine x_iast (w' := (wX3 a ct (up1 (up1 (up1 g1 2 y1_2.toNatClampNeg (g1 11 y1_2.toNatClampNeg)) 3 y1_2.toNatClampNeg (g1 12 y1_2.toNatClampNeg)) 4 y1_2.toNatClampNeg (g1 13 y1_2.toNatClampNeg)) ++ wX3 (sh_ 9 a) ct (sh_ 9 (up1 (up1 (up1 g1 2 y1_2.toNatClampNeg (g1 11 y1_2.toNatClampNeg)) 3 y1_2.toNatClampNeg (g1 12 y1_2.toNatClampNeg)) 4 y1_2.toNatClampNeg (g1 13 y1_2.toNatClampNeg))))) (n := 8) (f := (up1 (up1 g1 2 y1_2.toNatClampNeg (g1 11 y1_2.toNatClampNeg)) 3 y1_2.toNatClampNeg (g1 12 y1_2.toNatClampNeg)) 4) hx hb hK hW 3 rfl (okI_in hin) (ws_X3X3_4 a ct (up1 (up1 g1 2 y1_2.toNatClampNeg (g1 11 y1_2.toNatClampNeg)) 3 y1_2.toNatClampNeg (g1 12 y1_2.toNatClampNeg)) _ _) dX3_becomeTold_51 (fun H locs hW => ?_)
        refine lv_iinc (v := (y1_2 + (1 : Int32))) (lv' := [(2, .int (y1_2 + (1 : Int32))), (0, .ref (a 0)), (1, .ref (a 9))]) hx hb dX3_becomeTold_52 hl (k := 2) rfl rfl (by decide) rfl (fun ls hl => ?_)
        refine lv_goto (tgt := 10) hx hb dX3_becomeTold_55 (by decide) ?_
        exact ih (y1_2 + (1 : Int32)) (up1 (up1 (up1 g1 2 y1_2.toNatClampNeg (g1 11 y1_2.toNatClampNeg)) 3 y1_2.toNatClampNeg (g1 12 y1_2.toNatClampNeg)) 4 y1_2.toNatClampNeg (g1 13 y1_2.toNatClampNeg)) hf _ _ _ hW (lv_sub hl [1, 2, 0] rfl)
  exact L1 N (0 : Int32) (up1 g 1 0 (g 10 0)) hg _ _ _ hW (lv_sub hl [1, 2, 0] rfl)
set_option maxHeartbeats 4000000 in
set_option maxRecDepth 100000 in
theorem c_X3_become (l : Launch) (N : Nat) (kd : (Nat → Nat) × (Nat → Nat)) (G : va_G) (ct : Nat → ClassId) (a : Nat → Nat) (g : St_) (o : St_) (hf : f_X3_become N g = some o) : CtV l yX3_become wsX3_become ({ frames := 1, cells := 0, slots := 0, locals := 22 }) kd G ct [.ref (a 0), .ref (a 9)] (wX3 a ct g ++ wX3 (sh_ 9 a) ct (sh_ 9 g)) (wX3 a ct o ++ wX3 (sh_ 9 a) ct (sh_ 9 o)) := by
  intro sz
  refine Met.ofW (cc := cX3_become) (maxL := 3) (ret := none) (by decide) rfl ?_
  intro p e s m args below meth c s₁ B hml hv
  obtain ⟨rfl, hsz, hP, hK, hD0, hE⟩ := hv
  have hx := B.exec
  have hb := B.bytes
  have hr := B.returns
  have hts := atoms_spec (ws := wsX3_become) B.pre
  have hown : s.vm.findClass RX3 = some m.cls := findClass_of_methodNamed B.named
  have hlocks := B.notSynchronized
  have inX3 : ∀ w ∈ wsX30, w ∈ wsX3_become := by decide +kernel
  have fl24 := hts (.fieldLink RX3 24 "FittingStrides$State" "worn" "[I") (by decide +kernel)
  have fl35 := hts (.fieldLink RX3 35 "FittingStrides$State" "law" "I") (by decide +kernel)
  have fl38 := hts (.fieldLink RX3 38 "FittingStrides$State" "seed" "I") (by decide +kernel)
  subst hsz
  have hD := hD0.self (sz := s.heap.size)
  generalize hAe : va_A (wX3 a ct g ++ wX3 (sh_ 9 a) ct (sh_ 9 g)) s.heap.size = A at hD hE ⊢
  have hA : ∀ q : Nat, s.heap.size ≤ q → A q := fun q h => by rw [← hAe]; exact Or.inr h
  have hW : WW G A s.heap (wX3 a ct g ++ wX3 (sh_ 9 a) ct (sh_ 9 g)) s.heap [] := ⟨hP, hD, va_S.rf⟩
  have hl := lv_entry ([.ref (a 0), .ref (a 9)]) (n := 3) (Nat.le_of_ble_eq_true rfl)
  rw [lg_entry_eq]
  generalize (lg_sl ([.ref (a 0), .ref (a 9)]) ++ List.replicate (3 - (lg_sl ([.ref (a 0), .ref (a 9)])).length) Slot.unset).toArray = ls at hl ⊢
  have hl : lv_has ls 3 [(0, .ref (a 0)), (1, .ref (a 9))] := hl
  unfold f_X3_become at hf
  show W p l e ({ frames := 1, cells := 0, slots := 0, locals := 22 } : Room) s m (List.toArray [.ref (a 0), .ref (a 9)]) below meth c s.heap [] 0 0 (MQ below (va_Qv (fun (_ : Unit) => True) (fun _ t => Af_ G ct (wX3 a ct o ++ wX3 (sh_ 9 a) ct (sh_ 9 o)) A t) A) (List.toArray [.ref (a 0), .ref (a 9)]) s 0 0 A) (F0 m 0 ls [])
  refine lv_aload_n hx hb dX3_become_0 rfl (lv_at hl 0 rfl) ?_
  refine lv_aload_n hx hb dX3_become_1 rfl (lv_at hl 1 rfl) ?_
  replace hf := bs_ hf; obtain ⟨r1, hcl, hf⟩ := hf
  refine x_callW_v (w' := (wX3 a ct r1 ++ wX3 (sh_ 9 a) ct (sh_ 9 r1))) (As := [.ref (a 9)]) (rest := []) (ci := 3) ⟨hx, hb, hml, hown, hts⟩ (c_X3_becomeTold l N kd G ct a g _ hcl) (cwV 1 hts gX3_become_X3_becomeTold rfl rfl rfl (by decide +kernel) ⟨Nat.le_of_ble_eq_true rfl, Nat.le_of_ble_eq_true rfl⟩) hK hE hA hW rfl rfl 0 rfl rfl rfl rfl hl.1 rfl (lv_room (Nat.le_of_ble_eq_true rfl)) dX3_become_2 (fun H locs hW => ?_)
  refine lv_iconst (v := (0 : Int32)) hx hb dX3_become_5 (by decide) ?_
  refine lv_istore_n (lv' := [(2, .int (0 : Int32)), (0, .ref (a 0)), (1, .ref (a 9))]) hx hb dX3_become_6 rfl hl (by decide) rfl (fun ls hl => ?_)
  replace hf := bs_ hf; obtain ⟨v2, hg, hf⟩ := hf
  have J2 : ∀ (H : Heap) (locs : List Loc) (ls : Array Slot), WW G A s.heap (wX3 a ct v2 ++ wX3 (sh_ 9 a) ct (sh_ 9 v2)) H locs → lv_has ls 3 [(0, .ref (a 0)), (1, .ref (a 9))] → W p l e ({ frames := 1, cells := 0, slots := 0, locals := 22 } : Room) s m (List.toArray [.ref (a 0), .ref (a 9)]) below meth c H locs 0 0 (MQ below (va_Qv (fun (_ : Unit) => True) (fun _ t => Af_ G ct (wX3 a ct o ++ wX3 (sh_ 9 a) ct (sh_ 9 o)) A t) A) (List.toArray [.ref (a 0), .ref (a 9)]) s 0 0 A) (F0 m 31 ls []) := by
    intro H locs ls hW hl
    refine lv_aload_n hx hb dX3_become_31 rfl (lv_at hl 0 rfl) ?_
    refine lv_aload_n hx hb dX3_become_32 rfl (lv_at hl 1 rfl) ?_
    refine x_get (ci := 3) (v := .int (v2 16 0)) (C := RX3) (T := TX3) (N := 8) hx hb hts inX3 hown hK hW 6 rfl rfl 6 (by decide) fl35 (fun _ h9 => h9) rfl dX3_become_33 ?_
    refine x_put (w' := (wX3 a ct (up1 v2 7 0 (v2 16 0)) ++ wX3 (sh_ 9 a) ct (sh_ 9 (up1 v2 7 0 (v2 16 0))))) (fs := fsX3 a v2) (ci := 3) (v := .int (v2 16 0)) (ty := .int) (C := RX3) (T := TX3) (N := 8) hx hb hts inX3 tyX3 tyX3_ok nmX3 hown hK hW 0 rfl rfl 6 (by decide) fl35 (fun _ h9 => h9) rfl (by decide +kernel) rfl rfl (Nat.le_of_ble_eq_true rfl) (wp_X3X3_7 a ct v2 (v2 16 0)) dX3_become_36 (fun H locs hW => ?_)
    refine lv_aload_n hx hb dX3_become_39 rfl (lv_at hl 0 rfl) ?_
    refine lv_aload_n hx hb dX3_become_40 rfl (lv_at hl 1 rfl) ?_
    refine x_get (ci := 3) (v := .int (v2 17 0)) (C := RX3) (T := TX3) (N := 8) hx hb hts inX3 hown hK hW 6 rfl rfl 7 (by decide) fl38 (fun _ h9 => h9) rfl dX3_become_41 ?_
    refine x_put (w' := (wX3 a ct (up1 (up1 v2 7 0 (v2 16 0)) 8 0 (v2 17 0)) ++ wX3 (sh_ 9 a) ct (sh_ 9 (up1 (up1 v2 7 0 (v2 16 0)) 8 0 (v2 17 0))))) (fs := fsX3 a (up1 v2 7 0 (v2 16 0))) (ci := 3) (v := .int (v2 17 0)) (ty := .int) (C := RX3) (T := TX3) (N := 8) hx hb hts inX3 tyX3 tyX3_ok nmX3 hown hK hW 0 rfl rfl 7 (by decide) fl38 (fun _ h9 => h9) rfl (by decide +kernel) rfl rfl (Nat.le_of_ble_eq_true rfl) (wp_X3X3_8 a ct (up1 v2 7 0 (v2 16 0)) (v2 17 0)) dX3_become_44 (fun H locs hW => ?_)
    have ho := Option.some.inj hf
    subst ho
    exact x_retv hx hb hr hlocks hK hW rfl dX3_become_47
  clear hf
  have L2 : ∀ (n : Nat) (y2_2 : Int32) (g2 : St_), f_X3_become_L7 N n y2_2 g2 = some v2 → ∀ (H : Heap) (locs : List Loc) (ls : Array Slot), WW G A s.heap (wX3 a ct g2 ++ wX3 (sh_ 9 a) ct (sh_ 9 g2)) H locs → lv_has ls 3 [(0, .ref (a 0)), (1, .ref (a 9)), (2, .int y2_2)] → W p l e ({ frames := 1, cells := 0, slots := 0, locals := 22 } : Room) s m (List.toArray [.ref (a 0), .ref (a 9)]) below meth c H locs 0 0 (MQ below (va_Qv (fun (_ : Unit) => True) (fun _ t => Af_ G ct (wX3 a ct o ++ wX3 (sh_ 9 a) ct (sh_ 9 o)) A t) A) (List.toArray [.ref (a 0), .ref (a 9)]) s 0 0 A) (F0 m 7 ls []) := by
    intro n
    induction n with
    | zero =>
      intro y2_2 g2 hf
      rw [f_X3_become_L7] at hf
      cases hf
    | succ n ih =>
      intro y2_2 g2 hf H locs ls hW hl
      rw [f_X3_become_L7] at hf
      refine lv_iload_n hx hb dX3_become_7 rfl (lv_at hl 2 rfl) ?_
      refine lv_bipush (v := (10 : Int32)) hx hb dX3_become_8 (by decide) ?_
      refine lv_icmp_ge (tgt := 31) hx hb dX3_become_10 (by decide) (fun hc => ?_) (fun hc => ?_)
      · replace hf := ifp hc hf
        have hj := Option.some.inj hf
        subst hj
        exact J2 _ _ _ hW (lv_sub hl [0, 1] rfl)
      · replace hf := ifn hc hf
        refine lv_aload_n hx hb dX3_become_13 rfl (lv_at hl 0 rfl) ?_
        refine x_get (ci := 3) (v := .ref (a 6)) (C := RX3) (T := TX3) (N := 8) hx hb hts inX3 hown hK hW 0 rfl rfl 5 (by decide) fl24 (fun _ h9 => h9) rfl dX3_become_14 ?_
        refine lv_iload_n hx hb dX3_become_17 rfl (lv_at hl 2 rfl) ?_
        refine lv_aload_n hx hb dX3_become_18 rfl (lv_at hl 1 rfl) ?_
        refine x_get (ci := 3) (v := .ref (a 15)) (C := RX3) (T := TX3) (N := 8) hx hb hts inX3 hown hK hW 6 rfl rfl 5 (by decide) fl24 (fun _ h9 => h9) rfl dX3_become_19 ?_
        refine lv_iload_n hx hb dX3_become_22 rfl (lv_at hl 2 rfl) ?_
        replace hf := gd_s hf; obtain ⟨hin, hf⟩ := hf
        refine x_iald (n := 10) (f := g2 15) hx hb hK hW 11 rfl (okI_in hin) dX3_become_23 ?_
        replace hf := gd_s hf; obtain ⟨hin, hf⟩ := hf
        refine x_iast (w' := (wX3 a ct (up1 g2 6 y2_2.toNatClampNeg (g2 15 y2_2.toNatClampNeg)) ++ wX3 (sh_ 9 a) ct (sh_ 9 (up1 g2 6 y2_2.toNatClampNeg (g2 15 y2_2.toNatClampNeg))))) (n := 10) (f := g2 6) hx hb hK hW 5 rfl (okI_in hin) (ws_X3X3_6 a ct g2 _ _) dX3_become_24 (fun H locs hW => ?_)
        refine lv_iinc (v := (y2_2 + (1 : Int32))) (lv' := [(2, .int (y2_2 + (1 : Int32))), (0, .ref (a 0)), (1, .ref (a 9))]) hx hb dX3_become_25 hl (k := 2) rfl rfl (by decide) rfl (fun ls hl => ?_)
        refine lv_goto (tgt := 7) hx hb dX3_become_28 (by decide) ?_
        exact ih (y2_2 + (1 : Int32)) (up1 g2 6 y2_2.toNatClampNeg (g2 15 y2_2.toNatClampNeg)) hf _ _ _ hW (lv_sub hl [1, 2, 0] rfl)
  exact L2 N (0 : Int32) r1 hg _ _ _ hW (lv_sub hl [1, 2, 0] rfl)
set_option maxHeartbeats 4000000 in
set_option maxRecDepth 100000 in
theorem c_X3_draw (l : Launch) (N : Nat) (kd : (Nat → Nat) × (Nat → Nat)) (G : va_G) (ct : Nat → ClassId) (a : Nat → Nat) (g : St_) (x1 : Int32) (o : (Int32 × St_)) (hf : f_X3_draw N g x1 = some o) : CtI l yX3_draw wsX3_draw ({ frames := 0, cells := 0, slots := 0, locals := 0 }) kd G ct [.ref (a 0), .int x1] (wX3 a ct g) o.1 (wX3 a ct o.2) := by
  intro sz
  refine Met.ofW (cc := cX3_draw) (maxL := 2) (ret := (some .int)) (by decide) rfl ?_
  intro p e s m args below meth c s₁ B hml hv
  obtain ⟨rfl, hsz, hP, hK, hD0, hE⟩ := hv
  have hx := B.exec
  have hb := B.bytes
  have hr := B.returns
  have hts := atoms_spec (ws := wsX3_draw) B.pre
  have hown : s.vm.findClass RX3 = some m.cls := findClass_of_methodNamed B.named
  have hlocks := B.notSynchronized
  have inX3 : ∀ w ∈ wsX30, w ∈ wsX3_draw := by decide +kernel
  have fl38 := hts (.fieldLink RX3 38 "FittingStrides$State" "seed" "I") (by decide +kernel)
  have fl41 := hts (.constantLong RX3 41 (1103515245)) (by decide +kernel)
  have fl43 := hts (.constantLong RX3 43 (12345)) (by decide +kernel)
  have fl45 := hts (.constantLong RX3 45 (2147483647)) (by decide +kernel)
  have fl47 := hts (.constant RX3 47 (65536)) (by decide +kernel)
  subst hsz
  have hD := hD0.self (sz := s.heap.size)
  generalize hAe : va_A (wX3 a ct g) s.heap.size = A at hD hE ⊢
  have hA : ∀ q : Nat, s.heap.size ≤ q → A q := fun q h => by rw [← hAe]; exact Or.inr h
  have hW : WW G A s.heap (wX3 a ct g) s.heap [] := ⟨hP, hD, va_S.rf⟩
  have hl := lv_entry ([.ref (a 0), .int x1]) (n := 2) (Nat.le_of_ble_eq_true rfl)
  rw [lg_entry_eq]
  generalize (lg_sl ([.ref (a 0), .int x1]) ++ List.replicate (2 - (lg_sl ([.ref (a 0), .int x1])).length) Slot.unset).toArray = ls at hl ⊢
  have hl : lv_has ls 2 [(0, .ref (a 0)), (1, .int x1)] := hl
  unfold f_X3_draw at hf
  show W p l e ({ frames := 0, cells := 0, slots := 0, locals := 0 } : Room) s m (List.toArray [.ref (a 0), .int x1]) below meth c s.heap [] 0 0 (MQ below (va_Qi (fun r (_ : Unit) => r = o.1) (fun _ t => Af_ G ct (wX3 a ct o.2) A t) A) (List.toArray [.ref (a 0), .int x1]) s 0 0 A) (F0 m 0 ls [])
  refine lv_aload_n hx hb dX3_draw_0 rfl (lv_at hl 0 rfl) ?_
  refine lv_aload_n hx hb dX3_draw_1 rfl (lv_at hl 0 rfl) ?_
  refine x_get (ci := 3) (v := .int (g 8 0)) (C := RX3) (T := TX3) (N := 8) hx hb hts inX3 hown hK hW 0 rfl rfl 7 (by decide) fl38 (fun _ h9 => h9) rfl dX3_draw_2 ?_
  refine lv_i2l hx hb dX3_draw_5 rfl ?_
  refine lv_ldc2 (v := (1103515245 : Int64)) hx hb hown fl41 dX3_draw_6 ?_
  refine lv_lmul hx hb dX3_draw_9 ?_
  refine lv_ldc2 (v := (12345 : Int64)) hx hb hown fl43 dX3_draw_10 ?_
  refine lv_ladd hx hb dX3_draw_13 ?_
  refine lv_ldc2 (v := (2147483647 : Int64)) hx hb hown fl45 dX3_draw_14 ?_
  refine lv_land hx hb dX3_draw_17 ?_
  refine lv_l2i hx hb dX3_draw_18 rfl ?_
  refine x_put (w' := (wX3 a ct (up1 g 8 0 (((((g 8 0).toInt64 * (1103515245 : Int64)) + (12345 : Int64)) &&& (2147483647 : Int64)).toInt32)))) (fs := fsX3 a g) (ci := 3) (v := .int ((((g 8 0).toInt64 * (1103515245 : Int64)) + (12345 : Int64)) &&& (2147483647 : Int64)).toInt32) (ty := .int) (C := RX3) (T := TX3) (N := 8) hx hb hts inX3 tyX3 tyX3_ok nmX3 hown hK hW 0 rfl rfl 7 (by decide) fl38 (fun _ h9 => h9) rfl (by decide +kernel) rfl rfl (Nat.le_of_ble_eq_true rfl) (wp_X3_8 a ct g (((((g 8 0).toInt64 * (1103515245 : Int64)) + (12345 : Int64)) &&& (2147483647 : Int64)).toInt32)) dX3_draw_19 (fun H locs hW => ?_)
  refine lv_iload_n hx hb dX3_draw_22 rfl (lv_at hl 1 rfl) ?_
  refine lv_if_le (tgt := 38) hx hb dX3_draw_23 (by decide) (fun hc => ?_) (fun hc => ?_)
  · replace hf := ifp hc hf
    refine lv_iconst (v := (0 : Int32)) hx hb dX3_draw_38 (by decide) ?_
    have ho := Option.some.inj hf
    subst ho
    exact x_reti (sz := 0) (w0 := []) (A1 := A) hx hb hr hlocks hK hW rfl rfl dX3_draw_39
  · replace hf := ifn hc hf
    refine lv_aload_n hx hb dX3_draw_26 rfl (lv_at hl 0 rfl) ?_
    refine x_get (ci := 3) (v := .int (((((g 8 0).toInt64 * (1103515245 : Int64)) + (12345 : Int64)) &&& (2147483647 : Int64)).toInt32)) (C := RX3) (T := TX3) (N := 8) hx hb hts inX3 hown hK hW 0 rfl rfl 7 (by decide) fl38 (fun _ h9 => h9) rfl dX3_draw_27 ?_
    refine lv_ldc (v := (65536 : Int32)) hx hb hown fl47 dX3_draw_30 ?_
    replace hf := gd_s hf; obtain ⟨hnz, hf⟩ := hf
    refine lv_idiv hx hb dX3_draw_32 (nzI_s hnz) ?_
    refine lv_iload_n hx hb dX3_draw_33 rfl (lv_at hl 1 rfl) ?_
    replace hf := gd_s hf; obtain ⟨hnz, hf⟩ := hf
    refine lv_irem hx hb dX3_draw_34 (nzI_s hnz) ?_
    refine lv_goto (tgt := 39) hx hb dX3_draw_35 (by decide) ?_
    have ho := Option.some.inj hf
    subst ho
    exact x_reti (sz := 0) (w0 := []) (A1 := A) hx hb hr hlocks hK hW rfl rfl dX3_draw_39
set_option maxHeartbeats 4000000 in
set_option maxRecDepth 100000 in
theorem c_X4_append (l : Launch) (N : Nat) (kd : (Nat → Nat) × (Nat → Nat)) (G : va_G) (ct : Nat → ClassId) (a : Nat → Nat) (g : St_) (x1 : Int32) (o : St_) (hf : f_X4_append N g x1 = some o) : CtV l yX4_append wsX4_append ({ frames := 0, cells := 0, slots := 0, locals := 0 }) kd G ct [.ref (a 0), .int x1] (wX4 a ct g) (wX4 a ct o) := by
  intro sz
  refine Met.ofW (cc := cX4_append) (maxL := 2) (ret := none) (by decide) rfl ?_
  intro p e s m args below meth c s₁ B hml hv
  obtain ⟨rfl, hsz, hP, hK, hD0, hE⟩ := hv
  have hx := B.exec
  have hb := B.bytes
  have hr := B.returns
  have hts := atoms_spec (ws := wsX4_append) B.pre
  have hown : s.vm.findClass RX4 = some m.cls := findClass_of_methodNamed B.named
  have hlocks := B.notSynchronized
  have inX4 : ∀ w ∈ wsX40, w ∈ wsX4_append := by decide +kernel
  have fl18 := hts (.fieldLink RX4 18 "FittingStrides$Text" "bytes" "[B") (by decide +kernel)
  have fl22 := hts (.fieldLink RX4 22 "FittingStrides$Text" "length" "I") (by decide +kernel)
  subst hsz
  have hD := hD0.self (sz := s.heap.size)
  generalize hAe : va_A (wX4 a ct g) s.heap.size = A at hD hE ⊢
  have hA : ∀ q : Nat, s.heap.size ≤ q → A q := fun q h => by rw [← hAe]; exact Or.inr h
  have hW : WW G A s.heap (wX4 a ct g) s.heap [] := ⟨hP, hD, va_S.rf⟩
  have hl := lv_entry ([.ref (a 0), .int x1]) (n := 2) (Nat.le_of_ble_eq_true rfl)
  rw [lg_entry_eq]
  generalize (lg_sl ([.ref (a 0), .int x1]) ++ List.replicate (2 - (lg_sl ([.ref (a 0), .int x1])).length) Slot.unset).toArray = ls at hl ⊢
  have hl : lv_has ls 2 [(0, .ref (a 0)), (1, .int x1)] := hl
  unfold f_X4_append at hf
  show W p l e ({ frames := 0, cells := 0, slots := 0, locals := 0 } : Room) s m (List.toArray [.ref (a 0), .int x1]) below meth c s.heap [] 0 0 (MQ below (va_Qv (fun (_ : Unit) => True) (fun _ t => Af_ G ct (wX4 a ct o) A t) A) (List.toArray [.ref (a 0), .int x1]) s 0 0 A) (F0 m 0 ls [])
  refine lv_aload_n hx hb dX4_append_0 rfl (lv_at hl 0 rfl) ?_
  refine x_get (ci := 4) (v := .int (g 1 0)) (C := RX4) (T := TX4) (N := 6) hx hb hts inX4 hown hK hW 0 rfl rfl 0 (by decide) fl22 (fun _ h9 => h9) rfl dX4_append_1 ?_
  refine lv_sipush (v := (500 : Int32)) hx hb dX4_append_4 (by decide) ?_
  refine lv_icmp_ge (tgt := 31) hx hb dX4_append_7 (by decide) (fun hc => ?_) (fun hc => ?_)
  · replace hf := ifp hc hf
    have ho := Option.some.inj hf
    subst ho
    exact x_retv hx hb hr hlocks hK hW rfl dX4_append_31
  · replace hf := ifn hc hf
    refine lv_aload_n hx hb dX4_append_10 rfl (lv_at hl 0 rfl) ?_
    refine x_get (ci := 4) (v := .ref (a 23)) (C := RX4) (T := TX4) (N := 6) hx hb hts inX4 hown hK hW 0 rfl rfl 4 (by decide) fl18 (fun _ h9 => h9) rfl dX4_append_11 ?_
    refine lv_aload_n hx hb dX4_append_14 rfl (lv_at hl 0 rfl) ?_
    refine x_get (ci := 4) (v := .int (g 1 0)) (C := RX4) (T := TX4) (N := 6) hx hb hts inX4 hown hK hW 0 rfl rfl 0 (by decide) fl22 (fun _ h9 => h9) rfl dX4_append_15 ?_
    refine lv_iload_n hx hb dX4_append_18 rfl (lv_at hl 1 rfl) ?_
    refine lv_i2b hx hb dX4_append_19 rfl ?_
    replace hf := gd_s hf; obtain ⟨hin, hf⟩ := hf
    refine x_bast (w' := (wX4 a ct (up1 g 23 (g 1 0).toNatClampNeg (vp_nar .byte x1.toInt8.toInt32)))) (n := 500) (f := g 23) hx hb hK hW 15 rfl (okI_in hin) (ws_X4_23 a ct g _ _) dX4_append_20 (fun H locs hW => ?_)
    refine lv_aload_n hx hb dX4_append_21 rfl (lv_at hl 0 rfl) ?_
    refine lv_dup hx hb dX4_append_22 rfl ?_
    refine x_get (ci := 4) (v := .int (g 1 0)) (C := RX4) (T := TX4) (N := 6) hx hb hts inX4 hown hK hW 0 rfl rfl 0 (by decide) fl22 (fun _ h9 => h9) rfl dX4_append_23 ?_
    refine lv_iconst (v := (1 : Int32)) hx hb dX4_append_26 (by decide) ?_
    refine lv_iadd hx hb dX4_append_27 ?_
    refine x_put (w' := (wX4 a ct (up1 (up1 g 23 (g 1 0).toNatClampNeg (vp_nar .byte x1.toInt8.toInt32)) 1 0 ((g 1 0) + (1 : Int32))))) (fs := fsX4 a (up1 g 23 (g 1 0).toNatClampNeg (vp_nar .byte x1.toInt8.toInt32))) (ci := 4) (v := .int ((g 1 0) + (1 : Int32))) (ty := .int) (C := RX4) (T := TX4) (N := 6) hx hb hts inX4 tyX4 tyX4_ok nmX4 hown hK hW 0 rfl rfl 0 (by decide) fl22 (fun _ h9 => h9) rfl (by decide +kernel) rfl rfl (Nat.le_of_ble_eq_true rfl) (wp_X4_1 a ct (up1 g 23 (g 1 0).toNatClampNeg (vp_nar .byte x1.toInt8.toInt32)) ((g 1 0) + (1 : Int32))) dX4_append_28 (fun H locs hW => ?_)
    have ho := Option.some.inj hf
    subst ho
    exact x_retv hx hb hr hlocks hK hW rfl dX4_append_31
set_option maxHeartbeats 4000000 in
set_option maxRecDepth 100000 in
theorem c_X5_clear (l : Launch) (N : Nat) (kd : (Nat → Nat) × (Nat → Nat)) (G : va_G) (ct : Nat → ClassId) (a : Nat → Nat) (g : St_) (o : St_) (hf : f_X5_clear N g = some o) : CtV l yX5_clear wsX5_clear ({ frames := 0, cells := 0, slots := 0, locals := 0 }) kd G ct [.ref (a 0)] (wX5 a ct g) (wX5 a ct o) := by
  intro sz
  refine Met.ofW (cc := cX5_clear) (maxL := 1) (ret := none) (by decide) rfl ?_
  intro p e s m args below meth c s₁ B hml hv
  obtain ⟨rfl, hsz, hP, hK, hD0, hE⟩ := hv
  have hx := B.exec
  have hb := B.bytes
  have hr := B.returns
  have hts := atoms_spec (ws := wsX5_clear) B.pre
  have hown : s.vm.findClass RX5 = some m.cls := findClass_of_methodNamed B.named
  have hlocks := B.notSynchronized
  have inX1 : ∀ w ∈ wsX10, w ∈ wsX5_clear := by decide +kernel
  have inX3 : ∀ w ∈ wsX30, w ∈ wsX5_clear := by decide +kernel
  have inX5 : ∀ w ∈ wsX50, w ∈ wsX5_clear := by decide +kernel
  have fl12 := hts (.fieldLink RX5 12 "FittingStrides$Town" "plan" "LFittingStrides$Plan;") (by decide +kernel)
  have fl21 := hts (.fieldLink RX5 21 "FittingStrides$Town" "state" "LFittingStrides$State;") (by decide +kernel)
  have fl32 := hts (.fieldLink RX5 32 "FittingStrides$Plan" "places" "I") (by decide +kernel)
  have fl36 := hts (.fieldLink RX5 36 "FittingStrides$Plan" "stairs" "I") (by decide +kernel)
  have fl39 := hts (.fieldLink RX5 39 "FittingStrides$State" "persons" "I") (by decide +kernel)
  subst hsz
  have hD := hD0.self (sz := s.heap.size)
  generalize hAe : va_A (wX5 a ct g) s.heap.size = A at hD hE ⊢
  have hA : ∀ q : Nat, s.heap.size ≤ q → A q := fun q h => by rw [← hAe]; exact Or.inr h
  have hW : WW G A s.heap (wX5 a ct g) s.heap [] := ⟨hP, hD, va_S.rf⟩
  have hl := lv_entry ([.ref (a 0)]) (n := 1) (Nat.le_of_ble_eq_true rfl)
  rw [lg_entry_eq]
  generalize (lg_sl ([.ref (a 0)]) ++ List.replicate (1 - (lg_sl ([.ref (a 0)])).length) Slot.unset).toArray = ls at hl ⊢
  have hl : lv_has ls 1 [(0, .ref (a 0))] := hl
  unfold f_X5_clear at hf
  show W p l e ({ frames := 0, cells := 0, slots := 0, locals := 0 } : Room) s m (List.toArray [.ref (a 0)]) below meth c s.heap [] 0 0 (MQ below (va_Qv (fun (_ : Unit) => True) (fun _ t => Af_ G ct (wX5 a ct o) A t) A) (List.toArray [.ref (a 0)]) s 0 0 A) (F0 m 0 ls [])
  refine lv_aload_n hx hb dX5_clear_0 rfl (lv_at hl 0 rfl) ?_
  refine x_get (ci := 5) (v := .ref (a 1)) (C := RX5) (T := TX5) (N := 4) hx hb hts inX5 hown hK hW 0 rfl rfl 0 (by decide) fl12 (fun _ h9 => h9) rfl dX5_clear_1 ?_
  refine lv_iconst (v := (0 : Int32)) hx hb dX5_clear_4 (by decide) ?_
  refine x_put (w' := (wX5 a ct (up1 g 2 0 (0 : Int32)))) (fs := fsX1 (sh_ 1 a) (sh_ 1 g)) (ci := 1) (v := .int (0 : Int32)) (ty := .int) (C := RX1) (T := TX1) (N := 6) hx hb hts inX1 tyX1 tyX1_ok nmX1 hown hK hW 1 rfl rfl 0 (by decide) fl32 (fun _ h9 => h9) rfl (by decide +kernel) rfl rfl (Nat.le_of_ble_eq_true rfl) (wp_X5_2 a ct g (0 : Int32)) dX5_clear_5 (fun H locs hW => ?_)
  refine lv_aload_n hx hb dX5_clear_8 rfl (lv_at hl 0 rfl) ?_
  refine x_get (ci := 5) (v := .ref (a 1)) (C := RX5) (T := TX5) (N := 4) hx hb hts inX5 hown hK hW 0 rfl rfl 0 (by decide) fl12 (fun _ h9 => h9) rfl dX5_clear_9 ?_
  refine lv_iconst (v := (0 : Int32)) hx hb dX5_clear_12 (by decide) ?_
  refine x_put (w' := (wX5 a ct (up1 (up1 g 2 0 (0 : Int32)) 3 0 (0 : Int32)))) (fs := fsX1 (sh_ 1 a) (sh_ 1 (up1 g 2 0 (0 : Int32)))) (ci := 1) (v := .int (0 : Int32)) (ty := .int) (C := RX1) (T := TX1) (N := 6) hx hb hts inX1 tyX1 tyX1_ok nmX1 hown hK hW 1 rfl rfl 1 (by decide) fl36 (fun _ h9 => h9) rfl (by decide +kernel) rfl rfl (Nat.le_of_ble_eq_true rfl) (wp_X5_3 a ct (up1 g 2 0 (0 : Int32)) (0 : Int32)) dX5_clear_13 (fun H locs hW => ?_)
  refine lv_aload_n hx hb dX5_clear_16 rfl (lv_at hl 0 rfl) ?_
  refine x_get (ci := 5) (v := .ref (a 8)) (C := RX5) (T := TX5) (N := 4) hx hb hts inX5 hown hK hW 0 rfl rfl 1 (by decide) fl21 (fun _ h9 => h9) rfl dX5_clear_17 ?_
  refine lv_iconst (v := (0 : Int32)) hx hb dX5_clear_20 (by decide) ?_
  refine x_put (w' := (wX5 a ct (up1 (up1 (up1 g 2 0 (0 : Int32)) 3 0 (0 : Int32)) 9 0 (0 : Int32)))) (fs := fsX3 (sh_ 8 a) (sh_ 8 (up1 (up1 g 2 0 (0 : Int32)) 3 0 (0 : Int32)))) (ci := 3) (v := .int (0 : Int32)) (ty := .int) (C := RX3) (T := TX3) (N := 8) hx hb hts inX3 tyX3 tyX3_ok nmX3 hown hK hW 6 rfl rfl 0 (by decide) fl39 (fun _ h9 => h9) rfl (by decide +kernel) rfl rfl (Nat.le_of_ble_eq_true rfl) (wp_X5_9 a ct (up1 (up1 g 2 0 (0 : Int32)) 3 0 (0 : Int32)) (0 : Int32)) dX5_clear_21 (fun H locs hW => ?_)
  have ho := Option.some.inj hf
  subst ho
  exact x_retv hx hb hr hlocks hK hW rfl dX5_clear_24
set_option maxHeartbeats 4000000 in
set_option maxRecDepth 100000 in
theorem c_X4_look (l : Launch) (N : Nat) (kd : (Nat → Nat) × (Nat → Nat)) (G : va_G) (ct : Nat → ClassId) (a : Nat → Nat) (g : St_) (o : (Int32 × St_)) (hf : f_X4_look N g = some o) : CtI l yX4_look wsX4_look ({ frames := 0, cells := 0, slots := 0, locals := 0 }) kd G ct [.ref (a 0)] (wX4 a ct g) o.1 (wX4 a ct o.2) := by
  intro sz
  refine Met.ofW (cc := cX4_look) (maxL := 1) (ret := (some .int)) (by decide) rfl ?_
  intro p e s m args below meth c s₁ B hml hv
  obtain ⟨rfl, hsz, hP, hK, hD0, hE⟩ := hv
  have hx := B.exec
  have hb := B.bytes
  have hr := B.returns
  have hts := atoms_spec (ws := wsX4_look) B.pre
  have hown : s.vm.findClass RX4 = some m.cls := findClass_of_methodNamed B.named
  have hlocks := B.notSynchronized
  have inX4 : ∀ w ∈ wsX40, w ∈ wsX4_look := by decide +kernel
  have fl18 := hts (.fieldLink RX4 18 "FittingStrides$Text" "bytes" "[B") (by decide +kernel)
  have fl22 := hts (.fieldLink RX4 22 "FittingStrides$Text" "length" "I") (by decide +kernel)
  have fl29 := hts (.fieldLink RX4 29 "FittingStrides$Text" "at" "I") (by decide +kernel)
  subst hsz
  have hD := hD0.self (sz := s.heap.size)
  generalize hAe : va_A (wX4 a ct g) s.heap.size = A at hD hE ⊢
  have hA : ∀ q : Nat, s.heap.size ≤ q → A q := fun q h => by rw [← hAe]; exact Or.inr h
  have hW : WW G A s.heap (wX4 a ct g) s.heap [] := ⟨hP, hD, va_S.rf⟩
  have hl := lv_entry ([.ref (a 0)]) (n := 1) (Nat.le_of_ble_eq_true rfl)
  rw [lg_entry_eq]
  generalize (lg_sl ([.ref (a 0)]) ++ List.replicate (1 - (lg_sl ([.ref (a 0)])).length) Slot.unset).toArray = ls at hl ⊢
  have hl : lv_has ls 1 [(0, .ref (a 0))] := hl
  unfold f_X4_look at hf
  show W p l e ({ frames := 0, cells := 0, slots := 0, locals := 0 } : Room) s m (List.toArray [.ref (a 0)]) below meth c s.heap [] 0 0 (MQ below (va_Qi (fun r (_ : Unit) => r = o.1) (fun _ t => Af_ G ct (wX4 a ct o.2) A t) A) (List.toArray [.ref (a 0)]) s 0 0 A) (F0 m 0 ls [])
  replace hf := bs_ hf; obtain ⟨v1, hg, hf⟩ := hf
  have J1 : ∀ (H : Heap) (locs : List Loc) (ls : Array Slot), WW G A s.heap (wX4 a ct v1) H locs → lv_has ls 1 [(0, .ref (a 0))] → W p l e ({ frames := 0, cells := 0, slots := 0, locals := 0 } : Room) s m (List.toArray [.ref (a 0)]) below meth c H locs 0 0 (MQ below (va_Qi (fun r (_ : Unit) => r = o.1) (fun _ t => Af_ G ct (wX4 a ct o.2) A t) A) (List.toArray [.ref (a 0)]) s 0 0 A) (F0 m 38 ls []) := by
    intro H locs ls hW hl
    refine lv_aload_n hx hb dX4_look_38 rfl (lv_at hl 0 rfl) ?_
    refine x_get (ci := 4) (v := .int (v1 24 0)) (C := RX4) (T := TX4) (N := 6) hx hb hts inX4 hown hK hW 0 rfl rfl 5 (by decide) fl29 (fun _ h9 => h9) rfl dX4_look_39 ?_
    refine lv_aload_n hx hb dX4_look_42 rfl (lv_at hl 0 rfl) ?_
    refine x_get (ci := 4) (v := .int (v1 1 0)) (C := RX4) (T := TX4) (N := 6) hx hb hts inX4 hown hK hW 0 rfl rfl 0 (by decide) fl22 (fun _ h9 => h9) rfl dX4_look_43 ?_
    refine lv_icmp_ge (tgt := 65) hx hb dX4_look_46 (by decide) (fun hc => ?_) (fun hc => ?_)
    · replace hf := ifp hc hf
      refine lv_iconst (v := (-1 : Int32)) hx hb dX4_look_65 (by decide) ?_
      have ho := Option.some.inj hf
      subst ho
      exact x_reti (sz := 0) (w0 := []) (A1 := A) hx hb hr hlocks hK hW rfl rfl dX4_look_66
    · replace hf := ifn hc hf
      refine lv_aload_n hx hb dX4_look_49 rfl (lv_at hl 0 rfl) ?_
      refine x_get (ci := 4) (v := .ref (a 23)) (C := RX4) (T := TX4) (N := 6) hx hb hts inX4 hown hK hW 0 rfl rfl 4 (by decide) fl18 (fun _ h9 => h9) rfl dX4_look_50 ?_
      refine lv_aload_n hx hb dX4_look_53 rfl (lv_at hl 0 rfl) ?_
      refine x_get (ci := 4) (v := .int (v1 24 0)) (C := RX4) (T := TX4) (N := 6) hx hb hts inX4 hown hK hW 0 rfl rfl 5 (by decide) fl29 (fun _ h9 => h9) rfl dX4_look_54 ?_
      replace hf := gd_s hf; obtain ⟨hin, hf⟩ := hf
      refine x_bald (n := 500) (f := v1 23) hx hb hK hW 15 rfl (okI_in hin) dX4_look_57 ?_
      refine lv_sipush (v := (255 : Int32)) hx hb dX4_look_58 (by decide) ?_
      refine lv_iand hx hb dX4_look_61 ?_
      refine lv_goto (tgt := 66) hx hb dX4_look_62 (by decide) ?_
      have ho := Option.some.inj hf
      subst ho
      exact x_reti (sz := 0) (w0 := []) (A1 := A) hx hb hr hlocks hK hW rfl rfl dX4_look_66
  clear hf
  have L1 : ∀ (n : Nat) (g1 : St_), f_X4_look_L0 N n g1 = some v1 → ∀ (H : Heap) (locs : List Loc) (ls : Array Slot), WW G A s.heap (wX4 a ct g1) H locs → lv_has ls 1 [(0, .ref (a 0))] → W p l e ({ frames := 0, cells := 0, slots := 0, locals := 0 } : Room) s m (List.toArray [.ref (a 0)]) below meth c H locs 0 0 (MQ below (va_Qi (fun r (_ : Unit) => r = o.1) (fun _ t => Af_ G ct (wX4 a ct o.2) A t) A) (List.toArray [.ref (a 0)]) s 0 0 A) (F0 m 0 ls []) := by
    intro n
    induction n with
    | zero =>
      intro g1 hf
      rw [f_X4_look_L0] at hf
      cases hf
    | succ n ih =>
      intro g1 hf H locs ls hW hl
      rw [f_X4_look_L0] at hf
      refine lv_aload_n hx hb dX4_look_0 rfl (lv_at hl 0 rfl) ?_
      refine x_get (ci := 4) (v := .int (g1 24 0)) (C := RX4) (T := TX4) (N := 6) hx hb hts inX4 hown hK hW 0 rfl rfl 5 (by decide) fl29 (fun _ h9 => h9) rfl dX4_look_1 ?_
      refine lv_aload_n hx hb dX4_look_4 rfl (lv_at hl 0 rfl) ?_
      refine x_get (ci := 4) (v := .int (g1 1 0)) (C := RX4) (T := TX4) (N := 6) hx hb hts inX4 hown hK hW 0 rfl rfl 0 (by decide) fl22 (fun _ h9 => h9) rfl dX4_look_5 ?_
      refine lv_icmp_ge (tgt := 38) hx hb dX4_look_8 (by decide) (fun hc => ?_) (fun hc => ?_)
      · replace hf := ifp hc hf
        have hj := Option.some.inj hf
        subst hj
        exact J1 _ _ _ hW (lv_sub hl [0] rfl)
      · replace hf := ifn hc hf
        refine lv_aload_n hx hb dX4_look_11 rfl (lv_at hl 0 rfl) ?_
        refine x_get (ci := 4) (v := .ref (a 23)) (C := RX4) (T := TX4) (N := 6) hx hb hts inX4 hown hK hW 0 rfl rfl 4 (by decide) fl18 (fun _ h9 => h9) rfl dX4_look_12 ?_
        refine lv_aload_n hx hb dX4_look_15 rfl (lv_at hl 0 rfl) ?_
        refine x_get (ci := 4) (v := .int (g1 24 0)) (C := RX4) (T := TX4) (N := 6) hx hb hts inX4 hown hK hW 0 rfl rfl 5 (by decide) fl29 (fun _ h9 => h9) rfl dX4_look_16 ?_
        replace hf := gd_s hf; obtain ⟨hin, hf⟩ := hf
        refine x_bald (n := 500) (f := g1 23) hx hb hK hW 15 rfl (okI_in hin) dX4_look_19 ?_
        refine lv_bipush (v := (32 : Int32)) hx hb dX4_look_20 (by decide) ?_
        refine lv_icmp_ne (tgt := 38) hx hb dX4_look_22 (by decide) (fun hc => ?_) (fun hc => ?_)
        · replace hf := ifn hc hf
          have hj := Option.some.inj hf
          subst hj
          exact J1 _ _ _ hW (lv_sub hl [0] rfl)
        · replace hf := ifp hc hf
          refine lv_aload_n hx hb dX4_look_25 rfl (lv_at hl 0 rfl) ?_
          refine lv_dup hx hb dX4_look_26 rfl ?_
          refine x_get (ci := 4) (v := .int (g1 24 0)) (C := RX4) (T := TX4) (N := 6) hx hb hts inX4 hown hK hW 0 rfl rfl 5 (by decide) fl29 (fun _ h9 => h9) rfl dX4_look_27 ?_
          refine lv_iconst (v := (1 : Int32)) hx hb dX4_look_30 (by decide) ?_
          refine lv_iadd hx hb dX4_look_31 ?_
          refine x_put (w' := (wX4 a ct (up1 g1 24 0 ((g1 24 0) + (1 : Int32))))) (fs := fsX4 a g1) (ci := 4) (v := .int ((g1 24 0) + (1 : Int32))) (ty := .int) (C := RX4) (T := TX4) (N := 6) hx hb hts inX4 tyX4 tyX4_ok nmX4 hown hK hW 0 rfl rfl 5 (by decide) fl29 (fun _ h9 => h9) rfl (by decide +kernel) rfl rfl (Nat.le_of_ble_eq_true rfl) (wp_X4_24 a ct g1 ((g1 24 0) + (1 : Int32))) dX4_look_32 (fun H locs hW => ?_)
          refine lv_goto (tgt := 0) hx hb dX4_look_35 (by decide) ?_
          exact ih (up1 g1 24 0 ((g1 24 0) + (1 : Int32))) hf _ _ _ hW (lv_sub hl [0] rfl)
  exact L1 N g hg _ _ _ hW (lv_sub hl [0] rfl)
set_option maxHeartbeats 4000000 in
set_option maxRecDepth 100000 in
theorem c_X4_skipWord (l : Launch) (N : Nat) (kd : (Nat → Nat) × (Nat → Nat)) (G : va_G) (ct : Nat → ClassId) (a : Nat → Nat) (g : St_) (o : St_) (hf : f_X4_skipWord N g = some o) : CtV l yX4_skipWord wsX4_skipWord ({ frames := 0, cells := 0, slots := 0, locals := 0 }) kd G ct [.ref (a 0)] (wX4 a ct g) (wX4 a ct o) := by
  intro sz
  refine Met.ofW (cc := cX4_skipWord) (maxL := 1) (ret := none) (by decide) rfl ?_
  intro p e s m args below meth c s₁ B hml hv
  obtain ⟨rfl, hsz, hP, hK, hD0, hE⟩ := hv
  have hx := B.exec
  have hb := B.bytes
  have hr := B.returns
  have hts := atoms_spec (ws := wsX4_skipWord) B.pre
  have hown : s.vm.findClass RX4 = some m.cls := findClass_of_methodNamed B.named
  have hlocks := B.notSynchronized
  have inX4 : ∀ w ∈ wsX40, w ∈ wsX4_skipWord := by decide +kernel
  have fl18 := hts (.fieldLink RX4 18 "FittingStrides$Text" "bytes" "[B") (by decide +kernel)
  have fl22 := hts (.fieldLink RX4 22 "FittingStrides$Text" "length" "I") (by decide +kernel)
  have fl29 := hts (.fieldLink RX4 29 "FittingStrides$Text" "at" "I") (by decide +kernel)
  subst hsz
  have hD := hD0.self (sz := s.heap.size)
  generalize hAe : va_A (wX4 a ct g) s.heap.size = A at hD hE ⊢
  have hA : ∀ q : Nat, s.heap.size ≤ q → A q := fun q h => by rw [← hAe]; exact Or.inr h
  have hW : WW G A s.heap (wX4 a ct g) s.heap [] := ⟨hP, hD, va_S.rf⟩
  have hl := lv_entry ([.ref (a 0)]) (n := 1) (Nat.le_of_ble_eq_true rfl)
  rw [lg_entry_eq]
  generalize (lg_sl ([.ref (a 0)]) ++ List.replicate (1 - (lg_sl ([.ref (a 0)])).length) Slot.unset).toArray = ls at hl ⊢
  have hl : lv_has ls 1 [(0, .ref (a 0))] := hl
  unfold f_X4_skipWord at hf
  show W p l e ({ frames := 0, cells := 0, slots := 0, locals := 0 } : Room) s m (List.toArray [.ref (a 0)]) below meth c s.heap [] 0 0 (MQ below (va_Qv (fun (_ : Unit) => True) (fun _ t => Af_ G ct (wX4 a ct o) A t) A) (List.toArray [.ref (a 0)]) s 0 0 A) (F0 m 0 ls [])
  replace hf := bs_ hf; obtain ⟨v1, hg, hf⟩ := hf
  have J1 : ∀ (H : Heap) (locs : List Loc) (ls : Array Slot), WW G A s.heap (wX4 a ct v1) H locs → lv_has ls 1 [] → W p l e ({ frames := 0, cells := 0, slots := 0, locals := 0 } : Room) s m (List.toArray [.ref (a 0)]) below meth c H locs 0 0 (MQ below (va_Qv (fun (_ : Unit) => True) (fun _ t => Af_ G ct (wX4 a ct o) A t) A) (List.toArray [.ref (a 0)]) s 0 0 A) (F0 m 52 ls []) := by
    intro H locs ls hW hl
    have ho := Option.some.inj hf
    subst ho
    exact x_retv hx hb hr hlocks hK hW rfl dX4_skipWord_52
  clear hf
  have L1 : ∀ (n : Nat) (g1 : St_), f_X4_skipWord_L0 N n g1 = some v1 → ∀ (H : Heap) (locs : List Loc) (ls : Array Slot), WW G A s.heap (wX4 a ct g1) H locs → lv_has ls 1 [(0, .ref (a 0))] → W p l e ({ frames := 0, cells := 0, slots := 0, locals := 0 } : Room) s m (List.toArray [.ref (a 0)]) below meth c H locs 0 0 (MQ below (va_Qv (fun (_ : Unit) => True) (fun _ t => Af_ G ct (wX4 a ct o) A t) A) (List.toArray [.ref (a 0)]) s 0 0 A) (F0 m 0 ls []) := by
    intro n
    induction n with
    | zero =>
      intro g1 hf
      rw [f_X4_skipWord_L0] at hf
      cases hf
    | succ n ih =>
      intro g1 hf H locs ls hW hl
      rw [f_X4_skipWord_L0] at hf
      refine lv_aload_n hx hb dX4_skipWord_0 rfl (lv_at hl 0 rfl) ?_
      refine x_get (ci := 4) (v := .int (g1 24 0)) (C := RX4) (T := TX4) (N := 6) hx hb hts inX4 hown hK hW 0 rfl rfl 5 (by decide) fl29 (fun _ h9 => h9) rfl dX4_skipWord_1 ?_
      refine lv_aload_n hx hb dX4_skipWord_4 rfl (lv_at hl 0 rfl) ?_
      refine x_get (ci := 4) (v := .int (g1 1 0)) (C := RX4) (T := TX4) (N := 6) hx hb hts inX4 hown hK hW 0 rfl rfl 0 (by decide) fl22 (fun _ h9 => h9) rfl dX4_skipWord_5 ?_
      refine lv_icmp_ge (tgt := 52) hx hb dX4_skipWord_8 (by decide) (fun hc => ?_) (fun hc => ?_)
      · replace hf := ifp hc hf
        have hj := Option.some.inj hf
        subst hj
        exact J1 _ _ _ hW (lv_sub hl [] rfl)
      · replace hf := ifn hc hf
        refine lv_aload_n hx hb dX4_skipWord_11 rfl (lv_at hl 0 rfl) ?_
        refine x_get (ci := 4) (v := .ref (a 23)) (C := RX4) (T := TX4) (N := 6) hx hb hts inX4 hown hK hW 0 rfl rfl 4 (by decide) fl18 (fun _ h9 => h9) rfl dX4_skipWord_12 ?_
        refine lv_aload_n hx hb dX4_skipWord_15 rfl (lv_at hl 0 rfl) ?_
        refine x_get (ci := 4) (v := .int (g1 24 0)) (C := RX4) (T := TX4) (N := 6) hx hb hts inX4 hown hK hW 0 rfl rfl 5 (by decide) fl29 (fun _ h9 => h9) rfl dX4_skipWord_16 ?_
        replace hf := gd_s hf; obtain ⟨hin, hf⟩ := hf
        refine x_bald (n := 500) (f := g1 23) hx hb hK hW 15 rfl (okI_in hin) dX4_skipWord_19 ?_
        refine lv_bipush (v := (97 : Int32)) hx hb dX4_skipWord_20 (by decide) ?_
        refine lv_icmp_lt (tgt := 52) hx hb dX4_skipWord_22 (by decide) (fun hc => ?_) (fun hc => ?_)
        · replace hf := ifp hc hf
          have hj := Option.some.inj hf
          subst hj
          exact J1 _ _ _ hW (lv_sub hl [] rfl)
        · replace hf := ifn hc hf
          refine lv_aload_n hx hb dX4_skipWord_25 rfl (lv_at hl 0 rfl) ?_
          refine x_get (ci := 4) (v := .ref (a 23)) (C := RX4) (T := TX4) (N := 6) hx hb hts inX4 hown hK hW 0 rfl rfl 4 (by decide) fl18 (fun _ h9 => h9) rfl dX4_skipWord_26 ?_
          refine lv_aload_n hx hb dX4_skipWord_29 rfl (lv_at hl 0 rfl) ?_
          refine x_get (ci := 4) (v := .int (g1 24 0)) (C := RX4) (T := TX4) (N := 6) hx hb hts inX4 hown hK hW 0 rfl rfl 5 (by decide) fl29 (fun _ h9 => h9) rfl dX4_skipWord_30 ?_
          replace hf := gd_s hf; obtain ⟨hin, hf⟩ := hf
          refine x_bald (n := 500) (f := g1 23) hx hb hK hW 15 rfl (okI_in hin) dX4_skipWord_33 ?_
          refine lv_bipush (v := (122 : Int32)) hx hb dX4_skipWord_34 (by decide) ?_
          refine lv_icmp_gt (tgt := 52) hx hb dX4_skipWord_36 (by decide) (fun hc => ?_) (fun hc => ?_)
          · replace hf := ifp hc hf
            have hj := Option.some.inj hf
            subst hj
            exact J1 _ _ _ hW (lv_sub hl [] rfl)
          · replace hf := ifn hc hf
            refine lv_aload_n hx hb dX4_skipWord_39 rfl (lv_at hl 0 rfl) ?_
            refine lv_dup hx hb dX4_skipWord_40 rfl ?_
            refine x_get (ci := 4) (v := .int (g1 24 0)) (C := RX4) (T := TX4) (N := 6) hx hb hts inX4 hown hK hW 0 rfl rfl 5 (by decide) fl29 (fun _ h9 => h9) rfl dX4_skipWord_41 ?_
            refine lv_iconst (v := (1 : Int32)) hx hb dX4_skipWord_44 (by decide) ?_
            refine lv_iadd hx hb dX4_skipWord_45 ?_
            refine x_put (w' := (wX4 a ct (up1 g1 24 0 ((g1 24 0) + (1 : Int32))))) (fs := fsX4 a g1) (ci := 4) (v := .int ((g1 24 0) + (1 : Int32))) (ty := .int) (C := RX4) (T := TX4) (N := 6) hx hb hts inX4 tyX4 tyX4_ok nmX4 hown hK hW 0 rfl rfl 5 (by decide) fl29 (fun _ h9 => h9) rfl (by decide +kernel) rfl rfl (Nat.le_of_ble_eq_true rfl) (wp_X4_24 a ct g1 ((g1 24 0) + (1 : Int32))) dX4_skipWord_46 (fun H locs hW => ?_)
            refine lv_goto (tgt := 0) hx hb dX4_skipWord_49 (by decide) ?_
            exact ih (up1 g1 24 0 ((g1 24 0) + (1 : Int32))) hf _ _ _ hW (lv_sub hl [0] rfl)
  exact L1 N g hg _ _ _ hW (lv_sub hl [0] rfl)
set_option maxHeartbeats 4000000 in
set_option maxRecDepth 100000 in
theorem c_X4_isWord (l : Launch) (N : Nat) (kd : (Nat → Nat) × (Nat → Nat)) (G : va_G) (ct : Nat → ClassId) (a : Nat → Nat) (g : St_) (x1 : Int32) (kw : Nat) (o : Int32) (hf : f_X4_isWord N g x1 kw = some o) (hkw : kw < 6) : CtI l yX4_isWord wsX4_isWord ({ frames := 4, cells := 0, slots := 0, locals := 120 }) kd G ct [.ref (a 0), .int x1, .ref (kd.1 kw)] (wX4 a ct g) o (wX4 a ct g) := by
  intro sz
  refine Met.ofW (cc := cX4_isWord) (maxL := 4) (ret := (some .boolean)) (by decide) rfl ?_
  intro p e s m args below meth c s₁ B hml hv
  obtain ⟨rfl, hsz, hP, hK, hD0, hE⟩ := hv
  have hx := B.exec
  have hb := B.bytes
  have hr := B.returns
  have hts := atoms_spec (ws := wsX4_isWord) B.pre
  have hown : s.vm.findClass RX4 = some m.cls := findClass_of_methodNamed B.named
  have hlocks := B.notSynchronized
  have inX4 : ∀ w ∈ wsX40, w ∈ wsX4_isWord := by decide +kernel
  have fl18 := hts (.fieldLink RX4 18 "FittingStrides$Text" "bytes" "[B") (by decide +kernel)
  have fl22 := hts (.fieldLink RX4 22 "FittingStrides$Text" "length" "I") (by decide +kernel)
  have fl29 := hts (.fieldLink RX4 29 "FittingStrides$Text" "at" "I") (by decide +kernel)
  subst hsz
  have hD := hD0.self (sz := s.heap.size)
  generalize hAe : va_A (wX4 a ct g) s.heap.size = A at hD hE ⊢
  have hA : ∀ q : Nat, s.heap.size ≤ q → A q := fun q h => by rw [← hAe]; exact Or.inr h
  have hW : WW G A s.heap (wX4 a ct g) s.heap [] := ⟨hP, hD, va_S.rf⟩
  have hl := lv_entry ([.ref (a 0), .int x1, .ref (kd.1 kw)]) (n := 4) (Nat.le_of_ble_eq_true rfl)
  rw [lg_entry_eq]
  generalize (lg_sl ([.ref (a 0), .int x1, .ref (kd.1 kw)]) ++ List.replicate (4 - (lg_sl ([.ref (a 0), .int x1, .ref (kd.1 kw)])).length) Slot.unset).toArray = ls at hl ⊢
  have hl : lv_has ls 4 [(0, .ref (a 0)), (1, .int x1), (2, .ref (kd.1 kw))] := hl
  unfold f_X4_isWord at hf
  show W p l e ({ frames := 4, cells := 0, slots := 0, locals := 120 } : Room) s m (List.toArray [.ref (a 0), .int x1, .ref (kd.1 kw)]) below meth c s.heap [] 0 0 (MQ below (va_Qi (fun r (_ : Unit) => r = o) (fun _ t => Af_ G ct (wX4 a ct g) A t) A) (List.toArray [.ref (a 0), .int x1, .ref (kd.1 kw)]) s 0 0 A) (F0 m 0 ls [])
  refine lv_iload_n hx hb dX4_isWord_0 rfl (lv_at hl 1 rfl) ?_
  refine lv_if_lt (tgt := 28) hx hb dX4_isWord_1 (by decide) (fun hc => ?_) (fun hc => ?_)
  · replace hf := ifp hc hf
    refine lv_iconst (v := (0 : Int32)) hx hb dX4_isWord_28 (by decide) ?_
    have ho := Option.some.inj hf
    subst ho
    exact x_retz hx hb hr rfl hlocks hK hW rfl rfl dX4_isWord_29
  · replace hf := ifn hc hf
    refine lv_aload_n hx hb dX4_isWord_4 rfl (lv_at hl 0 rfl) ?_
    refine x_get (ci := 4) (v := .int (g 24 0)) (C := RX4) (T := TX4) (N := 6) hx hb hts inX4 hown hK hW 0 rfl rfl 5 (by decide) fl29 (fun _ h9 => h9) rfl dX4_isWord_5 ?_
    refine lv_aload_n hx hb dX4_isWord_8 rfl (lv_at hl 0 rfl) ?_
    refine x_get (ci := 4) (v := .int (g 1 0)) (C := RX4) (T := TX4) (N := 6) hx hb hts inX4 hown hK hW 0 rfl rfl 0 (by decide) fl22 (fun _ h9 => h9) rfl dX4_isWord_9 ?_
    refine lv_icmp_gt (tgt := 28) hx hb dX4_isWord_12 (by decide) (fun hc => ?_) (fun hc => ?_)
    · replace hf := ifp hc hf
      refine lv_iconst (v := (0 : Int32)) hx hb dX4_isWord_28 (by decide) ?_
      have ho := Option.some.inj hf
      subst ho
      exact x_retz hx hb hr rfl hlocks hK hW rfl rfl dX4_isWord_29
    · replace hf := ifn hc hf
      refine lv_aload_n hx hb dX4_isWord_15 rfl (lv_at hl 0 rfl) ?_
      refine x_get (ci := 4) (v := .int (g 24 0)) (C := RX4) (T := TX4) (N := 6) hx hb hts inX4 hown hK hW 0 rfl rfl 5 (by decide) fl29 (fun _ h9 => h9) rfl dX4_isWord_16 ?_
      refine lv_iload_n hx hb dX4_isWord_19 rfl (lv_at hl 1 rfl) ?_
      refine lv_isub hx hb dX4_isWord_20 ?_
      refine lv_aload_n hx hb dX4_isWord_21 rfl (lv_at hl 2 rfl) ?_
      refine x_callE_i (As := []) (rest := [.int ((g 24 0) - x1)]) ⟨hx, hb, hml, hown, hts⟩ (c_J0_length l kd G ct kw hkw) (cwV 0 hts gX4_isWord_J0_length_8abf5 rfl rfl rfl (by decide +kernel) ⟨Nat.le_of_ble_eq_true rfl, Nat.le_of_ble_eq_true rfl⟩) hK hE hA hW (vk_recv hE.2.2.1 hkw hW.2.2) rfl hl.1 rfl (lv_room (Nat.le_of_ble_eq_true rfl)) dX4_isWord_22 (fun H locs hW => ?_)
      refine lv_icmp_eq (tgt := 30) hx hb dX4_isWord_25 (by decide) (fun hc => ?_) (fun hc => ?_)
      · replace hf := ifp hc hf
        refine lv_iconst (v := (0 : Int32)) hx hb dX4_isWord_30 (by decide) ?_
        refine lv_istore_n (lv' := [(3, .int (0 : Int32)), (0, .ref (a 0)), (1, .int x1), (2, .ref (kd.1 kw))]) hx hb dX4_isWord_31 rfl hl (by decide) rfl (fun ls hl => ?_)
        replace hf := bs_ hf; obtain ⟨jr, hg, hf⟩ := hf
        have hR1 : ∀ r, jr = Sum.inl r → r = o := fun r hr0 => by subst hr0; have h8 := se_l hf; exact Option.some.inj h8
        have J1 : ∀ (v1 : Unit), jr = Sum.inr v1 → ∀ (H : Heap) (locs : List Loc) (ls : Array Slot), WW G A s.heap (wX4 a ct g) H locs → lv_has ls 4 [] → W p l e ({ frames := 4, cells := 0, slots := 0, locals := 120 } : Room) s m (List.toArray [.ref (a 0), .int x1, .ref (kd.1 kw)]) below meth c H locs 0 0 (MQ below (va_Qi (fun r (_ : Unit) => r = o) (fun _ t => Af_ G ct (wX4 a ct g) A t) A) (List.toArray [.ref (a 0), .int x1, .ref (kd.1 kw)]) s 0 0 A) (F0 m 64 ls []) := by
          intro v1 hjr H locs ls hW hl
          subst hjr
          replace hf := se_r hf
          refine lv_iconst (v := (1 : Int32)) hx hb dX4_isWord_64 (by decide) ?_
          have ho := Option.some.inj hf
          subst ho
          exact x_retz hx hb hr rfl hlocks hK hW rfl rfl dX4_isWord_65
        clear hf
        have L1 : ∀ (n : Nat) (y1_3 : Int32), f_X4_isWord_L32 N g kw x1 n y1_3 = some jr → ∀ (H : Heap) (locs : List Loc) (ls : Array Slot), WW G A s.heap (wX4 a ct g) H locs → lv_has ls 4 [(0, .ref (a 0)), (1, .int x1), (2, .ref (kd.1 kw)), (3, .int y1_3)] → W p l e ({ frames := 4, cells := 0, slots := 0, locals := 120 } : Room) s m (List.toArray [.ref (a 0), .int x1, .ref (kd.1 kw)]) below meth c H locs 0 0 (MQ below (va_Qi (fun r (_ : Unit) => r = o) (fun _ t => Af_ G ct (wX4 a ct g) A t) A) (List.toArray [.ref (a 0), .int x1, .ref (kd.1 kw)]) s 0 0 A) (F0 m 32 ls []) := by
          intro n
          induction n with
          | zero =>
            intro y1_3 hf
            rw [f_X4_isWord_L32] at hf
            cases hf
          | succ n ih =>
            intro y1_3 hf H locs ls hW hl
            rw [f_X4_isWord_L32] at hf
            refine lv_iload_n hx hb dX4_isWord_32 rfl (lv_at hl 3 rfl) ?_
            refine lv_aload_n hx hb dX4_isWord_33 rfl (lv_at hl 2 rfl) ?_
            refine x_callE_i (As := []) (rest := [.int y1_3]) ⟨hx, hb, hml, hown, hts⟩ (c_J0_length l kd G ct kw hkw) (cwV 0 hts gX4_isWord_J0_length_8abf5 rfl rfl rfl (by decide +kernel) ⟨Nat.le_of_ble_eq_true rfl, Nat.le_of_ble_eq_true rfl⟩) hK hE hA hW (vk_recv hE.2.2.1 hkw hW.2.2) rfl hl.1 rfl (lv_room (Nat.le_of_ble_eq_true rfl)) dX4_isWord_34 (fun H locs hW => ?_)
            refine lv_icmp_ge (tgt := 64) hx hb dX4_isWord_37 (by decide) (fun hc => ?_) (fun hc => ?_)
            · replace hf := ifp hc hf
              have hj := (Option.some.inj hf).symm
              exact J1 _ hj _ _ _ hW (lv_sub hl [] rfl)
            · replace hf := ifn hc hf
              refine lv_aload_n hx hb dX4_isWord_40 rfl (lv_at hl 0 rfl) ?_
              refine x_get (ci := 4) (v := .ref (a 23)) (C := RX4) (T := TX4) (N := 6) hx hb hts inX4 hown hK hW 0 rfl rfl 4 (by decide) fl18 (fun _ h9 => h9) rfl dX4_isWord_41 ?_
              refine lv_iload_n hx hb dX4_isWord_44 rfl (lv_at hl 1 rfl) ?_
              refine lv_iload_n hx hb dX4_isWord_45 rfl (lv_at hl 3 rfl) ?_
              refine lv_iadd hx hb dX4_isWord_46 ?_
              replace hf := gd_s hf; obtain ⟨hin, hf⟩ := hf
              refine x_bald (n := 500) (f := g 23) hx hb hK hW 15 rfl (okI_in hin) dX4_isWord_47 ?_
              refine lv_aload_n hx hb dX4_isWord_48 rfl (lv_at hl 2 rfl) ?_
              refine lv_iload_n hx hb dX4_isWord_49 rfl (lv_at hl 3 rfl) ?_
              replace hf := gd_s hf; obtain ⟨hin2, hf⟩ := hf
              refine x_callE_i (As := [.int y1_3]) (rest := [.int (g 23 (x1 + y1_3).toNatClampNeg)]) ⟨hx, hb, hml, hown, hts⟩ (c_J0_charAt l kd G ct kw y1_3 hkw (okI_in hin2)) (cwV 1 hts gX4_isWord_J0_charAt_5068e rfl rfl rfl (by decide +kernel) ⟨Nat.le_of_ble_eq_true rfl, Nat.le_of_ble_eq_true rfl⟩) hK hE hA hW (vk_recv hE.2.2.1 hkw hW.2.2) rfl hl.1 rfl (lv_room (Nat.le_of_ble_eq_true rfl)) dX4_isWord_50 (fun H locs hW => ?_)
              refine lv_icmp_eq (tgt := 58) hx hb dX4_isWord_53 (by decide) (fun hc => ?_) (fun hc => ?_)
              · replace hf := ifp hc hf
                refine lv_iinc (v := (y1_3 + (1 : Int32))) (lv' := [(3, .int (y1_3 + (1 : Int32))), (0, .ref (a 0)), (1, .int x1), (2, .ref (kd.1 kw))]) hx hb dX4_isWord_58 hl (k := 3) rfl rfl (by decide) rfl (fun ls hl => ?_)
                refine lv_goto (tgt := 32) hx hb dX4_isWord_61 (by decide) ?_
                exact ih (y1_3 + (1 : Int32)) hf _ _ _ hW (lv_sub hl [1, 2, 3, 0] rfl)
              · replace hf := ifn hc hf
                refine lv_iconst (v := (0 : Int32)) hx hb dX4_isWord_56 (by decide) ?_
                have ho := hR1 _ (Option.some.inj hf).symm
                subst ho
                exact x_retz hx hb hr rfl hlocks hK hW rfl rfl dX4_isWord_57
        exact L1 N (0 : Int32) hg _ _ _ hW (lv_sub hl [1, 2, 3, 0] rfl)
      · replace hf := ifn hc hf
        refine lv_iconst (v := (0 : Int32)) hx hb dX4_isWord_28 (by decide) ?_
        have ho := Option.some.inj hf
        subst ho
        exact x_retz hx hb hr rfl hlocks hK hW rfl rfl dX4_isWord_29
set_option maxHeartbeats 4000000 in
set_option maxRecDepth 100000 in
theorem c_X4_isFigure (l : Launch) (N : Nat) (kd : (Nat → Nat) × (Nat → Nat)) (G : va_G) (ct : Nat → ClassId) (x0 : Int32) (o : Int32) (hf : f_X4_isFigure N x0 = some o) : CtI l yX4_isFigure wsX4_isFigure ({ frames := 0, cells := 0, slots := 0, locals := 0 }) kd G ct [.int x0] ([] : va_W) o ([] : va_W) := by
  intro sz
  refine Met.ofW (cc := cX4_isFigure) (maxL := 1) (ret := (some .boolean)) (by decide) rfl ?_
  intro p e s m args below meth c s₁ B hml hv
  obtain ⟨rfl, hsz, hP, hK, hD0, hE⟩ := hv
  have hx := B.exec
  have hb := B.bytes
  have hr := B.returns
  have hts := atoms_spec (ws := wsX4_isFigure) B.pre
  have hown : s.vm.findClass RX4 = some m.cls := findClass_of_methodNamed B.named
  have hlocks := B.notSynchronized
  subst hsz
  have hD := hD0.self (sz := s.heap.size)
  generalize hAe : va_A ([] : va_W) s.heap.size = A at hD hE ⊢
  have hA : ∀ q : Nat, s.heap.size ≤ q → A q := fun q h => by rw [← hAe]; exact Or.inr h
  have hW : WW G A s.heap ([] : va_W) s.heap [] := ⟨hP, hD, va_S.rf⟩
  have hl := lv_entry ([.int x0]) (n := 1) (Nat.le_of_ble_eq_true rfl)
  rw [lg_entry_eq]
  generalize (lg_sl ([.int x0]) ++ List.replicate (1 - (lg_sl ([.int x0])).length) Slot.unset).toArray = ls at hl ⊢
  have hl : lv_has ls 1 [(0, .int x0)] := hl
  unfold f_X4_isFigure at hf
  show W p l e ({ frames := 0, cells := 0, slots := 0, locals := 0 } : Room) s m (List.toArray [.int x0]) below meth c s.heap [] 0 0 (MQ below (va_Qi (fun r (_ : Unit) => r = o) (fun _ t => Af_ G ct ([] : va_W) A t) A) (List.toArray [.int x0]) s 0 0 A) (F0 m 0 ls [])
  refine lv_iload_n hx hb dX4_isFigure_0 rfl (lv_at hl 0 rfl) ?_
  refine lv_bipush (v := (48 : Int32)) hx hb dX4_isFigure_1 (by decide) ?_
  refine lv_icmp_lt (tgt := 16) hx hb dX4_isFigure_3 (by decide) (fun hc => ?_) (fun hc => ?_)
  · replace hf := ifp hc hf
    refine lv_iconst (v := (0 : Int32)) hx hb dX4_isFigure_16 (by decide) ?_
    have ho := Option.some.inj hf
    subst ho
    exact x_retz hx hb hr rfl hlocks hK hW rfl rfl dX4_isFigure_17
  · replace hf := ifn hc hf
    refine lv_iload_n hx hb dX4_isFigure_6 rfl (lv_at hl 0 rfl) ?_
    refine lv_bipush (v := (57 : Int32)) hx hb dX4_isFigure_7 (by decide) ?_
    refine lv_icmp_gt (tgt := 16) hx hb dX4_isFigure_9 (by decide) (fun hc => ?_) (fun hc => ?_)
    · replace hf := ifp hc hf
      refine lv_iconst (v := (0 : Int32)) hx hb dX4_isFigure_16 (by decide) ?_
      have ho := Option.some.inj hf
      subst ho
      exact x_retz hx hb hr rfl hlocks hK hW rfl rfl dX4_isFigure_17
    · replace hf := ifn hc hf
      refine lv_iconst (v := (1 : Int32)) hx hb dX4_isFigure_12 (by decide) ?_
      refine lv_goto (tgt := 17) hx hb dX4_isFigure_13 (by decide) ?_
      have ho := Option.some.inj hf
      subst ho
      exact x_retz hx hb hr rfl hlocks hK hW rfl rfl dX4_isFigure_17
set_option maxHeartbeats 4000000 in
set_option maxRecDepth 100000 in
theorem c_X4_fail (l : Launch) (N : Nat) (kd : (Nat → Nat) × (Nat → Nat)) (G : va_G) (ct : Nat → ClassId) (a : Nat → Nat) (g : St_) (x1 : Int32) (x2 : Int32) (o : St_) (hf : f_X4_fail N g x1 x2 = some o) : CtV l yX4_fail wsX4_fail ({ frames := 0, cells := 0, slots := 0, locals := 0 }) kd G ct [.ref (a 0), .int x1, .int x2] (wX4 a ct g) (wX4 a ct o) := by
  intro sz
  refine Met.ofW (cc := cX4_fail) (maxL := 3) (ret := none) (by decide) rfl ?_
  intro p e s m args below meth c s₁ B hml hv
  obtain ⟨rfl, hsz, hP, hK, hD0, hE⟩ := hv
  have hx := B.exec
  have hb := B.bytes
  have hr := B.returns
  have hts := atoms_spec (ws := wsX4_fail) B.pre
  have hown : s.vm.findClass RX4 = some m.cls := findClass_of_methodNamed B.named
  have hlocks := B.notSynchronized
  have inX4 : ∀ w ∈ wsX40, w ∈ wsX4_fail := by decide +kernel
  have fl32 := hts (.fieldLink RX4 32 "FittingStrides$Text" "faultKind" "I") (by decide +kernel)
  have fl35 := hts (.fieldLink RX4 35 "FittingStrides$Text" "faultAt" "I") (by decide +kernel)
  subst hsz
  have hD := hD0.self (sz := s.heap.size)
  generalize hAe : va_A (wX4 a ct g) s.heap.size = A at hD hE ⊢
  have hA : ∀ q : Nat, s.heap.size ≤ q → A q := fun q h => by rw [← hAe]; exact Or.inr h
  have hW : WW G A s.heap (wX4 a ct g) s.heap [] := ⟨hP, hD, va_S.rf⟩
  have hl := lv_entry ([.ref (a 0), .int x1, .int x2]) (n := 3) (Nat.le_of_ble_eq_true rfl)
  rw [lg_entry_eq]
  generalize (lg_sl ([.ref (a 0), .int x1, .int x2]) ++ List.replicate (3 - (lg_sl ([.ref (a 0), .int x1, .int x2])).length) Slot.unset).toArray = ls at hl ⊢
  have hl : lv_has ls 3 [(0, .ref (a 0)), (1, .int x1), (2, .int x2)] := hl
  unfold f_X4_fail at hf
  show W p l e ({ frames := 0, cells := 0, slots := 0, locals := 0 } : Room) s m (List.toArray [.ref (a 0), .int x1, .int x2]) below meth c s.heap [] 0 0 (MQ below (va_Qv (fun (_ : Unit) => True) (fun _ t => Af_ G ct (wX4 a ct o) A t) A) (List.toArray [.ref (a 0), .int x1, .int x2]) s 0 0 A) (F0 m 0 ls [])
  refine lv_aload_n hx hb dX4_fail_0 rfl (lv_at hl 0 rfl) ?_
  refine lv_iload_n hx hb dX4_fail_1 rfl (lv_at hl 1 rfl) ?_
  refine x_put (w' := (wX4 a ct (up1 g 2 0 x1))) (fs := fsX4 a g) (ci := 4) (v := .int x1) (ty := .int) (C := RX4) (T := TX4) (N := 6) hx hb hts inX4 tyX4 tyX4_ok nmX4 hown hK hW 0 rfl rfl 1 (by decide) fl32 (fun _ h9 => h9) rfl (by decide +kernel) rfl rfl (Nat.le_of_ble_eq_true rfl) (wp_X4_2 a ct g x1) dX4_fail_2 (fun H locs hW => ?_)
  refine lv_aload_n hx hb dX4_fail_5 rfl (lv_at hl 0 rfl) ?_
  refine lv_iload_n hx hb dX4_fail_6 rfl (lv_at hl 2 rfl) ?_
  refine x_put (w' := (wX4 a ct (up1 (up1 g 2 0 x1) 3 0 x2))) (fs := fsX4 a (up1 g 2 0 x1)) (ci := 4) (v := .int x2) (ty := .int) (C := RX4) (T := TX4) (N := 6) hx hb hts inX4 tyX4 tyX4_ok nmX4 hown hK hW 0 rfl rfl 2 (by decide) fl35 (fun _ h9 => h9) rfl (by decide +kernel) rfl rfl (Nat.le_of_ble_eq_true rfl) (wp_X4_3 a ct (up1 g 2 0 x1) x2) dX4_fail_7 (fun H locs hW => ?_)
  have ho := Option.some.inj hf
  subst ho
  exact x_retv hx hb hr hlocks hK hW rfl dX4_fail_10
set_option maxHeartbeats 4000000 in
set_option maxRecDepth 100000 in
theorem c_X4_readNumber (l : Launch) (N : Nat) (kd : (Nat → Nat) × (Nat → Nat)) (G : va_G) (ct : Nat → ClassId) (a : Nat → Nat) (g : St_) (x1 : Int32) (x2 : Int32) (o : (Int32 × St_)) (hf : f_X4_readNumber N g x1 x2 = some o) : CtI l yX4_readNumber wsX4_readNumber ({ frames := 1, cells := 0, slots := 0, locals := 22 }) kd G ct [.ref (a 0), .int x1, .int x2] (wX4 a ct g) o.1 (wX4 a ct o.2) := by
  intro sz
  refine Met.ofW (cc := cX4_readNumber) (maxL := 6) (ret := (some .int)) (by decide) rfl ?_
  intro p e s m args below meth c s₁ B hml hv
  obtain ⟨rfl, hsz, hP, hK, hD0, hE⟩ := hv
  have hx := B.exec
  have hb := B.bytes
  have hr := B.returns
  have hts := atoms_spec (ws := wsX4_readNumber) B.pre
  have hown : s.vm.findClass RX4 = some m.cls := findClass_of_methodNamed B.named
  have hlocks := B.notSynchronized
  have inX4 : ∀ w ∈ wsX40, w ∈ wsX4_readNumber := by decide +kernel
  have fl18 := hts (.fieldLink RX4 18 "FittingStrides$Text" "bytes" "[B") (by decide +kernel)
  have fl22 := hts (.fieldLink RX4 22 "FittingStrides$Text" "length" "I") (by decide +kernel)
  have fl29 := hts (.fieldLink RX4 29 "FittingStrides$Text" "at" "I") (by decide +kernel)
  subst hsz
  have hD := hD0.self (sz := s.heap.size)
  generalize hAe : va_A (wX4 a ct g) s.heap.size = A at hD hE ⊢
  have hA : ∀ q : Nat, s.heap.size ≤ q → A q := fun q h => by rw [← hAe]; exact Or.inr h
  have hW : WW G A s.heap (wX4 a ct g) s.heap [] := ⟨hP, hD, va_S.rf⟩
  have hl := lv_entry ([.ref (a 0), .int x1, .int x2]) (n := 6) (Nat.le_of_ble_eq_true rfl)
  rw [lg_entry_eq]
  generalize (lg_sl ([.ref (a 0), .int x1, .int x2]) ++ List.replicate (6 - (lg_sl ([.ref (a 0), .int x1, .int x2])).length) Slot.unset).toArray = ls at hl ⊢
  have hl : lv_has ls 6 [(0, .ref (a 0)), (1, .int x1), (2, .int x2)] := hl
  unfold f_X4_readNumber at hf
  show W p l e ({ frames := 1, cells := 0, slots := 0, locals := 22 } : Room) s m (List.toArray [.ref (a 0), .int x1, .int x2]) below meth c s.heap [] 0 0 (MQ below (va_Qi (fun r (_ : Unit) => r = o.1) (fun _ t => Af_ G ct (wX4 a ct o.2) A t) A) (List.toArray [.ref (a 0), .int x1, .int x2]) s 0 0 A) (F0 m 0 ls [])
  refine lv_aload_n hx hb dX4_readNumber_0 rfl (lv_at hl 0 rfl) ?_
  replace hf := bs_ hf; obtain ⟨r1, hcl, hf⟩ := hf
  refine x_callW_i (w' := (wX4 a ct r1.2)) (As := []) (rest := []) (ci := 4) ⟨hx, hb, hml, hown, hts⟩ (c_X4_look l N kd G ct a g _ hcl) (cwV 0 hts gX4_readNumber_X4_look rfl rfl rfl (by decide +kernel) ⟨Nat.le_of_ble_eq_true rfl, Nat.le_of_ble_eq_true rfl⟩) hK hE hA hW rfl rfl 0 rfl rfl rfl rfl hl.1 rfl (lv_room (Nat.le_of_ble_eq_true rfl)) dX4_readNumber_1 (fun H locs hW => ?_)
  replace hf := bs_ hf; obtain ⟨r2, hcl, hf⟩ := hf
  refine x_callS_i (As := [.int r1.1]) (rest := []) ⟨hx, hb, hml, hown, hts⟩ (c_X4_isFigure l N kd G ct r1.1 _ hcl) (va_cwS 1 hts gX4_readNumber_X4_isFigure rfl rfl rfl (by decide +kernel) ⟨Nat.le_of_ble_eq_true rfl, Nat.le_of_ble_eq_true rfl⟩) hK hE hA hW rfl hl.1 rfl (lv_room (Nat.le_of_ble_eq_true rfl)) dX4_readNumber_4 (fun H locs hW => ?_)
  refine lv_istore_n (lv' := [(3, .int r2), (0, .ref (a 0)), (1, .int x1), (2, .int x2)]) hx hb dX4_readNumber_7 rfl hl (by decide) rfl (fun ls hl => ?_)
  refine lv_aload_n hx hb dX4_readNumber_8 rfl (lv_at hl 1 rfl) ?_
  refine x_get (ci := 4) (v := .int (r1.2 24 0)) (C := RX4) (T := TX4) (N := 6) hx hb hts inX4 hown hK hW 0 rfl rfl 5 (by decide) fl29 (fun _ h9 => h9) rfl dX4_readNumber_9 ?_
  refine lv_istore (lv' := [(4, .int (r1.2 24 0)), (3, .int r2), (0, .ref (a 0)), (1, .int x1), (2, .int x2)]) hx hb dX4_readNumber_12 hl (by decide) rfl (fun ls hl => ?_)
  refine lv_iload_n hx hb dX4_readNumber_14 rfl (lv_at hl 1 rfl) ?_
  refine lv_if_ne (tgt := 27) hx hb dX4_readNumber_15 (by decide) (fun hc => ?_) (fun hc => ?_)
  · replace hf := ifn hc hf
    refine lv_iconst (v := (0 : Int32)) hx hb dX4_readNumber_27 (by decide) ?_
    refine lv_istore (lv' := [(5, .int (0 : Int32)), (4, .int (r1.2 24 0)), (3, .int r2), (0, .ref (a 0)), (1, .int x1), (2, .int x2)]) hx hb dX4_readNumber_28 hl (by decide) rfl (fun ls hl => ?_)
    replace hf := bs_ hf; obtain ⟨v3, hg, hf⟩ := hf
    have J3 : ∀ (H : Heap) (locs : List Loc) (ls : Array Slot), WW G A s.heap (wX4 a ct v3.2) H locs → lv_has ls 6 [(0, .ref (a 0)), (1, .int x1), (2, .int x2), (4, .int (r1.2 24 0)), (5, .int v3.1)] → W p l e ({ frames := 1, cells := 0, slots := 0, locals := 22 } : Room) s m (List.toArray [.ref (a 0), .int x1, .int x2]) below meth c H locs 0 0 (MQ below (va_Qi (fun r (_ : Unit) => r = o.1) (fun _ t => Af_ G ct (wX4 a ct o.2) A t) A) (List.toArray [.ref (a 0), .int x1, .int x2]) s 0 0 A) (F0 m 100 ls []) := by
      intro H locs ls hW hl
      refine lv_aload_n hx hb dX4_readNumber_100 rfl (lv_at hl 0 rfl) ?_
      refine x_get (ci := 4) (v := .int (v3.2 24 0)) (C := RX4) (T := TX4) (N := 6) hx hb hts inX4 hown hK hW 0 rfl rfl 5 (by decide) fl29 (fun _ h9 => h9) rfl dX4_readNumber_101 ?_
      refine lv_iload hx hb dX4_readNumber_104 (lv_at hl 3 rfl) ?_
      refine lv_isub hx hb dX4_readNumber_106 ?_
      refine lv_iconst (v := (3 : Int32)) hx hb dX4_readNumber_107 (by decide) ?_
      refine lv_icmp_gt (tgt := 123) hx hb dX4_readNumber_108 (by decide) (fun hc => ?_) (fun hc => ?_)
      · replace hf := ifp hc hf
        refine lv_aload_n hx hb dX4_readNumber_123 rfl (lv_at hl 0 rfl) ?_
        refine lv_iconst (v := (2 : Int32)) hx hb dX4_readNumber_124 (by decide) ?_
        refine lv_iload hx hb dX4_readNumber_125 (lv_at hl 3 rfl) ?_
        replace hf := bs_ hf; obtain ⟨r6, hcl, hf⟩ := hf
        refine x_callW_v (w' := (wX4 a ct r6)) (As := [.int (2 : Int32), .int (r1.2 24 0)]) (rest := []) (ci := 4) ⟨hx, hb, hml, hown, hts⟩ (c_X4_fail l N kd G ct a v3.2 (2 : Int32) (r1.2 24 0) _ hcl) (cwV 2 hts gX4_readNumber_X4_fail rfl rfl rfl (by decide +kernel) ⟨Nat.le_of_ble_eq_true rfl, Nat.le_of_ble_eq_true rfl⟩) hK hE hA hW rfl rfl 0 rfl rfl rfl rfl hl.1 rfl (lv_room (Nat.le_of_ble_eq_true rfl)) dX4_readNumber_127 (fun H locs hW => ?_)
        refine lv_iconst (v := (-1 : Int32)) hx hb dX4_readNumber_130 (by decide) ?_
        have ho := Option.some.inj hf
        subst ho
        exact x_reti (sz := 0) (w0 := []) (A1 := A) hx hb hr hlocks hK hW rfl rfl dX4_readNumber_131
      · replace hf := ifn hc hf
        refine lv_iload hx hb dX4_readNumber_111 (lv_at hl 4 rfl) ?_
        refine lv_iload_n hx hb dX4_readNumber_113 rfl (lv_at hl 1 rfl) ?_
        refine lv_icmp_lt (tgt := 123) hx hb dX4_readNumber_114 (by decide) (fun hc => ?_) (fun hc => ?_)
        · replace hf := ifp hc hf
          refine lv_aload_n hx hb dX4_readNumber_123 rfl (lv_at hl 0 rfl) ?_
          refine lv_iconst (v := (2 : Int32)) hx hb dX4_readNumber_124 (by decide) ?_
          refine lv_iload hx hb dX4_readNumber_125 (lv_at hl 3 rfl) ?_
          replace hf := bs_ hf; obtain ⟨r7, hcl, hf⟩ := hf
          refine x_callW_v (w' := (wX4 a ct r7)) (As := [.int (2 : Int32), .int (r1.2 24 0)]) (rest := []) (ci := 4) ⟨hx, hb, hml, hown, hts⟩ (c_X4_fail l N kd G ct a v3.2 (2 : Int32) (r1.2 24 0) _ hcl) (cwV 2 hts gX4_readNumber_X4_fail rfl rfl rfl (by decide +kernel) ⟨Nat.le_of_ble_eq_true rfl, Nat.le_of_ble_eq_true rfl⟩) hK hE hA hW rfl rfl 0 rfl rfl rfl rfl hl.1 rfl (lv_room (Nat.le_of_ble_eq_true rfl)) dX4_readNumber_127 (fun H locs hW => ?_)
          refine lv_iconst (v := (-1 : Int32)) hx hb dX4_readNumber_130 (by decide) ?_
          have ho := Option.some.inj hf
          subst ho
          exact x_reti (sz := 0) (w0 := []) (A1 := A) hx hb hr hlocks hK hW rfl rfl dX4_readNumber_131
        · replace hf := ifn hc hf
          refine lv_iload hx hb dX4_readNumber_117 (lv_at hl 4 rfl) ?_
          refine lv_iload_n hx hb dX4_readNumber_119 rfl (lv_at hl 2 rfl) ?_
          refine lv_icmp_le (tgt := 132) hx hb dX4_readNumber_120 (by decide) (fun hc => ?_) (fun hc => ?_)
          · replace hf := ifp hc hf
            refine lv_iload hx hb dX4_readNumber_132 (lv_at hl 4 rfl) ?_
            have ho := Option.some.inj hf
            subst ho
            exact x_reti (sz := 0) (w0 := []) (A1 := A) hx hb hr hlocks hK hW rfl rfl dX4_readNumber_134
          · replace hf := ifn hc hf
            refine lv_aload_n hx hb dX4_readNumber_123 rfl (lv_at hl 0 rfl) ?_
            refine lv_iconst (v := (2 : Int32)) hx hb dX4_readNumber_124 (by decide) ?_
            refine lv_iload hx hb dX4_readNumber_125 (lv_at hl 3 rfl) ?_
            replace hf := bs_ hf; obtain ⟨r8, hcl, hf⟩ := hf
            refine x_callW_v (w' := (wX4 a ct r8)) (As := [.int (2 : Int32), .int (r1.2 24 0)]) (rest := []) (ci := 4) ⟨hx, hb, hml, hown, hts⟩ (c_X4_fail l N kd G ct a v3.2 (2 : Int32) (r1.2 24 0) _ hcl) (cwV 2 hts gX4_readNumber_X4_fail rfl rfl rfl (by decide +kernel) ⟨Nat.le_of_ble_eq_true rfl, Nat.le_of_ble_eq_true rfl⟩) hK hE hA hW rfl rfl 0 rfl rfl rfl rfl hl.1 rfl (lv_room (Nat.le_of_ble_eq_true rfl)) dX4_readNumber_127 (fun H locs hW => ?_)
            refine lv_iconst (v := (-1 : Int32)) hx hb dX4_readNumber_130 (by decide) ?_
            have ho := Option.some.inj hf
            subst ho
            exact x_reti (sz := 0) (w0 := []) (A1 := A) hx hb hr hlocks hK hW rfl rfl dX4_readNumber_131
    clear hf
    have L3 : ∀ (n : Nat) (y3_5 : Int32) (g3 : St_), f_X4_readNumber_L30 N (r1.2 24 0) n y3_5 g3 = some v3 → ∀ (H : Heap) (locs : List Loc) (ls : Array Slot), WW G A s.heap (wX4 a ct g3) H locs → lv_has ls 6 [(0, .ref (a 0)), (1, .int x1), (2, .int x2), (4, .int (r1.2 24 0)), (5, .int y3_5)] → W p l e ({ frames := 1, cells := 0, slots := 0, locals := 22 } : Room) s m (List.toArray [.ref (a 0), .int x1, .int x2]) below meth c H locs 0 0 (MQ below (va_Qi (fun r (_ : Unit) => r = o.1) (fun _ t => Af_ G ct (wX4 a ct o.2) A t) A) (List.toArray [.ref (a 0), .int x1, .int x2]) s 0 0 A) (F0 m 30 ls []) := by
      intro n
      induction n with
      | zero =>
        intro y3_5 g3 hf
        rw [f_X4_readNumber_L30] at hf
        cases hf
      | succ n ih =>
        intro y3_5 g3 hf H locs ls hW hl
        rw [f_X4_readNumber_L30] at hf
        refine lv_aload_n hx hb dX4_readNumber_30 rfl (lv_at hl 0 rfl) ?_
        refine x_get (ci := 4) (v := .int (g3 24 0)) (C := RX4) (T := TX4) (N := 6) hx hb hts inX4 hown hK hW 0 rfl rfl 5 (by decide) fl29 (fun _ h9 => h9) rfl dX4_readNumber_31 ?_
        refine lv_aload_n hx hb dX4_readNumber_34 rfl (lv_at hl 0 rfl) ?_
        refine x_get (ci := 4) (v := .int (g3 1 0)) (C := RX4) (T := TX4) (N := 6) hx hb hts inX4 hown hK hW 0 rfl rfl 0 (by decide) fl22 (fun _ h9 => h9) rfl dX4_readNumber_35 ?_
        refine lv_icmp_ge (tgt := 100) hx hb dX4_readNumber_38 (by decide) (fun hc => ?_) (fun hc => ?_)
        · replace hf := ifp hc hf
          have hj := Option.some.inj hf
          subst hj
          exact J3 _ _ _ hW (lv_sub hl [0, 1, 2, 3, 4] rfl)
        · replace hf := ifn hc hf
          refine lv_aload_n hx hb dX4_readNumber_41 rfl (lv_at hl 0 rfl) ?_
          refine x_get (ci := 4) (v := .ref (a 23)) (C := RX4) (T := TX4) (N := 6) hx hb hts inX4 hown hK hW 0 rfl rfl 4 (by decide) fl18 (fun _ h9 => h9) rfl dX4_readNumber_42 ?_
          refine lv_aload_n hx hb dX4_readNumber_45 rfl (lv_at hl 0 rfl) ?_
          refine x_get (ci := 4) (v := .int (g3 24 0)) (C := RX4) (T := TX4) (N := 6) hx hb hts inX4 hown hK hW 0 rfl rfl 5 (by decide) fl29 (fun _ h9 => h9) rfl dX4_readNumber_46 ?_
          replace hf := gd_s hf; obtain ⟨hin, hf⟩ := hf
          refine x_bald (n := 500) (f := g3 23) hx hb hK hW 15 rfl (okI_in hin) dX4_readNumber_49 ?_
          replace hf := bs_ hf; obtain ⟨r4, hcl, hf⟩ := hf
          refine x_callS_i (As := [.int (g3 23 (g3 24 0).toNatClampNeg)]) (rest := []) ⟨hx, hb, hml, hown, hts⟩ (c_X4_isFigure l N kd G ct (g3 23 (g3 24 0).toNatClampNeg) _ hcl) (va_cwS 1 hts gX4_readNumber_X4_isFigure rfl rfl rfl (by decide +kernel) ⟨Nat.le_of_ble_eq_true rfl, Nat.le_of_ble_eq_true rfl⟩) hK hE hA hW rfl hl.1 rfl (lv_room (Nat.le_of_ble_eq_true rfl)) dX4_readNumber_50 (fun H locs hW => ?_)
          refine lv_if_eq (tgt := 100) hx hb dX4_readNumber_53 (by decide) (fun hc => ?_) (fun hc => ?_)
          · replace hf := ifp hc hf
            have hj := Option.some.inj hf
            subst hj
            exact J3 _ _ _ hW (lv_sub hl [0, 1, 2, 3, 4] rfl)
          · replace hf := ifn hc hf
            refine lv_aload_n hx hb dX4_readNumber_56 rfl (lv_at hl 0 rfl) ?_
            refine x_get (ci := 4) (v := .int (g3 24 0)) (C := RX4) (T := TX4) (N := 6) hx hb hts inX4 hown hK hW 0 rfl rfl 5 (by decide) fl29 (fun _ h9 => h9) rfl dX4_readNumber_57 ?_
            refine lv_iload hx hb dX4_readNumber_60 (lv_at hl 3 rfl) ?_
            refine lv_isub hx hb dX4_readNumber_62 ?_
            refine lv_iconst (v := (3 : Int32)) hx hb dX4_readNumber_63 (by decide) ?_
            replace hf := bs_ hf; obtain ⟨j5, hg, hf⟩ := hf
            have J5 : ∀ (H : Heap) (locs : List Loc) (ls : Array Slot), WW G A s.heap (wX4 a ct g3) H locs → lv_has ls 6 [(0, .ref (a 0)), (1, .int x1), (2, .int x2), (4, .int (r1.2 24 0)), (5, .int j5)] → W p l e ({ frames := 1, cells := 0, slots := 0, locals := 22 } : Room) s m (List.toArray [.ref (a 0), .int x1, .int x2]) below meth c H locs 0 0 (MQ below (va_Qi (fun r (_ : Unit) => r = o.1) (fun _ t => Af_ G ct (wX4 a ct o.2) A t) A) (List.toArray [.ref (a 0), .int x1, .int x2]) s 0 0 A) (F0 m 87 ls ([])) := by
              intro H locs ls hW hl
              refine lv_aload_n hx hb dX4_readNumber_87 rfl (lv_at hl 0 rfl) ?_
              refine lv_dup hx hb dX4_readNumber_88 rfl ?_
              refine x_get (ci := 4) (v := .int (g3 24 0)) (C := RX4) (T := TX4) (N := 6) hx hb hts inX4 hown hK hW 0 rfl rfl 5 (by decide) fl29 (fun _ h9 => h9) rfl dX4_readNumber_89 ?_
              refine lv_iconst (v := (1 : Int32)) hx hb dX4_readNumber_92 (by decide) ?_
              refine lv_iadd hx hb dX4_readNumber_93 ?_
              refine x_put (w' := (wX4 a ct (up1 g3 24 0 ((g3 24 0) + (1 : Int32))))) (fs := fsX4 a g3) (ci := 4) (v := .int ((g3 24 0) + (1 : Int32))) (ty := .int) (C := RX4) (T := TX4) (N := 6) hx hb hts inX4 tyX4 tyX4_ok nmX4 hown hK hW 0 rfl rfl 5 (by decide) fl29 (fun _ h9 => h9) rfl (by decide +kernel) rfl rfl (Nat.le_of_ble_eq_true rfl) (wp_X4_24 a ct g3 ((g3 24 0) + (1 : Int32))) dX4_readNumber_94 (fun H locs hW => ?_)
              refine lv_goto (tgt := 30) hx hb dX4_readNumber_97 (by decide) ?_
              exact ih j5 (up1 g3 24 0 ((g3 24 0) + (1 : Int32))) hf _ _ _ hW (lv_sub hl [0, 1, 2, 3, 4] rfl)
            clear hf
            refine lv_icmp_ge (tgt := 87) hx hb dX4_readNumber_64 (by decide) (fun hc => ?_) (fun hc => ?_)
            · have hf := ifp hc hg
              clear hg
              have hj := Option.some.inj hf
              subst hj
              exact J5 _ _ _ hW (lv_sub hl [0, 1, 2, 3, 4] rfl)
            · have hf := ifn hc hg
              clear hg
              refine lv_bipush (v := (10 : Int32)) hx hb dX4_readNumber_67 (by decide) ?_
              refine lv_iload hx hb dX4_readNumber_69 (lv_at hl 4 rfl) ?_
              refine lv_imul hx hb dX4_readNumber_71 ?_
              refine lv_aload_n hx hb dX4_readNumber_72 rfl (lv_at hl 0 rfl) ?_
              refine x_get (ci := 4) (v := .ref (a 23)) (C := RX4) (T := TX4) (N := 6) hx hb hts inX4 hown hK hW 0 rfl rfl 4 (by decide) fl18 (fun _ h9 => h9) rfl dX4_readNumber_73 ?_
              refine lv_aload_n hx hb dX4_readNumber_76 rfl (lv_at hl 0 rfl) ?_
              refine x_get (ci := 4) (v := .int (g3 24 0)) (C := RX4) (T := TX4) (N := 6) hx hb hts inX4 hown hK hW 0 rfl rfl 5 (by decide) fl29 (fun _ h9 => h9) rfl dX4_readNumber_77 ?_
              replace hf := gd_s hf; obtain ⟨hin, hf⟩ := hf
              refine x_bald (n := 500) (f := g3 23) hx hb hK hW 15 rfl (okI_in hin) dX4_readNumber_80 ?_
              refine lv_iadd hx hb dX4_readNumber_81 ?_
              refine lv_bipush (v := (48 : Int32)) hx hb dX4_readNumber_82 (by decide) ?_
              refine lv_isub hx hb dX4_readNumber_84 ?_
              refine lv_istore (lv' := [(5, .int ((((10 : Int32) * y3_5) + (g3 23 (g3 24 0).toNatClampNeg)) - (48 : Int32))), (0, .ref (a 0)), (1, .int x1), (2, .int x2), (4, .int (r1.2 24 0))]) hx hb dX4_readNumber_85 hl (by decide) rfl (fun ls hl => ?_)
              have hj := Option.some.inj hf
              subst hj
              exact J5 _ _ _ hW (lv_sub hl [1, 2, 3, 4, 0] rfl)
    exact L3 N (0 : Int32) r1.2 hg _ _ _ hW (lv_sub hl [3, 4, 5, 1, 0] rfl)
  · replace hf := ifp hc hf
    refine lv_aload_n hx hb dX4_readNumber_18 rfl (lv_at hl 2 rfl) ?_
    refine lv_iconst (v := (1 : Int32)) hx hb dX4_readNumber_19 (by decide) ?_
    refine lv_iload hx hb dX4_readNumber_20 (lv_at hl 0 rfl) ?_
    replace hf := bs_ hf; obtain ⟨r9, hcl, hf⟩ := hf
    refine x_callW_v (w' := (wX4 a ct r9)) (As := [.int (1 : Int32), .int (r1.2 24 0)]) (rest := []) (ci := 4) ⟨hx, hb, hml, hown, hts⟩ (c_X4_fail l N kd G ct a r1.2 (1 : Int32) (r1.2 24 0) _ hcl) (cwV 2 hts gX4_readNumber_X4_fail rfl rfl rfl (by decide +kernel) ⟨Nat.le_of_ble_eq_true rfl, Nat.le_of_ble_eq_true rfl⟩) hK hE hA hW rfl rfl 0 rfl rfl rfl rfl hl.1 rfl (lv_room (Nat.le_of_ble_eq_true rfl)) dX4_readNumber_22 (fun H locs hW => ?_)
    refine lv_iconst (v := (-1 : Int32)) hx hb dX4_readNumber_25 (by decide) ?_
    have ho := Option.some.inj hf
    subst ho
    exact x_reti (sz := 0) (w0 := []) (A1 := A) hx hb hr hlocks hK hW rfl rfl dX4_readNumber_26
set_option maxHeartbeats 4000000 in
set_option maxRecDepth 100000 in
theorem c_X4_readSign (l : Launch) (N : Nat) (kd : (Nat → Nat) × (Nat → Nat)) (G : va_G) (ct : Nat → ClassId) (a : Nat → Nat) (g : St_) (x1 : Int32) (o : (Int32 × St_)) (hf : f_X4_readSign N g x1 = some o) : CtI l yX4_readSign wsX4_readSign ({ frames := 1, cells := 0, slots := 0, locals := 22 }) kd G ct [.ref (a 0), .int x1] (wX4 a ct g) o.1 (wX4 a ct o.2) := by
  intro sz
  refine Met.ofW (cc := cX4_readSign) (maxL := 2) (ret := (some .boolean)) (by decide) rfl ?_
  intro p e s m args below meth c s₁ B hml hv
  obtain ⟨rfl, hsz, hP, hK, hD0, hE⟩ := hv
  have hx := B.exec
  have hb := B.bytes
  have hr := B.returns
  have hts := atoms_spec (ws := wsX4_readSign) B.pre
  have hown : s.vm.findClass RX4 = some m.cls := findClass_of_methodNamed B.named
  have hlocks := B.notSynchronized
  have inX4 : ∀ w ∈ wsX40, w ∈ wsX4_readSign := by decide +kernel
  have fl29 := hts (.fieldLink RX4 29 "FittingStrides$Text" "at" "I") (by decide +kernel)
  subst hsz
  have hD := hD0.self (sz := s.heap.size)
  generalize hAe : va_A (wX4 a ct g) s.heap.size = A at hD hE ⊢
  have hA : ∀ q : Nat, s.heap.size ≤ q → A q := fun q h => by rw [← hAe]; exact Or.inr h
  have hW : WW G A s.heap (wX4 a ct g) s.heap [] := ⟨hP, hD, va_S.rf⟩
  have hl := lv_entry ([.ref (a 0), .int x1]) (n := 2) (Nat.le_of_ble_eq_true rfl)
  rw [lg_entry_eq]
  generalize (lg_sl ([.ref (a 0), .int x1]) ++ List.replicate (2 - (lg_sl ([.ref (a 0), .int x1])).length) Slot.unset).toArray = ls at hl ⊢
  have hl : lv_has ls 2 [(0, .ref (a 0)), (1, .int x1)] := hl
  unfold f_X4_readSign at hf
  show W p l e ({ frames := 1, cells := 0, slots := 0, locals := 22 } : Room) s m (List.toArray [.ref (a 0), .int x1]) below meth c s.heap [] 0 0 (MQ below (va_Qi (fun r (_ : Unit) => r = o.1) (fun _ t => Af_ G ct (wX4 a ct o.2) A t) A) (List.toArray [.ref (a 0), .int x1]) s 0 0 A) (F0 m 0 ls [])
  refine lv_aload_n hx hb dX4_readSign_0 rfl (lv_at hl 0 rfl) ?_
  replace hf := bs_ hf; obtain ⟨r1, hcl, hf⟩ := hf
  refine x_callW_i (w' := (wX4 a ct r1.2)) (As := []) (rest := []) (ci := 4) ⟨hx, hb, hml, hown, hts⟩ (c_X4_look l N kd G ct a g _ hcl) (cwV 0 hts gX4_readSign_X4_look rfl rfl rfl (by decide +kernel) ⟨Nat.le_of_ble_eq_true rfl, Nat.le_of_ble_eq_true rfl⟩) hK hE hA hW rfl rfl 0 rfl rfl rfl rfl hl.1 rfl (lv_room (Nat.le_of_ble_eq_true rfl)) dX4_readSign_1 (fun H locs hW => ?_)
  refine lv_iload_n hx hb dX4_readSign_4 rfl (lv_at hl 1 rfl) ?_
  refine lv_icmp_eq (tgt := 19) hx hb dX4_readSign_5 (by decide) (fun hc => ?_) (fun hc => ?_)
  · replace hf := ifp hc hf
    refine lv_aload_n hx hb dX4_readSign_19 rfl (lv_at hl 0 rfl) ?_
    refine lv_dup hx hb dX4_readSign_20 rfl ?_
    refine x_get (ci := 4) (v := .int (r1.2 24 0)) (C := RX4) (T := TX4) (N := 6) hx hb hts inX4 hown hK hW 0 rfl rfl 5 (by decide) fl29 (fun _ h9 => h9) rfl dX4_readSign_21 ?_
    refine lv_iconst (v := (1 : Int32)) hx hb dX4_readSign_24 (by decide) ?_
    refine lv_iadd hx hb dX4_readSign_25 ?_
    refine x_put (w' := (wX4 a ct (up1 r1.2 24 0 ((r1.2 24 0) + (1 : Int32))))) (fs := fsX4 a r1.2) (ci := 4) (v := .int ((r1.2 24 0) + (1 : Int32))) (ty := .int) (C := RX4) (T := TX4) (N := 6) hx hb hts inX4 tyX4 tyX4_ok nmX4 hown hK hW 0 rfl rfl 5 (by decide) fl29 (fun _ h9 => h9) rfl (by decide +kernel) rfl rfl (Nat.le_of_ble_eq_true rfl) (wp_X4_24 a ct r1.2 ((r1.2 24 0) + (1 : Int32))) dX4_readSign_26 (fun H locs hW => ?_)
    refine lv_iconst (v := (1 : Int32)) hx hb dX4_readSign_29 (by decide) ?_
    have ho := Option.some.inj hf
    subst ho
    exact x_retz hx hb hr rfl hlocks hK hW rfl rfl dX4_readSign_30
  · replace hf := ifn hc hf
    refine lv_aload_n hx hb dX4_readSign_8 rfl (lv_at hl 0 rfl) ?_
    refine lv_iconst (v := (1 : Int32)) hx hb dX4_readSign_9 (by decide) ?_
    refine lv_aload_n hx hb dX4_readSign_10 rfl (lv_at hl 0 rfl) ?_
    refine x_get (ci := 4) (v := .int (r1.2 24 0)) (C := RX4) (T := TX4) (N := 6) hx hb hts inX4 hown hK hW 0 rfl rfl 5 (by decide) fl29 (fun _ h9 => h9) rfl dX4_readSign_11 ?_
    replace hf := bs_ hf; obtain ⟨r2, hcl, hf⟩ := hf
    refine x_callW_v (w' := (wX4 a ct r2)) (As := [.int (1 : Int32), .int (r1.2 24 0)]) (rest := []) (ci := 4) ⟨hx, hb, hml, hown, hts⟩ (c_X4_fail l N kd G ct a r1.2 (1 : Int32) (r1.2 24 0) _ hcl) (cwV 2 hts gX4_readSign_X4_fail rfl rfl rfl (by decide +kernel) ⟨Nat.le_of_ble_eq_true rfl, Nat.le_of_ble_eq_true rfl⟩) hK hE hA hW rfl rfl 0 rfl rfl rfl rfl hl.1 rfl (lv_room (Nat.le_of_ble_eq_true rfl)) dX4_readSign_14 (fun H locs hW => ?_)
    refine lv_iconst (v := (0 : Int32)) hx hb dX4_readSign_17 (by decide) ?_
    have ho := Option.some.inj hf
    subst ho
    exact x_retz hx hb hr rfl hlocks hK hW rfl rfl dX4_readSign_18
set_option maxHeartbeats 4000000 in
set_option maxRecDepth 100000 in
theorem c_X4_readPlaces (l : Launch) (N : Nat) (kd : (Nat → Nat) × (Nat → Nat)) (G : va_G) (ct : Nat → ClassId) (a : Nat → Nat) (g : St_) (o : St_) (hf : f_X4_readPlaces N g = some o) : CtV l yX4_readPlaces wsX4_readPlaces ({ frames := 2, cells := 0, slots := 0, locals := 47 }) kd G ct [.ref (a 0)] (wX4 a ct g) (wX4 a ct o) := by
  intro sz
  refine Met.ofW (cc := cX4_readPlaces) (maxL := 2) (ret := none) (by decide) rfl ?_
  intro p e s m args below meth c s₁ B hml hv
  obtain ⟨rfl, hsz, hP, hK, hD0, hE⟩ := hv
  have hx := B.exec
  have hb := B.bytes
  have hr := B.returns
  have hts := atoms_spec (ws := wsX4_readPlaces) B.pre
  have hown : s.vm.findClass RX4 = some m.cls := findClass_of_methodNamed B.named
  have hlocks := B.notSynchronized
  have inX1 : ∀ w ∈ wsX10, w ∈ wsX4_readPlaces := by decide +kernel
  have inX4 : ∀ w ∈ wsX40, w ∈ wsX4_readPlaces := by decide +kernel
  have inX5 : ∀ w ∈ wsX50, w ∈ wsX4_readPlaces := by decide +kernel
  have fl12 := hts (.fieldLink RX4 12 "FittingStrides$Text" "draft" "LFittingStrides$Town;") (by decide +kernel)
  have fl54 := hts (.fieldLink RX4 54 "FittingStrides$Town" "plan" "LFittingStrides$Plan;") (by decide +kernel)
  have fl58 := hts (.fieldLink RX4 58 "FittingStrides$Plan" "places" "I") (by decide +kernel)
  subst hsz
  have hD := hD0.self (sz := s.heap.size)
  generalize hAe : va_A (wX4 a ct g) s.heap.size = A at hD hE ⊢
  have hA : ∀ q : Nat, s.heap.size ≤ q → A q := fun q h => by rw [← hAe]; exact Or.inr h
  have hW : WW G A s.heap (wX4 a ct g) s.heap [] := ⟨hP, hD, va_S.rf⟩
  have hl := lv_entry ([.ref (a 0)]) (n := 2) (Nat.le_of_ble_eq_true rfl)
  rw [lg_entry_eq]
  generalize (lg_sl ([.ref (a 0)]) ++ List.replicate (2 - (lg_sl ([.ref (a 0)])).length) Slot.unset).toArray = ls at hl ⊢
  have hl : lv_has ls 2 [(0, .ref (a 0))] := hl
  unfold f_X4_readPlaces at hf
  show W p l e ({ frames := 2, cells := 0, slots := 0, locals := 47 } : Room) s m (List.toArray [.ref (a 0)]) below meth c s.heap [] 0 0 (MQ below (va_Qv (fun (_ : Unit) => True) (fun _ t => Af_ G ct (wX4 a ct o) A t) A) (List.toArray [.ref (a 0)]) s 0 0 A) (F0 m 0 ls [])
  refine lv_aload_n hx hb dX4_readPlaces_0 rfl (lv_at hl 0 rfl) ?_
  refine lv_iconst (v := (1 : Int32)) hx hb dX4_readPlaces_1 (by decide) ?_
  refine lv_bipush (v := (8 : Int32)) hx hb dX4_readPlaces_2 (by decide) ?_
  replace hf := bs_ hf; obtain ⟨r1, hcl, hf⟩ := hf
  refine x_callW_i (w' := (wX4 a ct r1.2)) (As := [.int (1 : Int32), .int (8 : Int32)]) (rest := []) (ci := 4) ⟨hx, hb, hml, hown, hts⟩ (c_X4_readNumber l N kd G ct a g (1 : Int32) (8 : Int32) _ hcl) (cwV 2 hts gX4_readPlaces_X4_readNumber rfl rfl rfl (by decide +kernel) ⟨Nat.le_of_ble_eq_true rfl, Nat.le_of_ble_eq_true rfl⟩) hK hE hA hW rfl rfl 0 rfl rfl rfl rfl hl.1 rfl (lv_room (Nat.le_of_ble_eq_true rfl)) dX4_readPlaces_4 (fun H locs hW => ?_)
  refine lv_istore_n (lv' := [(1, .int r1.1), (0, .ref (a 0))]) hx hb dX4_readPlaces_7 rfl hl (by decide) rfl (fun ls hl => ?_)
  refine lv_iload_n hx hb dX4_readPlaces_8 rfl (lv_at hl 0 rfl) ?_
  refine lv_iconst (v := (-1 : Int32)) hx hb dX4_readPlaces_9 (by decide) ?_
  refine lv_icmp_eq (tgt := 33) hx hb dX4_readPlaces_10 (by decide) (fun hc => ?_) (fun hc => ?_)
  · replace hf := ifp hc hf
    have ho := Option.some.inj hf
    subst ho
    exact x_retv hx hb hr hlocks hK hW rfl dX4_readPlaces_33
  · replace hf := ifn hc hf
    refine lv_aload_n hx hb dX4_readPlaces_13 rfl (lv_at hl 1 rfl) ?_
    refine lv_bipush (v := (59 : Int32)) hx hb dX4_readPlaces_14 (by decide) ?_
    replace hf := bs_ hf; obtain ⟨r2, hcl, hf⟩ := hf
    refine x_callW_i (w' := (wX4 a ct r2.2)) (As := [.int (59 : Int32)]) (rest := []) (ci := 4) ⟨hx, hb, hml, hown, hts⟩ (c_X4_readSign l N kd G ct a r1.2 (59 : Int32) _ hcl) (cwV 1 hts gX4_readPlaces_X4_readSign rfl rfl rfl (by decide +kernel) ⟨Nat.le_of_ble_eq_true rfl, Nat.le_of_ble_eq_true rfl⟩) hK hE hA hW rfl rfl 0 rfl rfl rfl rfl hl.1 rfl (lv_room (Nat.le_of_ble_eq_true rfl)) dX4_readPlaces_16 (fun H locs hW => ?_)
    refine lv_if_eq (tgt := 33) hx hb dX4_readPlaces_19 (by decide) (fun hc => ?_) (fun hc => ?_)
    · replace hf := ifp hc hf
      have ho := Option.some.inj hf
      subst ho
      exact x_retv hx hb hr hlocks hK hW rfl dX4_readPlaces_33
    · replace hf := ifn hc hf
      refine lv_aload_n hx hb dX4_readPlaces_22 rfl (lv_at hl 1 rfl) ?_
      refine x_get (ci := 4) (v := .ref (a 4)) (C := RX4) (T := TX4) (N := 6) hx hb hts inX4 hown hK hW 0 rfl rfl 3 (by decide) fl12 (fun _ h9 => h9) rfl dX4_readPlaces_23 ?_
      refine x_get (ci := 5) (v := .ref (a 5)) (C := RX5) (T := TX5) (N := 4) hx hb hts inX5 hown hK hW 1 rfl rfl 0 (by decide) fl54 (fun _ h9 => h9) rfl dX4_readPlaces_26 ?_
      refine lv_iload_n hx hb dX4_readPlaces_29 rfl (lv_at hl 0 rfl) ?_
      refine x_put (w' := (wX4 a ct (up1 r2.2 6 0 r1.1))) (fs := fsX1 (sh_ 5 a) (sh_ 5 r2.2)) (ci := 1) (v := .int r1.1) (ty := .int) (C := RX1) (T := TX1) (N := 6) hx hb hts inX1 tyX1 tyX1_ok nmX1 hown hK hW 2 rfl rfl 0 (by decide) fl58 (fun _ h9 => h9) rfl (by decide +kernel) rfl rfl (Nat.le_of_ble_eq_true rfl) (wp_X4_6 a ct r2.2 r1.1) dX4_readPlaces_30 (fun H locs hW => ?_)
      have ho := Option.some.inj hf
      subst ho
      exact x_retv hx hb hr hlocks hK hW rfl dX4_readPlaces_33
set_option maxHeartbeats 4000000 in
set_option maxRecDepth 100000 in
theorem c_X4_readKind (l : Launch) (N : Nat) (kd : (Nat → Nat) × (Nat → Nat)) (G : va_G) (ct : Nat → ClassId) (a : Nat → Nat) (g : St_) (o : (Int32 × St_)) (hf : f_X4_readKind N g = some o) : CtI l yX4_readKind wsX4_readKind ({ frames := 5, cells := 0, slots := 0, locals := 143 }) kd G ct [.ref (a 0)] (wX4 a ct g) o.1 (wX4 a ct o.2) := by
  intro sz
  refine Met.ofW (cc := cX4_readKind) (maxL := 2) (ret := (some .int)) (by decide) rfl ?_
  intro p e s m args below meth c s₁ B hml hv
  obtain ⟨rfl, hsz, hP, hK, hD0, hE⟩ := hv
  have hx := B.exec
  have hb := B.bytes
  have hr := B.returns
  have hts := atoms_spec (ws := wsX4_readKind) B.pre
  have hown : s.vm.findClass RX4 = some m.cls := findClass_of_methodNamed B.named
  have hlocks := B.notSynchronized
  have inX4 : ∀ w ∈ wsX40, w ∈ wsX4_readKind := by decide +kernel
  have fl29 := hts (.fieldLink RX4 29 "FittingStrides$Text" "at" "I") (by decide +kernel)
  subst hsz
  have hD := hD0.self (sz := s.heap.size)
  generalize hAe : va_A (wX4 a ct g) s.heap.size = A at hD hE ⊢
  have hA : ∀ q : Nat, s.heap.size ≤ q → A q := fun q h => by rw [← hAe]; exact Or.inr h
  have hW : WW G A s.heap (wX4 a ct g) s.heap [] := ⟨hP, hD, va_S.rf⟩
  have hl := lv_entry ([.ref (a 0)]) (n := 2) (Nat.le_of_ble_eq_true rfl)
  rw [lg_entry_eq]
  generalize (lg_sl ([.ref (a 0)]) ++ List.replicate (2 - (lg_sl ([.ref (a 0)])).length) Slot.unset).toArray = ls at hl ⊢
  have hl : lv_has ls 2 [(0, .ref (a 0))] := hl
  unfold f_X4_readKind at hf
  show W p l e ({ frames := 5, cells := 0, slots := 0, locals := 143 } : Room) s m (List.toArray [.ref (a 0)]) below meth c s.heap [] 0 0 (MQ below (va_Qi (fun r (_ : Unit) => r = o.1) (fun _ t => Af_ G ct (wX4 a ct o.2) A t) A) (List.toArray [.ref (a 0)]) s 0 0 A) (F0 m 0 ls [])
  refine lv_aload_n hx hb dX4_readKind_0 rfl (lv_at hl 0 rfl) ?_
  replace hf := bs_ hf; obtain ⟨r1, hcl, hf⟩ := hf
  refine x_callW_i (w' := (wX4 a ct r1.2)) (As := []) (rest := []) (ci := 4) ⟨hx, hb, hml, hown, hts⟩ (c_X4_look l N kd G ct a g _ hcl) (cwV 0 hts gX4_readKind_X4_look rfl rfl rfl (by decide +kernel) ⟨Nat.le_of_ble_eq_true rfl, Nat.le_of_ble_eq_true rfl⟩) hK hE hA hW rfl rfl 0 rfl rfl rfl rfl hl.1 rfl (lv_room (Nat.le_of_ble_eq_true rfl)) dX4_readKind_1 (fun H locs hW => ?_)
  refine lv_pop hx hb dX4_readKind_4 rfl ?_
  refine lv_aload_n hx hb dX4_readKind_5 rfl (lv_at hl 0 rfl) ?_
  refine x_get (ci := 4) (v := .int (r1.2 24 0)) (C := RX4) (T := TX4) (N := 6) hx hb hts inX4 hown hK hW 0 rfl rfl 5 (by decide) fl29 (fun _ h9 => h9) rfl dX4_readKind_6 ?_
  refine lv_istore_n (lv' := [(1, .int (r1.2 24 0)), (0, .ref (a 0))]) hx hb dX4_readKind_9 rfl hl (by decide) rfl (fun ls hl => ?_)
  refine lv_aload_n hx hb dX4_readKind_10 rfl (lv_at hl 1 rfl) ?_
  replace hf := bs_ hf; obtain ⟨r2, hcl, hf⟩ := hf
  refine x_callW_v (w' := (wX4 a ct r2)) (As := []) (rest := []) (ci := 4) ⟨hx, hb, hml, hown, hts⟩ (c_X4_skipWord l N kd G ct a r1.2 _ hcl) (cwV 0 hts gX4_readKind_X4_skipWord rfl rfl rfl (by decide +kernel) ⟨Nat.le_of_ble_eq_true rfl, Nat.le_of_ble_eq_true rfl⟩) hK hE hA hW rfl rfl 0 rfl rfl rfl rfl hl.1 rfl (lv_room (Nat.le_of_ble_eq_true rfl)) dX4_readKind_11 (fun H locs hW => ?_)
  refine lv_aload_n hx hb dX4_readKind_14 rfl (lv_at hl 1 rfl) ?_
  refine lv_iload_n hx hb dX4_readKind_15 rfl (lv_at hl 0 rfl) ?_
  refine va_ldcS (tx := "plain") hx hb hown (hE.2.1 (134, "plain", 3) (by decide +kernel)) dX4_readKind_16 ?_
  replace hf := bs_ hf; obtain ⟨r3, hcl, hf⟩ := hf
  refine x_callW_i (w' := (wX4 a ct r2)) (As := [.int (r1.2 24 0), .ref (kd.1 3)]) (rest := []) (ci := 4) ⟨hx, hb, hml, hown, hts⟩ (c_X4_isWord l N kd G ct a r2 (r1.2 24 0) 3 _ hcl (by decide)) (cwV 2 hts gX4_readKind_X4_isWord rfl rfl rfl (by decide +kernel) ⟨Nat.le_of_ble_eq_true rfl, Nat.le_of_ble_eq_true rfl⟩) hK hE hA hW rfl rfl 0 rfl rfl rfl rfl hl.1 rfl (lv_room (Nat.le_of_ble_eq_true rfl)) dX4_readKind_18 (fun H locs hW => ?_)
  refine lv_if_eq (tgt := 26) hx hb dX4_readKind_21 (by decide) (fun hc => ?_) (fun hc => ?_)
  · replace hf := ifp hc hf
    refine lv_aload_n hx hb dX4_readKind_26 rfl (lv_at hl 1 rfl) ?_
    refine lv_iload_n hx hb dX4_readKind_27 rfl (lv_at hl 0 rfl) ?_
    refine va_ldcS (tx := "open") hx hb hown (hE.2.1 (136, "open", 4) (by decide +kernel)) dX4_readKind_28 ?_
    replace hf := bs_ hf; obtain ⟨r4, hcl, hf⟩ := hf
    refine x_callW_i (w' := (wX4 a ct r2)) (As := [.int (r1.2 24 0), .ref (kd.1 4)]) (rest := []) (ci := 4) ⟨hx, hb, hml, hown, hts⟩ (c_X4_isWord l N kd G ct a r2 (r1.2 24 0) 4 _ hcl (by decide)) (cwV 2 hts gX4_readKind_X4_isWord rfl rfl rfl (by decide +kernel) ⟨Nat.le_of_ble_eq_true rfl, Nat.le_of_ble_eq_true rfl⟩) hK hE hA hW rfl rfl 0 rfl rfl rfl rfl hl.1 rfl (lv_room (Nat.le_of_ble_eq_true rfl)) dX4_readKind_30 (fun H locs hW => ?_)
    refine lv_if_eq (tgt := 38) hx hb dX4_readKind_33 (by decide) (fun hc => ?_) (fun hc => ?_)
    · replace hf := ifp hc hf
      refine lv_aload_n hx hb dX4_readKind_38 rfl (lv_at hl 1 rfl) ?_
      refine lv_iload_n hx hb dX4_readKind_39 rfl (lv_at hl 0 rfl) ?_
      refine va_ldcS (tx := "leap") hx hb hown (hE.2.1 (138, "leap", 5) (by decide +kernel)) dX4_readKind_40 ?_
      replace hf := bs_ hf; obtain ⟨r5, hcl, hf⟩ := hf
      refine x_callW_i (w' := (wX4 a ct r2)) (As := [.int (r1.2 24 0), .ref (kd.1 5)]) (rest := []) (ci := 4) ⟨hx, hb, hml, hown, hts⟩ (c_X4_isWord l N kd G ct a r2 (r1.2 24 0) 5 _ hcl (by decide)) (cwV 2 hts gX4_readKind_X4_isWord rfl rfl rfl (by decide +kernel) ⟨Nat.le_of_ble_eq_true rfl, Nat.le_of_ble_eq_true rfl⟩) hK hE hA hW rfl rfl 0 rfl rfl rfl rfl hl.1 rfl (lv_room (Nat.le_of_ble_eq_true rfl)) dX4_readKind_42 (fun H locs hW => ?_)
      refine lv_if_eq (tgt := 50) hx hb dX4_readKind_45 (by decide) (fun hc => ?_) (fun hc => ?_)
      · replace hf := ifp hc hf
        refine lv_aload_n hx hb dX4_readKind_50 rfl (lv_at hl 1 rfl) ?_
        refine lv_iconst (v := (1 : Int32)) hx hb dX4_readKind_51 (by decide) ?_
        refine lv_iload_n hx hb dX4_readKind_52 rfl (lv_at hl 0 rfl) ?_
        replace hf := bs_ hf; obtain ⟨r6, hcl, hf⟩ := hf
        refine x_callW_v (w' := (wX4 a ct r6)) (As := [.int (1 : Int32), .int (r1.2 24 0)]) (rest := []) (ci := 4) ⟨hx, hb, hml, hown, hts⟩ (c_X4_fail l N kd G ct a r2 (1 : Int32) (r1.2 24 0) _ hcl) (cwV 2 hts gX4_readKind_X4_fail rfl rfl rfl (by decide +kernel) ⟨Nat.le_of_ble_eq_true rfl, Nat.le_of_ble_eq_true rfl⟩) hK hE hA hW rfl rfl 0 rfl rfl rfl rfl hl.1 rfl (lv_room (Nat.le_of_ble_eq_true rfl)) dX4_readKind_53 (fun H locs hW => ?_)
        refine lv_iconst (v := (-1 : Int32)) hx hb dX4_readKind_56 (by decide) ?_
        have ho := Option.some.inj hf
        subst ho
        exact x_reti (sz := 0) (w0 := []) (A1 := A) hx hb hr hlocks hK hW rfl rfl dX4_readKind_57
      · replace hf := ifn hc hf
        refine lv_iconst (v := (2 : Int32)) hx hb dX4_readKind_48 (by decide) ?_
        have ho := Option.some.inj hf
        subst ho
        exact x_reti (sz := 0) (w0 := []) (A1 := A) hx hb hr hlocks hK hW rfl rfl dX4_readKind_49
    · replace hf := ifn hc hf
      refine lv_iconst (v := (1 : Int32)) hx hb dX4_readKind_36 (by decide) ?_
      have ho := Option.some.inj hf
      subst ho
      exact x_reti (sz := 0) (w0 := []) (A1 := A) hx hb hr hlocks hK hW rfl rfl dX4_readKind_37
  · replace hf := ifn hc hf
    refine lv_iconst (v := (0 : Int32)) hx hb dX4_readKind_24 (by decide) ?_
    have ho := Option.some.inj hf
    subst ho
    exact x_reti (sz := 0) (w0 := []) (A1 := A) hx hb hr hlocks hK hW rfl rfl dX4_readKind_25
