set_option maxHeartbeats 4000000 in
set_option maxRecDepth 100000 in
theorem c_X7_goBack (l : Launch) (N : Nat) (kd : (Nat → Nat) × (Nat → Nat)) (G : va_G) (ct : Nat → ClassId) (a : Nat → Nat) (g : St_) (sg : Int64) (x1 : Int32) (o : (Int32 × St_)) (hf : f_X7_goBack N g x1 = some o) : CtI l yX7_goBack wsX7_goBack ({ frames := 1, cells := 0, slots := 0, locals := 25 }) kd G ct [.ref (a 0), .int x1] (wX7 a ct g sg) o.1 (wX7 a ct o.2 sg) := by
  intro sz
  refine Met.ofW (cc := cX7_goBack) (maxL := 4) (ret := (some .int)) (by decide) rfl ?_
  intro p e s m args below meth c s₁ B hml hv
  obtain ⟨rfl, hsz, hP, hK, hD0, hE⟩ := hv
  have hx := B.exec
  have hb := B.bytes
  have hr := B.returns
  have hts := atoms_spec (ws := wsX7_goBack) B.pre
  have hown : s.vm.findClass RX7 = some m.cls := findClass_of_methodNamed B.named
  have hlocks := B.notSynchronized
  have inX7 : ∀ w ∈ wsX70, w ∈ wsX7_goBack := by decide +kernel
  have fl22 := hts (.fieldLink RX7 22 "FittingStridesModel" "steps" "[I") (by decide +kernel)
  have fl25 := hts (.fieldLink RX7 25 "FittingStridesModel" "worn" "[I") (by decide +kernel)
  have fl28 := hts (.fieldLink RX7 28 "FittingStridesModel" "at" "[I") (by decide +kernel)
  have fl31 := hts (.fieldLink RX7 31 "FittingStridesModel" "first" "[I") (by decide +kernel)
  have fl34 := hts (.fieldLink RX7 34 "FittingStridesModel" "second" "[I") (by decide +kernel)
  have fl90 := hts (.fieldLink RX7 90 "FittingStridesModel" "images" "[I") (by decide +kernel)
  have fl93 := hts (.fieldLink RX7 93 "FittingStridesModel" "isKept" "[Z") (by decide +kernel)
  have fl106 := hts (.fieldLink RX7 106 "FittingStridesModel" "persons" "I") (by decide +kernel)
  have fl204 := hts (.fieldLink RX7 204 "FittingStridesModel" "law" "I") (by decide +kernel)
  have fl221 := hts (.constant RX7 221 (-1000000001)) (by decide +kernel)
  have fl243 := hts (.constant RX7 243 (-1000000003)) (by decide +kernel)
  have fl250 := hts (.fieldLink RX7 250 "FittingStridesModel" "seed" "I") (by decide +kernel)
  subst hsz
  have hD := hD0.self (sz := s.heap.size)
  generalize hAe : va_A (wX7 a ct g sg) s.heap.size = A at hD hE ⊢
  have hA : ∀ q : Nat, s.heap.size ≤ q → A q := fun q h => by rw [← hAe]; exact Or.inr h
  have hW : WW G A s.heap (wX7 a ct g sg) s.heap [] := ⟨hP, hD, va_S.rf⟩
  have hl := lv_entry ([.ref (a 0), .int x1]) (n := 4) (Nat.le_of_ble_eq_true rfl)
  rw [lg_entry_eq]
  generalize (lg_sl ([.ref (a 0), .int x1]) ++ List.replicate (4 - (lg_sl ([.ref (a 0), .int x1])).length) Slot.unset).toArray = ls at hl ⊢
  have hl : lv_has ls 4 [(0, .ref (a 0)), (1, .int x1)] := hl
  unfold f_X7_goBack at hf
  show W p l e ({ frames := 1, cells := 0, slots := 0, locals := 25 } : Room) s m (List.toArray [.ref (a 0), .int x1]) below meth c s.heap [] 0 0 (MQ below (va_Qi (fun r (_ : Unit) => r = o.1) (fun _ t => Af_ G ct (wX7 a ct o.2 sg) A t) A) (List.toArray [.ref (a 0), .int x1]) s 0 0 A) (F0 m 0 ls [])
  refine lv_iload_n hx hb dX7_goBack_0 rfl (lv_at hl 1 rfl) ?_
  refine lv_i2l hx hb dX7_goBack_1 rfl ?_
  refine lv_lconst (v := (0 : Int64)) hx hb dX7_goBack_2 (by decide) ?_
  refine lv_lconst (v := (1 : Int64)) hx hb dX7_goBack_3 (by decide) ?_
  replace hf := bs_ hf; obtain ⟨r1, hcl, hf⟩ := hf
  refine x_callS_i (As := [.long x1.toInt64, .long (0 : Int64), .long (1 : Int64)]) (rest := []) ⟨hx, hb, hml, hown, hts⟩ (c_X7_in l N kd G ct x1.toInt64 (0 : Int64) (1 : Int64) _ hcl) (va_cwS 3 hts gX7_goBack_X7_in rfl rfl rfl (by decide +kernel) ⟨Nat.le_of_ble_eq_true rfl, Nat.le_of_ble_eq_true rfl⟩) hK hE hA hW rfl hl.1 rfl (lv_room (Nat.le_of_ble_eq_true rfl)) dX7_goBack_4 (fun H locs hW => ?_)
  refine lv_if_ne (tgt := 13) hx hb dX7_goBack_7 (by decide) (fun hc => ?_) (fun hc => ?_)
  · replace hf := ifn hc hf
    refine lv_aload_n hx hb dX7_goBack_13 rfl (lv_at hl 0 rfl) ?_
    refine x_get (ci := 7) (v := .ref (a 44)) (C := RX7) (T := TX7) (N := 44) hx hb hts inX7 hown hK hW 0 rfl rfl 43 (by decide) fl93 (fun _ h9 => h9) rfl dX7_goBack_14 ?_
    refine lv_iload_n hx hb dX7_goBack_17 rfl (lv_at hl 1 rfl) ?_
    replace hf := gd_s hf; obtain ⟨hin, hf⟩ := hf
    refine x_zald (n := 2) (f := g 44) hx hb hK hW 27 rfl (okI_in hin) dX7_goBack_18 ?_
    refine lv_if_ne (tgt := 25) hx hb dX7_goBack_19 (by decide) (fun hc => ?_) (fun hc => ?_)
    · replace hf := ifn hc hf
      refine lv_bipush (v := (70 : Int32)) hx hb dX7_goBack_25 (by decide) ?_
      refine lv_iload_n hx hb dX7_goBack_27 rfl (lv_at hl 1 rfl) ?_
      refine lv_imul hx hb dX7_goBack_28 ?_
      refine lv_istore_n (lv' := [(2, .int ((70 : Int32) * x1)), (0, .ref (a 0)), (1, .int x1)]) hx hb dX7_goBack_29 rfl hl (by decide) rfl (fun ls hl => ?_)
      refine lv_iconst (v := (0 : Int32)) hx hb dX7_goBack_30 (by decide) ?_
      refine lv_istore_n (lv' := [(3, .int (0 : Int32)), (2, .int ((70 : Int32) * x1)), (0, .ref (a 0)), (1, .int x1)]) hx hb dX7_goBack_31 rfl hl (by decide) rfl (fun ls hl => ?_)
      replace hf := bs_ hf; obtain ⟨v2, hg, hf⟩ := hf
      have J2 : ∀ (H : Heap) (locs : List Loc) (ls : Array Slot), WW G A s.heap (wX7 a ct v2 sg) H locs → lv_has ls 4 [(0, .ref (a 0)), (2, .int ((70 : Int32) * x1))] → W p l e ({ frames := 1, cells := 0, slots := 0, locals := 25 } : Room) s m (List.toArray [.ref (a 0), .int x1]) below meth c H locs 0 0 (MQ below (va_Qi (fun r (_ : Unit) => r = o.1) (fun _ t => Af_ G ct (wX7 a ct o.2 sg) A t) A) (List.toArray [.ref (a 0), .int x1]) s 0 0 A) (F0 m 92 ls []) := by
        intro H locs ls hW hl
        refine lv_iconst (v := (0 : Int32)) hx hb dX7_goBack_92 (by decide) ?_
        refine lv_istore_n (lv' := [(3, .int (0 : Int32)), (0, .ref (a 0)), (2, .int ((70 : Int32) * x1))]) hx hb dX7_goBack_93 rfl hl (by decide) rfl (fun ls hl => ?_)
        replace hf := bs_ hf; obtain ⟨v3, hg, hf⟩ := hf
        have J3 : ∀ (H : Heap) (locs : List Loc) (ls : Array Slot), WW G A s.heap (wX7 a ct v3 sg) H locs → lv_has ls 4 [(0, .ref (a 0)), (2, .int ((70 : Int32) * x1))] → W p l e ({ frames := 1, cells := 0, slots := 0, locals := 25 } : Room) s m (List.toArray [.ref (a 0), .int x1]) below meth c H locs 0 0 (MQ below (va_Qi (fun r (_ : Unit) => r = o.1) (fun _ t => Af_ G ct (wX7 a ct o.2 sg) A t) A) (List.toArray [.ref (a 0), .int x1]) s 0 0 A) (F0 m 123 ls []) := by
          intro H locs ls hW hl
          refine lv_iconst (v := (0 : Int32)) hx hb dX7_goBack_123 (by decide) ?_
          refine lv_istore_n (lv' := [(3, .int (0 : Int32)), (0, .ref (a 0)), (2, .int ((70 : Int32) * x1))]) hx hb dX7_goBack_124 rfl hl (by decide) rfl (fun ls hl => ?_)
          replace hf := bs_ hf; obtain ⟨v4, hg, hf⟩ := hf
          have J4 : ∀ (H : Heap) (locs : List Loc) (ls : Array Slot), WW G A s.heap (wX7 a ct v4 sg) H locs → lv_has ls 4 [(0, .ref (a 0)), (2, .int ((70 : Int32) * x1))] → W p l e ({ frames := 1, cells := 0, slots := 0, locals := 25 } : Room) s m (List.toArray [.ref (a 0), .int x1]) below meth c H locs 0 0 (MQ below (va_Qi (fun r (_ : Unit) => r = o.1) (fun _ t => Af_ G ct (wX7 a ct o.2 sg) A t) A) (List.toArray [.ref (a 0), .int x1]) s 0 0 A) (F0 m 154 ls []) := by
            intro H locs ls hW hl
            refine lv_aload_n hx hb dX7_goBack_154 rfl (lv_at hl 0 rfl) ?_
            refine lv_aload_n hx hb dX7_goBack_155 rfl (lv_at hl 0 rfl) ?_
            refine x_get (ci := 7) (v := .ref (a 43)) (C := RX7) (T := TX7) (N := 44) hx hb hts inX7 hown hK hW 0 rfl rfl 42 (by decide) fl90 (fun _ h9 => h9) rfl dX7_goBack_156 ?_
            refine lv_iload_n hx hb dX7_goBack_159 rfl (lv_at hl 1 rfl) ?_
            refine lv_bipush (v := (64 : Int32)) hx hb dX7_goBack_160 (by decide) ?_
            refine lv_iadd hx hb dX7_goBack_162 ?_
            replace hf := gd_s hf; obtain ⟨hin, hf⟩ := hf
            refine x_iald (n := 140) (f := v4 43) hx hb hK hW 26 rfl (okI_in hin) dX7_goBack_163 ?_
            refine x_put (w' := (wX7 a ct (up1 v4 9 0 (v4 43 (((70 : Int32) * x1) + (64 : Int32)).toNatClampNeg)) sg)) (fs := fsX7 a v4 sg) (ci := 7) (v := .int (v4 43 (((70 : Int32) * x1) + (64 : Int32)).toNatClampNeg)) (ty := .int) (C := RX7) (T := TX7) (N := 44) hx hb hts inX7 tyX7 tyX7_ok nmX7 hown hK hW 0 rfl rfl 8 (by decide) fl106 (fun _ h9 => h9) rfl (by decide +kernel) rfl rfl (Nat.le_of_ble_eq_true rfl) (wp_X7_9 a ct v4 sg (v4 43 (((70 : Int32) * x1) + (64 : Int32)).toNatClampNeg)) dX7_goBack_164 (fun H locs hW => ?_)
            refine lv_aload_n hx hb dX7_goBack_167 rfl (lv_at hl 0 rfl) ?_
            refine lv_aload_n hx hb dX7_goBack_168 rfl (lv_at hl 0 rfl) ?_
            refine x_get (ci := 7) (v := .ref (a 43)) (C := RX7) (T := TX7) (N := 44) hx hb hts inX7 hown hK hW 0 rfl rfl 42 (by decide) fl90 (fun _ h9 => h9) rfl dX7_goBack_169 ?_
            refine lv_iload_n hx hb dX7_goBack_172 rfl (lv_at hl 1 rfl) ?_
            refine lv_bipush (v := (65 : Int32)) hx hb dX7_goBack_173 (by decide) ?_
            refine lv_iadd hx hb dX7_goBack_175 ?_
            replace hf := gd_s hf; obtain ⟨hin, hf⟩ := hf
            refine x_iald (n := 140) (f := v4 43) hx hb hK hW 26 rfl (okI_in hin) dX7_goBack_176 ?_
            refine x_put (w' := (wX7 a ct (up1 (up1 v4 9 0 (v4 43 (((70 : Int32) * x1) + (64 : Int32)).toNatClampNeg)) 13 0 (v4 43 (((70 : Int32) * x1) + (65 : Int32)).toNatClampNeg)) sg)) (fs := fsX7 a (up1 v4 9 0 (v4 43 (((70 : Int32) * x1) + (64 : Int32)).toNatClampNeg)) sg) (ci := 7) (v := .int (v4 43 (((70 : Int32) * x1) + (65 : Int32)).toNatClampNeg)) (ty := .int) (C := RX7) (T := TX7) (N := 44) hx hb hts inX7 tyX7 tyX7_ok nmX7 hown hK hW 0 rfl rfl 12 (by decide) fl204 (fun _ h9 => h9) rfl (by decide +kernel) rfl rfl (Nat.le_of_ble_eq_true rfl) (wp_X7_13 a ct (up1 v4 9 0 (v4 43 (((70 : Int32) * x1) + (64 : Int32)).toNatClampNeg)) sg (v4 43 (((70 : Int32) * x1) + (65 : Int32)).toNatClampNeg)) dX7_goBack_177 (fun H locs hW => ?_)
            refine lv_aload_n hx hb dX7_goBack_180 rfl (lv_at hl 0 rfl) ?_
            refine lv_aload_n hx hb dX7_goBack_181 rfl (lv_at hl 0 rfl) ?_
            refine x_get (ci := 7) (v := .ref (a 43)) (C := RX7) (T := TX7) (N := 44) hx hb hts inX7 hown hK hW 0 rfl rfl 42 (by decide) fl90 (fun _ h9 => h9) rfl dX7_goBack_182 ?_
            refine lv_iload_n hx hb dX7_goBack_185 rfl (lv_at hl 1 rfl) ?_
            refine lv_bipush (v := (66 : Int32)) hx hb dX7_goBack_186 (by decide) ?_
            refine lv_iadd hx hb dX7_goBack_188 ?_
            replace hf := gd_s hf; obtain ⟨hin, hf⟩ := hf
            refine x_iald (n := 140) (f := v4 43) hx hb hK hW 26 rfl (okI_in hin) dX7_goBack_189 ?_
            refine x_put (w' := (wX7 a ct (up1 (up1 (up1 v4 9 0 (v4 43 (((70 : Int32) * x1) + (64 : Int32)).toNatClampNeg)) 13 0 (v4 43 (((70 : Int32) * x1) + (65 : Int32)).toNatClampNeg)) 14 0 (v4 43 (((70 : Int32) * x1) + (66 : Int32)).toNatClampNeg)) sg)) (fs := fsX7 a (up1 (up1 v4 9 0 (v4 43 (((70 : Int32) * x1) + (64 : Int32)).toNatClampNeg)) 13 0 (v4 43 (((70 : Int32) * x1) + (65 : Int32)).toNatClampNeg)) sg) (ci := 7) (v := .int (v4 43 (((70 : Int32) * x1) + (66 : Int32)).toNatClampNeg)) (ty := .int) (C := RX7) (T := TX7) (N := 44) hx hb hts inX7 tyX7 tyX7_ok nmX7 hown hK hW 0 rfl rfl 13 (by decide) fl250 (fun _ h9 => h9) rfl (by decide +kernel) rfl rfl (Nat.le_of_ble_eq_true rfl) (wp_X7_14 a ct (up1 (up1 v4 9 0 (v4 43 (((70 : Int32) * x1) + (64 : Int32)).toNatClampNeg)) 13 0 (v4 43 (((70 : Int32) * x1) + (65 : Int32)).toNatClampNeg)) sg (v4 43 (((70 : Int32) * x1) + (66 : Int32)).toNatClampNeg)) dX7_goBack_190 (fun H locs hW => ?_)
            refine lv_iconst (v := (1 : Int32)) hx hb dX7_goBack_193 (by decide) ?_
            have ho := Option.some.inj hf
            subst ho
            exact x_reti (sz := 0) (w0 := []) (A1 := A) hx hb hr hlocks hK hW rfl rfl dX7_goBack_194
          clear hf
          have L4 : ∀ (n : Nat) (y4_3 : Int32) (g4 : St_), f_X7_goBack_L125 N ((70 : Int32) * x1) n y4_3 g4 = some v4 → ∀ (H : Heap) (locs : List Loc) (ls : Array Slot), WW G A s.heap (wX7 a ct g4 sg) H locs → lv_has ls 4 [(0, .ref (a 0)), (2, .int ((70 : Int32) * x1)), (3, .int y4_3)] → W p l e ({ frames := 1, cells := 0, slots := 0, locals := 25 } : Room) s m (List.toArray [.ref (a 0), .int x1]) below meth c H locs 0 0 (MQ below (va_Qi (fun r (_ : Unit) => r = o.1) (fun _ t => Af_ G ct (wX7 a ct o.2 sg) A t) A) (List.toArray [.ref (a 0), .int x1]) s 0 0 A) (F0 m 125 ls []) := by
            intro n
            induction n with
            | zero =>
              intro y4_3 g4 hf
              rw [f_X7_goBack_L125] at hf
              cases hf
            | succ n ih =>
              intro y4_3 g4 hf H locs ls hW hl
              rw [f_X7_goBack_L125] at hf
              refine lv_iload_n hx hb dX7_goBack_125 rfl (lv_at hl 2 rfl) ?_
              refine lv_bipush (v := (10 : Int32)) hx hb dX7_goBack_126 (by decide) ?_
              refine lv_icmp_ge (tgt := 154) hx hb dX7_goBack_128 (by decide) (fun hc => ?_) (fun hc => ?_)
              · replace hf := ifp hc hf
                have hj := Option.some.inj hf
                subst hj
                exact J4 _ _ _ hW (lv_sub hl [0, 1] rfl)
              · replace hf := ifn hc hf
                refine lv_aload_n hx hb dX7_goBack_131 rfl (lv_at hl 0 rfl) ?_
                refine x_get (ci := 7) (v := .ref (a 8)) (C := RX7) (T := TX7) (N := 44) hx hb hts inX7 hown hK hW 0 rfl rfl 7 (by decide) fl25 (fun _ h9 => h9) rfl dX7_goBack_132 ?_
                refine lv_iload_n hx hb dX7_goBack_135 rfl (lv_at hl 2 rfl) ?_
                refine lv_aload_n hx hb dX7_goBack_136 rfl (lv_at hl 0 rfl) ?_
                refine x_get (ci := 7) (v := .ref (a 43)) (C := RX7) (T := TX7) (N := 44) hx hb hts inX7 hown hK hW 0 rfl rfl 42 (by decide) fl90 (fun _ h9 => h9) rfl dX7_goBack_137 ?_
                refine lv_iload_n hx hb dX7_goBack_140 rfl (lv_at hl 1 rfl) ?_
                refine lv_bipush (v := (54 : Int32)) hx hb dX7_goBack_141 (by decide) ?_
                refine lv_iadd hx hb dX7_goBack_143 ?_
                refine lv_iload_n hx hb dX7_goBack_144 rfl (lv_at hl 2 rfl) ?_
                refine lv_iadd hx hb dX7_goBack_145 ?_
                replace hf := gd_s hf; obtain ⟨hin, hf⟩ := hf
                refine x_iald (n := 140) (f := g4 43) hx hb hK hW 26 rfl (okI_in hin) dX7_goBack_146 ?_
                replace hf := gd_s hf; obtain ⟨hin, hf⟩ := hf
                refine x_iast (w' := (wX7 a ct (up1 g4 8 y4_3.toNatClampNeg (g4 43 ((((70 : Int32) * x1) + (54 : Int32)) + y4_3).toNatClampNeg)) sg)) (n := 10) (f := g4 8) hx hb hK hW 6 rfl (okI_in hin) (ws_X7_8 a ct g4 sg _ _) dX7_goBack_147 (fun H locs hW => ?_)
                refine lv_iinc (v := (y4_3 + (1 : Int32))) (lv' := [(3, .int (y4_3 + (1 : Int32))), (0, .ref (a 0)), (2, .int ((70 : Int32) * x1))]) hx hb dX7_goBack_148 hl (k := 2) rfl rfl (by decide) rfl (fun ls hl => ?_)
                refine lv_goto (tgt := 125) hx hb dX7_goBack_151 (by decide) ?_
                exact ih (y4_3 + (1 : Int32)) (up1 g4 8 y4_3.toNatClampNeg (g4 43 ((((70 : Int32) * x1) + (54 : Int32)) + y4_3).toNatClampNeg)) hf _ _ _ hW (lv_sub hl [1, 2, 0] rfl)
          exact L4 N (0 : Int32) v3 hg _ _ _ hW (lv_sub hl [1, 2, 0] rfl)
        clear hf
        have L3 : ∀ (n : Nat) (y3_3 : Int32) (g3 : St_), f_X7_goBack_L94 N ((70 : Int32) * x1) n y3_3 g3 = some v3 → ∀ (H : Heap) (locs : List Loc) (ls : Array Slot), WW G A s.heap (wX7 a ct g3 sg) H locs → lv_has ls 4 [(0, .ref (a 0)), (2, .int ((70 : Int32) * x1)), (3, .int y3_3)] → W p l e ({ frames := 1, cells := 0, slots := 0, locals := 25 } : Room) s m (List.toArray [.ref (a 0), .int x1]) below meth c H locs 0 0 (MQ below (va_Qi (fun r (_ : Unit) => r = o.1) (fun _ t => Af_ G ct (wX7 a ct o.2 sg) A t) A) (List.toArray [.ref (a 0), .int x1]) s 0 0 A) (F0 m 94 ls []) := by
          intro n
          induction n with
          | zero =>
            intro y3_3 g3 hf
            rw [f_X7_goBack_L94] at hf
            cases hf
          | succ n ih =>
            intro y3_3 g3 hf H locs ls hW hl
            rw [f_X7_goBack_L94] at hf
            refine lv_iload_n hx hb dX7_goBack_94 rfl (lv_at hl 2 rfl) ?_
            refine lv_bipush (v := (30 : Int32)) hx hb dX7_goBack_95 (by decide) ?_
            refine lv_icmp_ge (tgt := 123) hx hb dX7_goBack_97 (by decide) (fun hc => ?_) (fun hc => ?_)
            · replace hf := ifp hc hf
              have hj := Option.some.inj hf
              subst hj
              exact J3 _ _ _ hW (lv_sub hl [0, 1] rfl)
            · replace hf := ifn hc hf
              refine lv_aload_n hx hb dX7_goBack_100 rfl (lv_at hl 0 rfl) ?_
              refine x_get (ci := 7) (v := .ref (a 7)) (C := RX7) (T := TX7) (N := 44) hx hb hts inX7 hown hK hW 0 rfl rfl 6 (by decide) fl22 (fun _ h9 => h9) rfl dX7_goBack_101 ?_
              refine lv_iload_n hx hb dX7_goBack_104 rfl (lv_at hl 2 rfl) ?_
              refine lv_aload_n hx hb dX7_goBack_105 rfl (lv_at hl 0 rfl) ?_
              refine x_get (ci := 7) (v := .ref (a 43)) (C := RX7) (T := TX7) (N := 44) hx hb hts inX7 hown hK hW 0 rfl rfl 42 (by decide) fl90 (fun _ h9 => h9) rfl dX7_goBack_106 ?_
              refine lv_iload_n hx hb dX7_goBack_109 rfl (lv_at hl 1 rfl) ?_
              refine lv_bipush (v := (24 : Int32)) hx hb dX7_goBack_110 (by decide) ?_
              refine lv_iadd hx hb dX7_goBack_112 ?_
              refine lv_iload_n hx hb dX7_goBack_113 rfl (lv_at hl 2 rfl) ?_
              refine lv_iadd hx hb dX7_goBack_114 ?_
              replace hf := gd_s hf; obtain ⟨hin, hf⟩ := hf
              refine x_iald (n := 140) (f := g3 43) hx hb hK hW 26 rfl (okI_in hin) dX7_goBack_115 ?_
              replace hf := gd_s hf; obtain ⟨hin, hf⟩ := hf
              refine x_iast (w' := (wX7 a ct (up1 g3 7 y3_3.toNatClampNeg (g3 43 ((((70 : Int32) * x1) + (24 : Int32)) + y3_3).toNatClampNeg)) sg)) (n := 30) (f := g3 7) hx hb hK hW 5 rfl (okI_in hin) (ws_X7_7 a ct g3 sg _ _) dX7_goBack_116 (fun H locs hW => ?_)
              refine lv_iinc (v := (y3_3 + (1 : Int32))) (lv' := [(3, .int (y3_3 + (1 : Int32))), (0, .ref (a 0)), (2, .int ((70 : Int32) * x1))]) hx hb dX7_goBack_117 hl (k := 2) rfl rfl (by decide) rfl (fun ls hl => ?_)
              refine lv_goto (tgt := 94) hx hb dX7_goBack_120 (by decide) ?_
              exact ih (y3_3 + (1 : Int32)) (up1 g3 7 y3_3.toNatClampNeg (g3 43 ((((70 : Int32) * x1) + (24 : Int32)) + y3_3).toNatClampNeg)) hf _ _ _ hW (lv_sub hl [1, 2, 0] rfl)
        exact L3 N (0 : Int32) v2 hg _ _ _ hW (lv_sub hl [1, 2, 0] rfl)
      clear hf
      have L2 : ∀ (n : Nat) (y2_3 : Int32) (g2 : St_), f_X7_goBack_L32 N ((70 : Int32) * x1) n y2_3 g2 = some v2 → ∀ (H : Heap) (locs : List Loc) (ls : Array Slot), WW G A s.heap (wX7 a ct g2 sg) H locs → lv_has ls 4 [(0, .ref (a 0)), (2, .int ((70 : Int32) * x1)), (3, .int y2_3)] → W p l e ({ frames := 1, cells := 0, slots := 0, locals := 25 } : Room) s m (List.toArray [.ref (a 0), .int x1]) below meth c H locs 0 0 (MQ below (va_Qi (fun r (_ : Unit) => r = o.1) (fun _ t => Af_ G ct (wX7 a ct o.2 sg) A t) A) (List.toArray [.ref (a 0), .int x1]) s 0 0 A) (F0 m 32 ls []) := by
        intro n
        induction n with
        | zero =>
          intro y2_3 g2 hf
          rw [f_X7_goBack_L32] at hf
          cases hf
        | succ n ih =>
          intro y2_3 g2 hf H locs ls hW hl
          rw [f_X7_goBack_L32] at hf
          refine lv_iload_n hx hb dX7_goBack_32 rfl (lv_at hl 2 rfl) ?_
          refine lv_bipush (v := (8 : Int32)) hx hb dX7_goBack_33 (by decide) ?_
          refine lv_icmp_ge (tgt := 92) hx hb dX7_goBack_35 (by decide) (fun hc => ?_) (fun hc => ?_)
          · replace hf := ifp hc hf
            have hj := Option.some.inj hf
            subst hj
            exact J2 _ _ _ hW (lv_sub hl [0, 1] rfl)
          · replace hf := ifn hc hf
            refine lv_aload_n hx hb dX7_goBack_38 rfl (lv_at hl 0 rfl) ?_
            refine x_get (ci := 7) (v := .ref (a 10)) (C := RX7) (T := TX7) (N := 44) hx hb hts inX7 hown hK hW 0 rfl rfl 9 (by decide) fl28 (fun _ h9 => h9) rfl dX7_goBack_39 ?_
            refine lv_iload_n hx hb dX7_goBack_42 rfl (lv_at hl 2 rfl) ?_
            refine lv_aload_n hx hb dX7_goBack_43 rfl (lv_at hl 0 rfl) ?_
            refine x_get (ci := 7) (v := .ref (a 43)) (C := RX7) (T := TX7) (N := 44) hx hb hts inX7 hown hK hW 0 rfl rfl 42 (by decide) fl90 (fun _ h9 => h9) rfl dX7_goBack_44 ?_
            refine lv_iload_n hx hb dX7_goBack_47 rfl (lv_at hl 1 rfl) ?_
            refine lv_iload_n hx hb dX7_goBack_48 rfl (lv_at hl 2 rfl) ?_
            refine lv_iadd hx hb dX7_goBack_49 ?_
            replace hf := gd_s hf; obtain ⟨hin, hf⟩ := hf
            refine x_iald (n := 140) (f := g2 43) hx hb hK hW 26 rfl (okI_in hin) dX7_goBack_50 ?_
            replace hf := gd_s hf; obtain ⟨hin, hf⟩ := hf
            refine x_iast (w' := (wX7 a ct (up1 g2 10 y2_3.toNatClampNeg (g2 43 (((70 : Int32) * x1) + y2_3).toNatClampNeg)) sg)) (n := 8) (f := g2 10) hx hb hK hW 7 rfl (okI_in hin) (ws_X7_10 a ct g2 sg _ _) dX7_goBack_51 (fun H locs hW => ?_)
            refine lv_aload_n hx hb dX7_goBack_52 rfl (lv_at hl 0 rfl) ?_
            refine x_get (ci := 7) (v := .ref (a 11)) (C := RX7) (T := TX7) (N := 44) hx hb hts inX7 hown hK hW 0 rfl rfl 10 (by decide) fl31 (fun _ h9 => h9) rfl dX7_goBack_53 ?_
            refine lv_iload_n hx hb dX7_goBack_56 rfl (lv_at hl 2 rfl) ?_
            refine lv_aload_n hx hb dX7_goBack_57 rfl (lv_at hl 0 rfl) ?_
            refine x_get (ci := 7) (v := .ref (a 43)) (C := RX7) (T := TX7) (N := 44) hx hb hts inX7 hown hK hW 0 rfl rfl 42 (by decide) fl90 (fun _ h9 => h9) rfl dX7_goBack_58 ?_
            refine lv_iload_n hx hb dX7_goBack_61 rfl (lv_at hl 1 rfl) ?_
            refine lv_bipush (v := (8 : Int32)) hx hb dX7_goBack_62 (by decide) ?_
            refine lv_iadd hx hb dX7_goBack_64 ?_
            refine lv_iload_n hx hb dX7_goBack_65 rfl (lv_at hl 2 rfl) ?_
            refine lv_iadd hx hb dX7_goBack_66 ?_
            replace hf := gd_s hf; obtain ⟨hin, hf⟩ := hf
            refine x_iald (n := 140) (f := g2 43) hx hb hK hW 26 rfl (okI_in hin) dX7_goBack_67 ?_
            replace hf := gd_s hf; obtain ⟨hin, hf⟩ := hf
            refine x_iast (w' := (wX7 a ct (up1 (up1 g2 10 y2_3.toNatClampNeg (g2 43 (((70 : Int32) * x1) + y2_3).toNatClampNeg)) 11 y2_3.toNatClampNeg (g2 43 ((((70 : Int32) * x1) + (8 : Int32)) + y2_3).toNatClampNeg)) sg)) (n := 8) (f := (up1 g2 10 y2_3.toNatClampNeg (g2 43 (((70 : Int32) * x1) + y2_3).toNatClampNeg)) 11) hx hb hK hW 8 rfl (okI_in hin) (ws_X7_11 a ct (up1 g2 10 y2_3.toNatClampNeg (g2 43 (((70 : Int32) * x1) + y2_3).toNatClampNeg)) sg _ _) dX7_goBack_68 (fun H locs hW => ?_)
            refine lv_aload_n hx hb dX7_goBack_69 rfl (lv_at hl 0 rfl) ?_
            refine x_get (ci := 7) (v := .ref (a 12)) (C := RX7) (T := TX7) (N := 44) hx hb hts inX7 hown hK hW 0 rfl rfl 11 (by decide) fl34 (fun _ h9 => h9) rfl dX7_goBack_70 ?_
            refine lv_iload_n hx hb dX7_goBack_73 rfl (lv_at hl 2 rfl) ?_
            refine lv_aload_n hx hb dX7_goBack_74 rfl (lv_at hl 0 rfl) ?_
            refine x_get (ci := 7) (v := .ref (a 43)) (C := RX7) (T := TX7) (N := 44) hx hb hts inX7 hown hK hW 0 rfl rfl 42 (by decide) fl90 (fun _ h9 => h9) rfl dX7_goBack_75 ?_
            refine lv_iload_n hx hb dX7_goBack_78 rfl (lv_at hl 1 rfl) ?_
            refine lv_bipush (v := (16 : Int32)) hx hb dX7_goBack_79 (by decide) ?_
            refine lv_iadd hx hb dX7_goBack_81 ?_
            refine lv_iload_n hx hb dX7_goBack_82 rfl (lv_at hl 2 rfl) ?_
            refine lv_iadd hx hb dX7_goBack_83 ?_
            replace hf := gd_s hf; obtain ⟨hin, hf⟩ := hf
            refine x_iald (n := 140) (f := g2 43) hx hb hK hW 26 rfl (okI_in hin) dX7_goBack_84 ?_
            replace hf := gd_s hf; obtain ⟨hin, hf⟩ := hf
            refine x_iast (w' := (wX7 a ct (up1 (up1 (up1 g2 10 y2_3.toNatClampNeg (g2 43 (((70 : Int32) * x1) + y2_3).toNatClampNeg)) 11 y2_3.toNatClampNeg (g2 43 ((((70 : Int32) * x1) + (8 : Int32)) + y2_3).toNatClampNeg)) 12 y2_3.toNatClampNeg (g2 43 ((((70 : Int32) * x1) + (16 : Int32)) + y2_3).toNatClampNeg)) sg)) (n := 8) (f := (up1 (up1 g2 10 y2_3.toNatClampNeg (g2 43 (((70 : Int32) * x1) + y2_3).toNatClampNeg)) 11 y2_3.toNatClampNeg (g2 43 ((((70 : Int32) * x1) + (8 : Int32)) + y2_3).toNatClampNeg)) 12) hx hb hK hW 9 rfl (okI_in hin) (ws_X7_12 a ct (up1 (up1 g2 10 y2_3.toNatClampNeg (g2 43 (((70 : Int32) * x1) + y2_3).toNatClampNeg)) 11 y2_3.toNatClampNeg (g2 43 ((((70 : Int32) * x1) + (8 : Int32)) + y2_3).toNatClampNeg)) sg _ _) dX7_goBack_85 (fun H locs hW => ?_)
            refine lv_iinc (v := (y2_3 + (1 : Int32))) (lv' := [(3, .int (y2_3 + (1 : Int32))), (0, .ref (a 0)), (2, .int ((70 : Int32) * x1))]) hx hb dX7_goBack_86 hl (k := 2) rfl rfl (by decide) rfl (fun ls hl => ?_)
            refine lv_goto (tgt := 32) hx hb dX7_goBack_89 (by decide) ?_
            exact ih (y2_3 + (1 : Int32)) (up1 (up1 (up1 g2 10 y2_3.toNatClampNeg (g2 43 (((70 : Int32) * x1) + y2_3).toNatClampNeg)) 11 y2_3.toNatClampNeg (g2 43 ((((70 : Int32) * x1) + (8 : Int32)) + y2_3).toNatClampNeg)) 12 y2_3.toNatClampNeg (g2 43 ((((70 : Int32) * x1) + (16 : Int32)) + y2_3).toNatClampNeg)) hf _ _ _ hW (lv_sub hl [1, 2, 0] rfl)
      exact L2 N (0 : Int32) g hg _ _ _ hW (lv_sub hl [2, 1, 0] rfl)
    · replace hf := ifp hc hf
      refine lv_ldc (v := (-1000000003 : Int32)) hx hb hown fl243 dX7_goBack_22 ?_
      have ho := Option.some.inj hf
      subst ho
      exact x_reti (sz := 0) (w0 := []) (A1 := A) hx hb hr hlocks hK hW rfl rfl dX7_goBack_24
  · replace hf := ifp hc hf
    refine lv_ldc (v := (-1000000001 : Int32)) hx hb hown fl221 dX7_goBack_10 ?_
    have ho := Option.some.inj hf
    subst ho
    exact x_reti (sz := 0) (w0 := []) (A1 := A) hx hb hr hlocks hK hW rfl rfl dX7_goBack_12
