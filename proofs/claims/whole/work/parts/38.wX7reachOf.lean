set_option maxHeartbeats 4000000 in
set_option maxRecDepth 100000 in
theorem c_X7_reachOf (l : Launch) (N : Nat) (kd : (Nat → Nat) × (Nat → Nat)) (G : va_G) (ct : Nat → ClassId) (a : Nat → Nat) (g : St_) (sg : Int64) (x1 : Int32) (x2 : Int32) (x3 : Int32) (o : Int32) (hf : f_X7_reachOf N g x1 x2 x3 = some o) : CtI l yX7_reachOf wsX7_reachOf ({ frames := 1, cells := 0, slots := 0, locals := 25 }) kd G ct [.ref (a 0), .int x1, .int x2, .int x3] (wX7 a ct g sg) o (wX7 a ct g sg) := by
  intro sz
  refine Met.ofW (cc := cX7_reachOf) (maxL := 8) (ret := (some .int)) (by decide) rfl ?_
  intro p e s m args below meth c s₁ B hml hv
  obtain ⟨rfl, hsz, hP, hK, hD0, hE⟩ := hv
  have hx := B.exec
  have hb := B.bytes
  have hr := B.returns
  have hts := atoms_spec (ws := wsX7_reachOf) B.pre
  have hown : s.vm.findClass RX7 = some m.cls := findClass_of_methodNamed B.named
  have hlocks := B.notSynchronized
  have inX7 : ∀ w ∈ wsX70, w ∈ wsX7_reachOf := by decide +kernel
  have fl13 := hts (.fieldLink RX7 13 "FittingStridesModel" "low" "[I") (by decide +kernel)
  have fl16 := hts (.fieldLink RX7 16 "FittingStridesModel" "high" "[I") (by decide +kernel)
  have fl103 := hts (.fieldLink RX7 103 "FittingStridesModel" "stairs" "I") (by decide +kernel)
  have fl204 := hts (.fieldLink RX7 204 "FittingStridesModel" "law" "I") (by decide +kernel)
  subst hsz
  have hD := hD0.self (sz := s.heap.size)
  generalize hAe : va_A (wX7 a ct g sg) s.heap.size = A at hD hE ⊢
  have hA : ∀ q : Nat, s.heap.size ≤ q → A q := fun q h => by rw [← hAe]; exact Or.inr h
  have hW : WW G A s.heap (wX7 a ct g sg) s.heap [] := ⟨hP, hD, va_S.rf⟩
  have hl := lv_entry ([.ref (a 0), .int x1, .int x2, .int x3]) (n := 8) (Nat.le_of_ble_eq_true rfl)
  rw [lg_entry_eq]
  generalize (lg_sl ([.ref (a 0), .int x1, .int x2, .int x3]) ++ List.replicate (8 - (lg_sl ([.ref (a 0), .int x1, .int x2, .int x3])).length) Slot.unset).toArray = ls at hl ⊢
  have hl : lv_has ls 8 [(0, .ref (a 0)), (1, .int x1), (2, .int x2), (3, .int x3)] := hl
  unfold f_X7_reachOf at hf
  show W p l e ({ frames := 1, cells := 0, slots := 0, locals := 25 } : Room) s m (List.toArray [.ref (a 0), .int x1, .int x2, .int x3]) below meth c s.heap [] 0 0 (MQ below (va_Qi (fun r (_ : Unit) => r = o) (fun _ t => Af_ G ct (wX7 a ct g sg) A t) A) (List.toArray [.ref (a 0), .int x1, .int x2, .int x3]) s 0 0 A) (F0 m 0 ls [])
  refine lv_iconst (v := (1 : Int32)) hx hb dX7_reachOf_0 (by decide) ?_
  refine lv_iload_n hx hb dX7_reachOf_1 rfl (lv_at hl 1 rfl) ?_
  refine lv_ishl hx hb dX7_reachOf_2 ?_
  refine lv_istore (lv' := [(4, .int ((1 : Int32) <<< (x1 &&& 31))), (0, .ref (a 0)), (1, .int x1), (2, .int x2), (3, .int x3)]) hx hb dX7_reachOf_3 hl (by decide) rfl (fun ls hl => ?_)
  refine lv_iconst (v := (0 : Int32)) hx hb dX7_reachOf_5 (by decide) ?_
  refine lv_istore (lv' := [(5, .int (0 : Int32)), (4, .int ((1 : Int32) <<< (x1 &&& 31))), (0, .ref (a 0)), (1, .int x1), (2, .int x2), (3, .int x3)]) hx hb dX7_reachOf_6 hl (by decide) rfl (fun ls hl => ?_)
  replace hf := bs_ hf; obtain ⟨v1, hg, hf⟩ := hf
  have J1 : ∀ (H : Heap) (locs : List Loc) (ls : Array Slot), WW G A s.heap (wX7 a ct g sg) H locs → lv_has ls 8 [(4, .int v1)] → W p l e ({ frames := 1, cells := 0, slots := 0, locals := 25 } : Room) s m (List.toArray [.ref (a 0), .int x1, .int x2, .int x3]) below meth c H locs 0 0 (MQ below (va_Qi (fun r (_ : Unit) => r = o) (fun _ t => Af_ G ct (wX7 a ct g sg) A t) A) (List.toArray [.ref (a 0), .int x1, .int x2, .int x3]) s 0 0 A) (F0 m 151 ls []) := by
    intro H locs ls hW hl
    refine lv_iload hx hb dX7_reachOf_151 (lv_at hl 0 rfl) ?_
    have ho := Option.some.inj hf
    subst ho
    exact x_reti (sz := 0) (w0 := []) (A1 := A) hx hb hr hlocks hK hW rfl rfl dX7_reachOf_153
  clear hf
  have L1 : ∀ (n : Nat) (y1_4 : Int32) (y1_5 : Int32), f_X7_reachOf_L8 N g x2 x3 n y1_4 y1_5 = some v1 → ∀ (H : Heap) (locs : List Loc) (ls : Array Slot), WW G A s.heap (wX7 a ct g sg) H locs → lv_has ls 8 [(0, .ref (a 0)), (2, .int x2), (3, .int x3), (4, .int y1_4), (5, .int y1_5)] → W p l e ({ frames := 1, cells := 0, slots := 0, locals := 25 } : Room) s m (List.toArray [.ref (a 0), .int x1, .int x2, .int x3]) below meth c H locs 0 0 (MQ below (va_Qi (fun r (_ : Unit) => r = o) (fun _ t => Af_ G ct (wX7 a ct g sg) A t) A) (List.toArray [.ref (a 0), .int x1, .int x2, .int x3]) s 0 0 A) (F0 m 8 ls []) := by
    intro n
    induction n with
    | zero =>
      intro y1_4 y1_5 hf
      rw [f_X7_reachOf_L8] at hf
      cases hf
    | succ n ih =>
      intro y1_4 y1_5 hf H locs ls hW hl
      rw [f_X7_reachOf_L8] at hf
      refine lv_iload hx hb dX7_reachOf_8 (lv_at hl 4 rfl) ?_
      refine lv_iload hx hb dX7_reachOf_10 (lv_at hl 3 rfl) ?_
      refine lv_icmp_eq (tgt := 151) hx hb dX7_reachOf_12 (by decide) (fun hc => ?_) (fun hc => ?_)
      · replace hf := ifp hc hf
        have hj := Option.some.inj hf
        subst hj
        exact J1 _ _ _ hW (lv_sub hl [3] rfl)
      · replace hf := ifn hc hf
        refine lv_iload hx hb dX7_reachOf_15 (lv_at hl 3 rfl) ?_
        refine lv_istore (lv' := [(5, .int y1_4), (0, .ref (a 0)), (2, .int x2), (3, .int x3), (4, .int y1_4)]) hx hb dX7_reachOf_17 hl (by decide) rfl (fun ls hl => ?_)
        refine lv_iconst (v := (0 : Int32)) hx hb dX7_reachOf_19 (by decide) ?_
        refine lv_istore (lv' := [(6, .int (0 : Int32)), (5, .int y1_4), (0, .ref (a 0)), (2, .int x2), (3, .int x3), (4, .int y1_4)]) hx hb dX7_reachOf_20 hl (by decide) rfl (fun ls hl => ?_)
        replace hf := bs_ hf; obtain ⟨v2, hg, hf⟩ := hf
        have J2 : ∀ (H : Heap) (locs : List Loc) (ls : Array Slot), WW G A s.heap (wX7 a ct g sg) H locs → lv_has ls 8 [(0, .ref (a 0)), (2, .int x2), (3, .int x3), (4, .int v2), (5, .int y1_4)] → W p l e ({ frames := 1, cells := 0, slots := 0, locals := 25 } : Room) s m (List.toArray [.ref (a 0), .int x1, .int x2, .int x3]) below meth c H locs 0 0 (MQ below (va_Qi (fun r (_ : Unit) => r = o) (fun _ t => Af_ G ct (wX7 a ct g sg) A t) A) (List.toArray [.ref (a 0), .int x1, .int x2, .int x3]) s 0 0 A) (F0 m 148 ls []) := by
          intro H locs ls hW hl
          refine lv_goto (tgt := 8) hx hb dX7_reachOf_148 (by decide) ?_
          exact ih v2 y1_4 hf _ _ _ hW (lv_sub hl [0, 1, 2, 3, 4] rfl)
        clear hf
        have L2 : ∀ (n : Nat) (y2_4 : Int32) (y2_6 : Int32), f_X7_reachOf_L22 N g x2 x3 n y2_4 y2_6 = some v2 → ∀ (H : Heap) (locs : List Loc) (ls : Array Slot), WW G A s.heap (wX7 a ct g sg) H locs → lv_has ls 8 [(0, .ref (a 0)), (2, .int x2), (3, .int x3), (4, .int y2_4), (5, .int y1_4), (6, .int y2_6)] → W p l e ({ frames := 1, cells := 0, slots := 0, locals := 25 } : Room) s m (List.toArray [.ref (a 0), .int x1, .int x2, .int x3]) below meth c H locs 0 0 (MQ below (va_Qi (fun r (_ : Unit) => r = o) (fun _ t => Af_ G ct (wX7 a ct g sg) A t) A) (List.toArray [.ref (a 0), .int x1, .int x2, .int x3]) s 0 0 A) (F0 m 22 ls []) := by
          intro n
          induction n with
          | zero =>
            intro y2_4 y2_6 hf
            rw [f_X7_reachOf_L22] at hf
            cases hf
          | succ n ih =>
            intro y2_4 y2_6 hf H locs ls hW hl
            rw [f_X7_reachOf_L22] at hf
            refine lv_iload hx hb dX7_reachOf_22 (lv_at hl 5 rfl) ?_
            refine lv_aload_n hx hb dX7_reachOf_24 rfl (lv_at hl 0 rfl) ?_
            refine x_get (ci := 7) (v := .int (g 2 0)) (C := RX7) (T := TX7) (N := 44) hx hb hts inX7 hown hK hW 0 rfl rfl 1 (by decide) fl103 (fun _ h9 => h9) rfl dX7_reachOf_25 ?_
            refine lv_icmp_ge (tgt := 148) hx hb dX7_reachOf_28 (by decide) (fun hc => ?_) (fun hc => ?_)
            · replace hf := ifp hc hf
              have hj := Option.some.inj hf
              subst hj
              exact J2 _ _ _ hW (lv_sub hl [0, 1, 2, 3, 4] rfl)
            · replace hf := ifn hc hf
              refine lv_aload_n hx hb dX7_reachOf_31 rfl (lv_at hl 0 rfl) ?_
              refine lv_iload hx hb dX7_reachOf_32 (lv_at hl 5 rfl) ?_
              refine lv_iload_n hx hb dX7_reachOf_34 rfl (lv_at hl 1 rfl) ?_
              replace hf := bs_ hf; obtain ⟨r3, hcl, hf⟩ := hf
              refine x_callW_i (w' := (wX7 a ct g sg)) (As := [.int y2_6, .int x2]) (rest := []) (ci := 7) ⟨hx, hb, hml, hown, hts⟩ (c_X7_isFit l N kd G ct a g sg y2_6 x2 _ hcl) (cwV 2 hts gX7_reachOf_X7_isFit rfl rfl rfl (by decide +kernel) ⟨Nat.le_of_ble_eq_true rfl, Nat.le_of_ble_eq_true rfl⟩) hK hE hA hW rfl rfl 0 rfl rfl rfl rfl hl.1 rfl (lv_room (Nat.le_of_ble_eq_true rfl)) dX7_reachOf_35 (fun H locs hW => ?_)
              replace hf := bs_ hf; obtain ⟨j4, hg, hf⟩ := hf
              have J4 : ∀ (H : Heap) (locs : List Loc) (ls : Array Slot), WW G A s.heap (wX7 a ct g sg) H locs → lv_has ls 8 [(0, .ref (a 0)), (2, .int x2), (3, .int x3), (4, .int y2_4), (5, .int y1_4), (6, .int y2_6)] → W p l e ({ frames := 1, cells := 0, slots := 0, locals := 25 } : Room) s m (List.toArray [.ref (a 0), .int x1, .int x2, .int x3]) below meth c H locs 0 0 (MQ below (va_Qi (fun r (_ : Unit) => r = o) (fun _ t => Af_ G ct (wX7 a ct g sg) A t) A) (List.toArray [.ref (a 0), .int x1, .int x2, .int x3]) s 0 0 A) (F0 m 56 ls (.int j4 :: [])) := by
                intro H locs ls hW hl
                refine lv_istore (lv' := [(7, .int j4), (0, .ref (a 0)), (2, .int x2), (3, .int x3), (4, .int y2_4), (5, .int y1_4), (6, .int y2_6)]) hx hb dX7_reachOf_56 hl (by decide) rfl (fun ls hl => ?_)
                refine lv_iload hx hb dX7_reachOf_58 (lv_at hl 4 rfl) ?_
                refine lv_iload hx hb dX7_reachOf_60 (lv_at hl 0 rfl) ?_
                replace hf := bs_ hf; obtain ⟨j6, hg, hf⟩ := hf
                have J6 : ∀ (H : Heap) (locs : List Loc) (ls : Array Slot), WW G A s.heap (wX7 a ct g sg) H locs → lv_has ls 8 [(0, .ref (a 0)), (2, .int x2), (3, .int x3), (5, .int y1_4), (6, .int y2_6), (7, .int j4)] → W p l e ({ frames := 1, cells := 0, slots := 0, locals := 25 } : Room) s m (List.toArray [.ref (a 0), .int x1, .int x2, .int x3]) below meth c H locs 0 0 (MQ below (va_Qi (fun r (_ : Unit) => r = o) (fun _ t => Af_ G ct (wX7 a ct g sg) A t) A) (List.toArray [.ref (a 0), .int x1, .int x2, .int x3]) s 0 0 A) (F0 m 93 ls (.int j6 :: .int y2_4 :: [])) := by
                  intro H locs ls hW hl
                  refine lv_ior hx hb dX7_reachOf_93 ?_
                  refine lv_istore (lv' := [(4, .int (y2_4 ||| j6)), (0, .ref (a 0)), (2, .int x2), (3, .int x3), (5, .int y1_4), (6, .int y2_6), (7, .int j4)]) hx hb dX7_reachOf_94 hl (by decide) rfl (fun ls hl => ?_)
                  refine lv_iload hx hb dX7_reachOf_96 (lv_at hl 0 rfl) ?_
                  refine lv_iload hx hb dX7_reachOf_98 (lv_at hl 6 rfl) ?_
                  replace hf := bs_ hf; obtain ⟨j8, hg, hf⟩ := hf
                  have J8 : ∀ (H : Heap) (locs : List Loc) (ls : Array Slot), WW G A s.heap (wX7 a ct g sg) H locs → lv_has ls 8 [(0, .ref (a 0)), (2, .int x2), (3, .int x3), (5, .int y1_4), (6, .int y2_6)] → W p l e ({ frames := 1, cells := 0, slots := 0, locals := 25 } : Room) s m (List.toArray [.ref (a 0), .int x1, .int x2, .int x3]) below meth c H locs 0 0 (MQ below (va_Qi (fun r (_ : Unit) => r = o) (fun _ t => Af_ G ct (wX7 a ct g sg) A t) A) (List.toArray [.ref (a 0), .int x1, .int x2, .int x3]) s 0 0 A) (F0 m 139 ls (.int j8 :: .int (y2_4 ||| j6) :: [])) := by
                    intro H locs ls hW hl
                    refine lv_ior hx hb dX7_reachOf_139 ?_
                    refine lv_istore (lv' := [(4, .int ((y2_4 ||| j6) ||| j8)), (0, .ref (a 0)), (2, .int x2), (3, .int x3), (5, .int y1_4), (6, .int y2_6)]) hx hb dX7_reachOf_140 hl (by decide) rfl (fun ls hl => ?_)
                    refine lv_iinc (v := (y2_6 + (1 : Int32))) (lv' := [(6, .int (y2_6 + (1 : Int32))), (4, .int ((y2_4 ||| j6) ||| j8)), (0, .ref (a 0)), (2, .int x2), (3, .int x3), (5, .int y1_4)]) hx hb dX7_reachOf_142 hl (k := 5) rfl rfl (by decide) rfl (fun ls hl => ?_)
                    refine lv_goto (tgt := 22) hx hb dX7_reachOf_145 (by decide) ?_
                    exact ih ((y2_4 ||| j6) ||| j8) (y2_6 + (1 : Int32)) hf _ _ _ hW (lv_sub hl [2, 3, 4, 1, 5, 0] rfl)
                  clear hf
                  refine lv_if_ne (tgt := 111) hx hb dX7_reachOf_100 (by decide) (fun hc => ?_) (fun hc => ?_)
                  · have hf := ifn hc hg
                    clear hg
                    refine lv_iload hx hb dX7_reachOf_111 (lv_at hl 0 rfl) ?_
                    refine lv_aload_n hx hb dX7_reachOf_113 rfl (lv_at hl 1 rfl) ?_
                    refine x_get (ci := 7) (v := .ref (a 5)) (C := RX7) (T := TX7) (N := 44) hx hb hts inX7 hown hK hW 0 rfl rfl 4 (by decide) fl16 (fun _ h9 => h9) rfl dX7_reachOf_114 ?_
                    refine lv_iload hx hb dX7_reachOf_117 (lv_at hl 5 rfl) ?_
                    replace hf := gd_s hf; obtain ⟨hin, hf⟩ := hf
                    refine x_iald (n := 10) (f := g 5) hx hb hK hW 3 rfl (okI_in hin) dX7_reachOf_119 ?_
                    replace hf := bs_ hf; obtain ⟨r9, hcl, hf⟩ := hf
                    refine x_callS_i (As := [.int (y2_4 ||| j6), .int (g 5 y2_6.toNatClampNeg)]) (rest := [.int (y2_4 ||| j6)]) ⟨hx, hb, hml, hown, hts⟩ (c_X7_has l N kd G ct (y2_4 ||| j6) (g 5 y2_6.toNatClampNeg) _ hcl) (va_cwS 2 hts gX7_reachOf_X7_has rfl rfl rfl (by decide +kernel) ⟨Nat.le_of_ble_eq_true rfl, Nat.le_of_ble_eq_true rfl⟩) hK hE hA hW rfl hl.1 rfl (lv_room (Nat.le_of_ble_eq_true rfl)) dX7_reachOf_120 (fun H locs hW => ?_)
                    refine lv_if_eq (tgt := 138) hx hb dX7_reachOf_123 (by decide) (fun hc => ?_) (fun hc => ?_)
                    · replace hf := ifp hc hf
                      refine lv_iconst (v := (0 : Int32)) hx hb dX7_reachOf_138 (by decide) ?_
                      have hj := Option.some.inj hf
                      subst hj
                      exact J8 _ _ _ hW (lv_sub hl [1, 2, 3, 4, 5] rfl)
                    · replace hf := ifn hc hf
                      refine lv_iconst (v := (1 : Int32)) hx hb dX7_reachOf_126 (by decide) ?_
                      refine lv_aload_n hx hb dX7_reachOf_127 rfl (lv_at hl 1 rfl) ?_
                      refine x_get (ci := 7) (v := .ref (a 4)) (C := RX7) (T := TX7) (N := 44) hx hb hts inX7 hown hK hW 0 rfl rfl 3 (by decide) fl13 (fun _ h9 => h9) rfl dX7_reachOf_128 ?_
                      refine lv_iload hx hb dX7_reachOf_131 (lv_at hl 5 rfl) ?_
                      replace hf := gd_s hf; obtain ⟨hin, hf⟩ := hf
                      refine x_iald (n := 10) (f := g 4) hx hb hK hW 2 rfl (okI_in hin) dX7_reachOf_133 ?_
                      refine lv_ishl hx hb dX7_reachOf_134 ?_
                      refine lv_goto (tgt := 139) hx hb dX7_reachOf_135 (by decide) ?_
                      have hj := Option.some.inj hf
                      subst hj
                      exact J8 _ _ _ hW (lv_sub hl [1, 2, 3, 4, 5] rfl)
                  · have hf := ifp hc hg
                    clear hg
                    refine lv_aload_n hx hb dX7_reachOf_103 rfl (lv_at hl 1 rfl) ?_
                    refine x_get (ci := 7) (v := .int (g 13 0)) (C := RX7) (T := TX7) (N := 44) hx hb hts inX7 hown hK hW 0 rfl rfl 12 (by decide) fl204 (fun _ h9 => h9) rfl dX7_reachOf_104 ?_
                    refine lv_iconst (v := (1 : Int32)) hx hb dX7_reachOf_107 (by decide) ?_
                    refine lv_icmp_ne (tgt := 138) hx hb dX7_reachOf_108 (by decide) (fun hc => ?_) (fun hc => ?_)
                    · replace hf := ifn hc hf
                      refine lv_iconst (v := (0 : Int32)) hx hb dX7_reachOf_138 (by decide) ?_
                      have hj := Option.some.inj hf
                      subst hj
                      exact J8 _ _ _ hW (lv_sub hl [1, 2, 3, 4, 5] rfl)
                    · replace hf := ifp hc hf
                      refine lv_iload hx hb dX7_reachOf_111 (lv_at hl 0 rfl) ?_
                      refine lv_aload_n hx hb dX7_reachOf_113 rfl (lv_at hl 1 rfl) ?_
                      refine x_get (ci := 7) (v := .ref (a 5)) (C := RX7) (T := TX7) (N := 44) hx hb hts inX7 hown hK hW 0 rfl rfl 4 (by decide) fl16 (fun _ h9 => h9) rfl dX7_reachOf_114 ?_
                      refine lv_iload hx hb dX7_reachOf_117 (lv_at hl 5 rfl) ?_
                      replace hf := gd_s hf; obtain ⟨hin, hf⟩ := hf
                      refine x_iald (n := 10) (f := g 5) hx hb hK hW 3 rfl (okI_in hin) dX7_reachOf_119 ?_
                      replace hf := bs_ hf; obtain ⟨r10, hcl, hf⟩ := hf
                      refine x_callS_i (As := [.int (y2_4 ||| j6), .int (g 5 y2_6.toNatClampNeg)]) (rest := [.int (y2_4 ||| j6)]) ⟨hx, hb, hml, hown, hts⟩ (c_X7_has l N kd G ct (y2_4 ||| j6) (g 5 y2_6.toNatClampNeg) _ hcl) (va_cwS 2 hts gX7_reachOf_X7_has rfl rfl rfl (by decide +kernel) ⟨Nat.le_of_ble_eq_true rfl, Nat.le_of_ble_eq_true rfl⟩) hK hE hA hW rfl hl.1 rfl (lv_room (Nat.le_of_ble_eq_true rfl)) dX7_reachOf_120 (fun H locs hW => ?_)
                      refine lv_if_eq (tgt := 138) hx hb dX7_reachOf_123 (by decide) (fun hc => ?_) (fun hc => ?_)
                      · replace hf := ifp hc hf
                        refine lv_iconst (v := (0 : Int32)) hx hb dX7_reachOf_138 (by decide) ?_
                        have hj := Option.some.inj hf
                        subst hj
                        exact J8 _ _ _ hW (lv_sub hl [1, 2, 3, 4, 5] rfl)
                      · replace hf := ifn hc hf
                        refine lv_iconst (v := (1 : Int32)) hx hb dX7_reachOf_126 (by decide) ?_
                        refine lv_aload_n hx hb dX7_reachOf_127 rfl (lv_at hl 1 rfl) ?_
                        refine x_get (ci := 7) (v := .ref (a 4)) (C := RX7) (T := TX7) (N := 44) hx hb hts inX7 hown hK hW 0 rfl rfl 3 (by decide) fl13 (fun _ h9 => h9) rfl dX7_reachOf_128 ?_
                        refine lv_iload hx hb dX7_reachOf_131 (lv_at hl 5 rfl) ?_
                        replace hf := gd_s hf; obtain ⟨hin, hf⟩ := hf
                        refine x_iald (n := 10) (f := g 4) hx hb hK hW 2 rfl (okI_in hin) dX7_reachOf_133 ?_
                        refine lv_ishl hx hb dX7_reachOf_134 ?_
                        refine lv_goto (tgt := 139) hx hb dX7_reachOf_135 (by decide) ?_
                        have hj := Option.some.inj hf
                        subst hj
                        exact J8 _ _ _ hW (lv_sub hl [1, 2, 3, 4, 5] rfl)
                clear hf
                refine lv_if_eq (tgt := 92) hx hb dX7_reachOf_62 (by decide) (fun hc => ?_) (fun hc => ?_)
                · have hf := ifp hc hg
                  clear hg
                  refine lv_iconst (v := (0 : Int32)) hx hb dX7_reachOf_92 (by decide) ?_
                  have hj := Option.some.inj hf
                  subst hj
                  exact J6 _ _ _ hW (lv_sub hl [1, 2, 3, 5, 6, 0] rfl)
                · have hf := ifn hc hg
                  clear hg
                  refine lv_iload hx hb dX7_reachOf_65 (lv_at hl 4 rfl) ?_
                  refine lv_aload_n hx hb dX7_reachOf_67 rfl (lv_at hl 1 rfl) ?_
                  refine x_get (ci := 7) (v := .ref (a 4)) (C := RX7) (T := TX7) (N := 44) hx hb hts inX7 hown hK hW 0 rfl rfl 3 (by decide) fl13 (fun _ h9 => h9) rfl dX7_reachOf_68 ?_
                  refine lv_iload hx hb dX7_reachOf_71 (lv_at hl 6 rfl) ?_
                  replace hf := gd_s hf; obtain ⟨hin, hf⟩ := hf
                  refine x_iald (n := 10) (f := g 4) hx hb hK hW 2 rfl (okI_in hin) dX7_reachOf_73 ?_
                  replace hf := bs_ hf; obtain ⟨r7, hcl, hf⟩ := hf
                  refine x_callS_i (As := [.int y2_4, .int (g 4 y2_6.toNatClampNeg)]) (rest := [.int y2_4]) ⟨hx, hb, hml, hown, hts⟩ (c_X7_has l N kd G ct y2_4 (g 4 y2_6.toNatClampNeg) _ hcl) (va_cwS 2 hts gX7_reachOf_X7_has rfl rfl rfl (by decide +kernel) ⟨Nat.le_of_ble_eq_true rfl, Nat.le_of_ble_eq_true rfl⟩) hK hE hA hW rfl hl.1 rfl (lv_room (Nat.le_of_ble_eq_true rfl)) dX7_reachOf_74 (fun H locs hW => ?_)
                  refine lv_if_eq (tgt := 92) hx hb dX7_reachOf_77 (by decide) (fun hc => ?_) (fun hc => ?_)
                  · replace hf := ifp hc hf
                    refine lv_iconst (v := (0 : Int32)) hx hb dX7_reachOf_92 (by decide) ?_
                    have hj := Option.some.inj hf
                    subst hj
                    exact J6 _ _ _ hW (lv_sub hl [1, 2, 3, 5, 6, 0] rfl)
                  · replace hf := ifn hc hf
                    refine lv_iconst (v := (1 : Int32)) hx hb dX7_reachOf_80 (by decide) ?_
                    refine lv_aload_n hx hb dX7_reachOf_81 rfl (lv_at hl 1 rfl) ?_
                    refine x_get (ci := 7) (v := .ref (a 5)) (C := RX7) (T := TX7) (N := 44) hx hb hts inX7 hown hK hW 0 rfl rfl 4 (by decide) fl16 (fun _ h9 => h9) rfl dX7_reachOf_82 ?_
                    refine lv_iload hx hb dX7_reachOf_85 (lv_at hl 6 rfl) ?_
                    replace hf := gd_s hf; obtain ⟨hin, hf⟩ := hf
                    refine x_iald (n := 10) (f := g 5) hx hb hK hW 3 rfl (okI_in hin) dX7_reachOf_87 ?_
                    refine lv_ishl hx hb dX7_reachOf_88 ?_
                    refine lv_goto (tgt := 93) hx hb dX7_reachOf_89 (by decide) ?_
                    have hj := Option.some.inj hf
                    subst hj
                    exact J6 _ _ _ hW (lv_sub hl [1, 2, 3, 5, 6, 0] rfl)
              clear hf
              refine lv_if_ne (tgt := 51) hx hb dX7_reachOf_38 (by decide) (fun hc => ?_) (fun hc => ?_)
              · have hf := ifn hc hg
                clear hg
                refine lv_iconst (v := (1 : Int32)) hx hb dX7_reachOf_51 (by decide) ?_
                refine lv_goto (tgt := 56) hx hb dX7_reachOf_52 (by decide) ?_
                have hj := Option.some.inj hf
                subst hj
                exact J4 _ _ _ hW (lv_sub hl [0, 1, 2, 3, 4, 5] rfl)
              · have hf := ifp hc hg
                clear hg
                refine lv_aload_n hx hb dX7_reachOf_41 rfl (lv_at hl 0 rfl) ?_
                refine lv_iload hx hb dX7_reachOf_42 (lv_at hl 5 rfl) ?_
                refine lv_iload_n hx hb dX7_reachOf_44 rfl (lv_at hl 2 rfl) ?_
                replace hf := bs_ hf; obtain ⟨r5, hcl, hf⟩ := hf
                refine x_callW_i (w' := (wX7 a ct g sg)) (As := [.int y2_6, .int x3]) (rest := []) (ci := 7) ⟨hx, hb, hml, hown, hts⟩ (c_X7_isFit l N kd G ct a g sg y2_6 x3 _ hcl) (cwV 2 hts gX7_reachOf_X7_isFit rfl rfl rfl (by decide +kernel) ⟨Nat.le_of_ble_eq_true rfl, Nat.le_of_ble_eq_true rfl⟩) hK hE hA hW rfl rfl 0 rfl rfl rfl rfl hl.1 rfl (lv_room (Nat.le_of_ble_eq_true rfl)) dX7_reachOf_45 (fun H locs hW => ?_)
                refine lv_if_eq (tgt := 55) hx hb dX7_reachOf_48 (by decide) (fun hc => ?_) (fun hc => ?_)
                · replace hf := ifp hc hf
                  refine lv_iconst (v := (0 : Int32)) hx hb dX7_reachOf_55 (by decide) ?_
                  have hj := Option.some.inj hf
                  subst hj
                  exact J4 _ _ _ hW (lv_sub hl [0, 1, 2, 3, 4, 5] rfl)
                · replace hf := ifn hc hf
                  refine lv_iconst (v := (1 : Int32)) hx hb dX7_reachOf_51 (by decide) ?_
                  refine lv_goto (tgt := 56) hx hb dX7_reachOf_52 (by decide) ?_
                  have hj := Option.some.inj hf
                  subst hj
                  exact J4 _ _ _ hW (lv_sub hl [0, 1, 2, 3, 4, 5] rfl)
        exact L2 N y1_4 (0 : Int32) hg _ _ _ hW (lv_sub hl [2, 3, 4, 5, 1, 0] rfl)
  exact L1 N ((1 : Int32) <<< (x1 &&& 31)) (0 : Int32) hg _ _ _ hW (lv_sub hl [2, 4, 5, 1, 0] rfl)
set_option maxHeartbeats 4000000 in
set_option maxRecDepth 100000 in
theorem c_X7_reachOfPerson (l : Launch) (N : Nat) (kd : (Nat → Nat) × (Nat → Nat)) (G : va_G) (ct : Nat → ClassId) (a : Nat → Nat) (g : St_) (sg : Int64) (x1 : Int32) (o : Int32) (hf : f_X7_reachOfPerson N g x1 = some o) : CtI l yX7_reachOfPerson wsX7_reachOfPerson ({ frames := 2, cells := 0, slots := 0, locals := 52 }) kd G ct [.ref (a 0), .int x1] (wX7 a ct g sg) o (wX7 a ct g sg) := by
  intro sz
  refine Met.ofW (cc := cX7_reachOfPerson) (maxL := 2) (ret := (some .int)) (by decide) rfl ?_
  intro p e s m args below meth c s₁ B hml hv
  obtain ⟨rfl, hsz, hP, hK, hD0, hE⟩ := hv
  have hx := B.exec
  have hb := B.bytes
  have hr := B.returns
  have hts := atoms_spec (ws := wsX7_reachOfPerson) B.pre
  have hown : s.vm.findClass RX7 = some m.cls := findClass_of_methodNamed B.named
  have hlocks := B.notSynchronized
  have inX7 : ∀ w ∈ wsX70, w ∈ wsX7_reachOfPerson := by decide +kernel
  have fl28 := hts (.fieldLink RX7 28 "FittingStridesModel" "at" "[I") (by decide +kernel)
  have fl31 := hts (.fieldLink RX7 31 "FittingStridesModel" "first" "[I") (by decide +kernel)
  have fl34 := hts (.fieldLink RX7 34 "FittingStridesModel" "second" "[I") (by decide +kernel)
  subst hsz
  have hD := hD0.self (sz := s.heap.size)
  generalize hAe : va_A (wX7 a ct g sg) s.heap.size = A at hD hE ⊢
  have hA : ∀ q : Nat, s.heap.size ≤ q → A q := fun q h => by rw [← hAe]; exact Or.inr h
  have hW : WW G A s.heap (wX7 a ct g sg) s.heap [] := ⟨hP, hD, va_S.rf⟩
  have hl := lv_entry ([.ref (a 0), .int x1]) (n := 2) (Nat.le_of_ble_eq_true rfl)
  rw [lg_entry_eq]
  generalize (lg_sl ([.ref (a 0), .int x1]) ++ List.replicate (2 - (lg_sl ([.ref (a 0), .int x1])).length) Slot.unset).toArray = ls at hl ⊢
  have hl : lv_has ls 2 [(0, .ref (a 0)), (1, .int x1)] := hl
  unfold f_X7_reachOfPerson at hf
  show W p l e ({ frames := 2, cells := 0, slots := 0, locals := 52 } : Room) s m (List.toArray [.ref (a 0), .int x1]) below meth c s.heap [] 0 0 (MQ below (va_Qi (fun r (_ : Unit) => r = o) (fun _ t => Af_ G ct (wX7 a ct g sg) A t) A) (List.toArray [.ref (a 0), .int x1]) s 0 0 A) (F0 m 0 ls [])
  refine lv_aload_n hx hb dX7_reachOfPerson_0 rfl (lv_at hl 0 rfl) ?_
  refine lv_aload_n hx hb dX7_reachOfPerson_1 rfl (lv_at hl 0 rfl) ?_
  refine x_get (ci := 7) (v := .ref (a 10)) (C := RX7) (T := TX7) (N := 44) hx hb hts inX7 hown hK hW 0 rfl rfl 9 (by decide) fl28 (fun _ h9 => h9) rfl dX7_reachOfPerson_2 ?_
  refine lv_iload_n hx hb dX7_reachOfPerson_5 rfl (lv_at hl 1 rfl) ?_
  replace hf := gd_s hf; obtain ⟨hin, hf⟩ := hf
  refine x_iald (n := 8) (f := g 10) hx hb hK hW 7 rfl (okI_in hin) dX7_reachOfPerson_6 ?_
  refine lv_aload_n hx hb dX7_reachOfPerson_7 rfl (lv_at hl 0 rfl) ?_
  refine x_get (ci := 7) (v := .ref (a 11)) (C := RX7) (T := TX7) (N := 44) hx hb hts inX7 hown hK hW 0 rfl rfl 10 (by decide) fl31 (fun _ h9 => h9) rfl dX7_reachOfPerson_8 ?_
  refine lv_iload_n hx hb dX7_reachOfPerson_11 rfl (lv_at hl 1 rfl) ?_
  replace hf := gd_s hf; obtain ⟨hin, hf⟩ := hf
  refine x_iald (n := 8) (f := g 11) hx hb hK hW 8 rfl (okI_in hin) dX7_reachOfPerson_12 ?_
  refine lv_aload_n hx hb dX7_reachOfPerson_13 rfl (lv_at hl 0 rfl) ?_
  refine x_get (ci := 7) (v := .ref (a 12)) (C := RX7) (T := TX7) (N := 44) hx hb hts inX7 hown hK hW 0 rfl rfl 11 (by decide) fl34 (fun _ h9 => h9) rfl dX7_reachOfPerson_14 ?_
  refine lv_iload_n hx hb dX7_reachOfPerson_17 rfl (lv_at hl 1 rfl) ?_
  replace hf := gd_s hf; obtain ⟨hin, hf⟩ := hf
  refine x_iald (n := 8) (f := g 12) hx hb hK hW 9 rfl (okI_in hin) dX7_reachOfPerson_18 ?_
  replace hf := bs_ hf; obtain ⟨r1, hcl, hf⟩ := hf
  refine x_callW_i (w' := (wX7 a ct g sg)) (As := [.int (g 10 x1.toNatClampNeg), .int (g 11 x1.toNatClampNeg), .int (g 12 x1.toNatClampNeg)]) (rest := []) (ci := 7) ⟨hx, hb, hml, hown, hts⟩ (c_X7_reachOf l N kd G ct a g sg (g 10 x1.toNatClampNeg) (g 11 x1.toNatClampNeg) (g 12 x1.toNatClampNeg) _ hcl) (cwV 3 hts gX7_reachOfPerson_X7_reachOf rfl rfl rfl (by decide +kernel) ⟨Nat.le_of_ble_eq_true rfl, Nat.le_of_ble_eq_true rfl⟩) hK hE hA hW rfl rfl 0 rfl rfl rfl rfl hl.1 rfl (lv_room (Nat.le_of_ble_eq_true rfl)) dX7_reachOfPerson_19 (fun H locs hW => ?_)
  have ho := Option.some.inj hf
  subst ho
  exact x_reti (sz := 0) (w0 := []) (A1 := A) hx hb hr hlocks hK hW rfl rfl dX7_reachOfPerson_22
set_option maxHeartbeats 4000000 in
set_option maxRecDepth 100000 in
theorem c_X7_person (l : Launch) (N : Nat) (kd : (Nat → Nat) × (Nat → Nat)) (G : va_G) (ct : Nat → ClassId) (a : Nat → Nat) (g : St_) (sg : Int64) (x1 : Int32) (x2 : Int32) (o : Int32) (hf : f_X7_person N g x1 x2 = some o) : CtI l yX7_person wsX7_person ({ frames := 3, cells := 0, slots := 0, locals := 73 }) kd G ct [.ref (a 0), .int x1, .int x2] (wX7 a ct g sg) o (wX7 a ct g sg) := by
  intro sz
  refine Met.ofW (cc := cX7_person) (maxL := 3) (ret := (some .int)) (by decide) rfl ?_
  intro p e s m args below meth c s₁ B hml hv
  obtain ⟨rfl, hsz, hP, hK, hD0, hE⟩ := hv
  have hx := B.exec
  have hb := B.bytes
  have hr := B.returns
  have hts := atoms_spec (ws := wsX7_person) B.pre
  have hown : s.vm.findClass RX7 = some m.cls := findClass_of_methodNamed B.named
  have hlocks := B.notSynchronized
  have inX7 : ∀ w ∈ wsX70, w ∈ wsX7_person := by decide +kernel
  have fl28 := hts (.fieldLink RX7 28 "FittingStridesModel" "at" "[I") (by decide +kernel)
  have fl31 := hts (.fieldLink RX7 31 "FittingStridesModel" "first" "[I") (by decide +kernel)
  have fl34 := hts (.fieldLink RX7 34 "FittingStridesModel" "second" "[I") (by decide +kernel)
  have fl111 := hts (.constant RX7 111 (-1000000002)) (by decide +kernel)
  have fl221 := hts (.constant RX7 221 (-1000000001)) (by decide +kernel)
  subst hsz
  have hD := hD0.self (sz := s.heap.size)
  generalize hAe : va_A (wX7 a ct g sg) s.heap.size = A at hD hE ⊢
  have hA : ∀ q : Nat, s.heap.size ≤ q → A q := fun q h => by rw [← hAe]; exact Or.inr h
  have hW : WW G A s.heap (wX7 a ct g sg) s.heap [] := ⟨hP, hD, va_S.rf⟩
  have hl := lv_entry ([.ref (a 0), .int x1, .int x2]) (n := 3) (Nat.le_of_ble_eq_true rfl)
  rw [lg_entry_eq]
  generalize (lg_sl ([.ref (a 0), .int x1, .int x2]) ++ List.replicate (3 - (lg_sl ([.ref (a 0), .int x1, .int x2])).length) Slot.unset).toArray = ls at hl ⊢
  have hl : lv_has ls 3 [(0, .ref (a 0)), (1, .int x1), (2, .int x2)] := hl
  unfold f_X7_person at hf
  show W p l e ({ frames := 3, cells := 0, slots := 0, locals := 73 } : Room) s m (List.toArray [.ref (a 0), .int x1, .int x2]) below meth c s.heap [] 0 0 (MQ below (va_Qi (fun r (_ : Unit) => r = o) (fun _ t => Af_ G ct (wX7 a ct g sg) A t) A) (List.toArray [.ref (a 0), .int x1, .int x2]) s 0 0 A) (F0 m 0 ls [])
  refine lv_aload_n hx hb dX7_person_0 rfl (lv_at hl 0 rfl) ?_
  refine lv_iload_n hx hb dX7_person_1 rfl (lv_at hl 1 rfl) ?_
  replace hf := bs_ hf; obtain ⟨r1, hcl, hf⟩ := hf
  refine x_callW_i (w' := (wX7 a ct g sg)) (As := [.int x1]) (rest := []) (ci := 7) ⟨hx, hb, hml, hown, hts⟩ (c_X7_isPerson l N kd G ct a g sg x1 _ hcl) (cwV 1 hts gX7_person_X7_isPerson rfl rfl rfl (by decide +kernel) ⟨Nat.le_of_ble_eq_true rfl, Nat.le_of_ble_eq_true rfl⟩) hK hE hA hW rfl rfl 0 rfl rfl rfl rfl hl.1 rfl (lv_room (Nat.le_of_ble_eq_true rfl)) dX7_person_2 (fun H locs hW => ?_)
  refine lv_if_ne (tgt := 11) hx hb dX7_person_5 (by decide) (fun hc => ?_) (fun hc => ?_)
  · replace hf := ifn hc hf
    refine lv_iload_n hx hb dX7_person_11 rfl (lv_at hl 2 rfl) ?_
    refine lv_if_ne (tgt := 24) hx hb dX7_person_12 (by decide) (fun hc => ?_) (fun hc => ?_)
    · replace hf := ifn hc hf
      refine lv_iload_n hx hb dX7_person_24 rfl (lv_at hl 2 rfl) ?_
      refine lv_iconst (v := (1 : Int32)) hx hb dX7_person_25 (by decide) ?_
      refine lv_icmp_ne (tgt := 38) hx hb dX7_person_26 (by decide) (fun hc => ?_) (fun hc => ?_)
      · replace hf := ifn hc hf
        refine lv_iload_n hx hb dX7_person_38 rfl (lv_at hl 2 rfl) ?_
        refine lv_iconst (v := (2 : Int32)) hx hb dX7_person_39 (by decide) ?_
        refine lv_icmp_ne (tgt := 52) hx hb dX7_person_40 (by decide) (fun hc => ?_) (fun hc => ?_)
        · replace hf := ifn hc hf
          refine lv_iload_n hx hb dX7_person_52 rfl (lv_at hl 2 rfl) ?_
          refine lv_iconst (v := (3 : Int32)) hx hb dX7_person_53 (by decide) ?_
          refine lv_icmp_ne (tgt := 65) hx hb dX7_person_54 (by decide) (fun hc => ?_) (fun hc => ?_)
          · replace hf := ifn hc hf
            refine lv_ldc (v := (-1000000002 : Int32)) hx hb hown fl111 dX7_person_65 ?_
            have ho := Option.some.inj hf
            subst ho
            exact x_reti (sz := 0) (w0 := []) (A1 := A) hx hb hr hlocks hK hW rfl rfl dX7_person_67
          · replace hf := ifp hc hf
            refine lv_aload_n hx hb dX7_person_57 rfl (lv_at hl 0 rfl) ?_
            refine lv_iload_n hx hb dX7_person_58 rfl (lv_at hl 1 rfl) ?_
            replace hf := bs_ hf; obtain ⟨r2, hcl, hf⟩ := hf
            refine x_callW_i (w' := (wX7 a ct g sg)) (As := [.int x1]) (rest := []) (ci := 7) ⟨hx, hb, hml, hown, hts⟩ (c_X7_reachOfPerson l N kd G ct a g sg x1 _ hcl) (cwV 1 hts gX7_person_X7_reachOfPerson rfl rfl rfl (by decide +kernel) ⟨Nat.le_of_ble_eq_true rfl, Nat.le_of_ble_eq_true rfl⟩) hK hE hA hW rfl rfl 0 rfl rfl rfl rfl hl.1 rfl (lv_room (Nat.le_of_ble_eq_true rfl)) dX7_person_59 (fun H locs hW => ?_)
            refine lv_goto (tgt := 67) hx hb dX7_person_62 (by decide) ?_
            have ho := Option.some.inj hf
            subst ho
            exact x_reti (sz := 0) (w0 := []) (A1 := A) hx hb hr hlocks hK hW rfl rfl dX7_person_67
        · replace hf := ifp hc hf
          refine lv_aload_n hx hb dX7_person_43 rfl (lv_at hl 0 rfl) ?_
          refine x_get (ci := 7) (v := .ref (a 12)) (C := RX7) (T := TX7) (N := 44) hx hb hts inX7 hown hK hW 0 rfl rfl 11 (by decide) fl34 (fun _ h9 => h9) rfl dX7_person_44 ?_
          refine lv_iload_n hx hb dX7_person_47 rfl (lv_at hl 1 rfl) ?_
          replace hf := gd_s hf; obtain ⟨hin, hf⟩ := hf
          refine x_iald (n := 8) (f := g 12) hx hb hK hW 9 rfl (okI_in hin) dX7_person_48 ?_
          refine lv_goto (tgt := 67) hx hb dX7_person_49 (by decide) ?_
          have ho := Option.some.inj hf
          subst ho
          exact x_reti (sz := 0) (w0 := []) (A1 := A) hx hb hr hlocks hK hW rfl rfl dX7_person_67
      · replace hf := ifp hc hf
        refine lv_aload_n hx hb dX7_person_29 rfl (lv_at hl 0 rfl) ?_
        refine x_get (ci := 7) (v := .ref (a 11)) (C := RX7) (T := TX7) (N := 44) hx hb hts inX7 hown hK hW 0 rfl rfl 10 (by decide) fl31 (fun _ h9 => h9) rfl dX7_person_30 ?_
        refine lv_iload_n hx hb dX7_person_33 rfl (lv_at hl 1 rfl) ?_
        replace hf := gd_s hf; obtain ⟨hin, hf⟩ := hf
        refine x_iald (n := 8) (f := g 11) hx hb hK hW 8 rfl (okI_in hin) dX7_person_34 ?_
        refine lv_goto (tgt := 67) hx hb dX7_person_35 (by decide) ?_
        have ho := Option.some.inj hf
        subst ho
        exact x_reti (sz := 0) (w0 := []) (A1 := A) hx hb hr hlocks hK hW rfl rfl dX7_person_67
    · replace hf := ifp hc hf
      refine lv_aload_n hx hb dX7_person_15 rfl (lv_at hl 0 rfl) ?_
      refine x_get (ci := 7) (v := .ref (a 10)) (C := RX7) (T := TX7) (N := 44) hx hb hts inX7 hown hK hW 0 rfl rfl 9 (by decide) fl28 (fun _ h9 => h9) rfl dX7_person_16 ?_
      refine lv_iload_n hx hb dX7_person_19 rfl (lv_at hl 1 rfl) ?_
      replace hf := gd_s hf; obtain ⟨hin, hf⟩ := hf
      refine x_iald (n := 8) (f := g 10) hx hb hK hW 7 rfl (okI_in hin) dX7_person_20 ?_
      refine lv_goto (tgt := 67) hx hb dX7_person_21 (by decide) ?_
      have ho := Option.some.inj hf
      subst ho
      exact x_reti (sz := 0) (w0 := []) (A1 := A) hx hb hr hlocks hK hW rfl rfl dX7_person_67
  · replace hf := ifp hc hf
    refine lv_ldc (v := (-1000000001 : Int32)) hx hb hown fl221 dX7_person_8 ?_
    have ho := Option.some.inj hf
    subst ho
    exact x_reti (sz := 0) (w0 := []) (A1 := A) hx hb hr hlocks hK hW rfl rfl dX7_person_10
set_option maxHeartbeats 4000000 in
set_option maxRecDepth 100000 in
theorem c_X7_fit (l : Launch) (N : Nat) (kd : (Nat → Nat) × (Nat → Nat)) (G : va_G) (ct : Nat → ClassId) (a : Nat → Nat) (g : St_) (sg : Int64) (x1 : Int32) (x2 : Int32) (o : Int32) (hf : f_X7_fit N g x1 x2 = some o) : CtI l yX7_fit wsX7_fit ({ frames := 2, cells := 0, slots := 0, locals := 46 }) kd G ct [.ref (a 0), .int x1, .int x2] (wX7 a ct g sg) o (wX7 a ct g sg) := by
  intro sz
  refine Met.ofW (cc := cX7_fit) (maxL := 3) (ret := (some .int)) (by decide) rfl ?_
  intro p e s m args below meth c s₁ B hml hv
  obtain ⟨rfl, hsz, hP, hK, hD0, hE⟩ := hv
  have hx := B.exec
  have hb := B.bytes
  have hr := B.returns
  have hts := atoms_spec (ws := wsX7_fit) B.pre
  have hown : s.vm.findClass RX7 = some m.cls := findClass_of_methodNamed B.named
  have hlocks := B.notSynchronized
  have fl111 := hts (.constant RX7 111 (-1000000002)) (by decide +kernel)
  have fl221 := hts (.constant RX7 221 (-1000000001)) (by decide +kernel)
  have fl238 := hts (.constantLong RX7 238 (24)) (by decide +kernel)
  subst hsz
  have hD := hD0.self (sz := s.heap.size)
  generalize hAe : va_A (wX7 a ct g sg) s.heap.size = A at hD hE ⊢
  have hA : ∀ q : Nat, s.heap.size ≤ q → A q := fun q h => by rw [← hAe]; exact Or.inr h
  have hW : WW G A s.heap (wX7 a ct g sg) s.heap [] := ⟨hP, hD, va_S.rf⟩
  have hl := lv_entry ([.ref (a 0), .int x1, .int x2]) (n := 3) (Nat.le_of_ble_eq_true rfl)
  rw [lg_entry_eq]
  generalize (lg_sl ([.ref (a 0), .int x1, .int x2]) ++ List.replicate (3 - (lg_sl ([.ref (a 0), .int x1, .int x2])).length) Slot.unset).toArray = ls at hl ⊢
  have hl : lv_has ls 3 [(0, .ref (a 0)), (1, .int x1), (2, .int x2)] := hl
  unfold f_X7_fit at hf
  show W p l e ({ frames := 2, cells := 0, slots := 0, locals := 46 } : Room) s m (List.toArray [.ref (a 0), .int x1, .int x2]) below meth c s.heap [] 0 0 (MQ below (va_Qi (fun r (_ : Unit) => r = o) (fun _ t => Af_ G ct (wX7 a ct g sg) A t) A) (List.toArray [.ref (a 0), .int x1, .int x2]) s 0 0 A) (F0 m 0 ls [])
  refine lv_aload_n hx hb dX7_fit_0 rfl (lv_at hl 0 rfl) ?_
  refine lv_iload_n hx hb dX7_fit_1 rfl (lv_at hl 1 rfl) ?_
  replace hf := bs_ hf; obtain ⟨r1, hcl, hf⟩ := hf
  refine x_callW_i (w' := (wX7 a ct g sg)) (As := [.int x1]) (rest := []) (ci := 7) ⟨hx, hb, hml, hown, hts⟩ (c_X7_isStair l N kd G ct a g sg x1 _ hcl) (cwV 1 hts gX7_fit_X7_isStair rfl rfl rfl (by decide +kernel) ⟨Nat.le_of_ble_eq_true rfl, Nat.le_of_ble_eq_true rfl⟩) hK hE hA hW rfl rfl 0 rfl rfl rfl rfl hl.1 rfl (lv_room (Nat.le_of_ble_eq_true rfl)) dX7_fit_2 (fun H locs hW => ?_)
  refine lv_if_ne (tgt := 11) hx hb dX7_fit_5 (by decide) (fun hc => ?_) (fun hc => ?_)
  · replace hf := ifn hc hf
    refine lv_iload_n hx hb dX7_fit_11 rfl (lv_at hl 2 rfl) ?_
    refine lv_i2l hx hb dX7_fit_12 rfl ?_
    refine lv_lconst (v := (1 : Int64)) hx hb dX7_fit_13 (by decide) ?_
    refine lv_ldc2 (v := (24 : Int64)) hx hb hown fl238 dX7_fit_14 ?_
    replace hf := bs_ hf; obtain ⟨r2, hcl, hf⟩ := hf
    refine x_callS_i (As := [.long x2.toInt64, .long (1 : Int64), .long (24 : Int64)]) (rest := []) ⟨hx, hb, hml, hown, hts⟩ (c_X7_in l N kd G ct x2.toInt64 (1 : Int64) (24 : Int64) _ hcl) (va_cwS 3 hts gX7_fit_X7_in rfl rfl rfl (by decide +kernel) ⟨Nat.le_of_ble_eq_true rfl, Nat.le_of_ble_eq_true rfl⟩) hK hE hA hW rfl hl.1 rfl (lv_room (Nat.le_of_ble_eq_true rfl)) dX7_fit_17 (fun H locs hW => ?_)
    refine lv_if_ne (tgt := 28) hx hb dX7_fit_20 (by decide) (fun hc => ?_) (fun hc => ?_)
    · replace hf := ifn hc hf
      refine lv_aload_n hx hb dX7_fit_28 rfl (lv_at hl 0 rfl) ?_
      refine lv_iload_n hx hb dX7_fit_29 rfl (lv_at hl 1 rfl) ?_
      refine lv_iload_n hx hb dX7_fit_30 rfl (lv_at hl 2 rfl) ?_
      replace hf := bs_ hf; obtain ⟨r3, hcl, hf⟩ := hf
      refine x_callW_i (w' := (wX7 a ct g sg)) (As := [.int x1, .int x2]) (rest := []) (ci := 7) ⟨hx, hb, hml, hown, hts⟩ (c_X7_isFit l N kd G ct a g sg x1 x2 _ hcl) (cwV 2 hts gX7_fit_X7_isFit rfl rfl rfl (by decide +kernel) ⟨Nat.le_of_ble_eq_true rfl, Nat.le_of_ble_eq_true rfl⟩) hK hE hA hW rfl rfl 0 rfl rfl rfl rfl hl.1 rfl (lv_room (Nat.le_of_ble_eq_true rfl)) dX7_fit_31 (fun H locs hW => ?_)
      refine lv_if_eq (tgt := 41) hx hb dX7_fit_34 (by decide) (fun hc => ?_) (fun hc => ?_)
      · replace hf := ifp hc hf
        refine lv_iconst (v := (0 : Int32)) hx hb dX7_fit_41 (by decide) ?_
        have ho := Option.some.inj hf
        subst ho
        exact x_reti (sz := 0) (w0 := []) (A1 := A) hx hb hr hlocks hK hW rfl rfl dX7_fit_42
      · replace hf := ifn hc hf
        refine lv_iconst (v := (1 : Int32)) hx hb dX7_fit_37 (by decide) ?_
        refine lv_goto (tgt := 42) hx hb dX7_fit_38 (by decide) ?_
        have ho := Option.some.inj hf
        subst ho
        exact x_reti (sz := 0) (w0 := []) (A1 := A) hx hb hr hlocks hK hW rfl rfl dX7_fit_42
    · replace hf := ifp hc hf
      refine lv_ldc (v := (-1000000002 : Int32)) hx hb hown fl111 dX7_fit_23 ?_
      refine lv_goto (tgt := 42) hx hb dX7_fit_25 (by decide) ?_
      have ho := Option.some.inj hf
      subst ho
      exact x_reti (sz := 0) (w0 := []) (A1 := A) hx hb hr hlocks hK hW rfl rfl dX7_fit_42
  · replace hf := ifp hc hf
    refine lv_ldc (v := (-1000000001 : Int32)) hx hb hown fl221 dX7_fit_8 ?_
    have ho := Option.some.inj hf
    subst ho
    exact x_reti (sz := 0) (w0 := []) (A1 := A) hx hb hr hlocks hK hW rfl rfl dX7_fit_10
set_option maxHeartbeats 4000000 in
set_option maxRecDepth 100000 in
theorem c_X7_canGo (l : Launch) (N : Nat) (kd : (Nat → Nat) × (Nat → Nat)) (G : va_G) (ct : Nat → ClassId) (a : Nat → Nat) (g : St_) (sg : Int64) (x1 : Int32) (x2 : Int32) (o : Int32) (hf : f_X7_canGo N g x1 x2 = some o) : CtI l yX7_canGo wsX7_canGo ({ frames := 2, cells := 0, slots := 0, locals := 47 }) kd G ct [.ref (a 0), .int x1, .int x2] (wX7 a ct g sg) o (wX7 a ct g sg) := by
  intro sz
  refine Met.ofW (cc := cX7_canGo) (maxL := 3) (ret := (some .boolean)) (by decide) rfl ?_
  intro p e s m args below meth c s₁ B hml hv
  obtain ⟨rfl, hsz, hP, hK, hD0, hE⟩ := hv
  have hx := B.exec
  have hb := B.bytes
  have hr := B.returns
  have hts := atoms_spec (ws := wsX7_canGo) B.pre
  have hown : s.vm.findClass RX7 = some m.cls := findClass_of_methodNamed B.named
  have hlocks := B.notSynchronized
  have inX7 : ∀ w ∈ wsX70, w ∈ wsX7_canGo := by decide +kernel
  have fl13 := hts (.fieldLink RX7 13 "FittingStridesModel" "low" "[I") (by decide +kernel)
  have fl16 := hts (.fieldLink RX7 16 "FittingStridesModel" "high" "[I") (by decide +kernel)
  have fl28 := hts (.fieldLink RX7 28 "FittingStridesModel" "at" "[I") (by decide +kernel)
  have fl204 := hts (.fieldLink RX7 204 "FittingStridesModel" "law" "I") (by decide +kernel)
  subst hsz
  have hD := hD0.self (sz := s.heap.size)
  generalize hAe : va_A (wX7 a ct g sg) s.heap.size = A at hD hE ⊢
  have hA : ∀ q : Nat, s.heap.size ≤ q → A q := fun q h => by rw [← hAe]; exact Or.inr h
  have hW : WW G A s.heap (wX7 a ct g sg) s.heap [] := ⟨hP, hD, va_S.rf⟩
  have hl := lv_entry ([.ref (a 0), .int x1, .int x2]) (n := 3) (Nat.le_of_ble_eq_true rfl)
  rw [lg_entry_eq]
  generalize (lg_sl ([.ref (a 0), .int x1, .int x2]) ++ List.replicate (3 - (lg_sl ([.ref (a 0), .int x1, .int x2])).length) Slot.unset).toArray = ls at hl ⊢
  have hl : lv_has ls 3 [(0, .ref (a 0)), (1, .int x1), (2, .int x2)] := hl
  unfold f_X7_canGo at hf
  show W p l e ({ frames := 2, cells := 0, slots := 0, locals := 47 } : Room) s m (List.toArray [.ref (a 0), .int x1, .int x2]) below meth c s.heap [] 0 0 (MQ below (va_Qi (fun r (_ : Unit) => r = o) (fun _ t => Af_ G ct (wX7 a ct g sg) A t) A) (List.toArray [.ref (a 0), .int x1, .int x2]) s 0 0 A) (F0 m 0 ls [])
  refine lv_aload_n hx hb dX7_canGo_0 rfl (lv_at hl 0 rfl) ?_
  refine x_get (ci := 7) (v := .ref (a 10)) (C := RX7) (T := TX7) (N := 44) hx hb hts inX7 hown hK hW 0 rfl rfl 9 (by decide) fl28 (fun _ h9 => h9) rfl dX7_canGo_1 ?_
  refine lv_iload_n hx hb dX7_canGo_4 rfl (lv_at hl 1 rfl) ?_
  replace hf := gd_s hf; obtain ⟨hin, hf⟩ := hf
  refine x_iald (n := 8) (f := g 10) hx hb hK hW 7 rfl (okI_in hin) dX7_canGo_5 ?_
  refine lv_aload_n hx hb dX7_canGo_6 rfl (lv_at hl 0 rfl) ?_
  refine x_get (ci := 7) (v := .ref (a 4)) (C := RX7) (T := TX7) (N := 44) hx hb hts inX7 hown hK hW 0 rfl rfl 3 (by decide) fl13 (fun _ h9 => h9) rfl dX7_canGo_7 ?_
  refine lv_iload_n hx hb dX7_canGo_10 rfl (lv_at hl 2 rfl) ?_
  replace hf := gd_s hf; obtain ⟨hin, hf⟩ := hf
  refine x_iald (n := 10) (f := g 4) hx hb hK hW 2 rfl (okI_in hin) dX7_canGo_11 ?_
  refine lv_icmp_ne (tgt := 24) hx hb dX7_canGo_12 (by decide) (fun hc => ?_) (fun hc => ?_)
  · replace hf := ifn hc hf
    refine lv_aload_n hx hb dX7_canGo_24 rfl (lv_at hl 0 rfl) ?_
    refine x_get (ci := 7) (v := .ref (a 10)) (C := RX7) (T := TX7) (N := 44) hx hb hts inX7 hown hK hW 0 rfl rfl 9 (by decide) fl28 (fun _ h9 => h9) rfl dX7_canGo_25 ?_
    refine lv_iload_n hx hb dX7_canGo_28 rfl (lv_at hl 1 rfl) ?_
    replace hf := gd_s hf; obtain ⟨hin, hf⟩ := hf
    refine x_iald (n := 8) (f := g 10) hx hb hK hW 7 rfl (okI_in hin) dX7_canGo_29 ?_
    refine lv_aload_n hx hb dX7_canGo_30 rfl (lv_at hl 0 rfl) ?_
    refine x_get (ci := 7) (v := .ref (a 5)) (C := RX7) (T := TX7) (N := 44) hx hb hts inX7 hown hK hW 0 rfl rfl 4 (by decide) fl16 (fun _ h9 => h9) rfl dX7_canGo_31 ?_
    refine lv_iload_n hx hb dX7_canGo_34 rfl (lv_at hl 2 rfl) ?_
    replace hf := gd_s hf; obtain ⟨hin, hf⟩ := hf
    refine x_iald (n := 10) (f := g 5) hx hb hK hW 3 rfl (okI_in hin) dX7_canGo_35 ?_
    refine lv_icmp_ne (tgt := 60) hx hb dX7_canGo_36 (by decide) (fun hc => ?_) (fun hc => ?_)
    · replace hf := ifn hc hf
      refine lv_iconst (v := (0 : Int32)) hx hb dX7_canGo_60 (by decide) ?_
      have ho := Option.some.inj hf
      subst ho
      exact x_retz hx hb hr rfl hlocks hK hW rfl rfl dX7_canGo_61
    · replace hf := ifp hc hf
      refine lv_aload_n hx hb dX7_canGo_39 rfl (lv_at hl 0 rfl) ?_
      refine x_get (ci := 7) (v := .int (g 13 0)) (C := RX7) (T := TX7) (N := 44) hx hb hts inX7 hown hK hW 0 rfl rfl 12 (by decide) fl204 (fun _ h9 => h9) rfl dX7_canGo_40 ?_
      refine lv_iconst (v := (1 : Int32)) hx hb dX7_canGo_43 (by decide) ?_
      refine lv_icmp_eq (tgt := 56) hx hb dX7_canGo_44 (by decide) (fun hc => ?_) (fun hc => ?_)
      · replace hf := ifp hc hf
        refine lv_iconst (v := (1 : Int32)) hx hb dX7_canGo_56 (by decide) ?_
        refine lv_goto (tgt := 61) hx hb dX7_canGo_57 (by decide) ?_
        have ho := Option.some.inj hf
        subst ho
        exact x_retz hx hb hr rfl hlocks hK hW rfl rfl dX7_canGo_61
      · replace hf := ifn hc hf
        refine lv_aload_n hx hb dX7_canGo_47 rfl (lv_at hl 0 rfl) ?_
        refine lv_iload_n hx hb dX7_canGo_48 rfl (lv_at hl 1 rfl) ?_
        refine lv_iload_n hx hb dX7_canGo_49 rfl (lv_at hl 2 rfl) ?_
        replace hf := bs_ hf; obtain ⟨r1, hcl, hf⟩ := hf
        refine x_callW_i (w' := (wX7 a ct g sg)) (As := [.int x1, .int x2]) (rest := []) (ci := 7) ⟨hx, hb, hml, hown, hts⟩ (c_X7_mayClimb l N kd G ct a g sg x1 x2 _ hcl) (cwV 2 hts gX7_canGo_X7_mayClimb rfl rfl rfl (by decide +kernel) ⟨Nat.le_of_ble_eq_true rfl, Nat.le_of_ble_eq_true rfl⟩) hK hE hA hW rfl rfl 0 rfl rfl rfl rfl hl.1 rfl (lv_room (Nat.le_of_ble_eq_true rfl)) dX7_canGo_50 (fun H locs hW => ?_)
        refine lv_if_eq (tgt := 60) hx hb dX7_canGo_53 (by decide) (fun hc => ?_) (fun hc => ?_)
        · replace hf := ifp hc hf
          refine lv_iconst (v := (0 : Int32)) hx hb dX7_canGo_60 (by decide) ?_
          have ho := Option.some.inj hf
          subst ho
          exact x_retz hx hb hr rfl hlocks hK hW rfl rfl dX7_canGo_61
        · replace hf := ifn hc hf
          refine lv_iconst (v := (1 : Int32)) hx hb dX7_canGo_56 (by decide) ?_
          refine lv_goto (tgt := 61) hx hb dX7_canGo_57 (by decide) ?_
          have ho := Option.some.inj hf
          subst ho
          exact x_retz hx hb hr rfl hlocks hK hW rfl rfl dX7_canGo_61
  · replace hf := ifp hc hf
    refine lv_aload_n hx hb dX7_canGo_15 rfl (lv_at hl 0 rfl) ?_
    refine lv_iload_n hx hb dX7_canGo_16 rfl (lv_at hl 1 rfl) ?_
    refine lv_iload_n hx hb dX7_canGo_17 rfl (lv_at hl 2 rfl) ?_
    replace hf := bs_ hf; obtain ⟨r2, hcl, hf⟩ := hf
    refine x_callW_i (w' := (wX7 a ct g sg)) (As := [.int x1, .int x2]) (rest := []) (ci := 7) ⟨hx, hb, hml, hown, hts⟩ (c_X7_mayClimb l N kd G ct a g sg x1 x2 _ hcl) (cwV 2 hts gX7_canGo_X7_mayClimb rfl rfl rfl (by decide +kernel) ⟨Nat.le_of_ble_eq_true rfl, Nat.le_of_ble_eq_true rfl⟩) hK hE hA hW rfl rfl 0 rfl rfl rfl rfl hl.1 rfl (lv_room (Nat.le_of_ble_eq_true rfl)) dX7_canGo_18 (fun H locs hW => ?_)
    refine lv_if_ne (tgt := 56) hx hb dX7_canGo_21 (by decide) (fun hc => ?_) (fun hc => ?_)
    · replace hf := ifn hc hf
      refine lv_iconst (v := (1 : Int32)) hx hb dX7_canGo_56 (by decide) ?_
      refine lv_goto (tgt := 61) hx hb dX7_canGo_57 (by decide) ?_
      have ho := Option.some.inj hf
      subst ho
      exact x_retz hx hb hr rfl hlocks hK hW rfl rfl dX7_canGo_61
    · replace hf := ifp hc hf
      refine lv_aload_n hx hb dX7_canGo_24 rfl (lv_at hl 0 rfl) ?_
      refine x_get (ci := 7) (v := .ref (a 10)) (C := RX7) (T := TX7) (N := 44) hx hb hts inX7 hown hK hW 0 rfl rfl 9 (by decide) fl28 (fun _ h9 => h9) rfl dX7_canGo_25 ?_
      refine lv_iload_n hx hb dX7_canGo_28 rfl (lv_at hl 1 rfl) ?_
      replace hf := gd_s hf; obtain ⟨hin, hf⟩ := hf
      refine x_iald (n := 8) (f := g 10) hx hb hK hW 7 rfl (okI_in hin) dX7_canGo_29 ?_
      refine lv_aload_n hx hb dX7_canGo_30 rfl (lv_at hl 0 rfl) ?_
      refine x_get (ci := 7) (v := .ref (a 5)) (C := RX7) (T := TX7) (N := 44) hx hb hts inX7 hown hK hW 0 rfl rfl 4 (by decide) fl16 (fun _ h9 => h9) rfl dX7_canGo_31 ?_
      refine lv_iload_n hx hb dX7_canGo_34 rfl (lv_at hl 2 rfl) ?_
      replace hf := gd_s hf; obtain ⟨hin, hf⟩ := hf
      refine x_iald (n := 10) (f := g 5) hx hb hK hW 3 rfl (okI_in hin) dX7_canGo_35 ?_
      refine lv_icmp_ne (tgt := 60) hx hb dX7_canGo_36 (by decide) (fun hc => ?_) (fun hc => ?_)
      · replace hf := ifn hc hf
        refine lv_iconst (v := (0 : Int32)) hx hb dX7_canGo_60 (by decide) ?_
        have ho := Option.some.inj hf
        subst ho
        exact x_retz hx hb hr rfl hlocks hK hW rfl rfl dX7_canGo_61
      · replace hf := ifp hc hf
        refine lv_aload_n hx hb dX7_canGo_39 rfl (lv_at hl 0 rfl) ?_
        refine x_get (ci := 7) (v := .int (g 13 0)) (C := RX7) (T := TX7) (N := 44) hx hb hts inX7 hown hK hW 0 rfl rfl 12 (by decide) fl204 (fun _ h9 => h9) rfl dX7_canGo_40 ?_
        refine lv_iconst (v := (1 : Int32)) hx hb dX7_canGo_43 (by decide) ?_
        refine lv_icmp_eq (tgt := 56) hx hb dX7_canGo_44 (by decide) (fun hc => ?_) (fun hc => ?_)
        · replace hf := ifp hc hf
          refine lv_iconst (v := (1 : Int32)) hx hb dX7_canGo_56 (by decide) ?_
          refine lv_goto (tgt := 61) hx hb dX7_canGo_57 (by decide) ?_
          have ho := Option.some.inj hf
          subst ho
          exact x_retz hx hb hr rfl hlocks hK hW rfl rfl dX7_canGo_61
        · replace hf := ifn hc hf
          refine lv_aload_n hx hb dX7_canGo_47 rfl (lv_at hl 0 rfl) ?_
          refine lv_iload_n hx hb dX7_canGo_48 rfl (lv_at hl 1 rfl) ?_
          refine lv_iload_n hx hb dX7_canGo_49 rfl (lv_at hl 2 rfl) ?_
          replace hf := bs_ hf; obtain ⟨r3, hcl, hf⟩ := hf
          refine x_callW_i (w' := (wX7 a ct g sg)) (As := [.int x1, .int x2]) (rest := []) (ci := 7) ⟨hx, hb, hml, hown, hts⟩ (c_X7_mayClimb l N kd G ct a g sg x1 x2 _ hcl) (cwV 2 hts gX7_canGo_X7_mayClimb rfl rfl rfl (by decide +kernel) ⟨Nat.le_of_ble_eq_true rfl, Nat.le_of_ble_eq_true rfl⟩) hK hE hA hW rfl rfl 0 rfl rfl rfl rfl hl.1 rfl (lv_room (Nat.le_of_ble_eq_true rfl)) dX7_canGo_50 (fun H locs hW => ?_)
          refine lv_if_eq (tgt := 60) hx hb dX7_canGo_53 (by decide) (fun hc => ?_) (fun hc => ?_)
          · replace hf := ifp hc hf
            refine lv_iconst (v := (0 : Int32)) hx hb dX7_canGo_60 (by decide) ?_
            have ho := Option.some.inj hf
            subst ho
            exact x_retz hx hb hr rfl hlocks hK hW rfl rfl dX7_canGo_61
          · replace hf := ifn hc hf
            refine lv_iconst (v := (1 : Int32)) hx hb dX7_canGo_56 (by decide) ?_
            refine lv_goto (tgt := 61) hx hb dX7_canGo_57 (by decide) ?_
            have ho := Option.some.inj hf
            subst ho
            exact x_retz hx hb hr rfl hlocks hK hW rfl rfl dX7_canGo_61
set_option maxHeartbeats 4000000 in
set_option maxRecDepth 100000 in
theorem c_X7_goNow (l : Launch) (N : Nat) (kd : (Nat → Nat) × (Nat → Nat)) (G : va_G) (ct : Nat → ClassId) (a : Nat → Nat) (g : St_) (sg : Int64) (x1 : Int32) (x2 : Int32) (o : St_) (hf : f_X7_goNow N g x1 x2 = some o) : CtV l yX7_goNow wsX7_goNow ({ frames := 1, cells := 0, slots := 0, locals := 25 }) kd G ct [.ref (a 0), .int x1, .int x2] (wX7 a ct g sg) (wX7 a ct o sg) := by
  intro sz
  refine Met.ofW (cc := cX7_goNow) (maxL := 7) (ret := none) (by decide) rfl ?_
  intro p e s m args below meth c s₁ B hml hv
  obtain ⟨rfl, hsz, hP, hK, hD0, hE⟩ := hv
  have hx := B.exec
  have hb := B.bytes
  have hr := B.returns
  have hts := atoms_spec (ws := wsX7_goNow) B.pre
  have hown : s.vm.findClass RX7 = some m.cls := findClass_of_methodNamed B.named
  have hlocks := B.notSynchronized
  have inX7 : ∀ w ∈ wsX70, w ∈ wsX7_goNow := by decide +kernel
  have fl13 := hts (.fieldLink RX7 13 "FittingStridesModel" "low" "[I") (by decide +kernel)
  have fl16 := hts (.fieldLink RX7 16 "FittingStridesModel" "high" "[I") (by decide +kernel)
  have fl19 := hts (.fieldLink RX7 19 "FittingStridesModel" "parts" "[I") (by decide +kernel)
  have fl22 := hts (.fieldLink RX7 22 "FittingStridesModel" "steps" "[I") (by decide +kernel)
  have fl25 := hts (.fieldLink RX7 25 "FittingStridesModel" "worn" "[I") (by decide +kernel)
  have fl28 := hts (.fieldLink RX7 28 "FittingStridesModel" "at" "[I") (by decide +kernel)
  have fl31 := hts (.fieldLink RX7 31 "FittingStridesModel" "first" "[I") (by decide +kernel)
  have fl34 := hts (.fieldLink RX7 34 "FittingStridesModel" "second" "[I") (by decide +kernel)
  subst hsz
  have hD := hD0.self (sz := s.heap.size)
  generalize hAe : va_A (wX7 a ct g sg) s.heap.size = A at hD hE ⊢
  have hA : ∀ q : Nat, s.heap.size ≤ q → A q := fun q h => by rw [← hAe]; exact Or.inr h
  have hW : WW G A s.heap (wX7 a ct g sg) s.heap [] := ⟨hP, hD, va_S.rf⟩
  have hl := lv_entry ([.ref (a 0), .int x1, .int x2]) (n := 7) (Nat.le_of_ble_eq_true rfl)
  rw [lg_entry_eq]
  generalize (lg_sl ([.ref (a 0), .int x1, .int x2]) ++ List.replicate (7 - (lg_sl ([.ref (a 0), .int x1, .int x2])).length) Slot.unset).toArray = ls at hl ⊢
  have hl : lv_has ls 7 [(0, .ref (a 0)), (1, .int x1), (2, .int x2)] := hl
  unfold f_X7_goNow at hf
  show W p l e ({ frames := 1, cells := 0, slots := 0, locals := 25 } : Room) s m (List.toArray [.ref (a 0), .int x1, .int x2]) below meth c s.heap [] 0 0 (MQ below (va_Qv (fun (_ : Unit) => True) (fun _ t => Af_ G ct (wX7 a ct o sg) A t) A) (List.toArray [.ref (a 0), .int x1, .int x2]) s 0 0 A) (F0 m 0 ls [])
  refine lv_aload_n hx hb dX7_goNow_0 rfl (lv_at hl 0 rfl) ?_
  refine lv_iload_n hx hb dX7_goNow_1 rfl (lv_at hl 2 rfl) ?_
  refine lv_aload_n hx hb dX7_goNow_2 rfl (lv_at hl 0 rfl) ?_
  refine x_get (ci := 7) (v := .ref (a 11)) (C := RX7) (T := TX7) (N := 44) hx hb hts inX7 hown hK hW 0 rfl rfl 10 (by decide) fl31 (fun _ h9 => h9) rfl dX7_goNow_3 ?_
  refine lv_iload_n hx hb dX7_goNow_6 rfl (lv_at hl 1 rfl) ?_
  replace hf := gd_s hf; obtain ⟨hin, hf⟩ := hf
  refine x_iald (n := 8) (f := g 11) hx hb hK hW 8 rfl (okI_in hin) dX7_goNow_7 ?_
  replace hf := bs_ hf; obtain ⟨r1, hcl, hf⟩ := hf
  refine x_callW_i (w' := (wX7 a ct g sg)) (As := [.int x2, .int (g 11 x1.toNatClampNeg)]) (rest := []) (ci := 7) ⟨hx, hb, hml, hown, hts⟩ (c_X7_isFit l N kd G ct a g sg x2 (g 11 x1.toNatClampNeg) _ hcl) (cwV 2 hts gX7_goNow_X7_isFit rfl rfl rfl (by decide +kernel) ⟨Nat.le_of_ble_eq_true rfl, Nat.le_of_ble_eq_true rfl⟩) hK hE hA hW rfl rfl 0 rfl rfl rfl rfl hl.1 rfl (lv_room (Nat.le_of_ble_eq_true rfl)) dX7_goNow_8 (fun H locs hW => ?_)
  refine lv_istore_n (lv' := [(3, .int r1), (0, .ref (a 0)), (1, .int x1), (2, .int x2)]) hx hb dX7_goNow_11 rfl hl (by decide) rfl (fun ls hl => ?_)
  refine lv_aload_n hx hb dX7_goNow_12 rfl (lv_at hl 1 rfl) ?_
  refine lv_iload_n hx hb dX7_goNow_13 rfl (lv_at hl 3 rfl) ?_
  refine lv_aload_n hx hb dX7_goNow_14 rfl (lv_at hl 1 rfl) ?_
  refine x_get (ci := 7) (v := .ref (a 12)) (C := RX7) (T := TX7) (N := 44) hx hb hts inX7 hown hK hW 0 rfl rfl 11 (by decide) fl34 (fun _ h9 => h9) rfl dX7_goNow_15 ?_
  refine lv_iload_n hx hb dX7_goNow_18 rfl (lv_at hl 2 rfl) ?_
  replace hf := gd_s hf; obtain ⟨hin, hf⟩ := hf
  refine x_iald (n := 8) (f := g 12) hx hb hK hW 9 rfl (okI_in hin) dX7_goNow_19 ?_
  replace hf := bs_ hf; obtain ⟨r2, hcl, hf⟩ := hf
  refine x_callW_i (w' := (wX7 a ct g sg)) (As := [.int x2, .int (g 12 x1.toNatClampNeg)]) (rest := []) (ci := 7) ⟨hx, hb, hml, hown, hts⟩ (c_X7_isFit l N kd G ct a g sg x2 (g 12 x1.toNatClampNeg) _ hcl) (cwV 2 hts gX7_goNow_X7_isFit rfl rfl rfl (by decide +kernel) ⟨Nat.le_of_ble_eq_true rfl, Nat.le_of_ble_eq_true rfl⟩) hK hE hA hW rfl rfl 0 rfl rfl rfl rfl hl.1 rfl (lv_room (Nat.le_of_ble_eq_true rfl)) dX7_goNow_20 (fun H locs hW => ?_)
  refine lv_istore (lv' := [(4, .int r2), (3, .int r1), (0, .ref (a 0)), (1, .int x1), (2, .int x2)]) hx hb dX7_goNow_23 hl (by decide) rfl (fun ls hl => ?_)
  refine lv_iload hx hb dX7_goNow_25 (lv_at hl 0 rfl) ?_
  replace hf := bs_ hf; obtain ⟨j3, hg, hf⟩ := hf
  have J3 : ∀ (H : Heap) (locs : List Loc) (ls : Array Slot), WW G A s.heap (wX7 a ct g sg) H locs → lv_has ls 7 [(0, .ref (a 0)), (1, .int x1), (2, .int x2)] → W p l e ({ frames := 1, cells := 0, slots := 0, locals := 25 } : Room) s m (List.toArray [.ref (a 0), .int x1, .int x2]) below meth c H locs 0 0 (MQ below (va_Qv (fun (_ : Unit) => True) (fun _ t => Af_ G ct (wX7 a ct o sg) A t) A) (List.toArray [.ref (a 0), .int x1, .int x2]) s 0 0 A) (F0 m 64 ls (.int j3 :: [])) := by
    intro H locs ls hW hl
    refine lv_istore (lv' := [(5, .int j3), (0, .ref (a 0)), (1, .int x1), (2, .int x2)]) hx hb dX7_goNow_64 hl (by decide) rfl (fun ls hl => ?_)
    refine lv_iconst (v := (0 : Int32)) hx hb dX7_goNow_66 (by decide) ?_
    refine lv_istore (lv' := [(6, .int (0 : Int32)), (5, .int j3), (0, .ref (a 0)), (1, .int x1), (2, .int x2)]) hx hb dX7_goNow_67 hl (by decide) rfl (fun ls hl => ?_)
    replace hf := bs_ hf; obtain ⟨v4, hg, hf⟩ := hf
    have J4 : ∀ (H : Heap) (locs : List Loc) (ls : Array Slot), WW G A s.heap (wX7 a ct v4 sg) H locs → lv_has ls 7 [(0, .ref (a 0)), (1, .int x1), (2, .int x2)] → W p l e ({ frames := 1, cells := 0, slots := 0, locals := 25 } : Room) s m (List.toArray [.ref (a 0), .int x1, .int x2]) below meth c H locs 0 0 (MQ below (va_Qv (fun (_ : Unit) => True) (fun _ t => Af_ G ct (wX7 a ct o sg) A t) A) (List.toArray [.ref (a 0), .int x1, .int x2]) s 0 0 A) (F0 m 114 ls []) := by
      intro H locs ls hW hl
      refine lv_aload_n hx hb dX7_goNow_114 rfl (lv_at hl 0 rfl) ?_
      refine x_get (ci := 7) (v := .ref (a 10)) (C := RX7) (T := TX7) (N := 44) hx hb hts inX7 hown hK hW 0 rfl rfl 9 (by decide) fl28 (fun _ h9 => h9) rfl dX7_goNow_115 ?_
      refine lv_iload_n hx hb dX7_goNow_118 rfl (lv_at hl 1 rfl) ?_
      refine lv_aload_n hx hb dX7_goNow_119 rfl (lv_at hl 0 rfl) ?_
      refine x_get (ci := 7) (v := .ref (a 10)) (C := RX7) (T := TX7) (N := 44) hx hb hts inX7 hown hK hW 0 rfl rfl 9 (by decide) fl28 (fun _ h9 => h9) rfl dX7_goNow_120 ?_
      refine lv_iload_n hx hb dX7_goNow_123 rfl (lv_at hl 1 rfl) ?_
      replace hf := gd_s hf; obtain ⟨hin, hf⟩ := hf
      refine x_iald (n := 8) (f := v4 10) hx hb hK hW 7 rfl (okI_in hin) dX7_goNow_124 ?_
      refine lv_aload_n hx hb dX7_goNow_125 rfl (lv_at hl 0 rfl) ?_
      refine x_get (ci := 7) (v := .ref (a 4)) (C := RX7) (T := TX7) (N := 44) hx hb hts inX7 hown hK hW 0 rfl rfl 3 (by decide) fl13 (fun _ h9 => h9) rfl dX7_goNow_126 ?_
      refine lv_iload_n hx hb dX7_goNow_129 rfl (lv_at hl 2 rfl) ?_
      replace hf := gd_s hf; obtain ⟨hin, hf⟩ := hf
      refine x_iald (n := 10) (f := v4 4) hx hb hK hW 2 rfl (okI_in hin) dX7_goNow_130 ?_
      refine lv_icmp_ne (tgt := 143) hx hb dX7_goNow_131 (by decide) (fun hc => ?_) (fun hc => ?_)
      · replace hf := ifn hc hf
        refine lv_aload_n hx hb dX7_goNow_143 rfl (lv_at hl 0 rfl) ?_
        refine x_get (ci := 7) (v := .ref (a 4)) (C := RX7) (T := TX7) (N := 44) hx hb hts inX7 hown hK hW 0 rfl rfl 3 (by decide) fl13 (fun _ h9 => h9) rfl dX7_goNow_144 ?_
        refine lv_iload_n hx hb dX7_goNow_147 rfl (lv_at hl 2 rfl) ?_
        replace hf := gd_s hf; obtain ⟨hin, hf⟩ := hf
        refine x_iald (n := 10) (f := v4 4) hx hb hK hW 2 rfl (okI_in hin) dX7_goNow_148 ?_
        replace hf := gd_s hf; obtain ⟨hin, hf⟩ := hf
        refine x_iast (w' := (wX7 a ct (up1 v4 10 x1.toNatClampNeg (v4 4 x2.toNatClampNeg)) sg)) (n := 8) (f := v4 10) hx hb hK hW 7 rfl (okI_in hin) (ws_X7_10 a ct v4 sg _ _) dX7_goNow_149 (fun H locs hW => ?_)
        have ho := Option.some.inj hf
        subst ho
        exact x_retv hx hb hr hlocks hK hW rfl dX7_goNow_150
      · replace hf := ifp hc hf
        refine lv_aload_n hx hb dX7_goNow_134 rfl (lv_at hl 0 rfl) ?_
        refine x_get (ci := 7) (v := .ref (a 5)) (C := RX7) (T := TX7) (N := 44) hx hb hts inX7 hown hK hW 0 rfl rfl 4 (by decide) fl16 (fun _ h9 => h9) rfl dX7_goNow_135 ?_
        refine lv_iload_n hx hb dX7_goNow_138 rfl (lv_at hl 2 rfl) ?_
        replace hf := gd_s hf; obtain ⟨hin, hf⟩ := hf
        refine x_iald (n := 10) (f := v4 5) hx hb hK hW 3 rfl (okI_in hin) dX7_goNow_139 ?_
        refine lv_goto (tgt := 149) hx hb dX7_goNow_140 (by decide) ?_
        replace hf := gd_s hf; obtain ⟨hin, hf⟩ := hf
        refine x_iast (w' := (wX7 a ct (up1 v4 10 x1.toNatClampNeg (v4 5 x2.toNatClampNeg)) sg)) (n := 8) (f := v4 10) hx hb hK hW 7 rfl (okI_in hin) (ws_X7_10 a ct v4 sg _ _) dX7_goNow_149 (fun H locs hW => ?_)
        have ho := Option.some.inj hf
        subst ho
        exact x_retv hx hb hr hlocks hK hW rfl dX7_goNow_150
    clear hf
    have L4 : ∀ (n : Nat) (y4_6 : Int32) (g4 : St_), f_X7_goNow_L69 N x2 j3 n y4_6 g4 = some v4 → ∀ (H : Heap) (locs : List Loc) (ls : Array Slot), WW G A s.heap (wX7 a ct g4 sg) H locs → lv_has ls 7 [(0, .ref (a 0)), (1, .int x1), (2, .int x2), (5, .int j3), (6, .int y4_6)] → W p l e ({ frames := 1, cells := 0, slots := 0, locals := 25 } : Room) s m (List.toArray [.ref (a 0), .int x1, .int x2]) below meth c H locs 0 0 (MQ below (va_Qv (fun (_ : Unit) => True) (fun _ t => Af_ G ct (wX7 a ct o sg) A t) A) (List.toArray [.ref (a 0), .int x1, .int x2]) s 0 0 A) (F0 m 69 ls []) := by
      intro n
      induction n with
      | zero =>
        intro y4_6 g4 hf
        rw [f_X7_goNow_L69] at hf
        cases hf
      | succ n ih =>
        intro y4_6 g4 hf H locs ls hW hl
        rw [f_X7_goNow_L69] at hf
        refine lv_iload hx hb dX7_goNow_69 (lv_at hl 4 rfl) ?_
        refine lv_aload_n hx hb dX7_goNow_71 rfl (lv_at hl 0 rfl) ?_
        refine x_get (ci := 7) (v := .ref (a 6)) (C := RX7) (T := TX7) (N := 44) hx hb hts inX7 hown hK hW 0 rfl rfl 5 (by decide) fl19 (fun _ h9 => h9) rfl dX7_goNow_72 ?_
        refine lv_iload_n hx hb dX7_goNow_75 rfl (lv_at hl 2 rfl) ?_
        replace hf := gd_s hf; obtain ⟨hin, hf⟩ := hf
        refine x_iald (n := 10) (f := g4 6) hx hb hK hW 4 rfl (okI_in hin) dX7_goNow_76 ?_
        refine lv_icmp_ge (tgt := 114) hx hb dX7_goNow_77 (by decide) (fun hc => ?_) (fun hc => ?_)
        · replace hf := ifp hc hf
          have hj := Option.some.inj hf
          subst hj
          exact J4 _ _ _ hW (lv_sub hl [0, 1, 2] rfl)
        · replace hf := ifn hc hf
          refine lv_aload_n hx hb dX7_goNow_80 rfl (lv_at hl 0 rfl) ?_
          refine x_get (ci := 7) (v := .ref (a 8)) (C := RX7) (T := TX7) (N := 44) hx hb hts inX7 hown hK hW 0 rfl rfl 7 (by decide) fl25 (fun _ h9 => h9) rfl dX7_goNow_81 ?_
          refine lv_iload_n hx hb dX7_goNow_84 rfl (lv_at hl 2 rfl) ?_
          refine lv_dup2_11 hx hb dX7_goNow_85 rfl rfl ?_
          replace hf := gd_s hf; obtain ⟨hin, hf⟩ := hf
          refine x_iald (n := 10) (f := g4 8) hx hb hK hW 6 rfl (okI_in hin) dX7_goNow_86 ?_
          refine lv_aload_n hx hb dX7_goNow_87 rfl (lv_at hl 0 rfl) ?_
          refine x_get (ci := 7) (v := .ref (a 7)) (C := RX7) (T := TX7) (N := 44) hx hb hts inX7 hown hK hW 0 rfl rfl 6 (by decide) fl22 (fun _ h9 => h9) rfl dX7_goNow_88 ?_
          refine lv_iconst (v := (3 : Int32)) hx hb dX7_goNow_91 (by decide) ?_
          refine lv_iload_n hx hb dX7_goNow_92 rfl (lv_at hl 2 rfl) ?_
          refine lv_imul hx hb dX7_goNow_93 ?_
          refine lv_iload hx hb dX7_goNow_94 (lv_at hl 4 rfl) ?_
          refine lv_iadd hx hb dX7_goNow_96 ?_
          replace hf := gd_s hf; obtain ⟨hin, hf⟩ := hf
          refine x_iald (n := 30) (f := g4 7) hx hb hK hW 5 rfl (okI_in hin) dX7_goNow_97 ?_
          refine lv_iload hx hb dX7_goNow_98 (lv_at hl 3 rfl) ?_
          refine lv_iadd hx hb dX7_goNow_100 ?_
          refine lv_iconst (v := (1 : Int32)) hx hb dX7_goNow_101 (by decide) ?_
          refine lv_isub hx hb dX7_goNow_102 ?_
          refine lv_iload hx hb dX7_goNow_103 (lv_at hl 3 rfl) ?_
          replace hf := gd_s hf; obtain ⟨hnz, hf⟩ := hf
          refine lv_idiv hx hb dX7_goNow_105 (nzI_s hnz) ?_
          refine lv_iadd hx hb dX7_goNow_106 ?_
          replace hf := gd_s hf; obtain ⟨hin, hf⟩ := hf
          refine x_iast (w' := (wX7 a ct (up1 g4 8 x2.toNatClampNeg ((g4 8 x2.toNatClampNeg) + ((((g4 7 (((3 : Int32) * x2) + y4_6).toNatClampNeg) + j3) - (1 : Int32)) / j3))) sg)) (n := 10) (f := g4 8) hx hb hK hW 6 rfl (okI_in hin) (ws_X7_8 a ct g4 sg _ _) dX7_goNow_107 (fun H locs hW => ?_)
          refine lv_iinc (v := (y4_6 + (1 : Int32))) (lv' := [(6, .int (y4_6 + (1 : Int32))), (0, .ref (a 0)), (1, .int x1), (2, .int x2), (5, .int j3)]) hx hb dX7_goNow_108 hl (k := 4) rfl rfl (by decide) rfl (fun ls hl => ?_)
          refine lv_goto (tgt := 69) hx hb dX7_goNow_111 (by decide) ?_
          exact ih (y4_6 + (1 : Int32)) (up1 g4 8 x2.toNatClampNeg ((g4 8 x2.toNatClampNeg) + ((((g4 7 (((3 : Int32) * x2) + y4_6).toNatClampNeg) + j3) - (1 : Int32)) / j3))) hf _ _ _ hW (lv_sub hl [1, 2, 3, 4, 0] rfl)
    exact L4 N (0 : Int32) g hg _ _ _ hW (lv_sub hl [2, 3, 4, 1, 0] rfl)
  clear hf
  refine lv_if_eq (tgt := 58) hx hb dX7_goNow_27 (by decide) (fun hc => ?_) (fun hc => ?_)
  · have hf := ifp hc hg
    clear hg
    refine lv_aload_n hx hb dX7_goNow_58 rfl (lv_at hl 2 rfl) ?_
    refine x_get (ci := 7) (v := .ref (a 11)) (C := RX7) (T := TX7) (N := 44) hx hb hts inX7 hown hK hW 0 rfl rfl 10 (by decide) fl31 (fun _ h9 => h9) rfl dX7_goNow_59 ?_
    refine lv_iload_n hx hb dX7_goNow_62 rfl (lv_at hl 3 rfl) ?_
    replace hf := gd_s hf; obtain ⟨hin, hf⟩ := hf
    refine x_iald (n := 8) (f := g 11) hx hb hK hW 8 rfl (okI_in hin) dX7_goNow_63 ?_
    have hj := Option.some.inj hf
    subst hj
    exact J3 _ _ _ hW (lv_sub hl [2, 3, 4] rfl)
  · have hf := ifn hc hg
    clear hg
    refine lv_iload_n hx hb dX7_goNow_30 rfl (lv_at hl 1 rfl) ?_
    refine lv_if_eq (tgt := 49) hx hb dX7_goNow_31 (by decide) (fun hc => ?_) (fun hc => ?_)
    · replace hf := ifp hc hf
      refine lv_aload_n hx hb dX7_goNow_49 rfl (lv_at hl 2 rfl) ?_
      refine x_get (ci := 7) (v := .ref (a 12)) (C := RX7) (T := TX7) (N := 44) hx hb hts inX7 hown hK hW 0 rfl rfl 11 (by decide) fl34 (fun _ h9 => h9) rfl dX7_goNow_50 ?_
      refine lv_iload_n hx hb dX7_goNow_53 rfl (lv_at hl 3 rfl) ?_
      replace hf := gd_s hf; obtain ⟨hin, hf⟩ := hf
      refine x_iald (n := 8) (f := g 12) hx hb hK hW 9 rfl (okI_in hin) dX7_goNow_54 ?_
      refine lv_goto (tgt := 64) hx hb dX7_goNow_55 (by decide) ?_
      have hj := Option.some.inj hf
      subst hj
      exact J3 _ _ _ hW (lv_sub hl [2, 3, 4] rfl)
    · replace hf := ifn hc hf
      refine lv_aload_n hx hb dX7_goNow_34 rfl (lv_at hl 2 rfl) ?_
      refine x_get (ci := 7) (v := .ref (a 12)) (C := RX7) (T := TX7) (N := 44) hx hb hts inX7 hown hK hW 0 rfl rfl 11 (by decide) fl34 (fun _ h9 => h9) rfl dX7_goNow_35 ?_
      refine lv_iload_n hx hb dX7_goNow_38 rfl (lv_at hl 3 rfl) ?_
      replace hf := gd_s hf; obtain ⟨hin, hf⟩ := hf
      refine x_iald (n := 8) (f := g 12) hx hb hK hW 9 rfl (okI_in hin) dX7_goNow_39 ?_
      refine lv_aload_n hx hb dX7_goNow_40 rfl (lv_at hl 2 rfl) ?_
      refine x_get (ci := 7) (v := .ref (a 11)) (C := RX7) (T := TX7) (N := 44) hx hb hts inX7 hown hK hW 0 rfl rfl 10 (by decide) fl31 (fun _ h9 => h9) rfl dX7_goNow_41 ?_
      refine lv_iload_n hx hb dX7_goNow_44 rfl (lv_at hl 3 rfl) ?_
      replace hf := gd_s hf; obtain ⟨hin, hf⟩ := hf
      refine x_iald (n := 8) (f := g 11) hx hb hK hW 8 rfl (okI_in hin) dX7_goNow_45 ?_
      refine lv_icmp_le (tgt := 58) hx hb dX7_goNow_46 (by decide) (fun hc => ?_) (fun hc => ?_)
      · replace hf := ifp hc hf
        refine lv_aload_n hx hb dX7_goNow_58 rfl (lv_at hl 2 rfl) ?_
        refine x_get (ci := 7) (v := .ref (a 11)) (C := RX7) (T := TX7) (N := 44) hx hb hts inX7 hown hK hW 0 rfl rfl 10 (by decide) fl31 (fun _ h9 => h9) rfl dX7_goNow_59 ?_
        refine lv_iload_n hx hb dX7_goNow_62 rfl (lv_at hl 3 rfl) ?_
        replace hf := gd_s hf; obtain ⟨hin, hf⟩ := hf
        refine x_iald (n := 8) (f := g 11) hx hb hK hW 8 rfl (okI_in hin) dX7_goNow_63 ?_
        have hj := Option.some.inj hf
        subst hj
        exact J3 _ _ _ hW (lv_sub hl [2, 3, 4] rfl)
      · replace hf := ifn hc hf
        refine lv_aload_n hx hb dX7_goNow_49 rfl (lv_at hl 2 rfl) ?_
        refine x_get (ci := 7) (v := .ref (a 12)) (C := RX7) (T := TX7) (N := 44) hx hb hts inX7 hown hK hW 0 rfl rfl 11 (by decide) fl34 (fun _ h9 => h9) rfl dX7_goNow_50 ?_
        refine lv_iload_n hx hb dX7_goNow_53 rfl (lv_at hl 3 rfl) ?_
        replace hf := gd_s hf; obtain ⟨hin, hf⟩ := hf
        refine x_iald (n := 8) (f := g 12) hx hb hK hW 9 rfl (okI_in hin) dX7_goNow_54 ?_
        refine lv_goto (tgt := 64) hx hb dX7_goNow_55 (by decide) ?_
        have hj := Option.some.inj hf
        subst hj
        exact J3 _ _ _ hW (lv_sub hl [2, 3, 4] rfl)
set_option maxHeartbeats 4000000 in
set_option maxRecDepth 100000 in
theorem c_X7_go (l : Launch) (N : Nat) (kd : (Nat → Nat) × (Nat → Nat)) (G : va_G) (ct : Nat → ClassId) (a : Nat → Nat) (g : St_) (sg : Int64) (x1 : Int32) (x2 : Int32) (o : (Int32 × St_)) (hf : f_X7_go N g x1 x2 = some o) : CtI l yX7_go wsX7_go ({ frames := 3, cells := 0, slots := 0, locals := 69 }) kd G ct [.ref (a 0), .int x1, .int x2] (wX7 a ct g sg) o.1 (wX7 a ct o.2 sg) := by
  intro sz
  refine Met.ofW (cc := cX7_go) (maxL := 3) (ret := (some .int)) (by decide) rfl ?_
  intro p e s m args below meth c s₁ B hml hv
  obtain ⟨rfl, hsz, hP, hK, hD0, hE⟩ := hv
  have hx := B.exec
  have hb := B.bytes
  have hr := B.returns
  have hts := atoms_spec (ws := wsX7_go) B.pre
  have hown : s.vm.findClass RX7 = some m.cls := findClass_of_methodNamed B.named
  have hlocks := B.notSynchronized
  have inX7 : ∀ w ∈ wsX70, w ∈ wsX7_go := by decide +kernel
  have fl28 := hts (.fieldLink RX7 28 "FittingStridesModel" "at" "[I") (by decide +kernel)
  have fl221 := hts (.constant RX7 221 (-1000000001)) (by decide +kernel)
  have fl243 := hts (.constant RX7 243 (-1000000003)) (by decide +kernel)
  subst hsz
  have hD := hD0.self (sz := s.heap.size)
  generalize hAe : va_A (wX7 a ct g sg) s.heap.size = A at hD hE ⊢
  have hA : ∀ q : Nat, s.heap.size ≤ q → A q := fun q h => by rw [← hAe]; exact Or.inr h
  have hW : WW G A s.heap (wX7 a ct g sg) s.heap [] := ⟨hP, hD, va_S.rf⟩
  have hl := lv_entry ([.ref (a 0), .int x1, .int x2]) (n := 3) (Nat.le_of_ble_eq_true rfl)
  rw [lg_entry_eq]
  generalize (lg_sl ([.ref (a 0), .int x1, .int x2]) ++ List.replicate (3 - (lg_sl ([.ref (a 0), .int x1, .int x2])).length) Slot.unset).toArray = ls at hl ⊢
  have hl : lv_has ls 3 [(0, .ref (a 0)), (1, .int x1), (2, .int x2)] := hl
  unfold f_X7_go at hf
  show W p l e ({ frames := 3, cells := 0, slots := 0, locals := 69 } : Room) s m (List.toArray [.ref (a 0), .int x1, .int x2]) below meth c s.heap [] 0 0 (MQ below (va_Qi (fun r (_ : Unit) => r = o.1) (fun _ t => Af_ G ct (wX7 a ct o.2 sg) A t) A) (List.toArray [.ref (a 0), .int x1, .int x2]) s 0 0 A) (F0 m 0 ls [])
  refine lv_aload_n hx hb dX7_go_0 rfl (lv_at hl 0 rfl) ?_
  refine lv_iload_n hx hb dX7_go_1 rfl (lv_at hl 1 rfl) ?_
  replace hf := bs_ hf; obtain ⟨r1, hcl, hf⟩ := hf
  refine x_callW_i (w' := (wX7 a ct g sg)) (As := [.int x1]) (rest := []) (ci := 7) ⟨hx, hb, hml, hown, hts⟩ (c_X7_isPerson l N kd G ct a g sg x1 _ hcl) (cwV 1 hts gX7_go_X7_isPerson rfl rfl rfl (by decide +kernel) ⟨Nat.le_of_ble_eq_true rfl, Nat.le_of_ble_eq_true rfl⟩) hK hE hA hW rfl rfl 0 rfl rfl rfl rfl hl.1 rfl (lv_room (Nat.le_of_ble_eq_true rfl)) dX7_go_2 (fun H locs hW => ?_)
  refine lv_if_eq (tgt := 16) hx hb dX7_go_5 (by decide) (fun hc => ?_) (fun hc => ?_)
  · replace hf := ifp hc hf
    refine lv_ldc (v := (-1000000001 : Int32)) hx hb hown fl221 dX7_go_16 ?_
    have ho := Option.some.inj hf
    subst ho
    exact x_reti (sz := 0) (w0 := []) (A1 := A) hx hb hr hlocks hK hW rfl rfl dX7_go_18
  · replace hf := ifn hc hf
    refine lv_aload_n hx hb dX7_go_8 rfl (lv_at hl 0 rfl) ?_
    refine lv_iload_n hx hb dX7_go_9 rfl (lv_at hl 2 rfl) ?_
    replace hf := bs_ hf; obtain ⟨r2, hcl, hf⟩ := hf
    refine x_callW_i (w' := (wX7 a ct g sg)) (As := [.int x2]) (rest := []) (ci := 7) ⟨hx, hb, hml, hown, hts⟩ (c_X7_isStair l N kd G ct a g sg x2 _ hcl) (cwV 1 hts gX7_go_X7_isStair rfl rfl rfl (by decide +kernel) ⟨Nat.le_of_ble_eq_true rfl, Nat.le_of_ble_eq_true rfl⟩) hK hE hA hW rfl rfl 0 rfl rfl rfl rfl hl.1 rfl (lv_room (Nat.le_of_ble_eq_true rfl)) dX7_go_10 (fun H locs hW => ?_)
    refine lv_if_ne (tgt := 19) hx hb dX7_go_13 (by decide) (fun hc => ?_) (fun hc => ?_)
    · replace hf := ifn hc hf
      refine lv_aload_n hx hb dX7_go_19 rfl (lv_at hl 0 rfl) ?_
      refine lv_iload_n hx hb dX7_go_20 rfl (lv_at hl 1 rfl) ?_
      refine lv_iload_n hx hb dX7_go_21 rfl (lv_at hl 2 rfl) ?_
      replace hf := bs_ hf; obtain ⟨r3, hcl, hf⟩ := hf
      refine x_callW_i (w' := (wX7 a ct g sg)) (As := [.int x1, .int x2]) (rest := []) (ci := 7) ⟨hx, hb, hml, hown, hts⟩ (c_X7_canGo l N kd G ct a g sg x1 x2 _ hcl) (cwV 2 hts gX7_go_X7_canGo rfl rfl rfl (by decide +kernel) ⟨Nat.le_of_ble_eq_true rfl, Nat.le_of_ble_eq_true rfl⟩) hK hE hA hW rfl rfl 0 rfl rfl rfl rfl hl.1 rfl (lv_room (Nat.le_of_ble_eq_true rfl)) dX7_go_22 (fun H locs hW => ?_)
      refine lv_if_ne (tgt := 31) hx hb dX7_go_25 (by decide) (fun hc => ?_) (fun hc => ?_)
      · replace hf := ifn hc hf
        refine lv_aload_n hx hb dX7_go_31 rfl (lv_at hl 0 rfl) ?_
        refine lv_iload_n hx hb dX7_go_32 rfl (lv_at hl 1 rfl) ?_
        refine lv_iload_n hx hb dX7_go_33 rfl (lv_at hl 2 rfl) ?_
        replace hf := bs_ hf; obtain ⟨r4, hcl, hf⟩ := hf
        refine x_callW_v (w' := (wX7 a ct r4 sg)) (As := [.int x1, .int x2]) (rest := []) (ci := 7) ⟨hx, hb, hml, hown, hts⟩ (c_X7_goNow l N kd G ct a g sg x1 x2 _ hcl) (cwV 2 hts gX7_go_X7_goNow rfl rfl rfl (by decide +kernel) ⟨Nat.le_of_ble_eq_true rfl, Nat.le_of_ble_eq_true rfl⟩) hK hE hA hW rfl rfl 0 rfl rfl rfl rfl hl.1 rfl (lv_room (Nat.le_of_ble_eq_true rfl)) dX7_go_34 (fun H locs hW => ?_)
        refine lv_aload_n hx hb dX7_go_37 rfl (lv_at hl 0 rfl) ?_
        refine x_get (ci := 7) (v := .ref (a 10)) (C := RX7) (T := TX7) (N := 44) hx hb hts inX7 hown hK hW 0 rfl rfl 9 (by decide) fl28 (fun _ h9 => h9) rfl dX7_go_38 ?_
        refine lv_iload_n hx hb dX7_go_41 rfl (lv_at hl 1 rfl) ?_
        replace hf := gd_s hf; obtain ⟨hin, hf⟩ := hf
        refine x_iald (n := 8) (f := r4 10) hx hb hK hW 7 rfl (okI_in hin) dX7_go_42 ?_
        have ho := Option.some.inj hf
        subst ho
        exact x_reti (sz := 0) (w0 := []) (A1 := A) hx hb hr hlocks hK hW rfl rfl dX7_go_43
      · replace hf := ifp hc hf
        refine lv_ldc (v := (-1000000003 : Int32)) hx hb hown fl243 dX7_go_28 ?_
        have ho := Option.some.inj hf
        subst ho
        exact x_reti (sz := 0) (w0 := []) (A1 := A) hx hb hr hlocks hK hW rfl rfl dX7_go_30
    · replace hf := ifp hc hf
      refine lv_ldc (v := (-1000000001 : Int32)) hx hb hown fl221 dX7_go_16 ?_
      have ho := Option.some.inj hf
      subst ho
      exact x_reti (sz := 0) (w0 := []) (A1 := A) hx hb hr hlocks hK hW rfl rfl dX7_go_18
set_option maxHeartbeats 4000000 in
set_option maxRecDepth 100000 in
theorem c_X7_build (l : Launch) (N : Nat) (kd : (Nat → Nat) × (Nat → Nat)) (G : va_G) (ct : Nat → ClassId) (a : Nat → Nat) (g : St_) (sg : Int64) (x1 : Int32) (x2 : Int32) (x3 : Int32) (o : (Int32 × St_)) (hf : f_X7_build N g x1 x2 x3 = some o) : CtI l yX7_build wsX7_build ({ frames := 2, cells := 0, slots := 0, locals := 46 }) kd G ct [.ref (a 0), .int x1, .int x2, .int x3] (wX7 a ct g sg) o.1 (wX7 a ct o.2 sg) := by
  intro sz
  refine Met.ofW (cc := cX7_build) (maxL := 5) (ret := (some .int)) (by decide) rfl ?_
  intro p e s m args below meth c s₁ B hml hv
  obtain ⟨rfl, hsz, hP, hK, hD0, hE⟩ := hv
  have hx := B.exec
  have hb := B.bytes
  have hr := B.returns
  have hts := atoms_spec (ws := wsX7_build) B.pre
  have hown : s.vm.findClass RX7 = some m.cls := findClass_of_methodNamed B.named
  have hlocks := B.notSynchronized
  have inX7 : ∀ w ∈ wsX70, w ∈ wsX7_build := by decide +kernel
  have fl19 := hts (.fieldLink RX7 19 "FittingStridesModel" "parts" "[I") (by decide +kernel)
  have fl22 := hts (.fieldLink RX7 22 "FittingStridesModel" "steps" "[I") (by decide +kernel)
  have fl111 := hts (.constant RX7 111 (-1000000002)) (by decide +kernel)
  have fl221 := hts (.constant RX7 221 (-1000000001)) (by decide +kernel)
  have fl248 := hts (.constantLong RX7 248 (720)) (by decide +kernel)
  subst hsz
  have hD := hD0.self (sz := s.heap.size)
  generalize hAe : va_A (wX7 a ct g sg) s.heap.size = A at hD hE ⊢
  have hA : ∀ q : Nat, s.heap.size ≤ q → A q := fun q h => by rw [← hAe]; exact Or.inr h
  have hW : WW G A s.heap (wX7 a ct g sg) s.heap [] := ⟨hP, hD, va_S.rf⟩
  have hl := lv_entry ([.ref (a 0), .int x1, .int x2, .int x3]) (n := 5) (Nat.le_of_ble_eq_true rfl)
  rw [lg_entry_eq]
  generalize (lg_sl ([.ref (a 0), .int x1, .int x2, .int x3]) ++ List.replicate (5 - (lg_sl ([.ref (a 0), .int x1, .int x2, .int x3])).length) Slot.unset).toArray = ls at hl ⊢
  have hl : lv_has ls 5 [(0, .ref (a 0)), (1, .int x1), (2, .int x2), (3, .int x3)] := hl
  unfold f_X7_build at hf
  show W p l e ({ frames := 2, cells := 0, slots := 0, locals := 46 } : Room) s m (List.toArray [.ref (a 0), .int x1, .int x2, .int x3]) below meth c s.heap [] 0 0 (MQ below (va_Qi (fun r (_ : Unit) => r = o.1) (fun _ t => Af_ G ct (wX7 a ct o.2 sg) A t) A) (List.toArray [.ref (a 0), .int x1, .int x2, .int x3]) s 0 0 A) (F0 m 0 ls [])
  refine lv_aload_n hx hb dX7_build_0 rfl (lv_at hl 0 rfl) ?_
  refine lv_iload_n hx hb dX7_build_1 rfl (lv_at hl 1 rfl) ?_
  replace hf := bs_ hf; obtain ⟨r1, hcl, hf⟩ := hf
  refine x_callW_i (w' := (wX7 a ct g sg)) (As := [.int x1]) (rest := []) (ci := 7) ⟨hx, hb, hml, hown, hts⟩ (c_X7_isStair l N kd G ct a g sg x1 _ hcl) (cwV 1 hts gX7_build_X7_isStair rfl rfl rfl (by decide +kernel) ⟨Nat.le_of_ble_eq_true rfl, Nat.le_of_ble_eq_true rfl⟩) hK hE hA hW rfl rfl 0 rfl rfl rfl rfl hl.1 rfl (lv_room (Nat.le_of_ble_eq_true rfl)) dX7_build_2 (fun H locs hW => ?_)
  refine lv_if_eq (tgt := 26) hx hb dX7_build_5 (by decide) (fun hc => ?_) (fun hc => ?_)
  · replace hf := ifp hc hf
    refine lv_ldc (v := (-1000000001 : Int32)) hx hb hown fl221 dX7_build_26 ?_
    have ho := Option.some.inj hf
    subst ho
    exact x_reti (sz := 0) (w0 := []) (A1 := A) hx hb hr hlocks hK hW rfl rfl dX7_build_28
  · replace hf := ifn hc hf
    refine lv_iload_n hx hb dX7_build_8 rfl (lv_at hl 2 rfl) ?_
    refine lv_i2l hx hb dX7_build_9 rfl ?_
    refine lv_lconst (v := (0 : Int64)) hx hb dX7_build_10 (by decide) ?_
    refine lv_aload_n hx hb dX7_build_11 rfl (lv_at hl 0 rfl) ?_
    refine x_get (ci := 7) (v := .ref (a 6)) (C := RX7) (T := TX7) (N := 44) hx hb hts inX7 hown hK hW 0 rfl rfl 5 (by decide) fl19 (fun _ h9 => h9) rfl dX7_build_12 ?_
    refine lv_iload_n hx hb dX7_build_15 rfl (lv_at hl 1 rfl) ?_
    replace hf := gd_s hf; obtain ⟨hin, hf⟩ := hf
    refine x_iald (n := 10) (f := g 6) hx hb hK hW 4 rfl (okI_in hin) dX7_build_16 ?_
    refine lv_iconst (v := (1 : Int32)) hx hb dX7_build_17 (by decide) ?_
    refine lv_isub hx hb dX7_build_18 ?_
    refine lv_i2l hx hb dX7_build_19 rfl ?_
    replace hf := bs_ hf; obtain ⟨r2, hcl, hf⟩ := hf
    refine x_callS_i (As := [.long x2.toInt64, .long (0 : Int64), .long ((g 6 x1.toNatClampNeg) - (1 : Int32)).toInt64]) (rest := []) ⟨hx, hb, hml, hown, hts⟩ (c_X7_in l N kd G ct x2.toInt64 (0 : Int64) (((g 6 x1.toNatClampNeg) - (1 : Int32)).toInt64) _ hcl) (va_cwS 3 hts gX7_build_X7_in rfl rfl rfl (by decide +kernel) ⟨Nat.le_of_ble_eq_true rfl, Nat.le_of_ble_eq_true rfl⟩) hK hE hA hW rfl hl.1 rfl (lv_room (Nat.le_of_ble_eq_true rfl)) dX7_build_20 (fun H locs hW => ?_)
    refine lv_if_ne (tgt := 29) hx hb dX7_build_23 (by decide) (fun hc => ?_) (fun hc => ?_)
    · replace hf := ifn hc hf
      refine lv_iload_n hx hb dX7_build_29 rfl (lv_at hl 3 rfl) ?_
      refine lv_i2l hx hb dX7_build_30 rfl ?_
      refine lv_lconst (v := (1 : Int64)) hx hb dX7_build_31 (by decide) ?_
      refine lv_ldc2 (v := (720 : Int64)) hx hb hown fl248 dX7_build_32 ?_
      replace hf := bs_ hf; obtain ⟨r3, hcl, hf⟩ := hf
      refine x_callS_i (As := [.long x3.toInt64, .long (1 : Int64), .long (720 : Int64)]) (rest := []) ⟨hx, hb, hml, hown, hts⟩ (c_X7_in l N kd G ct x3.toInt64 (1 : Int64) (720 : Int64) _ hcl) (va_cwS 3 hts gX7_build_X7_in rfl rfl rfl (by decide +kernel) ⟨Nat.le_of_ble_eq_true rfl, Nat.le_of_ble_eq_true rfl⟩) hK hE hA hW rfl hl.1 rfl (lv_room (Nat.le_of_ble_eq_true rfl)) dX7_build_35 (fun H locs hW => ?_)
      refine lv_if_ne (tgt := 44) hx hb dX7_build_38 (by decide) (fun hc => ?_) (fun hc => ?_)
      · replace hf := ifn hc hf
        refine lv_aload_n hx hb dX7_build_44 rfl (lv_at hl 0 rfl) ?_
        refine x_get (ci := 7) (v := .ref (a 7)) (C := RX7) (T := TX7) (N := 44) hx hb hts inX7 hown hK hW 0 rfl rfl 6 (by decide) fl22 (fun _ h9 => h9) rfl dX7_build_45 ?_
        refine lv_iconst (v := (3 : Int32)) hx hb dX7_build_48 (by decide) ?_
        refine lv_iload_n hx hb dX7_build_49 rfl (lv_at hl 1 rfl) ?_
        refine lv_imul hx hb dX7_build_50 ?_
        refine lv_iload_n hx hb dX7_build_51 rfl (lv_at hl 2 rfl) ?_
        refine lv_iadd hx hb dX7_build_52 ?_
        replace hf := gd_s hf; obtain ⟨hin, hf⟩ := hf
        refine x_iald (n := 30) (f := g 7) hx hb hK hW 5 rfl (okI_in hin) dX7_build_53 ?_
        refine lv_istore (lv' := [(4, .int (g 7 (((3 : Int32) * x1) + x2).toNatClampNeg)), (0, .ref (a 0)), (1, .int x1), (2, .int x2), (3, .int x3)]) hx hb dX7_build_54 hl (by decide) rfl (fun ls hl => ?_)
        refine lv_aload_n hx hb dX7_build_56 rfl (lv_at hl 1 rfl) ?_
        refine x_get (ci := 7) (v := .ref (a 7)) (C := RX7) (T := TX7) (N := 44) hx hb hts inX7 hown hK hW 0 rfl rfl 6 (by decide) fl22 (fun _ h9 => h9) rfl dX7_build_57 ?_
        refine lv_iconst (v := (3 : Int32)) hx hb dX7_build_60 (by decide) ?_
        refine lv_iload_n hx hb dX7_build_61 rfl (lv_at hl 2 rfl) ?_
        refine lv_imul hx hb dX7_build_62 ?_
        refine lv_iload_n hx hb dX7_build_63 rfl (lv_at hl 3 rfl) ?_
        refine lv_iadd hx hb dX7_build_64 ?_
        refine lv_iload_n hx hb dX7_build_65 rfl (lv_at hl 4 rfl) ?_
        replace hf := gd_s hf; obtain ⟨hin, hf⟩ := hf
        refine x_iast (w' := (wX7 a ct (up1 g 7 (((3 : Int32) * x1) + x2).toNatClampNeg x3) sg)) (n := 30) (f := g 7) hx hb hK hW 5 rfl (okI_in hin) (ws_X7_7 a ct g sg _ _) dX7_build_66 (fun H locs hW => ?_)
        refine lv_iload hx hb dX7_build_67 (lv_at hl 0 rfl) ?_
        have ho := Option.some.inj hf
        subst ho
        exact x_reti (sz := 0) (w0 := []) (A1 := A) hx hb hr hlocks hK hW rfl rfl dX7_build_69
      · replace hf := ifp hc hf
        refine lv_ldc (v := (-1000000002 : Int32)) hx hb hown fl111 dX7_build_41 ?_
        have ho := Option.some.inj hf
        subst ho
        exact x_reti (sz := 0) (w0 := []) (A1 := A) hx hb hr hlocks hK hW rfl rfl dX7_build_43
    · replace hf := ifp hc hf
      refine lv_ldc (v := (-1000000001 : Int32)) hx hb hown fl221 dX7_build_26 ?_
      have ho := Option.some.inj hf
      subst ho
      exact x_reti (sz := 0) (w0 := []) (A1 := A) hx hb hr hlocks hK hW rfl rfl dX7_build_28
set_option maxHeartbeats 4000000 in
set_option maxRecDepth 100000 in
theorem c_X7_law (l : Launch) (N : Nat) (kd : (Nat → Nat) × (Nat → Nat)) (G : va_G) (ct : Nat → ClassId) (a : Nat → Nat) (g : St_) (sg : Int64) (x1 : Int32) (o : (Int32 × St_)) (hf : f_X7_law N g x1 = some o) : CtI l yX7_law wsX7_law ({ frames := 1, cells := 0, slots := 0, locals := 25 }) kd G ct [.ref (a 0), .int x1] (wX7 a ct g sg) o.1 (wX7 a ct o.2 sg) := by
  intro sz
  refine Met.ofW (cc := cX7_law) (maxL := 3) (ret := (some .int)) (by decide) rfl ?_
  intro p e s m args below meth c s₁ B hml hv
  obtain ⟨rfl, hsz, hP, hK, hD0, hE⟩ := hv
  have hx := B.exec
  have hb := B.bytes
  have hr := B.returns
  have hts := atoms_spec (ws := wsX7_law) B.pre
  have hown : s.vm.findClass RX7 = some m.cls := findClass_of_methodNamed B.named
  have hlocks := B.notSynchronized
  have inX7 : ∀ w ∈ wsX70, w ∈ wsX7_law := by decide +kernel
  have fl111 := hts (.constant RX7 111 (-1000000002)) (by decide +kernel)
  have fl204 := hts (.fieldLink RX7 204 "FittingStridesModel" "law" "I") (by decide +kernel)
  subst hsz
  have hD := hD0.self (sz := s.heap.size)
  generalize hAe : va_A (wX7 a ct g sg) s.heap.size = A at hD hE ⊢
  have hA : ∀ q : Nat, s.heap.size ≤ q → A q := fun q h => by rw [← hAe]; exact Or.inr h
  have hW : WW G A s.heap (wX7 a ct g sg) s.heap [] := ⟨hP, hD, va_S.rf⟩
  have hl := lv_entry ([.ref (a 0), .int x1]) (n := 3) (Nat.le_of_ble_eq_true rfl)
  rw [lg_entry_eq]
  generalize (lg_sl ([.ref (a 0), .int x1]) ++ List.replicate (3 - (lg_sl ([.ref (a 0), .int x1])).length) Slot.unset).toArray = ls at hl ⊢
  have hl : lv_has ls 3 [(0, .ref (a 0)), (1, .int x1)] := hl
  unfold f_X7_law at hf
  show W p l e ({ frames := 1, cells := 0, slots := 0, locals := 25 } : Room) s m (List.toArray [.ref (a 0), .int x1]) below meth c s.heap [] 0 0 (MQ below (va_Qi (fun r (_ : Unit) => r = o.1) (fun _ t => Af_ G ct (wX7 a ct o.2 sg) A t) A) (List.toArray [.ref (a 0), .int x1]) s 0 0 A) (F0 m 0 ls [])
  refine lv_iload_n hx hb dX7_law_0 rfl (lv_at hl 1 rfl) ?_
  refine lv_i2l hx hb dX7_law_1 rfl ?_
  refine lv_lconst (v := (0 : Int64)) hx hb dX7_law_2 (by decide) ?_
  refine lv_lconst (v := (1 : Int64)) hx hb dX7_law_3 (by decide) ?_
  replace hf := bs_ hf; obtain ⟨r1, hcl, hf⟩ := hf
  refine x_callS_i (As := [.long x1.toInt64, .long (0 : Int64), .long (1 : Int64)]) (rest := []) ⟨hx, hb, hml, hown, hts⟩ (c_X7_in l N kd G ct x1.toInt64 (0 : Int64) (1 : Int64) _ hcl) (va_cwS 3 hts gX7_law_X7_in rfl rfl rfl (by decide +kernel) ⟨Nat.le_of_ble_eq_true rfl, Nat.le_of_ble_eq_true rfl⟩) hK hE hA hW rfl hl.1 rfl (lv_room (Nat.le_of_ble_eq_true rfl)) dX7_law_4 (fun H locs hW => ?_)
  refine lv_if_ne (tgt := 13) hx hb dX7_law_7 (by decide) (fun hc => ?_) (fun hc => ?_)
  · replace hf := ifn hc hf
    refine lv_aload_n hx hb dX7_law_13 rfl (lv_at hl 0 rfl) ?_
    refine x_get (ci := 7) (v := .int (g 13 0)) (C := RX7) (T := TX7) (N := 44) hx hb hts inX7 hown hK hW 0 rfl rfl 12 (by decide) fl204 (fun _ h9 => h9) rfl dX7_law_14 ?_
    refine lv_istore_n (lv' := [(2, .int (g 13 0)), (0, .ref (a 0)), (1, .int x1)]) hx hb dX7_law_17 rfl hl (by decide) rfl (fun ls hl => ?_)
    refine lv_aload_n hx hb dX7_law_18 rfl (lv_at hl 1 rfl) ?_
    refine lv_iload_n hx hb dX7_law_19 rfl (lv_at hl 2 rfl) ?_
    refine x_put (w' := (wX7 a ct (up1 g 13 0 x1) sg)) (fs := fsX7 a g sg) (ci := 7) (v := .int x1) (ty := .int) (C := RX7) (T := TX7) (N := 44) hx hb hts inX7 tyX7 tyX7_ok nmX7 hown hK hW 0 rfl rfl 12 (by decide) fl204 (fun _ h9 => h9) rfl (by decide +kernel) rfl rfl (Nat.le_of_ble_eq_true rfl) (wp_X7_13 a ct g sg x1) dX7_law_20 (fun H locs hW => ?_)
    refine lv_iload_n hx hb dX7_law_23 rfl (lv_at hl 0 rfl) ?_
    have ho := Option.some.inj hf
    subst ho
    exact x_reti (sz := 0) (w0 := []) (A1 := A) hx hb hr hlocks hK hW rfl rfl dX7_law_24
  · replace hf := ifp hc hf
    refine lv_ldc (v := (-1000000002 : Int32)) hx hb hown fl111 dX7_law_10 ?_
    have ho := Option.some.inj hf
    subst ho
    exact x_reti (sz := 0) (w0 := []) (A1 := A) hx hb hr hlocks hK hW rfl rfl dX7_law_12
set_option maxHeartbeats 4000000 in
set_option maxRecDepth 100000 in
theorem c_X7_draw (l : Launch) (N : Nat) (kd : (Nat → Nat) × (Nat → Nat)) (G : va_G) (ct : Nat → ClassId) (a : Nat → Nat) (g : St_) (sg : Int64) (x1 : Int32) (o : (Int32 × St_)) (hf : f_X7_draw N g x1 = some o) : CtI l yX7_draw wsX7_draw ({ frames := 0, cells := 0, slots := 0, locals := 0 }) kd G ct [.ref (a 0), .int x1] (wX7 a ct g sg) o.1 (wX7 a ct o.2 sg) := by
  intro sz
  refine Met.ofW (cc := cX7_draw) (maxL := 2) (ret := (some .int)) (by decide) rfl ?_
  intro p e s m args below meth c s₁ B hml hv
  obtain ⟨rfl, hsz, hP, hK, hD0, hE⟩ := hv
  have hx := B.exec
  have hb := B.bytes
  have hr := B.returns
  have hts := atoms_spec (ws := wsX7_draw) B.pre
  have hown : s.vm.findClass RX7 = some m.cls := findClass_of_methodNamed B.named
  have hlocks := B.notSynchronized
  have inX7 : ∀ w ∈ wsX70, w ∈ wsX7_draw := by decide +kernel
  have fl250 := hts (.fieldLink RX7 250 "FittingStridesModel" "seed" "I") (by decide +kernel)
  have fl253 := hts (.constantLong RX7 253 (1103515245)) (by decide +kernel)
  have fl255 := hts (.constantLong RX7 255 (12345)) (by decide +kernel)
  have fl257 := hts (.constantLong RX7 257 (2147483648)) (by decide +kernel)
  have fl259 := hts (.constant RX7 259 (65536)) (by decide +kernel)
  subst hsz
  have hD := hD0.self (sz := s.heap.size)
  generalize hAe : va_A (wX7 a ct g sg) s.heap.size = A at hD hE ⊢
  have hA : ∀ q : Nat, s.heap.size ≤ q → A q := fun q h => by rw [← hAe]; exact Or.inr h
  have hW : WW G A s.heap (wX7 a ct g sg) s.heap [] := ⟨hP, hD, va_S.rf⟩
  have hl := lv_entry ([.ref (a 0), .int x1]) (n := 2) (Nat.le_of_ble_eq_true rfl)
  rw [lg_entry_eq]
  generalize (lg_sl ([.ref (a 0), .int x1]) ++ List.replicate (2 - (lg_sl ([.ref (a 0), .int x1])).length) Slot.unset).toArray = ls at hl ⊢
  have hl : lv_has ls 2 [(0, .ref (a 0)), (1, .int x1)] := hl
  unfold f_X7_draw at hf
  show W p l e ({ frames := 0, cells := 0, slots := 0, locals := 0 } : Room) s m (List.toArray [.ref (a 0), .int x1]) below meth c s.heap [] 0 0 (MQ below (va_Qi (fun r (_ : Unit) => r = o.1) (fun _ t => Af_ G ct (wX7 a ct o.2 sg) A t) A) (List.toArray [.ref (a 0), .int x1]) s 0 0 A) (F0 m 0 ls [])
  refine lv_aload_n hx hb dX7_draw_0 rfl (lv_at hl 0 rfl) ?_
  refine lv_aload_n hx hb dX7_draw_1 rfl (lv_at hl 0 rfl) ?_
  refine x_get (ci := 7) (v := .int (g 14 0)) (C := RX7) (T := TX7) (N := 44) hx hb hts inX7 hown hK hW 0 rfl rfl 13 (by decide) fl250 (fun _ h9 => h9) rfl dX7_draw_2 ?_
  refine lv_i2l hx hb dX7_draw_5 rfl ?_
  refine lv_ldc2 (v := (1103515245 : Int64)) hx hb hown fl253 dX7_draw_6 ?_
  refine lv_lmul hx hb dX7_draw_9 ?_
  refine lv_ldc2 (v := (12345 : Int64)) hx hb hown fl255 dX7_draw_10 ?_
  refine lv_ladd hx hb dX7_draw_13 ?_
  refine lv_ldc2 (v := (2147483648 : Int64)) hx hb hown fl257 dX7_draw_14 ?_
  replace hf := gd_s hf; obtain ⟨hnz, hf⟩ := hf
  refine lv_lrem hx hb dX7_draw_17 (nzL_s hnz) ?_
  refine lv_l2i hx hb dX7_draw_18 rfl ?_
  refine x_put (w' := (wX7 a ct (up1 g 14 0 (((((g 14 0).toInt64 * (1103515245 : Int64)) + (12345 : Int64)) - (((g 14 0).toInt64 * (1103515245 : Int64)) + (12345 : Int64)) / (2147483648 : Int64) * (2147483648 : Int64)).toInt32)) sg)) (fs := fsX7 a g sg) (ci := 7) (v := .int ((((g 14 0).toInt64 * (1103515245 : Int64)) + (12345 : Int64)) - (((g 14 0).toInt64 * (1103515245 : Int64)) + (12345 : Int64)) / (2147483648 : Int64) * (2147483648 : Int64)).toInt32) (ty := .int) (C := RX7) (T := TX7) (N := 44) hx hb hts inX7 tyX7 tyX7_ok nmX7 hown hK hW 0 rfl rfl 13 (by decide) fl250 (fun _ h9 => h9) rfl (by decide +kernel) rfl rfl (Nat.le_of_ble_eq_true rfl) (wp_X7_14 a ct g sg (((((g 14 0).toInt64 * (1103515245 : Int64)) + (12345 : Int64)) - (((g 14 0).toInt64 * (1103515245 : Int64)) + (12345 : Int64)) / (2147483648 : Int64) * (2147483648 : Int64)).toInt32)) dX7_draw_19 (fun H locs hW => ?_)
  refine lv_aload_n hx hb dX7_draw_22 rfl (lv_at hl 0 rfl) ?_
  refine x_get (ci := 7) (v := .int (((((g 14 0).toInt64 * (1103515245 : Int64)) + (12345 : Int64)) - (((g 14 0).toInt64 * (1103515245 : Int64)) + (12345 : Int64)) / (2147483648 : Int64) * (2147483648 : Int64)).toInt32)) (C := RX7) (T := TX7) (N := 44) hx hb hts inX7 hown hK hW 0 rfl rfl 13 (by decide) fl250 (fun _ h9 => h9) rfl dX7_draw_23 ?_
  refine lv_ldcw (v := (65536 : Int32)) hx hb hown fl259 dX7_draw_26 ?_
  replace hf := gd_s hf; obtain ⟨hnz, hf⟩ := hf
  refine lv_idiv hx hb dX7_draw_29 (nzI_s hnz) ?_
  refine lv_iload_n hx hb dX7_draw_30 rfl (lv_at hl 1 rfl) ?_
  replace hf := gd_s hf; obtain ⟨hnz, hf⟩ := hf
  refine lv_irem hx hb dX7_draw_31 (nzI_s hnz) ?_
  have ho := Option.some.inj hf
  subst ho
  exact x_reti (sz := 0) (w0 := []) (A1 := A) hx hb hr hlocks hK hW rfl rfl dX7_draw_32
set_option maxHeartbeats 4000000 in
set_option maxRecDepth 100000 in
theorem c_X7_dayNow (l : Launch) (N : Nat) (kd : (Nat → Nat) × (Nat → Nat)) (G : va_G) (ct : Nat → ClassId) (a : Nat → Nat) (g : St_) (sg : Int64) (o : St_) (hf : f_X7_dayNow N g = some o) : CtV l yX7_dayNow wsX7_dayNow ({ frames := 3, cells := 0, slots := 0, locals := 69 }) kd G ct [.ref (a 0)] (wX7 a ct g sg) (wX7 a ct o sg) := by
  intro sz
  refine Met.ofW (cc := cX7_dayNow) (maxL := 3) (ret := none) (by decide) rfl ?_
  intro p e s m args below meth c s₁ B hml hv
  obtain ⟨rfl, hsz, hP, hK, hD0, hE⟩ := hv
  have hx := B.exec
  have hb := B.bytes
  have hr := B.returns
  have hts := atoms_spec (ws := wsX7_dayNow) B.pre
  have hown : s.vm.findClass RX7 = some m.cls := findClass_of_methodNamed B.named
  have hlocks := B.notSynchronized
  have inX7 : ∀ w ∈ wsX70, w ∈ wsX7_dayNow := by decide +kernel
  have fl28 := hts (.fieldLink RX7 28 "FittingStridesModel" "at" "[I") (by decide +kernel)
  have fl31 := hts (.fieldLink RX7 31 "FittingStridesModel" "first" "[I") (by decide +kernel)
  have fl34 := hts (.fieldLink RX7 34 "FittingStridesModel" "second" "[I") (by decide +kernel)
  have fl103 := hts (.fieldLink RX7 103 "FittingStridesModel" "stairs" "I") (by decide +kernel)
  have fl106 := hts (.fieldLink RX7 106 "FittingStridesModel" "persons" "I") (by decide +kernel)
  subst hsz
  have hD := hD0.self (sz := s.heap.size)
  generalize hAe : va_A (wX7 a ct g sg) s.heap.size = A at hD hE ⊢
  have hA : ∀ q : Nat, s.heap.size ≤ q → A q := fun q h => by rw [← hAe]; exact Or.inr h
  have hW : WW G A s.heap (wX7 a ct g sg) s.heap [] := ⟨hP, hD, va_S.rf⟩
  have hl := lv_entry ([.ref (a 0)]) (n := 3) (Nat.le_of_ble_eq_true rfl)
  rw [lg_entry_eq]
  generalize (lg_sl ([.ref (a 0)]) ++ List.replicate (3 - (lg_sl ([.ref (a 0)])).length) Slot.unset).toArray = ls at hl ⊢
  have hl : lv_has ls 3 [(0, .ref (a 0))] := hl
  unfold f_X7_dayNow at hf
  show W p l e ({ frames := 3, cells := 0, slots := 0, locals := 69 } : Room) s m (List.toArray [.ref (a 0)]) below meth c s.heap [] 0 0 (MQ below (va_Qv (fun (_ : Unit) => True) (fun _ t => Af_ G ct (wX7 a ct o sg) A t) A) (List.toArray [.ref (a 0)]) s 0 0 A) (F0 m 0 ls [])
  refine lv_aload_n hx hb dX7_dayNow_0 rfl (lv_at hl 0 rfl) ?_
  refine lv_aload_n hx hb dX7_dayNow_1 rfl (lv_at hl 0 rfl) ?_
  refine x_get (ci := 7) (v := .int (g 9 0)) (C := RX7) (T := TX7) (N := 44) hx hb hts inX7 hown hK hW 0 rfl rfl 8 (by decide) fl106 (fun _ h9 => h9) rfl dX7_dayNow_2 ?_
  replace hf := bs_ hf; obtain ⟨r1, hcl, hf⟩ := hf
  refine x_callW_i (w' := (wX7 a ct r1.2 sg)) (As := [.int (g 9 0)]) (rest := []) (ci := 7) ⟨hx, hb, hml, hown, hts⟩ (c_X7_draw l N kd G ct a g sg (g 9 0) _ hcl) (cwV 1 hts gX7_dayNow_X7_draw rfl rfl rfl (by decide +kernel) ⟨Nat.le_of_ble_eq_true rfl, Nat.le_of_ble_eq_true rfl⟩) hK hE hA hW rfl rfl 0 rfl rfl rfl rfl hl.1 rfl (lv_room (Nat.le_of_ble_eq_true rfl)) dX7_dayNow_5 (fun H locs hW => ?_)
  refine lv_istore_n (lv' := [(1, .int r1.1), (0, .ref (a 0))]) hx hb dX7_dayNow_8 rfl hl (by decide) rfl (fun ls hl => ?_)
  refine lv_aload_n hx hb dX7_dayNow_9 rfl (lv_at hl 1 rfl) ?_
  refine lv_aload_n hx hb dX7_dayNow_10 rfl (lv_at hl 1 rfl) ?_
  refine x_get (ci := 7) (v := .int (r1.2 2 0)) (C := RX7) (T := TX7) (N := 44) hx hb hts inX7 hown hK hW 0 rfl rfl 1 (by decide) fl103 (fun _ h9 => h9) rfl dX7_dayNow_11 ?_
  replace hf := bs_ hf; obtain ⟨r2, hcl, hf⟩ := hf
  refine x_callW_i (w' := (wX7 a ct r2.2 sg)) (As := [.int (r1.2 2 0)]) (rest := []) (ci := 7) ⟨hx, hb, hml, hown, hts⟩ (c_X7_draw l N kd G ct a r1.2 sg (r1.2 2 0) _ hcl) (cwV 1 hts gX7_dayNow_X7_draw rfl rfl rfl (by decide +kernel) ⟨Nat.le_of_ble_eq_true rfl, Nat.le_of_ble_eq_true rfl⟩) hK hE hA hW rfl rfl 0 rfl rfl rfl rfl hl.1 rfl (lv_room (Nat.le_of_ble_eq_true rfl)) dX7_dayNow_14 (fun H locs hW => ?_)
  refine lv_istore_n (lv' := [(2, .int r2.1), (1, .int r1.1), (0, .ref (a 0))]) hx hb dX7_dayNow_17 rfl hl (by decide) rfl (fun ls hl => ?_)
  refine lv_aload_n hx hb dX7_dayNow_18 rfl (lv_at hl 2 rfl) ?_
  refine lv_iload_n hx hb dX7_dayNow_19 rfl (lv_at hl 1 rfl) ?_
  refine lv_iload_n hx hb dX7_dayNow_20 rfl (lv_at hl 0 rfl) ?_
  replace hf := bs_ hf; obtain ⟨r3, hcl, hf⟩ := hf
  refine x_callW_i (w' := (wX7 a ct r2.2 sg)) (As := [.int r1.1, .int r2.1]) (rest := []) (ci := 7) ⟨hx, hb, hml, hown, hts⟩ (c_X7_canGo l N kd G ct a r2.2 sg r1.1 r2.1 _ hcl) (cwV 2 hts gX7_dayNow_X7_canGo rfl rfl rfl (by decide +kernel) ⟨Nat.le_of_ble_eq_true rfl, Nat.le_of_ble_eq_true rfl⟩) hK hE hA hW rfl rfl 0 rfl rfl rfl rfl hl.1 rfl (lv_room (Nat.le_of_ble_eq_true rfl)) dX7_dayNow_21 (fun H locs hW => ?_)
  replace hf := bs_ hf; obtain ⟨j4, hg, hf⟩ := hf
  have J4 : ∀ (H : Heap) (locs : List Loc) (ls : Array Slot), WW G A s.heap (wX7 a ct j4 sg) H locs → lv_has ls 3 [(0, .ref (a 0)), (1, .int r1.1)] → W p l e ({ frames := 3, cells := 0, slots := 0, locals := 69 } : Room) s m (List.toArray [.ref (a 0)]) below meth c H locs 0 0 (MQ below (va_Qv (fun (_ : Unit) => True) (fun _ t => Af_ G ct (wX7 a ct o sg) A t) A) (List.toArray [.ref (a 0)]) s 0 0 A) (F0 m 33 ls ([])) := by
    intro H locs ls hW hl
    refine lv_aload_n hx hb dX7_dayNow_33 rfl (lv_at hl 0 rfl) ?_
    refine lv_bipush (v := (16 : Int32)) hx hb dX7_dayNow_34 (by decide) ?_
    replace hf := bs_ hf; obtain ⟨r6, hcl, hf⟩ := hf
    refine x_callW_i (w' := (wX7 a ct r6.2 sg)) (As := [.int (16 : Int32)]) (rest := []) (ci := 7) ⟨hx, hb, hml, hown, hts⟩ (c_X7_draw l N kd G ct a j4 sg (16 : Int32) _ hcl) (cwV 1 hts gX7_dayNow_X7_draw rfl rfl rfl (by decide +kernel) ⟨Nat.le_of_ble_eq_true rfl, Nat.le_of_ble_eq_true rfl⟩) hK hE hA hW rfl rfl 0 rfl rfl rfl rfl hl.1 rfl (lv_room (Nat.le_of_ble_eq_true rfl)) dX7_dayNow_36 (fun H locs hW => ?_)
    refine lv_if_ne (tgt := 120) hx hb dX7_dayNow_39 (by decide) (fun hc => ?_) (fun hc => ?_)
    · replace hf := ifn hc hf
      have ho := Option.some.inj hf
      subst ho
      exact x_retv hx hb hr hlocks hK hW rfl dX7_dayNow_120
    · replace hf := ifp hc hf
      refine lv_aload_n hx hb dX7_dayNow_42 rfl (lv_at hl 0 rfl) ?_
      refine x_get (ci := 7) (v := .int (r6.2 9 0)) (C := RX7) (T := TX7) (N := 44) hx hb hts inX7 hown hK hW 0 rfl rfl 8 (by decide) fl106 (fun _ h9 => h9) rfl dX7_dayNow_43 ?_
      refine lv_bipush (v := (8 : Int32)) hx hb dX7_dayNow_46 (by decide) ?_
      refine lv_icmp_ge (tgt := 120) hx hb dX7_dayNow_48 (by decide) (fun hc => ?_) (fun hc => ?_)
      · replace hf := ifp hc hf
        have ho := Option.some.inj hf
        subst ho
        exact x_retv hx hb hr hlocks hK hW rfl dX7_dayNow_120
      · replace hf := ifn hc hf
        refine lv_aload_n hx hb dX7_dayNow_51 rfl (lv_at hl 0 rfl) ?_
        refine x_get (ci := 7) (v := .ref (a 10)) (C := RX7) (T := TX7) (N := 44) hx hb hts inX7 hown hK hW 0 rfl rfl 9 (by decide) fl28 (fun _ h9 => h9) rfl dX7_dayNow_52 ?_
        refine lv_aload_n hx hb dX7_dayNow_55 rfl (lv_at hl 0 rfl) ?_
        refine x_get (ci := 7) (v := .int (r6.2 9 0)) (C := RX7) (T := TX7) (N := 44) hx hb hts inX7 hown hK hW 0 rfl rfl 8 (by decide) fl106 (fun _ h9 => h9) rfl dX7_dayNow_56 ?_
        refine lv_aload_n hx hb dX7_dayNow_59 rfl (lv_at hl 0 rfl) ?_
        refine x_get (ci := 7) (v := .ref (a 10)) (C := RX7) (T := TX7) (N := 44) hx hb hts inX7 hown hK hW 0 rfl rfl 9 (by decide) fl28 (fun _ h9 => h9) rfl dX7_dayNow_60 ?_
        refine lv_iload_n hx hb dX7_dayNow_63 rfl (lv_at hl 1 rfl) ?_
        replace hf := gd_s hf; obtain ⟨hin, hf⟩ := hf
        refine x_iald (n := 8) (f := r6.2 10) hx hb hK hW 7 rfl (okI_in hin) dX7_dayNow_64 ?_
        replace hf := gd_s hf; obtain ⟨hin, hf⟩ := hf
        refine x_iast (w' := (wX7 a ct (up1 r6.2 10 (r6.2 9 0).toNatClampNeg (r6.2 10 r1.1.toNatClampNeg)) sg)) (n := 8) (f := r6.2 10) hx hb hK hW 7 rfl (okI_in hin) (ws_X7_10 a ct r6.2 sg _ _) dX7_dayNow_65 (fun H locs hW => ?_)
        refine lv_aload_n hx hb dX7_dayNow_66 rfl (lv_at hl 0 rfl) ?_
        refine x_get (ci := 7) (v := .ref (a 11)) (C := RX7) (T := TX7) (N := 44) hx hb hts inX7 hown hK hW 0 rfl rfl 10 (by decide) fl31 (fun _ h9 => h9) rfl dX7_dayNow_67 ?_
        refine lv_aload_n hx hb dX7_dayNow_70 rfl (lv_at hl 0 rfl) ?_
        refine x_get (ci := 7) (v := .int (r6.2 9 0)) (C := RX7) (T := TX7) (N := 44) hx hb hts inX7 hown hK hW 0 rfl rfl 8 (by decide) fl106 (fun _ h9 => h9) rfl dX7_dayNow_71 ?_
        refine lv_aload_n hx hb dX7_dayNow_74 rfl (lv_at hl 0 rfl) ?_
        refine lv_iconst (v := (2 : Int32)) hx hb dX7_dayNow_75 (by decide) ?_
        replace hf := bs_ hf; obtain ⟨r7, hcl, hf⟩ := hf
        refine x_callW_i (w' := (wX7 a ct r7.2 sg)) (As := [.int (2 : Int32)]) (rest := [.int (r6.2 9 0), .ref (a 11)]) (ci := 7) ⟨hx, hb, hml, hown, hts⟩ (c_X7_draw l N kd G ct a (up1 r6.2 10 (r6.2 9 0).toNatClampNeg (r6.2 10 r1.1.toNatClampNeg)) sg (2 : Int32) _ hcl) (cwV 1 hts gX7_dayNow_X7_draw rfl rfl rfl (by decide +kernel) ⟨Nat.le_of_ble_eq_true rfl, Nat.le_of_ble_eq_true rfl⟩) hK hE hA hW rfl rfl 0 rfl rfl rfl rfl hl.1 rfl (lv_room (Nat.le_of_ble_eq_true rfl)) dX7_dayNow_76 (fun H locs hW => ?_)
        replace hf := bs_ hf; obtain ⟨j8, hg, hf⟩ := hf
        have J8 : ∀ (H : Heap) (locs : List Loc) (ls : Array Slot), WW G A s.heap (wX7 a ct j8.2 sg) H locs → lv_has ls 3 [(0, .ref (a 0))] → W p l e ({ frames := 3, cells := 0, slots := 0, locals := 69 } : Room) s m (List.toArray [.ref (a 0)]) below meth c H locs 0 0 (MQ below (va_Qv (fun (_ : Unit) => True) (fun _ t => Af_ G ct (wX7 a ct o sg) A t) A) (List.toArray [.ref (a 0)]) s 0 0 A) (F0 m 99 ls (.int j8.1 :: .int (r6.2 9 0) :: .ref (a 11) :: [])) := by
          intro H locs ls hW hl
          replace hf := gd_s hf; obtain ⟨hin, hf⟩ := hf
          refine x_iast (w' := (wX7 a ct (up1 j8.2 11 (r6.2 9 0).toNatClampNeg j8.1) sg)) (n := 8) (f := j8.2 11) hx hb hK hW 8 rfl (okI_in hin) (ws_X7_11 a ct j8.2 sg _ _) dX7_dayNow_99 (fun H locs hW => ?_)
          refine lv_aload_n hx hb dX7_dayNow_100 rfl (lv_at hl 0 rfl) ?_
          refine x_get (ci := 7) (v := .ref (a 12)) (C := RX7) (T := TX7) (N := 44) hx hb hts inX7 hown hK hW 0 rfl rfl 11 (by decide) fl34 (fun _ h9 => h9) rfl dX7_dayNow_101 ?_
          refine lv_aload_n hx hb dX7_dayNow_104 rfl (lv_at hl 0 rfl) ?_
          refine x_get (ci := 7) (v := .int (j8.2 9 0)) (C := RX7) (T := TX7) (N := 44) hx hb hts inX7 hown hK hW 0 rfl rfl 8 (by decide) fl106 (fun _ h9 => h9) rfl dX7_dayNow_105 ?_
          refine lv_iconst (v := (0 : Int32)) hx hb dX7_dayNow_108 (by decide) ?_
          replace hf := gd_s hf; obtain ⟨hin, hf⟩ := hf
          refine x_iast (w' := (wX7 a ct (up1 (up1 j8.2 11 (r6.2 9 0).toNatClampNeg j8.1) 12 (j8.2 9 0).toNatClampNeg (0 : Int32)) sg)) (n := 8) (f := (up1 j8.2 11 (r6.2 9 0).toNatClampNeg j8.1) 12) hx hb hK hW 9 rfl (okI_in hin) (ws_X7_12 a ct (up1 j8.2 11 (r6.2 9 0).toNatClampNeg j8.1) sg _ _) dX7_dayNow_109 (fun H locs hW => ?_)
          refine lv_aload_n hx hb dX7_dayNow_110 rfl (lv_at hl 0 rfl) ?_
          refine lv_dup hx hb dX7_dayNow_111 rfl ?_
          refine x_get (ci := 7) (v := .int (j8.2 9 0)) (C := RX7) (T := TX7) (N := 44) hx hb hts inX7 hown hK hW 0 rfl rfl 8 (by decide) fl106 (fun _ h9 => h9) rfl dX7_dayNow_112 ?_
          refine lv_iconst (v := (1 : Int32)) hx hb dX7_dayNow_115 (by decide) ?_
          refine lv_iadd hx hb dX7_dayNow_116 ?_
          refine x_put (w' := (wX7 a ct (up1 (up1 (up1 j8.2 11 (r6.2 9 0).toNatClampNeg j8.1) 12 (j8.2 9 0).toNatClampNeg (0 : Int32)) 9 0 ((j8.2 9 0) + (1 : Int32))) sg)) (fs := fsX7 a (up1 (up1 j8.2 11 (r6.2 9 0).toNatClampNeg j8.1) 12 (j8.2 9 0).toNatClampNeg (0 : Int32)) sg) (ci := 7) (v := .int ((j8.2 9 0) + (1 : Int32))) (ty := .int) (C := RX7) (T := TX7) (N := 44) hx hb hts inX7 tyX7 tyX7_ok nmX7 hown hK hW 0 rfl rfl 8 (by decide) fl106 (fun _ h9 => h9) rfl (by decide +kernel) rfl rfl (Nat.le_of_ble_eq_true rfl) (wp_X7_9 a ct (up1 (up1 j8.2 11 (r6.2 9 0).toNatClampNeg j8.1) 12 (j8.2 9 0).toNatClampNeg (0 : Int32)) sg ((j8.2 9 0) + (1 : Int32))) dX7_dayNow_117 (fun H locs hW => ?_)
          have ho := Option.some.inj hf
          subst ho
          exact x_retv hx hb hr hlocks hK hW rfl dX7_dayNow_120
        clear hf
        refine lv_if_ne (tgt := 91) hx hb dX7_dayNow_79 (by decide) (fun hc => ?_) (fun hc => ?_)
        · have hf := ifn hc hg
          clear hg
          refine lv_aload_n hx hb dX7_dayNow_91 rfl (lv_at hl 0 rfl) ?_
          refine lv_bipush (v := (24 : Int32)) hx hb dX7_dayNow_92 (by decide) ?_
          replace hf := bs_ hf; obtain ⟨r9, hcl, hf⟩ := hf
          refine x_callW_i (w' := (wX7 a ct r9.2 sg)) (As := [.int (24 : Int32)]) (rest := [.int (r6.2 9 0), .ref (a 11)]) (ci := 7) ⟨hx, hb, hml, hown, hts⟩ (c_X7_draw l N kd G ct a r7.2 sg (24 : Int32) _ hcl) (cwV 1 hts gX7_dayNow_X7_draw rfl rfl rfl (by decide +kernel) ⟨Nat.le_of_ble_eq_true rfl, Nat.le_of_ble_eq_true rfl⟩) hK hE hA hW rfl rfl 0 rfl rfl rfl rfl hl.1 rfl (lv_room (Nat.le_of_ble_eq_true rfl)) dX7_dayNow_94 (fun H locs hW => ?_)
          refine lv_iconst (v := (1 : Int32)) hx hb dX7_dayNow_97 (by decide) ?_
          refine lv_iadd hx hb dX7_dayNow_98 ?_
          have hj := Option.some.inj hf
          subst hj
          exact J8 _ _ _ hW (lv_sub hl [0] rfl)
        · have hf := ifp hc hg
          clear hg
          refine lv_aload_n hx hb dX7_dayNow_82 rfl (lv_at hl 0 rfl) ?_
          refine x_get (ci := 7) (v := .ref (a 11)) (C := RX7) (T := TX7) (N := 44) hx hb hts inX7 hown hK hW 0 rfl rfl 10 (by decide) fl31 (fun _ h9 => h9) rfl dX7_dayNow_83 ?_
          refine lv_iload_n hx hb dX7_dayNow_86 rfl (lv_at hl 1 rfl) ?_
          replace hf := gd_s hf; obtain ⟨hin, hf⟩ := hf
          refine x_iald (n := 8) (f := r7.2 11) hx hb hK hW 8 rfl (okI_in hin) dX7_dayNow_87 ?_
          refine lv_goto (tgt := 99) hx hb dX7_dayNow_88 (by decide) ?_
          have hj := Option.some.inj hf
          subst hj
          exact J8 _ _ _ hW (lv_sub hl [0] rfl)
  clear hf
  refine lv_if_eq (tgt := 33) hx hb dX7_dayNow_24 (by decide) (fun hc => ?_) (fun hc => ?_)
  · have hf := ifp hc hg
    clear hg
    have hj := Option.some.inj hf
    subst hj
    exact J4 _ _ _ hW (lv_sub hl [2, 1] rfl)
  · have hf := ifn hc hg
    clear hg
    refine lv_aload_n hx hb dX7_dayNow_27 rfl (lv_at hl 2 rfl) ?_
    refine lv_iload_n hx hb dX7_dayNow_28 rfl (lv_at hl 1 rfl) ?_
    refine lv_iload_n hx hb dX7_dayNow_29 rfl (lv_at hl 0 rfl) ?_
    replace hf := bs_ hf; obtain ⟨r5, hcl, hf⟩ := hf
    refine x_callW_v (w' := (wX7 a ct r5 sg)) (As := [.int r1.1, .int r2.1]) (rest := []) (ci := 7) ⟨hx, hb, hml, hown, hts⟩ (c_X7_goNow l N kd G ct a r2.2 sg r1.1 r2.1 _ hcl) (cwV 2 hts gX7_dayNow_X7_goNow rfl rfl rfl (by decide +kernel) ⟨Nat.le_of_ble_eq_true rfl, Nat.le_of_ble_eq_true rfl⟩) hK hE hA hW rfl rfl 0 rfl rfl rfl rfl hl.1 rfl (lv_room (Nat.le_of_ble_eq_true rfl)) dX7_dayNow_30 (fun H locs hW => ?_)
    have hj := Option.some.inj hf
    subst hj
    exact J4 _ _ _ hW (lv_sub hl [2, 1] rfl)
set_option maxHeartbeats 4000000 in
set_option maxRecDepth 100000 in
theorem c_X7_drift (l : Launch) (N : Nat) (kd : (Nat → Nat) × (Nat → Nat)) (G : va_G) (ct : Nat → ClassId) (a : Nat → Nat) (g : St_) (sg : Int64) (x1 : Int32) (o : (Int32 × St_)) (hf : f_X7_drift N g x1 = some o) : CtI l yX7_drift wsX7_drift ({ frames := 4, cells := 0, slots := 0, locals := 91 }) kd G ct [.ref (a 0), .int x1] (wX7 a ct g sg) o.1 (wX7 a ct o.2 sg) := by
  intro sz
  refine Met.ofW (cc := cX7_drift) (maxL := 3) (ret := (some .int)) (by decide) rfl ?_
  intro p e s m args below meth c s₁ B hml hv
  obtain ⟨rfl, hsz, hP, hK, hD0, hE⟩ := hv
  have hx := B.exec
  have hb := B.bytes
  have hr := B.returns
  have hts := atoms_spec (ws := wsX7_drift) B.pre
  have hown : s.vm.findClass RX7 = some m.cls := findClass_of_methodNamed B.named
  have hlocks := B.notSynchronized
  have inX7 : ∀ w ∈ wsX70, w ∈ wsX7_drift := by decide +kernel
  have fl103 := hts (.fieldLink RX7 103 "FittingStridesModel" "stairs" "I") (by decide +kernel)
  have fl106 := hts (.fieldLink RX7 106 "FittingStridesModel" "persons" "I") (by decide +kernel)
  have fl111 := hts (.constant RX7 111 (-1000000002)) (by decide +kernel)
  have fl243 := hts (.constant RX7 243 (-1000000003)) (by decide +kernel)
  have fl263 := hts (.constantLong RX7 263 (99)) (by decide +kernel)
  subst hsz
  have hD := hD0.self (sz := s.heap.size)
  generalize hAe : va_A (wX7 a ct g sg) s.heap.size = A at hD hE ⊢
  have hA : ∀ q : Nat, s.heap.size ≤ q → A q := fun q h => by rw [← hAe]; exact Or.inr h
  have hW : WW G A s.heap (wX7 a ct g sg) s.heap [] := ⟨hP, hD, va_S.rf⟩
  have hl := lv_entry ([.ref (a 0), .int x1]) (n := 3) (Nat.le_of_ble_eq_true rfl)
  rw [lg_entry_eq]
  generalize (lg_sl ([.ref (a 0), .int x1]) ++ List.replicate (3 - (lg_sl ([.ref (a 0), .int x1])).length) Slot.unset).toArray = ls at hl ⊢
  have hl : lv_has ls 3 [(0, .ref (a 0)), (1, .int x1)] := hl
  unfold f_X7_drift at hf
  show W p l e ({ frames := 4, cells := 0, slots := 0, locals := 91 } : Room) s m (List.toArray [.ref (a 0), .int x1]) below meth c s.heap [] 0 0 (MQ below (va_Qi (fun r (_ : Unit) => r = o.1) (fun _ t => Af_ G ct (wX7 a ct o.2 sg) A t) A) (List.toArray [.ref (a 0), .int x1]) s 0 0 A) (F0 m 0 ls [])
  refine lv_iload_n hx hb dX7_drift_0 rfl (lv_at hl 1 rfl) ?_
  refine lv_i2l hx hb dX7_drift_1 rfl ?_
  refine lv_lconst (v := (1 : Int64)) hx hb dX7_drift_2 (by decide) ?_
  refine lv_ldc2 (v := (99 : Int64)) hx hb hown fl263 dX7_drift_3 ?_
  replace hf := bs_ hf; obtain ⟨r1, hcl, hf⟩ := hf
  refine x_callS_i (As := [.long x1.toInt64, .long (1 : Int64), .long (99 : Int64)]) (rest := []) ⟨hx, hb, hml, hown, hts⟩ (c_X7_in l N kd G ct x1.toInt64 (1 : Int64) (99 : Int64) _ hcl) (va_cwS 3 hts gX7_drift_X7_in rfl rfl rfl (by decide +kernel) ⟨Nat.le_of_ble_eq_true rfl, Nat.le_of_ble_eq_true rfl⟩) hK hE hA hW rfl hl.1 rfl (lv_room (Nat.le_of_ble_eq_true rfl)) dX7_drift_6 (fun H locs hW => ?_)
  refine lv_if_ne (tgt := 15) hx hb dX7_drift_9 (by decide) (fun hc => ?_) (fun hc => ?_)
  · replace hf := ifn hc hf
    refine lv_aload_n hx hb dX7_drift_15 rfl (lv_at hl 0 rfl) ?_
    refine x_get (ci := 7) (v := .int (g 9 0)) (C := RX7) (T := TX7) (N := 44) hx hb hts inX7 hown hK hW 0 rfl rfl 8 (by decide) fl106 (fun _ h9 => h9) rfl dX7_drift_16 ?_
    refine lv_if_eq (tgt := 29) hx hb dX7_drift_19 (by decide) (fun hc => ?_) (fun hc => ?_)
    · replace hf := ifp hc hf
      refine lv_ldc (v := (-1000000003 : Int32)) hx hb hown fl243 dX7_drift_29 ?_
      have ho := Option.some.inj hf
      subst ho
      exact x_reti (sz := 0) (w0 := []) (A1 := A) hx hb hr hlocks hK hW rfl rfl dX7_drift_31
    · replace hf := ifn hc hf
      refine lv_aload_n hx hb dX7_drift_22 rfl (lv_at hl 0 rfl) ?_
      refine x_get (ci := 7) (v := .int (g 2 0)) (C := RX7) (T := TX7) (N := 44) hx hb hts inX7 hown hK hW 0 rfl rfl 1 (by decide) fl103 (fun _ h9 => h9) rfl dX7_drift_23 ?_
      refine lv_if_ne (tgt := 32) hx hb dX7_drift_26 (by decide) (fun hc => ?_) (fun hc => ?_)
      · replace hf := ifn hc hf
        refine lv_iconst (v := (0 : Int32)) hx hb dX7_drift_32 (by decide) ?_
        refine lv_istore_n (lv' := [(2, .int (0 : Int32)), (0, .ref (a 0)), (1, .int x1)]) hx hb dX7_drift_33 rfl hl (by decide) rfl (fun ls hl => ?_)
        replace hf := bs_ hf; obtain ⟨v2, hg, hf⟩ := hf
        have J2 : ∀ (H : Heap) (locs : List Loc) (ls : Array Slot), WW G A s.heap (wX7 a ct v2 sg) H locs → lv_has ls 3 [(0, .ref (a 0))] → W p l e ({ frames := 4, cells := 0, slots := 0, locals := 91 } : Room) s m (List.toArray [.ref (a 0), .int x1]) below meth c H locs 0 0 (MQ below (va_Qi (fun r (_ : Unit) => r = o.1) (fun _ t => Af_ G ct (wX7 a ct o.2 sg) A t) A) (List.toArray [.ref (a 0), .int x1]) s 0 0 A) (F0 m 49 ls []) := by
          intro H locs ls hW hl
          refine lv_aload_n hx hb dX7_drift_49 rfl (lv_at hl 0 rfl) ?_
          refine x_get (ci := 7) (v := .int (v2 9 0)) (C := RX7) (T := TX7) (N := 44) hx hb hts inX7 hown hK hW 0 rfl rfl 8 (by decide) fl106 (fun _ h9 => h9) rfl dX7_drift_50 ?_
          have ho := Option.some.inj hf
          subst ho
          exact x_reti (sz := 0) (w0 := []) (A1 := A) hx hb hr hlocks hK hW rfl rfl dX7_drift_53
        clear hf
        have L2 : ∀ (n : Nat) (y2_2 : Int32) (g2 : St_), f_X7_drift_L34 N x1 n y2_2 g2 = some v2 → ∀ (H : Heap) (locs : List Loc) (ls : Array Slot), WW G A s.heap (wX7 a ct g2 sg) H locs → lv_has ls 3 [(0, .ref (a 0)), (1, .int x1), (2, .int y2_2)] → W p l e ({ frames := 4, cells := 0, slots := 0, locals := 91 } : Room) s m (List.toArray [.ref (a 0), .int x1]) below meth c H locs 0 0 (MQ below (va_Qi (fun r (_ : Unit) => r = o.1) (fun _ t => Af_ G ct (wX7 a ct o.2 sg) A t) A) (List.toArray [.ref (a 0), .int x1]) s 0 0 A) (F0 m 34 ls []) := by
          intro n
          induction n with
          | zero =>
            intro y2_2 g2 hf
            rw [f_X7_drift_L34] at hf
            cases hf
          | succ n ih =>
            intro y2_2 g2 hf H locs ls hW hl
            rw [f_X7_drift_L34] at hf
            refine lv_iload_n hx hb dX7_drift_34 rfl (lv_at hl 2 rfl) ?_
            refine lv_iload_n hx hb dX7_drift_35 rfl (lv_at hl 1 rfl) ?_
            refine lv_icmp_ge (tgt := 49) hx hb dX7_drift_36 (by decide) (fun hc => ?_) (fun hc => ?_)
            · replace hf := ifp hc hf
              have hj := Option.some.inj hf
              subst hj
              exact J2 _ _ _ hW (lv_sub hl [0] rfl)
            · replace hf := ifn hc hf
              refine lv_aload_n hx hb dX7_drift_39 rfl (lv_at hl 0 rfl) ?_
              replace hf := bs_ hf; obtain ⟨r3, hcl, hf⟩ := hf
              refine x_callW_v (w' := (wX7 a ct r3 sg)) (As := []) (rest := []) (ci := 7) ⟨hx, hb, hml, hown, hts⟩ (c_X7_dayNow l N kd G ct a g2 sg _ hcl) (cwV 0 hts gX7_drift_X7_dayNow rfl rfl rfl (by decide +kernel) ⟨Nat.le_of_ble_eq_true rfl, Nat.le_of_ble_eq_true rfl⟩) hK hE hA hW rfl rfl 0 rfl rfl rfl rfl hl.1 rfl (lv_room (Nat.le_of_ble_eq_true rfl)) dX7_drift_40 (fun H locs hW => ?_)
              refine lv_iinc (v := (y2_2 + (1 : Int32))) (lv' := [(2, .int (y2_2 + (1 : Int32))), (0, .ref (a 0)), (1, .int x1)]) hx hb dX7_drift_43 hl (k := 2) rfl rfl (by decide) rfl (fun ls hl => ?_)
              refine lv_goto (tgt := 34) hx hb dX7_drift_46 (by decide) ?_
              exact ih (y2_2 + (1 : Int32)) r3 hf _ _ _ hW (lv_sub hl [1, 2, 0] rfl)
        exact L2 N (0 : Int32) g hg _ _ _ hW (lv_sub hl [1, 2, 0] rfl)
      · replace hf := ifp hc hf
        refine lv_ldc (v := (-1000000003 : Int32)) hx hb hown fl243 dX7_drift_29 ?_
        have ho := Option.some.inj hf
        subst ho
        exact x_reti (sz := 0) (w0 := []) (A1 := A) hx hb hr hlocks hK hW rfl rfl dX7_drift_31
  · replace hf := ifp hc hf
    refine lv_ldc (v := (-1000000002 : Int32)) hx hb hown fl111 dX7_drift_12 ?_
    have ho := Option.some.inj hf
    subst ho
    exact x_reti (sz := 0) (w0 := []) (A1 := A) hx hb hr hlocks hK hW rfl rfl dX7_drift_14
set_option maxHeartbeats 4000000 in
set_option maxRecDepth 100000 in
theorem c_X7_reach (l : Launch) (N : Nat) (kd : (Nat → Nat) × (Nat → Nat)) (G : va_G) (ct : Nat → ClassId) (a : Nat → Nat) (g : St_) (sg : Int64) (x1 : Int32) (x2 : Int32) (o : Int32) (hf : f_X7_reach N g x1 x2 = some o) : CtI l yX7_reach wsX7_reach ({ frames := 2, cells := 0, slots := 0, locals := 52 }) kd G ct [.ref (a 0), .int x1, .int x2] (wX7 a ct g sg) o (wX7 a ct g sg) := by
  intro sz
  refine Met.ofW (cc := cX7_reach) (maxL := 3) (ret := (some .int)) (by decide) rfl ?_
  intro p e s m args below meth c s₁ B hml hv
  obtain ⟨rfl, hsz, hP, hK, hD0, hE⟩ := hv
  have hx := B.exec
  have hb := B.bytes
  have hr := B.returns
  have hts := atoms_spec (ws := wsX7_reach) B.pre
  have hown : s.vm.findClass RX7 = some m.cls := findClass_of_methodNamed B.named
  have hlocks := B.notSynchronized
  have fl111 := hts (.constant RX7 111 (-1000000002)) (by decide +kernel)
  have fl221 := hts (.constant RX7 221 (-1000000001)) (by decide +kernel)
  have fl238 := hts (.constantLong RX7 238 (24)) (by decide +kernel)
  subst hsz
  have hD := hD0.self (sz := s.heap.size)
  generalize hAe : va_A (wX7 a ct g sg) s.heap.size = A at hD hE ⊢
  have hA : ∀ q : Nat, s.heap.size ≤ q → A q := fun q h => by rw [← hAe]; exact Or.inr h
  have hW : WW G A s.heap (wX7 a ct g sg) s.heap [] := ⟨hP, hD, va_S.rf⟩
  have hl := lv_entry ([.ref (a 0), .int x1, .int x2]) (n := 3) (Nat.le_of_ble_eq_true rfl)
  rw [lg_entry_eq]
  generalize (lg_sl ([.ref (a 0), .int x1, .int x2]) ++ List.replicate (3 - (lg_sl ([.ref (a 0), .int x1, .int x2])).length) Slot.unset).toArray = ls at hl ⊢
  have hl : lv_has ls 3 [(0, .ref (a 0)), (1, .int x1), (2, .int x2)] := hl
  unfold f_X7_reach at hf
  show W p l e ({ frames := 2, cells := 0, slots := 0, locals := 52 } : Room) s m (List.toArray [.ref (a 0), .int x1, .int x2]) below meth c s.heap [] 0 0 (MQ below (va_Qi (fun r (_ : Unit) => r = o) (fun _ t => Af_ G ct (wX7 a ct g sg) A t) A) (List.toArray [.ref (a 0), .int x1, .int x2]) s 0 0 A) (F0 m 0 ls [])
  refine lv_aload_n hx hb dX7_reach_0 rfl (lv_at hl 0 rfl) ?_
  refine lv_iload_n hx hb dX7_reach_1 rfl (lv_at hl 1 rfl) ?_
  replace hf := bs_ hf; obtain ⟨r1, hcl, hf⟩ := hf
  refine x_callW_i (w' := (wX7 a ct g sg)) (As := [.int x1]) (rest := []) (ci := 7) ⟨hx, hb, hml, hown, hts⟩ (c_X7_isPlace l N kd G ct a g sg x1 _ hcl) (cwV 1 hts gX7_reach_X7_isPlace rfl rfl rfl (by decide +kernel) ⟨Nat.le_of_ble_eq_true rfl, Nat.le_of_ble_eq_true rfl⟩) hK hE hA hW rfl rfl 0 rfl rfl rfl rfl hl.1 rfl (lv_room (Nat.le_of_ble_eq_true rfl)) dX7_reach_2 (fun H locs hW => ?_)
  refine lv_if_ne (tgt := 11) hx hb dX7_reach_5 (by decide) (fun hc => ?_) (fun hc => ?_)
  · replace hf := ifn hc hf
    refine lv_iload_n hx hb dX7_reach_11 rfl (lv_at hl 2 rfl) ?_
    refine lv_i2l hx hb dX7_reach_12 rfl ?_
    refine lv_lconst (v := (1 : Int64)) hx hb dX7_reach_13 (by decide) ?_
    refine lv_ldc2 (v := (24 : Int64)) hx hb hown fl238 dX7_reach_14 ?_
    replace hf := bs_ hf; obtain ⟨r2, hcl, hf⟩ := hf
    refine x_callS_i (As := [.long x2.toInt64, .long (1 : Int64), .long (24 : Int64)]) (rest := []) ⟨hx, hb, hml, hown, hts⟩ (c_X7_in l N kd G ct x2.toInt64 (1 : Int64) (24 : Int64) _ hcl) (va_cwS 3 hts gX7_reach_X7_in rfl rfl rfl (by decide +kernel) ⟨Nat.le_of_ble_eq_true rfl, Nat.le_of_ble_eq_true rfl⟩) hK hE hA hW rfl hl.1 rfl (lv_room (Nat.le_of_ble_eq_true rfl)) dX7_reach_17 (fun H locs hW => ?_)
    refine lv_if_eq (tgt := 33) hx hb dX7_reach_20 (by decide) (fun hc => ?_) (fun hc => ?_)
    · replace hf := ifp hc hf
      refine lv_ldc (v := (-1000000002 : Int32)) hx hb hown fl111 dX7_reach_33 ?_
      have ho := Option.some.inj hf
      subst ho
      exact x_reti (sz := 0) (w0 := []) (A1 := A) hx hb hr hlocks hK hW rfl rfl dX7_reach_35
    · replace hf := ifn hc hf
      refine lv_aload_n hx hb dX7_reach_23 rfl (lv_at hl 0 rfl) ?_
      refine lv_iload_n hx hb dX7_reach_24 rfl (lv_at hl 1 rfl) ?_
      refine lv_iload_n hx hb dX7_reach_25 rfl (lv_at hl 2 rfl) ?_
      refine lv_iconst (v := (0 : Int32)) hx hb dX7_reach_26 (by decide) ?_
      replace hf := bs_ hf; obtain ⟨r3, hcl, hf⟩ := hf
      refine x_callW_i (w' := (wX7 a ct g sg)) (As := [.int x1, .int x2, .int (0 : Int32)]) (rest := []) (ci := 7) ⟨hx, hb, hml, hown, hts⟩ (c_X7_reachOf l N kd G ct a g sg x1 x2 (0 : Int32) _ hcl) (cwV 3 hts gX7_reach_X7_reachOf rfl rfl rfl (by decide +kernel) ⟨Nat.le_of_ble_eq_true rfl, Nat.le_of_ble_eq_true rfl⟩) hK hE hA hW rfl rfl 0 rfl rfl rfl rfl hl.1 rfl (lv_room (Nat.le_of_ble_eq_true rfl)) dX7_reach_27 (fun H locs hW => ?_)
      refine lv_goto (tgt := 35) hx hb dX7_reach_30 (by decide) ?_
      have ho := Option.some.inj hf
      subst ho
      exact x_reti (sz := 0) (w0 := []) (A1 := A) hx hb hr hlocks hK hW rfl rfl dX7_reach_35
  · replace hf := ifp hc hf
    refine lv_ldc (v := (-1000000001 : Int32)) hx hb hown fl221 dX7_reach_8 ?_
    have ho := Option.some.inj hf
    subst ho
    exact x_reti (sz := 0) (w0 := []) (A1 := A) hx hb hr hlocks hK hW rfl rfl dX7_reach_10
set_option maxHeartbeats 4000000 in
set_option maxRecDepth 100000 in
theorem c_X7_guests (l : Launch) (N : Nat) (kd : (Nat → Nat) × (Nat → Nat)) (G : va_G) (ct : Nat → ClassId) (a : Nat → Nat) (g : St_) (sg : Int64) (x1 : Int32) (o : Int32) (hf : f_X7_guests N g x1 = some o) : CtI l yX7_guests wsX7_guests ({ frames := 3, cells := 0, slots := 0, locals := 73 }) kd G ct [.ref (a 0), .int x1] (wX7 a ct g sg) o (wX7 a ct g sg) := by
  intro sz
  refine Met.ofW (cc := cX7_guests) (maxL := 4) (ret := (some .int)) (by decide) rfl ?_
  intro p e s m args below meth c s₁ B hml hv
  obtain ⟨rfl, hsz, hP, hK, hD0, hE⟩ := hv
  have hx := B.exec
  have hb := B.bytes
  have hr := B.returns
  have hts := atoms_spec (ws := wsX7_guests) B.pre
  have hown : s.vm.findClass RX7 = some m.cls := findClass_of_methodNamed B.named
  have hlocks := B.notSynchronized
  have inX7 : ∀ w ∈ wsX70, w ∈ wsX7_guests := by decide +kernel
  have fl28 := hts (.fieldLink RX7 28 "FittingStridesModel" "at" "[I") (by decide +kernel)
  have fl106 := hts (.fieldLink RX7 106 "FittingStridesModel" "persons" "I") (by decide +kernel)
  have fl221 := hts (.constant RX7 221 (-1000000001)) (by decide +kernel)
  subst hsz
  have hD := hD0.self (sz := s.heap.size)
  generalize hAe : va_A (wX7 a ct g sg) s.heap.size = A at hD hE ⊢
  have hA : ∀ q : Nat, s.heap.size ≤ q → A q := fun q h => by rw [← hAe]; exact Or.inr h
  have hW : WW G A s.heap (wX7 a ct g sg) s.heap [] := ⟨hP, hD, va_S.rf⟩
  have hl := lv_entry ([.ref (a 0), .int x1]) (n := 4) (Nat.le_of_ble_eq_true rfl)
  rw [lg_entry_eq]
  generalize (lg_sl ([.ref (a 0), .int x1]) ++ List.replicate (4 - (lg_sl ([.ref (a 0), .int x1])).length) Slot.unset).toArray = ls at hl ⊢
  have hl : lv_has ls 4 [(0, .ref (a 0)), (1, .int x1)] := hl
  unfold f_X7_guests at hf
  show W p l e ({ frames := 3, cells := 0, slots := 0, locals := 73 } : Room) s m (List.toArray [.ref (a 0), .int x1]) below meth c s.heap [] 0 0 (MQ below (va_Qi (fun r (_ : Unit) => r = o) (fun _ t => Af_ G ct (wX7 a ct g sg) A t) A) (List.toArray [.ref (a 0), .int x1]) s 0 0 A) (F0 m 0 ls [])
  refine lv_aload_n hx hb dX7_guests_0 rfl (lv_at hl 0 rfl) ?_
  refine lv_iload_n hx hb dX7_guests_1 rfl (lv_at hl 1 rfl) ?_
  replace hf := bs_ hf; obtain ⟨r1, hcl, hf⟩ := hf
  refine x_callW_i (w' := (wX7 a ct g sg)) (As := [.int x1]) (rest := []) (ci := 7) ⟨hx, hb, hml, hown, hts⟩ (c_X7_isPerson l N kd G ct a g sg x1 _ hcl) (cwV 1 hts gX7_guests_X7_isPerson rfl rfl rfl (by decide +kernel) ⟨Nat.le_of_ble_eq_true rfl, Nat.le_of_ble_eq_true rfl⟩) hK hE hA hW rfl rfl 0 rfl rfl rfl rfl hl.1 rfl (lv_room (Nat.le_of_ble_eq_true rfl)) dX7_guests_2 (fun H locs hW => ?_)
  refine lv_if_ne (tgt := 11) hx hb dX7_guests_5 (by decide) (fun hc => ?_) (fun hc => ?_)
  · replace hf := ifn hc hf
    refine lv_iconst (v := (0 : Int32)) hx hb dX7_guests_11 (by decide) ?_
    refine lv_istore_n (lv' := [(2, .int (0 : Int32)), (0, .ref (a 0)), (1, .int x1)]) hx hb dX7_guests_12 rfl hl (by decide) rfl (fun ls hl => ?_)
    refine lv_iconst (v := (0 : Int32)) hx hb dX7_guests_13 (by decide) ?_
    refine lv_istore_n (lv' := [(3, .int (0 : Int32)), (2, .int (0 : Int32)), (0, .ref (a 0)), (1, .int x1)]) hx hb dX7_guests_14 rfl hl (by decide) rfl (fun ls hl => ?_)
    replace hf := bs_ hf; obtain ⟨v2, hg, hf⟩ := hf
    have J2 : ∀ (H : Heap) (locs : List Loc) (ls : Array Slot), WW G A s.heap (wX7 a ct g sg) H locs → lv_has ls 4 [(2, .int v2)] → W p l e ({ frames := 3, cells := 0, slots := 0, locals := 73 } : Room) s m (List.toArray [.ref (a 0), .int x1]) below meth c H locs 0 0 (MQ below (va_Qi (fun r (_ : Unit) => r = o) (fun _ t => Af_ G ct (wX7 a ct g sg) A t) A) (List.toArray [.ref (a 0), .int x1]) s 0 0 A) (F0 m 61 ls []) := by
      intro H locs ls hW hl
      refine lv_iload_n hx hb dX7_guests_61 rfl (lv_at hl 0 rfl) ?_
      have ho := Option.some.inj hf
      subst ho
      exact x_reti (sz := 0) (w0 := []) (A1 := A) hx hb hr hlocks hK hW rfl rfl dX7_guests_62
    clear hf
    have L2 : ∀ (n : Nat) (y2_2 : Int32) (y2_3 : Int32), f_X7_guests_L15 N g x1 n y2_2 y2_3 = some v2 → ∀ (H : Heap) (locs : List Loc) (ls : Array Slot), WW G A s.heap (wX7 a ct g sg) H locs → lv_has ls 4 [(0, .ref (a 0)), (1, .int x1), (2, .int y2_2), (3, .int y2_3)] → W p l e ({ frames := 3, cells := 0, slots := 0, locals := 73 } : Room) s m (List.toArray [.ref (a 0), .int x1]) below meth c H locs 0 0 (MQ below (va_Qi (fun r (_ : Unit) => r = o) (fun _ t => Af_ G ct (wX7 a ct g sg) A t) A) (List.toArray [.ref (a 0), .int x1]) s 0 0 A) (F0 m 15 ls []) := by
      intro n
      induction n with
      | zero =>
        intro y2_2 y2_3 hf
        rw [f_X7_guests_L15] at hf
        cases hf
      | succ n ih =>
        intro y2_2 y2_3 hf H locs ls hW hl
        rw [f_X7_guests_L15] at hf
        refine lv_iload_n hx hb dX7_guests_15 rfl (lv_at hl 3 rfl) ?_
        refine lv_aload_n hx hb dX7_guests_16 rfl (lv_at hl 0 rfl) ?_
        refine x_get (ci := 7) (v := .int (g 9 0)) (C := RX7) (T := TX7) (N := 44) hx hb hts inX7 hown hK hW 0 rfl rfl 8 (by decide) fl106 (fun _ h9 => h9) rfl dX7_guests_17 ?_
        refine lv_icmp_ge (tgt := 61) hx hb dX7_guests_20 (by decide) (fun hc => ?_) (fun hc => ?_)
        · replace hf := ifp hc hf
          have hj := Option.some.inj hf
          subst hj
          exact J2 _ _ _ hW (lv_sub hl [2] rfl)
        · replace hf := ifn hc hf
          refine lv_iload_n hx hb dX7_guests_23 rfl (lv_at hl 2 rfl) ?_
          refine lv_iload_n hx hb dX7_guests_24 rfl (lv_at hl 3 rfl) ?_
          refine lv_iload_n hx hb dX7_guests_25 rfl (lv_at hl 1 rfl) ?_
          replace hf := bs_ hf; obtain ⟨j3, hg, hf⟩ := hf
          have J3 : ∀ (H : Heap) (locs : List Loc) (ls : Array Slot), WW G A s.heap (wX7 a ct g sg) H locs → lv_has ls 4 [(0, .ref (a 0)), (1, .int x1), (3, .int y2_3)] → W p l e ({ frames := 3, cells := 0, slots := 0, locals := 73 } : Room) s m (List.toArray [.ref (a 0), .int x1]) below meth c H locs 0 0 (MQ below (va_Qi (fun r (_ : Unit) => r = o) (fun _ t => Af_ G ct (wX7 a ct g sg) A t) A) (List.toArray [.ref (a 0), .int x1]) s 0 0 A) (F0 m 53 ls (.int j3 :: .int y2_2 :: [])) := by
            intro H locs ls hW hl
            refine lv_ior hx hb dX7_guests_53 ?_
            refine lv_istore_n (lv' := [(2, .int (y2_2 ||| j3)), (0, .ref (a 0)), (1, .int x1), (3, .int y2_3)]) hx hb dX7_guests_54 rfl hl (by decide) rfl (fun ls hl => ?_)
            refine lv_iinc (v := (y2_3 + (1 : Int32))) (lv' := [(3, .int (y2_3 + (1 : Int32))), (2, .int (y2_2 ||| j3)), (0, .ref (a 0)), (1, .int x1)]) hx hb dX7_guests_55 hl (k := 3) rfl rfl (by decide) rfl (fun ls hl => ?_)
            refine lv_goto (tgt := 15) hx hb dX7_guests_58 (by decide) ?_
            exact ih (y2_2 ||| j3) (y2_3 + (1 : Int32)) hf _ _ _ hW (lv_sub hl [2, 3, 1, 0] rfl)
          clear hf
          refine lv_icmp_eq (tgt := 52) hx hb dX7_guests_26 (by decide) (fun hc => ?_) (fun hc => ?_)
          · have hf := ifp hc hg
            clear hg
            refine lv_iconst (v := (0 : Int32)) hx hb dX7_guests_52 (by decide) ?_
            have hj := Option.some.inj hf
            subst hj
            exact J3 _ _ _ hW (lv_sub hl [0, 1, 3] rfl)
          · have hf := ifn hc hg
            clear hg
            refine lv_aload_n hx hb dX7_guests_29 rfl (lv_at hl 0 rfl) ?_
            refine lv_iload_n hx hb dX7_guests_30 rfl (lv_at hl 3 rfl) ?_
            replace hf := bs_ hf; obtain ⟨r4, hcl, hf⟩ := hf
            refine x_callW_i (w' := (wX7 a ct g sg)) (As := [.int y2_3]) (rest := [.int y2_2]) (ci := 7) ⟨hx, hb, hml, hown, hts⟩ (c_X7_reachOfPerson l N kd G ct a g sg y2_3 _ hcl) (cwV 1 hts gX7_guests_X7_reachOfPerson rfl rfl rfl (by decide +kernel) ⟨Nat.le_of_ble_eq_true rfl, Nat.le_of_ble_eq_true rfl⟩) hK hE hA hW rfl rfl 0 rfl rfl rfl rfl hl.1 rfl (lv_room (Nat.le_of_ble_eq_true rfl)) dX7_guests_31 (fun H locs hW => ?_)
            refine lv_aload_n hx hb dX7_guests_34 rfl (lv_at hl 0 rfl) ?_
            refine x_get (ci := 7) (v := .ref (a 10)) (C := RX7) (T := TX7) (N := 44) hx hb hts inX7 hown hK hW 0 rfl rfl 9 (by decide) fl28 (fun _ h9 => h9) rfl dX7_guests_35 ?_
            refine lv_iload_n hx hb dX7_guests_38 rfl (lv_at hl 1 rfl) ?_
            replace hf := gd_s hf; obtain ⟨hin, hf⟩ := hf
            refine x_iald (n := 8) (f := g 10) hx hb hK hW 7 rfl (okI_in hin) dX7_guests_39 ?_
            replace hf := bs_ hf; obtain ⟨r5, hcl, hf⟩ := hf
            refine x_callS_i (As := [.int r4, .int (g 10 x1.toNatClampNeg)]) (rest := [.int y2_2]) ⟨hx, hb, hml, hown, hts⟩ (c_X7_has l N kd G ct r4 (g 10 x1.toNatClampNeg) _ hcl) (va_cwS 2 hts gX7_guests_X7_has rfl rfl rfl (by decide +kernel) ⟨Nat.le_of_ble_eq_true rfl, Nat.le_of_ble_eq_true rfl⟩) hK hE hA hW rfl hl.1 rfl (lv_room (Nat.le_of_ble_eq_true rfl)) dX7_guests_40 (fun H locs hW => ?_)
            refine lv_if_eq (tgt := 52) hx hb dX7_guests_43 (by decide) (fun hc => ?_) (fun hc => ?_)
            · replace hf := ifp hc hf
              refine lv_iconst (v := (0 : Int32)) hx hb dX7_guests_52 (by decide) ?_
              have hj := Option.some.inj hf
              subst hj
              exact J3 _ _ _ hW (lv_sub hl [0, 1, 3] rfl)
            · replace hf := ifn hc hf
              refine lv_iconst (v := (1 : Int32)) hx hb dX7_guests_46 (by decide) ?_
              refine lv_iload_n hx hb dX7_guests_47 rfl (lv_at hl 3 rfl) ?_
              refine lv_ishl hx hb dX7_guests_48 ?_
              refine lv_goto (tgt := 53) hx hb dX7_guests_49 (by decide) ?_
              have hj := Option.some.inj hf
              subst hj
              exact J3 _ _ _ hW (lv_sub hl [0, 1, 3] rfl)
    exact L2 N (0 : Int32) (0 : Int32) hg _ _ _ hW (lv_sub hl [2, 3, 1, 0] rfl)
  · replace hf := ifp hc hf
    refine lv_ldc (v := (-1000000001 : Int32)) hx hb hown fl221 dX7_guests_8 ?_
    have ho := Option.some.inj hf
    subst ho
    exact x_reti (sz := 0) (w0 := []) (A1 := A) hx hb hr hlocks hK hW rfl rfl dX7_guests_10
