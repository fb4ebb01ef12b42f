set_option maxHeartbeats 4000000 in
set_option maxRecDepth 100000 in
theorem c_X7_isWish (l : Launch) (N : Nat) (kd : (Nat → Nat) × (Nat → Nat)) (G : va_G) (ct : Nat → ClassId) (a : Nat → Nat) (g : St_) (sg : Int64) (x1 : Int32) (x2 : Int32) (x3 : Int32) (o : Int32) (hf : f_X7_isWish N g x1 x2 x3 = some o) : CtI l yX7_isWish wsX7_isWish ({ frames := 1, cells := 0, slots := 0, locals := 21 }) kd G ct [.ref (a 0), .int x1, .int x2, .int x3] (wX7 a ct g sg) o (wX7 a ct g sg) := by
  intro sz
  refine Met.ofW (cc := cX7_isWish) (maxL := 8) (ret := (some .boolean)) (by decide) rfl ?_
  intro p e s m args below meth c s₁ B hml hv
  obtain ⟨rfl, hsz, hP, hK, hD0, hE⟩ := hv
  have hx := B.exec
  have hb := B.bytes
  have hr := B.returns
  have hts := atoms_spec (ws := wsX7_isWish) B.pre
  have hown : s.vm.findClass RX7 = some m.cls := findClass_of_methodNamed B.named
  have hlocks := B.notSynchronized
  have inX7 : ∀ w ∈ wsX70, w ∈ wsX7_isWish := by decide +kernel
  have fl31 := hts (.fieldLink RX7 31 "FittingStridesModel" "first" "[I") (by decide +kernel)
  have fl34 := hts (.fieldLink RX7 34 "FittingStridesModel" "second" "[I") (by decide +kernel)
  have fl106 := hts (.fieldLink RX7 106 "FittingStridesModel" "persons" "I") (by decide +kernel)
  subst hsz
  have hD := hD0.self (sz := s.heap.size)
  generalize hAe : va_A (wX7 a ct g sg) s.heap.size = A at hD hE ⊢
  have hA : ∀ q : Nat, s.heap.size ≤ q → A q := fun q h => by rw [← hAe]; exact Or.inr h
  have hW : WW G A s.heap (wX7 a ct g sg) s.heap [] := ⟨hP, hD, va_S.rf⟩
  have hl := lv_entry ([.ref (a 0), .int x1, .int x2, .int x3]) (n := 8) (Nat.le_of_ble_eq_true rfl)
  rw [lg_entry_eq]
  generalize (lg_sl ([.ref (a 0), .int x1, .int x2, .int x3]) ++ List.replicate (8 - (lg_sl ([.ref (a 0), .int x1, .int x2, .int x3])).length) Slot.unset).toArray = ls at hl ⊢
  have hl : lv_has ls 8 [(0, .ref (a 0)), (1, .int x1), (2, .int x2), (3, .int x3)] := hl
  unfold f_X7_isWish at hf
  show W p l e ({ frames := 1, cells := 0, slots := 0, locals := 21 } : Room) s m (List.toArray [.ref (a 0), .int x1, .int x2, .int x3]) below meth c s.heap [] 0 0 (MQ below (va_Qi (fun r (_ : Unit) => r = o) (fun _ t => Af_ G ct (wX7 a ct g sg) A t) A) (List.toArray [.ref (a 0), .int x1, .int x2, .int x3]) s 0 0 A) (F0 m 0 ls [])
  refine lv_iconst (v := (1 : Int32)) hx hb dX7_isWish_0 (by decide) ?_
  refine lv_istore (lv' := [(4, .int (1 : Int32)), (0, .ref (a 0)), (1, .int x1), (2, .int x2), (3, .int x3)]) hx hb dX7_isWish_1 hl (by decide) rfl (fun ls hl => ?_)
  refine lv_iconst (v := (0 : Int32)) hx hb dX7_isWish_3 (by decide) ?_
  refine lv_istore (lv' := [(5, .int (0 : Int32)), (4, .int (1 : Int32)), (0, .ref (a 0)), (1, .int x1), (2, .int x2), (3, .int x3)]) hx hb dX7_isWish_4 hl (by decide) rfl (fun ls hl => ?_)
  replace hf := bs_ hf; obtain ⟨v1, hg, hf⟩ := hf
  have J1 : ∀ (H : Heap) (locs : List Loc) (ls : Array Slot), WW G A s.heap (wX7 a ct g sg) H locs → lv_has ls 8 [(4, .int v1)] → W p l e ({ frames := 1, cells := 0, slots := 0, locals := 21 } : Room) s m (List.toArray [.ref (a 0), .int x1, .int x2, .int x3]) below meth c H locs 0 0 (MQ below (va_Qi (fun r (_ : Unit) => r = o) (fun _ t => Af_ G ct (wX7 a ct g sg) A t) A) (List.toArray [.ref (a 0), .int x1, .int x2, .int x3]) s 0 0 A) (F0 m 114 ls []) := by
    intro H locs ls hW hl
    refine lv_iload hx hb dX7_isWish_114 (lv_at hl 0 rfl) ?_
    replace hf := gd_s hf; obtain ⟨hB, hf⟩ := hf
    have ho := Option.some.inj hf
    subst ho
    exact x_retz hx hb hr (isB_nar hB) hlocks hK hW rfl rfl dX7_isWish_116
  clear hf
  have L1 : ∀ (n : Nat) (y1_4 : Int32) (y1_5 : Int32), f_X7_isWish_L6 N g x1 x2 x3 n y1_4 y1_5 = some v1 → ∀ (H : Heap) (locs : List Loc) (ls : Array Slot), WW G A s.heap (wX7 a ct g sg) H locs → lv_has ls 8 [(0, .ref (a 0)), (1, .int x1), (2, .int x2), (3, .int x3), (4, .int y1_4), (5, .int y1_5)] → W p l e ({ frames := 1, cells := 0, slots := 0, locals := 21 } : Room) s m (List.toArray [.ref (a 0), .int x1, .int x2, .int x3]) below meth c H locs 0 0 (MQ below (va_Qi (fun r (_ : Unit) => r = o) (fun _ t => Af_ G ct (wX7 a ct g sg) A t) A) (List.toArray [.ref (a 0), .int x1, .int x2, .int x3]) s 0 0 A) (F0 m 6 ls []) := by
    intro n
    induction n with
    | zero =>
      intro y1_4 y1_5 hf
      rw [f_X7_isWish_L6] at hf
      cases hf
    | succ n ih =>
      intro y1_4 y1_5 hf H locs ls hW hl
      rw [f_X7_isWish_L6] at hf
      refine lv_iload hx hb dX7_isWish_6 (lv_at hl 5 rfl) ?_
      refine lv_aload_n hx hb dX7_isWish_8 rfl (lv_at hl 0 rfl) ?_
      refine x_get (ci := 7) (v := .int (g 9 0)) (C := RX7) (T := TX7) (N := 44) hx hb hts inX7 hown hK hW 0 rfl rfl 8 (by decide) fl106 (fun _ h9 => h9) rfl dX7_isWish_9 ?_
      refine lv_icmp_ge (tgt := 114) hx hb dX7_isWish_12 (by decide) (fun hc => ?_) (fun hc => ?_)
      · replace hf := ifp hc hf
        have hj := Option.some.inj hf
        subst hj
        exact J1 _ _ _ hW (lv_sub hl [4] rfl)
      · replace hf := ifn hc hf
        refine lv_iload_n hx hb dX7_isWish_15 rfl (lv_at hl 1 rfl) ?_
        refine lv_aload_n hx hb dX7_isWish_16 rfl (lv_at hl 0 rfl) ?_
        refine x_get (ci := 7) (v := .ref (a 11)) (C := RX7) (T := TX7) (N := 44) hx hb hts inX7 hown hK hW 0 rfl rfl 10 (by decide) fl31 (fun _ h9 => h9) rfl dX7_isWish_17 ?_
        refine lv_iload hx hb dX7_isWish_20 (lv_at hl 5 rfl) ?_
        replace hf := gd_s hf; obtain ⟨hin, hf⟩ := hf
        refine x_iald (n := 8) (f := g 11) hx hb hK hW 8 rfl (okI_in hin) dX7_isWish_22 ?_
        replace hf := gd_s hf; obtain ⟨hnz, hf⟩ := hf
        refine lv_irem hx hb dX7_isWish_23 (nzI_s hnz) ?_
        replace hf := bs_ hf; obtain ⟨j2, hg, hf⟩ := hf
        have J2 : ∀ (H : Heap) (locs : List Loc) (ls : Array Slot), WW G A s.heap (wX7 a ct g sg) H locs → lv_has ls 8 [(0, .ref (a 0)), (1, .int x1), (2, .int x2), (3, .int x3), (4, .int y1_4), (5, .int y1_5)] → W p l e ({ frames := 1, cells := 0, slots := 0, locals := 21 } : Room) s m (List.toArray [.ref (a 0), .int x1, .int x2, .int x3]) below meth c H locs 0 0 (MQ below (va_Qi (fun r (_ : Unit) => r = o) (fun _ t => Af_ G ct (wX7 a ct g sg) A t) A) (List.toArray [.ref (a 0), .int x1, .int x2, .int x3]) s 0 0 A) (F0 m 32 ls (.int j2 :: [])) := by
          intro H locs ls hW hl
          refine lv_istore (lv' := [(6, .int j2), (0, .ref (a 0)), (1, .int x1), (2, .int x2), (3, .int x3), (4, .int y1_4), (5, .int y1_5)]) hx hb dX7_isWish_32 hl (by decide) rfl (fun ls hl => ?_)
          refine lv_iload hx hb dX7_isWish_34 (lv_at hl 0 rfl) ?_
          replace hf := bs_ hf; obtain ⟨j3, hg, hf⟩ := hf
          have J3 : ∀ (H : Heap) (locs : List Loc) (ls : Array Slot), WW G A s.heap (wX7 a ct g sg) H locs → lv_has ls 8 [(0, .ref (a 0)), (1, .int x1), (2, .int x2), (3, .int x3), (4, .int y1_4), (5, .int y1_5), (6, .int j2)] → W p l e ({ frames := 1, cells := 0, slots := 0, locals := 21 } : Room) s m (List.toArray [.ref (a 0), .int x1, .int x2, .int x3]) below meth c H locs 0 0 (MQ below (va_Qi (fun r (_ : Unit) => r = o) (fun _ t => Af_ G ct (wX7 a ct g sg) A t) A) (List.toArray [.ref (a 0), .int x1, .int x2, .int x3]) s 0 0 A) (F0 m 66 ls (.int j3 :: [])) := by
            intro H locs ls hW hl
            refine lv_istore (lv' := [(7, .int j3), (0, .ref (a 0)), (1, .int x1), (2, .int x2), (3, .int x3), (4, .int y1_4), (5, .int y1_5), (6, .int j2)]) hx hb dX7_isWish_66 hl (by decide) rfl (fun ls hl => ?_)
            refine lv_iload hx hb dX7_isWish_68 (lv_at hl 5 rfl) ?_
            replace hf := bs_ hf; obtain ⟨j4, hg, hf⟩ := hf
            have J4 : ∀ (H : Heap) (locs : List Loc) (ls : Array Slot), WW G A s.heap (wX7 a ct g sg) H locs → lv_has ls 8 [(0, .ref (a 0)), (1, .int x1), (2, .int x2), (3, .int x3), (5, .int y1_5)] → W p l e ({ frames := 1, cells := 0, slots := 0, locals := 21 } : Room) s m (List.toArray [.ref (a 0), .int x1, .int x2, .int x3]) below meth c H locs 0 0 (MQ below (va_Qi (fun r (_ : Unit) => r = o) (fun _ t => Af_ G ct (wX7 a ct g sg) A t) A) (List.toArray [.ref (a 0), .int x1, .int x2, .int x3]) s 0 0 A) (F0 m 106 ls (.int j4 :: [])) := by
              intro H locs ls hW hl
              refine lv_istore (lv' := [(4, .int j4), (0, .ref (a 0)), (1, .int x1), (2, .int x2), (3, .int x3), (5, .int y1_5)]) hx hb dX7_isWish_106 hl (by decide) rfl (fun ls hl => ?_)
              refine lv_iinc (v := (y1_5 + (1 : Int32))) (lv' := [(5, .int (y1_5 + (1 : Int32))), (4, .int j4), (0, .ref (a 0)), (1, .int x1), (2, .int x2), (3, .int x3)]) hx hb dX7_isWish_108 hl (k := 5) rfl rfl (by decide) rfl (fun ls hl => ?_)
              refine lv_goto (tgt := 6) hx hb dX7_isWish_111 (by decide) ?_
              exact ih j4 (y1_5 + (1 : Int32)) hf _ _ _ hW (lv_sub hl [2, 3, 4, 5, 1, 0] rfl)
            clear hf
            refine lv_if_eq (tgt := 105) hx hb dX7_isWish_70 (by decide) (fun hc => ?_) (fun hc => ?_)
            · have hf := ifp hc hg
              clear hg
              refine lv_iconst (v := (0 : Int32)) hx hb dX7_isWish_105 (by decide) ?_
              have hj := Option.some.inj hf
              subst hj
              exact J4 _ _ _ hW (lv_sub hl [1, 2, 3, 4, 6] rfl)
            · have hf := ifn hc hg
              clear hg
              refine lv_iload_n hx hb dX7_isWish_73 rfl (lv_at hl 3 rfl) ?_
              refine lv_iload hx hb dX7_isWish_74 (lv_at hl 6 rfl) ?_
              replace hf := bs_ hf; obtain ⟨r5, hcl, hf⟩ := hf
              refine x_callS_i (As := [.int x2, .int y1_5]) (rest := []) ⟨hx, hb, hml, hown, hts⟩ (c_X7_has l N kd G ct x2 y1_5 _ hcl) (va_cwS 2 hts gX7_isWish_X7_has rfl rfl rfl (by decide +kernel) ⟨Nat.le_of_ble_eq_true rfl, Nat.le_of_ble_eq_true rfl⟩) hK hE hA hW rfl hl.1 rfl (lv_room (Nat.le_of_ble_eq_true rfl)) dX7_isWish_76 (fun H locs hW => ?_)
              refine lv_if_eq (tgt := 87) hx hb dX7_isWish_79 (by decide) (fun hc => ?_) (fun hc => ?_)
              · replace hf := ifp hc hf
                refine lv_iload_n hx hb dX7_isWish_87 rfl (lv_at hl 4 rfl) ?_
                refine lv_iload hx hb dX7_isWish_88 (lv_at hl 6 rfl) ?_
                replace hf := bs_ hf; obtain ⟨r6, hcl, hf⟩ := hf
                refine x_callS_i (As := [.int x3, .int y1_5]) (rest := []) ⟨hx, hb, hml, hown, hts⟩ (c_X7_has l N kd G ct x3 y1_5 _ hcl) (va_cwS 2 hts gX7_isWish_X7_has rfl rfl rfl (by decide +kernel) ⟨Nat.le_of_ble_eq_true rfl, Nat.le_of_ble_eq_true rfl⟩) hK hE hA hW rfl hl.1 rfl (lv_room (Nat.le_of_ble_eq_true rfl)) dX7_isWish_90 (fun H locs hW => ?_)
                refine lv_if_eq (tgt := 101) hx hb dX7_isWish_93 (by decide) (fun hc => ?_) (fun hc => ?_)
                · replace hf := ifp hc hf
                  refine lv_iconst (v := (1 : Int32)) hx hb dX7_isWish_101 (by decide) ?_
                  refine lv_goto (tgt := 106) hx hb dX7_isWish_102 (by decide) ?_
                  have hj := Option.some.inj hf
                  subst hj
                  exact J4 _ _ _ hW (lv_sub hl [1, 2, 3, 4, 6] rfl)
                · replace hf := ifn hc hf
                  refine lv_iload hx hb dX7_isWish_96 (lv_at hl 0 rfl) ?_
                  refine lv_if_ne (tgt := 105) hx hb dX7_isWish_98 (by decide) (fun hc => ?_) (fun hc => ?_)
                  · replace hf := ifn hc hf
                    refine lv_iconst (v := (0 : Int32)) hx hb dX7_isWish_105 (by decide) ?_
                    have hj := Option.some.inj hf
                    subst hj
                    exact J4 _ _ _ hW (lv_sub hl [1, 2, 3, 4, 6] rfl)
                  · replace hf := ifp hc hf
                    refine lv_iconst (v := (1 : Int32)) hx hb dX7_isWish_101 (by decide) ?_
                    refine lv_goto (tgt := 106) hx hb dX7_isWish_102 (by decide) ?_
                    have hj := Option.some.inj hf
                    subst hj
                    exact J4 _ _ _ hW (lv_sub hl [1, 2, 3, 4, 6] rfl)
              · replace hf := ifn hc hf
                refine lv_iload hx hb dX7_isWish_82 (lv_at hl 7 rfl) ?_
                refine lv_if_eq (tgt := 105) hx hb dX7_isWish_84 (by decide) (fun hc => ?_) (fun hc => ?_)
                · replace hf := ifp hc hf
                  refine lv_iconst (v := (0 : Int32)) hx hb dX7_isWish_105 (by decide) ?_
                  have hj := Option.some.inj hf
                  subst hj
                  exact J4 _ _ _ hW (lv_sub hl [1, 2, 3, 4, 6] rfl)
                · replace hf := ifn hc hf
                  refine lv_iload_n hx hb dX7_isWish_87 rfl (lv_at hl 4 rfl) ?_
                  refine lv_iload hx hb dX7_isWish_88 (lv_at hl 6 rfl) ?_
                  replace hf := bs_ hf; obtain ⟨r7, hcl, hf⟩ := hf
                  refine x_callS_i (As := [.int x3, .int y1_5]) (rest := []) ⟨hx, hb, hml, hown, hts⟩ (c_X7_has l N kd G ct x3 y1_5 _ hcl) (va_cwS 2 hts gX7_isWish_X7_has rfl rfl rfl (by decide +kernel) ⟨Nat.le_of_ble_eq_true rfl, Nat.le_of_ble_eq_true rfl⟩) hK hE hA hW rfl hl.1 rfl (lv_room (Nat.le_of_ble_eq_true rfl)) dX7_isWish_90 (fun H locs hW => ?_)
                  refine lv_if_eq (tgt := 101) hx hb dX7_isWish_93 (by decide) (fun hc => ?_) (fun hc => ?_)
                  · replace hf := ifp hc hf
                    refine lv_iconst (v := (1 : Int32)) hx hb dX7_isWish_101 (by decide) ?_
                    refine lv_goto (tgt := 106) hx hb dX7_isWish_102 (by decide) ?_
                    have hj := Option.some.inj hf
                    subst hj
                    exact J4 _ _ _ hW (lv_sub hl [1, 2, 3, 4, 6] rfl)
                  · replace hf := ifn hc hf
                    refine lv_iload hx hb dX7_isWish_96 (lv_at hl 0 rfl) ?_
                    refine lv_if_ne (tgt := 105) hx hb dX7_isWish_98 (by decide) (fun hc => ?_) (fun hc => ?_)
                    · replace hf := ifn hc hf
                      refine lv_iconst (v := (0 : Int32)) hx hb dX7_isWish_105 (by decide) ?_
                      have hj := Option.some.inj hf
                      subst hj
                      exact J4 _ _ _ hW (lv_sub hl [1, 2, 3, 4, 6] rfl)
                    · replace hf := ifp hc hf
                      refine lv_iconst (v := (1 : Int32)) hx hb dX7_isWish_101 (by decide) ?_
                      refine lv_goto (tgt := 106) hx hb dX7_isWish_102 (by decide) ?_
                      have hj := Option.some.inj hf
                      subst hj
                      exact J4 _ _ _ hW (lv_sub hl [1, 2, 3, 4, 6] rfl)
          clear hf
          refine lv_if_ne (tgt := 61) hx hb dX7_isWish_36 (by decide) (fun hc => ?_) (fun hc => ?_)
          · have hf := ifn hc hg
            clear hg
            refine lv_iconst (v := (1 : Int32)) hx hb dX7_isWish_61 (by decide) ?_
            refine lv_goto (tgt := 66) hx hb dX7_isWish_62 (by decide) ?_
            have hj := Option.some.inj hf
            subst hj
            exact J3 _ _ _ hW (lv_sub hl [1, 2, 3, 4, 5, 6, 0] rfl)
          · have hf := ifp hc hg
            clear hg
            refine lv_aload_n hx hb dX7_isWish_39 rfl (lv_at hl 1 rfl) ?_
            refine x_get (ci := 7) (v := .ref (a 12)) (C := RX7) (T := TX7) (N := 44) hx hb hts inX7 hown hK hW 0 rfl rfl 11 (by decide) fl34 (fun _ h9 => h9) rfl dX7_isWish_40 ?_
            refine lv_iload hx hb dX7_isWish_43 (lv_at hl 6 rfl) ?_
            replace hf := gd_s hf; obtain ⟨hin, hf⟩ := hf
            refine x_iald (n := 8) (f := g 12) hx hb hK hW 9 rfl (okI_in hin) dX7_isWish_45 ?_
            refine lv_if_le (tgt := 65) hx hb dX7_isWish_46 (by decide) (fun hc => ?_) (fun hc => ?_)
            · replace hf := ifp hc hf
              refine lv_iconst (v := (0 : Int32)) hx hb dX7_isWish_65 (by decide) ?_
              have hj := Option.some.inj hf
              subst hj
              exact J3 _ _ _ hW (lv_sub hl [1, 2, 3, 4, 5, 6, 0] rfl)
            · replace hf := ifn hc hf
              refine lv_iload_n hx hb dX7_isWish_49 rfl (lv_at hl 2 rfl) ?_
              refine lv_aload_n hx hb dX7_isWish_50 rfl (lv_at hl 1 rfl) ?_
              refine x_get (ci := 7) (v := .ref (a 12)) (C := RX7) (T := TX7) (N := 44) hx hb hts inX7 hown hK hW 0 rfl rfl 11 (by decide) fl34 (fun _ h9 => h9) rfl dX7_isWish_51 ?_
              refine lv_iload hx hb dX7_isWish_54 (lv_at hl 6 rfl) ?_
              replace hf := gd_s hf; obtain ⟨hin, hf⟩ := hf
              refine x_iald (n := 8) (f := g 12) hx hb hK hW 9 rfl (okI_in hin) dX7_isWish_56 ?_
              replace hf := gd_s hf; obtain ⟨hnz, hf⟩ := hf
              refine lv_irem hx hb dX7_isWish_57 (nzI_s hnz) ?_
              refine lv_if_ne (tgt := 65) hx hb dX7_isWish_58 (by decide) (fun hc => ?_) (fun hc => ?_)
              · replace hf := ifn hc hf
                refine lv_iconst (v := (0 : Int32)) hx hb dX7_isWish_65 (by decide) ?_
                have hj := Option.some.inj hf
                subst hj
                exact J3 _ _ _ hW (lv_sub hl [1, 2, 3, 4, 5, 6, 0] rfl)
              · replace hf := ifp hc hf
                refine lv_iconst (v := (1 : Int32)) hx hb dX7_isWish_61 (by decide) ?_
                refine lv_goto (tgt := 66) hx hb dX7_isWish_62 (by decide) ?_
                have hj := Option.some.inj hf
                subst hj
                exact J3 _ _ _ hW (lv_sub hl [1, 2, 3, 4, 5, 6, 0] rfl)
        clear hf
        refine lv_if_ne (tgt := 31) hx hb dX7_isWish_24 (by decide) (fun hc => ?_) (fun hc => ?_)
        · have hf := ifn hc hg
          clear hg
          refine lv_iconst (v := (0 : Int32)) hx hb dX7_isWish_31 (by decide) ?_
          have hj := Option.some.inj hf
          subst hj
          exact J2 _ _ _ hW (lv_sub hl [0, 1, 2, 3, 4, 5] rfl)
        · have hf := ifp hc hg
          clear hg
          refine lv_iconst (v := (1 : Int32)) hx hb dX7_isWish_27 (by decide) ?_
          refine lv_goto (tgt := 32) hx hb dX7_isWish_28 (by decide) ?_
          have hj := Option.some.inj hf
          subst hj
          exact J2 _ _ _ hW (lv_sub hl [0, 1, 2, 3, 4, 5] rfl)
  exact L1 N (1 : Int32) (0 : Int32) hg _ _ _ hW (lv_sub hl [2, 3, 4, 5, 1, 0] rfl)
set_option maxHeartbeats 4000000 in
set_option maxRecDepth 100000 in
theorem c_X7_wish (l : Launch) (N : Nat) (kd : (Nat → Nat) × (Nat → Nat)) (G : va_G) (ct : Nat → ClassId) (a : Nat → Nat) (g : St_) (sg : Int64) (x1 : Int32) (x2 : Int32) (o : Int32) (hf : f_X7_wish N g x1 x2 = some o) : CtI l yX7_wish wsX7_wish ({ frames := 2, cells := 0, slots := 0, locals := 48 }) kd G ct [.ref (a 0), .int x1, .int x2] (wX7 a ct g sg) o (wX7 a ct g sg) := by
  intro sz
  refine Met.ofW (cc := cX7_wish) (maxL := 5) (ret := (some .int)) (by decide) rfl ?_
  intro p e s m args below meth c s₁ B hml hv
  obtain ⟨rfl, hsz, hP, hK, hD0, hE⟩ := hv
  have hx := B.exec
  have hb := B.bytes
  have hr := B.returns
  have hts := atoms_spec (ws := wsX7_wish) B.pre
  have hown : s.vm.findClass RX7 = some m.cls := findClass_of_methodNamed B.named
  have hlocks := B.notSynchronized
  have inX7 : ∀ w ∈ wsX70, w ∈ wsX7_wish := by decide +kernel
  have fl106 := hts (.fieldLink RX7 106 "FittingStridesModel" "persons" "I") (by decide +kernel)
  have fl221 := hts (.constant RX7 221 (-1000000001)) (by decide +kernel)
  have fl271 := hts (.constant RX7 271 (100000)) (by decide +kernel)
  subst hsz
  have hD := hD0.self (sz := s.heap.size)
  generalize hAe : va_A (wX7 a ct g sg) s.heap.size = A at hD hE ⊢
  have hA : ∀ q : Nat, s.heap.size ≤ q → A q := fun q h => by rw [← hAe]; exact Or.inr h
  have hW : WW G A s.heap (wX7 a ct g sg) s.heap [] := ⟨hP, hD, va_S.rf⟩
  have hl := lv_entry ([.ref (a 0), .int x1, .int x2]) (n := 5) (Nat.le_of_ble_eq_true rfl)
  rw [lg_entry_eq]
  generalize (lg_sl ([.ref (a 0), .int x1, .int x2]) ++ List.replicate (5 - (lg_sl ([.ref (a 0), .int x1, .int x2])).length) Slot.unset).toArray = ls at hl ⊢
  have hl : lv_has ls 5 [(0, .ref (a 0)), (1, .int x1), (2, .int x2)] := hl
  unfold f_X7_wish at hf
  show W p l e ({ frames := 2, cells := 0, slots := 0, locals := 48 } : Room) s m (List.toArray [.ref (a 0), .int x1, .int x2]) below meth c s.heap [] 0 0 (MQ below (va_Qi (fun r (_ : Unit) => r = o) (fun _ t => Af_ G ct (wX7 a ct g sg) A t) A) (List.toArray [.ref (a 0), .int x1, .int x2]) s 0 0 A) (F0 m 0 ls [])
  refine lv_iconst (v := (1 : Int32)) hx hb dX7_wish_0 (by decide) ?_
  refine lv_aload_n hx hb dX7_wish_1 rfl (lv_at hl 0 rfl) ?_
  refine x_get (ci := 7) (v := .int (g 9 0)) (C := RX7) (T := TX7) (N := 44) hx hb hts inX7 hown hK hW 0 rfl rfl 8 (by decide) fl106 (fun _ h9 => h9) rfl dX7_wish_2 ?_
  refine lv_ishl hx hb dX7_wish_5 ?_
  refine lv_iconst (v := (1 : Int32)) hx hb dX7_wish_6 (by decide) ?_
  refine lv_isub hx hb dX7_wish_7 ?_
  refine lv_istore_n (lv' := [(3, .int (((1 : Int32) <<< ((g 9 0) &&& 31)) - (1 : Int32))), (0, .ref (a 0)), (1, .int x1), (2, .int x2)]) hx hb dX7_wish_8 rfl hl (by decide) rfl (fun ls hl => ?_)
  refine lv_iload_n hx hb dX7_wish_9 rfl (lv_at hl 2 rfl) ?_
  refine lv_i2l hx hb dX7_wish_10 rfl ?_
  refine lv_lconst (v := (0 : Int64)) hx hb dX7_wish_11 (by decide) ?_
  refine lv_iload_n hx hb dX7_wish_12 rfl (lv_at hl 0 rfl) ?_
  refine lv_i2l hx hb dX7_wish_13 rfl ?_
  replace hf := bs_ hf; obtain ⟨r1, hcl, hf⟩ := hf
  refine x_callS_i (As := [.long x1.toInt64, .long (0 : Int64), .long (((1 : Int32) <<< ((g 9 0) &&& 31)) - (1 : Int32)).toInt64]) (rest := []) ⟨hx, hb, hml, hown, hts⟩ (c_X7_in l N kd G ct x1.toInt64 (0 : Int64) ((((1 : Int32) <<< ((g 9 0) &&& 31)) - (1 : Int32)).toInt64) _ hcl) (va_cwS 3 hts gX7_wish_X7_in rfl rfl rfl (by decide +kernel) ⟨Nat.le_of_ble_eq_true rfl, Nat.le_of_ble_eq_true rfl⟩) hK hE hA hW rfl hl.1 rfl (lv_room (Nat.le_of_ble_eq_true rfl)) dX7_wish_14 (fun H locs hW => ?_)
  refine lv_if_eq (tgt := 31) hx hb dX7_wish_17 (by decide) (fun hc => ?_) (fun hc => ?_)
  · replace hf := ifp hc hf
    refine lv_ldc (v := (-1000000001 : Int32)) hx hb hown fl221 dX7_wish_31 ?_
    have ho := Option.some.inj hf
    subst ho
    exact x_reti (sz := 0) (w0 := []) (A1 := A) hx hb hr hlocks hK hW rfl rfl dX7_wish_33
  · replace hf := ifn hc hf
    refine lv_iload_n hx hb dX7_wish_20 rfl (lv_at hl 3 rfl) ?_
    refine lv_i2l hx hb dX7_wish_21 rfl ?_
    refine lv_lconst (v := (0 : Int64)) hx hb dX7_wish_22 (by decide) ?_
    refine lv_iload_n hx hb dX7_wish_23 rfl (lv_at hl 0 rfl) ?_
    refine lv_i2l hx hb dX7_wish_24 rfl ?_
    replace hf := bs_ hf; obtain ⟨r2, hcl, hf⟩ := hf
    refine x_callS_i (As := [.long x2.toInt64, .long (0 : Int64), .long (((1 : Int32) <<< ((g 9 0) &&& 31)) - (1 : Int32)).toInt64]) (rest := []) ⟨hx, hb, hml, hown, hts⟩ (c_X7_in l N kd G ct x2.toInt64 (0 : Int64) ((((1 : Int32) <<< ((g 9 0) &&& 31)) - (1 : Int32)).toInt64) _ hcl) (va_cwS 3 hts gX7_wish_X7_in rfl rfl rfl (by decide +kernel) ⟨Nat.le_of_ble_eq_true rfl, Nat.le_of_ble_eq_true rfl⟩) hK hE hA hW rfl hl.1 rfl (lv_room (Nat.le_of_ble_eq_true rfl)) dX7_wish_25 (fun H locs hW => ?_)
    refine lv_if_ne (tgt := 34) hx hb dX7_wish_28 (by decide) (fun hc => ?_) (fun hc => ?_)
    · replace hf := ifn hc hf
      refine lv_iconst (v := (1 : Int32)) hx hb dX7_wish_34 (by decide) ?_
      refine lv_istore (lv' := [(4, .int (1 : Int32)), (3, .int (((1 : Int32) <<< ((g 9 0) &&& 31)) - (1 : Int32))), (0, .ref (a 0)), (1, .int x1), (2, .int x2)]) hx hb dX7_wish_35 hl (by decide) rfl (fun ls hl => ?_)
      replace hf := bs_ hf; obtain ⟨jr, hg, hf⟩ := hf
      have hR3 : ∀ r, jr = Sum.inl r → r = o := fun r hr0 => by subst hr0; have h8 := se_l hf; exact Option.some.inj h8
      have J3 : ∀ (v3 : Unit), jr = Sum.inr v3 → ∀ (H : Heap) (locs : List Loc) (ls : Array Slot), WW G A s.heap (wX7 a ct g sg) H locs → lv_has ls 5 [] → W p l e ({ frames := 2, cells := 0, slots := 0, locals := 48 } : Room) s m (List.toArray [.ref (a 0), .int x1, .int x2]) below meth c H locs 0 0 (MQ below (va_Qi (fun r (_ : Unit) => r = o) (fun _ t => Af_ G ct (wX7 a ct g sg) A t) A) (List.toArray [.ref (a 0), .int x1, .int x2]) s 0 0 A) (F0 m 65 ls []) := by
        intro v3 hjr H locs ls hW hl
        subst hjr
        replace hf := se_r hf
        refine lv_iconst (v := (-1 : Int32)) hx hb dX7_wish_65 (by decide) ?_
        have ho := Option.some.inj hf
        subst ho
        exact x_reti (sz := 0) (w0 := []) (A1 := A) hx hb hr hlocks hK hW rfl rfl dX7_wish_66
      clear hf
      have L3 : ∀ (n : Nat) (y3_4 : Int32), f_X7_wish_L37 N g x1 x2 n y3_4 = some jr → ∀ (H : Heap) (locs : List Loc) (ls : Array Slot), WW G A s.heap (wX7 a ct g sg) H locs → lv_has ls 5 [(0, .ref (a 0)), (1, .int x1), (2, .int x2), (4, .int y3_4)] → W p l e ({ frames := 2, cells := 0, slots := 0, locals := 48 } : Room) s m (List.toArray [.ref (a 0), .int x1, .int x2]) below meth c H locs 0 0 (MQ below (va_Qi (fun r (_ : Unit) => r = o) (fun _ t => Af_ G ct (wX7 a ct g sg) A t) A) (List.toArray [.ref (a 0), .int x1, .int x2]) s 0 0 A) (F0 m 37 ls []) := by
        intro n
        induction n with
        | zero =>
          intro y3_4 hf
          rw [f_X7_wish_L37] at hf
          cases hf
        | succ n ih =>
          intro y3_4 hf H locs ls hW hl
          rw [f_X7_wish_L37] at hf
          refine lv_iload hx hb dX7_wish_37 (lv_at hl 3 rfl) ?_
          refine lv_ldcw (v := (100000 : Int32)) hx hb hown fl271 dX7_wish_39 ?_
          refine lv_icmp_gt (tgt := 65) hx hb dX7_wish_42 (by decide) (fun hc => ?_) (fun hc => ?_)
          · replace hf := ifp hc hf
            have hj := (Option.some.inj hf).symm
            exact J3 _ hj _ _ _ hW (lv_sub hl [] rfl)
          · replace hf := ifn hc hf
            refine lv_aload_n hx hb dX7_wish_45 rfl (lv_at hl 0 rfl) ?_
            refine lv_iload hx hb dX7_wish_46 (lv_at hl 3 rfl) ?_
            refine lv_iload_n hx hb dX7_wish_48 rfl (lv_at hl 1 rfl) ?_
            refine lv_iload_n hx hb dX7_wish_49 rfl (lv_at hl 2 rfl) ?_
            replace hf := bs_ hf; obtain ⟨r4, hcl, hf⟩ := hf
            refine x_callW_i (w' := (wX7 a ct g sg)) (As := [.int y3_4, .int x1, .int x2]) (rest := []) (ci := 7) ⟨hx, hb, hml, hown, hts⟩ (c_X7_isWish l N kd G ct a g sg y3_4 x1 x2 _ hcl) (cwV 3 hts gX7_wish_X7_isWish rfl rfl rfl (by decide +kernel) ⟨Nat.le_of_ble_eq_true rfl, Nat.le_of_ble_eq_true rfl⟩) hK hE hA hW rfl rfl 0 rfl rfl rfl rfl hl.1 rfl (lv_room (Nat.le_of_ble_eq_true rfl)) dX7_wish_50 (fun H locs hW => ?_)
            refine lv_if_eq (tgt := 59) hx hb dX7_wish_53 (by decide) (fun hc => ?_) (fun hc => ?_)
            · replace hf := ifp hc hf
              refine lv_iinc (v := (y3_4 + (1 : Int32))) (lv' := [(4, .int (y3_4 + (1 : Int32))), (0, .ref (a 0)), (1, .int x1), (2, .int x2)]) hx hb dX7_wish_59 hl (k := 3) rfl rfl (by decide) rfl (fun ls hl => ?_)
              refine lv_goto (tgt := 37) hx hb dX7_wish_62 (by decide) ?_
              exact ih (y3_4 + (1 : Int32)) hf _ _ _ hW (lv_sub hl [1, 2, 3, 0] rfl)
            · replace hf := ifn hc hf
              refine lv_iload hx hb dX7_wish_56 (lv_at hl 3 rfl) ?_
              have ho := hR3 _ (Option.some.inj hf).symm
              subst ho
              exact x_reti (sz := 0) (w0 := []) (A1 := A) hx hb hr hlocks hK hW rfl rfl dX7_wish_58
      exact L3 N (1 : Int32) hg _ _ _ hW (lv_sub hl [2, 3, 4, 0] rfl)
    · replace hf := ifp hc hf
      refine lv_ldc (v := (-1000000001 : Int32)) hx hb hown fl221 dX7_wish_31 ?_
      have ho := Option.some.inj hf
      subst ho
      exact x_reti (sz := 0) (w0 := []) (A1 := A) hx hb hr hlocks hK hW rfl rfl dX7_wish_33
set_option maxHeartbeats 4000000 in
set_option maxRecDepth 100000 in
theorem c_X7_pair (l : Launch) (N : Nat) (kd : (Nat → Nat) × (Nat → Nat)) (G : va_G) (ct : Nat → ClassId) (a : Nat → Nat) (g : St_) (sg : Int64) (x1 : Int32) (x2 : Int32) (x3 : Int32) (o : Int32) (hf : f_X7_pair N g x1 x2 x3 = some o) : CtI l yX7_pair wsX7_pair ({ frames := 3, cells := 0, slots := 0, locals := 73 }) kd G ct [.ref (a 0), .int x1, .int x2, .int x3] (wX7 a ct g sg) o (wX7 a ct g sg) := by
  intro sz
  refine Met.ofW (cc := cX7_pair) (maxL := 5) (ret := (some .int)) (by decide) rfl ?_
  intro p e s m args below meth c s₁ B hml hv
  obtain ⟨rfl, hsz, hP, hK, hD0, hE⟩ := hv
  have hx := B.exec
  have hb := B.bytes
  have hr := B.returns
  have hts := atoms_spec (ws := wsX7_pair) B.pre
  have hown : s.vm.findClass RX7 = some m.cls := findClass_of_methodNamed B.named
  have hlocks := B.notSynchronized
  have inX7 : ∀ w ∈ wsX70, w ∈ wsX7_pair := by decide +kernel
  have fl31 := hts (.fieldLink RX7 31 "FittingStridesModel" "first" "[I") (by decide +kernel)
  have fl111 := hts (.constant RX7 111 (-1000000002)) (by decide +kernel)
  have fl221 := hts (.constant RX7 221 (-1000000001)) (by decide +kernel)
  subst hsz
  have hD := hD0.self (sz := s.heap.size)
  generalize hAe : va_A (wX7 a ct g sg) s.heap.size = A at hD hE ⊢
  have hA : ∀ q : Nat, s.heap.size ≤ q → A q := fun q h => by rw [← hAe]; exact Or.inr h
  have hW : WW G A s.heap (wX7 a ct g sg) s.heap [] := ⟨hP, hD, va_S.rf⟩
  have hl := lv_entry ([.ref (a 0), .int x1, .int x2, .int x3]) (n := 5) (Nat.le_of_ble_eq_true rfl)
  rw [lg_entry_eq]
  generalize (lg_sl ([.ref (a 0), .int x1, .int x2, .int x3]) ++ List.replicate (5 - (lg_sl ([.ref (a 0), .int x1, .int x2, .int x3])).length) Slot.unset).toArray = ls at hl ⊢
  have hl : lv_has ls 5 [(0, .ref (a 0)), (1, .int x1), (2, .int x2), (3, .int x3)] := hl
  unfold f_X7_pair at hf
  show W p l e ({ frames := 3, cells := 0, slots := 0, locals := 73 } : Room) s m (List.toArray [.ref (a 0), .int x1, .int x2, .int x3]) below meth c s.heap [] 0 0 (MQ below (va_Qi (fun r (_ : Unit) => r = o) (fun _ t => Af_ G ct (wX7 a ct g sg) A t) A) (List.toArray [.ref (a 0), .int x1, .int x2, .int x3]) s 0 0 A) (F0 m 0 ls [])
  refine lv_aload_n hx hb dX7_pair_0 rfl (lv_at hl 0 rfl) ?_
  refine lv_iload_n hx hb dX7_pair_1 rfl (lv_at hl 1 rfl) ?_
  replace hf := bs_ hf; obtain ⟨r1, hcl, hf⟩ := hf
  refine x_callW_i (w' := (wX7 a ct g sg)) (As := [.int x1]) (rest := []) (ci := 7) ⟨hx, hb, hml, hown, hts⟩ (c_X7_isPerson l N kd G ct a g sg x1 _ hcl) (cwV 1 hts gX7_pair_X7_isPerson rfl rfl rfl (by decide +kernel) ⟨Nat.le_of_ble_eq_true rfl, Nat.le_of_ble_eq_true rfl⟩) hK hE hA hW rfl rfl 0 rfl rfl rfl rfl hl.1 rfl (lv_room (Nat.le_of_ble_eq_true rfl)) dX7_pair_2 (fun H locs hW => ?_)
  refine lv_if_eq (tgt := 21) hx hb dX7_pair_5 (by decide) (fun hc => ?_) (fun hc => ?_)
  · replace hf := ifp hc hf
    refine lv_ldc (v := (-1000000001 : Int32)) hx hb hown fl221 dX7_pair_21 ?_
    have ho := Option.some.inj hf
    subst ho
    exact x_reti (sz := 0) (w0 := []) (A1 := A) hx hb hr hlocks hK hW rfl rfl dX7_pair_23
  · replace hf := ifn hc hf
    refine lv_aload_n hx hb dX7_pair_8 rfl (lv_at hl 0 rfl) ?_
    refine lv_iload_n hx hb dX7_pair_9 rfl (lv_at hl 2 rfl) ?_
    replace hf := bs_ hf; obtain ⟨r2, hcl, hf⟩ := hf
    refine x_callW_i (w' := (wX7 a ct g sg)) (As := [.int x2]) (rest := []) (ci := 7) ⟨hx, hb, hml, hown, hts⟩ (c_X7_isPerson l N kd G ct a g sg x2 _ hcl) (cwV 1 hts gX7_pair_X7_isPerson rfl rfl rfl (by decide +kernel) ⟨Nat.le_of_ble_eq_true rfl, Nat.le_of_ble_eq_true rfl⟩) hK hE hA hW rfl rfl 0 rfl rfl rfl rfl hl.1 rfl (lv_room (Nat.le_of_ble_eq_true rfl)) dX7_pair_10 (fun H locs hW => ?_)
    refine lv_if_eq (tgt := 21) hx hb dX7_pair_13 (by decide) (fun hc => ?_) (fun hc => ?_)
    · replace hf := ifp hc hf
      refine lv_ldc (v := (-1000000001 : Int32)) hx hb hown fl221 dX7_pair_21 ?_
      have ho := Option.some.inj hf
      subst ho
      exact x_reti (sz := 0) (w0 := []) (A1 := A) hx hb hr hlocks hK hW rfl rfl dX7_pair_23
    · replace hf := ifn hc hf
      refine lv_iload_n hx hb dX7_pair_16 rfl (lv_at hl 1 rfl) ?_
      refine lv_iload_n hx hb dX7_pair_17 rfl (lv_at hl 2 rfl) ?_
      refine lv_icmp_ne (tgt := 24) hx hb dX7_pair_18 (by decide) (fun hc => ?_) (fun hc => ?_)
      · replace hf := ifn hc hf
        refine lv_iload_n hx hb dX7_pair_24 rfl (lv_at hl 3 rfl) ?_
        refine lv_i2l hx hb dX7_pair_25 rfl ?_
        refine lv_lconst (v := (0 : Int64)) hx hb dX7_pair_26 (by decide) ?_
        refine lv_lconst (v := (1 : Int64)) hx hb dX7_pair_27 (by decide) ?_
        replace hf := bs_ hf; obtain ⟨r3, hcl, hf⟩ := hf
        refine x_callS_i (As := [.long x3.toInt64, .long (0 : Int64), .long (1 : Int64)]) (rest := []) ⟨hx, hb, hml, hown, hts⟩ (c_X7_in l N kd G ct x3.toInt64 (0 : Int64) (1 : Int64) _ hcl) (va_cwS 3 hts gX7_pair_X7_in rfl rfl rfl (by decide +kernel) ⟨Nat.le_of_ble_eq_true rfl, Nat.le_of_ble_eq_true rfl⟩) hK hE hA hW rfl hl.1 rfl (lv_room (Nat.le_of_ble_eq_true rfl)) dX7_pair_28 (fun H locs hW => ?_)
        refine lv_if_ne (tgt := 37) hx hb dX7_pair_31 (by decide) (fun hc => ?_) (fun hc => ?_)
        · replace hf := ifn hc hf
          refine lv_iload_n hx hb dX7_pair_37 rfl (lv_at hl 3 rfl) ?_
          refine lv_if_ne (tgt := 53) hx hb dX7_pair_38 (by decide) (fun hc => ?_) (fun hc => ?_)
          · replace hf := ifn hc hf
            refine lv_iconst (v := (1 : Int32)) hx hb dX7_pair_53 (by decide) ?_
            refine lv_istore (lv' := [(4, .int (1 : Int32)), (0, .ref (a 0)), (1, .int x1), (2, .int x2), (3, .int x3)]) hx hb dX7_pair_54 hl (by decide) rfl (fun ls hl => ?_)
            replace hf := bs_ hf; obtain ⟨v4, hg, hf⟩ := hf
            have J4 : ∀ (H : Heap) (locs : List Loc) (ls : Array Slot), WW G A s.heap (wX7 a ct g sg) H locs → lv_has ls 5 [(4, .int v4)] → W p l e ({ frames := 3, cells := 0, slots := 0, locals := 73 } : Room) s m (List.toArray [.ref (a 0), .int x1, .int x2, .int x3]) below meth c H locs 0 0 (MQ below (va_Qi (fun r (_ : Unit) => r = o) (fun _ t => Af_ G ct (wX7 a ct g sg) A t) A) (List.toArray [.ref (a 0), .int x1, .int x2, .int x3]) s 0 0 A) (F0 m 86 ls []) := by
              intro H locs ls hW hl
              refine lv_iload hx hb dX7_pair_86 (lv_at hl 0 rfl) ?_
              have ho := Option.some.inj hf
              subst ho
              exact x_reti (sz := 0) (w0 := []) (A1 := A) hx hb hr hlocks hK hW rfl rfl dX7_pair_88
            clear hf
            have L4 : ∀ (n : Nat) (y4_4 : Int32), f_X7_pair_L56 N g x1 x2 n y4_4 = some v4 → ∀ (H : Heap) (locs : List Loc) (ls : Array Slot), WW G A s.heap (wX7 a ct g sg) H locs → lv_has ls 5 [(0, .ref (a 0)), (1, .int x1), (2, .int x2), (4, .int y4_4)] → W p l e ({ frames := 3, cells := 0, slots := 0, locals := 73 } : Room) s m (List.toArray [.ref (a 0), .int x1, .int x2, .int x3]) below meth c H locs 0 0 (MQ below (va_Qi (fun r (_ : Unit) => r = o) (fun _ t => Af_ G ct (wX7 a ct g sg) A t) A) (List.toArray [.ref (a 0), .int x1, .int x2, .int x3]) s 0 0 A) (F0 m 56 ls []) := by
              intro n
              induction n with
              | zero =>
                intro y4_4 hf
                rw [f_X7_pair_L56] at hf
                cases hf
              | succ n ih =>
                intro y4_4 hf H locs ls hW hl
                rw [f_X7_pair_L56] at hf
                refine lv_iload hx hb dX7_pair_56 (lv_at hl 3 rfl) ?_
                refine lv_aload_n hx hb dX7_pair_58 rfl (lv_at hl 0 rfl) ?_
                refine x_get (ci := 7) (v := .ref (a 11)) (C := RX7) (T := TX7) (N := 44) hx hb hts inX7 hown hK hW 0 rfl rfl 10 (by decide) fl31 (fun _ h9 => h9) rfl dX7_pair_59 ?_
                refine lv_iload_n hx hb dX7_pair_62 rfl (lv_at hl 1 rfl) ?_
                replace hf := gd_s hf; obtain ⟨hin, hf⟩ := hf
                refine x_iald (n := 8) (f := g 11) hx hb hK hW 8 rfl (okI_in hin) dX7_pair_63 ?_
                replace hf := gd_s hf; obtain ⟨hnz, hf⟩ := hf
                refine lv_irem hx hb dX7_pair_64 (nzI_s hnz) ?_
                refine lv_if_ne (tgt := 80) hx hb dX7_pair_65 (by decide) (fun hc => ?_) (fun hc => ?_)
                · replace hf := ifn hc hf
                  refine lv_iinc (v := (y4_4 + (1 : Int32))) (lv' := [(4, .int (y4_4 + (1 : Int32))), (0, .ref (a 0)), (1, .int x1), (2, .int x2)]) hx hb dX7_pair_80 hl (k := 3) rfl rfl (by decide) rfl (fun ls hl => ?_)
                  refine lv_goto (tgt := 56) hx hb dX7_pair_83 (by decide) ?_
                  exact ih (y4_4 + (1 : Int32)) hf _ _ _ hW (lv_sub hl [1, 2, 3, 0] rfl)
                · replace hf := ifp hc hf
                  refine lv_iload hx hb dX7_pair_68 (lv_at hl 3 rfl) ?_
                  refine lv_aload_n hx hb dX7_pair_70 rfl (lv_at hl 0 rfl) ?_
                  refine x_get (ci := 7) (v := .ref (a 11)) (C := RX7) (T := TX7) (N := 44) hx hb hts inX7 hown hK hW 0 rfl rfl 10 (by decide) fl31 (fun _ h9 => h9) rfl dX7_pair_71 ?_
                  refine lv_iload_n hx hb dX7_pair_74 rfl (lv_at hl 2 rfl) ?_
                  replace hf := gd_s hf; obtain ⟨hin, hf⟩ := hf
                  refine x_iald (n := 8) (f := g 11) hx hb hK hW 8 rfl (okI_in hin) dX7_pair_75 ?_
                  replace hf := gd_s hf; obtain ⟨hnz, hf⟩ := hf
                  refine lv_irem hx hb dX7_pair_76 (nzI_s hnz) ?_
                  refine lv_if_eq (tgt := 86) hx hb dX7_pair_77 (by decide) (fun hc => ?_) (fun hc => ?_)
                  · replace hf := ifp hc hf
                    have hj := Option.some.inj hf
                    subst hj
                    exact J4 _ _ _ hW (lv_sub hl [3] rfl)
                  · replace hf := ifn hc hf
                    refine lv_iinc (v := (y4_4 + (1 : Int32))) (lv' := [(4, .int (y4_4 + (1 : Int32))), (0, .ref (a 0)), (1, .int x1), (2, .int x2)]) hx hb dX7_pair_80 hl (k := 3) rfl rfl (by decide) rfl (fun ls hl => ?_)
                    refine lv_goto (tgt := 56) hx hb dX7_pair_83 (by decide) ?_
                    exact ih (y4_4 + (1 : Int32)) hf _ _ _ hW (lv_sub hl [1, 2, 3, 0] rfl)
            exact L4 N (1 : Int32) hg _ _ _ hW (lv_sub hl [1, 2, 3, 0] rfl)
          · replace hf := ifp hc hf
            refine lv_aload_n hx hb dX7_pair_41 rfl (lv_at hl 0 rfl) ?_
            refine lv_iload_n hx hb dX7_pair_42 rfl (lv_at hl 1 rfl) ?_
            replace hf := bs_ hf; obtain ⟨r5, hcl, hf⟩ := hf
            refine x_callW_i (w' := (wX7 a ct g sg)) (As := [.int x1]) (rest := []) (ci := 7) ⟨hx, hb, hml, hown, hts⟩ (c_X7_reachOfPerson l N kd G ct a g sg x1 _ hcl) (cwV 1 hts gX7_pair_X7_reachOfPerson rfl rfl rfl (by decide +kernel) ⟨Nat.le_of_ble_eq_true rfl, Nat.le_of_ble_eq_true rfl⟩) hK hE hA hW rfl rfl 0 rfl rfl rfl rfl hl.1 rfl (lv_room (Nat.le_of_ble_eq_true rfl)) dX7_pair_43 (fun H locs hW => ?_)
            refine lv_aload_n hx hb dX7_pair_46 rfl (lv_at hl 0 rfl) ?_
            refine lv_iload_n hx hb dX7_pair_47 rfl (lv_at hl 2 rfl) ?_
            replace hf := bs_ hf; obtain ⟨r6, hcl, hf⟩ := hf
            refine x_callW_i (w' := (wX7 a ct g sg)) (As := [.int x2]) (rest := [.int r5]) (ci := 7) ⟨hx, hb, hml, hown, hts⟩ (c_X7_reachOfPerson l N kd G ct a g sg x2 _ hcl) (cwV 1 hts gX7_pair_X7_reachOfPerson rfl rfl rfl (by decide +kernel) ⟨Nat.le_of_ble_eq_true rfl, Nat.le_of_ble_eq_true rfl⟩) hK hE hA hW rfl rfl 0 rfl rfl rfl rfl hl.1 rfl (lv_room (Nat.le_of_ble_eq_true rfl)) dX7_pair_48 (fun H locs hW => ?_)
            refine lv_iand hx hb dX7_pair_51 ?_
            have ho := Option.some.inj hf
            subst ho
            exact x_reti (sz := 0) (w0 := []) (A1 := A) hx hb hr hlocks hK hW rfl rfl dX7_pair_52
        · replace hf := ifp hc hf
          refine lv_ldc (v := (-1000000002 : Int32)) hx hb hown fl111 dX7_pair_34 ?_
          have ho := Option.some.inj hf
          subst ho
          exact x_reti (sz := 0) (w0 := []) (A1 := A) hx hb hr hlocks hK hW rfl rfl dX7_pair_36
      · replace hf := ifp hc hf
        refine lv_ldc (v := (-1000000001 : Int32)) hx hb hown fl221 dX7_pair_21 ?_
        have ho := Option.some.inj hf
        subst ho
        exact x_reti (sz := 0) (w0 := []) (A1 := A) hx hb hr hlocks hK hW rfl rfl dX7_pair_23
set_option maxHeartbeats 4000000 in
set_option maxRecDepth 100000 in
theorem c_X7_isCarried (l : Launch) (N : Nat) (kd : (Nat → Nat) × (Nat → Nat)) (G : va_G) (ct : Nat → ClassId) (a : Nat → Nat) (g : St_) (sg : Int64) (x1 : Int32) (x2 : Int32) (x3 : Int32) (x4 : Int32) (o : Int32) (hf : f_X7_isCarried N g x1 x2 x3 x4 = some o) : CtI l yX7_isCarried wsX7_isCarried ({ frames := 2, cells := 0, slots := 0, locals := 47 }) kd G ct [.ref (a 0), .int x1, .int x2, .int x3, .int x4] (wX7 a ct g sg) o (wX7 a ct g sg) := by
  intro sz
  refine Met.ofW (cc := cX7_isCarried) (maxL := 8) (ret := (some .boolean)) (by decide) rfl ?_
  intro p e s m args below meth c s₁ B hml hv
  obtain ⟨rfl, hsz, hP, hK, hD0, hE⟩ := hv
  have hx := B.exec
  have hb := B.bytes
  have hr := B.returns
  have hts := atoms_spec (ws := wsX7_isCarried) B.pre
  have hown : s.vm.findClass RX7 = some m.cls := findClass_of_methodNamed B.named
  have hlocks := B.notSynchronized
  have inX7 : ∀ w ∈ wsX70, w ∈ wsX7_isCarried := by decide +kernel
  have fl13 := hts (.fieldLink RX7 13 "FittingStridesModel" "low" "[I") (by decide +kernel)
  have fl68 := hts (.fieldLink RX7 68 "FittingStridesModel" "reaches" "[I") (by decide +kernel)
  have fl106 := hts (.fieldLink RX7 106 "FittingStridesModel" "persons" "I") (by decide +kernel)
  have fl204 := hts (.fieldLink RX7 204 "FittingStridesModel" "law" "I") (by decide +kernel)
  subst hsz
  have hD := hD0.self (sz := s.heap.size)
  generalize hAe : va_A (wX7 a ct g sg) s.heap.size = A at hD hE ⊢
  have hA : ∀ q : Nat, s.heap.size ≤ q → A q := fun q h => by rw [← hAe]; exact Or.inr h
  have hW : WW G A s.heap (wX7 a ct g sg) s.heap [] := ⟨hP, hD, va_S.rf⟩
  have hl := lv_entry ([.ref (a 0), .int x1, .int x2, .int x3, .int x4]) (n := 8) (Nat.le_of_ble_eq_true rfl)
  rw [lg_entry_eq]
  generalize (lg_sl ([.ref (a 0), .int x1, .int x2, .int x3, .int x4]) ++ List.replicate (8 - (lg_sl ([.ref (a 0), .int x1, .int x2, .int x3, .int x4])).length) Slot.unset).toArray = ls at hl ⊢
  have hl : lv_has ls 8 [(0, .ref (a 0)), (1, .int x1), (2, .int x2), (3, .int x3), (4, .int x4)] := hl
  unfold f_X7_isCarried at hf
  show W p l e ({ frames := 2, cells := 0, slots := 0, locals := 47 } : Room) s m (List.toArray [.ref (a 0), .int x1, .int x2, .int x3, .int x4]) below meth c s.heap [] 0 0 (MQ below (va_Qi (fun r (_ : Unit) => r = o) (fun _ t => Af_ G ct (wX7 a ct g sg) A t) A) (List.toArray [.ref (a 0), .int x1, .int x2, .int x3, .int x4]) s 0 0 A) (F0 m 0 ls [])
  refine lv_iload hx hb dX7_isCarried_0 (lv_at hl 4 rfl) ?_
  refine lv_aload_n hx hb dX7_isCarried_2 rfl (lv_at hl 0 rfl) ?_
  refine x_get (ci := 7) (v := .ref (a 4)) (C := RX7) (T := TX7) (N := 44) hx hb hts inX7 hown hK hW 0 rfl rfl 3 (by decide) fl13 (fun _ h9 => h9) rfl dX7_isCarried_3 ?_
  refine lv_iload_n hx hb dX7_isCarried_6 rfl (lv_at hl 3 rfl) ?_
  replace hf := gd_s hf; obtain ⟨hin, hf⟩ := hf
  refine x_iald (n := 10) (f := g 4) hx hb hK hW 2 rfl (okI_in hin) dX7_isCarried_7 ?_
  replace hf := bs_ hf; obtain ⟨j1, hg, hf⟩ := hf
  have J1 : ∀ (H : Heap) (locs : List Loc) (ls : Array Slot), WW G A s.heap (wX7 a ct g sg) H locs → lv_has ls 8 [(0, .ref (a 0)), (1, .int x1), (2, .int x2), (3, .int x3), (4, .int x4)] → W p l e ({ frames := 2, cells := 0, slots := 0, locals := 47 } : Room) s m (List.toArray [.ref (a 0), .int x1, .int x2, .int x3, .int x4]) below meth c H locs 0 0 (MQ below (va_Qi (fun r (_ : Unit) => r = o) (fun _ t => Af_ G ct (wX7 a ct g sg) A t) A) (List.toArray [.ref (a 0), .int x1, .int x2, .int x3, .int x4]) s 0 0 A) (F0 m 16 ls (.int j1 :: [])) := by
    intro H locs ls hW hl
    refine lv_istore (lv' := [(5, .int j1), (0, .ref (a 0)), (1, .int x1), (2, .int x2), (3, .int x3), (4, .int x4)]) hx hb dX7_isCarried_16 hl (by decide) rfl (fun ls hl => ?_)
    refine lv_aload_n hx hb dX7_isCarried_18 rfl (lv_at hl 1 rfl) ?_
    refine lv_iload_n hx hb dX7_isCarried_19 rfl (lv_at hl 2 rfl) ?_
    refine lv_iload_n hx hb dX7_isCarried_20 rfl (lv_at hl 4 rfl) ?_
    replace hf := bs_ hf; obtain ⟨r2, hcl, hf⟩ := hf
    refine x_callW_i (w' := (wX7 a ct g sg)) (As := [.int x1, .int x3]) (rest := []) (ci := 7) ⟨hx, hb, hml, hown, hts⟩ (c_X7_mayClimb l N kd G ct a g sg x1 x3 _ hcl) (cwV 2 hts gX7_isCarried_X7_mayClimb rfl rfl rfl (by decide +kernel) ⟨Nat.le_of_ble_eq_true rfl, Nat.le_of_ble_eq_true rfl⟩) hK hE hA hW rfl rfl 0 rfl rfl rfl rfl hl.1 rfl (lv_room (Nat.le_of_ble_eq_true rfl)) dX7_isCarried_21 (fun H locs hW => ?_)
    replace hf := bs_ hf; obtain ⟨j3, hg, hf⟩ := hf
    have J3 : ∀ (H : Heap) (locs : List Loc) (ls : Array Slot), WW G A s.heap (wX7 a ct g sg) H locs → lv_has ls 8 [(0, .ref (a 0)), (2, .int x2), (3, .int x3), (4, .int x4), (5, .int j1)] → W p l e ({ frames := 2, cells := 0, slots := 0, locals := 47 } : Room) s m (List.toArray [.ref (a 0), .int x1, .int x2, .int x3, .int x4]) below meth c H locs 0 0 (MQ below (va_Qi (fun r (_ : Unit) => r = o) (fun _ t => Af_ G ct (wX7 a ct g sg) A t) A) (List.toArray [.ref (a 0), .int x1, .int x2, .int x3, .int x4]) s 0 0 A) (F0 m 45 ls (.int j3 :: [])) := by
      intro H locs ls hW hl
      refine lv_istore (lv' := [(6, .int j3), (0, .ref (a 0)), (2, .int x2), (3, .int x3), (4, .int x4), (5, .int j1)]) hx hb dX7_isCarried_45 hl (by decide) rfl (fun ls hl => ?_)
      refine lv_iconst (v := (0 : Int32)) hx hb dX7_isCarried_47 (by decide) ?_
      refine lv_istore (lv' := [(7, .int (0 : Int32)), (6, .int j3), (0, .ref (a 0)), (2, .int x2), (3, .int x3), (4, .int x4), (5, .int j1)]) hx hb dX7_isCarried_48 hl (by decide) rfl (fun ls hl => ?_)
      replace hf := bs_ hf; obtain ⟨v4, hg, hf⟩ := hf
      have J4 : ∀ (H : Heap) (locs : List Loc) (ls : Array Slot), WW G A s.heap (wX7 a ct g sg) H locs → lv_has ls 8 [(6, .int v4)] → W p l e ({ frames := 2, cells := 0, slots := 0, locals := 47 } : Room) s m (List.toArray [.ref (a 0), .int x1, .int x2, .int x3, .int x4]) below meth c H locs 0 0 (MQ below (va_Qi (fun r (_ : Unit) => r = o) (fun _ t => Af_ G ct (wX7 a ct g sg) A t) A) (List.toArray [.ref (a 0), .int x1, .int x2, .int x3, .int x4]) s 0 0 A) (F0 m 124 ls []) := by
        intro H locs ls hW hl
        refine lv_iload hx hb dX7_isCarried_124 (lv_at hl 0 rfl) ?_
        replace hf := gd_s hf; obtain ⟨hB, hf⟩ := hf
        have ho := Option.some.inj hf
        subst ho
        exact x_retz hx hb hr (isB_nar hB) hlocks hK hW rfl rfl dX7_isCarried_126
      clear hf
      have L4 : ∀ (n : Nat) (y4_6 : Int32) (y4_7 : Int32), f_X7_isCarried_L50 N g x2 x3 x4 j1 n y4_6 y4_7 = some v4 → ∀ (H : Heap) (locs : List Loc) (ls : Array Slot), WW G A s.heap (wX7 a ct g sg) H locs → lv_has ls 8 [(0, .ref (a 0)), (2, .int x2), (3, .int x3), (4, .int x4), (5, .int j1), (6, .int y4_6), (7, .int y4_7)] → W p l e ({ frames := 2, cells := 0, slots := 0, locals := 47 } : Room) s m (List.toArray [.ref (a 0), .int x1, .int x2, .int x3, .int x4]) below meth c H locs 0 0 (MQ below (va_Qi (fun r (_ : Unit) => r = o) (fun _ t => Af_ G ct (wX7 a ct g sg) A t) A) (List.toArray [.ref (a 0), .int x1, .int x2, .int x3, .int x4]) s 0 0 A) (F0 m 50 ls []) := by
        intro n
        induction n with
        | zero =>
          intro y4_6 y4_7 hf
          rw [f_X7_isCarried_L50] at hf
          cases hf
        | succ n ih =>
          intro y4_6 y4_7 hf H locs ls hW hl
          rw [f_X7_isCarried_L50] at hf
          refine lv_iload hx hb dX7_isCarried_50 (lv_at hl 6 rfl) ?_
          refine lv_aload_n hx hb dX7_isCarried_52 rfl (lv_at hl 0 rfl) ?_
          refine x_get (ci := 7) (v := .int (g 9 0)) (C := RX7) (T := TX7) (N := 44) hx hb hts inX7 hown hK hW 0 rfl rfl 8 (by decide) fl106 (fun _ h9 => h9) rfl dX7_isCarried_53 ?_
          refine lv_icmp_ge (tgt := 124) hx hb dX7_isCarried_56 (by decide) (fun hc => ?_) (fun hc => ?_)
          · replace hf := ifp hc hf
            have hj := Option.some.inj hf
            subst hj
            exact J4 _ _ _ hW (lv_sub hl [5] rfl)
          · replace hf := ifn hc hf
            refine lv_iload hx hb dX7_isCarried_59 (lv_at hl 5 rfl) ?_
            replace hf := bs_ hf; obtain ⟨j5, hg, hf⟩ := hf
            have J5 : ∀ (H : Heap) (locs : List Loc) (ls : Array Slot), WW G A s.heap (wX7 a ct g sg) H locs → lv_has ls 8 [(0, .ref (a 0)), (2, .int x2), (3, .int x3), (4, .int x4), (5, .int j1), (7, .int y4_7)] → W p l e ({ frames := 2, cells := 0, slots := 0, locals := 47 } : Room) s m (List.toArray [.ref (a 0), .int x1, .int x2, .int x3, .int x4]) below meth c H locs 0 0 (MQ below (va_Qi (fun r (_ : Unit) => r = o) (fun _ t => Af_ G ct (wX7 a ct g sg) A t) A) (List.toArray [.ref (a 0), .int x1, .int x2, .int x3, .int x4]) s 0 0 A) (F0 m 116 ls (.int j5 :: [])) := by
              intro H locs ls hW hl
              refine lv_istore (lv' := [(6, .int j5), (0, .ref (a 0)), (2, .int x2), (3, .int x3), (4, .int x4), (5, .int j1), (7, .int y4_7)]) hx hb dX7_isCarried_116 hl (by decide) rfl (fun ls hl => ?_)
              refine lv_iinc (v := (y4_7 + (1 : Int32))) (lv' := [(7, .int (y4_7 + (1 : Int32))), (6, .int j5), (0, .ref (a 0)), (2, .int x2), (3, .int x3), (4, .int x4), (5, .int j1)]) hx hb dX7_isCarried_118 hl (k := 6) rfl rfl (by decide) rfl (fun ls hl => ?_)
              refine lv_goto (tgt := 50) hx hb dX7_isCarried_121 (by decide) ?_
              exact ih j5 (y4_7 + (1 : Int32)) hf _ _ _ hW (lv_sub hl [2, 3, 4, 5, 6, 1, 0] rfl)
            clear hf
            refine lv_if_ne (tgt := 111) hx hb dX7_isCarried_61 (by decide) (fun hc => ?_) (fun hc => ?_)
            · have hf := ifn hc hg
              clear hg
              refine lv_iconst (v := (1 : Int32)) hx hb dX7_isCarried_111 (by decide) ?_
              refine lv_goto (tgt := 116) hx hb dX7_isCarried_112 (by decide) ?_
              have hj := Option.some.inj hf
              subst hj
              exact J5 _ _ _ hW (lv_sub hl [0, 1, 2, 3, 4, 6] rfl)
            · have hf := ifp hc hg
              clear hg
              refine lv_iload_n hx hb dX7_isCarried_64 rfl (lv_at hl 1 rfl) ?_
              refine lv_iload hx hb dX7_isCarried_65 (lv_at hl 6 rfl) ?_
              replace hf := bs_ hf; obtain ⟨r6, hcl, hf⟩ := hf
              refine x_callS_i (As := [.int x2, .int y4_7]) (rest := []) ⟨hx, hb, hml, hown, hts⟩ (c_X7_has l N kd G ct x2 y4_7 _ hcl) (va_cwS 2 hts gX7_isCarried_X7_has rfl rfl rfl (by decide +kernel) ⟨Nat.le_of_ble_eq_true rfl, Nat.le_of_ble_eq_true rfl⟩) hK hE hA hW rfl hl.1 rfl (lv_room (Nat.le_of_ble_eq_true rfl)) dX7_isCarried_67 (fun H locs hW => ?_)
              refine lv_if_eq (tgt := 115) hx hb dX7_isCarried_70 (by decide) (fun hc => ?_) (fun hc => ?_)
              · replace hf := ifp hc hf
                refine lv_iconst (v := (0 : Int32)) hx hb dX7_isCarried_115 (by decide) ?_
                have hj := Option.some.inj hf
                subst hj
                exact J5 _ _ _ hW (lv_sub hl [0, 1, 2, 3, 4, 6] rfl)
              · replace hf := ifn hc hf
                refine lv_aload_n hx hb dX7_isCarried_73 rfl (lv_at hl 0 rfl) ?_
                refine x_get (ci := 7) (v := .ref (a 34)) (C := RX7) (T := TX7) (N := 44) hx hb hts inX7 hown hK hW 0 rfl rfl 33 (by decide) fl68 (fun _ h9 => h9) rfl dX7_isCarried_74 ?_
                refine lv_iload hx hb dX7_isCarried_77 (lv_at hl 6 rfl) ?_
                replace hf := gd_s hf; obtain ⟨hin, hf⟩ := hf
                refine x_iald (n := 8) (f := g 34) hx hb hK hW 19 rfl (okI_in hin) dX7_isCarried_79 ?_
                refine lv_iload hx hb dX7_isCarried_80 (lv_at hl 3 rfl) ?_
                replace hf := bs_ hf; obtain ⟨r7, hcl, hf⟩ := hf
                refine x_callS_i (As := [.int (g 34 y4_7.toNatClampNeg), .int x4]) (rest := []) ⟨hx, hb, hml, hown, hts⟩ (c_X7_has l N kd G ct (g 34 y4_7.toNatClampNeg) x4 _ hcl) (va_cwS 2 hts gX7_isCarried_X7_has rfl rfl rfl (by decide +kernel) ⟨Nat.le_of_ble_eq_true rfl, Nat.le_of_ble_eq_true rfl⟩) hK hE hA hW rfl hl.1 rfl (lv_room (Nat.le_of_ble_eq_true rfl)) dX7_isCarried_82 (fun H locs hW => ?_)
                refine lv_if_eq (tgt := 115) hx hb dX7_isCarried_85 (by decide) (fun hc => ?_) (fun hc => ?_)
                · replace hf := ifp hc hf
                  refine lv_iconst (v := (0 : Int32)) hx hb dX7_isCarried_115 (by decide) ?_
                  have hj := Option.some.inj hf
                  subst hj
                  exact J5 _ _ _ hW (lv_sub hl [0, 1, 2, 3, 4, 6] rfl)
                · replace hf := ifn hc hf
                  refine lv_aload_n hx hb dX7_isCarried_88 rfl (lv_at hl 0 rfl) ?_
                  refine lv_iload hx hb dX7_isCarried_89 (lv_at hl 6 rfl) ?_
                  refine lv_iload_n hx hb dX7_isCarried_91 rfl (lv_at hl 2 rfl) ?_
                  replace hf := bs_ hf; obtain ⟨r8, hcl, hf⟩ := hf
                  refine x_callW_i (w' := (wX7 a ct g sg)) (As := [.int y4_7, .int x3]) (rest := []) (ci := 7) ⟨hx, hb, hml, hown, hts⟩ (c_X7_mayClimb l N kd G ct a g sg y4_7 x3 _ hcl) (cwV 2 hts gX7_isCarried_X7_mayClimb rfl rfl rfl (by decide +kernel) ⟨Nat.le_of_ble_eq_true rfl, Nat.le_of_ble_eq_true rfl⟩) hK hE hA hW rfl rfl 0 rfl rfl rfl rfl hl.1 rfl (lv_room (Nat.le_of_ble_eq_true rfl)) dX7_isCarried_92 (fun H locs hW => ?_)
                  refine lv_if_ne (tgt := 111) hx hb dX7_isCarried_95 (by decide) (fun hc => ?_) (fun hc => ?_)
                  · replace hf := ifn hc hf
                    refine lv_iconst (v := (1 : Int32)) hx hb dX7_isCarried_111 (by decide) ?_
                    refine lv_goto (tgt := 116) hx hb dX7_isCarried_112 (by decide) ?_
                    have hj := Option.some.inj hf
                    subst hj
                    exact J5 _ _ _ hW (lv_sub hl [0, 1, 2, 3, 4, 6] rfl)
                  · replace hf := ifp hc hf
                    refine lv_iload hx hb dX7_isCarried_98 (lv_at hl 4 rfl) ?_
                    refine lv_if_ne (tgt := 115) hx hb dX7_isCarried_100 (by decide) (fun hc => ?_) (fun hc => ?_)
                    · replace hf := ifn hc hf
                      refine lv_iconst (v := (0 : Int32)) hx hb dX7_isCarried_115 (by decide) ?_
                      have hj := Option.some.inj hf
                      subst hj
                      exact J5 _ _ _ hW (lv_sub hl [0, 1, 2, 3, 4, 6] rfl)
                    · replace hf := ifp hc hf
                      refine lv_aload_n hx hb dX7_isCarried_103 rfl (lv_at hl 0 rfl) ?_
                      refine x_get (ci := 7) (v := .int (g 13 0)) (C := RX7) (T := TX7) (N := 44) hx hb hts inX7 hown hK hW 0 rfl rfl 12 (by decide) fl204 (fun _ h9 => h9) rfl dX7_isCarried_104 ?_
                      refine lv_iconst (v := (1 : Int32)) hx hb dX7_isCarried_107 (by decide) ?_
                      refine lv_icmp_ne (tgt := 115) hx hb dX7_isCarried_108 (by decide) (fun hc => ?_) (fun hc => ?_)
                      · replace hf := ifn hc hf
                        refine lv_iconst (v := (0 : Int32)) hx hb dX7_isCarried_115 (by decide) ?_
                        have hj := Option.some.inj hf
                        subst hj
                        exact J5 _ _ _ hW (lv_sub hl [0, 1, 2, 3, 4, 6] rfl)
                      · replace hf := ifp hc hf
                        refine lv_iconst (v := (1 : Int32)) hx hb dX7_isCarried_111 (by decide) ?_
                        refine lv_goto (tgt := 116) hx hb dX7_isCarried_112 (by decide) ?_
                        have hj := Option.some.inj hf
                        subst hj
                        exact J5 _ _ _ hW (lv_sub hl [0, 1, 2, 3, 4, 6] rfl)
      exact L4 N j3 (0 : Int32) hg _ _ _ hW (lv_sub hl [2, 3, 4, 5, 6, 1, 0] rfl)
    clear hf
    refine lv_if_ne (tgt := 40) hx hb dX7_isCarried_24 (by decide) (fun hc => ?_) (fun hc => ?_)
    · have hf := ifn hc hg
      clear hg
      refine lv_iconst (v := (1 : Int32)) hx hb dX7_isCarried_40 (by decide) ?_
      refine lv_goto (tgt := 45) hx hb dX7_isCarried_41 (by decide) ?_
      have hj := Option.some.inj hf
      subst hj
      exact J3 _ _ _ hW (lv_sub hl [1, 3, 4, 5, 0] rfl)
    · have hf := ifp hc hg
      clear hg
      refine lv_iload hx hb dX7_isCarried_27 (lv_at hl 0 rfl) ?_
      refine lv_if_ne (tgt := 44) hx hb dX7_isCarried_29 (by decide) (fun hc => ?_) (fun hc => ?_)
      · replace hf := ifn hc hf
        refine lv_iconst (v := (0 : Int32)) hx hb dX7_isCarried_44 (by decide) ?_
        have hj := Option.some.inj hf
        subst hj
        exact J3 _ _ _ hW (lv_sub hl [1, 3, 4, 5, 0] rfl)
      · replace hf := ifp hc hf
        refine lv_aload_n hx hb dX7_isCarried_32 rfl (lv_at hl 1 rfl) ?_
        refine x_get (ci := 7) (v := .int (g 13 0)) (C := RX7) (T := TX7) (N := 44) hx hb hts inX7 hown hK hW 0 rfl rfl 12 (by decide) fl204 (fun _ h9 => h9) rfl dX7_isCarried_33 ?_
        refine lv_iconst (v := (1 : Int32)) hx hb dX7_isCarried_36 (by decide) ?_
        refine lv_icmp_ne (tgt := 44) hx hb dX7_isCarried_37 (by decide) (fun hc => ?_) (fun hc => ?_)
        · replace hf := ifn hc hf
          refine lv_iconst (v := (0 : Int32)) hx hb dX7_isCarried_44 (by decide) ?_
          have hj := Option.some.inj hf
          subst hj
          exact J3 _ _ _ hW (lv_sub hl [1, 3, 4, 5, 0] rfl)
        · replace hf := ifp hc hf
          refine lv_iconst (v := (1 : Int32)) hx hb dX7_isCarried_40 (by decide) ?_
          refine lv_goto (tgt := 45) hx hb dX7_isCarried_41 (by decide) ?_
          have hj := Option.some.inj hf
          subst hj
          exact J3 _ _ _ hW (lv_sub hl [1, 3, 4, 5, 0] rfl)
  clear hf
  refine lv_icmp_ne (tgt := 15) hx hb dX7_isCarried_8 (by decide) (fun hc => ?_) (fun hc => ?_)
  · have hf := ifn hc hg
    clear hg
    refine lv_iconst (v := (0 : Int32)) hx hb dX7_isCarried_15 (by decide) ?_
    have hj := Option.some.inj hf
    subst hj
    exact J1 _ _ _ hW (lv_sub hl [0, 1, 2, 3, 4] rfl)
  · have hf := ifp hc hg
    clear hg
    refine lv_iconst (v := (1 : Int32)) hx hb dX7_isCarried_11 (by decide) ?_
    refine lv_goto (tgt := 16) hx hb dX7_isCarried_12 (by decide) ?_
    have hj := Option.some.inj hf
    subst hj
    exact J1 _ _ _ hW (lv_sub hl [0, 1, 2, 3, 4] rfl)
set_option maxHeartbeats 4000000 in
set_option maxRecDepth 100000 in
theorem c_X7_comesBy (l : Launch) (N : Nat) (kd : (Nat → Nat) × (Nat → Nat)) (G : va_G) (ct : Nat → ClassId) (a : Nat → Nat) (g : St_) (sg : Int64) (x1 : Int32) (x2 : Int32) (x3 : Int32) (o : Int32) (hf : f_X7_comesBy N g x1 x2 x3 = some o) : CtI l yX7_comesBy wsX7_comesBy ({ frames := 3, cells := 0, slots := 0, locals := 74 }) kd G ct [.ref (a 0), .int x1, .int x2, .int x3] (wX7 a ct g sg) o (wX7 a ct g sg) := by
  intro sz
  refine Met.ofW (cc := cX7_comesBy) (maxL := 7) (ret := (some .boolean)) (by decide) rfl ?_
  intro p e s m args below meth c s₁ B hml hv
  obtain ⟨rfl, hsz, hP, hK, hD0, hE⟩ := hv
  have hx := B.exec
  have hb := B.bytes
  have hr := B.returns
  have hts := atoms_spec (ws := wsX7_comesBy) B.pre
  have hown : s.vm.findClass RX7 = some m.cls := findClass_of_methodNamed B.named
  have hlocks := B.notSynchronized
  have inX7 : ∀ w ∈ wsX70, w ∈ wsX7_comesBy := by decide +kernel
  have fl13 := hts (.fieldLink RX7 13 "FittingStridesModel" "low" "[I") (by decide +kernel)
  have fl16 := hts (.fieldLink RX7 16 "FittingStridesModel" "high" "[I") (by decide +kernel)
  have fl28 := hts (.fieldLink RX7 28 "FittingStridesModel" "at" "[I") (by decide +kernel)
  have fl103 := hts (.fieldLink RX7 103 "FittingStridesModel" "stairs" "I") (by decide +kernel)
  subst hsz
  have hD := hD0.self (sz := s.heap.size)
  generalize hAe : va_A (wX7 a ct g sg) s.heap.size = A at hD hE ⊢
  have hA : ∀ q : Nat, s.heap.size ≤ q → A q := fun q h => by rw [← hAe]; exact Or.inr h
  have hW : WW G A s.heap (wX7 a ct g sg) s.heap [] := ⟨hP, hD, va_S.rf⟩
  have hl := lv_entry ([.ref (a 0), .int x1, .int x2, .int x3]) (n := 7) (Nat.le_of_ble_eq_true rfl)
  rw [lg_entry_eq]
  generalize (lg_sl ([.ref (a 0), .int x1, .int x2, .int x3]) ++ List.replicate (7 - (lg_sl ([.ref (a 0), .int x1, .int x2, .int x3])).length) Slot.unset).toArray = ls at hl ⊢
  have hl : lv_has ls 7 [(0, .ref (a 0)), (1, .int x1), (2, .int x2), (3, .int x3)] := hl
  unfold f_X7_comesBy at hf
  show W p l e ({ frames := 3, cells := 0, slots := 0, locals := 74 } : Room) s m (List.toArray [.ref (a 0), .int x1, .int x2, .int x3]) below meth c s.heap [] 0 0 (MQ below (va_Qi (fun r (_ : Unit) => r = o) (fun _ t => Af_ G ct (wX7 a ct g sg) A t) A) (List.toArray [.ref (a 0), .int x1, .int x2, .int x3]) s 0 0 A) (F0 m 0 ls [])
  refine lv_iconst (v := (1 : Int32)) hx hb dX7_comesBy_0 (by decide) ?_
  refine lv_aload_n hx hb dX7_comesBy_1 rfl (lv_at hl 0 rfl) ?_
  refine x_get (ci := 7) (v := .ref (a 10)) (C := RX7) (T := TX7) (N := 44) hx hb hts inX7 hown hK hW 0 rfl rfl 9 (by decide) fl28 (fun _ h9 => h9) rfl dX7_comesBy_2 ?_
  refine lv_iload_n hx hb dX7_comesBy_5 rfl (lv_at hl 1 rfl) ?_
  replace hf := gd_s hf; obtain ⟨hin, hf⟩ := hf
  refine x_iald (n := 8) (f := g 10) hx hb hK hW 7 rfl (okI_in hin) dX7_comesBy_6 ?_
  refine lv_ishl hx hb dX7_comesBy_7 ?_
  refine lv_istore (lv' := [(4, .int ((1 : Int32) <<< ((g 10 x1.toNatClampNeg) &&& 31))), (0, .ref (a 0)), (1, .int x1), (2, .int x2), (3, .int x3)]) hx hb dX7_comesBy_8 hl (by decide) rfl (fun ls hl => ?_)
  refine lv_iconst (v := (0 : Int32)) hx hb dX7_comesBy_10 (by decide) ?_
  refine lv_istore (lv' := [(5, .int (0 : Int32)), (4, .int ((1 : Int32) <<< ((g 10 x1.toNatClampNeg) &&& 31))), (0, .ref (a 0)), (1, .int x1), (2, .int x2), (3, .int x3)]) hx hb dX7_comesBy_11 hl (by decide) rfl (fun ls hl => ?_)
  replace hf := bs_ hf; obtain ⟨v1, hg, hf⟩ := hf
  have J1 : ∀ (H : Heap) (locs : List Loc) (ls : Array Slot), WW G A s.heap (wX7 a ct g sg) H locs → lv_has ls 7 [(3, .int x3), (4, .int v1)] → W p l e ({ frames := 3, cells := 0, slots := 0, locals := 74 } : Room) s m (List.toArray [.ref (a 0), .int x1, .int x2, .int x3]) below meth c H locs 0 0 (MQ below (va_Qi (fun r (_ : Unit) => r = o) (fun _ t => Af_ G ct (wX7 a ct g sg) A t) A) (List.toArray [.ref (a 0), .int x1, .int x2, .int x3]) s 0 0 A) (F0 m 147 ls []) := by
    intro H locs ls hW hl
    refine lv_iload hx hb dX7_comesBy_147 (lv_at hl 1 rfl) ?_
    refine lv_iload_n hx hb dX7_comesBy_149 rfl (lv_at hl 0 rfl) ?_
    replace hf := bs_ hf; obtain ⟨r9, hcl, hf⟩ := hf
    refine x_callS_i (As := [.int v1, .int x3]) (rest := []) ⟨hx, hb, hml, hown, hts⟩ (c_X7_has l N kd G ct v1 x3 _ hcl) (va_cwS 2 hts gX7_comesBy_X7_has rfl rfl rfl (by decide +kernel) ⟨Nat.le_of_ble_eq_true rfl, Nat.le_of_ble_eq_true rfl⟩) hK hE hA hW rfl hl.1 rfl (lv_room (Nat.le_of_ble_eq_true rfl)) dX7_comesBy_150 (fun H locs hW => ?_)
    replace hf := gd_s hf; obtain ⟨hB, hf⟩ := hf
    have ho := Option.some.inj hf
    subst ho
    exact x_retz hx hb hr (isB_nar hB) hlocks hK hW rfl rfl dX7_comesBy_153
  clear hf
  have L1 : ∀ (n : Nat) (y1_4 : Int32) (y1_5 : Int32), f_X7_comesBy_L13 N g x1 x2 n y1_4 y1_5 = some v1 → ∀ (H : Heap) (locs : List Loc) (ls : Array Slot), WW G A s.heap (wX7 a ct g sg) H locs → lv_has ls 7 [(0, .ref (a 0)), (1, .int x1), (2, .int x2), (3, .int x3), (4, .int y1_4), (5, .int y1_5)] → W p l e ({ frames := 3, cells := 0, slots := 0, locals := 74 } : Room) s m (List.toArray [.ref (a 0), .int x1, .int x2, .int x3]) below meth c H locs 0 0 (MQ below (va_Qi (fun r (_ : Unit) => r = o) (fun _ t => Af_ G ct (wX7 a ct g sg) A t) A) (List.toArray [.ref (a 0), .int x1, .int x2, .int x3]) s 0 0 A) (F0 m 13 ls []) := by
    intro n
    induction n with
    | zero =>
      intro y1_4 y1_5 hf
      rw [f_X7_comesBy_L13] at hf
      cases hf
    | succ n ih =>
      intro y1_4 y1_5 hf H locs ls hW hl
      rw [f_X7_comesBy_L13] at hf
      refine lv_iload hx hb dX7_comesBy_13 (lv_at hl 5 rfl) ?_
      refine lv_iload hx hb dX7_comesBy_15 (lv_at hl 4 rfl) ?_
      refine lv_icmp_eq (tgt := 147) hx hb dX7_comesBy_17 (by decide) (fun hc => ?_) (fun hc => ?_)
      · replace hf := ifp hc hf
        have hj := Option.some.inj hf
        subst hj
        exact J1 _ _ _ hW (lv_sub hl [3, 4] rfl)
      · replace hf := ifn hc hf
        refine lv_iload hx hb dX7_comesBy_20 (lv_at hl 4 rfl) ?_
        refine lv_istore (lv' := [(5, .int y1_4), (0, .ref (a 0)), (1, .int x1), (2, .int x2), (3, .int x3), (4, .int y1_4)]) hx hb dX7_comesBy_22 hl (by decide) rfl (fun ls hl => ?_)
        refine lv_iconst (v := (0 : Int32)) hx hb dX7_comesBy_24 (by decide) ?_
        refine lv_istore (lv' := [(6, .int (0 : Int32)), (5, .int y1_4), (0, .ref (a 0)), (1, .int x1), (2, .int x2), (3, .int x3), (4, .int y1_4)]) hx hb dX7_comesBy_25 hl (by decide) rfl (fun ls hl => ?_)
        replace hf := bs_ hf; obtain ⟨v2, hg, hf⟩ := hf
        have J2 : ∀ (H : Heap) (locs : List Loc) (ls : Array Slot), WW G A s.heap (wX7 a ct g sg) H locs → lv_has ls 7 [(0, .ref (a 0)), (1, .int x1), (2, .int x2), (3, .int x3), (4, .int v2), (5, .int y1_4)] → W p l e ({ frames := 3, cells := 0, slots := 0, locals := 74 } : Room) s m (List.toArray [.ref (a 0), .int x1, .int x2, .int x3]) below meth c H locs 0 0 (MQ below (va_Qi (fun r (_ : Unit) => r = o) (fun _ t => Af_ G ct (wX7 a ct g sg) A t) A) (List.toArray [.ref (a 0), .int x1, .int x2, .int x3]) s 0 0 A) (F0 m 144 ls []) := by
          intro H locs ls hW hl
          refine lv_goto (tgt := 13) hx hb dX7_comesBy_144 (by decide) ?_
          exact ih v2 y1_4 hf _ _ _ hW (lv_sub hl [0, 1, 2, 3, 4, 5] rfl)
        clear hf
        have L2 : ∀ (n : Nat) (y2_4 : Int32) (y2_6 : Int32), f_X7_comesBy_L27 N g x1 x2 n y2_4 y2_6 = some v2 → ∀ (H : Heap) (locs : List Loc) (ls : Array Slot), WW G A s.heap (wX7 a ct g sg) H locs → lv_has ls 7 [(0, .ref (a 0)), (1, .int x1), (2, .int x2), (3, .int x3), (4, .int y2_4), (5, .int y1_4), (6, .int y2_6)] → W p l e ({ frames := 3, cells := 0, slots := 0, locals := 74 } : Room) s m (List.toArray [.ref (a 0), .int x1, .int x2, .int x3]) below meth c H locs 0 0 (MQ below (va_Qi (fun r (_ : Unit) => r = o) (fun _ t => Af_ G ct (wX7 a ct g sg) A t) A) (List.toArray [.ref (a 0), .int x1, .int x2, .int x3]) s 0 0 A) (F0 m 27 ls []) := by
          intro n
          induction n with
          | zero =>
            intro y2_4 y2_6 hf
            rw [f_X7_comesBy_L27] at hf
            cases hf
          | succ n ih =>
            intro y2_4 y2_6 hf H locs ls hW hl
            rw [f_X7_comesBy_L27] at hf
            refine lv_iload hx hb dX7_comesBy_27 (lv_at hl 6 rfl) ?_
            refine lv_aload_n hx hb dX7_comesBy_29 rfl (lv_at hl 0 rfl) ?_
            refine x_get (ci := 7) (v := .int (g 2 0)) (C := RX7) (T := TX7) (N := 44) hx hb hts inX7 hown hK hW 0 rfl rfl 1 (by decide) fl103 (fun _ h9 => h9) rfl dX7_comesBy_30 ?_
            refine lv_icmp_ge (tgt := 144) hx hb dX7_comesBy_33 (by decide) (fun hc => ?_) (fun hc => ?_)
            · replace hf := ifp hc hf
              have hj := Option.some.inj hf
              subst hj
              exact J2 _ _ _ hW (lv_sub hl [0, 1, 2, 3, 4, 5] rfl)
            · replace hf := ifn hc hf
              refine lv_iload hx hb dX7_comesBy_36 (lv_at hl 4 rfl) ?_
              refine lv_iload hx hb dX7_comesBy_38 (lv_at hl 4 rfl) ?_
              refine lv_aload_n hx hb dX7_comesBy_40 rfl (lv_at hl 0 rfl) ?_
              refine x_get (ci := 7) (v := .ref (a 4)) (C := RX7) (T := TX7) (N := 44) hx hb hts inX7 hown hK hW 0 rfl rfl 3 (by decide) fl13 (fun _ h9 => h9) rfl dX7_comesBy_41 ?_
              refine lv_iload hx hb dX7_comesBy_44 (lv_at hl 6 rfl) ?_
              replace hf := gd_s hf; obtain ⟨hin, hf⟩ := hf
              refine x_iald (n := 10) (f := g 4) hx hb hK hW 2 rfl (okI_in hin) dX7_comesBy_46 ?_
              replace hf := bs_ hf; obtain ⟨r3, hcl, hf⟩ := hf
              refine x_callS_i (As := [.int y2_4, .int (g 4 y2_6.toNatClampNeg)]) (rest := [.int y2_4]) ⟨hx, hb, hml, hown, hts⟩ (c_X7_has l N kd G ct y2_4 (g 4 y2_6.toNatClampNeg) _ hcl) (va_cwS 2 hts gX7_comesBy_X7_has rfl rfl rfl (by decide +kernel) ⟨Nat.le_of_ble_eq_true rfl, Nat.le_of_ble_eq_true rfl⟩) hK hE hA hW rfl hl.1 rfl (lv_room (Nat.le_of_ble_eq_true rfl)) dX7_comesBy_47 (fun H locs hW => ?_)
              replace hf := bs_ hf; obtain ⟨j4, hg, hf⟩ := hf
              have J4 : ∀ (H : Heap) (locs : List Loc) (ls : Array Slot), WW G A s.heap (wX7 a ct g sg) H locs → lv_has ls 7 [(0, .ref (a 0)), (1, .int x1), (2, .int x2), (3, .int x3), (5, .int y1_4), (6, .int y2_6)] → W p l e ({ frames := 3, cells := 0, slots := 0, locals := 74 } : Room) s m (List.toArray [.ref (a 0), .int x1, .int x2, .int x3]) below meth c H locs 0 0 (MQ below (va_Qi (fun r (_ : Unit) => r = o) (fun _ t => Af_ G ct (wX7 a ct g sg) A t) A) (List.toArray [.ref (a 0), .int x1, .int x2, .int x3]) s 0 0 A) (F0 m 84 ls (.int j4 :: .int y2_4 :: [])) := by
                intro H locs ls hW hl
                refine lv_ior hx hb dX7_comesBy_84 ?_
                refine lv_istore (lv' := [(4, .int (y2_4 ||| j4)), (0, .ref (a 0)), (1, .int x1), (2, .int x2), (3, .int x3), (5, .int y1_4), (6, .int y2_6)]) hx hb dX7_comesBy_85 hl (by decide) rfl (fun ls hl => ?_)
                refine lv_iload hx hb dX7_comesBy_87 (lv_at hl 0 rfl) ?_
                refine lv_iload hx hb dX7_comesBy_89 (lv_at hl 0 rfl) ?_
                refine lv_aload_n hx hb dX7_comesBy_91 rfl (lv_at hl 1 rfl) ?_
                refine x_get (ci := 7) (v := .ref (a 5)) (C := RX7) (T := TX7) (N := 44) hx hb hts inX7 hown hK hW 0 rfl rfl 4 (by decide) fl16 (fun _ h9 => h9) rfl dX7_comesBy_92 ?_
                refine lv_iload hx hb dX7_comesBy_95 (lv_at hl 6 rfl) ?_
                replace hf := gd_s hf; obtain ⟨hin, hf⟩ := hf
                refine x_iald (n := 10) (f := g 5) hx hb hK hW 3 rfl (okI_in hin) dX7_comesBy_97 ?_
                replace hf := bs_ hf; obtain ⟨r6, hcl, hf⟩ := hf
                refine x_callS_i (As := [.int (y2_4 ||| j4), .int (g 5 y2_6.toNatClampNeg)]) (rest := [.int (y2_4 ||| j4)]) ⟨hx, hb, hml, hown, hts⟩ (c_X7_has l N kd G ct (y2_4 ||| j4) (g 5 y2_6.toNatClampNeg) _ hcl) (va_cwS 2 hts gX7_comesBy_X7_has rfl rfl rfl (by decide +kernel) ⟨Nat.le_of_ble_eq_true rfl, Nat.le_of_ble_eq_true rfl⟩) hK hE hA hW rfl hl.1 rfl (lv_room (Nat.le_of_ble_eq_true rfl)) dX7_comesBy_98 (fun H locs hW => ?_)
                replace hf := bs_ hf; obtain ⟨j7, hg, hf⟩ := hf
                have J7 : ∀ (H : Heap) (locs : List Loc) (ls : Array Slot), WW G A s.heap (wX7 a ct g sg) H locs → lv_has ls 7 [(0, .ref (a 0)), (1, .int x1), (2, .int x2), (3, .int x3), (5, .int y1_4), (6, .int y2_6)] → W p l e ({ frames := 3, cells := 0, slots := 0, locals := 74 } : Room) s m (List.toArray [.ref (a 0), .int x1, .int x2, .int x3]) below meth c H locs 0 0 (MQ below (va_Qi (fun r (_ : Unit) => r = o) (fun _ t => Af_ G ct (wX7 a ct g sg) A t) A) (List.toArray [.ref (a 0), .int x1, .int x2, .int x3]) s 0 0 A) (F0 m 135 ls (.int j7 :: .int (y2_4 ||| j4) :: [])) := by
                  intro H locs ls hW hl
                  refine lv_ior hx hb dX7_comesBy_135 ?_
                  refine lv_istore (lv' := [(4, .int ((y2_4 ||| j4) ||| j7)), (0, .ref (a 0)), (1, .int x1), (2, .int x2), (3, .int x3), (5, .int y1_4), (6, .int y2_6)]) hx hb dX7_comesBy_136 hl (by decide) rfl (fun ls hl => ?_)
                  refine lv_iinc (v := (y2_6 + (1 : Int32))) (lv' := [(6, .int (y2_6 + (1 : Int32))), (4, .int ((y2_4 ||| j4) ||| j7)), (0, .ref (a 0)), (1, .int x1), (2, .int x2), (3, .int x3), (5, .int y1_4)]) hx hb dX7_comesBy_138 hl (k := 6) rfl rfl (by decide) rfl (fun ls hl => ?_)
                  refine lv_goto (tgt := 27) hx hb dX7_comesBy_141 (by decide) ?_
                  exact ih ((y2_4 ||| j4) ||| j7) (y2_6 + (1 : Int32)) hf _ _ _ hW (lv_sub hl [2, 3, 4, 5, 1, 6, 0] rfl)
                clear hf
                refine lv_if_eq (tgt := 134) hx hb dX7_comesBy_101 (by decide) (fun hc => ?_) (fun hc => ?_)
                · have hf := ifp hc hg
                  clear hg
                  refine lv_iconst (v := (0 : Int32)) hx hb dX7_comesBy_134 (by decide) ?_
                  have hj := Option.some.inj hf
                  subst hj
                  exact J7 _ _ _ hW (lv_sub hl [1, 2, 3, 4, 5, 6] rfl)
                · have hf := ifn hc hg
                  clear hg
                  refine lv_aload_n hx hb dX7_comesBy_104 rfl (lv_at hl 1 rfl) ?_
                  refine lv_iload_n hx hb dX7_comesBy_105 rfl (lv_at hl 2 rfl) ?_
                  refine lv_iload_n hx hb dX7_comesBy_106 rfl (lv_at hl 3 rfl) ?_
                  refine lv_iload hx hb dX7_comesBy_107 (lv_at hl 6 rfl) ?_
                  refine lv_aload_n hx hb dX7_comesBy_109 rfl (lv_at hl 1 rfl) ?_
                  refine x_get (ci := 7) (v := .ref (a 5)) (C := RX7) (T := TX7) (N := 44) hx hb hts inX7 hown hK hW 0 rfl rfl 4 (by decide) fl16 (fun _ h9 => h9) rfl dX7_comesBy_110 ?_
                  refine lv_iload hx hb dX7_comesBy_113 (lv_at hl 6 rfl) ?_
                  replace hf := gd_s hf; obtain ⟨hin, hf⟩ := hf
                  refine x_iald (n := 10) (f := g 5) hx hb hK hW 3 rfl (okI_in hin) dX7_comesBy_115 ?_
                  replace hf := bs_ hf; obtain ⟨r8, hcl, hf⟩ := hf
                  refine x_callW_i (w' := (wX7 a ct g sg)) (As := [.int x1, .int x2, .int y2_6, .int (g 5 y2_6.toNatClampNeg)]) (rest := [.int (y2_4 ||| j4)]) (ci := 7) ⟨hx, hb, hml, hown, hts⟩ (c_X7_isCarried l N kd G ct a g sg x1 x2 y2_6 (g 5 y2_6.toNatClampNeg) _ hcl) (cwV 4 hts gX7_comesBy_X7_isCarried rfl rfl rfl (by decide +kernel) ⟨Nat.le_of_ble_eq_true rfl, Nat.le_of_ble_eq_true rfl⟩) hK hE hA hW rfl rfl 0 rfl rfl rfl rfl hl.1 rfl (lv_room (Nat.le_of_ble_eq_true rfl)) dX7_comesBy_116 (fun H locs hW => ?_)
                  refine lv_if_eq (tgt := 134) hx hb dX7_comesBy_119 (by decide) (fun hc => ?_) (fun hc => ?_)
                  · replace hf := ifp hc hf
                    refine lv_iconst (v := (0 : Int32)) hx hb dX7_comesBy_134 (by decide) ?_
                    have hj := Option.some.inj hf
                    subst hj
                    exact J7 _ _ _ hW (lv_sub hl [1, 2, 3, 4, 5, 6] rfl)
                  · replace hf := ifn hc hf
                    refine lv_iconst (v := (1 : Int32)) hx hb dX7_comesBy_122 (by decide) ?_
                    refine lv_aload_n hx hb dX7_comesBy_123 rfl (lv_at hl 1 rfl) ?_
                    refine x_get (ci := 7) (v := .ref (a 4)) (C := RX7) (T := TX7) (N := 44) hx hb hts inX7 hown hK hW 0 rfl rfl 3 (by decide) fl13 (fun _ h9 => h9) rfl dX7_comesBy_124 ?_
                    refine lv_iload hx hb dX7_comesBy_127 (lv_at hl 6 rfl) ?_
                    replace hf := gd_s hf; obtain ⟨hin, hf⟩ := hf
                    refine x_iald (n := 10) (f := g 4) hx hb hK hW 2 rfl (okI_in hin) dX7_comesBy_129 ?_
                    refine lv_ishl hx hb dX7_comesBy_130 ?_
                    refine lv_goto (tgt := 135) hx hb dX7_comesBy_131 (by decide) ?_
                    have hj := Option.some.inj hf
                    subst hj
                    exact J7 _ _ _ hW (lv_sub hl [1, 2, 3, 4, 5, 6] rfl)
              clear hf
              refine lv_if_eq (tgt := 83) hx hb dX7_comesBy_50 (by decide) (fun hc => ?_) (fun hc => ?_)
              · have hf := ifp hc hg
                clear hg
                refine lv_iconst (v := (0 : Int32)) hx hb dX7_comesBy_83 (by decide) ?_
                have hj := Option.some.inj hf
                subst hj
                exact J4 _ _ _ hW (lv_sub hl [0, 1, 2, 3, 5, 6] rfl)
              · have hf := ifn hc hg
                clear hg
                refine lv_aload_n hx hb dX7_comesBy_53 rfl (lv_at hl 0 rfl) ?_
                refine lv_iload_n hx hb dX7_comesBy_54 rfl (lv_at hl 1 rfl) ?_
                refine lv_iload_n hx hb dX7_comesBy_55 rfl (lv_at hl 2 rfl) ?_
                refine lv_iload hx hb dX7_comesBy_56 (lv_at hl 6 rfl) ?_
                refine lv_aload_n hx hb dX7_comesBy_58 rfl (lv_at hl 0 rfl) ?_
                refine x_get (ci := 7) (v := .ref (a 4)) (C := RX7) (T := TX7) (N := 44) hx hb hts inX7 hown hK hW 0 rfl rfl 3 (by decide) fl13 (fun _ h9 => h9) rfl dX7_comesBy_59 ?_
                refine lv_iload hx hb dX7_comesBy_62 (lv_at hl 6 rfl) ?_
                replace hf := gd_s hf; obtain ⟨hin, hf⟩ := hf
                refine x_iald (n := 10) (f := g 4) hx hb hK hW 2 rfl (okI_in hin) dX7_comesBy_64 ?_
                replace hf := bs_ hf; obtain ⟨r5, hcl, hf⟩ := hf
                refine x_callW_i (w' := (wX7 a ct g sg)) (As := [.int x1, .int x2, .int y2_6, .int (g 4 y2_6.toNatClampNeg)]) (rest := [.int y2_4]) (ci := 7) ⟨hx, hb, hml, hown, hts⟩ (c_X7_isCarried l N kd G ct a g sg x1 x2 y2_6 (g 4 y2_6.toNatClampNeg) _ hcl) (cwV 4 hts gX7_comesBy_X7_isCarried rfl rfl rfl (by decide +kernel) ⟨Nat.le_of_ble_eq_true rfl, Nat.le_of_ble_eq_true rfl⟩) hK hE hA hW rfl rfl 0 rfl rfl rfl rfl hl.1 rfl (lv_room (Nat.le_of_ble_eq_true rfl)) dX7_comesBy_65 (fun H locs hW => ?_)
                refine lv_if_eq (tgt := 83) hx hb dX7_comesBy_68 (by decide) (fun hc => ?_) (fun hc => ?_)
                · replace hf := ifp hc hf
                  refine lv_iconst (v := (0 : Int32)) hx hb dX7_comesBy_83 (by decide) ?_
                  have hj := Option.some.inj hf
                  subst hj
                  exact J4 _ _ _ hW (lv_sub hl [0, 1, 2, 3, 5, 6] rfl)
                · replace hf := ifn hc hf
                  refine lv_iconst (v := (1 : Int32)) hx hb dX7_comesBy_71 (by decide) ?_
                  refine lv_aload_n hx hb dX7_comesBy_72 rfl (lv_at hl 0 rfl) ?_
                  refine x_get (ci := 7) (v := .ref (a 5)) (C := RX7) (T := TX7) (N := 44) hx hb hts inX7 hown hK hW 0 rfl rfl 4 (by decide) fl16 (fun _ h9 => h9) rfl dX7_comesBy_73 ?_
                  refine lv_iload hx hb dX7_comesBy_76 (lv_at hl 6 rfl) ?_
                  replace hf := gd_s hf; obtain ⟨hin, hf⟩ := hf
                  refine x_iald (n := 10) (f := g 5) hx hb hK hW 3 rfl (okI_in hin) dX7_comesBy_78 ?_
                  refine lv_ishl hx hb dX7_comesBy_79 ?_
                  refine lv_goto (tgt := 84) hx hb dX7_comesBy_80 (by decide) ?_
                  have hj := Option.some.inj hf
                  subst hj
                  exact J4 _ _ _ hW (lv_sub hl [0, 1, 2, 3, 5, 6] rfl)
        exact L2 N y1_4 (0 : Int32) hg _ _ _ hW (lv_sub hl [2, 3, 4, 5, 6, 1, 0] rfl)
  exact L1 N ((1 : Int32) <<< ((g 10 x1.toNatClampNeg) &&& 31)) (0 : Int32) hg _ _ _ hW (lv_sub hl [2, 3, 4, 5, 1, 0] rfl)
set_option maxHeartbeats 4000000 in
set_option maxRecDepth 100000 in
theorem c_X7_carried (l : Launch) (N : Nat) (kd : (Nat → Nat) × (Nat → Nat)) (G : va_G) (ct : Nat → ClassId) (a : Nat → Nat) (g : St_) (sg : Int64) (x1 : Int32) (x2 : Int32) (x3 : Int32) (o : (Int32 × St_)) (hf : f_X7_carried N g x1 x2 x3 = some o) : CtI l yX7_carried wsX7_carried ({ frames := 4, cells := 0, slots := 0, locals := 100 }) kd G ct [.ref (a 0), .int x1, .int x2, .int x3] (wX7 a ct g sg) o.1 (wX7 a ct o.2 sg) := by
  intro sz
  refine Met.ofW (cc := cX7_carried) (maxL := 7) (ret := (some .int)) (by decide) rfl ?_
  intro p e s m args below meth c s₁ B hml hv
  obtain ⟨rfl, hsz, hP, hK, hD0, hE⟩ := hv
  have hx := B.exec
  have hb := B.bytes
  have hr := B.returns
  have hts := atoms_spec (ws := wsX7_carried) B.pre
  have hown : s.vm.findClass RX7 = some m.cls := findClass_of_methodNamed B.named
  have hlocks := B.notSynchronized
  have inX7 : ∀ w ∈ wsX70, w ∈ wsX7_carried := by decide +kernel
  have fl68 := hts (.fieldLink RX7 68 "FittingStridesModel" "reaches" "[I") (by decide +kernel)
  have fl106 := hts (.fieldLink RX7 106 "FittingStridesModel" "persons" "I") (by decide +kernel)
  have fl111 := hts (.constant RX7 111 (-1000000002)) (by decide +kernel)
  have fl221 := hts (.constant RX7 221 (-1000000001)) (by decide +kernel)
  subst hsz
  have hD := hD0.self (sz := s.heap.size)
  generalize hAe : va_A (wX7 a ct g sg) s.heap.size = A at hD hE ⊢
  have hA : ∀ q : Nat, s.heap.size ≤ q → A q := fun q h => by rw [← hAe]; exact Or.inr h
  have hW : WW G A s.heap (wX7 a ct g sg) s.heap [] := ⟨hP, hD, va_S.rf⟩
  have hl := lv_entry ([.ref (a 0), .int x1, .int x2, .int x3]) (n := 7) (Nat.le_of_ble_eq_true rfl)
  rw [lg_entry_eq]
  generalize (lg_sl ([.ref (a 0), .int x1, .int x2, .int x3]) ++ List.replicate (7 - (lg_sl ([.ref (a 0), .int x1, .int x2, .int x3])).length) Slot.unset).toArray = ls at hl ⊢
  have hl : lv_has ls 7 [(0, .ref (a 0)), (1, .int x1), (2, .int x2), (3, .int x3)] := hl
  unfold f_X7_carried at hf
  show W p l e ({ frames := 4, cells := 0, slots := 0, locals := 100 } : Room) s m (List.toArray [.ref (a 0), .int x1, .int x2, .int x3]) below meth c s.heap [] 0 0 (MQ below (va_Qi (fun r (_ : Unit) => r = o.1) (fun _ t => Af_ G ct (wX7 a ct o.2 sg) A t) A) (List.toArray [.ref (a 0), .int x1, .int x2, .int x3]) s 0 0 A) (F0 m 0 ls [])
  refine lv_aload_n hx hb dX7_carried_0 rfl (lv_at hl 0 rfl) ?_
  refine lv_iload_n hx hb dX7_carried_1 rfl (lv_at hl 1 rfl) ?_
  replace hf := bs_ hf; obtain ⟨r1, hcl, hf⟩ := hf
  refine x_callW_i (w' := (wX7 a ct g sg)) (As := [.int x1]) (rest := []) (ci := 7) ⟨hx, hb, hml, hown, hts⟩ (c_X7_isPerson l N kd G ct a g sg x1 _ hcl) (cwV 1 hts gX7_carried_X7_isPerson rfl rfl rfl (by decide +kernel) ⟨Nat.le_of_ble_eq_true rfl, Nat.le_of_ble_eq_true rfl⟩) hK hE hA hW rfl rfl 0 rfl rfl rfl rfl hl.1 rfl (lv_room (Nat.le_of_ble_eq_true rfl)) dX7_carried_2 (fun H locs hW => ?_)
  refine lv_if_eq (tgt := 16) hx hb dX7_carried_5 (by decide) (fun hc => ?_) (fun hc => ?_)
  · replace hf := ifp hc hf
    refine lv_ldc (v := (-1000000001 : Int32)) hx hb hown fl221 dX7_carried_16 ?_
    have ho := Option.some.inj hf
    subst ho
    exact x_reti (sz := 0) (w0 := []) (A1 := A) hx hb hr hlocks hK hW rfl rfl dX7_carried_18
  · replace hf := ifn hc hf
    refine lv_aload_n hx hb dX7_carried_8 rfl (lv_at hl 0 rfl) ?_
    refine lv_iload_n hx hb dX7_carried_9 rfl (lv_at hl 2 rfl) ?_
    replace hf := bs_ hf; obtain ⟨r2, hcl, hf⟩ := hf
    refine x_callW_i (w' := (wX7 a ct g sg)) (As := [.int x2]) (rest := []) (ci := 7) ⟨hx, hb, hml, hown, hts⟩ (c_X7_isPlace l N kd G ct a g sg x2 _ hcl) (cwV 1 hts gX7_carried_X7_isPlace rfl rfl rfl (by decide +kernel) ⟨Nat.le_of_ble_eq_true rfl, Nat.le_of_ble_eq_true rfl⟩) hK hE hA hW rfl rfl 0 rfl rfl rfl rfl hl.1 rfl (lv_room (Nat.le_of_ble_eq_true rfl)) dX7_carried_10 (fun H locs hW => ?_)
    refine lv_if_ne (tgt := 19) hx hb dX7_carried_13 (by decide) (fun hc => ?_) (fun hc => ?_)
    · replace hf := ifn hc hf
      refine lv_iload_n hx hb dX7_carried_19 rfl (lv_at hl 3 rfl) ?_
      refine lv_i2l hx hb dX7_carried_20 rfl ?_
      refine lv_lconst (v := (0 : Int64)) hx hb dX7_carried_21 (by decide) ?_
      refine lv_lconst (v := (1 : Int64)) hx hb dX7_carried_22 (by decide) ?_
      replace hf := bs_ hf; obtain ⟨r3, hcl, hf⟩ := hf
      refine x_callS_i (As := [.long x3.toInt64, .long (0 : Int64), .long (1 : Int64)]) (rest := []) ⟨hx, hb, hml, hown, hts⟩ (c_X7_in l N kd G ct x3.toInt64 (0 : Int64) (1 : Int64) _ hcl) (va_cwS 3 hts gX7_carried_X7_in rfl rfl rfl (by decide +kernel) ⟨Nat.le_of_ble_eq_true rfl, Nat.le_of_ble_eq_true rfl⟩) hK hE hA hW rfl hl.1 rfl (lv_room (Nat.le_of_ble_eq_true rfl)) dX7_carried_23 (fun H locs hW => ?_)
      refine lv_if_ne (tgt := 32) hx hb dX7_carried_26 (by decide) (fun hc => ?_) (fun hc => ?_)
      · replace hf := ifn hc hf
        refine lv_iconst (v := (0 : Int32)) hx hb dX7_carried_32 (by decide) ?_
        refine lv_istore (lv' := [(4, .int (0 : Int32)), (0, .ref (a 0)), (1, .int x1), (2, .int x2), (3, .int x3)]) hx hb dX7_carried_33 hl (by decide) rfl (fun ls hl => ?_)
        replace hf := bs_ hf; obtain ⟨v4, hg, hf⟩ := hf
        have J4 : ∀ (H : Heap) (locs : List Loc) (ls : Array Slot), WW G A s.heap (wX7 a ct v4 sg) H locs → lv_has ls 7 [(0, .ref (a 0)), (1, .int x1), (2, .int x2), (3, .int x3)] → W p l e ({ frames := 4, cells := 0, slots := 0, locals := 100 } : Room) s m (List.toArray [.ref (a 0), .int x1, .int x2, .int x3]) below meth c H locs 0 0 (MQ below (va_Qi (fun r (_ : Unit) => r = o.1) (fun _ t => Af_ G ct (wX7 a ct o.2 sg) A t) A) (List.toArray [.ref (a 0), .int x1, .int x2, .int x3]) s 0 0 A) (F0 m 63 ls []) := by
          intro H locs ls hW hl
          refine lv_iconst (v := (-1 : Int32)) hx hb dX7_carried_63 (by decide) ?_
          refine lv_istore (lv' := [(4, .int (-1 : Int32)), (0, .ref (a 0)), (1, .int x1), (2, .int x2), (3, .int x3)]) hx hb dX7_carried_64 hl (by decide) rfl (fun ls hl => ?_)
          refine lv_iconst (v := (0 : Int32)) hx hb dX7_carried_66 (by decide) ?_
          refine lv_istore (lv' := [(5, .int (0 : Int32)), (4, .int (-1 : Int32)), (0, .ref (a 0)), (1, .int x1), (2, .int x2), (3, .int x3)]) hx hb dX7_carried_67 hl (by decide) rfl (fun ls hl => ?_)
          replace hf := bs_ hf; obtain ⟨v6, hg, hf⟩ := hf
          have J6 : ∀ (H : Heap) (locs : List Loc) (ls : Array Slot), WW G A s.heap (wX7 a ct v4 sg) H locs → lv_has ls 7 [(3, .int x3), (4, .int v6)] → W p l e ({ frames := 4, cells := 0, slots := 0, locals := 100 } : Room) s m (List.toArray [.ref (a 0), .int x1, .int x2, .int x3]) below meth c H locs 0 0 (MQ below (va_Qi (fun r (_ : Unit) => r = o.1) (fun _ t => Af_ G ct (wX7 a ct o.2 sg) A t) A) (List.toArray [.ref (a 0), .int x1, .int x2, .int x3]) s 0 0 A) (F0 m 145 ls []) := by
            intro H locs ls hW hl
            refine lv_iload hx hb dX7_carried_145 (lv_at hl 1 rfl) ?_
            refine lv_if_lt (tgt := 155) hx hb dX7_carried_147 (by decide) (fun hc => ?_) (fun hc => ?_)
            · replace hf := ifp hc hf
              refine lv_iload hx hb dX7_carried_155 (lv_at hl 1 rfl) ?_
              refine lv_goto (tgt := 165) hx hb dX7_carried_157 (by decide) ?_
              have ho := Option.some.inj hf
              subst ho
              exact x_reti (sz := 0) (w0 := []) (A1 := A) hx hb hr hlocks hK hW rfl rfl dX7_carried_165
            · replace hf := ifn hc hf
              refine lv_iload_n hx hb dX7_carried_150 rfl (lv_at hl 0 rfl) ?_
              refine lv_iconst (v := (1 : Int32)) hx hb dX7_carried_151 (by decide) ?_
              refine lv_icmp_ne (tgt := 160) hx hb dX7_carried_152 (by decide) (fun hc => ?_) (fun hc => ?_)
              · replace hf := ifn hc hf
                refine lv_iload hx hb dX7_carried_160 (lv_at hl 1 rfl) ?_
                replace hf := bs_ hf; obtain ⟨r13, hcl, hf⟩ := hf
                refine x_callS_i (As := [.int v6]) (rest := []) ⟨hx, hb, hml, hown, hts⟩ (c_X7_bits l N kd G ct v6 _ hcl) (va_cwS 1 hts gX7_carried_X7_bits rfl rfl rfl (by decide +kernel) ⟨Nat.le_of_ble_eq_true rfl, Nat.le_of_ble_eq_true rfl⟩) hK hE hA hW rfl hl.1 rfl (lv_room (Nat.le_of_ble_eq_true rfl)) dX7_carried_162 (fun H locs hW => ?_)
                have ho := Option.some.inj hf
                subst ho
                exact x_reti (sz := 0) (w0 := []) (A1 := A) hx hb hr hlocks hK hW rfl rfl dX7_carried_165
              · replace hf := ifp hc hf
                refine lv_iload hx hb dX7_carried_155 (lv_at hl 1 rfl) ?_
                refine lv_goto (tgt := 165) hx hb dX7_carried_157 (by decide) ?_
                have ho := Option.some.inj hf
                subst ho
                exact x_reti (sz := 0) (w0 := []) (A1 := A) hx hb hr hlocks hK hW rfl rfl dX7_carried_165
          clear hf
          have L6 : ∀ (n : Nat) (y6_4 : Int32) (y6_5 : Int32), f_X7_carried_L69 N v4 x1 x2 n y6_4 y6_5 = some v6 → ∀ (H : Heap) (locs : List Loc) (ls : Array Slot), WW G A s.heap (wX7 a ct v4 sg) H locs → lv_has ls 7 [(0, .ref (a 0)), (1, .int x1), (2, .int x2), (3, .int x3), (4, .int y6_4), (5, .int y6_5)] → W p l e ({ frames := 4, cells := 0, slots := 0, locals := 100 } : Room) s m (List.toArray [.ref (a 0), .int x1, .int x2, .int x3]) below meth c H locs 0 0 (MQ below (va_Qi (fun r (_ : Unit) => r = o.1) (fun _ t => Af_ G ct (wX7 a ct o.2 sg) A t) A) (List.toArray [.ref (a 0), .int x1, .int x2, .int x3]) s 0 0 A) (F0 m 69 ls []) := by
            intro n
            induction n with
            | zero =>
              intro y6_4 y6_5 hf
              rw [f_X7_carried_L69] at hf
              cases hf
            | succ n ih =>
              intro y6_4 y6_5 hf H locs ls hW hl
              rw [f_X7_carried_L69] at hf
              refine lv_iload hx hb dX7_carried_69 (lv_at hl 5 rfl) ?_
              refine lv_iconst (v := (1 : Int32)) hx hb dX7_carried_71 (by decide) ?_
              refine lv_aload_n hx hb dX7_carried_72 rfl (lv_at hl 0 rfl) ?_
              refine x_get (ci := 7) (v := .int (v4 9 0)) (C := RX7) (T := TX7) (N := 44) hx hb hts inX7 hown hK hW 0 rfl rfl 8 (by decide) fl106 (fun _ h9 => h9) rfl dX7_carried_73 ?_
              refine lv_ishl hx hb dX7_carried_76 ?_
              refine lv_icmp_ge (tgt := 145) hx hb dX7_carried_77 (by decide) (fun hc => ?_) (fun hc => ?_)
              · replace hf := ifp hc hf
                have hj := Option.some.inj hf
                subst hj
                exact J6 _ _ _ hW (lv_sub hl [3, 4] rfl)
              · replace hf := ifn hc hf
                refine lv_iload hx hb dX7_carried_80 (lv_at hl 5 rfl) ?_
                refine lv_iload_n hx hb dX7_carried_82 rfl (lv_at hl 1 rfl) ?_
                replace hf := bs_ hf; obtain ⟨r7, hcl, hf⟩ := hf
                refine x_callS_i (As := [.int y6_5, .int x1]) (rest := []) ⟨hx, hb, hml, hown, hts⟩ (c_X7_has l N kd G ct y6_5 x1 _ hcl) (va_cwS 2 hts gX7_carried_X7_has rfl rfl rfl (by decide +kernel) ⟨Nat.le_of_ble_eq_true rfl, Nat.le_of_ble_eq_true rfl⟩) hK hE hA hW rfl hl.1 rfl (lv_room (Nat.le_of_ble_eq_true rfl)) dX7_carried_83 (fun H locs hW => ?_)
                replace hf := bs_ hf; obtain ⟨j8, hg, hf⟩ := hf
                have J8 : ∀ (H : Heap) (locs : List Loc) (ls : Array Slot), WW G A s.heap (wX7 a ct v4 sg) H locs → lv_has ls 7 [(0, .ref (a 0)), (1, .int x1), (2, .int x2), (3, .int x3), (4, .int y6_4), (5, .int y6_5)] → W p l e ({ frames := 4, cells := 0, slots := 0, locals := 100 } : Room) s m (List.toArray [.ref (a 0), .int x1, .int x2, .int x3]) below meth c H locs 0 0 (MQ below (va_Qi (fun r (_ : Unit) => r = o.1) (fun _ t => Af_ G ct (wX7 a ct o.2 sg) A t) A) (List.toArray [.ref (a 0), .int x1, .int x2, .int x3]) s 0 0 A) (F0 m 112 ls (.int j8 :: [])) := by
                  intro H locs ls hW hl
                  refine lv_istore (lv' := [(6, .int j8), (0, .ref (a 0)), (1, .int x1), (2, .int x2), (3, .int x3), (4, .int y6_4), (5, .int y6_5)]) hx hb dX7_carried_112 hl (by decide) rfl (fun ls hl => ?_)
                  refine lv_iload hx hb dX7_carried_114 (lv_at hl 0 rfl) ?_
                  replace hf := bs_ hf; obtain ⟨j11, hg, hf⟩ := hf
                  have J11 : ∀ (H : Heap) (locs : List Loc) (ls : Array Slot), WW G A s.heap (wX7 a ct v4 sg) H locs → lv_has ls 7 [(0, .ref (a 0)), (1, .int x1), (2, .int x2), (3, .int x3), (5, .int y6_5)] → W p l e ({ frames := 4, cells := 0, slots := 0, locals := 100 } : Room) s m (List.toArray [.ref (a 0), .int x1, .int x2, .int x3]) below meth c H locs 0 0 (MQ below (va_Qi (fun r (_ : Unit) => r = o.1) (fun _ t => Af_ G ct (wX7 a ct o.2 sg) A t) A) (List.toArray [.ref (a 0), .int x1, .int x2, .int x3]) s 0 0 A) (F0 m 137 ls (.int j11 :: [])) := by
                    intro H locs ls hW hl
                    refine lv_istore (lv' := [(4, .int j11), (0, .ref (a 0)), (1, .int x1), (2, .int x2), (3, .int x3), (5, .int y6_5)]) hx hb dX7_carried_137 hl (by decide) rfl (fun ls hl => ?_)
                    refine lv_iinc (v := (y6_5 + (1 : Int32))) (lv' := [(5, .int (y6_5 + (1 : Int32))), (4, .int j11), (0, .ref (a 0)), (1, .int x1), (2, .int x2), (3, .int x3)]) hx hb dX7_carried_139 hl (k := 5) rfl rfl (by decide) rfl (fun ls hl => ?_)
                    refine lv_goto (tgt := 69) hx hb dX7_carried_142 (by decide) ?_
                    exact ih j11 (y6_5 + (1 : Int32)) hf _ _ _ hW (lv_sub hl [2, 3, 4, 5, 1, 0] rfl)
                  clear hf
                  refine lv_if_eq (tgt := 135) hx hb dX7_carried_116 (by decide) (fun hc => ?_) (fun hc => ?_)
                  · have hf := ifp hc hg
                    clear hg
                    refine lv_iload hx hb dX7_carried_135 (lv_at hl 5 rfl) ?_
                    have hj := Option.some.inj hf
                    subst hj
                    exact J11 _ _ _ hW (lv_sub hl [1, 2, 3, 4, 6] rfl)
                  · have hf := ifn hc hg
                    clear hg
                    refine lv_aload_n hx hb dX7_carried_119 rfl (lv_at hl 1 rfl) ?_
                    refine lv_iload_n hx hb dX7_carried_120 rfl (lv_at hl 2 rfl) ?_
                    refine lv_iload hx hb dX7_carried_121 (lv_at hl 6 rfl) ?_
                    refine lv_iload_n hx hb dX7_carried_123 rfl (lv_at hl 3 rfl) ?_
                    replace hf := bs_ hf; obtain ⟨r12, hcl, hf⟩ := hf
                    refine x_callW_i (w' := (wX7 a ct v4 sg)) (As := [.int x1, .int y6_5, .int x2]) (rest := []) (ci := 7) ⟨hx, hb, hml, hown, hts⟩ (c_X7_comesBy l N kd G ct a v4 sg x1 y6_5 x2 _ hcl) (cwV 3 hts gX7_carried_X7_comesBy rfl rfl rfl (by decide +kernel) ⟨Nat.le_of_ble_eq_true rfl, Nat.le_of_ble_eq_true rfl⟩) hK hE hA hW rfl rfl 0 rfl rfl rfl rfl hl.1 rfl (lv_room (Nat.le_of_ble_eq_true rfl)) dX7_carried_124 (fun H locs hW => ?_)
                    refine lv_if_eq (tgt := 135) hx hb dX7_carried_127 (by decide) (fun hc => ?_) (fun hc => ?_)
                    · replace hf := ifp hc hf
                      refine lv_iload hx hb dX7_carried_135 (lv_at hl 5 rfl) ?_
                      have hj := Option.some.inj hf
                      subst hj
                      exact J11 _ _ _ hW (lv_sub hl [1, 2, 3, 4, 6] rfl)
                    · replace hf := ifn hc hf
                      refine lv_iload hx hb dX7_carried_130 (lv_at hl 6 rfl) ?_
                      refine lv_goto (tgt := 137) hx hb dX7_carried_132 (by decide) ?_
                      have hj := Option.some.inj hf
                      subst hj
                      exact J11 _ _ _ hW (lv_sub hl [1, 2, 3, 4, 6] rfl)
                clear hf
                refine lv_if_ne (tgt := 111) hx hb dX7_carried_86 (by decide) (fun hc => ?_) (fun hc => ?_)
                · have hf := ifn hc hg
                  clear hg
                  refine lv_iconst (v := (0 : Int32)) hx hb dX7_carried_111 (by decide) ?_
                  have hj := Option.some.inj hf
                  subst hj
                  exact J8 _ _ _ hW (lv_sub hl [0, 1, 2, 3, 4, 5] rfl)
                · have hf := ifp hc hg
                  clear hg
                  refine lv_iload hx hb dX7_carried_89 (lv_at hl 4 rfl) ?_
                  refine lv_if_lt (tgt := 107) hx hb dX7_carried_91 (by decide) (fun hc => ?_) (fun hc => ?_)
                  · replace hf := ifp hc hf
                    refine lv_iconst (v := (1 : Int32)) hx hb dX7_carried_107 (by decide) ?_
                    refine lv_goto (tgt := 112) hx hb dX7_carried_108 (by decide) ?_
                    have hj := Option.some.inj hf
                    subst hj
                    exact J8 _ _ _ hW (lv_sub hl [0, 1, 2, 3, 4, 5] rfl)
                  · replace hf := ifn hc hf
                    refine lv_iload hx hb dX7_carried_94 (lv_at hl 5 rfl) ?_
                    replace hf := bs_ hf; obtain ⟨r9, hcl, hf⟩ := hf
                    refine x_callS_i (As := [.int y6_5]) (rest := []) ⟨hx, hb, hml, hown, hts⟩ (c_X7_bits l N kd G ct y6_5 _ hcl) (va_cwS 1 hts gX7_carried_X7_bits rfl rfl rfl (by decide +kernel) ⟨Nat.le_of_ble_eq_true rfl, Nat.le_of_ble_eq_true rfl⟩) hK hE hA hW rfl hl.1 rfl (lv_room (Nat.le_of_ble_eq_true rfl)) dX7_carried_96 (fun H locs hW => ?_)
                    refine lv_iload hx hb dX7_carried_99 (lv_at hl 4 rfl) ?_
                    replace hf := bs_ hf; obtain ⟨r10, hcl, hf⟩ := hf
                    refine x_callS_i (As := [.int y6_4]) (rest := [.int r9]) ⟨hx, hb, hml, hown, hts⟩ (c_X7_bits l N kd G ct y6_4 _ hcl) (va_cwS 1 hts gX7_carried_X7_bits rfl rfl rfl (by decide +kernel) ⟨Nat.le_of_ble_eq_true rfl, Nat.le_of_ble_eq_true rfl⟩) hK hE hA hW rfl hl.1 rfl (lv_room (Nat.le_of_ble_eq_true rfl)) dX7_carried_101 (fun H locs hW => ?_)
                    refine lv_icmp_ge (tgt := 111) hx hb dX7_carried_104 (by decide) (fun hc => ?_) (fun hc => ?_)
                    · replace hf := ifp hc hf
                      refine lv_iconst (v := (0 : Int32)) hx hb dX7_carried_111 (by decide) ?_
                      have hj := Option.some.inj hf
                      subst hj
                      exact J8 _ _ _ hW (lv_sub hl [0, 1, 2, 3, 4, 5] rfl)
                    · replace hf := ifn hc hf
                      refine lv_iconst (v := (1 : Int32)) hx hb dX7_carried_107 (by decide) ?_
                      refine lv_goto (tgt := 112) hx hb dX7_carried_108 (by decide) ?_
                      have hj := Option.some.inj hf
                      subst hj
                      exact J8 _ _ _ hW (lv_sub hl [0, 1, 2, 3, 4, 5] rfl)
          exact L6 N (-1 : Int32) (0 : Int32) hg _ _ _ hW (lv_sub hl [2, 3, 4, 5, 1, 0] rfl)
        clear hf
        have L4 : ∀ (n : Nat) (y4_4 : Int32) (g4 : St_), f_X7_carried_L35 N n y4_4 g4 = some v4 → ∀ (H : Heap) (locs : List Loc) (ls : Array Slot), WW G A s.heap (wX7 a ct g4 sg) H locs → lv_has ls 7 [(0, .ref (a 0)), (1, .int x1), (2, .int x2), (3, .int x3), (4, .int y4_4)] → W p l e ({ frames := 4, cells := 0, slots := 0, locals := 100 } : Room) s m (List.toArray [.ref (a 0), .int x1, .int x2, .int x3]) below meth c H locs 0 0 (MQ below (va_Qi (fun r (_ : Unit) => r = o.1) (fun _ t => Af_ G ct (wX7 a ct o.2 sg) A t) A) (List.toArray [.ref (a 0), .int x1, .int x2, .int x3]) s 0 0 A) (F0 m 35 ls []) := by
          intro n
          induction n with
          | zero =>
            intro y4_4 g4 hf
            rw [f_X7_carried_L35] at hf
            cases hf
          | succ n ih =>
            intro y4_4 g4 hf H locs ls hW hl
            rw [f_X7_carried_L35] at hf
            refine lv_iload hx hb dX7_carried_35 (lv_at hl 4 rfl) ?_
            refine lv_aload_n hx hb dX7_carried_37 rfl (lv_at hl 0 rfl) ?_
            refine x_get (ci := 7) (v := .int (g4 9 0)) (C := RX7) (T := TX7) (N := 44) hx hb hts inX7 hown hK hW 0 rfl rfl 8 (by decide) fl106 (fun _ h9 => h9) rfl dX7_carried_38 ?_
            refine lv_icmp_ge (tgt := 63) hx hb dX7_carried_41 (by decide) (fun hc => ?_) (fun hc => ?_)
            · replace hf := ifp hc hf
              have hj := Option.some.inj hf
              subst hj
              exact J4 _ _ _ hW (lv_sub hl [0, 1, 2, 3] rfl)
            · replace hf := ifn hc hf
              refine lv_aload_n hx hb dX7_carried_44 rfl (lv_at hl 0 rfl) ?_
              refine x_get (ci := 7) (v := .ref (a 34)) (C := RX7) (T := TX7) (N := 44) hx hb hts inX7 hown hK hW 0 rfl rfl 33 (by decide) fl68 (fun _ h9 => h9) rfl dX7_carried_45 ?_
              refine lv_iload hx hb dX7_carried_48 (lv_at hl 4 rfl) ?_
              refine lv_aload_n hx hb dX7_carried_50 rfl (lv_at hl 0 rfl) ?_
              refine lv_iload hx hb dX7_carried_51 (lv_at hl 4 rfl) ?_
              replace hf := bs_ hf; obtain ⟨r5, hcl, hf⟩ := hf
              refine x_callW_i (w' := (wX7 a ct g4 sg)) (As := [.int y4_4]) (rest := [.int y4_4, .ref (a 34)]) (ci := 7) ⟨hx, hb, hml, hown, hts⟩ (c_X7_reachOfPerson l N kd G ct a g4 sg y4_4 _ hcl) (cwV 1 hts gX7_carried_X7_reachOfPerson rfl rfl rfl (by decide +kernel) ⟨Nat.le_of_ble_eq_true rfl, Nat.le_of_ble_eq_true rfl⟩) hK hE hA hW rfl rfl 0 rfl rfl rfl rfl hl.1 rfl (lv_room (Nat.le_of_ble_eq_true rfl)) dX7_carried_53 (fun H locs hW => ?_)
              replace hf := gd_s hf; obtain ⟨hin, hf⟩ := hf
              refine x_iast (w' := (wX7 a ct (up1 g4 34 y4_4.toNatClampNeg r5) sg)) (n := 8) (f := g4 34) hx hb hK hW 19 rfl (okI_in hin) (ws_X7_34 a ct g4 sg _ _) dX7_carried_56 (fun H locs hW => ?_)
              refine lv_iinc (v := (y4_4 + (1 : Int32))) (lv' := [(4, .int (y4_4 + (1 : Int32))), (0, .ref (a 0)), (1, .int x1), (2, .int x2), (3, .int x3)]) hx hb dX7_carried_57 hl (k := 4) rfl rfl (by decide) rfl (fun ls hl => ?_)
              refine lv_goto (tgt := 35) hx hb dX7_carried_60 (by decide) ?_
              exact ih (y4_4 + (1 : Int32)) (up1 g4 34 y4_4.toNatClampNeg r5) hf _ _ _ hW (lv_sub hl [1, 2, 3, 4, 0] rfl)
        exact L4 N (0 : Int32) g hg _ _ _ hW (lv_sub hl [1, 2, 3, 4, 0] rfl)
      · replace hf := ifp hc hf
        refine lv_ldc (v := (-1000000002 : Int32)) hx hb hown fl111 dX7_carried_29 ?_
        have ho := Option.some.inj hf
        subst ho
        exact x_reti (sz := 0) (w0 := []) (A1 := A) hx hb hr hlocks hK hW rfl rfl dX7_carried_31
    · replace hf := ifp hc hf
      refine lv_ldc (v := (-1000000001 : Int32)) hx hb hown fl221 dX7_carried_16 ?_
      have ho := Option.some.inj hf
      subst ho
      exact x_reti (sz := 0) (w0 := []) (A1 := A) hx hb hr hlocks hK hW rfl rfl dX7_carried_18
set_option maxHeartbeats 4000000 in
set_option maxRecDepth 100000 in
theorem c_X7_step (l : Launch) (N : Nat) (kd : (Nat → Nat) × (Nat → Nat)) (G : va_G) (ct : Nat → ClassId) (a : Nat → Nat) (g : St_) (sg : Int64) (x1 : Int32) (x2 : Int32) (x3 : Int32) (x4 : Int32) (o : (Int32 × St_)) (hf : f_X7_step N g x1 x2 x3 x4 = some o) : CtI l yX7_step wsX7_step ({ frames := 3, cells := 0, slots := 0, locals := 70 }) kd G ct [.ref (a 0), .int x1, .int x2, .int x3, .int x4] (wX7 a ct g sg) o.1 (wX7 a ct o.2 sg) := by
  intro sz
  refine Met.ofW (cc := cX7_step) (maxL := 7) (ret := (some .int)) (by decide) rfl ?_
  intro p e s m args below meth c s₁ B hml hv
  obtain ⟨rfl, hsz, hP, hK, hD0, hE⟩ := hv
  have hx := B.exec
  have hb := B.bytes
  have hr := B.returns
  have hts := atoms_spec (ws := wsX7_step) B.pre
  have hown : s.vm.findClass RX7 = some m.cls := findClass_of_methodNamed B.named
  have hlocks := B.notSynchronized
  have inX7 : ∀ w ∈ wsX70, w ∈ wsX7_step := by decide +kernel
  have fl19 := hts (.fieldLink RX7 19 "FittingStridesModel" "parts" "[I") (by decide +kernel)
  have fl22 := hts (.fieldLink RX7 22 "FittingStridesModel" "steps" "[I") (by decide +kernel)
  have fl111 := hts (.constant RX7 111 (-1000000002)) (by decide +kernel)
  have fl221 := hts (.constant RX7 221 (-1000000001)) (by decide +kernel)
  have fl248 := hts (.constantLong RX7 248 (720)) (by decide +kernel)
  subst hsz
  have hD := hD0.self (sz := s.heap.size)
  generalize hAe : va_A (wX7 a ct g sg) s.heap.size = A at hD hE ⊢
  have hA : ∀ q : Nat, s.heap.size ≤ q → A q := fun q h => by rw [← hAe]; exact Or.inr h
  have hW : WW G A s.heap (wX7 a ct g sg) s.heap [] := ⟨hP, hD, va_S.rf⟩
  have hl := lv_entry ([.ref (a 0), .int x1, .int x2, .int x3, .int x4]) (n := 7) (Nat.le_of_ble_eq_true rfl)
  rw [lg_entry_eq]
  generalize (lg_sl ([.ref (a 0), .int x1, .int x2, .int x3, .int x4]) ++ List.replicate (7 - (lg_sl ([.ref (a 0), .int x1, .int x2, .int x3, .int x4])).length) Slot.unset).toArray = ls at hl ⊢
  have hl : lv_has ls 7 [(0, .ref (a 0)), (1, .int x1), (2, .int x2), (3, .int x3), (4, .int x4)] := hl
  unfold f_X7_step at hf
  show W p l e ({ frames := 3, cells := 0, slots := 0, locals := 70 } : Room) s m (List.toArray [.ref (a 0), .int x1, .int x2, .int x3, .int x4]) below meth c s.heap [] 0 0 (MQ below (va_Qi (fun r (_ : Unit) => r = o.1) (fun _ t => Af_ G ct (wX7 a ct o.2 sg) A t) A) (List.toArray [.ref (a 0), .int x1, .int x2, .int x3, .int x4]) s 0 0 A) (F0 m 0 ls [])
  refine lv_aload_n hx hb dX7_step_0 rfl (lv_at hl 0 rfl) ?_
  refine lv_iload_n hx hb dX7_step_1 rfl (lv_at hl 1 rfl) ?_
  replace hf := bs_ hf; obtain ⟨r1, hcl, hf⟩ := hf
  refine x_callW_i (w' := (wX7 a ct g sg)) (As := [.int x1]) (rest := []) (ci := 7) ⟨hx, hb, hml, hown, hts⟩ (c_X7_isStair l N kd G ct a g sg x1 _ hcl) (cwV 1 hts gX7_step_X7_isStair rfl rfl rfl (by decide +kernel) ⟨Nat.le_of_ble_eq_true rfl, Nat.le_of_ble_eq_true rfl⟩) hK hE hA hW rfl rfl 0 rfl rfl rfl rfl hl.1 rfl (lv_room (Nat.le_of_ble_eq_true rfl)) dX7_step_2 (fun H locs hW => ?_)
  refine lv_if_eq (tgt := 26) hx hb dX7_step_5 (by decide) (fun hc => ?_) (fun hc => ?_)
  · replace hf := ifp hc hf
    refine lv_ldc (v := (-1000000001 : Int32)) hx hb hown fl221 dX7_step_26 ?_
    have ho := Option.some.inj hf
    subst ho
    exact x_reti (sz := 0) (w0 := []) (A1 := A) hx hb hr hlocks hK hW rfl rfl dX7_step_28
  · replace hf := ifn hc hf
    refine lv_iload_n hx hb dX7_step_8 rfl (lv_at hl 2 rfl) ?_
    refine lv_i2l hx hb dX7_step_9 rfl ?_
    refine lv_lconst (v := (0 : Int64)) hx hb dX7_step_10 (by decide) ?_
    refine lv_aload_n hx hb dX7_step_11 rfl (lv_at hl 0 rfl) ?_
    refine x_get (ci := 7) (v := .ref (a 6)) (C := RX7) (T := TX7) (N := 44) hx hb hts inX7 hown hK hW 0 rfl rfl 5 (by decide) fl19 (fun _ h9 => h9) rfl dX7_step_12 ?_
    refine lv_iload_n hx hb dX7_step_15 rfl (lv_at hl 1 rfl) ?_
    replace hf := gd_s hf; obtain ⟨hin, hf⟩ := hf
    refine x_iald (n := 10) (f := g 6) hx hb hK hW 4 rfl (okI_in hin) dX7_step_16 ?_
    refine lv_iconst (v := (1 : Int32)) hx hb dX7_step_17 (by decide) ?_
    refine lv_isub hx hb dX7_step_18 ?_
    refine lv_i2l hx hb dX7_step_19 rfl ?_
    replace hf := bs_ hf; obtain ⟨r2, hcl, hf⟩ := hf
    refine x_callS_i (As := [.long x2.toInt64, .long (0 : Int64), .long ((g 6 x1.toNatClampNeg) - (1 : Int32)).toInt64]) (rest := []) ⟨hx, hb, hml, hown, hts⟩ (c_X7_in l N kd G ct x2.toInt64 (0 : Int64) (((g 6 x1.toNatClampNeg) - (1 : Int32)).toInt64) _ hcl) (va_cwS 3 hts gX7_step_X7_in rfl rfl rfl (by decide +kernel) ⟨Nat.le_of_ble_eq_true rfl, Nat.le_of_ble_eq_true rfl⟩) hK hE hA hW rfl hl.1 rfl (lv_room (Nat.le_of_ble_eq_true rfl)) dX7_step_20 (fun H locs hW => ?_)
    refine lv_if_ne (tgt := 29) hx hb dX7_step_23 (by decide) (fun hc => ?_) (fun hc => ?_)
    · replace hf := ifn hc hf
      refine lv_iload_n hx hb dX7_step_29 rfl (lv_at hl 3 rfl) ?_
      refine lv_iconst (v := (1 : Int32)) hx hb dX7_step_30 (by decide) ?_
      replace hf := bs_ hf; obtain ⟨jr, hg, hf⟩ := hf
      have hR3 : ∀ r, jr = Sum.inl r → r = o := fun r hr0 => by subst hr0; have h8 := se_l hf; exact Option.some.inj h8
      have J3 : ∀ (j3 : Unit), jr = Sum.inr j3 → ∀ (H : Heap) (locs : List Loc) (ls : Array Slot), WW G A s.heap (wX7 a ct g sg) H locs → lv_has ls 7 [(0, .ref (a 0)), (1, .int x1), (2, .int x2), (3, .int x3), (4, .int x4)] → W p l e ({ frames := 3, cells := 0, slots := 0, locals := 70 } : Room) s m (List.toArray [.ref (a 0), .int x1, .int x2, .int x3, .int x4]) below meth c H locs 0 0 (MQ below (va_Qi (fun r (_ : Unit) => r = o.1) (fun _ t => Af_ G ct (wX7 a ct o.2 sg) A t) A) (List.toArray [.ref (a 0), .int x1, .int x2, .int x3, .int x4]) s 0 0 A) (F0 m 76 ls ([])) := by
        intro j3 hjr H locs ls hW hl
        subst hjr
        replace hf := se_r hf
        refine lv_aload_n hx hb dX7_step_76 rfl (lv_at hl 0 rfl) ?_
        refine lv_iload_n hx hb dX7_step_77 rfl (lv_at hl 1 rfl) ?_
        replace hf := bs_ hf; obtain ⟨r8, hcl, hf⟩ := hf
        refine x_callW_i (w' := (wX7 a ct g sg)) (As := [.int x1]) (rest := []) (ci := 7) ⟨hx, hb, hml, hown, hts⟩ (c_X7_climbers l N kd G ct a g sg x1 _ hcl) (cwV 1 hts gX7_step_X7_climbers rfl rfl rfl (by decide +kernel) ⟨Nat.le_of_ble_eq_true rfl, Nat.le_of_ble_eq_true rfl⟩) hK hE hA hW rfl rfl 0 rfl rfl rfl rfl hl.1 rfl (lv_room (Nat.le_of_ble_eq_true rfl)) dX7_step_78 (fun H locs hW => ?_)
        refine lv_istore (lv' := [(5, .int r8), (0, .ref (a 0)), (1, .int x1), (2, .int x2), (3, .int x3), (4, .int x4)]) hx hb dX7_step_81 hl (by decide) rfl (fun ls hl => ?_)
        refine lv_aload_n hx hb dX7_step_83 rfl (lv_at hl 1 rfl) ?_
        refine x_get (ci := 7) (v := .ref (a 7)) (C := RX7) (T := TX7) (N := 44) hx hb hts inX7 hown hK hW 0 rfl rfl 6 (by decide) fl22 (fun _ h9 => h9) rfl dX7_step_84 ?_
        refine lv_iconst (v := (3 : Int32)) hx hb dX7_step_87 (by decide) ?_
        refine lv_iload_n hx hb dX7_step_88 rfl (lv_at hl 2 rfl) ?_
        refine lv_imul hx hb dX7_step_89 ?_
        refine lv_iload_n hx hb dX7_step_90 rfl (lv_at hl 3 rfl) ?_
        refine lv_iadd hx hb dX7_step_91 ?_
        refine lv_dup2_11 hx hb dX7_step_92 rfl rfl ?_
        replace hf := gd_s hf; obtain ⟨hin, hf⟩ := hf
        refine x_iald (n := 30) (f := g 7) hx hb hK hW 5 rfl (okI_in hin) dX7_step_93 ?_
        refine lv_iload_n hx hb dX7_step_94 rfl (lv_at hl 4 rfl) ?_
        refine lv_iadd hx hb dX7_step_95 ?_
        replace hf := gd_s hf; obtain ⟨hin, hf⟩ := hf
        refine x_iast (w' := (wX7 a ct (up1 g 7 (((3 : Int32) * x1) + x2).toNatClampNeg ((g 7 (((3 : Int32) * x1) + x2).toNatClampNeg) + x3)) sg)) (n := 30) (f := g 7) hx hb hK hW 5 rfl (okI_in hin) (ws_X7_7 a ct g sg _ _) dX7_step_96 (fun H locs hW => ?_)
        refine lv_aload_n hx hb dX7_step_97 rfl (lv_at hl 1 rfl) ?_
        refine lv_iload_n hx hb dX7_step_98 rfl (lv_at hl 2 rfl) ?_
        replace hf := bs_ hf; obtain ⟨r9, hcl, hf⟩ := hf
        refine x_callW_i (w' := (wX7 a ct (up1 g 7 (((3 : Int32) * x1) + x2).toNatClampNeg ((g 7 (((3 : Int32) * x1) + x2).toNatClampNeg) + x3)) sg)) (As := [.int x1]) (rest := []) (ci := 7) ⟨hx, hb, hml, hown, hts⟩ (c_X7_climbers l N kd G ct a (up1 g 7 (((3 : Int32) * x1) + x2).toNatClampNeg ((g 7 (((3 : Int32) * x1) + x2).toNatClampNeg) + x3)) sg x1 _ hcl) (cwV 1 hts gX7_step_X7_climbers rfl rfl rfl (by decide +kernel) ⟨Nat.le_of_ble_eq_true rfl, Nat.le_of_ble_eq_true rfl⟩) hK hE hA hW rfl rfl 0 rfl rfl rfl rfl hl.1 rfl (lv_room (Nat.le_of_ble_eq_true rfl)) dX7_step_99 (fun H locs hW => ?_)
        refine lv_istore (lv' := [(6, .int r9), (5, .int r8), (0, .ref (a 0)), (1, .int x1), (2, .int x2), (3, .int x3), (4, .int x4)]) hx hb dX7_step_102 hl (by decide) rfl (fun ls hl => ?_)
        refine lv_aload_n hx hb dX7_step_104 rfl (lv_at hl 2 rfl) ?_
        refine x_get (ci := 7) (v := .ref (a 7)) (C := RX7) (T := TX7) (N := 44) hx hb hts inX7 hown hK hW 0 rfl rfl 6 (by decide) fl22 (fun _ h9 => h9) rfl dX7_step_105 ?_
        refine lv_iconst (v := (3 : Int32)) hx hb dX7_step_108 (by decide) ?_
        refine lv_iload_n hx hb dX7_step_109 rfl (lv_at hl 3 rfl) ?_
        refine lv_imul hx hb dX7_step_110 ?_
        refine lv_iload_n hx hb dX7_step_111 rfl (lv_at hl 4 rfl) ?_
        refine lv_iadd hx hb dX7_step_112 ?_
        refine lv_dup2_11 hx hb dX7_step_113 rfl rfl ?_
        replace hf := gd_s hf; obtain ⟨hin, hf⟩ := hf
        refine x_iald (n := 30) (f := (up1 g 7 (((3 : Int32) * x1) + x2).toNatClampNeg ((g 7 (((3 : Int32) * x1) + x2).toNatClampNeg) + x3)) 7) hx hb hK hW 5 rfl (okI_in hin) dX7_step_114 ?_
        refine lv_iload_n hx hb dX7_step_115 rfl (lv_at hl 5 rfl) ?_
        refine lv_isub hx hb dX7_step_116 ?_
        replace hf := gd_s hf; obtain ⟨hin, hf⟩ := hf
        refine x_iast (w' := (wX7 a ct (up1 (up1 g 7 (((3 : Int32) * x1) + x2).toNatClampNeg ((g 7 (((3 : Int32) * x1) + x2).toNatClampNeg) + x3)) 7 (((3 : Int32) * x1) + x2).toNatClampNeg (((up1 g 7 (((3 : Int32) * x1) + x2).toNatClampNeg ((g 7 (((3 : Int32) * x1) + x2).toNatClampNeg) + x3)) 7 (((3 : Int32) * x1) + x2).toNatClampNeg) - x3)) sg)) (n := 30) (f := (up1 g 7 (((3 : Int32) * x1) + x2).toNatClampNeg ((g 7 (((3 : Int32) * x1) + x2).toNatClampNeg) + x3)) 7) hx hb hK hW 5 rfl (okI_in hin) (ws_X7_7 a ct (up1 g 7 (((3 : Int32) * x1) + x2).toNatClampNeg ((g 7 (((3 : Int32) * x1) + x2).toNatClampNeg) + x3)) sg _ _) dX7_step_117 (fun H locs hW => ?_)
        refine lv_iload hx hb dX7_step_118 (lv_at hl 6 rfl) ?_
        refine lv_if_ne (tgt := 136) hx hb dX7_step_120 (by decide) (fun hc => ?_) (fun hc => ?_)
        · replace hf := ifn hc hf
          refine lv_iload hx hb dX7_step_136 (lv_at hl 1 rfl) ?_
          refine lv_iload hx hb dX7_step_138 (lv_at hl 0 rfl) ?_
          refine lv_iconst (v := (-1 : Int32)) hx hb dX7_step_140 (by decide) ?_
          refine lv_ixor hx hb dX7_step_141 ?_
          refine lv_iand hx hb dX7_step_142 ?_
          replace hf := bs_ hf; obtain ⟨r10, hcl, hf⟩ := hf
          refine x_callS_i (As := [.int (r8 &&& (r9 ^^^ (-1 : Int32)))]) (rest := []) ⟨hx, hb, hml, hown, hts⟩ (c_X7_bits l N kd G ct (r8 &&& (r9 ^^^ (-1 : Int32))) _ hcl) (va_cwS 1 hts gX7_step_X7_bits rfl rfl rfl (by decide +kernel) ⟨Nat.le_of_ble_eq_true rfl, Nat.le_of_ble_eq_true rfl⟩) hK hE hA hW rfl hl.1 rfl (lv_room (Nat.le_of_ble_eq_true rfl)) dX7_step_143 (fun H locs hW => ?_)
          have ho := Option.some.inj hf
          subst ho
          exact x_reti (sz := 0) (w0 := []) (A1 := A) hx hb hr hlocks hK hW rfl rfl dX7_step_146
        · replace hf := ifp hc hf
          refine lv_iload hx hb dX7_step_123 (lv_at hl 0 rfl) ?_
          refine lv_iload hx hb dX7_step_125 (lv_at hl 1 rfl) ?_
          refine lv_iconst (v := (-1 : Int32)) hx hb dX7_step_127 (by decide) ?_
          refine lv_ixor hx hb dX7_step_128 ?_
          refine lv_iand hx hb dX7_step_129 ?_
          replace hf := bs_ hf; obtain ⟨r11, hcl, hf⟩ := hf
          refine x_callS_i (As := [.int (r9 &&& (r8 ^^^ (-1 : Int32)))]) (rest := []) ⟨hx, hb, hml, hown, hts⟩ (c_X7_bits l N kd G ct (r9 &&& (r8 ^^^ (-1 : Int32))) _ hcl) (va_cwS 1 hts gX7_step_X7_bits rfl rfl rfl (by decide +kernel) ⟨Nat.le_of_ble_eq_true rfl, Nat.le_of_ble_eq_true rfl⟩) hK hE hA hW rfl hl.1 rfl (lv_room (Nat.le_of_ble_eq_true rfl)) dX7_step_130 (fun H locs hW => ?_)
          refine lv_goto (tgt := 146) hx hb dX7_step_133 (by decide) ?_
          have ho := Option.some.inj hf
          subst ho
          exact x_reti (sz := 0) (w0 := []) (A1 := A) hx hb hr hlocks hK hW rfl rfl dX7_step_146
      clear hf
      refine lv_icmp_eq (tgt := 39) hx hb dX7_step_31 (by decide) (fun hc => ?_) (fun hc => ?_)
      · have hf := ifp hc hg
        clear hg
        refine lv_iload hx hb dX7_step_39 (lv_at hl 4 rfl) ?_
        refine lv_i2l hx hb dX7_step_41 rfl ?_
        refine lv_lconst (v := (0 : Int64)) hx hb dX7_step_42 (by decide) ?_
        refine lv_lconst (v := (1 : Int64)) hx hb dX7_step_43 (by decide) ?_
        replace hf := bs_ hf; obtain ⟨r4, hcl, hf⟩ := hf
        refine x_callS_i (As := [.long x4.toInt64, .long (0 : Int64), .long (1 : Int64)]) (rest := []) ⟨hx, hb, hml, hown, hts⟩ (c_X7_in l N kd G ct x4.toInt64 (0 : Int64) (1 : Int64) _ hcl) (va_cwS 3 hts gX7_step_X7_in rfl rfl rfl (by decide +kernel) ⟨Nat.le_of_ble_eq_true rfl, Nat.le_of_ble_eq_true rfl⟩) hK hE hA hW rfl hl.1 rfl (lv_room (Nat.le_of_ble_eq_true rfl)) dX7_step_44 (fun H locs hW => ?_)
        refine lv_if_eq (tgt := 73) hx hb dX7_step_47 (by decide) (fun hc => ?_) (fun hc => ?_)
        · replace hf := ifp hc hf
          refine lv_ldc (v := (-1000000002 : Int32)) hx hb hown fl111 dX7_step_73 ?_
          have ho := hR3 _ (Option.some.inj hf).symm
          subst ho
          exact x_reti (sz := 0) (w0 := []) (A1 := A) hx hb hr hlocks hK hW rfl rfl dX7_step_75
        · replace hf := ifn hc hf
          refine lv_aload_n hx hb dX7_step_50 rfl (lv_at hl 0 rfl) ?_
          refine x_get (ci := 7) (v := .ref (a 7)) (C := RX7) (T := TX7) (N := 44) hx hb hts inX7 hown hK hW 0 rfl rfl 6 (by decide) fl22 (fun _ h9 => h9) rfl dX7_step_51 ?_
          refine lv_iconst (v := (3 : Int32)) hx hb dX7_step_54 (by decide) ?_
          refine lv_iload_n hx hb dX7_step_55 rfl (lv_at hl 1 rfl) ?_
          refine lv_imul hx hb dX7_step_56 ?_
          refine lv_iload_n hx hb dX7_step_57 rfl (lv_at hl 2 rfl) ?_
          refine lv_iadd hx hb dX7_step_58 ?_
          replace hf := gd_s hf; obtain ⟨hin, hf⟩ := hf
          refine x_iald (n := 30) (f := g 7) hx hb hK hW 5 rfl (okI_in hin) dX7_step_59 ?_
          refine lv_iload_n hx hb dX7_step_60 rfl (lv_at hl 3 rfl) ?_
          refine lv_iadd hx hb dX7_step_61 ?_
          refine lv_i2l hx hb dX7_step_62 rfl ?_
          refine lv_lconst (v := (1 : Int64)) hx hb dX7_step_63 (by decide) ?_
          refine lv_ldc2 (v := (720 : Int64)) hx hb hown fl248 dX7_step_64 ?_
          replace hf := bs_ hf; obtain ⟨r5, hcl, hf⟩ := hf
          refine x_callS_i (As := [.long ((g 7 (((3 : Int32) * x1) + x2).toNatClampNeg) + x3).toInt64, .long (1 : Int64), .long (720 : Int64)]) (rest := []) ⟨hx, hb, hml, hown, hts⟩ (c_X7_in l N kd G ct (((g 7 (((3 : Int32) * x1) + x2).toNatClampNeg) + x3).toInt64) (1 : Int64) (720 : Int64) _ hcl) (va_cwS 3 hts gX7_step_X7_in rfl rfl rfl (by decide +kernel) ⟨Nat.le_of_ble_eq_true rfl, Nat.le_of_ble_eq_true rfl⟩) hK hE hA hW rfl hl.1 rfl (lv_room (Nat.le_of_ble_eq_true rfl)) dX7_step_67 (fun H locs hW => ?_)
          refine lv_if_ne (tgt := 76) hx hb dX7_step_70 (by decide) (fun hc => ?_) (fun hc => ?_)
          · replace hf := ifn hc hf
            have hj := (Option.some.inj hf).symm
            exact J3 _ hj _ _ _ hW (lv_sub hl [0, 1, 2, 3, 4] rfl)
          · replace hf := ifp hc hf
            refine lv_ldc (v := (-1000000002 : Int32)) hx hb hown fl111 dX7_step_73 ?_
            have ho := hR3 _ (Option.some.inj hf).symm
            subst ho
            exact x_reti (sz := 0) (w0 := []) (A1 := A) hx hb hr hlocks hK hW rfl rfl dX7_step_75
      · have hf := ifn hc hg
        clear hg
        refine lv_iload_n hx hb dX7_step_34 rfl (lv_at hl 3 rfl) ?_
        refine lv_iconst (v := (-1 : Int32)) hx hb dX7_step_35 (by decide) ?_
        refine lv_icmp_ne (tgt := 73) hx hb dX7_step_36 (by decide) (fun hc => ?_) (fun hc => ?_)
        · replace hf := ifn hc hf
          refine lv_ldc (v := (-1000000002 : Int32)) hx hb hown fl111 dX7_step_73 ?_
          have ho := hR3 _ (Option.some.inj hf).symm
          subst ho
          exact x_reti (sz := 0) (w0 := []) (A1 := A) hx hb hr hlocks hK hW rfl rfl dX7_step_75
        · replace hf := ifp hc hf
          refine lv_iload hx hb dX7_step_39 (lv_at hl 4 rfl) ?_
          refine lv_i2l hx hb dX7_step_41 rfl ?_
          refine lv_lconst (v := (0 : Int64)) hx hb dX7_step_42 (by decide) ?_
          refine lv_lconst (v := (1 : Int64)) hx hb dX7_step_43 (by decide) ?_
          replace hf := bs_ hf; obtain ⟨r6, hcl, hf⟩ := hf
          refine x_callS_i (As := [.long x4.toInt64, .long (0 : Int64), .long (1 : Int64)]) (rest := []) ⟨hx, hb, hml, hown, hts⟩ (c_X7_in l N kd G ct x4.toInt64 (0 : Int64) (1 : Int64) _ hcl) (va_cwS 3 hts gX7_step_X7_in rfl rfl rfl (by decide +kernel) ⟨Nat.le_of_ble_eq_true rfl, Nat.le_of_ble_eq_true rfl⟩) hK hE hA hW rfl hl.1 rfl (lv_room (Nat.le_of_ble_eq_true rfl)) dX7_step_44 (fun H locs hW => ?_)
          refine lv_if_eq (tgt := 73) hx hb dX7_step_47 (by decide) (fun hc => ?_) (fun hc => ?_)
          · replace hf := ifp hc hf
            refine lv_ldc (v := (-1000000002 : Int32)) hx hb hown fl111 dX7_step_73 ?_
            have ho := hR3 _ (Option.some.inj hf).symm
            subst ho
            exact x_reti (sz := 0) (w0 := []) (A1 := A) hx hb hr hlocks hK hW rfl rfl dX7_step_75
          · replace hf := ifn hc hf
            refine lv_aload_n hx hb dX7_step_50 rfl (lv_at hl 0 rfl) ?_
            refine x_get (ci := 7) (v := .ref (a 7)) (C := RX7) (T := TX7) (N := 44) hx hb hts inX7 hown hK hW 0 rfl rfl 6 (by decide) fl22 (fun _ h9 => h9) rfl dX7_step_51 ?_
            refine lv_iconst (v := (3 : Int32)) hx hb dX7_step_54 (by decide) ?_
            refine lv_iload_n hx hb dX7_step_55 rfl (lv_at hl 1 rfl) ?_
            refine lv_imul hx hb dX7_step_56 ?_
            refine lv_iload_n hx hb dX7_step_57 rfl (lv_at hl 2 rfl) ?_
            refine lv_iadd hx hb dX7_step_58 ?_
            replace hf := gd_s hf; obtain ⟨hin, hf⟩ := hf
            refine x_iald (n := 30) (f := g 7) hx hb hK hW 5 rfl (okI_in hin) dX7_step_59 ?_
            refine lv_iload_n hx hb dX7_step_60 rfl (lv_at hl 3 rfl) ?_
            refine lv_iadd hx hb dX7_step_61 ?_
            refine lv_i2l hx hb dX7_step_62 rfl ?_
            refine lv_lconst (v := (1 : Int64)) hx hb dX7_step_63 (by decide) ?_
            refine lv_ldc2 (v := (720 : Int64)) hx hb hown fl248 dX7_step_64 ?_
            replace hf := bs_ hf; obtain ⟨r7, hcl, hf⟩ := hf
            refine x_callS_i (As := [.long ((g 7 (((3 : Int32) * x1) + x2).toNatClampNeg) + x3).toInt64, .long (1 : Int64), .long (720 : Int64)]) (rest := []) ⟨hx, hb, hml, hown, hts⟩ (c_X7_in l N kd G ct (((g 7 (((3 : Int32) * x1) + x2).toNatClampNeg) + x3).toInt64) (1 : Int64) (720 : Int64) _ hcl) (va_cwS 3 hts gX7_step_X7_in rfl rfl rfl (by decide +kernel) ⟨Nat.le_of_ble_eq_true rfl, Nat.le_of_ble_eq_true rfl⟩) hK hE hA hW rfl hl.1 rfl (lv_room (Nat.le_of_ble_eq_true rfl)) dX7_step_67 (fun H locs hW => ?_)
            refine lv_if_ne (tgt := 76) hx hb dX7_step_70 (by decide) (fun hc => ?_) (fun hc => ?_)
            · replace hf := ifn hc hf
              have hj := (Option.some.inj hf).symm
              exact J3 _ hj _ _ _ hW (lv_sub hl [0, 1, 2, 3, 4] rfl)
            · replace hf := ifp hc hf
              refine lv_ldc (v := (-1000000002 : Int32)) hx hb hown fl111 dX7_step_73 ?_
              have ho := hR3 _ (Option.some.inj hf).symm
              subst ho
              exact x_reti (sz := 0) (w0 := []) (A1 := A) hx hb hr hlocks hK hW rfl rfl dX7_step_75
    · replace hf := ifp hc hf
      refine lv_ldc (v := (-1000000001 : Int32)) hx hb hown fl221 dX7_step_26 ?_
      have ho := Option.some.inj hf
      subst ho
      exact x_reti (sz := 0) (w0 := []) (A1 := A) hx hb hr hlocks hK hW rfl rfl dX7_step_28
set_option maxHeartbeats 4000000 in
set_option maxRecDepth 100000 in
theorem c_X7_worst (l : Launch) (N : Nat) (kd : (Nat → Nat) × (Nat → Nat)) (G : va_G) (ct : Nat → ClassId) (a : Nat → Nat) (g : St_) (sg : Int64) (x1 : Int32) (o : (Int32 × St_)) (hf : f_X7_worst N g x1 = some o) : CtI l yX7_worst wsX7_worst ({ frames := 4, cells := 0, slots := 0, locals := 96 }) kd G ct [.ref (a 0), .int x1] (wX7 a ct g sg) o.1 (wX7 a ct o.2 sg) := by
  intro sz
  refine Met.ofW (cc := cX7_worst) (maxL := 7) (ret := (some .int)) (by decide) rfl ?_
  intro p e s m args below meth c s₁ B hml hv
  obtain ⟨rfl, hsz, hP, hK, hD0, hE⟩ := hv
  have hx := B.exec
  have hb := B.bytes
  have hr := B.returns
  have hts := atoms_spec (ws := wsX7_worst) B.pre
  have hown : s.vm.findClass RX7 = some m.cls := findClass_of_methodNamed B.named
  have hlocks := B.notSynchronized
  have inX7 : ∀ w ∈ wsX70, w ∈ wsX7_worst := by decide +kernel
  have fl19 := hts (.fieldLink RX7 19 "FittingStridesModel" "parts" "[I") (by decide +kernel)
  have fl22 := hts (.fieldLink RX7 22 "FittingStridesModel" "steps" "[I") (by decide +kernel)
  have fl103 := hts (.fieldLink RX7 103 "FittingStridesModel" "stairs" "I") (by decide +kernel)
  have fl111 := hts (.constant RX7 111 (-1000000002)) (by decide +kernel)
  have fl286 := hts (.constantLong RX7 286 (2)) (by decide +kernel)
  subst hsz
  have hD := hD0.self (sz := s.heap.size)
  generalize hAe : va_A (wX7 a ct g sg) s.heap.size = A at hD hE ⊢
  have hA : ∀ q : Nat, s.heap.size ≤ q → A q := fun q h => by rw [← hAe]; exact Or.inr h
  have hW : WW G A s.heap (wX7 a ct g sg) s.heap [] := ⟨hP, hD, va_S.rf⟩
  have hl := lv_entry ([.ref (a 0), .int x1]) (n := 7) (Nat.le_of_ble_eq_true rfl)
  rw [lg_entry_eq]
  generalize (lg_sl ([.ref (a 0), .int x1]) ++ List.replicate (7 - (lg_sl ([.ref (a 0), .int x1])).length) Slot.unset).toArray = ls at hl ⊢
  have hl : lv_has ls 7 [(0, .ref (a 0)), (1, .int x1)] := hl
  unfold f_X7_worst at hf
  show W p l e ({ frames := 4, cells := 0, slots := 0, locals := 96 } : Room) s m (List.toArray [.ref (a 0), .int x1]) below meth c s.heap [] 0 0 (MQ below (va_Qi (fun r (_ : Unit) => r = o.1) (fun _ t => Af_ G ct (wX7 a ct o.2 sg) A t) A) (List.toArray [.ref (a 0), .int x1]) s 0 0 A) (F0 m 0 ls [])
  refine lv_iload_n hx hb dX7_worst_0 rfl (lv_at hl 1 rfl) ?_
  refine lv_i2l hx hb dX7_worst_1 rfl ?_
  refine lv_lconst (v := (0 : Int64)) hx hb dX7_worst_2 (by decide) ?_
  refine lv_ldc2 (v := (2 : Int64)) hx hb hown fl286 dX7_worst_3 ?_
  replace hf := bs_ hf; obtain ⟨r1, hcl, hf⟩ := hf
  refine x_callS_i (As := [.long x1.toInt64, .long (0 : Int64), .long (2 : Int64)]) (rest := []) ⟨hx, hb, hml, hown, hts⟩ (c_X7_in l N kd G ct x1.toInt64 (0 : Int64) (2 : Int64) _ hcl) (va_cwS 3 hts gX7_worst_X7_in rfl rfl rfl (by decide +kernel) ⟨Nat.le_of_ble_eq_true rfl, Nat.le_of_ble_eq_true rfl⟩) hK hE hA hW rfl hl.1 rfl (lv_room (Nat.le_of_ble_eq_true rfl)) dX7_worst_6 (fun H locs hW => ?_)
  refine lv_if_ne (tgt := 15) hx hb dX7_worst_9 (by decide) (fun hc => ?_) (fun hc => ?_)
  · replace hf := ifn hc hf
    refine lv_iconst (v := (-1 : Int32)) hx hb dX7_worst_15 (by decide) ?_
    refine lv_istore_n (lv' := [(2, .int (-1 : Int32)), (0, .ref (a 0)), (1, .int x1)]) hx hb dX7_worst_16 rfl hl (by decide) rfl (fun ls hl => ?_)
    refine lv_iconst (v := (0 : Int32)) hx hb dX7_worst_17 (by decide) ?_
    refine lv_istore_n (lv' := [(3, .int (0 : Int32)), (2, .int (-1 : Int32)), (0, .ref (a 0)), (1, .int x1)]) hx hb dX7_worst_18 rfl hl (by decide) rfl (fun ls hl => ?_)
    refine lv_iconst (v := (0 : Int32)) hx hb dX7_worst_19 (by decide) ?_
    refine lv_istore (lv' := [(4, .int (0 : Int32)), (3, .int (0 : Int32)), (2, .int (-1 : Int32)), (0, .ref (a 0)), (1, .int x1)]) hx hb dX7_worst_20 hl (by decide) rfl (fun ls hl => ?_)
    replace hf := bs_ hf; obtain ⟨v2, hg, hf⟩ := hf
    have J2 : ∀ (H : Heap) (locs : List Loc) (ls : Array Slot), WW G A s.heap (wX7 a ct v2.2.2 sg) H locs → lv_has ls 7 [(1, .int x1), (2, .int v2.1), (3, .int v2.2.1)] → W p l e ({ frames := 4, cells := 0, slots := 0, locals := 96 } : Room) s m (List.toArray [.ref (a 0), .int x1]) below meth c H locs 0 0 (MQ below (va_Qi (fun r (_ : Unit) => r = o.1) (fun _ t => Af_ G ct (wX7 a ct o.2 sg) A t) A) (List.toArray [.ref (a 0), .int x1]) s 0 0 A) (F0 m 121 ls []) := by
      intro H locs ls hW hl
      refine lv_iload_n hx hb dX7_worst_121 rfl (lv_at hl 1 rfl) ?_
      refine lv_if_ge (tgt := 129) hx hb dX7_worst_122 (by decide) (fun hc => ?_) (fun hc => ?_)
      · replace hf := ifp hc hf
        refine lv_iload_n hx hb dX7_worst_129 rfl (lv_at hl 0 rfl) ?_
        refine lv_if_ne (tgt := 139) hx hb dX7_worst_130 (by decide) (fun hc => ?_) (fun hc => ?_)
        · replace hf := ifn hc hf
          refine lv_iload_n hx hb dX7_worst_139 rfl (lv_at hl 0 rfl) ?_
          refine lv_iconst (v := (1 : Int32)) hx hb dX7_worst_140 (by decide) ?_
          refine lv_icmp_ne (tgt := 150) hx hb dX7_worst_141 (by decide) (fun hc => ?_) (fun hc => ?_)
          · replace hf := ifn hc hf
            refine lv_iload_n hx hb dX7_worst_150 rfl (lv_at hl 2 rfl) ?_
            have ho := Option.some.inj hf
            subst ho
            exact x_reti (sz := 0) (w0 := []) (A1 := A) hx hb hr hlocks hK hW rfl rfl dX7_worst_151
          · replace hf := ifp hc hf
            refine lv_iload_n hx hb dX7_worst_144 rfl (lv_at hl 1 rfl) ?_
            refine lv_iconst (v := (3 : Int32)) hx hb dX7_worst_145 (by decide) ?_
            replace hf := gd_s hf; obtain ⟨hnz, hf⟩ := hf
            refine lv_irem hx hb dX7_worst_146 (nzI_s hnz) ?_
            refine lv_goto (tgt := 151) hx hb dX7_worst_147 (by decide) ?_
            have ho := Option.some.inj hf
            subst ho
            exact x_reti (sz := 0) (w0 := []) (A1 := A) hx hb hr hlocks hK hW rfl rfl dX7_worst_151
        · replace hf := ifp hc hf
          refine lv_iload_n hx hb dX7_worst_133 rfl (lv_at hl 1 rfl) ?_
          refine lv_iconst (v := (3 : Int32)) hx hb dX7_worst_134 (by decide) ?_
          replace hf := gd_s hf; obtain ⟨hnz, hf⟩ := hf
          refine lv_idiv hx hb dX7_worst_135 (nzI_s hnz) ?_
          refine lv_goto (tgt := 151) hx hb dX7_worst_136 (by decide) ?_
          have ho := Option.some.inj hf
          subst ho
          exact x_reti (sz := 0) (w0 := []) (A1 := A) hx hb hr hlocks hK hW rfl rfl dX7_worst_151
      · replace hf := ifn hc hf
        refine lv_iconst (v := (-1 : Int32)) hx hb dX7_worst_125 (by decide) ?_
        refine lv_goto (tgt := 151) hx hb dX7_worst_126 (by decide) ?_
        have ho := Option.some.inj hf
        subst ho
        exact x_reti (sz := 0) (w0 := []) (A1 := A) hx hb hr hlocks hK hW rfl rfl dX7_worst_151
    clear hf
    have L2 : ∀ (n : Nat) (y2_2 : Int32) (y2_3 : Int32) (y2_4 : Int32) (g2 : St_), f_X7_worst_L22 N n y2_2 y2_3 y2_4 g2 = some v2 → ∀ (H : Heap) (locs : List Loc) (ls : Array Slot), WW G A s.heap (wX7 a ct g2 sg) H locs → lv_has ls 7 [(0, .ref (a 0)), (1, .int x1), (2, .int y2_2), (3, .int y2_3), (4, .int y2_4)] → W p l e ({ frames := 4, cells := 0, slots := 0, locals := 96 } : Room) s m (List.toArray [.ref (a 0), .int x1]) below meth c H locs 0 0 (MQ below (va_Qi (fun r (_ : Unit) => r = o.1) (fun _ t => Af_ G ct (wX7 a ct o.2 sg) A t) A) (List.toArray [.ref (a 0), .int x1]) s 0 0 A) (F0 m 22 ls []) := by
      intro n
      induction n with
      | zero =>
        intro y2_2 y2_3 y2_4 g2 hf
        rw [f_X7_worst_L22] at hf
        cases hf
      | succ n ih =>
        intro y2_2 y2_3 y2_4 g2 hf H locs ls hW hl
        rw [f_X7_worst_L22] at hf
        refine lv_iload hx hb dX7_worst_22 (lv_at hl 4 rfl) ?_
        refine lv_aload_n hx hb dX7_worst_24 rfl (lv_at hl 0 rfl) ?_
        refine x_get (ci := 7) (v := .int (g2 2 0)) (C := RX7) (T := TX7) (N := 44) hx hb hts inX7 hown hK hW 0 rfl rfl 1 (by decide) fl103 (fun _ h9 => h9) rfl dX7_worst_25 ?_
        refine lv_icmp_ge (tgt := 121) hx hb dX7_worst_28 (by decide) (fun hc => ?_) (fun hc => ?_)
        · replace hf := ifp hc hf
          have hj := Option.some.inj hf
          subst hj
          exact J2 _ _ _ hW (lv_sub hl [1, 2, 3] rfl)
        · replace hf := ifn hc hf
          refine lv_iconst (v := (0 : Int32)) hx hb dX7_worst_31 (by decide) ?_
          refine lv_istore (lv' := [(5, .int (0 : Int32)), (0, .ref (a 0)), (1, .int x1), (2, .int y2_2), (3, .int y2_3), (4, .int y2_4)]) hx hb dX7_worst_32 hl (by decide) rfl (fun ls hl => ?_)
          replace hf := bs_ hf; obtain ⟨v3, hg, hf⟩ := hf
          have J3 : ∀ (H : Heap) (locs : List Loc) (ls : Array Slot), WW G A s.heap (wX7 a ct v3.2.2 sg) H locs → lv_has ls 7 [(0, .ref (a 0)), (1, .int x1), (2, .int v3.1), (3, .int v3.2.1), (4, .int y2_4)] → W p l e ({ frames := 4, cells := 0, slots := 0, locals := 96 } : Room) s m (List.toArray [.ref (a 0), .int x1]) below meth c H locs 0 0 (MQ below (va_Qi (fun r (_ : Unit) => r = o.1) (fun _ t => Af_ G ct (wX7 a ct o.2 sg) A t) A) (List.toArray [.ref (a 0), .int x1]) s 0 0 A) (F0 m 115 ls []) := by
            intro H locs ls hW hl
            refine lv_iinc (v := (y2_4 + (1 : Int32))) (lv' := [(4, .int (y2_4 + (1 : Int32))), (0, .ref (a 0)), (1, .int x1), (2, .int v3.1), (3, .int v3.2.1)]) hx hb dX7_worst_115 hl (k := 4) rfl rfl (by decide) rfl (fun ls hl => ?_)
            refine lv_goto (tgt := 22) hx hb dX7_worst_118 (by decide) ?_
            exact ih v3.1 v3.2.1 (y2_4 + (1 : Int32)) v3.2.2 hf _ _ _ hW (lv_sub hl [1, 2, 3, 4, 0] rfl)
          clear hf
          have L3 : ∀ (n : Nat) (y3_2 : Int32) (y3_3 : Int32) (y3_5 : Int32) (g3 : St_), f_X7_worst_L34 N y2_4 n y3_2 y3_3 y3_5 g3 = some v3 → ∀ (H : Heap) (locs : List Loc) (ls : Array Slot), WW G A s.heap (wX7 a ct g3 sg) H locs → lv_has ls 7 [(0, .ref (a 0)), (1, .int x1), (2, .int y3_2), (3, .int y3_3), (4, .int y2_4), (5, .int y3_5)] → W p l e ({ frames := 4, cells := 0, slots := 0, locals := 96 } : Room) s m (List.toArray [.ref (a 0), .int x1]) below meth c H locs 0 0 (MQ below (va_Qi (fun r (_ : Unit) => r = o.1) (fun _ t => Af_ G ct (wX7 a ct o.2 sg) A t) A) (List.toArray [.ref (a 0), .int x1]) s 0 0 A) (F0 m 34 ls []) := by
            intro n
            induction n with
            | zero =>
              intro y3_2 y3_3 y3_5 g3 hf
              rw [f_X7_worst_L34] at hf
              cases hf
            | succ n ih =>
              intro y3_2 y3_3 y3_5 g3 hf H locs ls hW hl
              rw [f_X7_worst_L34] at hf
              refine lv_iload hx hb dX7_worst_34 (lv_at hl 5 rfl) ?_
              refine lv_aload_n hx hb dX7_worst_36 rfl (lv_at hl 0 rfl) ?_
              refine x_get (ci := 7) (v := .ref (a 6)) (C := RX7) (T := TX7) (N := 44) hx hb hts inX7 hown hK hW 0 rfl rfl 5 (by decide) fl19 (fun _ h9 => h9) rfl dX7_worst_37 ?_
              refine lv_iload hx hb dX7_worst_40 (lv_at hl 4 rfl) ?_
              replace hf := gd_s hf; obtain ⟨hin, hf⟩ := hf
              refine x_iald (n := 10) (f := g3 6) hx hb hK hW 4 rfl (okI_in hin) dX7_worst_42 ?_
              refine lv_icmp_ge (tgt := 115) hx hb dX7_worst_43 (by decide) (fun hc => ?_) (fun hc => ?_)
              · replace hf := ifp hc hf
                have hj := Option.some.inj hf
                subst hj
                exact J3 _ _ _ hW (lv_sub hl [0, 1, 2, 3, 4] rfl)
              · replace hf := ifn hc hf
                refine lv_aload_n hx hb dX7_worst_46 rfl (lv_at hl 0 rfl) ?_
                refine x_get (ci := 7) (v := .ref (a 7)) (C := RX7) (T := TX7) (N := 44) hx hb hts inX7 hown hK hW 0 rfl rfl 6 (by decide) fl22 (fun _ h9 => h9) rfl dX7_worst_47 ?_
                refine lv_iconst (v := (3 : Int32)) hx hb dX7_worst_50 (by decide) ?_
                refine lv_iload hx hb dX7_worst_51 (lv_at hl 4 rfl) ?_
                refine lv_imul hx hb dX7_worst_53 ?_
                refine lv_iload hx hb dX7_worst_54 (lv_at hl 5 rfl) ?_
                refine lv_iadd hx hb dX7_worst_56 ?_
                replace hf := gd_s hf; obtain ⟨hin, hf⟩ := hf
                refine x_iald (n := 30) (f := g3 7) hx hb hK hW 5 rfl (okI_in hin) dX7_worst_57 ?_
                refine lv_iconst (v := (1 : Int32)) hx hb dX7_worst_58 (by decide) ?_
                replace hf := bs_ hf; obtain ⟨j4, hg, hf⟩ := hf
                have J4 : ∀ (H : Heap) (locs : List Loc) (ls : Array Slot), WW G A s.heap (wX7 a ct j4.2 sg) H locs → lv_has ls 7 [(0, .ref (a 0)), (1, .int x1), (2, .int y3_2), (3, .int y3_3), (4, .int y2_4), (5, .int y3_5)] → W p l e ({ frames := 4, cells := 0, slots := 0, locals := 96 } : Room) s m (List.toArray [.ref (a 0), .int x1]) below meth c H locs 0 0 (MQ below (va_Qi (fun r (_ : Unit) => r = o.1) (fun _ t => Af_ G ct (wX7 a ct o.2 sg) A t) A) (List.toArray [.ref (a 0), .int x1]) s 0 0 A) (F0 m 76 ls (.int j4.1 :: [])) := by
                  intro H locs ls hW hl
                  refine lv_istore (lv' := [(6, .int j4.1), (0, .ref (a 0)), (1, .int x1), (2, .int y3_2), (3, .int y3_3), (4, .int y2_4), (5, .int y3_5)]) hx hb dX7_worst_76 hl (by decide) rfl (fun ls hl => ?_)
                  refine lv_iload hx hb dX7_worst_78 (lv_at hl 0 rfl) ?_
                  refine lv_iload_n hx hb dX7_worst_80 rfl (lv_at hl 4 rfl) ?_
                  replace hf := bs_ hf; obtain ⟨j6, hg, hf⟩ := hf
                  have J6 : ∀ (H : Heap) (locs : List Loc) (ls : Array Slot), WW G A s.heap (wX7 a ct j4.2 sg) H locs → lv_has ls 7 [(0, .ref (a 0)), (1, .int x1), (3, .int y3_3), (4, .int y2_4), (5, .int y3_5), (6, .int j4.1)] → W p l e ({ frames := 4, cells := 0, slots := 0, locals := 96 } : Room) s m (List.toArray [.ref (a 0), .int x1]) below meth c H locs 0 0 (MQ below (va_Qi (fun r (_ : Unit) => r = o.1) (fun _ t => Af_ G ct (wX7 a ct o.2 sg) A t) A) (List.toArray [.ref (a 0), .int x1]) s 0 0 A) (F0 m 95 ls (.int j6 :: [])) := by
                    intro H locs ls hW hl
                    refine lv_istore_n (lv' := [(2, .int j6), (0, .ref (a 0)), (1, .int x1), (3, .int y3_3), (4, .int y2_4), (5, .int y3_5), (6, .int j4.1)]) hx hb dX7_worst_95 rfl hl (by decide) rfl (fun ls hl => ?_)
                    refine lv_iload hx hb dX7_worst_96 (lv_at hl 6 rfl) ?_
                    refine lv_iload_n hx hb dX7_worst_98 rfl (lv_at hl 3 rfl) ?_
                    replace hf := bs_ hf; obtain ⟨j7, hg, hf⟩ := hf
                    have J7 : ∀ (H : Heap) (locs : List Loc) (ls : Array Slot), WW G A s.heap (wX7 a ct j4.2 sg) H locs → lv_has ls 7 [(0, .ref (a 0)), (1, .int x1), (2, .int j6), (4, .int y2_4), (5, .int y3_5)] → W p l e ({ frames := 4, cells := 0, slots := 0, locals := 96 } : Room) s m (List.toArray [.ref (a 0), .int x1]) below meth c H locs 0 0 (MQ below (va_Qi (fun r (_ : Unit) => r = o.1) (fun _ t => Af_ G ct (wX7 a ct o.2 sg) A t) A) (List.toArray [.ref (a 0), .int x1]) s 0 0 A) (F0 m 108 ls (.int j7 :: [])) := by
                      intro H locs ls hW hl
                      refine lv_istore_n (lv' := [(3, .int j7), (0, .ref (a 0)), (1, .int x1), (2, .int j6), (4, .int y2_4), (5, .int y3_5)]) hx hb dX7_worst_108 rfl hl (by decide) rfl (fun ls hl => ?_)
                      refine lv_iinc (v := (y3_5 + (1 : Int32))) (lv' := [(5, .int (y3_5 + (1 : Int32))), (3, .int j7), (0, .ref (a 0)), (1, .int x1), (2, .int j6), (4, .int y2_4)]) hx hb dX7_worst_109 hl (k := 5) rfl rfl (by decide) rfl (fun ls hl => ?_)
                      refine lv_goto (tgt := 34) hx hb dX7_worst_112 (by decide) ?_
                      exact ih j6 j7 (y3_5 + (1 : Int32)) j4.2 hf _ _ _ hW (lv_sub hl [2, 3, 4, 1, 5, 0] rfl)
                    clear hf
                    refine lv_icmp_le (tgt := 107) hx hb dX7_worst_99 (by decide) (fun hc => ?_) (fun hc => ?_)
                    · have hf := ifp hc hg
                      clear hg
                      refine lv_iload_n hx hb dX7_worst_107 rfl (lv_at hl 3 rfl) ?_
                      have hj := Option.some.inj hf
                      subst hj
                      exact J7 _ _ _ hW (lv_sub hl [1, 2, 0, 4, 5] rfl)
                    · have hf := ifn hc hg
                      clear hg
                      refine lv_iload hx hb dX7_worst_102 (lv_at hl 6 rfl) ?_
                      refine lv_goto (tgt := 108) hx hb dX7_worst_104 (by decide) ?_
                      have hj := Option.some.inj hf
                      subst hj
                      exact J7 _ _ _ hW (lv_sub hl [1, 2, 0, 4, 5] rfl)
                  clear hf
                  refine lv_icmp_le (tgt := 94) hx hb dX7_worst_81 (by decide) (fun hc => ?_) (fun hc => ?_)
                  · have hf := ifp hc hg
                    clear hg
                    refine lv_iload_n hx hb dX7_worst_94 rfl (lv_at hl 3 rfl) ?_
                    have hj := Option.some.inj hf
                    subst hj
                    exact J6 _ _ _ hW (lv_sub hl [1, 2, 4, 5, 6, 0] rfl)
                  · have hf := ifn hc hg
                    clear hg
                    refine lv_iconst (v := (3 : Int32)) hx hb dX7_worst_84 (by decide) ?_
                    refine lv_iload hx hb dX7_worst_85 (lv_at hl 5 rfl) ?_
                    refine lv_imul hx hb dX7_worst_87 ?_
                    refine lv_iload hx hb dX7_worst_88 (lv_at hl 6 rfl) ?_
                    refine lv_iadd hx hb dX7_worst_90 ?_
                    refine lv_goto (tgt := 95) hx hb dX7_worst_91 (by decide) ?_
                    have hj := Option.some.inj hf
                    subst hj
                    exact J6 _ _ _ hW (lv_sub hl [1, 2, 4, 5, 6, 0] rfl)
                clear hf
                refine lv_icmp_le (tgt := 75) hx hb dX7_worst_59 (by decide) (fun hc => ?_) (fun hc => ?_)
                · have hf := ifp hc hg
                  clear hg
                  refine lv_iconst (v := (0 : Int32)) hx hb dX7_worst_75 (by decide) ?_
                  have hj := Option.some.inj hf
                  subst hj
                  exact J4 _ _ _ hW (lv_sub hl [0, 1, 2, 3, 4, 5] rfl)
                · have hf := ifn hc hg
                  clear hg
                  refine lv_aload_n hx hb dX7_worst_62 rfl (lv_at hl 0 rfl) ?_
                  refine lv_iload hx hb dX7_worst_63 (lv_at hl 4 rfl) ?_
                  refine lv_iload hx hb dX7_worst_65 (lv_at hl 5 rfl) ?_
                  refine lv_iconst (v := (-1 : Int32)) hx hb dX7_worst_67 (by decide) ?_
                  refine lv_iconst (v := (1 : Int32)) hx hb dX7_worst_68 (by decide) ?_
                  replace hf := bs_ hf; obtain ⟨r5, hcl, hf⟩ := hf
                  refine x_callW_i (w' := (wX7 a ct r5.2 sg)) (As := [.int y2_4, .int y3_5, .int (-1 : Int32), .int (1 : Int32)]) (rest := []) (ci := 7) ⟨hx, hb, hml, hown, hts⟩ (c_X7_step l N kd G ct a g3 sg y2_4 y3_5 (-1 : Int32) (1 : Int32) _ hcl) (cwV 4 hts gX7_worst_X7_step rfl rfl rfl (by decide +kernel) ⟨Nat.le_of_ble_eq_true rfl, Nat.le_of_ble_eq_true rfl⟩) hK hE hA hW rfl rfl 0 rfl rfl rfl rfl hl.1 rfl (lv_room (Nat.le_of_ble_eq_true rfl)) dX7_worst_69 (fun H locs hW => ?_)
                  refine lv_goto (tgt := 76) hx hb dX7_worst_72 (by decide) ?_
                  have hj := Option.some.inj hf
                  subst hj
                  exact J4 _ _ _ hW (lv_sub hl [0, 1, 2, 3, 4, 5] rfl)
          exact L3 N y2_2 y2_3 (0 : Int32) g2 hg _ _ _ hW (lv_sub hl [1, 2, 3, 4, 5, 0] rfl)
    exact L2 N (-1 : Int32) (0 : Int32) (0 : Int32) g hg _ _ _ hW (lv_sub hl [3, 4, 2, 1, 0] rfl)
  · replace hf := ifp hc hf
    refine lv_ldc (v := (-1000000002 : Int32)) hx hb hown fl111 dX7_worst_12 ?_
    have ho := Option.some.inj hf
    subst ho
    exact x_reti (sz := 0) (w0 := []) (A1 := A) hx hb hr hlocks hK hW rfl rfl dX7_worst_14
