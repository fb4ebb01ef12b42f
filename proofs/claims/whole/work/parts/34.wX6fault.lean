set_option maxHeartbeats 4000000 in
set_option maxRecDepth 100000 in
theorem c_X6_fault (l : Launch) (N : Nat) (kd : (Nat → Nat) × (Nat → Nat)) (G : va_G) (ct : Nat → ClassId) (a : Nat → Nat) (g : St_) (o : Int32) (hf : f_X6_fault N g = some o) : CtI l yX6_fault wsX6_fault ({ frames := 0, cells := 0, slots := 0, locals := 0 }) kd G ct [.ref (a 0)] (wX6 a ct g) o (wX6 a ct g) := by
  intro sz
  refine Met.ofW (cc := cX6_fault) (maxL := 1) (ret := (some .int)) (by decide) rfl ?_
  intro p e s m args below meth c s₁ B hml hv
  obtain ⟨rfl, hsz, hP, hK, hD0, hE⟩ := hv
  have hx := B.exec
  have hb := B.bytes
  have hr := B.returns
  have hts := atoms_spec (ws := wsX6_fault) B.pre
  have hown : s.vm.findClass RX6 = some m.cls := findClass_of_methodNamed B.named
  have hlocks := B.notSynchronized
  have inX6 : ∀ w ∈ wsX60, w ∈ wsX6_fault := by decide +kernel
  have fl48 := hts (.fieldLink RX6 48 "FittingStrides" "faultByte" "I") (by decide +kernel)
  subst hsz
  have hD := hD0.self (sz := s.heap.size)
  generalize hAe : va_A (wX6 a ct g) s.heap.size = A at hD hE ⊢
  have hA : ∀ q : Nat, s.heap.size ≤ q → A q := fun q h => by rw [← hAe]; exact Or.inr h
  have hW : WW G A s.heap (wX6 a ct g) s.heap [] := ⟨hP, hD, va_S.rf⟩
  have hl := lv_entry ([.ref (a 0)]) (n := 1) (Nat.le_of_ble_eq_true rfl)
  rw [lg_entry_eq]
  generalize (lg_sl ([.ref (a 0)]) ++ List.replicate (1 - (lg_sl ([.ref (a 0)])).length) Slot.unset).toArray = ls at hl ⊢
  have hl : lv_has ls 1 [(0, .ref (a 0))] := hl
  unfold f_X6_fault at hf
  show W p l e ({ frames := 0, cells := 0, slots := 0, locals := 0 } : Room) s m (List.toArray [.ref (a 0)]) below meth c s.heap [] 0 0 (MQ below (va_Qi (fun r (_ : Unit) => r = o) (fun _ t => Af_ G ct (wX6 a ct g) A t) A) (List.toArray [.ref (a 0)]) s 0 0 A) (F0 m 0 ls [])
  refine lv_aload_n hx hb dX6_fault_0 rfl (lv_at hl 0 rfl) ?_
  refine x_get (ci := 6) (v := .int (g 75 0)) (C := RX6) (T := TX6) (N := 7) hx hb hts inX6 hown hK hW 0 rfl rfl 6 (by decide) fl48 (fun _ h9 => h9) rfl dX6_fault_1 ?_
  have ho := Option.some.inj hf
  subst ho
  exact x_reti (sz := 0) (w0 := []) (A1 := A) hx hb hr hlocks hK hW rfl rfl dX6_fault_4
set_option maxHeartbeats 4000000 in
set_option maxRecDepth 100000 in
theorem c_X6_told (l : Launch) (N : Nat) (kd : (Nat → Nat) × (Nat → Nat)) (G : va_G) (ct : Nat → ClassId) (a : Nat → Nat) (g : St_) (x1 : Int32) (o : Int32) (hf : f_X6_told N g x1 = some o) : CtI l yX6_told wsX6_told ({ frames := 1, cells := 0, slots := 0, locals := 22 }) kd G ct [.ref (a 0), .int x1] (wX6 a ct g) o (wX6 a ct g) := by
  intro sz
  refine Met.ofW (cc := cX6_told) (maxL := 2) (ret := (some .int)) (by decide) rfl ?_
  intro p e s m args below meth c s₁ B hml hv
  obtain ⟨rfl, hsz, hP, hK, hD0, hE⟩ := hv
  have hx := B.exec
  have hb := B.bytes
  have hr := B.returns
  have hts := atoms_spec (ws := wsX6_told) B.pre
  have hown : s.vm.findClass RX6 = some m.cls := findClass_of_methodNamed B.named
  have hlocks := B.notSynchronized
  have inX0 : ∀ w ∈ wsX00, w ∈ wsX6_told := by decide +kernel
  have inX1 : ∀ w ∈ wsX10, w ∈ wsX6_told := by decide +kernel
  have inX2 : ∀ w ∈ wsX20, w ∈ wsX6_told := by decide +kernel
  have inX3 : ∀ w ∈ wsX30, w ∈ wsX6_told := by decide +kernel
  have inX4 : ∀ w ∈ wsX40, w ∈ wsX6_told := by decide +kernel
  have inX5 : ∀ w ∈ wsX50, w ∈ wsX6_told := by decide +kernel
  have inX6 : ∀ w ∈ wsX60, w ∈ wsX6_told := by decide +kernel
  have fl10 := hts (.fieldLink RX6 10 "FittingStrides" "text" "LFittingStrides$Text;") (by decide +kernel)
  have fl19 := hts (.fieldLink RX6 19 "FittingStrides" "now" "LFittingStrides$Town;") (by decide +kernel)
  have fl37 := hts (.fieldLink RX6 37 "FittingStrides" "sights" "LFittingStrides$Sights;") (by decide +kernel)
  have fl44 := hts (.fieldLink RX6 44 "FittingStrides" "book" "LFittingStrides$Book;") (by decide +kernel)
  have fl52 := hts (.constant RX6 52 (-1000000002)) (by decide +kernel)
  have fl53 := hts (.fieldLink RX6 53 "FittingStrides$Text" "length" "I") (by decide +kernel)
  have fl80 := hts (.fieldLink RX6 80 "FittingStrides$Sights" "count" "I") (by decide +kernel)
  have fl83 := hts (.fieldLink RX6 83 "FittingStrides$Book" "count" "I") (by decide +kernel)
  have fl84 := hts (.fieldLink RX6 84 "FittingStrides$Town" "plan" "LFittingStrides$Plan;") (by decide +kernel)
  have fl88 := hts (.fieldLink RX6 88 "FittingStrides$Plan" "places" "I") (by decide +kernel)
  have fl93 := hts (.fieldLink RX6 93 "FittingStrides$Plan" "stairs" "I") (by decide +kernel)
  have fl96 := hts (.fieldLink RX6 96 "FittingStrides$Town" "state" "LFittingStrides$State;") (by decide +kernel)
  have fl100 := hts (.fieldLink RX6 100 "FittingStrides$State" "persons" "I") (by decide +kernel)
  have fl103 := hts (.fieldLink RX6 103 "FittingStrides$State" "law" "I") (by decide +kernel)
  subst hsz
  have hD := hD0.self (sz := s.heap.size)
  generalize hAe : va_A (wX6 a ct g) s.heap.size = A at hD hE ⊢
  have hA : ∀ q : Nat, s.heap.size ≤ q → A q := fun q h => by rw [← hAe]; exact Or.inr h
  have hW : WW G A s.heap (wX6 a ct g) s.heap [] := ⟨hP, hD, va_S.rf⟩
  have hl := lv_entry ([.ref (a 0), .int x1]) (n := 2) (Nat.le_of_ble_eq_true rfl)
  rw [lg_entry_eq]
  generalize (lg_sl ([.ref (a 0), .int x1]) ++ List.replicate (2 - (lg_sl ([.ref (a 0), .int x1])).length) Slot.unset).toArray = ls at hl ⊢
  have hl : lv_has ls 2 [(0, .ref (a 0)), (1, .int x1)] := hl
  unfold f_X6_told at hf
  show W p l e ({ frames := 1, cells := 0, slots := 0, locals := 22 } : Room) s m (List.toArray [.ref (a 0), .int x1]) below meth c s.heap [] 0 0 (MQ below (va_Qi (fun r (_ : Unit) => r = o) (fun _ t => Af_ G ct (wX6 a ct g) A t) A) (List.toArray [.ref (a 0), .int x1]) s 0 0 A) (F0 m 0 ls [])
  refine lv_iload_n hx hb dX6_told_0 rfl (lv_at hl 1 rfl) ?_
  by_cases q0 : x1 = (0 : Int32)
  · replace hf := ifp q0 hf
    refine lv_tableIn (tgt := 48) (off := 47) hx hb dX6_told_1 (by rw [q0]; decide) (by rw [q0]; decide) (by rw [q0]; rfl) (by decide) ?_
    refine lv_aload_n hx hb dX6_told_48 rfl (lv_at hl 0 rfl) ?_
    refine x_get (ci := 6) (v := .ref (a 26)) (C := RX6) (T := TX6) (N := 7) hx hb hts inX6 hown hK hW 0 rfl rfl 1 (by decide) fl19 (fun _ h9 => h9) rfl dX6_told_49 ?_
    refine x_get (ci := 5) (v := .ref (a 27)) (C := RX5) (T := TX5) (N := 4) hx hb hts inX5 hown hK hW 17 rfl rfl 0 (by decide) fl84 (fun _ h9 => h9) rfl dX6_told_52 ?_
    refine x_get (ci := 1) (v := .int (g 28 0)) (C := RX1) (T := TX1) (N := 6) hx hb hts inX1 hown hK hW 18 rfl rfl 0 (by decide) fl88 (fun _ h9 => h9) rfl dX6_told_55 ?_
    have ho := Option.some.inj hf
    subst ho
    exact x_reti (sz := 0) (w0 := []) (A1 := A) hx hb hr hlocks hK hW rfl rfl dX6_told_58
  · replace hf := ifn q0 hf
    by_cases q1 : x1 = (1 : Int32)
    · replace hf := ifp q1 hf
      refine lv_tableIn (tgt := 59) (off := 58) hx hb dX6_told_1 (by rw [q1]; decide) (by rw [q1]; decide) (by rw [q1]; rfl) (by decide) ?_
      refine lv_aload_n hx hb dX6_told_59 rfl (lv_at hl 0 rfl) ?_
      refine x_get (ci := 6) (v := .ref (a 26)) (C := RX6) (T := TX6) (N := 7) hx hb hts inX6 hown hK hW 0 rfl rfl 1 (by decide) fl19 (fun _ h9 => h9) rfl dX6_told_60 ?_
      refine x_get (ci := 5) (v := .ref (a 27)) (C := RX5) (T := TX5) (N := 4) hx hb hts inX5 hown hK hW 17 rfl rfl 0 (by decide) fl84 (fun _ h9 => h9) rfl dX6_told_63 ?_
      refine x_get (ci := 1) (v := .int (g 29 0)) (C := RX1) (T := TX1) (N := 6) hx hb hts inX1 hown hK hW 18 rfl rfl 1 (by decide) fl93 (fun _ h9 => h9) rfl dX6_told_66 ?_
      have ho := Option.some.inj hf
      subst ho
      exact x_reti (sz := 0) (w0 := []) (A1 := A) hx hb hr hlocks hK hW rfl rfl dX6_told_69
    · replace hf := ifn q1 hf
      by_cases q2 : x1 = (2 : Int32)
      · replace hf := ifp q2 hf
        refine lv_tableIn (tgt := 70) (off := 69) hx hb dX6_told_1 (by rw [q2]; decide) (by rw [q2]; decide) (by rw [q2]; rfl) (by decide) ?_
        refine lv_aload_n hx hb dX6_told_70 rfl (lv_at hl 0 rfl) ?_
        refine x_get (ci := 6) (v := .ref (a 26)) (C := RX6) (T := TX6) (N := 7) hx hb hts inX6 hown hK hW 0 rfl rfl 1 (by decide) fl19 (fun _ h9 => h9) rfl dX6_told_71 ?_
        refine x_get (ci := 5) (v := .ref (a 34)) (C := RX5) (T := TX5) (N := 4) hx hb hts inX5 hown hK hW 17 rfl rfl 1 (by decide) fl96 (fun _ h9 => h9) rfl dX6_told_74 ?_
        refine x_get (ci := 3) (v := .int (g 35 0)) (C := RX3) (T := TX3) (N := 8) hx hb hts inX3 hown hK hW 23 rfl rfl 0 (by decide) fl100 (fun _ h9 => h9) rfl dX6_told_77 ?_
        have ho := Option.some.inj hf
        subst ho
        exact x_reti (sz := 0) (w0 := []) (A1 := A) hx hb hr hlocks hK hW rfl rfl dX6_told_80
      · replace hf := ifn q2 hf
        by_cases q3 : x1 = (3 : Int32)
        · replace hf := ifp q3 hf
          refine lv_tableIn (tgt := 81) (off := 80) hx hb dX6_told_1 (by rw [q3]; decide) (by rw [q3]; decide) (by rw [q3]; rfl) (by decide) ?_
          refine lv_aload_n hx hb dX6_told_81 rfl (lv_at hl 0 rfl) ?_
          refine x_get (ci := 6) (v := .ref (a 1)) (C := RX6) (T := TX6) (N := 7) hx hb hts inX6 hown hK hW 0 rfl rfl 0 (by decide) fl10 (fun _ h9 => h9) rfl dX6_told_82 ?_
          refine x_get (ci := 4) (v := .int (g 2 0)) (C := RX4) (T := TX4) (N := 6) hx hb hts inX4 hown hK hW 1 rfl rfl 0 (by decide) fl53 (fun _ h9 => h9) rfl dX6_told_85 ?_
          have ho := Option.some.inj hf
          subst ho
          exact x_reti (sz := 0) (w0 := []) (A1 := A) hx hb hr hlocks hK hW rfl rfl dX6_told_88
        · replace hf := ifn q3 hf
          by_cases q4 : x1 = (4 : Int32)
          · replace hf := ifp q4 hf
            refine lv_tableIn (tgt := 89) (off := 88) hx hb dX6_told_1 (by rw [q4]; decide) (by rw [q4]; decide) (by rw [q4]; rfl) (by decide) ?_
            refine lv_aload_n hx hb dX6_told_89 rfl (lv_at hl 0 rfl) ?_
            refine x_get (ci := 6) (v := .ref (a 26)) (C := RX6) (T := TX6) (N := 7) hx hb hts inX6 hown hK hW 0 rfl rfl 1 (by decide) fl19 (fun _ h9 => h9) rfl dX6_told_90 ?_
            refine x_get (ci := 5) (v := .ref (a 34)) (C := RX5) (T := TX5) (N := 4) hx hb hts inX5 hown hK hW 17 rfl rfl 1 (by decide) fl96 (fun _ h9 => h9) rfl dX6_told_93 ?_
            refine x_get (ci := 3) (v := .int (g 41 0)) (C := RX3) (T := TX3) (N := 8) hx hb hts inX3 hown hK hW 23 rfl rfl 6 (by decide) fl103 (fun _ h9 => h9) rfl dX6_told_96 ?_
            have ho := Option.some.inj hf
            subst ho
            exact x_reti (sz := 0) (w0 := []) (A1 := A) hx hb hr hlocks hK hW rfl rfl dX6_told_99
          · replace hf := ifn q4 hf
            by_cases q5 : x1 = (5 : Int32)
            · replace hf := ifp q5 hf
              refine lv_tableIn (tgt := 100) (off := 99) hx hb dX6_told_1 (by rw [q5]; decide) (by rw [q5]; decide) (by rw [q5]; rfl) (by decide) ?_
              refine lv_aload_n hx hb dX6_told_100 rfl (lv_at hl 0 rfl) ?_
              refine x_get (ci := 6) (v := .ref (a 65)) (C := RX6) (T := TX6) (N := 7) hx hb hts inX6 hown hK hW 0 rfl rfl 4 (by decide) fl37 (fun _ h9 => h9) rfl dX6_told_101 ?_
              refine x_get (ci := 2) (v := .int (g 66 0)) (C := RX2) (T := TX2) (N := 4) hx hb hts inX2 hown hK hW 45 rfl rfl 0 (by decide) fl80 (fun _ h9 => h9) rfl dX6_told_104 ?_
              have ho := Option.some.inj hf
              subst ho
              exact x_reti (sz := 0) (w0 := []) (A1 := A) hx hb hr hlocks hK hW rfl rfl dX6_told_107
            · replace hf := ifn q5 hf
              by_cases q6 : x1 = (6 : Int32)
              · replace hf := ifp q6 hf
                refine lv_tableIn (tgt := 108) (off := 107) hx hb dX6_told_1 (by rw [q6]; decide) (by rw [q6]; decide) (by rw [q6]; rfl) (by decide) ?_
                refine lv_aload_n hx hb dX6_told_108 rfl (lv_at hl 0 rfl) ?_
                refine x_get (ci := 6) (v := .ref (a 70)) (C := RX6) (T := TX6) (N := 7) hx hb hts inX6 hown hK hW 0 rfl rfl 5 (by decide) fl44 (fun _ h9 => h9) rfl dX6_told_109 ?_
                refine x_get (ci := 0) (v := .int (g 71 0)) (C := RX0) (T := TX0) (N := 4) hx hb hts inX0 hown hK hW 49 rfl rfl 0 (by decide) fl83 (fun _ h9 => h9) rfl dX6_told_112 ?_
                have ho := Option.some.inj hf
                subst ho
                exact x_reti (sz := 0) (w0 := []) (A1 := A) hx hb hr hlocks hK hW rfl rfl dX6_told_115
              · replace hf := ifn q6 hf
                by_cases q7 : x1 = (7 : Int32)
                · replace hf := ifp q7 hf
                  refine lv_tableIn (tgt := 116) (off := 115) hx hb dX6_told_1 (by rw [q7]; decide) (by rw [q7]; decide) (by rw [q7]; rfl) (by decide) ?_
                  refine lv_aload_n hx hb dX6_told_116 rfl (lv_at hl 0 rfl) ?_
                  refine x_get (ci := 6) (v := .ref (a 26)) (C := RX6) (T := TX6) (N := 7) hx hb hts inX6 hown hK hW 0 rfl rfl 1 (by decide) fl19 (fun _ h9 => h9) rfl dX6_told_117 ?_
                  replace hf := bs_ hf; obtain ⟨r1, hcl, hf⟩ := hf
                  refine x_callV_i (w' := (wX6 a ct g)) (As := []) (rest := []) (ci := 5) ⟨hx, hb, hml, hown, hts⟩ (c_X5_allWorn l N kd G ct (sh_ 26 a) (sh_ 26 g) _ hcl) (cwV 0 hts gX6_told_X5_allWorn rfl rfl rfl (by decide +kernel) ⟨Nat.le_of_ble_eq_true rfl, Nat.le_of_ble_eq_true rfl⟩) hK hE hA hW ((wX6 a ct g).take 17) ((wX6 a ct g).drop 31) (wc_X6_26 a ct g) (wc_X6_26 a ct g) 0 rfl rfl rfl rfl hl.1 rfl (lv_room (Nat.le_of_ble_eq_true rfl)) dX6_told_120 (fun H locs hW => ?_)
                  have ho := Option.some.inj hf
                  subst ho
                  exact x_reti (sz := 0) (w0 := []) (A1 := A) hx hb hr hlocks hK hW rfl rfl dX6_told_123
                · replace hf := ifn q7 hf
                  refine lv_tableOut (tgt := 124) hx hb dX6_told_1 (by have h0 := lv_neT q0 (show (0 : Int32).toInt = 0 from rfl); have h1 := lv_neT q1 (show (1 : Int32).toInt = 1 from rfl); have h2 := lv_neT q2 (show (2 : Int32).toInt = 2 from rfl); have h3 := lv_neT q3 (show (3 : Int32).toInt = 3 from rfl); have h4 := lv_neT q4 (show (4 : Int32).toInt = 4 from rfl); have h5 := lv_neT q5 (show (5 : Int32).toInt = 5 from rfl); have h6 := lv_neT q6 (show (6 : Int32).toInt = 6 from rfl); have h7 := lv_neT q7 (show (7 : Int32).toInt = 7 from rfl); omega) (by decide) ?_
                  refine lv_ldc (v := (-1000000002 : Int32)) hx hb hown fl52 dX6_told_124 ?_
                  have ho := Option.some.inj hf
                  subst ho
                  exact x_reti (sz := 0) (w0 := []) (A1 := A) hx hb hr hlocks hK hW rfl rfl dX6_told_126
set_option maxHeartbeats 4000000 in
set_option maxRecDepth 100000 in
theorem c_X6_stair (l : Launch) (N : Nat) (kd : (Nat → Nat) × (Nat → Nat)) (G : va_G) (ct : Nat → ClassId) (a : Nat → Nat) (g : St_) (x1 : Int32) (x2 : Int32) (o : Int32) (hf : f_X6_stair N g x1 x2 = some o) : CtI l yX6_stair wsX6_stair ({ frames := 3, cells := 0, slots := 0, locals := 74 }) kd G ct [.ref (a 0), .int x1, .int x2] (wX6 a ct g) o (wX6 a ct g) := by
  intro sz
  refine Met.ofW (cc := cX6_stair) (maxL := 4) (ret := (some .int)) (by decide) rfl ?_
  intro p e s m args below meth c s₁ B hml hv
  obtain ⟨rfl, hsz, hP, hK, hD0, hE⟩ := hv
  have hx := B.exec
  have hb := B.bytes
  have hr := B.returns
  have hts := atoms_spec (ws := wsX6_stair) B.pre
  have hown : s.vm.findClass RX6 = some m.cls := findClass_of_methodNamed B.named
  have hlocks := B.notSynchronized
  have inX1 : ∀ w ∈ wsX10, w ∈ wsX6_stair := by decide +kernel
  have inX3 : ∀ w ∈ wsX30, w ∈ wsX6_stair := by decide +kernel
  have inX5 : ∀ w ∈ wsX50, w ∈ wsX6_stair := by decide +kernel
  have inX6 : ∀ w ∈ wsX60, w ∈ wsX6_stair := by decide +kernel
  have fl19 := hts (.fieldLink RX6 19 "FittingStrides" "now" "LFittingStrides$Town;") (by decide +kernel)
  have fl52 := hts (.constant RX6 52 (-1000000002)) (by decide +kernel)
  have fl84 := hts (.fieldLink RX6 84 "FittingStrides$Town" "plan" "LFittingStrides$Plan;") (by decide +kernel)
  have fl96 := hts (.fieldLink RX6 96 "FittingStrides$Town" "state" "LFittingStrides$State;") (by decide +kernel)
  have fl114 := hts (.constant RX6 114 (-1000000001)) (by decide +kernel)
  have fl115 := hts (.fieldLink RX6 115 "FittingStrides$Plan" "kinds" "[I") (by decide +kernel)
  have fl119 := hts (.fieldLink RX6 119 "FittingStrides$Plan" "lows" "[I") (by decide +kernel)
  have fl122 := hts (.fieldLink RX6 122 "FittingStrides$Plan" "highs" "[I") (by decide +kernel)
  have fl125 := hts (.fieldLink RX6 125 "FittingStrides$Plan" "parts" "[I") (by decide +kernel)
  have fl132 := hts (.fieldLink RX6 132 "FittingStrides$State" "steps" "[I") (by decide +kernel)
  have fl135 := hts (.fieldLink RX6 135 "FittingStrides$State" "worn" "[I") (by decide +kernel)
  subst hsz
  have hD := hD0.self (sz := s.heap.size)
  generalize hAe : va_A (wX6 a ct g) s.heap.size = A at hD hE ⊢
  have hA : ∀ q : Nat, s.heap.size ≤ q → A q := fun q h => by rw [← hAe]; exact Or.inr h
  have hW : WW G A s.heap (wX6 a ct g) s.heap [] := ⟨hP, hD, va_S.rf⟩
  have hl := lv_entry ([.ref (a 0), .int x1, .int x2]) (n := 4) (Nat.le_of_ble_eq_true rfl)
  rw [lg_entry_eq]
  generalize (lg_sl ([.ref (a 0), .int x1, .int x2]) ++ List.replicate (4 - (lg_sl ([.ref (a 0), .int x1, .int x2])).length) Slot.unset).toArray = ls at hl ⊢
  have hl : lv_has ls 4 [(0, .ref (a 0)), (1, .int x1), (2, .int x2)] := hl
  unfold f_X6_stair at hf
  show W p l e ({ frames := 3, cells := 0, slots := 0, locals := 74 } : Room) s m (List.toArray [.ref (a 0), .int x1, .int x2]) below meth c s.heap [] 0 0 (MQ below (va_Qi (fun r (_ : Unit) => r = o) (fun _ t => Af_ G ct (wX6 a ct g) A t) A) (List.toArray [.ref (a 0), .int x1, .int x2]) s 0 0 A) (F0 m 0 ls [])
  refine lv_aload_n hx hb dX6_stair_0 rfl (lv_at hl 0 rfl) ?_
  refine x_get (ci := 6) (v := .ref (a 26)) (C := RX6) (T := TX6) (N := 7) hx hb hts inX6 hown hK hW 0 rfl rfl 1 (by decide) fl19 (fun _ h9 => h9) rfl dX6_stair_1 ?_
  refine x_get (ci := 5) (v := .ref (a 27)) (C := RX5) (T := TX5) (N := 4) hx hb hts inX5 hown hK hW 17 rfl rfl 0 (by decide) fl84 (fun _ h9 => h9) rfl dX6_stair_4 ?_
  refine lv_astore_n (lv' := [(3, .ref (a 27)), (0, .ref (a 0)), (1, .int x1), (2, .int x2)]) hx hb dX6_stair_7 rfl hl (by decide) rfl (fun ls hl => ?_)
  refine lv_aload_n hx hb dX6_stair_8 rfl (lv_at hl 0 rfl) ?_
  refine lv_iload_n hx hb dX6_stair_9 rfl (lv_at hl 2 rfl) ?_
  replace hf := bs_ hf; obtain ⟨r1, hcl, hf⟩ := hf
  refine x_callV_i (w' := (wX6 a ct g)) (As := [.int x1]) (rest := []) (ci := 1) ⟨hx, hb, hml, hown, hts⟩ (c_X1_hasStair l N kd G ct (sh_ 27 a) (sh_ 27 g) x1 _ hcl) (cwV 1 hts gX6_stair_X1_hasStair rfl rfl rfl (by decide +kernel) ⟨Nat.le_of_ble_eq_true rfl, Nat.le_of_ble_eq_true rfl⟩) hK hE hA hW ((wX6 a ct g).take 18) ((wX6 a ct g).drop 23) (wc_X6_27 a ct g) (wc_X6_27 a ct g) 0 rfl rfl rfl rfl hl.1 rfl (lv_room (Nat.le_of_ble_eq_true rfl)) dX6_stair_10 (fun H locs hW => ?_)
  refine lv_if_ne (tgt := 19) hx hb dX6_stair_13 (by decide) (fun hc => ?_) (fun hc => ?_)
  · replace hf := ifn hc hf
    refine lv_iload_n hx hb dX6_stair_19 rfl (lv_at hl 3 rfl) ?_
    by_cases q0 : x2 = (0 : Int32)
    · replace hf := ifp q0 hf
      refine lv_tableIn (tgt := 72) (off := 52) hx hb dX6_stair_20 (by rw [q0]; decide) (by rw [q0]; decide) (by rw [q0]; rfl) (by decide) ?_
      refine lv_aload_n hx hb dX6_stair_72 rfl (lv_at hl 0 rfl) ?_
      refine x_get (ci := 1) (v := .ref (a 30)) (C := RX1) (T := TX1) (N := 6) hx hb hts inX1 hown hK hW 18 rfl rfl 2 (by decide) fl115 (fun _ h9 => h9) rfl dX6_stair_73 ?_
      refine lv_iload_n hx hb dX6_stair_76 rfl (lv_at hl 2 rfl) ?_
      replace hf := gd_s hf; obtain ⟨hin, hf⟩ := hf
      refine x_iald (n := 10) (f := g 30) hx hb hK hW 19 rfl (okI_in hin) dX6_stair_77 ?_
      have ho := Option.some.inj hf
      subst ho
      exact x_reti (sz := 0) (w0 := []) (A1 := A) hx hb hr hlocks hK hW rfl rfl dX6_stair_78
    · replace hf := ifn q0 hf
      by_cases q1 : x2 = (1 : Int32)
      · replace hf := ifp q1 hf
        refine lv_tableIn (tgt := 79) (off := 59) hx hb dX6_stair_20 (by rw [q1]; decide) (by rw [q1]; decide) (by rw [q1]; rfl) (by decide) ?_
        refine lv_aload_n hx hb dX6_stair_79 rfl (lv_at hl 0 rfl) ?_
        refine x_get (ci := 1) (v := .ref (a 31)) (C := RX1) (T := TX1) (N := 6) hx hb hts inX1 hown hK hW 18 rfl rfl 3 (by decide) fl119 (fun _ h9 => h9) rfl dX6_stair_80 ?_
        refine lv_iload_n hx hb dX6_stair_83 rfl (lv_at hl 2 rfl) ?_
        replace hf := gd_s hf; obtain ⟨hin, hf⟩ := hf
        refine x_iald (n := 10) (f := g 31) hx hb hK hW 20 rfl (okI_in hin) dX6_stair_84 ?_
        have ho := Option.some.inj hf
        subst ho
        exact x_reti (sz := 0) (w0 := []) (A1 := A) hx hb hr hlocks hK hW rfl rfl dX6_stair_85
      · replace hf := ifn q1 hf
        by_cases q2 : x2 = (2 : Int32)
        · replace hf := ifp q2 hf
          refine lv_tableIn (tgt := 86) (off := 66) hx hb dX6_stair_20 (by rw [q2]; decide) (by rw [q2]; decide) (by rw [q2]; rfl) (by decide) ?_
          refine lv_aload_n hx hb dX6_stair_86 rfl (lv_at hl 0 rfl) ?_
          refine x_get (ci := 1) (v := .ref (a 32)) (C := RX1) (T := TX1) (N := 6) hx hb hts inX1 hown hK hW 18 rfl rfl 4 (by decide) fl122 (fun _ h9 => h9) rfl dX6_stair_87 ?_
          refine lv_iload_n hx hb dX6_stair_90 rfl (lv_at hl 2 rfl) ?_
          replace hf := gd_s hf; obtain ⟨hin, hf⟩ := hf
          refine x_iald (n := 10) (f := g 32) hx hb hK hW 21 rfl (okI_in hin) dX6_stair_91 ?_
          have ho := Option.some.inj hf
          subst ho
          exact x_reti (sz := 0) (w0 := []) (A1 := A) hx hb hr hlocks hK hW rfl rfl dX6_stair_92
        · replace hf := ifn q2 hf
          by_cases q3 : x2 = (3 : Int32)
          · replace hf := ifp q3 hf
            refine lv_tableIn (tgt := 93) (off := 73) hx hb dX6_stair_20 (by rw [q3]; decide) (by rw [q3]; decide) (by rw [q3]; rfl) (by decide) ?_
            refine lv_aload_n hx hb dX6_stair_93 rfl (lv_at hl 0 rfl) ?_
            refine x_get (ci := 1) (v := .ref (a 33)) (C := RX1) (T := TX1) (N := 6) hx hb hts inX1 hown hK hW 18 rfl rfl 5 (by decide) fl125 (fun _ h9 => h9) rfl dX6_stair_94 ?_
            refine lv_iload_n hx hb dX6_stair_97 rfl (lv_at hl 2 rfl) ?_
            replace hf := gd_s hf; obtain ⟨hin, hf⟩ := hf
            refine x_iald (n := 10) (f := g 33) hx hb hK hW 22 rfl (okI_in hin) dX6_stair_98 ?_
            have ho := Option.some.inj hf
            subst ho
            exact x_reti (sz := 0) (w0 := []) (A1 := A) hx hb hr hlocks hK hW rfl rfl dX6_stair_99
          · replace hf := ifn q3 hf
            by_cases q4 : x2 = (4 : Int32)
            · replace hf := ifp q4 hf
              refine lv_tableIn (tgt := 100) (off := 80) hx hb dX6_stair_20 (by rw [q4]; decide) (by rw [q4]; decide) (by rw [q4]; rfl) (by decide) ?_
              refine lv_aload_n hx hb dX6_stair_100 rfl (lv_at hl 0 rfl) ?_
              refine lv_iload_n hx hb dX6_stair_101 rfl (lv_at hl 2 rfl) ?_
              refine lv_iload_n hx hb dX6_stair_102 rfl (lv_at hl 3 rfl) ?_
              refine lv_iconst (v := (4 : Int32)) hx hb dX6_stair_103 (by decide) ?_
              refine lv_isub hx hb dX6_stair_104 ?_
              replace hf := bs_ hf; obtain ⟨r2, hcl, hf⟩ := hf
              refine x_callV_i (w' := (wX6 a ct g)) (As := [.int x1, .int (x2 - (4 : Int32))]) (rest := []) (ci := 1) ⟨hx, hb, hml, hown, hts⟩ (c_X1_hasPart l N kd G ct (sh_ 27 a) (sh_ 27 g) x1 (x2 - (4 : Int32)) _ hcl) (cwV 2 hts gX6_stair_X1_hasPart rfl rfl rfl (by decide +kernel) ⟨Nat.le_of_ble_eq_true rfl, Nat.le_of_ble_eq_true rfl⟩) hK hE hA hW ((wX6 a ct g).take 18) ((wX6 a ct g).drop 23) (wc_X6_27 a ct g) (wc_X6_27 a ct g) 0 rfl rfl rfl rfl hl.1 rfl (lv_room (Nat.le_of_ble_eq_true rfl)) dX6_stair_105 (fun H locs hW => ?_)
              refine lv_if_eq (tgt := 132) hx hb dX6_stair_108 (by decide) (fun hc => ?_) (fun hc => ?_)
              · replace hf := ifp hc hf
                refine lv_iconst (v := (0 : Int32)) hx hb dX6_stair_132 (by decide) ?_
                have ho := Option.some.inj hf
                subst ho
                exact x_reti (sz := 0) (w0 := []) (A1 := A) hx hb hr hlocks hK hW rfl rfl dX6_stair_133
              · replace hf := ifn hc hf
                refine lv_aload_n hx hb dX6_stair_111 rfl (lv_at hl 1 rfl) ?_
                refine x_get (ci := 6) (v := .ref (a 26)) (C := RX6) (T := TX6) (N := 7) hx hb hts inX6 hown hK hW 0 rfl rfl 1 (by decide) fl19 (fun _ h9 => h9) rfl dX6_stair_112 ?_
                refine x_get (ci := 5) (v := .ref (a 34)) (C := RX5) (T := TX5) (N := 4) hx hb hts inX5 hown hK hW 17 rfl rfl 1 (by decide) fl96 (fun _ h9 => h9) rfl dX6_stair_115 ?_
                refine x_get (ci := 3) (v := .ref (a 39)) (C := RX3) (T := TX3) (N := 8) hx hb hts inX3 hown hK hW 23 rfl rfl 4 (by decide) fl132 (fun _ h9 => h9) rfl dX6_stair_118 ?_
                refine lv_iconst (v := (3 : Int32)) hx hb dX6_stair_121 (by decide) ?_
                refine lv_iload_n hx hb dX6_stair_122 rfl (lv_at hl 2 rfl) ?_
                refine lv_imul hx hb dX6_stair_123 ?_
                refine lv_iload_n hx hb dX6_stair_124 rfl (lv_at hl 3 rfl) ?_
                refine lv_iadd hx hb dX6_stair_125 ?_
                refine lv_iconst (v := (4 : Int32)) hx hb dX6_stair_126 (by decide) ?_
                refine lv_isub hx hb dX6_stair_127 ?_
                replace hf := gd_s hf; obtain ⟨hin, hf⟩ := hf
                refine x_iald (n := 30) (f := g 39) hx hb hK hW 27 rfl (okI_in hin) dX6_stair_128 ?_
                refine lv_goto (tgt := 133) hx hb dX6_stair_129 (by decide) ?_
                have ho := Option.some.inj hf
                subst ho
                exact x_reti (sz := 0) (w0 := []) (A1 := A) hx hb hr hlocks hK hW rfl rfl dX6_stair_133
            · replace hf := ifn q4 hf
              by_cases q5 : x2 = (5 : Int32)
              · replace hf := ifp q5 hf
                refine lv_tableIn (tgt := 100) (off := 80) hx hb dX6_stair_20 (by rw [q5]; decide) (by rw [q5]; decide) (by rw [q5]; rfl) (by decide) ?_
                refine lv_aload_n hx hb dX6_stair_100 rfl (lv_at hl 0 rfl) ?_
                refine lv_iload_n hx hb dX6_stair_101 rfl (lv_at hl 2 rfl) ?_
                refine lv_iload_n hx hb dX6_stair_102 rfl (lv_at hl 3 rfl) ?_
                refine lv_iconst (v := (4 : Int32)) hx hb dX6_stair_103 (by decide) ?_
                refine lv_isub hx hb dX6_stair_104 ?_
                replace hf := bs_ hf; obtain ⟨r3, hcl, hf⟩ := hf
                refine x_callV_i (w' := (wX6 a ct g)) (As := [.int x1, .int (x2 - (4 : Int32))]) (rest := []) (ci := 1) ⟨hx, hb, hml, hown, hts⟩ (c_X1_hasPart l N kd G ct (sh_ 27 a) (sh_ 27 g) x1 (x2 - (4 : Int32)) _ hcl) (cwV 2 hts gX6_stair_X1_hasPart rfl rfl rfl (by decide +kernel) ⟨Nat.le_of_ble_eq_true rfl, Nat.le_of_ble_eq_true rfl⟩) hK hE hA hW ((wX6 a ct g).take 18) ((wX6 a ct g).drop 23) (wc_X6_27 a ct g) (wc_X6_27 a ct g) 0 rfl rfl rfl rfl hl.1 rfl (lv_room (Nat.le_of_ble_eq_true rfl)) dX6_stair_105 (fun H locs hW => ?_)
                refine lv_if_eq (tgt := 132) hx hb dX6_stair_108 (by decide) (fun hc => ?_) (fun hc => ?_)
                · replace hf := ifp hc hf
                  refine lv_iconst (v := (0 : Int32)) hx hb dX6_stair_132 (by decide) ?_
                  have ho := Option.some.inj hf
                  subst ho
                  exact x_reti (sz := 0) (w0 := []) (A1 := A) hx hb hr hlocks hK hW rfl rfl dX6_stair_133
                · replace hf := ifn hc hf
                  refine lv_aload_n hx hb dX6_stair_111 rfl (lv_at hl 1 rfl) ?_
                  refine x_get (ci := 6) (v := .ref (a 26)) (C := RX6) (T := TX6) (N := 7) hx hb hts inX6 hown hK hW 0 rfl rfl 1 (by decide) fl19 (fun _ h9 => h9) rfl dX6_stair_112 ?_
                  refine x_get (ci := 5) (v := .ref (a 34)) (C := RX5) (T := TX5) (N := 4) hx hb hts inX5 hown hK hW 17 rfl rfl 1 (by decide) fl96 (fun _ h9 => h9) rfl dX6_stair_115 ?_
                  refine x_get (ci := 3) (v := .ref (a 39)) (C := RX3) (T := TX3) (N := 8) hx hb hts inX3 hown hK hW 23 rfl rfl 4 (by decide) fl132 (fun _ h9 => h9) rfl dX6_stair_118 ?_
                  refine lv_iconst (v := (3 : Int32)) hx hb dX6_stair_121 (by decide) ?_
                  refine lv_iload_n hx hb dX6_stair_122 rfl (lv_at hl 2 rfl) ?_
                  refine lv_imul hx hb dX6_stair_123 ?_
                  refine lv_iload_n hx hb dX6_stair_124 rfl (lv_at hl 3 rfl) ?_
                  refine lv_iadd hx hb dX6_stair_125 ?_
                  refine lv_iconst (v := (4 : Int32)) hx hb dX6_stair_126 (by decide) ?_
                  refine lv_isub hx hb dX6_stair_127 ?_
                  replace hf := gd_s hf; obtain ⟨hin, hf⟩ := hf
                  refine x_iald (n := 30) (f := g 39) hx hb hK hW 27 rfl (okI_in hin) dX6_stair_128 ?_
                  refine lv_goto (tgt := 133) hx hb dX6_stair_129 (by decide) ?_
                  have ho := Option.some.inj hf
                  subst ho
                  exact x_reti (sz := 0) (w0 := []) (A1 := A) hx hb hr hlocks hK hW rfl rfl dX6_stair_133
              · replace hf := ifn q5 hf
                by_cases q6 : x2 = (6 : Int32)
                · replace hf := ifp q6 hf
                  refine lv_tableIn (tgt := 100) (off := 80) hx hb dX6_stair_20 (by rw [q6]; decide) (by rw [q6]; decide) (by rw [q6]; rfl) (by decide) ?_
                  refine lv_aload_n hx hb dX6_stair_100 rfl (lv_at hl 0 rfl) ?_
                  refine lv_iload_n hx hb dX6_stair_101 rfl (lv_at hl 2 rfl) ?_
                  refine lv_iload_n hx hb dX6_stair_102 rfl (lv_at hl 3 rfl) ?_
                  refine lv_iconst (v := (4 : Int32)) hx hb dX6_stair_103 (by decide) ?_
                  refine lv_isub hx hb dX6_stair_104 ?_
                  replace hf := bs_ hf; obtain ⟨r4, hcl, hf⟩ := hf
                  refine x_callV_i (w' := (wX6 a ct g)) (As := [.int x1, .int (x2 - (4 : Int32))]) (rest := []) (ci := 1) ⟨hx, hb, hml, hown, hts⟩ (c_X1_hasPart l N kd G ct (sh_ 27 a) (sh_ 27 g) x1 (x2 - (4 : Int32)) _ hcl) (cwV 2 hts gX6_stair_X1_hasPart rfl rfl rfl (by decide +kernel) ⟨Nat.le_of_ble_eq_true rfl, Nat.le_of_ble_eq_true rfl⟩) hK hE hA hW ((wX6 a ct g).take 18) ((wX6 a ct g).drop 23) (wc_X6_27 a ct g) (wc_X6_27 a ct g) 0 rfl rfl rfl rfl hl.1 rfl (lv_room (Nat.le_of_ble_eq_true rfl)) dX6_stair_105 (fun H locs hW => ?_)
                  refine lv_if_eq (tgt := 132) hx hb dX6_stair_108 (by decide) (fun hc => ?_) (fun hc => ?_)
                  · replace hf := ifp hc hf
                    refine lv_iconst (v := (0 : Int32)) hx hb dX6_stair_132 (by decide) ?_
                    have ho := Option.some.inj hf
                    subst ho
                    exact x_reti (sz := 0) (w0 := []) (A1 := A) hx hb hr hlocks hK hW rfl rfl dX6_stair_133
                  · replace hf := ifn hc hf
                    refine lv_aload_n hx hb dX6_stair_111 rfl (lv_at hl 1 rfl) ?_
                    refine x_get (ci := 6) (v := .ref (a 26)) (C := RX6) (T := TX6) (N := 7) hx hb hts inX6 hown hK hW 0 rfl rfl 1 (by decide) fl19 (fun _ h9 => h9) rfl dX6_stair_112 ?_
                    refine x_get (ci := 5) (v := .ref (a 34)) (C := RX5) (T := TX5) (N := 4) hx hb hts inX5 hown hK hW 17 rfl rfl 1 (by decide) fl96 (fun _ h9 => h9) rfl dX6_stair_115 ?_
                    refine x_get (ci := 3) (v := .ref (a 39)) (C := RX3) (T := TX3) (N := 8) hx hb hts inX3 hown hK hW 23 rfl rfl 4 (by decide) fl132 (fun _ h9 => h9) rfl dX6_stair_118 ?_
                    refine lv_iconst (v := (3 : Int32)) hx hb dX6_stair_121 (by decide) ?_
                    refine lv_iload_n hx hb dX6_stair_122 rfl (lv_at hl 2 rfl) ?_
                    refine lv_imul hx hb dX6_stair_123 ?_
                    refine lv_iload_n hx hb dX6_stair_124 rfl (lv_at hl 3 rfl) ?_
                    refine lv_iadd hx hb dX6_stair_125 ?_
                    refine lv_iconst (v := (4 : Int32)) hx hb dX6_stair_126 (by decide) ?_
                    refine lv_isub hx hb dX6_stair_127 ?_
                    replace hf := gd_s hf; obtain ⟨hin, hf⟩ := hf
                    refine x_iald (n := 30) (f := g 39) hx hb hK hW 27 rfl (okI_in hin) dX6_stair_128 ?_
                    refine lv_goto (tgt := 133) hx hb dX6_stair_129 (by decide) ?_
                    have ho := Option.some.inj hf
                    subst ho
                    exact x_reti (sz := 0) (w0 := []) (A1 := A) hx hb hr hlocks hK hW rfl rfl dX6_stair_133
                · replace hf := ifn q6 hf
                  by_cases q7 : x2 = (7 : Int32)
                  · replace hf := ifp q7 hf
                    refine lv_tableIn (tgt := 134) (off := 114) hx hb dX6_stair_20 (by rw [q7]; decide) (by rw [q7]; decide) (by rw [q7]; rfl) (by decide) ?_
                    refine lv_aload_n hx hb dX6_stair_134 rfl (lv_at hl 1 rfl) ?_
                    refine x_get (ci := 6) (v := .ref (a 26)) (C := RX6) (T := TX6) (N := 7) hx hb hts inX6 hown hK hW 0 rfl rfl 1 (by decide) fl19 (fun _ h9 => h9) rfl dX6_stair_135 ?_
                    refine x_get (ci := 5) (v := .ref (a 34)) (C := RX5) (T := TX5) (N := 4) hx hb hts inX5 hown hK hW 17 rfl rfl 1 (by decide) fl96 (fun _ h9 => h9) rfl dX6_stair_138 ?_
                    refine x_get (ci := 3) (v := .ref (a 40)) (C := RX3) (T := TX3) (N := 8) hx hb hts inX3 hown hK hW 23 rfl rfl 5 (by decide) fl135 (fun _ h9 => h9) rfl dX6_stair_141 ?_
                    refine lv_iload_n hx hb dX6_stair_144 rfl (lv_at hl 2 rfl) ?_
                    replace hf := gd_s hf; obtain ⟨hin, hf⟩ := hf
                    refine x_iald (n := 10) (f := g 40) hx hb hK hW 28 rfl (okI_in hin) dX6_stair_145 ?_
                    have ho := Option.some.inj hf
                    subst ho
                    exact x_reti (sz := 0) (w0 := []) (A1 := A) hx hb hr hlocks hK hW rfl rfl dX6_stair_146
                  · replace hf := ifn q7 hf
                    by_cases q8 : x2 = (8 : Int32)
                    · replace hf := ifp q8 hf
                      refine lv_tableIn (tgt := 147) (off := 127) hx hb dX6_stair_20 (by rw [q8]; decide) (by rw [q8]; decide) (by rw [q8]; rfl) (by decide) ?_
                      refine lv_aload_n hx hb dX6_stair_147 rfl (lv_at hl 1 rfl) ?_
                      refine x_get (ci := 6) (v := .ref (a 26)) (C := RX6) (T := TX6) (N := 7) hx hb hts inX6 hown hK hW 0 rfl rfl 1 (by decide) fl19 (fun _ h9 => h9) rfl dX6_stair_148 ?_
                      refine lv_iload_n hx hb dX6_stair_151 rfl (lv_at hl 2 rfl) ?_
                      refine lv_iconst (v := (-1 : Int32)) hx hb dX6_stair_152 (by decide) ?_
                      refine lv_iconst (v := (0 : Int32)) hx hb dX6_stair_153 (by decide) ?_
                      replace hf := bs_ hf; obtain ⟨r5, hcl, hf⟩ := hf
                      refine x_callV_i (w' := (wX6 a ct g)) (As := [.int x1, .int (-1 : Int32), .int (0 : Int32)]) (rest := []) (ci := 5) ⟨hx, hb, hml, hown, hts⟩ (c_X5_climbers l N kd G ct (sh_ 26 a) (sh_ 26 g) x1 (-1 : Int32) (0 : Int32) _ hcl) (cwV 3 hts gX6_stair_X5_climbers rfl rfl rfl (by decide +kernel) ⟨Nat.le_of_ble_eq_true rfl, Nat.le_of_ble_eq_true rfl⟩) hK hE hA hW ((wX6 a ct g).take 17) ((wX6 a ct g).drop 31) (wc_X6_26 a ct g) (wc_X6_26 a ct g) 0 rfl rfl rfl rfl hl.1 rfl (lv_room (Nat.le_of_ble_eq_true rfl)) dX6_stair_154 (fun H locs hW => ?_)
                      have ho := Option.some.inj hf
                      subst ho
                      exact x_reti (sz := 0) (w0 := []) (A1 := A) hx hb hr hlocks hK hW rfl rfl dX6_stair_157
                    · replace hf := ifn q8 hf
                      refine lv_tableOut (tgt := 158) hx hb dX6_stair_20 (by have h0 := lv_neT q0 (show (0 : Int32).toInt = 0 from rfl); have h1 := lv_neT q1 (show (1 : Int32).toInt = 1 from rfl); have h2 := lv_neT q2 (show (2 : Int32).toInt = 2 from rfl); have h3 := lv_neT q3 (show (3 : Int32).toInt = 3 from rfl); have h4 := lv_neT q4 (show (4 : Int32).toInt = 4 from rfl); have h5 := lv_neT q5 (show (5 : Int32).toInt = 5 from rfl); have h6 := lv_neT q6 (show (6 : Int32).toInt = 6 from rfl); have h7 := lv_neT q7 (show (7 : Int32).toInt = 7 from rfl); have h8 := lv_neT q8 (show (8 : Int32).toInt = 8 from rfl); omega) (by decide) ?_
                      refine lv_ldc (v := (-1000000002 : Int32)) hx hb hown fl52 dX6_stair_158 ?_
                      have ho := Option.some.inj hf
                      subst ho
                      exact x_reti (sz := 0) (w0 := []) (A1 := A) hx hb hr hlocks hK hW rfl rfl dX6_stair_160
  · replace hf := ifp hc hf
    refine lv_ldc (v := (-1000000001 : Int32)) hx hb hown fl114 dX6_stair_16 ?_
    have ho := Option.some.inj hf
    subst ho
    exact x_reti (sz := 0) (w0 := []) (A1 := A) hx hb hr hlocks hK hW rfl rfl dX6_stair_18
set_option maxHeartbeats 4000000 in
set_option maxRecDepth 100000 in
theorem c_X6_person (l : Launch) (N : Nat) (kd : (Nat → Nat) × (Nat → Nat)) (G : va_G) (ct : Nat → ClassId) (a : Nat → Nat) (g : St_) (x1 : Int32) (x2 : Int32) (o : Int32) (hf : f_X6_person N g x1 x2 = some o) : CtI l yX6_person wsX6_person ({ frames := 5, cells := 0, slots := 0, locals := 118 }) kd G ct [.ref (a 0), .int x1, .int x2] (wX6 a ct g) o (wX6 a ct g) := by
  intro sz
  refine Met.ofW (cc := cX6_person) (maxL := 4) (ret := (some .int)) (by decide) rfl ?_
  intro p e s m args below meth c s₁ B hml hv
  obtain ⟨rfl, hsz, hP, hK, hD0, hE⟩ := hv
  have hx := B.exec
  have hb := B.bytes
  have hr := B.returns
  have hts := atoms_spec (ws := wsX6_person) B.pre
  have hown : s.vm.findClass RX6 = some m.cls := findClass_of_methodNamed B.named
  have hlocks := B.notSynchronized
  have inX3 : ∀ w ∈ wsX30, w ∈ wsX6_person := by decide +kernel
  have inX5 : ∀ w ∈ wsX50, w ∈ wsX6_person := by decide +kernel
  have inX6 : ∀ w ∈ wsX60, w ∈ wsX6_person := by decide +kernel
  have fl19 := hts (.fieldLink RX6 19 "FittingStrides" "now" "LFittingStrides$Town;") (by decide +kernel)
  have fl52 := hts (.constant RX6 52 (-1000000002)) (by decide +kernel)
  have fl96 := hts (.fieldLink RX6 96 "FittingStrides$Town" "state" "LFittingStrides$State;") (by decide +kernel)
  have fl114 := hts (.constant RX6 114 (-1000000001)) (by decide +kernel)
  have fl145 := hts (.fieldLink RX6 145 "FittingStrides$State" "at" "[I") (by decide +kernel)
  have fl148 := hts (.fieldLink RX6 148 "FittingStrides$State" "firsts" "[I") (by decide +kernel)
  have fl151 := hts (.fieldLink RX6 151 "FittingStrides$State" "seconds" "[I") (by decide +kernel)
  subst hsz
  have hD := hD0.self (sz := s.heap.size)
  generalize hAe : va_A (wX6 a ct g) s.heap.size = A at hD hE ⊢
  have hA : ∀ q : Nat, s.heap.size ≤ q → A q := fun q h => by rw [← hAe]; exact Or.inr h
  have hW : WW G A s.heap (wX6 a ct g) s.heap [] := ⟨hP, hD, va_S.rf⟩
  have hl := lv_entry ([.ref (a 0), .int x1, .int x2]) (n := 4) (Nat.le_of_ble_eq_true rfl)
  rw [lg_entry_eq]
  generalize (lg_sl ([.ref (a 0), .int x1, .int x2]) ++ List.replicate (4 - (lg_sl ([.ref (a 0), .int x1, .int x2])).length) Slot.unset).toArray = ls at hl ⊢
  have hl : lv_has ls 4 [(0, .ref (a 0)), (1, .int x1), (2, .int x2)] := hl
  unfold f_X6_person at hf
  show W p l e ({ frames := 5, cells := 0, slots := 0, locals := 118 } : Room) s m (List.toArray [.ref (a 0), .int x1, .int x2]) below meth c s.heap [] 0 0 (MQ below (va_Qi (fun r (_ : Unit) => r = o) (fun _ t => Af_ G ct (wX6 a ct g) A t) A) (List.toArray [.ref (a 0), .int x1, .int x2]) s 0 0 A) (F0 m 0 ls [])
  refine lv_aload_n hx hb dX6_person_0 rfl (lv_at hl 0 rfl) ?_
  refine x_get (ci := 6) (v := .ref (a 26)) (C := RX6) (T := TX6) (N := 7) hx hb hts inX6 hown hK hW 0 rfl rfl 1 (by decide) fl19 (fun _ h9 => h9) rfl dX6_person_1 ?_
  refine x_get (ci := 5) (v := .ref (a 34)) (C := RX5) (T := TX5) (N := 4) hx hb hts inX5 hown hK hW 17 rfl rfl 1 (by decide) fl96 (fun _ h9 => h9) rfl dX6_person_4 ?_
  refine lv_astore_n (lv' := [(3, .ref (a 34)), (0, .ref (a 0)), (1, .int x1), (2, .int x2)]) hx hb dX6_person_7 rfl hl (by decide) rfl (fun ls hl => ?_)
  refine lv_aload_n hx hb dX6_person_8 rfl (lv_at hl 0 rfl) ?_
  refine lv_iload_n hx hb dX6_person_9 rfl (lv_at hl 2 rfl) ?_
  replace hf := bs_ hf; obtain ⟨r1, hcl, hf⟩ := hf
  refine x_callV_i (w' := (wX6 a ct g)) (As := [.int x1]) (rest := []) (ci := 3) ⟨hx, hb, hml, hown, hts⟩ (c_X3_hasPerson l N kd G ct (sh_ 34 a) (sh_ 34 g) x1 _ hcl) (cwV 1 hts gX6_person_X3_hasPerson rfl rfl rfl (by decide +kernel) ⟨Nat.le_of_ble_eq_true rfl, Nat.le_of_ble_eq_true rfl⟩) hK hE hA hW ((wX6 a ct g).take 23) ((wX6 a ct g).drop 29) (wc_X6_34 a ct g) (wc_X6_34 a ct g) 0 rfl rfl rfl rfl hl.1 rfl (lv_room (Nat.le_of_ble_eq_true rfl)) dX6_person_10 (fun H locs hW => ?_)
  refine lv_if_ne (tgt := 19) hx hb dX6_person_13 (by decide) (fun hc => ?_) (fun hc => ?_)
  · replace hf := ifn hc hf
    refine lv_iload_n hx hb dX6_person_19 rfl (lv_at hl 3 rfl) ?_
    by_cases q0 : x2 = (0 : Int32)
    · replace hf := ifp q0 hf
      refine lv_tableIn (tgt := 52) (off := 32) hx hb dX6_person_20 (by rw [q0]; decide) (by rw [q0]; decide) (by rw [q0]; rfl) (by decide) ?_
      refine lv_aload_n hx hb dX6_person_52 rfl (lv_at hl 0 rfl) ?_
      refine x_get (ci := 3) (v := .ref (a 36)) (C := RX3) (T := TX3) (N := 8) hx hb hts inX3 hown hK hW 23 rfl rfl 1 (by decide) fl145 (fun _ h9 => h9) rfl dX6_person_53 ?_
      refine lv_iload_n hx hb dX6_person_56 rfl (lv_at hl 2 rfl) ?_
      replace hf := gd_s hf; obtain ⟨hin, hf⟩ := hf
      refine x_iald (n := 8) (f := g 36) hx hb hK hW 24 rfl (okI_in hin) dX6_person_57 ?_
      have ho := Option.some.inj hf
      subst ho
      exact x_reti (sz := 0) (w0 := []) (A1 := A) hx hb hr hlocks hK hW rfl rfl dX6_person_58
    · replace hf := ifn q0 hf
      by_cases q1 : x2 = (1 : Int32)
      · replace hf := ifp q1 hf
        refine lv_tableIn (tgt := 59) (off := 39) hx hb dX6_person_20 (by rw [q1]; decide) (by rw [q1]; decide) (by rw [q1]; rfl) (by decide) ?_
        refine lv_aload_n hx hb dX6_person_59 rfl (lv_at hl 0 rfl) ?_
        refine x_get (ci := 3) (v := .ref (a 37)) (C := RX3) (T := TX3) (N := 8) hx hb hts inX3 hown hK hW 23 rfl rfl 2 (by decide) fl148 (fun _ h9 => h9) rfl dX6_person_60 ?_
        refine lv_iload_n hx hb dX6_person_63 rfl (lv_at hl 2 rfl) ?_
        replace hf := gd_s hf; obtain ⟨hin, hf⟩ := hf
        refine x_iald (n := 8) (f := g 37) hx hb hK hW 25 rfl (okI_in hin) dX6_person_64 ?_
        have ho := Option.some.inj hf
        subst ho
        exact x_reti (sz := 0) (w0 := []) (A1 := A) hx hb hr hlocks hK hW rfl rfl dX6_person_65
      · replace hf := ifn q1 hf
        by_cases q2 : x2 = (2 : Int32)
        · replace hf := ifp q2 hf
          refine lv_tableIn (tgt := 66) (off := 46) hx hb dX6_person_20 (by rw [q2]; decide) (by rw [q2]; decide) (by rw [q2]; rfl) (by decide) ?_
          refine lv_aload_n hx hb dX6_person_66 rfl (lv_at hl 0 rfl) ?_
          refine x_get (ci := 3) (v := .ref (a 38)) (C := RX3) (T := TX3) (N := 8) hx hb hts inX3 hown hK hW 23 rfl rfl 3 (by decide) fl151 (fun _ h9 => h9) rfl dX6_person_67 ?_
          refine lv_iload_n hx hb dX6_person_70 rfl (lv_at hl 2 rfl) ?_
          replace hf := gd_s hf; obtain ⟨hin, hf⟩ := hf
          refine x_iald (n := 8) (f := g 38) hx hb hK hW 26 rfl (okI_in hin) dX6_person_71 ?_
          have ho := Option.some.inj hf
          subst ho
          exact x_reti (sz := 0) (w0 := []) (A1 := A) hx hb hr hlocks hK hW rfl rfl dX6_person_72
        · replace hf := ifn q2 hf
          by_cases q3 : x2 = (3 : Int32)
          · replace hf := ifp q3 hf
            refine lv_tableIn (tgt := 73) (off := 53) hx hb dX6_person_20 (by rw [q3]; decide) (by rw [q3]; decide) (by rw [q3]; rfl) (by decide) ?_
            refine lv_aload_n hx hb dX6_person_73 rfl (lv_at hl 1 rfl) ?_
            refine x_get (ci := 6) (v := .ref (a 26)) (C := RX6) (T := TX6) (N := 7) hx hb hts inX6 hown hK hW 0 rfl rfl 1 (by decide) fl19 (fun _ h9 => h9) rfl dX6_person_74 ?_
            refine lv_iload_n hx hb dX6_person_77 rfl (lv_at hl 2 rfl) ?_
            replace hf := bs_ hf; obtain ⟨r2, hcl, hf⟩ := hf
            refine x_callV_i (w' := (wX6 a ct g)) (As := [.int x1]) (rest := []) (ci := 5) ⟨hx, hb, hml, hown, hts⟩ (c_X5_reachOfPerson l N kd G ct (sh_ 26 a) (sh_ 26 g) x1 _ hcl) (cwV 1 hts gX6_person_X5_reachOfPerson rfl rfl rfl (by decide +kernel) ⟨Nat.le_of_ble_eq_true rfl, Nat.le_of_ble_eq_true rfl⟩) hK hE hA hW ((wX6 a ct g).take 17) ((wX6 a ct g).drop 31) (wc_X6_26 a ct g) (wc_X6_26 a ct g) 0 rfl rfl rfl rfl hl.1 rfl (lv_room (Nat.le_of_ble_eq_true rfl)) dX6_person_78 (fun H locs hW => ?_)
            have ho := Option.some.inj hf
            subst ho
            exact x_reti (sz := 0) (w0 := []) (A1 := A) hx hb hr hlocks hK hW rfl rfl dX6_person_81
          · replace hf := ifn q3 hf
            refine lv_tableOut (tgt := 82) hx hb dX6_person_20 (by have h0 := lv_neT q0 (show (0 : Int32).toInt = 0 from rfl); have h1 := lv_neT q1 (show (1 : Int32).toInt = 1 from rfl); have h2 := lv_neT q2 (show (2 : Int32).toInt = 2 from rfl); have h3 := lv_neT q3 (show (3 : Int32).toInt = 3 from rfl); omega) (by decide) ?_
            refine lv_ldc (v := (-1000000002 : Int32)) hx hb hown fl52 dX6_person_82 ?_
            have ho := Option.some.inj hf
            subst ho
            exact x_reti (sz := 0) (w0 := []) (A1 := A) hx hb hr hlocks hK hW rfl rfl dX6_person_84
  · replace hf := ifp hc hf
    refine lv_ldc (v := (-1000000001 : Int32)) hx hb hown fl114 dX6_person_16 ?_
    have ho := Option.some.inj hf
    subst ho
    exact x_reti (sz := 0) (w0 := []) (A1 := A) hx hb hr hlocks hK hW rfl rfl dX6_person_18
set_option maxHeartbeats 4000000 in
set_option maxRecDepth 100000 in
theorem c_X6_isStride (l : Launch) (N : Nat) (kd : (Nat → Nat) × (Nat → Nat)) (G : va_G) (ct : Nat → ClassId) (x0 : Int32) (o : Int32) (hf : f_X6_isStride N x0 = some o) : CtI l yX6_isStride wsX6_isStride ({ frames := 0, cells := 0, slots := 0, locals := 0 }) kd G ct [.int x0] ([] : va_W) o ([] : va_W) := by
  intro sz
  refine Met.ofW (cc := cX6_isStride) (maxL := 1) (ret := (some .boolean)) (by decide) rfl ?_
  intro p e s m args below meth c s₁ B hml hv
  obtain ⟨rfl, hsz, hP, hK, hD0, hE⟩ := hv
  have hx := B.exec
  have hb := B.bytes
  have hr := B.returns
  have hts := atoms_spec (ws := wsX6_isStride) B.pre
  have hown : s.vm.findClass RX6 = some m.cls := findClass_of_methodNamed B.named
  have hlocks := B.notSynchronized
  subst hsz
  have hD := hD0.self (sz := s.heap.size)
  generalize hAe : va_A ([] : va_W) s.heap.size = A at hD hE ⊢
  have hA : ∀ q : Nat, s.heap.size ≤ q → A q := fun q h => by rw [← hAe]; exact Or.inr h
  have hW : WW G A s.heap ([] : va_W) s.heap [] := ⟨hP, hD, va_S.rf⟩
  have hl := lv_entry ([.int x0]) (n := 1) (Nat.le_of_ble_eq_true rfl)
  rw [lg_entry_eq]
  generalize (lg_sl ([.int x0]) ++ List.replicate (1 - (lg_sl ([.int x0])).length) Slot.unset).toArray = ls at hl ⊢
  have hl : lv_has ls 1 [(0, .int x0)] := hl
  unfold f_X6_isStride at hf
  show W p l e ({ frames := 0, cells := 0, slots := 0, locals := 0 } : Room) s m (List.toArray [.int x0]) below meth c s.heap [] 0 0 (MQ below (va_Qi (fun r (_ : Unit) => r = o) (fun _ t => Af_ G ct ([] : va_W) A t) A) (List.toArray [.int x0]) s 0 0 A) (F0 m 0 ls [])
  refine lv_iload_n hx hb dX6_isStride_0 rfl (lv_at hl 0 rfl) ?_
  refine lv_iconst (v := (1 : Int32)) hx hb dX6_isStride_1 (by decide) ?_
  refine lv_icmp_lt (tgt := 15) hx hb dX6_isStride_2 (by decide) (fun hc => ?_) (fun hc => ?_)
  · replace hf := ifp hc hf
    refine lv_iconst (v := (0 : Int32)) hx hb dX6_isStride_15 (by decide) ?_
    have ho := Option.some.inj hf
    subst ho
    exact x_retz hx hb hr rfl hlocks hK hW rfl rfl dX6_isStride_16
  · replace hf := ifn hc hf
    refine lv_iload_n hx hb dX6_isStride_5 rfl (lv_at hl 0 rfl) ?_
    refine lv_bipush (v := (24 : Int32)) hx hb dX6_isStride_6 (by decide) ?_
    refine lv_icmp_gt (tgt := 15) hx hb dX6_isStride_8 (by decide) (fun hc => ?_) (fun hc => ?_)
    · replace hf := ifp hc hf
      refine lv_iconst (v := (0 : Int32)) hx hb dX6_isStride_15 (by decide) ?_
      have ho := Option.some.inj hf
      subst ho
      exact x_retz hx hb hr rfl hlocks hK hW rfl rfl dX6_isStride_16
    · replace hf := ifn hc hf
      refine lv_iconst (v := (1 : Int32)) hx hb dX6_isStride_11 (by decide) ?_
      refine lv_goto (tgt := 16) hx hb dX6_isStride_12 (by decide) ?_
      have ho := Option.some.inj hf
      subst ho
      exact x_retz hx hb hr rfl hlocks hK hW rfl rfl dX6_isStride_16
set_option maxHeartbeats 4000000 in
set_option maxRecDepth 100000 in
theorem c_X6_fit (l : Launch) (N : Nat) (kd : (Nat → Nat) × (Nat → Nat)) (G : va_G) (ct : Nat → ClassId) (a : Nat → Nat) (g : St_) (x1 : Int32) (x2 : Int32) (o : Int32) (hf : f_X6_fit N g x1 x2 = some o) : CtI l yX6_fit wsX6_fit ({ frames := 2, cells := 0, slots := 0, locals := 49 }) kd G ct [.ref (a 0), .int x1, .int x2] (wX6 a ct g) o (wX6 a ct g) := by
  intro sz
  refine Met.ofW (cc := cX6_fit) (maxL := 3) (ret := (some .int)) (by decide) rfl ?_
  intro p e s m args below meth c s₁ B hml hv
  obtain ⟨rfl, hsz, hP, hK, hD0, hE⟩ := hv
  have hx := B.exec
  have hb := B.bytes
  have hr := B.returns
  have hts := atoms_spec (ws := wsX6_fit) B.pre
  have hown : s.vm.findClass RX6 = some m.cls := findClass_of_methodNamed B.named
  have hlocks := B.notSynchronized
  have inX5 : ∀ w ∈ wsX50, w ∈ wsX6_fit := by decide +kernel
  have inX6 : ∀ w ∈ wsX60, w ∈ wsX6_fit := by decide +kernel
  have fl19 := hts (.fieldLink RX6 19 "FittingStrides" "now" "LFittingStrides$Town;") (by decide +kernel)
  have fl52 := hts (.constant RX6 52 (-1000000002)) (by decide +kernel)
  have fl84 := hts (.fieldLink RX6 84 "FittingStrides$Town" "plan" "LFittingStrides$Plan;") (by decide +kernel)
  have fl114 := hts (.constant RX6 114 (-1000000001)) (by decide +kernel)
  subst hsz
  have hD := hD0.self (sz := s.heap.size)
  generalize hAe : va_A (wX6 a ct g) s.heap.size = A at hD hE ⊢
  have hA : ∀ q : Nat, s.heap.size ≤ q → A q := fun q h => by rw [← hAe]; exact Or.inr h
  have hW : WW G A s.heap (wX6 a ct g) s.heap [] := ⟨hP, hD, va_S.rf⟩
  have hl := lv_entry ([.ref (a 0), .int x1, .int x2]) (n := 3) (Nat.le_of_ble_eq_true rfl)
  rw [lg_entry_eq]
  generalize (lg_sl ([.ref (a 0), .int x1, .int x2]) ++ List.replicate (3 - (lg_sl ([.ref (a 0), .int x1, .int x2])).length) Slot.unset).toArray = ls at hl ⊢
  have hl : lv_has ls 3 [(0, .ref (a 0)), (1, .int x1), (2, .int x2)] := hl
  unfold f_X6_fit at hf
  show W p l e ({ frames := 2, cells := 0, slots := 0, locals := 49 } : Room) s m (List.toArray [.ref (a 0), .int x1, .int x2]) below meth c s.heap [] 0 0 (MQ below (va_Qi (fun r (_ : Unit) => r = o) (fun _ t => Af_ G ct (wX6 a ct g) A t) A) (List.toArray [.ref (a 0), .int x1, .int x2]) s 0 0 A) (F0 m 0 ls [])
  refine lv_aload_n hx hb dX6_fit_0 rfl (lv_at hl 0 rfl) ?_
  refine x_get (ci := 6) (v := .ref (a 26)) (C := RX6) (T := TX6) (N := 7) hx hb hts inX6 hown hK hW 0 rfl rfl 1 (by decide) fl19 (fun _ h9 => h9) rfl dX6_fit_1 ?_
  refine x_get (ci := 5) (v := .ref (a 27)) (C := RX5) (T := TX5) (N := 4) hx hb hts inX5 hown hK hW 17 rfl rfl 0 (by decide) fl84 (fun _ h9 => h9) rfl dX6_fit_4 ?_
  refine lv_iload_n hx hb dX6_fit_7 rfl (lv_at hl 1 rfl) ?_
  replace hf := bs_ hf; obtain ⟨r1, hcl, hf⟩ := hf
  refine x_callV_i (w' := (wX6 a ct g)) (As := [.int x1]) (rest := []) (ci := 1) ⟨hx, hb, hml, hown, hts⟩ (c_X1_hasStair l N kd G ct (sh_ 27 a) (sh_ 27 g) x1 _ hcl) (cwV 1 hts gX6_fit_X1_hasStair rfl rfl rfl (by decide +kernel) ⟨Nat.le_of_ble_eq_true rfl, Nat.le_of_ble_eq_true rfl⟩) hK hE hA hW ((wX6 a ct g).take 18) ((wX6 a ct g).drop 23) (wc_X6_27 a ct g) (wc_X6_27 a ct g) 0 rfl rfl rfl rfl hl.1 rfl (lv_room (Nat.le_of_ble_eq_true rfl)) dX6_fit_8 (fun H locs hW => ?_)
  refine lv_if_ne (tgt := 17) hx hb dX6_fit_11 (by decide) (fun hc => ?_) (fun hc => ?_)
  · replace hf := ifn hc hf
    refine lv_iload_n hx hb dX6_fit_17 rfl (lv_at hl 2 rfl) ?_
    replace hf := bs_ hf; obtain ⟨r2, hcl, hf⟩ := hf
    refine x_callS_i (As := [.int x2]) (rest := []) ⟨hx, hb, hml, hown, hts⟩ (c_X6_isStride l N kd G ct x2 _ hcl) (va_cwS 1 hts gX6_fit_X6_isStride rfl rfl rfl (by decide +kernel) ⟨Nat.le_of_ble_eq_true rfl, Nat.le_of_ble_eq_true rfl⟩) hK hE hA hW rfl hl.1 rfl (lv_room (Nat.le_of_ble_eq_true rfl)) dX6_fit_18 (fun H locs hW => ?_)
    refine lv_if_ne (tgt := 27) hx hb dX6_fit_21 (by decide) (fun hc => ?_) (fun hc => ?_)
    · replace hf := ifn hc hf
      refine lv_aload_n hx hb dX6_fit_27 rfl (lv_at hl 0 rfl) ?_
      refine x_get (ci := 6) (v := .ref (a 26)) (C := RX6) (T := TX6) (N := 7) hx hb hts inX6 hown hK hW 0 rfl rfl 1 (by decide) fl19 (fun _ h9 => h9) rfl dX6_fit_28 ?_
      refine lv_iload_n hx hb dX6_fit_31 rfl (lv_at hl 1 rfl) ?_
      refine lv_iload_n hx hb dX6_fit_32 rfl (lv_at hl 2 rfl) ?_
      refine lv_iconst (v := (-1 : Int32)) hx hb dX6_fit_33 (by decide) ?_
      refine lv_iconst (v := (0 : Int32)) hx hb dX6_fit_34 (by decide) ?_
      replace hf := bs_ hf; obtain ⟨r3, hcl, hf⟩ := hf
      refine x_callV_i (w' := (wX6 a ct g)) (As := [.int x1, .int x2, .int (-1 : Int32), .int (0 : Int32)]) (rest := []) (ci := 5) ⟨hx, hb, hml, hown, hts⟩ (c_X5_allows l N kd G ct (sh_ 26 a) (sh_ 26 g) x1 x2 (-1 : Int32) (0 : Int32) _ hcl) (cwV 4 hts gX6_fit_X5_allows rfl rfl rfl (by decide +kernel) ⟨Nat.le_of_ble_eq_true rfl, Nat.le_of_ble_eq_true rfl⟩) hK hE hA hW ((wX6 a ct g).take 17) ((wX6 a ct g).drop 31) (wc_X6_26 a ct g) (wc_X6_26 a ct g) 0 rfl rfl rfl rfl hl.1 rfl (lv_room (Nat.le_of_ble_eq_true rfl)) dX6_fit_35 (fun H locs hW => ?_)
      refine lv_if_eq (tgt := 45) hx hb dX6_fit_38 (by decide) (fun hc => ?_) (fun hc => ?_)
      · replace hf := ifp hc hf
        refine lv_iconst (v := (0 : Int32)) hx hb dX6_fit_45 (by decide) ?_
        have ho := Option.some.inj hf
        subst ho
        exact x_reti (sz := 0) (w0 := []) (A1 := A) hx hb hr hlocks hK hW rfl rfl dX6_fit_46
      · replace hf := ifn hc hf
        refine lv_iconst (v := (1 : Int32)) hx hb dX6_fit_41 (by decide) ?_
        refine lv_goto (tgt := 46) hx hb dX6_fit_42 (by decide) ?_
        have ho := Option.some.inj hf
        subst ho
        exact x_reti (sz := 0) (w0 := []) (A1 := A) hx hb hr hlocks hK hW rfl rfl dX6_fit_46
    · replace hf := ifp hc hf
      refine lv_ldc (v := (-1000000002 : Int32)) hx hb hown fl52 dX6_fit_24 ?_
      have ho := Option.some.inj hf
      subst ho
      exact x_reti (sz := 0) (w0 := []) (A1 := A) hx hb hr hlocks hK hW rfl rfl dX6_fit_26
  · replace hf := ifp hc hf
    refine lv_ldc (v := (-1000000001 : Int32)) hx hb hown fl114 dX6_fit_14 ?_
    have ho := Option.some.inj hf
    subst ho
    exact x_reti (sz := 0) (w0 := []) (A1 := A) hx hb hr hlocks hK hW rfl rfl dX6_fit_16
set_option maxHeartbeats 4000000 in
set_option maxRecDepth 100000 in
theorem c_X6_go (l : Launch) (N : Nat) (kd : (Nat → Nat) × (Nat → Nat)) (G : va_G) (ct : Nat → ClassId) (a : Nat → Nat) (g : St_) (x1 : Int32) (x2 : Int32) (o : (Int32 × St_)) (hf : f_X6_go N g x1 x2 = some o) : CtI l yX6_go wsX6_go ({ frames := 5, cells := 0, slots := 0, locals := 117 }) kd G ct [.ref (a 0), .int x1, .int x2] (wX6 a ct g) o.1 (wX6 a ct o.2) := by
  intro sz
  refine Met.ofW (cc := cX6_go) (maxL := 3) (ret := (some .int)) (by decide) rfl ?_
  intro p e s m args below meth c s₁ B hml hv
  obtain ⟨rfl, hsz, hP, hK, hD0, hE⟩ := hv
  have hx := B.exec
  have hb := B.bytes
  have hr := B.returns
  have hts := atoms_spec (ws := wsX6_go) B.pre
  have hown : s.vm.findClass RX6 = some m.cls := findClass_of_methodNamed B.named
  have hlocks := B.notSynchronized
  have inX3 : ∀ w ∈ wsX30, w ∈ wsX6_go := by decide +kernel
  have inX5 : ∀ w ∈ wsX50, w ∈ wsX6_go := by decide +kernel
  have inX6 : ∀ w ∈ wsX60, w ∈ wsX6_go := by decide +kernel
  have fl19 := hts (.fieldLink RX6 19 "FittingStrides" "now" "LFittingStrides$Town;") (by decide +kernel)
  have fl84 := hts (.fieldLink RX6 84 "FittingStrides$Town" "plan" "LFittingStrides$Plan;") (by decide +kernel)
  have fl96 := hts (.fieldLink RX6 96 "FittingStrides$Town" "state" "LFittingStrides$State;") (by decide +kernel)
  have fl114 := hts (.constant RX6 114 (-1000000001)) (by decide +kernel)
  have fl145 := hts (.fieldLink RX6 145 "FittingStrides$State" "at" "[I") (by decide +kernel)
  have fl168 := hts (.constant RX6 168 (-1000000003)) (by decide +kernel)
  subst hsz
  have hD := hD0.self (sz := s.heap.size)
  generalize hAe : va_A (wX6 a ct g) s.heap.size = A at hD hE ⊢
  have hA : ∀ q : Nat, s.heap.size ≤ q → A q := fun q h => by rw [← hAe]; exact Or.inr h
  have hW : WW G A s.heap (wX6 a ct g) s.heap [] := ⟨hP, hD, va_S.rf⟩
  have hl := lv_entry ([.ref (a 0), .int x1, .int x2]) (n := 3) (Nat.le_of_ble_eq_true rfl)
  rw [lg_entry_eq]
  generalize (lg_sl ([.ref (a 0), .int x1, .int x2]) ++ List.replicate (3 - (lg_sl ([.ref (a 0), .int x1, .int x2])).length) Slot.unset).toArray = ls at hl ⊢
  have hl : lv_has ls 3 [(0, .ref (a 0)), (1, .int x1), (2, .int x2)] := hl
  unfold f_X6_go at hf
  show W p l e ({ frames := 5, cells := 0, slots := 0, locals := 117 } : Room) s m (List.toArray [.ref (a 0), .int x1, .int x2]) below meth c s.heap [] 0 0 (MQ below (va_Qi (fun r (_ : Unit) => r = o.1) (fun _ t => Af_ G ct (wX6 a ct o.2) A t) A) (List.toArray [.ref (a 0), .int x1, .int x2]) s 0 0 A) (F0 m 0 ls [])
  refine lv_aload_n hx hb dX6_go_0 rfl (lv_at hl 0 rfl) ?_
  refine x_get (ci := 6) (v := .ref (a 26)) (C := RX6) (T := TX6) (N := 7) hx hb hts inX6 hown hK hW 0 rfl rfl 1 (by decide) fl19 (fun _ h9 => h9) rfl dX6_go_1 ?_
  refine x_get (ci := 5) (v := .ref (a 34)) (C := RX5) (T := TX5) (N := 4) hx hb hts inX5 hown hK hW 17 rfl rfl 1 (by decide) fl96 (fun _ h9 => h9) rfl dX6_go_4 ?_
  refine lv_iload_n hx hb dX6_go_7 rfl (lv_at hl 1 rfl) ?_
  replace hf := bs_ hf; obtain ⟨r1, hcl, hf⟩ := hf
  refine x_callV_i (w' := (wX6 a ct g)) (As := [.int x1]) (rest := []) (ci := 3) ⟨hx, hb, hml, hown, hts⟩ (c_X3_hasPerson l N kd G ct (sh_ 34 a) (sh_ 34 g) x1 _ hcl) (cwV 1 hts gX6_go_X3_hasPerson rfl rfl rfl (by decide +kernel) ⟨Nat.le_of_ble_eq_true rfl, Nat.le_of_ble_eq_true rfl⟩) hK hE hA hW ((wX6 a ct g).take 23) ((wX6 a ct g).drop 29) (wc_X6_34 a ct g) (wc_X6_34 a ct g) 0 rfl rfl rfl rfl hl.1 rfl (lv_room (Nat.le_of_ble_eq_true rfl)) dX6_go_8 (fun H locs hW => ?_)
  refine lv_if_eq (tgt := 28) hx hb dX6_go_11 (by decide) (fun hc => ?_) (fun hc => ?_)
  · replace hf := ifp hc hf
    refine lv_ldc (v := (-1000000001 : Int32)) hx hb hown fl114 dX6_go_28 ?_
    have ho := Option.some.inj hf
    subst ho
    exact x_reti (sz := 0) (w0 := []) (A1 := A) hx hb hr hlocks hK hW rfl rfl dX6_go_30
  · replace hf := ifn hc hf
    refine lv_aload_n hx hb dX6_go_14 rfl (lv_at hl 0 rfl) ?_
    refine x_get (ci := 6) (v := .ref (a 26)) (C := RX6) (T := TX6) (N := 7) hx hb hts inX6 hown hK hW 0 rfl rfl 1 (by decide) fl19 (fun _ h9 => h9) rfl dX6_go_15 ?_
    refine x_get (ci := 5) (v := .ref (a 27)) (C := RX5) (T := TX5) (N := 4) hx hb hts inX5 hown hK hW 17 rfl rfl 0 (by decide) fl84 (fun _ h9 => h9) rfl dX6_go_18 ?_
    refine lv_iload_n hx hb dX6_go_21 rfl (lv_at hl 2 rfl) ?_
    replace hf := bs_ hf; obtain ⟨r2, hcl, hf⟩ := hf
    refine x_callV_i (w' := (wX6 a ct g)) (As := [.int x2]) (rest := []) (ci := 1) ⟨hx, hb, hml, hown, hts⟩ (c_X1_hasStair l N kd G ct (sh_ 27 a) (sh_ 27 g) x2 _ hcl) (cwV 1 hts gX6_go_X1_hasStair rfl rfl rfl (by decide +kernel) ⟨Nat.le_of_ble_eq_true rfl, Nat.le_of_ble_eq_true rfl⟩) hK hE hA hW ((wX6 a ct g).take 18) ((wX6 a ct g).drop 23) (wc_X6_27 a ct g) (wc_X6_27 a ct g) 0 rfl rfl rfl rfl hl.1 rfl (lv_room (Nat.le_of_ble_eq_true rfl)) dX6_go_22 (fun H locs hW => ?_)
    refine lv_if_ne (tgt := 31) hx hb dX6_go_25 (by decide) (fun hc => ?_) (fun hc => ?_)
    · replace hf := ifn hc hf
      refine lv_aload_n hx hb dX6_go_31 rfl (lv_at hl 0 rfl) ?_
      refine x_get (ci := 6) (v := .ref (a 26)) (C := RX6) (T := TX6) (N := 7) hx hb hts inX6 hown hK hW 0 rfl rfl 1 (by decide) fl19 (fun _ h9 => h9) rfl dX6_go_32 ?_
      refine lv_iload_n hx hb dX6_go_35 rfl (lv_at hl 1 rfl) ?_
      refine lv_iload_n hx hb dX6_go_36 rfl (lv_at hl 2 rfl) ?_
      replace hf := bs_ hf; obtain ⟨r3, hcl, hf⟩ := hf
      refine x_callV_i (w' := (wX6 a ct (pu_ 26 19 g r3.2))) (As := [.int x1, .int x2]) (rest := []) (ci := 5) ⟨hx, hb, hml, hown, hts⟩ (c_X5_travel l N kd G ct (sh_ 26 a) (sh_ 26 g) x1 x2 _ hcl) (cwV 2 hts gX6_go_X5_travel rfl rfl rfl (by decide +kernel) ⟨Nat.le_of_ble_eq_true rfl, Nat.le_of_ble_eq_true rfl⟩) hK hE hA hW ((wX6 a ct g).take 17) ((wX6 a ct g).drop 31) (wc_X6_26 a ct g) (wu_X6_26 a ct g r3.2) 0 rfl rfl rfl rfl hl.1 rfl (lv_room (Nat.le_of_ble_eq_true rfl)) dX6_go_37 (fun H locs hW => ?_)
      refine lv_if_eq (tgt := 58) hx hb dX6_go_40 (by decide) (fun hc => ?_) (fun hc => ?_)
      · replace hf := ifp hc hf
        refine lv_ldc (v := (-1000000003 : Int32)) hx hb hown fl168 dX6_go_58 ?_
        have ho := Option.some.inj hf
        subst ho
        exact x_reti (sz := 0) (w0 := []) (A1 := A) hx hb hr hlocks hK hW rfl rfl dX6_go_60
      · replace hf := ifn hc hf
        refine lv_aload_n hx hb dX6_go_43 rfl (lv_at hl 0 rfl) ?_
        refine x_get (ci := 6) (v := .ref (a 26)) (C := RX6) (T := TX6) (N := 7) hx hb hts inX6 hown hK hW 0 rfl rfl 1 (by decide) fl19 (fun _ h9 => h9) rfl dX6_go_44 ?_
        refine x_get (ci := 5) (v := .ref (a 34)) (C := RX5) (T := TX5) (N := 4) hx hb hts inX5 hown hK hW 17 rfl rfl 1 (by decide) fl96 (fun _ h9 => h9) rfl dX6_go_47 ?_
        refine x_get (ci := 3) (v := .ref (a 36)) (C := RX3) (T := TX3) (N := 8) hx hb hts inX3 hown hK hW 23 rfl rfl 1 (by decide) fl145 (fun _ h9 => h9) rfl dX6_go_50 ?_
        refine lv_iload_n hx hb dX6_go_53 rfl (lv_at hl 1 rfl) ?_
        replace hf := gd_s hf; obtain ⟨hin, hf⟩ := hf
        refine x_iald (n := 8) (f := r3.2 10) hx hb hK hW 24 rfl (okI_in hin) dX6_go_54 ?_
        refine lv_goto (tgt := 60) hx hb dX6_go_55 (by decide) ?_
        have ho := Option.some.inj hf
        subst ho
        exact x_reti (sz := 0) (w0 := []) (A1 := A) hx hb hr hlocks hK hW rfl rfl dX6_go_60
    · replace hf := ifp hc hf
      refine lv_ldc (v := (-1000000001 : Int32)) hx hb hown fl114 dX6_go_28 ?_
      have ho := Option.some.inj hf
      subst ho
      exact x_reti (sz := 0) (w0 := []) (A1 := A) hx hb hr hlocks hK hW rfl rfl dX6_go_30
set_option maxHeartbeats 4000000 in
set_option maxRecDepth 100000 in
theorem c_X6_areSteps (l : Launch) (N : Nat) (kd : (Nat → Nat) × (Nat → Nat)) (G : va_G) (ct : Nat → ClassId) (x0 : Int32) (o : Int32) (hf : f_X6_areSteps N x0 = some o) : CtI l yX6_areSteps wsX6_areSteps ({ frames := 0, cells := 0, slots := 0, locals := 0 }) kd G ct [.int x0] ([] : va_W) o ([] : va_W) := by
  intro sz
  refine Met.ofW (cc := cX6_areSteps) (maxL := 1) (ret := (some .boolean)) (by decide) rfl ?_
  intro p e s m args below meth c s₁ B hml hv
  obtain ⟨rfl, hsz, hP, hK, hD0, hE⟩ := hv
  have hx := B.exec
  have hb := B.bytes
  have hr := B.returns
  have hts := atoms_spec (ws := wsX6_areSteps) B.pre
  have hown : s.vm.findClass RX6 = some m.cls := findClass_of_methodNamed B.named
  have hlocks := B.notSynchronized
  subst hsz
  have hD := hD0.self (sz := s.heap.size)
  generalize hAe : va_A ([] : va_W) s.heap.size = A at hD hE ⊢
  have hA : ∀ q : Nat, s.heap.size ≤ q → A q := fun q h => by rw [← hAe]; exact Or.inr h
  have hW : WW G A s.heap ([] : va_W) s.heap [] := ⟨hP, hD, va_S.rf⟩
  have hl := lv_entry ([.int x0]) (n := 1) (Nat.le_of_ble_eq_true rfl)
  rw [lg_entry_eq]
  generalize (lg_sl ([.int x0]) ++ List.replicate (1 - (lg_sl ([.int x0])).length) Slot.unset).toArray = ls at hl ⊢
  have hl : lv_has ls 1 [(0, .int x0)] := hl
  unfold f_X6_areSteps at hf
  show W p l e ({ frames := 0, cells := 0, slots := 0, locals := 0 } : Room) s m (List.toArray [.int x0]) below meth c s.heap [] 0 0 (MQ below (va_Qi (fun r (_ : Unit) => r = o) (fun _ t => Af_ G ct ([] : va_W) A t) A) (List.toArray [.int x0]) s 0 0 A) (F0 m 0 ls [])
  refine lv_iload_n hx hb dX6_areSteps_0 rfl (lv_at hl 0 rfl) ?_
  refine lv_iconst (v := (1 : Int32)) hx hb dX6_areSteps_1 (by decide) ?_
  refine lv_icmp_lt (tgt := 16) hx hb dX6_areSteps_2 (by decide) (fun hc => ?_) (fun hc => ?_)
  · replace hf := ifp hc hf
    refine lv_iconst (v := (0 : Int32)) hx hb dX6_areSteps_16 (by decide) ?_
    have ho := Option.some.inj hf
    subst ho
    exact x_retz hx hb hr rfl hlocks hK hW rfl rfl dX6_areSteps_17
  · replace hf := ifn hc hf
    refine lv_iload_n hx hb dX6_areSteps_5 rfl (lv_at hl 0 rfl) ?_
    refine lv_sipush (v := (720 : Int32)) hx hb dX6_areSteps_6 (by decide) ?_
    refine lv_icmp_gt (tgt := 16) hx hb dX6_areSteps_9 (by decide) (fun hc => ?_) (fun hc => ?_)
    · replace hf := ifp hc hf
      refine lv_iconst (v := (0 : Int32)) hx hb dX6_areSteps_16 (by decide) ?_
      have ho := Option.some.inj hf
      subst ho
      exact x_retz hx hb hr rfl hlocks hK hW rfl rfl dX6_areSteps_17
    · replace hf := ifn hc hf
      refine lv_iconst (v := (1 : Int32)) hx hb dX6_areSteps_12 (by decide) ?_
      refine lv_goto (tgt := 17) hx hb dX6_areSteps_13 (by decide) ?_
      have ho := Option.some.inj hf
      subst ho
      exact x_retz hx hb hr rfl hlocks hK hW rfl rfl dX6_areSteps_17
set_option maxHeartbeats 4000000 in
set_option maxRecDepth 100000 in
theorem c_X6_build (l : Launch) (N : Nat) (kd : (Nat → Nat) × (Nat → Nat)) (G : va_G) (ct : Nat → ClassId) (a : Nat → Nat) (g : St_) (x1 : Int32) (x2 : Int32) (x3 : Int32) (o : (Int32 × St_)) (hf : f_X6_build N g x1 x2 x3 = some o) : CtI l yX6_build wsX6_build ({ frames := 2, cells := 0, slots := 0, locals := 43 }) kd G ct [.ref (a 0), .int x1, .int x2, .int x3] (wX6 a ct g) o.1 (wX6 a ct o.2) := by
  intro sz
  refine Met.ofW (cc := cX6_build) (maxL := 5) (ret := (some .int)) (by decide) rfl ?_
  intro p e s m args below meth c s₁ B hml hv
  obtain ⟨rfl, hsz, hP, hK, hD0, hE⟩ := hv
  have hx := B.exec
  have hb := B.bytes
  have hr := B.returns
  have hts := atoms_spec (ws := wsX6_build) B.pre
  have hown : s.vm.findClass RX6 = some m.cls := findClass_of_methodNamed B.named
  have hlocks := B.notSynchronized
  have inX3 : ∀ w ∈ wsX30, w ∈ wsX6_build := by decide +kernel
  have inX5 : ∀ w ∈ wsX50, w ∈ wsX6_build := by decide +kernel
  have inX6 : ∀ w ∈ wsX60, w ∈ wsX6_build := by decide +kernel
  have fl19 := hts (.fieldLink RX6 19 "FittingStrides" "now" "LFittingStrides$Town;") (by decide +kernel)
  have fl52 := hts (.constant RX6 52 (-1000000002)) (by decide +kernel)
  have fl84 := hts (.fieldLink RX6 84 "FittingStrides$Town" "plan" "LFittingStrides$Plan;") (by decide +kernel)
  have fl96 := hts (.fieldLink RX6 96 "FittingStrides$Town" "state" "LFittingStrides$State;") (by decide +kernel)
  have fl114 := hts (.constant RX6 114 (-1000000001)) (by decide +kernel)
  have fl132 := hts (.fieldLink RX6 132 "FittingStrides$State" "steps" "[I") (by decide +kernel)
  subst hsz
  have hD := hD0.self (sz := s.heap.size)
  generalize hAe : va_A (wX6 a ct g) s.heap.size = A at hD hE ⊢
  have hA : ∀ q : Nat, s.heap.size ≤ q → A q := fun q h => by rw [← hAe]; exact Or.inr h
  have hW : WW G A s.heap (wX6 a ct g) s.heap [] := ⟨hP, hD, va_S.rf⟩
  have hl := lv_entry ([.ref (a 0), .int x1, .int x2, .int x3]) (n := 5) (Nat.le_of_ble_eq_true rfl)
  rw [lg_entry_eq]
  generalize (lg_sl ([.ref (a 0), .int x1, .int x2, .int x3]) ++ List.replicate (5 - (lg_sl ([.ref (a 0), .int x1, .int x2, .int x3])).length) Slot.unset).toArray = ls at hl ⊢
  have hl : lv_has ls 5 [(0, .ref (a 0)), (1, .int x1), (2, .int x2), (3, .int x3)] := hl
  unfold f_X6_build at hf
  show W p l e ({ frames := 2, cells := 0, slots := 0, locals := 43 } : Room) s m (List.toArray [.ref (a 0), .int x1, .int x2, .int x3]) below meth c s.heap [] 0 0 (MQ below (va_Qi (fun r (_ : Unit) => r = o.1) (fun _ t => Af_ G ct (wX6 a ct o.2) A t) A) (List.toArray [.ref (a 0), .int x1, .int x2, .int x3]) s 0 0 A) (F0 m 0 ls [])
  refine lv_aload_n hx hb dX6_build_0 rfl (lv_at hl 0 rfl) ?_
  refine x_get (ci := 6) (v := .ref (a 26)) (C := RX6) (T := TX6) (N := 7) hx hb hts inX6 hown hK hW 0 rfl rfl 1 (by decide) fl19 (fun _ h9 => h9) rfl dX6_build_1 ?_
  refine x_get (ci := 5) (v := .ref (a 27)) (C := RX5) (T := TX5) (N := 4) hx hb hts inX5 hown hK hW 17 rfl rfl 0 (by decide) fl84 (fun _ h9 => h9) rfl dX6_build_4 ?_
  refine lv_iload_n hx hb dX6_build_7 rfl (lv_at hl 1 rfl) ?_
  refine lv_iload_n hx hb dX6_build_8 rfl (lv_at hl 2 rfl) ?_
  replace hf := bs_ hf; obtain ⟨r1, hcl, hf⟩ := hf
  refine x_callV_i (w' := (wX6 a ct g)) (As := [.int x1, .int x2]) (rest := []) (ci := 1) ⟨hx, hb, hml, hown, hts⟩ (c_X1_hasPart l N kd G ct (sh_ 27 a) (sh_ 27 g) x1 x2 _ hcl) (cwV 2 hts gX6_build_X1_hasPart rfl rfl rfl (by decide +kernel) ⟨Nat.le_of_ble_eq_true rfl, Nat.le_of_ble_eq_true rfl⟩) hK hE hA hW ((wX6 a ct g).take 18) ((wX6 a ct g).drop 23) (wc_X6_27 a ct g) (wc_X6_27 a ct g) 0 rfl rfl rfl rfl hl.1 rfl (lv_room (Nat.le_of_ble_eq_true rfl)) dX6_build_9 (fun H locs hW => ?_)
  refine lv_if_ne (tgt := 18) hx hb dX6_build_12 (by decide) (fun hc => ?_) (fun hc => ?_)
  · replace hf := ifn hc hf
    refine lv_iload_n hx hb dX6_build_18 rfl (lv_at hl 3 rfl) ?_
    replace hf := bs_ hf; obtain ⟨r2, hcl, hf⟩ := hf
    refine x_callS_i (As := [.int x3]) (rest := []) ⟨hx, hb, hml, hown, hts⟩ (c_X6_areSteps l N kd G ct x3 _ hcl) (va_cwS 1 hts gX6_build_X6_areSteps rfl rfl rfl (by decide +kernel) ⟨Nat.le_of_ble_eq_true rfl, Nat.le_of_ble_eq_true rfl⟩) hK hE hA hW rfl hl.1 rfl (lv_room (Nat.le_of_ble_eq_true rfl)) dX6_build_19 (fun H locs hW => ?_)
    refine lv_if_ne (tgt := 28) hx hb dX6_build_22 (by decide) (fun hc => ?_) (fun hc => ?_)
    · replace hf := ifn hc hf
      refine lv_aload_n hx hb dX6_build_28 rfl (lv_at hl 0 rfl) ?_
      refine x_get (ci := 6) (v := .ref (a 26)) (C := RX6) (T := TX6) (N := 7) hx hb hts inX6 hown hK hW 0 rfl rfl 1 (by decide) fl19 (fun _ h9 => h9) rfl dX6_build_29 ?_
      refine x_get (ci := 5) (v := .ref (a 34)) (C := RX5) (T := TX5) (N := 4) hx hb hts inX5 hown hK hW 17 rfl rfl 1 (by decide) fl96 (fun _ h9 => h9) rfl dX6_build_32 ?_
      refine x_get (ci := 3) (v := .ref (a 39)) (C := RX3) (T := TX3) (N := 8) hx hb hts inX3 hown hK hW 23 rfl rfl 4 (by decide) fl132 (fun _ h9 => h9) rfl dX6_build_35 ?_
      refine lv_iconst (v := (3 : Int32)) hx hb dX6_build_38 (by decide) ?_
      refine lv_iload_n hx hb dX6_build_39 rfl (lv_at hl 1 rfl) ?_
      refine lv_imul hx hb dX6_build_40 ?_
      refine lv_iload_n hx hb dX6_build_41 rfl (lv_at hl 2 rfl) ?_
      refine lv_iadd hx hb dX6_build_42 ?_
      replace hf := gd_s hf; obtain ⟨hin, hf⟩ := hf
      refine x_iald (n := 30) (f := g 39) hx hb hK hW 27 rfl (okI_in hin) dX6_build_43 ?_
      refine lv_istore (lv' := [(4, .int (g 39 (((3 : Int32) * x1) + x2).toNatClampNeg)), (0, .ref (a 0)), (1, .int x1), (2, .int x2), (3, .int x3)]) hx hb dX6_build_44 hl (by decide) rfl (fun ls hl => ?_)
      refine lv_aload_n hx hb dX6_build_46 rfl (lv_at hl 1 rfl) ?_
      refine x_get (ci := 6) (v := .ref (a 26)) (C := RX6) (T := TX6) (N := 7) hx hb hts inX6 hown hK hW 0 rfl rfl 1 (by decide) fl19 (fun _ h9 => h9) rfl dX6_build_47 ?_
      refine x_get (ci := 5) (v := .ref (a 34)) (C := RX5) (T := TX5) (N := 4) hx hb hts inX5 hown hK hW 17 rfl rfl 1 (by decide) fl96 (fun _ h9 => h9) rfl dX6_build_50 ?_
      refine x_get (ci := 3) (v := .ref (a 39)) (C := RX3) (T := TX3) (N := 8) hx hb hts inX3 hown hK hW 23 rfl rfl 4 (by decide) fl132 (fun _ h9 => h9) rfl dX6_build_53 ?_
      refine lv_iconst (v := (3 : Int32)) hx hb dX6_build_56 (by decide) ?_
      refine lv_iload_n hx hb dX6_build_57 rfl (lv_at hl 2 rfl) ?_
      refine lv_imul hx hb dX6_build_58 ?_
      refine lv_iload_n hx hb dX6_build_59 rfl (lv_at hl 3 rfl) ?_
      refine lv_iadd hx hb dX6_build_60 ?_
      refine lv_iload_n hx hb dX6_build_61 rfl (lv_at hl 4 rfl) ?_
      replace hf := gd_s hf; obtain ⟨hin, hf⟩ := hf
      refine x_iast (w' := (wX6 a ct (up1 g 39 (((3 : Int32) * x1) + x2).toNatClampNeg x3))) (n := 30) (f := g 39) hx hb hK hW 27 rfl (okI_in hin) (ws_X6_39 a ct g _ _) dX6_build_62 (fun H locs hW => ?_)
      refine lv_iload hx hb dX6_build_63 (lv_at hl 0 rfl) ?_
      have ho := Option.some.inj hf
      subst ho
      exact x_reti (sz := 0) (w0 := []) (A1 := A) hx hb hr hlocks hK hW rfl rfl dX6_build_65
    · replace hf := ifp hc hf
      refine lv_ldc (v := (-1000000002 : Int32)) hx hb hown fl52 dX6_build_25 ?_
      have ho := Option.some.inj hf
      subst ho
      exact x_reti (sz := 0) (w0 := []) (A1 := A) hx hb hr hlocks hK hW rfl rfl dX6_build_27
  · replace hf := ifp hc hf
    refine lv_ldc (v := (-1000000001 : Int32)) hx hb hown fl114 dX6_build_15 ?_
    have ho := Option.some.inj hf
    subst ho
    exact x_reti (sz := 0) (w0 := []) (A1 := A) hx hb hr hlocks hK hW rfl rfl dX6_build_17
set_option maxHeartbeats 4000000 in
set_option maxRecDepth 100000 in
theorem c_X6_law (l : Launch) (N : Nat) (kd : (Nat → Nat) × (Nat → Nat)) (G : va_G) (ct : Nat → ClassId) (a : Nat → Nat) (g : St_) (x1 : Int32) (o : (Int32 × St_)) (hf : f_X6_law N g x1 = some o) : CtI l yX6_law wsX6_law ({ frames := 0, cells := 0, slots := 0, locals := 0 }) kd G ct [.ref (a 0), .int x1] (wX6 a ct g) o.1 (wX6 a ct o.2) := by
  intro sz
  refine Met.ofW (cc := cX6_law) (maxL := 3) (ret := (some .int)) (by decide) rfl ?_
  intro p e s m args below meth c s₁ B hml hv
  obtain ⟨rfl, hsz, hP, hK, hD0, hE⟩ := hv
  have hx := B.exec
  have hb := B.bytes
  have hr := B.returns
  have hts := atoms_spec (ws := wsX6_law) B.pre
  have hown : s.vm.findClass RX6 = some m.cls := findClass_of_methodNamed B.named
  have hlocks := B.notSynchronized
  have inX3 : ∀ w ∈ wsX30, w ∈ wsX6_law := by decide +kernel
  have inX5 : ∀ w ∈ wsX50, w ∈ wsX6_law := by decide +kernel
  have inX6 : ∀ w ∈ wsX60, w ∈ wsX6_law := by decide +kernel
  have fl19 := hts (.fieldLink RX6 19 "FittingStrides" "now" "LFittingStrides$Town;") (by decide +kernel)
  have fl52 := hts (.constant RX6 52 (-1000000002)) (by decide +kernel)
  have fl96 := hts (.fieldLink RX6 96 "FittingStrides$Town" "state" "LFittingStrides$State;") (by decide +kernel)
  have fl103 := hts (.fieldLink RX6 103 "FittingStrides$State" "law" "I") (by decide +kernel)
  subst hsz
  have hD := hD0.self (sz := s.heap.size)
  generalize hAe : va_A (wX6 a ct g) s.heap.size = A at hD hE ⊢
  have hA : ∀ q : Nat, s.heap.size ≤ q → A q := fun q h => by rw [← hAe]; exact Or.inr h
  have hW : WW G A s.heap (wX6 a ct g) s.heap [] := ⟨hP, hD, va_S.rf⟩
  have hl := lv_entry ([.ref (a 0), .int x1]) (n := 3) (Nat.le_of_ble_eq_true rfl)
  rw [lg_entry_eq]
  generalize (lg_sl ([.ref (a 0), .int x1]) ++ List.replicate (3 - (lg_sl ([.ref (a 0), .int x1])).length) Slot.unset).toArray = ls at hl ⊢
  have hl : lv_has ls 3 [(0, .ref (a 0)), (1, .int x1)] := hl
  unfold f_X6_law at hf
  show W p l e ({ frames := 0, cells := 0, slots := 0, locals := 0 } : Room) s m (List.toArray [.ref (a 0), .int x1]) below meth c s.heap [] 0 0 (MQ below (va_Qi (fun r (_ : Unit) => r = o.1) (fun _ t => Af_ G ct (wX6 a ct o.2) A t) A) (List.toArray [.ref (a 0), .int x1]) s 0 0 A) (F0 m 0 ls [])
  refine lv_iload_n hx hb dX6_law_0 rfl (lv_at hl 1 rfl) ?_
  replace hf := bs_ hf; obtain ⟨jr, hg, hf⟩ := hf
  have hR1 : ∀ r, jr = Sum.inl r → r = o := fun r hr0 => by subst hr0; have h8 := se_l hf; exact Option.some.inj h8
  have J1 : ∀ (j1 : Unit), jr = Sum.inr j1 → ∀ (H : Heap) (locs : List Loc) (ls : Array Slot), WW G A s.heap (wX6 a ct g) H locs → lv_has ls 3 [(0, .ref (a 0)), (1, .int x1)] → W p l e ({ frames := 0, cells := 0, slots := 0, locals := 0 } : Room) s m (List.toArray [.ref (a 0), .int x1]) below meth c H locs 0 0 (MQ below (va_Qi (fun r (_ : Unit) => r = o.1) (fun _ t => Af_ G ct (wX6 a ct o.2) A t) A) (List.toArray [.ref (a 0), .int x1]) s 0 0 A) (F0 m 12 ls ([])) := by
    intro j1 hjr H locs ls hW hl
    subst hjr
    replace hf := se_r hf
    refine lv_aload_n hx hb dX6_law_12 rfl (lv_at hl 0 rfl) ?_
    refine x_get (ci := 6) (v := .ref (a 26)) (C := RX6) (T := TX6) (N := 7) hx hb hts inX6 hown hK hW 0 rfl rfl 1 (by decide) fl19 (fun _ h9 => h9) rfl dX6_law_13 ?_
    refine x_get (ci := 5) (v := .ref (a 34)) (C := RX5) (T := TX5) (N := 4) hx hb hts inX5 hown hK hW 17 rfl rfl 1 (by decide) fl96 (fun _ h9 => h9) rfl dX6_law_16 ?_
    refine x_get (ci := 3) (v := .int (g 41 0)) (C := RX3) (T := TX3) (N := 8) hx hb hts inX3 hown hK hW 23 rfl rfl 6 (by decide) fl103 (fun _ h9 => h9) rfl dX6_law_19 ?_
    refine lv_istore_n (lv' := [(2, .int (g 41 0)), (0, .ref (a 0)), (1, .int x1)]) hx hb dX6_law_22 rfl hl (by decide) rfl (fun ls hl => ?_)
    refine lv_aload_n hx hb dX6_law_23 rfl (lv_at hl 1 rfl) ?_
    refine x_get (ci := 6) (v := .ref (a 26)) (C := RX6) (T := TX6) (N := 7) hx hb hts inX6 hown hK hW 0 rfl rfl 1 (by decide) fl19 (fun _ h9 => h9) rfl dX6_law_24 ?_
    refine x_get (ci := 5) (v := .ref (a 34)) (C := RX5) (T := TX5) (N := 4) hx hb hts inX5 hown hK hW 17 rfl rfl 1 (by decide) fl96 (fun _ h9 => h9) rfl dX6_law_27 ?_
    refine lv_iload_n hx hb dX6_law_30 rfl (lv_at hl 2 rfl) ?_
    refine x_put (w' := (wX6 a ct (up1 g 41 0 x1))) (fs := fsX3 (sh_ 34 a) (sh_ 34 g)) (ci := 3) (v := .int x1) (ty := .int) (C := RX3) (T := TX3) (N := 8) hx hb hts inX3 tyX3 tyX3_ok nmX3 hown hK hW 23 rfl rfl 6 (by decide) fl103 (fun _ h9 => h9) rfl (by decide +kernel) rfl rfl (Nat.le_of_ble_eq_true rfl) (wp_X6_41 a ct g x1) dX6_law_31 (fun H locs hW => ?_)
    refine lv_iload_n hx hb dX6_law_34 rfl (lv_at hl 0 rfl) ?_
    have ho := Option.some.inj hf
    subst ho
    exact x_reti (sz := 0) (w0 := []) (A1 := A) hx hb hr hlocks hK hW rfl rfl dX6_law_35
  clear hf
  refine lv_if_eq (tgt := 12) hx hb dX6_law_1 (by decide) (fun hc => ?_) (fun hc => ?_)
  · have hf := ifp hc hg
    clear hg
    have hj := (Option.some.inj hf).symm
    exact J1 _ hj _ _ _ hW (lv_sub hl [0, 1] rfl)
  · have hf := ifn hc hg
    clear hg
    refine lv_iload_n hx hb dX6_law_4 rfl (lv_at hl 1 rfl) ?_
    refine lv_iconst (v := (1 : Int32)) hx hb dX6_law_5 (by decide) ?_
    refine lv_icmp_eq (tgt := 12) hx hb dX6_law_6 (by decide) (fun hc => ?_) (fun hc => ?_)
    · replace hf := ifp hc hf
      have hj := (Option.some.inj hf).symm
      exact J1 _ hj _ _ _ hW (lv_sub hl [0, 1] rfl)
    · replace hf := ifn hc hf
      refine lv_ldc (v := (-1000000002 : Int32)) hx hb hown fl52 dX6_law_9 ?_
      have ho := hR1 _ (Option.some.inj hf).symm
      subst ho
      exact x_reti (sz := 0) (w0 := []) (A1 := A) hx hb hr hlocks hK hW rfl rfl dX6_law_11
set_option maxHeartbeats 4000000 in
set_option maxRecDepth 100000 in
theorem c_X6_drift (l : Launch) (N : Nat) (kd : (Nat → Nat) × (Nat → Nat)) (G : va_G) (ct : Nat → ClassId) (a : Nat → Nat) (g : St_) (x1 : Int32) (o : (Int32 × St_)) (hf : f_X6_drift N g x1 = some o) : CtI l yX6_drift wsX6_drift ({ frames := 6, cells := 0, slots := 0, locals := 141 }) kd G ct [.ref (a 0), .int x1] (wX6 a ct g) o.1 (wX6 a ct o.2) := by
  intro sz
  refine Met.ofW (cc := cX6_drift) (maxL := 3) (ret := (some .int)) (by decide) rfl ?_
  intro p e s m args below meth c s₁ B hml hv
  obtain ⟨rfl, hsz, hP, hK, hD0, hE⟩ := hv
  have hx := B.exec
  have hb := B.bytes
  have hr := B.returns
  have hts := atoms_spec (ws := wsX6_drift) B.pre
  have hown : s.vm.findClass RX6 = some m.cls := findClass_of_methodNamed B.named
  have hlocks := B.notSynchronized
  have inX1 : ∀ w ∈ wsX10, w ∈ wsX6_drift := by decide +kernel
  have inX3 : ∀ w ∈ wsX30, w ∈ wsX6_drift := by decide +kernel
  have inX5 : ∀ w ∈ wsX50, w ∈ wsX6_drift := by decide +kernel
  have inX6 : ∀ w ∈ wsX60, w ∈ wsX6_drift := by decide +kernel
  have fl19 := hts (.fieldLink RX6 19 "FittingStrides" "now" "LFittingStrides$Town;") (by decide +kernel)
  have fl52 := hts (.constant RX6 52 (-1000000002)) (by decide +kernel)
  have fl84 := hts (.fieldLink RX6 84 "FittingStrides$Town" "plan" "LFittingStrides$Plan;") (by decide +kernel)
  have fl93 := hts (.fieldLink RX6 93 "FittingStrides$Plan" "stairs" "I") (by decide +kernel)
  have fl96 := hts (.fieldLink RX6 96 "FittingStrides$Town" "state" "LFittingStrides$State;") (by decide +kernel)
  have fl100 := hts (.fieldLink RX6 100 "FittingStrides$State" "persons" "I") (by decide +kernel)
  have fl168 := hts (.constant RX6 168 (-1000000003)) (by decide +kernel)
  subst hsz
  have hD := hD0.self (sz := s.heap.size)
  generalize hAe : va_A (wX6 a ct g) s.heap.size = A at hD hE ⊢
  have hA : ∀ q : Nat, s.heap.size ≤ q → A q := fun q h => by rw [← hAe]; exact Or.inr h
  have hW : WW G A s.heap (wX6 a ct g) s.heap [] := ⟨hP, hD, va_S.rf⟩
  have hl := lv_entry ([.ref (a 0), .int x1]) (n := 3) (Nat.le_of_ble_eq_true rfl)
  rw [lg_entry_eq]
  generalize (lg_sl ([.ref (a 0), .int x1]) ++ List.replicate (3 - (lg_sl ([.ref (a 0), .int x1])).length) Slot.unset).toArray = ls at hl ⊢
  have hl : lv_has ls 3 [(0, .ref (a 0)), (1, .int x1)] := hl
  unfold f_X6_drift at hf
  show W p l e ({ frames := 6, cells := 0, slots := 0, locals := 141 } : Room) s m (List.toArray [.ref (a 0), .int x1]) below meth c s.heap [] 0 0 (MQ below (va_Qi (fun r (_ : Unit) => r = o.1) (fun _ t => Af_ G ct (wX6 a ct o.2) A t) A) (List.toArray [.ref (a 0), .int x1]) s 0 0 A) (F0 m 0 ls [])
  refine lv_iload_n hx hb dX6_drift_0 rfl (lv_at hl 1 rfl) ?_
  refine lv_iconst (v := (1 : Int32)) hx hb dX6_drift_1 (by decide) ?_
  refine lv_icmp_lt (tgt := 11) hx hb dX6_drift_2 (by decide) (fun hc => ?_) (fun hc => ?_)
  · replace hf := ifp hc hf
    refine lv_ldc (v := (-1000000002 : Int32)) hx hb hown fl52 dX6_drift_11 ?_
    have ho := Option.some.inj hf
    subst ho
    exact x_reti (sz := 0) (w0 := []) (A1 := A) hx hb hr hlocks hK hW rfl rfl dX6_drift_13
  · replace hf := ifn hc hf
    refine lv_iload_n hx hb dX6_drift_5 rfl (lv_at hl 1 rfl) ?_
    refine lv_bipush (v := (99 : Int32)) hx hb dX6_drift_6 (by decide) ?_
    refine lv_icmp_le (tgt := 14) hx hb dX6_drift_8 (by decide) (fun hc => ?_) (fun hc => ?_)
    · replace hf := ifp hc hf
      refine lv_aload_n hx hb dX6_drift_14 rfl (lv_at hl 0 rfl) ?_
      refine x_get (ci := 6) (v := .ref (a 26)) (C := RX6) (T := TX6) (N := 7) hx hb hts inX6 hown hK hW 0 rfl rfl 1 (by decide) fl19 (fun _ h9 => h9) rfl dX6_drift_15 ?_
      refine x_get (ci := 5) (v := .ref (a 34)) (C := RX5) (T := TX5) (N := 4) hx hb hts inX5 hown hK hW 17 rfl rfl 1 (by decide) fl96 (fun _ h9 => h9) rfl dX6_drift_18 ?_
      refine x_get (ci := 3) (v := .int (g 35 0)) (C := RX3) (T := TX3) (N := 8) hx hb hts inX3 hown hK hW 23 rfl rfl 0 (by decide) fl100 (fun _ h9 => h9) rfl dX6_drift_21 ?_
      refine lv_if_eq (tgt := 40) hx hb dX6_drift_24 (by decide) (fun hc => ?_) (fun hc => ?_)
      · replace hf := ifp hc hf
        refine lv_ldc (v := (-1000000003 : Int32)) hx hb hown fl168 dX6_drift_40 ?_
        have ho := Option.some.inj hf
        subst ho
        exact x_reti (sz := 0) (w0 := []) (A1 := A) hx hb hr hlocks hK hW rfl rfl dX6_drift_42
      · replace hf := ifn hc hf
        refine lv_aload_n hx hb dX6_drift_27 rfl (lv_at hl 0 rfl) ?_
        refine x_get (ci := 6) (v := .ref (a 26)) (C := RX6) (T := TX6) (N := 7) hx hb hts inX6 hown hK hW 0 rfl rfl 1 (by decide) fl19 (fun _ h9 => h9) rfl dX6_drift_28 ?_
        refine x_get (ci := 5) (v := .ref (a 27)) (C := RX5) (T := TX5) (N := 4) hx hb hts inX5 hown hK hW 17 rfl rfl 0 (by decide) fl84 (fun _ h9 => h9) rfl dX6_drift_31 ?_
        refine x_get (ci := 1) (v := .int (g 29 0)) (C := RX1) (T := TX1) (N := 6) hx hb hts inX1 hown hK hW 18 rfl rfl 1 (by decide) fl93 (fun _ h9 => h9) rfl dX6_drift_34 ?_
        refine lv_if_ne (tgt := 43) hx hb dX6_drift_37 (by decide) (fun hc => ?_) (fun hc => ?_)
        · replace hf := ifn hc hf
          refine lv_iconst (v := (0 : Int32)) hx hb dX6_drift_43 (by decide) ?_
          refine lv_istore_n (lv' := [(2, .int (0 : Int32)), (0, .ref (a 0)), (1, .int x1)]) hx hb dX6_drift_44 rfl hl (by decide) rfl (fun ls hl => ?_)
          replace hf := bs_ hf; obtain ⟨v1, hg, hf⟩ := hf
          have J1 : ∀ (H : Heap) (locs : List Loc) (ls : Array Slot), WW G A s.heap (wX6 a ct v1) H locs → lv_has ls 3 [(0, .ref (a 0))] → W p l e ({ frames := 6, cells := 0, slots := 0, locals := 141 } : Room) s m (List.toArray [.ref (a 0), .int x1]) below meth c H locs 0 0 (MQ below (va_Qi (fun r (_ : Unit) => r = o.1) (fun _ t => Af_ G ct (wX6 a ct o.2) A t) A) (List.toArray [.ref (a 0), .int x1]) s 0 0 A) (F0 m 63 ls []) := by
            intro H locs ls hW hl
            refine lv_aload_n hx hb dX6_drift_63 rfl (lv_at hl 0 rfl) ?_
            refine x_get (ci := 6) (v := .ref (a 26)) (C := RX6) (T := TX6) (N := 7) hx hb hts inX6 hown hK hW 0 rfl rfl 1 (by decide) fl19 (fun _ h9 => h9) rfl dX6_drift_64 ?_
            refine x_get (ci := 5) (v := .ref (a 34)) (C := RX5) (T := TX5) (N := 4) hx hb hts inX5 hown hK hW 17 rfl rfl 1 (by decide) fl96 (fun _ h9 => h9) rfl dX6_drift_67 ?_
            refine x_get (ci := 3) (v := .int (v1 35 0)) (C := RX3) (T := TX3) (N := 8) hx hb hts inX3 hown hK hW 23 rfl rfl 0 (by decide) fl100 (fun _ h9 => h9) rfl dX6_drift_70 ?_
            have ho := Option.some.inj hf
            subst ho
            exact x_reti (sz := 0) (w0 := []) (A1 := A) hx hb hr hlocks hK hW rfl rfl dX6_drift_73
          clear hf
          have L1 : ∀ (n : Nat) (y1_2 : Int32) (g1 : St_), f_X6_drift_L45 N x1 n y1_2 g1 = some v1 → ∀ (H : Heap) (locs : List Loc) (ls : Array Slot), WW G A s.heap (wX6 a ct g1) H locs → lv_has ls 3 [(0, .ref (a 0)), (1, .int x1), (2, .int y1_2)] → W p l e ({ frames := 6, cells := 0, slots := 0, locals := 141 } : Room) s m (List.toArray [.ref (a 0), .int x1]) below meth c H locs 0 0 (MQ below (va_Qi (fun r (_ : Unit) => r = o.1) (fun _ t => Af_ G ct (wX6 a ct o.2) A t) A) (List.toArray [.ref (a 0), .int x1]) s 0 0 A) (F0 m 45 ls []) := by
            intro n
            induction n with
            | zero =>
              intro y1_2 g1 hf
              rw [f_X6_drift_L45] at hf
              cases hf
            | succ n ih =>
              intro y1_2 g1 hf H locs ls hW hl
              rw [f_X6_drift_L45] at hf
              refine lv_iload_n hx hb dX6_drift_45 rfl (lv_at hl 2 rfl) ?_
              refine lv_iload_n hx hb dX6_drift_46 rfl (lv_at hl 1 rfl) ?_
              refine lv_icmp_ge (tgt := 63) hx hb dX6_drift_47 (by decide) (fun hc => ?_) (fun hc => ?_)
              · replace hf := ifp hc hf
                have hj := Option.some.inj hf
                subst hj
                exact J1 _ _ _ hW (lv_sub hl [0] rfl)
              · replace hf := ifn hc hf
                refine lv_aload_n hx hb dX6_drift_50 rfl (lv_at hl 0 rfl) ?_
                refine x_get (ci := 6) (v := .ref (a 26)) (C := RX6) (T := TX6) (N := 7) hx hb hts inX6 hown hK hW 0 rfl rfl 1 (by decide) fl19 (fun _ h9 => h9) rfl dX6_drift_51 ?_
                replace hf := bs_ hf; obtain ⟨r2, hcl, hf⟩ := hf
                refine x_callV_v (w' := (wX6 a ct (pu_ 26 19 g1 r2))) (As := []) (rest := []) (ci := 5) ⟨hx, hb, hml, hown, hts⟩ (c_X5_liveDay l N kd G ct (sh_ 26 a) (sh_ 26 g1) _ hcl) (cwV 0 hts gX6_drift_X5_liveDay rfl rfl rfl (by decide +kernel) ⟨Nat.le_of_ble_eq_true rfl, Nat.le_of_ble_eq_true rfl⟩) hK hE hA hW ((wX6 a ct g1).take 17) ((wX6 a ct g1).drop 31) (wc_X6_26 a ct g1) (wu_X6_26 a ct g1 r2) 0 rfl rfl rfl rfl hl.1 rfl (lv_room (Nat.le_of_ble_eq_true rfl)) dX6_drift_54 (fun H locs hW => ?_)
                refine lv_iinc (v := (y1_2 + (1 : Int32))) (lv' := [(2, .int (y1_2 + (1 : Int32))), (0, .ref (a 0)), (1, .int x1)]) hx hb dX6_drift_57 hl (k := 2) rfl rfl (by decide) rfl (fun ls hl => ?_)
                refine lv_goto (tgt := 45) hx hb dX6_drift_60 (by decide) ?_
                exact ih (y1_2 + (1 : Int32)) (pu_ 26 19 g1 r2) hf _ _ _ hW (lv_sub hl [1, 2, 0] rfl)
          exact L1 N (0 : Int32) g hg _ _ _ hW (lv_sub hl [1, 2, 0] rfl)
        · replace hf := ifp hc hf
          refine lv_ldc (v := (-1000000003 : Int32)) hx hb hown fl168 dX6_drift_40 ?_
          have ho := Option.some.inj hf
          subst ho
          exact x_reti (sz := 0) (w0 := []) (A1 := A) hx hb hr hlocks hK hW rfl rfl dX6_drift_42
    · replace hf := ifn hc hf
      refine lv_ldc (v := (-1000000002 : Int32)) hx hb hown fl52 dX6_drift_11 ?_
      have ho := Option.some.inj hf
      subst ho
      exact x_reti (sz := 0) (w0 := []) (A1 := A) hx hb hr hlocks hK hW rfl rfl dX6_drift_13
set_option maxHeartbeats 4000000 in
set_option maxRecDepth 100000 in
theorem c_X6_reach (l : Launch) (N : Nat) (kd : (Nat → Nat) × (Nat → Nat)) (G : va_G) (ct : Nat → ClassId) (a : Nat → Nat) (g : St_) (x1 : Int32) (x2 : Int32) (o : Int32) (hf : f_X6_reach N g x1 x2 = some o) : CtI l yX6_reach wsX6_reach ({ frames := 4, cells := 0, slots := 0, locals := 97 }) kd G ct [.ref (a 0), .int x1, .int x2] (wX6 a ct g) o (wX6 a ct g) := by
  intro sz
  refine Met.ofW (cc := cX6_reach) (maxL := 3) (ret := (some .int)) (by decide) rfl ?_
  intro p e s m args below meth c s₁ B hml hv
  obtain ⟨rfl, hsz, hP, hK, hD0, hE⟩ := hv
  have hx := B.exec
  have hb := B.bytes
  have hr := B.returns
  have hts := atoms_spec (ws := wsX6_reach) B.pre
  have hown : s.vm.findClass RX6 = some m.cls := findClass_of_methodNamed B.named
  have hlocks := B.notSynchronized
  have inX5 : ∀ w ∈ wsX50, w ∈ wsX6_reach := by decide +kernel
  have inX6 : ∀ w ∈ wsX60, w ∈ wsX6_reach := by decide +kernel
  have fl19 := hts (.fieldLink RX6 19 "FittingStrides" "now" "LFittingStrides$Town;") (by decide +kernel)
  have fl52 := hts (.constant RX6 52 (-1000000002)) (by decide +kernel)
  have fl84 := hts (.fieldLink RX6 84 "FittingStrides$Town" "plan" "LFittingStrides$Plan;") (by decide +kernel)
  have fl114 := hts (.constant RX6 114 (-1000000001)) (by decide +kernel)
  subst hsz
  have hD := hD0.self (sz := s.heap.size)
  generalize hAe : va_A (wX6 a ct g) s.heap.size = A at hD hE ⊢
  have hA : ∀ q : Nat, s.heap.size ≤ q → A q := fun q h => by rw [← hAe]; exact Or.inr h
  have hW : WW G A s.heap (wX6 a ct g) s.heap [] := ⟨hP, hD, va_S.rf⟩
  have hl := lv_entry ([.ref (a 0), .int x1, .int x2]) (n := 3) (Nat.le_of_ble_eq_true rfl)
  rw [lg_entry_eq]
  generalize (lg_sl ([.ref (a 0), .int x1, .int x2]) ++ List.replicate (3 - (lg_sl ([.ref (a 0), .int x1, .int x2])).length) Slot.unset).toArray = ls at hl ⊢
  have hl : lv_has ls 3 [(0, .ref (a 0)), (1, .int x1), (2, .int x2)] := hl
  unfold f_X6_reach at hf
  show W p l e ({ frames := 4, cells := 0, slots := 0, locals := 97 } : Room) s m (List.toArray [.ref (a 0), .int x1, .int x2]) below meth c s.heap [] 0 0 (MQ below (va_Qi (fun r (_ : Unit) => r = o) (fun _ t => Af_ G ct (wX6 a ct g) A t) A) (List.toArray [.ref (a 0), .int x1, .int x2]) s 0 0 A) (F0 m 0 ls [])
  refine lv_aload_n hx hb dX6_reach_0 rfl (lv_at hl 0 rfl) ?_
  refine x_get (ci := 6) (v := .ref (a 26)) (C := RX6) (T := TX6) (N := 7) hx hb hts inX6 hown hK hW 0 rfl rfl 1 (by decide) fl19 (fun _ h9 => h9) rfl dX6_reach_1 ?_
  refine x_get (ci := 5) (v := .ref (a 27)) (C := RX5) (T := TX5) (N := 4) hx hb hts inX5 hown hK hW 17 rfl rfl 0 (by decide) fl84 (fun _ h9 => h9) rfl dX6_reach_4 ?_
  refine lv_iload_n hx hb dX6_reach_7 rfl (lv_at hl 1 rfl) ?_
  replace hf := bs_ hf; obtain ⟨r1, hcl, hf⟩ := hf
  refine x_callV_i (w' := (wX6 a ct g)) (As := [.int x1]) (rest := []) (ci := 1) ⟨hx, hb, hml, hown, hts⟩ (c_X1_hasPlace l N kd G ct (sh_ 27 a) (sh_ 27 g) x1 _ hcl) (cwV 1 hts gX6_reach_X1_hasPlace rfl rfl rfl (by decide +kernel) ⟨Nat.le_of_ble_eq_true rfl, Nat.le_of_ble_eq_true rfl⟩) hK hE hA hW ((wX6 a ct g).take 18) ((wX6 a ct g).drop 23) (wc_X6_27 a ct g) (wc_X6_27 a ct g) 0 rfl rfl rfl rfl hl.1 rfl (lv_room (Nat.le_of_ble_eq_true rfl)) dX6_reach_8 (fun H locs hW => ?_)
  refine lv_if_ne (tgt := 17) hx hb dX6_reach_11 (by decide) (fun hc => ?_) (fun hc => ?_)
  · replace hf := ifn hc hf
    refine lv_iload_n hx hb dX6_reach_17 rfl (lv_at hl 2 rfl) ?_
    replace hf := bs_ hf; obtain ⟨r2, hcl, hf⟩ := hf
    refine x_callS_i (As := [.int x2]) (rest := []) ⟨hx, hb, hml, hown, hts⟩ (c_X6_isStride l N kd G ct x2 _ hcl) (va_cwS 1 hts gX6_reach_X6_isStride rfl rfl rfl (by decide +kernel) ⟨Nat.le_of_ble_eq_true rfl, Nat.le_of_ble_eq_true rfl⟩) hK hE hA hW rfl hl.1 rfl (lv_room (Nat.le_of_ble_eq_true rfl)) dX6_reach_18 (fun H locs hW => ?_)
    refine lv_if_ne (tgt := 27) hx hb dX6_reach_21 (by decide) (fun hc => ?_) (fun hc => ?_)
    · replace hf := ifn hc hf
      refine lv_aload_n hx hb dX6_reach_27 rfl (lv_at hl 0 rfl) ?_
      refine x_get (ci := 6) (v := .ref (a 26)) (C := RX6) (T := TX6) (N := 7) hx hb hts inX6 hown hK hW 0 rfl rfl 1 (by decide) fl19 (fun _ h9 => h9) rfl dX6_reach_28 ?_
      refine lv_iload_n hx hb dX6_reach_31 rfl (lv_at hl 1 rfl) ?_
      refine lv_iload_n hx hb dX6_reach_32 rfl (lv_at hl 2 rfl) ?_
      refine lv_iconst (v := (0 : Int32)) hx hb dX6_reach_33 (by decide) ?_
      replace hf := bs_ hf; obtain ⟨r3, hcl, hf⟩ := hf
      refine x_callV_i (w' := (wX6 a ct g)) (As := [.int x1, .int x2, .int (0 : Int32)]) (rest := []) (ci := 5) ⟨hx, hb, hml, hown, hts⟩ (c_X5_reachFrom l N kd G ct (sh_ 26 a) (sh_ 26 g) x1 x2 (0 : Int32) _ hcl) (cwV 3 hts gX6_reach_X5_reachFrom rfl rfl rfl (by decide +kernel) ⟨Nat.le_of_ble_eq_true rfl, Nat.le_of_ble_eq_true rfl⟩) hK hE hA hW ((wX6 a ct g).take 17) ((wX6 a ct g).drop 31) (wc_X6_26 a ct g) (wc_X6_26 a ct g) 0 rfl rfl rfl rfl hl.1 rfl (lv_room (Nat.le_of_ble_eq_true rfl)) dX6_reach_34 (fun H locs hW => ?_)
      have ho := Option.some.inj hf
      subst ho
      exact x_reti (sz := 0) (w0 := []) (A1 := A) hx hb hr hlocks hK hW rfl rfl dX6_reach_37
    · replace hf := ifp hc hf
      refine lv_ldc (v := (-1000000002 : Int32)) hx hb hown fl52 dX6_reach_24 ?_
      have ho := Option.some.inj hf
      subst ho
      exact x_reti (sz := 0) (w0 := []) (A1 := A) hx hb hr hlocks hK hW rfl rfl dX6_reach_26
  · replace hf := ifp hc hf
    refine lv_ldc (v := (-1000000001 : Int32)) hx hb hown fl114 dX6_reach_14 ?_
    have ho := Option.some.inj hf
    subst ho
    exact x_reti (sz := 0) (w0 := []) (A1 := A) hx hb hr hlocks hK hW rfl rfl dX6_reach_16
set_option maxHeartbeats 4000000 in
set_option maxRecDepth 100000 in
theorem c_X6_guests (l : Launch) (N : Nat) (kd : (Nat → Nat) × (Nat → Nat)) (G : va_G) (ct : Nat → ClassId) (a : Nat → Nat) (g : St_) (x1 : Int32) (o : Int32) (hf : f_X6_guests N g x1 = some o) : CtI l yX6_guests wsX6_guests ({ frames := 5, cells := 0, slots := 0, locals := 118 }) kd G ct [.ref (a 0), .int x1] (wX6 a ct g) o (wX6 a ct g) := by
  intro sz
  refine Met.ofW (cc := cX6_guests) (maxL := 5) (ret := (some .int)) (by decide) rfl ?_
  intro p e s m args below meth c s₁ B hml hv
  obtain ⟨rfl, hsz, hP, hK, hD0, hE⟩ := hv
  have hx := B.exec
  have hb := B.bytes
  have hr := B.returns
  have hts := atoms_spec (ws := wsX6_guests) B.pre
  have hown : s.vm.findClass RX6 = some m.cls := findClass_of_methodNamed B.named
  have hlocks := B.notSynchronized
  have inX3 : ∀ w ∈ wsX30, w ∈ wsX6_guests := by decide +kernel
  have inX5 : ∀ w ∈ wsX50, w ∈ wsX6_guests := by decide +kernel
  have inX6 : ∀ w ∈ wsX60, w ∈ wsX6_guests := by decide +kernel
  have fl19 := hts (.fieldLink RX6 19 "FittingStrides" "now" "LFittingStrides$Town;") (by decide +kernel)
  have fl96 := hts (.fieldLink RX6 96 "FittingStrides$Town" "state" "LFittingStrides$State;") (by decide +kernel)
  have fl100 := hts (.fieldLink RX6 100 "FittingStrides$State" "persons" "I") (by decide +kernel)
  have fl114 := hts (.constant RX6 114 (-1000000001)) (by decide +kernel)
  have fl145 := hts (.fieldLink RX6 145 "FittingStrides$State" "at" "[I") (by decide +kernel)
  subst hsz
  have hD := hD0.self (sz := s.heap.size)
  generalize hAe : va_A (wX6 a ct g) s.heap.size = A at hD hE ⊢
  have hA : ∀ q : Nat, s.heap.size ≤ q → A q := fun q h => by rw [← hAe]; exact Or.inr h
  have hW : WW G A s.heap (wX6 a ct g) s.heap [] := ⟨hP, hD, va_S.rf⟩
  have hl := lv_entry ([.ref (a 0), .int x1]) (n := 5) (Nat.le_of_ble_eq_true rfl)
  rw [lg_entry_eq]
  generalize (lg_sl ([.ref (a 0), .int x1]) ++ List.replicate (5 - (lg_sl ([.ref (a 0), .int x1])).length) Slot.unset).toArray = ls at hl ⊢
  have hl : lv_has ls 5 [(0, .ref (a 0)), (1, .int x1)] := hl
  unfold f_X6_guests at hf
  show W p l e ({ frames := 5, cells := 0, slots := 0, locals := 118 } : Room) s m (List.toArray [.ref (a 0), .int x1]) below meth c s.heap [] 0 0 (MQ below (va_Qi (fun r (_ : Unit) => r = o) (fun _ t => Af_ G ct (wX6 a ct g) A t) A) (List.toArray [.ref (a 0), .int x1]) s 0 0 A) (F0 m 0 ls [])
  refine lv_aload_n hx hb dX6_guests_0 rfl (lv_at hl 0 rfl) ?_
  refine x_get (ci := 6) (v := .ref (a 26)) (C := RX6) (T := TX6) (N := 7) hx hb hts inX6 hown hK hW 0 rfl rfl 1 (by decide) fl19 (fun _ h9 => h9) rfl dX6_guests_1 ?_
  refine x_get (ci := 5) (v := .ref (a 34)) (C := RX5) (T := TX5) (N := 4) hx hb hts inX5 hown hK hW 17 rfl rfl 1 (by decide) fl96 (fun _ h9 => h9) rfl dX6_guests_4 ?_
  refine lv_astore_n (lv' := [(2, .ref (a 34)), (0, .ref (a 0)), (1, .int x1)]) hx hb dX6_guests_7 rfl hl (by decide) rfl (fun ls hl => ?_)
  refine lv_aload_n hx hb dX6_guests_8 rfl (lv_at hl 0 rfl) ?_
  refine lv_iload_n hx hb dX6_guests_9 rfl (lv_at hl 2 rfl) ?_
  replace hf := bs_ hf; obtain ⟨r1, hcl, hf⟩ := hf
  refine x_callV_i (w' := (wX6 a ct g)) (As := [.int x1]) (rest := []) (ci := 3) ⟨hx, hb, hml, hown, hts⟩ (c_X3_hasPerson l N kd G ct (sh_ 34 a) (sh_ 34 g) x1 _ hcl) (cwV 1 hts gX6_guests_X3_hasPerson rfl rfl rfl (by decide +kernel) ⟨Nat.le_of_ble_eq_true rfl, Nat.le_of_ble_eq_true rfl⟩) hK hE hA hW ((wX6 a ct g).take 23) ((wX6 a ct g).drop 29) (wc_X6_34 a ct g) (wc_X6_34 a ct g) 0 rfl rfl rfl rfl hl.1 rfl (lv_room (Nat.le_of_ble_eq_true rfl)) dX6_guests_10 (fun H locs hW => ?_)
  refine lv_if_ne (tgt := 19) hx hb dX6_guests_13 (by decide) (fun hc => ?_) (fun hc => ?_)
  · replace hf := ifn hc hf
    refine lv_iconst (v := (0 : Int32)) hx hb dX6_guests_19 (by decide) ?_
    refine lv_istore_n (lv' := [(3, .int (0 : Int32)), (2, .ref (a 34)), (0, .ref (a 0)), (1, .int x1)]) hx hb dX6_guests_20 rfl hl (by decide) rfl (fun ls hl => ?_)
    refine lv_iconst (v := (0 : Int32)) hx hb dX6_guests_21 (by decide) ?_
    refine lv_istore (lv' := [(4, .int (0 : Int32)), (3, .int (0 : Int32)), (2, .ref (a 34)), (0, .ref (a 0)), (1, .int x1)]) hx hb dX6_guests_22 hl (by decide) rfl (fun ls hl => ?_)
    replace hf := bs_ hf; obtain ⟨v2, hg, hf⟩ := hf
    have J2 : ∀ (H : Heap) (locs : List Loc) (ls : Array Slot), WW G A s.heap (wX6 a ct g) H locs → lv_has ls 5 [(3, .int v2)] → W p l e ({ frames := 5, cells := 0, slots := 0, locals := 118 } : Room) s m (List.toArray [.ref (a 0), .int x1]) below meth c H locs 0 0 (MQ below (va_Qi (fun r (_ : Unit) => r = o) (fun _ t => Af_ G ct (wX6 a ct g) A t) A) (List.toArray [.ref (a 0), .int x1]) s 0 0 A) (F0 m 73 ls []) := by
      intro H locs ls hW hl
      refine lv_iload_n hx hb dX6_guests_73 rfl (lv_at hl 0 rfl) ?_
      have ho := Option.some.inj hf
      subst ho
      exact x_reti (sz := 0) (w0 := []) (A1 := A) hx hb hr hlocks hK hW rfl rfl dX6_guests_74
    clear hf
    have L2 : ∀ (n : Nat) (y2_3 : Int32) (y2_4 : Int32), f_X6_guests_L24 N g x1 n y2_3 y2_4 = some v2 → ∀ (H : Heap) (locs : List Loc) (ls : Array Slot), WW G A s.heap (wX6 a ct g) H locs → lv_has ls 5 [(0, .ref (a 0)), (1, .int x1), (2, .ref (a 34)), (3, .int y2_3), (4, .int y2_4)] → W p l e ({ frames := 5, cells := 0, slots := 0, locals := 118 } : Room) s m (List.toArray [.ref (a 0), .int x1]) below meth c H locs 0 0 (MQ below (va_Qi (fun r (_ : Unit) => r = o) (fun _ t => Af_ G ct (wX6 a ct g) A t) A) (List.toArray [.ref (a 0), .int x1]) s 0 0 A) (F0 m 24 ls []) := by
      intro n
      induction n with
      | zero =>
        intro y2_3 y2_4 hf
        rw [f_X6_guests_L24] at hf
        cases hf
      | succ n ih =>
        intro y2_3 y2_4 hf H locs ls hW hl
        rw [f_X6_guests_L24] at hf
        refine lv_iload hx hb dX6_guests_24 (lv_at hl 4 rfl) ?_
        refine lv_aload_n hx hb dX6_guests_26 rfl (lv_at hl 2 rfl) ?_
        refine x_get (ci := 3) (v := .int (g 35 0)) (C := RX3) (T := TX3) (N := 8) hx hb hts inX3 hown hK hW 23 rfl rfl 0 (by decide) fl100 (fun _ h9 => h9) rfl dX6_guests_27 ?_
        refine lv_icmp_ge (tgt := 73) hx hb dX6_guests_30 (by decide) (fun hc => ?_) (fun hc => ?_)
        · replace hf := ifp hc hf
          have hj := Option.some.inj hf
          subst hj
          exact J2 _ _ _ hW (lv_sub hl [3] rfl)
        · replace hf := ifn hc hf
          refine lv_iload hx hb dX6_guests_33 (lv_at hl 4 rfl) ?_
          refine lv_iload_n hx hb dX6_guests_35 rfl (lv_at hl 1 rfl) ?_
          replace hf := bs_ hf; obtain ⟨j3, hg, hf⟩ := hf
          have J3 : ∀ (H : Heap) (locs : List Loc) (ls : Array Slot), WW G A s.heap (wX6 a ct g) H locs → lv_has ls 5 [(0, .ref (a 0)), (1, .int x1), (2, .ref (a 34)), (3, .int j3), (4, .int y2_4)] → W p l e ({ frames := 5, cells := 0, slots := 0, locals := 118 } : Room) s m (List.toArray [.ref (a 0), .int x1]) below meth c H locs 0 0 (MQ below (va_Qi (fun r (_ : Unit) => r = o) (fun _ t => Af_ G ct (wX6 a ct g) A t) A) (List.toArray [.ref (a 0), .int x1]) s 0 0 A) (F0 m 67 ls ([])) := by
            intro H locs ls hW hl
            refine lv_iinc (v := (y2_4 + (1 : Int32))) (lv' := [(4, .int (y2_4 + (1 : Int32))), (0, .ref (a 0)), (1, .int x1), (2, .ref (a 34)), (3, .int j3)]) hx hb dX6_guests_67 hl (k := 4) rfl rfl (by decide) rfl (fun ls hl => ?_)
            refine lv_goto (tgt := 24) hx hb dX6_guests_70 (by decide) ?_
            exact ih j3 (y2_4 + (1 : Int32)) hf _ _ _ hW (lv_sub hl [1, 2, 3, 4, 0] rfl)
          clear hf
          refine lv_icmp_eq (tgt := 67) hx hb dX6_guests_36 (by decide) (fun hc => ?_) (fun hc => ?_)
          · have hf := ifp hc hg
            clear hg
            have hj := Option.some.inj hf
            subst hj
            exact J3 _ _ _ hW (lv_sub hl [0, 1, 2, 3, 4] rfl)
          · have hf := ifn hc hg
            clear hg
            refine lv_aload_n hx hb dX6_guests_39 rfl (lv_at hl 0 rfl) ?_
            refine x_get (ci := 6) (v := .ref (a 26)) (C := RX6) (T := TX6) (N := 7) hx hb hts inX6 hown hK hW 0 rfl rfl 1 (by decide) fl19 (fun _ h9 => h9) rfl dX6_guests_40 ?_
            refine lv_iload hx hb dX6_guests_43 (lv_at hl 4 rfl) ?_
            replace hf := bs_ hf; obtain ⟨r4, hcl, hf⟩ := hf
            refine x_callV_i (w' := (wX6 a ct g)) (As := [.int y2_4]) (rest := []) (ci := 5) ⟨hx, hb, hml, hown, hts⟩ (c_X5_reachOfPerson l N kd G ct (sh_ 26 a) (sh_ 26 g) y2_4 _ hcl) (cwV 1 hts gX6_guests_X5_reachOfPerson rfl rfl rfl (by decide +kernel) ⟨Nat.le_of_ble_eq_true rfl, Nat.le_of_ble_eq_true rfl⟩) hK hE hA hW ((wX6 a ct g).take 17) ((wX6 a ct g).drop 31) (wc_X6_26 a ct g) (wc_X6_26 a ct g) 0 rfl rfl rfl rfl hl.1 rfl (lv_room (Nat.le_of_ble_eq_true rfl)) dX6_guests_45 (fun H locs hW => ?_)
            refine lv_aload_n hx hb dX6_guests_48 rfl (lv_at hl 2 rfl) ?_
            refine x_get (ci := 3) (v := .ref (a 36)) (C := RX3) (T := TX3) (N := 8) hx hb hts inX3 hown hK hW 23 rfl rfl 1 (by decide) fl145 (fun _ h9 => h9) rfl dX6_guests_49 ?_
            refine lv_iload_n hx hb dX6_guests_52 rfl (lv_at hl 1 rfl) ?_
            replace hf := gd_s hf; obtain ⟨hin, hf⟩ := hf
            refine x_iald (n := 8) (f := g 36) hx hb hK hW 24 rfl (okI_in hin) dX6_guests_53 ?_
            replace hf := bs_ hf; obtain ⟨r5, hcl, hf⟩ := hf
            refine x_callS_i (As := [.int r4, .int (g 36 x1.toNatClampNeg)]) (rest := []) ⟨hx, hb, hml, hown, hts⟩ (c_X6_has l N kd G ct r4 (g 36 x1.toNatClampNeg) _ hcl) (va_cwS 2 hts gX6_guests_X6_has rfl rfl rfl (by decide +kernel) ⟨Nat.le_of_ble_eq_true rfl, Nat.le_of_ble_eq_true rfl⟩) hK hE hA hW rfl hl.1 rfl (lv_room (Nat.le_of_ble_eq_true rfl)) dX6_guests_54 (fun H locs hW => ?_)
            refine lv_if_eq (tgt := 67) hx hb dX6_guests_57 (by decide) (fun hc => ?_) (fun hc => ?_)
            · replace hf := ifp hc hf
              have hj := Option.some.inj hf
              subst hj
              exact J3 _ _ _ hW (lv_sub hl [0, 1, 2, 3, 4] rfl)
            · replace hf := ifn hc hf
              refine lv_iload_n hx hb dX6_guests_60 rfl (lv_at hl 3 rfl) ?_
              refine lv_iconst (v := (1 : Int32)) hx hb dX6_guests_61 (by decide) ?_
              refine lv_iload hx hb dX6_guests_62 (lv_at hl 4 rfl) ?_
              refine lv_ishl hx hb dX6_guests_64 ?_
              refine lv_ior hx hb dX6_guests_65 ?_
              refine lv_istore_n (lv' := [(3, .int (y2_3 ||| ((1 : Int32) <<< (y2_4 &&& 31)))), (0, .ref (a 0)), (1, .int x1), (2, .ref (a 34)), (4, .int y2_4)]) hx hb dX6_guests_66 rfl hl (by decide) rfl (fun ls hl => ?_)
              have hj := Option.some.inj hf
              subst hj
              exact J3 _ _ _ hW (lv_sub hl [1, 2, 3, 0, 4] rfl)
    exact L2 N (0 : Int32) (0 : Int32) hg _ _ _ hW (lv_sub hl [3, 4, 2, 1, 0] rfl)
  · replace hf := ifp hc hf
    refine lv_ldc (v := (-1000000001 : Int32)) hx hb hown fl114 dX6_guests_16 ?_
    have ho := Option.some.inj hf
    subst ho
    exact x_reti (sz := 0) (w0 := []) (A1 := A) hx hb hr hlocks hK hW rfl rfl dX6_guests_18
set_option maxHeartbeats 4000000 in
set_option maxRecDepth 100000 in
theorem c_X6_commonSteps (l : Launch) (N : Nat) (kd : (Nat → Nat) × (Nat → Nat)) (G : va_G) (ct : Nat → ClassId) (x0 : Int64) (x2 : Int32) (o : Int64) (hf : f_X6_commonSteps N x0 x2 = some o) : CtL l yX6_commonSteps wsX6_commonSteps ({ frames := 1, cells := 0, slots := 0, locals := 22 }) kd G ct [.long x0, .int x2] ([] : va_W) o ([] : va_W) := by
  intro sz
  refine Met.ofW (cc := cX6_commonSteps) (maxL := 4) (ret := (some .long)) (by decide) rfl ?_
  intro p e s m args below meth c s₁ B hml hv
  obtain ⟨rfl, hsz, hP, hK, hD0, hE⟩ := hv
  have hx := B.exec
  have hb := B.bytes
  have hr := B.returns
  have hts := atoms_spec (ws := wsX6_commonSteps) B.pre
  have hown : s.vm.findClass RX6 = some m.cls := findClass_of_methodNamed B.named
  have hlocks := B.notSynchronized
  subst hsz
  have hD := hD0.self (sz := s.heap.size)
  generalize hAe : va_A ([] : va_W) s.heap.size = A at hD hE ⊢
  have hA : ∀ q : Nat, s.heap.size ≤ q → A q := fun q h => by rw [← hAe]; exact Or.inr h
  have hW : WW G A s.heap ([] : va_W) s.heap [] := ⟨hP, hD, va_S.rf⟩
  have hl := lv_entry ([.long x0, .int x2]) (n := 4) (Nat.le_of_ble_eq_true rfl)
  rw [lg_entry_eq]
  generalize (lg_sl ([.long x0, .int x2]) ++ List.replicate (4 - (lg_sl ([.long x0, .int x2])).length) Slot.unset).toArray = ls at hl ⊢
  have hl : lv_has ls 4 [(0, .long x0), (2, .int x2)] := hl
  unfold f_X6_commonSteps at hf
  show W p l e ({ frames := 1, cells := 0, slots := 0, locals := 22 } : Room) s m (List.toArray [.long x0, .int x2]) below meth c s.heap [] 0 0 (MQ below (va_Ql (fun r (_ : Unit) => r = o) (fun _ t => Af_ G ct ([] : va_W) A t) A) (List.toArray [.long x0, .int x2]) s 0 0 A) (F0 m 0 ls [])
  refine lv_iload_n hx hb dX6_commonSteps_0 rfl (lv_at hl 1 rfl) ?_
  refine lv_iconst (v := (1 : Int32)) hx hb dX6_commonSteps_1 (by decide) ?_
  refine lv_icmp_ge (tgt := 7) hx hb dX6_commonSteps_2 (by decide) (fun hc => ?_) (fun hc => ?_)
  · replace hf := ifp hc hf
    refine lv_iconst (v := (1 : Int32)) hx hb dX6_commonSteps_7 (by decide) ?_
    refine lv_istore_n (lv' := [(3, .int (1 : Int32)), (0, .long x0), (2, .int x2)]) hx hb dX6_commonSteps_8 rfl hl (by decide) rfl (fun ls hl => ?_)
    replace hf := bs_ hf; obtain ⟨jr, hg, hf⟩ := hf
    have hR1 : ∀ r, jr = Sum.inl r → r = o := fun r hr0 => by subst hr0; have h8 := se_l hf; exact Option.some.inj h8
    have J1 : ∀ (v1 : Unit), jr = Sum.inr v1 → ∀ (H : Heap) (locs : List Loc) (ls : Array Slot), WW G A s.heap ([] : va_W) H locs → lv_has ls 4 [(0, .long x0), (2, .int x2)] → W p l e ({ frames := 1, cells := 0, slots := 0, locals := 22 } : Room) s m (List.toArray [.long x0, .int x2]) below meth c H locs 0 0 (MQ below (va_Ql (fun r (_ : Unit) => r = o) (fun _ t => Af_ G ct ([] : va_W) A t) A) (List.toArray [.long x0, .int x2]) s 0 0 A) (F0 m 36 ls []) := by
      intro v1 hjr H locs ls hW hl
      subst hjr
      replace hf := se_r hf
      refine lv_lload_n hx hb dX6_commonSteps_36 rfl (lv_at hl 0 rfl) ?_
      refine lv_iload_n hx hb dX6_commonSteps_37 rfl (lv_at hl 1 rfl) ?_
      refine lv_i2l hx hb dX6_commonSteps_38 rfl ?_
      refine lv_lmul hx hb dX6_commonSteps_39 ?_
      have ho := Option.some.inj hf
      subst ho
      exact x_retl hx hb hr hlocks hK hW rfl rfl dX6_commonSteps_40
    clear hf
    have L1 : ∀ (n : Nat) (y1_3 : Int32), f_X6_commonSteps_L9 N x0 x2 n y1_3 = some jr → ∀ (H : Heap) (locs : List Loc) (ls : Array Slot), WW G A s.heap ([] : va_W) H locs → lv_has ls 4 [(0, .long x0), (2, .int x2), (3, .int y1_3)] → W p l e ({ frames := 1, cells := 0, slots := 0, locals := 22 } : Room) s m (List.toArray [.long x0, .int x2]) below meth c H locs 0 0 (MQ below (va_Ql (fun r (_ : Unit) => r = o) (fun _ t => Af_ G ct ([] : va_W) A t) A) (List.toArray [.long x0, .int x2]) s 0 0 A) (F0 m 9 ls []) := by
      intro n
      induction n with
      | zero =>
        intro y1_3 hf
        rw [f_X6_commonSteps_L9] at hf
        cases hf
      | succ n ih =>
        intro y1_3 hf H locs ls hW hl
        rw [f_X6_commonSteps_L9] at hf
        refine lv_iload_n hx hb dX6_commonSteps_9 rfl (lv_at hl 2 rfl) ?_
        refine lv_iload_n hx hb dX6_commonSteps_10 rfl (lv_at hl 1 rfl) ?_
        refine lv_icmp_gt (tgt := 36) hx hb dX6_commonSteps_11 (by decide) (fun hc => ?_) (fun hc => ?_)
        · replace hf := ifp hc hf
          have hj := (Option.some.inj hf).symm
          exact J1 _ hj _ _ _ hW (lv_sub hl [0, 1] rfl)
        · replace hf := ifn hc hf
          refine lv_iload_n hx hb dX6_commonSteps_14 rfl (lv_at hl 1 rfl) ?_
          refine lv_lload_n hx hb dX6_commonSteps_15 rfl (lv_at hl 0 rfl) ?_
          refine lv_iload_n hx hb dX6_commonSteps_16 rfl (lv_at hl 2 rfl) ?_
          refine lv_i2l hx hb dX6_commonSteps_17 rfl ?_
          refine lv_lmul hx hb dX6_commonSteps_18 ?_
          replace hf := bs_ hf; obtain ⟨r2, hcl, hf⟩ := hf
          refine x_callS_i (As := [.int x2, .long (x0 * y1_3.toInt64)]) (rest := []) ⟨hx, hb, hml, hown, hts⟩ (c_X6_goesInto l N kd G ct x2 (x0 * y1_3.toInt64) _ hcl) (va_cwS 2 hts gX6_commonSteps_X6_goesInto rfl rfl rfl (by decide +kernel) ⟨Nat.le_of_ble_eq_true rfl, Nat.le_of_ble_eq_true rfl⟩) hK hE hA hW rfl hl.1 rfl (lv_room (Nat.le_of_ble_eq_true rfl)) dX6_commonSteps_19 (fun H locs hW => ?_)
          refine lv_if_eq (tgt := 30) hx hb dX6_commonSteps_22 (by decide) (fun hc => ?_) (fun hc => ?_)
          · replace hf := ifp hc hf
            refine lv_iinc (v := (y1_3 + (1 : Int32))) (lv' := [(3, .int (y1_3 + (1 : Int32))), (0, .long x0), (2, .int x2)]) hx hb dX6_commonSteps_30 hl (k := 2) rfl rfl (by decide) rfl (fun ls hl => ?_)
            refine lv_goto (tgt := 9) hx hb dX6_commonSteps_33 (by decide) ?_
            exact ih (y1_3 + (1 : Int32)) hf _ _ _ hW (lv_sub hl [1, 2, 0] rfl)
          · replace hf := ifn hc hf
            refine lv_lload_n hx hb dX6_commonSteps_25 rfl (lv_at hl 0 rfl) ?_
            refine lv_iload_n hx hb dX6_commonSteps_26 rfl (lv_at hl 2 rfl) ?_
            refine lv_i2l hx hb dX6_commonSteps_27 rfl ?_
            refine lv_lmul hx hb dX6_commonSteps_28 ?_
            have ho := hR1 _ (Option.some.inj hf).symm
            subst ho
            exact x_retl hx hb hr hlocks hK hW rfl rfl dX6_commonSteps_29
    exact L1 N (1 : Int32) hg _ _ _ hW (lv_sub hl [1, 2, 0] rfl)
  · replace hf := ifn hc hf
    refine lv_lload_n hx hb dX6_commonSteps_5 rfl (lv_at hl 0 rfl) ?_
    have ho := Option.some.inj hf
    subst ho
    exact x_retl hx hb hr hlocks hK hW rfl rfl dX6_commonSteps_6
set_option maxHeartbeats 4000000 in
set_option maxRecDepth 100000 in
theorem c_X6_wish (l : Launch) (N : Nat) (kd : (Nat → Nat) × (Nat → Nat)) (G : va_G) (ct : Nat → ClassId) (a : Nat → Nat) (g : St_) (x1 : Int32) (x2 : Int32) (o : Int32) (hf : f_X6_wish N g x1 x2 = some o) : CtI l yX6_wish wsX6_wish ({ frames := 2, cells := 0, slots := 0, locals := 45 }) kd G ct [.ref (a 0), .int x1, .int x2] (wX6 a ct g) o (wX6 a ct g) := by
  intro sz
  refine Met.ofW (cc := cX6_wish) (maxL := 7) (ret := (some .int)) (by decide) rfl ?_
  intro p e s m args below meth c s₁ B hml hv
  obtain ⟨rfl, hsz, hP, hK, hD0, hE⟩ := hv
  have hx := B.exec
  have hb := B.bytes
  have hr := B.returns
  have hts := atoms_spec (ws := wsX6_wish) B.pre
  have hown : s.vm.findClass RX6 = some m.cls := findClass_of_methodNamed B.named
  have hlocks := B.notSynchronized
  have inX3 : ∀ w ∈ wsX30, w ∈ wsX6_wish := by decide +kernel
  have inX5 : ∀ w ∈ wsX50, w ∈ wsX6_wish := by decide +kernel
  have inX6 : ∀ w ∈ wsX60, w ∈ wsX6_wish := by decide +kernel
  have fl19 := hts (.fieldLink RX6 19 "FittingStrides" "now" "LFittingStrides$Town;") (by decide +kernel)
  have fl96 := hts (.fieldLink RX6 96 "FittingStrides$Town" "state" "LFittingStrides$State;") (by decide +kernel)
  have fl100 := hts (.fieldLink RX6 100 "FittingStrides$State" "persons" "I") (by decide +kernel)
  have fl114 := hts (.constant RX6 114 (-1000000001)) (by decide +kernel)
  have fl148 := hts (.fieldLink RX6 148 "FittingStrides$State" "firsts" "[I") (by decide +kernel)
  have fl151 := hts (.fieldLink RX6 151 "FittingStrides$State" "seconds" "[I") (by decide +kernel)
  have fl191 := hts (.constantLong RX6 191 (100000)) (by decide +kernel)
  subst hsz
  have hD := hD0.self (sz := s.heap.size)
  generalize hAe : va_A (wX6 a ct g) s.heap.size = A at hD hE ⊢
  have hA : ∀ q : Nat, s.heap.size ≤ q → A q := fun q h => by rw [← hAe]; exact Or.inr h
  have hW : WW G A s.heap (wX6 a ct g) s.heap [] := ⟨hP, hD, va_S.rf⟩
  have hl := lv_entry ([.ref (a 0), .int x1, .int x2]) (n := 7) (Nat.le_of_ble_eq_true rfl)
  rw [lg_entry_eq]
  generalize (lg_sl ([.ref (a 0), .int x1, .int x2]) ++ List.replicate (7 - (lg_sl ([.ref (a 0), .int x1, .int x2])).length) Slot.unset).toArray = ls at hl ⊢
  have hl : lv_has ls 7 [(0, .ref (a 0)), (1, .int x1), (2, .int x2)] := hl
  unfold f_X6_wish at hf
  show W p l e ({ frames := 2, cells := 0, slots := 0, locals := 45 } : Room) s m (List.toArray [.ref (a 0), .int x1, .int x2]) below meth c s.heap [] 0 0 (MQ below (va_Qi (fun r (_ : Unit) => r = o) (fun _ t => Af_ G ct (wX6 a ct g) A t) A) (List.toArray [.ref (a 0), .int x1, .int x2]) s 0 0 A) (F0 m 0 ls [])
  refine lv_aload_n hx hb dX6_wish_0 rfl (lv_at hl 0 rfl) ?_
  refine x_get (ci := 6) (v := .ref (a 26)) (C := RX6) (T := TX6) (N := 7) hx hb hts inX6 hown hK hW 0 rfl rfl 1 (by decide) fl19 (fun _ h9 => h9) rfl dX6_wish_1 ?_
  refine x_get (ci := 5) (v := .ref (a 34)) (C := RX5) (T := TX5) (N := 4) hx hb hts inX5 hown hK hW 17 rfl rfl 1 (by decide) fl96 (fun _ h9 => h9) rfl dX6_wish_4 ?_
  refine lv_astore_n (lv' := [(3, .ref (a 34)), (0, .ref (a 0)), (1, .int x1), (2, .int x2)]) hx hb dX6_wish_7 rfl hl (by decide) rfl (fun ls hl => ?_)
  refine lv_aload_n hx hb dX6_wish_8 rfl (lv_at hl 0 rfl) ?_
  refine lv_iload_n hx hb dX6_wish_9 rfl (lv_at hl 2 rfl) ?_
  replace hf := bs_ hf; obtain ⟨r1, hcl, hf⟩ := hf
  refine x_callV_i (w' := (wX6 a ct g)) (As := [.int x1]) (rest := []) (ci := 3) ⟨hx, hb, hml, hown, hts⟩ (c_X3_hasPersons l N kd G ct (sh_ 34 a) (sh_ 34 g) x1 _ hcl) (cwV 1 hts gX6_wish_X3_hasPersons rfl rfl rfl (by decide +kernel) ⟨Nat.le_of_ble_eq_true rfl, Nat.le_of_ble_eq_true rfl⟩) hK hE hA hW ((wX6 a ct g).take 23) ((wX6 a ct g).drop 29) (wc_X6_34 a ct g) (wc_X6_34 a ct g) 0 rfl rfl rfl rfl hl.1 rfl (lv_room (Nat.le_of_ble_eq_true rfl)) dX6_wish_10 (fun H locs hW => ?_)
  refine lv_if_eq (tgt := 24) hx hb dX6_wish_13 (by decide) (fun hc => ?_) (fun hc => ?_)
  · replace hf := ifp hc hf
    refine lv_ldc (v := (-1000000001 : Int32)) hx hb hown fl114 dX6_wish_24 ?_
    have ho := Option.some.inj hf
    subst ho
    exact x_reti (sz := 0) (w0 := []) (A1 := A) hx hb hr hlocks hK hW rfl rfl dX6_wish_26
  · replace hf := ifn hc hf
    refine lv_aload_n hx hb dX6_wish_16 rfl (lv_at hl 0 rfl) ?_
    refine lv_iload_n hx hb dX6_wish_17 rfl (lv_at hl 3 rfl) ?_
    replace hf := bs_ hf; obtain ⟨r2, hcl, hf⟩ := hf
    refine x_callV_i (w' := (wX6 a ct g)) (As := [.int x2]) (rest := []) (ci := 3) ⟨hx, hb, hml, hown, hts⟩ (c_X3_hasPersons l N kd G ct (sh_ 34 a) (sh_ 34 g) x2 _ hcl) (cwV 1 hts gX6_wish_X3_hasPersons rfl rfl rfl (by decide +kernel) ⟨Nat.le_of_ble_eq_true rfl, Nat.le_of_ble_eq_true rfl⟩) hK hE hA hW ((wX6 a ct g).take 23) ((wX6 a ct g).drop 29) (wc_X6_34 a ct g) (wc_X6_34 a ct g) 0 rfl rfl rfl rfl hl.1 rfl (lv_room (Nat.le_of_ble_eq_true rfl)) dX6_wish_18 (fun H locs hW => ?_)
    refine lv_if_ne (tgt := 27) hx hb dX6_wish_21 (by decide) (fun hc => ?_) (fun hc => ?_)
    · replace hf := ifn hc hf
      refine lv_lconst (v := (1 : Int64)) hx hb dX6_wish_27 (by decide) ?_
      refine lv_lstore (lv' := [(4, .long (1 : Int64)), (3, .ref (a 34)), (0, .ref (a 0)), (1, .int x1), (2, .int x2)]) hx hb dX6_wish_28 hl (by decide) rfl (fun ls hl => ?_)
      refine lv_iconst (v := (0 : Int32)) hx hb dX6_wish_30 (by decide) ?_
      refine lv_istore (lv' := [(6, .int (0 : Int32)), (4, .long (1 : Int64)), (3, .ref (a 34)), (0, .ref (a 0)), (1, .int x1), (2, .int x2)]) hx hb dX6_wish_31 hl (by decide) rfl (fun ls hl => ?_)
      replace hf := bs_ hf; obtain ⟨v3, hg, hf⟩ := hf
      have J3 : ∀ (H : Heap) (locs : List Loc) (ls : Array Slot), WW G A s.heap (wX6 a ct g) H locs → lv_has ls 7 [(2, .int x2), (3, .ref (a 34)), (4, .long v3)] → W p l e ({ frames := 2, cells := 0, slots := 0, locals := 45 } : Room) s m (List.toArray [.ref (a 0), .int x1, .int x2]) below meth c H locs 0 0 (MQ below (va_Qi (fun r (_ : Unit) => r = o) (fun _ t => Af_ G ct (wX6 a ct g) A t) A) (List.toArray [.ref (a 0), .int x1, .int x2]) s 0 0 A) (F0 m 71 ls []) := by
        intro H locs ls hW hl
        refine lv_lload hx hb dX6_wish_71 (lv_at hl 2 rfl) ?_
        refine lv_ldc2 (v := (100000 : Int64)) hx hb hown fl191 dX6_wish_73 ?_
        refine W.lcmp hx hb dX6_wish_76 ?_
        refine lv_if_le (tgt := 82) hx hb dX6_wish_77 (by decide) (fun hc => ?_) (fun hc => ?_)
        · replace hf := ifp hc hf
          refine lv_iconst (v := (0 : Int32)) hx hb dX6_wish_82 (by decide) ?_
          refine lv_istore (lv' := [(6, .int (0 : Int32)), (2, .int x2), (3, .ref (a 34)), (4, .long v3)]) hx hb dX6_wish_83 hl (by decide) rfl (fun ls hl => ?_)
          replace hf := bs_ hf; obtain ⟨jr, hg, hf⟩ := hf
          have hR7 : ∀ r, jr = Sum.inl r → r = o := fun r hr0 => by subst hr0; have h8 := se_l hf; exact Option.some.inj h8
          have J7 : ∀ (v7 : Unit), jr = Sum.inr v7 → ∀ (H : Heap) (locs : List Loc) (ls : Array Slot), WW G A s.heap (wX6 a ct g) H locs → lv_has ls 7 [(4, .long v3)] → W p l e ({ frames := 2, cells := 0, slots := 0, locals := 45 } : Room) s m (List.toArray [.ref (a 0), .int x1, .int x2]) below meth c H locs 0 0 (MQ below (va_Qi (fun r (_ : Unit) => r = o) (fun _ t => Af_ G ct (wX6 a ct g) A t) A) (List.toArray [.ref (a 0), .int x1, .int x2]) s 0 0 A) (F0 m 141 ls []) := by
            intro v7 hjr H locs ls hW hl
            subst hjr
            replace hf := se_r hf
            refine lv_lload hx hb dX6_wish_141 (lv_at hl 0 rfl) ?_
            refine lv_l2i hx hb dX6_wish_143 rfl ?_
            have ho := Option.some.inj hf
            subst ho
            exact x_reti (sz := 0) (w0 := []) (A1 := A) hx hb hr hlocks hK hW rfl rfl dX6_wish_144
          clear hf
          have L7 : ∀ (n : Nat) (y7_6 : Int32), f_X6_wish_L85 N g x2 v3 n y7_6 = some jr → ∀ (H : Heap) (locs : List Loc) (ls : Array Slot), WW G A s.heap (wX6 a ct g) H locs → lv_has ls 7 [(2, .int x2), (3, .ref (a 34)), (4, .long v3), (6, .int y7_6)] → W p l e ({ frames := 2, cells := 0, slots := 0, locals := 45 } : Room) s m (List.toArray [.ref (a 0), .int x1, .int x2]) below meth c H locs 0 0 (MQ below (va_Qi (fun r (_ : Unit) => r = o) (fun _ t => Af_ G ct (wX6 a ct g) A t) A) (List.toArray [.ref (a 0), .int x1, .int x2]) s 0 0 A) (F0 m 85 ls []) := by
            intro n
            induction n with
            | zero =>
              intro y7_6 hf
              rw [f_X6_wish_L85] at hf
              cases hf
            | succ n ih =>
              intro y7_6 hf H locs ls hW hl
              rw [f_X6_wish_L85] at hf
              refine lv_iload hx hb dX6_wish_85 (lv_at hl 3 rfl) ?_
              refine lv_aload_n hx hb dX6_wish_87 rfl (lv_at hl 1 rfl) ?_
              refine x_get (ci := 3) (v := .int (g 35 0)) (C := RX3) (T := TX3) (N := 8) hx hb hts inX3 hown hK hW 23 rfl rfl 0 (by decide) fl100 (fun _ h9 => h9) rfl dX6_wish_88 ?_
              refine lv_icmp_ge (tgt := 141) hx hb dX6_wish_91 (by decide) (fun hc => ?_) (fun hc => ?_)
              · replace hf := ifp hc hf
                have hj := (Option.some.inj hf).symm
                exact J7 _ hj _ _ _ hW (lv_sub hl [2] rfl)
              · replace hf := ifn hc hf
                refine lv_iload_n hx hb dX6_wish_94 rfl (lv_at hl 0 rfl) ?_
                refine lv_iload hx hb dX6_wish_95 (lv_at hl 3 rfl) ?_
                replace hf := bs_ hf; obtain ⟨r8, hcl, hf⟩ := hf
                refine x_callS_i (As := [.int x2, .int y7_6]) (rest := []) ⟨hx, hb, hml, hown, hts⟩ (c_X6_has l N kd G ct x2 y7_6 _ hcl) (va_cwS 2 hts gX6_wish_X6_has rfl rfl rfl (by decide +kernel) ⟨Nat.le_of_ble_eq_true rfl, Nat.le_of_ble_eq_true rfl⟩) hK hE hA hW rfl hl.1 rfl (lv_room (Nat.le_of_ble_eq_true rfl)) dX6_wish_97 (fun H locs hW => ?_)
                replace hf := bs_ hf; obtain ⟨jr, hg, hf⟩ := hf
                have hR9 : ∀ r, jr = Sum.inl r → r = o := fun r hr0 => by subst hr0; have h8 := se_l hf; exact hR7 r (Option.some.inj h8).symm
                have J9 : ∀ (j9 : Unit), jr = Sum.inr j9 → ∀ (H : Heap) (locs : List Loc) (ls : Array Slot), WW G A s.heap (wX6 a ct g) H locs → lv_has ls 7 [(2, .int x2), (3, .ref (a 34)), (4, .long v3), (6, .int y7_6)] → W p l e ({ frames := 2, cells := 0, slots := 0, locals := 45 } : Room) s m (List.toArray [.ref (a 0), .int x1, .int x2]) below meth c H locs 0 0 (MQ below (va_Qi (fun r (_ : Unit) => r = o) (fun _ t => Af_ G ct (wX6 a ct g) A t) A) (List.toArray [.ref (a 0), .int x1, .int x2]) s 0 0 A) (F0 m 135 ls ([])) := by
                  intro j9 hjr H locs ls hW hl
                  subst hjr
                  replace hf := se_r hf
                  refine lv_iinc (v := (y7_6 + (1 : Int32))) (lv' := [(6, .int (y7_6 + (1 : Int32))), (2, .int x2), (3, .ref (a 34)), (4, .long v3)]) hx hb dX6_wish_135 hl (k := 3) rfl rfl (by decide) rfl (fun ls hl => ?_)
                  refine lv_goto (tgt := 85) hx hb dX6_wish_138 (by decide) ?_
                  exact ih (y7_6 + (1 : Int32)) hf _ _ _ hW (lv_sub hl [1, 2, 3, 0] rfl)
                clear hf
                refine lv_if_eq (tgt := 135) hx hb dX6_wish_100 (by decide) (fun hc => ?_) (fun hc => ?_)
                · have hf := ifp hc hg
                  clear hg
                  have hj := (Option.some.inj hf).symm
                  exact J9 _ hj _ _ _ hW (lv_sub hl [0, 1, 2, 3] rfl)
                · have hf := ifn hc hg
                  clear hg
                  refine lv_aload_n hx hb dX6_wish_103 rfl (lv_at hl 1 rfl) ?_
                  refine x_get (ci := 3) (v := .ref (a 37)) (C := RX3) (T := TX3) (N := 8) hx hb hts inX3 hown hK hW 23 rfl rfl 2 (by decide) fl148 (fun _ h9 => h9) rfl dX6_wish_104 ?_
                  refine lv_iload hx hb dX6_wish_107 (lv_at hl 3 rfl) ?_
                  replace hf := gd_s hf; obtain ⟨hin, hf⟩ := hf
                  refine x_iald (n := 8) (f := g 37) hx hb hK hW 25 rfl (okI_in hin) dX6_wish_109 ?_
                  refine lv_lload hx hb dX6_wish_110 (lv_at hl 2 rfl) ?_
                  replace hf := bs_ hf; obtain ⟨r10, hcl, hf⟩ := hf
                  refine x_callS_i (As := [.int (g 37 y7_6.toNatClampNeg), .long v3]) (rest := []) ⟨hx, hb, hml, hown, hts⟩ (c_X6_goesInto l N kd G ct (g 37 y7_6.toNatClampNeg) v3 _ hcl) (va_cwS 2 hts gX6_wish_X6_goesInto rfl rfl rfl (by decide +kernel) ⟨Nat.le_of_ble_eq_true rfl, Nat.le_of_ble_eq_true rfl⟩) hK hE hA hW rfl hl.1 rfl (lv_room (Nat.le_of_ble_eq_true rfl)) dX6_wish_112 (fun H locs hW => ?_)
                  refine lv_if_ne (tgt := 133) hx hb dX6_wish_115 (by decide) (fun hc => ?_) (fun hc => ?_)
                  · replace hf := ifn hc hf
                    refine lv_iconst (v := (-1 : Int32)) hx hb dX6_wish_133 (by decide) ?_
                    have ho := hR9 _ (Option.some.inj hf).symm
                    subst ho
                    exact x_reti (sz := 0) (w0 := []) (A1 := A) hx hb hr hlocks hK hW rfl rfl dX6_wish_134
                  · replace hf := ifp hc hf
                    refine lv_aload_n hx hb dX6_wish_118 rfl (lv_at hl 1 rfl) ?_
                    refine x_get (ci := 3) (v := .ref (a 38)) (C := RX3) (T := TX3) (N := 8) hx hb hts inX3 hown hK hW 23 rfl rfl 3 (by decide) fl151 (fun _ h9 => h9) rfl dX6_wish_119 ?_
                    refine lv_iload hx hb dX6_wish_122 (lv_at hl 3 rfl) ?_
                    replace hf := gd_s hf; obtain ⟨hin, hf⟩ := hf
                    refine x_iald (n := 8) (f := g 38) hx hb hK hW 26 rfl (okI_in hin) dX6_wish_124 ?_
                    refine lv_lload hx hb dX6_wish_125 (lv_at hl 2 rfl) ?_
                    replace hf := bs_ hf; obtain ⟨r11, hcl, hf⟩ := hf
                    refine x_callS_i (As := [.int (g 38 y7_6.toNatClampNeg), .long v3]) (rest := []) ⟨hx, hb, hml, hown, hts⟩ (c_X6_goesInto l N kd G ct (g 38 y7_6.toNatClampNeg) v3 _ hcl) (va_cwS 2 hts gX6_wish_X6_goesInto rfl rfl rfl (by decide +kernel) ⟨Nat.le_of_ble_eq_true rfl, Nat.le_of_ble_eq_true rfl⟩) hK hE hA hW rfl hl.1 rfl (lv_room (Nat.le_of_ble_eq_true rfl)) dX6_wish_127 (fun H locs hW => ?_)
                    refine lv_if_eq (tgt := 135) hx hb dX6_wish_130 (by decide) (fun hc => ?_) (fun hc => ?_)
                    · replace hf := ifp hc hf
                      have hj := (Option.some.inj hf).symm
                      exact J9 _ hj _ _ _ hW (lv_sub hl [0, 1, 2, 3] rfl)
                    · replace hf := ifn hc hf
                      refine lv_iconst (v := (-1 : Int32)) hx hb dX6_wish_133 (by decide) ?_
                      have ho := hR9 _ (Option.some.inj hf).symm
                      subst ho
                      exact x_reti (sz := 0) (w0 := []) (A1 := A) hx hb hr hlocks hK hW rfl rfl dX6_wish_134
          exact L7 N (0 : Int32) hg _ _ _ hW (lv_sub hl [1, 2, 3, 0] rfl)
        · replace hf := ifn hc hf
          refine lv_iconst (v := (-1 : Int32)) hx hb dX6_wish_80 (by decide) ?_
          have ho := Option.some.inj hf
          subst ho
          exact x_reti (sz := 0) (w0 := []) (A1 := A) hx hb hr hlocks hK hW rfl rfl dX6_wish_81
      clear hf
      have L3 : ∀ (n : Nat) (y3_4 : Int64) (y3_6 : Int32), f_X6_wish_L33 N g x1 n y3_4 y3_6 = some v3 → ∀ (H : Heap) (locs : List Loc) (ls : Array Slot), WW G A s.heap (wX6 a ct g) H locs → lv_has ls 7 [(1, .int x1), (2, .int x2), (3, .ref (a 34)), (4, .long y3_4), (6, .int y3_6)] → W p l e ({ frames := 2, cells := 0, slots := 0, locals := 45 } : Room) s m (List.toArray [.ref (a 0), .int x1, .int x2]) below meth c H locs 0 0 (MQ below (va_Qi (fun r (_ : Unit) => r = o) (fun _ t => Af_ G ct (wX6 a ct g) A t) A) (List.toArray [.ref (a 0), .int x1, .int x2]) s 0 0 A) (F0 m 33 ls []) := by
        intro n
        induction n with
        | zero =>
          intro y3_4 y3_6 hf
          rw [f_X6_wish_L33] at hf
          cases hf
        | succ n ih =>
          intro y3_4 y3_6 hf H locs ls hW hl
          rw [f_X6_wish_L33] at hf
          refine lv_iload hx hb dX6_wish_33 (lv_at hl 4 rfl) ?_
          refine lv_aload_n hx hb dX6_wish_35 rfl (lv_at hl 2 rfl) ?_
          refine x_get (ci := 3) (v := .int (g 35 0)) (C := RX3) (T := TX3) (N := 8) hx hb hts inX3 hown hK hW 23 rfl rfl 0 (by decide) fl100 (fun _ h9 => h9) rfl dX6_wish_36 ?_
          refine lv_icmp_ge (tgt := 71) hx hb dX6_wish_39 (by decide) (fun hc => ?_) (fun hc => ?_)
          · replace hf := ifp hc hf
            have hj := Option.some.inj hf
            subst hj
            exact J3 _ _ _ hW (lv_sub hl [1, 2, 3] rfl)
          · replace hf := ifn hc hf
            refine lv_iload_n hx hb dX6_wish_42 rfl (lv_at hl 0 rfl) ?_
            refine lv_iload hx hb dX6_wish_43 (lv_at hl 4 rfl) ?_
            replace hf := bs_ hf; obtain ⟨r4, hcl, hf⟩ := hf
            refine x_callS_i (As := [.int x1, .int y3_6]) (rest := []) ⟨hx, hb, hml, hown, hts⟩ (c_X6_has l N kd G ct x1 y3_6 _ hcl) (va_cwS 2 hts gX6_wish_X6_has rfl rfl rfl (by decide +kernel) ⟨Nat.le_of_ble_eq_true rfl, Nat.le_of_ble_eq_true rfl⟩) hK hE hA hW rfl hl.1 rfl (lv_room (Nat.le_of_ble_eq_true rfl)) dX6_wish_45 (fun H locs hW => ?_)
            replace hf := bs_ hf; obtain ⟨j5, hg, hf⟩ := hf
            have J5 : ∀ (H : Heap) (locs : List Loc) (ls : Array Slot), WW G A s.heap (wX6 a ct g) H locs → lv_has ls 7 [(1, .int x1), (2, .int x2), (3, .ref (a 34)), (4, .long j5), (6, .int y3_6)] → W p l e ({ frames := 2, cells := 0, slots := 0, locals := 45 } : Room) s m (List.toArray [.ref (a 0), .int x1, .int x2]) below meth c H locs 0 0 (MQ below (va_Qi (fun r (_ : Unit) => r = o) (fun _ t => Af_ G ct (wX6 a ct g) A t) A) (List.toArray [.ref (a 0), .int x1, .int x2]) s 0 0 A) (F0 m 65 ls ([])) := by
              intro H locs ls hW hl
              refine lv_iinc (v := (y3_6 + (1 : Int32))) (lv' := [(6, .int (y3_6 + (1 : Int32))), (1, .int x1), (2, .int x2), (3, .ref (a 34)), (4, .long j5)]) hx hb dX6_wish_65 hl (k := 4) rfl rfl (by decide) rfl (fun ls hl => ?_)
              refine lv_goto (tgt := 33) hx hb dX6_wish_68 (by decide) ?_
              exact ih j5 (y3_6 + (1 : Int32)) hf _ _ _ hW (lv_sub hl [1, 2, 3, 4, 0] rfl)
            clear hf
            refine lv_if_eq (tgt := 65) hx hb dX6_wish_48 (by decide) (fun hc => ?_) (fun hc => ?_)
            · have hf := ifp hc hg
              clear hg
              have hj := Option.some.inj hf
              subst hj
              exact J5 _ _ _ hW (lv_sub hl [0, 1, 2, 3, 4] rfl)
            · have hf := ifn hc hg
              clear hg
              refine lv_lload hx hb dX6_wish_51 (lv_at hl 3 rfl) ?_
              refine lv_aload_n hx hb dX6_wish_53 rfl (lv_at hl 2 rfl) ?_
              refine x_get (ci := 3) (v := .ref (a 37)) (C := RX3) (T := TX3) (N := 8) hx hb hts inX3 hown hK hW 23 rfl rfl 2 (by decide) fl148 (fun _ h9 => h9) rfl dX6_wish_54 ?_
              refine lv_iload hx hb dX6_wish_57 (lv_at hl 4 rfl) ?_
              replace hf := gd_s hf; obtain ⟨hin, hf⟩ := hf
              refine x_iald (n := 8) (f := g 37) hx hb hK hW 25 rfl (okI_in hin) dX6_wish_59 ?_
              replace hf := bs_ hf; obtain ⟨r6, hcl, hf⟩ := hf
              refine x_callS_l (As := [.long y3_4, .int (g 37 y3_6.toNatClampNeg)]) (rest := []) ⟨hx, hb, hml, hown, hts⟩ (c_X6_commonSteps l N kd G ct y3_4 (g 37 y3_6.toNatClampNeg) _ hcl) (va_cwS 2 hts gX6_wish_X6_commonSteps rfl rfl rfl (by decide +kernel) ⟨Nat.le_of_ble_eq_true rfl, Nat.le_of_ble_eq_true rfl⟩) hK hE hA hW rfl hl.1 rfl (lv_room (Nat.le_of_ble_eq_true rfl)) dX6_wish_60 (fun H locs hW => ?_)
              refine lv_lstore (lv' := [(4, .long r6), (1, .int x1), (2, .int x2), (3, .ref (a 34)), (6, .int y3_6)]) hx hb dX6_wish_63 hl (by decide) rfl (fun ls hl => ?_)
              have hj := Option.some.inj hf
              subst hj
              exact J5 _ _ _ hW (lv_sub hl [1, 2, 3, 0, 4] rfl)
      exact L3 N (1 : Int64) (0 : Int32) hg _ _ _ hW (lv_sub hl [4, 5, 2, 1, 0] rfl)
    · replace hf := ifp hc hf
      refine lv_ldc (v := (-1000000001 : Int32)) hx hb hown fl114 dX6_wish_24 ?_
      have ho := Option.some.inj hf
      subst ho
      exact x_reti (sz := 0) (w0 := []) (A1 := A) hx hb hr hlocks hK hW rfl rfl dX6_wish_26
