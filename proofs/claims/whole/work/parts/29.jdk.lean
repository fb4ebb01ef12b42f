set_option maxHeartbeats 4000000 in
set_option maxRecDepth 100000 in
theorem c_J3_ci_n (l : Launch) (kd : (Nat → Nat) × (Nat → Nat)) (G : va_G) (ct : Nat → ClassId) (x0 x1 : Int32) (h0 : ¬ x0 < 0) (h1 : x0 < x1) : CtI l yJ3_checkIndex_8e157 wsJ3_checkIndex_8e157 ({ frames := 0, cells := 0, slots := 0, locals := 0 }) kd G ct [.int x0, .int x1, .null] ([] : va_W) x0 ([] : va_W) := by
  intro sz
  refine Met.ofW (cc := cJ3_checkIndex_8e157) (maxL := 3) (ret := (some .int)) (by decide) rfl ?_
  intro p e s m args below meth c s₁ B hml hv
  obtain ⟨rfl, hsz, hP, hK, hD0, hE⟩ := hv
  have hx := B.exec
  have hb := B.bytes
  have hr := B.returns
  have hts := atoms_spec (ws := wsJ3_checkIndex_8e157) B.pre
  have hown : s.vm.findClass RJ3 = some m.cls := findClass_of_methodNamed B.named
  have hlocks := B.notSynchronized
  subst hsz
  have hD := hD0.self (sz := s.heap.size)
  generalize hAe : va_A ([] : va_W) s.heap.size = A at hD hE ⊢
  have hA : ∀ q : Nat, s.heap.size ≤ q → A q := fun q h => by rw [← hAe]; exact Or.inr h
  have hW : WW G A s.heap ([] : va_W) s.heap [] := ⟨hP, hD, va_S.rf⟩
  have hl := lv_entry ([.int x0, .int x1, .null]) (n := 3) (Nat.le_of_ble_eq_true rfl)
  rw [lg_entry_eq]
  generalize (lg_sl ([.int x0, .int x1, .null]) ++ List.replicate (3 - (lg_sl ([.int x0, .int x1, .null])).length) Slot.unset).toArray = ls at hl ⊢
  have hl : lv_has ls 3 [(0, .int x0), (1, .int x1), (2, .null)] := hl
  show W p l e ({ frames := 0, cells := 0, slots := 0, locals := 0 } : Room) s m (List.toArray [.int x0, .int x1, .null]) below meth c s.heap [] 0 0 (MQ below (va_Qi (fun r (_ : Unit) => r = x0) (fun _ t => Af_ G ct ([] : va_W) A t) A) (List.toArray [.int x0, .int x1, .null]) s 0 0 A) (F0 m 0 ls [])
  refine lv_iload_n hx hb dJ3_checkIndex_8e157_0 rfl (lv_at hl 0 rfl) ?_
  refine lv_if_lt (tgt := 9) hx hb dJ3_checkIndex_8e157_1 (by decide) (fun hc => absurd hc h0) (fun hc => ?_)
  refine lv_iload_n hx hb dJ3_checkIndex_8e157_4 rfl (lv_at hl 0 rfl) ?_
  refine lv_iload_n hx hb dJ3_checkIndex_8e157_5 rfl (lv_at hl 1 rfl) ?_
  refine lv_icmp_lt (tgt := 16) hx hb dJ3_checkIndex_8e157_6 (by decide) (fun hc => ?_) (fun hc => absurd h1 hc)
  refine lv_iload_n hx hb dJ3_checkIndex_8e157_16 rfl (lv_at hl 0 rfl) ?_
  exact x_reti (sz := 0) (w0 := []) (A1 := A) hx hb hr hlocks hK hW rfl rfl dJ3_checkIndex_8e157_17
set_option maxHeartbeats 4000000 in
set_option maxRecDepth 100000 in
theorem c_J3_ci_r (l : Launch) (kd : (Nat → Nat) × (Nat → Nat)) (G : va_G) (ct : Nat → ClassId) (t0 : Nat) (x0 x1 : Int32) (h0 : ¬ x0 < 0) (h1 : x0 < x1) : CtI l yJ3_checkIndex_8e157 wsJ3_checkIndex_8e157 ({ frames := 0, cells := 0, slots := 0, locals := 0 }) kd G ct [.int x0, .int x1, .ref t0] ([] : va_W) x0 ([] : va_W) := by
  intro sz
  refine Met.ofW (cc := cJ3_checkIndex_8e157) (maxL := 3) (ret := (some .int)) (by decide) rfl ?_
  intro p e s m args below meth c s₁ B hml hv
  obtain ⟨rfl, hsz, hP, hK, hD0, hE⟩ := hv
  have hx := B.exec
  have hb := B.bytes
  have hr := B.returns
  have hts := atoms_spec (ws := wsJ3_checkIndex_8e157) B.pre
  have hown : s.vm.findClass RJ3 = some m.cls := findClass_of_methodNamed B.named
  have hlocks := B.notSynchronized
  subst hsz
  have hD := hD0.self (sz := s.heap.size)
  generalize hAe : va_A ([] : va_W) s.heap.size = A at hD hE ⊢
  have hA : ∀ q : Nat, s.heap.size ≤ q → A q := fun q h => by rw [← hAe]; exact Or.inr h
  have hW : WW G A s.heap ([] : va_W) s.heap [] := ⟨hP, hD, va_S.rf⟩
  have hl := lv_entry ([.int x0, .int x1, .ref t0]) (n := 3) (Nat.le_of_ble_eq_true rfl)
  rw [lg_entry_eq]
  generalize (lg_sl ([.int x0, .int x1, .ref t0]) ++ List.replicate (3 - (lg_sl ([.int x0, .int x1, .ref t0])).length) Slot.unset).toArray = ls at hl ⊢
  have hl : lv_has ls 3 [(0, .int x0), (1, .int x1), (2, .ref t0)] := hl
  show W p l e ({ frames := 0, cells := 0, slots := 0, locals := 0 } : Room) s m (List.toArray [.int x0, .int x1, .ref t0]) below meth c s.heap [] 0 0 (MQ below (va_Qi (fun r (_ : Unit) => r = x0) (fun _ t => Af_ G ct ([] : va_W) A t) A) (List.toArray [.int x0, .int x1, .ref t0]) s 0 0 A) (F0 m 0 ls [])
  refine lv_iload_n hx hb dJ3_checkIndex_8e157_0 rfl (lv_at hl 0 rfl) ?_
  refine lv_if_lt (tgt := 9) hx hb dJ3_checkIndex_8e157_1 (by decide) (fun hc => absurd hc h0) (fun hc => ?_)
  refine lv_iload_n hx hb dJ3_checkIndex_8e157_4 rfl (lv_at hl 0 rfl) ?_
  refine lv_iload_n hx hb dJ3_checkIndex_8e157_5 rfl (lv_at hl 1 rfl) ?_
  refine lv_icmp_lt (tgt := 16) hx hb dJ3_checkIndex_8e157_6 (by decide) (fun hc => ?_) (fun hc => absurd h1 hc)
  refine lv_iload_n hx hb dJ3_checkIndex_8e157_16 rfl (lv_at hl 0 rfl) ?_
  exact x_reti (sz := 0) (w0 := []) (A1 := A) hx hb hr hlocks hK hW rfl rfl dJ3_checkIndex_8e157_17
set_option maxHeartbeats 4000000 in
set_option maxRecDepth 100000 in
theorem c_J0_ci (l : Launch) (kd : (Nat → Nat) × (Nat → Nat)) (G : va_G) (ct : Nat → ClassId) (x0 x1 : Int32) (h0 : ¬ x0 < 0) (h1 : x0 < x1) : CtV l yJ0_checkIndex_df160 wsJ0_checkIndex_df160 ({ frames := 1, cells := 0, slots := 0, locals := 22 }) kd G ct [.int x0, .int x1] ([] : va_W) ([] : va_W) := by
  intro sz
  refine Met.ofW (cc := cJ0_checkIndex_df160) (maxL := 2) (ret := none) (by decide) rfl ?_
  intro p e s m args below meth c s₁ B hml hv
  obtain ⟨rfl, hsz, hP, hK, hD0, hE⟩ := hv
  have hx := B.exec
  have hb := B.bytes
  have hr := B.returns
  have hts := atoms_spec (ws := wsJ0_checkIndex_df160) B.pre
  have hown : s.vm.findClass RJ0 = some m.cls := findClass_of_methodNamed B.named
  have hlocks := B.notSynchronized
  have fl1053 := hts (.fieldLink RJ0 1053 "jdk/internal/util/Preconditions" "SIOOBE_FORMATTER" "Ljava/util/function/BiFunction;") (by decide +kernel)
  subst hsz
  have hD := hD0.self (sz := s.heap.size)
  generalize hAe : va_A ([] : va_W) s.heap.size = A at hD hE ⊢
  have hA : ∀ q : Nat, s.heap.size ≤ q → A q := fun q h => by rw [← hAe]; exact Or.inr h
  have hW : WW G A s.heap ([] : va_W) s.heap [] := ⟨hP, hD, va_S.rf⟩
  have hl := lv_entry ([.int x0, .int x1]) (n := 2) (Nat.le_of_ble_eq_true rfl)
  rw [lg_entry_eq]
  generalize (lg_sl ([.int x0, .int x1]) ++ List.replicate (2 - (lg_sl ([.int x0, .int x1])).length) Slot.unset).toArray = ls at hl ⊢
  have hl : lv_has ls 2 [(0, .int x0), (1, .int x1)] := hl
  show W p l e ({ frames := 1, cells := 0, slots := 0, locals := 22 } : Room) s m (List.toArray [.int x0, .int x1]) below meth c s.heap [] 0 0 (MQ below (va_Qv (fun (_ : Unit) => True) (fun _ t => Af_ G ct ([] : va_W) A t) A) (List.toArray [.int x0, .int x1]) s 0 0 A) (F0 m 0 ls [])
  refine lv_iload_n hx hb dJ0_checkIndex_df160_0 rfl (lv_at hl 0 rfl) ?_
  refine lv_iload_n hx hb dJ0_checkIndex_df160_1 rfl (lv_at hl 1 rfl) ?_
  rcases hE.2.2.2.2 with hz | ⟨t0, hz⟩
  · refine va_gets (v := .null) hx hb hz hW.2.2 hown fl1053 (fun _ h9 => h9) dJ0_checkIndex_df160_2 ?_
    refine x_callS_i (As := [.int x0, .int x1, .null]) (rest := []) ⟨hx, hb, hml, hown, hts⟩ (c_J3_ci_n l kd G ct x0 x1 h0 h1) (va_cwS 3 hts gJ0_checkIndex_df160_J3_checkIndex_8e157 rfl rfl rfl (by decide +kernel) ⟨Nat.le_of_ble_eq_true rfl, Nat.le_of_ble_eq_true rfl⟩) hK hE hA hW rfl hl.1 rfl (lv_room (Nat.le_of_ble_eq_true rfl)) dJ0_checkIndex_df160_5 (fun H locs hW => ?_)
    refine lv_pop hx hb dJ0_checkIndex_df160_8 rfl ?_
    exact x_retv hx hb hr hlocks hK hW rfl dJ0_checkIndex_df160_9
  · refine va_gets (v := .ref t0) hx hb hz hW.2.2 hown fl1053 (fun _ h9 => h9) dJ0_checkIndex_df160_2 ?_
    refine x_callS_i (As := [.int x0, .int x1, .ref t0]) (rest := []) ⟨hx, hb, hml, hown, hts⟩ (c_J3_ci_r l kd G ct t0 x0 x1 h0 h1) (va_cwS 3 hts gJ0_checkIndex_df160_J3_checkIndex_8e157 rfl rfl rfl (by decide +kernel) ⟨Nat.le_of_ble_eq_true rfl, Nat.le_of_ble_eq_true rfl⟩) hK hE hA hW rfl hl.1 rfl (lv_room (Nat.le_of_ble_eq_true rfl)) dJ0_checkIndex_df160_5 (fun H locs hW => ?_)
    refine lv_pop hx hb dJ0_checkIndex_df160_8 rfl ?_
    exact x_retv hx hb hr hlocks hK hW rfl dJ0_checkIndex_df160_9
theorem sc_b : ∀ kw, kw < 6 → ∀ j, j < lenJS.getD kw 0 → ((((bytJS.getD kw []).getD j 0) &&& 255).toUInt32 % 65536).toInt32 = ((bytJS.getD kw []).getD j 0) &&& 255 := by decide +kernel
theorem sc_l : ∀ kw, kw < 6 → nI (lenJS.getD kw 0) >>> ((0 : Int32) &&& 31) = nI (lenJS.getD kw 0) := by decide +kernel
theorem sc_n : ∀ kw, kw < 6 → lenJS.getD kw 0 < 2 ^ 31 := by decide +kernel
set_option maxHeartbeats 4000000 in
set_option maxRecDepth 100000 in
theorem c_J1_ca (l : Launch) (kd : (Nat → Nat) × (Nat → Nat)) (G : va_G) (ct : Nat → ClassId) (kw : Nat) (x1 : Int32) (hkw : kw < 6) (hi : vp_in x1 (lenJS.getD kw 0)) : CtI l yJ1_charAt_3b067 wsJ1_charAt_3b067 ({ frames := 2, cells := 0, slots := 0, locals := 43 }) kd G ct [.ref (kd.2 kw), .int x1] ([] : va_W) (((bytJS.getD kw []).getD x1.toNatClampNeg 0) &&& 255) ([] : va_W) := by
  intro sz
  refine Met.ofW (cc := cJ1_charAt_3b067) (maxL := 2) (ret := (some .char)) (by decide) rfl ?_
  intro p e s m args below meth c s₁ B hml hv
  obtain ⟨rfl, hsz, hP, hK, hD0, hE⟩ := hv
  have hx := B.exec
  have hb := B.bytes
  have hr := B.returns
  have hts := atoms_spec (ws := wsJ1_charAt_3b067) B.pre
  have hown : s.vm.findClass RJ1 = some m.cls := findClass_of_methodNamed B.named
  have hlocks := B.notSynchronized
  subst hsz
  have hD := hD0.self (sz := s.heap.size)
  generalize hAe : va_A ([] : va_W) s.heap.size = A at hD hE ⊢
  have hA : ∀ q : Nat, s.heap.size ≤ q → A q := fun q h => by rw [← hAe]; exact Or.inr h
  have hW : WW G A s.heap ([] : va_W) s.heap [] := ⟨hP, hD, va_S.rf⟩
  have hl := lv_entry ([.ref (kd.2 kw), .int x1]) (n := 2) (Nat.le_of_ble_eq_true rfl)
  rw [lg_entry_eq]
  generalize (lg_sl ([.ref (kd.2 kw), .int x1]) ++ List.replicate (2 - (lg_sl ([.ref (kd.2 kw), .int x1])).length) Slot.unset).toArray = ls at hl ⊢
  have hl : lv_has ls 2 [(0, .ref (kd.2 kw)), (1, .int x1)] := hl
  show W p l e ({ frames := 2, cells := 0, slots := 0, locals := 43 } : Room) s m (List.toArray [.ref (kd.2 kw), .int x1]) below meth c s.heap [] 0 0 (MQ below (va_Qi (fun r (_ : Unit) => r = (((bytJS.getD kw []).getD x1.toNatClampNeg 0) &&& 255)) (fun _ t => Af_ G ct ([] : va_W) A t) A) (List.toArray [.ref (kd.2 kw), .int x1]) s 0 0 A) (F0 m 0 ls [])
  have hT := (hE.2.2.1.1 kw hkw).2.2.2
  have hj : x1.toNatClampNeg < lenJS.getD kw 0 := Nat.not_le.mp fun q => hi (Or.inr q)
  have e0 := sc_b kw hkw _ hj
  have h0 : ¬ x1 < 0 := fun q => hi (Or.inl q)
  have h1 : x1 < nI (lenJS.getD kw 0) := by
    obtain ⟨j, hjl, rfl⟩ := vp_in_of hi (sc_n kw hkw)
    exact nI_lt hjl (sc_n kw hkw)
  refine lv_iload_n hx hb dJ1_charAt_3b067_0 rfl (lv_at hl 1 rfl) ?_
  refine lv_aload_n hx hb dJ1_charAt_3b067_1 rfl (lv_at hl 0 rfl) ?_
  refine va_tlen (v := nI (lenJS.getD kw 0)) hx hb hT hW.2.2 rfl dJ1_charAt_3b067_2 ?_
  refine x_callS_v (As := [.int x1, .int (nI (lenJS.getD kw 0))]) (rest := []) ⟨hx, hb, hml, hown, hts⟩ (c_J0_ci l kd G ct x1 (nI (lenJS.getD kw 0)) h0 h1) (va_cwS 2 hts gJ1_charAt_3b067_J0_checkIndex_df160 rfl rfl rfl (by decide +kernel) ⟨Nat.le_of_ble_eq_true rfl, Nat.le_of_ble_eq_true rfl⟩) hK hE hA hW rfl hl.1 rfl (lv_room (Nat.le_of_ble_eq_true rfl)) dJ1_charAt_3b067_3 (fun H locs hW => ?_)
  refine lv_aload_n hx hb dJ1_charAt_3b067_6 rfl (lv_at hl 0 rfl) ?_
  refine lv_iload_n hx hb dJ1_charAt_3b067_7 rfl (lv_at hl 1 rfl) ?_
  refine va_tb (v := .int ((bytJS.getD kw []).getD x1.toNatClampNeg 0)) hx hb hT hW.2.2 hi rfl dJ1_charAt_3b067_8 ?_
  refine lv_sipush (v := (255 : Int32)) hx hb dJ1_charAt_3b067_9 (by decide) ?_
  refine lv_iand hx hb dJ1_charAt_3b067_12 ?_
  refine lv_i2c (v := (((bytJS.getD kw []).getD x1.toNatClampNeg 0) &&& 255)) hx hb dJ1_charAt_3b067_13 e0 ?_
  have e1 : narrow .char (.int (((bytJS.getD kw []).getD x1.toNatClampNeg 0) &&& 255)) = .int (((bytJS.getD kw []).getD x1.toNatClampNeg 0) &&& 255) := by rw [← e0]; exact pk_nc _
  exact x_retz hx hb hr e1 hlocks hK hW rfl rfl dJ1_charAt_3b067_14
set_option maxHeartbeats 4000000 in
set_option maxRecDepth 100000 in
theorem c_J0_l1 (l : Launch) (kd : (Nat → Nat) × (Nat → Nat)) (G : va_G) (ct : Nat → ClassId) (kw : Nat) (hkw : kw < 6) : CtI l yJ0_isLatin1_aae02 wsJ0_isLatin1_aae02 ({ frames := 0, cells := 0, slots := 0, locals := 0 }) kd G ct [.ref (kd.1 kw)] ([] : va_W) 1 ([] : va_W) := by
  intro sz
  refine Met.ofW (cc := cJ0_isLatin1_aae02) (maxL := 1) (ret := (some .boolean)) (by decide) rfl ?_
  intro p e s m args below meth c s₁ B hml hv
  obtain ⟨rfl, hsz, hP, hK, hD0, hE⟩ := hv
  have hx := B.exec
  have hb := B.bytes
  have hr := B.returns
  have hts := atoms_spec (ws := wsJ0_isLatin1_aae02) B.pre
  have hown : s.vm.findClass RJ0 = some m.cls := findClass_of_methodNamed B.named
  have hlocks := B.notSynchronized
  have fl38 := hts (.fieldLink RJ0 38 "java/lang/String" "COMPACT_STRINGS" "Z") (by decide +kernel)
  have fl15 := hts (.fieldLink RJ0 15 "java/lang/String" "coder" "B") (by decide +kernel)
  subst hsz
  have hD := hD0.self (sz := s.heap.size)
  generalize hAe : va_A ([] : va_W) s.heap.size = A at hD hE ⊢
  have hA : ∀ q : Nat, s.heap.size ≤ q → A q := fun q h => by rw [← hAe]; exact Or.inr h
  have hW : WW G A s.heap ([] : va_W) s.heap [] := ⟨hP, hD, va_S.rf⟩
  have hl := lv_entry ([.ref (kd.1 kw)]) (n := 1) (Nat.le_of_ble_eq_true rfl)
  rw [lg_entry_eq]
  generalize (lg_sl ([.ref (kd.1 kw)]) ++ List.replicate (1 - (lg_sl ([.ref (kd.1 kw)])).length) Slot.unset).toArray = ls at hl ⊢
  have hl : lv_has ls 1 [(0, .ref (kd.1 kw))] := hl
  show W p l e ({ frames := 0, cells := 0, slots := 0, locals := 0 } : Room) s m (List.toArray [.ref (kd.1 kw)]) below meth c s.heap [] 0 0 (MQ below (va_Qi (fun r (_ : Unit) => r = 1) (fun _ t => Af_ G ct ([] : va_W) A t) A) (List.toArray [.ref (kd.1 kw)]) s 0 0 A) (F0 m 0 ls [])
  refine va_gets (v := .int 1) hx hb hE.2.2.2.1 hW.2.2 hown fl38 (fun _ h9 => h9) dJ0_isLatin1_aae02_0 ?_
  refine lv_if_eq (tgt := 17) hx hb dJ0_isLatin1_aae02_3 (by decide) (fun hc => absurd hc (by decide)) (fun hc => ?_)
  refine lv_aload_n hx hb dJ0_isLatin1_aae02_6 rfl (lv_at hl 0 rfl) ?_
  refine vk_getf (v := .int 0) hx hb (hE.2.2.1.1 kw hkw).2.1 hW.2.2 hown fl15 (fun _ h9 => h9) dJ0_isLatin1_aae02_7 ?_
  refine lv_if_ne (tgt := 17) hx hb dJ0_isLatin1_aae02_10 (by decide) (fun hc => absurd rfl hc) (fun hc => ?_)
  refine lv_iconst (v := (1 : Int32)) hx hb dJ0_isLatin1_aae02_13 (by decide) ?_
  refine lv_goto (tgt := 18) hx hb dJ0_isLatin1_aae02_14 (by decide) ?_
  exact x_retz hx hb hr rfl hlocks hK hW rfl rfl dJ0_isLatin1_aae02_18
set_option maxHeartbeats 4000000 in
set_option maxRecDepth 100000 in
theorem c_J0_co (l : Launch) (kd : (Nat → Nat) × (Nat → Nat)) (G : va_G) (ct : Nat → ClassId) (kw : Nat) (hkw : kw < 6) : CtI l yJ0_coder_7d493 wsJ0_coder_7d493 ({ frames := 0, cells := 0, slots := 0, locals := 0 }) kd G ct [.ref (kd.1 kw)] ([] : va_W) 0 ([] : va_W) := by
  intro sz
  refine Met.ofW (cc := cJ0_coder_7d493) (maxL := 1) (ret := (some .byte)) (by decide) rfl ?_
  intro p e s m args below meth c s₁ B hml hv
  obtain ⟨rfl, hsz, hP, hK, hD0, hE⟩ := hv
  have hx := B.exec
  have hb := B.bytes
  have hr := B.returns
  have hts := atoms_spec (ws := wsJ0_coder_7d493) B.pre
  have hown : s.vm.findClass RJ0 = some m.cls := findClass_of_methodNamed B.named
  have hlocks := B.notSynchronized
  have fl38 := hts (.fieldLink RJ0 38 "java/lang/String" "COMPACT_STRINGS" "Z") (by decide +kernel)
  have fl15 := hts (.fieldLink RJ0 15 "java/lang/String" "coder" "B") (by decide +kernel)
  subst hsz
  have hD := hD0.self (sz := s.heap.size)
  generalize hAe : va_A ([] : va_W) s.heap.size = A at hD hE ⊢
  have hA : ∀ q : Nat, s.heap.size ≤ q → A q := fun q h => by rw [← hAe]; exact Or.inr h
  have hW : WW G A s.heap ([] : va_W) s.heap [] := ⟨hP, hD, va_S.rf⟩
  have hl := lv_entry ([.ref (kd.1 kw)]) (n := 1) (Nat.le_of_ble_eq_true rfl)
  rw [lg_entry_eq]
  generalize (lg_sl ([.ref (kd.1 kw)]) ++ List.replicate (1 - (lg_sl ([.ref (kd.1 kw)])).length) Slot.unset).toArray = ls at hl ⊢
  have hl : lv_has ls 1 [(0, .ref (kd.1 kw))] := hl
  show W p l e ({ frames := 0, cells := 0, slots := 0, locals := 0 } : Room) s m (List.toArray [.ref (kd.1 kw)]) below meth c s.heap [] 0 0 (MQ below (va_Qi (fun r (_ : Unit) => r = 0) (fun _ t => Af_ G ct ([] : va_W) A t) A) (List.toArray [.ref (kd.1 kw)]) s 0 0 A) (F0 m 0 ls [])
  refine va_gets (v := .int 1) hx hb hE.2.2.2.1 hW.2.2 hown fl38 (fun _ h9 => h9) dJ0_coder_7d493_0 ?_
  refine lv_if_eq (tgt := 13) hx hb dJ0_coder_7d493_3 (by decide) (fun hc => absurd hc (by decide)) (fun hc => ?_)
  refine lv_aload_n hx hb dJ0_coder_7d493_6 rfl (lv_at hl 0 rfl) ?_
  refine vk_getf (v := .int 0) hx hb (hE.2.2.1.1 kw hkw).2.1 hW.2.2 hown fl15 (fun _ h9 => h9) dJ0_coder_7d493_7 ?_
  refine lv_goto (tgt := 14) hx hb dJ0_coder_7d493_10 (by decide) ?_
  exact x_retz hx hb hr rfl hlocks hK hW rfl rfl dJ0_coder_7d493_14
theorem x_callE_i {p : Program} {l : Launch} {e : Env} {R : Room} {s : State} {m : MethodId} {args : Array Value} {below : List Frame} {meth : Method} {c : Code} {H : Heap} {locs : List Loc} {cells slots : Nat} {Q : State → Prop} {cc : ByteArray} {pc : Nat} {ls : Array Slot} {rest st0 As : List Value} {G : va_G} {A : Nat → Prop} {b : Nat} {ct : Nat → ClassId} {w : va_W} {kd : (Nat → Nat) × (Nat → Nat)} {y : MethodName} {bytes : ByteArray} {maxL nL n index : Nat} {ret : Option FieldType} {ws Ts : List Cond} {rm : Room} {own C : String} {ans : Int32} (S : CallFix p m c cc nL s args Ts own) (hM : CtI l y ws rm kd G ct (.ref b :: As) ([] : va_W) ans ([] : va_W)) (cw : CallW R s args own C index y bytes maxL ret ws rm 0 0 n) (hK : va_K G cls_ (tys_ ct) s) (hE : En kd A s s.heap) (hA : ∀ q, s.heap.size ≤ q → A q) (hW : WW G A s.heap w H locs) (hrv : ∃ cell : Cell, H[b]? = some cell ∧ cell.vm.isStatics = false ∧ s.vm.findClass C = some cell.cls) (hn : As.length = n) (hls : ls.size = nL) (hst : st0 = As.reverse ++ .ref b :: rest) (hroom : 2 * (F0 m pc ls st0).monitorRoom + (rest.map fun v => v.category).sum ≤ 8) (hdg : decode cc pc = .ok (.invokevirtual index, 3)) (kk : ∀ (H1 : Heap) (locs1 : List Loc), WW G A s.heap w H1 locs1 → W p l e R s m args below meth c H1 locs1 cells slots Q (F0 m (pc + 3) ls (.int ans :: rest))) (hcap : cells + 0 ≤ R.cells ∧ slots + 0 ≤ R.slots := by exact ⟨Nat.le_of_ble_eq_true rfl, Nat.le_of_ble_eq_true rfl⟩) : W p l e R s m args below meth c H locs cells slots Q (F0 m pc ls st0) := by
  have hc := hW.one (w0 := []) hA [] w rfl
  refine va_calli (va_runV (As := As) (rest := rest) S (hM H.size) cw ⟨Pre_.blind _ _ _ _ _ _, hrv, fun U hU hWd => Pre_.at hK hE hW hc U hU hWd _⟩ rfl hn hls hst hroom hdg hcap) hW.2.2 (fun q _ h => hc.2.2 q h) hc.2.2 (fun r u t H1 locs1 ht hvm hw2 hB hz1 hk1 hS1 => ?_)
  subst hw2
  obtain ⟨hP1, hK1, hD1⟩ := hB
  rw [ht] at hP1
  exact kk H1 locs1 (hW.back (w0 := []) (w1 := []) hA [] w rfl rfl hk1 hP1 hD1 hS1)
set_option maxHeartbeats 4000000 in
set_option maxRecDepth 100000 in
theorem c_J0_length (l : Launch) (kd : (Nat → Nat) × (Nat → Nat)) (G : va_G) (ct : Nat → ClassId) (kw : Nat) (hkw : kw < 6) : CtI l yJ0_length_8abf5 wsJ0_length_8abf5 ({ frames := 1, cells := 0, slots := 0, locals := 20 }) kd G ct [.ref (kd.1 kw)] ([] : va_W) (nI (lenJS.getD kw 0)) ([] : va_W) := by
  intro sz
  refine Met.ofW (cc := cJ0_length_8abf5) (maxL := 1) (ret := (some .int)) (by decide) rfl ?_
  intro p e s m args below meth c s₁ B hml hv
  obtain ⟨rfl, hsz, hP, hK, hD0, hE⟩ := hv
  have hx := B.exec
  have hb := B.bytes
  have hr := B.returns
  have hts := atoms_spec (ws := wsJ0_length_8abf5) B.pre
  have hown : s.vm.findClass RJ0 = some m.cls := findClass_of_methodNamed B.named
  have hlocks := B.notSynchronized
  have fl9 := hts (.fieldLink RJ0 9 "java/lang/String" "value" "[B") (by decide +kernel)
  subst hsz
  have hD := hD0.self (sz := s.heap.size)
  generalize hAe : va_A ([] : va_W) s.heap.size = A at hD hE ⊢
  have hA : ∀ q : Nat, s.heap.size ≤ q → A q := fun q h => by rw [← hAe]; exact Or.inr h
  have hW : WW G A s.heap ([] : va_W) s.heap [] := ⟨hP, hD, va_S.rf⟩
  have hl := lv_entry ([.ref (kd.1 kw)]) (n := 1) (Nat.le_of_ble_eq_true rfl)
  rw [lg_entry_eq]
  generalize (lg_sl ([.ref (kd.1 kw)]) ++ List.replicate (1 - (lg_sl ([.ref (kd.1 kw)])).length) Slot.unset).toArray = ls at hl ⊢
  have hl : lv_has ls 1 [(0, .ref (kd.1 kw))] := hl
  show W p l e ({ frames := 1, cells := 0, slots := 0, locals := 20 } : Room) s m (List.toArray [.ref (kd.1 kw)]) below meth c s.heap [] 0 0 (MQ below (va_Qi (fun r (_ : Unit) => r = (nI (lenJS.getD kw 0))) (fun _ t => Af_ G ct ([] : va_W) A t) A) (List.toArray [.ref (kd.1 kw)]) s 0 0 A) (F0 m 0 ls [])
  refine lv_aload_n hx hb dJ0_length_8abf5_0 rfl (lv_at hl 0 rfl) ?_
  refine vk_getf (v := .ref (kd.2 kw)) hx hb (hE.2.2.1.1 kw hkw).2.2.1 hW.2.2 hown fl9 (fun _ h9 => h9) dJ0_length_8abf5_1 ?_
  refine va_tlen (v := nI (lenJS.getD kw 0)) hx hb (hE.2.2.1.1 kw hkw).2.2.2 hW.2.2 rfl dJ0_length_8abf5_4 ?_
  refine lv_aload_n hx hb dJ0_length_8abf5_5 rfl (lv_at hl 0 rfl) ?_
  refine x_callE_i (As := []) (rest := [.int (nI (lenJS.getD kw 0))]) ⟨hx, hb, hml, hown, hts⟩ (c_J0_co l kd G ct kw hkw) (cwV 0 hts gJ0_length_8abf5_J0_coder_7d493 rfl rfl rfl (by decide +kernel) ⟨Nat.le_of_ble_eq_true rfl, Nat.le_of_ble_eq_true rfl⟩) hK hE hA hW (vk_recv hE.2.2.1 hkw hW.2.2) rfl hl.1 rfl (lv_room (Nat.le_of_ble_eq_true rfl)) dJ0_length_8abf5_6 (fun H locs hW => ?_)
  refine lv_ishr hx hb dJ0_length_8abf5_9 ?_
  exact x_reti (sz := 0) (w0 := []) (A1 := A) hx hb hr hlocks hK hW (sc_l kw hkw) rfl dJ0_length_8abf5_10
set_option maxHeartbeats 4000000 in
set_option maxRecDepth 100000 in
theorem c_J0_charAt (l : Launch) (kd : (Nat → Nat) × (Nat → Nat)) (G : va_G) (ct : Nat → ClassId) (kw : Nat) (x1 : Int32) (hkw : kw < 6) (hi : vp_in x1 (lenJS.getD kw 0)) : CtI l yJ0_charAt_5068e wsJ0_charAt_5068e ({ frames := 3, cells := 0, slots := 0, locals := 64 }) kd G ct [.ref (kd.1 kw), .int x1] ([] : va_W) (((bytJS.getD kw []).getD x1.toNatClampNeg 0) &&& 255) ([] : va_W) := by
  intro sz
  refine Met.ofW (cc := cJ0_charAt_5068e) (maxL := 2) (ret := (some .char)) (by decide) rfl ?_
  intro p e s m args below meth c s₁ B hml hv
  obtain ⟨rfl, hsz, hP, hK, hD0, hE⟩ := hv
  have hx := B.exec
  have hb := B.bytes
  have hr := B.returns
  have hts := atoms_spec (ws := wsJ0_charAt_5068e) B.pre
  have hown : s.vm.findClass RJ0 = some m.cls := findClass_of_methodNamed B.named
  have hlocks := B.notSynchronized
  have fl9 := hts (.fieldLink RJ0 9 "java/lang/String" "value" "[B") (by decide +kernel)
  subst hsz
  have hD := hD0.self (sz := s.heap.size)
  generalize hAe : va_A ([] : va_W) s.heap.size = A at hD hE ⊢
  have hA : ∀ q : Nat, s.heap.size ≤ q → A q := fun q h => by rw [← hAe]; exact Or.inr h
  have hW : WW G A s.heap ([] : va_W) s.heap [] := ⟨hP, hD, va_S.rf⟩
  have hl := lv_entry ([.ref (kd.1 kw), .int x1]) (n := 2) (Nat.le_of_ble_eq_true rfl)
  rw [lg_entry_eq]
  generalize (lg_sl ([.ref (kd.1 kw), .int x1]) ++ List.replicate (2 - (lg_sl ([.ref (kd.1 kw), .int x1])).length) Slot.unset).toArray = ls at hl ⊢
  have hl : lv_has ls 2 [(0, .ref (kd.1 kw)), (1, .int x1)] := hl
  show W p l e ({ frames := 3, cells := 0, slots := 0, locals := 64 } : Room) s m (List.toArray [.ref (kd.1 kw), .int x1]) below meth c s.heap [] 0 0 (MQ below (va_Qi (fun r (_ : Unit) => r = (((bytJS.getD kw []).getD x1.toNatClampNeg 0) &&& 255)) (fun _ t => Af_ G ct ([] : va_W) A t) A) (List.toArray [.ref (kd.1 kw), .int x1]) s 0 0 A) (F0 m 0 ls [])
  have hj : x1.toNatClampNeg < lenJS.getD kw 0 := Nat.not_le.mp fun q => hi (Or.inr q)
  have e0 := sc_b kw hkw _ hj
  refine lv_aload_n hx hb dJ0_charAt_5068e_0 rfl (lv_at hl 0 rfl) ?_
  refine x_callE_i (As := []) (rest := []) ⟨hx, hb, hml, hown, hts⟩ (c_J0_l1 l kd G ct kw hkw) (cwV 0 hts gJ0_charAt_5068e_J0_isLatin1_aae02 rfl rfl rfl (by decide +kernel) ⟨Nat.le_of_ble_eq_true rfl, Nat.le_of_ble_eq_true rfl⟩) hK hE hA hW (vk_recv hE.2.2.1 hkw hW.2.2) rfl hl.1 rfl (lv_room (Nat.le_of_ble_eq_true rfl)) dJ0_charAt_5068e_1 (fun H locs hW => ?_)
  refine lv_if_eq (tgt := 16) hx hb dJ0_charAt_5068e_4 (by decide) (fun hc => absurd hc (by decide)) (fun hc => ?_)
  refine lv_aload_n hx hb dJ0_charAt_5068e_7 rfl (lv_at hl 0 rfl) ?_
  refine vk_getf (v := .ref (kd.2 kw)) hx hb (hE.2.2.1.1 kw hkw).2.2.1 hW.2.2 hown fl9 (fun _ h9 => h9) dJ0_charAt_5068e_8 ?_
  refine lv_iload_n hx hb dJ0_charAt_5068e_11 rfl (lv_at hl 1 rfl) ?_
  refine x_callS_i (As := [.ref (kd.2 kw), .int x1]) (rest := []) ⟨hx, hb, hml, hown, hts⟩ (c_J1_ca l kd G ct kw x1 hkw hi) (va_cwS 2 hts gJ0_charAt_5068e_J1_charAt_3b067 rfl rfl rfl (by decide +kernel) ⟨Nat.le_of_ble_eq_true rfl, Nat.le_of_ble_eq_true rfl⟩) hK hE hA hW rfl hl.1 rfl (lv_room (Nat.le_of_ble_eq_true rfl)) dJ0_charAt_5068e_12 (fun H locs hW => ?_)
  have e1 : narrow .char (.int (((bytJS.getD kw []).getD x1.toNatClampNeg 0) &&& 255)) = .int (((bytJS.getD kw []).getD x1.toNatClampNeg 0) &&& 255) := by rw [← e0]; exact pk_nc _
  exact x_retz hx hb hr e1 hlocks hK hW rfl rfl dJ0_charAt_5068e_15
