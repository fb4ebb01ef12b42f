-- ===== end of PART A; then your names; then what follows =====
/-! THE CLAIM OUT OF ONE WALK OF THE LAW'S BODY. Your part is whole_start (and what it stands on); all else here is the same for every law, but numbers. -/
def R_law : String := "FittingStridesLaw"
def lw_P (b : Addr) (xs : List Int32) (args : Array Value) (s : State) : Prop := args = #[.ref b] ∧ s.IntsAt b xs ∧ xs.length ≤ 2560 ∧ (Jvm.Cond.and given_1 narrow_1).before args s = true
def lw_Q (_ : Array Value) (s : State) (o : Outcome) (t : State) : Prop := o = .returned (some (.int 1)) ∧ Framed s o t [] 600000 7302250
def lw_Z (below : List Frame) (a : Array Value) (s : State) : State → Prop := fun t => ∃ o, t.status = .running ∧ Ended t below o ∧ lw_Q a s o t
/-- the law's own end, with 1 on the stack, nothing written that was there before, its room as the claim has it -/
theorem lw_ret {p : Program} {l : Launch} {e : Env} {s : State} {m : MethodId} {below : List Frame} {meth : Method} {c : Code} {b : Nat} (hx : p.tables.exec = Jvm.exec) (hb : c.code = code) (hr : meth.sig.returnType = ret) (hlocks : meth.locks = false) {pc : Nat} {H : Heap} {ls : Array Slot} (hdg : decode code pc = .ok (.ireturn, 1)) : W p l e room_1 s m #[Value.ref b] below meth c H [] 600000 7302250 (lw_Z below #[Value.ref b] s) (F0 m pc ls [.int 1]) := by
  intro T hT X
  obtain ⟨fs, hret, hrun, hended, hW, hframe⟩ := X.leave (v := some (.int 1)) (hlocks := hlocks) (fun h => by rw [hr] at h; cases h)
  have hmeth' : T.vm.method? m = some meth := X.method'
  refine ⟨T.setFrames fs, ?_, .returned (some (.int 1)), hrun, hended, rfl, ⟨_, rfl⟩, hW, hframe⟩
  jvm_step X.here [X.here.top, hx, hb, hdg, hmeth', hr, ret, narrow_b1]
  (try refine ⟨rfl, ?_⟩); (try refine ⟨rfl, ?_⟩)
  first | (intro acts; rw [hret _ acts rfl rfl rfl]) | rw [hret _ _ rfl rfl rfl]
  exact Steps.refl _
/-- what holds at the law's entry: the machine, the code, the tables' words (any of lw_tbl by 'hts w (by decide +kernel)'), the script of L ints xs at the cell b, what the Statement gives of the start (any of its parts by flat_of_before) -/
def lw_At (p : Program) (s : State) (m : MethodId) (meth : Method) (c : Code) (b L : Nat) (xs : Nat → Int32) : Prop :=
  p.tables.exec = Jvm.exec ∧ c.code = code ∧ meth.sig.returnType = ret ∧ c.maxLocals = 4 ∧ s.vm.findClass R_law = some m.cls ∧ (∀ w ∈ lw_tbl, w.before #[Value.ref b] s = true) ∧ va_X b L xs s s.heap ∧ b < s.heap.size ∧ meth.locks = false ∧ (Jvm.Cond.and given_1 narrow_1).before #[Value.ref b] s = true

set_option maxHeartbeats 4000000 in
set_option maxRecDepth 100000 in
theorem law_feed {p : Program} {l : Launch} {e : Env} {s : State} {m : MethodId} {below : List Frame} {meth : Method} {c : Code} {b L : Nat} {xs : Nat → Int32} {kd : (Nat → Nat) × (Nat → Nat)} {G : va_G} {ct : Nat → ClassId} {N : Nat} {Rel : St_ → St_ → Prop} (C0 : lw_At p s m meth c b L xs) (hE : En kd (fun q : Nat => s.heap.size ≤ q) s s.heap) (hK : va_K G cls_ (tys_ ct) s) (hp : PA_feed N Rel) (x3 : Int32) (hi0 : vp_in x3 L) (hi1 : vp_in (x3 + (1 : Int32)) L) (hi2 : vp_in (x3 + (2 : Int32)) L) (hi3 : vp_in (x3 + (3 : Int32)) L) (hi4 : vp_in (x3 + (4 : Int32)) L) (a1 a2 : Nat → Nat) (g1 g2 : St_) (sg : Int64) (hR : Rel g1 g2) (H : Heap) (locs : List Loc) (ls : Array Slot) (hW : WW G (fun q : Nat => s.heap.size ≤ q) s.heap (wX6 a1 ct g1 ++ wX7 a2 ct g2 sg) H locs) (hl : lv_has ls 4 [(0, .ref b), (1, .ref (a1 0)), (2, .ref (a2 0)), (3, .int x3)])
    (K : ∀ (g1 g2 : St_) (sg : Int64), Rel g1 g2 → ∀ (H : Heap) (locs : List Loc) (ls : Array Slot), WW G (fun q : Nat => s.heap.size ≤ q) s.heap (wX6 a1 ct g1 ++ wX7 a2 ct g2 sg) H locs → lv_has ls 4 [(0, .ref b), (1, .ref (a1 0)), (2, .ref (a2 0)), (3, .int x3)] → W p l e room_1 s m #[Value.ref b] below meth c H locs 81 2133 (lw_Z below #[Value.ref b] s) (F0 m 997 ls [])) : W p l e room_1 s m #[Value.ref b] below meth c H locs 81 2133 (lw_Z below #[Value.ref b] s) (F0 m 164 ls []) := by
  obtain ⟨hx, hb, hr, hml, hown, hts, hX, hbl, hlocks, hgv⟩ := C0
  have htsL : ∀ w ∈ wsL_law, w.before #[Value.ref b] s = true := fun w h => hts w (wsL_law_in w h)
  have hA : ∀ q : Nat, s.heap.size ≤ q → (fun q : Nat => s.heap.size ≤ q) q := fun _ h => h
  have hbA : ¬ (fun q : Nat => s.heap.size ≤ q) b := Nat.not_le.mpr hbl
  refine lv_aload_n hx hb dL_law_164 rfl (lv_at hl 1 rfl) ?_
  refine lv_aload_n hx hb dL_law_165 rfl (lv_at hl 0 rfl) ?_
  refine lv_iload_n hx hb dL_law_166 rfl (lv_at hl 3 rfl) ?_
  refine lv_iconst (v := (1 : Int32)) hx hb dL_law_167 (by decide) ?_
  refine lv_iadd hx hb dL_law_168 ?_
  refine va_sld hx hb hX hbl hbA hW.2.2 hi1 dL_law_169 ?_
  refine lv_aload_n hx hb dL_law_170 rfl (lv_at hl 0 rfl) ?_
  refine lv_iload_n hx hb dL_law_171 rfl (lv_at hl 3 rfl) ?_
  refine lv_iconst (v := (2 : Int32)) hx hb dL_law_172 (by decide) ?_
  refine lv_iadd hx hb dL_law_173 ?_
  refine va_sld hx hb hX hbl hbA hW.2.2 hi2 dL_law_174 ?_
  refine lv_i2l hx hb dL_law_175 rfl ?_
  refine lv_bipush (v := (32 : Int32)) hx hb dL_law_176 (by decide) ?_
  refine lv_lshl hx hb dL_law_178 rfl ?_
  refine lv_aload_n hx hb dL_law_179 rfl (lv_at hl 0 rfl) ?_
  refine lv_iload_n hx hb dL_law_180 rfl (lv_at hl 3 rfl) ?_
  refine lv_iconst (v := (3 : Int32)) hx hb dL_law_181 (by decide) ?_
  refine lv_iadd hx hb dL_law_182 ?_
  refine va_sld hx hb hX hbl hbA hW.2.2 hi3 dL_law_183 ?_
  refine lv_i2l hx hb dL_law_184 rfl ?_
  refine lv_ldc2 (v := (4294967295 : Int64)) hx hb hown (hts (.constantLong RL 13 (4294967295)) (by decide +kernel)) dL_law_185 ?_
  refine lv_land hx hb dL_law_188 ?_
  refine lv_lor hx hb dL_law_189 ?_
  obtain ⟨r, h1, h2, hf1, hf2, hR2⟩ := hp g1 g2 hR (xs (x3 + (1 : Int32)).toNatClampNeg) (((xs (x3 + (2 : Int32)).toNatClampNeg).toInt64 <<< ((32 : Int32).toInt64 &&& 63)) ||| ((xs (x3 + (3 : Int32)).toNatClampNeg).toInt64 &&& (4294967295 : Int64)))
  refine x_callV_i (w' := (wX6 a1 ct h1 ++ wX7 a2 ct g2 sg)) (As := [.int (xs (x3 + (1 : Int32)).toNatClampNeg), .long (((xs (x3 + (2 : Int32)).toNatClampNeg).toInt64 <<< ((32 : Int32).toInt64 &&& 63)) ||| ((xs (x3 + (3 : Int32)).toNatClampNeg).toInt64 &&& (4294967295 : Int64)))]) (rest := []) (ci := 6) ⟨hx, hb, hml, hown, htsL⟩ (c_X6_feed l N kd G ct a1 g1 (xs (x3 + (1 : Int32)).toNatClampNeg) (((xs (x3 + (2 : Int32)).toNatClampNeg).toInt64 <<< ((32 : Int32).toInt64 &&& 63)) ||| ((xs (x3 + (3 : Int32)).toNatClampNeg).toInt64 &&& (4294967295 : Int64))) _ hf1) (cwV 2 htsL gL_law_X6_feed rfl rfl rfl (by decide +kernel) ⟨Nat.le_of_ble_eq_true rfl, Nat.le_of_ble_eq_true rfl⟩) hK hE hA hW [] (wX7 a2 ct g2 sg) rfl rfl 0 rfl rfl rfl rfl hl.1 rfl (lv_room (Nat.le_of_ble_eq_true rfl)) dL_law_190 (fun H locs hW => ?_)
  refine lv_aload_n hx hb dL_law_193 rfl (lv_at hl 2 rfl) ?_
  refine lv_aload_n hx hb dL_law_194 rfl (lv_at hl 0 rfl) ?_
  refine lv_iload_n hx hb dL_law_195 rfl (lv_at hl 3 rfl) ?_
  refine lv_iconst (v := (1 : Int32)) hx hb dL_law_196 (by decide) ?_
  refine lv_iadd hx hb dL_law_197 ?_
  refine va_sld hx hb hX hbl hbA hW.2.2 hi1 dL_law_198 ?_
  refine lv_aload_n hx hb dL_law_199 rfl (lv_at hl 0 rfl) ?_
  refine lv_iload_n hx hb dL_law_200 rfl (lv_at hl 3 rfl) ?_
  refine lv_iconst (v := (2 : Int32)) hx hb dL_law_201 (by decide) ?_
  refine lv_iadd hx hb dL_law_202 ?_
  refine va_sld hx hb hX hbl hbA hW.2.2 hi2 dL_law_203 ?_
  refine lv_i2l hx hb dL_law_204 rfl ?_
  refine lv_bipush (v := (32 : Int32)) hx hb dL_law_205 (by decide) ?_
  refine lv_lshl hx hb dL_law_207 rfl ?_
  refine lv_aload_n hx hb dL_law_208 rfl (lv_at hl 0 rfl) ?_
  refine lv_iload_n hx hb dL_law_209 rfl (lv_at hl 3 rfl) ?_
  refine lv_iconst (v := (3 : Int32)) hx hb dL_law_210 (by decide) ?_
  refine lv_iadd hx hb dL_law_211 ?_
  refine va_sld hx hb hX hbl hbA hW.2.2 hi3 dL_law_212 ?_
  refine lv_i2l hx hb dL_law_213 rfl ?_
  refine lv_ldc2 (v := (4294967295 : Int64)) hx hb hown (hts (.constantLong RL 13 (4294967295)) (by decide +kernel)) dL_law_214 ?_
  refine lv_land hx hb dL_law_217 ?_
  refine lv_lor hx hb dL_law_218 ?_
  refine x_callV_i (w' := (wX6 a1 ct h1 ++ wX7 a2 ct h2 sg)) (As := [.int (xs (x3 + (1 : Int32)).toNatClampNeg), .long (((xs (x3 + (2 : Int32)).toNatClampNeg).toInt64 <<< ((32 : Int32).toInt64 &&& 63)) ||| ((xs (x3 + (3 : Int32)).toNatClampNeg).toInt64 &&& (4294967295 : Int64)))]) (rest := [.int r]) (ci := 7) ⟨hx, hb, hml, hown, htsL⟩ (c_X7_feed l N kd G ct a2 g2 sg (xs (x3 + (1 : Int32)).toNatClampNeg) (((xs (x3 + (2 : Int32)).toNatClampNeg).toInt64 <<< ((32 : Int32).toInt64 &&& 63)) ||| ((xs (x3 + (3 : Int32)).toNatClampNeg).toInt64 &&& (4294967295 : Int64))) _ hf2) (cwV 2 htsL gL_law_X7_feed rfl rfl rfl (by decide +kernel) ⟨Nat.le_of_ble_eq_true rfl, Nat.le_of_ble_eq_true rfl⟩) hK hE hA hW (wX6 a1 ct h1) [] (by rw [List.append_nil]) (by rw [List.append_nil]) 0 rfl rfl rfl rfl hl.1 rfl (lv_room (Nat.le_of_ble_eq_true rfl)) dL_law_219 (fun H locs hW => ?_)
  refine lv_icmp_eq (tgt := 997) hx hb dL_law_222 (by decide) (fun hc => ?_) (fun hc => absurd rfl hc)
  exact K _ _ _ hR2 H locs ls hW hl
set_option maxHeartbeats 4000000 in
set_option maxRecDepth 100000 in
theorem law_town {p : Program} {l : Launch} {e : Env} {s : State} {m : MethodId} {below : List Frame} {meth : Method} {c : Code} {b L : Nat} {xs : Nat → Int32} {kd : (Nat → Nat) × (Nat → Nat)} {G : va_G} {ct : Nat → ClassId} {N : Nat} {Rel : St_ → St_ → Prop} (C0 : lw_At p s m meth c b L xs) (hE : En kd (fun q : Nat => s.heap.size ≤ q) s s.heap) (hK : va_K G cls_ (tys_ ct) s) (hp : PA_town N Rel) (x3 : Int32) (hi0 : vp_in x3 L) (hi1 : vp_in (x3 + (1 : Int32)) L) (hi2 : vp_in (x3 + (2 : Int32)) L) (hi3 : vp_in (x3 + (3 : Int32)) L) (hi4 : vp_in (x3 + (4 : Int32)) L) (a1 a2 : Nat → Nat) (g1 g2 : St_) (sg : Int64) (hR : Rel g1 g2) (H : Heap) (locs : List Loc) (ls : Array Slot) (hW : WW G (fun q : Nat => s.heap.size ≤ q) s.heap (wX6 a1 ct g1 ++ wX7 a2 ct g2 sg) H locs) (hl : lv_has ls 4 [(0, .ref b), (1, .ref (a1 0)), (2, .ref (a2 0)), (3, .int x3)])
    (K : ∀ (g1 g2 : St_) (sg : Int64), Rel g1 g2 → ∀ (H : Heap) (locs : List Loc) (ls : Array Slot), WW G (fun q : Nat => s.heap.size ≤ q) s.heap (wX6 a1 ct g1 ++ wX7 a2 ct g2 sg) H locs → lv_has ls 4 [(0, .ref b), (1, .ref (a1 0)), (2, .ref (a2 0)), (3, .int x3)] → W p l e room_1 s m #[Value.ref b] below meth c H locs 81 2133 (lw_Z below #[Value.ref b] s) (F0 m 997 ls [])) : W p l e room_1 s m #[Value.ref b] below meth c H locs 81 2133 (lw_Z below #[Value.ref b] s) (F0 m 227 ls []) := by
  obtain ⟨hx, hb, hr, hml, hown, hts, hX, hbl, hlocks, hgv⟩ := C0
  have htsL : ∀ w ∈ wsL_law, w.before #[Value.ref b] s = true := fun w h => hts w (wsL_law_in w h)
  have hA : ∀ q : Nat, s.heap.size ≤ q → (fun q : Nat => s.heap.size ≤ q) q := fun _ h => h
  have hbA : ¬ (fun q : Nat => s.heap.size ≤ q) b := Nat.not_le.mpr hbl
  refine lv_aload_n hx hb dL_law_227 rfl (lv_at hl 1 rfl) ?_
  obtain ⟨r, h1, h2, t2, hf1, hf2, hR2⟩ := hp g1 g2 sg hR
  refine x_callV_i (w' := (wX6 a1 ct h1 ++ wX7 a2 ct g2 sg)) (As := []) (rest := []) (ci := 6) ⟨hx, hb, hml, hown, htsL⟩ (c_X6_town l N kd G ct a1 g1 _ hf1) (cwV 0 htsL gL_law_X6_town rfl rfl rfl (by decide +kernel) ⟨Nat.le_of_ble_eq_true rfl, Nat.le_of_ble_eq_true rfl⟩) hK hE hA hW [] (wX7 a2 ct g2 sg) rfl rfl 0 rfl rfl rfl rfl hl.1 rfl (lv_room (Nat.le_of_ble_eq_true rfl)) dL_law_228 (fun H locs hW => ?_)
  refine lv_aload_n hx hb dL_law_231 rfl (lv_at hl 2 rfl) ?_
  refine x_callV_i (w' := (wX6 a1 ct h1 ++ wX7 a2 ct h2 t2)) (As := []) (rest := [.int r]) (ci := 7) ⟨hx, hb, hml, hown, htsL⟩ (c_X7_town l N kd G ct a2 g2 sg _ hf2) (cwV 0 htsL gL_law_X7_town rfl rfl rfl (by decide +kernel) ⟨Nat.le_of_ble_eq_true rfl, Nat.le_of_ble_eq_true rfl⟩) hK hE hA hW (wX6 a1 ct h1) [] (by rw [List.append_nil]) (by rw [List.append_nil]) 0 rfl rfl rfl rfl hl.1 rfl (lv_room (Nat.le_of_ble_eq_true rfl)) dL_law_232 (fun H locs hW => ?_)
  refine lv_icmp_eq (tgt := 997) hx hb dL_law_235 (by decide) (fun hc => ?_) (fun hc => absurd rfl hc)
  exact K _ _ _ hR2 H locs ls hW hl
set_option maxHeartbeats 4000000 in
set_option maxRecDepth 100000 in
theorem law_fault {p : Program} {l : Launch} {e : Env} {s : State} {m : MethodId} {below : List Frame} {meth : Method} {c : Code} {b L : Nat} {xs : Nat → Int32} {kd : (Nat → Nat) × (Nat → Nat)} {G : va_G} {ct : Nat → ClassId} {N : Nat} {Rel : St_ → St_ → Prop} (C0 : lw_At p s m meth c b L xs) (hE : En kd (fun q : Nat => s.heap.size ≤ q) s s.heap) (hK : va_K G cls_ (tys_ ct) s) (hp : PA_fault N Rel) (x3 : Int32) (hi0 : vp_in x3 L) (hi1 : vp_in (x3 + (1 : Int32)) L) (hi2 : vp_in (x3 + (2 : Int32)) L) (hi3 : vp_in (x3 + (3 : Int32)) L) (hi4 : vp_in (x3 + (4 : Int32)) L) (a1 a2 : Nat → Nat) (g1 g2 : St_) (sg : Int64) (hR : Rel g1 g2) (H : Heap) (locs : List Loc) (ls : Array Slot) (hW : WW G (fun q : Nat => s.heap.size ≤ q) s.heap (wX6 a1 ct g1 ++ wX7 a2 ct g2 sg) H locs) (hl : lv_has ls 4 [(0, .ref b), (1, .ref (a1 0)), (2, .ref (a2 0)), (3, .int x3)])
    (K : ∀ (g1 g2 : St_) (sg : Int64), Rel g1 g2 → ∀ (H : Heap) (locs : List Loc) (ls : Array Slot), WW G (fun q : Nat => s.heap.size ≤ q) s.heap (wX6 a1 ct g1 ++ wX7 a2 ct g2 sg) H locs → lv_has ls 4 [(0, .ref b), (1, .ref (a1 0)), (2, .ref (a2 0)), (3, .int x3)] → W p l e room_1 s m #[Value.ref b] below meth c H locs 81 2133 (lw_Z below #[Value.ref b] s) (F0 m 997 ls [])) : W p l e room_1 s m #[Value.ref b] below meth c H locs 81 2133 (lw_Z below #[Value.ref b] s) (F0 m 240 ls []) := by
  obtain ⟨hx, hb, hr, hml, hown, hts, hX, hbl, hlocks, hgv⟩ := C0
  have htsL : ∀ w ∈ wsL_law, w.before #[Value.ref b] s = true := fun w h => hts w (wsL_law_in w h)
  have hA : ∀ q : Nat, s.heap.size ≤ q → (fun q : Nat => s.heap.size ≤ q) q := fun _ h => h
  have hbA : ¬ (fun q : Nat => s.heap.size ≤ q) b := Nat.not_le.mpr hbl
  refine lv_aload_n hx hb dL_law_240 rfl (lv_at hl 1 rfl) ?_
  obtain ⟨r, hf1, hf2, hR2⟩ := hp g1 g2 hR
  refine x_callV_i (w' := (wX6 a1 ct g1 ++ wX7 a2 ct g2 sg)) (As := []) (rest := []) (ci := 6) ⟨hx, hb, hml, hown, htsL⟩ (c_X6_fault l N kd G ct a1 g1 _ hf1) (cwV 0 htsL gL_law_X6_fault rfl rfl rfl (by decide +kernel) ⟨Nat.le_of_ble_eq_true rfl, Nat.le_of_ble_eq_true rfl⟩) hK hE hA hW [] (wX7 a2 ct g2 sg) rfl rfl 0 rfl rfl rfl rfl hl.1 rfl (lv_room (Nat.le_of_ble_eq_true rfl)) dL_law_241 (fun H locs hW => ?_)
  refine lv_aload_n hx hb dL_law_244 rfl (lv_at hl 2 rfl) ?_
  refine x_callV_i (w' := (wX6 a1 ct g1 ++ wX7 a2 ct g2 sg)) (As := []) (rest := [.int r]) (ci := 7) ⟨hx, hb, hml, hown, htsL⟩ (c_X7_fault l N kd G ct a2 g2 sg _ hf2) (cwV 0 htsL gL_law_X7_fault rfl rfl rfl (by decide +kernel) ⟨Nat.le_of_ble_eq_true rfl, Nat.le_of_ble_eq_true rfl⟩) hK hE hA hW (wX6 a1 ct g1) [] (by rw [List.append_nil]) (by rw [List.append_nil]) 0 rfl rfl rfl rfl hl.1 rfl (lv_room (Nat.le_of_ble_eq_true rfl)) dL_law_245 (fun H locs hW => ?_)
  refine lv_icmp_eq (tgt := 997) hx hb dL_law_248 (by decide) (fun hc => ?_) (fun hc => absurd rfl hc)
  exact K _ _ _ hR2 H locs ls hW hl
set_option maxHeartbeats 4000000 in
set_option maxRecDepth 100000 in
theorem law_told {p : Program} {l : Launch} {e : Env} {s : State} {m : MethodId} {below : List Frame} {meth : Method} {c : Code} {b L : Nat} {xs : Nat → Int32} {kd : (Nat → Nat) × (Nat → Nat)} {G : va_G} {ct : Nat → ClassId} {N : Nat} {Rel : St_ → St_ → Prop} (C0 : lw_At p s m meth c b L xs) (hE : En kd (fun q : Nat => s.heap.size ≤ q) s s.heap) (hK : va_K G cls_ (tys_ ct) s) (hp : PA_told N Rel) (x3 : Int32) (hi0 : vp_in x3 L) (hi1 : vp_in (x3 + (1 : Int32)) L) (hi2 : vp_in (x3 + (2 : Int32)) L) (hi3 : vp_in (x3 + (3 : Int32)) L) (hi4 : vp_in (x3 + (4 : Int32)) L) (a1 a2 : Nat → Nat) (g1 g2 : St_) (sg : Int64) (hR : Rel g1 g2) (H : Heap) (locs : List Loc) (ls : Array Slot) (hW : WW G (fun q : Nat => s.heap.size ≤ q) s.heap (wX6 a1 ct g1 ++ wX7 a2 ct g2 sg) H locs) (hl : lv_has ls 4 [(0, .ref b), (1, .ref (a1 0)), (2, .ref (a2 0)), (3, .int x3)])
    (K : ∀ (g1 g2 : St_) (sg : Int64), Rel g1 g2 → ∀ (H : Heap) (locs : List Loc) (ls : Array Slot), WW G (fun q : Nat => s.heap.size ≤ q) s.heap (wX6 a1 ct g1 ++ wX7 a2 ct g2 sg) H locs → lv_has ls 4 [(0, .ref b), (1, .ref (a1 0)), (2, .ref (a2 0)), (3, .int x3)] → W p l e room_1 s m #[Value.ref b] below meth c H locs 81 2133 (lw_Z below #[Value.ref b] s) (F0 m 997 ls [])) : W p l e room_1 s m #[Value.ref b] below meth c H locs 81 2133 (lw_Z below #[Value.ref b] s) (F0 m 253 ls []) := by
  obtain ⟨hx, hb, hr, hml, hown, hts, hX, hbl, hlocks, hgv⟩ := C0
  have htsL : ∀ w ∈ wsL_law, w.before #[Value.ref b] s = true := fun w h => hts w (wsL_law_in w h)
  have hA : ∀ q : Nat, s.heap.size ≤ q → (fun q : Nat => s.heap.size ≤ q) q := fun _ h => h
  have hbA : ¬ (fun q : Nat => s.heap.size ≤ q) b := Nat.not_le.mpr hbl
  refine lv_aload_n hx hb dL_law_253 rfl (lv_at hl 1 rfl) ?_
  refine lv_aload_n hx hb dL_law_254 rfl (lv_at hl 0 rfl) ?_
  refine lv_iload_n hx hb dL_law_255 rfl (lv_at hl 3 rfl) ?_
  refine lv_iconst (v := (1 : Int32)) hx hb dL_law_256 (by decide) ?_
  refine lv_iadd hx hb dL_law_257 ?_
  refine va_sld hx hb hX hbl hbA hW.2.2 hi1 dL_law_258 ?_
  obtain ⟨r, hf1, hf2, hR2⟩ := hp g1 g2 hR (xs (x3 + (1 : Int32)).toNatClampNeg)
  refine x_callV_i (w' := (wX6 a1 ct g1 ++ wX7 a2 ct g2 sg)) (As := [.int (xs (x3 + (1 : Int32)).toNatClampNeg)]) (rest := []) (ci := 6) ⟨hx, hb, hml, hown, htsL⟩ (c_X6_told l N kd G ct a1 g1 (xs (x3 + (1 : Int32)).toNatClampNeg) _ hf1) (cwV 1 htsL gL_law_X6_told rfl rfl rfl (by decide +kernel) ⟨Nat.le_of_ble_eq_true rfl, Nat.le_of_ble_eq_true rfl⟩) hK hE hA hW [] (wX7 a2 ct g2 sg) rfl rfl 0 rfl rfl rfl rfl hl.1 rfl (lv_room (Nat.le_of_ble_eq_true rfl)) dL_law_259 (fun H locs hW => ?_)
  refine lv_aload_n hx hb dL_law_262 rfl (lv_at hl 2 rfl) ?_
  refine lv_aload_n hx hb dL_law_263 rfl (lv_at hl 0 rfl) ?_
  refine lv_iload_n hx hb dL_law_264 rfl (lv_at hl 3 rfl) ?_
  refine lv_iconst (v := (1 : Int32)) hx hb dL_law_265 (by decide) ?_
  refine lv_iadd hx hb dL_law_266 ?_
  refine va_sld hx hb hX hbl hbA hW.2.2 hi1 dL_law_267 ?_
  refine x_callV_i (w' := (wX6 a1 ct g1 ++ wX7 a2 ct g2 sg)) (As := [.int (xs (x3 + (1 : Int32)).toNatClampNeg)]) (rest := [.int r]) (ci := 7) ⟨hx, hb, hml, hown, htsL⟩ (c_X7_told l N kd G ct a2 g2 sg (xs (x3 + (1 : Int32)).toNatClampNeg) _ hf2) (cwV 1 htsL gL_law_X7_told rfl rfl rfl (by decide +kernel) ⟨Nat.le_of_ble_eq_true rfl, Nat.le_of_ble_eq_true rfl⟩) hK hE hA hW (wX6 a1 ct g1) [] (by rw [List.append_nil]) (by rw [List.append_nil]) 0 rfl rfl rfl rfl hl.1 rfl (lv_room (Nat.le_of_ble_eq_true rfl)) dL_law_268 (fun H locs hW => ?_)
  refine lv_icmp_eq (tgt := 997) hx hb dL_law_271 (by decide) (fun hc => ?_) (fun hc => absurd rfl hc)
  exact K _ _ _ hR2 H locs ls hW hl
set_option maxHeartbeats 4000000 in
set_option maxRecDepth 100000 in
theorem law_stair {p : Program} {l : Launch} {e : Env} {s : State} {m : MethodId} {below : List Frame} {meth : Method} {c : Code} {b L : Nat} {xs : Nat → Int32} {kd : (Nat → Nat) × (Nat → Nat)} {G : va_G} {ct : Nat → ClassId} {N : Nat} {Rel : St_ → St_ → Prop} (C0 : lw_At p s m meth c b L xs) (hE : En kd (fun q : Nat => s.heap.size ≤ q) s s.heap) (hK : va_K G cls_ (tys_ ct) s) (hp : PA_stair N Rel) (x3 : Int32) (hi0 : vp_in x3 L) (hi1 : vp_in (x3 + (1 : Int32)) L) (hi2 : vp_in (x3 + (2 : Int32)) L) (hi3 : vp_in (x3 + (3 : Int32)) L) (hi4 : vp_in (x3 + (4 : Int32)) L) (a1 a2 : Nat → Nat) (g1 g2 : St_) (sg : Int64) (hR : Rel g1 g2) (H : Heap) (locs : List Loc) (ls : Array Slot) (hW : WW G (fun q : Nat => s.heap.size ≤ q) s.heap (wX6 a1 ct g1 ++ wX7 a2 ct g2 sg) H locs) (hl : lv_has ls 4 [(0, .ref b), (1, .ref (a1 0)), (2, .ref (a2 0)), (3, .int x3)])
    (K : ∀ (g1 g2 : St_) (sg : Int64), Rel g1 g2 → ∀ (H : Heap) (locs : List Loc) (ls : Array Slot), WW G (fun q : Nat => s.heap.size ≤ q) s.heap (wX6 a1 ct g1 ++ wX7 a2 ct g2 sg) H locs → lv_has ls 4 [(0, .ref b), (1, .ref (a1 0)), (2, .ref (a2 0)), (3, .int x3)] → W p l e room_1 s m #[Value.ref b] below meth c H locs 81 2133 (lw_Z below #[Value.ref b] s) (F0 m 997 ls [])) : W p l e room_1 s m #[Value.ref b] below meth c H locs 81 2133 (lw_Z below #[Value.ref b] s) (F0 m 276 ls []) := by
  obtain ⟨hx, hb, hr, hml, hown, hts, hX, hbl, hlocks, hgv⟩ := C0
  have htsL : ∀ w ∈ wsL_law, w.before #[Value.ref b] s = true := fun w h => hts w (wsL_law_in w h)
  have hA : ∀ q : Nat, s.heap.size ≤ q → (fun q : Nat => s.heap.size ≤ q) q := fun _ h => h
  have hbA : ¬ (fun q : Nat => s.heap.size ≤ q) b := Nat.not_le.mpr hbl
  refine lv_aload_n hx hb dL_law_276 rfl (lv_at hl 1 rfl) ?_
  refine lv_aload_n hx hb dL_law_277 rfl (lv_at hl 0 rfl) ?_
  refine lv_iload_n hx hb dL_law_278 rfl (lv_at hl 3 rfl) ?_
  refine lv_iconst (v := (1 : Int32)) hx hb dL_law_279 (by decide) ?_
  refine lv_iadd hx hb dL_law_280 ?_
  refine va_sld hx hb hX hbl hbA hW.2.2 hi1 dL_law_281 ?_
  refine lv_aload_n hx hb dL_law_282 rfl (lv_at hl 0 rfl) ?_
  refine lv_iload_n hx hb dL_law_283 rfl (lv_at hl 3 rfl) ?_
  refine lv_iconst (v := (2 : Int32)) hx hb dL_law_284 (by decide) ?_
  refine lv_iadd hx hb dL_law_285 ?_
  refine va_sld hx hb hX hbl hbA hW.2.2 hi2 dL_law_286 ?_
  obtain ⟨r, hf1, hf2, hR2⟩ := hp g1 g2 hR (xs (x3 + (1 : Int32)).toNatClampNeg) (xs (x3 + (2 : Int32)).toNatClampNeg)
  refine x_callV_i (w' := (wX6 a1 ct g1 ++ wX7 a2 ct g2 sg)) (As := [.int (xs (x3 + (1 : Int32)).toNatClampNeg), .int (xs (x3 + (2 : Int32)).toNatClampNeg)]) (rest := []) (ci := 6) ⟨hx, hb, hml, hown, htsL⟩ (c_X6_stair l N kd G ct a1 g1 (xs (x3 + (1 : Int32)).toNatClampNeg) (xs (x3 + (2 : Int32)).toNatClampNeg) _ hf1) (cwV 2 htsL gL_law_X6_stair rfl rfl rfl (by decide +kernel) ⟨Nat.le_of_ble_eq_true rfl, Nat.le_of_ble_eq_true rfl⟩) hK hE hA hW [] (wX7 a2 ct g2 sg) rfl rfl 0 rfl rfl rfl rfl hl.1 rfl (lv_room (Nat.le_of_ble_eq_true rfl)) dL_law_287 (fun H locs hW => ?_)
  refine lv_aload_n hx hb dL_law_290 rfl (lv_at hl 2 rfl) ?_
  refine lv_aload_n hx hb dL_law_291 rfl (lv_at hl 0 rfl) ?_
  refine lv_iload_n hx hb dL_law_292 rfl (lv_at hl 3 rfl) ?_
  refine lv_iconst (v := (1 : Int32)) hx hb dL_law_293 (by decide) ?_
  refine lv_iadd hx hb dL_law_294 ?_
  refine va_sld hx hb hX hbl hbA hW.2.2 hi1 dL_law_295 ?_
  refine lv_aload_n hx hb dL_law_296 rfl (lv_at hl 0 rfl) ?_
  refine lv_iload_n hx hb dL_law_297 rfl (lv_at hl 3 rfl) ?_
  refine lv_iconst (v := (2 : Int32)) hx hb dL_law_298 (by decide) ?_
  refine lv_iadd hx hb dL_law_299 ?_
  refine va_sld hx hb hX hbl hbA hW.2.2 hi2 dL_law_300 ?_
  refine x_callV_i (w' := (wX6 a1 ct g1 ++ wX7 a2 ct g2 sg)) (As := [.int (xs (x3 + (1 : Int32)).toNatClampNeg), .int (xs (x3 + (2 : Int32)).toNatClampNeg)]) (rest := [.int r]) (ci := 7) ⟨hx, hb, hml, hown, htsL⟩ (c_X7_stair l N kd G ct a2 g2 sg (xs (x3 + (1 : Int32)).toNatClampNeg) (xs (x3 + (2 : Int32)).toNatClampNeg) _ hf2) (cwV 2 htsL gL_law_X7_stair rfl rfl rfl (by decide +kernel) ⟨Nat.le_of_ble_eq_true rfl, Nat.le_of_ble_eq_true rfl⟩) hK hE hA hW (wX6 a1 ct g1) [] (by rw [List.append_nil]) (by rw [List.append_nil]) 0 rfl rfl rfl rfl hl.1 rfl (lv_room (Nat.le_of_ble_eq_true rfl)) dL_law_301 (fun H locs hW => ?_)
  refine lv_icmp_eq (tgt := 997) hx hb dL_law_304 (by decide) (fun hc => ?_) (fun hc => absurd rfl hc)
  exact K _ _ _ hR2 H locs ls hW hl
set_option maxHeartbeats 4000000 in
set_option maxRecDepth 100000 in
theorem law_person {p : Program} {l : Launch} {e : Env} {s : State} {m : MethodId} {below : List Frame} {meth : Method} {c : Code} {b L : Nat} {xs : Nat → Int32} {kd : (Nat → Nat) × (Nat → Nat)} {G : va_G} {ct : Nat → ClassId} {N : Nat} {Rel : St_ → St_ → Prop} (C0 : lw_At p s m meth c b L xs) (hE : En kd (fun q : Nat => s.heap.size ≤ q) s s.heap) (hK : va_K G cls_ (tys_ ct) s) (hp : PA_person N Rel) (x3 : Int32) (hi0 : vp_in x3 L) (hi1 : vp_in (x3 + (1 : Int32)) L) (hi2 : vp_in (x3 + (2 : Int32)) L) (hi3 : vp_in (x3 + (3 : Int32)) L) (hi4 : vp_in (x3 + (4 : Int32)) L) (a1 a2 : Nat → Nat) (g1 g2 : St_) (sg : Int64) (hR : Rel g1 g2) (H : Heap) (locs : List Loc) (ls : Array Slot) (hW : WW G (fun q : Nat => s.heap.size ≤ q) s.heap (wX6 a1 ct g1 ++ wX7 a2 ct g2 sg) H locs) (hl : lv_has ls 4 [(0, .ref b), (1, .ref (a1 0)), (2, .ref (a2 0)), (3, .int x3)])
    (K : ∀ (g1 g2 : St_) (sg : Int64), Rel g1 g2 → ∀ (H : Heap) (locs : List Loc) (ls : Array Slot), WW G (fun q : Nat => s.heap.size ≤ q) s.heap (wX6 a1 ct g1 ++ wX7 a2 ct g2 sg) H locs → lv_has ls 4 [(0, .ref b), (1, .ref (a1 0)), (2, .ref (a2 0)), (3, .int x3)] → W p l e room_1 s m #[Value.ref b] below meth c H locs 81 2133 (lw_Z below #[Value.ref b] s) (F0 m 997 ls [])) : W p l e room_1 s m #[Value.ref b] below meth c H locs 81 2133 (lw_Z below #[Value.ref b] s) (F0 m 309 ls []) := by
  obtain ⟨hx, hb, hr, hml, hown, hts, hX, hbl, hlocks, hgv⟩ := C0
  have htsL : ∀ w ∈ wsL_law, w.before #[Value.ref b] s = true := fun w h => hts w (wsL_law_in w h)
  have hA : ∀ q : Nat, s.heap.size ≤ q → (fun q : Nat => s.heap.size ≤ q) q := fun _ h => h
  have hbA : ¬ (fun q : Nat => s.heap.size ≤ q) b := Nat.not_le.mpr hbl
  refine lv_aload_n hx hb dL_law_309 rfl (lv_at hl 1 rfl) ?_
  refine lv_aload_n hx hb dL_law_310 rfl (lv_at hl 0 rfl) ?_
  refine lv_iload_n hx hb dL_law_311 rfl (lv_at hl 3 rfl) ?_
  refine lv_iconst (v := (1 : Int32)) hx hb dL_law_312 (by decide) ?_
  refine lv_iadd hx hb dL_law_313 ?_
  refine va_sld hx hb hX hbl hbA hW.2.2 hi1 dL_law_314 ?_
  refine lv_aload_n hx hb dL_law_315 rfl (lv_at hl 0 rfl) ?_
  refine lv_iload_n hx hb dL_law_316 rfl (lv_at hl 3 rfl) ?_
  refine lv_iconst (v := (2 : Int32)) hx hb dL_law_317 (by decide) ?_
  refine lv_iadd hx hb dL_law_318 ?_
  refine va_sld hx hb hX hbl hbA hW.2.2 hi2 dL_law_319 ?_
  obtain ⟨r, hf1, hf2, hR2⟩ := hp g1 g2 hR (xs (x3 + (1 : Int32)).toNatClampNeg) (xs (x3 + (2 : Int32)).toNatClampNeg)
  refine x_callV_i (w' := (wX6 a1 ct g1 ++ wX7 a2 ct g2 sg)) (As := [.int (xs (x3 + (1 : Int32)).toNatClampNeg), .int (xs (x3 + (2 : Int32)).toNatClampNeg)]) (rest := []) (ci := 6) ⟨hx, hb, hml, hown, htsL⟩ (c_X6_person l N kd G ct a1 g1 (xs (x3 + (1 : Int32)).toNatClampNeg) (xs (x3 + (2 : Int32)).toNatClampNeg) _ hf1) (cwV 2 htsL gL_law_X6_person rfl rfl rfl (by decide +kernel) ⟨Nat.le_of_ble_eq_true rfl, Nat.le_of_ble_eq_true rfl⟩) hK hE hA hW [] (wX7 a2 ct g2 sg) rfl rfl 0 rfl rfl rfl rfl hl.1 rfl (lv_room (Nat.le_of_ble_eq_true rfl)) dL_law_320 (fun H locs hW => ?_)
  refine lv_aload_n hx hb dL_law_323 rfl (lv_at hl 2 rfl) ?_
  refine lv_aload_n hx hb dL_law_324 rfl (lv_at hl 0 rfl) ?_
  refine lv_iload_n hx hb dL_law_325 rfl (lv_at hl 3 rfl) ?_
  refine lv_iconst (v := (1 : Int32)) hx hb dL_law_326 (by decide) ?_
  refine lv_iadd hx hb dL_law_327 ?_
  refine va_sld hx hb hX hbl hbA hW.2.2 hi1 dL_law_328 ?_
  refine lv_aload_n hx hb dL_law_329 rfl (lv_at hl 0 rfl) ?_
  refine lv_iload_n hx hb dL_law_330 rfl (lv_at hl 3 rfl) ?_
  refine lv_iconst (v := (2 : Int32)) hx hb dL_law_331 (by decide) ?_
  refine lv_iadd hx hb dL_law_332 ?_
  refine va_sld hx hb hX hbl hbA hW.2.2 hi2 dL_law_333 ?_
  refine x_callV_i (w' := (wX6 a1 ct g1 ++ wX7 a2 ct g2 sg)) (As := [.int (xs (x3 + (1 : Int32)).toNatClampNeg), .int (xs (x3 + (2 : Int32)).toNatClampNeg)]) (rest := [.int r]) (ci := 7) ⟨hx, hb, hml, hown, htsL⟩ (c_X7_person l N kd G ct a2 g2 sg (xs (x3 + (1 : Int32)).toNatClampNeg) (xs (x3 + (2 : Int32)).toNatClampNeg) _ hf2) (cwV 2 htsL gL_law_X7_person rfl rfl rfl (by decide +kernel) ⟨Nat.le_of_ble_eq_true rfl, Nat.le_of_ble_eq_true rfl⟩) hK hE hA hW (wX6 a1 ct g1) [] (by rw [List.append_nil]) (by rw [List.append_nil]) 0 rfl rfl rfl rfl hl.1 rfl (lv_room (Nat.le_of_ble_eq_true rfl)) dL_law_334 (fun H locs hW => ?_)
  refine lv_icmp_eq (tgt := 997) hx hb dL_law_337 (by decide) (fun hc => ?_) (fun hc => absurd rfl hc)
  exact K _ _ _ hR2 H locs ls hW hl
set_option maxHeartbeats 4000000 in
set_option maxRecDepth 100000 in
theorem law_fit {p : Program} {l : Launch} {e : Env} {s : State} {m : MethodId} {below : List Frame} {meth : Method} {c : Code} {b L : Nat} {xs : Nat → Int32} {kd : (Nat → Nat) × (Nat → Nat)} {G : va_G} {ct : Nat → ClassId} {N : Nat} {Rel : St_ → St_ → Prop} (C0 : lw_At p s m meth c b L xs) (hE : En kd (fun q : Nat => s.heap.size ≤ q) s s.heap) (hK : va_K G cls_ (tys_ ct) s) (hp : PA_fit N Rel) (x3 : Int32) (hi0 : vp_in x3 L) (hi1 : vp_in (x3 + (1 : Int32)) L) (hi2 : vp_in (x3 + (2 : Int32)) L) (hi3 : vp_in (x3 + (3 : Int32)) L) (hi4 : vp_in (x3 + (4 : Int32)) L) (a1 a2 : Nat → Nat) (g1 g2 : St_) (sg : Int64) (hR : Rel g1 g2) (H : Heap) (locs : List Loc) (ls : Array Slot) (hW : WW G (fun q : Nat => s.heap.size ≤ q) s.heap (wX6 a1 ct g1 ++ wX7 a2 ct g2 sg) H locs) (hl : lv_has ls 4 [(0, .ref b), (1, .ref (a1 0)), (2, .ref (a2 0)), (3, .int x3)])
    (K : ∀ (g1 g2 : St_) (sg : Int64), Rel g1 g2 → ∀ (H : Heap) (locs : List Loc) (ls : Array Slot), WW G (fun q : Nat => s.heap.size ≤ q) s.heap (wX6 a1 ct g1 ++ wX7 a2 ct g2 sg) H locs → lv_has ls 4 [(0, .ref b), (1, .ref (a1 0)), (2, .ref (a2 0)), (3, .int x3)] → W p l e room_1 s m #[Value.ref b] below meth c H locs 81 2133 (lw_Z below #[Value.ref b] s) (F0 m 997 ls [])) : W p l e room_1 s m #[Value.ref b] below meth c H locs 81 2133 (lw_Z below #[Value.ref b] s) (F0 m 342 ls []) := by
  obtain ⟨hx, hb, hr, hml, hown, hts, hX, hbl, hlocks, hgv⟩ := C0
  have htsL : ∀ w ∈ wsL_law, w.before #[Value.ref b] s = true := fun w h => hts w (wsL_law_in w h)
  have hA : ∀ q : Nat, s.heap.size ≤ q → (fun q : Nat => s.heap.size ≤ q) q := fun _ h => h
  have hbA : ¬ (fun q : Nat => s.heap.size ≤ q) b := Nat.not_le.mpr hbl
  refine lv_aload_n hx hb dL_law_342 rfl (lv_at hl 1 rfl) ?_
  refine lv_aload_n hx hb dL_law_343 rfl (lv_at hl 0 rfl) ?_
  refine lv_iload_n hx hb dL_law_344 rfl (lv_at hl 3 rfl) ?_
  refine lv_iconst (v := (1 : Int32)) hx hb dL_law_345 (by decide) ?_
  refine lv_iadd hx hb dL_law_346 ?_
  refine va_sld hx hb hX hbl hbA hW.2.2 hi1 dL_law_347 ?_
  refine lv_aload_n hx hb dL_law_348 rfl (lv_at hl 0 rfl) ?_
  refine lv_iload_n hx hb dL_law_349 rfl (lv_at hl 3 rfl) ?_
  refine lv_iconst (v := (2 : Int32)) hx hb dL_law_350 (by decide) ?_
  refine lv_iadd hx hb dL_law_351 ?_
  refine va_sld hx hb hX hbl hbA hW.2.2 hi2 dL_law_352 ?_
  obtain ⟨r, hf1, hf2, hR2⟩ := hp g1 g2 hR (xs (x3 + (1 : Int32)).toNatClampNeg) (xs (x3 + (2 : Int32)).toNatClampNeg)
  refine x_callV_i (w' := (wX6 a1 ct g1 ++ wX7 a2 ct g2 sg)) (As := [.int (xs (x3 + (1 : Int32)).toNatClampNeg), .int (xs (x3 + (2 : Int32)).toNatClampNeg)]) (rest := []) (ci := 6) ⟨hx, hb, hml, hown, htsL⟩ (c_X6_fit l N kd G ct a1 g1 (xs (x3 + (1 : Int32)).toNatClampNeg) (xs (x3 + (2 : Int32)).toNatClampNeg) _ hf1) (cwV 2 htsL gL_law_X6_fit rfl rfl rfl (by decide +kernel) ⟨Nat.le_of_ble_eq_true rfl, Nat.le_of_ble_eq_true rfl⟩) hK hE hA hW [] (wX7 a2 ct g2 sg) rfl rfl 0 rfl rfl rfl rfl hl.1 rfl (lv_room (Nat.le_of_ble_eq_true rfl)) dL_law_353 (fun H locs hW => ?_)
  refine lv_aload_n hx hb dL_law_356 rfl (lv_at hl 2 rfl) ?_
  refine lv_aload_n hx hb dL_law_357 rfl (lv_at hl 0 rfl) ?_
  refine lv_iload_n hx hb dL_law_358 rfl (lv_at hl 3 rfl) ?_
  refine lv_iconst (v := (1 : Int32)) hx hb dL_law_359 (by decide) ?_
  refine lv_iadd hx hb dL_law_360 ?_
  refine va_sld hx hb hX hbl hbA hW.2.2 hi1 dL_law_361 ?_
  refine lv_aload_n hx hb dL_law_362 rfl (lv_at hl 0 rfl) ?_
  refine lv_iload_n hx hb dL_law_363 rfl (lv_at hl 3 rfl) ?_
  refine lv_iconst (v := (2 : Int32)) hx hb dL_law_364 (by decide) ?_
  refine lv_iadd hx hb dL_law_365 ?_
  refine va_sld hx hb hX hbl hbA hW.2.2 hi2 dL_law_366 ?_
  refine x_callV_i (w' := (wX6 a1 ct g1 ++ wX7 a2 ct g2 sg)) (As := [.int (xs (x3 + (1 : Int32)).toNatClampNeg), .int (xs (x3 + (2 : Int32)).toNatClampNeg)]) (rest := [.int r]) (ci := 7) ⟨hx, hb, hml, hown, htsL⟩ (c_X7_fit l N kd G ct a2 g2 sg (xs (x3 + (1 : Int32)).toNatClampNeg) (xs (x3 + (2 : Int32)).toNatClampNeg) _ hf2) (cwV 2 htsL gL_law_X7_fit rfl rfl rfl (by decide +kernel) ⟨Nat.le_of_ble_eq_true rfl, Nat.le_of_ble_eq_true rfl⟩) hK hE hA hW (wX6 a1 ct g1) [] (by rw [List.append_nil]) (by rw [List.append_nil]) 0 rfl rfl rfl rfl hl.1 rfl (lv_room (Nat.le_of_ble_eq_true rfl)) dL_law_367 (fun H locs hW => ?_)
  refine lv_icmp_eq (tgt := 997) hx hb dL_law_370 (by decide) (fun hc => ?_) (fun hc => absurd rfl hc)
  exact K _ _ _ hR2 H locs ls hW hl
set_option maxHeartbeats 4000000 in
set_option maxRecDepth 100000 in
theorem law_go {p : Program} {l : Launch} {e : Env} {s : State} {m : MethodId} {below : List Frame} {meth : Method} {c : Code} {b L : Nat} {xs : Nat → Int32} {kd : (Nat → Nat) × (Nat → Nat)} {G : va_G} {ct : Nat → ClassId} {N : Nat} {Rel : St_ → St_ → Prop} (C0 : lw_At p s m meth c b L xs) (hE : En kd (fun q : Nat => s.heap.size ≤ q) s s.heap) (hK : va_K G cls_ (tys_ ct) s) (hp : PA_go N Rel) (x3 : Int32) (hi0 : vp_in x3 L) (hi1 : vp_in (x3 + (1 : Int32)) L) (hi2 : vp_in (x3 + (2 : Int32)) L) (hi3 : vp_in (x3 + (3 : Int32)) L) (hi4 : vp_in (x3 + (4 : Int32)) L) (a1 a2 : Nat → Nat) (g1 g2 : St_) (sg : Int64) (hR : Rel g1 g2) (H : Heap) (locs : List Loc) (ls : Array Slot) (hW : WW G (fun q : Nat => s.heap.size ≤ q) s.heap (wX6 a1 ct g1 ++ wX7 a2 ct g2 sg) H locs) (hl : lv_has ls 4 [(0, .ref b), (1, .ref (a1 0)), (2, .ref (a2 0)), (3, .int x3)])
    (K : ∀ (g1 g2 : St_) (sg : Int64), Rel g1 g2 → ∀ (H : Heap) (locs : List Loc) (ls : Array Slot), WW G (fun q : Nat => s.heap.size ≤ q) s.heap (wX6 a1 ct g1 ++ wX7 a2 ct g2 sg) H locs → lv_has ls 4 [(0, .ref b), (1, .ref (a1 0)), (2, .ref (a2 0)), (3, .int x3)] → W p l e room_1 s m #[Value.ref b] below meth c H locs 81 2133 (lw_Z below #[Value.ref b] s) (F0 m 997 ls [])) : W p l e room_1 s m #[Value.ref b] below meth c H locs 81 2133 (lw_Z below #[Value.ref b] s) (F0 m 375 ls []) := by
  obtain ⟨hx, hb, hr, hml, hown, hts, hX, hbl, hlocks, hgv⟩ := C0
  have htsL : ∀ w ∈ wsL_law, w.before #[Value.ref b] s = true := fun w h => hts w (wsL_law_in w h)
  have hA : ∀ q : Nat, s.heap.size ≤ q → (fun q : Nat => s.heap.size ≤ q) q := fun _ h => h
  have hbA : ¬ (fun q : Nat => s.heap.size ≤ q) b := Nat.not_le.mpr hbl
  refine lv_aload_n hx hb dL_law_375 rfl (lv_at hl 1 rfl) ?_
  refine lv_aload_n hx hb dL_law_376 rfl (lv_at hl 0 rfl) ?_
  refine lv_iload_n hx hb dL_law_377 rfl (lv_at hl 3 rfl) ?_
  refine lv_iconst (v := (1 : Int32)) hx hb dL_law_378 (by decide) ?_
  refine lv_iadd hx hb dL_law_379 ?_
  refine va_sld hx hb hX hbl hbA hW.2.2 hi1 dL_law_380 ?_
  refine lv_aload_n hx hb dL_law_381 rfl (lv_at hl 0 rfl) ?_
  refine lv_iload_n hx hb dL_law_382 rfl (lv_at hl 3 rfl) ?_
  refine lv_iconst (v := (2 : Int32)) hx hb dL_law_383 (by decide) ?_
  refine lv_iadd hx hb dL_law_384 ?_
  refine va_sld hx hb hX hbl hbA hW.2.2 hi2 dL_law_385 ?_
  obtain ⟨r, h1, h2, hf1, hf2, hR2⟩ := hp g1 g2 hR (xs (x3 + (1 : Int32)).toNatClampNeg) (xs (x3 + (2 : Int32)).toNatClampNeg)
  refine x_callV_i (w' := (wX6 a1 ct h1 ++ wX7 a2 ct g2 sg)) (As := [.int (xs (x3 + (1 : Int32)).toNatClampNeg), .int (xs (x3 + (2 : Int32)).toNatClampNeg)]) (rest := []) (ci := 6) ⟨hx, hb, hml, hown, htsL⟩ (c_X6_go l N kd G ct a1 g1 (xs (x3 + (1 : Int32)).toNatClampNeg) (xs (x3 + (2 : Int32)).toNatClampNeg) _ hf1) (cwV 2 htsL gL_law_X6_go rfl rfl rfl (by decide +kernel) ⟨Nat.le_of_ble_eq_true rfl, Nat.le_of_ble_eq_true rfl⟩) hK hE hA hW [] (wX7 a2 ct g2 sg) rfl rfl 0 rfl rfl rfl rfl hl.1 rfl (lv_room (Nat.le_of_ble_eq_true rfl)) dL_law_386 (fun H locs hW => ?_)
  refine lv_aload_n hx hb dL_law_389 rfl (lv_at hl 2 rfl) ?_
  refine lv_aload_n hx hb dL_law_390 rfl (lv_at hl 0 rfl) ?_
  refine lv_iload_n hx hb dL_law_391 rfl (lv_at hl 3 rfl) ?_
  refine lv_iconst (v := (1 : Int32)) hx hb dL_law_392 (by decide) ?_
  refine lv_iadd hx hb dL_law_393 ?_
  refine va_sld hx hb hX hbl hbA hW.2.2 hi1 dL_law_394 ?_
  refine lv_aload_n hx hb dL_law_395 rfl (lv_at hl 0 rfl) ?_
  refine lv_iload_n hx hb dL_law_396 rfl (lv_at hl 3 rfl) ?_
  refine lv_iconst (v := (2 : Int32)) hx hb dL_law_397 (by decide) ?_
  refine lv_iadd hx hb dL_law_398 ?_
  refine va_sld hx hb hX hbl hbA hW.2.2 hi2 dL_law_399 ?_
  refine x_callV_i (w' := (wX6 a1 ct h1 ++ wX7 a2 ct h2 sg)) (As := [.int (xs (x3 + (1 : Int32)).toNatClampNeg), .int (xs (x3 + (2 : Int32)).toNatClampNeg)]) (rest := [.int r]) (ci := 7) ⟨hx, hb, hml, hown, htsL⟩ (c_X7_go l N kd G ct a2 g2 sg (xs (x3 + (1 : Int32)).toNatClampNeg) (xs (x3 + (2 : Int32)).toNatClampNeg) _ hf2) (cwV 2 htsL gL_law_X7_go rfl rfl rfl (by decide +kernel) ⟨Nat.le_of_ble_eq_true rfl, Nat.le_of_ble_eq_true rfl⟩) hK hE hA hW (wX6 a1 ct h1) [] (by rw [List.append_nil]) (by rw [List.append_nil]) 0 rfl rfl rfl rfl hl.1 rfl (lv_room (Nat.le_of_ble_eq_true rfl)) dL_law_400 (fun H locs hW => ?_)
  refine lv_icmp_eq (tgt := 997) hx hb dL_law_403 (by decide) (fun hc => ?_) (fun hc => absurd rfl hc)
  exact K _ _ _ hR2 H locs ls hW hl
set_option maxHeartbeats 4000000 in
set_option maxRecDepth 100000 in
theorem law_build {p : Program} {l : Launch} {e : Env} {s : State} {m : MethodId} {below : List Frame} {meth : Method} {c : Code} {b L : Nat} {xs : Nat → Int32} {kd : (Nat → Nat) × (Nat → Nat)} {G : va_G} {ct : Nat → ClassId} {N : Nat} {Rel : St_ → St_ → Prop} (C0 : lw_At p s m meth c b L xs) (hE : En kd (fun q : Nat => s.heap.size ≤ q) s s.heap) (hK : va_K G cls_ (tys_ ct) s) (hp : PA_build N Rel) (x3 : Int32) (hi0 : vp_in x3 L) (hi1 : vp_in (x3 + (1 : Int32)) L) (hi2 : vp_in (x3 + (2 : Int32)) L) (hi3 : vp_in (x3 + (3 : Int32)) L) (hi4 : vp_in (x3 + (4 : Int32)) L) (a1 a2 : Nat → Nat) (g1 g2 : St_) (sg : Int64) (hR : Rel g1 g2) (H : Heap) (locs : List Loc) (ls : Array Slot) (hW : WW G (fun q : Nat => s.heap.size ≤ q) s.heap (wX6 a1 ct g1 ++ wX7 a2 ct g2 sg) H locs) (hl : lv_has ls 4 [(0, .ref b), (1, .ref (a1 0)), (2, .ref (a2 0)), (3, .int x3)])
    (K : ∀ (g1 g2 : St_) (sg : Int64), Rel g1 g2 → ∀ (H : Heap) (locs : List Loc) (ls : Array Slot), WW G (fun q : Nat => s.heap.size ≤ q) s.heap (wX6 a1 ct g1 ++ wX7 a2 ct g2 sg) H locs → lv_has ls 4 [(0, .ref b), (1, .ref (a1 0)), (2, .ref (a2 0)), (3, .int x3)] → W p l e room_1 s m #[Value.ref b] below meth c H locs 81 2133 (lw_Z below #[Value.ref b] s) (F0 m 997 ls [])) : W p l e room_1 s m #[Value.ref b] below meth c H locs 81 2133 (lw_Z below #[Value.ref b] s) (F0 m 408 ls []) := by
  obtain ⟨hx, hb, hr, hml, hown, hts, hX, hbl, hlocks, hgv⟩ := C0
  have htsL : ∀ w ∈ wsL_law, w.before #[Value.ref b] s = true := fun w h => hts w (wsL_law_in w h)
  have hA : ∀ q : Nat, s.heap.size ≤ q → (fun q : Nat => s.heap.size ≤ q) q := fun _ h => h
  have hbA : ¬ (fun q : Nat => s.heap.size ≤ q) b := Nat.not_le.mpr hbl
  refine lv_aload_n hx hb dL_law_408 rfl (lv_at hl 1 rfl) ?_
  refine lv_aload_n hx hb dL_law_409 rfl (lv_at hl 0 rfl) ?_
  refine lv_iload_n hx hb dL_law_410 rfl (lv_at hl 3 rfl) ?_
  refine lv_iconst (v := (1 : Int32)) hx hb dL_law_411 (by decide) ?_
  refine lv_iadd hx hb dL_law_412 ?_
  refine va_sld hx hb hX hbl hbA hW.2.2 hi1 dL_law_413 ?_
  refine lv_aload_n hx hb dL_law_414 rfl (lv_at hl 0 rfl) ?_
  refine lv_iload_n hx hb dL_law_415 rfl (lv_at hl 3 rfl) ?_
  refine lv_iconst (v := (2 : Int32)) hx hb dL_law_416 (by decide) ?_
  refine lv_iadd hx hb dL_law_417 ?_
  refine va_sld hx hb hX hbl hbA hW.2.2 hi2 dL_law_418 ?_
  refine lv_aload_n hx hb dL_law_419 rfl (lv_at hl 0 rfl) ?_
  refine lv_iload_n hx hb dL_law_420 rfl (lv_at hl 3 rfl) ?_
  refine lv_iconst (v := (3 : Int32)) hx hb dL_law_421 (by decide) ?_
  refine lv_iadd hx hb dL_law_422 ?_
  refine va_sld hx hb hX hbl hbA hW.2.2 hi3 dL_law_423 ?_
  obtain ⟨r, h1, h2, hf1, hf2, hR2⟩ := hp g1 g2 hR (xs (x3 + (1 : Int32)).toNatClampNeg) (xs (x3 + (2 : Int32)).toNatClampNeg) (xs (x3 + (3 : Int32)).toNatClampNeg)
  refine x_callV_i (w' := (wX6 a1 ct h1 ++ wX7 a2 ct g2 sg)) (As := [.int (xs (x3 + (1 : Int32)).toNatClampNeg), .int (xs (x3 + (2 : Int32)).toNatClampNeg), .int (xs (x3 + (3 : Int32)).toNatClampNeg)]) (rest := []) (ci := 6) ⟨hx, hb, hml, hown, htsL⟩ (c_X6_build l N kd G ct a1 g1 (xs (x3 + (1 : Int32)).toNatClampNeg) (xs (x3 + (2 : Int32)).toNatClampNeg) (xs (x3 + (3 : Int32)).toNatClampNeg) _ hf1) (cwV 3 htsL gL_law_X6_build rfl rfl rfl (by decide +kernel) ⟨Nat.le_of_ble_eq_true rfl, Nat.le_of_ble_eq_true rfl⟩) hK hE hA hW [] (wX7 a2 ct g2 sg) rfl rfl 0 rfl rfl rfl rfl hl.1 rfl (lv_room (Nat.le_of_ble_eq_true rfl)) dL_law_424 (fun H locs hW => ?_)
  refine lv_aload_n hx hb dL_law_427 rfl (lv_at hl 2 rfl) ?_
  refine lv_aload_n hx hb dL_law_428 rfl (lv_at hl 0 rfl) ?_
  refine lv_iload_n hx hb dL_law_429 rfl (lv_at hl 3 rfl) ?_
  refine lv_iconst (v := (1 : Int32)) hx hb dL_law_430 (by decide) ?_
  refine lv_iadd hx hb dL_law_431 ?_
  refine va_sld hx hb hX hbl hbA hW.2.2 hi1 dL_law_432 ?_
  refine lv_aload_n hx hb dL_law_433 rfl (lv_at hl 0 rfl) ?_
  refine lv_iload_n hx hb dL_law_434 rfl (lv_at hl 3 rfl) ?_
  refine lv_iconst (v := (2 : Int32)) hx hb dL_law_435 (by decide) ?_
  refine lv_iadd hx hb dL_law_436 ?_
  refine va_sld hx hb hX hbl hbA hW.2.2 hi2 dL_law_437 ?_
  refine lv_aload_n hx hb dL_law_438 rfl (lv_at hl 0 rfl) ?_
  refine lv_iload_n hx hb dL_law_439 rfl (lv_at hl 3 rfl) ?_
  refine lv_iconst (v := (3 : Int32)) hx hb dL_law_440 (by decide) ?_
  refine lv_iadd hx hb dL_law_441 ?_
  refine va_sld hx hb hX hbl hbA hW.2.2 hi3 dL_law_442 ?_
  refine x_callV_i (w' := (wX6 a1 ct h1 ++ wX7 a2 ct h2 sg)) (As := [.int (xs (x3 + (1 : Int32)).toNatClampNeg), .int (xs (x3 + (2 : Int32)).toNatClampNeg), .int (xs (x3 + (3 : Int32)).toNatClampNeg)]) (rest := [.int r]) (ci := 7) ⟨hx, hb, hml, hown, htsL⟩ (c_X7_build l N kd G ct a2 g2 sg (xs (x3 + (1 : Int32)).toNatClampNeg) (xs (x3 + (2 : Int32)).toNatClampNeg) (xs (x3 + (3 : Int32)).toNatClampNeg) _ hf2) (cwV 3 htsL gL_law_X7_build rfl rfl rfl (by decide +kernel) ⟨Nat.le_of_ble_eq_true rfl, Nat.le_of_ble_eq_true rfl⟩) hK hE hA hW (wX6 a1 ct h1) [] (by rw [List.append_nil]) (by rw [List.append_nil]) 0 rfl rfl rfl rfl hl.1 rfl (lv_room (Nat.le_of_ble_eq_true rfl)) dL_law_443 (fun H locs hW => ?_)
  refine lv_icmp_eq (tgt := 997) hx hb dL_law_446 (by decide) (fun hc => ?_) (fun hc => absurd rfl hc)
  exact K _ _ _ hR2 H locs ls hW hl
set_option maxHeartbeats 4000000 in
set_option maxRecDepth 100000 in
theorem law_law {p : Program} {l : Launch} {e : Env} {s : State} {m : MethodId} {below : List Frame} {meth : Method} {c : Code} {b L : Nat} {xs : Nat → Int32} {kd : (Nat → Nat) × (Nat → Nat)} {G : va_G} {ct : Nat → ClassId} {N : Nat} {Rel : St_ → St_ → Prop} (C0 : lw_At p s m meth c b L xs) (hE : En kd (fun q : Nat => s.heap.size ≤ q) s s.heap) (hK : va_K G cls_ (tys_ ct) s) (hp : PA_law N Rel) (x3 : Int32) (hi0 : vp_in x3 L) (hi1 : vp_in (x3 + (1 : Int32)) L) (hi2 : vp_in (x3 + (2 : Int32)) L) (hi3 : vp_in (x3 + (3 : Int32)) L) (hi4 : vp_in (x3 + (4 : Int32)) L) (a1 a2 : Nat → Nat) (g1 g2 : St_) (sg : Int64) (hR : Rel g1 g2) (H : Heap) (locs : List Loc) (ls : Array Slot) (hW : WW G (fun q : Nat => s.heap.size ≤ q) s.heap (wX6 a1 ct g1 ++ wX7 a2 ct g2 sg) H locs) (hl : lv_has ls 4 [(0, .ref b), (1, .ref (a1 0)), (2, .ref (a2 0)), (3, .int x3)])
    (K : ∀ (g1 g2 : St_) (sg : Int64), Rel g1 g2 → ∀ (H : Heap) (locs : List Loc) (ls : Array Slot), WW G (fun q : Nat => s.heap.size ≤ q) s.heap (wX6 a1 ct g1 ++ wX7 a2 ct g2 sg) H locs → lv_has ls 4 [(0, .ref b), (1, .ref (a1 0)), (2, .ref (a2 0)), (3, .int x3)] → W p l e room_1 s m #[Value.ref b] below meth c H locs 81 2133 (lw_Z below #[Value.ref b] s) (F0 m 997 ls [])) : W p l e room_1 s m #[Value.ref b] below meth c H locs 81 2133 (lw_Z below #[Value.ref b] s) (F0 m 451 ls []) := by
  obtain ⟨hx, hb, hr, hml, hown, hts, hX, hbl, hlocks, hgv⟩ := C0
  have htsL : ∀ w ∈ wsL_law, w.before #[Value.ref b] s = true := fun w h => hts w (wsL_law_in w h)
  have hA : ∀ q : Nat, s.heap.size ≤ q → (fun q : Nat => s.heap.size ≤ q) q := fun _ h => h
  have hbA : ¬ (fun q : Nat => s.heap.size ≤ q) b := Nat.not_le.mpr hbl
  refine lv_aload_n hx hb dL_law_451 rfl (lv_at hl 1 rfl) ?_
  refine lv_aload_n hx hb dL_law_452 rfl (lv_at hl 0 rfl) ?_
  refine lv_iload_n hx hb dL_law_453 rfl (lv_at hl 3 rfl) ?_
  refine lv_iconst (v := (1 : Int32)) hx hb dL_law_454 (by decide) ?_
  refine lv_iadd hx hb dL_law_455 ?_
  refine va_sld hx hb hX hbl hbA hW.2.2 hi1 dL_law_456 ?_
  obtain ⟨r, h1, h2, hf1, hf2, hR2⟩ := hp g1 g2 hR (xs (x3 + (1 : Int32)).toNatClampNeg)
  refine x_callV_i (w' := (wX6 a1 ct h1 ++ wX7 a2 ct g2 sg)) (As := [.int (xs (x3 + (1 : Int32)).toNatClampNeg)]) (rest := []) (ci := 6) ⟨hx, hb, hml, hown, htsL⟩ (c_X6_law l N kd G ct a1 g1 (xs (x3 + (1 : Int32)).toNatClampNeg) _ hf1) (cwV 1 htsL gL_law_X6_law rfl rfl rfl (by decide +kernel) ⟨Nat.le_of_ble_eq_true rfl, Nat.le_of_ble_eq_true rfl⟩) hK hE hA hW [] (wX7 a2 ct g2 sg) rfl rfl 0 rfl rfl rfl rfl hl.1 rfl (lv_room (Nat.le_of_ble_eq_true rfl)) dL_law_457 (fun H locs hW => ?_)
  refine lv_aload_n hx hb dL_law_460 rfl (lv_at hl 2 rfl) ?_
  refine lv_aload_n hx hb dL_law_461 rfl (lv_at hl 0 rfl) ?_
  refine lv_iload_n hx hb dL_law_462 rfl (lv_at hl 3 rfl) ?_
  refine lv_iconst (v := (1 : Int32)) hx hb dL_law_463 (by decide) ?_
  refine lv_iadd hx hb dL_law_464 ?_
  refine va_sld hx hb hX hbl hbA hW.2.2 hi1 dL_law_465 ?_
  refine x_callV_i (w' := (wX6 a1 ct h1 ++ wX7 a2 ct h2 sg)) (As := [.int (xs (x3 + (1 : Int32)).toNatClampNeg)]) (rest := [.int r]) (ci := 7) ⟨hx, hb, hml, hown, htsL⟩ (c_X7_law l N kd G ct a2 g2 sg (xs (x3 + (1 : Int32)).toNatClampNeg) _ hf2) (cwV 1 htsL gL_law_X7_law rfl rfl rfl (by decide +kernel) ⟨Nat.le_of_ble_eq_true rfl, Nat.le_of_ble_eq_true rfl⟩) hK hE hA hW (wX6 a1 ct h1) [] (by rw [List.append_nil]) (by rw [List.append_nil]) 0 rfl rfl rfl rfl hl.1 rfl (lv_room (Nat.le_of_ble_eq_true rfl)) dL_law_466 (fun H locs hW => ?_)
  refine lv_icmp_eq (tgt := 997) hx hb dL_law_469 (by decide) (fun hc => ?_) (fun hc => absurd rfl hc)
  exact K _ _ _ hR2 H locs ls hW hl
set_option maxHeartbeats 4000000 in
set_option maxRecDepth 100000 in
theorem law_drift {p : Program} {l : Launch} {e : Env} {s : State} {m : MethodId} {below : List Frame} {meth : Method} {c : Code} {b L : Nat} {xs : Nat → Int32} {kd : (Nat → Nat) × (Nat → Nat)} {G : va_G} {ct : Nat → ClassId} {N : Nat} {Rel : St_ → St_ → Prop} (C0 : lw_At p s m meth c b L xs) (hE : En kd (fun q : Nat => s.heap.size ≤ q) s s.heap) (hK : va_K G cls_ (tys_ ct) s) (hp : PA_drift N Rel) (x3 : Int32) (hi0 : vp_in x3 L) (hi1 : vp_in (x3 + (1 : Int32)) L) (hi2 : vp_in (x3 + (2 : Int32)) L) (hi3 : vp_in (x3 + (3 : Int32)) L) (hi4 : vp_in (x3 + (4 : Int32)) L) (a1 a2 : Nat → Nat) (g1 g2 : St_) (sg : Int64) (hR : Rel g1 g2) (H : Heap) (locs : List Loc) (ls : Array Slot) (hW : WW G (fun q : Nat => s.heap.size ≤ q) s.heap (wX6 a1 ct g1 ++ wX7 a2 ct g2 sg) H locs) (hl : lv_has ls 4 [(0, .ref b), (1, .ref (a1 0)), (2, .ref (a2 0)), (3, .int x3)])
    (K : ∀ (g1 g2 : St_) (sg : Int64), Rel g1 g2 → ∀ (H : Heap) (locs : List Loc) (ls : Array Slot), WW G (fun q : Nat => s.heap.size ≤ q) s.heap (wX6 a1 ct g1 ++ wX7 a2 ct g2 sg) H locs → lv_has ls 4 [(0, .ref b), (1, .ref (a1 0)), (2, .ref (a2 0)), (3, .int x3)] → W p l e room_1 s m #[Value.ref b] below meth c H locs 81 2133 (lw_Z below #[Value.ref b] s) (F0 m 997 ls [])) : W p l e room_1 s m #[Value.ref b] below meth c H locs 81 2133 (lw_Z below #[Value.ref b] s) (F0 m 474 ls []) := by
  obtain ⟨hx, hb, hr, hml, hown, hts, hX, hbl, hlocks, hgv⟩ := C0
  have htsL : ∀ w ∈ wsL_law, w.before #[Value.ref b] s = true := fun w h => hts w (wsL_law_in w h)
  have hA : ∀ q : Nat, s.heap.size ≤ q → (fun q : Nat => s.heap.size ≤ q) q := fun _ h => h
  have hbA : ¬ (fun q : Nat => s.heap.size ≤ q) b := Nat.not_le.mpr hbl
  refine lv_aload_n hx hb dL_law_474 rfl (lv_at hl 1 rfl) ?_
  refine lv_aload_n hx hb dL_law_475 rfl (lv_at hl 0 rfl) ?_
  refine lv_iload_n hx hb dL_law_476 rfl (lv_at hl 3 rfl) ?_
  refine lv_iconst (v := (1 : Int32)) hx hb dL_law_477 (by decide) ?_
  refine lv_iadd hx hb dL_law_478 ?_
  refine va_sld hx hb hX hbl hbA hW.2.2 hi1 dL_law_479 ?_
  obtain ⟨r, h1, h2, hf1, hf2, hR2⟩ := hp g1 g2 hR (xs (x3 + (1 : Int32)).toNatClampNeg)
  refine x_callV_i (w' := (wX6 a1 ct h1 ++ wX7 a2 ct g2 sg)) (As := [.int (xs (x3 + (1 : Int32)).toNatClampNeg)]) (rest := []) (ci := 6) ⟨hx, hb, hml, hown, htsL⟩ (c_X6_drift l N kd G ct a1 g1 (xs (x3 + (1 : Int32)).toNatClampNeg) _ hf1) (cwV 1 htsL gL_law_X6_drift rfl rfl rfl (by decide +kernel) ⟨Nat.le_of_ble_eq_true rfl, Nat.le_of_ble_eq_true rfl⟩) hK hE hA hW [] (wX7 a2 ct g2 sg) rfl rfl 0 rfl rfl rfl rfl hl.1 rfl (lv_room (Nat.le_of_ble_eq_true rfl)) dL_law_480 (fun H locs hW => ?_)
  refine lv_aload_n hx hb dL_law_483 rfl (lv_at hl 2 rfl) ?_
  refine lv_aload_n hx hb dL_law_484 rfl (lv_at hl 0 rfl) ?_
  refine lv_iload_n hx hb dL_law_485 rfl (lv_at hl 3 rfl) ?_
  refine lv_iconst (v := (1 : Int32)) hx hb dL_law_486 (by decide) ?_
  refine lv_iadd hx hb dL_law_487 ?_
  refine va_sld hx hb hX hbl hbA hW.2.2 hi1 dL_law_488 ?_
  refine x_callV_i (w' := (wX6 a1 ct h1 ++ wX7 a2 ct h2 sg)) (As := [.int (xs (x3 + (1 : Int32)).toNatClampNeg)]) (rest := [.int r]) (ci := 7) ⟨hx, hb, hml, hown, htsL⟩ (c_X7_drift l N kd G ct a2 g2 sg (xs (x3 + (1 : Int32)).toNatClampNeg) _ hf2) (cwV 1 htsL gL_law_X7_drift rfl rfl rfl (by decide +kernel) ⟨Nat.le_of_ble_eq_true rfl, Nat.le_of_ble_eq_true rfl⟩) hK hE hA hW (wX6 a1 ct h1) [] (by rw [List.append_nil]) (by rw [List.append_nil]) 0 rfl rfl rfl rfl hl.1 rfl (lv_room (Nat.le_of_ble_eq_true rfl)) dL_law_489 (fun H locs hW => ?_)
  refine lv_icmp_eq (tgt := 997) hx hb dL_law_492 (by decide) (fun hc => ?_) (fun hc => absurd rfl hc)
  exact K _ _ _ hR2 H locs ls hW hl
set_option maxHeartbeats 4000000 in
set_option maxRecDepth 100000 in
theorem law_reach {p : Program} {l : Launch} {e : Env} {s : State} {m : MethodId} {below : List Frame} {meth : Method} {c : Code} {b L : Nat} {xs : Nat → Int32} {kd : (Nat → Nat) × (Nat → Nat)} {G : va_G} {ct : Nat → ClassId} {N : Nat} {Rel : St_ → St_ → Prop} (C0 : lw_At p s m meth c b L xs) (hE : En kd (fun q : Nat => s.heap.size ≤ q) s s.heap) (hK : va_K G cls_ (tys_ ct) s) (hp : PA_reach N Rel) (x3 : Int32) (hi0 : vp_in x3 L) (hi1 : vp_in (x3 + (1 : Int32)) L) (hi2 : vp_in (x3 + (2 : Int32)) L) (hi3 : vp_in (x3 + (3 : Int32)) L) (hi4 : vp_in (x3 + (4 : Int32)) L) (a1 a2 : Nat → Nat) (g1 g2 : St_) (sg : Int64) (hR : Rel g1 g2) (H : Heap) (locs : List Loc) (ls : Array Slot) (hW : WW G (fun q : Nat => s.heap.size ≤ q) s.heap (wX6 a1 ct g1 ++ wX7 a2 ct g2 sg) H locs) (hl : lv_has ls 4 [(0, .ref b), (1, .ref (a1 0)), (2, .ref (a2 0)), (3, .int x3)])
    (K : ∀ (g1 g2 : St_) (sg : Int64), Rel g1 g2 → ∀ (H : Heap) (locs : List Loc) (ls : Array Slot), WW G (fun q : Nat => s.heap.size ≤ q) s.heap (wX6 a1 ct g1 ++ wX7 a2 ct g2 sg) H locs → lv_has ls 4 [(0, .ref b), (1, .ref (a1 0)), (2, .ref (a2 0)), (3, .int x3)] → W p l e room_1 s m #[Value.ref b] below meth c H locs 81 2133 (lw_Z below #[Value.ref b] s) (F0 m 997 ls [])) : W p l e room_1 s m #[Value.ref b] below meth c H locs 81 2133 (lw_Z below #[Value.ref b] s) (F0 m 497 ls []) := by
  obtain ⟨hx, hb, hr, hml, hown, hts, hX, hbl, hlocks, hgv⟩ := C0
  have htsL : ∀ w ∈ wsL_law, w.before #[Value.ref b] s = true := fun w h => hts w (wsL_law_in w h)
  have hA : ∀ q : Nat, s.heap.size ≤ q → (fun q : Nat => s.heap.size ≤ q) q := fun _ h => h
  have hbA : ¬ (fun q : Nat => s.heap.size ≤ q) b := Nat.not_le.mpr hbl
  refine lv_aload_n hx hb dL_law_497 rfl (lv_at hl 1 rfl) ?_
  refine lv_aload_n hx hb dL_law_498 rfl (lv_at hl 0 rfl) ?_
  refine lv_iload_n hx hb dL_law_499 rfl (lv_at hl 3 rfl) ?_
  refine lv_iconst (v := (1 : Int32)) hx hb dL_law_500 (by decide) ?_
  refine lv_iadd hx hb dL_law_501 ?_
  refine va_sld hx hb hX hbl hbA hW.2.2 hi1 dL_law_502 ?_
  refine lv_aload_n hx hb dL_law_503 rfl (lv_at hl 0 rfl) ?_
  refine lv_iload_n hx hb dL_law_504 rfl (lv_at hl 3 rfl) ?_
  refine lv_iconst (v := (2 : Int32)) hx hb dL_law_505 (by decide) ?_
  refine lv_iadd hx hb dL_law_506 ?_
  refine va_sld hx hb hX hbl hbA hW.2.2 hi2 dL_law_507 ?_
  obtain ⟨r, hf1, hf2, hR2⟩ := hp g1 g2 hR (xs (x3 + (1 : Int32)).toNatClampNeg) (xs (x3 + (2 : Int32)).toNatClampNeg)
  refine x_callV_i (w' := (wX6 a1 ct g1 ++ wX7 a2 ct g2 sg)) (As := [.int (xs (x3 + (1 : Int32)).toNatClampNeg), .int (xs (x3 + (2 : Int32)).toNatClampNeg)]) (rest := []) (ci := 6) ⟨hx, hb, hml, hown, htsL⟩ (c_X6_reach l N kd G ct a1 g1 (xs (x3 + (1 : Int32)).toNatClampNeg) (xs (x3 + (2 : Int32)).toNatClampNeg) _ hf1) (cwV 2 htsL gL_law_X6_reach rfl rfl rfl (by decide +kernel) ⟨Nat.le_of_ble_eq_true rfl, Nat.le_of_ble_eq_true rfl⟩) hK hE hA hW [] (wX7 a2 ct g2 sg) rfl rfl 0 rfl rfl rfl rfl hl.1 rfl (lv_room (Nat.le_of_ble_eq_true rfl)) dL_law_508 (fun H locs hW => ?_)
  refine lv_aload_n hx hb dL_law_511 rfl (lv_at hl 2 rfl) ?_
  refine lv_aload_n hx hb dL_law_512 rfl (lv_at hl 0 rfl) ?_
  refine lv_iload_n hx hb dL_law_513 rfl (lv_at hl 3 rfl) ?_
  refine lv_iconst (v := (1 : Int32)) hx hb dL_law_514 (by decide) ?_
  refine lv_iadd hx hb dL_law_515 ?_
  refine va_sld hx hb hX hbl hbA hW.2.2 hi1 dL_law_516 ?_
  refine lv_aload_n hx hb dL_law_517 rfl (lv_at hl 0 rfl) ?_
  refine lv_iload_n hx hb dL_law_518 rfl (lv_at hl 3 rfl) ?_
  refine lv_iconst (v := (2 : Int32)) hx hb dL_law_519 (by decide) ?_
  refine lv_iadd hx hb dL_law_520 ?_
  refine va_sld hx hb hX hbl hbA hW.2.2 hi2 dL_law_521 ?_
  refine x_callV_i (w' := (wX6 a1 ct g1 ++ wX7 a2 ct g2 sg)) (As := [.int (xs (x3 + (1 : Int32)).toNatClampNeg), .int (xs (x3 + (2 : Int32)).toNatClampNeg)]) (rest := [.int r]) (ci := 7) ⟨hx, hb, hml, hown, htsL⟩ (c_X7_reach l N kd G ct a2 g2 sg (xs (x3 + (1 : Int32)).toNatClampNeg) (xs (x3 + (2 : Int32)).toNatClampNeg) _ hf2) (cwV 2 htsL gL_law_X7_reach rfl rfl rfl (by decide +kernel) ⟨Nat.le_of_ble_eq_true rfl, Nat.le_of_ble_eq_true rfl⟩) hK hE hA hW (wX6 a1 ct g1) [] (by rw [List.append_nil]) (by rw [List.append_nil]) 0 rfl rfl rfl rfl hl.1 rfl (lv_room (Nat.le_of_ble_eq_true rfl)) dL_law_522 (fun H locs hW => ?_)
  refine lv_icmp_eq (tgt := 997) hx hb dL_law_525 (by decide) (fun hc => ?_) (fun hc => absurd rfl hc)
  exact K _ _ _ hR2 H locs ls hW hl
set_option maxHeartbeats 4000000 in
set_option maxRecDepth 100000 in
theorem law_guests {p : Program} {l : Launch} {e : Env} {s : State} {m : MethodId} {below : List Frame} {meth : Method} {c : Code} {b L : Nat} {xs : Nat → Int32} {kd : (Nat → Nat) × (Nat → Nat)} {G : va_G} {ct : Nat → ClassId} {N : Nat} {Rel : St_ → St_ → Prop} (C0 : lw_At p s m meth c b L xs) (hE : En kd (fun q : Nat => s.heap.size ≤ q) s s.heap) (hK : va_K G cls_ (tys_ ct) s) (hp : PA_guests N Rel) (x3 : Int32) (hi0 : vp_in x3 L) (hi1 : vp_in (x3 + (1 : Int32)) L) (hi2 : vp_in (x3 + (2 : Int32)) L) (hi3 : vp_in (x3 + (3 : Int32)) L) (hi4 : vp_in (x3 + (4 : Int32)) L) (a1 a2 : Nat → Nat) (g1 g2 : St_) (sg : Int64) (hR : Rel g1 g2) (H : Heap) (locs : List Loc) (ls : Array Slot) (hW : WW G (fun q : Nat => s.heap.size ≤ q) s.heap (wX6 a1 ct g1 ++ wX7 a2 ct g2 sg) H locs) (hl : lv_has ls 4 [(0, .ref b), (1, .ref (a1 0)), (2, .ref (a2 0)), (3, .int x3)])
    (K : ∀ (g1 g2 : St_) (sg : Int64), Rel g1 g2 → ∀ (H : Heap) (locs : List Loc) (ls : Array Slot), WW G (fun q : Nat => s.heap.size ≤ q) s.heap (wX6 a1 ct g1 ++ wX7 a2 ct g2 sg) H locs → lv_has ls 4 [(0, .ref b), (1, .ref (a1 0)), (2, .ref (a2 0)), (3, .int x3)] → W p l e room_1 s m #[Value.ref b] below meth c H locs 81 2133 (lw_Z below #[Value.ref b] s) (F0 m 997 ls [])) : W p l e room_1 s m #[Value.ref b] below meth c H locs 81 2133 (lw_Z below #[Value.ref b] s) (F0 m 530 ls []) := by
  obtain ⟨hx, hb, hr, hml, hown, hts, hX, hbl, hlocks, hgv⟩ := C0
  have htsL : ∀ w ∈ wsL_law, w.before #[Value.ref b] s = true := fun w h => hts w (wsL_law_in w h)
  have hA : ∀ q : Nat, s.heap.size ≤ q → (fun q : Nat => s.heap.size ≤ q) q := fun _ h => h
  have hbA : ¬ (fun q : Nat => s.heap.size ≤ q) b := Nat.not_le.mpr hbl
  refine lv_aload_n hx hb dL_law_530 rfl (lv_at hl 1 rfl) ?_
  refine lv_aload_n hx hb dL_law_531 rfl (lv_at hl 0 rfl) ?_
  refine lv_iload_n hx hb dL_law_532 rfl (lv_at hl 3 rfl) ?_
  refine lv_iconst (v := (1 : Int32)) hx hb dL_law_533 (by decide) ?_
  refine lv_iadd hx hb dL_law_534 ?_
  refine va_sld hx hb hX hbl hbA hW.2.2 hi1 dL_law_535 ?_
  obtain ⟨r, hf1, hf2, hR2⟩ := hp g1 g2 hR (xs (x3 + (1 : Int32)).toNatClampNeg)
  refine x_callV_i (w' := (wX6 a1 ct g1 ++ wX7 a2 ct g2 sg)) (As := [.int (xs (x3 + (1 : Int32)).toNatClampNeg)]) (rest := []) (ci := 6) ⟨hx, hb, hml, hown, htsL⟩ (c_X6_guests l N kd G ct a1 g1 (xs (x3 + (1 : Int32)).toNatClampNeg) _ hf1) (cwV 1 htsL gL_law_X6_guests rfl rfl rfl (by decide +kernel) ⟨Nat.le_of_ble_eq_true rfl, Nat.le_of_ble_eq_true rfl⟩) hK hE hA hW [] (wX7 a2 ct g2 sg) rfl rfl 0 rfl rfl rfl rfl hl.1 rfl (lv_room (Nat.le_of_ble_eq_true rfl)) dL_law_536 (fun H locs hW => ?_)
  refine lv_aload_n hx hb dL_law_539 rfl (lv_at hl 2 rfl) ?_
  refine lv_aload_n hx hb dL_law_540 rfl (lv_at hl 0 rfl) ?_
  refine lv_iload_n hx hb dL_law_541 rfl (lv_at hl 3 rfl) ?_
  refine lv_iconst (v := (1 : Int32)) hx hb dL_law_542 (by decide) ?_
  refine lv_iadd hx hb dL_law_543 ?_
  refine va_sld hx hb hX hbl hbA hW.2.2 hi1 dL_law_544 ?_
  refine x_callV_i (w' := (wX6 a1 ct g1 ++ wX7 a2 ct g2 sg)) (As := [.int (xs (x3 + (1 : Int32)).toNatClampNeg)]) (rest := [.int r]) (ci := 7) ⟨hx, hb, hml, hown, htsL⟩ (c_X7_guests l N kd G ct a2 g2 sg (xs (x3 + (1 : Int32)).toNatClampNeg) _ hf2) (cwV 1 htsL gL_law_X7_guests rfl rfl rfl (by decide +kernel) ⟨Nat.le_of_ble_eq_true rfl, Nat.le_of_ble_eq_true rfl⟩) hK hE hA hW (wX6 a1 ct g1) [] (by rw [List.append_nil]) (by rw [List.append_nil]) 0 rfl rfl rfl rfl hl.1 rfl (lv_room (Nat.le_of_ble_eq_true rfl)) dL_law_545 (fun H locs hW => ?_)
  refine lv_icmp_eq (tgt := 997) hx hb dL_law_548 (by decide) (fun hc => ?_) (fun hc => absurd rfl hc)
  exact K _ _ _ hR2 H locs ls hW hl
set_option maxHeartbeats 4000000 in
set_option maxRecDepth 100000 in
theorem law_wish {p : Program} {l : Launch} {e : Env} {s : State} {m : MethodId} {below : List Frame} {meth : Method} {c : Code} {b L : Nat} {xs : Nat → Int32} {kd : (Nat → Nat) × (Nat → Nat)} {G : va_G} {ct : Nat → ClassId} {N : Nat} {Rel : St_ → St_ → Prop} (C0 : lw_At p s m meth c b L xs) (hE : En kd (fun q : Nat => s.heap.size ≤ q) s s.heap) (hK : va_K G cls_ (tys_ ct) s) (hp : PA_wish N Rel) (x3 : Int32) (hi0 : vp_in x3 L) (hi1 : vp_in (x3 + (1 : Int32)) L) (hi2 : vp_in (x3 + (2 : Int32)) L) (hi3 : vp_in (x3 + (3 : Int32)) L) (hi4 : vp_in (x3 + (4 : Int32)) L) (a1 a2 : Nat → Nat) (g1 g2 : St_) (sg : Int64) (hR : Rel g1 g2) (H : Heap) (locs : List Loc) (ls : Array Slot) (hW : WW G (fun q : Nat => s.heap.size ≤ q) s.heap (wX6 a1 ct g1 ++ wX7 a2 ct g2 sg) H locs) (hl : lv_has ls 4 [(0, .ref b), (1, .ref (a1 0)), (2, .ref (a2 0)), (3, .int x3)])
    (K : ∀ (g1 g2 : St_) (sg : Int64), Rel g1 g2 → ∀ (H : Heap) (locs : List Loc) (ls : Array Slot), WW G (fun q : Nat => s.heap.size ≤ q) s.heap (wX6 a1 ct g1 ++ wX7 a2 ct g2 sg) H locs → lv_has ls 4 [(0, .ref b), (1, .ref (a1 0)), (2, .ref (a2 0)), (3, .int x3)] → W p l e room_1 s m #[Value.ref b] below meth c H locs 81 2133 (lw_Z below #[Value.ref b] s) (F0 m 997 ls [])) : W p l e room_1 s m #[Value.ref b] below meth c H locs 81 2133 (lw_Z below #[Value.ref b] s) (F0 m 553 ls []) := by
  obtain ⟨hx, hb, hr, hml, hown, hts, hX, hbl, hlocks, hgv⟩ := C0
  have htsL : ∀ w ∈ wsL_law, w.before #[Value.ref b] s = true := fun w h => hts w (wsL_law_in w h)
  have hA : ∀ q : Nat, s.heap.size ≤ q → (fun q : Nat => s.heap.size ≤ q) q := fun _ h => h
  have hbA : ¬ (fun q : Nat => s.heap.size ≤ q) b := Nat.not_le.mpr hbl
  refine lv_aload_n hx hb dL_law_553 rfl (lv_at hl 1 rfl) ?_
  refine lv_aload_n hx hb dL_law_554 rfl (lv_at hl 0 rfl) ?_
  refine lv_iload_n hx hb dL_law_555 rfl (lv_at hl 3 rfl) ?_
  refine lv_iconst (v := (1 : Int32)) hx hb dL_law_556 (by decide) ?_
  refine lv_iadd hx hb dL_law_557 ?_
  refine va_sld hx hb hX hbl hbA hW.2.2 hi1 dL_law_558 ?_
  refine lv_aload_n hx hb dL_law_559 rfl (lv_at hl 0 rfl) ?_
  refine lv_iload_n hx hb dL_law_560 rfl (lv_at hl 3 rfl) ?_
  refine lv_iconst (v := (2 : Int32)) hx hb dL_law_561 (by decide) ?_
  refine lv_iadd hx hb dL_law_562 ?_
  refine va_sld hx hb hX hbl hbA hW.2.2 hi2 dL_law_563 ?_
  obtain ⟨r, hf1, hf2, hR2⟩ := hp g1 g2 hR (xs (x3 + (1 : Int32)).toNatClampNeg) (xs (x3 + (2 : Int32)).toNatClampNeg)
  refine x_callV_i (w' := (wX6 a1 ct g1 ++ wX7 a2 ct g2 sg)) (As := [.int (xs (x3 + (1 : Int32)).toNatClampNeg), .int (xs (x3 + (2 : Int32)).toNatClampNeg)]) (rest := []) (ci := 6) ⟨hx, hb, hml, hown, htsL⟩ (c_X6_wish l N kd G ct a1 g1 (xs (x3 + (1 : Int32)).toNatClampNeg) (xs (x3 + (2 : Int32)).toNatClampNeg) _ hf1) (cwV 2 htsL gL_law_X6_wish rfl rfl rfl (by decide +kernel) ⟨Nat.le_of_ble_eq_true rfl, Nat.le_of_ble_eq_true rfl⟩) hK hE hA hW [] (wX7 a2 ct g2 sg) rfl rfl 0 rfl rfl rfl rfl hl.1 rfl (lv_room (Nat.le_of_ble_eq_true rfl)) dL_law_564 (fun H locs hW => ?_)
  refine lv_aload_n hx hb dL_law_567 rfl (lv_at hl 2 rfl) ?_
  refine lv_aload_n hx hb dL_law_568 rfl (lv_at hl 0 rfl) ?_
  refine lv_iload_n hx hb dL_law_569 rfl (lv_at hl 3 rfl) ?_
  refine lv_iconst (v := (1 : Int32)) hx hb dL_law_570 (by decide) ?_
  refine lv_iadd hx hb dL_law_571 ?_
  refine va_sld hx hb hX hbl hbA hW.2.2 hi1 dL_law_572 ?_
  refine lv_aload_n hx hb dL_law_573 rfl (lv_at hl 0 rfl) ?_
  refine lv_iload_n hx hb dL_law_574 rfl (lv_at hl 3 rfl) ?_
  refine lv_iconst (v := (2 : Int32)) hx hb dL_law_575 (by decide) ?_
  refine lv_iadd hx hb dL_law_576 ?_
  refine va_sld hx hb hX hbl hbA hW.2.2 hi2 dL_law_577 ?_
  refine x_callV_i (w' := (wX6 a1 ct g1 ++ wX7 a2 ct g2 sg)) (As := [.int (xs (x3 + (1 : Int32)).toNatClampNeg), .int (xs (x3 + (2 : Int32)).toNatClampNeg)]) (rest := [.int r]) (ci := 7) ⟨hx, hb, hml, hown, htsL⟩ (c_X7_wish l N kd G ct a2 g2 sg (xs (x3 + (1 : Int32)).toNatClampNeg) (xs (x3 + (2 : Int32)).toNatClampNeg) _ hf2) (cwV 2 htsL gL_law_X7_wish rfl rfl rfl (by decide +kernel) ⟨Nat.le_of_ble_eq_true rfl, Nat.le_of_ble_eq_true rfl⟩) hK hE hA hW (wX6 a1 ct g1) [] (by rw [List.append_nil]) (by rw [List.append_nil]) 0 rfl rfl rfl rfl hl.1 rfl (lv_room (Nat.le_of_ble_eq_true rfl)) dL_law_578 (fun H locs hW => ?_)
  refine lv_icmp_eq (tgt := 997) hx hb dL_law_581 (by decide) (fun hc => ?_) (fun hc => absurd rfl hc)
  exact K _ _ _ hR2 H locs ls hW hl
set_option maxHeartbeats 4000000 in
set_option maxRecDepth 100000 in
theorem law_pair {p : Program} {l : Launch} {e : Env} {s : State} {m : MethodId} {below : List Frame} {meth : Method} {c : Code} {b L : Nat} {xs : Nat → Int32} {kd : (Nat → Nat) × (Nat → Nat)} {G : va_G} {ct : Nat → ClassId} {N : Nat} {Rel : St_ → St_ → Prop} (C0 : lw_At p s m meth c b L xs) (hE : En kd (fun q : Nat => s.heap.size ≤ q) s s.heap) (hK : va_K G cls_ (tys_ ct) s) (hp : PA_pair N Rel) (x3 : Int32) (hi0 : vp_in x3 L) (hi1 : vp_in (x3 + (1 : Int32)) L) (hi2 : vp_in (x3 + (2 : Int32)) L) (hi3 : vp_in (x3 + (3 : Int32)) L) (hi4 : vp_in (x3 + (4 : Int32)) L) (a1 a2 : Nat → Nat) (g1 g2 : St_) (sg : Int64) (hR : Rel g1 g2) (H : Heap) (locs : List Loc) (ls : Array Slot) (hW : WW G (fun q : Nat => s.heap.size ≤ q) s.heap (wX6 a1 ct g1 ++ wX7 a2 ct g2 sg) H locs) (hl : lv_has ls 4 [(0, .ref b), (1, .ref (a1 0)), (2, .ref (a2 0)), (3, .int x3)])
    (K : ∀ (g1 g2 : St_) (sg : Int64), Rel g1 g2 → ∀ (H : Heap) (locs : List Loc) (ls : Array Slot), WW G (fun q : Nat => s.heap.size ≤ q) s.heap (wX6 a1 ct g1 ++ wX7 a2 ct g2 sg) H locs → lv_has ls 4 [(0, .ref b), (1, .ref (a1 0)), (2, .ref (a2 0)), (3, .int x3)] → W p l e room_1 s m #[Value.ref b] below meth c H locs 81 2133 (lw_Z below #[Value.ref b] s) (F0 m 997 ls [])) : W p l e room_1 s m #[Value.ref b] below meth c H locs 81 2133 (lw_Z below #[Value.ref b] s) (F0 m 586 ls []) := by
  obtain ⟨hx, hb, hr, hml, hown, hts, hX, hbl, hlocks, hgv⟩ := C0
  have htsL : ∀ w ∈ wsL_law, w.before #[Value.ref b] s = true := fun w h => hts w (wsL_law_in w h)
  have hA : ∀ q : Nat, s.heap.size ≤ q → (fun q : Nat => s.heap.size ≤ q) q := fun _ h => h
  have hbA : ¬ (fun q : Nat => s.heap.size ≤ q) b := Nat.not_le.mpr hbl
  refine lv_aload_n hx hb dL_law_586 rfl (lv_at hl 1 rfl) ?_
  refine lv_aload_n hx hb dL_law_587 rfl (lv_at hl 0 rfl) ?_
  refine lv_iload_n hx hb dL_law_588 rfl (lv_at hl 3 rfl) ?_
  refine lv_iconst (v := (1 : Int32)) hx hb dL_law_589 (by decide) ?_
  refine lv_iadd hx hb dL_law_590 ?_
  refine va_sld hx hb hX hbl hbA hW.2.2 hi1 dL_law_591 ?_
  refine lv_aload_n hx hb dL_law_592 rfl (lv_at hl 0 rfl) ?_
  refine lv_iload_n hx hb dL_law_593 rfl (lv_at hl 3 rfl) ?_
  refine lv_iconst (v := (2 : Int32)) hx hb dL_law_594 (by decide) ?_
  refine lv_iadd hx hb dL_law_595 ?_
  refine va_sld hx hb hX hbl hbA hW.2.2 hi2 dL_law_596 ?_
  refine lv_aload_n hx hb dL_law_597 rfl (lv_at hl 0 rfl) ?_
  refine lv_iload_n hx hb dL_law_598 rfl (lv_at hl 3 rfl) ?_
  refine lv_iconst (v := (3 : Int32)) hx hb dL_law_599 (by decide) ?_
  refine lv_iadd hx hb dL_law_600 ?_
  refine va_sld hx hb hX hbl hbA hW.2.2 hi3 dL_law_601 ?_
  obtain ⟨r, hf1, hf2, hR2⟩ := hp g1 g2 hR (xs (x3 + (1 : Int32)).toNatClampNeg) (xs (x3 + (2 : Int32)).toNatClampNeg) (xs (x3 + (3 : Int32)).toNatClampNeg)
  refine x_callV_i (w' := (wX6 a1 ct g1 ++ wX7 a2 ct g2 sg)) (As := [.int (xs (x3 + (1 : Int32)).toNatClampNeg), .int (xs (x3 + (2 : Int32)).toNatClampNeg), .int (xs (x3 + (3 : Int32)).toNatClampNeg)]) (rest := []) (ci := 6) ⟨hx, hb, hml, hown, htsL⟩ (c_X6_pair l N kd G ct a1 g1 (xs (x3 + (1 : Int32)).toNatClampNeg) (xs (x3 + (2 : Int32)).toNatClampNeg) (xs (x3 + (3 : Int32)).toNatClampNeg) _ hf1) (cwV 3 htsL gL_law_X6_pair rfl rfl rfl (by decide +kernel) ⟨Nat.le_of_ble_eq_true rfl, Nat.le_of_ble_eq_true rfl⟩) hK hE hA hW [] (wX7 a2 ct g2 sg) rfl rfl 0 rfl rfl rfl rfl hl.1 rfl (lv_room (Nat.le_of_ble_eq_true rfl)) dL_law_602 (fun H locs hW => ?_)
  refine lv_aload_n hx hb dL_law_605 rfl (lv_at hl 2 rfl) ?_
  refine lv_aload_n hx hb dL_law_606 rfl (lv_at hl 0 rfl) ?_
  refine lv_iload_n hx hb dL_law_607 rfl (lv_at hl 3 rfl) ?_
  refine lv_iconst (v := (1 : Int32)) hx hb dL_law_608 (by decide) ?_
  refine lv_iadd hx hb dL_law_609 ?_
  refine va_sld hx hb hX hbl hbA hW.2.2 hi1 dL_law_610 ?_
  refine lv_aload_n hx hb dL_law_611 rfl (lv_at hl 0 rfl) ?_
  refine lv_iload_n hx hb dL_law_612 rfl (lv_at hl 3 rfl) ?_
  refine lv_iconst (v := (2 : Int32)) hx hb dL_law_613 (by decide) ?_
  refine lv_iadd hx hb dL_law_614 ?_
  refine va_sld hx hb hX hbl hbA hW.2.2 hi2 dL_law_615 ?_
  refine lv_aload_n hx hb dL_law_616 rfl (lv_at hl 0 rfl) ?_
  refine lv_iload_n hx hb dL_law_617 rfl (lv_at hl 3 rfl) ?_
  refine lv_iconst (v := (3 : Int32)) hx hb dL_law_618 (by decide) ?_
  refine lv_iadd hx hb dL_law_619 ?_
  refine va_sld hx hb hX hbl hbA hW.2.2 hi3 dL_law_620 ?_
  refine x_callV_i (w' := (wX6 a1 ct g1 ++ wX7 a2 ct g2 sg)) (As := [.int (xs (x3 + (1 : Int32)).toNatClampNeg), .int (xs (x3 + (2 : Int32)).toNatClampNeg), .int (xs (x3 + (3 : Int32)).toNatClampNeg)]) (rest := [.int r]) (ci := 7) ⟨hx, hb, hml, hown, htsL⟩ (c_X7_pair l N kd G ct a2 g2 sg (xs (x3 + (1 : Int32)).toNatClampNeg) (xs (x3 + (2 : Int32)).toNatClampNeg) (xs (x3 + (3 : Int32)).toNatClampNeg) _ hf2) (cwV 3 htsL gL_law_X7_pair rfl rfl rfl (by decide +kernel) ⟨Nat.le_of_ble_eq_true rfl, Nat.le_of_ble_eq_true rfl⟩) hK hE hA hW (wX6 a1 ct g1) [] (by rw [List.append_nil]) (by rw [List.append_nil]) 0 rfl rfl rfl rfl hl.1 rfl (lv_room (Nat.le_of_ble_eq_true rfl)) dL_law_621 (fun H locs hW => ?_)
  refine lv_icmp_eq (tgt := 997) hx hb dL_law_624 (by decide) (fun hc => ?_) (fun hc => absurd rfl hc)
  exact K _ _ _ hR2 H locs ls hW hl
set_option maxHeartbeats 4000000 in
set_option maxRecDepth 100000 in
theorem law_carried {p : Program} {l : Launch} {e : Env} {s : State} {m : MethodId} {below : List Frame} {meth : Method} {c : Code} {b L : Nat} {xs : Nat → Int32} {kd : (Nat → Nat) × (Nat → Nat)} {G : va_G} {ct : Nat → ClassId} {N : Nat} {Rel : St_ → St_ → Prop} (C0 : lw_At p s m meth c b L xs) (hE : En kd (fun q : Nat => s.heap.size ≤ q) s s.heap) (hK : va_K G cls_ (tys_ ct) s) (hp : PA_carried N Rel) (x3 : Int32) (hi0 : vp_in x3 L) (hi1 : vp_in (x3 + (1 : Int32)) L) (hi2 : vp_in (x3 + (2 : Int32)) L) (hi3 : vp_in (x3 + (3 : Int32)) L) (hi4 : vp_in (x3 + (4 : Int32)) L) (a1 a2 : Nat → Nat) (g1 g2 : St_) (sg : Int64) (hR : Rel g1 g2) (H : Heap) (locs : List Loc) (ls : Array Slot) (hW : WW G (fun q : Nat => s.heap.size ≤ q) s.heap (wX6 a1 ct g1 ++ wX7 a2 ct g2 sg) H locs) (hl : lv_has ls 4 [(0, .ref b), (1, .ref (a1 0)), (2, .ref (a2 0)), (3, .int x3)])
    (K : ∀ (g1 g2 : St_) (sg : Int64), Rel g1 g2 → ∀ (H : Heap) (locs : List Loc) (ls : Array Slot), WW G (fun q : Nat => s.heap.size ≤ q) s.heap (wX6 a1 ct g1 ++ wX7 a2 ct g2 sg) H locs → lv_has ls 4 [(0, .ref b), (1, .ref (a1 0)), (2, .ref (a2 0)), (3, .int x3)] → W p l e room_1 s m #[Value.ref b] below meth c H locs 81 2133 (lw_Z below #[Value.ref b] s) (F0 m 997 ls [])) : W p l e room_1 s m #[Value.ref b] below meth c H locs 81 2133 (lw_Z below #[Value.ref b] s) (F0 m 629 ls []) := by
  obtain ⟨hx, hb, hr, hml, hown, hts, hX, hbl, hlocks, hgv⟩ := C0
  have htsL : ∀ w ∈ wsL_law, w.before #[Value.ref b] s = true := fun w h => hts w (wsL_law_in w h)
  have hA : ∀ q : Nat, s.heap.size ≤ q → (fun q : Nat => s.heap.size ≤ q) q := fun _ h => h
  have hbA : ¬ (fun q : Nat => s.heap.size ≤ q) b := Nat.not_le.mpr hbl
  refine lv_aload_n hx hb dL_law_629 rfl (lv_at hl 1 rfl) ?_
  refine lv_aload_n hx hb dL_law_630 rfl (lv_at hl 0 rfl) ?_
  refine lv_iload_n hx hb dL_law_631 rfl (lv_at hl 3 rfl) ?_
  refine lv_iconst (v := (1 : Int32)) hx hb dL_law_632 (by decide) ?_
  refine lv_iadd hx hb dL_law_633 ?_
  refine va_sld hx hb hX hbl hbA hW.2.2 hi1 dL_law_634 ?_
  refine lv_aload_n hx hb dL_law_635 rfl (lv_at hl 0 rfl) ?_
  refine lv_iload_n hx hb dL_law_636 rfl (lv_at hl 3 rfl) ?_
  refine lv_iconst (v := (2 : Int32)) hx hb dL_law_637 (by decide) ?_
  refine lv_iadd hx hb dL_law_638 ?_
  refine va_sld hx hb hX hbl hbA hW.2.2 hi2 dL_law_639 ?_
  refine lv_aload_n hx hb dL_law_640 rfl (lv_at hl 0 rfl) ?_
  refine lv_iload_n hx hb dL_law_641 rfl (lv_at hl 3 rfl) ?_
  refine lv_iconst (v := (3 : Int32)) hx hb dL_law_642 (by decide) ?_
  refine lv_iadd hx hb dL_law_643 ?_
  refine va_sld hx hb hX hbl hbA hW.2.2 hi3 dL_law_644 ?_
  obtain ⟨r, h1, h2, hf1, hf2, hR2⟩ := hp g1 g2 hR (xs (x3 + (1 : Int32)).toNatClampNeg) (xs (x3 + (2 : Int32)).toNatClampNeg) (xs (x3 + (3 : Int32)).toNatClampNeg)
  refine x_callV_i (w' := (wX6 a1 ct h1 ++ wX7 a2 ct g2 sg)) (As := [.int (xs (x3 + (1 : Int32)).toNatClampNeg), .int (xs (x3 + (2 : Int32)).toNatClampNeg), .int (xs (x3 + (3 : Int32)).toNatClampNeg)]) (rest := []) (ci := 6) ⟨hx, hb, hml, hown, htsL⟩ (c_X6_carried l N kd G ct a1 g1 (xs (x3 + (1 : Int32)).toNatClampNeg) (xs (x3 + (2 : Int32)).toNatClampNeg) (xs (x3 + (3 : Int32)).toNatClampNeg) _ hf1) (cwV 3 htsL gL_law_X6_carried rfl rfl rfl (by decide +kernel) ⟨Nat.le_of_ble_eq_true rfl, Nat.le_of_ble_eq_true rfl⟩) hK hE hA hW [] (wX7 a2 ct g2 sg) rfl rfl 0 rfl rfl rfl rfl hl.1 rfl (lv_room (Nat.le_of_ble_eq_true rfl)) dL_law_645 (fun H locs hW => ?_)
  refine lv_aload_n hx hb dL_law_648 rfl (lv_at hl 2 rfl) ?_
  refine lv_aload_n hx hb dL_law_649 rfl (lv_at hl 0 rfl) ?_
  refine lv_iload_n hx hb dL_law_650 rfl (lv_at hl 3 rfl) ?_
  refine lv_iconst (v := (1 : Int32)) hx hb dL_law_651 (by decide) ?_
  refine lv_iadd hx hb dL_law_652 ?_
  refine va_sld hx hb hX hbl hbA hW.2.2 hi1 dL_law_653 ?_
  refine lv_aload_n hx hb dL_law_654 rfl (lv_at hl 0 rfl) ?_
  refine lv_iload_n hx hb dL_law_655 rfl (lv_at hl 3 rfl) ?_
  refine lv_iconst (v := (2 : Int32)) hx hb dL_law_656 (by decide) ?_
  refine lv_iadd hx hb dL_law_657 ?_
  refine va_sld hx hb hX hbl hbA hW.2.2 hi2 dL_law_658 ?_
  refine lv_aload_n hx hb dL_law_659 rfl (lv_at hl 0 rfl) ?_
  refine lv_iload_n hx hb dL_law_660 rfl (lv_at hl 3 rfl) ?_
  refine lv_iconst (v := (3 : Int32)) hx hb dL_law_661 (by decide) ?_
  refine lv_iadd hx hb dL_law_662 ?_
  refine va_sld hx hb hX hbl hbA hW.2.2 hi3 dL_law_663 ?_
  refine x_callV_i (w' := (wX6 a1 ct h1 ++ wX7 a2 ct h2 sg)) (As := [.int (xs (x3 + (1 : Int32)).toNatClampNeg), .int (xs (x3 + (2 : Int32)).toNatClampNeg), .int (xs (x3 + (3 : Int32)).toNatClampNeg)]) (rest := [.int r]) (ci := 7) ⟨hx, hb, hml, hown, htsL⟩ (c_X7_carried l N kd G ct a2 g2 sg (xs (x3 + (1 : Int32)).toNatClampNeg) (xs (x3 + (2 : Int32)).toNatClampNeg) (xs (x3 + (3 : Int32)).toNatClampNeg) _ hf2) (cwV 3 htsL gL_law_X7_carried rfl rfl rfl (by decide +kernel) ⟨Nat.le_of_ble_eq_true rfl, Nat.le_of_ble_eq_true rfl⟩) hK hE hA hW (wX6 a1 ct h1) [] (by rw [List.append_nil]) (by rw [List.append_nil]) 0 rfl rfl rfl rfl hl.1 rfl (lv_room (Nat.le_of_ble_eq_true rfl)) dL_law_664 (fun H locs hW => ?_)
  refine lv_icmp_eq (tgt := 997) hx hb dL_law_667 (by decide) (fun hc => ?_) (fun hc => absurd rfl hc)
  exact K _ _ _ hR2 H locs ls hW hl
set_option maxHeartbeats 4000000 in
set_option maxRecDepth 100000 in
theorem law_step {p : Program} {l : Launch} {e : Env} {s : State} {m : MethodId} {below : List Frame} {meth : Method} {c : Code} {b L : Nat} {xs : Nat → Int32} {kd : (Nat → Nat) × (Nat → Nat)} {G : va_G} {ct : Nat → ClassId} {N : Nat} {Rel : St_ → St_ → Prop} (C0 : lw_At p s m meth c b L xs) (hE : En kd (fun q : Nat => s.heap.size ≤ q) s s.heap) (hK : va_K G cls_ (tys_ ct) s) (hp : PA_step N Rel) (x3 : Int32) (hi0 : vp_in x3 L) (hi1 : vp_in (x3 + (1 : Int32)) L) (hi2 : vp_in (x3 + (2 : Int32)) L) (hi3 : vp_in (x3 + (3 : Int32)) L) (hi4 : vp_in (x3 + (4 : Int32)) L) (a1 a2 : Nat → Nat) (g1 g2 : St_) (sg : Int64) (hR : Rel g1 g2) (H : Heap) (locs : List Loc) (ls : Array Slot) (hW : WW G (fun q : Nat => s.heap.size ≤ q) s.heap (wX6 a1 ct g1 ++ wX7 a2 ct g2 sg) H locs) (hl : lv_has ls 4 [(0, .ref b), (1, .ref (a1 0)), (2, .ref (a2 0)), (3, .int x3)])
    (K : ∀ (g1 g2 : St_) (sg : Int64), Rel g1 g2 → ∀ (H : Heap) (locs : List Loc) (ls : Array Slot), WW G (fun q : Nat => s.heap.size ≤ q) s.heap (wX6 a1 ct g1 ++ wX7 a2 ct g2 sg) H locs → lv_has ls 4 [(0, .ref b), (1, .ref (a1 0)), (2, .ref (a2 0)), (3, .int x3)] → W p l e room_1 s m #[Value.ref b] below meth c H locs 81 2133 (lw_Z below #[Value.ref b] s) (F0 m 997 ls [])) : W p l e room_1 s m #[Value.ref b] below meth c H locs 81 2133 (lw_Z below #[Value.ref b] s) (F0 m 672 ls []) := by
  obtain ⟨hx, hb, hr, hml, hown, hts, hX, hbl, hlocks, hgv⟩ := C0
  have htsL : ∀ w ∈ wsL_law, w.before #[Value.ref b] s = true := fun w h => hts w (wsL_law_in w h)
  have hA : ∀ q : Nat, s.heap.size ≤ q → (fun q : Nat => s.heap.size ≤ q) q := fun _ h => h
  have hbA : ¬ (fun q : Nat => s.heap.size ≤ q) b := Nat.not_le.mpr hbl
  refine lv_aload_n hx hb dL_law_672 rfl (lv_at hl 1 rfl) ?_
  refine lv_aload_n hx hb dL_law_673 rfl (lv_at hl 0 rfl) ?_
  refine lv_iload_n hx hb dL_law_674 rfl (lv_at hl 3 rfl) ?_
  refine lv_iconst (v := (1 : Int32)) hx hb dL_law_675 (by decide) ?_
  refine lv_iadd hx hb dL_law_676 ?_
  refine va_sld hx hb hX hbl hbA hW.2.2 hi1 dL_law_677 ?_
  refine lv_aload_n hx hb dL_law_678 rfl (lv_at hl 0 rfl) ?_
  refine lv_iload_n hx hb dL_law_679 rfl (lv_at hl 3 rfl) ?_
  refine lv_iconst (v := (2 : Int32)) hx hb dL_law_680 (by decide) ?_
  refine lv_iadd hx hb dL_law_681 ?_
  refine va_sld hx hb hX hbl hbA hW.2.2 hi2 dL_law_682 ?_
  refine lv_aload_n hx hb dL_law_683 rfl (lv_at hl 0 rfl) ?_
  refine lv_iload_n hx hb dL_law_684 rfl (lv_at hl 3 rfl) ?_
  refine lv_iconst (v := (3 : Int32)) hx hb dL_law_685 (by decide) ?_
  refine lv_iadd hx hb dL_law_686 ?_
  refine va_sld hx hb hX hbl hbA hW.2.2 hi3 dL_law_687 ?_
  refine lv_aload_n hx hb dL_law_688 rfl (lv_at hl 0 rfl) ?_
  refine lv_iload_n hx hb dL_law_689 rfl (lv_at hl 3 rfl) ?_
  refine lv_iconst (v := (4 : Int32)) hx hb dL_law_690 (by decide) ?_
  refine lv_iadd hx hb dL_law_691 ?_
  refine va_sld hx hb hX hbl hbA hW.2.2 hi4 dL_law_692 ?_
  obtain ⟨r, h2, hf1, hf2, hR2⟩ := hp g1 g2 hR (xs (x3 + (1 : Int32)).toNatClampNeg) (xs (x3 + (2 : Int32)).toNatClampNeg) (xs (x3 + (3 : Int32)).toNatClampNeg) (xs (x3 + (4 : Int32)).toNatClampNeg)
  refine x_callV_i (w' := (wX6 a1 ct g1 ++ wX7 a2 ct g2 sg)) (As := [.int (xs (x3 + (1 : Int32)).toNatClampNeg), .int (xs (x3 + (2 : Int32)).toNatClampNeg), .int (xs (x3 + (3 : Int32)).toNatClampNeg), .int (xs (x3 + (4 : Int32)).toNatClampNeg)]) (rest := []) (ci := 6) ⟨hx, hb, hml, hown, htsL⟩ (c_X6_step l N kd G ct a1 g1 (xs (x3 + (1 : Int32)).toNatClampNeg) (xs (x3 + (2 : Int32)).toNatClampNeg) (xs (x3 + (3 : Int32)).toNatClampNeg) (xs (x3 + (4 : Int32)).toNatClampNeg) _ hf1) (cwV 4 htsL gL_law_X6_step rfl rfl rfl (by decide +kernel) ⟨Nat.le_of_ble_eq_true rfl, Nat.le_of_ble_eq_true rfl⟩) hK hE hA hW [] (wX7 a2 ct g2 sg) rfl rfl 0 rfl rfl rfl rfl hl.1 rfl (lv_room (Nat.le_of_ble_eq_true rfl)) dL_law_693 (fun H locs hW => ?_)
  refine lv_aload_n hx hb dL_law_696 rfl (lv_at hl 2 rfl) ?_
  refine lv_aload_n hx hb dL_law_697 rfl (lv_at hl 0 rfl) ?_
  refine lv_iload_n hx hb dL_law_698 rfl (lv_at hl 3 rfl) ?_
  refine lv_iconst (v := (1 : Int32)) hx hb dL_law_699 (by decide) ?_
  refine lv_iadd hx hb dL_law_700 ?_
  refine va_sld hx hb hX hbl hbA hW.2.2 hi1 dL_law_701 ?_
  refine lv_aload_n hx hb dL_law_702 rfl (lv_at hl 0 rfl) ?_
  refine lv_iload_n hx hb dL_law_703 rfl (lv_at hl 3 rfl) ?_
  refine lv_iconst (v := (2 : Int32)) hx hb dL_law_704 (by decide) ?_
  refine lv_iadd hx hb dL_law_705 ?_
  refine va_sld hx hb hX hbl hbA hW.2.2 hi2 dL_law_706 ?_
  refine lv_aload_n hx hb dL_law_707 rfl (lv_at hl 0 rfl) ?_
  refine lv_iload_n hx hb dL_law_708 rfl (lv_at hl 3 rfl) ?_
  refine lv_iconst (v := (3 : Int32)) hx hb dL_law_709 (by decide) ?_
  refine lv_iadd hx hb dL_law_710 ?_
  refine va_sld hx hb hX hbl hbA hW.2.2 hi3 dL_law_711 ?_
  refine lv_aload_n hx hb dL_law_712 rfl (lv_at hl 0 rfl) ?_
  refine lv_iload_n hx hb dL_law_713 rfl (lv_at hl 3 rfl) ?_
  refine lv_iconst (v := (4 : Int32)) hx hb dL_law_714 (by decide) ?_
  refine lv_iadd hx hb dL_law_715 ?_
  refine va_sld hx hb hX hbl hbA hW.2.2 hi4 dL_law_716 ?_
  refine x_callV_i (w' := (wX6 a1 ct g1 ++ wX7 a2 ct h2 sg)) (As := [.int (xs (x3 + (1 : Int32)).toNatClampNeg), .int (xs (x3 + (2 : Int32)).toNatClampNeg), .int (xs (x3 + (3 : Int32)).toNatClampNeg), .int (xs (x3 + (4 : Int32)).toNatClampNeg)]) (rest := [.int r]) (ci := 7) ⟨hx, hb, hml, hown, htsL⟩ (c_X7_step l N kd G ct a2 g2 sg (xs (x3 + (1 : Int32)).toNatClampNeg) (xs (x3 + (2 : Int32)).toNatClampNeg) (xs (x3 + (3 : Int32)).toNatClampNeg) (xs (x3 + (4 : Int32)).toNatClampNeg) _ hf2) (cwV 4 htsL gL_law_X7_step rfl rfl rfl (by decide +kernel) ⟨Nat.le_of_ble_eq_true rfl, Nat.le_of_ble_eq_true rfl⟩) hK hE hA hW (wX6 a1 ct g1) [] (by rw [List.append_nil]) (by rw [List.append_nil]) 0 rfl rfl rfl rfl hl.1 rfl (lv_room (Nat.le_of_ble_eq_true rfl)) dL_law_717 (fun H locs hW => ?_)
  refine lv_icmp_eq (tgt := 997) hx hb dL_law_720 (by decide) (fun hc => ?_) (fun hc => absurd rfl hc)
  exact K _ _ _ hR2 H locs ls hW hl
set_option maxHeartbeats 4000000 in
set_option maxRecDepth 100000 in
theorem law_worst {p : Program} {l : Launch} {e : Env} {s : State} {m : MethodId} {below : List Frame} {meth : Method} {c : Code} {b L : Nat} {xs : Nat → Int32} {kd : (Nat → Nat) × (Nat → Nat)} {G : va_G} {ct : Nat → ClassId} {N : Nat} {Rel : St_ → St_ → Prop} (C0 : lw_At p s m meth c b L xs) (hE : En kd (fun q : Nat => s.heap.size ≤ q) s s.heap) (hK : va_K G cls_ (tys_ ct) s) (hp : PA_worst N Rel) (x3 : Int32) (hi0 : vp_in x3 L) (hi1 : vp_in (x3 + (1 : Int32)) L) (hi2 : vp_in (x3 + (2 : Int32)) L) (hi3 : vp_in (x3 + (3 : Int32)) L) (hi4 : vp_in (x3 + (4 : Int32)) L) (a1 a2 : Nat → Nat) (g1 g2 : St_) (sg : Int64) (hR : Rel g1 g2) (H : Heap) (locs : List Loc) (ls : Array Slot) (hW : WW G (fun q : Nat => s.heap.size ≤ q) s.heap (wX6 a1 ct g1 ++ wX7 a2 ct g2 sg) H locs) (hl : lv_has ls 4 [(0, .ref b), (1, .ref (a1 0)), (2, .ref (a2 0)), (3, .int x3)])
    (K : ∀ (g1 g2 : St_) (sg : Int64), Rel g1 g2 → ∀ (H : Heap) (locs : List Loc) (ls : Array Slot), WW G (fun q : Nat => s.heap.size ≤ q) s.heap (wX6 a1 ct g1 ++ wX7 a2 ct g2 sg) H locs → lv_has ls 4 [(0, .ref b), (1, .ref (a1 0)), (2, .ref (a2 0)), (3, .int x3)] → W p l e room_1 s m #[Value.ref b] below meth c H locs 81 2133 (lw_Z below #[Value.ref b] s) (F0 m 997 ls [])) : W p l e room_1 s m #[Value.ref b] below meth c H locs 81 2133 (lw_Z below #[Value.ref b] s) (F0 m 725 ls []) := by
  obtain ⟨hx, hb, hr, hml, hown, hts, hX, hbl, hlocks, hgv⟩ := C0
  have htsL : ∀ w ∈ wsL_law, w.before #[Value.ref b] s = true := fun w h => hts w (wsL_law_in w h)
  have hA : ∀ q : Nat, s.heap.size ≤ q → (fun q : Nat => s.heap.size ≤ q) q := fun _ h => h
  have hbA : ¬ (fun q : Nat => s.heap.size ≤ q) b := Nat.not_le.mpr hbl
  refine lv_aload_n hx hb dL_law_725 rfl (lv_at hl 1 rfl) ?_
  refine lv_aload_n hx hb dL_law_726 rfl (lv_at hl 0 rfl) ?_
  refine lv_iload_n hx hb dL_law_727 rfl (lv_at hl 3 rfl) ?_
  refine lv_iconst (v := (1 : Int32)) hx hb dL_law_728 (by decide) ?_
  refine lv_iadd hx hb dL_law_729 ?_
  refine va_sld hx hb hX hbl hbA hW.2.2 hi1 dL_law_730 ?_
  obtain ⟨r, h2, hf1, hf2, hR2⟩ := hp g1 g2 hR (xs (x3 + (1 : Int32)).toNatClampNeg)
  refine x_callV_i (w' := (wX6 a1 ct g1 ++ wX7 a2 ct g2 sg)) (As := [.int (xs (x3 + (1 : Int32)).toNatClampNeg)]) (rest := []) (ci := 6) ⟨hx, hb, hml, hown, htsL⟩ (c_X6_worst l N kd G ct a1 g1 (xs (x3 + (1 : Int32)).toNatClampNeg) _ hf1) (cwV 1 htsL gL_law_X6_worst rfl rfl rfl (by decide +kernel) ⟨Nat.le_of_ble_eq_true rfl, Nat.le_of_ble_eq_true rfl⟩) hK hE hA hW [] (wX7 a2 ct g2 sg) rfl rfl 0 rfl rfl rfl rfl hl.1 rfl (lv_room (Nat.le_of_ble_eq_true rfl)) dL_law_731 (fun H locs hW => ?_)
  refine lv_aload_n hx hb dL_law_734 rfl (lv_at hl 2 rfl) ?_
  refine lv_aload_n hx hb dL_law_735 rfl (lv_at hl 0 rfl) ?_
  refine lv_iload_n hx hb dL_law_736 rfl (lv_at hl 3 rfl) ?_
  refine lv_iconst (v := (1 : Int32)) hx hb dL_law_737 (by decide) ?_
  refine lv_iadd hx hb dL_law_738 ?_
  refine va_sld hx hb hX hbl hbA hW.2.2 hi1 dL_law_739 ?_
  refine x_callV_i (w' := (wX6 a1 ct g1 ++ wX7 a2 ct h2 sg)) (As := [.int (xs (x3 + (1 : Int32)).toNatClampNeg)]) (rest := [.int r]) (ci := 7) ⟨hx, hb, hml, hown, htsL⟩ (c_X7_worst l N kd G ct a2 g2 sg (xs (x3 + (1 : Int32)).toNatClampNeg) _ hf2) (cwV 1 htsL gL_law_X7_worst rfl rfl rfl (by decide +kernel) ⟨Nat.le_of_ble_eq_true rfl, Nat.le_of_ble_eq_true rfl⟩) hK hE hA hW (wX6 a1 ct g1) [] (by rw [List.append_nil]) (by rw [List.append_nil]) 0 rfl rfl rfl rfl hl.1 rfl (lv_room (Nat.le_of_ble_eq_true rfl)) dL_law_740 (fun H locs hW => ?_)
  refine lv_icmp_eq (tgt := 997) hx hb dL_law_743 (by decide) (fun hc => ?_) (fun hc => absurd rfl hc)
  exact K _ _ _ hR2 H locs ls hW hl
set_option maxHeartbeats 4000000 in
set_option maxRecDepth 100000 in
theorem law_best {p : Program} {l : Launch} {e : Env} {s : State} {m : MethodId} {below : List Frame} {meth : Method} {c : Code} {b L : Nat} {xs : Nat → Int32} {kd : (Nat → Nat) × (Nat → Nat)} {G : va_G} {ct : Nat → ClassId} {N : Nat} {Rel : St_ → St_ → Prop} (C0 : lw_At p s m meth c b L xs) (hE : En kd (fun q : Nat => s.heap.size ≤ q) s s.heap) (hK : va_K G cls_ (tys_ ct) s) (hp : PA_best N Rel) (x3 : Int32) (hi0 : vp_in x3 L) (hi1 : vp_in (x3 + (1 : Int32)) L) (hi2 : vp_in (x3 + (2 : Int32)) L) (hi3 : vp_in (x3 + (3 : Int32)) L) (hi4 : vp_in (x3 + (4 : Int32)) L) (a1 a2 : Nat → Nat) (g1 g2 : St_) (sg : Int64) (hR : Rel g1 g2) (H : Heap) (locs : List Loc) (ls : Array Slot) (hW : WW G (fun q : Nat => s.heap.size ≤ q) s.heap (wX6 a1 ct g1 ++ wX7 a2 ct g2 sg) H locs) (hl : lv_has ls 4 [(0, .ref b), (1, .ref (a1 0)), (2, .ref (a2 0)), (3, .int x3)])
    (K : ∀ (g1 g2 : St_) (sg : Int64), Rel g1 g2 → ∀ (H : Heap) (locs : List Loc) (ls : Array Slot), WW G (fun q : Nat => s.heap.size ≤ q) s.heap (wX6 a1 ct g1 ++ wX7 a2 ct g2 sg) H locs → lv_has ls 4 [(0, .ref b), (1, .ref (a1 0)), (2, .ref (a2 0)), (3, .int x3)] → W p l e room_1 s m #[Value.ref b] below meth c H locs 81 2133 (lw_Z below #[Value.ref b] s) (F0 m 997 ls [])) : W p l e room_1 s m #[Value.ref b] below meth c H locs 81 2133 (lw_Z below #[Value.ref b] s) (F0 m 748 ls []) := by
  obtain ⟨hx, hb, hr, hml, hown, hts, hX, hbl, hlocks, hgv⟩ := C0
  have htsL : ∀ w ∈ wsL_law, w.before #[Value.ref b] s = true := fun w h => hts w (wsL_law_in w h)
  have hA : ∀ q : Nat, s.heap.size ≤ q → (fun q : Nat => s.heap.size ≤ q) q := fun _ h => h
  have hbA : ¬ (fun q : Nat => s.heap.size ≤ q) b := Nat.not_le.mpr hbl
  refine lv_aload_n hx hb dL_law_748 rfl (lv_at hl 1 rfl) ?_
  refine lv_aload_n hx hb dL_law_749 rfl (lv_at hl 0 rfl) ?_
  refine lv_iload_n hx hb dL_law_750 rfl (lv_at hl 3 rfl) ?_
  refine lv_iconst (v := (1 : Int32)) hx hb dL_law_751 (by decide) ?_
  refine lv_iadd hx hb dL_law_752 ?_
  refine va_sld hx hb hX hbl hbA hW.2.2 hi1 dL_law_753 ?_
  obtain ⟨r, hf1, hf2, hR2⟩ := hp g1 g2 hR (xs (x3 + (1 : Int32)).toNatClampNeg)
  refine x_callV_i (w' := (wX6 a1 ct g1 ++ wX7 a2 ct g2 sg)) (As := [.int (xs (x3 + (1 : Int32)).toNatClampNeg)]) (rest := []) (ci := 6) ⟨hx, hb, hml, hown, htsL⟩ (c_X6_best l N kd G ct a1 g1 (xs (x3 + (1 : Int32)).toNatClampNeg) _ hf1) (cwV 1 htsL gL_law_X6_best rfl rfl rfl (by decide +kernel) ⟨Nat.le_of_ble_eq_true rfl, Nat.le_of_ble_eq_true rfl⟩) hK hE hA hW [] (wX7 a2 ct g2 sg) rfl rfl 0 rfl rfl rfl rfl hl.1 rfl (lv_room (Nat.le_of_ble_eq_true rfl)) dL_law_754 (fun H locs hW => ?_)
  refine lv_aload_n hx hb dL_law_757 rfl (lv_at hl 2 rfl) ?_
  refine lv_aload_n hx hb dL_law_758 rfl (lv_at hl 0 rfl) ?_
  refine lv_iload_n hx hb dL_law_759 rfl (lv_at hl 3 rfl) ?_
  refine lv_iconst (v := (1 : Int32)) hx hb dL_law_760 (by decide) ?_
  refine lv_iadd hx hb dL_law_761 ?_
  refine va_sld hx hb hX hbl hbA hW.2.2 hi1 dL_law_762 ?_
  refine x_callV_i (w' := (wX6 a1 ct g1 ++ wX7 a2 ct g2 sg)) (As := [.int (xs (x3 + (1 : Int32)).toNatClampNeg)]) (rest := [.int r]) (ci := 7) ⟨hx, hb, hml, hown, htsL⟩ (c_X7_best l N kd G ct a2 g2 sg (xs (x3 + (1 : Int32)).toNatClampNeg) _ hf2) (cwV 1 htsL gL_law_X7_best rfl rfl rfl (by decide +kernel) ⟨Nat.le_of_ble_eq_true rfl, Nat.le_of_ble_eq_true rfl⟩) hK hE hA hW (wX6 a1 ct g1) [] (by rw [List.append_nil]) (by rw [List.append_nil]) 0 rfl rfl rfl rfl hl.1 rfl (lv_room (Nat.le_of_ble_eq_true rfl)) dL_law_763 (fun H locs hW => ?_)
  refine lv_icmp_eq (tgt := 997) hx hb dL_law_766 (by decide) (fun hc => ?_) (fun hc => absurd rfl hc)
  exact K _ _ _ hR2 H locs ls hW hl
set_option maxHeartbeats 4000000 in
set_option maxRecDepth 100000 in
theorem law_cover {p : Program} {l : Launch} {e : Env} {s : State} {m : MethodId} {below : List Frame} {meth : Method} {c : Code} {b L : Nat} {xs : Nat → Int32} {kd : (Nat → Nat) × (Nat → Nat)} {G : va_G} {ct : Nat → ClassId} {N : Nat} {Rel : St_ → St_ → Prop} (C0 : lw_At p s m meth c b L xs) (hE : En kd (fun q : Nat => s.heap.size ≤ q) s s.heap) (hK : va_K G cls_ (tys_ ct) s) (hp : PA_cover N Rel) (x3 : Int32) (hi0 : vp_in x3 L) (hi1 : vp_in (x3 + (1 : Int32)) L) (hi2 : vp_in (x3 + (2 : Int32)) L) (hi3 : vp_in (x3 + (3 : Int32)) L) (hi4 : vp_in (x3 + (4 : Int32)) L) (a1 a2 : Nat → Nat) (g1 g2 : St_) (sg : Int64) (hR : Rel g1 g2) (H : Heap) (locs : List Loc) (ls : Array Slot) (hW : WW G (fun q : Nat => s.heap.size ≤ q) s.heap (wX6 a1 ct g1 ++ wX7 a2 ct g2 sg) H locs) (hl : lv_has ls 4 [(0, .ref b), (1, .ref (a1 0)), (2, .ref (a2 0)), (3, .int x3)])
    (K : ∀ (g1 g2 : St_) (sg : Int64), Rel g1 g2 → ∀ (H : Heap) (locs : List Loc) (ls : Array Slot), WW G (fun q : Nat => s.heap.size ≤ q) s.heap (wX6 a1 ct g1 ++ wX7 a2 ct g2 sg) H locs → lv_has ls 4 [(0, .ref b), (1, .ref (a1 0)), (2, .ref (a2 0)), (3, .int x3)] → W p l e room_1 s m #[Value.ref b] below meth c H locs 81 2133 (lw_Z below #[Value.ref b] s) (F0 m 997 ls [])) : W p l e room_1 s m #[Value.ref b] below meth c H locs 81 2133 (lw_Z below #[Value.ref b] s) (F0 m 771 ls []) := by
  obtain ⟨hx, hb, hr, hml, hown, hts, hX, hbl, hlocks, hgv⟩ := C0
  have htsL : ∀ w ∈ wsL_law, w.before #[Value.ref b] s = true := fun w h => hts w (wsL_law_in w h)
  have hA : ∀ q : Nat, s.heap.size ≤ q → (fun q : Nat => s.heap.size ≤ q) q := fun _ h => h
  have hbA : ¬ (fun q : Nat => s.heap.size ≤ q) b := Nat.not_le.mpr hbl
  refine lv_aload_n hx hb dL_law_771 rfl (lv_at hl 1 rfl) ?_
  obtain ⟨r, h1, hf1, hf2, hR2⟩ := hp g1 g2 hR
  refine x_callV_i (w' := (wX6 a1 ct h1 ++ wX7 a2 ct g2 sg)) (As := []) (rest := []) (ci := 6) ⟨hx, hb, hml, hown, htsL⟩ (c_X6_cover l N kd G ct a1 g1 _ hf1) (cwV 0 htsL gL_law_X6_cover rfl rfl rfl (by decide +kernel) ⟨Nat.le_of_ble_eq_true rfl, Nat.le_of_ble_eq_true rfl⟩) hK hE hA hW [] (wX7 a2 ct g2 sg) rfl rfl 0 rfl rfl rfl rfl hl.1 rfl (lv_room (Nat.le_of_ble_eq_true rfl)) dL_law_772 (fun H locs hW => ?_)
  refine lv_aload_n hx hb dL_law_775 rfl (lv_at hl 2 rfl) ?_
  refine x_callV_i (w' := (wX6 a1 ct h1 ++ wX7 a2 ct g2 sg)) (As := []) (rest := [.int r]) (ci := 7) ⟨hx, hb, hml, hown, htsL⟩ (c_X7_cover l N kd G ct a2 g2 sg _ hf2) (cwV 0 htsL gL_law_X7_cover rfl rfl rfl (by decide +kernel) ⟨Nat.le_of_ble_eq_true rfl, Nat.le_of_ble_eq_true rfl⟩) hK hE hA hW (wX6 a1 ct h1) [] (by rw [List.append_nil]) (by rw [List.append_nil]) 0 rfl rfl rfl rfl hl.1 rfl (lv_room (Nat.le_of_ble_eq_true rfl)) dL_law_776 (fun H locs hW => ?_)
  refine lv_icmp_eq (tgt := 997) hx hb dL_law_779 (by decide) (fun hc => ?_) (fun hc => absurd rfl hc)
  exact K _ _ _ hR2 H locs ls hW hl
set_option maxHeartbeats 4000000 in
set_option maxRecDepth 100000 in
theorem law_see {p : Program} {l : Launch} {e : Env} {s : State} {m : MethodId} {below : List Frame} {meth : Method} {c : Code} {b L : Nat} {xs : Nat → Int32} {kd : (Nat → Nat) × (Nat → Nat)} {G : va_G} {ct : Nat → ClassId} {N : Nat} {Rel : St_ → St_ → Prop} (C0 : lw_At p s m meth c b L xs) (hE : En kd (fun q : Nat => s.heap.size ≤ q) s s.heap) (hK : va_K G cls_ (tys_ ct) s) (hp : PA_see N Rel) (x3 : Int32) (hi0 : vp_in x3 L) (hi1 : vp_in (x3 + (1 : Int32)) L) (hi2 : vp_in (x3 + (2 : Int32)) L) (hi3 : vp_in (x3 + (3 : Int32)) L) (hi4 : vp_in (x3 + (4 : Int32)) L) (a1 a2 : Nat → Nat) (g1 g2 : St_) (sg : Int64) (hR : Rel g1 g2) (H : Heap) (locs : List Loc) (ls : Array Slot) (hW : WW G (fun q : Nat => s.heap.size ≤ q) s.heap (wX6 a1 ct g1 ++ wX7 a2 ct g2 sg) H locs) (hl : lv_has ls 4 [(0, .ref b), (1, .ref (a1 0)), (2, .ref (a2 0)), (3, .int x3)])
    (K : ∀ (g1 g2 : St_) (sg : Int64), Rel g1 g2 → ∀ (H : Heap) (locs : List Loc) (ls : Array Slot), WW G (fun q : Nat => s.heap.size ≤ q) s.heap (wX6 a1 ct g1 ++ wX7 a2 ct g2 sg) H locs → lv_has ls 4 [(0, .ref b), (1, .ref (a1 0)), (2, .ref (a2 0)), (3, .int x3)] → W p l e room_1 s m #[Value.ref b] below meth c H locs 81 2133 (lw_Z below #[Value.ref b] s) (F0 m 997 ls [])) : W p l e room_1 s m #[Value.ref b] below meth c H locs 81 2133 (lw_Z below #[Value.ref b] s) (F0 m 784 ls []) := by
  obtain ⟨hx, hb, hr, hml, hown, hts, hX, hbl, hlocks, hgv⟩ := C0
  have htsL : ∀ w ∈ wsL_law, w.before #[Value.ref b] s = true := fun w h => hts w (wsL_law_in w h)
  have hA : ∀ q : Nat, s.heap.size ≤ q → (fun q : Nat => s.heap.size ≤ q) q := fun _ h => h
  have hbA : ¬ (fun q : Nat => s.heap.size ≤ q) b := Nat.not_le.mpr hbl
  refine lv_aload_n hx hb dL_law_784 rfl (lv_at hl 1 rfl) ?_
  refine lv_aload_n hx hb dL_law_785 rfl (lv_at hl 0 rfl) ?_
  refine lv_iload_n hx hb dL_law_786 rfl (lv_at hl 3 rfl) ?_
  refine lv_iconst (v := (1 : Int32)) hx hb dL_law_787 (by decide) ?_
  refine lv_iadd hx hb dL_law_788 ?_
  refine va_sld hx hb hX hbl hbA hW.2.2 hi1 dL_law_789 ?_
  refine lv_aload_n hx hb dL_law_790 rfl (lv_at hl 0 rfl) ?_
  refine lv_iload_n hx hb dL_law_791 rfl (lv_at hl 3 rfl) ?_
  refine lv_iconst (v := (2 : Int32)) hx hb dL_law_792 (by decide) ?_
  refine lv_iadd hx hb dL_law_793 ?_
  refine va_sld hx hb hX hbl hbA hW.2.2 hi2 dL_law_794 ?_
  refine lv_aload_n hx hb dL_law_795 rfl (lv_at hl 0 rfl) ?_
  refine lv_iload_n hx hb dL_law_796 rfl (lv_at hl 3 rfl) ?_
  refine lv_iconst (v := (3 : Int32)) hx hb dL_law_797 (by decide) ?_
  refine lv_iadd hx hb dL_law_798 ?_
  refine va_sld hx hb hX hbl hbA hW.2.2 hi3 dL_law_799 ?_
  refine lv_if_eq (tgt := 807) hx hb dL_law_800 (by decide) (fun hz0 => ?_) (fun hz0 => ?_)
  · refine lv_iconst (v := (0 : Int32)) hx hb dL_law_807 (by decide) ?_
    obtain ⟨r, h1, h2, hf1, hf2, hR2⟩ := hp g1 g2 hR (xs (x3 + (1 : Int32)).toNatClampNeg) (xs (x3 + (2 : Int32)).toNatClampNeg) (0 : Int32) (Or.inl rfl)
    refine x_callV_i (w' := (wX6 a1 ct h1 ++ wX7 a2 ct g2 sg)) (As := [.int (xs (x3 + (1 : Int32)).toNatClampNeg), .int (xs (x3 + (2 : Int32)).toNatClampNeg), .int (0 : Int32)]) (rest := []) (ci := 6) ⟨hx, hb, hml, hown, htsL⟩ (c_X6_see l N kd G ct a1 g1 (xs (x3 + (1 : Int32)).toNatClampNeg) (xs (x3 + (2 : Int32)).toNatClampNeg) (0 : Int32) _ hf1) (cwV 3 htsL gL_law_X6_see rfl rfl rfl (by decide +kernel) ⟨Nat.le_of_ble_eq_true rfl, Nat.le_of_ble_eq_true rfl⟩) hK hE hA hW [] (wX7 a2 ct g2 sg) rfl rfl 0 rfl rfl rfl rfl hl.1 rfl (lv_room (Nat.le_of_ble_eq_true rfl)) dL_law_808 (fun H locs hW => ?_)
    refine lv_aload_n hx hb dL_law_811 rfl (lv_at hl 2 rfl) ?_
    refine lv_aload_n hx hb dL_law_812 rfl (lv_at hl 0 rfl) ?_
    refine lv_iload_n hx hb dL_law_813 rfl (lv_at hl 3 rfl) ?_
    refine lv_iconst (v := (1 : Int32)) hx hb dL_law_814 (by decide) ?_
    refine lv_iadd hx hb dL_law_815 ?_
    refine va_sld hx hb hX hbl hbA hW.2.2 hi1 dL_law_816 ?_
    refine lv_aload_n hx hb dL_law_817 rfl (lv_at hl 0 rfl) ?_
    refine lv_iload_n hx hb dL_law_818 rfl (lv_at hl 3 rfl) ?_
    refine lv_iconst (v := (2 : Int32)) hx hb dL_law_819 (by decide) ?_
    refine lv_iadd hx hb dL_law_820 ?_
    refine va_sld hx hb hX hbl hbA hW.2.2 hi2 dL_law_821 ?_
    refine lv_aload_n hx hb dL_law_822 rfl (lv_at hl 0 rfl) ?_
    refine lv_iload_n hx hb dL_law_823 rfl (lv_at hl 3 rfl) ?_
    refine lv_iconst (v := (3 : Int32)) hx hb dL_law_824 (by decide) ?_
    refine lv_iadd hx hb dL_law_825 ?_
    refine va_sld hx hb hX hbl hbA hW.2.2 hi3 dL_law_826 ?_
    refine lv_if_eq (tgt := 834) hx hb dL_law_827 (by decide) (fun hc => ?_) (fun hc => absurd hz0 hc)
    refine lv_iconst (v := (0 : Int32)) hx hb dL_law_834 (by decide) ?_
    refine x_callV_i (w' := (wX6 a1 ct h1 ++ wX7 a2 ct h2 sg)) (As := [.int (xs (x3 + (1 : Int32)).toNatClampNeg), .int (xs (x3 + (2 : Int32)).toNatClampNeg), .int (0 : Int32)]) (rest := [.int r]) (ci := 7) ⟨hx, hb, hml, hown, htsL⟩ (c_X7_see l N kd G ct a2 g2 sg (xs (x3 + (1 : Int32)).toNatClampNeg) (xs (x3 + (2 : Int32)).toNatClampNeg) (0 : Int32) _ hf2) (cwV 3 htsL gL_law_X7_see rfl rfl rfl (by decide +kernel) ⟨Nat.le_of_ble_eq_true rfl, Nat.le_of_ble_eq_true rfl⟩) hK hE hA hW (wX6 a1 ct h1) [] (by rw [List.append_nil]) (by rw [List.append_nil]) 0 rfl rfl rfl rfl hl.1 rfl (lv_room (Nat.le_of_ble_eq_true rfl)) dL_law_835 (fun H locs hW => ?_)
    refine lv_icmp_eq (tgt := 997) hx hb dL_law_838 (by decide) (fun hc => ?_) (fun hc => absurd rfl hc)
    exact K _ _ _ hR2 H locs ls hW hl
  · refine lv_iconst (v := (1 : Int32)) hx hb dL_law_803 (by decide) ?_
    refine lv_goto (tgt := 808) hx hb dL_law_804 (by decide) ?_
    obtain ⟨r, h1, h2, hf1, hf2, hR2⟩ := hp g1 g2 hR (xs (x3 + (1 : Int32)).toNatClampNeg) (xs (x3 + (2 : Int32)).toNatClampNeg) (1 : Int32) (Or.inr rfl)
    refine x_callV_i (w' := (wX6 a1 ct h1 ++ wX7 a2 ct g2 sg)) (As := [.int (xs (x3 + (1 : Int32)).toNatClampNeg), .int (xs (x3 + (2 : Int32)).toNatClampNeg), .int (1 : Int32)]) (rest := []) (ci := 6) ⟨hx, hb, hml, hown, htsL⟩ (c_X6_see l N kd G ct a1 g1 (xs (x3 + (1 : Int32)).toNatClampNeg) (xs (x3 + (2 : Int32)).toNatClampNeg) (1 : Int32) _ hf1) (cwV 3 htsL gL_law_X6_see rfl rfl rfl (by decide +kernel) ⟨Nat.le_of_ble_eq_true rfl, Nat.le_of_ble_eq_true rfl⟩) hK hE hA hW [] (wX7 a2 ct g2 sg) rfl rfl 0 rfl rfl rfl rfl hl.1 rfl (lv_room (Nat.le_of_ble_eq_true rfl)) dL_law_808 (fun H locs hW => ?_)
    refine lv_aload_n hx hb dL_law_811 rfl (lv_at hl 2 rfl) ?_
    refine lv_aload_n hx hb dL_law_812 rfl (lv_at hl 0 rfl) ?_
    refine lv_iload_n hx hb dL_law_813 rfl (lv_at hl 3 rfl) ?_
    refine lv_iconst (v := (1 : Int32)) hx hb dL_law_814 (by decide) ?_
    refine lv_iadd hx hb dL_law_815 ?_
    refine va_sld hx hb hX hbl hbA hW.2.2 hi1 dL_law_816 ?_
    refine lv_aload_n hx hb dL_law_817 rfl (lv_at hl 0 rfl) ?_
    refine lv_iload_n hx hb dL_law_818 rfl (lv_at hl 3 rfl) ?_
    refine lv_iconst (v := (2 : Int32)) hx hb dL_law_819 (by decide) ?_
    refine lv_iadd hx hb dL_law_820 ?_
    refine va_sld hx hb hX hbl hbA hW.2.2 hi2 dL_law_821 ?_
    refine lv_aload_n hx hb dL_law_822 rfl (lv_at hl 0 rfl) ?_
    refine lv_iload_n hx hb dL_law_823 rfl (lv_at hl 3 rfl) ?_
    refine lv_iconst (v := (3 : Int32)) hx hb dL_law_824 (by decide) ?_
    refine lv_iadd hx hb dL_law_825 ?_
    refine va_sld hx hb hX hbl hbA hW.2.2 hi3 dL_law_826 ?_
    refine lv_if_eq (tgt := 834) hx hb dL_law_827 (by decide) (fun hc => absurd hc hz0) (fun hc => ?_)
    refine lv_iconst (v := (1 : Int32)) hx hb dL_law_830 (by decide) ?_
    refine lv_goto (tgt := 835) hx hb dL_law_831 (by decide) ?_
    refine x_callV_i (w' := (wX6 a1 ct h1 ++ wX7 a2 ct h2 sg)) (As := [.int (xs (x3 + (1 : Int32)).toNatClampNeg), .int (xs (x3 + (2 : Int32)).toNatClampNeg), .int (1 : Int32)]) (rest := [.int r]) (ci := 7) ⟨hx, hb, hml, hown, htsL⟩ (c_X7_see l N kd G ct a2 g2 sg (xs (x3 + (1 : Int32)).toNatClampNeg) (xs (x3 + (2 : Int32)).toNatClampNeg) (1 : Int32) _ hf2) (cwV 3 htsL gL_law_X7_see rfl rfl rfl (by decide +kernel) ⟨Nat.le_of_ble_eq_true rfl, Nat.le_of_ble_eq_true rfl⟩) hK hE hA hW (wX6 a1 ct h1) [] (by rw [List.append_nil]) (by rw [List.append_nil]) 0 rfl rfl rfl rfl hl.1 rfl (lv_room (Nat.le_of_ble_eq_true rfl)) dL_law_835 (fun H locs hW => ?_)
    refine lv_icmp_eq (tgt := 997) hx hb dL_law_838 (by decide) (fun hc => ?_) (fun hc => absurd rfl hc)
    exact K _ _ _ hR2 H locs ls hW hl
set_option maxHeartbeats 4000000 in
set_option maxRecDepth 100000 in
theorem law_fits {p : Program} {l : Launch} {e : Env} {s : State} {m : MethodId} {below : List Frame} {meth : Method} {c : Code} {b L : Nat} {xs : Nat → Int32} {kd : (Nat → Nat) × (Nat → Nat)} {G : va_G} {ct : Nat → ClassId} {N : Nat} {Rel : St_ → St_ → Prop} (C0 : lw_At p s m meth c b L xs) (hE : En kd (fun q : Nat => s.heap.size ≤ q) s s.heap) (hK : va_K G cls_ (tys_ ct) s) (hp : PA_fits N Rel) (x3 : Int32) (hi0 : vp_in x3 L) (hi1 : vp_in (x3 + (1 : Int32)) L) (hi2 : vp_in (x3 + (2 : Int32)) L) (hi3 : vp_in (x3 + (3 : Int32)) L) (hi4 : vp_in (x3 + (4 : Int32)) L) (a1 a2 : Nat → Nat) (g1 g2 : St_) (sg : Int64) (hR : Rel g1 g2) (H : Heap) (locs : List Loc) (ls : Array Slot) (hW : WW G (fun q : Nat => s.heap.size ≤ q) s.heap (wX6 a1 ct g1 ++ wX7 a2 ct g2 sg) H locs) (hl : lv_has ls 4 [(0, .ref b), (1, .ref (a1 0)), (2, .ref (a2 0)), (3, .int x3)])
    (K : ∀ (g1 g2 : St_) (sg : Int64), Rel g1 g2 → ∀ (H : Heap) (locs : List Loc) (ls : Array Slot), WW G (fun q : Nat => s.heap.size ≤ q) s.heap (wX6 a1 ct g1 ++ wX7 a2 ct g2 sg) H locs → lv_has ls 4 [(0, .ref b), (1, .ref (a1 0)), (2, .ref (a2 0)), (3, .int x3)] → W p l e room_1 s m #[Value.ref b] below meth c H locs 81 2133 (lw_Z below #[Value.ref b] s) (F0 m 997 ls [])) : W p l e room_1 s m #[Value.ref b] below meth c H locs 81 2133 (lw_Z below #[Value.ref b] s) (F0 m 843 ls []) := by
  obtain ⟨hx, hb, hr, hml, hown, hts, hX, hbl, hlocks, hgv⟩ := C0
  have htsL : ∀ w ∈ wsL_law, w.before #[Value.ref b] s = true := fun w h => hts w (wsL_law_in w h)
  have hA : ∀ q : Nat, s.heap.size ≤ q → (fun q : Nat => s.heap.size ≤ q) q := fun _ h => h
  have hbA : ¬ (fun q : Nat => s.heap.size ≤ q) b := Nat.not_le.mpr hbl
  refine lv_aload_n hx hb dL_law_843 rfl (lv_at hl 1 rfl) ?_
  obtain ⟨r, hf1, hf2, hR2⟩ := hp g1 g2 hR
  refine x_callV_i (w' := (wX6 a1 ct g1 ++ wX7 a2 ct g2 sg)) (As := []) (rest := []) (ci := 6) ⟨hx, hb, hml, hown, htsL⟩ (c_X6_fits l N kd G ct a1 g1 _ hf1) (cwV 0 htsL gL_law_X6_fits rfl rfl rfl (by decide +kernel) ⟨Nat.le_of_ble_eq_true rfl, Nat.le_of_ble_eq_true rfl⟩) hK hE hA hW [] (wX7 a2 ct g2 sg) rfl rfl 0 rfl rfl rfl rfl hl.1 rfl (lv_room (Nat.le_of_ble_eq_true rfl)) dL_law_844 (fun H locs hW => ?_)
  refine lv_aload_n hx hb dL_law_847 rfl (lv_at hl 2 rfl) ?_
  refine x_callV_i (w' := (wX6 a1 ct g1 ++ wX7 a2 ct g2 sg)) (As := []) (rest := [.int r]) (ci := 7) ⟨hx, hb, hml, hown, htsL⟩ (c_X7_fits l N kd G ct a2 g2 sg _ hf2) (cwV 0 htsL gL_law_X7_fits rfl rfl rfl (by decide +kernel) ⟨Nat.le_of_ble_eq_true rfl, Nat.le_of_ble_eq_true rfl⟩) hK hE hA hW (wX6 a1 ct g1) [] (by rw [List.append_nil]) (by rw [List.append_nil]) 0 rfl rfl rfl rfl hl.1 rfl (lv_room (Nat.le_of_ble_eq_true rfl)) dL_law_848 (fun H locs hW => ?_)
  refine lv_icmp_eq (tgt := 997) hx hb dL_law_851 (by decide) (fun hc => ?_) (fun hc => absurd rfl hc)
  exact K _ _ _ hR2 H locs ls hW hl
set_option maxHeartbeats 4000000 in
set_option maxRecDepth 100000 in
theorem law_ask {p : Program} {l : Launch} {e : Env} {s : State} {m : MethodId} {below : List Frame} {meth : Method} {c : Code} {b L : Nat} {xs : Nat → Int32} {kd : (Nat → Nat) × (Nat → Nat)} {G : va_G} {ct : Nat → ClassId} {N : Nat} {Rel : St_ → St_ → Prop} (C0 : lw_At p s m meth c b L xs) (hE : En kd (fun q : Nat => s.heap.size ≤ q) s s.heap) (hK : va_K G cls_ (tys_ ct) s) (hp : PA_ask N Rel) (x3 : Int32) (hi0 : vp_in x3 L) (hi1 : vp_in (x3 + (1 : Int32)) L) (hi2 : vp_in (x3 + (2 : Int32)) L) (hi3 : vp_in (x3 + (3 : Int32)) L) (hi4 : vp_in (x3 + (4 : Int32)) L) (a1 a2 : Nat → Nat) (g1 g2 : St_) (sg : Int64) (hR : Rel g1 g2) (H : Heap) (locs : List Loc) (ls : Array Slot) (hW : WW G (fun q : Nat => s.heap.size ≤ q) s.heap (wX6 a1 ct g1 ++ wX7 a2 ct g2 sg) H locs) (hl : lv_has ls 4 [(0, .ref b), (1, .ref (a1 0)), (2, .ref (a2 0)), (3, .int x3)])
    (K : ∀ (g1 g2 : St_) (sg : Int64), Rel g1 g2 → ∀ (H : Heap) (locs : List Loc) (ls : Array Slot), WW G (fun q : Nat => s.heap.size ≤ q) s.heap (wX6 a1 ct g1 ++ wX7 a2 ct g2 sg) H locs → lv_has ls 4 [(0, .ref b), (1, .ref (a1 0)), (2, .ref (a2 0)), (3, .int x3)] → W p l e room_1 s m #[Value.ref b] below meth c H locs 81 2133 (lw_Z below #[Value.ref b] s) (F0 m 997 ls [])) : W p l e room_1 s m #[Value.ref b] below meth c H locs 81 2133 (lw_Z below #[Value.ref b] s) (F0 m 856 ls []) := by
  obtain ⟨hx, hb, hr, hml, hown, hts, hX, hbl, hlocks, hgv⟩ := C0
  have htsL : ∀ w ∈ wsL_law, w.before #[Value.ref b] s = true := fun w h => hts w (wsL_law_in w h)
  have hA : ∀ q : Nat, s.heap.size ≤ q → (fun q : Nat => s.heap.size ≤ q) q := fun _ h => h
  have hbA : ¬ (fun q : Nat => s.heap.size ≤ q) b := Nat.not_le.mpr hbl
  refine lv_aload_n hx hb dL_law_856 rfl (lv_at hl 1 rfl) ?_
  obtain ⟨r, hf1, hf2, hR2⟩ := hp g1 g2 hR
  refine x_callV_i (w' := (wX6 a1 ct g1 ++ wX7 a2 ct g2 sg)) (As := []) (rest := []) (ci := 6) ⟨hx, hb, hml, hown, htsL⟩ (c_X6_ask l N kd G ct a1 g1 _ hf1) (cwV 0 htsL gL_law_X6_ask rfl rfl rfl (by decide +kernel) ⟨Nat.le_of_ble_eq_true rfl, Nat.le_of_ble_eq_true rfl⟩) hK hE hA hW [] (wX7 a2 ct g2 sg) rfl rfl 0 rfl rfl rfl rfl hl.1 rfl (lv_room (Nat.le_of_ble_eq_true rfl)) dL_law_857 (fun H locs hW => ?_)
  refine lv_aload_n hx hb dL_law_860 rfl (lv_at hl 2 rfl) ?_
  refine x_callV_i (w' := (wX6 a1 ct g1 ++ wX7 a2 ct g2 sg)) (As := []) (rest := [.int r]) (ci := 7) ⟨hx, hb, hml, hown, htsL⟩ (c_X7_ask l N kd G ct a2 g2 sg _ hf2) (cwV 0 htsL gL_law_X7_ask rfl rfl rfl (by decide +kernel) ⟨Nat.le_of_ble_eq_true rfl, Nat.le_of_ble_eq_true rfl⟩) hK hE hA hW (wX6 a1 ct g1) [] (by rw [List.append_nil]) (by rw [List.append_nil]) 0 rfl rfl rfl rfl hl.1 rfl (lv_room (Nat.le_of_ble_eq_true rfl)) dL_law_861 (fun H locs hW => ?_)
  refine lv_icmp_eq (tgt := 997) hx hb dL_law_864 (by decide) (fun hc => ?_) (fun hc => absurd rfl hc)
  exact K _ _ _ hR2 H locs ls hW hl
set_option maxHeartbeats 4000000 in
set_option maxRecDepth 100000 in
theorem law_write {p : Program} {l : Launch} {e : Env} {s : State} {m : MethodId} {below : List Frame} {meth : Method} {c : Code} {b L : Nat} {xs : Nat → Int32} {kd : (Nat → Nat) × (Nat → Nat)} {G : va_G} {ct : Nat → ClassId} {N : Nat} {Rel : St_ → St_ → Prop} (C0 : lw_At p s m meth c b L xs) (hE : En kd (fun q : Nat => s.heap.size ≤ q) s s.heap) (hK : va_K G cls_ (tys_ ct) s) (hp : PA_write N Rel) (x3 : Int32) (hi0 : vp_in x3 L) (hi1 : vp_in (x3 + (1 : Int32)) L) (hi2 : vp_in (x3 + (2 : Int32)) L) (hi3 : vp_in (x3 + (3 : Int32)) L) (hi4 : vp_in (x3 + (4 : Int32)) L) (a1 a2 : Nat → Nat) (g1 g2 : St_) (sg : Int64) (hR : Rel g1 g2) (H : Heap) (locs : List Loc) (ls : Array Slot) (hW : WW G (fun q : Nat => s.heap.size ≤ q) s.heap (wX6 a1 ct g1 ++ wX7 a2 ct g2 sg) H locs) (hl : lv_has ls 4 [(0, .ref b), (1, .ref (a1 0)), (2, .ref (a2 0)), (3, .int x3)])
    (K : ∀ (g1 g2 : St_) (sg : Int64), Rel g1 g2 → ∀ (H : Heap) (locs : List Loc) (ls : Array Slot), WW G (fun q : Nat => s.heap.size ≤ q) s.heap (wX6 a1 ct g1 ++ wX7 a2 ct g2 sg) H locs → lv_has ls 4 [(0, .ref b), (1, .ref (a1 0)), (2, .ref (a2 0)), (3, .int x3)] → W p l e room_1 s m #[Value.ref b] below meth c H locs 81 2133 (lw_Z below #[Value.ref b] s) (F0 m 997 ls [])) : W p l e room_1 s m #[Value.ref b] below meth c H locs 81 2133 (lw_Z below #[Value.ref b] s) (F0 m 869 ls []) := by
  obtain ⟨hx, hb, hr, hml, hown, hts, hX, hbl, hlocks, hgv⟩ := C0
  have htsL : ∀ w ∈ wsL_law, w.before #[Value.ref b] s = true := fun w h => hts w (wsL_law_in w h)
  have hA : ∀ q : Nat, s.heap.size ≤ q → (fun q : Nat => s.heap.size ≤ q) q := fun _ h => h
  have hbA : ¬ (fun q : Nat => s.heap.size ≤ q) b := Nat.not_le.mpr hbl
  refine lv_aload_n hx hb dL_law_869 rfl (lv_at hl 1 rfl) ?_
  refine lv_aload_n hx hb dL_law_870 rfl (lv_at hl 0 rfl) ?_
  refine lv_iload_n hx hb dL_law_871 rfl (lv_at hl 3 rfl) ?_
  refine lv_iconst (v := (1 : Int32)) hx hb dL_law_872 (by decide) ?_
  refine lv_iadd hx hb dL_law_873 ?_
  refine va_sld hx hb hX hbl hbA hW.2.2 hi1 dL_law_874 ?_
  refine lv_aload_n hx hb dL_law_875 rfl (lv_at hl 0 rfl) ?_
  refine lv_iload_n hx hb dL_law_876 rfl (lv_at hl 3 rfl) ?_
  refine lv_iconst (v := (2 : Int32)) hx hb dL_law_877 (by decide) ?_
  refine lv_iadd hx hb dL_law_878 ?_
  refine va_sld hx hb hX hbl hbA hW.2.2 hi2 dL_law_879 ?_
  obtain ⟨r, h1, h2, hf1, hf2, hR2⟩ := hp g1 g2 hR (xs (x3 + (1 : Int32)).toNatClampNeg) (xs (x3 + (2 : Int32)).toNatClampNeg)
  refine x_callV_i (w' := (wX6 a1 ct h1 ++ wX7 a2 ct g2 sg)) (As := [.int (xs (x3 + (1 : Int32)).toNatClampNeg), .int (xs (x3 + (2 : Int32)).toNatClampNeg)]) (rest := []) (ci := 6) ⟨hx, hb, hml, hown, htsL⟩ (c_X6_write l N kd G ct a1 g1 (xs (x3 + (1 : Int32)).toNatClampNeg) (xs (x3 + (2 : Int32)).toNatClampNeg) _ hf1) (cwV 2 htsL gL_law_X6_write rfl rfl rfl (by decide +kernel) ⟨Nat.le_of_ble_eq_true rfl, Nat.le_of_ble_eq_true rfl⟩) hK hE hA hW [] (wX7 a2 ct g2 sg) rfl rfl 0 rfl rfl rfl rfl hl.1 rfl (lv_room (Nat.le_of_ble_eq_true rfl)) dL_law_880 (fun H locs hW => ?_)
  refine lv_aload_n hx hb dL_law_883 rfl (lv_at hl 2 rfl) ?_
  refine lv_aload_n hx hb dL_law_884 rfl (lv_at hl 0 rfl) ?_
  refine lv_iload_n hx hb dL_law_885 rfl (lv_at hl 3 rfl) ?_
  refine lv_iconst (v := (1 : Int32)) hx hb dL_law_886 (by decide) ?_
  refine lv_iadd hx hb dL_law_887 ?_
  refine va_sld hx hb hX hbl hbA hW.2.2 hi1 dL_law_888 ?_
  refine lv_aload_n hx hb dL_law_889 rfl (lv_at hl 0 rfl) ?_
  refine lv_iload_n hx hb dL_law_890 rfl (lv_at hl 3 rfl) ?_
  refine lv_iconst (v := (2 : Int32)) hx hb dL_law_891 (by decide) ?_
  refine lv_iadd hx hb dL_law_892 ?_
  refine va_sld hx hb hX hbl hbA hW.2.2 hi2 dL_law_893 ?_
  refine x_callV_i (w' := (wX6 a1 ct h1 ++ wX7 a2 ct h2 sg)) (As := [.int (xs (x3 + (1 : Int32)).toNatClampNeg), .int (xs (x3 + (2 : Int32)).toNatClampNeg)]) (rest := [.int r]) (ci := 7) ⟨hx, hb, hml, hown, htsL⟩ (c_X7_write l N kd G ct a2 g2 sg (xs (x3 + (1 : Int32)).toNatClampNeg) (xs (x3 + (2 : Int32)).toNatClampNeg) _ hf2) (cwV 2 htsL gL_law_X7_write rfl rfl rfl (by decide +kernel) ⟨Nat.le_of_ble_eq_true rfl, Nat.le_of_ble_eq_true rfl⟩) hK hE hA hW (wX6 a1 ct h1) [] (by rw [List.append_nil]) (by rw [List.append_nil]) 0 rfl rfl rfl rfl hl.1 rfl (lv_room (Nat.le_of_ble_eq_true rfl)) dL_law_894 (fun H locs hW => ?_)
  refine lv_icmp_eq (tgt := 997) hx hb dL_law_897 (by decide) (fun hc => ?_) (fun hc => absurd rfl hc)
  exact K _ _ _ hR2 H locs ls hW hl
set_option maxHeartbeats 4000000 in
set_option maxRecDepth 100000 in
theorem law_tear {p : Program} {l : Launch} {e : Env} {s : State} {m : MethodId} {below : List Frame} {meth : Method} {c : Code} {b L : Nat} {xs : Nat → Int32} {kd : (Nat → Nat) × (Nat → Nat)} {G : va_G} {ct : Nat → ClassId} {N : Nat} {Rel : St_ → St_ → Prop} (C0 : lw_At p s m meth c b L xs) (hE : En kd (fun q : Nat => s.heap.size ≤ q) s s.heap) (hK : va_K G cls_ (tys_ ct) s) (hp : PA_tear N Rel) (x3 : Int32) (hi0 : vp_in x3 L) (hi1 : vp_in (x3 + (1 : Int32)) L) (hi2 : vp_in (x3 + (2 : Int32)) L) (hi3 : vp_in (x3 + (3 : Int32)) L) (hi4 : vp_in (x3 + (4 : Int32)) L) (a1 a2 : Nat → Nat) (g1 g2 : St_) (sg : Int64) (hR : Rel g1 g2) (H : Heap) (locs : List Loc) (ls : Array Slot) (hW : WW G (fun q : Nat => s.heap.size ≤ q) s.heap (wX6 a1 ct g1 ++ wX7 a2 ct g2 sg) H locs) (hl : lv_has ls 4 [(0, .ref b), (1, .ref (a1 0)), (2, .ref (a2 0)), (3, .int x3)])
    (K : ∀ (g1 g2 : St_) (sg : Int64), Rel g1 g2 → ∀ (H : Heap) (locs : List Loc) (ls : Array Slot), WW G (fun q : Nat => s.heap.size ≤ q) s.heap (wX6 a1 ct g1 ++ wX7 a2 ct g2 sg) H locs → lv_has ls 4 [(0, .ref b), (1, .ref (a1 0)), (2, .ref (a2 0)), (3, .int x3)] → W p l e room_1 s m #[Value.ref b] below meth c H locs 81 2133 (lw_Z below #[Value.ref b] s) (F0 m 997 ls [])) : W p l e room_1 s m #[Value.ref b] below meth c H locs 81 2133 (lw_Z below #[Value.ref b] s) (F0 m 902 ls []) := by
  obtain ⟨hx, hb, hr, hml, hown, hts, hX, hbl, hlocks, hgv⟩ := C0
  have htsL : ∀ w ∈ wsL_law, w.before #[Value.ref b] s = true := fun w h => hts w (wsL_law_in w h)
  have hA : ∀ q : Nat, s.heap.size ≤ q → (fun q : Nat => s.heap.size ≤ q) q := fun _ h => h
  have hbA : ¬ (fun q : Nat => s.heap.size ≤ q) b := Nat.not_le.mpr hbl
  refine lv_aload_n hx hb dL_law_902 rfl (lv_at hl 1 rfl) ?_
  obtain ⟨r, h1, h2, hf1, hf2, hR2⟩ := hp g1 g2 hR
  refine x_callV_i (w' := (wX6 a1 ct h1 ++ wX7 a2 ct g2 sg)) (As := []) (rest := []) (ci := 6) ⟨hx, hb, hml, hown, htsL⟩ (c_X6_tear l N kd G ct a1 g1 _ hf1) (cwV 0 htsL gL_law_X6_tear rfl rfl rfl (by decide +kernel) ⟨Nat.le_of_ble_eq_true rfl, Nat.le_of_ble_eq_true rfl⟩) hK hE hA hW [] (wX7 a2 ct g2 sg) rfl rfl 0 rfl rfl rfl rfl hl.1 rfl (lv_room (Nat.le_of_ble_eq_true rfl)) dL_law_903 (fun H locs hW => ?_)
  refine lv_aload_n hx hb dL_law_906 rfl (lv_at hl 2 rfl) ?_
  refine x_callV_i (w' := (wX6 a1 ct h1 ++ wX7 a2 ct h2 sg)) (As := []) (rest := [.int r]) (ci := 7) ⟨hx, hb, hml, hown, htsL⟩ (c_X7_tear l N kd G ct a2 g2 sg _ hf2) (cwV 0 htsL gL_law_X7_tear rfl rfl rfl (by decide +kernel) ⟨Nat.le_of_ble_eq_true rfl, Nat.le_of_ble_eq_true rfl⟩) hK hE hA hW (wX6 a1 ct h1) [] (by rw [List.append_nil]) (by rw [List.append_nil]) 0 rfl rfl rfl rfl hl.1 rfl (lv_room (Nat.le_of_ble_eq_true rfl)) dL_law_907 (fun H locs hW => ?_)
  refine lv_icmp_eq (tgt := 997) hx hb dL_law_910 (by decide) (fun hc => ?_) (fun hc => absurd rfl hc)
  exact K _ _ _ hR2 H locs ls hW hl
set_option maxHeartbeats 4000000 in
set_option maxRecDepth 100000 in
theorem law_judge {p : Program} {l : Launch} {e : Env} {s : State} {m : MethodId} {below : List Frame} {meth : Method} {c : Code} {b L : Nat} {xs : Nat → Int32} {kd : (Nat → Nat) × (Nat → Nat)} {G : va_G} {ct : Nat → ClassId} {N : Nat} {Rel : St_ → St_ → Prop} (C0 : lw_At p s m meth c b L xs) (hE : En kd (fun q : Nat => s.heap.size ≤ q) s s.heap) (hK : va_K G cls_ (tys_ ct) s) (hp : PA_judge N Rel) (x3 : Int32) (hi0 : vp_in x3 L) (hi1 : vp_in (x3 + (1 : Int32)) L) (hi2 : vp_in (x3 + (2 : Int32)) L) (hi3 : vp_in (x3 + (3 : Int32)) L) (hi4 : vp_in (x3 + (4 : Int32)) L) (a1 a2 : Nat → Nat) (g1 g2 : St_) (sg : Int64) (hR : Rel g1 g2) (H : Heap) (locs : List Loc) (ls : Array Slot) (hW : WW G (fun q : Nat => s.heap.size ≤ q) s.heap (wX6 a1 ct g1 ++ wX7 a2 ct g2 sg) H locs) (hl : lv_has ls 4 [(0, .ref b), (1, .ref (a1 0)), (2, .ref (a2 0)), (3, .int x3)])
    (K : ∀ (g1 g2 : St_) (sg : Int64), Rel g1 g2 → ∀ (H : Heap) (locs : List Loc) (ls : Array Slot), WW G (fun q : Nat => s.heap.size ≤ q) s.heap (wX6 a1 ct g1 ++ wX7 a2 ct g2 sg) H locs → lv_has ls 4 [(0, .ref b), (1, .ref (a1 0)), (2, .ref (a2 0)), (3, .int x3)] → W p l e room_1 s m #[Value.ref b] below meth c H locs 81 2133 (lw_Z below #[Value.ref b] s) (F0 m 997 ls [])) : W p l e room_1 s m #[Value.ref b] below meth c H locs 81 2133 (lw_Z below #[Value.ref b] s) (F0 m 915 ls []) := by
  obtain ⟨hx, hb, hr, hml, hown, hts, hX, hbl, hlocks, hgv⟩ := C0
  have htsL : ∀ w ∈ wsL_law, w.before #[Value.ref b] s = true := fun w h => hts w (wsL_law_in w h)
  have hA : ∀ q : Nat, s.heap.size ≤ q → (fun q : Nat => s.heap.size ≤ q) q := fun _ h => h
  have hbA : ¬ (fun q : Nat => s.heap.size ≤ q) b := Nat.not_le.mpr hbl
  refine lv_aload_n hx hb dL_law_915 rfl (lv_at hl 1 rfl) ?_
  obtain ⟨r, h1, h2, hf1, hf2, hR2⟩ := hp g1 g2 hR
  refine x_callV_i (w' := (wX6 a1 ct h1 ++ wX7 a2 ct g2 sg)) (As := []) (rest := []) (ci := 6) ⟨hx, hb, hml, hown, htsL⟩ (c_X6_judge l N kd G ct a1 g1 _ hf1) (cwV 0 htsL gL_law_X6_judge rfl rfl rfl (by decide +kernel) ⟨Nat.le_of_ble_eq_true rfl, Nat.le_of_ble_eq_true rfl⟩) hK hE hA hW [] (wX7 a2 ct g2 sg) rfl rfl 0 rfl rfl rfl rfl hl.1 rfl (lv_room (Nat.le_of_ble_eq_true rfl)) dL_law_916 (fun H locs hW => ?_)
  refine lv_aload_n hx hb dL_law_919 rfl (lv_at hl 2 rfl) ?_
  refine x_callV_i (w' := (wX6 a1 ct h1 ++ wX7 a2 ct h2 sg)) (As := []) (rest := [.int r]) (ci := 7) ⟨hx, hb, hml, hown, htsL⟩ (c_X7_judge l N kd G ct a2 g2 sg _ hf2) (cwV 0 htsL gL_law_X7_judge rfl rfl rfl (by decide +kernel) ⟨Nat.le_of_ble_eq_true rfl, Nat.le_of_ble_eq_true rfl⟩) hK hE hA hW (wX6 a1 ct h1) [] (by rw [List.append_nil]) (by rw [List.append_nil]) 0 rfl rfl rfl rfl hl.1 rfl (lv_room (Nat.le_of_ble_eq_true rfl)) dL_law_920 (fun H locs hW => ?_)
  refine lv_icmp_eq (tgt := 997) hx hb dL_law_923 (by decide) (fun hc => ?_) (fun hc => absurd rfl hc)
  exact K _ _ _ hR2 H locs ls hW hl
set_option maxHeartbeats 4000000 in
set_option maxRecDepth 100000 in
theorem law_seed {p : Program} {l : Launch} {e : Env} {s : State} {m : MethodId} {below : List Frame} {meth : Method} {c : Code} {b L : Nat} {xs : Nat → Int32} {kd : (Nat → Nat) × (Nat → Nat)} {G : va_G} {ct : Nat → ClassId} {N : Nat} {Rel : St_ → St_ → Prop} (C0 : lw_At p s m meth c b L xs) (hE : En kd (fun q : Nat => s.heap.size ≤ q) s s.heap) (hK : va_K G cls_ (tys_ ct) s) (hp : PA_seed N Rel) (x3 : Int32) (hi0 : vp_in x3 L) (hi1 : vp_in (x3 + (1 : Int32)) L) (hi2 : vp_in (x3 + (2 : Int32)) L) (hi3 : vp_in (x3 + (3 : Int32)) L) (hi4 : vp_in (x3 + (4 : Int32)) L) (a1 a2 : Nat → Nat) (g1 g2 : St_) (sg : Int64) (hR : Rel g1 g2) (H : Heap) (locs : List Loc) (ls : Array Slot) (hW : WW G (fun q : Nat => s.heap.size ≤ q) s.heap (wX6 a1 ct g1 ++ wX7 a2 ct g2 sg) H locs) (hl : lv_has ls 4 [(0, .ref b), (1, .ref (a1 0)), (2, .ref (a2 0)), (3, .int x3)])
    (K : ∀ (g1 g2 : St_) (sg : Int64), Rel g1 g2 → ∀ (H : Heap) (locs : List Loc) (ls : Array Slot), WW G (fun q : Nat => s.heap.size ≤ q) s.heap (wX6 a1 ct g1 ++ wX7 a2 ct g2 sg) H locs → lv_has ls 4 [(0, .ref b), (1, .ref (a1 0)), (2, .ref (a2 0)), (3, .int x3)] → W p l e room_1 s m #[Value.ref b] below meth c H locs 81 2133 (lw_Z below #[Value.ref b] s) (F0 m 997 ls [])) : W p l e room_1 s m #[Value.ref b] below meth c H locs 81 2133 (lw_Z below #[Value.ref b] s) (F0 m 928 ls []) := by
  obtain ⟨hx, hb, hr, hml, hown, hts, hX, hbl, hlocks, hgv⟩ := C0
  have htsL : ∀ w ∈ wsL_law, w.before #[Value.ref b] s = true := fun w h => hts w (wsL_law_in w h)
  have hA : ∀ q : Nat, s.heap.size ≤ q → (fun q : Nat => s.heap.size ≤ q) q := fun _ h => h
  have hbA : ¬ (fun q : Nat => s.heap.size ≤ q) b := Nat.not_le.mpr hbl
  refine lv_aload_n hx hb dL_law_928 rfl (lv_at hl 1 rfl) ?_
  refine lv_aload_n hx hb dL_law_929 rfl (lv_at hl 0 rfl) ?_
  refine lv_iload_n hx hb dL_law_930 rfl (lv_at hl 3 rfl) ?_
  refine lv_iconst (v := (1 : Int32)) hx hb dL_law_931 (by decide) ?_
  refine lv_iadd hx hb dL_law_932 ?_
  refine va_sld hx hb hX hbl hbA hW.2.2 hi1 dL_law_933 ?_
  obtain ⟨r, h1, h2, hf1, hf2, hR2⟩ := hp g1 g2 hR (xs (x3 + (1 : Int32)).toNatClampNeg)
  refine x_callV_i (w' := (wX6 a1 ct h1 ++ wX7 a2 ct g2 sg)) (As := [.int (xs (x3 + (1 : Int32)).toNatClampNeg)]) (rest := []) (ci := 6) ⟨hx, hb, hml, hown, htsL⟩ (c_X6_seed l N kd G ct a1 g1 (xs (x3 + (1 : Int32)).toNatClampNeg) _ hf1) (cwV 1 htsL gL_law_X6_seed rfl rfl rfl (by decide +kernel) ⟨Nat.le_of_ble_eq_true rfl, Nat.le_of_ble_eq_true rfl⟩) hK hE hA hW [] (wX7 a2 ct g2 sg) rfl rfl 0 rfl rfl rfl rfl hl.1 rfl (lv_room (Nat.le_of_ble_eq_true rfl)) dL_law_934 (fun H locs hW => ?_)
  refine lv_aload_n hx hb dL_law_937 rfl (lv_at hl 2 rfl) ?_
  refine lv_aload_n hx hb dL_law_938 rfl (lv_at hl 0 rfl) ?_
  refine lv_iload_n hx hb dL_law_939 rfl (lv_at hl 3 rfl) ?_
  refine lv_iconst (v := (1 : Int32)) hx hb dL_law_940 (by decide) ?_
  refine lv_iadd hx hb dL_law_941 ?_
  refine va_sld hx hb hX hbl hbA hW.2.2 hi1 dL_law_942 ?_
  refine x_callV_i (w' := (wX6 a1 ct h1 ++ wX7 a2 ct h2 sg)) (As := [.int (xs (x3 + (1 : Int32)).toNatClampNeg)]) (rest := [.int r]) (ci := 7) ⟨hx, hb, hml, hown, htsL⟩ (c_X7_seed l N kd G ct a2 g2 sg (xs (x3 + (1 : Int32)).toNatClampNeg) _ hf2) (cwV 1 htsL gL_law_X7_seed rfl rfl rfl (by decide +kernel) ⟨Nat.le_of_ble_eq_true rfl, Nat.le_of_ble_eq_true rfl⟩) hK hE hA hW (wX6 a1 ct h1) [] (by rw [List.append_nil]) (by rw [List.append_nil]) 0 rfl rfl rfl rfl hl.1 rfl (lv_room (Nat.le_of_ble_eq_true rfl)) dL_law_943 (fun H locs hW => ?_)
  refine lv_icmp_eq (tgt := 997) hx hb dL_law_946 (by decide) (fun hc => ?_) (fun hc => absurd rfl hc)
  exact K _ _ _ hR2 H locs ls hW hl
set_option maxHeartbeats 4000000 in
set_option maxRecDepth 100000 in
theorem law_keep {p : Program} {l : Launch} {e : Env} {s : State} {m : MethodId} {below : List Frame} {meth : Method} {c : Code} {b L : Nat} {xs : Nat → Int32} {kd : (Nat → Nat) × (Nat → Nat)} {G : va_G} {ct : Nat → ClassId} {N : Nat} {Rel : St_ → St_ → Prop} (C0 : lw_At p s m meth c b L xs) (hE : En kd (fun q : Nat => s.heap.size ≤ q) s s.heap) (hK : va_K G cls_ (tys_ ct) s) (hp : PA_keep N Rel) (x3 : Int32) (hi0 : vp_in x3 L) (hi1 : vp_in (x3 + (1 : Int32)) L) (hi2 : vp_in (x3 + (2 : Int32)) L) (hi3 : vp_in (x3 + (3 : Int32)) L) (hi4 : vp_in (x3 + (4 : Int32)) L) (a1 a2 : Nat → Nat) (g1 g2 : St_) (sg : Int64) (hR : Rel g1 g2) (H : Heap) (locs : List Loc) (ls : Array Slot) (hW : WW G (fun q : Nat => s.heap.size ≤ q) s.heap (wX6 a1 ct g1 ++ wX7 a2 ct g2 sg) H locs) (hl : lv_has ls 4 [(0, .ref b), (1, .ref (a1 0)), (2, .ref (a2 0)), (3, .int x3)])
    (K : ∀ (g1 g2 : St_) (sg : Int64), Rel g1 g2 → ∀ (H : Heap) (locs : List Loc) (ls : Array Slot), WW G (fun q : Nat => s.heap.size ≤ q) s.heap (wX6 a1 ct g1 ++ wX7 a2 ct g2 sg) H locs → lv_has ls 4 [(0, .ref b), (1, .ref (a1 0)), (2, .ref (a2 0)), (3, .int x3)] → W p l e room_1 s m #[Value.ref b] below meth c H locs 81 2133 (lw_Z below #[Value.ref b] s) (F0 m 997 ls [])) : W p l e room_1 s m #[Value.ref b] below meth c H locs 81 2133 (lw_Z below #[Value.ref b] s) (F0 m 951 ls []) := by
  obtain ⟨hx, hb, hr, hml, hown, hts, hX, hbl, hlocks, hgv⟩ := C0
  have htsL : ∀ w ∈ wsL_law, w.before #[Value.ref b] s = true := fun w h => hts w (wsL_law_in w h)
  have hA : ∀ q : Nat, s.heap.size ≤ q → (fun q : Nat => s.heap.size ≤ q) q := fun _ h => h
  have hbA : ¬ (fun q : Nat => s.heap.size ≤ q) b := Nat.not_le.mpr hbl
  refine lv_aload_n hx hb dL_law_951 rfl (lv_at hl 1 rfl) ?_
  refine lv_aload_n hx hb dL_law_952 rfl (lv_at hl 0 rfl) ?_
  refine lv_iload_n hx hb dL_law_953 rfl (lv_at hl 3 rfl) ?_
  refine lv_iconst (v := (1 : Int32)) hx hb dL_law_954 (by decide) ?_
  refine lv_iadd hx hb dL_law_955 ?_
  refine va_sld hx hb hX hbl hbA hW.2.2 hi1 dL_law_956 ?_
  obtain ⟨r, h1, h2, hf1, hf2, hR2⟩ := hp g1 g2 hR (xs (x3 + (1 : Int32)).toNatClampNeg)
  refine x_callV_i (w' := (wX6 a1 ct h1 ++ wX7 a2 ct g2 sg)) (As := [.int (xs (x3 + (1 : Int32)).toNatClampNeg)]) (rest := []) (ci := 6) ⟨hx, hb, hml, hown, htsL⟩ (c_X6_keep l N kd G ct a1 g1 (xs (x3 + (1 : Int32)).toNatClampNeg) _ hf1) (cwV 1 htsL gL_law_X6_keep rfl rfl rfl (by decide +kernel) ⟨Nat.le_of_ble_eq_true rfl, Nat.le_of_ble_eq_true rfl⟩) hK hE hA hW [] (wX7 a2 ct g2 sg) rfl rfl 0 rfl rfl rfl rfl hl.1 rfl (lv_room (Nat.le_of_ble_eq_true rfl)) dL_law_957 (fun H locs hW => ?_)
  refine lv_aload_n hx hb dL_law_960 rfl (lv_at hl 2 rfl) ?_
  refine lv_aload_n hx hb dL_law_961 rfl (lv_at hl 0 rfl) ?_
  refine lv_iload_n hx hb dL_law_962 rfl (lv_at hl 3 rfl) ?_
  refine lv_iconst (v := (1 : Int32)) hx hb dL_law_963 (by decide) ?_
  refine lv_iadd hx hb dL_law_964 ?_
  refine va_sld hx hb hX hbl hbA hW.2.2 hi1 dL_law_965 ?_
  refine x_callV_i (w' := (wX6 a1 ct h1 ++ wX7 a2 ct h2 sg)) (As := [.int (xs (x3 + (1 : Int32)).toNatClampNeg)]) (rest := [.int r]) (ci := 7) ⟨hx, hb, hml, hown, htsL⟩ (c_X7_keep l N kd G ct a2 g2 sg (xs (x3 + (1 : Int32)).toNatClampNeg) _ hf2) (cwV 1 htsL gL_law_X7_keep rfl rfl rfl (by decide +kernel) ⟨Nat.le_of_ble_eq_true rfl, Nat.le_of_ble_eq_true rfl⟩) hK hE hA hW (wX6 a1 ct h1) [] (by rw [List.append_nil]) (by rw [List.append_nil]) 0 rfl rfl rfl rfl hl.1 rfl (lv_room (Nat.le_of_ble_eq_true rfl)) dL_law_966 (fun H locs hW => ?_)
  refine lv_icmp_eq (tgt := 997) hx hb dL_law_969 (by decide) (fun hc => ?_) (fun hc => absurd rfl hc)
  exact K _ _ _ hR2 H locs ls hW hl
set_option maxHeartbeats 4000000 in
set_option maxRecDepth 100000 in
theorem law_goBack {p : Program} {l : Launch} {e : Env} {s : State} {m : MethodId} {below : List Frame} {meth : Method} {c : Code} {b L : Nat} {xs : Nat → Int32} {kd : (Nat → Nat) × (Nat → Nat)} {G : va_G} {ct : Nat → ClassId} {N : Nat} {Rel : St_ → St_ → Prop} (C0 : lw_At p s m meth c b L xs) (hE : En kd (fun q : Nat => s.heap.size ≤ q) s s.heap) (hK : va_K G cls_ (tys_ ct) s) (hp : PA_goBack N Rel) (x3 : Int32) (hi0 : vp_in x3 L) (hi1 : vp_in (x3 + (1 : Int32)) L) (hi2 : vp_in (x3 + (2 : Int32)) L) (hi3 : vp_in (x3 + (3 : Int32)) L) (hi4 : vp_in (x3 + (4 : Int32)) L) (a1 a2 : Nat → Nat) (g1 g2 : St_) (sg : Int64) (hR : Rel g1 g2) (H : Heap) (locs : List Loc) (ls : Array Slot) (hW : WW G (fun q : Nat => s.heap.size ≤ q) s.heap (wX6 a1 ct g1 ++ wX7 a2 ct g2 sg) H locs) (hl : lv_has ls 4 [(0, .ref b), (1, .ref (a1 0)), (2, .ref (a2 0)), (3, .int x3)])
    (K : ∀ (g1 g2 : St_) (sg : Int64), Rel g1 g2 → ∀ (H : Heap) (locs : List Loc) (ls : Array Slot), WW G (fun q : Nat => s.heap.size ≤ q) s.heap (wX6 a1 ct g1 ++ wX7 a2 ct g2 sg) H locs → lv_has ls 4 [(0, .ref b), (1, .ref (a1 0)), (2, .ref (a2 0)), (3, .int x3)] → W p l e room_1 s m #[Value.ref b] below meth c H locs 81 2133 (lw_Z below #[Value.ref b] s) (F0 m 997 ls [])) : W p l e room_1 s m #[Value.ref b] below meth c H locs 81 2133 (lw_Z below #[Value.ref b] s) (F0 m 974 ls []) := by
  obtain ⟨hx, hb, hr, hml, hown, hts, hX, hbl, hlocks, hgv⟩ := C0
  have htsL : ∀ w ∈ wsL_law, w.before #[Value.ref b] s = true := fun w h => hts w (wsL_law_in w h)
  have hA : ∀ q : Nat, s.heap.size ≤ q → (fun q : Nat => s.heap.size ≤ q) q := fun _ h => h
  have hbA : ¬ (fun q : Nat => s.heap.size ≤ q) b := Nat.not_le.mpr hbl
  refine lv_aload_n hx hb dL_law_974 rfl (lv_at hl 1 rfl) ?_
  refine lv_aload_n hx hb dL_law_975 rfl (lv_at hl 0 rfl) ?_
  refine lv_iload_n hx hb dL_law_976 rfl (lv_at hl 3 rfl) ?_
  refine lv_iconst (v := (1 : Int32)) hx hb dL_law_977 (by decide) ?_
  refine lv_iadd hx hb dL_law_978 ?_
  refine va_sld hx hb hX hbl hbA hW.2.2 hi1 dL_law_979 ?_
  obtain ⟨r, h1, h2, hf1, hf2, hR2⟩ := hp g1 g2 hR (xs (x3 + (1 : Int32)).toNatClampNeg)
  refine x_callV_i (w' := (wX6 a1 ct h1 ++ wX7 a2 ct g2 sg)) (As := [.int (xs (x3 + (1 : Int32)).toNatClampNeg)]) (rest := []) (ci := 6) ⟨hx, hb, hml, hown, htsL⟩ (c_X6_goBack l N kd G ct a1 g1 (xs (x3 + (1 : Int32)).toNatClampNeg) _ hf1) (cwV 1 htsL gL_law_X6_goBack rfl rfl rfl (by decide +kernel) ⟨Nat.le_of_ble_eq_true rfl, Nat.le_of_ble_eq_true rfl⟩) hK hE hA hW [] (wX7 a2 ct g2 sg) rfl rfl 0 rfl rfl rfl rfl hl.1 rfl (lv_room (Nat.le_of_ble_eq_true rfl)) dL_law_980 (fun H locs hW => ?_)
  refine lv_aload_n hx hb dL_law_983 rfl (lv_at hl 2 rfl) ?_
  refine lv_aload_n hx hb dL_law_984 rfl (lv_at hl 0 rfl) ?_
  refine lv_iload_n hx hb dL_law_985 rfl (lv_at hl 3 rfl) ?_
  refine lv_iconst (v := (1 : Int32)) hx hb dL_law_986 (by decide) ?_
  refine lv_iadd hx hb dL_law_987 ?_
  refine va_sld hx hb hX hbl hbA hW.2.2 hi1 dL_law_988 ?_
  refine x_callV_i (w' := (wX6 a1 ct h1 ++ wX7 a2 ct h2 sg)) (As := [.int (xs (x3 + (1 : Int32)).toNatClampNeg)]) (rest := [.int r]) (ci := 7) ⟨hx, hb, hml, hown, htsL⟩ (c_X7_goBack l N kd G ct a2 g2 sg (xs (x3 + (1 : Int32)).toNatClampNeg) _ hf2) (cwV 1 htsL gL_law_X7_goBack rfl rfl rfl (by decide +kernel) ⟨Nat.le_of_ble_eq_true rfl, Nat.le_of_ble_eq_true rfl⟩) hK hE hA hW (wX6 a1 ct h1) [] (by rw [List.append_nil]) (by rw [List.append_nil]) 0 rfl rfl rfl rfl hl.1 rfl (lv_room (Nat.le_of_ble_eq_true rfl)) dL_law_989 (fun H locs hW => ?_)
  refine lv_icmp_eq (tgt := 997) hx hb dL_law_992 (by decide) (fun hc => ?_) (fun hc => absurd rfl hc)
  exact K _ _ _ hR2 H locs ls hW hl
