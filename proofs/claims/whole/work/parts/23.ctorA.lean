def Z_ : St_ := fun _ _ => 0
def CtN (l : Launch) (y : MethodName) (ws : List Cond) (rm : Room) (kd : (Nat → Nat) × (Nat → Nat)) (G : va_G) (ct : Nat → ClassId) (h0 : Nat) (w0 : va_W) (W1 : (Nat → Nat) → va_W) (mc ms : Nat) : Prop :=
  ∀ sz : Nat, Met l y ws rm (fun v U => Pre_ kd G ct [.ref h0] w0 sz v U ∧ va_AO "FittingStrides$State" U) (va_Qv (fun (a : Nat → Nat) => a 0 = h0) (fun a t => Af_ G ct (W1 a) (va_A w0 sz) t) (va_A w0 sz)) mc ms (va_A w0 sz)
theorem PreN.blind (kd : (Nat → Nat) × (Nat → Nat)) (G : va_G) (ct : Nat → ClassId) (av : List Value) (w0 : va_W) (sz : Nat) : FrameBlind (fun v U => Pre_ kd G ct av w0 sz v U ∧ va_AO "FittingStrides$State" U) := fun a U g mk q => ⟨Pre_.blind kd G ct av w0 sz a U g mk q.1, va_AO.moved (u := U) (U := U.calling g mk a) (Vm.Alike.refl U.vm) q.2⟩
section XN
variable {p : Program} {l : Launch} {e : Env} {R : Room} {s : State} {m : MethodId} {args : Array Value} {below : List Frame} {meth : Method} {c : Code} {H : Heap} {locs : List Loc} {cells slots : Nat} {Q : State → Prop}
variable {cc : ByteArray} {pc : Nat} {ls : Array Slot} {rest st0 As : List Value} {G : va_G} {A : Nat → Prop} {b a : Nat} {ct : Nat → ClassId} {w w' w0 : va_W} {kd : (Nat → Nat) × (Nat → Nat)}
variable {y : MethodName} {bytes : ByteArray} {maxL nL n index ci mc ms : Nat} {ws Ts : List Cond} {rm : Room} {own C host : String}
theorem x_newi (hexec : p.tables.exec = Jvm.exec) (hb : c.code = cc) (harr : (Cond.arrayClass .int).before args s = true) (hK : va_K G cls_ (tys_ ct) s) (hW : WW G A s.heap w H locs) (hA : ∀ q, s.heap.size ≤ q → A q) {v : Int32} {N' : Nat} (hn : ¬ v < 0) (hN : v.toNatClampNeg = N') (hbytes : N' * componentBytes .int ≤ 536870912) (hcells : cells + 1 ≤ R.cells) (hslots : slots + N' ≤ R.slots) (hdg : decode cc pc = .ok (.newarray .int, 2))
    (kk : ∀ (q : Nat) (H1 : Heap), WW G A s.heap (w ++ [(q, .inl (ct 0, N', .inl (fun _ => 0)))]) H1 locs → W p l e R s m args below meth c H1 locs (cells + 1) (slots + N') Q (F0 m (pc + 2) ls (.ref q :: rest))) : W p l e R s m args below meth c H locs cells slots Q (F0 m pc ls (.int v :: rest)) := by
  refine va_newa (atype := .int) (a0 := (N', .inl (fun _ => 0))) (ty := .int) hexec hb harr rfl hK hW.1 hW.2.1 hW.2.2 hA (fun _ => rfl) hn hN hbytes hcells hslots hdg (fun q cA H1 h1 h2 h3 h4 => ?_)
  have e1 : s.vm.findClass ("[" ++ FieldType.int.toString) = some cA := (h1.2 4 _ rfl).2
  have e2 : s.vm.findClass ("[" ++ FieldType.int.toString) = some (ct 0) := (hK.2 0 _ rfl).2
  have e3 : cA = ct 0 := Option.some.inj (e1.symm.trans e2)
  subst e3
  exact kk q H1 ⟨h2, h3, h4⟩
theorem x_newb (hexec : p.tables.exec = Jvm.exec) (hb : c.code = cc) (harr : (Cond.arrayClass .byte).before args s = true) (hK : va_K G cls_ (tys_ ct) s) (hW : WW G A s.heap w H locs) (hA : ∀ q, s.heap.size ≤ q → A q) {v : Int32} {N' : Nat} (hn : ¬ v < 0) (hN : v.toNatClampNeg = N') (hbytes : N' * componentBytes .byte ≤ 536870912) (hcells : cells + 1 ≤ R.cells) (hslots : slots + N' ≤ R.slots) (hdg : decode cc pc = .ok (.newarray .byte, 2))
    (kk : ∀ (q : Nat) (H1 : Heap), WW G A s.heap (w ++ [(q, .inl (ct 1, N', .inl (fun _ => 0)))]) H1 locs → W p l e R s m args below meth c H1 locs (cells + 1) (slots + N') Q (F0 m (pc + 2) ls (.ref q :: rest))) : W p l e R s m args below meth c H locs cells slots Q (F0 m pc ls (.int v :: rest)) := by
  refine va_newa (atype := .byte) (a0 := (N', .inl (fun _ => 0))) (ty := .byte) hexec hb harr rfl hK hW.1 hW.2.1 hW.2.2 hA (fun _ => rfl) hn hN hbytes hcells hslots hdg (fun q cA H1 h1 h2 h3 h4 => ?_)
  have e1 : s.vm.findClass ("[" ++ FieldType.byte.toString) = some cA := (h1.2 4 _ rfl).2
  have e2 : s.vm.findClass ("[" ++ FieldType.byte.toString) = some (ct 1) := (hK.2 1 _ rfl).2
  have e3 : cA = ct 1 := Option.some.inj (e1.symm.trans e2)
  subst e3
  exact kk q H1 ⟨h2, h3, h4⟩
theorem x_newz (hexec : p.tables.exec = Jvm.exec) (hb : c.code = cc) (harr : (Cond.arrayClass .boolean).before args s = true) (hK : va_K G cls_ (tys_ ct) s) (hW : WW G A s.heap w H locs) (hA : ∀ q, s.heap.size ≤ q → A q) {v : Int32} {N' : Nat} (hn : ¬ v < 0) (hN : v.toNatClampNeg = N') (hbytes : N' * componentBytes .boolean ≤ 536870912) (hcells : cells + 1 ≤ R.cells) (hslots : slots + N' ≤ R.slots) (hdg : decode cc pc = .ok (.newarray .boolean, 2))
    (kk : ∀ (q : Nat) (H1 : Heap), WW G A s.heap (w ++ [(q, .inl (ct 2, N', .inl (fun _ => 0)))]) H1 locs → W p l e R s m args below meth c H1 locs (cells + 1) (slots + N') Q (F0 m (pc + 2) ls (.ref q :: rest))) : W p l e R s m args below meth c H locs cells slots Q (F0 m pc ls (.int v :: rest)) := by
  refine va_newa (atype := .boolean) (a0 := (N', .inl (fun _ => 0))) (ty := .boolean) hexec hb harr rfl hK hW.1 hW.2.1 hW.2.2 hA (fun _ => rfl) hn hN hbytes hcells hslots hdg (fun q cA H1 h1 h2 h3 h4 => ?_)
  have e1 : s.vm.findClass ("[" ++ FieldType.boolean.toString) = some cA := (h1.2 4 _ rfl).2
  have e2 : s.vm.findClass ("[" ++ FieldType.boolean.toString) = some (ct 2) := (hK.2 2 _ rfl).2
  have e3 : cA = ct 2 := Option.some.inj (e1.symm.trans e2)
  subst e3
  exact kk q H1 ⟨h2, h3, h4⟩
theorem x_newq (hexec : p.tables.exec = Jvm.exec) (hb : c.code = cc) (hown : s.vm.findClass own = some m.cls) (hcl : (Cond.classLink own index "FittingStrides$State").before args s = true) (hAO : va_AO "FittingStrides$State" s) (hK : va_K G cls_ (tys_ ct) s) (hW : WW G A s.heap w H locs) (hA : ∀ q, s.heap.size ≤ q → A q) {v : Int32} {N' : Nat} (hn : ¬ v < 0) (hN : v.toNatClampNeg = N') (hbytes : N' * 4 ≤ 536870912) (hcells : cells + 1 ≤ R.cells) (hslots : slots + N' ≤ R.slots) (hdg : decode cc pc = .ok (.anewarray index, 3))
    (kk : ∀ (q : Nat) (H1 : Heap), WW G A s.heap (w ++ [(q, .inl (ct 3, N', .inr (.inr (.inr (.inr (fun _ => none))))))]) H1 locs → W p l e R s m args below meth c H1 locs (cells + 1) (slots + N') Q (F0 m (pc + 3) ls (.ref q :: rest))) : W p l e R s m args below meth c H locs cells slots Q (F0 m pc ls (.int v :: rest)) := by
  refine va_newq hexec hb hown hcl hAO hK hW.1 hW.2.1 hW.2.2 hA hn hN hbytes hcells hslots hdg (fun q cA H1 h1 h2 h3 h4 => ?_)
  obtain ⟨kA, comp, f2, f3, f4, e1⟩ := (h1.2 4 _ rfl).2
  obtain ⟨kA', comp', g2, g3, g4, e2⟩ := (hK.2 3 _ rfl).2
  have e3 : cA = ct 3 := Option.some.inj (e1.symm.trans e2)
  subst e3
  exact kk q H1 ⟨h2, h3, h4⟩
theorem x_astq (hexec : p.tables.exec = Jvm.exec) (hb : c.code = cc) (hK : va_K G cls_ (tys_ ct) s) (hW : WW G A s.heap w H locs) (q0 qk : Nat) {n v : Nat} {vs : List Value} {f : Nat → Option Nat} (ha : w[q0]? = some (a, .inl (ct 3, n, .inr (.inr (.inr (.inr f)))))) (hv : w[qk]? = some (v, .inr (3, vs))) {i : Int32} (hin : vp_in i n) (hw : w.set q0 (a, .inl (ct 3, n, .inr (.inr (.inr (.inr (va_up f i.toNatClampNeg (some v))))))) = w') (hdg : decode cc pc = .ok (.aastore, 1))
    (kk : ∀ (H1 : Heap) (locs1 : List Loc), WW G A s.heap w' H1 locs1 → W p l e R s m args below meth c H1 locs1 cells slots Q (F0 m (pc + 1) ls rest)) : W p l e R s m args below meth c H locs cells slots Q (F0 m pc ls (.ref v :: .int i :: .ref a :: rest)) :=
  va_astq (r := (RX3, TX3, 8)) hexec hb hK hW.1 hW.2.1 hW.2.2 q0 3 qk 3 ha rfl hv rfl hin hdg (fun H1 locs1 h1 h2 h3 => kk H1 locs1 (hw ▸ ⟨h1, h2, h3⟩))
theorem x_new {T : u_T} {N : Nat} (hexec : p.tables.exec = Jvm.exec) (hb : c.code = cc) (hts : ∀ w ∈ Ts, w.before args s = true) (hin : ∀ w ∈ u_ws C T N, w ∈ Ts) (ty : Nat → FieldType) (hty : ∀ k, k < N → parseFieldDescriptor (T k).2.2.1 = some (ty k)) (hown : s.vm.findClass own = some m.cls) (hcl : (Cond.classLink own index C).before args s = true) (hinst : (Cond.instantiable C N).before args s = true) (hini : (Cond.initialized C).before args s = true) (hK : va_K G cls_ (tys_ ct) s) (hW : WW G A s.heap w H locs) (hA : ∀ q, s.heap.size ≤ q → A q) (hc : cls_[ci]? = some (C, T, N)) {fs : List Value} (hfs : ∀ j, j < N → defaultValue (ty j) = vp_V fs j) (hcells : cells + 1 ≤ R.cells) (hslots : slots + N ≤ R.slots) (hdg : decode cc pc = .ok (.new index, 3))
    (kk : ∀ (q : Nat) (H1 : Heap), WW G A s.heap (w ++ [(q, .inr (ci, fs))]) H1 locs → W p l e R s m args below meth c H1 locs (cells + 1) (slots + N) Q (F0 m (pc + 3) ls (.ref q :: rest))) : W p l e R s m args below meth c H locs cells slots Q (F0 m pc ls rest) :=
  va_new hexec hb hts hin ty hty hown hcl hinst hini hK hW.1 hW.2.1 hW.2.2 hA hc hfs hcells hslots hdg (fun q H1 h1 h2 h3 => kk q H1 ⟨h1, h2, h3⟩)
theorem x_putF (hexec : p.tables.exec = Jvm.exec) (hb : c.code = cc) {ref : String} {T : u_T} {N : Nat} (hts : ∀ w ∈ Ts, w.before args s = true) (hin : ∀ w ∈ u_ws C T N, w ∈ Ts) (ty0 : Nat → FieldType) (hty : ∀ k, k < N → parseFieldDescriptor (T k).2.2.1 = some (ty0 k)) (hnm : ∀ a, a < N → ∀ b, b < N → a ≠ b → (T a).2.1 ≠ (T b).2.1) (hown : s.vm.findClass own = some m.cls) (hK : va_K G cls_ (tys_ ct) s) (hW : WW G A s.heap w H locs) (q0 : Nat) {fs : List Value} (he : w[q0]? = some (a, .inr (ci, fs))) (hc : cls_[ci]? = some (C, T, N)) (k : Nat) (hk : k < N) (hlink : (Cond.fieldLink own index ref (T k).2.1 (T k).2.2.1).before args s = true) (hsame : ∀ x, s.fieldFound? (T k).1 (T k).2.1 (T k).2.2.1 = some x → s.fieldFound? ref (T k).2.1 (T k).2.2.1 = some x) (hfin : (T k).2.2.2 = true) (hin2 : meth.name = "<init>") (hdecl : (T k).1 = own) {ty : FieldType} {v : Value} (hd : parseFieldDescriptor (T k).2.2.1 = some ty) (hn : narrow ty v = v) (hfit : fits ty v = true) (hl : k < fs.length) (hw : w.set q0 (a, .inr (ci, fs.set k v)) = w')
    (hdg : decode cc pc = .ok (.putfield index, 3)) (kk : ∀ (H1 : Heap) (locs1 : List Loc), WW G A s.heap w' H1 locs1 → W p l e R s m args below meth c H1 locs1 cells slots Q (F0 m (pc + 3) ls rest)) : W p l e R s m args below meth c H locs cells slots Q (F0 m pc ls (v :: .ref a :: rest)) :=
  va_putF hexec hb hts hin ty0 hty hnm hown hK hW.1 hW.2.1 hW.2.2 q0 he hc k hk hlink hsame hfin hin2 hdecl hd hn hfit hl hdg (fun H1 locs1 h1 h2 h3 => kk H1 locs1 (hw ▸ ⟨h1, h2, h3⟩))
theorem WW.cast {H0 : Heap} (h : WW G A H0 w H locs) (hw : w = w') : WW G A H0 w' H locs := hw ▸ h
theorem x_retN {W1 : (Nat → Nat) → va_W} {h0 : Nat} (a1 : Nat → Nat) (hexec : p.tables.exec = Jvm.exec) (hb : c.code = cc) (hr : meth.sig.returnType = none) (hlocks : meth.locks = false) (hK : va_K G cls_ (tys_ ct) s) (hW : WW G A s.heap w H locs) (h0e : a1 0 = h0) (hw : w = W1 a1) (hdg : decode cc pc = .ok (.return_, 1)) :
    W p l e R s m args below meth c H locs cells slots (MQ below (va_Qv (fun (a : Nat → Nat) => a 0 = h0) (fun a t => Af_ G ct (W1 a) A t) A) args s cells slots A) (F0 m pc ls []) := by
  subst hw
  exact W.vret hexec hb hr (fun t ht hWd => ⟨⟨a1, rfl, h0e, by rw [ht]; exact hW.1, va_K.moved hWd.alike hK, hW.2.1⟩, hW.2.2.F ht⟩) hW.2.2.2.2 hdg hlocks
theorem x_callIN {W1 : (Nat → Nat) → va_W} (S : CallFix p m c cc nL s args Ts own) (hM : CtN l y ws rm kd G ct b w0 W1 mc ms) (cw : va_CN R s args own index y host bytes maxL none ws rm mc ms 0 ∧ y.name = "<init>" ∧ (Cond.instanceMethod y).before args s = true) (hK : va_K G cls_ (tys_ ct) s) (hE : En kd A s s.heap) (hAO : va_AO "FittingStrides$State" s) (hA : ∀ q, s.heap.size ≤ q → A q) (hW : WW G A s.heap w H locs) (wl : va_W) (hw : w = wl ++ (w0 ++ [])) (hls : ls.size = nL) (hst : st0 = .ref b :: rest) (hroom : 2 * (F0 m pc ls st0).monitorRoom + (rest.map fun v => v.category).sum ≤ 8) (hdg : decode cc pc = .ok (.invokespecial index, 3)) (hcap : cells + mc ≤ R.cells ∧ slots + ms ≤ R.slots)
    (kk : ∀ (a1 : Nat → Nat), a1 0 = b → ∀ (H1 : Heap) (locs1 : List Loc), WW G A s.heap (wl ++ (W1 a1 ++ [])) H1 locs1 → W p l e R s m args below meth c H1 locs1 (cells + mc) (slots + ms) Q (F0 m (pc + 3) ls rest)) : W p l e R s m args below meth c H locs cells slots Q (F0 m pc ls st0) := by
  have hc := hW.one hA wl [] hw
  refine va_callv (va_runIN (As := []) (rest := rest) S (hM H.size) cw ⟨PreN.blind _ _ _ _ _ _, fun U hU hWd => ⟨Pre_.at hK hE hW hc U hU hWd _, va_AO.moved hWd.alike hAO⟩⟩ rfl rfl hls hst hroom hdg hcap) hW.2.2 (fun q _ h => hc.2.2 q h) hc.2.2 (fun u t H1 locs1 ht hvm hw2 hB hz1 hk1 hS1 => ?_)
  obtain ⟨hP1, hK1, hD1⟩ := hB
  rw [ht] at hP1
  exact kk u hw2 H1 locs1 (hW.back hA wl [] hw rfl hk1 hP1 hD1 hS1)
theorem x_callI {W1 : (Nat → Nat) → va_W} (S : CallFix p m c cc nL s args Ts own) (hM : CtN l y ws rm kd G ct b w0 W1 mc ms) (cw : CallB R s args own index y bytes maxL none ws rm mc ms 0 ∧ y.name = "<init>" ∧ (Cond.instanceMethod y).before args s = true) (hK : va_K G cls_ (tys_ ct) s) (hE : En kd A s s.heap) (hAO : va_AO "FittingStrides$State" s) (hA : ∀ q, s.heap.size ≤ q → A q) (hW : WW G A s.heap w H locs) (wl : va_W) (hw : w = wl ++ (w0 ++ [])) (hls : ls.size = nL) (hst : st0 = .ref b :: rest) (hroom : 2 * (F0 m pc ls st0).monitorRoom + (rest.map fun v => v.category).sum ≤ 8) (hdg : decode cc pc = .ok (.invokespecial index, 3)) (hcap : cells + mc ≤ R.cells ∧ slots + ms ≤ R.slots)
    (kk : ∀ (a1 : Nat → Nat), a1 0 = b → ∀ (H1 : Heap) (locs1 : List Loc), WW G A s.heap (wl ++ (W1 a1 ++ [])) H1 locs1 → W p l e R s m args below meth c H1 locs1 (cells + mc) (slots + ms) Q (F0 m (pc + 3) ls rest)) : W p l e R s m args below meth c H locs cells slots Q (F0 m pc ls st0) := by
  have hc := hW.one hA wl [] hw
  refine va_callv (va_runI (As := []) (rest := rest) S (hM H.size) cw ⟨PreN.blind _ _ _ _ _ _, fun U hU hWd => ⟨Pre_.at hK hE hW hc U hU hWd _, va_AO.moved hWd.alike hAO⟩⟩ rfl rfl hls hst hroom hdg hcap) hW.2.2 (fun q _ h => hc.2.2 q h) hc.2.2 (fun u t H1 locs1 ht hvm hw2 hB hz1 hk1 hS1 => ?_)
  obtain ⟨hP1, hK1, hD1⟩ := hB
  rw [ht] at hP1
  exact kk u hw2 H1 locs1 (hW.back hA wl [] hw rfl hk1 hP1 hD1 hS1)
end XN
