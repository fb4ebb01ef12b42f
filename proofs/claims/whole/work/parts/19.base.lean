-- ===== base: worlds in one piece, contracts of one answer, calls with the frame rule =====
abbrev cls_ : List vw_C := [(RX0, TX0, 4), (RX1, TX1, 6), (RX2, TX2, 4), (RX3, TX3, 8), (RX4, TX4, 6), (RX5, TX5, 4), (RX6, TX6, 7), (RX7, TX7, 44)]
abbrev tys_ (ct : Nat → ClassId) : List (ClassId × FieldType) := [(ct 0, .int), (ct 1, .byte), (ct 2, .boolean), (ct 3, .object "FittingStrides$State")]
abbrev St_ : Type := Nat → Nat → Int32
def okI (i : Int32) (n : Nat) : Bool := !(decide (i < 0) || decide (n ≤ i.toNatClampNeg))
theorem okI_in {i : Int32} {n : Nat} (h : okI i n = true) : vp_in i n := by
  intro h2
  simp only [okI, Bool.not_eq_true', Bool.or_eq_false_iff, decide_eq_false_iff_not] at h
  exact h2.elim h.1 h.2
theorem okI_of {i : Int32} {n : Nat} (h : vp_in i n) : okI i n = true := by
  simp only [okI, Bool.not_eq_true', Bool.or_eq_false_iff, decide_eq_false_iff_not]
  exact ⟨fun q => h (Or.inl q), fun q => h (Or.inr q)⟩
def gd {α : Type} (b : Bool) (x : Option α) : Option α := if b = true then x else none
theorem gd_s {α : Type} {b : Bool} {x : Option α} {o : α} (h : gd b x = some o) : b = true ∧ x = some o := by
  unfold gd at h
  by_cases hb : b = true
  · rw [if_pos hb] at h; exact ⟨hb, h⟩
  · rw [if_neg hb] at h; cases h
theorem gd_t {α : Type} {b : Bool} {x : Option α} (h : b = true) : gd b x = x := if_pos h
theorem bs_ {α β : Type} {x : Option α} {f : α → Option β} {o : β} (h : x.bind f = some o) : ∃ a, x = some a ∧ f a = some o := by
  cases x with
  | none => cases h
  | some a => exact ⟨a, rfl, h⟩
def nzI (y : Int32) : Bool := !(decide (y = 0))
theorem nzI_s {y : Int32} (h : nzI y = true) : ¬ y = 0 := by simpa [nzI] using h
def nzL (y : Int64) : Bool := !(decide (y = 0))
theorem nzL_s {y : Int64} (h : nzL y = true) : ¬ y = 0 := by simpa [nzL] using h
def isB (v : Int32) : Bool := decide (v = 0) || decide (v = 1)
theorem isB_nar {v : Int32} (h : isB v = true) : narrow .boolean (.int v) = .int v := by
  simp only [isB, Bool.or_eq_true, decide_eq_true_eq] at h
  rcases h with rfl | rfl <;> rfl
def up1 (g : St_) (k j : Nat) (v : Int32) : St_ := fun a => bif Nat.beq a k then upd (g a) j v else g a
def sh_ {α : Type} (o : Nat) (f : Nat → α) : Nat → α := fun k => f (o + k)
def pu_ (o n : Nat) (g g1 : St_) : St_ := fun k => bif Nat.ble o k && Nat.ble (k + 1) (o + n) then g1 (k - o) else g k
-- the worlds, a block a class: ids are offsets within the block
def wX0 (a : Nat → Nat) (ct : Nat → ClassId) (g : St_) : va_W := [(a 0, .inr (0, [.int (g 1 0), .ref (a 2), .ref (a 3), .ref (a 4)])), (a 2, .inl (ct 0, 40, .inl (g 2))), (a 3, .inl (ct 0, 40, .inl (g 3))), (a 4, .inl (ct 0, 8, .inl (g 4)))]
def wX1 (a : Nat → Nat) (ct : Nat → ClassId) (g : St_) : va_W := [(a 0, .inr (1, [.int (g 1 0), .int (g 2 0), .ref (a 3), .ref (a 4), .ref (a 5), .ref (a 6)])), (a 3, .inl (ct 0, 10, .inl (g 3))), (a 4, .inl (ct 0, 10, .inl (g 4))), (a 5, .inl (ct 0, 10, .inl (g 5))), (a 6, .inl (ct 0, 10, .inl (g 6)))]
def wX2 (a : Nat → Nat) (ct : Nat → ClassId) (g : St_) : va_W := [(a 0, .inr (2, [.int (g 1 0), .ref (a 2), .ref (a 3), .ref (a 4)])), (a 2, .inl (ct 0, 20, .inl (g 2))), (a 3, .inl (ct 0, 20, .inl (g 3))), (a 4, .inl (ct 2, 20, .inl (g 4)))]
def wX3 (a : Nat → Nat) (ct : Nat → ClassId) (g : St_) : va_W := [(a 0, .inr (3, [.int (g 1 0), .ref (a 2), .ref (a 3), .ref (a 4), .ref (a 5), .ref (a 6), .int (g 7 0), .int (g 8 0)])), (a 2, .inl (ct 0, 8, .inl (g 2))), (a 3, .inl (ct 0, 8, .inl (g 3))), (a 4, .inl (ct 0, 8, .inl (g 4))), (a 5, .inl (ct 0, 30, .inl (g 5))), (a 6, .inl (ct 0, 10, .inl (g 6)))]
def wX5 (a : Nat → Nat) (ct : Nat → ClassId) (g : St_) : va_W := (a 0, .inr (5, [.ref (a 1), .ref (a 8), .ref (a 17), .ref (a 18)])) :: (wX1 (sh_ 1 a) ct (sh_ 1 g) ++ (wX3 (sh_ 8 a) ct (sh_ 8 g) ++ [(a 17, .inl (ct 0, 8, .inl (g 17))), (a 18, .inl (ct 0, 8, .inl (g 18)))]))
def wX4 (a : Nat → Nat) (ct : Nat → ClassId) (g : St_) : va_W := (a 0, .inr (4, [.int (g 1 0), .int (g 2 0), .int (g 3 0), .ref (a 4), .ref (a 23), .int (g 24 0)])) :: (wX5 (sh_ 4 a) ct (sh_ 4 g) ++ [(a 23, .inl (ct 1, 500, .inl (g 23)))])
def imF (x y : Nat) : Nat → Option Nat := va_up (va_up (fun _ => none) 0 (some x)) 1 (some y)
def wX6 (a : Nat → Nat) (ct : Nat → ClassId) (g : St_) : va_W := (a 0, .inr (6, [.ref (a 1), .ref (a 26), .ref (a 45), .ref (a 64), .ref (a 65), .ref (a 70), .int (g 75 0)])) :: (wX4 (sh_ 1 a) ct (sh_ 1 g) ++ (wX5 (sh_ 26 a) ct (sh_ 26 g) ++ ((a 45, .inl (ct 3, 2, .inr (.inr (.inr (.inr (imF (a 46) (a 55))))))) :: (wX3 (sh_ 46 a) ct (sh_ 46 g) ++ (wX3 (sh_ 55 a) ct (sh_ 55 g) ++ ((a 64, .inl (ct 2, 2, .inl (g 64))) :: (wX2 (sh_ 65 a) ct (sh_ 65 g) ++ wX0 (sh_ 70 a) ct (sh_ 70 g))))))))
def wX7 (a : Nat → Nat) (ct : Nat → ClassId) (g : St_) (sg : Int64) : va_W := [(a 0, .inr (7, [.int (g 1 0), .int (g 2 0), .ref (a 3), .ref (a 4), .ref (a 5), .ref (a 6), .ref (a 7), .ref (a 8), .int (g 9 0), .ref (a 10), .ref (a 11), .ref (a 12), .int (g 13 0), .int (g 14 0), .ref (a 15), .int (g 16 0), .int (g 17 0), .int (g 18 0), .long sg, .int (g 20 0), .int (g 21 0), .int (g 22 0), .int (g 23 0), .int (g 24 0), .ref (a 25), .ref (a 26), .ref (a 27), .ref (a 28), .ref (a 29), .int (g 30 0), .ref (a 31), .ref (a 32), .ref (a 33), .ref (a 34), .int (g 35 0), .ref (a 36), .ref (a 37), .ref (a 38), .int (g 39 0), .ref (a 40), .ref (a 41), .ref (a 42), .ref (a 43), .ref (a 44)])),
  (a 3, .inl (ct 0, 10, .inl (g 3))), (a 4, .inl (ct 0, 10, .inl (g 4))), (a 5, .inl (ct 0, 10, .inl (g 5))), (a 6, .inl (ct 0, 10, .inl (g 6))), (a 7, .inl (ct 0, 30, .inl (g 7))), (a 8, .inl (ct 0, 10, .inl (g 8))), (a 10, .inl (ct 0, 8, .inl (g 10))), (a 11, .inl (ct 0, 8, .inl (g 11))), (a 12, .inl (ct 0, 8, .inl (g 12))), (a 15, .inl (ct 0, 500, .inl (g 15))), (a 25, .inl (ct 0, 10, .inl (g 25))), (a 26, .inl (ct 0, 10, .inl (g 26))), (a 27, .inl (ct 0, 10, .inl (g 27))), (a 28, .inl (ct 0, 10, .inl (g 28))), (a 29, .inl (ct 0, 30, .inl (g 29))), (a 31, .inl (ct 0, 8, .inl (g 31))), (a 32, .inl (ct 0, 8, .inl (g 32))), (a 33, .inl (ct 0, 8, .inl (g 33))), (a 34, .inl (ct 0, 8, .inl (g 34))), (a 36, .inl (ct 0, 20, .inl (g 36))), (a 37, .inl (ct 0, 20, .inl (g 37))), (a 38, .inl (ct 2, 20, .inl (g 38))), (a 40, .inl (ct 0, 40, .inl (g 40))), (a 41, .inl (ct 0, 40, .inl (g 41))), (a 42, .inl (ct 0, 8, .inl (g 42))), (a 43, .inl (ct 0, 140, .inl (g 43))), (a 44, .inl (ct 2, 2, .inl (g 44)))]
-- a world, apart, and nothing else touched
def WW (G : va_G) (A : Nat → Prop) (H0 : Heap) (w : va_W) (H : Heap) (locs : List Loc) : Prop := va_P G cls_ w H ∧ va_D A w ∧ va_S A H0 H locs
-- the surroundings: the links among nest mates, the String constants, three statics
def lenJS : List Nat := [6, 5, 6, 5, 4, 4]
def bytJS : List (List Int32) := [[112, 108, 97, 99, 101, 115], [115, 116, 97, 105, 114], [112, 101, 114, 115, 111, 110], [112, 108, 97, 105, 110], [111, 112, 101, 110], [108, 101, 97, 112]]
def NwA : List (String × Nat × MethodName) := [(RX5, 93, yX6_has), (RX5, 62, yX6_goesInto), (RX5, 20, yX3_init), (RX5, 11, yX1_init), (RX4, 11, yX5_init), (RX2, 44, yX6_has), (RX6, 9, yX4_init), (RX6, 43, yX0_init), (RX6, 36, yX2_init), (RX6, 29, yX3_init), (RX6, 18, yX5_init)]
def StA : List (Nat × String × Nat) := [(48, "places", 0), (69, "stair", 1), (75, "person", 2), (134, "plain", 3), (136, "open", 4), (138, "leap", 5)]
def En (kd : (Nat → Nat) × (Nat → Nat)) (A : Nat → Prop) (U : State) (H : Heap) : Prop :=
  (∀ x ∈ NwA, va_Nw (.methodLinkNest x.1 x.2.1 x.2.2 RX6) U) ∧ (∀ x ∈ StA, vk_R RX4 x.1 x.2.1 (kd.1 x.2.2) U) ∧ vk_S 6 lenJS bytJS kd.1 kd.2 A U H ∧ va_Z "java/lang/String" "COMPACT_STRINGS" "Z" (.int 1) A U H ∧ va_Zq "jdk/internal/util/Preconditions" "SIOOBE_FORMATTER" "Ljava/util/function/BiFunction;" A U H
theorem En.pass {kd : (Nat → Nat) × (Nat → Nat)} {A B : Nat → Prop} {s : State} {H : Heap} {locs : List Loc} (h : En kd A s s.heap) (hS : va_S A s.heap H locs) (hAB : ∀ q, B q → A q) {U : State} (hU : U.heap = H) (hW : s.WarmedH U.vm) : En kd B U U.heap := by
  obtain ⟨h1, h2, h3, h4, h5⟩ := h
  rw [hU]
  exact ⟨fun x hx => (h1 x hx).warmM hW, fun x hx => (h2 x hx).warm hW, ((h3.kept hS.2.1).narrow hAB).moved hW.alike, ((h4.kept hS.2.1).narrow hAB).moved hW.alike, ((h5.kept hS.2.1).narrow hAB).moved hW.alike⟩
theorem En.call {kd : (Nat → Nat) × (Nat → Nat)} {A : Nat → Prop} {U : State} (g : JFrame) (mk : MethodId) (a : Array Value) (h : En kd A U U.heap) : En kd A (U.calling g mk a) (U.calling g mk a).heap := by
  obtain ⟨h1, h2, h3, h4, h5⟩ := h
  exact ⟨fun x hx => (h1 x hx).same rfl rfl, fun x hx => (h2 x hx).same rfl, h3.moved (u := U) (U := U.calling g mk a) (Vm.Alike.refl U.vm), h4.moved (u := U) (U := U.calling g mk a) (Vm.Alike.refl U.vm), h5.moved (u := U) (U := U.calling g mk a) (Vm.Alike.refl U.vm)⟩
-- contracts: one answer, one world behind it
def Pre_ (kd : (Nat → Nat) × (Nat → Nat)) (G : va_G) (ct : Nat → ClassId) (av : List Value) (w0 : va_W) (sz : Nat) : Array Value → State → Prop := va_Pc av (fun U => U.heap.size = sz ∧ va_P G cls_ w0 U.heap ∧ va_K G cls_ (tys_ ct) U ∧ va_D (fun _ => True) w0 ∧ En kd (va_A w0 sz) U U.heap)
def Af_ (G : va_G) (ct : Nat → ClassId) (w1 : va_W) (A : Nat → Prop) (t : State) : Prop := va_P G cls_ w1 t.heap ∧ va_K G cls_ (tys_ ct) t ∧ va_D A w1
def CtI (l : Launch) (y : MethodName) (ws : List Cond) (rm : Room) (kd : (Nat → Nat) × (Nat → Nat)) (G : va_G) (ct : Nat → ClassId) (av : List Value) (w0 : va_W) (ans : Int32) (w1 : va_W) : Prop :=
  ∀ sz : Nat, Met l y ws rm (Pre_ kd G ct av w0 sz) (va_Qi (fun r (_ : Unit) => r = ans) (fun _ t => Af_ G ct w1 (va_A w0 sz) t) (va_A w0 sz)) 0 0 (va_A w0 sz)
def CtL (l : Launch) (y : MethodName) (ws : List Cond) (rm : Room) (kd : (Nat → Nat) × (Nat → Nat)) (G : va_G) (ct : Nat → ClassId) (av : List Value) (w0 : va_W) (ans : Int64) (w1 : va_W) : Prop :=
  ∀ sz : Nat, Met l y ws rm (Pre_ kd G ct av w0 sz) (va_Ql (fun r (_ : Unit) => r = ans) (fun _ t => Af_ G ct w1 (va_A w0 sz) t) (va_A w0 sz)) 0 0 (va_A w0 sz)
def CtV (l : Launch) (y : MethodName) (ws : List Cond) (rm : Room) (kd : (Nat → Nat) × (Nat → Nat)) (G : va_G) (ct : Nat → ClassId) (av : List Value) (w0 : va_W) (w1 : va_W) : Prop :=
  ∀ sz : Nat, Met l y ws rm (Pre_ kd G ct av w0 sz) (va_Qv (fun (_ : Unit) => True) (fun _ t => Af_ G ct w1 (va_A w0 sz) t) (va_A w0 sz)) 0 0 (va_A w0 sz)
theorem Pre_.blind (kd : (Nat → Nat) × (Nat → Nat)) (G : va_G) (ct : Nat → ClassId) (av : List Value) (w0 : va_W) (sz : Nat) : FrameBlind (Pre_ kd G ct av w0 sz) := by
  intro a U g mk q
  obtain ⟨q0, q1, qP, qK, qD, qE⟩ := q
  exact ⟨q0, q1, qP, va_K.moved (u := U) (U := U.calling g mk a) (Vm.Alike.refl U.vm) qK, qD, qE.call g mk a⟩
-- lists
theorem gl_ {α : Type} {l r : List α} {k : Nat} {q : α} (h : l[k]? = some q) : (l ++ r)[k]? = some q := by
  have hk : k < l.length := (List.getElem?_eq_some_iff.mp h).1
  rw [List.getElem?_append_left hk]; exact h
theorem gr_ {α : Type} {l r : List α} {k : Nat} {q : α} (h : r[k]? = some q) : (l ++ r)[l.length + k]? = some q := by
  rw [List.getElem?_append_right (Nat.le_add_right _ _), Nat.add_sub_cancel_left]; exact h
-- cutting a block out of a world, and putting it back
theorem WW.cut {G : va_G} {A : Nat → Prop} {H0 H : Heap} {wl w0 wr : va_W} {locs : List Loc} (h : WW G A H0 (wl ++ (w0 ++ wr)) H locs) (hA : ∀ q, H0.size ≤ q → A q) : va_P G cls_ w0 H ∧ va_D (fun _ => True) w0 ∧ (∀ q, va_A w0 H.size q → A q) := by
  obtain ⟨hP, hD, hS⟩ := h
  refine ⟨fun k q hq => hP _ q (gr_ (gl_ hq)), ⟨fun i j p q hi hj e => ?_, fun _ _ _ => trivial⟩, fun q hq => ?_⟩
  · have := hD.1 _ _ p q (gr_ (l := wl) (gl_ (r := wr) hi)) (gr_ (l := wl) (gl_ (r := wr) hj)) e
    omega
  · rcases hq with ⟨k, e, hk⟩ | hq
    · exact hD.2 _ (q, e) (gr_ (gl_ hk))
    · exact hA q (Nat.le_trans hS.1 hq)
theorem WW.join {G : va_G} {A : Nat → Prop} {H0 H H1 : Heap} {wl w0 wr w1 : va_W} {locs locs1 : List Loc} (h : WW G A H0 (wl ++ (w0 ++ wr)) H locs) (hA : ∀ q, H0.size ≤ q → A q)
    (hk : ∀ q : Nat, q < H.size → ¬ va_A w0 H.size q → H1[q]? = H[q]?) (hP1 : va_P G cls_ w1 H1) (hD1 : va_D (va_A w0 H.size) w1) (hS1 : va_S A H0 H1 locs1) : WW G A H0 (wl ++ (w1 ++ wr)) H1 locs1 := by
  have hc := h.cut hA
  obtain ⟨hP, hD, hS⟩ := h
  have hl : ∀ (k : Nat) (q : Nat × va_E), wl[k]? = some q → q.1 < H.size ∧ ¬ va_A w0 H.size q.1 := by
    intro k q hq
    have hlt := (hP _ q (gl_ hq)).lt
    refine ⟨hlt, fun hv => ?_⟩
    rcases hv with ⟨j, e, hj⟩ | hv
    · have h1 := hD.1 _ _ q (q.1, e) (gl_ hq) (gr_ (l := wl) (gl_ (r := wr) hj)) rfl
      have h2 : k < wl.length := (List.getElem?_eq_some_iff.mp hq).1
      omega
    · omega
  have hr : ∀ (k : Nat) (q : Nat × va_E), wr[k]? = some q → q.1 < H.size ∧ ¬ va_A w0 H.size q.1 := by
    intro k q hq
    have hlt := (hP _ q (gr_ (gr_ hq))).lt
    refine ⟨hlt, fun hv => ?_⟩
    rcases hv with ⟨j, e, hj⟩ | hv
    · have h1 := hD.1 _ _ q (q.1, e) (gr_ (l := wl) (gr_ (l := w0) hq)) (gr_ (l := wl) (gl_ (r := wr) hj)) rfl
      have h2 : j < w0.length := (List.getElem?_eq_some_iff.mp hj).1
      omega
    · omega
  refine ⟨va_P.app (fun k q hq => (hP _ q (gl_ hq)).kept (hk q.1 (hl k q hq).1 (hl k q hq).2)) (va_P.app hP1 (fun k q hq => (hP _ q (gr_ (gr_ hq))).kept (hk q.1 (hr k q hq).1 (hr k q hq).2))), ?_, hS1⟩
  have dl : va_D A wl := ⟨fun i j p q hi hj e => hD.1 i j p q (gl_ hi) (gl_ hj) e, fun k q hq => hD.2 _ q (gl_ hq)⟩
  have dr : va_D A wr := ⟨fun i j p q hi hj e => by
    have h1 := hD.1 _ _ p q (gr_ (l := wl) (gr_ (l := w0) hi)) (gr_ (l := wl) (gr_ (l := w0) hj)) e
    omega, fun k q hq => hD.2 _ q (gr_ (gr_ hq))⟩
  have d1 : va_D A w1 := hD1.weaken (fun k q _ hq => hc.2.2 q.1 hq)
  refine va_D.app dl (va_D.app d1 dr (fun i j p q hi hj e => ?_)) (fun i j p q hi hj e => ?_)
  · exact (hr j q hj).2 (by rw [← e]; exact hD1.2 i p hi)
  · rcases Nat.lt_or_ge j w1.length with hjl | hjl
    · rw [List.getElem?_append_left hjl] at hj
      exact (hl i p hi).2 (by rw [e]; exact hD1.2 j q hj)
    · rw [List.getElem?_append_right hjl] at hj
      have h1 := hD.1 _ _ p q (gl_ hi) (gr_ (l := wl) (gr_ (l := w0) hj)) e
      have h2 : i < wl.length := (List.getElem?_eq_some_iff.mp hi).1
      omega
section XB
variable {p : Program} {l : Launch} {e : Env} {R : Room} {s : State} {m : MethodId} {args : Array Value} {below : List Frame} {meth : Method} {c : Code} {H : Heap} {locs : List Loc} {cells slots : Nat} {Q : State → Prop}
variable {cc : ByteArray} {pc : Nat} {ls : Array Slot} {rest : List Value} {G : va_G} {A : Nat → Prop} {a : Nat} {ct : Nat → ClassId} {w w' : va_W} {kd : (Nat → Nat) × (Nat → Nat)}
theorem x_put (hexec : p.tables.exec = Jvm.exec) (hb : c.code = cc) {own ref C : String} {T : u_T} {N ci index : Nat} {Ts : List Cond} (hts : ∀ w ∈ Ts, w.before args s = true) (hin : ∀ w ∈ u_ws C T N, w ∈ Ts) (ty0 : Nat → FieldType) (hty : ∀ k, k < N → parseFieldDescriptor (T k).2.2.1 = some (ty0 k)) (hnm : ∀ a, a < N → ∀ b, b < N → a ≠ b → (T a).2.1 ≠ (T b).2.1) (hown : s.vm.findClass own = some m.cls) (hK : va_K G cls_ (tys_ ct) s) (hW : WW G A s.heap w H locs) (q0 : Nat) {fs : List Value} (he : w[q0]? = some (a, .inr (ci, fs))) (hc : cls_[ci]? = some (C, T, N)) (k : Nat) (hk : k < N) (hlink : (Cond.fieldLink own index ref (T k).2.1 (T k).2.2.1).before args s = true) (hsame : ∀ x, s.fieldFound? (T k).1 (T k).2.1 (T k).2.2.1 = some x → s.fieldFound? ref (T k).2.1 (T k).2.2.1 = some x) (hfin : (T k).2.2.2 = false) {ty : FieldType} {v : Value} (hd : parseFieldDescriptor (T k).2.2.1 = some ty) (hn : narrow ty v = v) (hfit : fits ty v = true) (hl : k < fs.length) (hw : w.set q0 (a, .inr (ci, fs.set k v)) = w')
    (hdg : decode cc pc = .ok (.putfield index, 3)) (kk : ∀ (H1 : Heap) (locs1 : List Loc), WW G A s.heap w' H1 locs1 → W p l e R s m args below meth c H1 locs1 cells slots Q (F0 m (pc + 3) ls rest)) : W p l e R s m args below meth c H locs cells slots Q (F0 m pc ls (v :: .ref a :: rest)) :=
  va_put hexec hb hts hin ty0 hty hnm hown hK hW.1 hW.2.1 hW.2.2 q0 he hc k hk hlink hsame hfin hd hn hfit hl hdg (fun H1 locs1 h1 h2 h3 => kk H1 locs1 (hw ▸ ⟨h1, h2, h3⟩))
theorem x_get (hexec : p.tables.exec = Jvm.exec) (hb : c.code = cc) {own ref C : String} {T : u_T} {N ci index : Nat} {Ts : List Cond} (hts : ∀ w ∈ Ts, w.before args s = true) (hin : ∀ w ∈ u_ws C T N, w ∈ Ts) (hown : s.vm.findClass own = some m.cls) (hK : va_K G cls_ (tys_ ct) s) (hW : WW G A s.heap w H locs) (q0 : Nat) {fs : List Value} (he : w[q0]? = some (a, .inr (ci, fs))) (hc : cls_[ci]? = some (C, T, N)) (k : Nat) (hk : k < N) (hlink : (Cond.fieldLink own index ref (T k).2.1 (T k).2.2.1).before args s = true) (hsame : ∀ x, s.fieldFound? (T k).1 (T k).2.1 (T k).2.2.1 = some x → s.fieldFound? ref (T k).2.1 (T k).2.2.1 = some x) {v : Value} (hv : fs[k]? = some v) (hdg : decode cc pc = .ok (.getfield index, 3))
    (kk : W p l e R s m args below meth c H locs cells slots Q (F0 m (pc + 3) ls (v :: rest))) : W p l e R s m args below meth c H locs cells slots Q (F0 m pc ls (.ref a :: rest)) :=
  va_get hexec hb hts hin hown hK hW.1 q0 he hc k hk hlink hsame hv hdg kk
theorem x_iald (hexec : p.tables.exec = Jvm.exec) (hb : c.code = cc) (hK : va_K G cls_ (tys_ ct) s) (hW : WW G A s.heap w H locs) (q0 : Nat) {n : Nat} {f : Nat → Int32} (ha : w[q0]? = some (a, .inl (ct 0, n, .inl f))) {i : Int32} (hin : vp_in i n) (hdg : decode cc pc = .ok (.iaload, 1))
    (kk : W p l e R s m args below meth c H locs cells slots Q (F0 m (pc + 1) ls (.int (f i.toNatClampNeg) :: rest))) : W p l e R s m args below meth c H locs cells slots Q (F0 m pc ls (.int i :: .ref a :: rest)) :=
  va_iald hexec hb hK hW.1 q0 0 ha rfl hin hdg kk
theorem x_bald (hexec : p.tables.exec = Jvm.exec) (hb : c.code = cc) (hK : va_K G cls_ (tys_ ct) s) (hW : WW G A s.heap w H locs) (q0 : Nat) {n : Nat} {f : Nat → Int32} (ha : w[q0]? = some (a, .inl (ct 1, n, .inl f))) {i : Int32} (hin : vp_in i n) (hdg : decode cc pc = .ok (.baload, 1))
    (kk : W p l e R s m args below meth c H locs cells slots Q (F0 m (pc + 1) ls (.int (f i.toNatClampNeg) :: rest))) : W p l e R s m args below meth c H locs cells slots Q (F0 m pc ls (.int i :: .ref a :: rest)) :=
  va_bald hexec hb hK hW.1 q0 1 ha rfl hin hdg kk
theorem x_zald (hexec : p.tables.exec = Jvm.exec) (hb : c.code = cc) (hK : va_K G cls_ (tys_ ct) s) (hW : WW G A s.heap w H locs) (q0 : Nat) {n : Nat} {f : Nat → Int32} (ha : w[q0]? = some (a, .inl (ct 2, n, .inl f))) {i : Int32} (hin : vp_in i n) (hdg : decode cc pc = .ok (.baload, 1))
    (kk : W p l e R s m args below meth c H locs cells slots Q (F0 m (pc + 1) ls (.int (f i.toNatClampNeg) :: rest))) : W p l e R s m args below meth c H locs cells slots Q (F0 m pc ls (.int i :: .ref a :: rest)) :=
  va_zald hexec hb hK hW.1 q0 2 ha rfl hin hdg kk
theorem x_iast (hexec : p.tables.exec = Jvm.exec) (hb : c.code = cc) (hK : va_K G cls_ (tys_ ct) s) (hW : WW G A s.heap w H locs) (q0 : Nat) {n : Nat} {f : Nat → Int32} (ha : w[q0]? = some (a, .inl (ct 0, n, .inl f))) {i x : Int32} (hin : vp_in i n) (hw : w.set q0 (a, .inl (ct 0, n, .inl (upd f i.toNatClampNeg x))) = w') (hdg : decode cc pc = .ok (.iastore, 1))
    (kk : ∀ (H1 : Heap) (locs1 : List Loc), WW G A s.heap w' H1 locs1 → W p l e R s m args below meth c H1 locs1 cells slots Q (F0 m (pc + 1) ls rest)) : W p l e R s m args below meth c H locs cells slots Q (F0 m pc ls (.int x :: .int i :: .ref a :: rest)) :=
  va_iast hexec hb hK hW.1 hW.2.1 hW.2.2 q0 0 ha rfl hin hdg (fun H1 locs1 h1 h2 h3 => kk H1 locs1 (hw ▸ ⟨h1, h2, h3⟩))
theorem x_bast (hexec : p.tables.exec = Jvm.exec) (hb : c.code = cc) (hK : va_K G cls_ (tys_ ct) s) (hW : WW G A s.heap w H locs) (q0 : Nat) {n : Nat} {f : Nat → Int32} (ha : w[q0]? = some (a, .inl (ct 1, n, .inl f))) {i x : Int32} (hin : vp_in i n) (hw : w.set q0 (a, .inl (ct 1, n, .inl (upd f i.toNatClampNeg (vp_nar .byte x)))) = w') (hdg : decode cc pc = .ok (.bastore, 1))
    (kk : ∀ (H1 : Heap) (locs1 : List Loc), WW G A s.heap w' H1 locs1 → W p l e R s m args below meth c H1 locs1 cells slots Q (F0 m (pc + 1) ls rest)) : W p l e R s m args below meth c H locs cells slots Q (F0 m pc ls (.int x :: .int i :: .ref a :: rest)) :=
  va_bast hexec hb hK hW.1 hW.2.1 hW.2.2 q0 1 ha rfl hin hdg (fun H1 locs1 h1 h2 h3 => kk H1 locs1 (hw ▸ ⟨h1, h2, h3⟩))
theorem x_zast (hexec : p.tables.exec = Jvm.exec) (hb : c.code = cc) (hK : va_K G cls_ (tys_ ct) s) (hW : WW G A s.heap w H locs) (q0 : Nat) {n : Nat} {f : Nat → Int32} (ha : w[q0]? = some (a, .inl (ct 2, n, .inl f))) {i x : Int32} (hin : vp_in i n) (hw : w.set q0 (a, .inl (ct 2, n, .inl (upd f i.toNatClampNeg (vp_nar .boolean x)))) = w') (hdg : decode cc pc = .ok (.bastore, 1))
    (kk : ∀ (H1 : Heap) (locs1 : List Loc), WW G A s.heap w' H1 locs1 → W p l e R s m args below meth c H1 locs1 cells slots Q (F0 m (pc + 1) ls rest)) : W p l e R s m args below meth c H locs cells slots Q (F0 m pc ls (.int x :: .int i :: .ref a :: rest)) :=
  va_zast hexec hb hK hW.1 hW.2.1 hW.2.2 q0 2 ha rfl hin hdg (fun H1 locs1 h1 h2 h3 => kk H1 locs1 (hw ▸ ⟨h1, h2, h3⟩))
-- returns
theorem x_reti {sz : Nat} {w0 w1 : va_W} {ans v : Int32} {A1 : Nat → Prop} (hexec : p.tables.exec = Jvm.exec) (hb : c.code = cc) (hr : meth.sig.returnType = some .int) (hlocks : meth.locks = false) (hK : va_K G cls_ (tys_ ct) s) (hW : WW G A s.heap w H locs) (hv : v = ans) (hw : w = w1) (hdg : decode cc pc = .ok (.ireturn, 1)) :
    W p l e R s m args below meth c H locs 0 0 (MQ below (va_Qi (fun r (_ : Unit) => r = ans) (fun _ t => Af_ G ct w1 A t) A) args s 0 0 A) (F0 m pc ls [.int v]) := by
  subst hv; subst hw
  exact W.iret (v := v) hexec hb hr (fun t ht hWd => ⟨⟨v, (), rfl, rfl, by rw [ht]; exact hW.1, va_K.moved hWd.alike hK, hW.2.1⟩, hW.2.2.F ht⟩) hW.2.2.2.2 hdg hlocks
theorem x_retz {w1 : va_W} {ans v : Int32} {ty : FieldType} (hexec : p.tables.exec = Jvm.exec) (hb : c.code = cc) (hr : meth.sig.returnType = some ty) (hn : narrow ty (.int v) = .int v) (hlocks : meth.locks = false) (hK : va_K G cls_ (tys_ ct) s) (hW : WW G A s.heap w H locs) (hv : v = ans) (hw : w = w1) (hdg : decode cc pc = .ok (.ireturn, 1)) :
    W p l e R s m args below meth c H locs 0 0 (MQ below (va_Qi (fun r (_ : Unit) => r = ans) (fun _ t => Af_ G ct w1 A t) A) args s 0 0 A) (F0 m pc ls [.int v]) := by
  subst hv; subst hw
  exact W.zret (v := v) hexec hb hr hn (fun t ht hWd => ⟨⟨v, (), rfl, rfl, by rw [ht]; exact hW.1, va_K.moved hWd.alike hK, hW.2.1⟩, hW.2.2.F ht⟩) hW.2.2.2.2 hdg hlocks
theorem x_retl {w1 : va_W} {ans v : Int64} (hexec : p.tables.exec = Jvm.exec) (hb : c.code = cc) (hr : meth.sig.returnType = some .long) (hlocks : meth.locks = false) (hK : va_K G cls_ (tys_ ct) s) (hW : WW G A s.heap w H locs) (hv : v = ans) (hw : w = w1) (hdg : decode cc pc = .ok (.lreturn, 1)) :
    W p l e R s m args below meth c H locs 0 0 (MQ below (va_Ql (fun r (_ : Unit) => r = ans) (fun _ t => Af_ G ct w1 A t) A) args s 0 0 A) (F0 m pc ls [.long v]) := by
  subst hv; subst hw
  exact W.lret (v := v) hexec hb hr (fun t ht hWd => ⟨⟨v, (), rfl, rfl, by rw [ht]; exact hW.1, va_K.moved hWd.alike hK, hW.2.1⟩, hW.2.2.F ht⟩) hW.2.2.2.2 hdg hlocks
theorem x_retv {w1 : va_W} (hexec : p.tables.exec = Jvm.exec) (hb : c.code = cc) (hr : meth.sig.returnType = none) (hlocks : meth.locks = false) (hK : va_K G cls_ (tys_ ct) s) (hW : WW G A s.heap w H locs) (hw : w = w1) (hdg : decode cc pc = .ok (.return_, 1)) :
    W p l e R s m args below meth c H locs 0 0 (MQ below (va_Qv (fun (_ : Unit) => True) (fun _ t => Af_ G ct w1 A t) A) args s 0 0 A) (F0 m pc ls []) := by
  subst hw
  exact W.vret hexec hb hr (fun t ht hWd => ⟨⟨(), rfl, trivial, by rw [ht]; exact hW.1, va_K.moved hWd.alike hK, hW.2.1⟩, hW.2.2.F ht⟩) hW.2.2.2.2 hdg hlocks
end XB
