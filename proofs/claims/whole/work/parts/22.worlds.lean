def fsX0 (a : Nat → Nat) (g : St_) : List Value := [.int (g 1 0), .ref (a 2), .ref (a 3), .ref (a 4)]
def fsX1 (a : Nat → Nat) (g : St_) : List Value := [.int (g 1 0), .int (g 2 0), .ref (a 3), .ref (a 4), .ref (a 5), .ref (a 6)]
def fsX2 (a : Nat → Nat) (g : St_) : List Value := [.int (g 1 0), .ref (a 2), .ref (a 3), .ref (a 4)]
def fsX3 (a : Nat → Nat) (g : St_) : List Value := [.int (g 1 0), .ref (a 2), .ref (a 3), .ref (a 4), .ref (a 5), .ref (a 6), .int (g 7 0), .int (g 8 0)]
def fsX4 (a : Nat → Nat) (g : St_) : List Value := [.int (g 1 0), .int (g 2 0), .int (g 3 0), .ref (a 4), .ref (a 23), .int (g 24 0)]
def fsX5 (a : Nat → Nat) (g : St_) : List Value := [.ref (a 1), .ref (a 8), .ref (a 17), .ref (a 18)]
def fsX6 (a : Nat → Nat) (g : St_) : List Value := [.ref (a 1), .ref (a 26), .ref (a 45), .ref (a 64), .ref (a 65), .ref (a 70), .int (g 75 0)]
def fsX7 (a : Nat → Nat) (g : St_) (sg : Int64) : List Value := [.int (g 1 0), .int (g 2 0), .ref (a 3), .ref (a 4), .ref (a 5), .ref (a 6), .ref (a 7), .ref (a 8), .int (g 9 0), .ref (a 10), .ref (a 11), .ref (a 12), .int (g 13 0), .int (g 14 0), .ref (a 15), .int (g 16 0), .int (g 17 0), .int (g 18 0), .long sg, .int (g 20 0), .int (g 21 0), .int (g 22 0), .int (g 23 0), .int (g 24 0), .ref (a 25), .ref (a 26), .ref (a 27), .ref (a 28), .ref (a 29), .int (g 30 0), .ref (a 31), .ref (a 32), .ref (a 33), .ref (a 34), .int (g 35 0), .ref (a 36), .ref (a 37), .ref (a 38), .int (g 39 0), .ref (a 40), .ref (a 41), .ref (a 42), .ref (a 43), .ref (a 44)]
set_option maxRecDepth 20000 in
theorem wc_X0X5_13 (a : Nat → Nat) (ct : Nat → ClassId) (g : St_) : (wX0 a ct g ++ wX5 (sh_ 5 a) ct (sh_ 5 g)) = (wX0 a ct g ++ wX5 (sh_ 5 a) ct (sh_ 5 g)).take 10 ++ (wX3 (sh_ 13 a) ct (sh_ 13 g) ++ (wX0 a ct g ++ wX5 (sh_ 5 a) ct (sh_ 5 g)).drop 16) := rfl
set_option maxRecDepth 20000 in
theorem wc_X0X5_5 (a : Nat → Nat) (ct : Nat → ClassId) (g : St_) : (wX0 a ct g ++ wX5 (sh_ 5 a) ct (sh_ 5 g)) = (wX0 a ct g ++ wX5 (sh_ 5 a) ct (sh_ 5 g)).take 4 ++ (wX5 (sh_ 5 a) ct (sh_ 5 g) ++ (wX0 a ct g ++ wX5 (sh_ 5 a) ct (sh_ 5 g)).drop 18) := rfl
set_option maxRecDepth 20000 in
theorem wc_X0X5_6 (a : Nat → Nat) (ct : Nat → ClassId) (g : St_) : (wX0 a ct g ++ wX5 (sh_ 5 a) ct (sh_ 5 g)) = (wX0 a ct g ++ wX5 (sh_ 5 a) ct (sh_ 5 g)).take 5 ++ (wX1 (sh_ 6 a) ct (sh_ 6 g) ++ (wX0 a ct g ++ wX5 (sh_ 5 a) ct (sh_ 5 g)).drop 10) := rfl
set_option maxRecDepth 20000 in
theorem wc_X2X5_5 (a : Nat → Nat) (ct : Nat → ClassId) (g : St_) : (wX2 a ct g ++ wX5 (sh_ 5 a) ct (sh_ 5 g)) = (wX2 a ct g ++ wX5 (sh_ 5 a) ct (sh_ 5 g)).take 4 ++ (wX5 (sh_ 5 a) ct (sh_ 5 g) ++ (wX2 a ct g ++ wX5 (sh_ 5 a) ct (sh_ 5 g)).drop 18) := rfl
set_option maxRecDepth 20000 in
theorem wc_X4_12 (a : Nat → Nat) (ct : Nat → ClassId) (g : St_) : (wX4 a ct g) = (wX4 a ct g).take 7 ++ (wX3 (sh_ 12 a) ct (sh_ 12 g) ++ (wX4 a ct g).drop 13) := rfl
set_option maxRecDepth 20000 in
theorem wc_X4_4 (a : Nat → Nat) (ct : Nat → ClassId) (g : St_) : (wX4 a ct g) = (wX4 a ct g).take 1 ++ (wX5 (sh_ 4 a) ct (sh_ 4 g) ++ (wX4 a ct g).drop 15) := rfl
set_option maxRecDepth 20000 in
theorem wc_X5_8 (a : Nat → Nat) (ct : Nat → ClassId) (g : St_) : (wX5 a ct g) = (wX5 a ct g).take 6 ++ (wX3 (sh_ 8 a) ct (sh_ 8 g) ++ (wX5 a ct g).drop 12) := rfl
set_option maxRecDepth 20000 in
theorem wc_X6_1 (a : Nat → Nat) (ct : Nat → ClassId) (g : St_) : (wX6 a ct g) = (wX6 a ct g).take 1 ++ (wX4 (sh_ 1 a) ct (sh_ 1 g) ++ (wX6 a ct g).drop 17) := rfl
set_option maxRecDepth 20000 in
theorem wc_X6_26 (a : Nat → Nat) (ct : Nat → ClassId) (g : St_) : (wX6 a ct g) = (wX6 a ct g).take 17 ++ (wX5 (sh_ 26 a) ct (sh_ 26 g) ++ (wX6 a ct g).drop 31) := rfl
set_option maxRecDepth 20000 in
theorem wc_X6_27 (a : Nat → Nat) (ct : Nat → ClassId) (g : St_) : (wX6 a ct g) = (wX6 a ct g).take 18 ++ (wX1 (sh_ 27 a) ct (sh_ 27 g) ++ (wX6 a ct g).drop 23) := rfl
set_option maxRecDepth 20000 in
theorem wc_X6_34 (a : Nat → Nat) (ct : Nat → ClassId) (g : St_) : (wX6 a ct g) = (wX6 a ct g).take 23 ++ (wX3 (sh_ 34 a) ct (sh_ 34 g) ++ (wX6 a ct g).drop 29) := rfl
set_option maxRecDepth 20000 in
theorem wc_X6_65 (a : Nat → Nat) (ct : Nat → ClassId) (g : St_) : (wX6 a ct g) = (wX6 a ct g).take 45 ++ (wX2 (sh_ 65 a) ct (sh_ 65 g) ++ (wX6 a ct g).drop 49) := rfl
set_option maxRecDepth 20000 in
theorem wc_X6_70 (a : Nat → Nat) (ct : Nat → ClassId) (g : St_) : (wX6 a ct g) = (wX6 a ct g).take 49 ++ (wX0 (sh_ 70 a) ct (sh_ 70 g) ++ (wX6 a ct g).drop 53) := rfl
set_option maxRecDepth 20000 in
theorem wi_X6_65_26 (a : Nat → Nat) (ct : Nat → ClassId) (g : St_) : ([18, 19, 20, 21, 22, 23, 24, 25, 26, 27, 28, 29, 30, 31, 32, 33, 34, 4, 5, 6, 7, 8, 9, 10, 11, 12, 13, 14, 15, 16, 17, 35, 36, 37, 38, 39, 40, 41, 42, 43, 44, 45, 46, 47, 48, 0, 1, 2, 3, 49, 50, 51, 52] : List Nat).map (fun i => ((wX2 (ca_ 5 (sh_ 65 a) (sh_ 26 a)) ct (ca_ 5 (sh_ 65 g) (sh_ 26 g)) ++ wX5 (sh_ 5 (ca_ 5 (sh_ 65 a) (sh_ 26 a))) ct (sh_ 5 (ca_ 5 (sh_ 65 g) (sh_ 26 g)))) ++ ([0, 1, 2, 3, 4, 5, 6, 7, 8, 9, 10, 11, 12, 13, 14, 15, 16, 31, 32, 33, 34, 35, 36, 37, 38, 39, 40, 41, 42, 43, 44, 49, 50, 51, 52] : List Nat).filterMap (fun i => (wX6 a ct g)[i]?))[i]?) = ((wX6 a ct g)).map some := rfl
set_option maxRecDepth 20000 in
theorem wk_X5X5_1_20 (a : Nat → Nat) (ct : Nat → ClassId) (g : St_) : ([1, 2, 3, 4, 5, 15, 16, 17, 18, 19, 0, 6, 7, 8, 9, 10, 11, 12, 13, 14, 20, 21, 22, 23, 24, 25, 26, 27] : List Nat).map (fun i => (wX5 a ct g ++ wX5 (sh_ 19 a) ct (sh_ 19 g))[i]?) = ((wX1 (ca_ 7 (sh_ 1 a) (sh_ 20 a)) ct (ca_ 7 (sh_ 1 g) (sh_ 20 g)) ++ wX1 (sh_ 7 (ca_ 7 (sh_ 1 a) (sh_ 20 a))) ct (sh_ 7 (ca_ 7 (sh_ 1 g) (sh_ 20 g)))) ++ ([0, 6, 7, 8, 9, 10, 11, 12, 13, 14, 20, 21, 22, 23, 24, 25, 26, 27] : List Nat).filterMap (fun i => (wX5 a ct g ++ wX5 (sh_ 19 a) ct (sh_ 19 g))[i]?)).map some := rfl
set_option maxRecDepth 20000 in
theorem wk_X5X5_8_27 (a : Nat → Nat) (ct : Nat → ClassId) (g : St_) : ([6, 7, 8, 9, 10, 11, 20, 21, 22, 23, 24, 25, 0, 1, 2, 3, 4, 5, 12, 13, 14, 15, 16, 17, 18, 19, 26, 27] : List Nat).map (fun i => (wX5 a ct g ++ wX5 (sh_ 19 a) ct (sh_ 19 g))[i]?) = ((wX3 (ca_ 9 (sh_ 8 a) (sh_ 27 a)) ct (ca_ 9 (sh_ 8 g) (sh_ 27 g)) ++ wX3 (sh_ 9 (ca_ 9 (sh_ 8 a) (sh_ 27 a))) ct (sh_ 9 (ca_ 9 (sh_ 8 g) (sh_ 27 g)))) ++ ([0, 1, 2, 3, 4, 5, 12, 13, 14, 15, 16, 17, 18, 19, 26, 27] : List Nat).filterMap (fun i => (wX5 a ct g ++ wX5 (sh_ 19 a) ct (sh_ 19 g))[i]?)).map some := rfl
set_option maxRecDepth 20000 in
theorem wk_X6_26_5 (a : Nat → Nat) (ct : Nat → ClassId) (g : St_) : ([17, 18, 19, 20, 21, 22, 23, 24, 25, 26, 27, 28, 29, 30, 2, 3, 4, 5, 6, 7, 8, 9, 10, 11, 12, 13, 14, 15, 0, 1, 16, 31, 32, 33, 34, 35, 36, 37, 38, 39, 40, 41, 42, 43, 44, 45, 46, 47, 48, 49, 50, 51, 52] : List Nat).map (fun i => (wX6 a ct g)[i]?) = ((wX5 (ca_ 19 (sh_ 26 a) (sh_ 5 a)) ct (ca_ 19 (sh_ 26 g) (sh_ 5 g)) ++ wX5 (sh_ 19 (ca_ 19 (sh_ 26 a) (sh_ 5 a))) ct (sh_ 19 (ca_ 19 (sh_ 26 g) (sh_ 5 g)))) ++ ([0, 1, 16, 31, 32, 33, 34, 35, 36, 37, 38, 39, 40, 41, 42, 43, 44, 45, 46, 47, 48, 49, 50, 51, 52] : List Nat).filterMap (fun i => (wX6 a ct g)[i]?)).map some := rfl
set_option maxRecDepth 20000 in
theorem wk_X6_34_46 (a : Nat → Nat) (ct : Nat → ClassId) (g : St_) : ([23, 24, 25, 26, 27, 28, 32, 33, 34, 35, 36, 37, 0, 1, 2, 3, 4, 5, 6, 7, 8, 9, 10, 11, 12, 13, 14, 15, 16, 17, 18, 19, 20, 21, 22, 29, 30, 31, 38, 39, 40, 41, 42, 43, 44, 45, 46, 47, 48, 49, 50, 51, 52] : List Nat).map (fun i => (wX6 a ct g)[i]?) = ((wX3 (ca_ 9 (sh_ 34 a) (sh_ 46 a)) ct (ca_ 9 (sh_ 34 g) (sh_ 46 g)) ++ wX3 (sh_ 9 (ca_ 9 (sh_ 34 a) (sh_ 46 a))) ct (sh_ 9 (ca_ 9 (sh_ 34 g) (sh_ 46 g)))) ++ ([0, 1, 2, 3, 4, 5, 6, 7, 8, 9, 10, 11, 12, 13, 14, 15, 16, 17, 18, 19, 20, 21, 22, 29, 30, 31, 38, 39, 40, 41, 42, 43, 44, 45, 46, 47, 48, 49, 50, 51, 52] : List Nat).filterMap (fun i => (wX6 a ct g)[i]?)).map some := rfl
set_option maxRecDepth 20000 in
theorem wk_X6_34_55 (a : Nat → Nat) (ct : Nat → ClassId) (g : St_) : ([23, 24, 25, 26, 27, 28, 38, 39, 40, 41, 42, 43, 0, 1, 2, 3, 4, 5, 6, 7, 8, 9, 10, 11, 12, 13, 14, 15, 16, 17, 18, 19, 20, 21, 22, 29, 30, 31, 32, 33, 34, 35, 36, 37, 44, 45, 46, 47, 48, 49, 50, 51, 52] : List Nat).map (fun i => (wX6 a ct g)[i]?) = ((wX3 (ca_ 9 (sh_ 34 a) (sh_ 55 a)) ct (ca_ 9 (sh_ 34 g) (sh_ 55 g)) ++ wX3 (sh_ 9 (ca_ 9 (sh_ 34 a) (sh_ 55 a))) ct (sh_ 9 (ca_ 9 (sh_ 34 g) (sh_ 55 g)))) ++ ([0, 1, 2, 3, 4, 5, 6, 7, 8, 9, 10, 11, 12, 13, 14, 15, 16, 17, 18, 19, 20, 21, 22, 29, 30, 31, 32, 33, 34, 35, 36, 37, 44, 45, 46, 47, 48, 49, 50, 51, 52] : List Nat).filterMap (fun i => (wX6 a ct g)[i]?)).map some := rfl
set_option maxRecDepth 20000 in
theorem wk_X6_46_34 (a : Nat → Nat) (ct : Nat → ClassId) (g : St_) : ([32, 33, 34, 35, 36, 37, 23, 24, 25, 26, 27, 28, 0, 1, 2, 3, 4, 5, 6, 7, 8, 9, 10, 11, 12, 13, 14, 15, 16, 17, 18, 19, 20, 21, 22, 29, 30, 31, 38, 39, 40, 41, 42, 43, 44, 45, 46, 47, 48, 49, 50, 51, 52] : List Nat).map (fun i => (wX6 a ct g)[i]?) = ((wX3 (ca_ 9 (sh_ 46 a) (sh_ 34 a)) ct (ca_ 9 (sh_ 46 g) (sh_ 34 g)) ++ wX3 (sh_ 9 (ca_ 9 (sh_ 46 a) (sh_ 34 a))) ct (sh_ 9 (ca_ 9 (sh_ 46 g) (sh_ 34 g)))) ++ ([0, 1, 2, 3, 4, 5, 6, 7, 8, 9, 10, 11, 12, 13, 14, 15, 16, 17, 18, 19, 20, 21, 22, 29, 30, 31, 38, 39, 40, 41, 42, 43, 44, 45, 46, 47, 48, 49, 50, 51, 52] : List Nat).filterMap (fun i => (wX6 a ct g)[i]?)).map some := rfl
set_option maxRecDepth 20000 in
theorem wk_X6_55_34 (a : Nat → Nat) (ct : Nat → ClassId) (g : St_) : ([38, 39, 40, 41, 42, 43, 23, 24, 25, 26, 27, 28, 0, 1, 2, 3, 4, 5, 6, 7, 8, 9, 10, 11, 12, 13, 14, 15, 16, 17, 18, 19, 20, 21, 22, 29, 30, 31, 32, 33, 34, 35, 36, 37, 44, 45, 46, 47, 48, 49, 50, 51, 52] : List Nat).map (fun i => (wX6 a ct g)[i]?) = ((wX3 (ca_ 9 (sh_ 55 a) (sh_ 34 a)) ct (ca_ 9 (sh_ 55 g) (sh_ 34 g)) ++ wX3 (sh_ 9 (ca_ 9 (sh_ 55 a) (sh_ 34 a))) ct (sh_ 9 (ca_ 9 (sh_ 55 g) (sh_ 34 g)))) ++ ([0, 1, 2, 3, 4, 5, 6, 7, 8, 9, 10, 11, 12, 13, 14, 15, 16, 17, 18, 19, 20, 21, 22, 29, 30, 31, 32, 33, 34, 35, 36, 37, 44, 45, 46, 47, 48, 49, 50, 51, 52] : List Nat).filterMap (fun i => (wX6 a ct g)[i]?)).map some := rfl
set_option maxRecDepth 20000 in
theorem wk_X6_65_26 (a : Nat → Nat) (ct : Nat → ClassId) (g : St_) : ([45, 46, 47, 48, 17, 18, 19, 20, 21, 22, 23, 24, 25, 26, 27, 28, 29, 30, 0, 1, 2, 3, 4, 5, 6, 7, 8, 9, 10, 11, 12, 13, 14, 15, 16, 31, 32, 33, 34, 35, 36, 37, 38, 39, 40, 41, 42, 43, 44, 49, 50, 51, 52] : List Nat).map (fun i => (wX6 a ct g)[i]?) = ((wX2 (ca_ 5 (sh_ 65 a) (sh_ 26 a)) ct (ca_ 5 (sh_ 65 g) (sh_ 26 g)) ++ wX5 (sh_ 5 (ca_ 5 (sh_ 65 a) (sh_ 26 a))) ct (sh_ 5 (ca_ 5 (sh_ 65 g) (sh_ 26 g)))) ++ ([0, 1, 2, 3, 4, 5, 6, 7, 8, 9, 10, 11, 12, 13, 14, 15, 16, 31, 32, 33, 34, 35, 36, 37, 38, 39, 40, 41, 42, 43, 44, 49, 50, 51, 52] : List Nat).filterMap (fun i => (wX6 a ct g)[i]?)).map some := rfl
set_option maxRecDepth 20000 in
theorem wk_X6_70_26 (a : Nat → Nat) (ct : Nat → ClassId) (g : St_) : ([49, 50, 51, 52, 17, 18, 19, 20, 21, 22, 23, 24, 25, 26, 27, 28, 29, 30, 0, 1, 2, 3, 4, 5, 6, 7, 8, 9, 10, 11, 12, 13, 14, 15, 16, 31, 32, 33, 34, 35, 36, 37, 38, 39, 40, 41, 42, 43, 44, 45, 46, 47, 48] : List Nat).map (fun i => (wX6 a ct g)[i]?) = ((wX0 (ca_ 5 (sh_ 70 a) (sh_ 26 a)) ct (ca_ 5 (sh_ 70 g) (sh_ 26 g)) ++ wX5 (sh_ 5 (ca_ 5 (sh_ 70 a) (sh_ 26 a))) ct (sh_ 5 (ca_ 5 (sh_ 70 g) (sh_ 26 g)))) ++ ([0, 1, 2, 3, 4, 5, 6, 7, 8, 9, 10, 11, 12, 13, 14, 15, 16, 31, 32, 33, 34, 35, 36, 37, 38, 39, 40, 41, 42, 43, 44, 45, 46, 47, 48] : List Nat).filterMap (fun i => (wX6 a ct g)[i]?)).map some := rfl
set_option maxRecDepth 20000 in
theorem wp_X0_1 (a : Nat → Nat) (ct : Nat → ClassId) (g : St_) (v : Int32) : (wX0 a ct g).set 0 (a 0, .inr (0, (fsX0 a g).set 0 (.int v))) = (wX0 a ct (up1 g 1 0 v)) := rfl
set_option maxRecDepth 20000 in
theorem wp_X1X1_1 (a : Nat → Nat) (ct : Nat → ClassId) (g : St_) (v : Int32) : (wX1 a ct g ++ wX1 (sh_ 7 a) ct (sh_ 7 g)).set 0 (a 0, .inr (1, (fsX1 a g).set 0 (.int v))) = (wX1 a ct (up1 g 1 0 v) ++ wX1 (sh_ 7 a) ct (sh_ 7 (up1 g 1 0 v))) := rfl
set_option maxRecDepth 20000 in
theorem wp_X1X1_2 (a : Nat → Nat) (ct : Nat → ClassId) (g : St_) (v : Int32) : (wX1 a ct g ++ wX1 (sh_ 7 a) ct (sh_ 7 g)).set 0 (a 0, .inr (1, (fsX1 a g).set 1 (.int v))) = (wX1 a ct (up1 g 2 0 v) ++ wX1 (sh_ 7 a) ct (sh_ 7 (up1 g 2 0 v))) := rfl
set_option maxRecDepth 20000 in
theorem wp_X2_1 (a : Nat → Nat) (ct : Nat → ClassId) (g : St_) (v : Int32) : (wX2 a ct g).set 0 (a 0, .inr (2, (fsX2 a g).set 0 (.int v))) = (wX2 a ct (up1 g 1 0 v)) := rfl
set_option maxRecDepth 20000 in
theorem wp_X3X3_1 (a : Nat → Nat) (ct : Nat → ClassId) (g : St_) (v : Int32) : (wX3 a ct g ++ wX3 (sh_ 9 a) ct (sh_ 9 g)).set 0 (a 0, .inr (3, (fsX3 a g).set 0 (.int v))) = (wX3 a ct (up1 g 1 0 v) ++ wX3 (sh_ 9 a) ct (sh_ 9 (up1 g 1 0 v))) := rfl
set_option maxRecDepth 20000 in
theorem wp_X3X3_7 (a : Nat → Nat) (ct : Nat → ClassId) (g : St_) (v : Int32) : (wX3 a ct g ++ wX3 (sh_ 9 a) ct (sh_ 9 g)).set 0 (a 0, .inr (3, (fsX3 a g).set 6 (.int v))) = (wX3 a ct (up1 g 7 0 v) ++ wX3 (sh_ 9 a) ct (sh_ 9 (up1 g 7 0 v))) := rfl
set_option maxRecDepth 20000 in
theorem wp_X3X3_8 (a : Nat → Nat) (ct : Nat → ClassId) (g : St_) (v : Int32) : (wX3 a ct g ++ wX3 (sh_ 9 a) ct (sh_ 9 g)).set 0 (a 0, .inr (3, (fsX3 a g).set 7 (.int v))) = (wX3 a ct (up1 g 8 0 v) ++ wX3 (sh_ 9 a) ct (sh_ 9 (up1 g 8 0 v))) := rfl
set_option maxRecDepth 20000 in
theorem wp_X3_1 (a : Nat → Nat) (ct : Nat → ClassId) (g : St_) (v : Int32) : (wX3 a ct g).set 0 (a 0, .inr (3, (fsX3 a g).set 0 (.int v))) = (wX3 a ct (up1 g 1 0 v)) := rfl
set_option maxRecDepth 20000 in
theorem wp_X3_8 (a : Nat → Nat) (ct : Nat → ClassId) (g : St_) (v : Int32) : (wX3 a ct g).set 0 (a 0, .inr (3, (fsX3 a g).set 7 (.int v))) = (wX3 a ct (up1 g 8 0 v)) := rfl
set_option maxRecDepth 20000 in
theorem wp_X4_1 (a : Nat → Nat) (ct : Nat → ClassId) (g : St_) (v : Int32) : (wX4 a ct g).set 0 (a 0, .inr (4, (fsX4 a g).set 0 (.int v))) = (wX4 a ct (up1 g 1 0 v)) := rfl
set_option maxRecDepth 20000 in
theorem wp_X4_2 (a : Nat → Nat) (ct : Nat → ClassId) (g : St_) (v : Int32) : (wX4 a ct g).set 0 (a 0, .inr (4, (fsX4 a g).set 1 (.int v))) = (wX4 a ct (up1 g 2 0 v)) := rfl
set_option maxRecDepth 20000 in
theorem wp_X4_24 (a : Nat → Nat) (ct : Nat → ClassId) (g : St_) (v : Int32) : (wX4 a ct g).set 0 (a 0, .inr (4, (fsX4 a g).set 5 (.int v))) = (wX4 a ct (up1 g 24 0 v)) := rfl
set_option maxRecDepth 20000 in
theorem wp_X4_3 (a : Nat → Nat) (ct : Nat → ClassId) (g : St_) (v : Int32) : (wX4 a ct g).set 0 (a 0, .inr (4, (fsX4 a g).set 2 (.int v))) = (wX4 a ct (up1 g 3 0 v)) := rfl
set_option maxRecDepth 20000 in
theorem wp_X4_6 (a : Nat → Nat) (ct : Nat → ClassId) (g : St_) (v : Int32) : (wX4 a ct g).set 2 (a 5, .inr (1, (fsX1 (sh_ 5 a) (sh_ 5 g)).set 0 (.int v))) = (wX4 a ct (up1 g 6 0 v)) := rfl
set_option maxRecDepth 20000 in
theorem wp_X4_7 (a : Nat → Nat) (ct : Nat → ClassId) (g : St_) (v : Int32) : (wX4 a ct g).set 2 (a 5, .inr (1, (fsX1 (sh_ 5 a) (sh_ 5 g)).set 1 (.int v))) = (wX4 a ct (up1 g 7 0 v)) := rfl
set_option maxRecDepth 20000 in
theorem wp_X5_2 (a : Nat → Nat) (ct : Nat → ClassId) (g : St_) (v : Int32) : (wX5 a ct g).set 1 (a 1, .inr (1, (fsX1 (sh_ 1 a) (sh_ 1 g)).set 0 (.int v))) = (wX5 a ct (up1 g 2 0 v)) := rfl
set_option maxRecDepth 20000 in
theorem wp_X5_3 (a : Nat → Nat) (ct : Nat → ClassId) (g : St_) (v : Int32) : (wX5 a ct g).set 1 (a 1, .inr (1, (fsX1 (sh_ 1 a) (sh_ 1 g)).set 1 (.int v))) = (wX5 a ct (up1 g 3 0 v)) := rfl
set_option maxRecDepth 20000 in
theorem wp_X5_9 (a : Nat → Nat) (ct : Nat → ClassId) (g : St_) (v : Int32) : (wX5 a ct g).set 6 (a 8, .inr (3, (fsX3 (sh_ 8 a) (sh_ 8 g)).set 0 (.int v))) = (wX5 a ct (up1 g 9 0 v)) := rfl
set_option maxRecDepth 20000 in
theorem wp_X6_2 (a : Nat → Nat) (ct : Nat → ClassId) (g : St_) (v : Int32) : (wX6 a ct g).set 1 (a 1, .inr (4, (fsX4 (sh_ 1 a) (sh_ 1 g)).set 0 (.int v))) = (wX6 a ct (up1 g 2 0 v)) := rfl
set_option maxRecDepth 20000 in
theorem wp_X6_41 (a : Nat → Nat) (ct : Nat → ClassId) (g : St_) (v : Int32) : (wX6 a ct g).set 23 (a 34, .inr (3, (fsX3 (sh_ 34 a) (sh_ 34 g)).set 6 (.int v))) = (wX6 a ct (up1 g 41 0 v)) := rfl
set_option maxRecDepth 20000 in
theorem wp_X6_42 (a : Nat → Nat) (ct : Nat → ClassId) (g : St_) (v : Int32) : (wX6 a ct g).set 23 (a 34, .inr (3, (fsX3 (sh_ 34 a) (sh_ 34 g)).set 7 (.int v))) = (wX6 a ct (up1 g 42 0 v)) := rfl
set_option maxRecDepth 20000 in
theorem wp_X6_66 (a : Nat → Nat) (ct : Nat → ClassId) (g : St_) (v : Int32) : (wX6 a ct g).set 45 (a 65, .inr (2, (fsX2 (sh_ 65 a) (sh_ 65 g)).set 0 (.int v))) = (wX6 a ct (up1 g 66 0 v)) := rfl
set_option maxRecDepth 20000 in
theorem wp_X6_71 (a : Nat → Nat) (ct : Nat → ClassId) (g : St_) (v : Int32) : (wX6 a ct g).set 49 (a 70, .inr (0, (fsX0 (sh_ 70 a) (sh_ 70 g)).set 0 (.int v))) = (wX6 a ct (up1 g 71 0 v)) := rfl
set_option maxRecDepth 20000 in
theorem wp_X6_75 (a : Nat → Nat) (ct : Nat → ClassId) (g : St_) (v : Int32) : (wX6 a ct g).set 0 (a 0, .inr (6, (fsX6 a g).set 6 (.int v))) = (wX6 a ct (up1 g 75 0 v)) := rfl
set_option maxRecDepth 20000 in
theorem wp_X7_1 (a : Nat → Nat) (ct : Nat → ClassId) (g : St_) (sg : Int64) (v : Int32) : (wX7 a ct g sg).set 0 (a 0, .inr (7, (fsX7 a g sg).set 0 (.int v))) = (wX7 a ct (up1 g 1 0 v) sg) := rfl
set_option maxRecDepth 20000 in
theorem wp_X7_13 (a : Nat → Nat) (ct : Nat → ClassId) (g : St_) (sg : Int64) (v : Int32) : (wX7 a ct g sg).set 0 (a 0, .inr (7, (fsX7 a g sg).set 12 (.int v))) = (wX7 a ct (up1 g 13 0 v) sg) := rfl
set_option maxRecDepth 20000 in
theorem wp_X7_14 (a : Nat → Nat) (ct : Nat → ClassId) (g : St_) (sg : Int64) (v : Int32) : (wX7 a ct g sg).set 0 (a 0, .inr (7, (fsX7 a g sg).set 13 (.int v))) = (wX7 a ct (up1 g 14 0 v) sg) := rfl
set_option maxRecDepth 20000 in
theorem wp_X7_16 (a : Nat → Nat) (ct : Nat → ClassId) (g : St_) (sg : Int64) (v : Int32) : (wX7 a ct g sg).set 0 (a 0, .inr (7, (fsX7 a g sg).set 15 (.int v))) = (wX7 a ct (up1 g 16 0 v) sg) := rfl
set_option maxRecDepth 20000 in
theorem wp_X7_17 (a : Nat → Nat) (ct : Nat → ClassId) (g : St_) (sg : Int64) (v : Int32) : (wX7 a ct g sg).set 0 (a 0, .inr (7, (fsX7 a g sg).set 16 (.int v))) = (wX7 a ct (up1 g 17 0 v) sg) := rfl
set_option maxRecDepth 20000 in
theorem wp_X7_18 (a : Nat → Nat) (ct : Nat → ClassId) (g : St_) (sg : Int64) (v : Int32) : (wX7 a ct g sg).set 0 (a 0, .inr (7, (fsX7 a g sg).set 17 (.int v))) = (wX7 a ct (up1 g 18 0 v) sg) := rfl
set_option maxRecDepth 20000 in
theorem wp_X7_19 (a : Nat → Nat) (ct : Nat → ClassId) (g : St_) (sg : Int64) (v : Int64) : (wX7 a ct g sg).set 0 (a 0, .inr (7, (fsX7 a g sg).set 18 (.long v))) = (wX7 a ct g v) := rfl
set_option maxRecDepth 20000 in
theorem wp_X7_2 (a : Nat → Nat) (ct : Nat → ClassId) (g : St_) (sg : Int64) (v : Int32) : (wX7 a ct g sg).set 0 (a 0, .inr (7, (fsX7 a g sg).set 1 (.int v))) = (wX7 a ct (up1 g 2 0 v) sg) := rfl
set_option maxRecDepth 20000 in
theorem wp_X7_20 (a : Nat → Nat) (ct : Nat → ClassId) (g : St_) (sg : Int64) (v : Int32) : (wX7 a ct g sg).set 0 (a 0, .inr (7, (fsX7 a g sg).set 19 (.int v))) = (wX7 a ct (up1 g 20 0 v) sg) := rfl
set_option maxRecDepth 20000 in
theorem wp_X7_21 (a : Nat → Nat) (ct : Nat → ClassId) (g : St_) (sg : Int64) (v : Int32) : (wX7 a ct g sg).set 0 (a 0, .inr (7, (fsX7 a g sg).set 20 (.int v))) = (wX7 a ct (up1 g 21 0 v) sg) := rfl
set_option maxRecDepth 20000 in
theorem wp_X7_22 (a : Nat → Nat) (ct : Nat → ClassId) (g : St_) (sg : Int64) (v : Int32) : (wX7 a ct g sg).set 0 (a 0, .inr (7, (fsX7 a g sg).set 21 (.int v))) = (wX7 a ct (up1 g 22 0 v) sg) := rfl
set_option maxRecDepth 20000 in
theorem wp_X7_23 (a : Nat → Nat) (ct : Nat → ClassId) (g : St_) (sg : Int64) (v : Int32) : (wX7 a ct g sg).set 0 (a 0, .inr (7, (fsX7 a g sg).set 22 (.int v))) = (wX7 a ct (up1 g 23 0 v) sg) := rfl
set_option maxRecDepth 20000 in
theorem wp_X7_24 (a : Nat → Nat) (ct : Nat → ClassId) (g : St_) (sg : Int64) (v : Int32) : (wX7 a ct g sg).set 0 (a 0, .inr (7, (fsX7 a g sg).set 23 (.int v))) = (wX7 a ct (up1 g 24 0 v) sg) := rfl
set_option maxRecDepth 20000 in
theorem wp_X7_30 (a : Nat → Nat) (ct : Nat → ClassId) (g : St_) (sg : Int64) (v : Int32) : (wX7 a ct g sg).set 0 (a 0, .inr (7, (fsX7 a g sg).set 29 (.int v))) = (wX7 a ct (up1 g 30 0 v) sg) := rfl
set_option maxRecDepth 20000 in
theorem wp_X7_35 (a : Nat → Nat) (ct : Nat → ClassId) (g : St_) (sg : Int64) (v : Int32) : (wX7 a ct g sg).set 0 (a 0, .inr (7, (fsX7 a g sg).set 34 (.int v))) = (wX7 a ct (up1 g 35 0 v) sg) := rfl
set_option maxRecDepth 20000 in
theorem wp_X7_39 (a : Nat → Nat) (ct : Nat → ClassId) (g : St_) (sg : Int64) (v : Int32) : (wX7 a ct g sg).set 0 (a 0, .inr (7, (fsX7 a g sg).set 38 (.int v))) = (wX7 a ct (up1 g 39 0 v) sg) := rfl
set_option maxRecDepth 20000 in
theorem wp_X7_9 (a : Nat → Nat) (ct : Nat → ClassId) (g : St_) (sg : Int64) (v : Int32) : (wX7 a ct g sg).set 0 (a 0, .inr (7, (fsX7 a g sg).set 8 (.int v))) = (wX7 a ct (up1 g 9 0 v) sg) := rfl
set_option maxRecDepth 20000 in
theorem ws_X0X5_4 (a : Nat → Nat) (ct : Nat → ClassId) (g : St_) (j : Nat) (v : Int32) : (wX0 a ct g ++ wX5 (sh_ 5 a) ct (sh_ 5 g)).set 3 (a 4, .inl (ct 0, 8, .inl (upd (g 4) j v))) = (wX0 a ct (up1 g 4 j v) ++ wX5 (sh_ 5 a) ct (sh_ 5 (up1 g 4 j v))) := rfl
set_option maxRecDepth 20000 in
theorem ws_X0_2 (a : Nat → Nat) (ct : Nat → ClassId) (g : St_) (j : Nat) (v : Int32) : (wX0 a ct g).set 1 (a 2, .inl (ct 0, 40, .inl (upd (g 2) j v))) = (wX0 a ct (up1 g 2 j v)) := rfl
set_option maxRecDepth 20000 in
theorem ws_X0_3 (a : Nat → Nat) (ct : Nat → ClassId) (g : St_) (j : Nat) (v : Int32) : (wX0 a ct g).set 2 (a 3, .inl (ct 0, 40, .inl (upd (g 3) j v))) = (wX0 a ct (up1 g 3 j v)) := rfl
set_option maxRecDepth 20000 in
theorem ws_X1X1_3 (a : Nat → Nat) (ct : Nat → ClassId) (g : St_) (j : Nat) (v : Int32) : (wX1 a ct g ++ wX1 (sh_ 7 a) ct (sh_ 7 g)).set 1 (a 3, .inl (ct 0, 10, .inl (upd (g 3) j v))) = (wX1 a ct (up1 g 3 j v) ++ wX1 (sh_ 7 a) ct (sh_ 7 (up1 g 3 j v))) := rfl
set_option maxRecDepth 20000 in
theorem ws_X1X1_4 (a : Nat → Nat) (ct : Nat → ClassId) (g : St_) (j : Nat) (v : Int32) : (wX1 a ct g ++ wX1 (sh_ 7 a) ct (sh_ 7 g)).set 2 (a 4, .inl (ct 0, 10, .inl (upd (g 4) j v))) = (wX1 a ct (up1 g 4 j v) ++ wX1 (sh_ 7 a) ct (sh_ 7 (up1 g 4 j v))) := rfl
set_option maxRecDepth 20000 in
theorem ws_X1X1_5 (a : Nat → Nat) (ct : Nat → ClassId) (g : St_) (j : Nat) (v : Int32) : (wX1 a ct g ++ wX1 (sh_ 7 a) ct (sh_ 7 g)).set 3 (a 5, .inl (ct 0, 10, .inl (upd (g 5) j v))) = (wX1 a ct (up1 g 5 j v) ++ wX1 (sh_ 7 a) ct (sh_ 7 (up1 g 5 j v))) := rfl
set_option maxRecDepth 20000 in
theorem ws_X1X1_6 (a : Nat → Nat) (ct : Nat → ClassId) (g : St_) (j : Nat) (v : Int32) : (wX1 a ct g ++ wX1 (sh_ 7 a) ct (sh_ 7 g)).set 4 (a 6, .inl (ct 0, 10, .inl (upd (g 6) j v))) = (wX1 a ct (up1 g 6 j v) ++ wX1 (sh_ 7 a) ct (sh_ 7 (up1 g 6 j v))) := rfl
set_option maxRecDepth 20000 in
theorem ws_X2_2 (a : Nat → Nat) (ct : Nat → ClassId) (g : St_) (j : Nat) (v : Int32) : (wX2 a ct g).set 1 (a 2, .inl (ct 0, 20, .inl (upd (g 2) j v))) = (wX2 a ct (up1 g 2 j v)) := rfl
set_option maxRecDepth 20000 in
theorem ws_X2_3 (a : Nat → Nat) (ct : Nat → ClassId) (g : St_) (j : Nat) (v : Int32) : (wX2 a ct g).set 2 (a 3, .inl (ct 0, 20, .inl (upd (g 3) j v))) = (wX2 a ct (up1 g 3 j v)) := rfl
set_option maxRecDepth 20000 in
theorem ws_X2_4 (a : Nat → Nat) (ct : Nat → ClassId) (g : St_) (j : Nat) (v : Int32) : (wX2 a ct g).set 3 (a 4, .inl (ct 2, 20, .inl (upd (g 4) j v))) = (wX2 a ct (up1 g 4 j v)) := rfl
set_option maxRecDepth 20000 in
theorem ws_X3X3_2 (a : Nat → Nat) (ct : Nat → ClassId) (g : St_) (j : Nat) (v : Int32) : (wX3 a ct g ++ wX3 (sh_ 9 a) ct (sh_ 9 g)).set 1 (a 2, .inl (ct 0, 8, .inl (upd (g 2) j v))) = (wX3 a ct (up1 g 2 j v) ++ wX3 (sh_ 9 a) ct (sh_ 9 (up1 g 2 j v))) := rfl
set_option maxRecDepth 20000 in
theorem ws_X3X3_3 (a : Nat → Nat) (ct : Nat → ClassId) (g : St_) (j : Nat) (v : Int32) : (wX3 a ct g ++ wX3 (sh_ 9 a) ct (sh_ 9 g)).set 2 (a 3, .inl (ct 0, 8, .inl (upd (g 3) j v))) = (wX3 a ct (up1 g 3 j v) ++ wX3 (sh_ 9 a) ct (sh_ 9 (up1 g 3 j v))) := rfl
set_option maxRecDepth 20000 in
theorem ws_X3X3_4 (a : Nat → Nat) (ct : Nat → ClassId) (g : St_) (j : Nat) (v : Int32) : (wX3 a ct g ++ wX3 (sh_ 9 a) ct (sh_ 9 g)).set 3 (a 4, .inl (ct 0, 8, .inl (upd (g 4) j v))) = (wX3 a ct (up1 g 4 j v) ++ wX3 (sh_ 9 a) ct (sh_ 9 (up1 g 4 j v))) := rfl
set_option maxRecDepth 20000 in
theorem ws_X3X3_5 (a : Nat → Nat) (ct : Nat → ClassId) (g : St_) (j : Nat) (v : Int32) : (wX3 a ct g ++ wX3 (sh_ 9 a) ct (sh_ 9 g)).set 4 (a 5, .inl (ct 0, 30, .inl (upd (g 5) j v))) = (wX3 a ct (up1 g 5 j v) ++ wX3 (sh_ 9 a) ct (sh_ 9 (up1 g 5 j v))) := rfl
set_option maxRecDepth 20000 in
theorem ws_X3X3_6 (a : Nat → Nat) (ct : Nat → ClassId) (g : St_) (j : Nat) (v : Int32) : (wX3 a ct g ++ wX3 (sh_ 9 a) ct (sh_ 9 g)).set 5 (a 6, .inl (ct 0, 10, .inl (upd (g 6) j v))) = (wX3 a ct (up1 g 6 j v) ++ wX3 (sh_ 9 a) ct (sh_ 9 (up1 g 6 j v))) := rfl
set_option maxRecDepth 20000 in
theorem ws_X3_2 (a : Nat → Nat) (ct : Nat → ClassId) (g : St_) (j : Nat) (v : Int32) : (wX3 a ct g).set 1 (a 2, .inl (ct 0, 8, .inl (upd (g 2) j v))) = (wX3 a ct (up1 g 2 j v)) := rfl
set_option maxRecDepth 20000 in
theorem ws_X3_3 (a : Nat → Nat) (ct : Nat → ClassId) (g : St_) (j : Nat) (v : Int32) : (wX3 a ct g).set 2 (a 3, .inl (ct 0, 8, .inl (upd (g 3) j v))) = (wX3 a ct (up1 g 3 j v)) := rfl
set_option maxRecDepth 20000 in
theorem ws_X3_4 (a : Nat → Nat) (ct : Nat → ClassId) (g : St_) (j : Nat) (v : Int32) : (wX3 a ct g).set 3 (a 4, .inl (ct 0, 8, .inl (upd (g 4) j v))) = (wX3 a ct (up1 g 4 j v)) := rfl
set_option maxRecDepth 20000 in
theorem ws_X4_10 (a : Nat → Nat) (ct : Nat → ClassId) (g : St_) (j : Nat) (v : Int32) : (wX4 a ct g).set 5 (a 10, .inl (ct 0, 10, .inl (upd (g 10) j v))) = (wX4 a ct (up1 g 10 j v)) := rfl
set_option maxRecDepth 20000 in
theorem ws_X4_11 (a : Nat → Nat) (ct : Nat → ClassId) (g : St_) (j : Nat) (v : Int32) : (wX4 a ct g).set 6 (a 11, .inl (ct 0, 10, .inl (upd (g 11) j v))) = (wX4 a ct (up1 g 11 j v)) := rfl
set_option maxRecDepth 20000 in
theorem ws_X4_17 (a : Nat → Nat) (ct : Nat → ClassId) (g : St_) (j : Nat) (v : Int32) : (wX4 a ct g).set 11 (a 17, .inl (ct 0, 30, .inl (upd (g 17) j v))) = (wX4 a ct (up1 g 17 j v)) := rfl
set_option maxRecDepth 20000 in
theorem ws_X4_23 (a : Nat → Nat) (ct : Nat → ClassId) (g : St_) (j : Nat) (v : Int32) : (wX4 a ct g).set 15 (a 23, .inl (ct 1, 500, .inl (upd (g 23) j v))) = (wX4 a ct (up1 g 23 j v)) := rfl
set_option maxRecDepth 20000 in
theorem ws_X4_8 (a : Nat → Nat) (ct : Nat → ClassId) (g : St_) (j : Nat) (v : Int32) : (wX4 a ct g).set 3 (a 8, .inl (ct 0, 10, .inl (upd (g 8) j v))) = (wX4 a ct (up1 g 8 j v)) := rfl
set_option maxRecDepth 20000 in
theorem ws_X4_9 (a : Nat → Nat) (ct : Nat → ClassId) (g : St_) (j : Nat) (v : Int32) : (wX4 a ct g).set 4 (a 9, .inl (ct 0, 10, .inl (upd (g 9) j v))) = (wX4 a ct (up1 g 9 j v)) := rfl
set_option maxRecDepth 20000 in
theorem ws_X5_10 (a : Nat → Nat) (ct : Nat → ClassId) (g : St_) (j : Nat) (v : Int32) : (wX5 a ct g).set 7 (a 10, .inl (ct 0, 8, .inl (upd (g 10) j v))) = (wX5 a ct (up1 g 10 j v)) := rfl
set_option maxRecDepth 20000 in
theorem ws_X5_14 (a : Nat → Nat) (ct : Nat → ClassId) (g : St_) (j : Nat) (v : Int32) : (wX5 a ct g).set 11 (a 14, .inl (ct 0, 10, .inl (upd (g 14) j v))) = (wX5 a ct (up1 g 14 j v)) := rfl
set_option maxRecDepth 20000 in
theorem ws_X5_17 (a : Nat → Nat) (ct : Nat → ClassId) (g : St_) (j : Nat) (v : Int32) : (wX5 a ct g).set 12 (a 17, .inl (ct 0, 8, .inl (upd (g 17) j v))) = (wX5 a ct (up1 g 17 j v)) := rfl
set_option maxRecDepth 20000 in
theorem ws_X5_18 (a : Nat → Nat) (ct : Nat → ClassId) (g : St_) (j : Nat) (v : Int32) : (wX5 a ct g).set 13 (a 18, .inl (ct 0, 8, .inl (upd (g 18) j v))) = (wX5 a ct (up1 g 18 j v)) := rfl
set_option maxRecDepth 20000 in
theorem ws_X6_39 (a : Nat → Nat) (ct : Nat → ClassId) (g : St_) (j : Nat) (v : Int32) : (wX6 a ct g).set 27 (a 39, .inl (ct 0, 30, .inl (upd (g 39) j v))) = (wX6 a ct (up1 g 39 j v)) := rfl
set_option maxRecDepth 20000 in
theorem ws_X6_64 (a : Nat → Nat) (ct : Nat → ClassId) (g : St_) (j : Nat) (v : Int32) : (wX6 a ct g).set 44 (a 64, .inl (ct 2, 2, .inl (upd (g 64) j v))) = (wX6 a ct (up1 g 64 j v)) := rfl
set_option maxRecDepth 20000 in
theorem ws_X7_10 (a : Nat → Nat) (ct : Nat → ClassId) (g : St_) (sg : Int64) (j : Nat) (v : Int32) : (wX7 a ct g sg).set 7 (a 10, .inl (ct 0, 8, .inl (upd (g 10) j v))) = (wX7 a ct (up1 g 10 j v) sg) := rfl
set_option maxRecDepth 20000 in
theorem ws_X7_11 (a : Nat → Nat) (ct : Nat → ClassId) (g : St_) (sg : Int64) (j : Nat) (v : Int32) : (wX7 a ct g sg).set 8 (a 11, .inl (ct 0, 8, .inl (upd (g 11) j v))) = (wX7 a ct (up1 g 11 j v) sg) := rfl
set_option maxRecDepth 20000 in
theorem ws_X7_12 (a : Nat → Nat) (ct : Nat → ClassId) (g : St_) (sg : Int64) (j : Nat) (v : Int32) : (wX7 a ct g sg).set 9 (a 12, .inl (ct 0, 8, .inl (upd (g 12) j v))) = (wX7 a ct (up1 g 12 j v) sg) := rfl
set_option maxRecDepth 20000 in
theorem ws_X7_15 (a : Nat → Nat) (ct : Nat → ClassId) (g : St_) (sg : Int64) (j : Nat) (v : Int32) : (wX7 a ct g sg).set 10 (a 15, .inl (ct 0, 500, .inl (upd (g 15) j v))) = (wX7 a ct (up1 g 15 j v) sg) := rfl
set_option maxRecDepth 20000 in
theorem ws_X7_25 (a : Nat → Nat) (ct : Nat → ClassId) (g : St_) (sg : Int64) (j : Nat) (v : Int32) : (wX7 a ct g sg).set 11 (a 25, .inl (ct 0, 10, .inl (upd (g 25) j v))) = (wX7 a ct (up1 g 25 j v) sg) := rfl
set_option maxRecDepth 20000 in
theorem ws_X7_26 (a : Nat → Nat) (ct : Nat → ClassId) (g : St_) (sg : Int64) (j : Nat) (v : Int32) : (wX7 a ct g sg).set 12 (a 26, .inl (ct 0, 10, .inl (upd (g 26) j v))) = (wX7 a ct (up1 g 26 j v) sg) := rfl
set_option maxRecDepth 20000 in
theorem ws_X7_27 (a : Nat → Nat) (ct : Nat → ClassId) (g : St_) (sg : Int64) (j : Nat) (v : Int32) : (wX7 a ct g sg).set 13 (a 27, .inl (ct 0, 10, .inl (upd (g 27) j v))) = (wX7 a ct (up1 g 27 j v) sg) := rfl
set_option maxRecDepth 20000 in
theorem ws_X7_28 (a : Nat → Nat) (ct : Nat → ClassId) (g : St_) (sg : Int64) (j : Nat) (v : Int32) : (wX7 a ct g sg).set 14 (a 28, .inl (ct 0, 10, .inl (upd (g 28) j v))) = (wX7 a ct (up1 g 28 j v) sg) := rfl
set_option maxRecDepth 20000 in
theorem ws_X7_29 (a : Nat → Nat) (ct : Nat → ClassId) (g : St_) (sg : Int64) (j : Nat) (v : Int32) : (wX7 a ct g sg).set 15 (a 29, .inl (ct 0, 30, .inl (upd (g 29) j v))) = (wX7 a ct (up1 g 29 j v) sg) := rfl
set_option maxRecDepth 20000 in
theorem ws_X7_3 (a : Nat → Nat) (ct : Nat → ClassId) (g : St_) (sg : Int64) (j : Nat) (v : Int32) : (wX7 a ct g sg).set 1 (a 3, .inl (ct 0, 10, .inl (upd (g 3) j v))) = (wX7 a ct (up1 g 3 j v) sg) := rfl
set_option maxRecDepth 20000 in
theorem ws_X7_31 (a : Nat → Nat) (ct : Nat → ClassId) (g : St_) (sg : Int64) (j : Nat) (v : Int32) : (wX7 a ct g sg).set 16 (a 31, .inl (ct 0, 8, .inl (upd (g 31) j v))) = (wX7 a ct (up1 g 31 j v) sg) := rfl
set_option maxRecDepth 20000 in
theorem ws_X7_32 (a : Nat → Nat) (ct : Nat → ClassId) (g : St_) (sg : Int64) (j : Nat) (v : Int32) : (wX7 a ct g sg).set 17 (a 32, .inl (ct 0, 8, .inl (upd (g 32) j v))) = (wX7 a ct (up1 g 32 j v) sg) := rfl
set_option maxRecDepth 20000 in
theorem ws_X7_33 (a : Nat → Nat) (ct : Nat → ClassId) (g : St_) (sg : Int64) (j : Nat) (v : Int32) : (wX7 a ct g sg).set 18 (a 33, .inl (ct 0, 8, .inl (upd (g 33) j v))) = (wX7 a ct (up1 g 33 j v) sg) := rfl
set_option maxRecDepth 20000 in
theorem ws_X7_34 (a : Nat → Nat) (ct : Nat → ClassId) (g : St_) (sg : Int64) (j : Nat) (v : Int32) : (wX7 a ct g sg).set 19 (a 34, .inl (ct 0, 8, .inl (upd (g 34) j v))) = (wX7 a ct (up1 g 34 j v) sg) := rfl
set_option maxRecDepth 20000 in
theorem ws_X7_36 (a : Nat → Nat) (ct : Nat → ClassId) (g : St_) (sg : Int64) (j : Nat) (v : Int32) : (wX7 a ct g sg).set 20 (a 36, .inl (ct 0, 20, .inl (upd (g 36) j v))) = (wX7 a ct (up1 g 36 j v) sg) := rfl
set_option maxRecDepth 20000 in
theorem ws_X7_37 (a : Nat → Nat) (ct : Nat → ClassId) (g : St_) (sg : Int64) (j : Nat) (v : Int32) : (wX7 a ct g sg).set 21 (a 37, .inl (ct 0, 20, .inl (upd (g 37) j v))) = (wX7 a ct (up1 g 37 j v) sg) := rfl
set_option maxRecDepth 20000 in
theorem ws_X7_38 (a : Nat → Nat) (ct : Nat → ClassId) (g : St_) (sg : Int64) (j : Nat) (v : Int32) : (wX7 a ct g sg).set 22 (a 38, .inl (ct 2, 20, .inl (upd (g 38) j v))) = (wX7 a ct (up1 g 38 j v) sg) := rfl
set_option maxRecDepth 20000 in
theorem ws_X7_4 (a : Nat → Nat) (ct : Nat → ClassId) (g : St_) (sg : Int64) (j : Nat) (v : Int32) : (wX7 a ct g sg).set 2 (a 4, .inl (ct 0, 10, .inl (upd (g 4) j v))) = (wX7 a ct (up1 g 4 j v) sg) := rfl
set_option maxRecDepth 20000 in
theorem ws_X7_40 (a : Nat → Nat) (ct : Nat → ClassId) (g : St_) (sg : Int64) (j : Nat) (v : Int32) : (wX7 a ct g sg).set 23 (a 40, .inl (ct 0, 40, .inl (upd (g 40) j v))) = (wX7 a ct (up1 g 40 j v) sg) := rfl
set_option maxRecDepth 20000 in
theorem ws_X7_41 (a : Nat → Nat) (ct : Nat → ClassId) (g : St_) (sg : Int64) (j : Nat) (v : Int32) : (wX7 a ct g sg).set 24 (a 41, .inl (ct 0, 40, .inl (upd (g 41) j v))) = (wX7 a ct (up1 g 41 j v) sg) := rfl
set_option maxRecDepth 20000 in
theorem ws_X7_42 (a : Nat → Nat) (ct : Nat → ClassId) (g : St_) (sg : Int64) (j : Nat) (v : Int32) : (wX7 a ct g sg).set 25 (a 42, .inl (ct 0, 8, .inl (upd (g 42) j v))) = (wX7 a ct (up1 g 42 j v) sg) := rfl
set_option maxRecDepth 20000 in
theorem ws_X7_43 (a : Nat → Nat) (ct : Nat → ClassId) (g : St_) (sg : Int64) (j : Nat) (v : Int32) : (wX7 a ct g sg).set 26 (a 43, .inl (ct 0, 140, .inl (upd (g 43) j v))) = (wX7 a ct (up1 g 43 j v) sg) := rfl
set_option maxRecDepth 20000 in
theorem ws_X7_44 (a : Nat → Nat) (ct : Nat → ClassId) (g : St_) (sg : Int64) (j : Nat) (v : Int32) : (wX7 a ct g sg).set 27 (a 44, .inl (ct 2, 2, .inl (upd (g 44) j v))) = (wX7 a ct (up1 g 44 j v) sg) := rfl
set_option maxRecDepth 20000 in
theorem ws_X7_5 (a : Nat → Nat) (ct : Nat → ClassId) (g : St_) (sg : Int64) (j : Nat) (v : Int32) : (wX7 a ct g sg).set 3 (a 5, .inl (ct 0, 10, .inl (upd (g 5) j v))) = (wX7 a ct (up1 g 5 j v) sg) := rfl
set_option maxRecDepth 20000 in
theorem ws_X7_6 (a : Nat → Nat) (ct : Nat → ClassId) (g : St_) (sg : Int64) (j : Nat) (v : Int32) : (wX7 a ct g sg).set 4 (a 6, .inl (ct 0, 10, .inl (upd (g 6) j v))) = (wX7 a ct (up1 g 6 j v) sg) := rfl
set_option maxRecDepth 20000 in
theorem ws_X7_7 (a : Nat → Nat) (ct : Nat → ClassId) (g : St_) (sg : Int64) (j : Nat) (v : Int32) : (wX7 a ct g sg).set 5 (a 7, .inl (ct 0, 30, .inl (upd (g 7) j v))) = (wX7 a ct (up1 g 7 j v) sg) := rfl
set_option maxRecDepth 20000 in
theorem ws_X7_8 (a : Nat → Nat) (ct : Nat → ClassId) (g : St_) (sg : Int64) (j : Nat) (v : Int32) : (wX7 a ct g sg).set 6 (a 8, .inl (ct 0, 10, .inl (upd (g 8) j v))) = (wX7 a ct (up1 g 8 j v) sg) := rfl
set_option maxRecDepth 20000 in
theorem wu_X4_12 (a : Nat → Nat) (ct : Nat → ClassId) (g : St_) (r : St_) : (wX4 a ct (pu_ 12 9 g r)) = (wX4 a ct g).take 7 ++ (wX3 (sh_ 12 a) ct r ++ (wX4 a ct g).drop 13) := rfl
set_option maxRecDepth 20000 in
theorem wu_X4_4 (a : Nat → Nat) (ct : Nat → ClassId) (g : St_) (r : St_) : (wX4 a ct (pu_ 4 19 g r)) = (wX4 a ct g).take 1 ++ (wX5 (sh_ 4 a) ct r ++ (wX4 a ct g).drop 15) := rfl
set_option maxRecDepth 20000 in
theorem wu_X5_8 (a : Nat → Nat) (ct : Nat → ClassId) (g : St_) (r : St_) : (wX5 a ct (pu_ 8 9 g r)) = (wX5 a ct g).take 6 ++ (wX3 (sh_ 8 a) ct r ++ (wX5 a ct g).drop 12) := rfl
set_option maxRecDepth 20000 in
theorem wu_X6_1 (a : Nat → Nat) (ct : Nat → ClassId) (g : St_) (r : St_) : (wX6 a ct (pu_ 1 25 g r)) = (wX6 a ct g).take 1 ++ (wX4 (sh_ 1 a) ct r ++ (wX6 a ct g).drop 17) := rfl
set_option maxRecDepth 20000 in
theorem wu_X6_26 (a : Nat → Nat) (ct : Nat → ClassId) (g : St_) (r : St_) : (wX6 a ct (pu_ 26 19 g r)) = (wX6 a ct g).take 17 ++ (wX5 (sh_ 26 a) ct r ++ (wX6 a ct g).drop 31) := rfl
set_option maxRecDepth 20000 in
theorem wu_X6_65 (a : Nat → Nat) (ct : Nat → ClassId) (g : St_) (r : St_) : (wX6 a ct (pu_ 65 5 g r)) = (wX6 a ct g).take 45 ++ (wX2 (sh_ 65 a) ct r ++ (wX6 a ct g).drop 49) := rfl
set_option maxRecDepth 20000 in
theorem wu_X6_70 (a : Nat → Nat) (ct : Nat → ClassId) (g : St_) (r : St_) : (wX6 a ct (pu_ 70 5 g r)) = (wX6 a ct g).take 49 ++ (wX0 (sh_ 70 a) ct r ++ (wX6 a ct g).drop 53) := rfl
set_option maxRecDepth 20000 in
theorem wv_X5X5_1_20 (a : Nat → Nat) (ct : Nat → ClassId) (g : St_) (r : St_) : ([10, 0, 1, 2, 3, 4, 11, 12, 13, 14, 15, 16, 17, 18, 19, 5, 6, 7, 8, 9, 20, 21, 22, 23, 24, 25, 26, 27] : List Nat).map (fun i => ((wX1 (ca_ 7 (sh_ 1 a) (sh_ 20 a)) ct r ++ wX1 (sh_ 7 (ca_ 7 (sh_ 1 a) (sh_ 20 a))) ct (sh_ 7 r)) ++ ([0, 6, 7, 8, 9, 10, 11, 12, 13, 14, 20, 21, 22, 23, 24, 25, 26, 27] : List Nat).filterMap (fun i => (wX5 a ct g ++ wX5 (sh_ 19 a) ct (sh_ 19 g))[i]?))[i]?) = ((wX5 a ct (pu_ 1 7 (pu_ 20 7 g (sh_ 7 r)) r) ++ wX5 (sh_ 19 a) ct (sh_ 19 (pu_ 1 7 (pu_ 20 7 g (sh_ 7 r)) r)))).map some := rfl
set_option maxRecDepth 20000 in
theorem wv_X5X5_8_27 (a : Nat → Nat) (ct : Nat → ClassId) (g : St_) (r : St_) : ([12, 13, 14, 15, 16, 17, 0, 1, 2, 3, 4, 5, 18, 19, 20, 21, 22, 23, 24, 25, 6, 7, 8, 9, 10, 11, 26, 27] : List Nat).map (fun i => ((wX3 (ca_ 9 (sh_ 8 a) (sh_ 27 a)) ct r ++ wX3 (sh_ 9 (ca_ 9 (sh_ 8 a) (sh_ 27 a))) ct (sh_ 9 r)) ++ ([0, 1, 2, 3, 4, 5, 12, 13, 14, 15, 16, 17, 18, 19, 26, 27] : List Nat).filterMap (fun i => (wX5 a ct g ++ wX5 (sh_ 19 a) ct (sh_ 19 g))[i]?))[i]?) = ((wX5 a ct (pu_ 8 9 (pu_ 27 9 g (sh_ 9 r)) r) ++ wX5 (sh_ 19 a) ct (sh_ 19 (pu_ 8 9 (pu_ 27 9 g (sh_ 9 r)) r)))).map some := rfl
set_option maxRecDepth 20000 in
theorem wv_X6_26_5 (a : Nat → Nat) (ct : Nat → ClassId) (g : St_) (r : St_) : ([28, 29, 14, 15, 16, 17, 18, 19, 20, 21, 22, 23, 24, 25, 26, 27, 30, 0, 1, 2, 3, 4, 5, 6, 7, 8, 9, 10, 11, 12, 13, 31, 32, 33, 34, 35, 36, 37, 38, 39, 40, 41, 42, 43, 44, 45, 46, 47, 48, 49, 50, 51, 52] : List Nat).map (fun i => ((wX5 (ca_ 19 (sh_ 26 a) (sh_ 5 a)) ct r ++ wX5 (sh_ 19 (ca_ 19 (sh_ 26 a) (sh_ 5 a))) ct (sh_ 19 r)) ++ ([0, 1, 16, 31, 32, 33, 34, 35, 36, 37, 38, 39, 40, 41, 42, 43, 44, 45, 46, 47, 48, 49, 50, 51, 52] : List Nat).filterMap (fun i => (wX6 a ct g)[i]?))[i]?) = ((wX6 a ct (pu_ 26 19 (pu_ 5 19 g (sh_ 19 r)) r))).map some := rfl
set_option maxRecDepth 20000 in
theorem wv_X6_34_46 (a : Nat → Nat) (ct : Nat → ClassId) (g : St_) (r : St_) : ([12, 13, 14, 15, 16, 17, 18, 19, 20, 21, 22, 23, 24, 25, 26, 27, 28, 29, 30, 31, 32, 33, 34, 0, 1, 2, 3, 4, 5, 35, 36, 37, 6, 7, 8, 9, 10, 11, 38, 39, 40, 41, 42, 43, 44, 45, 46, 47, 48, 49, 50, 51, 52] : List Nat).map (fun i => ((wX3 (ca_ 9 (sh_ 34 a) (sh_ 46 a)) ct r ++ wX3 (sh_ 9 (ca_ 9 (sh_ 34 a) (sh_ 46 a))) ct (sh_ 9 r)) ++ ([0, 1, 2, 3, 4, 5, 6, 7, 8, 9, 10, 11, 12, 13, 14, 15, 16, 17, 18, 19, 20, 21, 22, 29, 30, 31, 38, 39, 40, 41, 42, 43, 44, 45, 46, 47, 48, 49, 50, 51, 52] : List Nat).filterMap (fun i => (wX6 a ct g)[i]?))[i]?) = ((wX6 a ct (pu_ 34 9 (pu_ 46 9 g (sh_ 9 r)) r))).map some := rfl
set_option maxRecDepth 20000 in
theorem wv_X6_34_55 (a : Nat → Nat) (ct : Nat → ClassId) (g : St_) (r : St_) : ([12, 13, 14, 15, 16, 17, 18, 19, 20, 21, 22, 23, 24, 25, 26, 27, 28, 29, 30, 31, 32, 33, 34, 0, 1, 2, 3, 4, 5, 35, 36, 37, 38, 39, 40, 41, 42, 43, 6, 7, 8, 9, 10, 11, 44, 45, 46, 47, 48, 49, 50, 51, 52] : List Nat).map (fun i => ((wX3 (ca_ 9 (sh_ 34 a) (sh_ 55 a)) ct r ++ wX3 (sh_ 9 (ca_ 9 (sh_ 34 a) (sh_ 55 a))) ct (sh_ 9 r)) ++ ([0, 1, 2, 3, 4, 5, 6, 7, 8, 9, 10, 11, 12, 13, 14, 15, 16, 17, 18, 19, 20, 21, 22, 29, 30, 31, 32, 33, 34, 35, 36, 37, 44, 45, 46, 47, 48, 49, 50, 51, 52] : List Nat).filterMap (fun i => (wX6 a ct g)[i]?))[i]?) = ((wX6 a ct (pu_ 34 9 (pu_ 55 9 g (sh_ 9 r)) r))).map some := rfl
set_option maxRecDepth 20000 in
theorem wv_X6_46_34 (a : Nat → Nat) (ct : Nat → ClassId) (g : St_) (r : St_) : ([12, 13, 14, 15, 16, 17, 18, 19, 20, 21, 22, 23, 24, 25, 26, 27, 28, 29, 30, 31, 32, 33, 34, 6, 7, 8, 9, 10, 11, 35, 36, 37, 0, 1, 2, 3, 4, 5, 38, 39, 40, 41, 42, 43, 44, 45, 46, 47, 48, 49, 50, 51, 52] : List Nat).map (fun i => ((wX3 (ca_ 9 (sh_ 46 a) (sh_ 34 a)) ct r ++ wX3 (sh_ 9 (ca_ 9 (sh_ 46 a) (sh_ 34 a))) ct (sh_ 9 r)) ++ ([0, 1, 2, 3, 4, 5, 6, 7, 8, 9, 10, 11, 12, 13, 14, 15, 16, 17, 18, 19, 20, 21, 22, 29, 30, 31, 38, 39, 40, 41, 42, 43, 44, 45, 46, 47, 48, 49, 50, 51, 52] : List Nat).filterMap (fun i => (wX6 a ct g)[i]?))[i]?) = ((wX6 a ct (pu_ 46 9 (pu_ 34 9 g (sh_ 9 r)) r))).map some := rfl
set_option maxRecDepth 20000 in
theorem wv_X6_55_34 (a : Nat → Nat) (ct : Nat → ClassId) (g : St_) (r : St_) : ([12, 13, 14, 15, 16, 17, 18, 19, 20, 21, 22, 23, 24, 25, 26, 27, 28, 29, 30, 31, 32, 33, 34, 6, 7, 8, 9, 10, 11, 35, 36, 37, 38, 39, 40, 41, 42, 43, 0, 1, 2, 3, 4, 5, 44, 45, 46, 47, 48, 49, 50, 51, 52] : List Nat).map (fun i => ((wX3 (ca_ 9 (sh_ 55 a) (sh_ 34 a)) ct r ++ wX3 (sh_ 9 (ca_ 9 (sh_ 55 a) (sh_ 34 a))) ct (sh_ 9 r)) ++ ([0, 1, 2, 3, 4, 5, 6, 7, 8, 9, 10, 11, 12, 13, 14, 15, 16, 17, 18, 19, 20, 21, 22, 29, 30, 31, 32, 33, 34, 35, 36, 37, 44, 45, 46, 47, 48, 49, 50, 51, 52] : List Nat).filterMap (fun i => (wX6 a ct g)[i]?))[i]?) = ((wX6 a ct (pu_ 55 9 (pu_ 34 9 g (sh_ 9 r)) r))).map some := rfl
set_option maxRecDepth 20000 in
theorem wv_X6_70_26 (a : Nat → Nat) (ct : Nat → ClassId) (g : St_) (r : St_) : ([18, 19, 20, 21, 22, 23, 24, 25, 26, 27, 28, 29, 30, 31, 32, 33, 34, 4, 5, 6, 7, 8, 9, 10, 11, 12, 13, 14, 15, 16, 17, 35, 36, 37, 38, 39, 40, 41, 42, 43, 44, 45, 46, 47, 48, 49, 50, 51, 52, 0, 1, 2, 3] : List Nat).map (fun i => ((wX0 (ca_ 5 (sh_ 70 a) (sh_ 26 a)) ct r ++ wX5 (sh_ 5 (ca_ 5 (sh_ 70 a) (sh_ 26 a))) ct (sh_ 5 r)) ++ ([0, 1, 2, 3, 4, 5, 6, 7, 8, 9, 10, 11, 12, 13, 14, 15, 16, 31, 32, 33, 34, 35, 36, 37, 38, 39, 40, 41, 42, 43, 44, 45, 46, 47, 48] : List Nat).filterMap (fun i => (wX6 a ct g)[i]?))[i]?) = ((wX6 a ct (pu_ 70 5 (pu_ 26 19 g (sh_ 5 r)) r))).map some := rfl
