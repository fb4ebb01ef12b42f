-- ===== pure: numbers, loops =====
theorem k_le {a b : Nat} (ha : a < 2147483648) (hb : b < 2147483648) : (nI a ≤ nI b) = (a ≤ b) := propext (nI_leI ha hb)
theorem k_lt {a b : Nat} (ha : a < 2147483648) (hb : b < 2147483648) : (nI a < nI b) = (a < b) := propext (nI_ltI ha hb)
theorem k_eq {a b : Nat} (ha : a < 2147483648) (hb : b < 2147483648) : (nI a = nI b) = (a = b) := propext (nI_eq ha hb)
theorem k_cl {n : Nat} (h : n < 2147483648) : (nI n).toNatClampNeg = n := nI_clamp h
theorem k_ok {i n : Nat} (h : i < n) (hn : n < 2147483648) : okI (nI i) n = true := okI_of (vp_in_nI h hn)
theorem k_n0 {a : Nat} (h : a < 2147483648) : (nI a < (0 : Int32)) = False := eq_false (nI_pos h)
theorem k_p0 {a : Nat} (h : a < 2147483648) : ((0 : Int32) ≤ nI a) = True := eq_true (nI_pos' h)
theorem k_q0 {a : Nat} (h : a < 2147483648) : ((0 : Int32) < nI a) = (0 < a) := k_lt (a := 0) (by decide) h
theorem k_z0 {a : Nat} (h : a < 2147483648) : (nI a ≤ (0 : Int32)) = (a ≤ 0) := k_le (b := 0) h (by decide)
theorem k_e0 {a : Nat} (h : a < 2147483648) : (nI a = (0 : Int32)) = (a = 0) := k_eq (b := 0) h (by decide)
theorem k_m1 {a : Nat} (h : a < 2147483648) : (nI a = (-1 : Int32)) = False := eq_false (fun e => nI_pos h (by rw [e]; decide))
theorem k_gd {α : Type} (x : Option α) : gd true x = x := rfl
theorem k_add (a b : Nat) : nI a + nI b = nI (a + b) := nI_add a b
theorem k_mul (a b : Nat) : nI a * nI b = nI (a * b) := pk_mul a b
theorem k_sub {a b : Nat} (h : b ≤ a) : nI a - nI b = nI (a - b) := pk_sub h
theorem k_bs {α β : Type} (a : α) (f : α → Option β) : Option.bind (some a) f = f a := rfl
theorem k_sl {α β γ : Type} (f : α → γ) (h : β → γ) (a : α) : Sum.elim f h (Sum.inl a) = f a := rfl
theorem k_sr {α β γ : Type} (f : α → γ) (h : β → γ) (a : β) : Sum.elim f h (Sum.inr a) = h a := rfl
theorem k_B0 : isB 0 = true := rfl
theorem k_B1 : isB 1 = true := rfl
theorem k_10 : ((1 : Int32) = 0) = False := eq_false (by decide)
theorem k_01 : ((0 : Int32) = 1) = False := eq_false (by decide)
theorem k_00 : ((0 : Int32) = 0) = True := eq_true rfl
theorem k1_le {a : Nat} (h : a < 2147483648) : ((1 : Int32) ≤ nI a) = (1 ≤ a) := k_le (a := 1) (by decide) h
theorem k1_ge {a : Nat} (h : a < 2147483648) : (nI a ≤ (1 : Int32)) = (a ≤ 1) := k_le (b := 1) h (by decide)
theorem k1_lt {a : Nat} (h : a < 2147483648) : ((1 : Int32) < nI a) = (1 < a) := k_lt (a := 1) (by decide) h
theorem k1_gt {a : Nat} (h : a < 2147483648) : (nI a < (1 : Int32)) = (a < 1) := k_lt (b := 1) h (by decide)
theorem k1_eq {a : Nat} (h : a < 2147483648) : (nI a = (1 : Int32)) = (a = 1) := k_eq (b := 1) h (by decide)
theorem k1_ad (a : Nat) : nI a + (1 : Int32) = nI (a + 1) := nI_add a 1
theorem k1_mu (a : Nat) : (1 : Int32) * nI a = nI (1 * a) := pk_mul 1 a
theorem k1_sb {a : Nat} (h : 1 ≤ a) : nI a - (1 : Int32) = nI (a - 1) := pk_sub h
theorem k2x_le {a : Nat} (h : a < 2147483648) : ((2 : Int32) ≤ nI a) = (2 ≤ a) := k_le (a := 2) (by decide) h
theorem k2_ge {a : Nat} (h : a < 2147483648) : (nI a ≤ (2 : Int32)) = (a ≤ 2) := k_le (b := 2) h (by decide)
theorem k2x_lt {a : Nat} (h : a < 2147483648) : ((2 : Int32) < nI a) = (2 < a) := k_lt (a := 2) (by decide) h
theorem k2_gt {a : Nat} (h : a < 2147483648) : (nI a < (2 : Int32)) = (a < 2) := k_lt (b := 2) h (by decide)
theorem k2_eq {a : Nat} (h : a < 2147483648) : (nI a = (2 : Int32)) = (a = 2) := k_eq (b := 2) h (by decide)
theorem k2_ad (a : Nat) : nI a + (2 : Int32) = nI (a + 2) := nI_add a 2
theorem k2_mu (a : Nat) : (2 : Int32) * nI a = nI (2 * a) := pk_mul 2 a
theorem k2_sb {a : Nat} (h : 2 ≤ a) : nI a - (2 : Int32) = nI (a - 2) := pk_sub h
theorem k3_le {a : Nat} (h : a < 2147483648) : ((3 : Int32) ≤ nI a) = (3 ≤ a) := k_le (a := 3) (by decide) h
theorem k3_ge {a : Nat} (h : a < 2147483648) : (nI a ≤ (3 : Int32)) = (a ≤ 3) := k_le (b := 3) h (by decide)
theorem k3_lt {a : Nat} (h : a < 2147483648) : ((3 : Int32) < nI a) = (3 < a) := k_lt (a := 3) (by decide) h
theorem k3_gt {a : Nat} (h : a < 2147483648) : (nI a < (3 : Int32)) = (a < 3) := k_lt (b := 3) h (by decide)
theorem k3_eq {a : Nat} (h : a < 2147483648) : (nI a = (3 : Int32)) = (a = 3) := k_eq (b := 3) h (by decide)
theorem k3_ad (a : Nat) : nI a + (3 : Int32) = nI (a + 3) := nI_add a 3
theorem k3_mu (a : Nat) : (3 : Int32) * nI a = nI (3 * a) := pk_mul 3 a
theorem k3_sb {a : Nat} (h : 3 ≤ a) : nI a - (3 : Int32) = nI (a - 3) := pk_sub h
theorem k4_le {a : Nat} (h : a < 2147483648) : ((4 : Int32) ≤ nI a) = (4 ≤ a) := k_le (a := 4) (by decide) h
theorem k4_ge {a : Nat} (h : a < 2147483648) : (nI a ≤ (4 : Int32)) = (a ≤ 4) := k_le (b := 4) h (by decide)
theorem k4_lt {a : Nat} (h : a < 2147483648) : ((4 : Int32) < nI a) = (4 < a) := k_lt (a := 4) (by decide) h
theorem k4_gt {a : Nat} (h : a < 2147483648) : (nI a < (4 : Int32)) = (a < 4) := k_lt (b := 4) h (by decide)
theorem k4_eq {a : Nat} (h : a < 2147483648) : (nI a = (4 : Int32)) = (a = 4) := k_eq (b := 4) h (by decide)
theorem k4_ad (a : Nat) : nI a + (4 : Int32) = nI (a + 4) := nI_add a 4
theorem k4_mu (a : Nat) : (4 : Int32) * nI a = nI (4 * a) := pk_mul 4 a
theorem k4_sb {a : Nat} (h : 4 ≤ a) : nI a - (4 : Int32) = nI (a - 4) := pk_sub h
theorem k5_le {a : Nat} (h : a < 2147483648) : ((5 : Int32) ≤ nI a) = (5 ≤ a) := k_le (a := 5) (by decide) h
theorem k5_ge {a : Nat} (h : a < 2147483648) : (nI a ≤ (5 : Int32)) = (a ≤ 5) := k_le (b := 5) h (by decide)
theorem k5_lt {a : Nat} (h : a < 2147483648) : ((5 : Int32) < nI a) = (5 < a) := k_lt (a := 5) (by decide) h
theorem k5_gt {a : Nat} (h : a < 2147483648) : (nI a < (5 : Int32)) = (a < 5) := k_lt (b := 5) h (by decide)
theorem k5_eq {a : Nat} (h : a < 2147483648) : (nI a = (5 : Int32)) = (a = 5) := k_eq (b := 5) h (by decide)
theorem k5_ad (a : Nat) : nI a + (5 : Int32) = nI (a + 5) := nI_add a 5
theorem k5_mu (a : Nat) : (5 : Int32) * nI a = nI (5 * a) := pk_mul 5 a
theorem k5_sb {a : Nat} (h : 5 ≤ a) : nI a - (5 : Int32) = nI (a - 5) := pk_sub h
theorem k6_le {a : Nat} (h : a < 2147483648) : ((6 : Int32) ≤ nI a) = (6 ≤ a) := k_le (a := 6) (by decide) h
theorem k6_ge {a : Nat} (h : a < 2147483648) : (nI a ≤ (6 : Int32)) = (a ≤ 6) := k_le (b := 6) h (by decide)
theorem k6_lt {a : Nat} (h : a < 2147483648) : ((6 : Int32) < nI a) = (6 < a) := k_lt (a := 6) (by decide) h
theorem k6_gt {a : Nat} (h : a < 2147483648) : (nI a < (6 : Int32)) = (a < 6) := k_lt (b := 6) h (by decide)
theorem k6_eq {a : Nat} (h : a < 2147483648) : (nI a = (6 : Int32)) = (a = 6) := k_eq (b := 6) h (by decide)
theorem k6_ad (a : Nat) : nI a + (6 : Int32) = nI (a + 6) := nI_add a 6
theorem k6_mu (a : Nat) : (6 : Int32) * nI a = nI (6 * a) := pk_mul 6 a
theorem k6_sb {a : Nat} (h : 6 ≤ a) : nI a - (6 : Int32) = nI (a - 6) := pk_sub h
theorem k7_le {a : Nat} (h : a < 2147483648) : ((7 : Int32) ≤ nI a) = (7 ≤ a) := k_le (a := 7) (by decide) h
theorem k7_ge {a : Nat} (h : a < 2147483648) : (nI a ≤ (7 : Int32)) = (a ≤ 7) := k_le (b := 7) h (by decide)
theorem k7_lt {a : Nat} (h : a < 2147483648) : ((7 : Int32) < nI a) = (7 < a) := k_lt (a := 7) (by decide) h
theorem k7_gt {a : Nat} (h : a < 2147483648) : (nI a < (7 : Int32)) = (a < 7) := k_lt (b := 7) h (by decide)
theorem k7_eq {a : Nat} (h : a < 2147483648) : (nI a = (7 : Int32)) = (a = 7) := k_eq (b := 7) h (by decide)
theorem k7_ad (a : Nat) : nI a + (7 : Int32) = nI (a + 7) := nI_add a 7
theorem k7_mu (a : Nat) : (7 : Int32) * nI a = nI (7 * a) := pk_mul 7 a
theorem k7_sb {a : Nat} (h : 7 ≤ a) : nI a - (7 : Int32) = nI (a - 7) := pk_sub h
theorem k8_le {a : Nat} (h : a < 2147483648) : ((8 : Int32) ≤ nI a) = (8 ≤ a) := k_le (a := 8) (by decide) h
theorem k8_ge {a : Nat} (h : a < 2147483648) : (nI a ≤ (8 : Int32)) = (a ≤ 8) := k_le (b := 8) h (by decide)
theorem k8_lt {a : Nat} (h : a < 2147483648) : ((8 : Int32) < nI a) = (8 < a) := k_lt (a := 8) (by decide) h
theorem k8_gt {a : Nat} (h : a < 2147483648) : (nI a < (8 : Int32)) = (a < 8) := k_lt (b := 8) h (by decide)
theorem k8_eq {a : Nat} (h : a < 2147483648) : (nI a = (8 : Int32)) = (a = 8) := k_eq (b := 8) h (by decide)
theorem k8_ad (a : Nat) : nI a + (8 : Int32) = nI (a + 8) := nI_add a 8
theorem k8_mu (a : Nat) : (8 : Int32) * nI a = nI (8 * a) := pk_mul 8 a
theorem k8_sb {a : Nat} (h : 8 ≤ a) : nI a - (8 : Int32) = nI (a - 8) := pk_sub h
theorem k10_le {a : Nat} (h : a < 2147483648) : ((10 : Int32) ≤ nI a) = (10 ≤ a) := k_le (a := 10) (by decide) h
theorem k10_ge {a : Nat} (h : a < 2147483648) : (nI a ≤ (10 : Int32)) = (a ≤ 10) := k_le (b := 10) h (by decide)
theorem k10_lt {a : Nat} (h : a < 2147483648) : ((10 : Int32) < nI a) = (10 < a) := k_lt (a := 10) (by decide) h
theorem k10_gt {a : Nat} (h : a < 2147483648) : (nI a < (10 : Int32)) = (a < 10) := k_lt (b := 10) h (by decide)
theorem k10_eq {a : Nat} (h : a < 2147483648) : (nI a = (10 : Int32)) = (a = 10) := k_eq (b := 10) h (by decide)
theorem k10_ad (a : Nat) : nI a + (10 : Int32) = nI (a + 10) := nI_add a 10
theorem k10_mu (a : Nat) : (10 : Int32) * nI a = nI (10 * a) := pk_mul 10 a
theorem k10_sb {a : Nat} (h : 10 ≤ a) : nI a - (10 : Int32) = nI (a - 10) := pk_sub h
theorem k16_le {a : Nat} (h : a < 2147483648) : ((16 : Int32) ≤ nI a) = (16 ≤ a) := k_le (a := 16) (by decide) h
theorem k16_ge {a : Nat} (h : a < 2147483648) : (nI a ≤ (16 : Int32)) = (a ≤ 16) := k_le (b := 16) h (by decide)
theorem k16_lt {a : Nat} (h : a < 2147483648) : ((16 : Int32) < nI a) = (16 < a) := k_lt (a := 16) (by decide) h
theorem k16_gt {a : Nat} (h : a < 2147483648) : (nI a < (16 : Int32)) = (a < 16) := k_lt (b := 16) h (by decide)
theorem k16_eq {a : Nat} (h : a < 2147483648) : (nI a = (16 : Int32)) = (a = 16) := k_eq (b := 16) h (by decide)
theorem k16_ad (a : Nat) : nI a + (16 : Int32) = nI (a + 16) := nI_add a 16
theorem k16_mu (a : Nat) : (16 : Int32) * nI a = nI (16 * a) := pk_mul 16 a
theorem k16_sb {a : Nat} (h : 16 ≤ a) : nI a - (16 : Int32) = nI (a - 16) := pk_sub h
theorem k20_le {a : Nat} (h : a < 2147483648) : ((20 : Int32) ≤ nI a) = (20 ≤ a) := k_le (a := 20) (by decide) h
theorem k20_ge {a : Nat} (h : a < 2147483648) : (nI a ≤ (20 : Int32)) = (a ≤ 20) := k_le (b := 20) h (by decide)
theorem k20_lt {a : Nat} (h : a < 2147483648) : ((20 : Int32) < nI a) = (20 < a) := k_lt (a := 20) (by decide) h
theorem k20_gt {a : Nat} (h : a < 2147483648) : (nI a < (20 : Int32)) = (a < 20) := k_lt (b := 20) h (by decide)
theorem k20_eq {a : Nat} (h : a < 2147483648) : (nI a = (20 : Int32)) = (a = 20) := k_eq (b := 20) h (by decide)
theorem k20_ad (a : Nat) : nI a + (20 : Int32) = nI (a + 20) := nI_add a 20
theorem k20_mu (a : Nat) : (20 : Int32) * nI a = nI (20 * a) := pk_mul 20 a
theorem k20_sb {a : Nat} (h : 20 ≤ a) : nI a - (20 : Int32) = nI (a - 20) := pk_sub h
theorem k24_le {a : Nat} (h : a < 2147483648) : ((24 : Int32) ≤ nI a) = (24 ≤ a) := k_le (a := 24) (by decide) h
theorem k24_ge {a : Nat} (h : a < 2147483648) : (nI a ≤ (24 : Int32)) = (a ≤ 24) := k_le (b := 24) h (by decide)
theorem k24_lt {a : Nat} (h : a < 2147483648) : ((24 : Int32) < nI a) = (24 < a) := k_lt (a := 24) (by decide) h
theorem k24_gt {a : Nat} (h : a < 2147483648) : (nI a < (24 : Int32)) = (a < 24) := k_lt (b := 24) h (by decide)
theorem k24_eq {a : Nat} (h : a < 2147483648) : (nI a = (24 : Int32)) = (a = 24) := k_eq (b := 24) h (by decide)
theorem k24_ad (a : Nat) : nI a + (24 : Int32) = nI (a + 24) := nI_add a 24
theorem k24_mu (a : Nat) : (24 : Int32) * nI a = nI (24 * a) := pk_mul 24 a
theorem k24_sb {a : Nat} (h : 24 ≤ a) : nI a - (24 : Int32) = nI (a - 24) := pk_sub h
theorem k30_le {a : Nat} (h : a < 2147483648) : ((30 : Int32) ≤ nI a) = (30 ≤ a) := k_le (a := 30) (by decide) h
theorem k30_ge {a : Nat} (h : a < 2147483648) : (nI a ≤ (30 : Int32)) = (a ≤ 30) := k_le (b := 30) h (by decide)
theorem k30_lt {a : Nat} (h : a < 2147483648) : ((30 : Int32) < nI a) = (30 < a) := k_lt (a := 30) (by decide) h
theorem k30_gt {a : Nat} (h : a < 2147483648) : (nI a < (30 : Int32)) = (a < 30) := k_lt (b := 30) h (by decide)
theorem k30_eq {a : Nat} (h : a < 2147483648) : (nI a = (30 : Int32)) = (a = 30) := k_eq (b := 30) h (by decide)
theorem k30_ad (a : Nat) : nI a + (30 : Int32) = nI (a + 30) := nI_add a 30
theorem k30_mu (a : Nat) : (30 : Int32) * nI a = nI (30 * a) := pk_mul 30 a
theorem k30_sb {a : Nat} (h : 30 ≤ a) : nI a - (30 : Int32) = nI (a - 30) := pk_sub h
theorem k31_le {a : Nat} (h : a < 2147483648) : ((31 : Int32) ≤ nI a) = (31 ≤ a) := k_le (a := 31) (by decide) h
theorem k31_ge {a : Nat} (h : a < 2147483648) : (nI a ≤ (31 : Int32)) = (a ≤ 31) := k_le (b := 31) h (by decide)
theorem k31_lt {a : Nat} (h : a < 2147483648) : ((31 : Int32) < nI a) = (31 < a) := k_lt (a := 31) (by decide) h
theorem k31_gt {a : Nat} (h : a < 2147483648) : (nI a < (31 : Int32)) = (a < 31) := k_lt (b := 31) h (by decide)
theorem k31_eq {a : Nat} (h : a < 2147483648) : (nI a = (31 : Int32)) = (a = 31) := k_eq (b := 31) h (by decide)
theorem k31_ad (a : Nat) : nI a + (31 : Int32) = nI (a + 31) := nI_add a 31
theorem k31_mu (a : Nat) : (31 : Int32) * nI a = nI (31 * a) := pk_mul 31 a
theorem k31_sb {a : Nat} (h : 31 ≤ a) : nI a - (31 : Int32) = nI (a - 31) := pk_sub h
theorem k40_le {a : Nat} (h : a < 2147483648) : ((40 : Int32) ≤ nI a) = (40 ≤ a) := k_le (a := 40) (by decide) h
theorem k40_ge {a : Nat} (h : a < 2147483648) : (nI a ≤ (40 : Int32)) = (a ≤ 40) := k_le (b := 40) h (by decide)
theorem k40_lt {a : Nat} (h : a < 2147483648) : ((40 : Int32) < nI a) = (40 < a) := k_lt (a := 40) (by decide) h
theorem k40_gt {a : Nat} (h : a < 2147483648) : (nI a < (40 : Int32)) = (a < 40) := k_lt (b := 40) h (by decide)
theorem k40_eq {a : Nat} (h : a < 2147483648) : (nI a = (40 : Int32)) = (a = 40) := k_eq (b := 40) h (by decide)
theorem k40_ad (a : Nat) : nI a + (40 : Int32) = nI (a + 40) := nI_add a 40
theorem k40_mu (a : Nat) : (40 : Int32) * nI a = nI (40 * a) := pk_mul 40 a
theorem k40_sb {a : Nat} (h : 40 ≤ a) : nI a - (40 : Int32) = nI (a - 40) := pk_sub h
theorem k44_le {a : Nat} (h : a < 2147483648) : ((44 : Int32) ≤ nI a) = (44 ≤ a) := k_le (a := 44) (by decide) h
theorem k44_ge {a : Nat} (h : a < 2147483648) : (nI a ≤ (44 : Int32)) = (a ≤ 44) := k_le (b := 44) h (by decide)
theorem k44_lt {a : Nat} (h : a < 2147483648) : ((44 : Int32) < nI a) = (44 < a) := k_lt (a := 44) (by decide) h
theorem k44_gt {a : Nat} (h : a < 2147483648) : (nI a < (44 : Int32)) = (a < 44) := k_lt (b := 44) h (by decide)
theorem k44_eq {a : Nat} (h : a < 2147483648) : (nI a = (44 : Int32)) = (a = 44) := k_eq (b := 44) h (by decide)
theorem k44_ad (a : Nat) : nI a + (44 : Int32) = nI (a + 44) := nI_add a 44
theorem k44_mu (a : Nat) : (44 : Int32) * nI a = nI (44 * a) := pk_mul 44 a
theorem k44_sb {a : Nat} (h : 44 ≤ a) : nI a - (44 : Int32) = nI (a - 44) := pk_sub h
theorem k48_le {a : Nat} (h : a < 2147483648) : ((48 : Int32) ≤ nI a) = (48 ≤ a) := k_le (a := 48) (by decide) h
theorem k48_ge {a : Nat} (h : a < 2147483648) : (nI a ≤ (48 : Int32)) = (a ≤ 48) := k_le (b := 48) h (by decide)
theorem k48_lt {a : Nat} (h : a < 2147483648) : ((48 : Int32) < nI a) = (48 < a) := k_lt (a := 48) (by decide) h
theorem k48_gt {a : Nat} (h : a < 2147483648) : (nI a < (48 : Int32)) = (a < 48) := k_lt (b := 48) h (by decide)
theorem k48_eq {a : Nat} (h : a < 2147483648) : (nI a = (48 : Int32)) = (a = 48) := k_eq (b := 48) h (by decide)
theorem k48_ad (a : Nat) : nI a + (48 : Int32) = nI (a + 48) := nI_add a 48
theorem k48_mu (a : Nat) : (48 : Int32) * nI a = nI (48 * a) := pk_mul 48 a
theorem k48_sb {a : Nat} (h : 48 ≤ a) : nI a - (48 : Int32) = nI (a - 48) := pk_sub h
theorem k57_le {a : Nat} (h : a < 2147483648) : ((57 : Int32) ≤ nI a) = (57 ≤ a) := k_le (a := 57) (by decide) h
theorem k57_ge {a : Nat} (h : a < 2147483648) : (nI a ≤ (57 : Int32)) = (a ≤ 57) := k_le (b := 57) h (by decide)
theorem k57_lt {a : Nat} (h : a < 2147483648) : ((57 : Int32) < nI a) = (57 < a) := k_lt (a := 57) (by decide) h
theorem k57_gt {a : Nat} (h : a < 2147483648) : (nI a < (57 : Int32)) = (a < 57) := k_lt (b := 57) h (by decide)
theorem k57_eq {a : Nat} (h : a < 2147483648) : (nI a = (57 : Int32)) = (a = 57) := k_eq (b := 57) h (by decide)
theorem k57_ad (a : Nat) : nI a + (57 : Int32) = nI (a + 57) := nI_add a 57
theorem k57_mu (a : Nat) : (57 : Int32) * nI a = nI (57 * a) := pk_mul 57 a
theorem k57_sb {a : Nat} (h : 57 ≤ a) : nI a - (57 : Int32) = nI (a - 57) := pk_sub h
theorem k59_le {a : Nat} (h : a < 2147483648) : ((59 : Int32) ≤ nI a) = (59 ≤ a) := k_le (a := 59) (by decide) h
theorem k59_ge {a : Nat} (h : a < 2147483648) : (nI a ≤ (59 : Int32)) = (a ≤ 59) := k_le (b := 59) h (by decide)
theorem k59_lt {a : Nat} (h : a < 2147483648) : ((59 : Int32) < nI a) = (59 < a) := k_lt (a := 59) (by decide) h
theorem k59_gt {a : Nat} (h : a < 2147483648) : (nI a < (59 : Int32)) = (a < 59) := k_lt (b := 59) h (by decide)
theorem k59_eq {a : Nat} (h : a < 2147483648) : (nI a = (59 : Int32)) = (a = 59) := k_eq (b := 59) h (by decide)
theorem k59_ad (a : Nat) : nI a + (59 : Int32) = nI (a + 59) := nI_add a 59
theorem k59_mu (a : Nat) : (59 : Int32) * nI a = nI (59 * a) := pk_mul 59 a
theorem k59_sb {a : Nat} (h : 59 ≤ a) : nI a - (59 : Int32) = nI (a - 59) := pk_sub h
theorem k65536_le {a : Nat} (h : a < 2147483648) : ((65536 : Int32) ≤ nI a) = (65536 ≤ a) := k_le (a := 65536) (by decide) h
theorem k65536_ge {a : Nat} (h : a < 2147483648) : (nI a ≤ (65536 : Int32)) = (a ≤ 65536) := k_le (b := 65536) h (by decide)
theorem k65536_lt {a : Nat} (h : a < 2147483648) : ((65536 : Int32) < nI a) = (65536 < a) := k_lt (a := 65536) (by decide) h
theorem k65536_gt {a : Nat} (h : a < 2147483648) : (nI a < (65536 : Int32)) = (a < 65536) := k_lt (b := 65536) h (by decide)
theorem k65536_eq {a : Nat} (h : a < 2147483648) : (nI a = (65536 : Int32)) = (a = 65536) := k_eq (b := 65536) h (by decide)
theorem k65536_ad (a : Nat) : nI a + (65536 : Int32) = nI (a + 65536) := nI_add a 65536
theorem k65536_mu (a : Nat) : (65536 : Int32) * nI a = nI (65536 * a) := pk_mul 65536 a
theorem k65536_sb {a : Nat} (h : 65536 ≤ a) : nI a - (65536 : Int32) = nI (a - 65536) := pk_sub h
theorem k99_le {a : Nat} (h : a < 2147483648) : ((99 : Int32) ≤ nI a) = (99 ≤ a) := k_le (a := 99) (by decide) h
theorem k99_ge {a : Nat} (h : a < 2147483648) : (nI a ≤ (99 : Int32)) = (a ≤ 99) := k_le (b := 99) h (by decide)
theorem k99_lt {a : Nat} (h : a < 2147483648) : ((99 : Int32) < nI a) = (99 < a) := k_lt (a := 99) (by decide) h
theorem k99_gt {a : Nat} (h : a < 2147483648) : (nI a < (99 : Int32)) = (a < 99) := k_lt (b := 99) h (by decide)
theorem k99_eq {a : Nat} (h : a < 2147483648) : (nI a = (99 : Int32)) = (a = 99) := k_eq (b := 99) h (by decide)
theorem k99_ad (a : Nat) : nI a + (99 : Int32) = nI (a + 99) := nI_add a 99
theorem k99_mu (a : Nat) : (99 : Int32) * nI a = nI (99 * a) := pk_mul 99 a
theorem k99_sb {a : Nat} (h : 99 ≤ a) : nI a - (99 : Int32) = nI (a - 99) := pk_sub h
theorem k100_le {a : Nat} (h : a < 2147483648) : ((100 : Int32) ≤ nI a) = (100 ≤ a) := k_le (a := 100) (by decide) h
theorem k100_ge {a : Nat} (h : a < 2147483648) : (nI a ≤ (100 : Int32)) = (a ≤ 100) := k_le (b := 100) h (by decide)
theorem k100_lt {a : Nat} (h : a < 2147483648) : ((100 : Int32) < nI a) = (100 < a) := k_lt (a := 100) (by decide) h
theorem k100_gt {a : Nat} (h : a < 2147483648) : (nI a < (100 : Int32)) = (a < 100) := k_lt (b := 100) h (by decide)
theorem k100_eq {a : Nat} (h : a < 2147483648) : (nI a = (100 : Int32)) = (a = 100) := k_eq (b := 100) h (by decide)
theorem k100_ad (a : Nat) : nI a + (100 : Int32) = nI (a + 100) := nI_add a 100
theorem k100_mu (a : Nat) : (100 : Int32) * nI a = nI (100 * a) := pk_mul 100 a
theorem k100_sb {a : Nat} (h : 100 ≤ a) : nI a - (100 : Int32) = nI (a - 100) := pk_sub h
theorem k500_le {a : Nat} (h : a < 2147483648) : ((500 : Int32) ≤ nI a) = (500 ≤ a) := k_le (a := 500) (by decide) h
theorem k500_ge {a : Nat} (h : a < 2147483648) : (nI a ≤ (500 : Int32)) = (a ≤ 500) := k_le (b := 500) h (by decide)
theorem k500_lt {a : Nat} (h : a < 2147483648) : ((500 : Int32) < nI a) = (500 < a) := k_lt (a := 500) (by decide) h
theorem k500_gt {a : Nat} (h : a < 2147483648) : (nI a < (500 : Int32)) = (a < 500) := k_lt (b := 500) h (by decide)
theorem k500_eq {a : Nat} (h : a < 2147483648) : (nI a = (500 : Int32)) = (a = 500) := k_eq (b := 500) h (by decide)
theorem k500_ad (a : Nat) : nI a + (500 : Int32) = nI (a + 500) := nI_add a 500
theorem k500_mu (a : Nat) : (500 : Int32) * nI a = nI (500 * a) := pk_mul 500 a
theorem k500_sb {a : Nat} (h : 500 ≤ a) : nI a - (500 : Int32) = nI (a - 500) := pk_sub h
theorem k720_le {a : Nat} (h : a < 2147483648) : ((720 : Int32) ≤ nI a) = (720 ≤ a) := k_le (a := 720) (by decide) h
theorem k720_ge {a : Nat} (h : a < 2147483648) : (nI a ≤ (720 : Int32)) = (a ≤ 720) := k_le (b := 720) h (by decide)
theorem k720_lt {a : Nat} (h : a < 2147483648) : ((720 : Int32) < nI a) = (720 < a) := k_lt (a := 720) (by decide) h
theorem k720_gt {a : Nat} (h : a < 2147483648) : (nI a < (720 : Int32)) = (a < 720) := k_lt (b := 720) h (by decide)
theorem k720_eq {a : Nat} (h : a < 2147483648) : (nI a = (720 : Int32)) = (a = 720) := k_eq (b := 720) h (by decide)
theorem k720_ad (a : Nat) : nI a + (720 : Int32) = nI (a + 720) := nI_add a 720
theorem k720_mu (a : Nat) : (720 : Int32) * nI a = nI (720 * a) := pk_mul 720 a
theorem k720_sb {a : Nat} (h : 720 ≤ a) : nI a - (720 : Int32) = nI (a - 720) := pk_sub h
theorem k10000_le {a : Nat} (h : a < 2147483648) : ((10000 : Int32) ≤ nI a) = (10000 ≤ a) := k_le (a := 10000) (by decide) h
theorem k10000_ge {a : Nat} (h : a < 2147483648) : (nI a ≤ (10000 : Int32)) = (a ≤ 10000) := k_le (b := 10000) h (by decide)
theorem k10000_lt {a : Nat} (h : a < 2147483648) : ((10000 : Int32) < nI a) = (10000 < a) := k_lt (a := 10000) (by decide) h
theorem k10000_gt {a : Nat} (h : a < 2147483648) : (nI a < (10000 : Int32)) = (a < 10000) := k_lt (b := 10000) h (by decide)
theorem k10000_eq {a : Nat} (h : a < 2147483648) : (nI a = (10000 : Int32)) = (a = 10000) := k_eq (b := 10000) h (by decide)
theorem k10000_ad (a : Nat) : nI a + (10000 : Int32) = nI (a + 10000) := nI_add a 10000
theorem k10000_mu (a : Nat) : (10000 : Int32) * nI a = nI (10000 * a) := pk_mul 10000 a
theorem k10000_sb {a : Nat} (h : 10000 ≤ a) : nI a - (10000 : Int32) = nI (a - 10000) := pk_sub h
theorem k100000_le {a : Nat} (h : a < 2147483648) : ((100000 : Int32) ≤ nI a) = (100000 ≤ a) := k_le (a := 100000) (by decide) h
theorem k100000_ge {a : Nat} (h : a < 2147483648) : (nI a ≤ (100000 : Int32)) = (a ≤ 100000) := k_le (b := 100000) h (by decide)
theorem k100000_lt {a : Nat} (h : a < 2147483648) : ((100000 : Int32) < nI a) = (100000 < a) := k_lt (a := 100000) (by decide) h
theorem k100000_gt {a : Nat} (h : a < 2147483648) : (nI a < (100000 : Int32)) = (a < 100000) := k_lt (b := 100000) h (by decide)
theorem k100000_eq {a : Nat} (h : a < 2147483648) : (nI a = (100000 : Int32)) = (a = 100000) := k_eq (b := 100000) h (by decide)
theorem k100000_ad (a : Nat) : nI a + (100000 : Int32) = nI (a + 100000) := nI_add a 100000
theorem k100000_mu (a : Nat) : (100000 : Int32) * nI a = nI (100000 * a) := pk_mul 100000 a
theorem k100000_sb {a : Nat} (h : 100000 ≤ a) : nI a - (100000 : Int32) = nI (a - 100000) := pk_sub h
theorem k54_ad (a : Nat) : nI a + (54 : Int32) = nI (a + 54) := nI_add a 54
theorem k54_mu (a : Nat) : (54 : Int32) * nI a = nI (54 * a) := pk_mul 54 a
theorem k64_ad (a : Nat) : nI a + (64 : Int32) = nI (a + 64) := nI_add a 64
theorem k64_mu (a : Nat) : (64 : Int32) * nI a = nI (64 * a) := pk_mul 64 a
theorem k65_ad (a : Nat) : nI a + (65 : Int32) = nI (a + 65) := nI_add a 65
theorem k65_mu (a : Nat) : (65 : Int32) * nI a = nI (65 * a) := pk_mul 65 a
theorem k66_ad (a : Nat) : nI a + (66 : Int32) = nI (a + 66) := nI_add a 66
theorem k66_mu (a : Nat) : (66 : Int32) * nI a = nI (66 * a) := pk_mul 66 a
theorem k70_ad (a : Nat) : nI a + (70 : Int32) = nI (a + 70) := nI_add a 70
theorem k70_mu (a : Nat) : (70 : Int32) * nI a = nI (70 * a) := pk_mul 70 a
/-- a counted loop, with ways out -/
theorem loopI {α β : Type} (F : Nat → Nat → α → Option β) (E : Nat) (P : Nat → α → Prop) (Q : β → Prop)
    (hs : ∀ n i a, i < E → P i a → (∃ a', P (i + 1) a' ∧ F (n + 1) i a = F n (i + 1) a') ∨ ∃ o, Q o ∧ F (n + 1) i a = some o)
    (he : ∀ n a, P E a → ∃ o, Q o ∧ F (n + 1) E a = some o) : ∀ n i a, i ≤ E → E < n + i → P i a → ∃ o, Q o ∧ F n i a = some o := by
  intro n
  induction n with
  | zero => intro i a h1 h2; omega
  | succ n ih =>
    intro i a h1 h2 hP
    rcases Nat.lt_or_ge i E with h | h
    · rcases hs n i a h hP with ⟨a', hP', e⟩ | ⟨o, hQ, e⟩
      · rw [e]
        exact ih (i + 1) a' (by omega) (by omega) hP'
      · exact ⟨o, hQ, e⟩
    · have : i = E := by omega
      subst this
      exact he n a hP
/-- a counted loop that runs to its end -/
theorem loopF {α β : Type} (F : Nat → Nat → α → Option β) (E : Nat) (P : Nat → α → Prop)
    (hs : ∀ n i a, i < E → P i a → ∃ a', P (i + 1) a' ∧ F (n + 1) i a = F n (i + 1) a') : ∀ n i a, i ≤ E → E < n + i → P i a → ∃ m a', P E a' ∧ F n i a = F (m + 1) E a' := by
  intro n
  induction n with
  | zero => intro i a h1 h2; omega
  | succ n ih =>
    intro i a h1 h2 hP
    rcases Nat.lt_or_ge i E with h | h
    · obtain ⟨a', hP', e⟩ := hs n i a h hP
      rw [e]
      exact ih (i + 1) a' (by omega) (by omega) hP'
    · have : i = E := by omega
      subst this
      exact ⟨n, a, hP, rfl⟩
theorem k_in (N : Nat) (v a b : Int64) : f_X7_in N v a b = some (if a ≤ v ∧ v ≤ b then 1 else 0) := by
  unfold f_X7_in
  by_cases h1 : v < a
  · rw [if_pos ((lg_cmp_lt v a).mpr h1), if_neg (fun h => absurd h.1 (Int64.not_le.mpr h1))]
  · rw [if_neg (fun h => h1 ((lg_cmp_lt v a).mp h))]
    by_cases h2 : b < v
    · rw [if_pos ((lg_cmp_gt v b).mpr h2), if_neg (fun h => absurd h.2 (Int64.not_le.mpr h2))]
    · rw [if_neg (fun h => h2 ((lg_cmp_gt v b).mp h)), if_pos ⟨Int64.not_lt.mp h1, Int64.not_lt.mp h2⟩]
theorem k_in1 (N : Nat) {v a b : Int64} (h : a ≤ v ∧ v ≤ b) : f_X7_in N v a b = some 1 := by rw [k_in, if_pos h]
theorem k_in0 (N : Nat) {v a b : Int64} (h : ¬ (a ≤ v ∧ v ≤ b)) : f_X7_in N v a b = some 0 := by rw [k_in, if_neg h]
theorem k_wle (a b : Int32) : a.toInt64 ≤ b.toInt64 ↔ a ≤ b := by
  rw [Int64.le_iff_toInt_le, Int32.le_iff_toInt_le, Int32.toInt_toInt64, Int32.toInt_toInt64]
/-- of a number from outside: one of n, or not -/
theorem k_inN (N : Nat) {x : Int32} {n : Nat} (hn : n < 1073741824) : (∃ j, j < n ∧ x = nI j ∧ f_X7_in N x.toInt64 (0 : Int64) ((nI n - (1 : Int32)).toInt64) = some 1) ∨ ((x < 0 ∨ nI n ≤ x) ∧ f_X7_in N x.toInt64 (0 : Int64) ((nI n - (1 : Int32)).toInt64) = some 0) := by
  have e1 : (nI n - (1 : Int32)).toInt = (n : Int) - 1 := pk_sub_toInt (a := n) (b := 1) (by omega) (by omega)
  have e2 : (nI n).toInt = (n : Int) := nI_toInt (by omega)
  have e0 : ∀ y : Int32, (0 : Int64) ≤ y.toInt64 ↔ (0 : Int32) ≤ y := fun y => k_wle 0 y
  rcases pk_ix x (n := n) (by omega) with h | h | ⟨j, hj, rfl⟩
  · exact Or.inr ⟨Or.inl h, k_in0 N (fun q => absurd ((e0 x).mp q.1) (Int32.not_le.mpr h))⟩
  · refine Or.inr ⟨Or.inr h, k_in0 N (fun q => ?_)⟩
    have q2 := (k_wle _ _).mp q.2
    rw [Int32.le_iff_toInt_le] at h q2
    omega
  · refine Or.inl ⟨j, hj, rfl, k_in1 N ⟨(e0 _).mpr (nI_pos' (by omega)), (k_wle _ _).mpr ?_⟩⟩
    rw [Int32.le_iff_toInt_le, e1, nI_toInt (by omega)]
    omega
theorem k_inC (N : Nat) {x : Int32} (lo hi : Nat) (h : lo ≤ hi) (hh : hi < 2147483648) : (∃ j, lo ≤ j ∧ j ≤ hi ∧ x = nI j ∧ f_X7_in N x.toInt64 (nI lo).toInt64 (nI hi).toInt64 = some 1) ∨ ((x < nI lo ∨ nI hi < x) ∧ f_X7_in N x.toInt64 (nI lo).toInt64 (nI hi).toInt64 = some 0) := by
  by_cases h1 : nI lo ≤ x
  · by_cases h2 : x ≤ nI hi
    · have h0 : ¬ x < 0 := fun q => by
        rw [Int32.le_iff_toInt_le, nI_toInt (by omega)] at h1
        rw [Int32.lt_iff_toInt_lt] at q
        have : (0 : Int32).toInt = 0 := rfl
        omega
      obtain ⟨j, hj, rfl⟩ := nI_of h0
      refine Or.inl ⟨j, ?_, ?_, rfl, k_in1 N ⟨(k_wle _ _).mpr h1, (k_wle _ _).mpr h2⟩⟩
      · exact (nI_leI (by omega) (by omega)).mp h1
      · exact (nI_leI (by omega) (by omega)).mp h2
    · exact Or.inr ⟨Or.inr (Int32.not_le.mp h2), k_in0 N (fun q => h2 ((k_wle _ _).mp q.2))⟩
  · exact Or.inr ⟨Or.inl (Int32.not_le.mp h1), k_in0 N (fun q => h1 ((k_wle _ _).mp q.1))⟩
