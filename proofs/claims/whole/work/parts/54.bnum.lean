theorem mx4_at {f : Nat → Nat → Nat → Nat → Nat} {Q : Nat} (h : ¬ mxF (fun a => mxF (fun b => mxF (fun c => mxF (fun d => f a b c d) Q) Q) Q) Q = 0) : ∃ a b c d, a < Q ∧ b < Q ∧ c < Q ∧ d < Q ∧ f a b c d = mxF (fun a => mxF (fun b => mxF (fun c => mxF (fun d => f a b c d) Q) Q) Q) Q := by
  obtain ⟨a, ha, h1⟩ := mx_at h
  have z1 : ¬ mxF (fun b => mxF (fun c => mxF (fun d => f a b c d) Q) Q) Q = 0 := fun z => h (h1.symm.trans z)
  obtain ⟨b, hb, h2⟩ := mx_at z1
  have z2 : ¬ mxF (fun c => mxF (fun d => f a b c d) Q) Q = 0 := fun z => z1 (h2.symm.trans z)
  obtain ⟨c, hc, h3⟩ := mx_at z2
  have z3 : ¬ mxF (fun d => f a b c d) Q = 0 := fun z => z2 (h3.symm.trans z)
  obtain ⟨d, hd, h4⟩ := mx_at z3
  exact ⟨a, b, c, d, ha, hb, hc, hd, h4.trans (h3.trans (h2.trans h1))⟩
theorem mx4_ge {f : Nat → Nat → Nat → Nat → Nat} {Q a b c d : Nat} (ha : a < Q) (hb : b < Q) (hc : c < Q) (hd : d < Q) : f a b c d ≤ mxF (fun a => mxF (fun b => mxF (fun c => mxF (fun d => f a b c d) Q) Q) Q) Q :=
  Nat.le_trans (mx_ge (f := fun d => f a b c d) hd) (Nat.le_trans (mx_ge (f := fun c => mxF (fun d => f a b c d) Q) hc) (Nat.le_trans (mx_ge (f := fun b => mxF (fun c => mxF (fun d => f a b c d) Q) Q) hb) (mx_ge (f := fun a => mxF (fun b => mxF (fun c => mxF (fun d => f a b c d) Q) Q) Q) ha)))
def gw (aim : Int32) (n : Nat) : Nat := if aim = 0 then 1 else if n ≤ 8 then n + 1 else 10
def rev4 (C : Nat) : Nat := 8 * bt2 C 0 + 4 * bt2 C 1 + 2 * bt2 C 2 + bt2 C 3
/-- the key of the colours of one number -/
def g4 (aim : Int32) (n C : Nat) : Nat := 2 ^ 53 * (gw aim n * popc C) + 2 ^ (49 - 4 * n) * rev4 C
theorem kg_n {aim : Int32} {n c : Nat} (hn : n < 13) (hc : c < 4) : kg aim (4 * n + c) = 2 ^ 53 * gw aim n + 2 ^ (49 - 4 * n) * 2 ^ (3 - c) := by
  unfold kg gv gw
  rw [show (4 * n + c) / 4 = n by omega, ← Nat.pow_add, show 49 - 4 * n + (3 - c) = 52 - (4 * n + c) by omega]
theorem popc_bt (x : Nat) : popc x = bt2 x 0 + bt2 x 1 + bt2 x 2 + bt2 x 3 := by
  unfold popc bt2
  show _ = x / 1 % 2 + x / 2 % 2 + x / 4 % 2 + x / 8 % 2
  rw [Nat.div_one]
theorem g4_sum {aim : Int32} {n C : Nat} (hn : n < 13) : bt2 C 0 * kg aim (4 * n) + bt2 C 1 * kg aim (4 * n + 1) + bt2 C 2 * kg aim (4 * n + 2) + bt2 C 3 * kg aim (4 * n + 3) = g4 aim n C := by
  have k0 := kg_n (aim := aim) hn (show 0 < 4 by decide)
  rw [Nat.add_zero] at k0
  rw [k0, kg_n hn (show 1 < 4 by decide), kg_n hn (show 2 < 4 by decide), kg_n hn (show 3 < 4 by decide)]
  unfold g4 rev4
  rw [popc_bt]
  have h0 := bt2_lt C 0
  have h1 := bt2_lt C 1
  have h2 := bt2_lt C 2
  have h3 := bt2_lt C 3
  generalize bt2 C 0 = b0 at *
  generalize bt2 C 1 = b1 at *
  generalize bt2 C 2 = b2 at *
  generalize bt2 C 3 = b3 at *
  generalize gw aim n = g
  generalize 2 ^ (49 - 4 * n) = P
  show b0 * (_ + P * 8) + b1 * (_ + P * 4) + b2 * (_ + P * 2) + b3 * (_ + P * 1) = _
  have a0 : b0 = 0 ∨ b0 = 1 := by omega
  have a1 : b1 = 0 ∨ b1 = 1 := by omega
  have a2 : b2 = 0 ∨ b2 = 1 := by omega
  have a3 : b3 = 0 ∨ b3 = 1 := by omega
  rcases a0 with rfl | rfl <;> rcases a1 with rfl | rfl <;> rcases a2 with rfl | rfl <;> rcases a3 with rfl | rfl <;> omega
theorem g4_lt {aim : Int32} {n C : Nat} (hn : n < 13) : g4 aim n C < 2 ^ 62 := by
  unfold g4 rev4
  rw [popc_bt]
  have h0 := bt2_lt C 0
  have h1 := bt2_lt C 1
  have h2 := bt2_lt C 2
  have h3 := bt2_lt C 3
  have hg : gw aim n ≤ 10 := by unfold gw; split <;> (try split) <;> omega
  have e1 : gw aim n * (bt2 C 0 + bt2 C 1 + bt2 C 2 + bt2 C 3) ≤ 10 * 4 := Nat.mul_le_mul hg (by omega)
  have e2 : 2 ^ (49 - 4 * n) * (8 * bt2 C 0 + 4 * bt2 C 1 + 2 * bt2 C 2 + bt2 C 3) ≤ 2 ^ 49 * 15 := Nat.mul_le_mul (Nat.pow_le_pow_right (by decide) (by omega)) (by omega)
  omega
/-- without the j last colours -/
def drH (o : Nat) : Nat := if 8 ≤ o then o - 8 else if 4 ≤ o then o - 4 else if 2 ≤ o then o - 2 else 0
def drC (o : Nat) : Nat → Nat
  | 0 => o
  | j + 1 => drH (drC o j)
theorem sg_S1 : ∀ mi, mi < 5 → ∀ o, o < 16 → ∀ m, m < 3 → ((nI m < nI mi ∨ (sgS (nI mi) (nI o) m).2 = 0) ↔ (m < mi ∨ popc o + mi < m)) := by decide +kernel
theorem sg_S2 : ∀ mi, mi < 5 → ∀ o, o < 16 → ∀ m, m < 3 → mi ≤ m → m ≤ popc o + mi → (sgS (nI mi) (nI o) m).1 = nI (drC o (m - mi)) := by decide +kernel
theorem dr_p : ∀ o, o < 16 → ∀ j, j < 3 → drC o j < 16 ∧ drC o j &&& o = drC o j := by decide +kernel
theorem dr_q : ∀ o, o < 16 → ∀ j, j < 3 → j ≤ popc o → popc (drC o j) + j = popc o := by decide +kernel
theorem dr_best : ∀ o, o < 16 → ∀ C, C < 16 → C &&& o = C → ∀ j, j < 3 → popc C + j = popc o → rev4 C ≤ rev4 (drC o j) := by decide +kernel
theorem gn_0 : ∀ n, n < 13 → ∀ C, C < 16 → j_X6_gainOf 1 (nI n) (nI C) = lN (g4 0 n C) := by decide +kernel
theorem gn_1 : ∀ n, n < 13 → ∀ C, C < 16 → j_X6_gainOf (j_X0_worthOfNumber (nI n)) (nI n) (nI C) = lN (g4 1 n C) := by decide +kernel
theorem gn_a {aim : Int32} (ha : aim = 0 ∨ aim = 1) {n C : Nat} (hn : n < 13) (hC : C < 16) : j_X6_gainOf (unW (bwA aim) n) (nI n) (nI C) = lN (g4 aim n C) := by
  rcases ha with rfl | rfl
  · exact gn_0 n hn C hC
  · exact gn_1 n hn C hC
theorem lN_nn {a : Nat} (h : a < 2 ^ 62) : ¬ lN a < 0 := by
  intro z
  have hl : ∀ {a b : Int64}, a < b ↔ a.toInt < b.toInt := fun {a b} => by first | exact Int64.lt_iff_toInt_lt | exact Iff.rfl
  rw [hl, pf_lI (by omega)] at z
  have : (0 : Int64).toInt = 0 := rfl
  omega
theorem lM1 : (-1 : Int64) < 0 := by decide
/-- what a number's steps gain, by the jokers used -/
theorem sgV_no {un nx : Int32} {mi o m : Nat} (hmi : mi < 5) (ho : o < 16) (hm : m < 3) (h : ¬ (mi ≤ m ∧ m ≤ popc o + mi)) : sgV un nx (nI mi) (nI o) m < 0 := by
  have h1 := (sg_S1 mi hmi o ho m hm).mpr (by omega)
  unfold sgV
  rcases h1 with z | z
  · rw [if_pos z]; exact lM1
  · split
    · exact lM1
    · first | exact lM1 | (rw [if_pos z]; exact lM1)
theorem sgV_y {aim : Int32} (ha : aim = 0 ∨ aim = 1) {n mi o m : Nat} (hn : n < 13) (hmi : mi < 5) (ho : o < 16) (hm : m < 3) (h1 : mi ≤ m) (h2 : m ≤ popc o + mi) : sgV (unW (bwA aim) n) (nI n) (nI mi) (nI o) m = lN (g4 aim n (drC o (m - mi))) := by
  have s1 := sg_S1 mi hmi o ho m hm
  have t1 := sg_S2 mi hmi o ho m hm h1 h2
  have t2 := (dr_p o ho (m - mi) (by omega)).1
  have hno : ¬ (nI m < nI mi ∨ (sgS (nI mi) (nI o) m).2 = 0) := fun z => by have := s1.mp z; omega
  unfold sgV
  rw [if_neg (fun z => hno (Or.inl z)), if_neg (fun z => hno (Or.inr z)), t1]
  exact gn_a ha hn t2
def wgT (g : Int64) : Nat := 1 + g.toInt.toNat
theorem wg_l {a : Nat} (h : a < 2 ^ 62) : wgT (lN a) = 1 + a := by
  unfold wgT
  rw [pf_lI (by omega)]
  rfl
theorem bt_and : ∀ a, a < 16 → ∀ b, b < 16 → ∀ c, c < 4 → bt2 (a &&& b) c = bt2 a c * bt2 b c := by decide +kernel
theorem bt_nor : ∀ a, a < 16 → ∀ b, b < 16 → ∀ c, c < 4 → bt2 (15 - (a ||| b)) c = (1 - bt2 a c) * (1 - bt2 b c) := by decide +kernel
theorem bt_sub : ∀ a, a < 16 → ∀ b, b < 16 → a &&& b = a → ∀ c, c < 4 → bt2 a c = 1 → bt2 b c = 1 := by decide +kernel
theorem sub_bt : ∀ a, a < 16 → ∀ b, b < 16 → ((bt2 a 0 = 1 → bt2 b 0 = 1) ∧ (bt2 a 1 = 1 → bt2 b 1 = 1) ∧ (bt2 a 2 = 1 → bt2 b 2 = 1) ∧ (bt2 a 3 = 1 → bt2 b 3 = 1)) → a &&& b = a := by decide +kernel
theorem bt_mk : ∀ a, a < 2 → ∀ b, b < 2 → ∀ c, c < 2 → ∀ d, d < 2 → a + 2 * b + 4 * c + 8 * d < 16 ∧ bt2 (a + 2 * b + 4 * c + 8 * d) 0 = a ∧ bt2 (a + 2 * b + 4 * c + 8 * d) 1 = b ∧ bt2 (a + 2 * b + 4 * c + 8 * d) 2 = c ∧ bt2 (a + 2 * b + 4 * c + 8 * d) 3 = d := by
  intro a ha b hb c hc d hd
  have ea : a = 0 ∨ a = 1 := by omega
  have eb : b = 0 ∨ b = 1 := by omega
  have ec : c = 0 ∨ c = 1 := by omega
  have ed : d = 0 ∨ d = 1 := by omega
  rcases ea with rfl | rfl <;> rcases eb with rfl | rfl <;> rcases ec with rfl | rfl <;> rcases ed with rfl | rfl <;> decide
/-- one colour: what its choice takes and costs -/
theorem col_1 : ∀ q, q < 8 → ∀ X Y : Bool, (X = true → Y = false) → (if q / 4 = 1 then (decide (0 < q % 4) && (X || Y)) else !X) = true → bN (decide (q / 4 = 1) && Y) + bN (if q / 4 = 1 then false else decide (0 < q % 4)) = (if q % 4 = 0 then 0 else 1) * bN Y + (if q % 4 = 0 then 0 else 1) * ((1 - bN X) * (1 - bN Y)) ∧ (bN (decide (q / 4 = 1) && Y) = 1 → (if q % 4 = 0 then 0 else 1) * bN Y = 1) ∧ (bN X ≤ if q % 4 = 0 then 0 else 1) := by
  intro q hq X Y
  have h : q = 0 ∨ q = 1 ∨ q = 2 ∨ q = 3 ∨ q = 4 ∨ q = 5 ∨ q = 6 ∨ q = 7 := by omega
  cases X <;> cases Y <;> rcases h with rfl | rfl | rfl | rfl | rfl | rfl | rfl | rfl <;> decide
/-- one colour: the choice that takes what is to be taken -/
def qC (p X C : Nat) : Nat := if p = 0 then 0 else if X = 1 then 4 + p else if C = 1 then 4 + p else p
theorem qC_1 : ∀ p, p < 4 → ∀ X Y : Bool, ∀ C, C < 2 → (X = true → Y = false) → (C = 1 → (if p = 0 then 0 else 1) * bN Y = 1) → (bN X ≤ if p = 0 then 0 else 1) → qC p (bN X) C < 8 ∧ qC p (bN X) C % 4 = p ∧ (if qC p (bN X) C / 4 = 1 then (decide (0 < qC p (bN X) C % 4) && (X || Y)) else !X) = true ∧ bN (decide (qC p (bN X) C / 4 = 1) && Y) = C := by
  intro p hp X Y C hC
  have h : p = 0 ∨ p = 1 ∨ p = 2 ∨ p = 3 := by omega
  have hc : C = 0 ∨ C = 1 := by omega
  cases X <;> cases Y <;> rcases hc with rfl | rfl <;> rcases h with rfl | rfl | rfl | rfl <;> decide
theorem bN_dec {a : Nat} (h : a < 2) : bN (decide (a = 1)) = a := by
  have : a = 0 ∨ a = 1 := by omega
  rcases this with rfl | rfl <;> rfl
theorem va_e {y : Int64} {aim : Int32} {k q : Nat} : vaB y aim k q = 1 + bN (decide (q / 4 = 1) && hsB y k) * kg aim k := by
  unfold vaB
  by_cases h : q / 4 = 1 ∧ hsB y k = true
  · rw [if_pos h, decide_eq_true h.1, h.2]; show _ = 1 + 1 * _; rw [Nat.one_mul]
  · rw [if_neg h]
    have : (decide (q / 4 = 1) && hsB y k) = false := by
      cases z : (decide (q / 4 = 1) && hsB y k) with
      | false => rfl
      | true =>
        rw [Bool.and_eq_true] at z
        exact absurd ⟨of_decide_eq_true z.1, z.2⟩ h
    rw [this]; show _ = 1 + 0 * _; rw [Nat.zero_mul]
theorem muT_s (a b : Nat) : muT (1 + a) (1 + b) = 1 + (a + b) := by unfold muT; rw [if_neg (by omega), if_neg (by omega)]; omega
theorem va4_e {y : Int64} {aim : Int32} {n q0 q1 q2 q3 C : Nat} (hn : n < 13) (h0 : bN (decide (q0 / 4 = 1) && hsB y (4 * n)) = bt2 C 0) (h1 : bN (decide (q1 / 4 = 1) && hsB y (4 * n + 1)) = bt2 C 1) (h2 : bN (decide (q2 / 4 = 1) && hsB y (4 * n + 2)) = bt2 C 2) (h3 : bN (decide (q3 / 4 = 1) && hsB y (4 * n + 3)) = bt2 C 3) : va4 muT (vaB y aim) n q0 q1 q2 q3 = 1 + g4 aim n C := by
  unfold va4
  rw [va_e, va_e, va_e, va_e, h0, h1, h2, h3, ← g4_sum hn]
  generalize bt2 C 0 * kg aim (4 * n) = A
  generalize bt2 C 1 * kg aim (4 * n + 1) = B
  generalize bt2 C 2 * kg aim (4 * n + 2) = D
  generalize bt2 C 3 * kg aim (4 * n + 3) = E
  rw [muT_s, muT_s, muT_s]
