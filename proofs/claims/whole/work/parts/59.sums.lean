theorem bx_congr {f g : Nat → Int32} : ∀ n, (∀ i, i < n → f i = g i) → bx_sum f n = bx_sum g n
  | 0, _ => rfl
  | n + 1, h => by
    show bx_sum f n + f n = bx_sum g n + g n
    rw [bx_congr n (fun i hi => h i (by omega)), h n (by omega)]
theorem bx_4 {f : Nat → Int32} : ∀ n, bx_sum f (4 * n) = bx_sum (fun n => f (4 * n) + f (4 * n + 1) + f (4 * n + 2) + f (4 * n + 3)) n
  | 0 => rfl
  | n + 1 => by
    show bx_sum f (4 * n) + f (4 * n) + f (4 * n + 1) + f (4 * n + 2) + f (4 * n + 3) = bx_sum _ n + (f (4 * n) + f (4 * n + 1) + f (4 * n + 2) + f (4 * n + 3))
    rw [bx_4 n, ← Int32.add_assoc, ← Int32.add_assoc, ← Int32.add_assoc]
theorem bx_n {f : Nat → Nat} : ∀ n, bx_sum (fun i => nI (f i)) n = nI (sm f n)
  | 0 => rfl
  | n + 1 => by
    show bx_sum (fun i => nI (f i)) n + nI (f n) = nI (sm f n + f n)
    rw [bx_n n, nI_add]
theorem sm_4 {f : Nat → Nat} (n : Nat) : sm f (4 * n) = sm (fun n => f (4 * n) + f (4 * n + 1) + f (4 * n + 2) + f (4 * n + 3)) n := by
  show fd (fun a b : Nat => a + b) 0 f (4 * n) = _
  rw [fd_4 Mo_add]
  refine fd_congr (fun i _ => ?_)
  show 0 + f (4 * i + 0) + f (4 * i + 1) + f (4 * i + 2) + f (4 * i + 3) = _
  rw [Nat.zero_add, Nat.add_zero]
/-- a mask, nibble by nibble -/
def mk16 (c : Nat) : Nat → Nat
  | 0 => 0
  | k + 1 => 16 * mk16 c k + c
def pn (x : Nat) : Nat → Nat
  | 0 => 0
  | k + 1 => 16 * pn (x / 16) k + popc (x % 16)
theorem and_16 {a b m c : Nat} (hc : c < 16) : a &&& (16 * m + c) = 16 * ((a / 16) &&& m) + ((a % 16) &&& c) := by
  have h1 : (a &&& (16 * m + c)) / 16 = (a / 16) &&& m := by
    have := Nat.shiftRight_and_distrib (a := a) (b := 16 * m + c) (i := 4)
    rw [Nat.shiftRight_eq_div_pow, Nat.shiftRight_eq_div_pow, Nat.shiftRight_eq_div_pow] at this
    rw [show (16 : Nat) = 2 ^ 4 from rfl] at *
    rw [this, show (2 ^ 4 * m + c) / 2 ^ 4 = m by omega]
  have h2 : (a &&& (16 * m + c)) % 16 = (a % 16) &&& c := by
    have := Nat.and_mod_two_pow (a := a) (b := 16 * m + c) (n := 4)
    rw [show (16 : Nat) = 2 ^ 4 from rfl] at *
    rw [this, show (2 ^ 4 * m + c) % 2 ^ 4 = c by omega]
  omega
theorem nb_0 : ∀ r, r < 16 → r &&& 3 < 4 ∧ (r / 4 &&& 3) < 4 := by decide
theorem nb_1 : ∀ t, t < 2 → ∀ r, r < 16 → (8 * t + r / 2) &&& 5 = (r / 2) &&& 5 := by decide
theorem nb_2 : ∀ t, t < 4 → ∀ r, r < 16 → (4 * t + r / 4) &&& 3 = (r / 4) &&& 3 := by decide
theorem nb_3 : ∀ r, r < 16 → (r / 2) &&& 5 ≤ r ∧ ((r - ((r / 2) &&& 5)) &&& 3) + (((r - ((r / 2) &&& 5)) / 4) &&& 3) = popc r := by decide
def sw1 (x k : Nat) : Nat := x - ((x / 2) &&& mk16 5 k)
def sw2 (x k : Nat) : Nat := (sw1 x k &&& mk16 3 k) + ((sw1 x k / 4) &&& mk16 3 k)
theorem sw1_s (x k : Nat) : sw1 x (k + 1) = 16 * sw1 (x / 16) k + (x % 16 - ((x % 16 / 2) &&& 5)) := by
  unfold sw1
  show x - ((x / 2) &&& (16 * mk16 5 k + 5)) = _
  rw [and_16 (b := 0) (by decide), show x / 2 / 16 = x / 16 / 2 by omega]
  have h1 : x / 2 % 16 = 8 * (x / 16 % 2) + x % 16 / 2 := by omega
  rw [h1, nb_1 _ (by omega) _ (by omega)]
  have h2 := (nb_3 (x % 16) (by omega)).1
  have h3 : (x / 16 / 2) &&& mk16 5 k ≤ x / 16 / 2 := Nat.and_le_left
  generalize (x / 16 / 2) &&& mk16 5 k = A at *
  generalize (x % 16 / 2) &&& 5 = B at *
  omega
theorem sw2_pn : ∀ k x, sw2 x k = pn x k
  | 0, x => by
    show (sw1 x 0 &&& 0) + ((sw1 x 0 / 4) &&& 0) = 0
    rw [Nat.and_zero, Nat.and_zero]
  | k + 1, x => by
    have ih := sw2_pn k (x / 16)
    have h := nb_3 (x % 16) (by omega)
    unfold sw2 at ih ⊢
    show (sw1 x (k + 1) &&& (16 * mk16 3 k + 3)) + ((sw1 x (k + 1) / 4) &&& (16 * mk16 3 k + 3)) = 16 * pn (x / 16) k + popc (x % 16)
    rw [← ih, ← h.2, sw1_s, and_16 (b := 0) (by decide), and_16 (b := 0) (by decide)]
    have hr : x % 16 - ((x % 16 / 2) &&& 5) < 16 := by omega
    generalize x % 16 - ((x % 16 / 2) &&& 5) = r at hr
    generalize sw1 (x / 16) k = q
    rw [show (16 * q + r) / 16 = q by omega, show (16 * q + r) % 16 = r by omega, show (16 * q + r) / 4 / 16 = q / 4 by omega, show (16 * q + r) / 4 % 16 = 4 * (q % 4) + r / 4 by omega, nb_2 _ (by omega) _ hr]
    omega
theorem pn_16 (x : Nat) : pn x 16 = popc (x % 16) + 16 * (popc (x / 16 % 16) + 16 * (popc (x / 16 / 16 % 16) + 16 * (popc (x / 16 / 16 / 16 % 16) + 16 * (popc (x / 16 / 16 / 16 / 16 % 16) + 16 * (popc (x / 16 / 16 / 16 / 16 / 16 % 16) + 16 * (popc (x / 16 / 16 / 16 / 16 / 16 / 16 % 16) + 16 * (popc (x / 16 / 16 / 16 / 16 / 16 / 16 / 16 % 16) + 16 * (popc (x / 16 / 16 / 16 / 16 / 16 / 16 / 16 / 16 % 16) + 16 * (popc (x / 16 / 16 / 16 / 16 / 16 / 16 / 16 / 16 / 16 % 16) + 16 * (popc (x / 16 / 16 / 16 / 16 / 16 / 16 / 16 / 16 / 16 / 16 % 16) + 16 * (popc (x / 16 / 16 / 16 / 16 / 16 / 16 / 16 / 16 / 16 / 16 / 16 % 16) + 16 * (popc (x / 16 / 16 / 16 / 16 / 16 / 16 / 16 / 16 / 16 / 16 / 16 / 16 % 16) + 16 * (popc (x / 16 / 16 / 16 / 16 / 16 / 16 / 16 / 16 / 16 / 16 / 16 / 16 / 16 % 16) + 16 * (popc (x / 16 / 16 / 16 / 16 / 16 / 16 / 16 / 16 / 16 / 16 / 16 / 16 / 16 / 16 % 16) + 16 * (popc (x / 16 / 16 / 16 / 16 / 16 / 16 / 16 / 16 / 16 / 16 / 16 / 16 / 16 / 16 / 16 % 16)))))))))))))))) := by
  simp only [pn]
  omega
/-- a mask, byte by byte -/
def mkB : Nat → Nat
  | 0 => 0
  | k + 1 => 256 * mkB k + 15
theorem and_256 {a m : Nat} : a &&& (256 * m + 15) = 256 * ((a / 256) &&& m) + a % 16 := by
  have e : 256 * m + 15 = 16 * (16 * m + 0) + 15 := by omega
  rw [e, and_16 (b := 0) (by decide), and_16 (b := 0) (by decide), Nat.and_zero, show a / 16 / 16 = a / 256 by omega]
  have : ∀ r, r < 16 → r &&& 15 = r := by decide
  rw [this _ (Nat.mod_lt _ (by decide))]
  omega
def pb (x : Nat) : Nat → Nat
  | 0 => 0
  | k + 1 => 256 * pb (x / 16 / 16) k + (popc (x % 16) + popc (x / 16 % 16))
theorem pn_mod : ∀ k y, pn y k % 16 ≤ 4
  | 0, _ => by show 0 % 16 ≤ 4; decide
  | k + 1, y => by
    have := popc_le (y % 16)
    show (16 * pn (y / 16) k + popc (y % 16)) % 16 ≤ 4
    omega
theorem sw3 : ∀ k x, (pn x (2 * k) + pn x (2 * k) / 16) &&& mkB k = pb x k
  | 0, x => Nat.and_zero _
  | k + 1, x => by
    have ih := sw3 k (x / 16 / 16)
    have hm := pn_mod (2 * k) (x / 16 / 16)
    have h0 := popc_le (x % 16)
    have h1 := popc_le (x / 16 % 16)
    have e : pn x (2 * (k + 1)) = 16 * (16 * pn (x / 16 / 16) (2 * k) + popc (x / 16 % 16)) + popc (x % 16) := rfl
    show _ &&& (256 * mkB k + 15) = 256 * pb (x / 16 / 16) k + (popc (x % 16) + popc (x / 16 % 16))
    rw [and_256, ← ih, e]
    generalize pn (x / 16 / 16) (2 * k) = B at *
    generalize popc (x % 16) = p0 at *
    generalize popc (x / 16 % 16) = p1 at *
    rw [show (16 * (16 * B + p1) + p0 + (16 * (16 * B + p1) + p0) / 16) / 256 = B + B / 16 by omega, show (16 * (16 * B + p1) + p0 + (16 * (16 * B + p1) + p0) / 16) % 16 = p0 + p1 by omega]
def q8 (x : Nat) : Nat → Nat
  | 0 => x
  | j + 1 => q8 x j / 16 / 16
def qb (x j : Nat) : Nat := popc (q8 x j % 16) + popc (q8 x j / 16 % 16)
theorem qb_le (x j : Nat) : qb x j ≤ 8 := by have h0 := popc_le (q8 x j % 16); have h1 := popc_le (q8 x j / 16 % 16); unfold qb; omega
theorem pb_8 (x : Nat) : pb x 8 = 256 * (256 * (256 * (256 * (256 * (256 * (256 * qb x 7 + qb x 6) + qb x 5) + qb x 4) + qb x 3) + qb x 2) + qb x 1) + qb x 0 := by
  simp only [pb, qb, q8, Nat.mul_zero, Nat.zero_add]
theorem lN_sb {a b : Nat} (h : b ≤ a) : lN a - lN b = lN (a - b) := by
  have : lN (a - b) + lN b = lN a := by rw [lN_add]; congr 1; omega
  rw [← this]
  exact Int64.add_sub_cancel _ _
theorem wb_shr' {n k : Nat} {K : Int32} (hK : K = nI k) (hn : n < 2 ^ 64) (hk : k < 64) : ((lN n).toUInt64 >>> (K.toInt64.toUInt64 &&& Int64.toUInt64 63)).toInt64 = lN (n / 2 ^ k) := by subst hK; exact wb_shr hn hk
theorem bc_7 (R : Nat) : nI R &&& nI (2 ^ 7 - 1) = nI (R % 128) := by
  apply Int32.toBitVec_inj.mp
  apply BitVec.eq_of_toNat_eq
  show (BitVec.ofNat 32 R &&& BitVec.ofNat 32 (2 ^ 7 - 1)).toNat = (BitVec.ofNat 32 (R % 128)).toNat
  rw [BitVec.toNat_and, BitVec.toNat_ofNat, BitVec.toNat_ofNat, BitVec.toNat_ofNat, show (2 ^ 7 - 1) % 2 ^ 32 = 2 ^ 7 - 1 from by decide, Nat.and_two_pow_sub_one_eq_mod]
  omega
/-- the bits of a word, counted -/
theorem bc_L {x : Nat} (hx : x < 2 ^ 64) : j_bcL (lN x) = nI (qb x 0 + qb x 1 + qb x 2 + qb x 3 + qb x 4 + qb x 5 + qb x 6 + qb x 7) := by
  have m5 : (6148914691236517205 : Int64) = lN (mk16 5 16) := by decide +kernel
  have m3 : (3689348814741910323 : Int64) = lN (mk16 3 16) := by decide +kernel
  have mf : (1085102592571150095 : Int64) = lN (mkB 8) := by decide +kernel
  have n5 : mk16 5 16 < 2 ^ 64 := by decide +kernel
  have n3 : mk16 3 16 < 2 ^ 64 := by decide +kernel
  have nf : mkB 8 < 2 ^ 64 := by decide +kernel
  have hp := sw2_pn 16 x
  have hq := sw3 8 x
  have hs1 : sw1 x 16 ≤ x := Nat.sub_le _ _
  have hle1 : (x / 2) &&& mk16 5 16 ≤ x := Nat.le_trans Nat.and_le_left (Nat.div_le_self _ _)
  have hb1 : sw1 x 16 &&& mk16 3 16 ≤ mk16 3 16 := Nat.and_le_right
  have hb2 : (sw1 x 16 / 4) &&& mk16 3 16 ≤ mk16 3 16 := Nat.and_le_right
  have nb3 : mk16 3 16 + mk16 3 16 < 2 ^ 63 := by decide +kernel
  have hpl : pn x 16 < 2 ^ 63 := by rw [← hp]; unfold sw2; omega
  have ec : (pn x 16 + pn x 16 / 16) &&& mkB 8 = pb x 8 := hq
  have l0 := qb_le x 0
  have l1 := qb_le x 1
  have l2 := qb_le x 2
  have l3 := qb_le x 3
  have l4 := qb_le x 4
  have l5 := qb_le x 5
  have l6 := qb_le x 6
  have l7 := qb_le x 7
  unfold j_bcL
  rw [m5, m3, mf]
  have a1 : lN x - (((lN x).toUInt64 >>> ((1 : Int32).toInt64.toUInt64 &&& Int64.toUInt64 63)).toInt64 &&& lN (mk16 5 16)) = lN (sw1 x 16) := by
    rw [wb_shr' (K := 1) (k := 1) rfl hx (by decide), wb_and (by omega) n5]
    exact lN_sb hle1
  have a2 : (lN (sw1 x 16) &&& lN (mk16 3 16)) + (((lN (sw1 x 16)).toUInt64 >>> ((2 : Int32).toInt64.toUInt64 &&& Int64.toUInt64 63)).toInt64 &&& lN (mk16 3 16)) = lN (pn x 16) := by
    rw [wb_shr' (K := 2) (k := 2) rfl (by omega) (by decide), wb_and (by omega) n3, wb_and (by omega) n3, lN_add, ← hp]
    rfl
  have a3 : (lN (pn x 16) + ((lN (pn x 16)).toUInt64 >>> ((4 : Int32).toInt64.toUInt64 &&& Int64.toUInt64 63)).toInt64) &&& lN (mkB 8) = lN (pb x 8) := by
    rw [wb_shr' (K := 4) (k := 4) rfl (by omega) (by decide), lN_add, wb_and (by omega) nf]
    exact congrArg lN ec
  simp only [a1, a2, a3]
  rw [pb_8]
  generalize qb x 0 = c0 at *
  generalize qb x 1 = c1 at *
  generalize qb x 2 = c2 at *
  generalize qb x 3 = c3 at *
  generalize qb x 4 = c4 at *
  generalize qb x 5 = c5 at *
  generalize qb x 6 = c6 at *
  generalize qb x 7 = c7 at *
  clear hp hq hs1 hle1 hb1 hb2 hpl ec a1 a2 a3 m5 m3 mf n5 n3 nf nb3
  generalize hC : 256 * (256 * (256 * (256 * (256 * (256 * (256 * c7 + c6) + c5) + c4) + c3) + c2) + c1) + c0 = C
  have C1 : C / 2 ^ 8 = 256 * (256 * (256 * (256 * (256 * (256 * c7 + c6) + c5) + c4) + c3) + c2) + c1 := by omega
  have b1 : lN C + ((lN C).toUInt64 >>> ((8 : Int32).toInt64.toUInt64 &&& Int64.toUInt64 63)).toInt64 = lN (C + C / 2 ^ 8) := by
    rw [wb_shr' (K := 8) (k := 8) rfl (by omega) (by decide), lN_add]
  have D0 : C + C / 2 ^ 8 = (c0 + c1) + 256 * ((c1 + c2) + 256 * ((c2 + c3) + 256 * ((c3 + c4) + 256 * ((c4 + c5) + 256 * ((c5 + c6) + 256 * ((c6 + c7) + 256 * c7)))))) := by omega
  rw [b1, D0]
  clear b1 C1 D0 hC
  generalize hD : (c0 + c1) + 256 * ((c1 + c2) + 256 * ((c2 + c3) + 256 * ((c3 + c4) + 256 * ((c4 + c5) + 256 * ((c5 + c6) + 256 * ((c6 + c7) + 256 * c7)))))) = E
  have E1 : E / 2 ^ 16 = (c2 + c3) + 256 * ((c3 + c4) + 256 * ((c4 + c5) + 256 * ((c5 + c6) + 256 * ((c6 + c7) + 256 * c7)))) := by omega
  have b2 : lN E + ((lN E).toUInt64 >>> ((16 : Int32).toInt64.toUInt64 &&& Int64.toUInt64 63)).toInt64 = lN (E + E / 2 ^ 16) := by
    rw [wb_shr' (K := 16) (k := 16) rfl (by omega) (by decide), lN_add]
  have F0 : E + E / 2 ^ 16 = (c0 + c1 + c2 + c3) + 256 * ((c1 + c2 + c3 + c4) + 256 * ((c2 + c3 + c4 + c5) + 256 * ((c3 + c4 + c5 + c6) + 256 * ((c4 + c5 + c6 + c7) + 256 * ((c5 + c6 + c7) + 256 * ((c6 + c7) + 256 * c7)))))) := by omega
  rw [b2, F0]
  clear b2 E1 F0 hD
  generalize hF : (c0 + c1 + c2 + c3) + 256 * ((c1 + c2 + c3 + c4) + 256 * ((c2 + c3 + c4 + c5) + 256 * ((c3 + c4 + c5 + c6) + 256 * ((c4 + c5 + c6 + c7) + 256 * ((c5 + c6 + c7) + 256 * ((c6 + c7) + 256 * c7)))))) = G
  have G1 : G / 2 ^ 32 = (c4 + c5 + c6 + c7) + 256 * ((c5 + c6 + c7) + 256 * ((c6 + c7) + 256 * c7)) := by omega
  have b3 : lN G + ((lN G).toUInt64 >>> ((32 : Int32).toInt64.toUInt64 &&& Int64.toUInt64 63)).toInt64 = lN (G + G / 2 ^ 32) := by
    rw [wb_shr' (K := 32) (k := 32) rfl (by omega) (by decide), lN_add]
  have hG : (G + G / 2 ^ 32) % 128 = c0 + c1 + c2 + c3 + c4 + c5 + c6 + c7 := by omega
  have hGl : G + G / 2 ^ 32 < 2 ^ 64 := by omega
  rw [b3, lN_i]
  generalize G + G / 2 ^ 32 = R at hG hGl
  rw [show (127 : Int32) = nI (2 ^ 7 - 1) from rfl]
  rw [show nI R &&& nI (2 ^ 7 - 1) = nI (R % 128) from bc_7 R, hG]
theorem q8_d (x : Nat) : ∀ j, q8 x j = x / 256 ^ j
  | 0 => by rw [Nat.pow_zero, Nat.div_one]; rfl
  | j + 1 => by
    show q8 x j / 16 / 16 = _
    rw [q8_d x j, Nat.pow_succ, Nat.div_div_eq_div_mul, Nat.div_div_eq_div_mul, show (16 * 16 : Nat) = 256 from rfl]
theorem qb_d (x j : Nat) : qb x j = popc (x / 2 ^ (4 * (2 * j)) % 16) + popc (x / 2 ^ (4 * (2 * j + 1)) % 16) := by
  unfold qb
  rw [q8_d, Nat.div_div_eq_div_mul]
  have e1 : 256 ^ j = 2 ^ (4 * (2 * j)) := by rw [show (256 : Nat) = 2 ^ 8 from rfl, ← Nat.pow_mul]; congr 1; omega
  have e2 : 256 ^ j * 16 = 2 ^ (4 * (2 * j + 1)) := by rw [e1, show (16 : Nat) = 2 ^ 4 from rfl, ← Nat.pow_add]; congr 1
  rw [e2, e1]
def smP (x : Int64) : Nat := sm (fun n => popc (nd x n)) 13
theorem bc_S {x : Int64} (hx : isS x) : j_bcL x = nI (smP x + jkN x) := by
  unfold isS at hx
  obtain ⟨w, hw, rfl⟩ := wb_of x
  rw [wb_tn hw] at hx
  rw [bc_L hw]
  congr 1
  have hn : ∀ n, nd (lN w) n = w / 2 ^ (4 * n) % 16 := fun n => by unfold nd; rw [wb_tn hw]
  have hj : jkN (lN w) = popc (w / 2 ^ (4 * 13) % 16) := by
    unfold jkN popc
    rw [wb_tn hw]
    show w / 2 ^ 52 % 2 + w / 2 ^ 53 % 2 = _
    omega
  have e14 : popc (w / 2 ^ (4 * 14) % 16) = 0 := by rw [show w / 2 ^ (4 * 14) % 16 = 0 by omega]; rfl
  have e15 : popc (w / 2 ^ (4 * 15) % 16) = 0 := by rw [show w / 2 ^ (4 * 15) % 16 = 0 by omega]; rfl
  rw [qb_d, qb_d, qb_d, qb_d, qb_d, qb_d, qb_d, qb_d, hj]
  show popc (w / 2 ^ (4 * 0) % 16) + popc (w / 2 ^ (4 * 1) % 16) + (popc (w / 2 ^ (4 * 2) % 16) + popc (w / 2 ^ (4 * 3) % 16)) + (popc (w / 2 ^ (4 * 4) % 16) + popc (w / 2 ^ (4 * 5) % 16)) + (popc (w / 2 ^ (4 * 6) % 16) + popc (w / 2 ^ (4 * 7) % 16)) + (popc (w / 2 ^ (4 * 8) % 16) + popc (w / 2 ^ (4 * 9) % 16)) + (popc (w / 2 ^ (4 * 10) % 16) + popc (w / 2 ^ (4 * 11) % 16)) + (popc (w / 2 ^ (4 * 12) % 16) + popc (w / 2 ^ (4 * 13) % 16)) + (popc (w / 2 ^ (4 * 14) % 16) + popc (w / 2 ^ (4 * 15) % 16)) = (0 + popc (nd (lN w) 0) + popc (nd (lN w) 1) + popc (nd (lN w) 2) + popc (nd (lN w) 3) + popc (nd (lN w) 4) + popc (nd (lN w) 5) + popc (nd (lN w) 6) + popc (nd (lN w) 7) + popc (nd (lN w) 8) + popc (nd (lN w) 9) + popc (nd (lN w) 10) + popc (nd (lN w) 11) + popc (nd (lN w) 12)) + popc (w / 2 ^ (4 * 13) % 16)
  rw [e14, e15, hn, hn, hn, hn, hn, hn, hn, hn, hn, hn, hn, hn, hn]
  omega
theorem sm_bits (x : Int64) : sm (fun k => bN (hsB x k)) 54 = smP x + jkN x := by
  show sm (fun k => bN (hsB x k)) (4 * 13) + bN (hsB x 52) + bN (hsB x 53) = _
  rw [sm_4, jkN_b, Nat.add_assoc]
  congr 1
  refine fd_congr (fun n hn => ?_)
  have e0 := hs_c x (n := n) (c := 0) (by decide)
  rw [Nat.add_zero] at e0
  rw [e0, hs_c x (by decide), hs_c x (by decide), hs_c x (by decide), ← popc_bt]
theorem many_S {x : Int64} (hx : isS x) : j_X8_many x = nI (smP x + jkN x) := by
  unfold j_X8_many
  rw [bx_congr (g := fun k => nI (bN (hsB x k))) 54 (fun k hk => by
    rw [jb_has hx hk]
    cases hsB x k <;> rfl), bx_n, sm_bits]
theorem many_bc {x : Int64} (hx : isS x) : j_bcL x = j_X8_many x := by rw [bc_S hx, many_S hx]
def ww (n : Nat) : Nat := if n ≤ 8 then n + 1 else 10
theorem wn_0 : ∀ n, n < 13 → j_X0_worthOfNumber (nI n) = nI (ww n) := by decide +kernel
theorem wo_4 : ∀ n, n < 13 → ∀ c, c < 4 → j_X8_worthOf (nI (4 * n + c)) = nI (ww n) := by decide +kernel
theorem worth_S {x : Int64} (hx : isS x) : j_X0_worthOfSet x = j_X8_worthAll x := by
  unfold j_X0_worthOfSet j_X8_worthAll
  have h1 : ∀ k, k < 54 → (if j_X8_has x (nI k) = 0 then (0 : Int32) else j_X8_worthOf (nI k)) = if hsB x k = true then j_X8_worthOf (nI k) else 0 := by
    intro k hk
    rw [jb_has hx hk]
    cases hsB x k <;> rfl
  rw [bx_congr 54 h1]
  show _ = bx_sum (fun k => if hsB x k = true then j_X8_worthOf (nI k) else 0) (4 * 13) + (if hsB x 52 = true then j_X8_worthOf (nI 52) else 0) + (if hsB x 53 = true then j_X8_worthOf (nI 53) else 0)
  rw [bx_4, jn_jk hx]
  have h2 : ∀ n, n < 13 → j_X0_worthOfNumber (nI n) * j_bcI (j_X0_coloursOf x (nI n)) = (if hsB x (4 * n) = true then j_X8_worthOf (nI (4 * n)) else 0) + (if hsB x (4 * n + 1) = true then j_X8_worthOf (nI (4 * n + 1)) else 0) + (if hsB x (4 * n + 2) = true then j_X8_worthOf (nI (4 * n + 2)) else 0) + (if hsB x (4 * n + 3) = true then j_X8_worthOf (nI (4 * n + 3)) else 0) := by
    intro n hn
    have e : ∀ c, c < 4 → (if hsB x (4 * n + c) = true then j_X8_worthOf (nI (4 * n + c)) else 0) = nI (ww n * bt2 (nd x n) c) := by
      intro c hc
      rw [hs_bt x n c hc, wo_4 n hn c hc]
      have := bt2_lt (nd x n) c
      have z : bt2 (nd x n) c = 0 ∨ bt2 (nd x n) c = 1 := by omega
      rcases z with z | z
      · rw [z, if_neg (by decide), Nat.mul_zero]; rfl
      · rw [z, if_pos (by decide), Nat.mul_one]
    have e0 := e 0 (by decide)
    rw [Nat.add_zero] at e0
    rw [e0, e 1 (by decide), e 2 (by decide), e 3 (by decide), jn_col hn, jn_bc _ (nd_lt x n), wn_0 n hn, pk_mul, nI_add, nI_add, nI_add, popc_bt]
    congr 1
    rw [Nat.mul_add, Nat.mul_add, Nat.mul_add]
  rw [bx_congr 13 h2, Int32.add_comm, Int32.add_assoc]
  congr 1
  rw [jkN_b]
  cases hsB x 52 <;> cases hsB x 53 <;> decide
