def t_gr (t : Nat) : Nat := t % 16
def t_be (t : Nat) : Nat := t / 16 % 16
def t_co (t : Nat) : Nat := t / 256 % 16
def t_sh (t : Nat) : Nat := t / 4096 % 16
def popc (x : Nat) : Nat := x % 2 + x / 2 % 2 + x / 4 % 2 + x / 8 % 2
def c_cc (s on : Nat) : Bool := (((s % 16) ^^^ (s / 16 % 16)) &&& (15 - on) == 0) && (on &&& (15 - ((s % 16) ||| (s / 16 % 16))) == 0)
def c_af (s t : Nat) : Nat := (t_be t ||| (t_co t &&& (s / 16))) ||| (t_co t * 16)
def c_en (s : Nat) : Bool := s % 16 == s / 16 % 16
def stL : List Nat := [0, 32896, 34816, 16448, 49344, 51264, 17408, 50304, 52224, 57358, 8224, 41120, 43040, 24672, 57568, 59488, 25632, 58528, 60448, 8704, 41600, 43520, 25152, 58048, 59968, 26112, 59008, 60928, 53261, 45067, 28679, 61455, 61575, 63495, 61515, 62475, 61485, 61965, 4112, 37008, 38928, 20560, 53456, 55376, 21520, 54416, 56336, 61470, 12336, 45232, 47152, 28784, 61680, 63600, 29744, 62640, 64560, 12816, 45712, 47632, 29264, 62160, 64080, 30224, 63120, 65040, 4352, 37248, 39168, 20800, 53696, 55616, 21760, 54656, 56576, 61710, 12576, 45472, 47392, 29024, 61920, 63840, 29984, 62880, 64800, 13056, 45952, 47872, 29504, 62400, 64320, 30464, 63360, 65280]
def stT (i : Nat) : Nat := stL.getD i 0
def nd (x : Int64) (n : Nat) : Nat := x.toBitVec.toNat / 2 ^ (4 * n) % 16
def jkN (x : Int64) : Nat := x.toBitVec.toNat / 2 ^ 52 % 2 + x.toBitVec.toNat / 2 ^ 53 % 2
def isS (x : Int64) : Prop := x.toBitVec.toNat < 2 ^ 54
theorem stT_lt : ∀ i, i < 94 → stT i < 65536 := by decide +kernel
theorem nd_lt (x : Int64) (n : Nat) : nd x n < 16 := Nat.mod_lt _ (by decide)
theorem t_sh_lt (t : Nat) : t_sh t < 16 := Nat.mod_lt _ (by decide)
theorem t_co_lt (t : Nat) : t_co t < 16 := Nat.mod_lt _ (by decide)
theorem t_be_lt (t : Nat) : t_be t < 16 := Nat.mod_lt _ (by decide)
theorem popc_le (x : Nat) : popc x ≤ 4 := by unfold popc; omega
theorem jn_gr {t : Nat} (h : t < 65536) : j_X5_grouped (nI t) = nI (t_gr t) := pk_andN (by omega) 4 (by decide)
theorem jn_be {t : Nat} (h : t < 65536) : j_X5_begun (nI t) = nI (t_be t) := by
  unfold j_X5_begun
  rw [pk_shrN (by omega) _ 4 (by decide)]
  exact pk_andN (by omega) 4 (by decide)
theorem jn_co {t : Nat} (h : t < 65536) : j_X5_continued (nI t) = nI (t_co t) := by
  unfold j_X5_continued
  rw [pk_shrN (by omega) _ 8 (by decide)]
  exact pk_andN (by omega) 4 (by decide)
theorem jn_sh {t : Nat} (h : t < 65536) : j_X5_shown (nI t) = nI (t_sh t) := by
  unfold j_X5_shown
  rw [pk_shrN (by omega) _ 12 (by decide)]
  exact pk_andN (by omega) 4 (by decide)
theorem jn_cc : ∀ s, s < 256 → ∀ on, on < 16 → j_X5_canContinue (nI s) (nI on) = if c_cc s on then 1 else 0 := by decide +kernel
theorem jn_en : ∀ s, s < 256 → j_X5_mayEnd (nI s) = if c_en s then 1 else 0 := by decide +kernel
theorem jn_bc : ∀ x, x < 16 → j_bcI (nI x) = nI (popc x) := by decide +kernel
theorem jn_not : ∀ a, a < 16 → ∀ b, b < 16 → nI a &&& (nI b ^^^ (-1)) = nI (a &&& (15 - b)) := by decide +kernel
theorem land_lt {a b : Nat} (h : a < 16) : a &&& b < 16 := Nat.lt_of_le_of_lt Nat.and_le_left h
theorem jn_af {s t : Nat} (hs : s < 256) (ht : t < 65536) : j_X5_stateAfter (nI s) (nI t) = nI (c_af s t) := by
  unfold j_X5_stateAfter c_af
  rw [jn_be ht, jn_co ht, pk_shrN (by omega) _ 4 (by decide), fa_and, fa_or, pk_shlN _ 4 (by decide) (by have := t_co_lt t; omega), fa_or]
theorem af_lt : ∀ b, b < 16 → ∀ c, c < 16 → ∀ h, h < 16 → (b ||| (c &&& h)) ||| (c * 16) < 256 := by decide +kernel
theorem c_af_lt {s t : Nat} (hs : s < 256) : c_af s t < 256 := af_lt _ (t_be_lt t) _ (t_co_lt t) _ (by omega)
theorem jn_col {x : Int64} {n : Nat} (hn : n < 13) : j_X0_coloursOf x (nI n) = nI (nd x n) := by
  unfold j_X0_coloursOf nd
  obtain ⟨w, hw, rfl⟩ := wb_of x
  rw [show (4 : Int32) = nI 4 from rfl, pk_mul, wb_shr hw (by omega), lN_i, wb_tn hw, pk_and _ 4 (by decide)]
  congr 1
  show (BitVec.ofNat 32 (w / 2 ^ (4 * n))).toNat % 2 ^ 4 = _
  rw [BitVec.toNat_ofNat]
  omega
theorem jn_jk {x : Int64} (h : isS x) : j_X0_jokersIn x = nI (jkN x) := by
  unfold j_X0_jokersIn jkN
  unfold isS at h
  obtain ⟨w, hw, rfl⟩ := wb_of x
  rw [wb_tn hw] at h ⊢
  rw [show (52 : Int32) = nI 52 from rfl, wb_shr hw (by decide)]
  have h4 : w / 2 ^ 52 < 4 := by omega
  have hk : ∀ k, k < 4 → j_bcL (lN k) = nI (k % 2 + k / 2 % 2) := by decide +kernel
  rw [hk _ h4]
  congr 1
  omega
theorem jkN_le (x : Int64) : jkN x ≤ 2 := by unfold jkN; omega
/-- the first place below n that has a property -/
def anyI (q : Nat → Bool) : Nat → Bool
  | 0 => false
  | n + 1 => anyI q n || q n
def fstI (q : Nat → Bool) : Nat → Nat
  | 0 => 0
  | n + 1 => if anyI q n then fstI q n else n
theorem anyI_of {q : Nat → Bool} {i : Nat} (h : q i = true) : ∀ {n : Nat}, i < n → anyI q n = true
  | 0, hi => absurd hi (Nat.not_lt_zero i)
  | n + 1, hi => by
    show (anyI q n || q n) = true
    rcases Nat.lt_succ_iff_lt_or_eq.mp hi with z | z
    · rw [anyI_of h z]; rfl
    · subst z; rw [h, Bool.or_true]
theorem anyI_no {q : Nat → Bool} : ∀ {n : Nat}, (∀ i, i < n → q i = false) → anyI q n = false
  | 0, _ => rfl
  | n + 1, h => by
    show (anyI q n || q n) = false
    rw [anyI_no (fun i hi => h i (by omega)), h n (by omega)]; rfl
theorem fstI_of {q : Nat → Bool} {i : Nat} (h : q i = true) (hb : ∀ j, j < i → q j = false) : ∀ {n : Nat}, i < n → fstI q n = i
  | 0, hi => absurd hi (Nat.not_lt_zero i)
  | n + 1, hi => by
    show (if anyI q n then fstI q n else n) = i
    rcases Nat.lt_succ_iff_lt_or_eq.mp hi with z | z
    · rw [if_pos (anyI_of h z)]; exact fstI_of h hb z
    · subst z; rw [if_neg (by rw [anyI_no hb]; decide)]
/-- jokers that a step needs -/
def costN (ne t : Nat) : Nat := popc (t_sh t &&& (15 - ne))
def okN (ne s j t : Nat) : Bool := (ne &&& (15 - t_sh t) == 0) && (c_cc s (t_co t) && decide (costN ne t ≤ j))
/-- whether there is a layout from a number on: d numbers to go, the state s, j jokers left -/
def feasN (x : Int64) : Nat → Nat → Nat → Bool
  | 0, s, j => (j == 0) && c_en s
  | d + 1, s, j => anyI (fun i => okN (nd x (12 - d)) s j (stT i) && feasN x d (c_af s (stT i)) (j - costN (nd x (12 - d)) (stT i))) 94
def tryN (x : Int64) (d s j i : Nat) : Bool := okN (nd x (12 - d)) s j (stT i) && feasN x d (c_af s (stT i)) (j - costN (nd x (12 - d)) (stT i))
theorem feasN_s (x : Int64) (d s j : Nat) : feasN x (d + 1) s j = anyI (tryN x d s j) 94 := rfl
/-- the first layout's step at number k -/
def pathN (x : Int64) : Nat → Nat → Nat → Nat → Nat
  | 0, _, _, _ => 0
  | d + 1, s, j, k => if k = 12 - d then stT (fstI (tryN x d s j) 94) else pathN x d (c_af s (stT (fstI (tryN x d s j) 94))) (j - costN (nd x (12 - d)) (stT (fstI (tryN x d s j) 94))) k
/-- what is marked hopeless is so -/
def hbit (hq : Nat → Int64) (k : Nat) : Bool := (hq (k / 64)).toBitVec.getLsbD (k % 64)
def HopOk (x : Int64) (hq : Nat → Int64) : Prop := ∀ n, n < 13 → ∀ j, j < 3 → ∀ s, s < 256 → hbit hq ((n * 3 + j) * 256 + s) = true → feasN x (13 - n) s j = false
theorem hp_mark {a b c : Int32} {n j s : Nat} (h1 : a = nI n) (h2 : b = nI j) (h3 : c = nI s) : (a * 3 + b) * 256 + c = nI ((n * 3 + j) * 256 + s) := by
  subst h1; subst h2; subst h3
  rw [show (3 : Int32) = nI 3 from rfl, show (256 : Int32) = nI 256 from rfl, pk_mul, nI_add, pk_mul, nI_add]
theorem hp_hbit {hq : Nat → Int64} {x : Int32} {k : Nat} (hx : x = nI k) (hk : k < 9984) : (((hq (x / 64).toNatClampNeg).toUInt64 >>> ((x - x / 64 * 64).toInt64.toUInt64 &&& Int64.toUInt64 63)).toInt64 &&& 1 = 0) ↔ hbit hq k = false := by
  subst hx
  rw [show (64 : Int32) = nI 64 from rfl, pk_div (by omega) (by decide) (by decide), pk_mul, pk_sub (by omega), nI_clamp (by omega), show k - k / 64 * 64 = k % 64 by omega]
  exact ts_bit (Nat.mod_lt _ (by decide)) (by rw [wb_cu _ (Nat.mod_lt _ (by decide))]; exact Nat.mod_eq_of_lt (by have := Nat.mod_lt k (show 0 < 64 by decide); omega))
