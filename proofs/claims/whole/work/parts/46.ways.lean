def okW (x : Int64) (k q : Nat) : Bool := decide (bN (hsB x k) ≤ q)
def joW (x : Int64) (k q : Nat) : Bool := decide (0 < q) && !hsB x k
def cB (x : Int64) (m : Nat) : Nat := if j_X8_isWhole (nI m) = 0 then 0 else if jkM m = jkN x then 1 else 0
/-- the number of ways, card by card -/
def cN (x : Int64) : Nat → Nat → Nat := gC (fun a b : Nat => a + b) (fun a b => a * b) 0 4 (okW x) (joW x) (fun _ _ => 1) (cB x)
def cL (x : Int64) : Nat → Nat → Int64 := gC (fun a b : Int64 => a + b) (fun a b => a * b) 0 4 (okW x) (joW x) (fun _ _ => 1) (fun m => lN (cB x m))
theorem Sr_N : Sr (fun a b : Nat => a + b) (fun a b => a * b) 0 := ⟨Mo_add, Nat.mul_add, Nat.add_mul, Nat.mul_zero, Nat.zero_mul, Nat.mul_assoc⟩
theorem Sr_L : Sr (fun a b : Int64 => a + b) (fun a b => a * b) 0 := ⟨Mo_add64, fun _ _ _ => Int64.mul_add, fun _ _ _ => Int64.add_mul, fun _ => Int64.mul_zero, fun _ => Int64.zero_mul, Int64.mul_assoc⟩
theorem hs_bt (x : Int64) (n c : Nat) (hc : c < 4) : hsB x (4 * n + c) = decide (bt2 (nd x n) c = 1) := by
  unfold hsB nd bt2
  have ht : ∀ w k : Nat, w.testBit k = decide (w / 2 ^ k % 2 = 1) := fun w k => by first | exact Nat.testBit_eq_decide_div_mod_eq | (simp [Nat.testBit, Nat.shiftRight_eq_div_pow, Nat.one_and_eq_mod_two, bne_iff_ne]; omega)
  show x.toBitVec.toNat.testBit (4 * n + c) = _
  rw [ht, Nat.pow_add, ← Nat.div_div_eq_div_mul]
  generalize x.toBitVec.toNat / 2 ^ (4 * n) = a
  have h : c = 0 ∨ c = 1 ∨ c = 2 ∨ c = 3 := by omega
  have e : a / 2 ^ c % 2 = a % 16 / 2 ^ c % 2 := by
    rcases h with rfl | rfl | rfl | rfl
    · show a / 1 % 2 = a % 16 / 1 % 2; omega
    · show a / 2 % 2 = a % 16 / 2 % 2; omega
    · show a / 4 % 2 = a % 16 / 4 % 2; omega
    · show a / 8 % 2 = a % 16 / 8 % 2; omega
  rw [e]
theorem need_cd : ∀ ne, ne < 16 → ∀ cd, cd < 256 → (decide (bN (decide (bt2 ne 0 = 1)) ≤ cdP cd 0) && decide (bN (decide (bt2 ne 1 = 1)) ≤ cdP cd 1) && decide (bN (decide (bt2 ne 2 = 1)) ≤ cdP cd 2) && decide (bN (decide (bt2 ne 3 = 1)) ≤ cdP cd 3)) = (ne &&& (15 - t_sh (stC cd)) == 0) := by decide +kernel
theorem cost_cd : ∀ ne, ne < 16 → ∀ cd, cd < 256 → bN (decide (0 < cdP cd 0) && !decide (bt2 ne 0 = 1)) + bN (decide (0 < cdP cd 1) && !decide (bt2 ne 1 = 1)) + bN (decide (0 < cdP cd 2) && !decide (bt2 ne 2 = 1)) + bN (decide (0 < cdP cd 3) && !decide (bt2 ne 3 = 1)) = costN ne (stC cd) := by decide +kernel
theorem ok4_W {x : Int64} {n cd : Nat} (hc : cd < 256) : ok4 (okW x) n (cdP cd 0) (cdP cd 1) (cdP cd 2) (cdP cd 3) = (nd x n &&& (15 - t_sh (stC cd)) == 0) := by
  have e0 := hs_bt x n 0 (by decide)
  have e1 := hs_bt x n 1 (by decide)
  have e2 := hs_bt x n 2 (by decide)
  have e3 := hs_bt x n 3 (by decide)
  rw [Nat.add_zero] at e0
  unfold ok4 okW
  rw [e0, e1, e2, e3]
  exact need_cd _ (nd_lt x n) cd hc
theorem jo4_W {x : Int64} {n cd : Nat} (hc : cd < 256) : jo4 (joW x) n (cdP cd 0) (cdP cd 1) (cdP cd 2) (cdP cd 3) = costN (nd x n) (stC cd) := by
  have e0 := hs_bt x n 0 (by decide)
  have e1 := hs_bt x n 1 (by decide)
  have e2 := hs_bt x n 2 (by decide)
  have e3 := hs_bt x n 3 (by decide)
  rw [Nat.add_zero] at e0
  unfold jo4 joW
  rw [e0, e1, e2, e3]
  exact cost_cd _ (nd_lt x n) cd hc
/-- whether a step can be taken -/
def okS (ne s u t : Nat) : Bool := (ne &&& (15 - t_sh t) == 0) && (c_cc s (t_co t) && decide (u + costN ne t ≤ 2))
theorem num_W {α : Type} {op mu : α → α → α} {e one : α} {x : Int64} {base : Nat → α} (S : Sr op mu e) (h1 : ∀ a, mu one a = a) {d n s u : Nat} (hn : d + n = 12) (hs : s < 256) (hu : u < 3) : gC op mu e 4 (okW x) (joW x) (fun _ _ => one) base (4 * d + 4) (mkN s u) = fd op e (fun cd => if (gok cd && okS (nd x n) s u (stC cd)) = true then gC op mu e 4 (okW x) (joW x) (fun _ _ => one) base (4 * d) (mkN (c_af s (stC cd)) (u + costN (nd x n) (stC cd))) else e) 256 := by
  rw [gC_4 S hn hs hu]
  refine (fd_congr (fun a ha => fd_congr (fun b hb => fd_congr (fun c hc => fd_congr (fun f hf => ?_))))).trans ((fd_256 S.1 (f := fun a b c f => if ok4 (okW x) n a b c f = true then cO e (gC op mu e 4 (okW x) (joW x) (fun _ _ => one) base (4 * d)) (chS s u (cdO a b c f) (jo4 (joW x) n a b c f)) else e)).trans (fd_congr (fun cd hcd => ?_)))
  · rw [Nat.mod_eq_of_lt ha, Nat.mod_eq_of_lt hb, Nat.mod_eq_of_lt hc, Nat.mod_eq_of_lt hf]
    unfold va4
    rw [h1, h1, h1, h1]
  · rw [ok4_W hcd, jo4_W hcd, cd_O cd hcd]
    unfold okS chS
    cases h2 : (nd x n &&& (15 - t_sh (stC cd)) == 0) with
    | false =>
      rw [Bool.false_and, Bool.and_false]; rfl
    | true =>
      rw [Bool.true_and, if_pos rfl]
      cases h3 : gok cd with
      | false =>
        rw [Bool.and_false, Bool.false_and, if_neg (fun z => absurd z.1 (by decide)), if_neg (by decide)]; rfl
      | true =>
        rw [Bool.and_true, Bool.true_and]
        by_cases h4 : c_cc s (t_co (stC cd)) = true ∧ u + costN (nd x n) (stC cd) ≤ 2
        · rw [if_pos h4, if_pos (by rw [h4.1, decide_eq_true h4.2]; rfl)]; rfl
        · rw [if_neg h4, if_neg (fun z => h4 (by rw [Bool.and_eq_true] at z; exact ⟨z.1, of_decide_eq_true z.2⟩))]; rfl
theorem okT_gok {α : Type} {e a : α} {b : Bool} {cd : Nat} (h : gok cd = false) : (if (gok cd && b) = true then a else e) = e := by rw [h, Bool.false_and]; rfl
theorem num_st {α : Type} {op mu : α → α → α} {e one : α} {x : Int64} {base : Nat → α} (S : Sr op mu e) (h1 : ∀ a, mu one a = a) {d n s u : Nat} (hn : d + n = 12) (hs : s < 256) (hu : u < 3) : gC op mu e 4 (okW x) (joW x) (fun _ _ => one) base (4 * d + 4) (mkN s u) = fd op e (fun i => if okS (nd x n) s u (stT i) = true then gC op mu e 4 (okW x) (joW x) (fun _ _ => one) base (4 * d) (mkN (c_af s (stT i)) (u + costN (nd x n) (stT i))) else e) 94 := by
  rw [num_W S h1 hn hs hu, fd_st S.1 (fun cd _ hg => okT_gok hg)]
  refine fd_congr (fun i hi => ?_)
  obtain ⟨_, h2, h3⟩ := st_cd i hi
  rw [h2, h3, Bool.true_and]
theorem num_wk {α : Type} {op mu : α → α → α} {e one : α} {x : Int64} {base : Nat → α} (S : Sr op mu e) (h1 : ∀ a, mu one a = a) {d n s u : Nat} (hn : d + n = 12) (hs : s < 256) (hu : u < 3) : gC op mu e 4 (okW x) (joW x) (fun _ _ => one) base (4 * d + 4) (mkN s u) = fd op e (fun i => if okS (nd x n) s u (wkT i) = true then gC op mu e 4 (okW x) (joW x) (fun _ _ => one) base (4 * d) (mkN (c_af s (wkT i)) (u + costN (nd x n) (wkT i))) else e) 94 := by
  rw [num_W S h1 hn hs hu, fd_wk S.1 (fun cd _ hg => okT_gok hg)]
  refine fd_congr (fun i hi => ?_)
  obtain ⟨_, h2, h3⟩ := wk_cd i hi
  rw [h2, h3, Bool.true_and]
theorem wh_mk : ∀ s, s < 256 → ∀ u, u < 3 → j_X8_isWhole (nI (mkN s u)) = if c_en s = true then 1 else 0 := by decide +kernel
theorem jkM_mk {s u : Nat} (hu : u < 3) : jkM (mkN s u) = u := by unfold jkM mkN; omega
theorem cB_mk {x : Int64} {s u : Nat} (hs : s < 256) (hu : u < 3) : cB x (mkN s u) = if c_en s = true ∧ u = jkN x then 1 else 0 := by
  unfold cB
  rw [wh_mk s hs u hu, jkM_mk hu]
  cases c_en s with
  | false =>
    rw [if_pos (show (if false = true then (1 : Int32) else 0) = 0 from rfl), if_neg (fun z => absurd z.1 (by decide))]
  | true =>
    rw [if_neg (show ¬ (if true = true then (1 : Int32) else 0) = 0 by decide)]
    by_cases h : u = jkN x
    · rw [if_pos h, if_pos ⟨rfl, h⟩]
    · rw [if_neg h, if_neg (fun z => h z.2)]
/-- weights of the states -/
def wt (r : Nat) : Nat := if r = 0 then 2 else if r = 1 then 1 else if r = 2 then 2 else 4
def Vs (s : Nat) : Nat := wt (rD s 0) * wt (rD s 1) * (wt (rD s 2) * wt (rD s 3))
theorem V_le : ∀ s, s < 256 → 1 ≤ Vs s ∧ Vs s ≤ 256 := by decide +kernel
theorem V_st : ∀ s, s < 256 → sm (fun i => if c_cc s (t_co (stT i)) = true then Vs (c_af s (stT i)) else 0) 94 ≤ 16 * Vs s := by decide +kernel
theorem cN_V (x : Int64) : ∀ d, d ≤ 13 → ∀ s, s < 256 → ∀ u, u < 3 → cN x (4 * d) (mkN s u) ≤ 16 ^ d * Vs s
  | 0, _, s, hs, u, hu => by
    show cB x (mkN s u) ≤ 1 * Vs s
    rw [cB_mk hs hu]
    have := (V_le s hs).1
    split <;> omega
  | d + 1, hd, s, hs, u, hu => by
    show cN x (4 * d + 4) (mkN s u) ≤ _
    unfold cN
    rw [num_st Sr_N Nat.one_mul (n := 12 - d) (by omega) hs hu]
    have h1 : sm (fun i => 16 ^ d * (if c_cc s (t_co (stT i)) = true then Vs (c_af s (stT i)) else 0)) 94 ≤ 16 ^ (d + 1) * Vs s := by
      rw [sm_mul, Nat.pow_succ, Nat.mul_assoc]
      exact Nat.mul_le_mul_left _ (V_st s hs)
    refine Nat.le_trans (sm_le (fun i hi => ?_)) h1
    by_cases h : okS (nd x (12 - d)) s u (stT i) = true
    · rw [if_pos h]
      unfold okS at h
      rw [Bool.and_eq_true, Bool.and_eq_true] at h
      rw [if_pos h.2.1]
      exact cN_V x d (by omega) _ (c_af_lt hs) _ (by have := of_decide_eq_true h.2.2; omega)
    · rw [if_neg h]; exact Nat.zero_le _
def sR (R : Nat) : Nat := (R % 2 + 2 * (R / 4 % 2) + 4 * (R / 16 % 2) + 8 * (R / 64 % 2)) + 16 * (R / 2 % 2 + 2 * (R / 8 % 2) + 4 * (R / 32 % 2) + 8 * (R / 128 % 2))
theorem sR_r : ∀ R, R < 256 → sR R < 256 ∧ rS (sR R) = R := by decide +kernel
theorem rS_s : ∀ s, s < 256 → sR (rS s) = s := by decide +kernel
theorem mk_of {m : Nat} (hm : m < 3840) (hg : igN m = 0) : ∃ s u, s < 256 ∧ u < 3 ∧ m = mkN s u := by
  refine ⟨sR (m / 15), m % 3, (sR_r _ (by omega)).1, by omega, ?_⟩
  unfold mkN
  rw [(sR_r _ (by omega)).2]
  unfold igN at hg
  omega
theorem mk_lt {s u : Nat} (hu : u < 3) : mkN s u < 3840 ∧ igN (mkN s u) = 0 := by
  have := rS_lt s
  unfold mkN igN
  omega
theorem cN_s (x : Int64) (d m : Nat) : cN x (d + 1) m = sm (fun q => if okW x (51 - d) q = true then 1 * cO 0 (cN x d) (bhN m (51 - d) (q % 4) (joW x (51 - d) q)) else 0) 4 := rfl
theorem cN_le (x : Int64) {d' : Nat} : ∀ r, r < 4 → 4 * d' + r ≤ 52 → ∀ m, m < 3840 → igN m ≤ (52 - (4 * d' + r)) % 4 → cN x (4 * d' + r) m ≤ 4 ^ r * (16 ^ d' * 256)
  | 0, _, hd, m, hm, hg => by
    obtain ⟨s, u, hs, hu, rfl⟩ := mk_of hm (by omega)
    have h1 := cN_V x d' (by omega) s hs u hu
    have h2 := Nat.mul_le_mul_left (16 ^ d') (V_le s hs).2
    rw [Nat.pow_zero, Nat.one_mul]
    exact Nat.le_trans h1 h2
  | r + 1, hr, hd, m, hm, hg => by
    show cN x (4 * d' + r + 1) m ≤ _
    rw [cN_s]
    have h1 : ∀ q, q < 4 → (if okW x (51 - (4 * d' + r)) q = true then 1 * cO 0 (cN x (4 * d' + r)) (bhN m (51 - (4 * d' + r)) (q % 4) (joW x (51 - (4 * d' + r)) q)) else 0) ≤ 4 ^ r * (16 ^ d' * 256) := by
      intro q hq
      split
      · rw [Nat.one_mul]
        cases hb : bhN m (51 - (4 * d' + r)) (q % 4) (joW x (51 - (4 * d' + r)) q) with
        | none => exact Nat.zero_le _
        | some t =>
          obtain ⟨g1, g2⟩ := bhN_good hm (by omega) hb
          exact cN_le x r (by omega) (by omega) t g1 (by omega)
      · exact Nat.zero_le _
    refine Nat.le_trans (sm_le h1) ?_
    generalize 16 ^ d' * 256 = W
    rw [Nat.pow_succ]
    show 0 + 4 ^ r * W + 4 ^ r * W + 4 ^ r * W + 4 ^ r * W ≤ _
    rw [Nat.mul_comm (4 ^ r) 4, Nat.mul_assoc]
    omega
theorem cN_lt (x : Int64) {d m : Nat} (hd : d ≤ 52) (hm : m < 3840) (hg : igN m ≤ (52 - d) % 4) : cN x d m < 2 ^ 63 := by
  have e : d = 4 * (d / 4) + d % 4 := by omega
  have h := cN_le x (d' := d / 4) (d % 4) (by omega) (by omega) m hm (by rw [← e]; exact hg)
  rw [← e] at h
  refine Nat.lt_of_le_of_lt h ?_
  have hq : ∀ a, a < 14 → ∀ r, r < 4 → 4 * a + r ≤ 52 → 4 ^ r * (16 ^ a * 256) < 2 ^ 63 := by decide +kernel
  exact hq _ (by omega) _ (by omega) (by omega)
theorem lN_z {a : Nat} (h : a < 2 ^ 63) : lN a = 0 ↔ a = 0 := by
  refine ⟨fun z => ?_, fun z => by rw [z]; rfl⟩
  have h2 := congrArg Int64.toInt z
  rw [pf_lI h] at h2
  have h3 : (0 : Int64).toInt = 0 := rfl
  rw [h3] at h2
  omega
