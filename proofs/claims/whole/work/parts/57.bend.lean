theorem Ph_end {x y : Int64} {aim : Int32} {v : Nat → Nat → Int64} : Ph (fun a b : Nat => max a b) muT 0 tau2 (mB1 x y aim 13) v = mxF (fun u => if jkN x ≤ u ∧ u ≤ mjN x y then muT (mxF (fun s => if c_en s = true then tau2 (v s u) else 0) 256) (1 + 2 ^ 53 * ((u - jkN x) * gj aim)) else 0) 3 := by
  unfold Ph
  rw [fd_swap Mo_max]
  refine fd_congr (fun u hu => ?_)
  by_cases z : jkN x ≤ u ∧ u ≤ mjN x y
  · rw [if_pos z]
    have h := fd_hom (h := fun a => muT a (1 + 2 ^ 53 * ((u - jkN x) * gj aim))) (op := fun a b : Nat => max a b) (op2 := fun a b : Nat => max a b) (e := 0) (e2 := 0) (f := fun s => if c_en s = true then tau2 (v s u) else 0) rfl (fun a b => Sr_T.2.2.1 a b _) 256
    refine Eq.trans (fd_congr (fun s hs => ?_)) h.symm
    show muT (tau2 (v s u)) (mB1 x y aim 13 s u) = muT (if c_en s = true then tau2 (v s u) else 0) _
    rw [bB_mk hs hu]
    by_cases y1 : c_en s = true
    · rw [if_pos ⟨y1, z⟩, if_pos y1]
    · rw [if_neg (fun q => y1 q.1), if_neg y1, muT_0]; rfl
  · rw [if_neg z]
    refine fd_e Mo_max (fun s hs => ?_)
    rw [bB_mk hs hu, if_neg (fun q => z q.2)]
    exact muT_0 _
theorem bpK_0 : ∀ i, i < 3 → ((nI i).toInt64 * (1 : Int32).toInt64) <<< ((53 : Int32).toInt64 &&& 63) = lN (2 ^ 53 * (i * 1)) := by decide +kernel
theorem bpK_1 : ∀ i, i < 3 → ((nI i).toInt64 * (20 : Int32).toInt64) <<< ((53 : Int32).toInt64 &&& 63) = lN (2 ^ 53 * (i * 20)) := by decide +kernel
theorem bpK_l {aim : Int32} (ha : aim = 0 ∨ aim = 1) {i a : Nat} (hi : i < 3) : bpK (bwA aim) i (lN a) = lN (a + 2 ^ 53 * (i * gj aim)) := by
  unfold bpK
  rcases ha with rfl | rfl
  · rw [show (if bwA 0 = 0 then (1 : Int32) else 20) = 1 from rfl, bpK_0 i hi, lN_add]; rfl
  · rw [show (if bwA 1 = 0 then (1 : Int32) else 20) = 20 from rfl, bpK_1 i hi, lN_add]; rfl
theorem gj_mul {aim : Int32} {i : Nat} (hi : i < 3) : i * gj aim ≤ 40 := Nat.le_trans (Nat.mul_le_mul (by omega : i ≤ 2) (gj_le aim).2) (by decide)
/-- the class's choice among the counts of jokers -/
theorem bp_all {aim : Int32} {y : Int64} (ha : aim = 0 ∨ aim = 1) {ls : Nat} {gk : Nat → Int64} : ∀ N, N ≤ 3 → (∀ i, i < N → Pk aim y 13 (gk (ls + i))) → (∃ a, (bpF (bwA aim) ls gk N).1 = lN a ∧ a ≤ 1 + 2 ^ 53 * 440 ∧ a = mxF (fun i => muT (tau2 (gk (ls + i))) (1 + 2 ^ 53 * (i * gj aim))) N) ∧ ((bpF (bwA aim) ls gk N).1 = 0 ∨ ∃ i, i < N ∧ ¬ gk (ls + i) = 0 ∧ bpF (bwA aim) ls gk N = (bpK (bwA aim) i (gk (ls + i)), nI i))
  | 0, _, _ => ⟨⟨0, rfl, Nat.zero_le _, rfl⟩, Or.inl rfl⟩
  | N + 1, hN, h => by
    obtain ⟨⟨a, e1, b1, m1⟩, h2⟩ := bp_all ha N (by omega) (fun i hi => h i (by omega))
    have hg := gj_mul (aim := aim) (i := N) (by omega)
    obtain ⟨b, eb, bb, tb⟩ := Pk_l ha (Nat.le_refl 13) (h N (by omega))
    have hb0 : gk (ls + N) = 0 ↔ b = 0 := by rw [eb]; exact lN_z (by omega)
    have key : (bpF (bwA aim) ls gk (N + 1)) = if gk (ls + N) = 0 then bpF (bwA aim) ls gk N else if bpK (bwA aim) N (gk (ls + N)) ≤ (bpF (bwA aim) ls gk N).1 then bpF (bwA aim) ls gk N else (bpK (bwA aim) N (gk (ls + N)), nI N) := rfl
    rw [key]
    show (∃ a, _ ∧ _ ∧ a = max (mxF (fun i => muT (tau2 (gk (ls + i))) (1 + 2 ^ 53 * (i * gj aim))) N) (muT (tau2 (gk (ls + N))) (1 + 2 ^ 53 * (N * gj aim)))) ∧ _
    rw [← m1, tb]
    have hlift : ((bpF (bwA aim) ls gk N).1 = 0 ∨ ∃ i, i < N + 1 ∧ ¬ gk (ls + i) = 0 ∧ bpF (bwA aim) ls gk N = (bpK (bwA aim) i (gk (ls + i)), nI i)) := by
      rcases h2 with q | ⟨i, q1, q2⟩
      · exact Or.inl q
      · exact Or.inr ⟨i, by omega, q2⟩
    by_cases z : gk (ls + N) = 0
    · have zb := hb0.mp z
      rw [if_pos z]
      refine ⟨⟨a, e1, b1, ?_⟩, hlift⟩
      rw [zb]
      show a = max a (muT 0 _)
      rw [show muT 0 (1 + 2 ^ 53 * (N * gj aim)) = 0 from rfl]; omega
    · have zb : ¬ b = 0 := fun q => z (hb0.mpr q)
      rw [if_neg z]
      have eK : bpK (bwA aim) N (gk (ls + N)) = lN (b + 2 ^ 53 * (N * gj aim)) := by rw [eb]; exact bpK_l ha (by omega)
      have em : muT b (1 + 2 ^ 53 * (N * gj aim)) = b + 2 ^ 53 * (N * gj aim) := by
        unfold muT; rw [if_neg zb, if_neg (by omega)]; omega
      rw [em]
      generalize N * gj aim = G at hg eK em ⊢
      by_cases c : bpK (bwA aim) N (gk (ls + N)) ≤ (bpF (bwA aim) ls gk N).1
      · rw [if_pos c]
        rw [eK, e1, ← Int64.not_lt, lN_ltN (by omega) (by omega)] at c
        exact ⟨⟨a, e1, b1, by omega⟩, hlift⟩
      · rw [if_neg c]
        refine ⟨⟨b + 2 ^ 53 * G, eK, by omega, ?_⟩, Or.inr ⟨N, by omega, z, rfl⟩⟩
        rw [eK, e1, ← Int64.not_lt, lN_ltN (by omega) (by omega)] at c
        omega
/-- the bits of a key -/
def kr (T : Nat → Bool) : Nat → Nat
  | 0 => 0
  | k + 1 => 2 * kr T k + bN (T k)
def kv (aim : Int32) (T : Nat → Bool) : Nat → Nat
  | 0 => 0
  | k + 1 => kv aim T k + (if T k = true then gv aim k else 0)
theorem ks_form {aim : Int32} {T : Nat → Bool} : ∀ k, k ≤ 52 → ks aim T k = 2 ^ 53 * kv aim T k + 2 ^ (53 - k) * kr T k
  | 0, _ => rfl
  | k + 1, hk => by
    show ks aim T k + (if T k = true then kg aim k else 0) = 2 ^ 53 * (kv aim T k + (if T k = true then gv aim k else 0)) + 2 ^ (53 - (k + 1)) * (2 * kr T k + bN (T k))
    have ih := ks_form (aim := aim) (T := T) k (by omega)
    have e1 : 53 - (k + 1) = 52 - k := by omega
    have e2 : 2 ^ (53 - k) = 2 * 2 ^ (52 - k) := by rw [show 53 - k = (52 - k) + 1 by omega, Nat.pow_succ, Nat.mul_comm]
    rw [ih, e1, e2]
    unfold kg
    generalize 2 ^ (52 - k) = P
    generalize kr T k = R
    have e3 : 2 * P * R = 2 * (P * R) := Nat.mul_assoc _ _ _
    have e4 : P * (2 * R) = 2 * (P * R) := by rw [← Nat.mul_assoc, Nat.mul_comm P 2, Nat.mul_assoc]
    cases T k with
    | false =>
      rw [if_neg (by decide), if_neg (by decide), e3]
      show _ = _ + P * (2 * R)
      rw [e4]
      omega
    | true =>
      rw [if_pos rfl, if_pos rfl, e3]
      show _ = _ + P * (2 * R + 1)
      have e5 : P * (2 * R + 1) = P * (2 * R) + P := Nat.mul_succ _ _
      rw [e5, e4]
      omega
theorem kr_lt (T : Nat → Bool) : ∀ k, kr T k < 2 ^ k
  | 0 => Nat.one_pos
  | k + 1 => by
    have := kr_lt T k
    have := bN_le (T k)
    show 2 * kr T k + bN (T k) < 2 ^ (k + 1)
    rw [Nat.pow_succ]
    omega
theorem bN_inj {a b : Bool} (h : bN a = bN b) : a = b := by cases a <;> cases b <;> first | rfl | exact absurd h (by decide)
theorem kr_inj {T T2 : Nat → Bool} : ∀ k, kr T k = kr T2 k → ∀ j, j < k → T j = T2 j
  | 0, _, j, hj => absurd hj (Nat.not_lt_zero j)
  | k + 1, h, j, hj => by
    have h' : 2 * kr T k + bN (T k) = 2 * kr T2 k + bN (T2 k) := h
    have h1 := bN_le (T k)
    have h2 := bN_le (T2 k)
    rcases Nat.lt_succ_iff_lt_or_eq.mp hj with z | z
    · exact kr_inj k (by omega) j z
    · subst z; exact bN_inj (by omega)
theorem kr_div (T : Nat → Bool) {c : Nat} : ∀ e, kr T (c + e) / 2 ^ e = kr T c
  | 0 => by rw [Nat.add_zero, Nat.pow_zero, Nat.div_one]
  | e + 1 => by
    show (2 * kr T (c + e) + bN (T (c + e))) / 2 ^ (e + 1) = kr T c
    have := bN_le (T (c + e))
    rw [Nat.pow_succ, Nat.mul_comm (2 ^ e) 2, ← Nat.div_div_eq_div_mul, show (2 * kr T (c + e) + bN (T (c + e))) / 2 = kr T (c + e) by omega]
    exact kr_div T e
theorem key_inj {aim : Int32} {T T2 : Nat → Bool} {A B : Nat} (h : 1 + 2 ^ 53 * A + ks aim T 52 = 1 + 2 ^ 53 * B + ks aim T2 52) : ∀ j, j < 52 → T j = T2 j := by
  rw [ks_form 52 (by decide), ks_form 52 (by decide)] at h
  have h1 := kr_lt T 52
  have h2 := kr_lt T2 52
  refine kr_inj 52 ?_
  have e : 2 ^ (53 - 52) = 2 := rfl
  rw [e] at h
  generalize kr T 52 = a at *
  generalize kr T2 52 = b at *
  omega
theorem key_bit {T : Nat → Bool} {Z c : Nat} (hc : c < 52) : (1 + 2 ^ 53 * Z + 2 * kr T 52) / 2 ^ (52 - c) % 2 = bN (T c) := by
  have e1 : 2 ^ (52 - c) = 2 * 2 ^ (51 - c) := by rw [show 52 - c = (51 - c) + 1 by omega, Nat.pow_succ, Nat.mul_comm]
  have e2 : (1 + 2 ^ 53 * Z + 2 * kr T 52) / 2 = kr T 52 + 2 ^ 52 * Z := by omega
  have e3 : 2 ^ 52 = 2 ^ (51 - c) * 2 ^ (c + 1) := by rw [← Nat.pow_add]; congr 1; omega
  rw [e1, ← Nat.div_div_eq_div_mul, e2, e3, Nat.mul_assoc, Nat.add_mul_div_left _ _ (Nat.pow_pos (by decide))]
  have h := kr_div T (c := c + 1) (51 - c)
  rw [show c + 1 + (51 - c) = 52 by omega] at h
  rw [h, Nat.pow_succ]
  show (2 * kr T c + bN (T c) + 2 ^ c * 2 * Z) % 2 = _
  have := bN_le (T c)
  rw [Nat.mul_comm (2 ^ c) 2, Nat.mul_assoc]
  omega
theorem ck_bit {T : Nat → Bool} {Z N : Nat} (hN : N = 1 + 2 ^ 53 * Z + 2 * kr T 52) (hl : N < 2 ^ 63) : ∀ c, c ≤ 52 → ∀ j, hsB (ckF (lN N) c) j = (decide (j < c) && T j)
  | 0, _, j => by
    show hsB 0 j = _
    rw [hs_0, decide_eq_false (Nat.not_lt_zero j)]; rfl
  | c + 1, hc, j => by
    have ih := ck_bit hN hl c (by omega) j
    have hlt : decide (j < c + 1) = (decide (j < c) || decide (j = c)) := by
      by_cases z : j < c
      · rw [decide_eq_true z, decide_eq_true (by omega)]; rfl
      · rw [decide_eq_false z]
        by_cases q : j = c
        · rw [decide_eq_true q, decide_eq_true (by omega)]; rfl
        · rw [decide_eq_false q, decide_eq_false (by omega)]; rfl
    show hsB (ckF (lN N) c ||| ((((lN N).toUInt64 >>> ((52 - nI c).toInt64.toUInt64 &&& Int64.toUInt64 63)).toInt64 &&& 1) <<< ((nI c).toInt64 &&& 63))) j = _
    rw [show (52 : Int32) = nI 52 from rfl, pk_sub (by omega), wb_bit (by omega) (by omega), hN, key_bit (by omega), hs_or, ← hN, ih, hlt]
    cases hT : T c with
    | false =>
      rw [show lN (bN false) <<< ((nI c).toInt64 &&& 63) = 0 from by rw [wb_shl _ (by omega)]; show lN (0 * 2 ^ c) = 0; rw [Nat.zero_mul]; rfl, hs_0, Bool.or_false]
      by_cases q : j = c
      · subst q; rw [hT, Bool.and_false, Bool.and_false]
      · rw [decide_eq_false q, Bool.or_false]
    | true =>
      rw [show lN (bN true) <<< ((nI c).toInt64 &&& 63) = 1 <<< ((nI c).toInt64 &&& 63) from rfl, hs_bit (by omega)]
      by_cases q : j = c
      · subst q; rw [hT, decide_eq_true rfl]; simp
      · rw [decide_eq_false q, Bool.or_false, Bool.or_false]
/-- the jokers taken -/
theorem fj_c {y : Int64} {i : Nat} (hi : i < 2) : (lg_cmp ((y.toUInt64 >>> ((nI (52 + i)).toInt64.toUInt64 &&& Int64.toUInt64 63)).toInt64 &&& 1) 0 = 0) ↔ hsB y (52 + i) = false := by
  rw [cmp_eq]
  exact ts_bit (by omega) (by rw [wb_cu _ (by omega)]; exact Nat.mod_eq_of_lt (by omega))
def fjS (b : Bool) (i : Nat) (r : Int32 × Int64) : Int32 × Int64 := if r.1 ≤ 0 then r else if b = false then r else (r.1 + (-1), r.2 ||| (1 <<< ((nI (52 + i)).toInt64 &&& 63)))
theorem fj_2 {y : Int64} {u : Int32} : fj6 y u 2 = fjS (hsB y 53) 1 (fjS (hsB y 52) 0 (u, 0)) := by
  have h0 : fj6 y u 1 = fjS (hsB y 52) 0 (u, 0) := by
    show (if (fj6 y u 0).1 ≤ 0 then fj6 y u 0 else if _ then _ else _) = _
    unfold fjS
    have e : fj6 y u 0 = (u, 0) := rfl
    rw [e]
    by_cases z : u ≤ 0
    · rw [if_pos z, if_pos z]
    · rw [if_neg z, if_neg z]
      by_cases c : hsB y 52 = false
      · rw [if_pos ((fj_c (i := 0) (by decide)).mpr c), if_pos c]
      · rw [if_neg (fun q => c ((fj_c (i := 0) (by decide)).mp q)), if_neg c]
  show (if (fj6 y u 1).1 ≤ 0 then fj6 y u 1 else if _ then _ else _) = _
  rw [← h0]
  unfold fjS
  by_cases z : (fj6 y u 1).1 ≤ 0
  · rw [if_pos z, if_pos z]
  · rw [if_neg z, if_neg z]
    by_cases c : hsB y 53 = false
    · rw [if_pos ((fj_c (i := 1) (by decide)).mpr c), if_pos c]
    · rw [if_neg (fun q => c ((fj_c (i := 1) (by decide)).mp q)), if_neg c]
theorem fjS_all : ∀ U, U < 3 → ∀ a b : Bool, U ≤ bN a + bN b → ∃ c, c < 2 ∧ ∃ d, d < 2 ∧ c + d = U ∧ c ≤ bN a ∧ d ≤ bN b ∧ (fjS b 1 (fjS a 0 (nI U, 0))).2 = lN (c * 2 ^ 52 + d * 2 ^ 53) := by
  intro U hU a b
  have h : U = 0 ∨ U = 1 ∨ U = 2 := by omega
  rcases h with rfl | rfl | rfl <;> cases a <;> cases b <;> intro hle <;> first
    | exact absurd hle (by decide)
    | exact ⟨0, by decide, 0, by decide, by decide, by decide, by decide, by decide⟩
    | exact ⟨1, by decide, 0, by decide, by decide, by decide, by decide, by decide⟩
    | exact ⟨0, by decide, 1, by decide, by decide, by decide, by decide, by decide⟩
    | exact ⟨1, by decide, 1, by decide, by decide, by decide, by decide, by decide⟩
theorem jk_bit : ∀ c, c < 2 → ∀ d, d < 2 → ∀ j, j < 64 → hsB (lN (c * 2 ^ 52 + d * 2 ^ 53)) j = ((decide (j = 52) && decide (c = 1)) || (decide (j = 53) && decide (d = 1))) := by decide +kernel
theorem fjF_6 {y : Int64} {u : Int32} {pt : Int64} (hy : isS y) : ∀ i, i ≤ 2 → (fjF y u pt i).1 = (fj6 y u i).1 ∧ (fjF y u pt i).2 = pt ||| (fj6 y u i).2
  | 0, _ => ⟨rfl, by show pt = pt ||| 0; rw [Int64.or_zero]⟩
  | i + 1, hi => by
    obtain ⟨h1, h2⟩ := fjF_6 (u := u) (pt := pt) hy i (by omega)
    have hc : j_X8_has y (nI (52 + i)) = 0 ↔ lg_cmp ((y.toUInt64 >>> ((nI (52 + i)).toInt64.toUInt64 &&& Int64.toUInt64 63)).toInt64 &&& 1) 0 = 0 := by
      rw [fj_c (by omega), jb_has hy (by omega)]
      cases hsB y (52 + i) with
      | false => exact ⟨fun _ => rfl, fun _ => rfl⟩
      | true => exact ⟨fun z => absurd z (by decide), fun z => absurd z (by decide)⟩
    show (if (fjF y u pt i).1 ≤ 0 then fjF y u pt i else if j_X8_has y (nI (52 + i)) = 0 then fjF y u pt i else ((fjF y u pt i).1 + (-1), (fjF y u pt i).2 ||| (1 <<< ((nI (52 + i)).toInt64 &&& 63)))).1 = (if (fj6 y u i).1 ≤ 0 then fj6 y u i else if lg_cmp ((y.toUInt64 >>> ((nI (52 + i)).toInt64.toUInt64 &&& Int64.toUInt64 63)).toInt64 &&& 1) 0 = 0 then fj6 y u i else ((fj6 y u i).1 + (-1), (fj6 y u i).2 ||| (1 <<< ((nI (52 + i)).toInt64 &&& 63)))).1 ∧ (if (fjF y u pt i).1 ≤ 0 then fjF y u pt i else if j_X8_has y (nI (52 + i)) = 0 then fjF y u pt i else ((fjF y u pt i).1 + (-1), (fjF y u pt i).2 ||| (1 <<< ((nI (52 + i)).toInt64 &&& 63)))).2 = pt ||| (if (fj6 y u i).1 ≤ 0 then fj6 y u i else if lg_cmp ((y.toUInt64 >>> ((nI (52 + i)).toInt64.toUInt64 &&& Int64.toUInt64 63)).toInt64 &&& 1) 0 = 0 then fj6 y u i else ((fj6 y u i).1 + (-1), (fj6 y u i).2 ||| (1 <<< ((nI (52 + i)).toInt64 &&& 63)))).2
    rw [h1]
    by_cases z : (fj6 y u i).1 ≤ 0
    · rw [if_pos z, if_pos z]; exact ⟨h1, h2⟩
    · rw [if_neg z, if_neg z]
      by_cases c : j_X8_has y (nI (52 + i)) = 0
      · rw [if_pos c, if_pos (hc.mp c)]; exact ⟨h1, h2⟩
      · rw [if_neg c, if_neg (fun q => c (hc.mpr q))]
        exact ⟨rfl, by show _ ||| _ = pt ||| (_ ||| _); rw [h2, Int64.or_assoc]⟩
