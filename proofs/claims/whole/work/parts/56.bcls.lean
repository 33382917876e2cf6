theorem ks_mono {aim : Int32} {T : Nat → Bool} : ∀ k, ks aim T k ≤ ks aim (fun _ => true) k
  | 0 => Nat.le_refl _
  | k + 1 => by
    have := ks_mono (aim := aim) (T := T) k
    show ks aim T k + (if T k = true then kg aim k else 0) ≤ ks aim (fun _ => true) k + (if true = true then kg aim k else 0)
    rw [if_pos rfl]
    split <;> omega
theorem ks_up {aim : Int32} {T : Nat → Bool} : ∀ a b, ks aim T a ≤ ks aim T (a + b)
  | a, 0 => Nat.le_refl _
  | a, b + 1 => Nat.le_trans (ks_up a b) (Nat.le_add_right _ _)
theorem ks_01 : ks 0 (fun _ => true) 52 ≤ 2 ^ 53 * 400 ∧ ks 1 (fun _ => true) 52 ≤ 2 ^ 53 * 400 := by decide +kernel
theorem ks_le {aim : Int32} (ha : aim = 0 ∨ aim = 1) {T : Nat → Bool} {k : Nat} (hk : k ≤ 52) : ks aim T k ≤ 2 ^ 53 * 400 := by
  have h1 := ks_up (aim := aim) (T := T) k (52 - k)
  rw [show k + (52 - k) = 52 by omega] at h1
  refine Nat.le_trans h1 (Nat.le_trans (ks_mono 52) ?_)
  rcases ha with rfl | rfl
  · exact ks_01.1
  · exact ks_01.2
theorem ks_congr {aim : Int32} {T T2 : Nat → Bool} : ∀ k, (∀ j, j < k → T j = T2 j) → ks aim T k = ks aim T2 k
  | 0, _ => rfl
  | k + 1, h => by
    show ks aim T k + _ = ks aim T2 k + _
    rw [ks_congr k (fun j hj => h j (by omega)), h k (by omega)]
def tau2 (z : Int64) : Nat := z.toInt.toNat
theorem tau_l {a : Nat} (h : a < 2 ^ 63) : tau2 (lN a) = a := by unfold tau2; rw [pf_lI h]; rfl
theorem lN_ltN {a b : Nat} (ha : a < 2 ^ 63) (hb : b < 2 ^ 63) : lN a < lN b ↔ a < b := by
  have hl : ∀ {a b : Int64}, a < b ↔ a.toInt < b.toInt := fun {a b} => by first | exact Int64.lt_iff_toInt_lt | exact Iff.rfl
  rw [hl, pf_lI ha, pf_lI hb]
  omega
/-- a row's value: nothing, or the key of cards of the numbers behind -/
def Pk (aim : Int32) (y : Int64) (n : Nat) (v : Int64) : Prop := v = 0 ∨ ∃ T : Nat → Bool, (∀ j, T j = true → hsB y j = true) ∧ v = lN (1 + ks aim T (4 * n))
def Pgk (aim : Int32) (y : Int64) (n : Nat) (g : Int64) : Prop := ∃ C, C < 16 ∧ (∀ c, c < 4 → bt2 C c = 1 → hsB y (4 * n + c) = true) ∧ g = lN (g4 aim n C)
theorem Pk_l {aim : Int32} {y : Int64} (ha : aim = 0 ∨ aim = 1) {n : Nat} (hn : n ≤ 13) {v : Int64} (h : Pk aim y n v) : ∃ a, v = lN a ∧ a ≤ 1 + 2 ^ 53 * 400 ∧ tau2 v = a := by
  rcases h with z | ⟨T, _, z⟩
  · exact ⟨0, z, Nat.zero_le _, by rw [z]; rfl⟩
  · have := ks_le ha (T := T) (k := 4 * n) (by omega)
    exact ⟨1 + ks aim T (4 * n), z, by omega, by rw [z, tau_l (by omega)]⟩
theorem ks_4 {aim : Int32} {n C : Nat} {T : Nat → Bool} (hn : n < 13) : ks aim T (4 * n) + g4 aim n C = ks aim (fun j => if j < 4 * n then T j else decide (bt2 C (j - 4 * n) = 1)) (4 * (n + 1)) := by
  show _ = ks aim _ (4 * n) + (if (if 4 * n < 4 * n then T (4 * n) else decide (bt2 C (4 * n - 4 * n) = 1)) = true then kg aim (4 * n) else 0) + (if (if 4 * n + 1 < 4 * n then T (4 * n + 1) else decide (bt2 C (4 * n + 1 - 4 * n) = 1)) = true then kg aim (4 * n + 1) else 0) + (if (if 4 * n + 2 < 4 * n then T (4 * n + 2) else decide (bt2 C (4 * n + 2 - 4 * n) = 1)) = true then kg aim (4 * n + 2) else 0) + (if (if 4 * n + 3 < 4 * n then T (4 * n + 3) else decide (bt2 C (4 * n + 3 - 4 * n) = 1)) = true then kg aim (4 * n + 3) else 0)
  have e0 : 4 * n - 4 * n = 0 := by omega
  have e1 : 4 * n + 1 - 4 * n = 1 := by omega
  have e2 : 4 * n + 2 - 4 * n = 2 := by omega
  have e3 : 4 * n + 3 - 4 * n = 3 := by omega
  rw [if_neg (Nat.lt_irrefl _), if_neg (show ¬ 4 * n + 1 < 4 * n by omega), if_neg (show ¬ 4 * n + 2 < 4 * n by omega), if_neg (show ¬ 4 * n + 3 < 4 * n by omega), e0, e1, e2, e3, ← g4_sum hn]
  have hb : ∀ c K, (if decide (bt2 C c = 1) = true then K else 0) = bt2 C c * K := by
    intro c K
    have := bt2_lt C c
    generalize bt2 C c = b at this
    have h : b = 0 ∨ b = 1 := by omega
    rcases h with rfl | rfl
    · rw [if_neg (by decide), Nat.zero_mul]
    · rw [if_pos (by decide), Nat.one_mul]
  rw [hb, hb, hb, hb, ks_congr (T := fun j => if j < 4 * n then T j else decide (bt2 C (j - 4 * n) = 1)) (T2 := T) (4 * n) (fun j hj => if_pos hj)]
  omega
theorem Cr_b {aim : Int32} {y : Int64} (ha : aim = 0 ∨ aim = 1) {n : Nat} (hn : n < 13) : Crr (fun a b : Nat => max a b) muT tau2 wgT 0 (Pk aim y n) (Pgk aim y n) (Pk aim y (n + 1)) := by
  intro old val g hold hval hv0 hg _
  obtain ⟨a, ea, ba, ta⟩ := Pk_l ha (by omega) hold
  obtain ⟨C, hC, hCy, eg⟩ := hg
  have hgl := g4_lt (aim := aim) (C := C) hn
  rcases hval with z | ⟨T, hTy, ev⟩
  · exact absurd z hv0
  · have hk := ks_4 (aim := aim) (C := C) (T := T) hn
    have hb := ks_le ha (T := fun j => if j < 4 * n then T j else decide (bt2 C (j - 4 * n) = 1)) (k := 4 * (n + 1)) (by omega)
    have hb2 := ks_le ha (T := T) (k := 4 * n) (by omega)
    have es : val + g = lN (1 + ks aim (fun j => if j < 4 * n then T j else decide (bt2 C (j - 4 * n) = 1)) (4 * (n + 1))) := by
      rw [ev, eg, lN_add, ← hk]; congr 1; omega
    have tv : tau2 val = 1 + ks aim T (4 * n) := by rw [ev]; exact tau_l (by omega)
    have tg : wgT g = 1 + g4 aim n C := by rw [eg]; exact wg_l hgl
    have hTy2 : ∀ j, (if j < 4 * n then T j else decide (bt2 C (j - 4 * n) = 1)) = true → hsB y j = true := by
      intro j hj
      by_cases q : j < 4 * n
      · rw [if_pos q] at hj; exact hTy j hj
      · rw [if_neg q] at hj
        have e1 := of_decide_eq_true hj
        have e2 : j - 4 * n < 4 := by
          by_cases q2 : j - 4 * n < 4
          · exact q2
          · exfalso
            unfold bt2 at e1
            have : C / 2 ^ (j - 4 * n) = 0 := Nat.div_eq_of_lt (Nat.lt_of_lt_of_le hC (Nat.pow_le_pow_right (n := 2) (by decide) (show 4 ≤ j - 4 * n by omega)))
            rw [this] at e1
            exact absurd e1 (by decide)
        have e3 := hCy _ e2 e1
        rw [show 4 * n + (j - 4 * n) = j by omega] at e3
        exact e3
    rw [tv, tg, muT_s, hk, ta]
    unfold cyV
    rw [if_pos rfl, es, ea]
    generalize hN : ks aim (fun j => if j < 4 * n then T j else decide (bt2 C (j - 4 * n) = 1)) (4 * (n + 1)) = N at hb hk es
    by_cases z : lN (1 + N) < lN a
    · rw [if_pos z]
      rw [lN_ltN (by omega) (by omega)] at z
      refine ⟨by rw [← ea]; exact hold, ?_⟩
      rw [tau_l (by omega)]
      show a = max a (1 + N)
      omega
    · rw [if_neg z]
      rw [lN_ltN (by omega) (by omega)] at z
      refine ⟨Or.inr ⟨_, hTy2, by rw [← hN]⟩, ?_⟩
      rw [tau_l (by omega)]
      show 1 + N = max a (1 + N)
      omega
theorem op_y {y : Int64} {n k c : Nat} (hk : k < 94) (hc : c < 4) (h : bt2 (opT y n k) c = 1) : hsB y (4 * n + c) = true := by
  rw [op_bit hk hc] at h
  cases z : hsB y (4 * n + c) with
  | true => rfl
  | false => rw [z] at h; exact absurd ((Nat.mul_zero _).symm.trans h) (by decide)
theorem rs_best {x y : Int64} {aim : Int32} {vs : Nat → Nat → Nat → Int64} (ha : aim = 0 ∨ aim = 1) (hdj : ∀ k, k < 52 → hsB x k = true → hsB y k = false) (h0 : vs 0 = up2 (fun _ _ => 0) 0 0 1) (hs : ∀ n, n < 13 → rowStep 0 (bwA aim) x y (mjN x y) n (vs n) (vs (n + 1))) : ∀ n, n ≤ 13 → PW (Pk aim y n) (vs n) ∧ Ph (fun a b : Nat => max a b) muT 0 tau2 (mB1 x y aim n) (vs n) = mB x y aim 52 0
  | 0, _ => by
    rw [h0]
    refine ⟨PW_up (fun _ _ => Or.inl rfl) (Or.inr ⟨fun _ => false, fun _ h => Bool.noConfusion h, rfl⟩), ?_⟩
    rw [Ph_1 Sr_T (one := 1) rfl rfl muT_1]
    have e : mB1 x y aim 0 0 0 = if mjN x y < 0 then 0 else mB x y aim (4 * (13 - 0)) (mkN 0 0) := rfl
    rw [e, if_neg (by omega)]
    rw [show 4 * (13 - 0) = 52 from rfl, show mkN 0 0 = 0 from rfl]
  | n + 1, hn => by
    obtain ⟨i1, i2⟩ := rs_best ha hdj h0 hs n (by omega)
    obtain ⟨j1, j2⟩ := rowStep_ph (b := mB1 x y aim (n + 1)) (wg := wgT) Sr_T (Cr_b ha (show n < 13 by omega)) rfl (Or.inl rfl) (mjN_le x y) (hs n (by omega)) i1 (fun k hk _ m hm hz => by
      have c5 : miN x y n k ≤ m ∧ m ≤ popc (opT y n k) + miN x y n k := by
        by_cases q : miN x y n k ≤ m ∧ m ≤ popc (opT y n k) + miN x y n k
        · exact q
        · exact absurd (sgV_no (mi_le x y n k) (op_lt y n k) hm q) hz
      exact ⟨_, (dr_p _ (op_lt y n k) (m - miN x y n k) (by omega)).1, fun c hc hcb => op_y hk hc (bt_sub _ (dr_p _ (op_lt y n k) (m - miN x y n k) (by omega)).1 _ (op_lt y n k) (dr_p _ (op_lt y n k) (m - miN x y n k) (by omega)).2 c hc hcb), sgV_y ha (by omega) (mi_le x y n k) (op_lt y n k) hm c5.1 c5.2⟩)
    refine ⟨j1, ?_⟩
    rw [j2, ← i2]
    exact Ph_congr (fun s hs' u hu => bk_b ha hdj (by omega) hs' hu)
/-- the greatest at the end -/
theorem ga_tau {aim : Int32} {y : Int64} (ha : aim = 0 ∨ aim = 1) {v : Nat → Nat → Int64} {u : Nat} {q : Nat → Nat} (hv : PW (Pk aim y 13) v) : ∀ N, Pk aim y 13 (gaF v u q N) ∧ tau2 (gaF v u q N) = mxF (fun i => if c_en (q i) = true then tau2 (v (q i) u) else 0) N
  | 0 => ⟨Or.inl rfl, rfl⟩
  | N + 1 => by
    obtain ⟨i1, i2⟩ := ga_tau ha (u := u) (q := q) hv N
    show Pk aim y 13 (if c_en (q N) = true then (if v (q N) u < gaF v u q N then gaF v u q N else v (q N) u) else gaF v u q N) ∧ tau2 (if c_en (q N) = true then (if v (q N) u < gaF v u q N then gaF v u q N else v (q N) u) else gaF v u q N) = max (mxF (fun i => if c_en (q i) = true then tau2 (v (q i) u) else 0) N) (if c_en (q N) = true then tau2 (v (q N) u) else 0)
    rw [← i2]
    by_cases z : c_en (q N) = true
    · rw [if_pos z, if_pos z]
      have hP := hv (q N) u
      obtain ⟨a, ea, ba, ta⟩ := Pk_l ha (Nat.le_refl 13) i1
      obtain ⟨b, eb, bb, tb⟩ := Pk_l ha (Nat.le_refl 13) hP
      by_cases yy : v (q N) u < gaF v u q N
      · rw [if_pos yy]
        rw [ea, eb, lN_ltN (by omega) (by omega)] at yy
        exact ⟨i1, by rw [ta, tb]; omega⟩
      · rw [if_neg yy]
        rw [ea, eb, lN_ltN (by omega) (by omega)] at yy
        exact ⟨hP, by rw [ta, tb]; omega⟩
    · rw [if_neg z, if_neg z]
      exact ⟨i1, by omega⟩
theorem ga_all {aim : Int32} {y : Int64} (ha : aim = 0 ∨ aim = 1) {v : Nat → Nat → Int64} {u : Nat} {htf : Nat → Int32} {hcn : Int32} {cL1 : Nat} {q : Nat → Nat} (hu : u < 3) (hv : PW (Pk aim y 13) v) (hr : rowL htf hcn v cL1 q) : Pk aim y 13 (gaF v u q cL1) ∧ tau2 (gaF v u q cL1) = mxF (fun s => if c_en s = true then tau2 (v s u) else 0) 256 := by
  obtain ⟨_, _, hq, hinj, hcov⟩ := hr
  obtain ⟨i1, i2⟩ := ga_tau ha (u := u) (q := q) hv cL1
  refine ⟨i1, i2.trans ?_⟩
  refine fd_list (f := fun s => if c_en s = true then tau2 (v s u) else 0) Mo_max (fun i hi => (hq i hi).1) hinj (fun s hs => ?_)
  rcases hcov s hs with z | z
  · exact Or.inl z
  · refine Or.inr ?_
    show (if c_en s = true then tau2 (v s u) else 0) = 0
    rw [z u hu]; split <;> rfl
theorem bB_mk {x y : Int64} {aim : Int32} {s u : Nat} (hs : s < 256) (hu : u < 3) : mB1 x y aim 13 s u = if c_en s = true ∧ jkN x ≤ u ∧ u ≤ mjN x y then 1 + 2 ^ 53 * ((u - jkN x) * gj aim) else 0 := by
  have e : mB1 x y aim 13 s u = if mjN x y < u then 0 else bB x y aim (mkN s u) := rfl
  have hj := mj_lt (x := x) (y := y) hu
  rw [e]
  unfold bB
  rw [wh_mk s hs u hu, jkM_mk hu]
  by_cases z : mjN x y < u
  · rw [if_pos z, if_neg (fun q => by omega)]
  · rw [if_neg z]
    have z1 : ¬ jkN x + jkN y < u := fun q => z (hj.mpr q)
    cases c_en s with
    | false => rw [if_pos (show (if false = true then (1 : Int32) else 0) = 0 from rfl), if_neg (fun q => absurd q.1 (by decide))]
    | true =>
      rw [if_neg (show ¬ (if true = true then (1 : Int32) else 0) = 0 by decide)]
      by_cases z2 : u < jkN x
      · rw [if_pos z2, if_neg (fun q => by omega)]
      · rw [if_neg z2, if_neg (by omega), if_pos ⟨rfl, by omega, by omega⟩]
