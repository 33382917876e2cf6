theorem bs_all {x y : Int64} {aim : Int32} {mf : Nat → Int32} {Hs : Nat → Nat → Int32} {lf : Nat → Int32} {pt : Nat → Int64} {T : Nat → Bool} (hx : isS x) (hy : isS y) (hM : MostEq x y aim mf) (hdj : ∀ k, k < 52 → hsB x k = true → hsB y k = false) (hB : bestSeq x y aim mf Hs lf pt 52) (hne : ¬ mf 0 = -1) (hT : ∀ k, k < 52 → stT2 x y aim mf Hs lf pt T k) : ∀ k, k ≤ 52 → bsI x y aim (Hs k) (lf k) T k
  | 0, _ => by
    obtain ⟨h1, h2, _, _⟩ := hB
    have hm := M_mB hx hy hM 52 (by decide) 0 (by decide) (by decide)
    rw [show 3840 * (52 - 52) + 0 = 0 from rfl] at hm
    have hm' : mf 0 = vO (mB x y aim 52 0) := hm
    have hnz : ¬ mB x y aim 52 0 = 0 := fun z => hne (by rw [hm', z]; rfl)
    unfold bsI
    rw [show 52 - 0 = 52 from rfl]
    clear hm
    generalize mB x y aim 52 = f at hm' hnz ⊢
    refine ⟨f 0, ⟨0, by decide, by rw [h1 0 (by decide)]; decide, rfl⟩, fun m hm0 hH => ?_, (Nat.add_zero (f 0)).symm⟩
    have e : m = 0 := by
      by_cases z : m = 0
      · exact z
      · rw [h1 m hm0, if_neg z] at hH; exact absurd rfl hH
    subst e
    exact ⟨by decide, Nat.le_refl _, hnz, hm'.symm.trans h2.symm⟩
  | k + 1, hk => bs_step hx hy hM hdj (by omega) (hT k (by omega)) (bs_all hx hy hM hdj hB hne hT k (by omega))
theorem bB_at {x y : Int64} {aim : Int32} {m : Nat} (h : ¬ bB x y aim m = 0) : ¬ j_X8_isWhole (nI m) = 0 ∧ jkN x ≤ jkM m ∧ jkM m - jkN x ≤ jkN y ∧ bB x y aim m = 1 + 2 ^ 53 * ((jkM m - jkN x) * gj aim) := by
  unfold bB at h ⊢
  by_cases z : j_X8_isWhole (nI m) = 0
  · rw [if_pos z] at h; exact absurd rfl h
  · rw [if_neg z] at h ⊢
    by_cases z2 : jkM m < jkN x
    · rw [if_pos z2] at h; exact absurd rfl h
    · rw [if_neg z2] at h ⊢
      by_cases z3 : jkN y < jkM m - jkN x
      · rw [if_pos z3] at h; exact absurd rfl h
      · rw [if_neg z3]; exact ⟨z, by omega, by omega, rfl⟩
theorem lastU_of {x : Int64} {H : Nat → Int32} {U : Nat} (hx : isS x) (h : ∀ m, m < 3840 → ¬ H m = 0 → jkM m = jkN x + U) : ∀ N, N ≤ 3840 → (∃ m, m < N ∧ ¬ H m = 0) → lastU x H N = nI U
  | 0, _, ⟨m, hm, _⟩ => absurd hm (Nat.not_lt_zero m)
  | N + 1, hN, ⟨m, hm, hH⟩ => by
    show (if H N = 0 then lastU x H N else j_X8_jokers (nI N) - j_X8_jokersOf x) = nI U
    by_cases z : H N = 0
    · rw [if_pos z]
      refine lastU_of hx h N (by omega) ⟨m, ?_, hH⟩
      rcases Nat.lt_succ_iff_lt_or_eq.mp hm with q | q
      · exact q
      · subst q; exact absurd z hH
    · rw [if_neg z, jb_jk (by omega), jk_8 hx, h N (by omega) z, pk_sub (by omega)]
      congr 1; omega
theorem bs_end {x y : Int64} {aim : Int32} {mf : Nat → Int32} {Hs : Nat → Nat → Int32} {lf : Nat → Int32} {pt : Nat → Int64} {T : Nat → Bool} (hx : isS x) (hy : isS y) (hM : MostEq x y aim mf) (hdj : ∀ k, k < 52 → hsB x k = true → hsB y k = false) (hB : bestSeq x y aim mf Hs lf pt 52) (hne : ¬ mf 0 = -1) (hT : ∀ k, k < 52 → stT2 x y aim mf Hs lf pt T k) : ∃ U, mB x y aim 52 0 = 1 + 2 ^ 53 * (U * gj aim) + ks aim T 52 ∧ lastU x (Hs 52) 3840 = nI U ∧ U ≤ jkN y ∧ jkN x + U ≤ 2 ∧ (∃ m, m < 3840 ∧ ¬ Hs 52 m = 0) ∧ ∀ m, m < 3840 → ¬ Hs 52 m = 0 → ¬ j_X8_isWhole (nI m) = 0 ∧ jkM m = jkN x + U := by
  obtain ⟨kap, ⟨m0, hm0, hH0, hk0⟩, hall, htot⟩ := bs_all hx hy hM hdj hB hne hT 52 (Nat.le_refl 52)
  have hz : ∀ m, m < 3840 → ¬ Hs 52 m = 0 → ¬ j_X8_isWhole (nI m) = 0 ∧ jkN x ≤ jkM m ∧ jkM m - jkN x ≤ jkN y ∧ mB x y aim 0 m = 1 + 2 ^ 53 * ((jkM m - jkN x) * gj aim) := fun m h1 h2 => bB_at (hall m h1 h2).2.2.1
  obtain ⟨a1, a2, a3, a4⟩ := hz m0 hm0 hH0
  have hj := gj_le aim
  have hl0 := jkM_lt m0
  have hU : ∀ m, m < 3840 → ¬ Hs 52 m = 0 → jkM m = jkN x + (jkM m0 - jkN x) := by
    intro m h1 h2
    obtain ⟨b1, b2, b3, b4⟩ := hz m h1 h2
    have v1 : vO (mB x y aim 0 m) = lf 52 := (hall m h1 h2).2.2.2
    have v2 : vO (mB x y aim 0 m0) = lf 52 := (hall m0 hm0 hH0).2.2.2
    have hl1 := jkM_lt m
    have v3 := v1.trans v2.symm
    rw [a4, b4] at v3
    unfold vO at v3
    rw [if_neg (by omega), if_neg (by omega)] at v3
    have hb1 : (jkM m - jkN x) * gj aim ≤ 2 * 20 := Nat.mul_le_mul (by omega) hj.2
    have hb2 : (jkM m0 - jkN x) * gj aim ≤ 2 * 20 := Nat.mul_le_mul (by omega) hj.2
    have v4 := (nI_eq (by omega) (by omega)).mp v3
    have v5 : (jkM m - jkN x) * gj aim = (jkM m0 - jkN x) * gj aim := by omega
    have v6 := Nat.eq_of_mul_eq_mul_right (by omega : 0 < gj aim) v5
    omega
  refine ⟨jkM m0 - jkN x, ?_, lastU_of hx hU 3840 (Nat.le_refl _) ⟨m0, hm0, hH0⟩, a3, by omega, ⟨m0, hm0, hH0⟩, fun m h1 h2 => ⟨(hz m h1 h2).1, hU m h1 h2⟩⟩
  rw [htot, ← hk0]
  show mB x y aim 0 m0 + _ = _
  rw [a4]
theorem hs_or {a b : Int64} {j : Nat} : hsB (a ||| b) j = (hsB a j || hsB b j) := by
  unfold hsB
  show (a.toBitVec ||| b.toBitVec).getLsbD j = _
  rw [BitVec.getLsbD_or]
theorem hs_and {a b : Int64} {j : Nat} : hsB (a &&& b) j = (hsB a j && hsB b j) := by
  unfold hsB
  show (a.toBitVec &&& b.toBitVec).getLsbD j = _
  rw [BitVec.getLsbD_and]
theorem hs_bit {k j : Nat} (hk : k < 64) : hsB (1 <<< ((nI k).toInt64 &&& 63)) j = decide (j = k) := by
  rw [show (1 : Int64) = lN 1 from rfl, wb_shl 1 hk, Nat.one_mul]
  unfold hsB
  rw [wb_tb, BitVec.getLsbD_ofNat, Nat.testBit_two_pow]
  by_cases h : k = j
  · subst h; simp [hk]
  · rw [decide_eq_false h, Bool.and_false, decide_eq_false (fun z => h z.symm)]
theorem hs_0 (j : Nat) : hsB 0 j = false := by
  unfold hsB
  show (0#64).getLsbD j = false
  exact BitVec.getLsbD_zero
theorem hs_ext {a b : Int64} (h : ∀ j, j < 64 → hsB a j = hsB b j) : a = b := by
  apply wb_inj
  apply BitVec.eq_of_getLsbD_eq
  intro i hi
  exact h i hi
theorem isS_bits {x : Int64} (h : ∀ j, 54 ≤ j → hsB x j = false) : isS x := by
  unfold isS
  refine Nat.lt_pow_two_of_testBit _ (fun i hi => ?_)
  exact h i hi
theorem isS_no {x : Int64} (hx : isS x) {j : Nat} (hj : 54 ≤ j) : hsB x j = false := by
  unfold hsB isS at *
  show x.toBitVec.toNat.testBit j = false
  exact Nat.testBit_lt_two_pow (Nat.lt_of_lt_of_le hx (Nat.pow_le_pow_right (by decide) hj))
theorem bs_pt {x y : Int64} {aim : Int32} {mf : Nat → Int32} {Hs : Nat → Nat → Int32} {lf : Nat → Int32} {pt : Nat → Int64} {T : Nat → Bool} (h0 : pt 0 = 0) (hT : ∀ k, k < 52 → stT2 x y aim mf Hs lf pt T k) : ∀ K, K ≤ 52 → ∀ j, hsB (pt K) j = (decide (j < K) && T j)
  | 0, _, j => by rw [h0, hs_0, decide_eq_false (Nat.not_lt_zero j)]; rfl
  | K + 1, hK, j => by
    have ih := bs_pt h0 hT K (by omega) j
    have hlt : decide (j < K + 1) = (decide (j < K) || decide (j = K)) := by
      by_cases z : j < K
      · rw [decide_eq_true z, decide_eq_true (by omega)]; rfl
      · rw [decide_eq_false z]
        by_cases q : j = K
        · rw [decide_eq_true q, decide_eq_true (by omega)]; rfl
        · rw [decide_eq_false q, decide_eq_false (by omega)]; rfl
    rcases hT K (by omega) with ⟨t1, _, _, t2⟩ | ⟨t1, _, _, _, t2⟩
    · rw [t2, hs_or, ih, hs_bit (by omega), hlt]
      by_cases q : j = K
      · subst q; rw [t1, decide_eq_true rfl]; simp
      · rw [decide_eq_false q, Bool.or_false, Bool.or_false]
    · rw [t2, ih, hlt]
      by_cases q : j = K
      · subst q; rw [t1, Bool.and_false, Bool.and_false]
      · rw [decide_eq_false q, Bool.or_false]
theorem bs_T {x y : Int64} {aim : Int32} {mf : Nat → Int32} {Hs : Nat → Nat → Int32} {lf : Nat → Int32} {pt : Nat → Int64} {T : Nat → Bool} {k : Nat} (hT : stT2 x y aim mf Hs lf pt T k) (h : T k = true) : hsB y k = true := by
  rcases hT with ⟨_, t, _⟩ | ⟨t, _⟩
  · exact t.1
  · rw [t] at h; exact absurd h (by decide)
/-- the chosen part beside what must lie has a layout -/
theorem bs_feas {x y X : Int64} {aim : Int32} {mf : Nat → Int32} {Hs : Nat → Nat → Int32} {lf : Nat → Int32} {pt : Nat → Int64} {T : Nat → Bool} {U : Nat} (hT : ∀ k, k < 52 → stT2 x y aim mf Hs lf pt T k) (h0 : ∀ m, m < 3840 → Hs 0 m = if m = 0 then 1 else 0) (hg : ∀ k, k ≤ 52 → ∀ m, m < 3840 → ¬ Hs k m = 0 → igN m ≤ k % 4) (hex : ∃ m, m < 3840 ∧ ¬ Hs 52 m = 0) (hend : ∀ m, m < 3840 → ¬ Hs 52 m = 0 → ¬ j_X8_isWhole (nI m) = 0 ∧ jkM m = jkN x + U) (hX : ∀ k, k < 52 → hsB X k = (hsB x k || T k)) (hXj : jkN X = jkN x + U) : ¬ cN X 52 0 = 0 := by
  have key : ∀ j, j ≤ 52 → ∃ m, m < 3840 ∧ ¬ Hs (52 - j) m = 0 ∧ ¬ cN X j m = 0 := by
    intro j
    induction j with
    | zero =>
      intro _
      obtain ⟨m, hm, hH⟩ := hex
      obtain ⟨e1, e2⟩ := hend m hm hH
      refine ⟨m, hm, hH, ?_⟩
      show ¬ cB X m = 0
      unfold cB
      rw [if_neg e1, if_pos (by rw [hXj]; exact e2)]
      decide
    | succ j ih =>
      intro hj
      obtain ⟨t, ht, hH, hc⟩ := ih (by omega)
      have e1 : 52 - j = (51 - j) + 1 := by omega
      have e2 : 52 - (j + 1) = 51 - j := by omega
      rw [e1] at hH
      rw [e2]
      have hXk := hX (51 - j) (by omega)
      rcases hT (51 - j) (by omega) with ⟨t1, t2, _, _⟩ | ⟨t1, _, ⟨r, t3⟩, _, _⟩
      · obtain ⟨m, p, a1, a2, a3, a4, a5, _⟩ := (gI_mem t2.2.2 ht).mp hH
        rw [t1, Bool.or_true] at hXk
        refine ⟨m, a1, a2, fun z => hc (Nat.le_zero.mp ?_)⟩
        rw [← z]
        exact cN_ge (q := p) rfl a4 (by rw [hXk]; exact a3) (by unfold joW; rw [hXk]; exact a5)
      · obtain ⟨m, p, a1, a2, a3, a4, a5, _⟩ := (gI_mem t3 ht).mp hH
        rw [t1, Bool.or_false] at hXk
        refine ⟨m, a1, a2, fun z => hc (Nat.le_zero.mp ?_)⟩
        rw [← z]
        exact cN_ge (q := p) rfl a4 (by rw [hXk]; exact a3) (by unfold joW; rw [hXk]; exact a5)
  obtain ⟨m, hm, hH, hc⟩ := key 52 (Nat.le_refl 52)
  have hH' : ¬ Hs 0 m = 0 := hH
  by_cases z : m = 0
  · subst z; exact hc
  · rw [h0 m hm, if_neg z] at hH'; exact absurd rfl hH'
