theorem cL_N (x : Int64) : ∀ d m, cL x d m = lN (cN x d m)
  | 0, m => rfl
  | d + 1, m => by
    rw [cN_s]
    show fd (fun a b : Int64 => a + b) 0 (fun q => if okW x (51 - d) q = true then 1 * cO 0 (cL x d) (bhN m (51 - d) (q % 4) (joW x (51 - d) q)) else 0) 4 = _
    rw [fd_hom (h := lN) (op2 := fun a b : Int64 => a + b) (e2 := 0) rfl (fun a b => (lN_add a b).symm)]
    refine fd_congr (fun q _ => ?_)
    by_cases h : okW x (51 - d) q = true
    · rw [if_pos h, if_pos h, Int64.one_mul, Nat.one_mul]
      cases bhN m (51 - d) (q % 4) (joW x (51 - d) q) with
      | none => rfl
      | some t => exact cL_N x d t
    · rw [if_neg h, if_neg h]; rfl
theorem jk_8 {x : Int64} (h : isS x) : j_X8_jokersOf x = nI (jkN x) := by
  unfold j_X8_jokersOf jkN
  unfold isS at h
  obtain ⟨w, hw, rfl⟩ := wb_of x
  rw [wb_tn hw] at h ⊢
  rw [show (52 : Int32) = nI 52 from rfl, show (53 : Int32) = nI 53 from rfl, pf_shr' (by omega) (by decide), pf_shr' (by omega) (by decide), show (lN (w / 2 ^ 52) &&& 1) = lN (w / 2 ^ 52 % 2) from wb_a1 (Nat.lt_of_le_of_lt (Nat.div_le_self _ _) hw), show (lN (w / 2 ^ 53) &&& 1) = lN (w / 2 ^ 53 % 2) from wb_a1 (Nat.lt_of_le_of_lt (Nat.div_le_self _ _) hw)]
  have hk : ∀ a, a < 2 → ∀ b, b < 2 → (lN a).toInt32 + (lN b).toInt32 = nI (a + b) := by decide +kernel
  exact hk _ (Nat.mod_lt _ (by decide)) _ (Nat.mod_lt _ (by decide))
theorem bW_cB {x : Int64} (hx : isS x) {m : Nat} (hm : m < 3840) : baseW x m = lN (cB x m) := by
  unfold baseW cB
  by_cases h : j_X8_isWhole (nI m) = 0
  · rw [if_pos h, if_pos h]; rfl
  · rw [if_neg h, if_neg h, jb_jk hm, jk_8 hx]
    have h1 := jkM_lt m
    have h2 := jkN_le x
    by_cases z : jkM m = jkN x
    · rw [if_pos z, if_pos (by rw [z])]; rfl
    · rw [if_neg z, if_neg (fun y => z ((nI_eq (by omega) (by omega)).mp y))]; rfl
theorem cs_fd {x : Int64} {w f : Nat → Int64} {k m : Nat} (h : ∀ p, p < 4 → bN (hsB x k) ≤ p → trm x w k m p = cO 0 f (bhN m k p (joW x k p))) : ∀ p, p ≤ 4 → csF x w k m p = fd (fun a b : Int64 => a + b) 0 (fun q => if okW x k q = true then 1 * cO 0 f (bhN m k (q % 4) (joW x k q)) else 0) p
  | 0, _ => rfl
  | p + 1, hp => by
    have ih := cs_fd h p (by omega)
    show (if p < bN (hsB x k) then (0 : Int64) else csF x w k m p + trm x w k m p) = fd (fun a b : Int64 => a + b) 0 _ p + (if okW x k p = true then 1 * cO 0 f (bhN m k (p % 4) (joW x k p)) else 0)
    by_cases z : p < bN (hsB x k)
    · have hb := bN_le (hsB x k)
      have p0 : p = 0 := by omega
      subst p0
      rw [if_pos z, if_neg (fun y => by have := of_decide_eq_true y; omega)]
      rfl
    · rw [if_neg z, ih, if_pos (show okW x k p = true from decide_eq_true (by omega)), h p (by omega) (by omega), Nat.mod_eq_of_lt (by omega), Int64.one_mul]
theorem W_cL {x : Int64} {w : Nat → Int64} (hx : isS x) (hW : WaysEq x w) : ∀ d, d ≤ 52 → ∀ m, m < 3840 → igN m ≤ (52 - d) % 4 → w (3840 * (52 - d) + m) = cL x d m
  | 0, _, m, hm, _ => (hW.1 m hm).trans (bW_cB hx hm)
  | d + 1, hd, m, hm, hg => by
    rw [show 52 - (d + 1) = 51 - d by omega, hW.2 (51 - d) (by omega) m hm]
    refine cs_fd (fun p hp hb => ?_) 4 (Nat.le_refl 4)
    show trm x w (51 - d) m p = cO 0 (cL x d) (bhN m (51 - d) p (decide (0 < p) && !hsB x (51 - d)))
    cases ht : bhN m (51 - d) p (decide (0 < p) && !hsB x (51 - d)) with
    | none => exact trm_no ht
    | some t =>
      rw [trm_some ht]
      obtain ⟨g1, g2⟩ := bhN_good hm (by rw [show 51 - d = 52 - (d + 1) by omega]; exact hg) ht
      have := W_cL hx hW d (by omega) t g1 (by rw [show 52 - d = 51 - d + 1 by omega]; exact g2)
      rw [show 52 - d = 51 - d + 1 by omega] at this
      exact this
/-- the table is nowhere 0 by overflow -/
theorem W_nz {x : Int64} {w : Nat → Int64} (hx : isS x) (hW : WaysEq x w) {d m : Nat} (hd : d ≤ 52) (hm : m < 3840) (hg : igN m ≤ (52 - d) % 4) : w (3840 * (52 - d) + m) = 0 ↔ cN x d m = 0 := by
  rw [W_cL hx hW d hd m hm hg, cL_N]
  exact lN_z (cN_lt x hd hm hg)
theorem cN_st {x : Int64} {d s u : Nat} (hd : d ≤ 12) (hs : s < 256) (hu : u < 3) : cN x (4 * (d + 1)) (mkN s u) = sm (fun i => if okS (nd x (12 - d)) s u (stT i) = true then cN x (4 * d) (mkN (c_af s (stT i)) (u + costN (nd x (12 - d)) (stT i))) else 0) 94 := num_st Sr_N Nat.one_mul (n := 12 - d) (by omega) hs hu
theorem okS_and {ne s u t : Nat} : okS ne s u t = true ↔ (ne &&& (15 - t_sh t) == 0) = true ∧ c_cc s (t_co t) = true ∧ u + costN ne t ≤ 2 := by
  unfold okS
  rw [Bool.and_eq_true, Bool.and_eq_true, decide_eq_true_iff]
theorem okN_and {ne s j t : Nat} : okN ne s j t = true ↔ (ne &&& (15 - t_sh t) == 0) = true ∧ c_cc s (t_co t) = true ∧ costN ne t ≤ j := by
  unfold okN
  rw [Bool.and_eq_true, Bool.and_eq_true, decide_eq_true_iff]
/-- more jokers than there are: no way -/
theorem cN_over {x : Int64} : ∀ d, d ≤ 13 → ∀ s, s < 256 → ∀ u, u < 3 → jkN x < u → cN x (4 * d) (mkN s u) = 0
  | 0, _, s, hs, u, hu, h => by
    show cB x (mkN s u) = 0
    rw [cB_mk hs hu, if_neg (fun z => by omega)]
  | d + 1, hd, s, hs, u, hu, h => by
    rw [cN_st (by omega) hs hu]
    refine fd_e Mo_add (fun i _ => ?_)
    by_cases z : okS (nd x (12 - d)) s u (stT i) = true
    · rw [if_pos z]
      have := (okS_and.mp z).2.2
      exact cN_over d (by omega) _ (c_af_lt hs) _ (by omega) (by omega)
    · rw [if_neg z]
theorem feas_cN {x : Int64} : ∀ d, d ≤ 13 → ∀ s, s < 256 → ∀ u j, u + j = jkN x → (feasN x d s j = true ↔ ¬ cN x (4 * d) (mkN s u) = 0)
  | 0, _, s, hs, u, j, h => by
    have hj := jkN_le x
    show ((j == 0) && c_en s) = true ↔ ¬ cB x (mkN s u) = 0
    rw [cB_mk hs (by omega), Bool.and_eq_true, beq_iff_eq]
    by_cases z : c_en s = true ∧ u = jkN x
    · rw [if_pos z]; exact ⟨fun _ => by decide, fun _ => ⟨by omega, z.1⟩⟩
    · rw [if_neg z]; exact ⟨fun y => absurd ⟨y.2, by omega⟩ z, fun y => absurd rfl y⟩
  | d + 1, hd, s, hs, u, j, h => by
    have hj := jkN_le x
    rw [feasN_s, cN_st (by omega) hs (by omega)]
    have key : ∀ i, i < 94 → (tryN x d s j i = true ↔ ¬ (if okS (nd x (12 - d)) s u (stT i) = true then cN x (4 * d) (mkN (c_af s (stT i)) (u + costN (nd x (12 - d)) (stT i))) else 0) = 0) := by
      intro i hi
      unfold tryN
      rw [Bool.and_eq_true]
      by_cases z : okN (nd x (12 - d)) s j (stT i) = true
      · obtain ⟨z1, z2, z3⟩ := okN_and.mp z
        rw [if_pos (okS_and.mpr ⟨z1, z2, by omega⟩)]
        have ih := feas_cN (x := x) d (by omega) _ (c_af_lt (t := stT i) hs) (u + costN (nd x (12 - d)) (stT i)) (j - costN (nd x (12 - d)) (stT i)) (by omega)
        exact ⟨fun y => ih.mp y.2, fun y => ⟨z, ih.mpr y⟩⟩
      · refine ⟨fun y => absurd y.1 z, fun y => absurd ?_ y⟩
        by_cases q : okS (nd x (12 - d)) s u (stT i) = true
        · obtain ⟨q1, q2, q3⟩ := okS_and.mp q
          rw [if_pos q]
          refine cN_over d (by omega) _ (c_af_lt hs) _ (by omega) ?_
          by_cases y2 : costN (nd x (12 - d)) (stT i) ≤ j
          · exact absurd (okN_and.mpr ⟨q1, q2, y2⟩) z
          · omega
        · rw [if_neg q]
    constructor
    · intro hany hz
      have hall : ∀ i, i < 94 → tryN x d s j i = false := by
        intro i hi
        cases ht : tryN x d s j i with
        | false => rfl
        | true =>
          have h1 := (key i hi).mp ht
          have h2 := sm_ge (f := fun i => if okS (nd x (12 - d)) s u (stT i) = true then cN x (4 * d) (mkN (c_af s (stT i)) (u + costN (nd x (12 - d)) (stT i))) else 0) hi
          rw [hz] at h2
          exact absurd (Nat.le_zero.mp h2) h1
      rw [anyI_no hall] at hany
      exact absurd hany (by decide)
    · intro hz
      obtain ⟨i, hi, hf⟩ := sm_pos hz
      exact anyI_of ((key i hi).mpr hf) hi
