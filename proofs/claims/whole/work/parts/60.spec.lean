/-- whether a set has a layout, and its first one -/
def fe (x : Int64) : Bool := feasN x 13 0 (jkN x)
def lyF (x : Int64) (n : Nat) : Int32 := nI (pathN x 13 0 (jkN x) n)
def wsh (x : Int64) : Int32 := j_X2_shownWorth (lyF x)
/-- the best part, by the greatest key -/
def bsC (x y : Int64) (aim : Int32) : Int64 := j_X6_cardsOfKey (lN (mB x y aim 52 0))
def bsU (x y : Int64) (aim : Int32) : Nat := ((mB x y aim 52 0 - 1) / 2 ^ 53 - kv aim (fun k => hsB (bsC x y aim) k) 52) / gj aim
def bsV (x y : Int64) (aim : Int32) : Int64 := if mB x y aim 52 0 = 0 then -1 else bsC x y aim ||| (fj6 y (nI (bsU x y aim)) 2).2
theorem kv_congr {aim : Int32} {T T2 : Nat → Bool} : ∀ k, (∀ j, j < k → T j = T2 j) → kv aim T k = kv aim T2 k
  | 0, _ => rfl
  | k + 1, h => by
    show kv aim T k + _ = kv aim T2 k + _
    rw [kv_congr k (fun j hj => h j (by omega)), h k (by omega)]
theorem bsV_of {x y : Int64} {aim : Int32} {i : Nat} {T : Nat → Bool} (_ : aim = 0 ∨ aim = 1) (k2 : mB x y aim 52 0 ≤ 1 + 2 ^ 53 * 440) (u1 : mB x y aim 52 0 = 1 + 2 ^ 53 * (i * gj aim) + ks aim T 52) : bsU x y aim = i ∧ ∀ j, hsB (bsC x y aim) j = (decide (j < 52) && T j) := by
  have hform : mB x y aim 52 0 = 1 + 2 ^ 53 * (i * gj aim + kv aim T 52) + 2 * kr T 52 := by
    rw [u1, ks_form 52 (Nat.le_refl 52), show 2 ^ (53 - 52) = 2 from rfl]
    omega
  have hb : ∀ j, hsB (bsC x y aim) j = (decide (j < 52) && T j) := fun j => ck_bit hform (by omega) 52 (Nat.le_refl 52) j
  refine ⟨?_, hb⟩
  unfold bsU
  rw [kv_congr (T := fun k => hsB (bsC x y aim) k) (T2 := T) 52 (fun j hj => by show hsB (bsC x y aim) j = T j; rw [hb j, decide_eq_true hj]; rfl), hform]
  have hl := kr_lt T 52
  have hg := gj_le aim
  have e : (1 + 2 ^ 53 * (i * gj aim + kv aim T 52) + 2 * kr T 52 - 1) / 2 ^ 53 - kv aim T 52 = i * gj aim := by
    generalize i * gj aim = G
    omega
  rw [e]
  exact Nat.mul_div_cancel _ (by omega)
/-- the reference's best part, and that it has a layout beside what must lie -/
theorem bo_ref {x y : Int64} {aim : Int32} {mf : Nat → Int32} {r : Int64} (ha : aim = 0 ∨ aim = 1) (hx : isS x) (hy : isS y) (hdj : ∀ k, k < 54 → hsB x k = true → hsB y k = false) (hM : MostEq x y aim mf) (href : (mf 0 = -1 ∧ r = -1) ∨ (¬ mf 0 = -1 ∧ ∃ (Hs : Nat → Nat → Int32) (lf : Nat → Int32) (pt : Nat → Int64), bestSeq x y aim mf Hs lf pt 52 ∧ (∀ m, m < 3840 → ¬ Hs 52 m = 0 → igN m ≤ 0) ∧ r = (fjF y (lastU x (Hs 52) 3840) (pt 52) 2).2)) : r = bsV x y aim ∧ (r = -1 ∨ (isS r ∧ (∀ j, hsB r j = true → hsB y j = true) ∧ isS (x ||| r) ∧ fe (x ||| r) = true)) := by
  have hdj2 : ∀ k, k < 52 → hsB x k = true → hsB y k = false := fun k hk => hdj k (by omega)
  have hmf : mf 0 = vO (mB x y aim 52 0) := by
    have hm := M_mB hx hy hM 52 (by decide) 0 (by decide) (by decide)
    rw [show 3840 * (52 - 52) + 0 = 0 from rfl] at hm
    exact hm
  have hnz : mf 0 = -1 ↔ mB x y aim 52 0 = 0 := by rw [hmf]; exact vO_no (Nat.le_refl 52) (mB_Bd x y aim 52 (Nat.le_refl 52) 0)
  rcases href with ⟨z, hr⟩ | ⟨z, Hs, lf, pt, hB, _, hr⟩
  · have h1 := hnz.mp z
    refine ⟨?_, Or.inl hr⟩
    unfold bsV
    rw [if_pos h1, hr]
  · have h1 : ¬ mB x y aim 52 0 = 0 := fun q => z (hnz.mpr q)
    obtain ⟨T, hT⟩ := st_T hB.2.2.2
    obtain ⟨U, u1, u2, u3, u4, u5, u6⟩ := bs_end hx hy hM hdj2 hB z hT
    have hall := bs_all hx hy hM hdj2 hB z hT
    have hpt := bs_pt hB.2.2.1 hT 52 (Nat.le_refl 52)
    have hub := gj_mul (aim := aim) (i := U) (by omega)
    have hkl := ks_le ha (T := T) (k := 52) (Nat.le_refl 52)
    have k2 : mB x y aim 52 0 ≤ 1 + 2 ^ 53 * 440 := by omega
    obtain ⟨bU, bC⟩ := bsV_of ha k2 u1
    have hck : bsC x y aim = pt 52 := by
      refine hs_ext (fun j _ => ?_)
      rw [hpt j, bC j]
    have hJ := fjF_6 (u := nI U) (pt := pt 52) hy 2 (Nat.le_refl 2)
    rw [u2, hJ.2] at hr
    rw [fj_2] at hr
    have hj2 := jkN_b y
    obtain ⟨c, hc, d, hd, cd, ca, db, hjv⟩ := fjS_all U (by omega) (hsB y 52) (hsB y 53) (by omega)
    have hbpr : r = bsV x y aim := by
      unfold bsV
      rw [if_neg h1, bU, hck, fj_2, hr]
    rw [hjv] at hr
    have hrb : ∀ j, hsB r j = ((decide (j < 52) && T j) || ((decide (j = 52) && decide (c = 1)) || (decide (j = 53) && decide (d = 1)))) := by
      intro j
      rw [hr, hs_or, hpt j]
      by_cases q : j < 64
      · rw [jk_bit c hc d hd j q]
      · rw [hs_ge _ (by omega), decide_eq_false (show ¬ j = 52 by omega), decide_eq_false (show ¬ j = 53 by omega)]; rfl
    have hrS : isS r := isS_bits (fun j hj => by
      rw [hrb j, decide_eq_false (show ¬ j < 52 by omega), decide_eq_false (show ¬ j = 52 by omega), decide_eq_false (show ¬ j = 53 by omega)]; rfl)
    have hsub : ∀ j, hsB r j = true → hsB y j = true := by
      intro j hj
      rw [hrb j, Bool.or_eq_true, Bool.or_eq_true, Bool.and_eq_true, Bool.and_eq_true, Bool.and_eq_true] at hj
      rcases hj with ⟨q1, q2⟩ | ⟨q1, q2⟩ | ⟨q1, q2⟩
      · exact bs_T (hT j (of_decide_eq_true q1)) q2
      · have e1 := of_decide_eq_true q1
        have e2 := of_decide_eq_true q2
        rw [e1]
        cases w : hsB y 52 with
        | true => rfl
        | false => rw [w, e2] at ca; exact absurd ca (by decide)
      · have e1 := of_decide_eq_true q1
        have e2 := of_decide_eq_true q2
        rw [e1]
        cases w : hsB y 53 with
        | true => rfl
        | false => rw [w, e2] at db; exact absurd db (by decide)
    have hxr : isS (x ||| r) := isS_bits (fun j hj => by rw [hs_or, isS_no hx hj, isS_no hrS hj]; rfl)
    have hr52 : bN (hsB r 52) = c := by
      rw [hrb 52]
      have : c = 0 ∨ c = 1 := by omega
      rcases this with w | w <;> rw [w] <;> rfl
    have hr53 : bN (hsB r 53) = d := by
      rw [hrb 53]
      have : d = 0 ∨ d = 1 := by omega
      rcases this with w | w <;> rw [w] <;> rfl
    have hor : ∀ k, k < 54 → bN (hsB (x ||| r) k) = bN (hsB x k) + bN (hsB r k) := by
      intro k hk
      rw [hs_or]
      cases w : hsB x k with
      | false => cases hsB r k <;> rfl
      | true =>
        cases v : hsB r k with
        | false => rfl
        | true =>
          have := hsub k v
          rw [hdj k hk w] at this
          exact absurd this (by decide)
    have hjX : jkN (x ||| r) = jkN x + U := by
      rw [jkN_b, hor 52 (by decide), hor 53 (by decide), hr52, hr53, jkN_b x]
      omega
    have hX : ∀ k, k < 52 → hsB (x ||| r) k = (hsB x k || T k) := by
      intro k hk
      rw [hs_or, hrb k, decide_eq_true hk, decide_eq_false (show ¬ k = 52 by omega), decide_eq_false (show ¬ k = 53 by omega), Bool.true_and, Bool.false_and, Bool.false_and, Bool.or_false, Bool.or_false]
    have hfe : ¬ cN (x ||| r) 52 0 = 0 := bs_feas hT hB.1 (fun k hk m hm hH => by
      obtain ⟨_, _, hh, _⟩ := hall k hk
      exact (hh m hm hH).1) u5 u6 hX hjX
    refine ⟨hbpr, Or.inr ⟨hrS, hsub, hxr, ?_⟩⟩
    show feasN (x ||| r) 13 0 (jkN (x ||| r)) = true
    exact (feas_cN (x := x ||| r) 13 (by decide) 0 (by decide) 0 (jkN (x ||| r)) (Nat.zero_add _)).mpr hfe
/-- the class's best part -/
theorem bo_cls {x y : Int64} {aim : Int32} {vs : Nat → Nat → Nat → Int64} {gk : Nat → Int64} {htf : Nat → Int32} {hcn : Int32} (ha : aim = 0 ∨ aim = 1) (hdj : ∀ k, k < 54 → hsB x k = true → hsB y k = false) (h0 : vs 0 = up2 (fun _ _ => 0) 0 0 1) (hs : ∀ n, n < 13 → rowStep 0 (bwA aim) x y (mjN x y) n (vs n) (vs (n + 1))) (hgk : ∀ u, u < 3 → ∃ cL q, rowL htf hcn (vs 13) cL q ∧ gk u = gaF (vs 13) u q cL) : bpR (bwA aim) x y gk = bsV x y aim ∧ (bsV x y aim = -1 ∨ (isS (bsV x y aim) ∧ ∀ j, hsB (bsV x y aim) j = true → hsB y j = true)) := by
  obtain ⟨k1, k2, k3⟩ := bp_key ha (fun k hk => hdj k (by omega)) h0 hs hgk
  by_cases h1 : mB x y aim 52 0 = 0
  · have e : bsV x y aim = -1 := by unfold bsV; rw [if_pos h1]
    refine ⟨?_, Or.inl e⟩
    rw [e]
    unfold bpR
    rw [k1, h1, if_pos (show lN 0 = 0 from rfl)]
  · rcases k3 with q | ⟨i, T, i1, i2, hT, i3, i4⟩
    · exact absurd q h1
    obtain ⟨bU, bC⟩ := bsV_of ha k2 i4
    have hj2 := jkN_b y
    obtain ⟨c, hc, d, hd, cd, ca, db, hjv⟩ := fjS_all i i1 (hsB y 52) (hsB y 53) (by omega)
    have e : bsV x y aim = bsC x y aim ||| lN (c * 2 ^ 52 + d * 2 ^ 53) := by unfold bsV; rw [if_neg h1, bU, fj_2, hjv]
    have hrb : ∀ j, hsB (bsV x y aim) j = ((decide (j < 52) && T j) || ((decide (j = 52) && decide (c = 1)) || (decide (j = 53) && decide (d = 1)))) := by
      intro j
      rw [e, hs_or, bC j]
      by_cases q : j < 64
      · rw [jk_bit c hc d hd j q]
      · rw [hs_ge _ (by omega), decide_eq_false (show ¬ j = 52 by omega), decide_eq_false (show ¬ j = 53 by omega)]; rfl
    refine ⟨?_, Or.inr ⟨isS_bits (fun j hj => by
      rw [hrb j, decide_eq_false (show ¬ j < 52 by omega), decide_eq_false (show ¬ j = 52 by omega), decide_eq_false (show ¬ j = 53 by omega)]; rfl), fun j hj => ?_⟩⟩
    · unfold bpR
      rw [k1, if_neg (fun q => h1 ((lN_z (by omega)).mp q)), i3, fj_2, hjv, e]
      rfl
    · rw [hrb j, Bool.or_eq_true, Bool.or_eq_true, Bool.and_eq_true, Bool.and_eq_true, Bool.and_eq_true] at hj
      rcases hj with ⟨q1, q2⟩ | ⟨q1, q2⟩ | ⟨q1, q2⟩
      · exact hT j q2
      · have e1 := of_decide_eq_true q1
        have e2 := of_decide_eq_true q2
        rw [e1]
        cases w : hsB y 52 with
        | true => rfl
        | false => rw [w, e2] at ca; exact absurd ca (by decide)
      · have e1 := of_decide_eq_true q1
        have e2 := of_decide_eq_true q2
        rw [e1]
        cases w : hsB y 53 with
        | true => rfl
        | false => rw [w, e2] at db; exact absurd db (by decide)
