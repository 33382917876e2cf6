theorem jkN_b (x : Int64) : jkN x = bN (hsB x 52) + bN (hsB x 53) := by
  unfold jkN hsB
  have ht : ∀ w k : Nat, w.testBit k = decide (w / 2 ^ k % 2 = 1) := fun w k => by first | exact Nat.testBit_eq_decide_div_mod_eq | (simp [Nat.testBit, Nat.shiftRight_eq_div_pow, Nat.one_and_eq_mod_two, bne_iff_ne]; omega)
  show _ = bN (x.toBitVec.toNat.testBit 52) + bN (x.toBitVec.toNat.testBit 53)
  rw [ht, ht, bN_dec (Nat.mod_lt _ (by decide)), bN_dec (Nat.mod_lt _ (by decide))]
theorem hs_ge (x : Int64) {j : Nat} (h : 64 ≤ j) : hsB x j = false := by
  unfold hsB
  exact BitVec.getLsbD_of_ge _ _ h
/-- the class's greatest key is the reference's -/
theorem bp_key {x y : Int64} {aim : Int32} {vs : Nat → Nat → Nat → Int64} {gk : Nat → Int64} {htf : Nat → Int32} {hcn : Int32} (ha : aim = 0 ∨ aim = 1) (hdj : ∀ k, k < 52 → hsB x k = true → hsB y k = false) (h0 : vs 0 = up2 (fun _ _ => 0) 0 0 1) (hs : ∀ n, n < 13 → rowStep 0 (bwA aim) x y (mjN x y) n (vs n) (vs (n + 1))) (hgk : ∀ u, u < 3 → ∃ cL q, rowL htf hcn (vs 13) cL q ∧ gk u = gaF (vs 13) u q cL) : (bpF (bwA aim) (jkN x) gk (mjN x y - jkN x + 1)).1 = lN (mB x y aim 52 0) ∧ mB x y aim 52 0 ≤ 1 + 2 ^ 53 * 440 ∧ (mB x y aim 52 0 = 0 ∨ ∃ (i : Nat) (T : Nat → Bool), i < 3 ∧ i ≤ jkN y ∧ (∀ j, T j = true → hsB y j = true) ∧ (bpF (bwA aim) (jkN x) gk (mjN x y - jkN x + 1)).2 = nI i ∧ mB x y aim 52 0 = 1 + 2 ^ 53 * (i * gj aim) + ks aim T 52) := by
  obtain ⟨hP, hPh⟩ := rs_best ha hdj h0 hs 13 (Nat.le_refl 13)
  have hm2 := mjN_le x y
  have hm1 := mjN_ge x y
  have hg : ∀ u, u < 3 → Pk aim y 13 (gk u) ∧ tau2 (gk u) = mxF (fun s => if c_en s = true then tau2 (vs 13 s u) else 0) 256 := by
    intro u hu
    obtain ⟨cL1, q, h1, h2⟩ := hgk u hu
    rw [h2]
    exact ga_all ha hu hP h1
  obtain ⟨⟨a, e1, b1, m1⟩, h2⟩ := bp_all (ls := jkN x) (gk := gk) ha (mjN x y - jkN x + 1) (by omega) (fun i hi => (hg _ (by omega)).1)
  have hcnt : mjN x y + 1 = jkN x + (mjN x y - jkN x + 1) := by omega
  have ea : a = mB x y aim 52 0 := by
    rw [← hPh, Ph_end]
    refine m1.trans ?_
    have hcut := fd_cut (op := fun a b : Nat => max a b) (e := 0) (f := fun u => if jkN x ≤ u ∧ u ≤ mjN x y then muT (mxF (fun s => if c_en s = true then tau2 (vs 13 s u) else 0) 256) (1 + 2 ^ 53 * ((u - jkN x) * gj aim)) else 0) (a := mjN x y + 1) (n := 3) Mo_max (by omega) (fun i h1 _ => if_neg (fun q => by omega))
    refine Eq.trans ?_ hcut.symm
    rw [hcnt, fd_add Mo_max, fd_e (n := jkN x) Mo_max (fun i hi => if_neg (fun q => by omega))]
    refine Eq.trans ?_ (Nat.zero_max _).symm
    refine fd_congr (fun i hi => ?_)
    show muT (tau2 (gk (jkN x + i))) _ = if jkN x ≤ jkN x + i ∧ jkN x + i ≤ mjN x y then _ else 0
    rw [if_pos ⟨by omega, by omega⟩, (hg _ (by omega)).2, show jkN x + i - jkN x = i by omega]
  rw [← ea]
  refine ⟨e1, b1, ?_⟩
  rcases h2 with z | ⟨i, hi, hz, he⟩
  · exact Or.inl ((lN_z (by omega)).mp (e1.symm.trans z))
  · right
    rcases (hg (jkN x + i) (by omega)).1 with z | ⟨T, hTy, z⟩
    · exact absurd z hz
    · have hks := ks_le ha (T := T) (k := 52) (Nat.le_refl 52)
      have hgm := gj_mul (aim := aim) (i := i) (by omega)
      refine ⟨i, T, by omega, by unfold mjN at hi; split at hi <;> omega, hTy, by rw [he], ?_⟩
      have e2 : (bpF (bwA aim) (jkN x) gk (mjN x y - jkN x + 1)).1 = lN (1 + ks aim T 52 + 2 ^ 53 * (i * gj aim)) := by
        rw [he]
        show bpK (bwA aim) i (gk (jkN x + i)) = _
        rw [z]
        exact bpK_l ha (by omega)
      have e3 := congrArg tau2 (e1.symm.trans e2)
      generalize i * gj aim = G at *
      rw [tau_l (by omega), tau_l (by omega)] at e3
      omega
/-- the class's best part is the reference's, and has a layout beside what must lie -/
theorem best_same {x y : Int64} {aim : Int32} {mf : Nat → Int32} {r : Int64} {vs : Nat → Nat → Nat → Int64} {gk : Nat → Int64} {htf : Nat → Int32} {hcn : Int32} (ha : aim = 0 ∨ aim = 1) (hx : isS x) (hy : isS y) (hdj : ∀ k, k < 54 → hsB x k = true → hsB y k = false) (hM : MostEq x y aim mf) (href : (mf 0 = -1 ∧ r = -1) ∨ (¬ mf 0 = -1 ∧ ∃ (Hs : Nat → Nat → Int32) (lf : Nat → Int32) (pt : Nat → Int64), bestSeq x y aim mf Hs lf pt 52 ∧ (∀ m, m < 3840 → ¬ Hs 52 m = 0 → igN m ≤ 0) ∧ r = (fjF y (lastU x (Hs 52) 3840) (pt 52) 2).2)) (h0 : vs 0 = up2 (fun _ _ => 0) 0 0 1) (hs : ∀ n, n < 13 → rowStep 0 (bwA aim) x y (mjN x y) n (vs n) (vs (n + 1))) (hgk : ∀ u, u < 3 → ∃ cL q, rowL htf hcn (vs 13) cL q ∧ gk u = gaF (vs 13) u q cL) : bpR (bwA aim) x y gk = r ∧ (r = -1 ∨ (isS r ∧ (∀ j, hsB r j = true → hsB y j = true) ∧ isS (x ||| r) ∧ feasN (x ||| r) 13 0 (jkN (x ||| r)) = true)) := by
  have hdj2 : ∀ k, k < 52 → hsB x k = true → hsB y k = false := fun k hk => hdj k (by omega)
  obtain ⟨k1, k2, k3⟩ := bp_key ha hdj2 h0 hs hgk
  have hmf : mf 0 = vO (mB x y aim 52 0) := by
    have hm := M_mB hx hy hM 52 (by decide) 0 (by decide) (by decide)
    rw [show 3840 * (52 - 52) + 0 = 0 from rfl] at hm
    exact hm
  have hnz : mf 0 = -1 ↔ mB x y aim 52 0 = 0 := by rw [hmf]; exact vO_no (Nat.le_refl 52) (mB_Bd x y aim 52 (Nat.le_refl 52) 0)
  rcases href with ⟨z, hr⟩ | ⟨z, Hs, lf, pt, hB, _, hr⟩
  · have h1 := hnz.mp z
    refine ⟨?_, Or.inl hr⟩
    unfold bpR
    rw [k1, h1, if_pos (show lN 0 = 0 from rfl), hr]
  · have h1 : ¬ mB x y aim 52 0 = 0 := fun q => z (hnz.mpr q)
    obtain ⟨T, hT⟩ := st_T hB.2.2.2
    obtain ⟨U, u1, u2, u3, u4, u5, u6⟩ := bs_end hx hy hM hdj2 hB z hT
    have hall := bs_all hx hy hM hdj2 hB z hT
    have hpt := bs_pt hB.2.2.1 hT 52 (Nat.le_refl 52)
    rcases k3 with q | ⟨i, T2, i1, _, _, i2, i3⟩
    · exact absurd q h1
    have hTT := key_inj (u1.symm.trans i3)
    have hks : ks aim T 52 = ks aim T2 52 := ks_congr 52 hTT
    have hiU : i = U := by
      have hh := u1.symm.trans i3
      rw [hks] at hh
      have h3 : U * gj aim = i * gj aim := by
        generalize U * gj aim = A at hh ⊢
        generalize i * gj aim = B at hh ⊢
        omega
      exact (Nat.eq_of_mul_eq_mul_right (by have := gj_le aim; omega) h3).symm
    subst hiU
    have hform : mB x y aim 52 0 = 1 + 2 ^ 53 * (i * gj aim + kv aim T 52) + 2 * kr T 52 := by
      rw [u1, ks_form 52 (Nat.le_refl 52), show 2 ^ (53 - 52) = 2 from rfl]
      omega
    have hck : j_X6_cardsOfKey (lN (mB x y aim 52 0)) = pt 52 := by
      refine hs_ext (fun j _ => ?_)
      rw [hpt j]
      exact ck_bit hform (by omega) 52 (Nat.le_refl 52) j
    have hJ := fjF_6 (u := nI i) (pt := pt 52) hy 2 (Nat.le_refl 2)
    rw [u2, hJ.2] at hr
    rw [fj_2] at hr
    have hj2 := jkN_b y
    obtain ⟨c, hc, d, hd, cd, ca, db, hjv⟩ := fjS_all i i1 (hsB y 52) (hsB y 53) (by omega)
    have hbpr : bpR (bwA aim) x y gk = r := by
      unfold bpR
      rw [k1, if_neg (fun q => h1 ((lN_z (by omega)).mp q)), i2, hck, fj_2, hr]
    rw [hjv] at hr
    have hrb : ∀ j, hsB r j = ((decide (j < 52) && T j) || ((decide (j = 52) && decide (c = 1)) || (decide (j = 53) && decide (d = 1)))) := by
      intro j
      rw [hr, hs_or, hpt j]
      by_cases q : j < 64
      · rw [jk_bit c hc d hd j q]
      · rw [hs_ge _ (by omega), decide_eq_false (show ¬ j = 52 by omega), decide_eq_false (show ¬ j = 53 by omega)]; rfl
    have hrS : isS r := isS_bits (fun j hj => by
      rw [hrb j, decide_eq_false (show ¬ j < 52 by omega), decide_eq_false (show ¬ j = 52 by omega), decide_eq_false (show ¬ j = 53 by omega)]; rfl)
    have hsub : ∀ j, hsB r j = true → hsB y j = true := by
      intro j hj
      rw [hrb j, Bool.or_eq_true, Bool.or_eq_true, Bool.and_eq_true, Bool.and_eq_true, Bool.and_eq_true] at hj
      rcases hj with ⟨q1, q2⟩ | ⟨q1, q2⟩ | ⟨q1, q2⟩
      · exact bs_T (hT j (of_decide_eq_true q1)) q2
      · have e1 := of_decide_eq_true q1
        have e2 := of_decide_eq_true q2
        rw [e1]
        cases w : hsB y 52 with
        | true => rfl
        | false => rw [w, e2] at ca; exact absurd ca (by decide)
      · have e1 := of_decide_eq_true q1
        have e2 := of_decide_eq_true q2
        rw [e1]
        cases w : hsB y 53 with
        | true => rfl
        | false => rw [w, e2] at db; exact absurd db (by decide)
    have hxr : isS (x ||| r) := isS_bits (fun j hj => by rw [hs_or, isS_no hx hj, isS_no hrS hj]; rfl)
    have hr52 : bN (hsB r 52) = c := by
      rw [hrb 52]
      have : c = 0 ∨ c = 1 := by omega
      rcases this with w | w <;> rw [w] <;> rfl
    have hr53 : bN (hsB r 53) = d := by
      rw [hrb 53]
      have : d = 0 ∨ d = 1 := by omega
      rcases this with w | w <;> rw [w] <;> rfl
    have hor : ∀ k, k < 54 → bN (hsB (x ||| r) k) = bN (hsB x k) + bN (hsB r k) := by
      intro k hk
      rw [hs_or]
      cases w : hsB x k with
      | false => cases hsB r k <;> rfl
      | true =>
        cases v : hsB r k with
        | false => rfl
        | true =>
          have := hsub k v
          rw [hdj k hk w] at this
          exact absurd this (by decide)
    have hjX : jkN (x ||| r) = jkN x + i := by
      rw [jkN_b, hor 52 (by decide), hor 53 (by decide), hr52, hr53, jkN_b x]
      omega
    have hX : ∀ k, k < 52 → hsB (x ||| r) k = (hsB x k || T k) := by
      intro k hk
      rw [hs_or, hrb k, decide_eq_true hk, decide_eq_false (show ¬ k = 52 by omega), decide_eq_false (show ¬ k = 53 by omega), Bool.true_and, Bool.false_and, Bool.false_and, Bool.or_false, Bool.or_false]
    have hfe : ¬ cN (x ||| r) 52 0 = 0 := bs_feas hT hB.1 (fun k hk m hm hH => by
      obtain ⟨_, _, hh, _⟩ := hall k hk
      exact (hh m hm hH).1) u5 u6 hX hjX
    refine ⟨hbpr, Or.inr ⟨hrS, hsub, hxr, ?_⟩⟩
    exact (feas_cN (x := x ||| r) 13 (by decide) 0 (by decide) 0 (jkN (x ||| r)) (Nat.zero_add _)).mpr hfe
