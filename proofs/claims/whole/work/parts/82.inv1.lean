theorem ks_add {aim : Int32} {T : Nat → Bool} {k0 : Nat} (h : T k0 = false) : ∀ k, ks aim (fun j => decide (j = k0) || T j) k = ks aim T k + (if k0 < k then kg aim k0 else 0)
  | 0 => by rw [if_neg (Nat.not_lt_zero k0)]; rfl
  | k + 1 => by
    show ks aim (fun j => decide (j = k0) || T j) k + (if (decide (k = k0) || T k) = true then kg aim k else 0) = ks aim T k + (if T k = true then kg aim k else 0) + (if k0 < k + 1 then kg aim k0 else 0)
    rw [ks_add h k]
    by_cases z : k = k0
    · subst z
      rw [decide_eq_true rfl, h, if_neg (Nat.lt_irrefl k), if_pos (show (true || false) = true from rfl), if_neg (by decide), if_pos (by omega)]
    · rw [decide_eq_false z, Bool.false_or]
      by_cases q : k0 < k
      · rw [if_pos q, if_pos (show k0 < k + 1 by omega)]; omega
      · rw [if_neg q, if_neg (show ¬ k0 < k + 1 by omega), Nat.add_zero, Nat.add_zero]
/-- a key's form: its cards, and the jokers added -/
def FB (x y : Int64) (aim : Int32) (d b : Nat) : Prop := b = 0 ∨ ∃ (T : Nat → Bool) (U : Nat), (∀ k, T k = true → hsB y k = true ∧ 52 - d ≤ k ∧ k < 52) ∧ U < 3 ∧ U ≤ jkN y ∧ b = 1 + 2 ^ 53 * (U * gj aim) + ks aim T 52
theorem FB_s {x y : Int64} {aim : Int32} {d b : Nat} (h : FB x y aim d b) : FB x y aim (d + 1) b := by
  rcases h with z | ⟨T, U, h1, h2⟩
  · exact Or.inl z
  · exact Or.inr ⟨T, U, fun k hk => ⟨(h1 k hk).1, by have := (h1 k hk).2.1; omega, (h1 k hk).2.2⟩, h2⟩
theorem ks_none {aim : Int32} : ∀ k, ks aim (fun _ => false) k = 0
  | 0 => rfl
  | k + 1 => by show ks aim (fun _ => false) k + (if false = true then _ else 0) = 0; rw [ks_none k]; rfl
theorem mB_FB (x y : Int64) (aim : Int32) : ∀ d, d ≤ 52 → ∀ m, FB x y aim d (mB x y aim d m)
  | 0, _, m => by
    show FB x y aim 0 (bB x y aim m)
    by_cases z : bB x y aim m = 0
    · exact Or.inl z
    · obtain ⟨_, a2, a3, a4⟩ := bB_at z
      have hl := jkM_lt m
      refine Or.inr ⟨fun _ => false, jkM m - jkN x, fun k hk => Bool.noConfusion hk, by omega, a3, ?_⟩
      rw [ks_none, Nat.add_zero]
      exact a4
  | d + 1, hd, m => by
    rw [mB_s]
    generalize hM : mxF (tB x y aim d m) 8 = M
    by_cases z : M = 0
    · exact Or.inl z
    · obtain ⟨q, hq, hqk⟩ := mx_at (f := tB x y aim d m) (n := 8) (fun y => z (hM.symm.trans y))
      obtain ⟨_, t, _, hnz, hK⟩ := tB_at (hqk.trans hM) z
      rw [hK]
      have ih := mB_FB x y aim d (by omega) t
      by_cases hv : q / 4 = 1 ∧ hsB y (51 - d) = true
      · rw [va_y hv]
        rcases ih with z2 | ⟨T, U, h1, h2, h3, h4⟩
        · exact absurd z2 hnz
        · have hT : T (51 - d) = false := by
            cases w : T (51 - d) with
            | false => rfl
            | true => have := (h1 _ w).2.1; omega
          refine Or.inr ⟨fun j => decide (j = 51 - d) || T j, U, fun k hk => ?_, h2, h3, ?_⟩
          · have hk' : (decide (k = 51 - d) || T k) = true := hk
            rw [Bool.or_eq_true] at hk'
            rcases hk' with w | w
            · have e := of_decide_eq_true w
              rw [e]
              exact ⟨hv.2, by omega, by omega⟩
            · have := h1 k w
              exact ⟨this.1, by omega, this.2.2⟩
          · rw [ks_add hT, if_pos (by omega), h4]
            generalize U * gj aim = G
            omega
      · rw [va_no hv, show 1 + mB x y aim d t - 1 = mB x y aim d t by omega]
        exact FB_s ih
theorem bsV_ok {x y : Int64} {aim : Int32} (ha : aim = 0 ∨ aim = 1) : bsV x y aim = -1 ∨ (isS (bsV x y aim) ∧ ∀ j, hsB (bsV x y aim) j = true → hsB y j = true) := by
  by_cases h1 : mB x y aim 52 0 = 0
  · left; unfold bsV; rw [if_pos h1]
  · right
    rcases mB_FB x y aim 52 (Nat.le_refl 52) 0 with q | ⟨T, i, hT, i1, i2, i4⟩
    · exact absurd q h1
    have hub := gj_mul (aim := aim) i1
    have hkl := ks_le ha (T := T) (k := 52) (Nat.le_refl 52)
    have k2 : mB x y aim 52 0 ≤ 1 + 2 ^ 53 * 440 := by rw [i4]; generalize i * gj aim = G at *; omega
    obtain ⟨bU, bC⟩ := bsV_of ha k2 i4
    have hj2 := jkN_b y
    obtain ⟨c, hc, d, hd, cd, ca, db, hjv⟩ := fjS_all i i1 (hsB y 52) (hsB y 53) (by omega)
    have e : bsV x y aim = bsC x y aim ||| lN (c * 2 ^ 52 + d * 2 ^ 53) := by unfold bsV; rw [if_neg h1, bU, fj_2, hjv]
    have hrb : ∀ j, hsB (bsV x y aim) j = ((decide (j < 52) && T j) || ((decide (j = 52) && decide (c = 1)) || (decide (j = 53) && decide (d = 1)))) := by
      intro j
      rw [e, hs_or, bC j]
      by_cases q : j < 64
      · rw [jk_bit c hc d hd j q]
      · rw [hs_ge _ (by omega), decide_eq_false (show ¬ j = 52 by omega), decide_eq_false (show ¬ j = 53 by omega)]; rfl
    refine ⟨isS_bits (fun j hj => by
      rw [hrb j, decide_eq_false (show ¬ j < 52 by omega), decide_eq_false (show ¬ j = 52 by omega), decide_eq_false (show ¬ j = 53 by omega)]; rfl), fun j hj => ?_⟩
    rw [hrb j, Bool.or_eq_true, Bool.or_eq_true, Bool.and_eq_true, Bool.and_eq_true, Bool.and_eq_true] at hj
    rcases hj with ⟨q1, q2⟩ | ⟨q1, q2⟩ | ⟨q1, q2⟩
    · exact (hT j q2).1
    · have e1 := of_decide_eq_true q1
      have e2 := of_decide_eq_true q2
      rw [e1]
      cases w : hsB y 52 with
      | true => rfl
      | false => rw [w, e2] at ca; exact absurd ca (by decide)
    · have e1 := of_decide_eq_true q1
      have e2 := of_decide_eq_true q2
      rw [e1]
      cases w : hsB y 53 with
      | true => rfl
      | false => rw [w, e2] at db; exact absurd db (by decide)
/-- both programs' game state is good -/
def GI (np tp tn : Nat) (ly : Int64) (idl ov : Int32) (hf : Nat → Int64) (pf : Nat → Int32) : Prop := tn < 4 ∧ isS ly ∧ (∀ q, (q < np ∨ q = tn) → isS (hf q) ∧ ∀ k, k < 54 → hsB ly k = true → hsB (hf q) k = false) ∧ (0 < np → np ≤ 4 ∧ tn < np ∧ tp ≤ 54 ∧ (ov = 0 → ∃ i, i < np ∧ idl = nI i) ∧ (∀ p q, p < np → q < np → ¬ p = q → ∀ k, hsB (hf p) k = true → hsB (hf q) k = false) ∧ (∀ i, tp ≤ i → i < 54 → ∃ c, c < 54 ∧ pf i = nI c ∧ hsB ly c = false ∧ ∀ q, q < np → hsB (hf q) c = false) ∧ ∀ i j, tp ≤ i → i < j → j < 54 → ¬ pf i = pf j)
def GE (np tn : Nat) (hf hf8 : Nat → Int64) (of of8 : Nat → Int32) : Prop := ∀ q, (q < np ∨ q = tn) → hf q = hf8 q ∧ of q = of8 q
theorem GI_lay {np tp tn : Nat} {ly p : Int64} {idl ov ov2 : Int32} {hf : Nat → Int64} {pf : Nat → Int32} (h : GI np tp tn ly idl ov hf pf) (hp : isS p) (hs : ∀ j, hsB p j = true → hsB (hf tn) j = true) (ho : ov2 = 0 → ov = 0) : GI np tp tn (ly ||| p) idl ov2 (vp_updL hf tn (hf tn &&& (p ^^^ (-1)))) pf := by
  obtain ⟨h1, h2, h3, h4⟩ := h
  have hv : ∀ q, vp_updL hf tn (hf tn &&& (p ^^^ (-1))) q = if q = tn then hf tn &&& (p ^^^ (-1)) else hf q := by
    intro q
    by_cases z : q = tn
    · subst z; rw [pk_uLs, if_pos rfl]
    · rw [pk_uLn z, if_neg z]
  refine ⟨h1, or_S h2 hp, fun q hq => ?_, fun hnp => ?_⟩
  · rw [hv q]
    by_cases z : q = tn
    · rw [if_pos z]
      refine ⟨less_S (h3 tn (Or.inr rfl)).1, fun k hk hb => ?_⟩
      rw [hs_or] at hb
      rw [hs_less]
      cases w : hsB p k with
      | true => rw [Bool.not_true, Bool.and_false]
      | false =>
        rw [w, Bool.or_false] at hb
        rw [(h3 tn (Or.inr rfl)).2 k hk hb]; rfl
    · rw [if_neg z]
      refine ⟨(h3 q hq).1, fun k hk hb => ?_⟩
      rw [hs_or, Bool.or_eq_true] at hb
      rcases hb with w | w
      · exact (h3 q hq).2 k hk w
      · have hqn : q < np := hq.resolve_right z
        have hn : 0 < np := by omega
        obtain ⟨_, g2, _, _, g5, _, _⟩ := h4 hn
        exact g5 tn q g2 hqn (fun y => z y.symm) k (hs k w)
  · obtain ⟨g1, g2, g3, g4, g5, g6, g7⟩ := h4 hnp
    refine ⟨g1, g2, g3, fun z => g4 (ho z), fun a b ha hb hab k hk => ?_, fun i hi hi2 => ?_, g7⟩
    · rw [hv a] at hk
      rw [hv b]
      have hk2 : hsB (hf a) k = true := by
        by_cases z : a = tn
        · rw [if_pos z, hs_less, Bool.and_eq_true] at hk; rw [z]; exact hk.1
        · rw [if_neg z] at hk; exact hk
      have := g5 a b ha hb hab k hk2
      by_cases z : b = tn
      · rw [if_pos z, hs_less, ← z, this]; rfl
      · rw [if_neg z]; exact this
    · obtain ⟨c, c1, c2, c3, c4⟩ := g6 i hi hi2
      have hpc : hsB p c = false := by
        cases w : hsB p c with
        | false => rfl
        | true => have := hs c w; rw [c4 tn g2] at this; exact absurd this (by decide)
      refine ⟨c, c1, c2, by rw [hs_or, c3, hpc]; rfl, fun q hq => ?_⟩
      rw [hv q]
      by_cases z : q = tn
      · rw [if_pos z, hs_less, c4 tn g2]; rfl
      · rw [if_neg z]; exact c4 q hq
theorem GE_lay {np tn : Nat} {hf hf8 : Nat → Int64} {of of8 : Nat → Int32} {V : Int64} {o : Int32} (h : GE np tn hf hf8 of of8) : GE np tn (vp_updL hf tn V) (vp_updL hf8 tn V) (upd of tn o) (upd of8 tn o) := by
  intro q hq
  by_cases z : q = tn
  · subst z; rw [pk_uLs, pk_uLs, pk_us, pk_us]; exact ⟨rfl, rfl⟩
  · rw [pk_uLn z, pk_uLn z, pk_un z, pk_un z]; exact h q hq
theorem sub_of {a b : Int64} (h : a &&& (b ^^^ (-1)) = 0) : ∀ j, hsB a j = true → hsB b j = true := by
  intro j hj
  have e := hs_less (a := a) (b := b) (j := j)
  rw [h, hs_0, hj, Bool.true_and] at e
  cases w : hsB b j with
  | true => rfl
  | false => rw [w] at e; exact absurd e (by decide)
