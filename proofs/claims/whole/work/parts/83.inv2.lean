theorem rbK_of {aim opn : Int32} {s : RS} (ha : aim = 0 ∨ aim = 1) (h : rbGo aim opn s) : rbK aim s := by
  rcases bsV_ok (x := rbX s) (y := rHd s) ha with z | z
  · have hp := h.2.1
    unfold rbP at hp
    rw [z] at hp
    exact absurd hp (by decide)
  · exact z
theorem GI_rb {np tp tn : Nat} {ly : Int64} {idl ov la wn aim opn : Int32} {hf : Nat → Int64} {of pf : Nat → Int32} (ha : aim = 0 ∨ aim = 1) (h : GI np tp tn ly idl ov hf pf) : ∀ k, (∀ j, j < k → rbGo aim opn (rbIt aim tn (ly, hf tn, of tn, la, ov, wn, (0 : Int32)) j)) → GI np tp tn (rTb (rbIt aim tn (ly, hf tn, of tn, la, ov, wn, (0 : Int32)) k)) idl (rIo (rbIt aim tn (ly, hf tn, of tn, la, ov, wn, (0 : Int32)) k)) (vp_updL hf tn (rHd (rbIt aim tn (ly, hf tn, of tn, la, ov, wn, (0 : Int32)) k))) pf
  | 0, _ => by
    show GI np tp tn ly idl ov (vp_updL hf tn (hf tn)) pf
    rw [updL_self]; exact h
  | k + 1, hg => by
    have ih := GI_rb (of := of) (la := la) (wn := wn) ha h k (fun j hj => hg j (by omega))
    have hk := rbK_of ha (hg k (by omega))
    rw [show rbIt aim tn (ly, hf tn, of tn, la, ov, wn, (0 : Int32)) (k + 1) = rbNx aim tn (rbIt aim tn (ly, hf tn, of tn, la, ov, wn, (0 : Int32)) k) from rfl]
    generalize rbIt aim tn (ly, hf tn, of tn, la, ov, wn, (0 : Int32)) k = S at ih hk ⊢
    have e := GI_lay (p := rbP aim S) (ov2 := rIo (rbNx aim tn S)) ih hk.1 (fun j hj => by rw [pk_uLs]; exact hk.2 j hj) (fun z => by
      have z' : (if rHd S &&& (rbP aim S ^^^ (-1)) = 0 then (1 : Int32) else rIo S) = 0 := z
      by_cases w : rHd S &&& (rbP aim S ^^^ (-1)) = 0
      · rw [if_pos w] at z'; exact absurd z' (by decide)
      · rw [if_neg w] at z'; exact z')
    rw [updL_upd, pk_uLs] at e
    exact e
theorem rbI_of {np tp tn : Nat} {ly : Int64} {idl ov la wn n : Int32} {hf : Nat → Int64} {of : Int32} {pf : Nat → Int32} (h : GI np tp tn ly idl ov hf pf) : rbI (ly, hf tn, of, la, ov, wn, n) := ⟨h.2.1, (h.2.2.1 tn (Or.inr rfl)).1, (h.2.2.1 tn (Or.inr rfl)).2⟩
/-- the end of a turn -/
theorem eT_eq {la : Int32} {tp : Nat} {pf cf : Nat → Int32} (h : ∀ k, k < 54 → pf k = cf k) : eT_card la tp pf = eT_card la tp cf := by
  unfold eT_card
  by_cases z : la = 0
  · rw [if_pos z, if_pos z]
    by_cases y : tp < 54
    · rw [if_pos y, if_pos y]; exact h tp y
    · rw [if_neg y, if_neg y]
  · rw [if_neg z, if_neg z]
theorem bit_54 : j_X1_bitOf 54 = 0 := by decide
theorem end_hd {np tp tn : Nat} {la idl ov : Int32} {ly : Int64} {hf hf8 : Nat → Int64} {of of8 pf cf : Nat → Int32} (hG : GI np tp tn ly idl ov hf pf) (hE : GE np tn hf hf8 of of8) (hp : ∀ k, k < 54 → pf k = cf k) (hn : 0 < np) : ∀ q, q < np → vp_updL hf tn (hf tn ||| j_X1_bitOf (eT_card la tp pf)) q = eN_hf la tp tn hf8 cf q := by
  intro q hq
  obtain ⟨_, _, _, h4⟩ := hG
  obtain ⟨g1, g2, g3, g4, g5, g6, g7⟩ := h4 hn
  have hno : vp_updL hf tn (hf tn ||| 0) q = hf8 q := by
    rw [Int64.or_zero, updL_self]; exact (hE q (Or.inl hq)).1
  unfold eT_card eN_hf
  by_cases z : la = 0
  · rw [if_pos z, if_pos z]
    by_cases y : tp < 54
    · rw [if_pos y, if_pos y]
      obtain ⟨c, c1, c2, _, _⟩ := g6 tp (Nat.le_refl _) y
      rw [← hp tp y, c2, j_bit c1, (hE tn (Or.inr rfl)).1]
      by_cases w : q = tn
      · subst w; rw [pk_uLs, pk_uLs]
      · rw [pk_uLn w, pk_uLn w]; exact (hE q (Or.inl hq)).1
    · rw [if_neg y, if_neg y, bit_54]; exact hno
  · rw [if_neg z, if_neg z, bit_54]; exact hno
theorem tn_next {np tn : Nat} (h : tn < np) : (if tn + 1 < np then tn + 1 else 0) = (tn + 1) % np := by
  by_cases z : tn + 1 < np
  · rw [if_pos z, Nat.mod_eq_of_lt z]
  · have e : tn + 1 = np := by omega
    rw [if_neg z, e, Nat.mod_self]
theorem idle_n {np i : Nat} {la cd : Int32} (hi : i < np) (h4 : np ≤ 4) : ∃ j, j ≤ np ∧ eT_idle la (nI i) cd = nI j := by
  unfold eT_idle
  by_cases z : la = 0
  · rw [if_pos z]
    by_cases y : cd = 54
    · rw [if_pos y]; exact ⟨i + 1, by omega, nI_1 i⟩
    · rw [if_neg y]; exact ⟨0, Nat.zero_le _, nI_0.symm⟩
  · rw [if_neg z]; exact ⟨0, Nat.zero_le _, nI_0.symm⟩
theorem ov_eq {np j : Nat} (hj : j ≤ np) (h4 : np ≤ 4) : (if nI j < nI np then (0 : Int32) else 1) = if nI j = nI np then 1 else 0 := by
  by_cases z : j = np
  · subst z; rw [if_neg (nI_nlt (Nat.le_refl _) (by omega)), if_pos rfl]
  · rw [if_pos (nI_lt (by omega) (by omega)), if_neg (fun q => z ((nI_eq (by omega) (by omega)).mp q))]
theorem GI_end {np tp tn : Nat} {la idl ov : Int32} {ly : Int64} {hf : Nat → Int64} {pf : Nat → Int32} (hG : GI np tp tn ly idl ov hf pf) (hn : 0 < np) (ho : ov = 0) : GI np (eT_top la tp) ((tn + 1) % np) ly (eT_idle la idl (eT_card la tp pf)) (if eT_idle la idl (eT_card la tp pf) < nI np then 0 else 1) (vp_updL hf tn (hf tn ||| j_X1_bitOf (eT_card la tp pf))) pf := by
  obtain ⟨h1, h2, h3, h4⟩ := hG
  obtain ⟨g1, g2, g3, g4, g5, g6, g7⟩ := h4 hn
  obtain ⟨i, hi, rfl⟩ := g4 ho
  obtain ⟨j, hj, ej⟩ := idle_n (la := la) (cd := eT_card la tp pf) hi g1
  have ht : (tn + 1) % np < np := Nat.mod_lt _ hn
  -- what is drawn
  have hdr : (∃ c, c < 54 ∧ tp < 54 ∧ pf tp = nI c ∧ eT_top la tp = tp + 1 ∧ j_X1_bitOf (eT_card la tp pf) = 1 <<< ((nI c).toInt64 &&& 63)) ∨ (eT_top la tp = tp ∧ j_X1_bitOf (eT_card la tp pf) = 0) := by
    unfold eT_top eT_card
    by_cases z : la = 0
    · rw [if_pos z, if_pos z]
      by_cases y : tp < 54
      · rw [if_pos y, if_pos y]
        obtain ⟨c, c1, c2, _, _⟩ := g6 tp (Nat.le_refl _) y
        exact Or.inl ⟨c, c1, y, c2, rfl, by rw [c2]; exact j_bit c1⟩
      · rw [if_neg y, if_neg y]; exact Or.inr ⟨rfl, bit_54⟩
    · rw [if_neg z, if_neg z]; exact Or.inr ⟨rfl, bit_54⟩
  have hidl : (if eT_idle la (nI i) (eT_card la tp pf) < nI np then (0 : Int32) else 1) = 0 → ∃ i', i' < np ∧ eT_idle la (nI i) (eT_card la tp pf) = nI i' := by
    intro z
    rw [ej] at z ⊢
    refine ⟨j, ?_, rfl⟩
    by_cases w : nI j < nI np
    · exact (nI_ltI (by omega) (by omega)).mp w
    · rw [if_neg w] at z; exact absurd z (by decide)
  generalize eT_idle la (nI i) (eT_card la tp pf) = idl2 at hidl ⊢
  rcases hdr with ⟨c, c1, y, c2, e1, e2⟩ | ⟨e1, e2⟩
  · rw [e1, e2]
    obtain ⟨c', c1', c2', c3', c4'⟩ := g6 tp (Nat.le_refl _) y
    have hcc : c' = c := (nI_eq (by omega) (by omega)).mp (c2'.symm.trans c2)
    subst hcc
    have hv : ∀ q k, hsB (vp_updL hf tn (hf tn ||| 1 <<< ((nI c').toInt64 &&& 63)) q) k = (hsB (hf q) k || (decide (q = tn) && decide (k = c'))) := by
      intro q k
      by_cases z : q = tn
      · subst z; rw [pk_uLs, hs_or, hs_bit (by omega), decide_eq_true rfl, Bool.true_and]
      · rw [pk_uLn z, decide_eq_false z, Bool.false_and, Bool.or_false]
    refine ⟨by omega, h2, fun q hq => ⟨isS_bits (fun k hk => ?_), fun k hk hb => ?_⟩, fun _ => ⟨g1, ht, by omega, hidl, fun a b ha hb hab k hk => ?_, fun i1 hi1 hi2 => ?_, fun a b ha hab hb => g7 a b (by omega) hab hb⟩⟩
    · have hqn : q < np := by rcases hq with w | w <;> omega
      rw [hv q k, isS_no (h3 q (Or.inl hqn)).1 hk, decide_eq_false (show ¬ k = c' by omega), Bool.and_false]; rfl
    · have hqn : q < np := by rcases hq with w | w <;> omega
      have hkc : ¬ k = c' := fun w => by rw [w, c3'] at hb; exact absurd hb (by decide)
      rw [hv q k, (h3 q (Or.inl hqn)).2 k hk hb, decide_eq_false hkc, Bool.and_false]; rfl
    · rw [hv a k, Bool.or_eq_true] at hk
      rw [hv b k]
      rcases hk with w | w
      · rw [g5 a b ha hb hab k w]
        have hkc : (decide (b = tn) && decide (k = c')) = false := by
          cases w2 : (decide (b = tn) && decide (k = c')) with
          | false => rfl
          | true =>
            rw [Bool.and_eq_true] at w2
            have e5 := of_decide_eq_true w2.2
            rw [e5, c4' a ha] at w
            exact absurd w (by decide)
        rw [hkc]; rfl
      · rw [Bool.and_eq_true] at w
        have e5 := of_decide_eq_true w.1
        have e6 := of_decide_eq_true w.2
        rw [e6, c4' b hb, decide_eq_false (show ¬ b = tn from fun z => hab (e5.trans z.symm))]; rfl
    · obtain ⟨d, d1, d2, d3, d4⟩ := g6 i1 (by omega) hi2
      refine ⟨d, d1, d2, d3, fun q hq => ?_⟩
      have hdc : ¬ d = c' := fun w => g7 tp i1 (Nat.le_refl _) (by omega) hi2 (by rw [c2, d2, w])
      rw [hv q d, d4 q hq, decide_eq_false hdc, Bool.and_false]; rfl
  · rw [e1, e2, Int64.or_zero, updL_self]
    refine ⟨by omega, h2, fun q hq => h3 q (Or.inl (by rcases hq with w | w <;> omega)), fun _ => ⟨g1, ht, g3, hidl, g5, g6, g7⟩⟩
/-- the shuffle is one to one -/
theorem sh_inj {sd : Nat} : ∀ n, n ≤ 53 → ∀ a b, a < 54 → b < 54 → (shN sd n).2 a = (shN sd n).2 b → a = b
  | 0, _, a, b, _, _, h => h
  | n + 1, hn, a, b, ha, hb, h => by
    have ih := sh_inj (sd := sd) n (by omega)
    have hj : 48271 * (shN sd n).1 % 2147483647 % (53 - n + 1) < 53 - n + 1 := Nat.mod_lt _ (by omega)
    have h' : (if a = 48271 * (shN sd n).1 % 2147483647 % (53 - n + 1) then (shN sd n).2 (53 - n) else if a = 53 - n then (shN sd n).2 (48271 * (shN sd n).1 % 2147483647 % (53 - n + 1)) else (shN sd n).2 a) = (if b = 48271 * (shN sd n).1 % 2147483647 % (53 - n + 1) then (shN sd n).2 (53 - n) else if b = 53 - n then (shN sd n).2 (48271 * (shN sd n).1 % 2147483647 % (53 - n + 1)) else (shN sd n).2 b) := h
    generalize 48271 * (shN sd n).1 % 2147483647 % (53 - n + 1) = j at hj h'
    by_cases a1 : a = j
    · rw [if_pos a1] at h'
      by_cases b1 : b = j
      · omega
      · rw [if_neg b1] at h'
        by_cases b2 : b = 53 - n
        · rw [if_pos b2] at h'
          have := ih _ _ (by omega) (by omega) h'; omega
        · rw [if_neg b2] at h'
          have := ih _ _ (by omega) hb h'; omega
    · rw [if_neg a1] at h'
      by_cases a2 : a = 53 - n
      · rw [if_pos a2] at h'
        by_cases b1 : b = j
        · rw [if_pos b1] at h'
          have := ih _ _ (by omega) (by omega) h'; omega
        · rw [if_neg b1] at h'
          by_cases b2 : b = 53 - n
          · omega
          · rw [if_neg b2] at h'
            have := ih _ _ (by omega) hb h'; omega
      · rw [if_neg a2] at h'
        by_cases b1 : b = j
        · rw [if_pos b1] at h'
          have := ih _ _ ha (by omega) h'; omega
        · rw [if_neg b1] at h'
          by_cases b2 : b = 53 - n
          · rw [if_pos b2] at h'
            have := ih _ _ ha (by omega) h'; omega
          · rw [if_neg b2] at h'
            exact ih _ _ ha hb h'
theorem hd_bit {f : Nat → Nat} {t : Nat} : ∀ n, (∀ i, i < n → f (t + i) < 54) → ∀ k, (hsB (hdL f t n) k = true ↔ ∃ i, i < n ∧ f (t + i) = k)
  | 0, _, k => by
    show hsB 0 k = true ↔ _
    rw [hs_0]
    exact ⟨fun h => absurd h (by decide), fun ⟨i, h, _⟩ => absurd h (Nat.not_lt_zero i)⟩
  | n + 1, hf, k => by
    have ih := hd_bit n (fun i hi => hf i (by omega)) k
    show hsB (hdL f t n ||| j_X1_bitOf (nI (f (t + n)))) k = true ↔ _
    rw [hs_or, j_bit (hf n (by omega)), hs_bit (by have := hf n (by omega); omega), Bool.or_eq_true, ih]
    constructor
    · rintro (⟨i, h1, h2⟩ | h)
      · exact ⟨i, by omega, h2⟩
      · exact ⟨n, by omega, (of_decide_eq_true h).symm⟩
    · rintro ⟨i, h1, h2⟩
      rcases Nat.lt_succ_iff_lt_or_eq.mp h1 with z | z
      · exact Or.inl ⟨i, z, h2⟩
      · subst z; exact Or.inr (decide_eq_true h2.symm)
theorem GI_deal {nq mn sd : Nat} {hf : Nat → Int64} {pf : Nat → Int32} (h2 : 2 ≤ nq) (h4 : nq ≤ 4) (hm : mn ≤ 13) (hh : ∀ q, q < nq → hf q = bgH sd nq mn q) (hp : ∀ k, k < 54 → pf k = nI ((shN sd 53).2 k)) : GI nq (nq * mn) 0 0 0 0 hf pf := by
  have hle : nq * mn ≤ 52 := Nat.le_trans (Nat.mul_le_mul h4 hm) (by decide)
  have hq : ∀ q, q < nq → q * mn + mn ≤ nq * mn := fun q hq => by
    have := Nat.mul_le_mul_right mn (show q + 1 ≤ nq by omega)
    rw [Nat.add_mul, Nat.one_mul] at this
    exact this
  have hb : ∀ q, q < nq → ∀ k, (hsB (hf q) k = true ↔ ∃ i, i < mn ∧ (shN sd 53).2 (q * mn + i) = k) := fun q hq1 k => by
    have := hq q hq1
    rw [hh q hq1]
    unfold bgH
    rw [if_pos hq1]
    exact hd_bit mn (fun i hi => shN_card 53 (by omega) _ (by omega)) k
  have hbf : ∀ q, q < nq → ∀ k, (∀ i, i < mn → ¬ (shN sd 53).2 (q * mn + i) = k) → hsB (hf q) k = false := fun q hq1 k hno => by
    cases w : hsB (hf q) k with
    | false => rfl
    | true => obtain ⟨i, i1, i2⟩ := (hb q hq1 k).mp w; exact absurd i2 (hno i i1)
  refine ⟨by decide, isS_0, fun q hq1 => ⟨isS_bits (fun k hk => ?_), fun k _ hk => ?_⟩, fun _ => ⟨h4, by omega, by omega, fun _ => ⟨0, by omega, nI_0.symm⟩, fun a b ha hb1 hab k hk => ?_, fun i hi hi2 => ?_, fun a b ha hab hb1 he => ?_⟩⟩
  · have hq2 : q < nq := by rcases hq1 with w | w <;> omega
    have h5 := hq q hq2
    exact hbf q hq2 k (fun i hi e => by have := shN_card (sd := sd) 53 (by omega) (q * mn + i) (by omega); omega)
  · rw [hs_0] at hk; exact absurd hk (by decide)
  · obtain ⟨i, i1, i2⟩ := (hb a ha k).mp hk
    have e1 := hq a ha
    have e2 := hq b hb1
    refine hbf b hb1 k (fun j hj e => ?_)
    have e3 := sh_inj (sd := sd) 53 (by omega) (a * mn + i) (b * mn + j) (by omega) (by omega) (i2.trans e.symm)
    rcases Nat.lt_or_gt_of_ne hab with w | w
    · have := Nat.mul_le_mul_right mn (show a + 1 ≤ b by omega)
      rw [Nat.add_mul, Nat.one_mul] at this
      omega
    · have := Nat.mul_le_mul_right mn (show b + 1 ≤ a by omega)
      rw [Nat.add_mul, Nat.one_mul] at this
      omega
  · refine ⟨(shN sd 53).2 i, shN_card 53 (by omega) i hi2, hp i hi2, hs_0 _, fun q hq1 => hbf q hq1 _ (fun j hj e => ?_)⟩
    have e1 := hq q hq1
    have := sh_inj (sd := sd) 53 (by omega) (q * mn + j) i (by omega) hi2 e
    omega
  · rw [hp a (by omega), hp b hb1] at he
    have e1 := shN_card (sd := sd) 53 (by omega) a (by omega)
    have e2 := shN_card (sd := sd) 53 (by omega) b hb1
    have e3 := (nI_eq (by omega) (by omega)).mp he
    have := sh_inj (sd := sd) 53 (by omega) a b (by omega) hb1 e3
    omega
