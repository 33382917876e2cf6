/-- the key of the cards taken below k -/
def ks (aim : Int32) (T : Nat → Bool) : Nat → Nat
  | 0 => 0
  | k + 1 => ks aim T k + (if T k = true then kg aim k else 0)
def bsI (x y : Int64) (aim : Int32) (H : Nat → Int32) (lfk : Int32) (T : Nat → Bool) (k : Nat) : Prop := ∃ kap, (∃ m, m < 3840 ∧ ¬ H m = 0 ∧ mB x y aim (52 - k) m = kap) ∧ (∀ m, m < 3840 → ¬ H m = 0 → igN m ≤ k % 4 ∧ mB x y aim (52 - k) m ≤ kap ∧ ¬ mB x y aim (52 - k) m = 0 ∧ vO (mB x y aim (52 - k) m) = lfk) ∧ mB x y aim 52 0 = kap + ks aim T k
/-- the steps of the choice, with what was taken -/
def stT2 (x y : Int64) (aim : Int32) (mf : Nat → Int32) (Hs : Nat → Nat → Int32) (lf : Nat → Int32) (pt : Nat → Int64) (T : Nat → Bool) (k : Nat) : Prop := (T k = true ∧ stIn y aim mf (Hs k) (Hs (k + 1)) (lf k) k ∧ lf (k + 1) = lf k - j_X8_gain (nI k) aim ∧ pt (k + 1) = pt k ||| (1 <<< ((nI k).toInt64 &&& 63))) ∨ (T k = false ∧ stOut y aim mf (Hs k) (lf k) k ∧ (∃ r, gInv (Hs k) mf k (hsB x k) (lf k) 3840 0 (Hs (k + 1)) r) ∧ lf (k + 1) = lf k ∧ pt (k + 1) = pt k)
theorem st_T {x y : Int64} {aim : Int32} {mf : Nat → Int32} {Hs : Nat → Nat → Int32} {lf : Nat → Int32} {pt : Nat → Int64} (h : ∀ k, k < 52 → stB x y aim mf (Hs k) (Hs (k + 1)) (lf k) (lf (k + 1)) (pt k) (pt (k + 1)) k) : ∃ T : Nat → Bool, ∀ k, k < 52 → stT2 x y aim mf Hs lf pt T k := by
  refine ⟨fun k => @decide (stIn y aim mf (Hs k) (Hs (k + 1)) (lf k) k ∧ lf (k + 1) = lf k - j_X8_gain (nI k) aim ∧ pt (k + 1) = pt k ||| (1 <<< ((nI k).toInt64 &&& 63))) (Classical.propDecidable _), fun k hk => ?_⟩
  by_cases z : stIn y aim mf (Hs k) (Hs (k + 1)) (lf k) k ∧ lf (k + 1) = lf k - j_X8_gain (nI k) aim ∧ pt (k + 1) = pt k ||| (1 <<< ((nI k).toInt64 &&& 63))
  · exact Or.inl ⟨@decide_eq_true _ (Classical.propDecidable _) z, z⟩
  · rcases h k hk with q | q
    · exact absurd q z
    · exact Or.inr ⟨@decide_eq_false _ (Classical.propDecidable _) z, q⟩
theorem gI_mem {hf mf : Nat → Int32} {k : Nat} {it : Bool} {left r : Int32} {tq : Nat → Int32} {t : Nat} (hI : gInv hf mf k it left 3840 0 tq r) (ht : t < 3840) : ¬ tq t = 0 ↔ ∃ m p, m < 3840 ∧ ¬ hf m = 0 ∧ bN it ≤ p ∧ p < 4 ∧ bhN m k p (decide (0 < p) && !it) = some t ∧ mf (3840 * (k + 1) + t) = left := by
  rcases hI.1 t ht with ⟨q1, q2⟩ | ⟨q1, q2⟩
  · refine ⟨fun z => absurd q1 z, fun z => ?_⟩
    obtain ⟨m, p, a1, a2⟩ := z
    exact absurd ⟨m, p, Or.inl a1, a1, a2⟩ q2
  · refine ⟨fun _ => ?_, fun _ z => by rw [q1] at z; exact absurd z (by decide)⟩
    obtain ⟨m, p, _, a1, a2⟩ := q2
    exact ⟨m, p, a1, a2⟩
theorem tB_at {x y : Int64} {aim : Int32} {d m q K : Nat} (h : tB x y aim d m q = K) (hK : ¬ K = 0) : okB x y (51 - d) q = true ∧ ∃ t, bhN m (51 - d) (q % 4) (joB (51 - d) q) = some t ∧ ¬ mB x y aim d t = 0 ∧ K = vaB y aim (51 - d) q + mB x y aim d t - 1 := by
  unfold tB at h
  by_cases z : okB x y (51 - d) q = true
  · rw [if_pos z] at h
    refine ⟨z, ?_⟩
    cases hb : bhN m (51 - d) (q % 4) (joB (51 - d) q) with
    | none => rw [hb] at h; exact absurd (h.symm.trans (muT_0 _)) hK
    | some t =>
      rw [hb] at h
      have h2 : muT (vaB y aim (51 - d) q) (mB x y aim d t) = K := h
      by_cases y1 : mB x y aim d t = 0
      · rw [y1, muT_0] at h2; exact absurd h2.symm hK
      · refine ⟨t, rfl, y1, ?_⟩
        unfold muT at h2
        have : ¬ vaB y aim (51 - d) q = 0 := by unfold vaB; split <;> omega
        rw [if_neg this, if_neg y1] at h2
        exact h2.symm
  · rw [if_neg z] at h; exact absurd h.symm hK
theorem tB_ge {x y : Int64} {aim : Int32} {d k m q t : Nat} (hk : 51 - d = k) (hq : q < 8) (ho : okB x y k q = true) (hb : bhN m k (q % 4) (joB k q) = some t) (hz : ¬ mB x y aim d t = 0) : vaB y aim k q + mB x y aim d t - 1 ≤ mB x y aim (d + 1) m := by
  subst hk
  rw [mB_s]
  refine Nat.le_trans (Nat.le_of_eq ?_) (mx_ge (f := tB x y aim d m) hq)
  unfold tB
  rw [if_pos ho, hb]
  show _ = muT _ (mB x y aim d t)
  unfold muT
  have : ¬ vaB y aim (51 - d) q = 0 := by unfold vaB; split <;> omega
  rw [if_neg this, if_neg hz]
theorem va_no {y : Int64} {aim : Int32} {k q : Nat} (h : ¬ (q / 4 = 1 ∧ hsB y k = true)) : vaB y aim k q = 1 := by unfold vaB; rw [if_neg h]
theorem va_y {y : Int64} {aim : Int32} {k q : Nat} (h : q / 4 = 1 ∧ hsB y k = true) : vaB y aim k q = 1 + kg aim k := by unfold vaB; rw [if_pos h]
theorem kg_d {aim : Int32} {d k : Nat} (hk : 51 - d = k) (hd : d < 52) : kg aim k = 2 ^ 53 * gv aim k + 2 ^ (d + 1) := by unfold kg; rw [← hk, show 52 - (51 - d) = d + 1 by omega]
set_option maxHeartbeats 1000000 in
theorem bs_step {x y : Int64} {aim : Int32} {mf : Nat → Int32} {Hs : Nat → Nat → Int32} {lf : Nat → Int32} {pt : Nat → Int64} {T : Nat → Bool} {k : Nat} (hx : isS x) (hy : isS y) (hM : MostEq x y aim mf) (hdj : ∀ k, k < 52 → hsB x k = true → hsB y k = false) (hk : k < 52) (hS : stT2 x y aim mf Hs lf pt T k) (hI : bsI x y aim (Hs k) (lf k) T k) : bsI x y aim (Hs (k + 1)) (lf (k + 1)) T (k + 1) := by
  obtain ⟨kap, ⟨m0, hm0, hH0, hk0⟩, hall, htot⟩ := hI
  generalize hd : 51 - k = d
  have hdk : 51 - d = k := by omega
  have hd52 : d < 52 := by omega
  have e1 : 52 - k = d + 1 := by omega
  have e2 : 52 - (k + 1) = d := by omega
  rw [e1] at hk0 hall
  unfold bsI
  rw [e2]
  obtain ⟨hg0, hle0, hnz0, hv0⟩ := hall m0 hm0 hH0
  rw [hk0] at hnz0 hv0
  -- the greatest key: by which choice
  have hat := mx_at (f := tB x y aim d m0) (n := 8) (by rw [← mB_s, hk0]; exact hnz0)
  obtain ⟨q, hq, hqk⟩ := hat
  rw [← mB_s, hk0] at hqk
  obtain ⟨hok, t0, hb0, hz0, hkap⟩ := tB_at hqk hnz0
  rw [hdk] at hok hb0 hkap
  obtain ⟨ht0, hgt0⟩ := bhN_good hm0 hg0 hb0
  have hmf : ∀ t, t < 3840 → igN t ≤ (k + 1) % 4 → mf (3840 * (k + 1) + t) = vO (mB x y aim d t) := by
    intro t h1 h2
    have := M_mB hx hy hM d (by omega) t h1 (by rw [show 52 - d = k + 1 by omega]; exact h2)
    rw [show 52 - d = k + 1 by omega] at this
    exact this
  -- forms
  obtain ⟨V, c, f1, f2, f3, f4, f5⟩ := vO_pos (d := d + 1) (by omega) (by rw [← hk0]; exact mB_Bd x y aim (d + 1) (by omega) m0) hnz0
  obtain ⟨W, e, w1, w2, w3, w4, w5⟩ := vO_pos (d := d) (by omega) (mB_Bd x y aim d (by omega) t0) hz0
  have hlf : lf k = nI V := hv0.symm.trans f5
  have hgain : j_X8_gain (nI k) aim = nI (gv aim k) := gain_8 hk
  have hgv := gv_le aim k
  have hkg := kg_d (aim := aim) hdk hd52
  have hpw : 2 ^ (d + 1) + 2 ^ (d + 1) ≤ 2 ^ 53 := by
    have : 2 ^ (d + 1 + 1) ≤ 2 ^ 53 := Nat.pow_le_pow_right (by decide) (by omega)
    rw [Nat.pow_succ] at this
    omega
  have hpp : 0 < 2 ^ (d + 1) := Nat.pow_pos (by decide)
  rcases hS with ⟨hT, ⟨hyk, hnl, hG⟩, hl2, _⟩ | ⟨hT, hout, ⟨r, hG⟩, hl2, _⟩
  · -- taken
    have hxk : hsB x k = false := by
      cases z : hsB x k with
      | false => rfl
      | true => rw [hdj k hk z] at hyk; exact absurd hyk (by decide)
    have hge : gv aim k ≤ V := by
      rw [hgain, hlf] at hnl
      by_cases z : gv aim k ≤ V
      · exact z
      · exact absurd (nI_lt (by omega) (by omega)) hnl
    rw [hgain, hlf, pk_sub hge] at hG hl2
    -- every mark behind
    have hmem : ∀ t, t < 3840 → ¬ Hs (k + 1) t = 0 → igN t ≤ (k + 1) % 4 ∧ ¬ mB x y aim d t = 0 ∧ vO (mB x y aim d t) = lf (k + 1) ∧ mB x y aim d t + kg aim k ≤ kap := by
      intro t ht hH
      obtain ⟨m, p, a1, a2, a3, a4, a5, a6⟩ := (gI_mem hG ht).mp hH
      have hgm := hall m a1 a2
      obtain ⟨_, b2⟩ := bhN_good a1 hgm.1 a5
      have a7 := (hmf t ht b2).symm.trans a6
      have b3 : ¬ mB x y aim d t = 0 := fun z => by
        rw [z] at a7
        exact nI_m1 (a := V - gv aim k) (by omega) (by rw [← a7]; rfl)
      refine ⟨b2, b3, a7.trans hl2.symm, ?_⟩
      have hp1 : 1 ≤ p := a3
      have := tB_ge (x := x) (y := y) (aim := aim) (q := 4 + p) hdk (by omega) (by
        unfold okB
        rw [if_pos (by omega), show (4 + p) % 4 = p by omega, decide_eq_true (by omega), hyk, Bool.or_true]; rfl) (t := t) (m := m) (by
        unfold joB
        rw [if_pos (by omega), show (4 + p) % 4 = p by omega]
        rw [decide_eq_true (show 0 < p by omega)] at a5
        exact a5) b3
      rw [va_y ⟨by omega, hyk⟩] at this
      have := hgm.2.1
      omega
    -- there is one
    have hne : ∃ t, t < 3840 ∧ ¬ Hs (k + 1) t = 0 := by
      rcases hG.2 with ⟨z, _⟩ | ⟨_, t, ht, hg⟩
      · exact absurd z (by decide)
      · refine ⟨t, ht, (gI_mem hG ht).mpr ?_⟩
        obtain ⟨m, p, _, a1, a2⟩ := hg
        exact ⟨m, p, a1, a2⟩
    obtain ⟨t1, ht1, hH1⟩ := hne
    obtain ⟨c1, c2, c3, c4⟩ := hmem t1 ht1 hH1
    obtain ⟨W1, e1', x1, x2, x3, x4, x5⟩ := vO_pos (d := d) (by omega) (mB_Bd x y aim d (by omega) t1) c2
    have hW1 : W1 = V - gv aim k := (nI_eq (by omega) (by omega)).mp (x5.symm.trans (c3.trans hl2))
    -- the greatest takes the card
    have hqi : q / 4 = 1 := by
      by_cases z : q / 4 = 1
      · exact z
      · exfalso
        rw [va_no (fun y => z y.1)] at hkap
        rw [hkg] at c4
        have hWV : W = V := by
          clear hpw hmem hall hmf hG
          omega
        omega
    rw [va_y ⟨hqi, hyk⟩] at hkap
    have hWV : W = V - gv aim k := by
      rw [hkg] at hkap
      generalize 2 ^ (d + 1) = C at *
      omega
    have ht0m : ¬ Hs (k + 1) t0 = 0 := by
      refine (gI_mem hG ht0).mpr ⟨m0, q % 4, hm0, hH0, ?_, Nat.mod_lt _ (by decide), ?_, ?_⟩
      · unfold okB at hok
        rw [if_pos hqi, Bool.and_eq_true] at hok
        have := of_decide_eq_true hok.1
        show 1 ≤ q % 4
        omega
      · unfold joB at hb0
        rw [if_pos hqi] at hb0
        rw [Bool.not_true, Bool.and_false]; exact hb0
      · rw [hmf t0 ht0 hgt0, w5, hWV]
    refine ⟨mB x y aim d t0, ⟨t0, ht0, ht0m, rfl⟩, fun t ht hH => ?_, ?_⟩
    · obtain ⟨d1, d2, d3, d4⟩ := hmem t ht hH
      exact ⟨d1, by omega, d2, d3⟩
    · rw [htot]
      show kap + ks aim T k = mB x y aim d t0 + (ks aim T k + (if T k = true then kg aim k else 0))
      rw [if_pos hT]
      omega
  · -- left out
    rw [hlf] at hG hl2 hout
    have hmem : ∀ t, t < 3840 → ¬ Hs (k + 1) t = 0 → igN t ≤ (k + 1) % 4 ∧ mB x y aim d t ≤ kap ∧ ¬ mB x y aim d t = 0 ∧ vO (mB x y aim d t) = lf (k + 1) := by
      intro t ht hH
      obtain ⟨m, p, a1, a2, a3, a4, a5, a6⟩ := (gI_mem hG ht).mp hH
      have hgm := hall m a1 a2
      obtain ⟨_, b2⟩ := bhN_good a1 hgm.1 a5
      have a7 := (hmf t ht b2).symm.trans a6
      have b3 : ¬ mB x y aim d t = 0 := fun z => by
        rw [z] at a7
        exact nI_m1 (a := V) (by omega) (by rw [← a7]; rfl)
      refine ⟨b2, ?_, b3, a7.trans hl2.symm⟩
      refine Nat.le_trans ?_ hgm.2.1
      cases hxk : hsB x k with
      | true =>
        rw [hxk] at a3 a5
        have hp1 : 1 ≤ p := a3
        have hyk := hdj k hk hxk
        have := tB_ge (x := x) (y := y) (aim := aim) (q := 4 + p) hdk (by omega) (by
          unfold okB
          rw [if_pos (by omega), show (4 + p) % 4 = p by omega, decide_eq_true (by omega), hxk]; rfl) (t := t) (m := m) (by
          unfold joB
          rw [if_pos (by omega), show (4 + p) % 4 = p by omega]
          rw [decide_eq_true (show 0 < p by omega)] at a5
          exact a5) b3
        rw [va_no (fun z => by rw [hyk] at z; exact absurd z.2 (by decide))] at this
        omega
      | false =>
        rw [hxk] at a5
        have := tB_ge (x := x) (y := y) (aim := aim) (q := p) hdk (by omega) (by
          unfold okB
          rw [if_neg (by omega), hxk]; rfl) (t := t) (m := m) (by
          unfold joB
          rw [if_neg (by omega), Nat.mod_eq_of_lt a4]
          rw [Bool.not_false, Bool.and_true] at a5
          exact a5) b3
        rw [va_no (fun z => by omega)] at this
        omega
    -- the greatest does not take the card
    have hno : ¬ (q / 4 = 1 ∧ hsB y k = true) := by
      intro z
      rw [va_y z] at hkap
      have hWV : V = W + gv aim k := by
        rw [hkg] at hkap
        clear hmem hall hmf hG hout
        generalize 2 ^ (d + 1) = C at *
        omega
      unfold stOut at hout
      rw [hgain] at hout
      rcases hout with o1 | o1 | ⟨T2, o1⟩
      · rw [o1] at z; exact absurd z.2 (by decide)
      · exact absurd o1 (nI_nlt (by omega) (by omega))
      · rw [pk_sub (by omega), show V - gv aim k = W by omega] at o1
        rcases o1.2 with ⟨_, o2⟩ | ⟨o2, _⟩
        · refine o2 t0 ⟨m0, q % 4, Or.inl hm0, hm0, hH0, ?_, Nat.mod_lt _ (by decide), ?_, ?_⟩
          · unfold okB at hok
            rw [if_pos z.1, Bool.and_eq_true] at hok
            have := of_decide_eq_true hok.1
            show 1 ≤ q % 4
            omega
          · unfold joB at hb0
            rw [if_pos z.1] at hb0
            rw [Bool.not_true, Bool.and_false]; exact hb0
          · rw [hmf t0 ht0 hgt0, w5]
        · exact absurd o2 (by decide)
    rw [va_no hno] at hkap
    have hWV : W = V := by
      clear hmem hall hmf hG hout
      omega
    have ht0m : ¬ Hs (k + 1) t0 = 0 := by
      refine (gI_mem hG ht0).mpr ⟨m0, q % 4, hm0, hH0, ?_, Nat.mod_lt _ (by decide), ?_, ?_⟩
      · by_cases z : q / 4 = 1
        · unfold okB at hok
          rw [if_pos z, Bool.and_eq_true] at hok
          have := of_decide_eq_true hok.1
          have := bN_le (hsB x k)
          omega
        · unfold okB at hok
          rw [if_neg z] at hok
          have hxk : hsB x k = false := by cases h : hsB x k with
            | false => rfl
            | true => rw [h] at hok; exact absurd hok (by decide)
          rw [hxk]; exact Nat.zero_le _
      · by_cases z : q / 4 = 1
        · unfold okB at hok
          rw [if_pos z, Bool.and_eq_true] at hok
          have hyk : hsB y k = false := by cases h : hsB y k with
            | false => rfl
            | true => exact absurd ⟨z, h⟩ hno
          rw [hyk, Bool.or_false] at hok
          rw [hok.2, Bool.not_true, Bool.and_false]
          unfold joB at hb0
          rw [if_pos z] at hb0
          exact hb0
        · unfold okB at hok
          rw [if_neg z] at hok
          have hxk : hsB x k = false := by cases h : hsB x k with
            | false => rfl
            | true => rw [h] at hok; exact absurd hok (by decide)
          rw [hxk, Bool.not_false, Bool.and_true]
          unfold joB at hb0
          rw [if_neg z] at hb0
          exact hb0
      · rw [hmf t0 ht0 hgt0, w5, hWV]
    refine ⟨mB x y aim d t0, ⟨t0, ht0, ht0m, rfl⟩, fun t ht hH => ?_, ?_⟩
    · obtain ⟨d1, d2, d3, d4⟩ := hmem t ht hH
      exact ⟨d1, by omega, d3, d4⟩
    · rw [htot]
      show kap + ks aim T k = mB x y aim d t0 + (ks aim T k + (if T k = true then kg aim k else 0))
      rw [if_neg (by rw [hT]; decide)]
      omega
