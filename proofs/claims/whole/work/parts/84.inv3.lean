theorem ig_z {np : Nat} : igF np = 0 ↔ nI np ≤ 0 := by
  unfold igF
  by_cases z : nI np ≤ 0
  · rw [if_pos z]; exact ⟨fun _ => z, fun _ => rfl⟩
  · rw [if_neg z]; exact ⟨fun h => absurd h (by decide), fun h => absurd h z⟩
theorem tell_c {np : Nat} {tp tn te lay ov win w : Int32} : j_tell7 np tp tn te lay ov win w = j_tell8 (igF np) tn tp ov win te lay (nI np) w := by
  unfold j_tell7 j_tell8 j_fact
  by_cases h0 : w < 0
  · rw [if_pos h0, if_pos h0]
  · rw [if_neg h0, if_neg h0]
    by_cases h1 : w ≤ 6
    · rw [if_pos h1, if_pos h1]
      by_cases h2 : nI np ≤ 0
      · rw [if_pos h2, if_pos (ig_z.mpr h2)]
      · rw [if_neg h2, if_neg (fun z => h2 (ig_z.mp z))]
    · rw [if_neg h1, if_neg h1]
theorem tab_c {np : Nat} {ly : Int64} : (if nI np ≤ 0 then ((4 : Int32), (-1 : Int64)) else (0, ly)) = if igF np = 0 then (4, -1) else (0, ly) := by
  by_cases h2 : nI np ≤ 0
  · rw [if_pos h2, if_pos (ig_z.mpr h2)]
  · rw [if_neg h2, if_neg (fun z => h2 (ig_z.mp z))]
theorem has_c {np j : Nat} (hj : j < 2 ^ 31) (h4 : np ≤ 4) : j_has np (nI j) = if j < np then 1 else 0 := by
  unfold j_has
  rw [if_neg (nI_pos hj)]
  by_cases z : j < np
  · rw [if_neg (nI_ge z (by omega)), if_neg (show ¬ (4 : Int32) ≤ nI j from nI_ge (b := 4) (by omega) (by decide)), if_pos z]
  · rw [if_pos (nI_le (by omega) hj), if_neg z]
theorem hand_c {np tn : Nat} {hf hf8 : Nat → Int64} {of of8 : Nat → Int32} {p : Int32} (h4 : 0 < np → np ≤ 4) (hE : GE np tn hf hf8 of of8) : j_hand7 np hf p = j_hand (igF np) (nI np) hf8 p := by
  unfold j_hand7 j_hand
  by_cases h0 : p < 0
  · rw [if_pos h0, if_pos h0]
  · rw [if_neg h0, if_neg h0]
    obtain ⟨j, hj, rfl⟩ := nI_of h0
    have e : (nI j < 4) = (nI j ≤ 3) := by
      rw [show (4 : Int32) = nI 4 from rfl, show (3 : Int32) = nI 3 from rfl, nI_ltI hj (by decide), nI_leI hj (by decide)]
      exact propext ⟨fun h => by omega, fun h => by omega⟩
    by_cases h1 : nI j ≤ 3
    · rw [if_pos (by rw [e]; exact h1), if_pos h1]
      by_cases h2 : nI np ≤ 0
      · rw [if_pos h2, if_pos (ig_z.mpr h2)]
      · have hn : 0 < np := ig_np (fun z => h2 (ig_z.mp z))
        have hn4 := h4 hn
        rw [if_neg h2, if_neg (fun z => h2 (ig_z.mp z)), has_c hj hn4]
        by_cases z : j < np
        · rw [if_pos z, if_neg (by decide), if_pos (nI_lt z (by omega)), nI_clamp hj, (hE j (Or.inl z)).1]
        · rw [if_neg z, if_pos rfl, if_neg (nI_nlt (by omega) hj)]
    · rw [if_neg (by rw [e]; exact h1), if_neg h1]
theorem plr_c {np tp tn : Nat} {ly : Int64} {idl ov : Int32} {pf : Nat → Int32} {hf hf8 : Nat → Int64} {of of8 : Nat → Int32} {p w : Int32} (hG : GI np tp tn ly idl ov hf pf) (hE : GE np tn hf hf8 of of8) : j_plr7 np hf of p w = j_plr8 (igF np) (nI np) hf8 of8 p w := by
  unfold j_plr7 j_plr8
  by_cases h0 : w < 0
  · rw [if_pos h0, if_pos h0]
  · rw [if_neg h0, if_neg h0]
    by_cases h1 : w ≤ 2
    · rw [if_pos h1, if_pos h1]
      by_cases h2 : nI np ≤ 0
      · rw [if_pos h2, if_pos (ig_z.mpr h2)]
      · have hn : 0 < np := ig_np (fun z => h2 (ig_z.mp z))
        have hn4 := (hG.2.2.2 hn).1
        rw [if_neg h2, if_neg (fun z => h2 (ig_z.mp z))]
        by_cases h3 : p < 0
        · have hz : j_has np p = 0 := by unfold j_has; rw [if_pos h3]
          rw [if_pos hz, if_pos h3]
        · rw [if_neg h3]
          obtain ⟨j, hj, rfl⟩ := nI_of h3
          rw [has_c hj hn4]
          by_cases z : j < np
          · have hS := (hG.2.2.1 j (Or.inl z)).1
            obtain ⟨e1, e2⟩ := hE j (Or.inl z)
            rw [if_pos z, if_neg (by decide), if_pos (nI_lt z (by omega)), nI_clamp hj, ← e1, ← e2, many_bc hS, worth_S hS]
          · rw [if_neg z, if_pos rfl, if_neg (nI_nlt (by omega) hj)]
    · rw [if_neg h1, if_neg h1]
/-- what laying does to both -/
theorem lay_c {np tp tn : Nat} {ly cards : Int64} {idl ov lay win op st7 st8 r7 r8 : Int32} {hf hf8 h2 h28 : Nat → Int64} {of of8 o2 o28 pf cf : Nat → Int32} {ly2 tb2 : Int64} {la7 la8 ov7 ov8 wn7 wn8 : Int32} {own own2 : Int64} {sf sf2 p8 s8 p82 s82 : Nat → Int32} (hG : GI np tp tn ly idl ov hf pf) (hE : GE np tn hf hf8 of of8) (hL : LR own p8 s8 sf) (h7 : lay7 (layW (igF np) ov (of tn) op (hf tn) ly cards) st7 r7 (nI tn) ly cards lay ov win la7 ov7 wn7 ly2 (hf tn) hf h2 of o2 own own2 sf sf2 tn) (h8 : layP (layW (igF np) ov (of8 tn) op (hf8 tn) ly cards) st8 r8 (nI tn) ly cards lay ov win la8 ov8 wn8 tb2 (hf8 tn) hf8 h28 of8 o28 p8 s8 p82 s82 tn) : r7 = r8 ∧ st7 = st8 ∧ tb2 = ly2 ∧ la8 = la7 ∧ ov8 = ov7 ∧ wn8 = wn7 ∧ GI np tp tn ly2 idl ov7 h2 pf ∧ GE np tn h2 h28 o2 o28 ∧ LR own2 p82 s82 sf2 := by
  obtain ⟨e1, e2⟩ := hE tn (Or.inr rfl)
  rw [← e1, ← e2] at h8
  generalize hw : layW (igF np) ov (of tn) op (hf tn) ly cards = w at h7 h8
  by_cases z : w = 0
  · obtain ⟨a1, a2, a3, a4, a5, a6, a7, a8, a9⟩ := h7.2.2 z
    obtain ⟨b1, b2, b3, b4, b5, b6, b7, b8, b9⟩ := h8.2.2 z
    have hc : isS cards ∧ cards &&& (hf tn ^^^ (-1)) = 0 := by
      rw [z] at hw
      by_cases c1 : isS cards
      · refine ⟨c1, ?_⟩
        by_cases c2 : cards = 0
        · rw [lay_1 (Or.inr c2)] at hw; exact absurd hw (by decide)
        · by_cases c3 : igF np = 0
          · rw [lay_4 c1 c2 c3] at hw; exact absurd hw (by decide)
          · by_cases c4 : ov = 0
            · by_cases c5 : cards &&& (hf tn ^^^ (-1)) = 0
              · exact c5
              · rw [lay_6 c1 c2 c3 c4 c5] at hw; exact absurd hw (by decide)
            · rw [lay_5 c1 c2 c3 c4] at hw; exact absurd hw (by decide)
      · rw [lay_1 (Or.inl c1)] at hw; exact absurd hw (by decide)
    have hS := or_S hG.2.1 hc.1
    refine ⟨by rw [a1, b1, many_bc hS], h7.1.trans h8.1.symm, by rw [a2, b2], by rw [a3, b3], by rw [a4, b4], by rw [a5, b5], ?_, ?_, ?_⟩
    · rw [a2, a6]
      refine GI_lay hG hc.1 (sub_of hc.2) (fun y => ?_)
      rw [a4] at y
      by_cases q : hf tn &&& (cards ^^^ (-1)) = 0
      · rw [if_pos q] at y; exact absurd y (by decide)
      · rw [if_neg q] at y; exact y
    · rw [a6, a7, b6, b7]; exact GE_lay hE
    · rw [a8]; exact ⟨hS, b8, a9, b9⟩
  · obtain ⟨a1, a2, a3, a4, a5, a6, a7, a8, a9⟩ := h7.2.1 z
    obtain ⟨b1, b2, b3, b4, b5, b6, b7, b8⟩ := h8.2.1 z
    refine ⟨by rw [a1, b1], h7.1.trans h8.1.symm, by rw [a2, b2], by rw [a3, b3], by rw [a4, b4], by rw [a5, b5], ?_, ?_, ?_⟩
    · rw [a2, a4, a6]; exact hG
    · rw [a6, a7, b6, b7]; exact hE
    · rw [a8, a9]; exact ⟨hL.1, hL.2.1, hL.2.2.1, pl_keep hL.2.2.2 b8⟩
/-- best of both -/
theorem best_c {x y : Int64} {aim st7 st8 : Int32} {r7 r8 own own2 : Int64} {sf sf2 p8 s8 p82 s82 : Nat → Int32} (hL : LR own p8 s8 sf) (h7 : bst7 x y aim st7 r7 own own2 sf sf2) (h8 : bstP x y aim st8 0 r8 p8 s8 p82 s82) : r7 = r8 ∧ st7 = st8 ∧ LR own2 p82 s82 sf2 := by
  by_cases z : bstW x y aim = 0
  · obtain ⟨b1, b2, b3, b4, b5⟩ := h8.2.2 z
    obtain ⟨a1, a2, a3, a4⟩ := h7.2 z b4
    refine ⟨by rw [a2, b1], by rw [a1, h8.1, z], ?_⟩
    rw [a3]; exact ⟨b3, b4, a4, b5⟩
  · obtain ⟨b1, b2, b3⟩ := h8.2.1 z
    obtain ⟨a1, a2, a3, a4⟩ := h7.1 z
    refine ⟨by rw [a2, b1], by rw [a1, h8.1], ?_⟩
    rw [a3, a4, b2, b3]; exact hL
/-- layout of both -/
theorem layout_c {set own own2 : Int64} {st7 st8 r7 r8 : Int32} {w w2 : Nat → Int64} {sf sf2 p8 s8 p82 s82 : Nat → Int32} (hL : LR own p8 s8 sf) (h7 : (¬ isS set → st7 = 1 ∧ r7 = -1 ∧ own2 = own ∧ sf2 = sf) ∧ (isS set → (¬ fe set = true → st7 = 3 ∧ r7 = -1 ∧ own2 = own ∧ sf2 = sf) ∧ (fe set = true → st7 = 0 ∧ own2 = set ∧ (∀ n, n < 13 → sf2 n = lyF set n) ∧ r7 = j_X2_groups sf2 + j_X2_runs sf2))) (h8 : (¬ isS set → st8 = 1 ∧ r8 = -1 ∧ w2 = w ∧ p82 = p8 ∧ s82 = s8) ∧ (isS set → WaysEq set w2 ∧ (w2 0 = 0 → st8 = 3 ∧ r8 = -1 ∧ p82 = p8 ∧ s82 = s8) ∧ (¬ w2 0 = 0 → st8 = 0 ∧ r8 = j_X8_melds p82 ∧ ∃ mk : Nat → Nat, mk 0 = 0 ∧ ∀ k, k < 52 → GR set w2 p82 s82 mk k))) : r7 = r8 ∧ st7 = st8 ∧ LR own2 p82 s82 sf2 := by
  by_cases hs : isS set
  · obtain ⟨c1, c2, c3⟩ := h8.2 hs
    have hf := ways_feas hs c1
    by_cases z : fe set = true
    · obtain ⟨a1, a2, a3, a4⟩ := (h7.2 hs).2 z
      obtain ⟨b1, b2, mk, b3, b4⟩ := c3 (hf.mpr z)
      have hp := ways_path hs c1 b3 b4
      obtain ⟨s1, s2, _⟩ := st_congr a3
      refine ⟨by rw [a4, b2, lr_melds hp, s1, s2], by rw [a1, b1], ?_⟩
      rw [a2]; exact ⟨hs, z, a3, hp⟩
    · obtain ⟨a1, a2, a3, a4⟩ := (h7.2 hs).1 z
      have w0 : w2 0 = 0 := by
        by_cases q : w2 0 = 0
        · exact q
        · exact absurd (hf.mp q) z
      obtain ⟨b1, b2, b3, b4⟩ := c2 w0
      refine ⟨by rw [a2, b2], by rw [a1, b1], ?_⟩
      rw [a3, a4, b3, b4]; exact hL
  · obtain ⟨a1, a2, a3, a4⟩ := h7.1 hs
    obtain ⟨b1, b2, _, b3, b4⟩ := h8.1 hs
    refine ⟨by rw [a2, b2], by rw [a1, b1], ?_⟩
    rw [a3, a4, b3, b4]; exact hL
