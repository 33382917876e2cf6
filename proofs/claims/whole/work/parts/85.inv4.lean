theorem end_step {np tp tn : Nat} {la idl ov : Int32} {ly : Int64} {hf hf8 : Nat → Int64} {of of8 pf cf : Nat → Int32} (hG : GI np tp tn ly idl ov hf pf) (hE : GE np tn hf hf8 of of8) (hp : ∀ k, k < 54 → pf k = cf k) (hn : 0 < np) (ho : ov = 0) : GI np (eT_top la tp) ((tn + 1) % np) ly (eT_idle la idl (eT_card la tp pf)) (if eT_idle la idl (eT_card la tp pf) < nI np then 0 else 1) (vp_updL hf tn (hf tn ||| j_X1_bitOf (eT_card la tp pf))) pf ∧ GE np ((tn + 1) % np) (vp_updL hf tn (hf tn ||| j_X1_bitOf (eT_card la tp pf))) (eN_hf la tp tn hf8 cf) of of8 ∧ (if eT_idle la idl (eT_card la tp cf) = nI np then (1 : Int32) else 0) = (if eT_idle la idl (eT_card la tp pf) < nI np then 0 else 1) := by
  obtain ⟨g1, g2, g3, g4, _⟩ := hG.2.2.2 hn
  have ht : (tn + 1) % np < np := Nat.mod_lt _ hn
  refine ⟨GI_end hG hn ho, fun q hq => ?_, ?_⟩
  · have hqn : q < np := by rcases hq with w | w <;> omega
    exact ⟨end_hd hG hE hp hn q hqn, (hE q (Or.inl hqn)).2⟩
  · obtain ⟨i, hi, ei⟩ := g4 ho
    rw [← eT_eq (la := la) (tp := tp) hp, ei]
    obtain ⟨j, hj, ej⟩ := idle_n (la := la) (cd := eT_card la tp pf) hi g1
    rw [ej]
    exact (ov_eq hj g1).symm
/-- what is the same behind a turn's end -/
def TS (np : Nat) (ly : Int64) (hf hf8 : Nat → Int64) (of of8 pf : Nat → Int32) (idl ov top turn : Int32) : Prop := ∃ tp tn, top = nI tp ∧ turn = nI tn ∧ GI np tp tn ly idl ov hf pf ∧ GE np tn hf hf8 of of8
theorem end_c {np tp tn : Nat} {ly : Int64} {idl ov lay te st7 st8 r7 r8 : Int32} {hf hf8 h2 h28 : Nat → Int64} {of of8 pf cf : Nat → Int32} {top7 turn7 te7 la7 id7 ov7 dr8 py8 tu8 la8 ps8 io8 : Int32} (hG : GI np tp tn ly idl ov hf pf) (hE : GE np tn hf hf8 of of8) (hp : ∀ k, k < 54 → pf k = cf k)
  (h7 : st7 = endW (igF np) ov ∧ (¬ endW (igF np) ov = 0 → r7 = -1 ∧ top7 = nI tp ∧ turn7 = nI tn ∧ te7 = te ∧ la7 = lay ∧ id7 = idl ∧ ov7 = ov ∧ h2 = hf) ∧ (endW (igF np) ov = 0 → r7 = eT_card lay tp pf ∧ top7 = nI (eT_top lay tp) ∧ turn7 = nI (if tn + 1 < np then tn + 1 else 0) ∧ te7 = te + 1 ∧ la7 = 0 ∧ id7 = eT_idle lay idl (eT_card lay tp pf) ∧ ov7 = (if eT_idle lay idl (eT_card lay tp pf) < nI np then 0 else 1) ∧ h2 = vp_updL hf tn (hf tn ||| j_X1_bitOf (eT_card lay tp pf))))
  (h8 : st8 = endW (igF np) ov ∧ (¬ endW (igF np) ov = 0 → r8 = -1 ∧ dr8 = nI tp ∧ py8 = nI tn ∧ tu8 = te ∧ la8 = lay ∧ ps8 = idl ∧ io8 = ov ∧ h28 = hf8) ∧ (endW (igF np) ov = 0 → r8 = eT_card lay tp cf ∧ dr8 = nI (eT_top lay tp) ∧ py8 = nI ((tn + 1) % np) ∧ tu8 = te + 1 ∧ la8 = 0 ∧ ps8 = eT_idle lay idl (eT_card lay tp cf) ∧ io8 = (if eT_idle lay idl (eT_card lay tp cf) = nI np then 1 else 0) ∧ h28 = eN_hf lay tp tn hf8 cf)) : r7 = r8 ∧ st7 = st8 ∧ dr8 = top7 ∧ py8 = turn7 ∧ tu8 = te7 ∧ la8 = la7 ∧ ps8 = id7 ∧ io8 = ov7 ∧ TS np ly h2 h28 of of8 pf id7 ov7 top7 turn7 := by
  by_cases z : endW (igF np) ov = 0
  · obtain ⟨c1, c2⟩ := end_z z
    have hn := ig_np c1
    obtain ⟨s1, s2, s3⟩ := end_step (la := lay) hG hE hp hn c2
    obtain ⟨a1, a2, a3, a4, a5, a6, a7, a8⟩ := h7.2.2 z
    obtain ⟨b1, b2, b3, b4, b5, b6, b7, b8⟩ := h8.2.2 z
    have htn := (hG.2.2.2 hn).2.1
    rw [tn_next htn] at a3
    refine ⟨by rw [a1, b1]; exact eT_eq hp, h7.1.trans h8.1.symm, by rw [a2, b2], by rw [a3, b3], by rw [a4, b4], by rw [a5, b5], by rw [a6, b6, eT_eq hp], by rw [a7, b7]; exact s3, eT_top lay tp, (tn + 1) % np, a2, a3, ?_, ?_⟩
    · rw [a6, a7, a8]; exact s1
    · rw [a8, b8]; exact s2
  · obtain ⟨a1, a2, a3, a4, a5, a6, a7, a8⟩ := h7.2.1 z
    obtain ⟨b1, b2, b3, b4, b5, b6, b7, b8⟩ := h8.2.1 z
    refine ⟨by rw [a1, b1], h7.1.trans h8.1.symm, by rw [a2, b2], by rw [a3, b3], by rw [a4, b4], by rw [a5, b5], by rw [a6, b6], by rw [a7, b7], tp, tn, a2, a3, ?_, ?_⟩
    · rw [a6, a7, a8]; exact hG
    · rw [a8, b8]; exact hE
theorem rob_z {aim ig io : Int32} (h : robW aim ig io = 0) : (aim = 0 ∨ aim = 1) ∧ endW ig io = 0 := by
  by_cases z : aim = 0 ∨ aim = 1
  · rw [rob_e z] at h; exact ⟨z, h⟩
  · rw [rob_1 z] at h; exact absurd h (by decide)
theorem rob_c {np tp tn : Nat} {ly : Int64} {aim op idl ov lay te win st7 st8 r7 r8 : Int32} {hf hf8 h2 h28 : Nat → Int64} {of of8 o2 o28 pf cf : Nat → Int32} {own own2 ly2 tb2 : Int64} {sf sf2 p8 s8 p82 s82 : Nat → Int32} {top7 turn7 te7 la7 id7 ov7 wn7 dr8 py8 tu8 la8 ps8 io8 wn8 : Int32} (hG : GI np tp tn ly idl ov hf pf) (hE : GE np tn hf hf8 of of8) (hp : ∀ k, k < 54 → pf k = cf k) (hL : LR own p8 s8 sf)
  (h7 : st7 = robW aim (igF np) ov ∧ (¬ robW aim (igF np) ov = 0 → r7 = -1 ∧ own2 = own ∧ sf2 = sf ∧ ly2 = ly ∧ la7 = lay ∧ ov7 = ov ∧ wn7 = win ∧ h2 = hf ∧ o2 = of ∧ top7 = nI tp ∧ turn7 = nI tn ∧ te7 = te ∧ id7 = idl) ∧ (robW aim (igF np) ov = 0 → ∃ k, rbE aim op tn (ly, hf tn, of tn, lay, ov, win, (0 : Int32)) (rbIt aim tn (ly, hf tn, of tn, lay, ov, win, (0 : Int32)) k) k ∧ rob7 np tp tn k (rbIt aim tn (ly, hf tn, of tn, lay, ov, win, (0 : Int32)) k) r7 te idl hf of pf own own2 sf sf2 ly2 la7 ov7 wn7 te7 id7 turn7 top7 h2 o2))
  (h8 : st8 = robW aim (igF np) ov ∧ (¬ robW aim (igF np) ov = 0 → r8 = -1 ∧ tb2 = ly ∧ la8 = lay ∧ io8 = ov ∧ wn8 = win ∧ tu8 = te ∧ ps8 = idl ∧ py8 = nI tn ∧ dr8 = nI tp ∧ h28 = hf8 ∧ o28 = of8 ∧ p82 = p8 ∧ s82 = s8) ∧ (robW aim (igF np) ov = 0 → ∃ k, rbE aim op tn (ly, hf8 tn, of8 tn, lay, ov, win, (0 : Int32)) (rbIt aim tn (ly, hf8 tn, of8 tn, lay, ov, win, (0 : Int32)) k) k ∧ robP aim op np tp tn k (rbIt aim tn (ly, hf8 tn, of8 tn, lay, ov, win, (0 : Int32)) k) r8 te idl hf8 of8 cf p8 s8 tb2 la8 io8 wn8 tu8 ps8 py8 dr8 h28 o28 p82 s82)) : r7 = r8 ∧ st7 = st8 ∧ tb2 = ly2 ∧ la8 = la7 ∧ io8 = ov7 ∧ wn8 = wn7 ∧ tu8 = te7 ∧ ps8 = id7 ∧ py8 = turn7 ∧ dr8 = top7 ∧ TS np ly2 h2 h28 o2 o28 pf id7 ov7 top7 turn7 ∧ LR own2 p82 s82 sf2 := by
  by_cases z : robW aim (igF np) ov = 0
  · obtain ⟨haim, z2⟩ := rob_z z
    obtain ⟨c1, c2⟩ := end_z z2
    have hn := ig_np c1
    obtain ⟨k, e7, A1, A2, A3, A4, A5, A6, A7⟩ := h7.2.2 z
    obtain ⟨k', e8, B1, B2, B3, B4, B5, B6, B7⟩ := h8.2.2 z
    obtain ⟨q1, q2⟩ := hE tn (Or.inr rfl)
    rw [← q1, ← q2] at e8 B1 B2 B3 B4 B5 B6 B7
    have hk := (rb_uniq e7 e8).1
    subst hk
    have hGk := GI_rb (of := of) (la := lay) (wn := win) haim hG k e7.1
    have hEk := GE_lay (V := rHd (rbIt aim tn (ly, hf tn, of tn, lay, ov, win, (0 : Int32)) k)) (o := rOp (rbIt aim tn (ly, hf tn, of tn, lay, ov, win, (0 : Int32)) k)) hE
    generalize rbIt aim tn (ly, hf tn, of tn, lay, ov, win, (0 : Int32)) k = F at A1 A2 A3 A4 A5 A6 A7 B1 B2 B3 B4 B5 B6 B7 hGk hEk
    have hLR : LR own2 p82 s82 sf2 := by
      rcases Nat.eq_zero_or_pos k with w | w
      · obtain ⟨x1, x2⟩ := A5.1 w
        rw [x1, x2]; exact ⟨hL.1, hL.2.1, hL.2.2.1, pl_keep hL.2.2.2 (B5.1 w)⟩
      · obtain ⟨x1, x2⟩ := A5.2 w
        obtain ⟨y1, y2⟩ := B5.2 w
        rw [x1]; exact ⟨hGk.2.1, y1, x2, y2⟩
    by_cases y : rIo F = 0
    · obtain ⟨a1, a2, a3, a4, a5, a6, a7⟩ := A7 y
      obtain ⟨b1, b2, b3, b4, b5, b6, b7⟩ := B7 y
      obtain ⟨s1, s2, s3⟩ := end_step (la := rLa F) hGk hEk hp hn y
      have htn := (hG.2.2.2 hn).2.1
      rw [tn_next htn] at a3
      refine ⟨by rw [A1, B1], h7.1.trans h8.1.symm, by rw [A2, B2], by rw [a1, b1], by rw [a6, b6]; exact s3, by rw [A3, B3], by rw [a4, b4], by rw [a5, b5, eT_eq hp], by rw [a3, b3], by rw [a2, b2], ⟨eT_top (rLa F) tp, (tn + 1) % np, a2, a3, ?_, ?_⟩, hLR⟩
      · rw [A2, a5, a6, a7]; exact s1
      · rw [a7, b7, A4, B4]; exact s2
    · obtain ⟨a1, a2, a3, a4, a5, a6, a7⟩ := A6 y
      obtain ⟨b1, b2, b3, b4, b5, b6, b7⟩ := B6 y
      refine ⟨by rw [A1, B1], h7.1.trans h8.1.symm, by rw [A2, B2], by rw [a2, b2], by rw [a1, b1], by rw [A3, B3], by rw [a6, b6], by rw [a7, b7], by rw [a5, b5], by rw [a4, b4], ⟨tp, tn, a4, a5, ?_, ?_⟩, hLR⟩
      · rw [A2, a1, a3, a7]; exact hGk
      · rw [a3, b3, A4, B4]; exact hEk
  · obtain ⟨a1, a2, a3, a4, a5, a6, a7, a8, a9, a10, a11, a12, a13⟩ := h7.2.1 z
    obtain ⟨b1, b2, b3, b4, b5, b6, b7, b8, b9, b10, b11, b12, b13⟩ := h8.2.1 z
    refine ⟨by rw [a1, b1], h7.1.trans h8.1.symm, by rw [a4, b2], by rw [a5, b3], by rw [a6, b4], by rw [a7, b5], by rw [a12, b6], by rw [a13, b7], by rw [a11, b8], by rw [a10, b9], ⟨tp, tn, a10, a11, ?_, ?_⟩, ?_⟩
    · rw [a4, a6, a8, a13]; exact hG
    · rw [a8, a9, b10, b11]; exact hE
    · rw [a2, a3, b12, b13]; exact hL
