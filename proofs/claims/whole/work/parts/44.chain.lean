theorem setR_dg : ∀ R, R < 256 → ∀ c, c < 4 → ∀ o, o < 4 → ∀ d, d < 4 → setR R c o / 2 ^ (2 * d) % 4 = if d = c then o else R / 2 ^ (2 * d) % 4 := by decide +kernel
theorem dg_all {R : Nat} (h : R < 256) : R = R / 2 ^ (2 * 0) % 4 + 4 * (R / 2 ^ (2 * 1) % 4) + 16 * (R / 2 ^ (2 * 2) % 4) + 64 * (R / 2 ^ (2 * 3) % 4) := by
  show R = R / 1 % 4 + 4 * (R / 4 % 4) + 16 * (R / 16 % 4) + 64 * (R / 64 % 4)
  omega
theorem rS_dg (s : Nat) : ∀ c, c < 4 → rS s / 2 ^ (2 * c) % 4 = rD s c := by
  have := rD_lt s 0; have := rD_lt s 1; have := rD_lt s 2; have := rD_lt s 3
  intro c hc
  have h : c = 0 ∨ c = 1 ∨ c = 2 ∨ c = 3 := by omega
  unfold rS
  rcases h with rfl | rfl | rfl | rfl
  · show _ / 1 % 4 = _; omega
  · show _ / 4 % 4 = _; omega
  · show _ / 16 % 4 = _; omega
  · show _ / 64 % 4 = _; omega
/-- one card, the mark in parts -/
theorem bh_1 {R g u k p c : Nat} {b : Bool} (hk : k % 4 = c) (hg : g < 5) (hu : u < 3) (hp : p < 4) : bhN ((R * 5 + g) * 3 + u) k p b = if u + bN b ≤ 2 ∧ cmp4 (R / 2 ^ (2 * c) % 4) p = true then bgS R c (g + g1 p) (u + bN b) (opN (R / 2 ^ (2 * c) % 4) p) else none := by
  rw [bh_st hg hu hp, hk]
  by_cases h1 : 2 < u + bN b
  · rw [if_pos h1, if_neg (fun z => by omega)]
  · rw [if_neg h1]
    by_cases h2 : cmp4 (R / 2 ^ (2 * c) % 4) p = true
    · rw [if_pos h2, if_pos ⟨by omega, h2⟩]
    · rw [if_neg h2, if_neg (fun z => h2 z.2)]
theorem g1_le (p : Nat) : g1 p ≤ 1 := by unfold g1; split <;> omega
def ch4 (m n p0 p1 p2 p3 : Nat) (b0 b1 b2 b3 : Bool) : Option Nat := (bhN m (4 * n) p0 b0).bind fun m1 => (bhN m1 (4 * n + 1) p1 b1).bind fun m2 => (bhN m2 (4 * n + 2) p2 b2).bind fun m3 => bhN m3 (4 * n + 3) p3 b3
def chS (s u cd : Nat) (t : Nat) : Option Nat := if (c_cc s (t_co (stC cd)) && gok cd) = true ∧ u + t ≤ 2 then some (mkN (c_af s (stC cd)) (u + t)) else none
theorem ch4_eq {s u n p0 p1 p2 p3 : Nat} {b0 b1 b2 b3 : Bool} (hs : s < 256) (hu : u < 3) (h0 : p0 < 4) (h1 : p1 < 4) (h2 : p2 < 4) (h3 : p3 < 4) : ch4 (mkN s u) n p0 p1 p2 p3 b0 b1 b2 b3 = chS s u (cdO p0 p1 p2 p3) (bN b0 + bN b1 + bN b2 + bN b3) := by
  have hge : 0 + g1 p0 + g1 p1 + g1 p2 + g1 p3 = g1 p0 + g1 p1 + g1 p2 + g1 p3 := by omega
  have hue : u + (bN b0 + bN b1 + bN b2 + bN b3) = u + bN b0 + bN b1 + bN b2 + bN b3 := by omega
  have hcd := cdO_lt h0 h1 h2 h3
  obtain ⟨q0, q1, q2, q3⟩ := cd_P p0 h0 p1 h1 p2 h2 p3 h3
  have hcc := cc_cd hs hcd
  have ha := fun c h4 => af_cd (c := c) hs hcd h4
  have a0 := ha 0 (by decide)
  have a1 := ha 1 (by decide)
  have a2 := ha 2 (by decide)
  have a3 := ha 3 (by decide)
  have hgk : gok (cdO p0 p1 p2 p3) = (!(g1 p0 + g1 p1 + g1 p2 + g1 p3 == 1) && !(g1 p0 + g1 p1 + g1 p2 + g1 p3 == 2)) := by unfold gok gN; rw [q0, q1, q2, q3]
  rw [q0, q1, q2, q3] at hcc
  rw [q0] at a0
  rw [q1] at a1
  rw [q2] at a2
  rw [q3] at a3
  have k0 : (4 * n) % 4 = 0 := by omega
  have k1 : (4 * n + 1) % 4 = 1 := by omega
  have k2 : (4 * n + 2) % 4 = 2 := by omega
  have k3 : (4 * n + 3) % 4 = 3 := by omega
  have l0 := g1_le p0
  have l1 := g1_le p1
  have l2 := g1_le p2
  have l3 := g1_le p3
  have hR := rS_lt s
  have d0 := rS_dg s 0 (by decide)
  have d1 := rS_dg s 1 (by decide)
  have d2 := rS_dg s 2 (by decide)
  have d3 := rS_dg s 3 (by decide)
  unfold ch4 mkN
  rw [bh_1 k0 (by decide) hu h0, d0]
  generalize hAF : c_af s (stC (cdO p0 p1 p2 p3)) = AF at a0 a1 a2 a3
  by_cases c0 : u + bN b0 ≤ 2 ∧ cmp4 (rD s 0) p0 = true
  case neg =>
    rw [if_neg c0, chS, if_neg (fun z => c0 ⟨by omega, by rw [hcc] at z; have := z.1; simp only [Bool.and_eq_true] at this; exact this.1.1.1.1⟩)]; rfl
  rw [if_pos c0]
  have o0 := opN_lt (p := p0) (rD_lt s 0)
  have R1 := setR_lt _ hR 0 (by decide) _ o0
  have D1 := setR_dg _ hR 0 (by decide) _ o0
  have E00 := (D1 0 (by decide)).trans (if_pos rfl)
  have E01 := (D1 1 (by decide)).trans ((if_neg (by decide)).trans d1)
  have E02 := (D1 2 (by decide)).trans ((if_neg (by decide)).trans d2)
  have E03 := (D1 3 (by decide)).trans ((if_neg (by decide)).trans d3)
  clear D1
  show ((some ((setR (rS s) 0 (opN (rD s 0) p0) * 5 + (0 + g1 p0)) * 3 + (u + bN b0))).bind _) = _
  rw [Option.bind_some, bh_1 k1 (by omega) (by omega) h1, E01]
  by_cases c1 : u + bN b0 + bN b1 ≤ 2 ∧ cmp4 (rD s 1) p1 = true
  case neg =>
    rw [if_neg c1, chS, if_neg (fun z => c1 ⟨by omega, by rw [hcc] at z; have := z.1; simp only [Bool.and_eq_true] at this; exact this.1.1.1.2⟩)]; rfl
  rw [if_pos c1]
  generalize setR (rS s) 0 (opN (rD s 0) p0) = Ra at R1 E00 E01 E02 E03 ⊢
  have o1 := opN_lt (p := p1) (rD_lt s 1)
  have R2 := setR_lt _ R1 1 (by decide) _ o1
  have D2 := setR_dg _ R1 1 (by decide) _ o1
  have E10 := (D2 0 (by decide)).trans ((if_neg (by decide)).trans E00)
  have E11 := (D2 1 (by decide)).trans (if_pos rfl)
  have E12 := (D2 2 (by decide)).trans ((if_neg (by decide)).trans E02)
  have E13 := (D2 3 (by decide)).trans ((if_neg (by decide)).trans E03)
  clear D2
  show ((some ((setR Ra 1 (opN (rD s 1) p1) * 5 + (0 + g1 p0 + g1 p1)) * 3 + (u + bN b0 + bN b1))).bind _) = _
  rw [Option.bind_some, bh_1 k2 (by omega) (by omega) h2, E12]
  by_cases c2 : u + bN b0 + bN b1 + bN b2 ≤ 2 ∧ cmp4 (rD s 2) p2 = true
  case neg =>
    rw [if_neg c2, chS, if_neg (fun z => c2 ⟨by omega, by rw [hcc] at z; have := z.1; simp only [Bool.and_eq_true] at this; exact this.1.1.2⟩)]; rfl
  rw [if_pos c2]
  generalize setR Ra 1 (opN (rD s 1) p1) = Rb at R2 E10 E11 E12 E13 ⊢
  have o2 := opN_lt (p := p2) (rD_lt s 2)
  have R3 := setR_lt _ R2 2 (by decide) _ o2
  have D3 := setR_dg _ R2 2 (by decide) _ o2
  have E20 := (D3 0 (by decide)).trans ((if_neg (by decide)).trans E10)
  have E21 := (D3 1 (by decide)).trans ((if_neg (by decide)).trans E11)
  have E22 := (D3 2 (by decide)).trans (if_pos rfl)
  have E23 := (D3 3 (by decide)).trans ((if_neg (by decide)).trans E13)
  clear D3
  show ((some ((setR Rb 2 (opN (rD s 2) p2) * 5 + (0 + g1 p0 + g1 p1 + g1 p2)) * 3 + (u + bN b0 + bN b1 + bN b2))).bind _) = _
  rw [Option.bind_some, bh_1 k3 (by omega) (by omega) h3, E23]
  by_cases c3 : u + bN b0 + bN b1 + bN b2 + bN b3 ≤ 2 ∧ cmp4 (rD s 3) p3 = true
  case neg =>
    rw [if_neg c3, chS, if_neg (fun z => c3 ⟨by omega, by rw [hcc] at z; have := z.1; simp only [Bool.and_eq_true] at this; exact this.1.2⟩)]
  rw [if_pos c3]
  generalize setR Rb 2 (opN (rD s 2) p2) = Rc at R3 E20 E21 E22 E23 ⊢
  have o3 := opN_lt (p := p3) (rD_lt s 3)
  have R4 := setR_lt _ R3 3 (by decide) _ o3
  have D4 := setR_dg _ R3 3 (by decide) _ o3
  have E30 := (D4 0 (by decide)).trans ((if_neg (by decide)).trans E20)
  have E31 := (D4 1 (by decide)).trans ((if_neg (by decide)).trans E21)
  have E32 := (D4 2 (by decide)).trans ((if_neg (by decide)).trans E22)
  have E33 := (D4 3 (by decide)).trans (if_pos rfl)
  clear D4
  have hccT : c_cc s (t_co (stC (cdO p0 p1 p2 p3))) = true := by rw [hcc, c0.2, c1.2, c2.2, c3.2]; rfl
  have hfin : setR Rc 3 (opN (rD s 3) p3) = rS AF := by
    rw [dg_all R4, E30, E31, E32, E33]
    unfold rS
    rw [a0 c0.2, a1 c1.2, a2 c2.2, a3 c3.2]
  have c31 := c3.1
  clear E00 E01 E02 E03 E10 E11 E12 E13 E20 E21 E22 E23 E30 E31 E32 E33
  rw [chS, hccT, hgk, hAF, hge, hue, bgS, if_pos (Eq.refl 3), hfin]
  clear hfin hge hue
  generalize g1 p0 + g1 p1 + g1 p2 + g1 p3 = gg
  generalize u + bN b0 + bN b1 + bN b2 + bN b3 = uu at c31
  by_cases z1 : gg = 1
  · rw [if_pos z1, if_neg (fun z => absurd z.1 (by rw [z1]; decide))]
  · rw [if_neg z1]
    by_cases z2 : gg = 2
    · rw [if_pos z2, if_neg (fun z => absurd z.1 (by rw [z2]; decide))]
    · have z3 : (gg == 1) = false := by simp [z1]
      have z4 : (gg == 2) = false := by simp [z2]
      rw [if_neg z2, if_pos ⟨by rw [z3, z4]; rfl, c31⟩]
      rfl
