/-- the place of colour c in a code of four places, the first weighing most -/
def cdP (cd c : Nat) : Nat := cd / 4 ^ (3 - c) % 4
def cdO (a b c d : Nat) : Nat := 64 * a + 16 * b + 4 * c + d
def stb (p c : Nat) : Nat := if p = 0 then 0 else 4096 * 2 ^ c + (if p = 1 then 2 ^ c else if p = 2 then 16 * 2 ^ c else 256 * 2 ^ c)
/-- the step of a code -/
def stC (cd : Nat) : Nat := stb (cdP cd 0) 0 + stb (cdP cd 1) 1 + stb (cdP cd 2) 2 + stb (cdP cd 3) 3
def g1 (p : Nat) : Nat := if p = 1 then 1 else 0
def gN (cd : Nat) : Nat := g1 (cdP cd 0) + g1 (cdP cd 1) + g1 (cdP cd 2) + g1 (cdP cd 3)
def gok (cd : Nat) : Bool := !(gN cd == 1) && !(gN cd == 2)
def bt2 (x c : Nat) : Nat := x / 2 ^ c % 2
def rD (s c : Nat) : Nat := bt2 s c + 2 * bt2 (s / 16) c
def rS (s : Nat) : Nat := rD s 0 + 4 * rD s 1 + 16 * rD s 2 + 64 * rD s 3
def mkN (s u : Nat) : Nat := (rS s * 5 + 0) * 3 + u
def cmp4 (r p : Nat) : Bool := if p = 3 then decide (0 < r) else (r == 0 || r == 3)
def onB (r on : Nat) : Bool := if on = 1 then decide (0 < r) else (r == 0 || r == 3)
theorem cc_on : ∀ s, s < 256 → ∀ on, on < 16 → c_cc s on = (onB (rD s 0) (bt2 on 0) && onB (rD s 1) (bt2 on 1) && onB (rD s 2) (bt2 on 2) && onB (rD s 3) (bt2 on 3)) := by decide +kernel
theorem cd_co : ∀ cd, cd < 256 → ∀ c, c < 4 → bt2 (t_co (stC cd)) c = if cdP cd c = 3 then 1 else 0 := by decide +kernel
theorem cd_be : ∀ cd, cd < 256 → ∀ c, c < 4 → bt2 (t_be (stC cd)) c = if cdP cd c = 2 then 1 else 0 := by decide +kernel
theorem cd_gr : ∀ cd, cd < 256 → ∀ c, c < 4 → bt2 (t_gr (stC cd)) c = if cdP cd c = 1 then 1 else 0 := by decide +kernel
theorem cd_sh : ∀ cd, cd < 256 → ∀ c, c < 4 → bt2 (t_sh (stC cd)) c = if cdP cd c = 0 then 0 else 1 := by decide +kernel
theorem cd_P : ∀ a, a < 4 → ∀ b, b < 4 → ∀ c, c < 4 → ∀ d, d < 4 → cdP (cdO a b c d) 0 = a ∧ cdP (cdO a b c d) 1 = b ∧ cdP (cdO a b c d) 2 = c ∧ cdP (cdO a b c d) 3 = d := by decide +kernel
theorem cdO_lt {a b c d : Nat} (ha : a < 4) (hb : b < 4) (hc : c < 4) (hd : d < 4) : cdO a b c d < 256 := by unfold cdO; omega
theorem cdP_lt (cd c : Nat) : cdP cd c < 4 := Nat.mod_lt _ (by decide)
theorem cd_O : ∀ cd, cd < 256 → cdO (cdP cd 0) (cdP cd 1) (cdP cd 2) (cdP cd 3) = cd := by decide +kernel
theorem af_bt : ∀ b, b < 16 → ∀ c, c < 16 → ∀ h, h < 16 → ∀ i, i < 4 → rD ((b ||| (c &&& h)) ||| (c * 16)) i = if bt2 c i = 1 then (if bt2 b i = 1 then 3 else 2 + bt2 h i) else bt2 b i := by decide +kernel
theorem bt2_lt (x c : Nat) : bt2 x c < 2 := Nat.mod_lt _ (by decide)
theorem rD_lt (s c : Nat) : rD s c < 4 := by have := bt2_lt s c; have := bt2_lt (s / 16) c; unfold rD; omega
theorem rS_lt (s : Nat) : rS s < 256 := by
  have := rD_lt s 0; have := rD_lt s 1; have := rD_lt s 2; have := rD_lt s 3
  unfold rS; omega
theorem onB_cmp (r p : Nat) : onB r (if p = 3 then 1 else 0) = cmp4 r p := by
  unfold onB cmp4
  by_cases h : p = 3
  · rw [if_pos h, if_pos h, if_pos rfl]
  · rw [if_neg h, if_neg h, if_neg (by decide)]
/-- what a state allows, colour by colour -/
theorem cc_cd {s cd : Nat} (hs : s < 256) (hc : cd < 256) : c_cc s (t_co (stC cd)) = (cmp4 (rD s 0) (cdP cd 0) && cmp4 (rD s 1) (cdP cd 1) && cmp4 (rD s 2) (cdP cd 2) && cmp4 (rD s 3) (cdP cd 3)) := by
  rw [cc_on s hs _ (t_co_lt _), cd_co cd hc 0 (by decide), cd_co cd hc 1 (by decide), cd_co cd hc 2 (by decide), cd_co cd hc 3 (by decide), onB_cmp, onB_cmp, onB_cmp, onB_cmp]
theorem op_bt {r l h p : Nat} (hl : l < 2) (hh : h < 2) (hr : r = l + 2 * h) (hp : p < 4) (hc : cmp4 r p = true) : (if (if p = 3 then 1 else 0) = 1 then (if (if p = 2 then 1 else 0) = 1 then 3 else 2 + h) else (if p = 2 then 1 else 0)) = opN r p := by
  subst hr
  have h1 : l = 0 ∨ l = 1 := by omega
  have h2 : h = 0 ∨ h = 1 := by omega
  have h3 : p = 0 ∨ p = 1 ∨ p = 2 ∨ p = 3 := by omega
  rcases h1 with rfl | rfl <;> rcases h2 with rfl | rfl <;> rcases h3 with rfl | rfl | rfl | rfl <;> first | rfl | exact absurd hc (by decide)
theorem af_cd {s cd c : Nat} (hs : s < 256) (hc : cd < 256) (hc4 : c < 4) (hok : cmp4 (rD s c) (cdP cd c) = true) : rD (c_af s (stC cd)) c = opN (rD s c) (cdP cd c) := by
  unfold c_af
  rw [af_bt _ (t_be_lt _) _ (t_co_lt _) _ (by omega) c hc4, cd_co cd hc c hc4, cd_be cd hc c hc4]
  exact op_bt (bt2_lt s c) (bt2_lt _ c) rfl (cdP_lt cd c) hok
/-- the reference's mark behind a card, by the mark's parts -/
def bgS (R c g u o : Nat) : Option Nat := if c = 3 then (if g = 1 then none else if g = 2 then none else some ((setR R c o * 5 + 0) * 3 + u)) else some ((setR R c o * 5 + g) * 3 + u)
theorem cmp_c {r p : Nat} (hr : r < 4) (hp : p < 4) : (cmp4 r p = true) ↔ ((p = 3 ↔ 0 < r) ∨ (¬ p = 3 ∧ 3 ≤ r)) := by
  have h1 : r = 0 ∨ r = 1 ∨ r = 2 ∨ r = 3 := by omega
  have h3 : p = 0 ∨ p = 1 ∨ p = 2 ∨ p = 3 := by omega
  rcases h1 with rfl | rfl | rfl | rfl <;> rcases h3 with rfl | rfl | rfl | rfl <;> decide
theorem bh_st {R g u k p : Nat} {b : Bool} (hg : g < 5) (hu : u < 3) (hp : p < 4) : bhN ((R * 5 + g) * 3 + u) k p b = if 2 < u + bN b then none else if cmp4 (R / 2 ^ (2 * (k % 4)) % 4) p = true then bgS R (k % 4) (g + g1 p) (u + bN b) (opN (R / 2 ^ (2 * (k % 4)) % 4) p) else none := by
  have e1 : ((R * 5 + g) * 3 + u) / 15 = R := by omega
  have e2 : igN ((R * 5 + g) * 3 + u) = g := by unfold igN; omega
  have e3 : jkM ((R * 5 + g) * 3 + u) = u := by unfold jkM; omega
  have e4 : rnN ((R * 5 + g) * 3 + u) (k % 4) = R / 2 ^ (2 * (k % 4)) % 4 := by unfold rnN; rw [e1]
  have e5 : (if p = 1 then g + 1 else g) = g + g1 p := by unfold g1; split <;> rfl
  have hrl : R / 2 ^ (2 * (k % 4)) % 4 < 4 := Nat.mod_lt _ (by decide)
  have e6 : ∀ o, bgN ((R * 5 + g) * 3 + u) (k % 4) (g + g1 p) (u + bN b) o = bgS R (k % 4) (g + g1 p) (u + bN b) o := by
    intro o; unfold bgN bgS beN; rw [e1]
  unfold bhN
  rw [e2, e3, e4, e5, e6]
  generalize R / 2 ^ (2 * (k % 4)) % 4 = r at hrl ⊢
  have hc := cmp_c hrl hp
  by_cases h1 : 2 < u + bN b
  · rw [if_pos h1, if_pos h1]
  · rw [if_neg h1, if_neg h1]
    by_cases h2 : (p = 3 ↔ 0 < r)
    · rw [if_pos h2, if_pos (hc.mpr (Or.inl h2))]
    · rw [if_neg h2]
      by_cases h3 : p = 3
      · rw [if_pos h3, if_neg (fun z => by rcases hc.mp z with h | h; exact h2 h; exact h.1 h3)]
      · rw [if_neg h3]
        by_cases h4 : 3 ≤ r
        · rw [if_pos h4, if_pos (hc.mpr (Or.inr ⟨h3, h4⟩))]
        · rw [if_neg h4, if_neg (fun z => by rcases hc.mp z with h | h; exact h2 h; exact h4 h.2)]
