/-- the greatest, with sums: 0 is nothing, 1 + a is a -/
def muT (a b : Nat) : Nat := if a = 0 then 0 else if b = 0 then 0 else a + b - 1
theorem muT_0 (a : Nat) : muT a 0 = 0 := by unfold muT; split <;> rfl
theorem muT_1 (a : Nat) : muT 1 a = a := by unfold muT; rw [if_neg (by decide)]; split <;> omega
theorem Sr_T : Sr (fun a b : Nat => max a b) muT 0 := ⟨Mo_max, fun a b c => by
    show muT a (max b c) = max (muT a b) (muT a c)
    unfold muT; repeat' split
    all_goals omega, fun a b c => by
    show muT (max a b) c = max (muT a c) (muT b c)
    unfold muT; repeat' split
    all_goals omega, muT_0, fun a => rfl, fun a b c => by
    show muT (muT a b) c = muT a (muT b c)
    unfold muT; repeat' split
    all_goals omega⟩
def gv (aim : Int32) (k : Nat) : Nat := if aim = 0 then 1 else if k / 4 ≤ 8 then k / 4 + 1 else 10
def gj (aim : Int32) : Nat := if aim = 0 then 1 else 20
theorem gv_le (aim : Int32) (k : Nat) : 1 ≤ gv aim k ∧ gv aim k ≤ 10 := by unfold gv; split <;> (try split) <;> omega
theorem gj_le (aim : Int32) : 1 ≤ gj aim ∧ gj aim ≤ 20 := by unfold gj; split <;> omega
theorem wo_8 : ∀ k, k < 52 → j_X8_worthOf (nI k) = nI (if k / 4 ≤ 8 then k / 4 + 1 else 10) := by decide +kernel
theorem gain_8 {aim : Int32} {k : Nat} (hk : k < 52) : j_X8_gain (nI k) aim = nI (gv aim k) := by
  unfold j_X8_gain gv
  by_cases h : aim = 0
  · rw [if_pos h, if_pos h]; rfl
  · rw [if_neg h, if_neg h]; exact wo_8 k hk
theorem gain_52 (aim : Int32) : j_X8_gain 52 aim = nI (gj aim) := by
  unfold j_X8_gain gj
  by_cases h : aim = 0
  · rw [if_pos h, if_pos h]; rfl
  · rw [if_neg h, if_neg h]; decide
/-- what a card taken adds to the key -/
def kg (aim : Int32) (k : Nat) : Nat := 2 ^ 53 * gv aim k + 2 ^ (52 - k)
def okB (x y : Int64) (k q : Nat) : Bool := if q / 4 = 1 then (decide (0 < q % 4) && (hsB x k || hsB y k)) else !hsB x k
def joB (_ q : Nat) : Bool := if q / 4 = 1 then false else decide (0 < q % 4)
def vaB (y : Int64) (aim : Int32) (k q : Nat) : Nat := if q / 4 = 1 ∧ hsB y k = true then 1 + kg aim k else 1
def bB (x y : Int64) (aim : Int32) (m : Nat) : Nat := if j_X8_isWhole (nI m) = 0 then 0 else if jkM m < jkN x then 0 else if jkN y < jkM m - jkN x then 0 else 1 + 2 ^ 53 * ((jkM m - jkN x) * gj aim)
/-- the greatest key, card by card -/
def mB (x y : Int64) (aim : Int32) : Nat → Nat → Nat := gC (fun a b : Nat => max a b) muT 0 8 (okB x y) joB (vaB y aim) (bB x y aim)
def tB (x y : Int64) (aim : Int32) (d m q : Nat) : Nat := if okB x y (51 - d) q = true then muT (vaB y aim (51 - d) q) (cO 0 (mB x y aim d) (bhN m (51 - d) (q % 4) (joB (51 - d) q))) else 0
theorem mB_s (x y : Int64) (aim : Int32) (d m : Nat) : mB x y aim (d + 1) m = mxF (tB x y aim d m) 8 := rfl
/-- a key's form: its value and its bits -/
def Bd (d b : Nat) : Prop := b = 0 ∨ ∃ V c, b = 1 + 2 ^ 53 * V + c ∧ V ≤ 10 * d + 40 ∧ c + 2 ≤ 2 ^ (d + 1)
theorem Bd_max {d a b : Nat} (ha : Bd d a) (hb : Bd d b) : Bd d (max a b) := by
  rcases Nat.le_total a b with h | h
  · rw [Nat.max_eq_right h]; exact hb
  · rw [Nat.max_eq_left h]; exact ha
theorem Bd_fd {d : Nat} {f : Nat → Nat} : ∀ n, (∀ i, i < n → Bd d (f i)) → Bd d (mxF f n)
  | 0, _ => Or.inl rfl
  | n + 1, h => Bd_max (Bd_fd n (fun i hi => h i (by omega))) (h n (by omega))
theorem Bd_s {d b : Nat} (h : Bd d b) : Bd (d + 1) b := by
  rcases h with z | ⟨V, c, h1, h2, h3⟩
  · exact Or.inl z
  · exact Or.inr ⟨V, c, h1, by omega, by rw [Nat.pow_succ]; omega⟩
theorem Bd_kg {d b : Nat} {aim : Int32} (hd : d < 52) (h : Bd d b) : Bd (d + 1) (muT (1 + kg aim (51 - d)) b) := by
  unfold muT
  rw [if_neg (by omega)]
  rcases h with z | ⟨V, c, h1, h2, h3⟩
  · rw [if_pos z]; exact Or.inl rfl
  · have hg := gv_le aim (51 - d)
    rw [if_neg (by omega)]
    refine Or.inr ⟨V + gv aim (51 - d), c + 2 ^ (d + 1), ?_, by omega, by rw [Nat.pow_succ 2 (d + 1)]; omega⟩
    unfold kg
    rw [h1, show 52 - (51 - d) = d + 1 by omega]
    generalize 2 ^ (d + 1) = C
    generalize gv aim (51 - d) = G
    omega
theorem bB_Bd (x y : Int64) (aim : Int32) (m : Nat) : Bd 0 (bB x y aim m) := by
  unfold bB
  split
  · exact Or.inl rfl
  · split
    · exact Or.inl rfl
    · split
      · exact Or.inl rfl
      · refine Or.inr ⟨(jkM m - jkN x) * gj aim, 0, (Nat.add_zero _).symm, ?_, by decide⟩
        have h1 := jkM_lt m
        have h2 := (gj_le aim).2
        have h3 : (jkM m - jkN x) * gj aim ≤ 2 * 20 := Nat.mul_le_mul (by omega) h2
        omega
theorem mB_Bd (x y : Int64) (aim : Int32) : ∀ d, d ≤ 52 → ∀ m, Bd d (mB x y aim d m)
  | 0, _, m => bB_Bd x y aim m
  | d + 1, hd, m => by
    rw [mB_s]
    refine Bd_fd 8 (fun q _ => ?_)
    unfold tB
    split
    · have hc : Bd d (cO 0 (mB x y aim d) (bhN m (51 - d) (q % 4) (joB (51 - d) q))) := by
        cases bhN m (51 - d) (q % 4) (joB (51 - d) q) with
        | none => exact Or.inl rfl
        | some t => exact mB_Bd x y aim d (by omega) t
      unfold vaB
      split
      · exact Bd_kg (by omega) hc
      · rw [muT_1]; exact Bd_s hc
    · exact Or.inl rfl
/-- the value of a key -/
def vO (b : Nat) : Int32 := if b = 0 then -1 else nI ((b - 1) / 2 ^ 53)
theorem vO_pos {d b : Nat} (hd : d ≤ 52) (h : Bd d b) (hb : ¬ b = 0) : ∃ V c, b = 1 + 2 ^ 53 * V + c ∧ V ≤ 560 ∧ c + 2 ≤ 2 ^ (d + 1) ∧ c < 2 ^ 53 ∧ vO b = nI V := by
  rcases h with z | ⟨V, c, h1, h2, h3⟩
  · exact absurd z hb
  · have hc : c < 2 ^ 53 := by
      have : 2 ^ (d + 1) ≤ 2 ^ 53 := Nat.pow_le_pow_right (by decide) (by omega)
      omega
    refine ⟨V, c, h1, by omega, h3, hc, ?_⟩
    unfold vO
    rw [if_neg hb, h1]
    congr 1
    omega
theorem nI_m1 {a : Nat} (h : a < 2 ^ 31) : ¬ nI a = -1 := by
  intro z
  have q2 := congrArg Int32.toInt z
  rw [nI_toInt h, show (-1 : Int32).toInt = -1 from by decide] at q2
  omega
theorem vO_no {d b : Nat} (hd : d ≤ 52) (h : Bd d b) : vO b = -1 ↔ b = 0 := by
  refine ⟨fun z => ?_, fun z => by unfold vO; rw [if_pos z]⟩
  by_cases hb : b = 0
  · exact hb
  · obtain ⟨V, c, _, h2, _, _, h5⟩ := vO_pos hd h hb
    rw [h5] at z
    exact absurd z (nI_m1 (by omega))
theorem mx_m1 {V : Nat} (h : V < 2 ^ 31) : mx32 (-1) (nI V) = nI V ∧ mx32 (nI V) (-1) = nI V ∧ mx32 (-1) (-1) = -1 := by
  have hl : ∀ {a b : Int32}, a < b ↔ a.toInt < b.toInt := fun {a b} => by first | exact Int32.lt_iff_toInt_lt | exact Iff.rfl
  have h1 : (-1 : Int32) < nI V := by rw [hl, nI_toInt h, show (-1 : Int32).toInt = -1 from by decide]; omega
  have h2 : ¬ nI V < (-1 : Int32) := by rw [hl, nI_toInt h, show (-1 : Int32).toInt = -1 from by decide]; omega
  unfold mx32
  rw [if_pos h1, if_neg h2]
  exact ⟨rfl, rfl, by decide⟩
theorem vO_max {d a b : Nat} (hd : d ≤ 52) (ha : Bd d a) (hb : Bd d b) : vO (max a b) = mx32 (vO a) (vO b) := by
  by_cases za : a = 0
  · subst za
    rw [Nat.zero_max]
    by_cases zb : b = 0
    · subst zb; exact (by decide : vO 0 = mx32 (vO 0) (vO 0))
    · obtain ⟨V, c, _, h2, _, _, h5⟩ := vO_pos hd hb zb
      rw [h5]; exact (mx_m1 (V := V) (by omega)).1.symm
  · obtain ⟨V, c, h1, h2, _, h4, h5⟩ := vO_pos hd ha za
    by_cases zb : b = 0
    · subst zb
      rw [Nat.max_zero, h5]; exact (mx_m1 (V := V) (by omega)).2.1.symm
    · obtain ⟨W, e, k1, k2, _, k4, k5⟩ := vO_pos hd hb zb
      rw [h5, k5]
      unfold mx32
      by_cases z : V < W
      · rw [if_pos (nI_lt z (by omega)), Nat.max_eq_right (by omega), k5]
      · rw [if_neg (nI_nlt (by omega) (by omega))]
        rcases Nat.le_total a b with q | q
        · rw [Nat.max_eq_right q, k5]
          congr 1; omega
        · rw [Nat.max_eq_left q, h5]
theorem vO_kg {d b k : Nat} {aim : Int32} (hd : d < 52) (hk : k = 51 - d) (h : Bd d b) : vO (muT (1 + kg aim k) b) = if vO b = -1 then vO b else vO b + nI (gv aim k) := by
  by_cases zb : b = 0
  · subst zb
    rw [muT_0, if_pos ((vO_no (by omega) h).mpr rfl)]
  · obtain ⟨V, c, h1, h2, h3, h4, h5⟩ := vO_pos (by omega) h zb
    have hg := gv_le aim k
    rw [if_neg (fun z => zb ((vO_no (by omega) h).mp z)), h5, nI_add]
    unfold muT
    rw [if_neg (by omega), if_neg zb]
    unfold vO
    rw [if_neg (by omega)]
    congr 1
    have hp : c + 2 ^ (52 - k) < 2 ^ 53 := by
      have e : 2 ^ (52 - k) = 2 ^ (d + 1) := by rw [hk]; congr 1; omega
      have : 2 ^ (d + 1 + 1) ≤ 2 ^ 53 := Nat.pow_le_pow_right (by decide) (by omega)
      rw [Nat.pow_succ] at this
      omega
    unfold kg
    rw [h1]
    generalize 2 ^ (52 - k) = C at hp ⊢
    omega
theorem aft_vO {x y : Int64} {aim : Int32} {mf : Nat → Int32} {d k m p : Nat} {b : Bool} (hk : k = 51 - d) (hd : d < 52) (hm : m < 3840) (hg : igN m ≤ k % 4) (ih : ∀ t, t < 3840 → igN t ≤ (52 - d) % 4 → mf (3840 * (52 - d) + t) = vO (mB x y aim d t)) : aftM mf k (bhN m k p b) = vO (cO 0 (mB x y aim d) (bhN m k p b)) := by
  cases ht : bhN m k p b with
  | none => rfl
  | some t =>
    obtain ⟨g1, g2⟩ := bhN_good hm hg ht
    have e : 52 - d = k + 1 := by omega
    have := ih t g1 (by rw [e]; exact g2)
    rw [e] at this
    exact this
theorem M_mB {x y : Int64} {aim : Int32} {mf : Nat → Int32} (hx : isS x) (hy : isS y) (hM : MostEq x y aim mf) : ∀ d, d ≤ 52 → ∀ m, m < 3840 → igN m ≤ (52 - d) % 4 → mf (3840 * (52 - d) + m) = vO (mB x y aim d m)
  | 0, _, m, hm, _ => by
    refine (hM.1 m hm).trans ?_
    show _ = vO (bB x y aim m)
    unfold baseM bB
    have h1 := jkM_lt m
    have h2 := jkN_le x
    have h3 := jkN_le y
    have h4 := gj_le aim
    by_cases z : j_X8_isWhole (nI m) = 0
    · rw [if_pos z, if_pos z]; rfl
    · rw [if_neg z, if_neg z, jb_jk hm, jk_8 hx, jk_8 hy]
      by_cases z2 : jkM m < jkN x
      · have hq : ∀ a, a < 3 → ∀ b, b < 3 → a < b → nI a - nI b < 0 := by decide
        rw [if_pos z2, if_pos (hq _ h1 _ (by omega) z2)]; rfl
      · rw [if_neg z2, pk_sub (by omega), if_neg (show ¬ nI (jkM m - jkN x) < 0 from nI_nlt (a := jkM m - jkN x) (b := 0) (Nat.zero_le _) (by omega))]
        by_cases z3 : jkN y < jkM m - jkN x
        · rw [if_pos z3, if_pos (nI_lt z3 (by omega))]; rfl
        · rw [if_neg z3, if_neg (nI_nlt (by omega) (by omega)), gain_52, pk_mul]
          unfold vO
          rw [if_neg (by omega)]
          congr 1
          omega
  | d + 1, hd, m, hm, hg => by
    have ih := M_mB hx hy hM d (by omega)
    have e1 : 52 - (d + 1) = 51 - d := by omega
    rw [e1] at hg ⊢
    rw [hM.2 (51 - d) (by omega) m hm, mB_s]
    have hB : ∀ q, Bd (d + 1) (tB x y aim d m q) := by
      intro q
      unfold tB
      split
      · have hc : Bd d (cO 0 (mB x y aim d) (bhN m (51 - d) (q % 4) (joB (51 - d) q))) := by
          cases bhN m (51 - d) (q % 4) (joB (51 - d) q) with
          | none => exact Or.inl rfl
          | some t => exact mB_Bd x y aim d (by omega) t
        unfold vaB
        split
        · exact Bd_kg (by omega) hc
        · rw [muT_1]; exact Bd_s hc
      · exact Or.inl rfl
    have hA : ∀ p b, aftM mf (51 - d) (bhN m (51 - d) p b) = vO (cO 0 (mB x y aim d) (bhN m (51 - d) p b)) := fun p b => aft_vO rfl (by omega) hm hg ih
    have hC : ∀ p b, Bd d (cO 0 (mB x y aim d) (bhN m (51 - d) p b)) := by
      intro p b
      cases bhN m (51 - d) p b with
      | none => exact Or.inl rfl
      | some t => exact mB_Bd x y aim d (by omega) t
    have hO : ∀ p, p < 4 → vO (tB x y aim d m p) = rkO x mf (51 - d) m p := by
      intro p hp
      unfold tB rkO okB vaB joB
      rw [show p / 4 = 0 by omega, Nat.mod_eq_of_lt hp, if_neg (show ¬ (0 : Nat) = 1 by decide), if_neg (show ¬ ((0 : Nat) = 1 ∧ hsB y (51 - d) = true) from fun z => absurd z.1 (by decide)), if_neg (show ¬ (0 : Nat) = 1 by decide), muT_1, hA]
      cases hsB x (51 - d) with
      | false => rfl
      | true => rfl
    have hI : ∀ p, p < 4 → vO (tB x y aim d m (4 + p)) = rkI x y aim mf (51 - d) m p := by
      intro p hp
      unfold tB rkI rkA okB vaB joB
      rw [show (4 + p) / 4 = 1 by omega, show (4 + p) % 4 = p by omega, hA, if_pos (Eq.refl 1), if_pos (Eq.refl 1)]
      by_cases z : (decide (0 < p) && (hsB x (51 - d) || hsB y (51 - d))) = true
      · rw [if_pos z, if_pos z]
        by_cases z2 : hsB y (51 - d) = true
        · rw [if_pos ⟨rfl, z2⟩, if_pos z2, vO_kg (by omega) rfl (hC p false), gain_8 (by omega)]
        · rw [if_neg (fun q => z2 q.2), if_neg z2, muT_1]
          split <;> rfl
      · rw [if_neg z, if_neg z, if_pos rfl]; rfl
    have h8 : mxF (tB x y aim d m) 8 = mxF (fun p => max (tB x y aim d m (4 + p)) (tB x y aim d m p)) 4 := by
      show fd (fun a b : Nat => max a b) 0 (tB x y aim d m) 8 = _
      rw [show (8 : Nat) = 4 + 4 from rfl, fd_add Mo_max]
      refine Eq.trans ?_ (fd_op (f := fun p => tB x y aim d m (4 + p)) (g := fun p => tB x y aim d m p) Mo_max 4).symm
      exact Nat.max_comm _ _
    rw [h8]
    have hr : ∀ n, n ≤ 4 → rkF x y aim mf (51 - d) m n = vO (mxF (fun p => max (tB x y aim d m (4 + p)) (tB x y aim d m p)) n) := by
      intro n hn
      induction n with
      | zero => rfl
      | succ n ihn =>
        show mx32 (rkF x y aim mf (51 - d) m n) (mx32 (rkI x y aim mf (51 - d) m n) (rkO x mf (51 - d) m n)) = vO (max (mxF (fun p => max (tB x y aim d m (4 + p)) (tB x y aim d m p)) n) (max (tB x y aim d m (4 + n)) (tB x y aim d m n)))
        rw [vO_max (by omega) (Bd_fd n (fun i _ => Bd_max (hB _) (hB _))) (Bd_max (hB _) (hB _)), vO_max (by omega) (hB _) (hB _), hI n (by omega), hO n (by omega), ihn (by omega)]
    exact hr 4 (Nat.le_refl 4)
