theorem cN_ge {x : Int64} {d k m t q : Nat} (hk : 51 - d = k) (hq : q < 4) (ho : bN (hsB x k) ≤ q) (hb : bhN m k q (joW x k q) = some t) : cN x d t ≤ cN x (d + 1) m := by
  subst hk
  rw [cN_s]
  have h := sm_ge (f := fun q => if okW x (51 - d) q = true then 1 * cO 0 (cN x d) (bhN m (51 - d) (q % 4) (joW x (51 - d) q)) else 0) hq
  refine Nat.le_trans (Nat.le_of_eq ?_) h
  show cN x d t = if okW x (51 - d) q = true then 1 * cO 0 (cN x d) (bhN m (51 - d) (q % 4) (joW x (51 - d) q)) else 0
  rw [if_pos (show okW x (51 - d) q = true from decide_eq_true ho), Nat.mod_eq_of_lt hq, hb, Nat.one_mul]
  rfl
/-- a lower place that leads on is against the choice of the first -/
theorem gr_no {x : Int64} {w : Nat → Int64} {k m p q t : Nat} (hx : isS x) (hW : WaysEq x w) (hk : k < 52) (hm : m < 3840) (hg : igN m ≤ k % 4) (hz : ∀ q, bN (hsB x k) ≤ q → q < p → trm x w k m q = 0) (ho : bN (hsB x k) ≤ q) (hb : bhN m k q (joW x k q) = some t) (hc : ¬ cN x (51 - k) t = 0) (hlt : q < p) : False := by
  have h1 := hz q ho hlt
  rw [trm_some (show bhN m k q (decide (0 < q) && !hsB x k) = some t from hb)] at h1
  obtain ⟨g1, g2⟩ := bhN_good hm hg hb
  have h2 := W_nz hx hW (d := 51 - k) (m := t) (by omega) g1 (by rw [show 52 - (51 - k) = k + 1 by omega]; exact g2)
  rw [show 52 - (51 - k) = k + 1 by omega] at h2
  exact hc (h2.mp h1)
theorem st_lt {i : Nat} : ∀ j, i + j + 1 < 94 → cdT (stT i) < cdT (stT (i + j + 1))
  | 0, h => st_inc i (by omega)
  | j + 1, h => Nat.lt_trans (st_lt j (by omega)) (st_inc (i + j + 1) (by omega))
theorem lex4 {a b c d a' b' c' d' : Nat} (hb : b < 4) (hc : c < 4) (hd : d < 4) (hb' : b' < 4) (hc' : c' < 4) (hd' : d' < 4) (h : cdO a b c d < cdO a' b' c' d') : a < a' ∨ (a = a' ∧ (b < b' ∨ (b = b' ∧ (c < c' ∨ (c = c' ∧ d < d'))))) := by
  unfold cdO at h
  omega
theorem ch4_some {m n p0 p1 p2 p3 t : Nat} {b0 b1 b2 b3 : Bool} (h : ch4 m n p0 p1 p2 p3 b0 b1 b2 b3 = some t) : ∃ m1 m2 m3, bhN m (4 * n) p0 b0 = some m1 ∧ bhN m1 (4 * n + 1) p1 b1 = some m2 ∧ bhN m2 (4 * n + 2) p2 b2 = some m3 ∧ bhN m3 (4 * n + 3) p3 b3 = some t := by
  unfold ch4 at h
  cases h0 : bhN m (4 * n) p0 b0 with
  | none => rw [h0] at h; cases h
  | some m1 =>
    rw [h0, Option.bind_some] at h
    cases h1 : bhN m1 (4 * n + 1) p1 b1 with
    | none => rw [h1] at h; cases h
    | some m2 =>
      rw [h1, Option.bind_some] at h
      cases h2 : bhN m2 (4 * n + 2) p2 b2 with
      | none => rw [h2] at h; cases h
      | some m3 =>
        rw [h2, Option.bind_some] at h
        exact ⟨m1, m2, m3, rfl, h1, h2, h⟩
theorem ok4_of {x : Int64} {n p0 p1 p2 p3 : Nat} : ok4 (okW x) n p0 p1 p2 p3 = true ↔ bN (hsB x (4 * n)) ≤ p0 ∧ bN (hsB x (4 * n + 1)) ≤ p1 ∧ bN (hsB x (4 * n + 2)) ≤ p2 ∧ bN (hsB x (4 * n + 3)) ≤ p3 := by
  unfold ok4 okW
  rw [Bool.and_eq_true, Bool.and_eq_true, Bool.and_eq_true, decide_eq_true_iff, decide_eq_true_iff, decide_eq_true_iff, decide_eq_true_iff]
  exact ⟨fun h => ⟨h.1.1.1, h.1.1.2, h.1.2, h.2⟩, fun h => ⟨⟨⟨h.1, h.2.1⟩, h.2.2.1⟩, h.2.2.2⟩⟩
theorem chS_of {s u cd t r : Nat} : chS s u cd t = some r ↔ (c_cc s (t_co (stC cd)) = true ∧ gok cd = true ∧ u + t ≤ 2) ∧ r = mkN (c_af s (stC cd)) (u + t) := by
  unfold chS
  by_cases h : (c_cc s (t_co (stC cd)) && gok cd) = true ∧ u + t ≤ 2
  · rw [if_pos h]
    obtain ⟨h1, h2⟩ := h
    rw [Bool.and_eq_true] at h1
    exact ⟨fun z => ⟨⟨h1.1, h1.2, h2⟩, (Option.some.inj z).symm⟩, fun z => by rw [z.2]⟩
  · rw [if_neg h]
    constructor
    · intro z; exact absurd z (by intro y; cases y)
    · intro z
      exact absurd ⟨by rw [z.1.1, z.1.2.1]; rfl, z.1.2.2⟩ h
theorem gr_num {x : Int64} {w : Nat → Int64} {pf sf : Nat → Int32} {mk : Nat → Nat} {n s u j : Nat} (hx : isS x) (hW : WaysEq x w) (hn : n < 13) (hG : ∀ k, k < 52 → GR x w pf sf mk k) (hs : s < 256) (hj : u + j = jkN x) (hm : mk (4 * n) = mkN s u) : ∃ i, i < 94 ∧ fstI (tryN x (12 - n) s j) 94 = i ∧ costN (nd x n) (stT i) ≤ j ∧ mk (4 * (n + 1)) = mkN (c_af s (stT i)) (u + costN (nd x n) (stT i)) ∧ ∀ c, c < 4 → pf (4 * n + c) = nI (cdP (cdT (stT i)) c) ∧ sf (4 * n + c) = nI (bN (decide (0 < cdP (cdT (stT i)) c) && !hsB x (4 * n + c))) := by
  have hj2 := jkN_le x
  have hu : u < 3 := by omega
  obtain ⟨m0, g0, p0, l0, o0, a0, s0, b0, w0, z0⟩ := hG (4 * n) (by omega)
  obtain ⟨m1, g1, p1, l1, o1, a1, s1, b1, w1, z1⟩ := hG (4 * n + 1) (by omega)
  obtain ⟨m2, g2, p2, l2, o2, a2, s2, b2, w2, z2⟩ := hG (4 * n + 2) (by omega)
  obtain ⟨m3, g3, p3, l3, o3, a3, s3, b3, w3, z3⟩ := hG (4 * n + 3) (by omega)
  rw [hm] at b0
  have hch : ch4 (mkN s u) n p0 p1 p2 p3 (joW x (4 * n) p0) (joW x (4 * n + 1) p1) (joW x (4 * n + 2) p2) (joW x (4 * n + 3) p3) = some (mk (4 * n + 4)) := by
    unfold ch4 joW
    rw [b0, Option.bind_some, b1, Option.bind_some, b2, Option.bind_some]
    exact b3
  have hcd := cdO_lt l0 l1 l2 l3
  obtain ⟨q0, q1, q2, q3⟩ := cd_P p0 l0 p1 l1 p2 l2 p3 l3
  have hjo := jo4_W (x := x) (n := n) hcd
  have hok := ok4_W (x := x) (n := n) hcd
  rw [q0, q1, q2, q3] at hjo hok
  have hneed := ok4_of.mpr ⟨o0, o1, o2, o3⟩
  rw [hok] at hneed
  rw [ch4_eq hs hu l0 l1 l2 l3] at hch
  rw [show bN (joW x (4 * n) p0) + bN (joW x (4 * n + 1) p1) + bN (joW x (4 * n + 2) p2) + bN (joW x (4 * n + 3) p3) = costN (nd x n) (stC (cdO p0 p1 p2 p3)) from hjo] at hch
  obtain ⟨⟨hcc, hgk, hc2⟩, hmk4⟩ := chS_of.mp hch
  obtain ⟨hi, hci⟩ := st_P _ hcd hgk
  generalize hI : stP (cdO p0 p1 p2 p3) = i at hi hci
  have hst : stC (cdO p0 p1 p2 p3) = stT i := by rw [← hci]; exact (st_cd i hi).2.2
  rw [hst] at hcc hc2 hmk4 hneed
  have hd : 52 - 4 * (12 - n) = 4 * n + 4 := by omega
  have hW4 : ∀ m, m < 3840 → igN m = 0 → (w (3840 * (4 * n + 4) + m) = 0 ↔ cN x (4 * (12 - n)) m = 0) := by
    intro m h1 h2
    have := W_nz hx hW (d := 4 * (12 - n)) (m := m) (by omega) h1 (by omega)
    rw [hd] at this
    exact this
  have hmkl := mk_lt (s := c_af s (stT i)) (u := u + costN (nd x n) (stT i)) (by omega)
  have hc4 : ¬ cN x (4 * (12 - n)) (mkN (c_af s (stT i)) (u + costN (nd x n) (stT i))) = 0 := by
    rw [← hW4 _ hmkl.1 hmkl.2, ← hmk4]; exact w3
  have hcj : costN (nd x n) (stT i) ≤ j := by
    by_cases z : costN (nd x n) (stT i) ≤ j
    · exact z
    · exact absurd (cN_over (12 - n) (by omega) _ (c_af_lt hs) _ (by omega) (by omega)) hc4
  have hnn : 12 - (12 - n) = n := by omega
  have htry : tryN x (12 - n) s j i = true := by
    unfold tryN
    rw [hnn, Bool.and_eq_true]
    exact ⟨okN_and.mpr ⟨hneed, hcc, hcj⟩, (feas_cN (12 - n) (by omega) _ (c_af_lt hs) _ _ (by omega)).mpr hc4⟩
  have hmin : ∀ k, k < i → tryN x (12 - n) s j k = false := by
    intro k hk
    cases ht : tryN x (12 - n) s j k with
    | false => rfl
    | true =>
      exfalso
      unfold tryN at ht
      rw [hnn, Bool.and_eq_true] at ht
      obtain ⟨t1, t2⟩ := ht
      obtain ⟨n1, n2, n3⟩ := okN_and.mp t1
      have t3 := (feas_cN (12 - n) (by omega) _ (c_af_lt hs) (u + costN (nd x n) (stT k)) _ (by omega)).mp t2
      obtain ⟨k1, k2, k3⟩ := st_cd k (by omega)
      have hcd2 : cdT (stT k) < cdT (stT i) := by
        have := st_lt (i := k) (i - k - 1) (by omega)
        rw [show k + (i - k - 1) + 1 = i by omega] at this
        exact this
      rw [hci, ← cd_O _ k1] at hcd2
      have hjo2 := jo4_W (x := x) (n := n) k1
      have hok2 := ok4_W (x := x) (n := n) k1
      rw [k3] at hjo2 hok2
      rw [n1] at hok2
      obtain ⟨r0, r1, r2, r3⟩ := ok4_of.mp hok2
      have e0 := cdP_lt (cdT (stT k)) 0
      have e1 := cdP_lt (cdT (stT k)) 1
      have e2 := cdP_lt (cdT (stT k)) 2
      have e3 := cdP_lt (cdT (stT k)) 3
      have hch2 : ch4 (mkN s u) n (cdP (cdT (stT k)) 0) (cdP (cdT (stT k)) 1) (cdP (cdT (stT k)) 2) (cdP (cdT (stT k)) 3) (joW x (4 * n) (cdP (cdT (stT k)) 0)) (joW x (4 * n + 1) (cdP (cdT (stT k)) 1)) (joW x (4 * n + 2) (cdP (cdT (stT k)) 2)) (joW x (4 * n + 3) (cdP (cdT (stT k)) 3)) = some (mkN (c_af s (stT k)) (u + costN (nd x n) (stT k))) := by
        rw [ch4_eq hs hu e0 e1 e2 e3, cd_O _ k1]
        refine chS_of.mpr ?_
        rw [show bN (joW x (4 * n) (cdP (cdT (stT k)) 0)) + bN (joW x (4 * n + 1) (cdP (cdT (stT k)) 1)) + bN (joW x (4 * n + 2) (cdP (cdT (stT k)) 2)) + bN (joW x (4 * n + 3) (cdP (cdT (stT k)) 3)) = costN (nd x n) (stT k) from hjo2, k3]
        exact ⟨⟨n2, k2, by omega⟩, rfl⟩
      generalize cdP (cdT (stT k)) 0 = c0 at *
      generalize cdP (cdT (stT k)) 1 = c1 at *
      generalize cdP (cdT (stT k)) 2 = c2 at *
      generalize cdP (cdT (stT k)) 3 = c3 at *
      obtain ⟨y1, y2, y3, f0, f1, f2, f3⟩ := ch4_some hch2
      have v3 := cN_ge (d := 4 * (12 - n)) (k := 4 * n + 3) (by omega) e3 r3 f3
      have v2 := cN_ge (d := 4 * (12 - n) + 1) (k := 4 * n + 2) (by omega) e2 r2 f2
      have v1 := cN_ge (d := 4 * (12 - n) + 2) (k := 4 * n + 1) (by omega) e1 r1 f1
      have x3 : ¬ cN x (4 * (12 - n) + 1) y3 = 0 := by omega
      have x2 : ¬ cN x (4 * (12 - n) + 2) y2 = 0 := by
        have v2' : cN x (4 * (12 - n) + 1) y3 ≤ cN x (4 * (12 - n) + 2) y2 := v2
        omega
      have x1 : ¬ cN x (4 * (12 - n) + 3) y1 = 0 := by
        have v1' : cN x (4 * (12 - n) + 2) y2 ≤ cN x (4 * (12 - n) + 3) y1 := v1
        omega
      have d0 : 51 - 4 * n = 4 * (12 - n) + 3 := by omega
      have d1 : 51 - (4 * n + 1) = 4 * (12 - n) + 2 := by omega
      have d2 : 51 - (4 * n + 2) = 4 * (12 - n) + 1 := by omega
      have d3 : 51 - (4 * n + 3) = 4 * (12 - n) := by omega
      rw [hm] at m0 g0 z0
      rcases lex4 e1 e2 e3 l1 l2 l3 hcd2 with z | ⟨z, z' | ⟨z', z'' | ⟨z'', z'''⟩⟩⟩
      · exact gr_no hx hW (by omega) m0 g0 z0 r0 f0 (by rw [d0]; exact x1) z
      · subst z
        have i1 : y1 = mk (4 * n + 1) := Option.some.inj (f0.symm.trans b0)
        subst i1
        exact gr_no hx hW (by omega) m1 g1 z1 r1 f1 (by rw [d1]; exact x2) z'
      · subst z; subst z'
        have i1 : y1 = mk (4 * n + 1) := Option.some.inj (f0.symm.trans b0)
        subst i1
        have i2 : y2 = mk (4 * n + 2) := Option.some.inj (f1.symm.trans b1)
        subst i2
        exact gr_no hx hW (by omega) m2 g2 z2 r2 f2 (by rw [d2]; exact x3) z''
      · subst z; subst z'; subst z''
        have i1 : y1 = mk (4 * n + 1) := Option.some.inj (f0.symm.trans b0)
        subst i1
        have i2 : y2 = mk (4 * n + 2) := Option.some.inj (f1.symm.trans b1)
        subst i2
        have i3 : y3 = mk (4 * n + 3) := Option.some.inj (f2.symm.trans b2)
        subst i3
        exact gr_no hx hW (by omega) m3 g3 z3 r3 f3 (by rw [d3]; exact t3) z'''
  refine ⟨i, hi, fstI_of htry hmin hi, hcj, hmk4, fun c hc => ?_⟩
  rw [hci]
  have h4 : c = 0 ∨ c = 1 ∨ c = 2 ∨ c = 3 := by omega
  rcases h4 with rfl | rfl | rfl | rfl
  · rw [q0]; exact ⟨a0, s0⟩
  · rw [q1]; exact ⟨a1, s1⟩
  · rw [q2]; exact ⟨a2, s2⟩
  · rw [q3]; exact ⟨a3, s3⟩
/-- the places, number by number, are those of the first layout -/
def plP (x : Int64) (pf sf : Nat → Int32) (n : Nat) : Prop := (∃ i, i < 94 ∧ pathN x 13 0 (jkN x) n = stT i) ∧ ∀ c, c < 4 → pf (4 * n + c) = nI (cdP (cdT (pathN x 13 0 (jkN x) n)) c) ∧ sf (4 * n + c) = nI (bN (decide (0 < cdP (cdT (pathN x 13 0 (jkN x) n)) c) && !hsB x (4 * n + c)))
theorem gr_path {x : Int64} {w : Nat → Int64} {pf sf : Nat → Int32} {mk : Nat → Nat} (hx : isS x) (hW : WaysEq x w) (h0 : mk 0 = 0) (hG : ∀ k, k < 52 → GR x w pf sf mk k) : ∀ n, n ≤ 13 → ∃ s u j, s < 256 ∧ u + j = jkN x ∧ mk (4 * n) = mkN s u ∧ (∀ k, n ≤ k → pathN x 13 0 (jkN x) k = pathN x (13 - n) s j k) ∧ ∀ k, k < n → plP x pf sf k
  | 0, _ => ⟨0, 0, jkN x, by decide, Nat.zero_add _, h0, fun _ _ => rfl, fun k hk => absurd hk (Nat.not_lt_zero k)⟩
  | n + 1, hn => by
    obtain ⟨s, u, j, hs, hj, hm, hp, hd⟩ := gr_path hx hW h0 hG n (by omega)
    obtain ⟨i, hi, hf, hc, hm4, hpl⟩ := gr_num hx hW (by omega) hG hs hj hm
    have e1 : 13 - n = (12 - n) + 1 := by omega
    have e2 : 12 - (12 - n) = n := by omega
    have hpn : pathN x 13 0 (jkN x) n = stT i := by
      rw [hp n (Nat.le_refl n), e1]
      show (if n = 12 - (12 - n) then _ else _) = _
      rw [e2, if_pos rfl, hf]
    refine ⟨c_af s (stT i), u + costN (nd x n) (stT i), j - costN (nd x n) (stT i), c_af_lt hs, by omega, hm4, fun k hk => ?_, fun k hk => ?_⟩
    · rw [hp k (by omega), e1, show 13 - (n + 1) = 12 - n by omega]
      show (if k = 12 - (12 - n) then _ else _) = _
      rw [if_neg (by omega), e2, hf]
    · rcases Nat.lt_succ_iff_lt_or_eq.mp hk with z | z
      · exact hd k z
      · subst z
        refine ⟨⟨i, hi, hpn⟩, ?_⟩
        rw [hpn]; exact hpl
theorem ways_feas {x : Int64} {w : Nat → Int64} (hx : isS x) (hW : WaysEq x w) : ¬ w 0 = 0 ↔ feasN x 13 0 (jkN x) = true := by
  have h := W_nz hx hW (d := 52) (m := 0) (by decide) (by decide) (by decide)
  have h2 := feas_cN (x := x) 13 (by decide) 0 (by decide) 0 (jkN x) (Nat.zero_add _)
  have h3 : w 0 = 0 ↔ cN x 52 0 = 0 := h
  rw [h3]
  exact h2.symm
theorem ways_path {x : Int64} {w : Nat → Int64} {pf sf : Nat → Int32} {mk : Nat → Nat} (hx : isS x) (hW : WaysEq x w) (h0 : mk 0 = 0) (hG : ∀ k, k < 52 → GR x w pf sf mk k) : ∀ n, n < 13 → plP x pf sf n := by
  obtain ⟨_, _, _, _, _, _, _, h⟩ := gr_path hx hW h0 hG 13 (by decide)
  exact h
