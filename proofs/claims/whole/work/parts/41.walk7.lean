def bwA (aim : Int32) : Int32 := if aim = 1 then 1 else 0
/-- the most jokers that may be used -/
def mjN (x y : Int64) : Nat := if jkN x + jkN y ≤ 2 then jkN x + jkN y else 2
theorem mjN_le (x y : Int64) : mjN x y ≤ 2 := by unfold mjN; split <;> omega
theorem mjN_ge (x y : Int64) : jkN x ≤ mjN x y := by have := jkN_le x; unfold mjN; split <;> omega
/-- the key with the jokers' own value -/
def bpK (bw : Int32) (i : Nat) (k : Int64) : Int64 := k + ((nI i).toInt64 * (if bw = 0 then (1 : Int32) else 20).toInt64) <<< ((53 : Int32).toInt64 &&& 63)
/-- the best key and the jokers added, behind i counts of jokers -/
def bpF (bw : Int32) (ls : Nat) (gk : Nat → Int64) : Nat → Int64 × Int32
  | 0 => (0, 0)
  | i + 1 => if gk (ls + i) = 0 then bpF bw ls gk i else if bpK bw i (gk (ls + i)) ≤ (bpF bw ls gk i).1 then bpF bw ls gk i else (bpK bw i (gk (ls + i)), nI i)
def bpR (bw : Int32) (x y : Int64) (gk : Nat → Int64) : Int64 := if (bpF bw (jkN x) gk (mjN x y - jkN x + 1)).1 = 0 then -1 else j_X6_cardsOfKey (bpF bw (jkN x) gk (mjN x y - jkN x + 1)).1 ||| (fj6 y (bpF bw (jkN x) gk (mjN x y - jkN x + 1)).2 2).2
theorem bp_min {x y : Int64} : (if (2 : Int32) < nI (jkN x) + nI (jkN y) then (2 : Int32) else nI (jkN x) + nI (jkN y)) = nI (mjN x y) := by
  have h1 := jkN_le x
  have h2 := jkN_le y
  rw [nI_add, show (2 : Int32) = nI 2 from rfl]
  unfold mjN
  by_cases h : jkN x + jkN y ≤ 2
  · rw [if_pos h, if_neg (fun q => by rw [nI_ltI (by decide) (by omega)] at q; omega)]
  · rw [if_neg h, if_pos (by rw [nI_ltI (by decide) (by omega)]; omega)]
theorem rowL_ga {htf : Nat → Int32} {hcn : Int32} {v : Nat → Nat → Int64} {a b : Nat} {q p : Nat → Nat} {u : Nat} (h : rowL htf hcn v a q) (h2 : rowL htf hcn v b p) : gaF v u q a = gaF v u p b := by
  obtain ⟨e1, e2, e3, e4, e5⟩ := h
  obtain ⟨f1, f2, f3, f4, f5⟩ := h2
  have hab : a = b := (nI_eq (by omega) (by omega)).mp (e1.symm.trans f1)
  subst hab
  have hq : ∀ i, i < a → q i = p i := fun i hi => (nI_eq (by have := (e3 i hi).1; omega) (by have := (f3 i hi).1; omega)).mp ((e3 i hi).2.symm.trans (f3 i hi).2)
  have : ∀ n, n ≤ a → gaF v u q n = gaF v u p n := by
    intro n
    induction n with
    | zero => intro _; rfl
    | succ n ih => intro hn; simp only [gaF]; rw [ih (by omega), hq n (by omega)]
  exact this a (Nat.le_refl a)
theorem cmp_le {x y : Int64} : lg_cmp x y ≤ 0 ↔ x ≤ y := by
  have h := cmp_gt (x := x) (y := y)
  rw [← Int32.not_lt, h, Int64.not_lt]
theorem bp_sub {a b : Nat} {x y : Int32} (hx : x = nI (a + b)) (hy : y = nI a) (h : a + b < 100) : x - y = nI b := by
  rw [hx, hy, pk_sub (by omega), show a + b - a = b by omega]
set_option maxHeartbeats 4000000 in
set_option maxRecDepth 100000 in
theorem k_X6_bestPart (l : Launch) (D : va_G) (cI cJ cZ : ClassId) (sz : Nat) (wk ws6 fi6 ff6 ga6 ahr atr : Nat) (ft6 jk6 ct6 bw6 un6 : Int32) (mu6 my6 : Int64) (hca hla hta tca tla tta : Nat) (hcn tcn : Int32) (x y : Int64) (ax : Int32) (wsf fif fff : Nat → Int32) (gf hcf tcf : Nat → Int64) (hlf htf tlf ttf : Nat → Int32) (v0 v1 : Nat → Nat → Int64) (hset : isS x) (hsey : isS y) (hws : ∀ i, i < 94 → wsf i = nI (wkT i)) (hf0 : fff 0 = 0) (hrH : RowRep hcf hlf htf hcn v0) (hrT : RowRep tcf tlf ttf tcn v1) : Met l yX6_bestPart wsX6_bestPart ({ frames := 5, cells := 0, slots := 0, locals := 122 } : Room) (va_Pc [.ref wk, .long x, .long y, .int ax] (wM D cI cJ cZ sz [(wk, .inr (4, [.ref ws6, .ref fi6, .ref ff6, .ref ga6, .int ft6, .ref ahr, .ref atr, .long mu6, .long my6, .int jk6, .int ct6, .int bw6, .int un6])), (ws6, .inl (cI, 94, .inl wsf)), (fi6, .inl (cI, 94, .inl fif)), (ff6, .inl (cI, 17, .inl fff)), (ga6, .inl (cJ, 282, .inr (.inl gf))), (ahr, .inr (2, [.ref hca, .ref hla, .ref hta, .int hcn])), (hca, .inl (cJ, 768, .inr (.inl hcf))), (hla, .inl (cZ, 256, .inl hlf)), (hta, .inl (cI, 256, .inl htf)), (atr, .inr (2, [.ref tca, .ref tla, .ref tta, .int tcn])), (tca, .inl (cJ, 768, .inr (.inl tcf))), (tla, .inl (cZ, 256, .inl tlf)), (tta, .inl (cI, 256, .inl ttf))])) (va_Ql (fun (r : Int64) (u : (Nat) × (Nat) × (Nat) × (Nat) × (Nat) × (Nat) × (Nat) × (Nat) × (Int32) × (Int32) × (Int32) × (Int32) × (Nat → Int32) × (Nat → Int32) × (Nat → Int64) × (Nat → Int64) × (Nat → Int32) × (Nat → Int32) × (Nat → Int64) × (Nat → Int32) × (Nat → Int32)) => match u with | (ah2, hc2, hl2, ht2, at2, tc2, tl2, tt2, hcn2, tcn2, ft2, un2, fif2, fff2, gf2, hcf2, hlf2, htf2, tcf2, tlf2, ttf2) => (fff2 0 = 0 ∧ (∃ vt, RowRep tcf2 tlf2 ttf2 tcn2 vt) ∧ ∃ vs : Nat → Nat → Nat → Int64, vs 0 = up2 (fun _ _ => 0) 0 0 1 ∧ (∀ n, n < 13 → rowStep 0 (bwA ax) x y (mjN x y) n (vs n) (vs (n + 1))) ∧ RowRep hcf2 hlf2 htf2 hcn2 (vs 13) ∧ ∃ gk : Nat → Int64, (∀ u, u < 3 → ∃ cL q, rowL htf2 hcn2 (vs 13) cL q ∧ gk u = gaF (vs 13) u q cL) ∧ r = bpR (bwA ax) x y gk)) (fun (u : (Nat) × (Nat) × (Nat) × (Nat) × (Nat) × (Nat) × (Nat) × (Nat) × (Int32) × (Int32) × (Int32) × (Int32) × (Nat → Int32) × (Nat → Int32) × (Nat → Int64) × (Nat → Int64) × (Nat → Int32) × (Nat → Int32) × (Nat → Int64) × (Nat → Int32) × (Nat → Int32)) t => match u with | (ah2, hc2, hl2, ht2, at2, tc2, tl2, tt2, hcn2, tcn2, ft2, un2, fif2, fff2, gf2, hcf2, hlf2, htf2, tcf2, tlf2, ttf2) => wB D (va_A [(wk, .inr (4, [.ref ws6, .ref fi6, .ref ff6, .ref ga6, .int ft6, .ref ahr, .ref atr, .long mu6, .long my6, .int jk6, .int ct6, .int bw6, .int un6])), (ws6, .inl (cI, 94, .inl wsf)), (fi6, .inl (cI, 94, .inl fif)), (ff6, .inl (cI, 17, .inl fff)), (ga6, .inl (cJ, 282, .inr (.inl gf))), (ahr, .inr (2, [.ref hca, .ref hla, .ref hta, .int hcn])), (hca, .inl (cJ, 768, .inr (.inl hcf))), (hla, .inl (cZ, 256, .inl hlf)), (hta, .inl (cI, 256, .inl htf)), (atr, .inr (2, [.ref tca, .ref tla, .ref tta, .int tcn])), (tca, .inl (cJ, 768, .inr (.inl tcf))), (tla, .inl (cZ, 256, .inl tlf)), (tta, .inl (cI, 256, .inl ttf))] sz) [(wk, .inr (4, [.ref ws6, .ref fi6, .ref ff6, .ref ga6, .int ft2, .ref ah2, .ref at2, .long x, .long y, .int (nI (mjN x y)), .int 0, .int (bwA ax), .int un2])), (ws6, .inl (cI, 94, .inl wsf)), (fi6, .inl (cI, 94, .inl fif2)), (ff6, .inl (cI, 17, .inl fff2)), (ga6, .inl (cJ, 282, .inr (.inl gf2))), (ah2, .inr (2, [.ref hc2, .ref hl2, .ref ht2, .int hcn2])), (hc2, .inl (cJ, 768, .inr (.inl hcf2))), (hl2, .inl (cZ, 256, .inl hlf2)), (ht2, .inl (cI, 256, .inl htf2)), (at2, .inr (2, [.ref tc2, .ref tl2, .ref tt2, .int tcn2])), (tc2, .inl (cJ, 768, .inr (.inl tcf2))), (tl2, .inl (cZ, 256, .inl tlf2)), (tt2, .inl (cI, 256, .inl ttf2))] t) (va_A [(wk, .inr (4, [.ref ws6, .ref fi6, .ref ff6, .ref ga6, .int ft6, .ref ahr, .ref atr, .long mu6, .long my6, .int jk6, .int ct6, .int bw6, .int un6])), (ws6, .inl (cI, 94, .inl wsf)), (fi6, .inl (cI, 94, .inl fif)), (ff6, .inl (cI, 17, .inl fff)), (ga6, .inl (cJ, 282, .inr (.inl gf))), (ahr, .inr (2, [.ref hca, .ref hla, .ref hta, .int hcn])), (hca, .inl (cJ, 768, .inr (.inl hcf))), (hla, .inl (cZ, 256, .inl hlf)), (hta, .inl (cI, 256, .inl htf)), (atr, .inr (2, [.ref tca, .ref tla, .ref tta, .int tcn])), (tca, .inl (cJ, 768, .inr (.inl tcf))), (tla, .inl (cZ, 256, .inl tlf)), (tta, .inl (cI, 256, .inl ttf))] sz)) 0 0 (va_A [(wk, .inr (4, [.ref ws6, .ref fi6, .ref ff6, .ref ga6, .int ft6, .ref ahr, .ref atr, .long mu6, .long my6, .int jk6, .int ct6, .int bw6, .int un6])), (ws6, .inl (cI, 94, .inl wsf)), (fi6, .inl (cI, 94, .inl fif)), (ff6, .inl (cI, 17, .inl fff)), (ga6, .inl (cJ, 282, .inr (.inl gf))), (ahr, .inr (2, [.ref hca, .ref hla, .ref hta, .int hcn])), (hca, .inl (cJ, 768, .inr (.inl hcf))), (hla, .inl (cZ, 256, .inl hlf)), (hta, .inl (cI, 256, .inl htf)), (atr, .inr (2, [.ref tca, .ref tla, .ref tta, .int tcn])), (tca, .inl (cJ, 768, .inr (.inl tcf))), (tla, .inl (cZ, 256, .inl tlf)), (tta, .inl (cI, 256, .inl ttf))] sz) := by
  refine Met.ofW (cc := cX6_bestPart) (maxL := 14) (ret := (some .long)) (by decide) rfl ?_
  intro p e s m args below meth c s₁ B hml hv
  obtain ⟨hargs, hsz, hP, ⟨hK, hN⟩, hD0⟩ := hv
  have hx := B.exec
  have hb := B.bytes
  have hr := B.returns
  have hlocks := B.notSynchronized
  have hts := atoms_spec (ws := wsX6_bestPart) B.pre
  have hown : s.vm.findClass RX6 = some m.cls := findClass_of_methodNamed B.named
  have k92 := hts (.methodLink RX6 92 yX6_cardsOfKey) (by decide +kernel)
  have k96 := hts (.methodLink RX6 96 yX6_firstJokers) (by decide +kernel)
  have k90 := hts (.constantLong RX6 90 (-1)) (by decide +kernel)
  have k86 := hts (.methodLink RX6 86 yX6_greatestAtEnd) (by decide +kernel)
  have k77 := hts (.fieldLink RX6 77 "RummyTable$Walk" "byWorth" "Z") (by decide +kernel)
  have iX6 : ∀ w ∈ wsX60, w ∈ wsX6_bestPart := by decide +kernel
  have k41 := hts (.fieldLink RX6 41 "RummyTable$Walk" "must" "J") (by decide +kernel)
  have k52 := hts (.methodLink RX6 52 yX0_jokersIn) (by decide +kernel)
  have k45 := hts (.fieldLink RX6 45 "RummyTable$Walk" "may" "J") (by decide +kernel)
  have k80 := hts (.methodLink RX6 80 Lib.Math.min.name) (by decide +kernel)
  have s_va_mmin := hts (.static Lib.Math.min.name) (by decide +kernel)
  have i_math := hts (.initialized "java/lang/Math") (by decide +kernel)
  have c_va_mmin := hts (.code Lib.Math.min.name Lib.Math.min.code 2 (some .int)) (by decide +kernel)
  have k58 := hts (.methodLink RX6 58 yX6_goThrough) (by decide +kernel)
  have k48 := hts (.fieldLink RX6 48 "RummyTable$Walk" "counting" "Z") (by decide +kernel)
  subst hsz
  have hD := hD0.self (sz := s.heap.size)
  generalize hAe : va_A [(wk, .inr (4, [.ref ws6, .ref fi6, .ref ff6, .ref ga6, .int ft6, .ref ahr, .ref atr, .long mu6, .long my6, .int jk6, .int ct6, .int bw6, .int un6])), (ws6, .inl (cI, 94, .inl wsf)), (fi6, .inl (cI, 94, .inl fif)), (ff6, .inl (cI, 17, .inl fff)), (ga6, .inl (cJ, 282, .inr (.inl gf))), (ahr, .inr (2, [.ref hca, .ref hla, .ref hta, .int hcn])), (hca, .inl (cJ, 768, .inr (.inl hcf))), (hla, .inl (cZ, 256, .inl hlf)), (hta, .inl (cI, 256, .inl htf)), (atr, .inr (2, [.ref tca, .ref tla, .ref tta, .int tcn])), (tca, .inl (cJ, 768, .inr (.inl tcf))), (tla, .inl (cZ, 256, .inl tlf)), (tta, .inl (cI, 256, .inl ttf))] s.heap.size = A at hD ⊢
  have hA : ∀ q : Nat, s.heap.size ≤ q → A q := fun q h => by rw [← hAe]; exact Or.inr h
  have hS : va_S A s.heap s.heap [] := va_S.rf
  rw [show entryFrame m args 14 = entryFrame m ([.ref wk, .long x, .long y, .int ax] : List Value).toArray 14 from by rw [hargs]]
  have hl := lv_entry ([.ref wk, .long x, .long y, .int ax]) (n := 14) (Nat.le_of_ble_eq_true rfl)
  rw [lg_entry_eq]
  generalize (lg_sl ([.ref wk, .long x, .long y, .int ax]) ++ List.replicate (14 - (lg_sl ([.ref wk, .long x, .long y, .int ax])).length) Slot.unset).toArray = ls at hl ⊢
  have hl : lv_has ls 14 [(0, .ref wk), (1, .long x), (3, .long y), (5, .int ax)] := hl
  refine wQ (fun Q hQ => ?_)
  have lab71 : ∀ fuel71 : Nat, ∀ (i : Nat) (vt : Nat → Nat → Int64) (vs : Nat → Nat → Nat → Int64) (gk : Nat → Int64) (ah1 : Nat) (hc1 : Nat) (hl1 : Nat) (ht1 : Nat) (at1 : Nat) (tc1 : Nat) (tl1 : Nat) (tt1 : Nat) (x6 : Int32) (x7 : Int32) (bk : Int64) (x10 : Int32) (x11 : Int32) (ft1 : Int32) (un1 : Int32) (fq0 : Nat → Int32) (fr0 : Nat → Int32) (gq0 : Nat → Int64) (hcx : Int32) (hf1 : Nat → Int64) (hg1 : Nat → Int32) (hh1 : Nat → Int32) (tn1 : Int32) (tf1 : Nat → Int64) (tg1 : Nat → Int32) (th1 : Nat → Int32), (h6 : x6 = nI (jkN x)) → (h7 : x7 = nI (mjN x y)) → (hr0 : fr0 0 = 0) → (hRT : RowRep tf1 tg1 th1 tn1 vt) → (hv0 : vs 0 = up2 (fun _ _ => 0) 0 0 1) → (hvs : ∀ n, n < 13 → rowStep 0 (bwA ax) x y (mjN x y) n (vs n) (vs (n + 1))) → (hRH : RowRep hf1 hg1 hh1 hcx (vs 13)) → (hgk : ∀ u, u < 3 → ∃ cL q, rowL hh1 hcx (vs 13) cL q ∧ gk u = gaF (vs 13) u q cL) → (h11 : x11 = nI (jkN x + i)) → (hi : i ≤ mjN x y - jkN x + 1) → (hbk : (bk, x10) = bpF (bwA ax) (jkN x) gk i) → (hfu71 : (mjN x y - jkN x + 1) - i < fuel71) → ∀ (H : Heap) (locs : List Loc), va_P D vwCl [(wk, .inr (4, [.ref ws6, .ref fi6, .ref ff6, .ref ga6, .int ft1, .ref ah1, .ref at1, .long x, .long y, .int (nI (mjN x y)), .int 0, .int (bwA ax), .int un1])), (ws6, .inl (cI, 94, .inl wsf)), (fi6, .inl (cI, 94, .inl fq0)), (ff6, .inl (cI, 17, .inl fr0)), (ga6, .inl (cJ, 282, .inr (.inl gq0))), (ah1, .inr (2, [.ref hc1, .ref hl1, .ref ht1, .int hcx])), (hc1, .inl (cJ, 768, .inr (.inl hf1))), (hl1, .inl (cZ, 256, .inl hg1)), (ht1, .inl (cI, 256, .inl hh1)), (at1, .inr (2, [.ref tc1, .ref tl1, .ref tt1, .int tn1])), (tc1, .inl (cJ, 768, .inr (.inl tf1))), (tl1, .inl (cZ, 256, .inl tg1)), (tt1, .inl (cI, 256, .inl th1))] H → va_D A [(wk, .inr (4, [.ref ws6, .ref fi6, .ref ff6, .ref ga6, .int ft1, .ref ah1, .ref at1, .long x, .long y, .int (nI (mjN x y)), .int 0, .int (bwA ax), .int un1])), (ws6, .inl (cI, 94, .inl wsf)), (fi6, .inl (cI, 94, .inl fq0)), (ff6, .inl (cI, 17, .inl fr0)), (ga6, .inl (cJ, 282, .inr (.inl gq0))), (ah1, .inr (2, [.ref hc1, .ref hl1, .ref ht1, .int hcx])), (hc1, .inl (cJ, 768, .inr (.inl hf1))), (hl1, .inl (cZ, 256, .inl hg1)), (ht1, .inl (cI, 256, .inl hh1)), (at1, .inr (2, [.ref tc1, .ref tl1, .ref tt1, .int tn1])), (tc1, .inl (cJ, 768, .inr (.inl tf1))), (tl1, .inl (cZ, 256, .inl tg1)), (tt1, .inl (cI, 256, .inl th1))] → va_S A s.heap H locs → ∀ ls : Array Slot, lv_has ls 14 [(0, .ref wk), (1, .long x), (3, .long y), (5, .int ax), (6, .int x6), (7, .int x7), (8, .long bk), (10, .int x10), (11, .int x11)] → W p l e (headSpec wsX6_bestPart ({ frames := 5, cells := 0, slots := 0, locals := 122 } : Room)).room s m args below meth c H locs 0 0 Q (F0 m 71 ls []) := by
    intro fuel71
    induction fuel71 with
    | zero =>
      intro i vt vs gk ah1 hc1 hl1 ht1 at1 tc1 tl1 tt1 x6 x7 bk x10 x11 ft1 un1 fq0 fr0 gq0 hcx hf1 hg1 hh1 tn1 tf1 tg1 th1 h6 h7 hr0 hRT hv0 hvs hRH hgk h11 hi hbk hfu71
      exact absurd hfu71 (Nat.not_lt_zero _)
    | succ fuel71 ih71 =>
      intro i vt vs gk ah1 hc1 hl1 ht1 at1 tc1 tl1 tt1 x6 x7 bk x10 x11 ft1 un1 fq0 fr0 gq0 hcx hf1 hg1 hh1 tn1 tf1 tg1 th1 h6 h7 hr0 hRT hv0 hvs hRH hgk h11 hi hbk hfu71 H locs hP hD hS ls hl
      have lab114 : ∀  (b114 : Int32) (z114 : Int64) (w114 : Int64) (y12 : Int64), (hb114 : b114 = (if bwA ax = 0 then (1 : Int32) else 20)) → (hz114 : z114 = (nI i).toInt64) → (hw114 : w114 = gk (jkN x + i) ∧ ¬ gk (jkN x + i) = 0) → (hi2 : i < mjN x y - jkN x + 1) → ∀ (H : Heap) (locs : List Loc), va_P D vwCl [(wk, .inr (4, [.ref ws6, .ref fi6, .ref ff6, .ref ga6, .int ft1, .ref ah1, .ref at1, .long x, .long y, .int (nI (mjN x y)), .int 0, .int (bwA ax), .int un1])), (ws6, .inl (cI, 94, .inl wsf)), (fi6, .inl (cI, 94, .inl fq0)), (ff6, .inl (cI, 17, .inl fr0)), (ga6, .inl (cJ, 282, .inr (.inl gq0))), (ah1, .inr (2, [.ref hc1, .ref hl1, .ref ht1, .int hcx])), (hc1, .inl (cJ, 768, .inr (.inl hf1))), (hl1, .inl (cZ, 256, .inl hg1)), (ht1, .inl (cI, 256, .inl hh1)), (at1, .inr (2, [.ref tc1, .ref tl1, .ref tt1, .int tn1])), (tc1, .inl (cJ, 768, .inr (.inl tf1))), (tl1, .inl (cZ, 256, .inl tg1)), (tt1, .inl (cI, 256, .inl th1))] H → va_D A [(wk, .inr (4, [.ref ws6, .ref fi6, .ref ff6, .ref ga6, .int ft1, .ref ah1, .ref at1, .long x, .long y, .int (nI (mjN x y)), .int 0, .int (bwA ax), .int un1])), (ws6, .inl (cI, 94, .inl wsf)), (fi6, .inl (cI, 94, .inl fq0)), (ff6, .inl (cI, 17, .inl fr0)), (ga6, .inl (cJ, 282, .inr (.inl gq0))), (ah1, .inr (2, [.ref hc1, .ref hl1, .ref ht1, .int hcx])), (hc1, .inl (cJ, 768, .inr (.inl hf1))), (hl1, .inl (cZ, 256, .inl hg1)), (ht1, .inl (cI, 256, .inl hh1)), (at1, .inr (2, [.ref tc1, .ref tl1, .ref tt1, .int tn1])), (tc1, .inl (cJ, 768, .inr (.inl tf1))), (tl1, .inl (cZ, 256, .inl tg1)), (tt1, .inl (cI, 256, .inl th1))] → va_S A s.heap H locs → ∀ ls : Array Slot, lv_has ls 14 [(0, .ref wk), (1, .long x), (3, .long y), (5, .int ax), (6, .int x6), (7, .int x7), (8, .long bk), (10, .int x10), (11, .int x11), (12, .long y12)] → W p l e (headSpec wsX6_bestPart ({ frames := 5, cells := 0, slots := 0, locals := 122 } : Room)).room s m args below meth c H locs 0 0 Q (F0 m 114 ls [.int b114, .long z114, .long w114]) := by
        intro b114 z114 w114 y12 hb114 hz114 hw114 hi2 H locs hP hD hS ls hl
        have hj2 := mjN_le x y
        have hj3 := mjN_ge x y
        refine lv_i2l hx hb dX6_bestPart_114 rfl ?_
        refine lv_lmul hx hb dX6_bestPart_115 ?_
        refine lv_bipush (v := 53) hx hb dX6_bestPart_116 (by decide) ?_
        refine lv_lshl hx hb dX6_bestPart_118 rfl ?_
        refine lv_ladd hx hb dX6_bestPart_119 ?_
        refine lv_topl (fun x120 ex120 => ?_)
        refine lv_lstore (lv' := [(12, .long x120), (0, .ref wk), (1, .long x), (3, .long y), (5, .int ax), (6, .int x6), (7, .int x7), (8, .long bk), (10, .int x10), (11, .int x11)]) hx hb dX6_bestPart_120 hl (by decide) rfl (fun ls hl => ?_)
        have hkk : x120 = bpK (bwA ax) i (gk (jkN x + i)) := by rw [ex120, hb114, hz114, hw114.1]; rfl
        have hb1 : (bpF (bwA ax) (jkN x) gk i).1 = bk := by rw [← hbk]
        refine lv_lload hx hb dX6_bestPart_122 (lv_at hl 0 rfl) ?_
        refine lv_lload hx hb dX6_bestPart_124 (lv_at hl 7 rfl) ?_
        refine W.lcmp hx hb dX6_bestPart_126 ?_
        refine lv_if_le (tgt := 141) hx hb dX6_bestPart_127 (by decide) (fun c_127 => ?_) (fun c_127 => ?_)
        · have hnx : (bk, x10) = bpF (bwA ax) (jkN x) gk (i + 1) := by simp only [bpF]; rw [if_neg hw114.2, hb1, if_pos (by rw [← hkk]; exact cmp_le.mp c_127)]; exact hbk
          have hnx : (bk, x10) = bpF (bwA ax) (jkN x) gk (i + 1) := by first | exact hnx | (rw [ex139]; exact hnx)
          obtain ⟨x141, ex141⟩ : ∃ y : Int32, y = x11 + 1 := ⟨_, rfl⟩
          refine lv_iinc (v := x141) (lv' := [(11, .int x141), (12, .long x120), (0, .ref wk), (1, .long x), (3, .long y), (5, .int ax), (6, .int x6), (7, .int x7), (8, .long bk), (10, .int x10)]) hx hb dX6_bestPart_141 hl (k := 9) rfl (by rw [ex141]; rfl) (by decide) rfl (fun ls hl => ?_)
          refine lv_goto (tgt := 71) hx hb dX6_bestPart_144 (by decide) ?_
          exact ih71 (i + 1) vt vs gk ah1 hc1 hl1 ht1 at1 tc1 tl1 tt1 x6 x7 bk x10 x141 ft1 un1 fq0 fr0 gq0 hcx hf1 hg1 hh1 tn1 tf1 tg1 th1 (h6) (h7) (hr0) (hRT) (hv0) (hvs) (hRH) (hgk) (by rw [ex141, h11]; exact nI_1 _) (by omega) (hnx) (by omega) _ _ hP hD hS ls (lv_sub hl [2, 3, 4, 5, 6, 7, 8, 9, 0] rfl)
        · have hsb : x11 - x6 = nI i := bp_sub h11 h6 (by omega)
          have hnx : (x120, x11 - x6) = bpF (bwA ax) (jkN x) gk (i + 1) := by simp only [bpF]; rw [if_neg hw114.2, hb1, if_neg (fun z => c_127 (cmp_le.mpr (by rw [hkk]; exact z))), hsb, hkk]
          refine lv_lload hx hb dX6_bestPart_130 (lv_at hl 0 rfl) ?_
          refine lv_lstore (lv' := [(8, .long x120), (12, .long x120), (0, .ref wk), (1, .long x), (3, .long y), (5, .int ax), (6, .int x6), (7, .int x7), (10, .int x10), (11, .int x11)]) hx hb dX6_bestPart_132 hl (by decide) rfl (fun ls hl => ?_)
          refine lv_iload hx hb dX6_bestPart_134 (lv_at hl 9 rfl) ?_
          refine lv_iload hx hb dX6_bestPart_136 (lv_at hl 6 rfl) ?_
          refine lv_isub hx hb dX6_bestPart_138 ?_
          refine lv_topi (fun x139 ex139 => ?_)
          refine lv_istore (lv' := [(10, .int x139), (8, .long x120), (12, .long x120), (0, .ref wk), (1, .long x), (3, .long y), (5, .int ax), (6, .int x6), (7, .int x7), (11, .int x11)]) hx hb dX6_bestPart_139 hl (by decide) rfl (fun ls hl => ?_)
          have hnx : (x120, x139) = bpF (bwA ax) (jkN x) gk (i + 1) := by first | exact hnx | (rw [ex139]; exact hnx)
          obtain ⟨x141, ex141⟩ : ∃ y : Int32, y = x11 + 1 := ⟨_, rfl⟩
          refine lv_iinc (v := x141) (lv' := [(11, .int x141), (10, .int x139), (8, .long x120), (12, .long x120), (0, .ref wk), (1, .long x), (3, .long y), (5, .int ax), (6, .int x6), (7, .int x7)]) hx hb dX6_bestPart_141 hl (k := 9) rfl (by rw [ex141]; rfl) (by decide) rfl (fun ls hl => ?_)
          refine lv_goto (tgt := 71) hx hb dX6_bestPart_144 (by decide) ?_
          exact ih71 (i + 1) vt vs gk ah1 hc1 hl1 ht1 at1 tc1 tl1 tt1 x6 x7 x120 x139 x141 ft1 un1 fq0 fr0 gq0 hcx hf1 hg1 hh1 tn1 tf1 tg1 th1 (h6) (h7) (hr0) (hRT) (hv0) (hvs) (hRH) (hgk) (by rw [ex141, h11]; exact nI_1 _) (by omega) (hnx) (by omega) _ _ hP hD hS ls (lv_sub hl [4, 5, 6, 7, 8, 9, 2, 1, 0] rfl)
      have hj2 := mjN_le x y
      have hj3 := mjN_ge x y
      refine lv_iload hx hb dX6_bestPart_71 (lv_at hl 8 rfl) ?_
      refine lv_iload hx hb dX6_bestPart_73 (lv_at hl 5 rfl) ?_
      refine lv_icmp_gt (tgt := 147) hx hb dX6_bestPart_75 (by decide) (fun c_75 => ?_) (fun c_75 => ?_)
      · have hi9 : i = mjN x y - jkN x + 1 := by rw [h11, h7, nI_ltI (by omega) (by omega)] at c_75; omega
        subst hi9
        refine lv_lload hx hb dX6_bestPart_147 (lv_at hl 6 rfl) ?_
        refine lv_lconst (v := 0) hx hb dX6_bestPart_149 (by decide) ?_
        refine W.lcmp hx hb dX6_bestPart_150 ?_
        refine lv_if_ne (tgt := 160) hx hb dX6_bestPart_151 (by decide) (fun c_151 => ?_) (fun c_151 => ?_)
        · have hbz : ¬ bk = 0 := fun z => c_151 (cmp_eq.mpr z)
          have hb1 : (bpF (bwA ax) (jkN x) gk (mjN x y - jkN x + 1)).1 = bk := by rw [← hbk]
          have hb2 : (bpF (bwA ax) (jkN x) gk (mjN x y - jkN x + 1)).2 = x10 := by rw [← hbk]
          have hres : j_X6_cardsOfKey bk ||| (fj6 y x10 2).2 = bpR (bwA ax) x y gk := by unfold bpR; rw [hb1, hb2, if_neg hbz]
          refine lv_aload_n hx hb dX6_bestPart_160 rfl (lv_at hl 0 rfl) ?_
          refine lv_lload hx hb dX6_bestPart_161 (lv_at hl 6 rfl) ?_
          have hPc := hP.sub (ws' := [(wk, .inr (4, [.ref ws6, .ref fi6, .ref ff6, .ref ga6, .int ft1, .ref ah1, .ref at1, .long x, .long y, .int (nI (mjN x y)), .int 0, .int (bwA ax), .int un1]))]) [0] rfl
          refine vp_callSl (W.runV (As := [.long bk]) (rest := []) ⟨hx, hb, hml, hown, hts⟩ (k_X6_cardsOfKey l D cI cJ cZ wk ws6 fi6 ff6 ga6 ah1 at1 ft1 (nI (mjN x y)) 0 (bwA ax) un1 x y bk ) (cwV 1 hts gX6_bestPart_X6_cardsOfKey rfl rfl rfl (by decide +kernel) ⟨Nat.le_of_ble_eq_true rfl, Nat.le_of_ble_eq_true rfl⟩) ⟨wR_fb, va_recv hK hPc (ci := 4) (q0 := 0) rfl rfl, wR_pre hPc ⟨hK, hN⟩⟩ rfl rfl hl.1 rfl (lv_room (Nat.le_of_ble_eq_true rfl)) dX6_bestPart_163 ⟨Nat.le_of_ble_eq_true rfl, Nat.le_of_ble_eq_true rfl⟩) (fun x163 hx163 => ?_)
          subst hx163
          refine lv_aload_n hx hb dX6_bestPart_166 rfl (lv_at hl 0 rfl) ?_
          refine lv_iload hx hb dX6_bestPart_167 (lv_at hl 7 rfl) ?_
          have hPc := hP.sub (ws' := [(wk, .inr (4, [.ref ws6, .ref fi6, .ref ff6, .ref ga6, .int ft1, .ref ah1, .ref at1, .long x, .long y, .int (nI (mjN x y)), .int 0, .int (bwA ax), .int un1]))]) [0] rfl
          refine vp_callSl (W.runV (As := [.int x10]) (rest := [.long (j_X6_cardsOfKey bk)]) ⟨hx, hb, hml, hown, hts⟩ (k_X6_firstJokers l D cI cJ cZ wk ws6 fi6 ff6 ga6 ah1 at1 ft1 (nI (mjN x y)) 0 (bwA ax) un1 x y x10 ) (cwV 1 hts gX6_bestPart_X6_firstJokers rfl rfl rfl (by decide +kernel) ⟨Nat.le_of_ble_eq_true rfl, Nat.le_of_ble_eq_true rfl⟩) ⟨wR_fb, va_recv hK hPc (ci := 4) (q0 := 0) rfl rfl, wR_pre hPc ⟨hK, hN⟩⟩ rfl rfl hl.1 rfl (lv_room (Nat.le_of_ble_eq_true rfl)) dX6_bestPart_169 ⟨Nat.le_of_ble_eq_true rfl, Nat.le_of_ble_eq_true rfl⟩) (fun x169 hx169 => ?_)
          subst hx169
          refine lv_lor hx hb dX6_bestPart_172 ?_
          rw [← hQ]
          have hP9 := hP.sub (ws' := [(wk, .inr (4, [.ref ws6, .ref fi6, .ref ff6, .ref ga6, .int ft1, .ref ah1, .ref at1, .long x, .long y, .int (nI (mjN x y)), .int 0, .int (bwA ax), .int un1])), (ws6, .inl (cI, 94, .inl wsf)), (fi6, .inl (cI, 94, .inl fq0)), (ff6, .inl (cI, 17, .inl fr0)), (ga6, .inl (cJ, 282, .inr (.inl gq0))), (ah1, .inr (2, [.ref hc1, .ref hl1, .ref ht1, .int hcx])), (hc1, .inl (cJ, 768, .inr (.inl hf1))), (hl1, .inl (cZ, 256, .inl hg1)), (ht1, .inl (cI, 256, .inl hh1)), (at1, .inr (2, [.ref tc1, .ref tl1, .ref tt1, .int tn1])), (tc1, .inl (cJ, 768, .inr (.inl tf1))), (tl1, .inl (cZ, 256, .inl tg1)), (tt1, .inl (cI, 256, .inl th1))]) [0, 1, 2, 3, 4, 5, 6, 7, 8, 9, 10, 11, 12] rfl
          have hD9 := hD.sub (ws' := [(wk, .inr (4, [.ref ws6, .ref fi6, .ref ff6, .ref ga6, .int ft1, .ref ah1, .ref at1, .long x, .long y, .int (nI (mjN x y)), .int 0, .int (bwA ax), .int un1])), (ws6, .inl (cI, 94, .inl wsf)), (fi6, .inl (cI, 94, .inl fq0)), (ff6, .inl (cI, 17, .inl fr0)), (ga6, .inl (cJ, 282, .inr (.inl gq0))), (ah1, .inr (2, [.ref hc1, .ref hl1, .ref ht1, .int hcx])), (hc1, .inl (cJ, 768, .inr (.inl hf1))), (hl1, .inl (cZ, 256, .inl hg1)), (ht1, .inl (cI, 256, .inl hh1)), (at1, .inr (2, [.ref tc1, .ref tl1, .ref tt1, .int tn1])), (tc1, .inl (cJ, 768, .inr (.inl tf1))), (tl1, .inl (cZ, 256, .inl tg1)), (tt1, .inl (cI, 256, .inl th1))]) [0, 1, 2, 3, 4, 5, 6, 7, 8, 9, 10, 11, 12] (by decide) rfl
          exact W.lret (v := (j_X6_cardsOfKey bk) ||| ((fj6 y x10 2).2)) hx hb hr (fun t ht hW => ⟨⟨((j_X6_cardsOfKey bk) ||| ((fj6 y x10 2).2)), (ah1, hc1, hl1, ht1, at1, tc1, tl1, tt1, hcx, tn1, ft1, un1, fq0, fr0, gq0, hf1, hg1, hh1, tf1, tg1, th1), rfl, ⟨hr0, ⟨vt, hRT⟩, vs, hv0, hvs, hRH, gk, hgk, hres⟩, (by show wB D A _ t; exact ⟨by rw [ht]; exact hP9, hD9⟩)⟩, hS.F ht⟩) hS.2.2 dX6_bestPart_173
        · have hbz : bk = 0 := cmp_eq.mp c_151
          have hb1 : (bpF (bwA ax) (jkN x) gk (mjN x y - jkN x + 1)).1 = bk := by rw [← hbk]
          have hres : (-1 : Int64) = bpR (bwA ax) x y gk := by unfold bpR; rw [hb1, if_pos hbz]
          refine lv_ldc2 hx hb hown k90 dX6_bestPart_154 ?_
          refine lv_goto (tgt := 173) hx hb dX6_bestPart_157 (by decide) ?_
          rw [← hQ]
          have hP9 := hP.sub (ws' := [(wk, .inr (4, [.ref ws6, .ref fi6, .ref ff6, .ref ga6, .int ft1, .ref ah1, .ref at1, .long x, .long y, .int (nI (mjN x y)), .int 0, .int (bwA ax), .int un1])), (ws6, .inl (cI, 94, .inl wsf)), (fi6, .inl (cI, 94, .inl fq0)), (ff6, .inl (cI, 17, .inl fr0)), (ga6, .inl (cJ, 282, .inr (.inl gq0))), (ah1, .inr (2, [.ref hc1, .ref hl1, .ref ht1, .int hcx])), (hc1, .inl (cJ, 768, .inr (.inl hf1))), (hl1, .inl (cZ, 256, .inl hg1)), (ht1, .inl (cI, 256, .inl hh1)), (at1, .inr (2, [.ref tc1, .ref tl1, .ref tt1, .int tn1])), (tc1, .inl (cJ, 768, .inr (.inl tf1))), (tl1, .inl (cZ, 256, .inl tg1)), (tt1, .inl (cI, 256, .inl th1))]) [0, 1, 2, 3, 4, 5, 6, 7, 8, 9, 10, 11, 12] rfl
          have hD9 := hD.sub (ws' := [(wk, .inr (4, [.ref ws6, .ref fi6, .ref ff6, .ref ga6, .int ft1, .ref ah1, .ref at1, .long x, .long y, .int (nI (mjN x y)), .int 0, .int (bwA ax), .int un1])), (ws6, .inl (cI, 94, .inl wsf)), (fi6, .inl (cI, 94, .inl fq0)), (ff6, .inl (cI, 17, .inl fr0)), (ga6, .inl (cJ, 282, .inr (.inl gq0))), (ah1, .inr (2, [.ref hc1, .ref hl1, .ref ht1, .int hcx])), (hc1, .inl (cJ, 768, .inr (.inl hf1))), (hl1, .inl (cZ, 256, .inl hg1)), (ht1, .inl (cI, 256, .inl hh1)), (at1, .inr (2, [.ref tc1, .ref tl1, .ref tt1, .int tn1])), (tc1, .inl (cJ, 768, .inr (.inl tf1))), (tl1, .inl (cZ, 256, .inl tg1)), (tt1, .inl (cI, 256, .inl th1))]) [0, 1, 2, 3, 4, 5, 6, 7, 8, 9, 10, 11, 12] (by decide) rfl
          exact W.lret (v := (-1)) hx hb hr (fun t ht hW => ⟨⟨(-1), (ah1, hc1, hl1, ht1, at1, tc1, tl1, tt1, hcx, tn1, ft1, un1, fq0, fr0, gq0, hf1, hg1, hh1, tf1, tg1, th1), rfl, ⟨hr0, ⟨vt, hRT⟩, vs, hv0, hvs, hRH, gk, hgk, hres⟩, (by show wB D A _ t; exact ⟨by rw [ht]; exact hP9, hD9⟩)⟩, hS.F ht⟩) hS.2.2 dX6_bestPart_173
      · have hi2 : i < mjN x y - jkN x + 1 := by rw [h11, h7, nI_ltI (by omega) (by omega)] at c_75; omega
        have hsb : x11 - x6 = nI i := bp_sub h11 h6 (by omega)
        refine lv_aload_n hx hb dX6_bestPart_78 rfl (lv_at hl 0 rfl) ?_
        refine lv_iload hx hb dX6_bestPart_79 (lv_at hl 8 rfl) ?_
        have hPc := hP.sub (ws' := [(wk, .inr (4, [.ref ws6, .ref fi6, .ref ff6, .ref ga6, .int ft1, .ref ah1, .ref at1, .long x, .long y, .int (nI (mjN x y)), .int 0, .int (bwA ax), .int un1])), (ah1, .inr (2, [.ref hc1, .ref hl1, .ref ht1, .int hcx])), (hc1, .inl (cJ, 768, .inr (.inl hf1))), (ht1, .inl (cI, 256, .inl hh1))]) [0, 5, 6, 8] rfl
        refine vp_callSl (W.runV (As := [.int x11]) (rest := []) ⟨hx, hb, hml, hown, hts⟩ (k_X6_greatestAtEnd l D cI cJ cZ wk ws6 fi6 ff6 ga6 ah1 at1 ft1 (nI (mjN x y)) 0 (bwA ax) un1 x y hc1 hl1 ht1 hcx (jkN x + i) hf1 hg1 hh1 (vs 13) x11 (by omega) (h11) (hRH)) (cwV 1 hts gX6_bestPart_X6_greatestAtEnd rfl rfl rfl (by decide +kernel) ⟨Nat.le_of_ble_eq_true rfl, Nat.le_of_ble_eq_true rfl⟩) ⟨wR_fb, va_recv hK hPc (ci := 4) (q0 := 0) rfl rfl, wR_pre hPc ⟨hK, hN⟩⟩ rfl rfl hl.1 rfl (lv_room (Nat.le_of_ble_eq_true rfl)) dX6_bestPart_81 ⟨Nat.le_of_ble_eq_true rfl, Nat.le_of_ble_eq_true rfl⟩) (fun x81 hx81 => ?_)
        refine lv_lstore (lv' := [(12, .long x81), (0, .ref wk), (1, .long x), (3, .long y), (5, .int ax), (6, .int x6), (7, .int x7), (8, .long bk), (10, .int x10), (11, .int x11)]) hx hb dX6_bestPart_84 hl (by decide) rfl (fun ls hl => ?_)
        have hgr : x81 = gk (jkN x + i) := by obtain ⟨cL, q, e1, e2⟩ := hx81; obtain ⟨cL2, q2, e3, e4⟩ := hgk (jkN x + i) (by omega); rw [e2, e4]; exact rowL_ga e1 e3
        refine lv_lload hx hb dX6_bestPart_86 (lv_at hl 0 rfl) ?_
        refine lv_lconst (v := 0) hx hb dX6_bestPart_88 (by decide) ?_
        refine W.lcmp hx hb dX6_bestPart_89 ?_
        refine lv_if_eq (tgt := 141) hx hb dX6_bestPart_90 (by decide) (fun c_90 => ?_) (fun c_90 => ?_)
        · have hgz : gk (jkN x + i) = 0 := by rw [← hgr]; exact cmp_eq.mp c_90
          have hnx : (bk, x10) = bpF (bwA ax) (jkN x) gk (i + 1) := by simp only [bpF]; rw [if_pos hgz]; exact hbk
          have hnx : (bk, x10) = bpF (bwA ax) (jkN x) gk (i + 1) := by first | exact hnx | (rw [ex139]; exact hnx)
          obtain ⟨x141, ex141⟩ : ∃ y : Int32, y = x11 + 1 := ⟨_, rfl⟩
          refine lv_iinc (v := x141) (lv' := [(11, .int x141), (12, .long x81), (0, .ref wk), (1, .long x), (3, .long y), (5, .int ax), (6, .int x6), (7, .int x7), (8, .long bk), (10, .int x10)]) hx hb dX6_bestPart_141 hl (k := 9) rfl (by rw [ex141]; rfl) (by decide) rfl (fun ls hl => ?_)
          refine lv_goto (tgt := 71) hx hb dX6_bestPart_144 (by decide) ?_
          exact ih71 (i + 1) vt vs gk ah1 hc1 hl1 ht1 at1 tc1 tl1 tt1 x6 x7 bk x10 x141 ft1 un1 fq0 fr0 gq0 hcx hf1 hg1 hh1 tn1 tf1 tg1 th1 (h6) (h7) (hr0) (hRT) (hv0) (hvs) (hRH) (hgk) (by rw [ex141, h11]; exact nI_1 _) (by omega) (hnx) (by omega) _ _ hP hD hS ls (lv_sub hl [2, 3, 4, 5, 6, 7, 8, 9, 0] rfl)
        · have hgz : ¬ gk (jkN x + i) = 0 := by rw [← hgr]; exact fun z => c_90 (cmp_eq.mpr z)
          refine lv_lload hx hb dX6_bestPart_93 (lv_at hl 0 rfl) ?_
          refine lv_iload hx hb dX6_bestPart_95 (lv_at hl 9 rfl) ?_
          refine lv_iload hx hb dX6_bestPart_97 (lv_at hl 5 rfl) ?_
          refine lv_isub hx hb dX6_bestPart_99 ?_
          refine lv_i2l hx hb dX6_bestPart_100 rfl ?_
          refine lv_aload_n hx hb dX6_bestPart_101 rfl (lv_at hl 1 rfl) ?_
          refine va_get (D := D) (ci := 4) (v := .int (bwA ax)) (C := RX6) (T := TX6) (N := 13) hx hb hts iX6 hown hK hP 0 rfl rfl 11 (by decide) k77 (fun _ h9 => h9) rfl dX6_bestPart_102 ?_
          refine lv_if_eq (tgt := 113) hx hb dX6_bestPart_105 (by decide) (fun c_105 => ?_) (fun c_105 => ?_)
          · refine lv_iconst (v := 1) hx hb dX6_bestPart_113 (by decide) ?_
            exact lab114 1 ((x11 - x6).toInt64) x81 x81 ((if_pos c_105).symm) (by rw [hsb]) (⟨hgr, hgz⟩) (hi2) _ _ hP hD hS ls (lv_sub hl [1, 2, 3, 4, 5, 6, 7, 8, 9, 0] rfl)
          · refine lv_bipush (v := 20) hx hb dX6_bestPart_108 (by decide) ?_
            refine lv_goto (tgt := 114) hx hb dX6_bestPart_110 (by decide) ?_
            exact lab114 20 ((x11 - x6).toInt64) x81 x81 ((if_neg c_105).symm) (by rw [hsb]) (⟨hgr, hgz⟩) (hi2) _ _ hP hD hS ls (lv_sub hl [1, 2, 3, 4, 5, 6, 7, 8, 9, 0] rfl)
  have lab27 : ∀  (b27 : Int32), (hb27 : b27 = bwA ax) → ∀ (H : Heap) (locs : List Loc), va_P D vwCl [(wk, .inr (4, [.ref ws6, .ref fi6, .ref ff6, .ref ga6, .int ft6, .ref ahr, .ref atr, .long x, .long y, .int jk6, .int 0, .int bw6, .int un6])), (ws6, .inl (cI, 94, .inl wsf)), (fi6, .inl (cI, 94, .inl fif)), (ff6, .inl (cI, 17, .inl fff)), (ga6, .inl (cJ, 282, .inr (.inl gf))), (ahr, .inr (2, [.ref hca, .ref hla, .ref hta, .int hcn])), (hca, .inl (cJ, 768, .inr (.inl hcf))), (hla, .inl (cZ, 256, .inl hlf)), (hta, .inl (cI, 256, .inl htf)), (atr, .inr (2, [.ref tca, .ref tla, .ref tta, .int tcn])), (tca, .inl (cJ, 768, .inr (.inl tcf))), (tla, .inl (cZ, 256, .inl tlf)), (tta, .inl (cI, 256, .inl ttf))] H → va_D A [(wk, .inr (4, [.ref ws6, .ref fi6, .ref ff6, .ref ga6, .int ft6, .ref ahr, .ref atr, .long x, .long y, .int jk6, .int 0, .int bw6, .int un6])), (ws6, .inl (cI, 94, .inl wsf)), (fi6, .inl (cI, 94, .inl fif)), (ff6, .inl (cI, 17, .inl fff)), (ga6, .inl (cJ, 282, .inr (.inl gf))), (ahr, .inr (2, [.ref hca, .ref hla, .ref hta, .int hcn])), (hca, .inl (cJ, 768, .inr (.inl hcf))), (hla, .inl (cZ, 256, .inl hlf)), (hta, .inl (cI, 256, .inl htf)), (atr, .inr (2, [.ref tca, .ref tla, .ref tta, .int tcn])), (tca, .inl (cJ, 768, .inr (.inl tcf))), (tla, .inl (cZ, 256, .inl tlf)), (tta, .inl (cI, 256, .inl ttf))] → va_S A s.heap H locs → ∀ ls : Array Slot, lv_has ls 14 [(0, .ref wk), (1, .long x), (3, .long y), (5, .int ax)] → W p l e (headSpec wsX6_bestPart ({ frames := 5, cells := 0, slots := 0, locals := 122 } : Room)).room s m args below meth c H locs 0 0 Q (F0 m 27 ls [.int b27, .ref wk]) := by
    intro b27 hb27 H locs hP hD hS ls hl
    refine lv_topi (fun x27 ex27 => ?_)
    rw [show (b27 : Int32) = bwA ax from hb27] at ex27
    subst ex27
    refine va_put (D := D) (ci := 4) (v := .int (bwA ax)) (ty := .boolean) (C := RX6) (T := TX6) (N := 13) hx hb hts iX6 tyX6 tyX6_ok nmX6 hown hK hP hD hS 0 rfl rfl 11 (by decide) k77 (fun _ h9 => h9) rfl (by decide +kernel) (by unfold bwA; split <;> rfl) (by unfold bwA; split <;> rfl) (Nat.le_of_ble_eq_true rfl) dX6_bestPart_27 (fun H locs hP hD hS => ?_)
    have hP : va_P D vwCl [(wk, .inr (4, [.ref ws6, .ref fi6, .ref ff6, .ref ga6, .int ft6, .ref ahr, .ref atr, .long x, .long y, .int jk6, .int 0, .int (bwA ax), .int un6])), (ws6, .inl (cI, 94, .inl wsf)), (fi6, .inl (cI, 94, .inl fif)), (ff6, .inl (cI, 17, .inl fff)), (ga6, .inl (cJ, 282, .inr (.inl gf))), (ahr, .inr (2, [.ref hca, .ref hla, .ref hta, .int hcn])), (hca, .inl (cJ, 768, .inr (.inl hcf))), (hla, .inl (cZ, 256, .inl hlf)), (hta, .inl (cI, 256, .inl htf)), (atr, .inr (2, [.ref tca, .ref tla, .ref tta, .int tcn])), (tca, .inl (cJ, 768, .inr (.inl tcf))), (tla, .inl (cZ, 256, .inl tlf)), (tta, .inl (cI, 256, .inl ttf))] H := hP
    have hD : va_D A [(wk, .inr (4, [.ref ws6, .ref fi6, .ref ff6, .ref ga6, .int ft6, .ref ahr, .ref atr, .long x, .long y, .int jk6, .int 0, .int (bwA ax), .int un6])), (ws6, .inl (cI, 94, .inl wsf)), (fi6, .inl (cI, 94, .inl fif)), (ff6, .inl (cI, 17, .inl fff)), (ga6, .inl (cJ, 282, .inr (.inl gf))), (ahr, .inr (2, [.ref hca, .ref hla, .ref hta, .int hcn])), (hca, .inl (cJ, 768, .inr (.inl hcf))), (hla, .inl (cZ, 256, .inl hlf)), (hta, .inl (cI, 256, .inl htf)), (atr, .inr (2, [.ref tca, .ref tla, .ref tta, .int tcn])), (tca, .inl (cJ, 768, .inr (.inl tcf))), (tla, .inl (cZ, 256, .inl tlf)), (tta, .inl (cI, 256, .inl ttf))] := hD
    refine lv_aload_n hx hb dX6_bestPart_30 rfl (lv_at hl 0 rfl) ?_
    refine va_get (D := D) (ci := 4) (v := .long x) (C := RX6) (T := TX6) (N := 13) hx hb hts iX6 hown hK hP 0 rfl rfl 7 (by decide) k41 (fun _ h9 => h9) rfl dX6_bestPart_31 ?_
    refine vp_callSi (W.runS (As := [.long x]) (rest := []) ⟨hx, hb, hml, hown, hts⟩ (k_X0_jokersIn l x ) (va_cwS 1 hts gX6_bestPart_X0_jokersIn rfl rfl rfl (by decide +kernel) ⟨Nat.le_of_ble_eq_true rfl, Nat.le_of_ble_eq_true rfl⟩) ⟨pS_fb, pS_pre⟩ rfl rfl hl.1 rfl (lv_room (Nat.le_of_ble_eq_true rfl)) dX6_bestPart_34 ⟨Nat.le_of_ble_eq_true rfl, Nat.le_of_ble_eq_true rfl⟩) (fun x34 hx34 => ?_)
    subst hx34
    refine lv_topi (fun x37 ex37 => ?_)
    refine lv_istore (lv' := [(6, .int x37), (0, .ref wk), (1, .long x), (3, .long y), (5, .int ax)]) hx hb dX6_bestPart_37 hl (by decide) rfl (fun ls hl => ?_)
    have h37 : x37 = nI (jkN x) := by rw [ex37]; exact jn_jk hset
    refine lv_iload hx hb dX6_bestPart_39 (lv_at hl 0 rfl) ?_
    refine lv_aload_n hx hb dX6_bestPart_41 rfl (lv_at hl 1 rfl) ?_
    refine va_get (D := D) (ci := 4) (v := .long y) (C := RX6) (T := TX6) (N := 13) hx hb hts iX6 hown hK hP 0 rfl rfl 8 (by decide) k45 (fun _ h9 => h9) rfl dX6_bestPart_42 ?_
    refine vp_callSi (W.runS (As := [.long y]) (rest := [.int x37]) ⟨hx, hb, hml, hown, hts⟩ (k_X0_jokersIn l y ) (va_cwS 1 hts gX6_bestPart_X0_jokersIn rfl rfl rfl (by decide +kernel) ⟨Nat.le_of_ble_eq_true rfl, Nat.le_of_ble_eq_true rfl⟩) ⟨pS_fb, pS_pre⟩ rfl rfl hl.1 rfl (lv_room (Nat.le_of_ble_eq_true rfl)) dX6_bestPart_45 ⟨Nat.le_of_ble_eq_true rfl, Nat.le_of_ble_eq_true rfl⟩) (fun x45 hx45 => ?_)
    subst hx45
    refine lv_iadd hx hb dX6_bestPart_48 ?_
    refine lv_iconst (v := 2) hx hb dX6_bestPart_49 (by decide) ?_
    refine va_mmin hx hb (hml.trans hl.1.symm) hown k80 s_va_mmin i_math c_va_mmin (Nat.le_of_ble_eq_true rfl) (Nat.le_of_ble_eq_true rfl) (Nat.zero_le _) (Nat.zero_le _) dX6_bestPart_50 ?_
    refine lv_topi (fun x53 ex53 => ?_)
    refine lv_istore (lv' := [(7, .int x53), (6, .int x37), (0, .ref wk), (1, .long x), (3, .long y), (5, .int ax)]) hx hb dX6_bestPart_53 hl (by decide) rfl (fun ls hl => ?_)
    have h53 : x53 = nI (mjN x y) := by rw [ex53, h37, jn_jk hsey]; exact bp_min
    have hj2 := mjN_le x y
    have hj3 := mjN_ge x y
    refine lv_aload_n hx hb dX6_bestPart_55 rfl (lv_at hl 2 rfl) ?_
    refine lv_iload hx hb dX6_bestPart_56 (lv_at hl 0 rfl) ?_
    have hPc := hP.sub (ws' := [(wk, .inr (4, [.ref ws6, .ref fi6, .ref ff6, .ref ga6, .int ft6, .ref ahr, .ref atr, .long x, .long y, .int jk6, .int 0, .int (bwA ax), .int un6])), (ws6, .inl (cI, 94, .inl wsf)), (fi6, .inl (cI, 94, .inl fif)), (ff6, .inl (cI, 17, .inl fff)), (ga6, .inl (cJ, 282, .inr (.inl gf))), (ahr, .inr (2, [.ref hca, .ref hla, .ref hta, .int hcn])), (hca, .inl (cJ, 768, .inr (.inl hcf))), (hla, .inl (cZ, 256, .inl hlf)), (hta, .inl (cI, 256, .inl htf)), (atr, .inr (2, [.ref tca, .ref tla, .ref tta, .int tcn])), (tca, .inl (cJ, 768, .inr (.inl tcf))), (tla, .inl (cZ, 256, .inl tlf)), (tta, .inl (cI, 256, .inl ttf))]) [0, 1, 2, 3, 4, 5, 6, 7, 8, 9, 10, 11, 12] rfl
    have hDc := hD.sub (ws' := [(wk, .inr (4, [.ref ws6, .ref fi6, .ref ff6, .ref ga6, .int ft6, .ref ahr, .ref atr, .long x, .long y, .int jk6, .int 0, .int (bwA ax), .int un6])), (ws6, .inl (cI, 94, .inl wsf)), (fi6, .inl (cI, 94, .inl fif)), (ff6, .inl (cI, 17, .inl fff)), (ga6, .inl (cJ, 282, .inr (.inl gf))), (ahr, .inr (2, [.ref hca, .ref hla, .ref hta, .int hcn])), (hca, .inl (cJ, 768, .inr (.inl hcf))), (hla, .inl (cZ, 256, .inl hlf)), (hta, .inl (cI, 256, .inl htf)), (atr, .inr (2, [.ref tca, .ref tla, .ref tta, .int tcn])), (tca, .inl (cJ, 768, .inr (.inl tcf))), (tla, .inl (cZ, 256, .inl tlf)), (tta, .inl (cI, 256, .inl ttf))]) [0, 1, 2, 3, 4, 5, 6, 7, 8, 9, 10, 11, 12] (by decide) rfl
    have hFc := va_free (wc := [(wk, .inr (4, [.ref ws6, .ref fi6, .ref ff6, .ref ga6, .int ft6, .ref ahr, .ref atr, .long x, .long y, .int jk6, .int 0, .int (bwA ax), .int un6])), (ws6, .inl (cI, 94, .inl wsf)), (fi6, .inl (cI, 94, .inl fif)), (ff6, .inl (cI, 17, .inl fff)), (ga6, .inl (cJ, 282, .inr (.inl gf))), (ahr, .inr (2, [.ref hca, .ref hla, .ref hta, .int hcn])), (hca, .inl (cJ, 768, .inr (.inl hcf))), (hla, .inl (cZ, 256, .inl hlf)), (hta, .inl (cI, 256, .inl htf)), (atr, .inr (2, [.ref tca, .ref tla, .ref tta, .int tcn])), (tca, .inl (cJ, 768, .inr (.inl tcf))), (tla, .inl (cZ, 256, .inl tlf)), (tta, .inl (cI, 256, .inl ttf))]) hD hS hA [0, 1, 2, 3, 4, 5, 6, 7, 8, 9, 10, 11, 12] rfl
    refine va_callv (va_runV (As := [.int x53]) (rest := []) ⟨hx, hb, hml, hown, hts⟩ (k_X6_goThrough l D cI cJ cZ H.size wk ws6 fi6 ff6 ga6 ahr atr ft6 jk6 0 (bwA ax) un6 x y hca hla hta tca tla tta hcn tcn (mjN x y) wsf fif fff gf hcf tcf hlf htf tlf ttf v0 v1 x53 (hj2) (h53) (hws) (hf0) (hrH) (hrT)) (cwV 1 hts gX6_bestPart_X6_goThrough rfl rfl rfl (by decide +kernel) ⟨Nat.le_of_ble_eq_true rfl, Nat.le_of_ble_eq_true rfl⟩) ⟨wM_fb, va_recv hK hPc (ci := 4) (q0 := 0) rfl rfl, wM_pre hPc ⟨hK, hN⟩ hDc⟩ rfl rfl hl.1 rfl (lv_room (Nat.le_of_ble_eq_true rfl)) dX6_bestPart_58 ⟨Nat.le_of_ble_eq_true rfl, Nat.le_of_ble_eq_true rfl⟩) hS (fun q _ h => hFc q h) hFc (fun u t H1 locs ht hvm hx58 hB hz1 hk1 hS => ?_)
    obtain ⟨ah2_x58, hc2_x58, hl2_x58, ht2_x58, at2_x58, tc2_x58, tl2_x58, tt2_x58, hcn2_x58, tcn2_x58, ft2_x58, un2_x58, fif2_x58, fff2_x58, gf2_x58, hcf2_x58, hlf2_x58, htf2_x58, tcf2_x58, tlf2_x58, ttf2_x58⟩ := u
    obtain ⟨hP1, hD1⟩ := hB
    rw [ht] at hP1
    obtain ⟨hP, hD⟩ := va_join (wr := []) (w1 := [(wk, .inr (4, [.ref ws6, .ref fi6, .ref ff6, .ref ga6, .int ft2_x58, .ref ah2_x58, .ref at2_x58, .long x, .long y, .int (nI (mjN x y)), .int 0, .int (bwA ax), .int un2_x58])), (ws6, .inl (cI, 94, .inl wsf)), (fi6, .inl (cI, 94, .inl fif2_x58)), (ff6, .inl (cI, 17, .inl fff2_x58)), (ga6, .inl (cJ, 282, .inr (.inl gf2_x58))), (ah2_x58, .inr (2, [.ref hc2_x58, .ref hl2_x58, .ref ht2_x58, .int hcn2_x58])), (hc2_x58, .inl (cJ, 768, .inr (.inl hcf2_x58))), (hl2_x58, .inl (cZ, 256, .inl hlf2_x58)), (ht2_x58, .inl (cI, 256, .inl htf2_x58)), (at2_x58, .inr (2, [.ref tc2_x58, .ref tl2_x58, .ref tt2_x58, .int tcn2_x58])), (tc2_x58, .inl (cJ, 768, .inr (.inl tcf2_x58))), (tl2_x58, .inl (cZ, 256, .inl tlf2_x58)), (tt2_x58, .inl (cI, 256, .inl ttf2_x58))]) hP hD [0, 1, 2, 3, 4, 5, 6, 7, 8, 9, 10, 11, 12] [] rfl rfl (by decide) (by decide) hk1 hFc hP1 hD1
    generalize H1 = H at hP hS ⊢
    have hP : va_P D vwCl [(wk, .inr (4, [.ref ws6, .ref fi6, .ref ff6, .ref ga6, .int ft2_x58, .ref ah2_x58, .ref at2_x58, .long x, .long y, .int (nI (mjN x y)), .int 0, .int (bwA ax), .int un2_x58])), (ws6, .inl (cI, 94, .inl wsf)), (fi6, .inl (cI, 94, .inl fif2_x58)), (ff6, .inl (cI, 17, .inl fff2_x58)), (ga6, .inl (cJ, 282, .inr (.inl gf2_x58))), (ah2_x58, .inr (2, [.ref hc2_x58, .ref hl2_x58, .ref ht2_x58, .int hcn2_x58])), (hc2_x58, .inl (cJ, 768, .inr (.inl hcf2_x58))), (hl2_x58, .inl (cZ, 256, .inl hlf2_x58)), (ht2_x58, .inl (cI, 256, .inl htf2_x58)), (at2_x58, .inr (2, [.ref tc2_x58, .ref tl2_x58, .ref tt2_x58, .int tcn2_x58])), (tc2_x58, .inl (cJ, 768, .inr (.inl tcf2_x58))), (tl2_x58, .inl (cZ, 256, .inl tlf2_x58)), (tt2_x58, .inl (cI, 256, .inl ttf2_x58))] H := hP
    have hD : va_D A [(wk, .inr (4, [.ref ws6, .ref fi6, .ref ff6, .ref ga6, .int ft2_x58, .ref ah2_x58, .ref at2_x58, .long x, .long y, .int (nI (mjN x y)), .int 0, .int (bwA ax), .int un2_x58])), (ws6, .inl (cI, 94, .inl wsf)), (fi6, .inl (cI, 94, .inl fif2_x58)), (ff6, .inl (cI, 17, .inl fff2_x58)), (ga6, .inl (cJ, 282, .inr (.inl gf2_x58))), (ah2_x58, .inr (2, [.ref hc2_x58, .ref hl2_x58, .ref ht2_x58, .int hcn2_x58])), (hc2_x58, .inl (cJ, 768, .inr (.inl hcf2_x58))), (hl2_x58, .inl (cZ, 256, .inl hlf2_x58)), (ht2_x58, .inl (cI, 256, .inl htf2_x58)), (at2_x58, .inr (2, [.ref tc2_x58, .ref tl2_x58, .ref tt2_x58, .int tcn2_x58])), (tc2_x58, .inl (cJ, 768, .inr (.inl tcf2_x58))), (tl2_x58, .inl (cZ, 256, .inl tlf2_x58)), (tt2_x58, .inl (cI, 256, .inl ttf2_x58))] := hD
    try dsimp only at hx58
    obtain ⟨g1, ⟨vt, g2⟩, vs, g3, g4, g5⟩ := hx58
    obtain ⟨gk, g6⟩ : ∃ gk : Nat → Int64, ∀ u, u < 3 → ∃ cL q, rowL htf2_x58 hcn2_x58 (vs 13) cL q ∧ gk u = gaF (vs 13) u q cL := by obtain ⟨cL, q, g7⟩ := rowL_of g5; exact ⟨fun u => gaF (vs 13) u q cL, fun u _ => ⟨cL, q, g7, rfl⟩⟩
    refine lv_lconst (v := 0) hx hb dX6_bestPart_61 (by decide) ?_
    refine lv_lstore (lv' := [(8, .long 0), (7, .int x53), (6, .int x37), (0, .ref wk), (1, .long x), (3, .long y), (5, .int ax)]) hx hb dX6_bestPart_62 hl (by decide) rfl (fun ls hl => ?_)
    refine lv_iconst (v := 0) hx hb dX6_bestPart_64 (by decide) ?_
    refine lv_istore (lv' := [(10, .int 0), (8, .long 0), (7, .int x53), (6, .int x37), (0, .ref wk), (1, .long x), (3, .long y), (5, .int ax)]) hx hb dX6_bestPart_65 hl (by decide) rfl (fun ls hl => ?_)
    refine lv_iload hx hb dX6_bestPart_67 (lv_at hl 3 rfl) ?_
    refine lv_istore (lv' := [(11, .int x37), (10, .int 0), (8, .long 0), (7, .int x53), (6, .int x37), (0, .ref wk), (1, .long x), (3, .long y), (5, .int ax)]) hx hb dX6_bestPart_69 hl (by decide) rfl (fun ls hl => ?_)
    exact lab71 _ 0 vt vs gk ah2_x58 hc2_x58 hl2_x58 ht2_x58 at2_x58 tc2_x58 tl2_x58 tt2_x58 x37 x53 0 0 x37 ft2_x58 un2_x58 fif2_x58 fff2_x58 gf2_x58 hcn2_x58 hcf2_x58 hlf2_x58 htf2_x58 tcn2_x58 tcf2_x58 tlf2_x58 ttf2_x58 (h37) (h53) (g1) (g2) (g3) (g4) (g5) (g6) (by rw [Nat.add_zero]; exact h37) (by omega) (rfl) (Nat.lt_succ_self _) _ _ hP hD hS ls (lv_sub hl [5, 6, 7, 8, 4, 3, 2, 1, 0] rfl)
  refine lv_aload_n hx hb dX6_bestPart_0 rfl (lv_at hl 0 rfl) ?_
  refine lv_lload_n hx hb dX6_bestPart_1 rfl (lv_at hl 1 rfl) ?_
  refine va_put (D := D) (ci := 4) (v := .long x) (ty := .long) (C := RX6) (T := TX6) (N := 13) hx hb hts iX6 tyX6 tyX6_ok nmX6 hown hK hP hD hS 0 rfl rfl 7 (by decide) k41 (fun _ h9 => h9) rfl (by decide +kernel) rfl rfl (Nat.le_of_ble_eq_true rfl) dX6_bestPart_2 (fun H locs hP hD hS => ?_)
  have hP : va_P D vwCl [(wk, .inr (4, [.ref ws6, .ref fi6, .ref ff6, .ref ga6, .int ft6, .ref ahr, .ref atr, .long x, .long my6, .int jk6, .int ct6, .int bw6, .int un6])), (ws6, .inl (cI, 94, .inl wsf)), (fi6, .inl (cI, 94, .inl fif)), (ff6, .inl (cI, 17, .inl fff)), (ga6, .inl (cJ, 282, .inr (.inl gf))), (ahr, .inr (2, [.ref hca, .ref hla, .ref hta, .int hcn])), (hca, .inl (cJ, 768, .inr (.inl hcf))), (hla, .inl (cZ, 256, .inl hlf)), (hta, .inl (cI, 256, .inl htf)), (atr, .inr (2, [.ref tca, .ref tla, .ref tta, .int tcn])), (tca, .inl (cJ, 768, .inr (.inl tcf))), (tla, .inl (cZ, 256, .inl tlf)), (tta, .inl (cI, 256, .inl ttf))] H := hP
  have hD : va_D A [(wk, .inr (4, [.ref ws6, .ref fi6, .ref ff6, .ref ga6, .int ft6, .ref ahr, .ref atr, .long x, .long my6, .int jk6, .int ct6, .int bw6, .int un6])), (ws6, .inl (cI, 94, .inl wsf)), (fi6, .inl (cI, 94, .inl fif)), (ff6, .inl (cI, 17, .inl fff)), (ga6, .inl (cJ, 282, .inr (.inl gf))), (ahr, .inr (2, [.ref hca, .ref hla, .ref hta, .int hcn])), (hca, .inl (cJ, 768, .inr (.inl hcf))), (hla, .inl (cZ, 256, .inl hlf)), (hta, .inl (cI, 256, .inl htf)), (atr, .inr (2, [.ref tca, .ref tla, .ref tta, .int tcn])), (tca, .inl (cJ, 768, .inr (.inl tcf))), (tla, .inl (cZ, 256, .inl tlf)), (tta, .inl (cI, 256, .inl ttf))] := hD
  refine lv_aload_n hx hb dX6_bestPart_5 rfl (lv_at hl 0 rfl) ?_
  refine lv_lload_n hx hb dX6_bestPart_6 rfl (lv_at hl 2 rfl) ?_
  refine va_put (D := D) (ci := 4) (v := .long y) (ty := .long) (C := RX6) (T := TX6) (N := 13) hx hb hts iX6 tyX6 tyX6_ok nmX6 hown hK hP hD hS 0 rfl rfl 8 (by decide) k45 (fun _ h9 => h9) rfl (by decide +kernel) rfl rfl (Nat.le_of_ble_eq_true rfl) dX6_bestPart_7 (fun H locs hP hD hS => ?_)
  have hP : va_P D vwCl [(wk, .inr (4, [.ref ws6, .ref fi6, .ref ff6, .ref ga6, .int ft6, .ref ahr, .ref atr, .long x, .long y, .int jk6, .int ct6, .int bw6, .int un6])), (ws6, .inl (cI, 94, .inl wsf)), (fi6, .inl (cI, 94, .inl fif)), (ff6, .inl (cI, 17, .inl fff)), (ga6, .inl (cJ, 282, .inr (.inl gf))), (ahr, .inr (2, [.ref hca, .ref hla, .ref hta, .int hcn])), (hca, .inl (cJ, 768, .inr (.inl hcf))), (hla, .inl (cZ, 256, .inl hlf)), (hta, .inl (cI, 256, .inl htf)), (atr, .inr (2, [.ref tca, .ref tla, .ref tta, .int tcn])), (tca, .inl (cJ, 768, .inr (.inl tcf))), (tla, .inl (cZ, 256, .inl tlf)), (tta, .inl (cI, 256, .inl ttf))] H := hP
  have hD : va_D A [(wk, .inr (4, [.ref ws6, .ref fi6, .ref ff6, .ref ga6, .int ft6, .ref ahr, .ref atr, .long x, .long y, .int jk6, .int ct6, .int bw6, .int un6])), (ws6, .inl (cI, 94, .inl wsf)), (fi6, .inl (cI, 94, .inl fif)), (ff6, .inl (cI, 17, .inl fff)), (ga6, .inl (cJ, 282, .inr (.inl gf))), (ahr, .inr (2, [.ref hca, .ref hla, .ref hta, .int hcn])), (hca, .inl (cJ, 768, .inr (.inl hcf))), (hla, .inl (cZ, 256, .inl hlf)), (hta, .inl (cI, 256, .inl htf)), (atr, .inr (2, [.ref tca, .ref tla, .ref tta, .int tcn])), (tca, .inl (cJ, 768, .inr (.inl tcf))), (tla, .inl (cZ, 256, .inl tlf)), (tta, .inl (cI, 256, .inl ttf))] := hD
  refine lv_aload_n hx hb dX6_bestPart_10 rfl (lv_at hl 0 rfl) ?_
  refine lv_iconst (v := 0) hx hb dX6_bestPart_11 (by decide) ?_
  refine va_put (D := D) (ci := 4) (v := .int 0) (ty := .boolean) (C := RX6) (T := TX6) (N := 13) hx hb hts iX6 tyX6 tyX6_ok nmX6 hown hK hP hD hS 0 rfl rfl 10 (by decide) k48 (fun _ h9 => h9) rfl (by decide +kernel) rfl rfl (Nat.le_of_ble_eq_true rfl) dX6_bestPart_12 (fun H locs hP hD hS => ?_)
  have hP : va_P D vwCl [(wk, .inr (4, [.ref ws6, .ref fi6, .ref ff6, .ref ga6, .int ft6, .ref ahr, .ref atr, .long x, .long y, .int jk6, .int 0, .int bw6, .int un6])), (ws6, .inl (cI, 94, .inl wsf)), (fi6, .inl (cI, 94, .inl fif)), (ff6, .inl (cI, 17, .inl fff)), (ga6, .inl (cJ, 282, .inr (.inl gf))), (ahr, .inr (2, [.ref hca, .ref hla, .ref hta, .int hcn])), (hca, .inl (cJ, 768, .inr (.inl hcf))), (hla, .inl (cZ, 256, .inl hlf)), (hta, .inl (cI, 256, .inl htf)), (atr, .inr (2, [.ref tca, .ref tla, .ref tta, .int tcn])), (tca, .inl (cJ, 768, .inr (.inl tcf))), (tla, .inl (cZ, 256, .inl tlf)), (tta, .inl (cI, 256, .inl ttf))] H := hP
  have hD : va_D A [(wk, .inr (4, [.ref ws6, .ref fi6, .ref ff6, .ref ga6, .int ft6, .ref ahr, .ref atr, .long x, .long y, .int jk6, .int 0, .int bw6, .int un6])), (ws6, .inl (cI, 94, .inl wsf)), (fi6, .inl (cI, 94, .inl fif)), (ff6, .inl (cI, 17, .inl fff)), (ga6, .inl (cJ, 282, .inr (.inl gf))), (ahr, .inr (2, [.ref hca, .ref hla, .ref hta, .int hcn])), (hca, .inl (cJ, 768, .inr (.inl hcf))), (hla, .inl (cZ, 256, .inl hlf)), (hta, .inl (cI, 256, .inl htf)), (atr, .inr (2, [.ref tca, .ref tla, .ref tta, .int tcn])), (tca, .inl (cJ, 768, .inr (.inl tcf))), (tla, .inl (cZ, 256, .inl tlf)), (tta, .inl (cI, 256, .inl ttf))] := hD
  refine lv_aload_n hx hb dX6_bestPart_15 rfl (lv_at hl 0 rfl) ?_
  refine lv_iload hx hb dX6_bestPart_16 (lv_at hl 3 rfl) ?_
  refine lv_iconst (v := 1) hx hb dX6_bestPart_18 (by decide) ?_
  refine lv_icmp_ne (tgt := 26) hx hb dX6_bestPart_19 (by decide) (fun c_19 => ?_) (fun c_19 => ?_)
  · refine lv_iconst (v := 0) hx hb dX6_bestPart_26 (by decide) ?_
    exact lab27 0 ((if_neg c_19).symm) _ _ hP hD hS ls (lv_sub hl [0, 1, 2, 3] rfl)
  · refine lv_iconst (v := 1) hx hb dX6_bestPart_22 (by decide) ?_
    refine lv_goto (tgt := 27) hx hb dX6_bestPart_23 (by decide) ?_
    exact lab27 1 ((if_pos c_19).symm) _ _ hP hD hS ls (lv_sub hl [0, 1, 2, 3] rfl)
