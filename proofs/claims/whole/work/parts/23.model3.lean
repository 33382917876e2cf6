def trm (x : Int64) (w : Nat → Int64) (k m p : Nat) : Int64 := match bhN m k p (decide (0 < p) && !hsB x k) with
  | none => 0
  | some t => w (3840 * (k + 1) + t)
def csF (x : Int64) (w : Nat → Int64) (k m : Nat) : Nat → Int64
  | 0 => 0
  | p + 1 => if p < bN (hsB x k) then 0 else csF x w k m p + trm x w k m p
def baseW (x : Int64) (m : Nat) : Int64 := if j_X8_isWhole (nI m) = 0 then 0 else if j_X8_jokers (nI m) = j_X8_jokersOf x then 1 else 0
/-- the reference's table of ways -/
def WaysEq (x : Int64) (w : Nat → Int64) : Prop := (∀ m, m < 3840 → w (199680 + m) = baseW x m) ∧ ∀ k, k < 52 → ∀ m, m < 3840 → w (3840 * k + m) = csF x w k m 4
theorem bN_le (b : Bool) : bN b ≤ 1 := by unfold bN; split <;> omega
theorem csF_0 (x : Int64) (w : Nat → Int64) (k m : Nat) : (0 : Int64) = csF x w k m (bN (hsB x k)) := by
  cases h : hsB x k with
  | false => rfl
  | true =>
    show (0 : Int64) = if 0 < bN (hsB x k) then 0 else _
    rw [h]; rfl
theorem csF_s {x : Int64} {w : Nat → Int64} {k m p : Nat} (h : bN (hsB x k) ≤ p) : csF x w k m (p + 1) = csF x w k m p + trm x w k m p := by
  show (if _ then _ else _) = _
  rw [if_neg (by omega)]
theorem trm_congr {x : Int64} {w w2 : Nat → Int64} {k m p : Nat} (h : ∀ i, 3840 * (k + 1) ≤ i → w2 i = w i) : trm x w2 k m p = trm x w k m p := by
  unfold trm
  split
  · rfl
  · exact h _ (by omega)
theorem csF_congr {x : Int64} {w w2 : Nat → Int64} {k m : Nat} (h : ∀ i, 3840 * (k + 1) ≤ i → w2 i = w i) : ∀ q, csF x w2 k m q = csF x w k m q
  | 0 => rfl
  | q + 1 => by
    show (if _ then _ else _) = (if _ then _ else _)
    rw [csF_congr h q, trm_congr h]
theorem hp_at {w w2 : Nat → Int64} {z : Int32} {v : Int64} {c i : Nat} {f : Nat → Int64} (hz : z = nI (c + i)) (hc : c + i < 2 ^ 31) (e : vp_updL w z.toNatClampNeg v = w2) (h : ∀ m, m < i → w (c + m) = f m) (hv : v = f i) : ∀ m, m < i + 1 → w2 (c + m) = f m := by
  intro m hm
  subst hz
  rw [nI_clamp hc] at e
  subst e
  by_cases q : m = i
  · subst q; rw [pk_uLs]; exact hv
  · rw [pk_uLn (by omega)]; exact h m (by omega)
theorem ways_row {x : Int64} {w w2 : Nat → Int64} {z : Int32} {v : Int64} {n m1 : Nat} (hn : 0 < n) (hn2 : n ≤ 52) (hm : m1 < 3840) (hz : z = nI (3840 * (n - 1) + m1)) (e : vp_updL w z.toNatClampNeg v = w2) (hB : ∀ m, m < 3840 → w (199680 + m) = baseW x m) (hE : ∀ k, n ≤ k → k < 52 → ∀ m, m < 3840 → w (3840 * k + m) = csF x w k m 4) (hM : ∀ m, m < m1 → w (3840 * (n - 1) + m) = csF x w (n - 1) m 4) (hv : v = csF x w (n - 1) m1 4) : (∀ m, m < 3840 → w2 (199680 + m) = baseW x m) ∧ (∀ k, n ≤ k → k < 52 → ∀ m, m < 3840 → w2 (3840 * k + m) = csF x w2 k m 4) ∧ (∀ m, m < m1 + 1 → w2 (3840 * (n - 1) + m) = csF x w2 (n - 1) m 4) := by
  subst hz
  rw [nI_clamp (by omega)] at e
  have hw : ∀ i, ¬ i = 3840 * (n - 1) + m1 → w2 i = w i := fun i hi => by rw [← e]; exact pk_uLn hi
  have hc : ∀ k, n ≤ k + 1 → ∀ m q, csF x w2 k m q = csF x w k m q := fun k hk m q => csF_congr (fun i hi => hw i (by omega)) q
  refine ⟨fun m h => ?_, fun k h1 h2 m h3 => ?_, fun m h => ?_⟩
  · rw [hw _ (by omega)]; exact hB m h
  · rw [hw _ (by omega), hc k (by omega)]; exact hE k h1 h2 m h3
  · rw [hc (n - 1) (by omega)]
    by_cases q : m = m1
    · subst q; rw [← e, pk_uLs]; exact hv
    · rw [hw _ (by omega)]; exact hM m (by omega)
theorem its1 {b : Bool} {x : Int32} (h : x = nI (bN b)) (c : ¬ x = 0) : (1 : Int32) = nI (bN b) := by cases b with
  | true => rfl
  | false => exact absurd h c
theorem its0 {b : Bool} {x : Int32} (h : x = nI (bN b)) (c : x = 0) : (0 : Int32) = nI (bN b) := c.symm.trans h
theorem itsT {b : Bool} {x : Int32} (h : x = nI (bN b)) (c : ¬ x = 0) : b = true := by cases b with
  | true => rfl
  | false => exact absurd h c
theorem itsF {b : Bool} {x : Int32} (h : x = nI (bN b)) (c : x = 0) : b = false := by cases b with
  | false => rfl
  | true => exact absurd (h.symm.trans c) (by decide)
theorem bjA {x : Int32} {p : Nat} (h : x = nI p) (hp : p < 5) (c : x ≤ 0) (b : Bool) : (0 : Int32) = nI (bN (decide (0 < p) && b)) := by
  rw [h, show (0 : Int32) = nI 0 from rfl, nI_leI (by omega) (by decide)] at c
  rw [show p = 0 by omega]; rfl
theorem bjB {x : Int32} {b q : Bool} (h : x = nI (bN b)) (c : ¬ x = 0) : (0 : Int32) = nI (bN (q && !b)) := by
  rw [itsT h c]; cases q <;> rfl
theorem bjC {x y : Int32} {p : Nat} {b : Bool} (h : x = nI p) (hp : p < 5) (c : ¬ x ≤ 0) (h2 : y = nI (bN b)) (c2 : y = 0) : (1 : Int32) = nI (bN (decide (0 < p) && !b)) := by
  rw [h, show (0 : Int32) = nI 0 from rfl, nI_leI (by omega) (by decide)] at c
  rw [itsF h2 c2, decide_eq_true (show 0 < p by omega)]; rfl
theorem hp_n1 {x : Int32} {n : Nat} (h : x = nI n - 1) (hn : 0 < n) : x = nI (n - 1) := h.trans (hp_pm hn)
theorem hp_neg {x : Int32} {n : Nat} (h : x = nI n - 1) (hn : n ≤ 52) (c : x < 0) : n = 0 := by
  rcases Nat.eq_zero_or_pos n with q | q
  · exact q
  · rw [hp_n1 h q] at c; exact absurd c (nI_pos (by omega))
theorem hp_npos {x : Int32} {n : Nat} (h : x = nI n - 1) (c : ¬ x < 0) : 0 < n := by
  rcases Nat.eq_zero_or_pos n with q | q
  · subst q; subst h; exact absurd (by decide) c
  · exact q
theorem hp_gt3 {x : Int32} {p : Nat} (h : x = nI p) (hp : p ≤ 4) (c : 3 < x) : p = 4 := by
  rw [h, show (3 : Int32) = nI 3 from rfl, nI_ltI (by decide) (by omega)] at c; omega
theorem hp_ngt3 {x : Int32} {p : Nat} (h : x = nI p) (hp : p ≤ 4) (c : ¬ 3 < x) : p < 4 := by
  rw [h, show (3 : Int32) = nI 3 from rfl, nI_ltI (by decide) (by omega)] at c; omega
theorem hp_ix {x y : Int32} {n t : Nat} (hx : x = nI (n - 1)) (hn : 0 < n) (hy : y = nI t) : 3840 * (x + 1) + y = nI (3840 * ((n - 1) + 1) + t) := by
  rw [hx, hy, nI_1, show (3840 : Int32) = nI 3840 from rfl, pk_mul, nI_add]
theorem hp_iy {x y : Int32} {n t : Nat} (hx : x = nI n) (hy : y = nI t) : 3840 * x + y = nI (3840 * n + t) := by
  rw [hx, hy, show (3840 : Int32) = nI 3840 from rfl, pk_mul, nI_add]
theorem trm_no {x : Int64} {w : Nat → Int64} {k m p : Nat} (h : bhN m k p (decide (0 < p) && !hsB x k) = none) : trm x w k m p = 0 := by unfold trm; rw [h]
theorem trm_some {x : Int64} {w : Nat → Int64} {k m p t : Nat} (h : bhN m k p (decide (0 < p) && !hsB x k) = some t) : trm x w k m p = w (3840 * (k + 1) + t) := by unfold trm; rw [h]
theorem bh_split {x : Int32} {m k p : Nat} {b : Bool} (hm : m < 3840) (h : x = oI (bhN m k p b)) : (x = -1 → bhN m k p b = none) ∧ (¬ x = -1 → ∃ t, bhN m k p b = some t ∧ x = nI t) := by
  have hr : ∀ t, bhN m k p b = some t → t < 2 ^ 31 := fun t ht => by have := (bhN_rng hm ht).1; omega
  refine ⟨fun z => (oI_none hr).mp (h.symm.trans z), fun z => ?_⟩
  cases hb : bhN m k p b with
  | none => rw [hb] at h; exact absurd h z
  | some t => rw [hb] at h; exact ⟨t, rfl, h⟩
set_option maxHeartbeats 4000000 in
set_option maxRecDepth 100000 in
theorem k_X8_count (l : Launch) (D : va_G) (cI cJ cZ : ClassId) (sz : Nat) (m8 wa pa8 sta mo hea tha hd8 od8 cd8 opa osa : Nat) (st8 ig io op8 pl8 py wn tu la ps dr : Int32) (tb : Int64) (wf : Nat → Int64) (set : Int64) (hset : isS set) : Met l yX8_count wsX8_count ({ frames := 2, cells := 0, slots := 0, locals := 50 } : Room) (va_Pc [.ref m8, .long set] (wM D cI cJ cZ sz [(m8, .inr (6, [.int st8, .ref wa, .ref pa8, .ref sta, .ref mo, .ref hea, .ref tha, .int ig, .int io, .int op8, .int pl8, .int py, .int wn, .int tu, .int la, .int ps, .ref hd8, .ref od8, .long tb, .ref cd8, .int dr, .ref opa, .ref osa])), (wa, .inl (cJ, 203520, .inr (.inl wf)))])) (va_Qv (fun (u : (Nat → Int64)) => match u with | wf2 => (WaysEq set wf2)) (fun (u : (Nat → Int64)) t => match u with | wf2 => wB D (va_A [(m8, .inr (6, [.int st8, .ref wa, .ref pa8, .ref sta, .ref mo, .ref hea, .ref tha, .int ig, .int io, .int op8, .int pl8, .int py, .int wn, .int tu, .int la, .int ps, .ref hd8, .ref od8, .long tb, .ref cd8, .int dr, .ref opa, .ref osa])), (wa, .inl (cJ, 203520, .inr (.inl wf)))] sz) [(m8, .inr (6, [.int st8, .ref wa, .ref pa8, .ref sta, .ref mo, .ref hea, .ref tha, .int ig, .int io, .int op8, .int pl8, .int py, .int wn, .int tu, .int la, .int ps, .ref hd8, .ref od8, .long tb, .ref cd8, .int dr, .ref opa, .ref osa])), (wa, .inl (cJ, 203520, .inr (.inl wf2)))] t) (va_A [(m8, .inr (6, [.int st8, .ref wa, .ref pa8, .ref sta, .ref mo, .ref hea, .ref tha, .int ig, .int io, .int op8, .int pl8, .int py, .int wn, .int tu, .int la, .int ps, .ref hd8, .ref od8, .long tb, .ref cd8, .int dr, .ref opa, .ref osa])), (wa, .inl (cJ, 203520, .inr (.inl wf)))] sz)) 0 0 (va_A [(m8, .inr (6, [.int st8, .ref wa, .ref pa8, .ref sta, .ref mo, .ref hea, .ref tha, .int ig, .int io, .int op8, .int pl8, .int py, .int wn, .int tu, .int la, .int ps, .ref hd8, .ref od8, .long tb, .ref cd8, .int dr, .ref opa, .ref osa])), (wa, .inl (cJ, 203520, .inr (.inl wf)))] sz) := by
  refine Met.ofW (cc := cX8_count) (maxL := 10) (ret := none) (by decide) rfl ?_
  intro p e s m args below meth c s₁ B hml hv
  obtain ⟨hargs, hsz, hP, ⟨hK, hN⟩, hD0⟩ := hv
  have hx := B.exec
  have hb := B.bytes
  have hr := B.returns
  have hlocks := B.notSynchronized
  have hts := atoms_spec (ws := wsX8_count) B.pre
  have hown : s.vm.findClass RX8 = some m.cls := findClass_of_methodNamed B.named
  have k8 := hts (.fieldLink RX8 8 "RummyTableModel" "ways" "[J") (by decide +kernel)
  have iX8 : ∀ w ∈ wsX80, w ∈ wsX8_count := by decide +kernel
  have k82 := hts (.methodLink RX8 82 yX8_behind) (by decide +kernel)
  have k55 := hts (.methodLink RX8 55 yX8_has) (by decide +kernel)
  have k73 := hts (.constant RX8 73 (199680)) (by decide +kernel)
  have k74 := hts (.methodLink RX8 74 yX8_isWhole) (by decide +kernel)
  have k70 := hts (.methodLink RX8 70 yX8_jokers) (by decide +kernel)
  have k78 := hts (.methodLink RX8 78 yX8_jokersOf) (by decide +kernel)
  subst hsz
  have hD := hD0.self (sz := s.heap.size)
  generalize hAe : va_A [(m8, .inr (6, [.int st8, .ref wa, .ref pa8, .ref sta, .ref mo, .ref hea, .ref tha, .int ig, .int io, .int op8, .int pl8, .int py, .int wn, .int tu, .int la, .int ps, .ref hd8, .ref od8, .long tb, .ref cd8, .int dr, .ref opa, .ref osa])), (wa, .inl (cJ, 203520, .inr (.inl wf)))] s.heap.size = A at hD ⊢
  have hA : ∀ q : Nat, s.heap.size ≤ q → A q := fun q h => by rw [← hAe]; exact Or.inr h
  have hS : va_S A s.heap s.heap [] := va_S.rf
  rw [show entryFrame m args 10 = entryFrame m ([.ref m8, .long set] : List Value).toArray 10 from by rw [hargs]]
  have hl := lv_entry ([.ref m8, .long set]) (n := 10) (Nat.le_of_ble_eq_true rfl)
  rw [lg_entry_eq]
  generalize (lg_sl ([.ref m8, .long set]) ++ List.replicate (10 - (lg_sl ([.ref m8, .long set])).length) Slot.unset).toArray = ls at hl ⊢
  have hl : lv_has ls 10 [(0, .ref m8), (1, .long set)] := hl
  refine wQ (fun Q hQ => ?_)
  have lab50 : ∀ fuel50 : Nat, ∀ (n : Nat) (x3 : Int32) (wq : Nat → Int64), (h3 : x3 = nI n - 1) → (hn : n ≤ 52) → (hB : ∀ m, m < 3840 → wq (199680 + m) = baseW set m) → (hE : ∀ k, n ≤ k → k < 52 → ∀ m, m < 3840 → wq (3840 * k + m) = csF set wq k m 4) → (hfu50 : n < fuel50) → ∀ (H : Heap) (locs : List Loc), va_P D vwCl [(m8, .inr (6, [.int st8, .ref wa, .ref pa8, .ref sta, .ref mo, .ref hea, .ref tha, .int ig, .int io, .int op8, .int pl8, .int py, .int wn, .int tu, .int la, .int ps, .ref hd8, .ref od8, .long tb, .ref cd8, .int dr, .ref opa, .ref osa])), (wa, .inl (cJ, 203520, .inr (.inl wq)))] H → va_D A [(m8, .inr (6, [.int st8, .ref wa, .ref pa8, .ref sta, .ref mo, .ref hea, .ref tha, .int ig, .int io, .int op8, .int pl8, .int py, .int wn, .int tu, .int la, .int ps, .ref hd8, .ref od8, .long tb, .ref cd8, .int dr, .ref opa, .ref osa])), (wa, .inl (cJ, 203520, .inr (.inl wq)))] → va_S A s.heap H locs → ∀ ls : Array Slot, lv_has ls 10 [(0, .ref m8), (1, .long set), (3, .int x3)] → W p l e (headSpec wsX8_count ({ frames := 2, cells := 0, slots := 0, locals := 50 } : Room)).room s m args below meth c H locs 0 0 Q (F0 m 50 ls []) := by
    intro fuel50
    induction fuel50 with
    | zero =>
      intro n x3 wq h3 hn hB hE hfu50
      exact absurd hfu50 (Nat.not_lt_zero _)
    | succ fuel50 ih50 =>
      intro n x3 wq h3 hn hB hE hfu50 H locs hP hD hS ls hl
      have lab64 : ∀ fuel64 : Nat, ∀ (m1 : Nat) (x4 : Int32) (x5 : Int32) (wr : Nat → Int64), (hn0 : 0 < n) → (h4 : x4 = nI (bN (hsB set (n - 1)))) → (h5 : x5 = nI m1) → (hm1 : m1 ≤ 3840) → (hB2 : ∀ m, m < 3840 → wr (199680 + m) = baseW set m) → (hE2 : ∀ k, n ≤ k → k < 52 → ∀ m, m < 3840 → wr (3840 * k + m) = csF set wr k m 4) → (hM : ∀ m, m < m1 → wr (3840 * (n - 1) + m) = csF set wr (n - 1) m 4) → (hfu64 : 3840 - m1 < fuel64) → ∀ (H : Heap) (locs : List Loc), va_P D vwCl [(m8, .inr (6, [.int st8, .ref wa, .ref pa8, .ref sta, .ref mo, .ref hea, .ref tha, .int ig, .int io, .int op8, .int pl8, .int py, .int wn, .int tu, .int la, .int ps, .ref hd8, .ref od8, .long tb, .ref cd8, .int dr, .ref opa, .ref osa])), (wa, .inl (cJ, 203520, .inr (.inl wr)))] H → va_D A [(m8, .inr (6, [.int st8, .ref wa, .ref pa8, .ref sta, .ref mo, .ref hea, .ref tha, .int ig, .int io, .int op8, .int pl8, .int py, .int wn, .int tu, .int la, .int ps, .ref hd8, .ref od8, .long tb, .ref cd8, .int dr, .ref opa, .ref osa])), (wa, .inl (cJ, 203520, .inr (.inl wr)))] → va_S A s.heap H locs → ∀ ls : Array Slot, lv_has ls 10 [(0, .ref m8), (1, .long set), (3, .int x3), (4, .int x4), (5, .int x5)] → W p l e (headSpec wsX8_count ({ frames := 2, cells := 0, slots := 0, locals := 50 } : Room)).room s m args below meth c H locs 0 0 Q (F0 m 64 ls []) := by
        intro fuel64
        induction fuel64 with
        | zero =>
          intro m1 x4 x5 wr hn0 h4 h5 hm1 hB2 hE2 hM hfu64
          exact absurd hfu64 (Nat.not_lt_zero _)
        | succ fuel64 ih64 =>
          intro m1 x4 x5 wr hn0 h4 h5 hm1 hB2 hE2 hM hfu64 H locs hP hD hS ls hl
          have lab87 : ∀ fuel87 : Nat, ∀ (pp : Nat) (nn : Int64) (x8 : Int32), (hmlt : m1 < 3840) → (h8 : x8 = nI pp) → (hp4 : pp ≤ 4) → (hpl : bN (hsB set (n - 1)) ≤ pp) → (hs : nn = csF set wr (n - 1) m1 pp) → (hfu87 : 4 - pp < fuel87) → ∀ (H : Heap) (locs : List Loc), va_P D vwCl [(m8, .inr (6, [.int st8, .ref wa, .ref pa8, .ref sta, .ref mo, .ref hea, .ref tha, .int ig, .int io, .int op8, .int pl8, .int py, .int wn, .int tu, .int la, .int ps, .ref hd8, .ref od8, .long tb, .ref cd8, .int dr, .ref opa, .ref osa])), (wa, .inl (cJ, 203520, .inr (.inl wr)))] H → va_D A [(m8, .inr (6, [.int st8, .ref wa, .ref pa8, .ref sta, .ref mo, .ref hea, .ref tha, .int ig, .int io, .int op8, .int pl8, .int py, .int wn, .int tu, .int la, .int ps, .ref hd8, .ref od8, .long tb, .ref cd8, .int dr, .ref opa, .ref osa])), (wa, .inl (cJ, 203520, .inr (.inl wr)))] → va_S A s.heap H locs → ∀ ls : Array Slot, lv_has ls 10 [(0, .ref m8), (1, .long set), (3, .int x3), (4, .int x4), (5, .int x5), (6, .long nn), (8, .int x8)] → W p l e (headSpec wsX8_count ({ frames := 2, cells := 0, slots := 0, locals := 50 } : Room)).room s m args below meth c H locs 0 0 Q (F0 m 87 ls []) := by
            intro fuel87
            induction fuel87 with
            | zero =>
              intro pp nn x8 hmlt h8 hp4 hpl hs hfu87
              exact absurd hfu87 (Nat.not_lt_zero _)
            | succ fuel87 ih87 =>
              intro pp nn x8 hmlt h8 hp4 hpl hs hfu87 H locs hP hD hS ls hl
              refine lv_iload hx hb dX8_count_87 (lv_at hl 6 rfl) ?_
              refine lv_iconst (v := 3) hx hb dX8_count_89 (by decide) ?_
              refine lv_icmp_gt (tgt := 150) hx hb dX8_count_90 (by decide) (fun c_90 => ?_) (fun c_90 => ?_)
              · have hp9 : pp = 4 := hp_gt3 h8 hp4 c_90
                subst hp9
                have hx3 : x3 = nI (n - 1) := hp_n1 h3 hn0
                have hz164 := hp_iy hx3 h5
                refine lv_aload_n hx hb dX8_count_150 rfl (lv_at hl 0 rfl) ?_
                refine va_get (D := D) (ci := 6) (v := .ref wa) (C := RX8) (T := TX8) (N := 23) hx hb hts iX8 hown hK hP 0 rfl rfl 1 (by decide) k8 (fun _ h9 => h9) rfl dX8_count_151 ?_
                refine lv_sipush (v := 3840) hx hb dX8_count_154 (by decide) ?_
                refine lv_iload_n hx hb dX8_count_157 rfl (lv_at hl 2 rfl) ?_
                refine lv_imul hx hb dX8_count_158 ?_
                refine lv_iload hx hb dX8_count_159 (lv_at hl 4 rfl) ?_
                refine lv_iadd hx hb dX8_count_161 ?_
                refine lv_lload hx hb dX8_count_162 (lv_at hl 5 rfl) ?_
                refine va_last hx hb hK hP hD hS 1 1 rfl rfl (by rw [hz164]; exact vp_in_nI (by omega) (by decide)) dX8_count_164 (fun H locs hP hD hS => ?_)
                have hP : va_P D vwCl [(m8, .inr (6, [.int st8, .ref wa, .ref pa8, .ref sta, .ref mo, .ref hea, .ref tha, .int ig, .int io, .int op8, .int pl8, .int py, .int wn, .int tu, .int la, .int ps, .ref hd8, .ref od8, .long tb, .ref cd8, .int dr, .ref opa, .ref osa])), (wa, .inl (cJ, 203520, .inr (.inl (vp_updL wr ((3840 * x3) + x5).toNatClampNeg nn))))] H := hP
                have hD : va_D A [(m8, .inr (6, [.int st8, .ref wa, .ref pa8, .ref sta, .ref mo, .ref hea, .ref tha, .int ig, .int io, .int op8, .int pl8, .int py, .int wn, .int tu, .int la, .int ps, .ref hd8, .ref od8, .long tb, .ref cd8, .int dr, .ref opa, .ref osa])), (wa, .inl (cJ, 203520, .inr (.inl (vp_updL wr ((3840 * x3) + x5).toNatClampNeg nn))))] := hD
                generalize ex164 : vp_updL wr ((3840 * x3) + x5).toNatClampNeg nn = x164 at hP hD
                have hrow := ways_row hn0 hn hmlt hz164 ex164 hB2 hE2 hM hs
                obtain ⟨x165, ex165⟩ : ∃ y : Int32, y = x5 + 1 := ⟨_, rfl⟩
                refine lv_iinc (v := x165) (lv' := [(5, .int x165), (0, .ref m8), (1, .long set), (3, .int x3), (4, .int x4), (6, .long nn), (8, .int x8)]) hx hb dX8_count_165 hl (k := 4) rfl (by rw [ex165]; rfl) (by decide) rfl (fun ls hl => ?_)
                refine lv_goto (tgt := 64) hx hb dX8_count_168 (by decide) ?_
                exact ih64 (m1 + 1) x4 x165 x164 (hn0) (h4) (hp_s ex165 h5) (by omega) (hrow.1) (hrow.2.1) (hrow.2.2) (by omega) _ _ hP hD hS ls (lv_sub hl [1, 2, 3, 4, 0] rfl)
              · have hpl4 : pp < 4 := hp_ngt3 h8 hp4 c_90
                have hx3 : x3 = nI (n - 1) := hp_n1 h3 hn0
                refine lv_iload hx hb dX8_count_93 (lv_at hl 4 rfl) ?_
                refine lv_iload_n hx hb dX8_count_95 rfl (lv_at hl 2 rfl) ?_
                refine lv_iload hx hb dX8_count_96 (lv_at hl 6 rfl) ?_
                refine lv_iload hx hb dX8_count_98 (lv_at hl 6 rfl) ?_
                refine lv_if_le (tgt := 112) hx hb dX8_count_100 (by decide) (fun c_100 => ?_) (fun c_100 => ?_)
                · refine lv_iconst (v := 0) hx hb dX8_count_112 (by decide) ?_
                  refine vp_callSi (W.runS (As := [.int x5, .int x3, .int x8, .int 0]) (rest := []) ⟨hx, hb, hml, hown, hts⟩ (k_X8_behind l x5 x3 x8 0 ) (va_cwS 4 hts gX8_count_X8_behind rfl rfl rfl (by decide +kernel) ⟨Nat.le_of_ble_eq_true rfl, Nat.le_of_ble_eq_true rfl⟩) ⟨pS_fb, pS_pre⟩ rfl rfl hl.1 rfl (lv_room (Nat.le_of_ble_eq_true rfl)) dX8_count_113 ⟨Nat.le_of_ble_eq_true rfl, Nat.le_of_ble_eq_true rfl⟩) (fun x113 hx113 => ?_)
                  subst hx113
                  refine lv_topi (fun x116 ex116 => ?_)
                  refine lv_istore (lv' := [(9, .int x116), (0, .ref m8), (1, .long set), (3, .int x3), (4, .int x4), (5, .int x5), (6, .long nn), (8, .int x8)]) hx hb dX8_count_116 hl (by decide) rfl (fun ls hl => ?_)
                  have hto : x116 = oI (bhN m1 (n - 1) pp (decide (0 < pp) && !hsB set (n - 1))) := by rw [ex116, h5, hx3, h8]; exact jb (by first | exact bjA h8 (by omega) c_100 _ | exact bjB h4 c_105 | exact bjC h8 (by omega) c_100 h4 c_105) hmlt (by omega) hpl4
                  have hsp := bh_split hmlt hto
                  refine lv_iload hx hb dX8_count_118 (lv_at hl 0 rfl) ?_
                  refine lv_iconst (v := (-1)) hx hb dX8_count_120 (by decide) ?_
                  refine lv_icmp_eq (tgt := 144) hx hb dX8_count_121 (by decide) (fun c_121 => ?_) (fun c_121 => ?_)
                  · have hnone := hsp.1 c_121
                    obtain ⟨x144, ex144⟩ : ∃ y : Int32, y = x8 + 1 := ⟨_, rfl⟩
                    refine lv_iinc (v := x144) (lv' := [(8, .int x144), (9, .int x116), (0, .ref m8), (1, .long set), (3, .int x3), (4, .int x4), (5, .int x5), (6, .long nn)]) hx hb dX8_count_144 hl (k := 7) rfl (by rw [ex144]; rfl) (by decide) rfl (fun ls hl => ?_)
                    refine lv_goto (tgt := 87) hx hb dX8_count_147 (by decide) ?_
                    exact ih87 (pp + 1) nn x144 (hmlt) (hp_s ex144 h8) (by omega) (by omega) (by rw [csF_s hpl]; first | (rw [trm_no hnone, hs]; simp; done) | (rw [ex142, hs, trm_some htt, hix, nI_clamp (by omega)])) (by omega) _ _ hP hD hS ls (lv_sub hl [2, 3, 4, 5, 6, 7, 0] rfl)
                  · obtain ⟨t, htt, htx⟩ := hsp.2 c_121
                    have hix := hp_ix hx3 hn0 htx
                    have hil := bhN_idx hmlt (by omega) htt
                    refine lv_lload hx hb dX8_count_124 (lv_at hl 6 rfl) ?_
                    refine lv_aload_n hx hb dX8_count_126 rfl (lv_at hl 1 rfl) ?_
                    refine va_get (D := D) (ci := 6) (v := .ref wa) (C := RX8) (T := TX8) (N := 23) hx hb hts iX8 hown hK hP 0 rfl rfl 1 (by decide) k8 (fun _ h9 => h9) rfl dX8_count_127 ?_
                    refine lv_sipush (v := 3840) hx hb dX8_count_130 (by decide) ?_
                    refine lv_iload_n hx hb dX8_count_133 rfl (lv_at hl 3 rfl) ?_
                    refine lv_iconst (v := 1) hx hb dX8_count_134 (by decide) ?_
                    refine lv_iadd hx hb dX8_count_135 ?_
                    refine lv_imul hx hb dX8_count_136 ?_
                    refine lv_iload hx hb dX8_count_137 (lv_at hl 0 rfl) ?_
                    refine lv_iadd hx hb dX8_count_139 ?_
                    refine va_lald hx hb hK hP 1 1 rfl rfl (by rw [hix]; exact vp_in_nI hil (by decide)) dX8_count_140 ?_
                    refine lv_ladd hx hb dX8_count_141 ?_
                    refine lv_topl (fun x142 ex142 => ?_)
                    refine lv_lstore (lv' := [(6, .long x142), (9, .int x116), (0, .ref m8), (1, .long set), (3, .int x3), (4, .int x4), (5, .int x5), (8, .int x8)]) hx hb dX8_count_142 hl (by decide) rfl (fun ls hl => ?_)
                    obtain ⟨x144, ex144⟩ : ∃ y : Int32, y = x8 + 1 := ⟨_, rfl⟩
                    refine lv_iinc (v := x144) (lv' := [(8, .int x144), (6, .long x142), (9, .int x116), (0, .ref m8), (1, .long set), (3, .int x3), (4, .int x4), (5, .int x5)]) hx hb dX8_count_144 hl (k := 7) rfl (by rw [ex144]; rfl) (by decide) rfl (fun ls hl => ?_)
                    refine lv_goto (tgt := 87) hx hb dX8_count_147 (by decide) ?_
                    exact ih87 (pp + 1) x142 x144 (hmlt) (hp_s ex144 h8) (by omega) (by omega) (by rw [csF_s hpl]; first | (rw [trm_no hnone, hs]; simp; done) | (rw [ex142, hs, trm_some htt, hix, nI_clamp (by omega)])) (by omega) _ _ hP hD hS ls (lv_sub hl [3, 4, 5, 6, 7, 1, 0] rfl)
                · refine lv_iload hx hb dX8_count_103 (lv_at hl 3 rfl) ?_
                  refine lv_if_ne (tgt := 112) hx hb dX8_count_105 (by decide) (fun c_105 => ?_) (fun c_105 => ?_)
                  · refine lv_iconst (v := 0) hx hb dX8_count_112 (by decide) ?_
                    refine vp_callSi (W.runS (As := [.int x5, .int x3, .int x8, .int 0]) (rest := []) ⟨hx, hb, hml, hown, hts⟩ (k_X8_behind l x5 x3 x8 0 ) (va_cwS 4 hts gX8_count_X8_behind rfl rfl rfl (by decide +kernel) ⟨Nat.le_of_ble_eq_true rfl, Nat.le_of_ble_eq_true rfl⟩) ⟨pS_fb, pS_pre⟩ rfl rfl hl.1 rfl (lv_room (Nat.le_of_ble_eq_true rfl)) dX8_count_113 ⟨Nat.le_of_ble_eq_true rfl, Nat.le_of_ble_eq_true rfl⟩) (fun x113 hx113 => ?_)
                    subst hx113
                    refine lv_topi (fun x116 ex116 => ?_)
                    refine lv_istore (lv' := [(9, .int x116), (0, .ref m8), (1, .long set), (3, .int x3), (4, .int x4), (5, .int x5), (6, .long nn), (8, .int x8)]) hx hb dX8_count_116 hl (by decide) rfl (fun ls hl => ?_)
                    have hto : x116 = oI (bhN m1 (n - 1) pp (decide (0 < pp) && !hsB set (n - 1))) := by rw [ex116, h5, hx3, h8]; exact jb (by first | exact bjA h8 (by omega) c_100 _ | exact bjB h4 c_105 | exact bjC h8 (by omega) c_100 h4 c_105) hmlt (by omega) hpl4
                    have hsp := bh_split hmlt hto
                    refine lv_iload hx hb dX8_count_118 (lv_at hl 0 rfl) ?_
                    refine lv_iconst (v := (-1)) hx hb dX8_count_120 (by decide) ?_
                    refine lv_icmp_eq (tgt := 144) hx hb dX8_count_121 (by decide) (fun c_121 => ?_) (fun c_121 => ?_)
                    · have hnone := hsp.1 c_121
                      obtain ⟨x144, ex144⟩ : ∃ y : Int32, y = x8 + 1 := ⟨_, rfl⟩
                      refine lv_iinc (v := x144) (lv' := [(8, .int x144), (9, .int x116), (0, .ref m8), (1, .long set), (3, .int x3), (4, .int x4), (5, .int x5), (6, .long nn)]) hx hb dX8_count_144 hl (k := 7) rfl (by rw [ex144]; rfl) (by decide) rfl (fun ls hl => ?_)
                      refine lv_goto (tgt := 87) hx hb dX8_count_147 (by decide) ?_
                      exact ih87 (pp + 1) nn x144 (hmlt) (hp_s ex144 h8) (by omega) (by omega) (by rw [csF_s hpl]; first | (rw [trm_no hnone, hs]; simp; done) | (rw [ex142, hs, trm_some htt, hix, nI_clamp (by omega)])) (by omega) _ _ hP hD hS ls (lv_sub hl [2, 3, 4, 5, 6, 7, 0] rfl)
                    · obtain ⟨t, htt, htx⟩ := hsp.2 c_121
                      have hix := hp_ix hx3 hn0 htx
                      have hil := bhN_idx hmlt (by omega) htt
                      refine lv_lload hx hb dX8_count_124 (lv_at hl 6 rfl) ?_
                      refine lv_aload_n hx hb dX8_count_126 rfl (lv_at hl 1 rfl) ?_
                      refine va_get (D := D) (ci := 6) (v := .ref wa) (C := RX8) (T := TX8) (N := 23) hx hb hts iX8 hown hK hP 0 rfl rfl 1 (by decide) k8 (fun _ h9 => h9) rfl dX8_count_127 ?_
                      refine lv_sipush (v := 3840) hx hb dX8_count_130 (by decide) ?_
                      refine lv_iload_n hx hb dX8_count_133 rfl (lv_at hl 3 rfl) ?_
                      refine lv_iconst (v := 1) hx hb dX8_count_134 (by decide) ?_
                      refine lv_iadd hx hb dX8_count_135 ?_
                      refine lv_imul hx hb dX8_count_136 ?_
                      refine lv_iload hx hb dX8_count_137 (lv_at hl 0 rfl) ?_
                      refine lv_iadd hx hb dX8_count_139 ?_
                      refine va_lald hx hb hK hP 1 1 rfl rfl (by rw [hix]; exact vp_in_nI hil (by decide)) dX8_count_140 ?_
                      refine lv_ladd hx hb dX8_count_141 ?_
                      refine lv_topl (fun x142 ex142 => ?_)
                      refine lv_lstore (lv' := [(6, .long x142), (9, .int x116), (0, .ref m8), (1, .long set), (3, .int x3), (4, .int x4), (5, .int x5), (8, .int x8)]) hx hb dX8_count_142 hl (by decide) rfl (fun ls hl => ?_)
                      obtain ⟨x144, ex144⟩ : ∃ y : Int32, y = x8 + 1 := ⟨_, rfl⟩
                      refine lv_iinc (v := x144) (lv' := [(8, .int x144), (6, .long x142), (9, .int x116), (0, .ref m8), (1, .long set), (3, .int x3), (4, .int x4), (5, .int x5)]) hx hb dX8_count_144 hl (k := 7) rfl (by rw [ex144]; rfl) (by decide) rfl (fun ls hl => ?_)
                      refine lv_goto (tgt := 87) hx hb dX8_count_147 (by decide) ?_
                      exact ih87 (pp + 1) x142 x144 (hmlt) (hp_s ex144 h8) (by omega) (by omega) (by rw [csF_s hpl]; first | (rw [trm_no hnone, hs]; simp; done) | (rw [ex142, hs, trm_some htt, hix, nI_clamp (by omega)])) (by omega) _ _ hP hD hS ls (lv_sub hl [3, 4, 5, 6, 7, 1, 0] rfl)
                  · refine lv_iconst (v := 1) hx hb dX8_count_108 (by decide) ?_
                    refine lv_goto (tgt := 113) hx hb dX8_count_109 (by decide) ?_
                    refine vp_callSi (W.runS (As := [.int x5, .int x3, .int x8, .int 1]) (rest := []) ⟨hx, hb, hml, hown, hts⟩ (k_X8_behind l x5 x3 x8 1 ) (va_cwS 4 hts gX8_count_X8_behind rfl rfl rfl (by decide +kernel) ⟨Nat.le_of_ble_eq_true rfl, Nat.le_of_ble_eq_true rfl⟩) ⟨pS_fb, pS_pre⟩ rfl rfl hl.1 rfl (lv_room (Nat.le_of_ble_eq_true rfl)) dX8_count_113 ⟨Nat.le_of_ble_eq_true rfl, Nat.le_of_ble_eq_true rfl⟩) (fun x113 hx113 => ?_)
                    subst hx113
                    refine lv_topi (fun x116 ex116 => ?_)
                    refine lv_istore (lv' := [(9, .int x116), (0, .ref m8), (1, .long set), (3, .int x3), (4, .int x4), (5, .int x5), (6, .long nn), (8, .int x8)]) hx hb dX8_count_116 hl (by decide) rfl (fun ls hl => ?_)
                    have hto : x116 = oI (bhN m1 (n - 1) pp (decide (0 < pp) && !hsB set (n - 1))) := by rw [ex116, h5, hx3, h8]; exact jb (by first | exact bjA h8 (by omega) c_100 _ | exact bjB h4 c_105 | exact bjC h8 (by omega) c_100 h4 c_105) hmlt (by omega) hpl4
                    have hsp := bh_split hmlt hto
                    refine lv_iload hx hb dX8_count_118 (lv_at hl 0 rfl) ?_
                    refine lv_iconst (v := (-1)) hx hb dX8_count_120 (by decide) ?_
                    refine lv_icmp_eq (tgt := 144) hx hb dX8_count_121 (by decide) (fun c_121 => ?_) (fun c_121 => ?_)
                    · have hnone := hsp.1 c_121
                      obtain ⟨x144, ex144⟩ : ∃ y : Int32, y = x8 + 1 := ⟨_, rfl⟩
                      refine lv_iinc (v := x144) (lv' := [(8, .int x144), (9, .int x116), (0, .ref m8), (1, .long set), (3, .int x3), (4, .int x4), (5, .int x5), (6, .long nn)]) hx hb dX8_count_144 hl (k := 7) rfl (by rw [ex144]; rfl) (by decide) rfl (fun ls hl => ?_)
                      refine lv_goto (tgt := 87) hx hb dX8_count_147 (by decide) ?_
                      exact ih87 (pp + 1) nn x144 (hmlt) (hp_s ex144 h8) (by omega) (by omega) (by rw [csF_s hpl]; first | (rw [trm_no hnone, hs]; simp; done) | (rw [ex142, hs, trm_some htt, hix, nI_clamp (by omega)])) (by omega) _ _ hP hD hS ls (lv_sub hl [2, 3, 4, 5, 6, 7, 0] rfl)
                    · obtain ⟨t, htt, htx⟩ := hsp.2 c_121
                      have hix := hp_ix hx3 hn0 htx
                      have hil := bhN_idx hmlt (by omega) htt
                      refine lv_lload hx hb dX8_count_124 (lv_at hl 6 rfl) ?_
                      refine lv_aload_n hx hb dX8_count_126 rfl (lv_at hl 1 rfl) ?_
                      refine va_get (D := D) (ci := 6) (v := .ref wa) (C := RX8) (T := TX8) (N := 23) hx hb hts iX8 hown hK hP 0 rfl rfl 1 (by decide) k8 (fun _ h9 => h9) rfl dX8_count_127 ?_
                      refine lv_sipush (v := 3840) hx hb dX8_count_130 (by decide) ?_
                      refine lv_iload_n hx hb dX8_count_133 rfl (lv_at hl 3 rfl) ?_
                      refine lv_iconst (v := 1) hx hb dX8_count_134 (by decide) ?_
                      refine lv_iadd hx hb dX8_count_135 ?_
                      refine lv_imul hx hb dX8_count_136 ?_
                      refine lv_iload hx hb dX8_count_137 (lv_at hl 0 rfl) ?_
                      refine lv_iadd hx hb dX8_count_139 ?_
                      refine va_lald hx hb hK hP 1 1 rfl rfl (by rw [hix]; exact vp_in_nI hil (by decide)) dX8_count_140 ?_
                      refine lv_ladd hx hb dX8_count_141 ?_
                      refine lv_topl (fun x142 ex142 => ?_)
                      refine lv_lstore (lv' := [(6, .long x142), (9, .int x116), (0, .ref m8), (1, .long set), (3, .int x3), (4, .int x4), (5, .int x5), (8, .int x8)]) hx hb dX8_count_142 hl (by decide) rfl (fun ls hl => ?_)
                      obtain ⟨x144, ex144⟩ : ∃ y : Int32, y = x8 + 1 := ⟨_, rfl⟩
                      refine lv_iinc (v := x144) (lv' := [(8, .int x144), (6, .long x142), (9, .int x116), (0, .ref m8), (1, .long set), (3, .int x3), (4, .int x4), (5, .int x5)]) hx hb dX8_count_144 hl (k := 7) rfl (by rw [ex144]; rfl) (by decide) rfl (fun ls hl => ?_)
                      refine lv_goto (tgt := 87) hx hb dX8_count_147 (by decide) ?_
                      exact ih87 (pp + 1) x142 x144 (hmlt) (hp_s ex144 h8) (by omega) (by omega) (by rw [csF_s hpl]; first | (rw [trm_no hnone, hs]; simp; done) | (rw [ex142, hs, trm_some htt, hix, nI_clamp (by omega)])) (by omega) _ _ hP hD hS ls (lv_sub hl [3, 4, 5, 6, 7, 1, 0] rfl)
          refine lv_iload hx hb dX8_count_64 (lv_at hl 4 rfl) ?_
          refine lv_sipush (v := 3840) hx hb dX8_count_66 (by decide) ?_
          refine lv_icmp_ge (tgt := 171) hx hb dX8_count_69 (by decide) (fun c_69 => ?_) (fun c_69 => ?_)
          · have hm9 : m1 = 3840 := hp_ge h5 (by decide : (3840 : Int32) = nI 3840) hm1 (by decide) c_69
            subst hm9
            obtain ⟨x171, ex171⟩ : ∃ y : Int32, y = x3 + (-1) := ⟨_, rfl⟩
            refine lv_iinc (v := x171) (lv' := [(3, .int x171), (0, .ref m8), (1, .long set), (4, .int x4), (5, .int x5)]) hx hb dX8_count_171 hl (k := 2) rfl (by rw [ex171]; rfl) (by decide) rfl (fun ls hl => ?_)
            refine lv_goto (tgt := 50) hx hb dX8_count_174 (by decide) ?_
            exact ih50 (n - 1) x171 wr (by rw [ex171, h3]; exact hp_wl hn0) (by omega) (hB2) (fun k h1 h2 m h4 => by rcases Nat.lt_or_ge k n with z | z; rw [show k = n - 1 by omega]; exact hM m (by omega); exact hE2 k z h2 m h4) (by omega) _ _ hP hD hS ls (lv_sub hl [1, 2, 0] rfl)
          · have hmlt : m1 < 3840 := hp_lt h5 (by decide : (3840 : Int32) = nI 3840) hm1 (by decide) c_69
            refine lv_lconst (v := 0) hx hb dX8_count_72 (by decide) ?_
            refine lv_lstore (lv' := [(6, .long 0), (0, .ref m8), (1, .long set), (3, .int x3), (4, .int x4), (5, .int x5)]) hx hb dX8_count_73 hl (by decide) rfl (fun ls hl => ?_)
            refine lv_iload hx hb dX8_count_75 (lv_at hl 4 rfl) ?_
            refine lv_if_eq (tgt := 84) hx hb dX8_count_77 (by decide) (fun c_77 => ?_) (fun c_77 => ?_)
            · refine lv_iconst (v := 0) hx hb dX8_count_84 (by decide) ?_
              refine lv_istore (lv' := [(8, .int 0), (6, .long 0), (0, .ref m8), (1, .long set), (3, .int x3), (4, .int x4), (5, .int x5)]) hx hb dX8_count_85 hl (by decide) rfl (fun ls hl => ?_)
              exact lab87 _ (bN (hsB set (n - 1))) 0 0 (hmlt) (by first | exact its1 h4 c_77 | exact its0 h4 c_77) (by have := bN_le (hsB set (n - 1)); omega) (Nat.le_refl _) (csF_0 _ _ _ _) (Nat.lt_succ_self _) _ _ hP hD hS ls (lv_sub hl [2, 3, 4, 5, 6, 1, 0] rfl)
            · refine lv_iconst (v := 1) hx hb dX8_count_80 (by decide) ?_
              refine lv_goto (tgt := 85) hx hb dX8_count_81 (by decide) ?_
              refine lv_istore (lv' := [(8, .int 1), (6, .long 0), (0, .ref m8), (1, .long set), (3, .int x3), (4, .int x4), (5, .int x5)]) hx hb dX8_count_85 hl (by decide) rfl (fun ls hl => ?_)
              exact lab87 _ (bN (hsB set (n - 1))) 0 1 (hmlt) (by first | exact its1 h4 c_77 | exact its0 h4 c_77) (by have := bN_le (hsB set (n - 1)); omega) (Nat.le_refl _) (csF_0 _ _ _ _) (Nat.lt_succ_self _) _ _ hP hD hS ls (lv_sub hl [2, 3, 4, 5, 6, 1, 0] rfl)
      refine lv_iload_n hx hb dX8_count_50 rfl (lv_at hl 2 rfl) ?_
      refine lv_if_lt (tgt := 177) hx hb dX8_count_51 (by decide) (fun c_51 => ?_) (fun c_51 => ?_)
      · have hn0 : n = 0 := hp_neg h3 hn c_51
        subst hn0
        rw [← hQ]
        have hP9 := hP.sub (ws' := [(m8, .inr (6, [.int st8, .ref wa, .ref pa8, .ref sta, .ref mo, .ref hea, .ref tha, .int ig, .int io, .int op8, .int pl8, .int py, .int wn, .int tu, .int la, .int ps, .ref hd8, .ref od8, .long tb, .ref cd8, .int dr, .ref opa, .ref osa])), (wa, .inl (cJ, 203520, .inr (.inl wq)))]) [0, 1] rfl
        have hD9 := hD.sub (ws' := [(m8, .inr (6, [.int st8, .ref wa, .ref pa8, .ref sta, .ref mo, .ref hea, .ref tha, .int ig, .int io, .int op8, .int pl8, .int py, .int wn, .int tu, .int la, .int ps, .ref hd8, .ref od8, .long tb, .ref cd8, .int dr, .ref opa, .ref osa])), (wa, .inl (cJ, 203520, .inr (.inl wq)))]) [0, 1] (by decide) rfl
        exact W.vret hx hb hr (fun t ht hW => ⟨⟨wq, rfl, ⟨hB, fun k hk => hE k (Nat.zero_le k) hk⟩, (by show wB D A _ t; exact ⟨by rw [ht]; exact hP9, hD9⟩)⟩, hS.F ht⟩) hS.2.2 dX8_count_177
      · have hn0 : 0 < n := hp_npos h3 c_51
        have hx3 : x3 = nI (n - 1) := hp_n1 h3 hn0
        refine lv_lload_n hx hb dX8_count_54 rfl (lv_at hl 1 rfl) ?_
        refine lv_iload_n hx hb dX8_count_55 rfl (lv_at hl 2 rfl) ?_
        refine vp_callSi (W.runS (As := [.long set, .int x3]) (rest := []) ⟨hx, hb, hml, hown, hts⟩ (k_X8_has l set x3 ) (va_cwS 2 hts gX8_count_X8_has rfl rfl rfl (by decide +kernel) ⟨Nat.le_of_ble_eq_true rfl, Nat.le_of_ble_eq_true rfl⟩) ⟨pS_fb, pS_pre⟩ rfl rfl hl.1 rfl (lv_room (Nat.le_of_ble_eq_true rfl)) dX8_count_56 ⟨Nat.le_of_ble_eq_true rfl, Nat.le_of_ble_eq_true rfl⟩) (fun x56 hx56 => ?_)
        subst hx56
        refine lv_topi (fun x59 ex59 => ?_)
        refine lv_istore (lv' := [(4, .int x59), (0, .ref m8), (1, .long set), (3, .int x3)]) hx hb dX8_count_59 hl (by decide) rfl (fun ls hl => ?_)
        have h59 : x59 = nI (bN (hsB set (n - 1))) := by rw [ex59, hx3]; exact jb_has hset (by omega)
        refine lv_iconst (v := 0) hx hb dX8_count_61 (by decide) ?_
        refine lv_istore (lv' := [(5, .int 0), (4, .int x59), (0, .ref m8), (1, .long set), (3, .int x3)]) hx hb dX8_count_62 hl (by decide) rfl (fun ls hl => ?_)
        exact lab64 _ 0 x59 0 wq (hn0) (h59) (nI_0.symm) (by omega) (hB) (hE) (fun m h => absurd h (Nat.not_lt_zero m)) (Nat.lt_succ_self _) _ _ hP hD hS ls (lv_sub hl [2, 3, 4, 1, 0] rfl)
  have lab2 : ∀ fuel2 : Nat, ∀ (i : Nat) (x3 : Int32) (wq : Nat → Int64), (h3 : x3 = nI i) → (hi : i ≤ 3840) → (hbb : ∀ m, m < i → wq (199680 + m) = baseW set m) → (hfu2 : 3840 - i < fuel2) → ∀ (H : Heap) (locs : List Loc), va_P D vwCl [(m8, .inr (6, [.int st8, .ref wa, .ref pa8, .ref sta, .ref mo, .ref hea, .ref tha, .int ig, .int io, .int op8, .int pl8, .int py, .int wn, .int tu, .int la, .int ps, .ref hd8, .ref od8, .long tb, .ref cd8, .int dr, .ref opa, .ref osa])), (wa, .inl (cJ, 203520, .inr (.inl wq)))] H → va_D A [(m8, .inr (6, [.int st8, .ref wa, .ref pa8, .ref sta, .ref mo, .ref hea, .ref tha, .int ig, .int io, .int op8, .int pl8, .int py, .int wn, .int tu, .int la, .int ps, .ref hd8, .ref od8, .long tb, .ref cd8, .int dr, .ref opa, .ref osa])), (wa, .inl (cJ, 203520, .inr (.inl wq)))] → va_S A s.heap H locs → ∀ ls : Array Slot, lv_has ls 10 [(0, .ref m8), (1, .long set), (3, .int x3)] → W p l e (headSpec wsX8_count ({ frames := 2, cells := 0, slots := 0, locals := 50 } : Room)).room s m args below meth c H locs 0 0 Q (F0 m 2 ls []) := by
    intro fuel2
    induction fuel2 with
    | zero =>
      intro i x3 wq h3 hi hbb hfu2
      exact absurd hfu2 (Nat.not_lt_zero _)
    | succ fuel2 ih2 =>
      intro i x3 wq h3 hi hbb hfu2 H locs hP hD hS ls hl
      refine lv_iload_n hx hb dX8_count_2 rfl (lv_at hl 2 rfl) ?_
      refine lv_sipush (v := 3840) hx hb dX8_count_3 (by decide) ?_
      refine lv_icmp_ge (tgt := 47) hx hb dX8_count_6 (by decide) (fun c_6 => ?_) (fun c_6 => ?_)
      · have hi9 : i = 3840 := hp_ge h3 (by decide : (3840 : Int32) = nI 3840) hi (by decide) c_6
        subst hi9
        refine lv_bipush (v := 51) hx hb dX8_count_47 (by decide) ?_
        refine lv_istore_n (lv' := [(3, .int 51), (0, .ref m8), (1, .long set)]) hx hb dX8_count_49 rfl hl (by decide) rfl (fun ls hl => ?_)
        exact lab50 _ 52 51 wq (by decide) (by omega) (hbb) (fun k h1 h2 => absurd h2 (by omega)) (Nat.lt_succ_self _) _ _ hP hD hS ls (lv_sub hl [1, 2, 0] rfl)
      · have hlt : i < 3840 := hp_lt h3 (by decide : (3840 : Int32) = nI 3840) hi (by decide) c_6
        have hz40 : 199680 + x3 = nI (199680 + i) := by rw [h3, show (199680 : Int32) = nI 199680 from rfl, nI_add]
        refine lv_aload_n hx hb dX8_count_9 rfl (lv_at hl 0 rfl) ?_
        refine va_get (D := D) (ci := 6) (v := .ref wa) (C := RX8) (T := TX8) (N := 23) hx hb hts iX8 hown hK hP 0 rfl rfl 1 (by decide) k8 (fun _ h9 => h9) rfl dX8_count_10 ?_
        refine lv_ldc hx hb hown k73 dX8_count_13 ?_
        refine lv_iload_n hx hb dX8_count_15 rfl (lv_at hl 2 rfl) ?_
        refine lv_iadd hx hb dX8_count_16 ?_
        refine lv_iload_n hx hb dX8_count_17 rfl (lv_at hl 2 rfl) ?_
        refine vp_callSi (W.runS (As := [.int x3]) (rest := [.int ((199680) + x3), .ref wa]) ⟨hx, hb, hml, hown, hts⟩ (k_X8_isWhole l x3 ) (va_cwS 1 hts gX8_count_X8_isWhole rfl rfl rfl (by decide +kernel) ⟨Nat.le_of_ble_eq_true rfl, Nat.le_of_ble_eq_true rfl⟩) ⟨pS_fb, pS_pre⟩ rfl rfl hl.1 rfl (lv_room (Nat.le_of_ble_eq_true rfl)) dX8_count_18 ⟨Nat.le_of_ble_eq_true rfl, Nat.le_of_ble_eq_true rfl⟩) (fun x18 hx18 => ?_)
        subst hx18
        refine lv_if_eq (tgt := 39) hx hb dX8_count_21 (by decide) (fun c_21 => ?_) (fun c_21 => ?_)
        · refine lv_lconst (v := 0) hx hb dX8_count_39 (by decide) ?_
          refine va_last hx hb hK hP hD hS 1 1 rfl rfl (by rw [hz40]; exact vp_in_nI (by omega) (by decide)) dX8_count_40 (fun H locs hP hD hS => ?_)
          have hP : va_P D vwCl [(m8, .inr (6, [.int st8, .ref wa, .ref pa8, .ref sta, .ref mo, .ref hea, .ref tha, .int ig, .int io, .int op8, .int pl8, .int py, .int wn, .int tu, .int la, .int ps, .ref hd8, .ref od8, .long tb, .ref cd8, .int dr, .ref opa, .ref osa])), (wa, .inl (cJ, 203520, .inr (.inl (vp_updL wq ((199680) + x3).toNatClampNeg 0))))] H := hP
          have hD : va_D A [(m8, .inr (6, [.int st8, .ref wa, .ref pa8, .ref sta, .ref mo, .ref hea, .ref tha, .int ig, .int io, .int op8, .int pl8, .int py, .int wn, .int tu, .int la, .int ps, .ref hd8, .ref od8, .long tb, .ref cd8, .int dr, .ref opa, .ref osa])), (wa, .inl (cJ, 203520, .inr (.inl (vp_updL wq ((199680) + x3).toNatClampNeg 0))))] := hD
          generalize ex40 : vp_updL wq ((199680) + x3).toNatClampNeg 0 = x40 at hP hD
          obtain ⟨x41, ex41⟩ : ∃ y : Int32, y = x3 + 1 := ⟨_, rfl⟩
          refine lv_iinc (v := x41) (lv' := [(3, .int x41), (0, .ref m8), (1, .long set)]) hx hb dX8_count_41 hl (k := 2) rfl (by rw [ex41]; rfl) (by decide) rfl (fun ls hl => ?_)
          refine lv_goto (tgt := 2) hx hb dX8_count_44 (by decide) ?_
          exact ih2 (i + 1) x41 x40 (hp_s ex41 h3) (by omega) (hp_at hz40 (by omega) ex40 hbb (by simp only [baseW]; rw [← h3]; (repeat' split) <;> first | rfl | contradiction)) (by omega) _ _ hP hD hS ls (lv_sub hl [1, 2, 0] rfl)
        · refine lv_iload_n hx hb dX8_count_24 rfl (lv_at hl 2 rfl) ?_
          refine vp_callSi (W.runS (As := [.int x3]) (rest := [.int ((199680) + x3), .ref wa]) ⟨hx, hb, hml, hown, hts⟩ (k_X8_jokers l x3 ) (va_cwS 1 hts gX8_count_X8_jokers rfl rfl rfl (by decide +kernel) ⟨Nat.le_of_ble_eq_true rfl, Nat.le_of_ble_eq_true rfl⟩) ⟨pS_fb, pS_pre⟩ rfl rfl hl.1 rfl (lv_room (Nat.le_of_ble_eq_true rfl)) dX8_count_25 ⟨Nat.le_of_ble_eq_true rfl, Nat.le_of_ble_eq_true rfl⟩) (fun x25 hx25 => ?_)
          subst hx25
          refine lv_lload_n hx hb dX8_count_28 rfl (lv_at hl 1 rfl) ?_
          refine vp_callSi (W.runS (As := [.long set]) (rest := [.int (j_X8_jokers x3), .int ((199680) + x3), .ref wa]) ⟨hx, hb, hml, hown, hts⟩ (k_X8_jokersOf l set ) (va_cwS 1 hts gX8_count_X8_jokersOf rfl rfl rfl (by decide +kernel) ⟨Nat.le_of_ble_eq_true rfl, Nat.le_of_ble_eq_true rfl⟩) ⟨pS_fb, pS_pre⟩ rfl rfl hl.1 rfl (lv_room (Nat.le_of_ble_eq_true rfl)) dX8_count_29 ⟨Nat.le_of_ble_eq_true rfl, Nat.le_of_ble_eq_true rfl⟩) (fun x29 hx29 => ?_)
          subst hx29
          refine lv_icmp_ne (tgt := 39) hx hb dX8_count_32 (by decide) (fun c_32 => ?_) (fun c_32 => ?_)
          · refine lv_lconst (v := 0) hx hb dX8_count_39 (by decide) ?_
            refine va_last hx hb hK hP hD hS 1 1 rfl rfl (by rw [hz40]; exact vp_in_nI (by omega) (by decide)) dX8_count_40 (fun H locs hP hD hS => ?_)
            have hP : va_P D vwCl [(m8, .inr (6, [.int st8, .ref wa, .ref pa8, .ref sta, .ref mo, .ref hea, .ref tha, .int ig, .int io, .int op8, .int pl8, .int py, .int wn, .int tu, .int la, .int ps, .ref hd8, .ref od8, .long tb, .ref cd8, .int dr, .ref opa, .ref osa])), (wa, .inl (cJ, 203520, .inr (.inl (vp_updL wq ((199680) + x3).toNatClampNeg 0))))] H := hP
            have hD : va_D A [(m8, .inr (6, [.int st8, .ref wa, .ref pa8, .ref sta, .ref mo, .ref hea, .ref tha, .int ig, .int io, .int op8, .int pl8, .int py, .int wn, .int tu, .int la, .int ps, .ref hd8, .ref od8, .long tb, .ref cd8, .int dr, .ref opa, .ref osa])), (wa, .inl (cJ, 203520, .inr (.inl (vp_updL wq ((199680) + x3).toNatClampNeg 0))))] := hD
            generalize ex40 : vp_updL wq ((199680) + x3).toNatClampNeg 0 = x40 at hP hD
            obtain ⟨x41, ex41⟩ : ∃ y : Int32, y = x3 + 1 := ⟨_, rfl⟩
            refine lv_iinc (v := x41) (lv' := [(3, .int x41), (0, .ref m8), (1, .long set)]) hx hb dX8_count_41 hl (k := 2) rfl (by rw [ex41]; rfl) (by decide) rfl (fun ls hl => ?_)
            refine lv_goto (tgt := 2) hx hb dX8_count_44 (by decide) ?_
            exact ih2 (i + 1) x41 x40 (hp_s ex41 h3) (by omega) (hp_at hz40 (by omega) ex40 hbb (by simp only [baseW]; rw [← h3]; (repeat' split) <;> first | rfl | contradiction)) (by omega) _ _ hP hD hS ls (lv_sub hl [1, 2, 0] rfl)
          · refine lv_lconst (v := 1) hx hb dX8_count_35 (by decide) ?_
            refine lv_goto (tgt := 40) hx hb dX8_count_36 (by decide) ?_
            refine va_last hx hb hK hP hD hS 1 1 rfl rfl (by rw [hz40]; exact vp_in_nI (by omega) (by decide)) dX8_count_40 (fun H locs hP hD hS => ?_)
            have hP : va_P D vwCl [(m8, .inr (6, [.int st8, .ref wa, .ref pa8, .ref sta, .ref mo, .ref hea, .ref tha, .int ig, .int io, .int op8, .int pl8, .int py, .int wn, .int tu, .int la, .int ps, .ref hd8, .ref od8, .long tb, .ref cd8, .int dr, .ref opa, .ref osa])), (wa, .inl (cJ, 203520, .inr (.inl (vp_updL wq ((199680) + x3).toNatClampNeg 1))))] H := hP
            have hD : va_D A [(m8, .inr (6, [.int st8, .ref wa, .ref pa8, .ref sta, .ref mo, .ref hea, .ref tha, .int ig, .int io, .int op8, .int pl8, .int py, .int wn, .int tu, .int la, .int ps, .ref hd8, .ref od8, .long tb, .ref cd8, .int dr, .ref opa, .ref osa])), (wa, .inl (cJ, 203520, .inr (.inl (vp_updL wq ((199680) + x3).toNatClampNeg 1))))] := hD
            generalize ex40 : vp_updL wq ((199680) + x3).toNatClampNeg 1 = x40 at hP hD
            obtain ⟨x41, ex41⟩ : ∃ y : Int32, y = x3 + 1 := ⟨_, rfl⟩
            refine lv_iinc (v := x41) (lv' := [(3, .int x41), (0, .ref m8), (1, .long set)]) hx hb dX8_count_41 hl (k := 2) rfl (by rw [ex41]; rfl) (by decide) rfl (fun ls hl => ?_)
            refine lv_goto (tgt := 2) hx hb dX8_count_44 (by decide) ?_
            exact ih2 (i + 1) x41 x40 (hp_s ex41 h3) (by omega) (hp_at hz40 (by omega) ex40 hbb (by simp only [baseW]; rw [← h3]; (repeat' split) <;> first | rfl | contradiction)) (by omega) _ _ hP hD hS ls (lv_sub hl [1, 2, 0] rfl)
  refine lv_iconst (v := 0) hx hb dX8_count_0 (by decide) ?_
  refine lv_istore_n (lv' := [(3, .int 0), (0, .ref m8), (1, .long set)]) hx hb dX8_count_1 rfl hl (by decide) rfl (fun ls hl => ?_)
  exact lab2 _ 0 0 wf (nI_0.symm) (by omega) (fun m h => absurd h (Nat.not_lt_zero m)) (Nat.lt_succ_self _) _ _ hP hD hS ls (lv_sub hl [1, 2, 0] rfl)
