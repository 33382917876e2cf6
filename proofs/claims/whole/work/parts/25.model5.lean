def aftM (mf : Nat → Int32) (k : Nat) (o : Option Nat) : Int32 := match o with
  | none => -1
  | some t => mf (3840 * (k + 1) + t)
def rkA (x y : Int64) (mf : Nat → Int32) (k m p : Nat) : Int32 := if (decide (0 < p) && (hsB x k || hsB y k)) = true then aftM mf k (bhN m k p false) else -1
def rkI (x y : Int64) (aim : Int32) (mf : Nat → Int32) (k m p : Nat) : Int32 := if rkA x y mf k m p = -1 then rkA x y mf k m p else if hsB y k = true then rkA x y mf k m p + j_X8_gain (nI k) aim else rkA x y mf k m p
def rkO (x : Int64) (mf : Nat → Int32) (k m p : Nat) : Int32 := if hsB x k = true then -1 else aftM mf k (bhN m k p (decide (0 < p)))
def mx32 (a b : Int32) : Int32 := if a < b then b else a
def rkF (x y : Int64) (aim : Int32) (mf : Nat → Int32) (k m : Nat) : Nat → Int32
  | 0 => -1
  | p + 1 => mx32 (rkF x y aim mf k m p) (mx32 (rkI x y aim mf k m p) (rkO x mf k m p))
def baseM (x y : Int64) (aim : Int32) (m : Nat) : Int32 := if j_X8_isWhole (nI m) = 0 then -1 else if j_X8_jokers (nI m) - j_X8_jokersOf x < 0 then -1 else if j_X8_jokersOf y < j_X8_jokers (nI m) - j_X8_jokersOf x then -1 else (j_X8_jokers (nI m) - j_X8_jokersOf x) * j_X8_gain 52 aim
/-- the reference's table of the most -/
def MostEq (x y : Int64) (aim : Int32) (mf : Nat → Int32) : Prop := (∀ m, m < 3840 → mf (199680 + m) = baseM x y aim m) ∧ ∀ k, k < 52 → ∀ m, m < 3840 → mf (3840 * k + m) = rkF x y aim mf k m 4
theorem aft_congr {mf m2 : Nat → Int32} {k : Nat} {o : Option Nat} (h : ∀ i, 3840 * (k + 1) ≤ i → m2 i = mf i) : aftM m2 k o = aftM mf k o := by
  cases o with
  | none => rfl
  | some t => exact h _ (by omega)
theorem rkF_congr {x y : Int64} {aim : Int32} {mf m2 : Nat → Int32} {k m : Nat} (h : ∀ i, 3840 * (k + 1) ≤ i → m2 i = mf i) : ∀ q, rkF x y aim m2 k m q = rkF x y aim mf k m q
  | 0 => rfl
  | q + 1 => by
    have h1 : rkA x y m2 k m q = rkA x y mf k m q := by unfold rkA; rw [aft_congr h]
    have h2 : rkO x m2 k m q = rkO x mf k m q := by unfold rkO; rw [aft_congr h]
    show mx32 _ (mx32 (rkI x y aim m2 k m q) _) = mx32 _ (mx32 (rkI x y aim mf k m q) _)
    rw [rkF_congr h q, h2]
    unfold rkI
    rw [h1]
theorem hp_atI {w w2 : Nat → Int32} {z v : Int32} {c i : Nat} {f : Nat → Int32} (hz : z = nI (c + i)) (hc : c + i < 2 ^ 31) (e : upd w z.toNatClampNeg v = w2) (h : ∀ m, m < i → w (c + m) = f m) (hv : v = f i) : ∀ m, m < i + 1 → w2 (c + m) = f m := by
  intro m hm
  subst hz
  rw [nI_clamp hc] at e
  subst e
  by_cases q : m = i
  · subst q; rw [pk_us]; exact hv
  · rw [pk_un (by omega)]; exact h m (by omega)
theorem most_row {x y : Int64} {aim : Int32} {w w2 : Nat → Int32} {z v : Int32} {n m1 : Nat} (hn : 0 < n) (hn2 : n ≤ 52) (hm : m1 < 3840) (hz : z = nI (3840 * (n - 1) + m1)) (e : upd w z.toNatClampNeg v = w2) (hB : ∀ m, m < 3840 → w (199680 + m) = baseM x y aim m) (hE : ∀ k, n ≤ k → k < 52 → ∀ m, m < 3840 → w (3840 * k + m) = rkF x y aim w k m 4) (hM : ∀ m, m < m1 → w (3840 * (n - 1) + m) = rkF x y aim w (n - 1) m 4) (hv : v = rkF x y aim w (n - 1) m1 4) : (∀ m, m < 3840 → w2 (199680 + m) = baseM x y aim m) ∧ (∀ k, n ≤ k → k < 52 → ∀ m, m < 3840 → w2 (3840 * k + m) = rkF x y aim w2 k m 4) ∧ (∀ m, m < m1 + 1 → w2 (3840 * (n - 1) + m) = rkF x y aim w2 (n - 1) m 4) := by
  subst hz
  rw [nI_clamp (by omega)] at e
  have hw : ∀ i, ¬ i = 3840 * (n - 1) + m1 → w2 i = w i := fun i hi => by rw [← e]; exact pk_un hi
  have hc : ∀ k, n ≤ k + 1 → ∀ m q, rkF x y aim w2 k m q = rkF x y aim w k m q := fun k hk m q => rkF_congr (fun i hi => hw i (by omega)) q
  refine ⟨fun m h => ?_, fun k h1 h2 m h3 => ?_, fun m h => ?_⟩
  · rw [hw _ (by omega)]; exact hB m h
  · rw [hw _ (by omega), hc k (by omega)]; exact hE k h1 h2 m h3
  · rw [hc (n - 1) (by omega)]
    by_cases q : m = m1
    · subst q; rw [← e, pk_us]; exact hv
    · rw [hw _ (by omega)]; exact hM m (by omega)
theorem hs1 {x : Int64} {k : Nat} (hx : isS x) (hk : k < 54) (c : ¬ j_X8_has x (nI k) = 0) : hsB x k = true := itsT (jb_has hx hk) c
theorem hs0 {x : Int64} {k : Nat} (hx : isS x) (hk : k < 54) (c : j_X8_has x (nI k) = 0) : hsB x k = false := itsF (jb_has hx hk) c
theorem le0p {x : Int32} {p : Nat} (h : x = nI p) (hp : p < 5) (c : x ≤ 0) : decide (0 < p) = false := by
  rw [h, show (0 : Int32) = nI 0 from rfl, nI_leI (by omega) (by decide)] at c
  rw [show p = 0 by omega]; rfl
theorem gt0p {x : Int32} {p : Nat} (h : x = nI p) (hp : p < 5) (c : ¬ x ≤ 0) : decide (0 < p) = true := by
  rw [h, show (0 : Int32) = nI 0 from rfl, nI_leI (by omega) (by decide)] at c
  exact decide_eq_true (by omega)
theorem bp1 {p : Nat} (h : decide (0 < p) = true) : (1 : Int32) = nI (bN (decide (0 < p))) := by rw [h]; rfl
theorem bp0 {p : Nat} (h : decide (0 < p) = false) : (0 : Int32) = nI (bN (decide (0 < p))) := by rw [h]; rfl
set_option maxHeartbeats 4000000 in
set_option maxRecDepth 100000 in
theorem k_X8_after (l : Launch) (D : va_G) (cI cJ cZ : ClassId) (m8 wa pa8 sta mo hea tha hd8 od8 cd8 opa osa : Nat) (st8 ig io op8 pl8 py wn tu la ps dr : Int32) (tb : Int64) (mf : Nat → Int32) (kx tx : Int32) (k0 : Nat) (o0 : Option Nat) (hkx : kx = nI k0) (htx : tx = oI o0) (hrng : ∀ t, o0 = some t → 3840 * (k0 + 1) + t < 203520) : Met l yX8_after wsX8_after ({ frames := 0, cells := 0, slots := 0, locals := 0 } : Room) (va_Pc [.ref m8, .int kx, .int tx] (wR D cI cJ cZ [(m8, .inr (6, [.int st8, .ref wa, .ref pa8, .ref sta, .ref mo, .ref hea, .ref tha, .int ig, .int io, .int op8, .int pl8, .int py, .int wn, .int tu, .int la, .int ps, .ref hd8, .ref od8, .long tb, .ref cd8, .int dr, .ref opa, .ref osa])), (mo, .inl (cI, 203520, .inl mf))])) (vp_Si (fun r => r = aftM mf k0 o0)) 0 0 (fun _ => False) := by
  refine Met.ofW (cc := cX8_after) (maxL := 3) (ret := (some .int)) (by decide) rfl ?_
  intro p e s m args below meth c s₁ B hml hv
  obtain ⟨hargs, hP, hK, hN⟩ := hv
  have hx := B.exec
  have hb := B.bytes
  have hr := B.returns
  have hlocks := B.notSynchronized
  have hts := atoms_spec (ws := wsX8_after) B.pre
  have hown : s.vm.findClass RX8 = some m.cls := findClass_of_methodNamed B.named
  have k22 := hts (.fieldLink RX8 22 "RummyTableModel" "most" "[I") (by decide +kernel)
  have iX8 : ∀ w ∈ wsX80, w ∈ wsX8_after := by decide +kernel
  rw [show entryFrame m args 3 = entryFrame m ([.ref m8, .int kx, .int tx] : List Value).toArray 3 from by rw [hargs]]
  have hl := lv_entry ([.ref m8, .int kx, .int tx]) (n := 3) (Nat.le_of_ble_eq_true rfl)
  rw [lg_entry_eq]
  generalize (lg_sl ([.ref m8, .int kx, .int tx]) ++ List.replicate (3 - (lg_sl ([.ref m8, .int kx, .int tx])).length) Slot.unset).toArray = ls at hl ⊢
  have hl : lv_has ls 3 [(0, .ref m8), (1, .int kx), (2, .int tx)] := hl
  refine wQ (fun Q hQ => ?_)
  refine lv_iload_n hx hb dX8_after_0 rfl (lv_at hl 2 rfl) ?_
  refine lv_iconst (v := (-1)) hx hb dX8_after_1 (by decide) ?_
  refine lv_icmp_ne (tgt := 9) hx hb dX8_after_2 (by decide) (fun c_2 => ?_) (fun c_2 => ?_)
  · obtain ⟨t, hto, htn⟩ : ∃ t, o0 = some t ∧ tx = nI t := by cases o0 with
      | none => exact absurd htx c_2
      | some t => exact ⟨t, rfl, htx⟩
    have hix : 3840 * (kx + 1) + tx = nI (3840 * (k0 + 1) + t) := by rw [hkx, htn, nI_1, show (3840 : Int32) = nI 3840 from rfl, pk_mul, nI_add]
    have hil := hrng t hto
    refine lv_aload_n hx hb dX8_after_9 rfl (lv_at hl 0 rfl) ?_
    refine va_get (D := D) (ci := 6) (v := .ref mo) (C := RX8) (T := TX8) (N := 23) hx hb hts iX8 hown hK hP 0 rfl rfl 4 (by decide) k22 (fun _ h9 => h9) rfl dX8_after_10 ?_
    refine lv_sipush (v := 3840) hx hb dX8_after_13 (by decide) ?_
    refine lv_iload_n hx hb dX8_after_16 rfl (lv_at hl 1 rfl) ?_
    refine lv_iconst (v := 1) hx hb dX8_after_17 (by decide) ?_
    refine lv_iadd hx hb dX8_after_18 ?_
    refine lv_imul hx hb dX8_after_19 ?_
    refine lv_iload_n hx hb dX8_after_20 rfl (lv_at hl 2 rfl) ?_
    refine lv_iadd hx hb dX8_after_21 ?_
    refine va_iald hx hb hK hP 1 0 rfl rfl (by rw [hix]; exact vp_in_nI hil (by decide)) dX8_after_22 ?_
    rw [← hQ]
    exact W.iret (v := mf ((3840 * (kx + 1)) + tx).toNatClampNeg) hx hb hr (fun t ht hW => ⟨_, rfl, (by first | (rw [hno]; rfl) | (rw [hto, hix, nI_clamp (by omega)]; rfl)), ht⟩) (fun _ h => by cases h) dX8_after_23
  · have hno : o0 = none := (oI_none (fun t ht => by have := hrng t ht; omega)).mp (htx.symm.trans c_2)
    refine lv_iconst (v := (-1)) hx hb dX8_after_5 (by decide) ?_
    refine lv_goto (tgt := 23) hx hb dX8_after_6 (by decide) ?_
    rw [← hQ]
    exact W.iret (v := (-1)) hx hb hr (fun t ht hW => ⟨_, rfl, (by first | (rw [hno]; rfl) | (rw [hto, hix, nI_clamp (by omega)]; rfl)), ht⟩) (fun _ h => by cases h) dX8_after_23

set_option maxHeartbeats 4000000 in
set_option maxRecDepth 100000 in
theorem k_X8_reckon (l : Launch) (D : va_G) (cI cJ cZ : ClassId) (sz : Nat) (m8 wa pa8 sta mo hea tha hd8 od8 cd8 opa osa : Nat) (st8 ig io op8 pl8 py wn tu la ps dr : Int32) (tb : Int64) (mf : Nat → Int32) (must may : Int64) (aim : Int32) (hmust : isS must) (hmay : isS may) : Met l yX8_reckon wsX8_reckon ({ frames := 2, cells := 0, slots := 0, locals := 50 } : Room) (va_Pc [.ref m8, .long must, .long may, .int aim] (wM D cI cJ cZ sz [(m8, .inr (6, [.int st8, .ref wa, .ref pa8, .ref sta, .ref mo, .ref hea, .ref tha, .int ig, .int io, .int op8, .int pl8, .int py, .int wn, .int tu, .int la, .int ps, .ref hd8, .ref od8, .long tb, .ref cd8, .int dr, .ref opa, .ref osa])), (mo, .inl (cI, 203520, .inl mf))])) (va_Qv (fun (u : (Nat → Int32)) => match u with | mf2 => (MostEq must may aim mf2)) (fun (u : (Nat → Int32)) t => match u with | mf2 => wB D (va_A [(m8, .inr (6, [.int st8, .ref wa, .ref pa8, .ref sta, .ref mo, .ref hea, .ref tha, .int ig, .int io, .int op8, .int pl8, .int py, .int wn, .int tu, .int la, .int ps, .ref hd8, .ref od8, .long tb, .ref cd8, .int dr, .ref opa, .ref osa])), (mo, .inl (cI, 203520, .inl mf))] sz) [(m8, .inr (6, [.int st8, .ref wa, .ref pa8, .ref sta, .ref mo, .ref hea, .ref tha, .int ig, .int io, .int op8, .int pl8, .int py, .int wn, .int tu, .int la, .int ps, .ref hd8, .ref od8, .long tb, .ref cd8, .int dr, .ref opa, .ref osa])), (mo, .inl (cI, 203520, .inl mf2))] t) (va_A [(m8, .inr (6, [.int st8, .ref wa, .ref pa8, .ref sta, .ref mo, .ref hea, .ref tha, .int ig, .int io, .int op8, .int pl8, .int py, .int wn, .int tu, .int la, .int ps, .ref hd8, .ref od8, .long tb, .ref cd8, .int dr, .ref opa, .ref osa])), (mo, .inl (cI, 203520, .inl mf))] sz)) 0 0 (va_A [(m8, .inr (6, [.int st8, .ref wa, .ref pa8, .ref sta, .ref mo, .ref hea, .ref tha, .int ig, .int io, .int op8, .int pl8, .int py, .int wn, .int tu, .int la, .int ps, .ref hd8, .ref od8, .long tb, .ref cd8, .int dr, .ref opa, .ref osa])), (mo, .inl (cI, 203520, .inl mf))] sz) := by
  refine Met.ofW (cc := cX8_reckon) (maxL := 12) (ret := none) (by decide) rfl ?_
  intro p e s m args below meth c s₁ B hml hv
  obtain ⟨hargs, hsz, hP, ⟨hK, hN⟩, hD0⟩ := hv
  have hx := B.exec
  have hb := B.bytes
  have hr := B.returns
  have hlocks := B.notSynchronized
  have hts := atoms_spec (ws := wsX8_reckon) B.pre
  have hown : s.vm.findClass RX8 = some m.cls := findClass_of_methodNamed B.named
  have k128 := hts (.methodLink RX8 128 Lib.Math.max.name) (by decide +kernel)
  have s_va_mmax := hts (.static Lib.Math.max.name) (by decide +kernel)
  have i_math := hts (.initialized "java/lang/Math") (by decide +kernel)
  have c_va_mmax := hts (.code Lib.Math.max.name Lib.Math.max.code 2 (some .int)) (by decide +kernel)
  have k55 := hts (.methodLink RX8 55 yX8_has) (by decide +kernel)
  have k82 := hts (.methodLink RX8 82 yX8_behind) (by decide +kernel)
  have k125 := hts (.methodLink RX8 125 yX8_after) (by decide +kernel)
  have k122 := hts (.methodLink RX8 122 yX8_gain) (by decide +kernel)
  have k22 := hts (.fieldLink RX8 22 "RummyTableModel" "most" "[I") (by decide +kernel)
  have iX8 : ∀ w ∈ wsX80, w ∈ wsX8_reckon := by decide +kernel
  have k70 := hts (.methodLink RX8 70 yX8_jokers) (by decide +kernel)
  have k78 := hts (.methodLink RX8 78 yX8_jokersOf) (by decide +kernel)
  have k73 := hts (.constant RX8 73 (199680)) (by decide +kernel)
  have k74 := hts (.methodLink RX8 74 yX8_isWhole) (by decide +kernel)
  subst hsz
  have hD := hD0.self (sz := s.heap.size)
  generalize hAe : va_A [(m8, .inr (6, [.int st8, .ref wa, .ref pa8, .ref sta, .ref mo, .ref hea, .ref tha, .int ig, .int io, .int op8, .int pl8, .int py, .int wn, .int tu, .int la, .int ps, .ref hd8, .ref od8, .long tb, .ref cd8, .int dr, .ref opa, .ref osa])), (mo, .inl (cI, 203520, .inl mf))] s.heap.size = A at hD ⊢
  have hA : ∀ q : Nat, s.heap.size ≤ q → A q := fun q h => by rw [← hAe]; exact Or.inr h
  have hS : va_S A s.heap s.heap [] := va_S.rf
  rw [show entryFrame m args 12 = entryFrame m ([.ref m8, .long must, .long may, .int aim] : List Value).toArray 12 from by rw [hargs]]
  have hl := lv_entry ([.ref m8, .long must, .long may, .int aim]) (n := 12) (Nat.le_of_ble_eq_true rfl)
  rw [lg_entry_eq]
  generalize (lg_sl ([.ref m8, .long must, .long may, .int aim]) ++ List.replicate (12 - (lg_sl ([.ref m8, .long must, .long may, .int aim])).length) Slot.unset).toArray = ls at hl ⊢
  have hl : lv_has ls 12 [(0, .ref m8), (1, .long must), (3, .long may), (5, .int aim)] := hl
  refine wQ (fun Q hQ => ?_)
  have lab79 : ∀ fuel79 : Nat, ∀ (n : Nat) (x6 : Int32) (wq : Nat → Int32), (h6 : x6 = nI n - 1) → (hn : n ≤ 52) → (hB : ∀ m, m < 3840 → wq (199680 + m) = baseM must may aim m) → (hE : ∀ k, n ≤ k → k < 52 → ∀ m, m < 3840 → wq (3840 * k + m) = rkF must may aim wq k m 4) → (hfu79 : n < fuel79) → ∀ (H : Heap) (locs : List Loc), va_P D vwCl [(m8, .inr (6, [.int st8, .ref wa, .ref pa8, .ref sta, .ref mo, .ref hea, .ref tha, .int ig, .int io, .int op8, .int pl8, .int py, .int wn, .int tu, .int la, .int ps, .ref hd8, .ref od8, .long tb, .ref cd8, .int dr, .ref opa, .ref osa])), (mo, .inl (cI, 203520, .inl wq))] H → va_D A [(m8, .inr (6, [.int st8, .ref wa, .ref pa8, .ref sta, .ref mo, .ref hea, .ref tha, .int ig, .int io, .int op8, .int pl8, .int py, .int wn, .int tu, .int la, .int ps, .ref hd8, .ref od8, .long tb, .ref cd8, .int dr, .ref opa, .ref osa])), (mo, .inl (cI, 203520, .inl wq))] → va_S A s.heap H locs → ∀ ls : Array Slot, lv_has ls 12 [(0, .ref m8), (1, .long must), (3, .long may), (5, .int aim), (6, .int x6)] → W p l e (headSpec wsX8_reckon ({ frames := 2, cells := 0, slots := 0, locals := 50 } : Room)).room s m args below meth c H locs 0 0 Q (F0 m 79 ls []) := by
    intro fuel79
    induction fuel79 with
    | zero =>
      intro n x6 wq h6 hn hB hE hfu79
      exact absurd hfu79 (Nat.not_lt_zero _)
    | succ fuel79 ih79 =>
      intro n x6 wq h6 hn hB hE hfu79 H locs hP hD hS ls hl
      have lab87 : ∀ fuel87 : Nat, ∀ (m1 : Nat) (x7 : Int32) (wr : Nat → Int32), (hn0 : 0 < n) → (h7 : x7 = nI m1) → (hm1 : m1 ≤ 3840) → (hB2 : ∀ m, m < 3840 → wr (199680 + m) = baseM must may aim m) → (hE2 : ∀ k, n ≤ k → k < 52 → ∀ m, m < 3840 → wr (3840 * k + m) = rkF must may aim wr k m 4) → (hM : ∀ m, m < m1 → wr (3840 * (n - 1) + m) = rkF must may aim wr (n - 1) m 4) → (hfu87 : 3840 - m1 < fuel87) → ∀ (H : Heap) (locs : List Loc), va_P D vwCl [(m8, .inr (6, [.int st8, .ref wa, .ref pa8, .ref sta, .ref mo, .ref hea, .ref tha, .int ig, .int io, .int op8, .int pl8, .int py, .int wn, .int tu, .int la, .int ps, .ref hd8, .ref od8, .long tb, .ref cd8, .int dr, .ref opa, .ref osa])), (mo, .inl (cI, 203520, .inl wr))] H → va_D A [(m8, .inr (6, [.int st8, .ref wa, .ref pa8, .ref sta, .ref mo, .ref hea, .ref tha, .int ig, .int io, .int op8, .int pl8, .int py, .int wn, .int tu, .int la, .int ps, .ref hd8, .ref od8, .long tb, .ref cd8, .int dr, .ref opa, .ref osa])), (mo, .inl (cI, 203520, .inl wr))] → va_S A s.heap H locs → ∀ ls : Array Slot, lv_has ls 12 [(0, .ref m8), (1, .long must), (3, .long may), (5, .int aim), (6, .int x6), (7, .int x7)] → W p l e (headSpec wsX8_reckon ({ frames := 2, cells := 0, slots := 0, locals := 50 } : Room)).room s m args below meth c H locs 0 0 Q (F0 m 87 ls []) := by
        intro fuel87
        induction fuel87 with
        | zero =>
          intro m1 x7 wr hn0 h7 hm1 hB2 hE2 hM hfu87
          exact absurd hfu87 (Nat.not_lt_zero _)
        | succ fuel87 ih87 =>
          intro m1 x7 wr hn0 h7 hm1 hB2 hE2 hM hfu87 H locs hP hD hS ls hl
          have lab101 : ∀ fuel101 : Nat, ∀ (pp : Nat) (x8 : Int32) (x9 : Int32), (hmlt : m1 < 3840) → (hx6 : x6 = nI (n - 1)) → (h9 : x9 = nI pp) → (hp4 : pp ≤ 4) → (h8 : x8 = rkF must may aim wr (n - 1) m1 pp) → (hfu101 : 4 - pp < fuel101) → ∀ (H : Heap) (locs : List Loc), va_P D vwCl [(m8, .inr (6, [.int st8, .ref wa, .ref pa8, .ref sta, .ref mo, .ref hea, .ref tha, .int ig, .int io, .int op8, .int pl8, .int py, .int wn, .int tu, .int la, .int ps, .ref hd8, .ref od8, .long tb, .ref cd8, .int dr, .ref opa, .ref osa])), (mo, .inl (cI, 203520, .inl wr))] H → va_D A [(m8, .inr (6, [.int st8, .ref wa, .ref pa8, .ref sta, .ref mo, .ref hea, .ref tha, .int ig, .int io, .int op8, .int pl8, .int py, .int wn, .int tu, .int la, .int ps, .ref hd8, .ref od8, .long tb, .ref cd8, .int dr, .ref opa, .ref osa])), (mo, .inl (cI, 203520, .inl wr))] → va_S A s.heap H locs → ∀ ls : Array Slot, lv_has ls 12 [(0, .ref m8), (1, .long must), (3, .long may), (5, .int aim), (6, .int x6), (7, .int x7), (8, .int x8), (9, .int x9)] → W p l e (headSpec wsX8_reckon ({ frames := 2, cells := 0, slots := 0, locals := 50 } : Room)).room s m args below meth c H locs 0 0 Q (F0 m 101 ls []) := by
            intro fuel101
            induction fuel101 with
            | zero =>
              intro pp x8 x9 hmlt hx6 h9 hp4 h8 hfu101
              exact absurd hfu101 (Nat.not_lt_zero _)
            | succ fuel101 ih101 =>
              intro pp x8 x9 hmlt hx6 h9 hp4 h8 hfu101 H locs hP hD hS ls hl
              have lab217 : ∀  (x10 : Int32) (x11 : Int32), (hpl4 : pp < 4) → (h10 : x10 = rkI must may aim wr (n - 1) m1 pp) → (h11 : x11 = rkO must wr (n - 1) m1 pp) → ∀ (H : Heap) (locs : List Loc), va_P D vwCl [(m8, .inr (6, [.int st8, .ref wa, .ref pa8, .ref sta, .ref mo, .ref hea, .ref tha, .int ig, .int io, .int op8, .int pl8, .int py, .int wn, .int tu, .int la, .int ps, .ref hd8, .ref od8, .long tb, .ref cd8, .int dr, .ref opa, .ref osa])), (mo, .inl (cI, 203520, .inl wr))] H → va_D A [(m8, .inr (6, [.int st8, .ref wa, .ref pa8, .ref sta, .ref mo, .ref hea, .ref tha, .int ig, .int io, .int op8, .int pl8, .int py, .int wn, .int tu, .int la, .int ps, .ref hd8, .ref od8, .long tb, .ref cd8, .int dr, .ref opa, .ref osa])), (mo, .inl (cI, 203520, .inl wr))] → va_S A s.heap H locs → ∀ ls : Array Slot, lv_has ls 12 [(0, .ref m8), (1, .long must), (3, .long may), (5, .int aim), (6, .int x6), (7, .int x7), (8, .int x8), (9, .int x9), (10, .int x10)] → W p l e (headSpec wsX8_reckon ({ frames := 2, cells := 0, slots := 0, locals := 50 } : Room)).room s m args below meth c H locs 0 0 Q (F0 m 217 ls [.int x11]) := by
                intro x10 x11 hpl4 h10 h11 H locs hP hD hS ls hl
                refine lv_istore (lv' := [(11, .int x11), (0, .ref m8), (1, .long must), (3, .long may), (5, .int aim), (6, .int x6), (7, .int x7), (8, .int x8), (9, .int x9), (10, .int x10)]) hx hb dX8_reckon_217 hl (by decide) rfl (fun ls hl => ?_)
                refine lv_iload hx hb dX8_reckon_219 (lv_at hl 7 rfl) ?_
                refine lv_iload hx hb dX8_reckon_221 (lv_at hl 9 rfl) ?_
                refine lv_iload hx hb dX8_reckon_223 (lv_at hl 0 rfl) ?_
                refine va_mmax hx hb (hml.trans hl.1.symm) hown k128 s_va_mmax i_math c_va_mmax (Nat.le_of_ble_eq_true rfl) (Nat.le_of_ble_eq_true rfl) (Nat.zero_le _) (Nat.zero_le _) dX8_reckon_225 ?_
                refine va_mmax hx hb (hml.trans hl.1.symm) hown k128 s_va_mmax i_math c_va_mmax (Nat.le_of_ble_eq_true rfl) (Nat.le_of_ble_eq_true rfl) (Nat.zero_le _) (Nat.zero_le _) dX8_reckon_228 ?_
                refine lv_topi (fun x231 ex231 => ?_)
                refine lv_istore (lv' := [(8, .int x231), (11, .int x11), (0, .ref m8), (1, .long must), (3, .long may), (5, .int aim), (6, .int x6), (7, .int x7), (9, .int x9), (10, .int x10)]) hx hb dX8_reckon_231 hl (by decide) rfl (fun ls hl => ?_)
                obtain ⟨x233, ex233⟩ : ∃ y : Int32, y = x9 + 1 := ⟨_, rfl⟩
                refine lv_iinc (v := x233) (lv' := [(9, .int x233), (8, .int x231), (11, .int x11), (0, .ref m8), (1, .long must), (3, .long may), (5, .int aim), (6, .int x6), (7, .int x7), (10, .int x10)]) hx hb dX8_reckon_233 hl (k := 8) rfl (by rw [ex233]; rfl) (by decide) rfl (fun ls hl => ?_)
                refine lv_goto (tgt := 101) hx hb dX8_reckon_236 (by decide) ?_
                exact ih101 (pp + 1) x231 x233 (hmlt) (hx6) (hp_s ex233 h9) (by omega) (by rw [ex231, h8, h10, h11]; rfl) (by omega) _ _ hP hD hS ls (lv_sub hl [3, 4, 5, 6, 7, 8, 1, 0] rfl)
              have lab179 : ∀  (x10 : Int32), (hpl4 : pp < 4) → (h10 : x10 = rkI must may aim wr (n - 1) m1 pp) → ∀ (H : Heap) (locs : List Loc), va_P D vwCl [(m8, .inr (6, [.int st8, .ref wa, .ref pa8, .ref sta, .ref mo, .ref hea, .ref tha, .int ig, .int io, .int op8, .int pl8, .int py, .int wn, .int tu, .int la, .int ps, .ref hd8, .ref od8, .long tb, .ref cd8, .int dr, .ref opa, .ref osa])), (mo, .inl (cI, 203520, .inl wr))] H → va_D A [(m8, .inr (6, [.int st8, .ref wa, .ref pa8, .ref sta, .ref mo, .ref hea, .ref tha, .int ig, .int io, .int op8, .int pl8, .int py, .int wn, .int tu, .int la, .int ps, .ref hd8, .ref od8, .long tb, .ref cd8, .int dr, .ref opa, .ref osa])), (mo, .inl (cI, 203520, .inl wr))] → va_S A s.heap H locs → ∀ ls : Array Slot, lv_has ls 12 [(0, .ref m8), (1, .long must), (3, .long may), (5, .int aim), (6, .int x6), (7, .int x7), (8, .int x8), (9, .int x9), (10, .int x10)] → W p l e (headSpec wsX8_reckon ({ frames := 2, cells := 0, slots := 0, locals := 50 } : Room)).room s m args below meth c H locs 0 0 Q (F0 m 179 ls []) := by
                intro x10 hpl4 h10 H locs hP hD hS ls hl
                refine lv_lload_n hx hb dX8_reckon_179 rfl (lv_at hl 1 rfl) ?_
                refine lv_iload hx hb dX8_reckon_180 (lv_at hl 4 rfl) ?_
                refine vp_callSi (W.runS (As := [.long must, .int x6]) (rest := []) ⟨hx, hb, hml, hown, hts⟩ (k_X8_has l must x6 ) (va_cwS 2 hts gX8_reckon_X8_has rfl rfl rfl (by decide +kernel) ⟨Nat.le_of_ble_eq_true rfl, Nat.le_of_ble_eq_true rfl⟩) ⟨pS_fb, pS_pre⟩ rfl rfl hl.1 rfl (lv_room (Nat.le_of_ble_eq_true rfl)) dX8_reckon_182 ⟨Nat.le_of_ble_eq_true rfl, Nat.le_of_ble_eq_true rfl⟩) (fun x182 hx182 => ?_)
                subst hx182
                refine lv_if_eq (tgt := 192) hx hb dX8_reckon_185 (by decide) (fun c_185 => ?_) (fun c_185 => ?_)
                · refine lv_aload_n hx hb dX8_reckon_192 rfl (lv_at hl 0 rfl) ?_
                  refine lv_iload hx hb dX8_reckon_193 (lv_at hl 4 rfl) ?_
                  refine lv_iload hx hb dX8_reckon_195 (lv_at hl 5 rfl) ?_
                  refine lv_iload hx hb dX8_reckon_197 (lv_at hl 4 rfl) ?_
                  refine lv_iload hx hb dX8_reckon_199 (lv_at hl 7 rfl) ?_
                  refine lv_iload hx hb dX8_reckon_201 (lv_at hl 7 rfl) ?_
                  refine lv_if_le (tgt := 210) hx hb dX8_reckon_203 (by decide) (fun c_203 => ?_) (fun c_203 => ?_)
                  · refine lv_iconst (v := 0) hx hb dX8_reckon_210 (by decide) ?_
                    refine vp_callSi (W.runS (As := [.int x7, .int x6, .int x9, .int 0]) (rest := [.int x6, .ref m8]) ⟨hx, hb, hml, hown, hts⟩ (k_X8_behind l x7 x6 x9 0 ) (va_cwS 4 hts gX8_reckon_X8_behind rfl rfl rfl (by decide +kernel) ⟨Nat.le_of_ble_eq_true rfl, Nat.le_of_ble_eq_true rfl⟩) ⟨pS_fb, pS_pre⟩ rfl rfl hl.1 rfl (lv_room (Nat.le_of_ble_eq_true rfl)) dX8_reckon_211 ⟨Nat.le_of_ble_eq_true rfl, Nat.le_of_ble_eq_true rfl⟩) (fun x211 hx211 => ?_)
                    subst hx211
                    have hPc := hP.sub (ws' := [(m8, .inr (6, [.int st8, .ref wa, .ref pa8, .ref sta, .ref mo, .ref hea, .ref tha, .int ig, .int io, .int op8, .int pl8, .int py, .int wn, .int tu, .int la, .int ps, .ref hd8, .ref od8, .long tb, .ref cd8, .int dr, .ref opa, .ref osa])), (mo, .inl (cI, 203520, .inl wr))]) [0, 1] rfl
                    refine vp_callSi (W.runV (As := [.int x6, .int (j_X8_behind x7 x6 x9 0)]) (rest := []) ⟨hx, hb, hml, hown, hts⟩ (k_X8_after l D cI cJ cZ m8 wa pa8 sta mo hea tha hd8 od8 cd8 opa osa st8 ig io op8 pl8 py wn tu la ps dr tb wr x6 (j_X8_behind x7 x6 x9 0) (n - 1) (bhN m1 (n - 1) pp (decide (0 < pp))) (hx6) (by rw [h7, hx6, h9]; exact jb (by first | exact bp0 (le0p h9 (by omega) c_203) | exact bp1 (gt0p h9 (by omega) c_203)) hmlt (by omega) hpl4) (fun t ht => bhN_idx hmlt (by omega) ht)) (cwV 2 hts gX8_reckon_X8_after rfl rfl rfl (by decide +kernel) ⟨Nat.le_of_ble_eq_true rfl, Nat.le_of_ble_eq_true rfl⟩) ⟨wR_fb, va_recv hK hPc (ci := 6) (q0 := 0) rfl rfl, wR_pre hPc ⟨hK, hN⟩⟩ rfl rfl hl.1 rfl (lv_room (Nat.le_of_ble_eq_true rfl)) dX8_reckon_214 ⟨Nat.le_of_ble_eq_true rfl, Nat.le_of_ble_eq_true rfl⟩) (fun x214 hx214 => ?_)
                    subst hx214
                    exact lab217 x10 (aftM wr (n - 1) (bhN m1 (n - 1) pp (decide (0 < pp)))) (hpl4) (h10) (by unfold rkO; rw [hx6] at c_185; rw [if_neg (by rw [hs0 hmust (by omega) c_185]; decide)]) _ _ hP hD hS ls (lv_sub hl [0, 1, 2, 3, 4, 5, 6, 7, 8] rfl)
                  · refine lv_iconst (v := 1) hx hb dX8_reckon_206 (by decide) ?_
                    refine lv_goto (tgt := 211) hx hb dX8_reckon_207 (by decide) ?_
                    refine vp_callSi (W.runS (As := [.int x7, .int x6, .int x9, .int 1]) (rest := [.int x6, .ref m8]) ⟨hx, hb, hml, hown, hts⟩ (k_X8_behind l x7 x6 x9 1 ) (va_cwS 4 hts gX8_reckon_X8_behind rfl rfl rfl (by decide +kernel) ⟨Nat.le_of_ble_eq_true rfl, Nat.le_of_ble_eq_true rfl⟩) ⟨pS_fb, pS_pre⟩ rfl rfl hl.1 rfl (lv_room (Nat.le_of_ble_eq_true rfl)) dX8_reckon_211 ⟨Nat.le_of_ble_eq_true rfl, Nat.le_of_ble_eq_true rfl⟩) (fun x211 hx211 => ?_)
                    subst hx211
                    have hPc := hP.sub (ws' := [(m8, .inr (6, [.int st8, .ref wa, .ref pa8, .ref sta, .ref mo, .ref hea, .ref tha, .int ig, .int io, .int op8, .int pl8, .int py, .int wn, .int tu, .int la, .int ps, .ref hd8, .ref od8, .long tb, .ref cd8, .int dr, .ref opa, .ref osa])), (mo, .inl (cI, 203520, .inl wr))]) [0, 1] rfl
                    refine vp_callSi (W.runV (As := [.int x6, .int (j_X8_behind x7 x6 x9 1)]) (rest := []) ⟨hx, hb, hml, hown, hts⟩ (k_X8_after l D cI cJ cZ m8 wa pa8 sta mo hea tha hd8 od8 cd8 opa osa st8 ig io op8 pl8 py wn tu la ps dr tb wr x6 (j_X8_behind x7 x6 x9 1) (n - 1) (bhN m1 (n - 1) pp (decide (0 < pp))) (hx6) (by rw [h7, hx6, h9]; exact jb (by first | exact bp0 (le0p h9 (by omega) c_203) | exact bp1 (gt0p h9 (by omega) c_203)) hmlt (by omega) hpl4) (fun t ht => bhN_idx hmlt (by omega) ht)) (cwV 2 hts gX8_reckon_X8_after rfl rfl rfl (by decide +kernel) ⟨Nat.le_of_ble_eq_true rfl, Nat.le_of_ble_eq_true rfl⟩) ⟨wR_fb, va_recv hK hPc (ci := 6) (q0 := 0) rfl rfl, wR_pre hPc ⟨hK, hN⟩⟩ rfl rfl hl.1 rfl (lv_room (Nat.le_of_ble_eq_true rfl)) dX8_reckon_214 ⟨Nat.le_of_ble_eq_true rfl, Nat.le_of_ble_eq_true rfl⟩) (fun x214 hx214 => ?_)
                    subst hx214
                    exact lab217 x10 (aftM wr (n - 1) (bhN m1 (n - 1) pp (decide (0 < pp)))) (hpl4) (h10) (by unfold rkO; rw [hx6] at c_185; rw [if_neg (by rw [hs0 hmust (by omega) c_185]; decide)]) _ _ hP hD hS ls (lv_sub hl [0, 1, 2, 3, 4, 5, 6, 7, 8] rfl)
                · refine lv_iconst (v := (-1)) hx hb dX8_reckon_188 (by decide) ?_
                  refine lv_goto (tgt := 217) hx hb dX8_reckon_189 (by decide) ?_
                  exact lab217 x10 (-1) (hpl4) (h10) (by unfold rkO; rw [hx6] at c_185; rw [if_pos (hs1 hmust (by omega) c_185)]) _ _ hP hD hS ls (lv_sub hl [0, 1, 2, 3, 4, 5, 6, 7, 8] rfl)
              have lab152 : ∀  (x10 : Int32), (hpl4 : pp < 4) → (h0 : x10 = rkA must may wr (n - 1) m1 pp) → ∀ (H : Heap) (locs : List Loc), va_P D vwCl [(m8, .inr (6, [.int st8, .ref wa, .ref pa8, .ref sta, .ref mo, .ref hea, .ref tha, .int ig, .int io, .int op8, .int pl8, .int py, .int wn, .int tu, .int la, .int ps, .ref hd8, .ref od8, .long tb, .ref cd8, .int dr, .ref opa, .ref osa])), (mo, .inl (cI, 203520, .inl wr))] H → va_D A [(m8, .inr (6, [.int st8, .ref wa, .ref pa8, .ref sta, .ref mo, .ref hea, .ref tha, .int ig, .int io, .int op8, .int pl8, .int py, .int wn, .int tu, .int la, .int ps, .ref hd8, .ref od8, .long tb, .ref cd8, .int dr, .ref opa, .ref osa])), (mo, .inl (cI, 203520, .inl wr))] → va_S A s.heap H locs → ∀ ls : Array Slot, lv_has ls 12 [(0, .ref m8), (1, .long must), (3, .long may), (5, .int aim), (6, .int x6), (7, .int x7), (8, .int x8), (9, .int x9), (10, .int x10)] → W p l e (headSpec wsX8_reckon ({ frames := 2, cells := 0, slots := 0, locals := 50 } : Room)).room s m args below meth c H locs 0 0 Q (F0 m 152 ls []) := by
                intro x10 hpl4 h0 H locs hP hD hS ls hl
                refine lv_iload hx hb dX8_reckon_152 (lv_at hl 8 rfl) ?_
                refine lv_iconst (v := (-1)) hx hb dX8_reckon_154 (by decide) ?_
                refine lv_icmp_eq (tgt := 179) hx hb dX8_reckon_155 (by decide) (fun c_155 => ?_) (fun c_155 => ?_)
                · exact lab179 x10 (hpl4) (by unfold rkI; rw [← h0, if_pos c_155]) _ _ hP hD hS ls (lv_sub hl [0, 1, 2, 3, 4, 5, 6, 7, 8] rfl)
                · refine lv_lload_n hx hb dX8_reckon_158 rfl (lv_at hl 2 rfl) ?_
                  refine lv_iload hx hb dX8_reckon_159 (lv_at hl 4 rfl) ?_
                  refine vp_callSi (W.runS (As := [.long may, .int x6]) (rest := []) ⟨hx, hb, hml, hown, hts⟩ (k_X8_has l may x6 ) (va_cwS 2 hts gX8_reckon_X8_has rfl rfl rfl (by decide +kernel) ⟨Nat.le_of_ble_eq_true rfl, Nat.le_of_ble_eq_true rfl⟩) ⟨pS_fb, pS_pre⟩ rfl rfl hl.1 rfl (lv_room (Nat.le_of_ble_eq_true rfl)) dX8_reckon_161 ⟨Nat.le_of_ble_eq_true rfl, Nat.le_of_ble_eq_true rfl⟩) (fun x161 hx161 => ?_)
                  subst hx161
                  refine lv_if_eq (tgt := 179) hx hb dX8_reckon_164 (by decide) (fun c_164 => ?_) (fun c_164 => ?_)
                  · exact lab179 x10 (hpl4) (by unfold rkI; rw [hx6] at c_164; rw [← h0, if_neg c_155, if_neg (by rw [hs0 hmay (by omega) c_164]; decide)]) _ _ hP hD hS ls (lv_sub hl [0, 1, 2, 3, 4, 5, 6, 7, 8] rfl)
                  · refine lv_iload hx hb dX8_reckon_167 (lv_at hl 8 rfl) ?_
                    refine lv_iload hx hb dX8_reckon_169 (lv_at hl 4 rfl) ?_
                    refine lv_iload hx hb dX8_reckon_171 (lv_at hl 3 rfl) ?_
                    refine vp_callSi (W.runS (As := [.int x6, .int aim]) (rest := [.int x10]) ⟨hx, hb, hml, hown, hts⟩ (k_X8_gain l x6 aim ) (va_cwS 2 hts gX8_reckon_X8_gain rfl rfl rfl (by decide +kernel) ⟨Nat.le_of_ble_eq_true rfl, Nat.le_of_ble_eq_true rfl⟩) ⟨pS_fb, pS_pre⟩ rfl rfl hl.1 rfl (lv_room (Nat.le_of_ble_eq_true rfl)) dX8_reckon_173 ⟨Nat.le_of_ble_eq_true rfl, Nat.le_of_ble_eq_true rfl⟩) (fun x173 hx173 => ?_)
                    subst hx173
                    refine lv_iadd hx hb dX8_reckon_176 ?_
                    refine lv_topi (fun x177 ex177 => ?_)
                    refine lv_istore (lv' := [(10, .int x177), (0, .ref m8), (1, .long must), (3, .long may), (5, .int aim), (6, .int x6), (7, .int x7), (8, .int x8), (9, .int x9)]) hx hb dX8_reckon_177 hl (by decide) rfl (fun ls hl => ?_)
                    exact lab179 x177 (hpl4) (by unfold rkI; rw [ex177, hx6] at *; rw [← h0, if_neg c_155, if_pos (hs1 hmay (by omega) c_164)]) _ _ hP hD hS ls (lv_sub hl [1, 2, 3, 4, 5, 6, 7, 8, 0] rfl)
              refine lv_iload hx hb dX8_reckon_101 (lv_at hl 7 rfl) ?_
              refine lv_iconst (v := 3) hx hb dX8_reckon_103 (by decide) ?_
              refine lv_icmp_gt (tgt := 239) hx hb dX8_reckon_104 (by decide) (fun c_104 => ?_) (fun c_104 => ?_)
              · have hp9 : pp = 4 := hp_gt3 h9 hp4 c_104
                subst hp9
                have hz254 := hp_iy hx6 h7
                refine lv_aload_n hx hb dX8_reckon_239 rfl (lv_at hl 0 rfl) ?_
                refine va_get (D := D) (ci := 6) (v := .ref mo) (C := RX8) (T := TX8) (N := 23) hx hb hts iX8 hown hK hP 0 rfl rfl 4 (by decide) k22 (fun _ h9 => h9) rfl dX8_reckon_240 ?_
                refine lv_sipush (v := 3840) hx hb dX8_reckon_243 (by decide) ?_
                refine lv_iload hx hb dX8_reckon_246 (lv_at hl 4 rfl) ?_
                refine lv_imul hx hb dX8_reckon_248 ?_
                refine lv_iload hx hb dX8_reckon_249 (lv_at hl 5 rfl) ?_
                refine lv_iadd hx hb dX8_reckon_251 ?_
                refine lv_iload hx hb dX8_reckon_252 (lv_at hl 6 rfl) ?_
                refine va_iast hx hb hK hP hD hS 1 0 rfl rfl (by rw [hz254]; exact vp_in_nI (by omega) (by decide)) dX8_reckon_254 (fun H locs hP hD hS => ?_)
                have hP : va_P D vwCl [(m8, .inr (6, [.int st8, .ref wa, .ref pa8, .ref sta, .ref mo, .ref hea, .ref tha, .int ig, .int io, .int op8, .int pl8, .int py, .int wn, .int tu, .int la, .int ps, .ref hd8, .ref od8, .long tb, .ref cd8, .int dr, .ref opa, .ref osa])), (mo, .inl (cI, 203520, .inl (upd wr ((3840 * x6) + x7).toNatClampNeg x8)))] H := hP
                have hD : va_D A [(m8, .inr (6, [.int st8, .ref wa, .ref pa8, .ref sta, .ref mo, .ref hea, .ref tha, .int ig, .int io, .int op8, .int pl8, .int py, .int wn, .int tu, .int la, .int ps, .ref hd8, .ref od8, .long tb, .ref cd8, .int dr, .ref opa, .ref osa])), (mo, .inl (cI, 203520, .inl (upd wr ((3840 * x6) + x7).toNatClampNeg x8)))] := hD
                generalize ex254 : upd wr ((3840 * x6) + x7).toNatClampNeg x8 = x254 at hP hD
                have hrow := most_row hn0 hn hmlt hz254 ex254 hB2 hE2 hM h8
                obtain ⟨x255, ex255⟩ : ∃ y : Int32, y = x7 + 1 := ⟨_, rfl⟩
                refine lv_iinc (v := x255) (lv' := [(7, .int x255), (0, .ref m8), (1, .long must), (3, .long may), (5, .int aim), (6, .int x6), (8, .int x8), (9, .int x9)]) hx hb dX8_reckon_255 hl (k := 5) rfl (by rw [ex255]; rfl) (by decide) rfl (fun ls hl => ?_)
                refine lv_goto (tgt := 87) hx hb dX8_reckon_258 (by decide) ?_
                exact ih87 (m1 + 1) x255 x254 (hn0) (hp_s ex255 h7) (by omega) (hrow.1) (hrow.2.1) (hrow.2.2) (by omega) _ _ hP hD hS ls (lv_sub hl [1, 2, 3, 4, 5, 0] rfl)
              · have hpl4 : pp < 4 := hp_ngt3 h9 hp4 c_104
                refine lv_iload hx hb dX8_reckon_107 (lv_at hl 7 rfl) ?_
                refine lv_if_le (tgt := 149) hx hb dX8_reckon_109 (by decide) (fun c_109 => ?_) (fun c_109 => ?_)
                · refine lv_iconst (v := (-1)) hx hb dX8_reckon_149 (by decide) ?_
                  refine lv_istore (lv' := [(10, .int (-1)), (0, .ref m8), (1, .long must), (3, .long may), (5, .int aim), (6, .int x6), (7, .int x7), (8, .int x8), (9, .int x9)]) hx hb dX8_reckon_150 hl (by decide) rfl (fun ls hl => ?_)
                  exact lab152 (-1) (hpl4) (by unfold rkA; first | (rw [if_neg (by rw [le0p h9 (by omega) c_109]; simp)]; done) | (rw [hx6] at c_118 c_127; rw [if_neg (by rw [hs0 hmust (by omega) c_118, hs0 hmay (by omega) c_127]; simp)]; done) | (rw [hx6] at c_118; rw [if_pos (by rw [gt0p h9 (by omega) c_109, hs1 hmust (by omega) c_118]; rfl)]; first | exact ex150 | rfl) | (rw [hx6] at c_118 c_127; rw [if_pos (by rw [gt0p h9 (by omega) c_109, hs0 hmust (by omega) c_118, hs1 hmay (by omega) c_127]; rfl)]; first | exact ex150 | rfl)) _ _ hP hD hS ls (lv_sub hl [1, 2, 3, 4, 5, 6, 7, 8, 0] rfl)
                · refine lv_lload_n hx hb dX8_reckon_112 rfl (lv_at hl 1 rfl) ?_
                  refine lv_iload hx hb dX8_reckon_113 (lv_at hl 4 rfl) ?_
                  refine vp_callSi (W.runS (As := [.long must, .int x6]) (rest := []) ⟨hx, hb, hml, hown, hts⟩ (k_X8_has l must x6 ) (va_cwS 2 hts gX8_reckon_X8_has rfl rfl rfl (by decide +kernel) ⟨Nat.le_of_ble_eq_true rfl, Nat.le_of_ble_eq_true rfl⟩) ⟨pS_fb, pS_pre⟩ rfl rfl hl.1 rfl (lv_room (Nat.le_of_ble_eq_true rfl)) dX8_reckon_115 ⟨Nat.le_of_ble_eq_true rfl, Nat.le_of_ble_eq_true rfl⟩) (fun x115 hx115 => ?_)
                  subst hx115
                  refine lv_if_ne (tgt := 130) hx hb dX8_reckon_118 (by decide) (fun c_118 => ?_) (fun c_118 => ?_)
                  · refine lv_aload_n hx hb dX8_reckon_130 rfl (lv_at hl 0 rfl) ?_
                    refine lv_iload hx hb dX8_reckon_131 (lv_at hl 4 rfl) ?_
                    refine lv_iload hx hb dX8_reckon_133 (lv_at hl 5 rfl) ?_
                    refine lv_iload hx hb dX8_reckon_135 (lv_at hl 4 rfl) ?_
                    refine lv_iload hx hb dX8_reckon_137 (lv_at hl 7 rfl) ?_
                    refine lv_iconst (v := 0) hx hb dX8_reckon_139 (by decide) ?_
                    refine vp_callSi (W.runS (As := [.int x7, .int x6, .int x9, .int 0]) (rest := [.int x6, .ref m8]) ⟨hx, hb, hml, hown, hts⟩ (k_X8_behind l x7 x6 x9 0 ) (va_cwS 4 hts gX8_reckon_X8_behind rfl rfl rfl (by decide +kernel) ⟨Nat.le_of_ble_eq_true rfl, Nat.le_of_ble_eq_true rfl⟩) ⟨pS_fb, pS_pre⟩ rfl rfl hl.1 rfl (lv_room (Nat.le_of_ble_eq_true rfl)) dX8_reckon_140 ⟨Nat.le_of_ble_eq_true rfl, Nat.le_of_ble_eq_true rfl⟩) (fun x140 hx140 => ?_)
                    subst hx140
                    have hPc := hP.sub (ws' := [(m8, .inr (6, [.int st8, .ref wa, .ref pa8, .ref sta, .ref mo, .ref hea, .ref tha, .int ig, .int io, .int op8, .int pl8, .int py, .int wn, .int tu, .int la, .int ps, .ref hd8, .ref od8, .long tb, .ref cd8, .int dr, .ref opa, .ref osa])), (mo, .inl (cI, 203520, .inl wr))]) [0, 1] rfl
                    refine vp_callSi (W.runV (As := [.int x6, .int (j_X8_behind x7 x6 x9 0)]) (rest := []) ⟨hx, hb, hml, hown, hts⟩ (k_X8_after l D cI cJ cZ m8 wa pa8 sta mo hea tha hd8 od8 cd8 opa osa st8 ig io op8 pl8 py wn tu la ps dr tb wr x6 (j_X8_behind x7 x6 x9 0) (n - 1) (bhN m1 (n - 1) pp false) (hx6) (by rw [h7, hx6, h9]; exact jb (b := false) rfl hmlt (by omega) hpl4) (fun t ht => bhN_idx hmlt (by omega) ht)) (cwV 2 hts gX8_reckon_X8_after rfl rfl rfl (by decide +kernel) ⟨Nat.le_of_ble_eq_true rfl, Nat.le_of_ble_eq_true rfl⟩) ⟨wR_fb, va_recv hK hPc (ci := 6) (q0 := 0) rfl rfl, wR_pre hPc ⟨hK, hN⟩⟩ rfl rfl hl.1 rfl (lv_room (Nat.le_of_ble_eq_true rfl)) dX8_reckon_143 ⟨Nat.le_of_ble_eq_true rfl, Nat.le_of_ble_eq_true rfl⟩) (fun x143 hx143 => ?_)
                    subst hx143
                    refine lv_goto (tgt := 150) hx hb dX8_reckon_146 (by decide) ?_
                    refine lv_topi (fun x150 ex150 => ?_)
                    refine lv_istore (lv' := [(10, .int x150), (0, .ref m8), (1, .long must), (3, .long may), (5, .int aim), (6, .int x6), (7, .int x7), (8, .int x8), (9, .int x9)]) hx hb dX8_reckon_150 hl (by decide) rfl (fun ls hl => ?_)
                    exact lab152 x150 (hpl4) (by unfold rkA; first | (rw [if_neg (by rw [le0p h9 (by omega) c_109]; simp)]; done) | (rw [hx6] at c_118 c_127; rw [if_neg (by rw [hs0 hmust (by omega) c_118, hs0 hmay (by omega) c_127]; simp)]; done) | (rw [hx6] at c_118; rw [if_pos (by rw [gt0p h9 (by omega) c_109, hs1 hmust (by omega) c_118]; rfl)]; first | exact ex150 | rfl) | (rw [hx6] at c_118 c_127; rw [if_pos (by rw [gt0p h9 (by omega) c_109, hs0 hmust (by omega) c_118, hs1 hmay (by omega) c_127]; rfl)]; first | exact ex150 | rfl)) _ _ hP hD hS ls (lv_sub hl [1, 2, 3, 4, 5, 6, 7, 8, 0] rfl)
                  · refine lv_lload_n hx hb dX8_reckon_121 rfl (lv_at hl 2 rfl) ?_
                    refine lv_iload hx hb dX8_reckon_122 (lv_at hl 4 rfl) ?_
                    refine vp_callSi (W.runS (As := [.long may, .int x6]) (rest := []) ⟨hx, hb, hml, hown, hts⟩ (k_X8_has l may x6 ) (va_cwS 2 hts gX8_reckon_X8_has rfl rfl rfl (by decide +kernel) ⟨Nat.le_of_ble_eq_true rfl, Nat.le_of_ble_eq_true rfl⟩) ⟨pS_fb, pS_pre⟩ rfl rfl hl.1 rfl (lv_room (Nat.le_of_ble_eq_true rfl)) dX8_reckon_124 ⟨Nat.le_of_ble_eq_true rfl, Nat.le_of_ble_eq_true rfl⟩) (fun x124 hx124 => ?_)
                    subst hx124
                    refine lv_if_eq (tgt := 149) hx hb dX8_reckon_127 (by decide) (fun c_127 => ?_) (fun c_127 => ?_)
                    · refine lv_iconst (v := (-1)) hx hb dX8_reckon_149 (by decide) ?_
                      refine lv_istore (lv' := [(10, .int (-1)), (0, .ref m8), (1, .long must), (3, .long may), (5, .int aim), (6, .int x6), (7, .int x7), (8, .int x8), (9, .int x9)]) hx hb dX8_reckon_150 hl (by decide) rfl (fun ls hl => ?_)
                      exact lab152 (-1) (hpl4) (by unfold rkA; first | (rw [if_neg (by rw [le0p h9 (by omega) c_109]; simp)]; done) | (rw [hx6] at c_118 c_127; rw [if_neg (by rw [hs0 hmust (by omega) c_118, hs0 hmay (by omega) c_127]; simp)]; done) | (rw [hx6] at c_118; rw [if_pos (by rw [gt0p h9 (by omega) c_109, hs1 hmust (by omega) c_118]; rfl)]; first | exact ex150 | rfl) | (rw [hx6] at c_118 c_127; rw [if_pos (by rw [gt0p h9 (by omega) c_109, hs0 hmust (by omega) c_118, hs1 hmay (by omega) c_127]; rfl)]; first | exact ex150 | rfl)) _ _ hP hD hS ls (lv_sub hl [1, 2, 3, 4, 5, 6, 7, 8, 0] rfl)
                    · refine lv_aload_n hx hb dX8_reckon_130 rfl (lv_at hl 0 rfl) ?_
                      refine lv_iload hx hb dX8_reckon_131 (lv_at hl 4 rfl) ?_
                      refine lv_iload hx hb dX8_reckon_133 (lv_at hl 5 rfl) ?_
                      refine lv_iload hx hb dX8_reckon_135 (lv_at hl 4 rfl) ?_
                      refine lv_iload hx hb dX8_reckon_137 (lv_at hl 7 rfl) ?_
                      refine lv_iconst (v := 0) hx hb dX8_reckon_139 (by decide) ?_
                      refine vp_callSi (W.runS (As := [.int x7, .int x6, .int x9, .int 0]) (rest := [.int x6, .ref m8]) ⟨hx, hb, hml, hown, hts⟩ (k_X8_behind l x7 x6 x9 0 ) (va_cwS 4 hts gX8_reckon_X8_behind rfl rfl rfl (by decide +kernel) ⟨Nat.le_of_ble_eq_true rfl, Nat.le_of_ble_eq_true rfl⟩) ⟨pS_fb, pS_pre⟩ rfl rfl hl.1 rfl (lv_room (Nat.le_of_ble_eq_true rfl)) dX8_reckon_140 ⟨Nat.le_of_ble_eq_true rfl, Nat.le_of_ble_eq_true rfl⟩) (fun x140 hx140 => ?_)
                      subst hx140
                      have hPc := hP.sub (ws' := [(m8, .inr (6, [.int st8, .ref wa, .ref pa8, .ref sta, .ref mo, .ref hea, .ref tha, .int ig, .int io, .int op8, .int pl8, .int py, .int wn, .int tu, .int la, .int ps, .ref hd8, .ref od8, .long tb, .ref cd8, .int dr, .ref opa, .ref osa])), (mo, .inl (cI, 203520, .inl wr))]) [0, 1] rfl
                      refine vp_callSi (W.runV (As := [.int x6, .int (j_X8_behind x7 x6 x9 0)]) (rest := []) ⟨hx, hb, hml, hown, hts⟩ (k_X8_after l D cI cJ cZ m8 wa pa8 sta mo hea tha hd8 od8 cd8 opa osa st8 ig io op8 pl8 py wn tu la ps dr tb wr x6 (j_X8_behind x7 x6 x9 0) (n - 1) (bhN m1 (n - 1) pp false) (hx6) (by rw [h7, hx6, h9]; exact jb (b := false) rfl hmlt (by omega) hpl4) (fun t ht => bhN_idx hmlt (by omega) ht)) (cwV 2 hts gX8_reckon_X8_after rfl rfl rfl (by decide +kernel) ⟨Nat.le_of_ble_eq_true rfl, Nat.le_of_ble_eq_true rfl⟩) ⟨wR_fb, va_recv hK hPc (ci := 6) (q0 := 0) rfl rfl, wR_pre hPc ⟨hK, hN⟩⟩ rfl rfl hl.1 rfl (lv_room (Nat.le_of_ble_eq_true rfl)) dX8_reckon_143 ⟨Nat.le_of_ble_eq_true rfl, Nat.le_of_ble_eq_true rfl⟩) (fun x143 hx143 => ?_)
                      subst hx143
                      refine lv_goto (tgt := 150) hx hb dX8_reckon_146 (by decide) ?_
                      refine lv_topi (fun x150 ex150 => ?_)
                      refine lv_istore (lv' := [(10, .int x150), (0, .ref m8), (1, .long must), (3, .long may), (5, .int aim), (6, .int x6), (7, .int x7), (8, .int x8), (9, .int x9)]) hx hb dX8_reckon_150 hl (by decide) rfl (fun ls hl => ?_)
                      exact lab152 x150 (hpl4) (by unfold rkA; first | (rw [if_neg (by rw [le0p h9 (by omega) c_109]; simp)]; done) | (rw [hx6] at c_118 c_127; rw [if_neg (by rw [hs0 hmust (by omega) c_118, hs0 hmay (by omega) c_127]; simp)]; done) | (rw [hx6] at c_118; rw [if_pos (by rw [gt0p h9 (by omega) c_109, hs1 hmust (by omega) c_118]; rfl)]; first | exact ex150 | rfl) | (rw [hx6] at c_118 c_127; rw [if_pos (by rw [gt0p h9 (by omega) c_109, hs0 hmust (by omega) c_118, hs1 hmay (by omega) c_127]; rfl)]; first | exact ex150 | rfl)) _ _ hP hD hS ls (lv_sub hl [1, 2, 3, 4, 5, 6, 7, 8, 0] rfl)
          refine lv_iload hx hb dX8_reckon_87 (lv_at hl 5 rfl) ?_
          refine lv_sipush (v := 3840) hx hb dX8_reckon_89 (by decide) ?_
          refine lv_icmp_ge (tgt := 261) hx hb dX8_reckon_92 (by decide) (fun c_92 => ?_) (fun c_92 => ?_)
          · have hm9 : m1 = 3840 := hp_ge h7 (by decide : (3840 : Int32) = nI 3840) hm1 (by decide) c_92
            subst hm9
            obtain ⟨x261, ex261⟩ : ∃ y : Int32, y = x6 + (-1) := ⟨_, rfl⟩
            refine lv_iinc (v := x261) (lv' := [(6, .int x261), (0, .ref m8), (1, .long must), (3, .long may), (5, .int aim), (7, .int x7)]) hx hb dX8_reckon_261 hl (k := 4) rfl (by rw [ex261]; rfl) (by decide) rfl (fun ls hl => ?_)
            refine lv_goto (tgt := 79) hx hb dX8_reckon_264 (by decide) ?_
            exact ih79 (n - 1) x261 wr (by rw [ex261, h6]; exact hp_wl hn0) (by omega) (hB2) (fun k h1 h2 m h4 => by rcases Nat.lt_or_ge k n with z | z; rw [show k = n - 1 by omega]; exact hM m (by omega); exact hE2 k z h2 m h4) (by omega) _ _ hP hD hS ls (lv_sub hl [1, 2, 3, 4, 0] rfl)
          · have hmlt : m1 < 3840 := hp_lt h7 (by decide : (3840 : Int32) = nI 3840) hm1 (by decide) c_92
            refine lv_iconst (v := (-1)) hx hb dX8_reckon_95 (by decide) ?_
            refine lv_istore (lv' := [(8, .int (-1)), (0, .ref m8), (1, .long must), (3, .long may), (5, .int aim), (6, .int x6), (7, .int x7)]) hx hb dX8_reckon_96 hl (by decide) rfl (fun ls hl => ?_)
            refine lv_iconst (v := 0) hx hb dX8_reckon_98 (by decide) ?_
            refine lv_istore (lv' := [(9, .int 0), (8, .int (-1)), (0, .ref m8), (1, .long must), (3, .long may), (5, .int aim), (6, .int x6), (7, .int x7)]) hx hb dX8_reckon_99 hl (by decide) rfl (fun ls hl => ?_)
            exact lab101 _ 0 (-1) 0 (hmlt) (hp_n1 h6 hn0) (nI_0.symm) (by omega) (rfl) (Nat.lt_succ_self _) _ _ hP hD hS ls (lv_sub hl [2, 3, 4, 5, 6, 7, 1, 0] rfl)
      refine lv_iload hx hb dX8_reckon_79 (lv_at hl 4 rfl) ?_
      refine lv_if_lt (tgt := 267) hx hb dX8_reckon_81 (by decide) (fun c_81 => ?_) (fun c_81 => ?_)
      · have hn0 : n = 0 := hp_neg h6 hn c_81
        subst hn0
        rw [← hQ]
        have hP9 := hP.sub (ws' := [(m8, .inr (6, [.int st8, .ref wa, .ref pa8, .ref sta, .ref mo, .ref hea, .ref tha, .int ig, .int io, .int op8, .int pl8, .int py, .int wn, .int tu, .int la, .int ps, .ref hd8, .ref od8, .long tb, .ref cd8, .int dr, .ref opa, .ref osa])), (mo, .inl (cI, 203520, .inl wq))]) [0, 1] rfl
        have hD9 := hD.sub (ws' := [(m8, .inr (6, [.int st8, .ref wa, .ref pa8, .ref sta, .ref mo, .ref hea, .ref tha, .int ig, .int io, .int op8, .int pl8, .int py, .int wn, .int tu, .int la, .int ps, .ref hd8, .ref od8, .long tb, .ref cd8, .int dr, .ref opa, .ref osa])), (mo, .inl (cI, 203520, .inl wq))]) [0, 1] (by decide) rfl
        exact W.vret hx hb hr (fun t ht hW => ⟨⟨wq, rfl, ⟨hB, fun k hk => hE k (Nat.zero_le k) hk⟩, (by show wB D A _ t; exact ⟨by rw [ht]; exact hP9, hD9⟩)⟩, hS.F ht⟩) hS.2.2 dX8_reckon_267
      · have hn0 : 0 < n := hp_npos h6 c_81
        refine lv_iconst (v := 0) hx hb dX8_reckon_84 (by decide) ?_
        refine lv_istore (lv' := [(7, .int 0), (0, .ref m8), (1, .long must), (3, .long may), (5, .int aim), (6, .int x6)]) hx hb dX8_reckon_85 hl (by decide) rfl (fun ls hl => ?_)
        exact lab87 _ 0 0 wq (hn0) (nI_0.symm) (by omega) (hB) (hE) (fun m h => absurd h (Nat.not_lt_zero m)) (Nat.lt_succ_self _) _ _ hP hD hS ls (lv_sub hl [1, 2, 3, 4, 5, 0] rfl)
  have lab3 : ∀ fuel3 : Nat, ∀ (i : Nat) (x6 : Int32) (wq : Nat → Int32), (h6 : x6 = nI i) → (hi : i ≤ 3840) → (hbb : ∀ m, m < i → wq (199680 + m) = baseM must may aim m) → (hfu3 : 3840 - i < fuel3) → ∀ (H : Heap) (locs : List Loc), va_P D vwCl [(m8, .inr (6, [.int st8, .ref wa, .ref pa8, .ref sta, .ref mo, .ref hea, .ref tha, .int ig, .int io, .int op8, .int pl8, .int py, .int wn, .int tu, .int la, .int ps, .ref hd8, .ref od8, .long tb, .ref cd8, .int dr, .ref opa, .ref osa])), (mo, .inl (cI, 203520, .inl wq))] H → va_D A [(m8, .inr (6, [.int st8, .ref wa, .ref pa8, .ref sta, .ref mo, .ref hea, .ref tha, .int ig, .int io, .int op8, .int pl8, .int py, .int wn, .int tu, .int la, .int ps, .ref hd8, .ref od8, .long tb, .ref cd8, .int dr, .ref opa, .ref osa])), (mo, .inl (cI, 203520, .inl wq))] → va_S A s.heap H locs → ∀ ls : Array Slot, lv_has ls 12 [(0, .ref m8), (1, .long must), (3, .long may), (5, .int aim), (6, .int x6)] → W p l e (headSpec wsX8_reckon ({ frames := 2, cells := 0, slots := 0, locals := 50 } : Room)).room s m args below meth c H locs 0 0 Q (F0 m 3 ls []) := by
    intro fuel3
    induction fuel3 with
    | zero =>
      intro i x6 wq h6 hi hbb hfu3
      exact absurd hfu3 (Nat.not_lt_zero _)
    | succ fuel3 ih3 =>
      intro i x6 wq h6 hi hbb hfu3 H locs hP hD hS ls hl
      refine lv_iload hx hb dX8_reckon_3 (lv_at hl 4 rfl) ?_
      refine lv_sipush (v := 3840) hx hb dX8_reckon_5 (by decide) ?_
      refine lv_icmp_ge (tgt := 75) hx hb dX8_reckon_8 (by decide) (fun c_8 => ?_) (fun c_8 => ?_)
      · have hi9 : i = 3840 := hp_ge h6 (by decide : (3840 : Int32) = nI 3840) hi (by decide) c_8
        subst hi9
        refine lv_bipush (v := 51) hx hb dX8_reckon_75 (by decide) ?_
        refine lv_istore (lv' := [(6, .int 51), (0, .ref m8), (1, .long must), (3, .long may), (5, .int aim)]) hx hb dX8_reckon_77 hl (by decide) rfl (fun ls hl => ?_)
        exact lab79 _ 52 51 wq (by decide) (by omega) (hbb) (fun k h1 h2 => absurd h2 (by omega)) (Nat.lt_succ_self _) _ _ hP hD hS ls (lv_sub hl [1, 2, 3, 4, 0] rfl)
      · have hlt : i < 3840 := hp_lt h6 (by decide : (3840 : Int32) = nI 3840) hi (by decide) c_8
        have hz68 : 199680 + x6 = nI (199680 + i) := by rw [h6, show (199680 : Int32) = nI 199680 from rfl, nI_add]
        refine lv_iload hx hb dX8_reckon_11 (lv_at hl 4 rfl) ?_
        refine vp_callSi (W.runS (As := [.int x6]) (rest := []) ⟨hx, hb, hml, hown, hts⟩ (k_X8_jokers l x6 ) (va_cwS 1 hts gX8_reckon_X8_jokers rfl rfl rfl (by decide +kernel) ⟨Nat.le_of_ble_eq_true rfl, Nat.le_of_ble_eq_true rfl⟩) ⟨pS_fb, pS_pre⟩ rfl rfl hl.1 rfl (lv_room (Nat.le_of_ble_eq_true rfl)) dX8_reckon_13 ⟨Nat.le_of_ble_eq_true rfl, Nat.le_of_ble_eq_true rfl⟩) (fun x13 hx13 => ?_)
        subst hx13
        refine lv_lload_n hx hb dX8_reckon_16 rfl (lv_at hl 1 rfl) ?_
        refine vp_callSi (W.runS (As := [.long must]) (rest := [.int (j_X8_jokers x6)]) ⟨hx, hb, hml, hown, hts⟩ (k_X8_jokersOf l must ) (va_cwS 1 hts gX8_reckon_X8_jokersOf rfl rfl rfl (by decide +kernel) ⟨Nat.le_of_ble_eq_true rfl, Nat.le_of_ble_eq_true rfl⟩) ⟨pS_fb, pS_pre⟩ rfl rfl hl.1 rfl (lv_room (Nat.le_of_ble_eq_true rfl)) dX8_reckon_17 ⟨Nat.le_of_ble_eq_true rfl, Nat.le_of_ble_eq_true rfl⟩) (fun x17 hx17 => ?_)
        subst hx17
        refine lv_isub hx hb dX8_reckon_20 ?_
        refine lv_topi (fun x21 ex21 => ?_)
        refine lv_istore (lv' := [(7, .int x21), (0, .ref m8), (1, .long must), (3, .long may), (5, .int aim), (6, .int x6)]) hx hb dX8_reckon_21 hl (by decide) rfl (fun ls hl => ?_)
        refine lv_aload_n hx hb dX8_reckon_23 rfl (lv_at hl 1 rfl) ?_
        refine va_get (D := D) (ci := 6) (v := .ref mo) (C := RX8) (T := TX8) (N := 23) hx hb hts iX8 hown hK hP 0 rfl rfl 4 (by decide) k22 (fun _ h9 => h9) rfl dX8_reckon_24 ?_
        refine lv_ldc hx hb hown k73 dX8_reckon_27 ?_
        refine lv_iload hx hb dX8_reckon_29 (lv_at hl 5 rfl) ?_
        refine lv_iadd hx hb dX8_reckon_31 ?_
        refine lv_iload hx hb dX8_reckon_32 (lv_at hl 5 rfl) ?_
        refine vp_callSi (W.runS (As := [.int x6]) (rest := [.int ((199680) + x6), .ref mo]) ⟨hx, hb, hml, hown, hts⟩ (k_X8_isWhole l x6 ) (va_cwS 1 hts gX8_reckon_X8_isWhole rfl rfl rfl (by decide +kernel) ⟨Nat.le_of_ble_eq_true rfl, Nat.le_of_ble_eq_true rfl⟩) ⟨pS_fb, pS_pre⟩ rfl rfl hl.1 rfl (lv_room (Nat.le_of_ble_eq_true rfl)) dX8_reckon_34 ⟨Nat.le_of_ble_eq_true rfl, Nat.le_of_ble_eq_true rfl⟩) (fun x34 hx34 => ?_)
        subst hx34
        refine lv_if_eq (tgt := 67) hx hb dX8_reckon_37 (by decide) (fun c_37 => ?_) (fun c_37 => ?_)
        · refine lv_iconst (v := (-1)) hx hb dX8_reckon_67 (by decide) ?_
          refine va_iast hx hb hK hP hD hS 1 0 rfl rfl (by rw [hz68]; exact vp_in_nI (by omega) (by decide)) dX8_reckon_68 (fun H locs hP hD hS => ?_)
          have hP : va_P D vwCl [(m8, .inr (6, [.int st8, .ref wa, .ref pa8, .ref sta, .ref mo, .ref hea, .ref tha, .int ig, .int io, .int op8, .int pl8, .int py, .int wn, .int tu, .int la, .int ps, .ref hd8, .ref od8, .long tb, .ref cd8, .int dr, .ref opa, .ref osa])), (mo, .inl (cI, 203520, .inl (upd wq ((199680) + x6).toNatClampNeg (-1))))] H := hP
          have hD : va_D A [(m8, .inr (6, [.int st8, .ref wa, .ref pa8, .ref sta, .ref mo, .ref hea, .ref tha, .int ig, .int io, .int op8, .int pl8, .int py, .int wn, .int tu, .int la, .int ps, .ref hd8, .ref od8, .long tb, .ref cd8, .int dr, .ref opa, .ref osa])), (mo, .inl (cI, 203520, .inl (upd wq ((199680) + x6).toNatClampNeg (-1))))] := hD
          generalize ex68 : upd wq ((199680) + x6).toNatClampNeg (-1) = x68 at hP hD
          obtain ⟨x69, ex69⟩ : ∃ y : Int32, y = x6 + 1 := ⟨_, rfl⟩
          refine lv_iinc (v := x69) (lv' := [(6, .int x69), (7, .int x21), (0, .ref m8), (1, .long must), (3, .long may), (5, .int aim)]) hx hb dX8_reckon_69 hl (k := 5) rfl (by rw [ex69]; rfl) (by decide) rfl (fun ls hl => ?_)
          refine lv_goto (tgt := 3) hx hb dX8_reckon_72 (by decide) ?_
          exact ih3 (i + 1) x69 x68 (hp_s ex69 h6) (by omega) (hp_atI hz68 (by omega) ex68 hbb (by simp only [baseM]; rw [ex21] at *; rw [← h6]; (repeat' split) <;> first | rfl | contradiction)) (by omega) _ _ hP hD hS ls (lv_sub hl [2, 3, 4, 5, 0] rfl)
        · refine lv_iload hx hb dX8_reckon_40 (lv_at hl 0 rfl) ?_
          refine lv_if_lt (tgt := 67) hx hb dX8_reckon_42 (by decide) (fun c_42 => ?_) (fun c_42 => ?_)
          · refine lv_iconst (v := (-1)) hx hb dX8_reckon_67 (by decide) ?_
            refine va_iast hx hb hK hP hD hS 1 0 rfl rfl (by rw [hz68]; exact vp_in_nI (by omega) (by decide)) dX8_reckon_68 (fun H locs hP hD hS => ?_)
            have hP : va_P D vwCl [(m8, .inr (6, [.int st8, .ref wa, .ref pa8, .ref sta, .ref mo, .ref hea, .ref tha, .int ig, .int io, .int op8, .int pl8, .int py, .int wn, .int tu, .int la, .int ps, .ref hd8, .ref od8, .long tb, .ref cd8, .int dr, .ref opa, .ref osa])), (mo, .inl (cI, 203520, .inl (upd wq ((199680) + x6).toNatClampNeg (-1))))] H := hP
            have hD : va_D A [(m8, .inr (6, [.int st8, .ref wa, .ref pa8, .ref sta, .ref mo, .ref hea, .ref tha, .int ig, .int io, .int op8, .int pl8, .int py, .int wn, .int tu, .int la, .int ps, .ref hd8, .ref od8, .long tb, .ref cd8, .int dr, .ref opa, .ref osa])), (mo, .inl (cI, 203520, .inl (upd wq ((199680) + x6).toNatClampNeg (-1))))] := hD
            generalize ex68 : upd wq ((199680) + x6).toNatClampNeg (-1) = x68 at hP hD
            obtain ⟨x69, ex69⟩ : ∃ y : Int32, y = x6 + 1 := ⟨_, rfl⟩
            refine lv_iinc (v := x69) (lv' := [(6, .int x69), (7, .int x21), (0, .ref m8), (1, .long must), (3, .long may), (5, .int aim)]) hx hb dX8_reckon_69 hl (k := 5) rfl (by rw [ex69]; rfl) (by decide) rfl (fun ls hl => ?_)
            refine lv_goto (tgt := 3) hx hb dX8_reckon_72 (by decide) ?_
            exact ih3 (i + 1) x69 x68 (hp_s ex69 h6) (by omega) (hp_atI hz68 (by omega) ex68 hbb (by simp only [baseM]; rw [ex21] at *; rw [← h6]; (repeat' split) <;> first | rfl | contradiction)) (by omega) _ _ hP hD hS ls (lv_sub hl [2, 3, 4, 5, 0] rfl)
          · refine lv_iload hx hb dX8_reckon_45 (lv_at hl 0 rfl) ?_
            refine lv_lload_n hx hb dX8_reckon_47 rfl (lv_at hl 3 rfl) ?_
            refine vp_callSi (W.runS (As := [.long may]) (rest := [.int x21, .int ((199680) + x6), .ref mo]) ⟨hx, hb, hml, hown, hts⟩ (k_X8_jokersOf l may ) (va_cwS 1 hts gX8_reckon_X8_jokersOf rfl rfl rfl (by decide +kernel) ⟨Nat.le_of_ble_eq_true rfl, Nat.le_of_ble_eq_true rfl⟩) ⟨pS_fb, pS_pre⟩ rfl rfl hl.1 rfl (lv_room (Nat.le_of_ble_eq_true rfl)) dX8_reckon_48 ⟨Nat.le_of_ble_eq_true rfl, Nat.le_of_ble_eq_true rfl⟩) (fun x48 hx48 => ?_)
            subst hx48
            refine lv_icmp_gt (tgt := 67) hx hb dX8_reckon_51 (by decide) (fun c_51 => ?_) (fun c_51 => ?_)
            · refine lv_iconst (v := (-1)) hx hb dX8_reckon_67 (by decide) ?_
              refine va_iast hx hb hK hP hD hS 1 0 rfl rfl (by rw [hz68]; exact vp_in_nI (by omega) (by decide)) dX8_reckon_68 (fun H locs hP hD hS => ?_)
              have hP : va_P D vwCl [(m8, .inr (6, [.int st8, .ref wa, .ref pa8, .ref sta, .ref mo, .ref hea, .ref tha, .int ig, .int io, .int op8, .int pl8, .int py, .int wn, .int tu, .int la, .int ps, .ref hd8, .ref od8, .long tb, .ref cd8, .int dr, .ref opa, .ref osa])), (mo, .inl (cI, 203520, .inl (upd wq ((199680) + x6).toNatClampNeg (-1))))] H := hP
              have hD : va_D A [(m8, .inr (6, [.int st8, .ref wa, .ref pa8, .ref sta, .ref mo, .ref hea, .ref tha, .int ig, .int io, .int op8, .int pl8, .int py, .int wn, .int tu, .int la, .int ps, .ref hd8, .ref od8, .long tb, .ref cd8, .int dr, .ref opa, .ref osa])), (mo, .inl (cI, 203520, .inl (upd wq ((199680) + x6).toNatClampNeg (-1))))] := hD
              generalize ex68 : upd wq ((199680) + x6).toNatClampNeg (-1) = x68 at hP hD
              obtain ⟨x69, ex69⟩ : ∃ y : Int32, y = x6 + 1 := ⟨_, rfl⟩
              refine lv_iinc (v := x69) (lv' := [(6, .int x69), (7, .int x21), (0, .ref m8), (1, .long must), (3, .long may), (5, .int aim)]) hx hb dX8_reckon_69 hl (k := 5) rfl (by rw [ex69]; rfl) (by decide) rfl (fun ls hl => ?_)
              refine lv_goto (tgt := 3) hx hb dX8_reckon_72 (by decide) ?_
              exact ih3 (i + 1) x69 x68 (hp_s ex69 h6) (by omega) (hp_atI hz68 (by omega) ex68 hbb (by simp only [baseM]; rw [ex21] at *; rw [← h6]; (repeat' split) <;> first | rfl | contradiction)) (by omega) _ _ hP hD hS ls (lv_sub hl [2, 3, 4, 5, 0] rfl)
            · refine lv_iload hx hb dX8_reckon_54 (lv_at hl 0 rfl) ?_
              refine lv_bipush (v := 52) hx hb dX8_reckon_56 (by decide) ?_
              refine lv_iload hx hb dX8_reckon_58 (lv_at hl 4 rfl) ?_
              refine vp_callSi (W.runS (As := [.int 52, .int aim]) (rest := [.int x21, .int ((199680) + x6), .ref mo]) ⟨hx, hb, hml, hown, hts⟩ (k_X8_gain l 52 aim ) (va_cwS 2 hts gX8_reckon_X8_gain rfl rfl rfl (by decide +kernel) ⟨Nat.le_of_ble_eq_true rfl, Nat.le_of_ble_eq_true rfl⟩) ⟨pS_fb, pS_pre⟩ rfl rfl hl.1 rfl (lv_room (Nat.le_of_ble_eq_true rfl)) dX8_reckon_60 ⟨Nat.le_of_ble_eq_true rfl, Nat.le_of_ble_eq_true rfl⟩) (fun x60 hx60 => ?_)
              subst hx60
              refine lv_imul hx hb dX8_reckon_63 ?_
              refine lv_goto (tgt := 68) hx hb dX8_reckon_64 (by decide) ?_
              refine va_iast hx hb hK hP hD hS 1 0 rfl rfl (by rw [hz68]; exact vp_in_nI (by omega) (by decide)) dX8_reckon_68 (fun H locs hP hD hS => ?_)
              have hP : va_P D vwCl [(m8, .inr (6, [.int st8, .ref wa, .ref pa8, .ref sta, .ref mo, .ref hea, .ref tha, .int ig, .int io, .int op8, .int pl8, .int py, .int wn, .int tu, .int la, .int ps, .ref hd8, .ref od8, .long tb, .ref cd8, .int dr, .ref opa, .ref osa])), (mo, .inl (cI, 203520, .inl (upd wq ((199680) + x6).toNatClampNeg (x21 * (j_X8_gain 52 aim)))))] H := hP
              have hD : va_D A [(m8, .inr (6, [.int st8, .ref wa, .ref pa8, .ref sta, .ref mo, .ref hea, .ref tha, .int ig, .int io, .int op8, .int pl8, .int py, .int wn, .int tu, .int la, .int ps, .ref hd8, .ref od8, .long tb, .ref cd8, .int dr, .ref opa, .ref osa])), (mo, .inl (cI, 203520, .inl (upd wq ((199680) + x6).toNatClampNeg (x21 * (j_X8_gain 52 aim)))))] := hD
              generalize ex68 : upd wq ((199680) + x6).toNatClampNeg (x21 * (j_X8_gain 52 aim)) = x68 at hP hD
              obtain ⟨x69, ex69⟩ : ∃ y : Int32, y = x6 + 1 := ⟨_, rfl⟩
              refine lv_iinc (v := x69) (lv' := [(6, .int x69), (7, .int x21), (0, .ref m8), (1, .long must), (3, .long may), (5, .int aim)]) hx hb dX8_reckon_69 hl (k := 5) rfl (by rw [ex69]; rfl) (by decide) rfl (fun ls hl => ?_)
              refine lv_goto (tgt := 3) hx hb dX8_reckon_72 (by decide) ?_
              exact ih3 (i + 1) x69 x68 (hp_s ex69 h6) (by omega) (hp_atI hz68 (by omega) ex68 hbb (by simp only [baseM]; rw [ex21] at *; rw [← h6]; (repeat' split) <;> first | rfl | contradiction)) (by omega) _ _ hP hD hS ls (lv_sub hl [2, 3, 4, 5, 0] rfl)
  refine lv_iconst (v := 0) hx hb dX8_reckon_0 (by decide) ?_
  refine lv_istore (lv' := [(6, .int 0), (0, .ref m8), (1, .long must), (3, .long may), (5, .int aim)]) hx hb dX8_reckon_1 hl (by decide) rfl (fun ls hl => ?_)
  exact lab3 _ 0 0 mf (nI_0.symm) (by omega) (fun m h => absurd h (Nat.not_lt_zero m)) (Nat.lt_succ_self _) _ _ hP hD hS ls (lv_sub hl [1, 2, 3, 4, 0] rfl)
