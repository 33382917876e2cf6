def stIn (y : Int64) (aim : Int32) (mf H T : Nat → Int32) (left : Int32) (k : Nat) : Prop := hsB y k = true ∧ ¬ left < j_X8_gain (nI k) aim ∧ gInv H mf k true (left - j_X8_gain (nI k) aim) 3840 0 T 1
def stOut (y : Int64) (aim : Int32) (mf H : Nat → Int32) (left : Int32) (k : Nat) : Prop := hsB y k = false ∨ left < j_X8_gain (nI k) aim ∨ ∃ T2, gInv H mf k true (left - j_X8_gain (nI k) aim) 3840 0 T2 0
/-- one card of the reference's choice of the first best part -/
def stB (x y : Int64) (aim : Int32) (mf H T : Nat → Int32) (left left2 : Int32) (pt pt2 : Int64) (k : Nat) : Prop :=
  (stIn y aim mf H T left k ∧ left2 = left - j_X8_gain (nI k) aim ∧ pt2 = pt ||| (1 <<< ((nI k).toInt64 &&& 63))) ∨ (stOut y aim mf H left k ∧ (∃ r, gInv H mf k (hsB x k) left 3840 0 T r) ∧ left2 = left ∧ pt2 = pt)
def bestSeq (x y : Int64) (aim : Int32) (mf : Nat → Int32) (Hs : Nat → Nat → Int32) (lf : Nat → Int32) (pt : Nat → Int64) (K : Nat) : Prop :=
  (∀ m, m < 3840 → Hs 0 m = if m = 0 then 1 else 0) ∧ lf 0 = mf 0 ∧ pt 0 = 0 ∧ ∀ k, k < K → stB x y aim mf (Hs k) (Hs (k + 1)) (lf k) (lf (k + 1)) (pt k) (pt (k + 1)) k
def lastU (x : Int64) (H : Nat → Int32) : Nat → Int32
  | 0 => 0
  | m + 1 => if H m = 0 then lastU x H m else j_X8_jokers (nI m) - j_X8_jokersOf x
def fjF (y : Int64) (u : Int32) (pt : Int64) : Nat → Int32 × Int64
  | 0 => (u, pt)
  | i + 1 => if (fjF y u pt i).1 ≤ 0 then fjF y u pt i else if j_X8_has y (nI (52 + i)) = 0 then fjF y u pt i else ((fjF y u pt i).1 + (-1), (fjF y u pt i).2 ||| (1 <<< ((nI (52 + i)).toInt64 &&& 63)))
theorem fjF_stop {y : Int64} {u : Int32} {pt : Int64} {i : Nat} (h : (fjF y u pt i).1 ≤ 0) : ∀ j, fjF y u pt (i + j) = fjF y u pt i
  | 0 => rfl
  | j + 1 => by
    have e := fjF_stop h j
    show (if (fjF y u pt (i + j)).1 ≤ 0 then fjF y u pt (i + j) else _) = _
    rw [e, if_pos h]
theorem gInv_ptw {hf mf : Nat → Int32} {k : Nat} {it : Bool} {left : Int32} {m1 pp : Nat} {tq t2 : Nat → Int32} {x : Int32} (h : ∀ t, t < 3840 → t2 t = tq t) (hI : gInv hf mf k it left m1 pp tq x) : gInv hf mf k it left m1 pp t2 x := by
  refine ⟨fun t ht => ?_, hI.2⟩
  rw [h t ht]; exact hI.1 t ht
theorem gInv_good {hf mf : Nat → Int32} {k : Nat} {it : Bool} {left : Int32} {tq : Nat → Int32} {x : Int32} (hg : ∀ m, m < 3840 → ¬ hf m = 0 → igN m ≤ k % 4) (hI : gInv hf mf k it left 3840 0 tq x) : ∀ t, t < 3840 → (tq t = 0 ∨ tq t = 1) ∧ (¬ tq t = 0 → igN t ≤ (k + 1) % 4) := by
  intro t ht
  rcases hI.1 t ht with ⟨h1, h2⟩ | ⟨h1, m, p, a1, a2, a3, a4, a5, a6, a7⟩
  · exact ⟨Or.inl h1, fun z => absurd h1 z⟩
  · exact ⟨Or.inr h1, fun _ => (bhN_good a2 (hg m a2 a3) a6).2⟩
theorem stB_good {x y : Int64} {aim : Int32} {mf H T : Nat → Int32} {left left2 : Int32} {pt pt2 : Int64} {k : Nat} (hg : ∀ m, m < 3840 → ¬ H m = 0 → igN m ≤ k % 4) (h : stB x y aim mf H T left left2 pt pt2 k) : ∀ t, t < 3840 → (T t = 0 ∨ T t = 1) ∧ (¬ T t = 0 → igN t ≤ (k + 1) % 4) := by
  rcases h with ⟨h, _⟩ | ⟨_, ⟨r, h⟩, _⟩
  · exact gInv_good hg h.2.2
  · exact gInv_good hg h
theorem stB_ptw {x y : Int64} {aim : Int32} {mf H T T2 : Nat → Int32} {left left2 : Int32} {pt pt2 : Int64} {k : Nat} (hp : ∀ t, t < 3840 → T2 t = T t) (h : stB x y aim mf H T left left2 pt pt2 k) : stB x y aim mf H T2 left left2 pt pt2 k := by
  rcases h with ⟨h, h2⟩ | ⟨h1, ⟨r, h⟩, h2⟩
  · exact Or.inl ⟨⟨h.1, h.2.1, gInv_ptw hp h.2.2⟩, h2⟩
  · exact Or.inr ⟨h1, ⟨r, gInv_ptw hp h⟩, h2⟩
theorem seq_next {x y : Int64} {aim : Int32} {mf hr : Nat → Int32} {Hs : Nat → Nat → Int32} {lf : Nat → Int32} {pt : Nat → Int64} {k : Nat} {l2 : Int32} {p2 : Int64} (h : bestSeq x y aim mf Hs lf pt k) (hs : stB x y aim mf (Hs k) hr (lf k) l2 (pt k) p2 k) : bestSeq x y aim mf (fun j => if j = k + 1 then hr else Hs j) (fun j => if j = k + 1 then l2 else lf j) (fun j => if j = k + 1 then p2 else pt j) (k + 1) := by
  obtain ⟨h1, h2, h3, h4⟩ := h
  refine ⟨fun m hm => ?_, ?_, ?_, fun j hj => ?_⟩
  · show (if 0 = k + 1 then hr else Hs 0) m = _
    rw [if_neg (by omega)]; exact h1 m hm
  · show (if 0 = k + 1 then l2 else lf 0) = _
    rw [if_neg (by omega)]; exact h2
  · show (if 0 = k + 1 then p2 else pt 0) = _
    rw [if_neg (by omega)]; exact h3
  · show stB x y aim mf (if j = k + 1 then hr else Hs j) (if j + 1 = k + 1 then hr else Hs (j + 1)) (if j = k + 1 then l2 else lf j) (if j + 1 = k + 1 then l2 else lf (j + 1)) (if j = k + 1 then p2 else pt j) (if j + 1 = k + 1 then p2 else pt (j + 1)) j
    have a1 : ¬ j = k + 1 := by omega
    rw [if_neg a1, if_neg a1, if_neg a1]
    by_cases q : j = k
    · subst q
      have a2 : j + 1 = j + 1 := rfl
      rw [if_pos a2, if_pos a2, if_pos a2]; exact hs
    · have a3 : ¬ j + 1 = k + 1 := by omega
      rw [if_neg a3, if_neg a3, if_neg a3]; exact h4 j (by omega)
theorem g_r1 {hf mf : Nat → Int32} {k : Nat} {it : Bool} {left : Int32} {m1 pp : Nat} {tq : Nat → Int32} {x : Int32} (hI : gInv hf mf k it left m1 pp tq x) (c : ¬ x = 0) : gInv hf mf k it left m1 pp tq 1 := by
  rcases hI.2 with h | h
  · exact absurd h.1 c
  · rw [← h.1]; exact hI
theorem h_init {f g : Nat → Int32} {x v : Int32} {i : Nat} (e : upd f x.toNatClampNeg (vp_nar .boolean v) = g) (hx : x = nI i) (hi : i < 3840) (hv : v = if i = 0 then 1 else 0) (h : ∀ k, k < i → f k = if k = 0 then 1 else 0) : ∀ k, k < i + 1 → g k = if k = 0 then 1 else 0 := by
  intro k hk
  subst hx
  rw [nI_clamp (by omega), nar01 (by rw [hv]; split <;> simp)] at e
  subst e
  by_cases q : k = i
  · subst q; rw [pk_us]; exact hv
  · rw [pk_un q]; exact h k (by omega)
theorem h_copy {f g t : Nat → Int32} {x : Int32} {i : Nat} (e : upd f x.toNatClampNeg (vp_nar .boolean (t x.toNatClampNeg)) = g) (hx : x = nI i) (hi : i < 3840) (hz : t i = 0 ∨ t i = 1) (h : ∀ k, k < i → f k = t k) : ∀ k, k < i + 1 → g k = t k := by
  intro k hk
  subst hx
  rw [nI_clamp (by omega), nar01 hz] at e
  subst e
  by_cases q : k = i
  · subst q; exact pk_us
  · rw [pk_un q]; exact h k (by omega)
theorem i0_t {x : Int32} {i : Nat} (hx : x = nI i) (hi : i < 3840) (c : ¬ x = 0) : (0 : Int32) = if i = 0 then 1 else 0 := by
  rw [if_neg (fun z => c (by rw [hx, z]; rfl))]
theorem i0_f {x : Int32} {i : Nat} (hx : x = nI i) (hi : i < 3840) (c : x = 0) : (1 : Int32) = if i = 0 then 1 else 0 := by
  rw [if_pos ((nI_eq (by omega) (by decide)).mp (show nI i = nI 0 from hx.symm.trans c))]
set_option maxHeartbeats 4000000 in
set_option maxRecDepth 100000 in
theorem k_X8_bestOf (l : Launch) (D : va_G) (cI cJ cZ : ClassId) (sz : Nat) (m8 wa pa8 sta mo hea tha hd8 od8 cd8 opa osa : Nat) (st8 ig io op8 pl8 py wn tu la ps dr : Int32) (tb : Int64) (mf hf9 tf9 : Nat → Int32) (must may : Int64) (aim : Int32) (hmust : isS must) (hmay : isS may) : Met l yX8_bestOf wsX8_bestOf ({ frames := 3, cells := 0, slots := 0, locals := 81 } : Room) (va_Pc [.ref m8, .long must, .long may, .int aim] (wM D cI cJ cZ sz [(m8, .inr (6, [.int st8, .ref wa, .ref pa8, .ref sta, .ref mo, .ref hea, .ref tha, .int ig, .int io, .int op8, .int pl8, .int py, .int wn, .int tu, .int la, .int ps, .ref hd8, .ref od8, .long tb, .ref cd8, .int dr, .ref opa, .ref osa])), (mo, .inl (cI, 203520, .inl mf)), (hea, .inl (cZ, 3840, .inl hf9)), (tha, .inl (cZ, 3840, .inl tf9))])) (va_Ql (fun (r : Int64) (u : (Nat → Int32) × (Nat → Int32) × (Nat → Int32)) => match u with | (mf2, hf2, tf2) => (MostEq must may aim mf2 ∧ ((mf2 0 = -1 ∧ r = -1) ∨ (¬ mf2 0 = -1 ∧ ∃ (Hs : Nat → Nat → Int32) (lf : Nat → Int32) (pt : Nat → Int64), bestSeq must may aim mf2 Hs lf pt 52 ∧ (∀ m, m < 3840 → ¬ Hs 52 m = 0 → igN m ≤ 0) ∧ r = (fjF may (lastU must (Hs 52) 3840) (pt 52) 2).2)))) (fun (u : (Nat → Int32) × (Nat → Int32) × (Nat → Int32)) t => match u with | (mf2, hf2, tf2) => wB D (va_A [(m8, .inr (6, [.int st8, .ref wa, .ref pa8, .ref sta, .ref mo, .ref hea, .ref tha, .int ig, .int io, .int op8, .int pl8, .int py, .int wn, .int tu, .int la, .int ps, .ref hd8, .ref od8, .long tb, .ref cd8, .int dr, .ref opa, .ref osa])), (mo, .inl (cI, 203520, .inl mf)), (hea, .inl (cZ, 3840, .inl hf9)), (tha, .inl (cZ, 3840, .inl tf9))] sz) [(m8, .inr (6, [.int st8, .ref wa, .ref pa8, .ref sta, .ref mo, .ref hea, .ref tha, .int ig, .int io, .int op8, .int pl8, .int py, .int wn, .int tu, .int la, .int ps, .ref hd8, .ref od8, .long tb, .ref cd8, .int dr, .ref opa, .ref osa])), (mo, .inl (cI, 203520, .inl mf2)), (hea, .inl (cZ, 3840, .inl hf2)), (tha, .inl (cZ, 3840, .inl tf2))] t) (va_A [(m8, .inr (6, [.int st8, .ref wa, .ref pa8, .ref sta, .ref mo, .ref hea, .ref tha, .int ig, .int io, .int op8, .int pl8, .int py, .int wn, .int tu, .int la, .int ps, .ref hd8, .ref od8, .long tb, .ref cd8, .int dr, .ref opa, .ref osa])), (mo, .inl (cI, 203520, .inl mf)), (hea, .inl (cZ, 3840, .inl hf9)), (tha, .inl (cZ, 3840, .inl tf9))] sz)) 0 0 (va_A [(m8, .inr (6, [.int st8, .ref wa, .ref pa8, .ref sta, .ref mo, .ref hea, .ref tha, .int ig, .int io, .int op8, .int pl8, .int py, .int wn, .int tu, .int la, .int ps, .ref hd8, .ref od8, .long tb, .ref cd8, .int dr, .ref opa, .ref osa])), (mo, .inl (cI, 203520, .inl mf)), (hea, .inl (cZ, 3840, .inl hf9)), (tha, .inl (cZ, 3840, .inl tf9))] sz) := by
  refine Met.ofW (cc := cX8_bestOf) (maxL := 12) (ret := (some .long)) (by decide) rfl ?_
  intro p e s m args below meth c s₁ B hml hv
  obtain ⟨hargs, hsz, hP, ⟨hK, hN⟩, hD0⟩ := hv
  have hx := B.exec
  have hb := B.bytes
  have hr := B.returns
  have hlocks := B.notSynchronized
  have hts := atoms_spec (ws := wsX8_bestOf) B.pre
  have hown : s.vm.findClass RX8 = some m.cls := findClass_of_methodNamed B.named
  have k55 := hts (.methodLink RX8 55 yX8_has) (by decide +kernel)
  have k25 := hts (.fieldLink RX8 25 "RummyTableModel" "here" "[Z") (by decide +kernel)
  have iX8 : ∀ w ∈ wsX80, w ∈ wsX8_bestOf := by decide +kernel
  have k70 := hts (.methodLink RX8 70 yX8_jokers) (by decide +kernel)
  have k78 := hts (.methodLink RX8 78 yX8_jokersOf) (by decide +kernel)
  have k28 := hts (.fieldLink RX8 28 "RummyTableModel" "there" "[Z") (by decide +kernel)
  have k139 := hts (.methodLink RX8 139 yX8_goes) (by decide +kernel)
  have k122 := hts (.methodLink RX8 122 yX8_gain) (by decide +kernel)
  have k133 := hts (.methodLink RX8 133 yX8_reckon) (by decide +kernel)
  have k22 := hts (.fieldLink RX8 22 "RummyTableModel" "most" "[I") (by decide +kernel)
  have k137 := hts (.constantLong RX8 137 (-1)) (by decide +kernel)
  subst hsz
  have hD := hD0.self (sz := s.heap.size)
  generalize hAe : va_A [(m8, .inr (6, [.int st8, .ref wa, .ref pa8, .ref sta, .ref mo, .ref hea, .ref tha, .int ig, .int io, .int op8, .int pl8, .int py, .int wn, .int tu, .int la, .int ps, .ref hd8, .ref od8, .long tb, .ref cd8, .int dr, .ref opa, .ref osa])), (mo, .inl (cI, 203520, .inl mf)), (hea, .inl (cZ, 3840, .inl hf9)), (tha, .inl (cZ, 3840, .inl tf9))] s.heap.size = A at hD ⊢
  have hA : ∀ q : Nat, s.heap.size ≤ q → A q := fun q h => by rw [← hAe]; exact Or.inr h
  have hS : va_S A s.heap s.heap [] := va_S.rf
  rw [show entryFrame m args 12 = entryFrame m ([.ref m8, .long must, .long may, .int aim] : List Value).toArray 12 from by rw [hargs]]
  have hl := lv_entry ([.ref m8, .long must, .long may, .int aim]) (n := 12) (Nat.le_of_ble_eq_true rfl)
  rw [lg_entry_eq]
  generalize (lg_sl ([.ref m8, .long must, .long may, .int aim]) ++ List.replicate (12 - (lg_sl ([.ref m8, .long must, .long may, .int aim])).length) Slot.unset).toArray = ls at hl ⊢
  have hl : lv_has ls 12 [(0, .ref m8), (1, .long must), (3, .long may), (5, .int aim)] := hl
  refine wQ (fun Q hQ => ?_)
  have lab249 : ∀ fuel249 : Nat, ∀ (i : Nat) (Hs : Nat → Nat → Int32) (lf : Nat → Int32) (pt : Nat → Int64) (x7 : Int64) (x9 : Int32) (x10 : Int32) (mq : Nat → Int32) (hq : Nat → Int32) (tq : Nat → Int32), (hMost : MostEq must may aim mq) → (hm0 : ¬ mq 0 = -1) → (hsq : bestSeq must may aim mq Hs lf pt 52) → (hgd : ∀ m, m < 3840 → ¬ Hs 52 m = 0 → igN m ≤ 0) → (h10 : x10 = nI (52 + i)) → (hi : i ≤ 2) → (hfj : (x9, x7) = fjF may (lastU must (Hs 52) 3840) (pt 52) i) → (hfu249 : 2 - i < fuel249) → ∀ (H : Heap) (locs : List Loc), va_P D vwCl [(m8, .inr (6, [.int st8, .ref wa, .ref pa8, .ref sta, .ref mo, .ref hea, .ref tha, .int ig, .int io, .int op8, .int pl8, .int py, .int wn, .int tu, .int la, .int ps, .ref hd8, .ref od8, .long tb, .ref cd8, .int dr, .ref opa, .ref osa])), (mo, .inl (cI, 203520, .inl mq)), (hea, .inl (cZ, 3840, .inl hq)), (tha, .inl (cZ, 3840, .inl tq))] H → va_D A [(m8, .inr (6, [.int st8, .ref wa, .ref pa8, .ref sta, .ref mo, .ref hea, .ref tha, .int ig, .int io, .int op8, .int pl8, .int py, .int wn, .int tu, .int la, .int ps, .ref hd8, .ref od8, .long tb, .ref cd8, .int dr, .ref opa, .ref osa])), (mo, .inl (cI, 203520, .inl mq)), (hea, .inl (cZ, 3840, .inl hq)), (tha, .inl (cZ, 3840, .inl tq))] → va_S A s.heap H locs → ∀ ls : Array Slot, lv_has ls 12 [(0, .ref m8), (1, .long must), (3, .long may), (7, .long x7), (9, .int x9), (10, .int x10)] → W p l e (headSpec wsX8_bestOf ({ frames := 3, cells := 0, slots := 0, locals := 81 } : Room)).room s m args below meth c H locs 0 0 Q (F0 m 249 ls []) := by
    intro fuel249
    induction fuel249 with
    | zero =>
      intro i Hs lf pt x7 x9 x10 mq hq tq hMost hm0 hsq hgd h10 hi hfj hfu249
      exact absurd hfu249 (Nat.not_lt_zero _)
    | succ fuel249 ih249 =>
      intro i Hs lf pt x7 x9 x10 mq hq tq hMost hm0 hsq hgd h10 hi hfj hfu249 H locs hP hD hS ls hl
      refine lv_iload hx hb dX8_bestOf_249 (lv_at hl 5 rfl) ?_
      refine lv_bipush (v := 54) hx hb dX8_bestOf_251 (by decide) ?_
      refine lv_icmp_ge (tgt := 291) hx hb dX8_bestOf_253 (by decide) (fun c_253 => ?_) (fun c_253 => ?_)
      · have hi2 : i = 2 := by rw [h10, show (54 : Int32) = nI 54 from rfl, nI_leI (by decide) (by omega)] at c_253; omega
        subst hi2
        have hres : x7 = (fjF may (lastU must (Hs 52) 3840) (pt 52) 2).2 := congrArg Prod.snd hfj
        refine lv_lload hx hb dX8_bestOf_291 (lv_at hl 3 rfl) ?_
        rw [← hQ]
        have hP9 := hP.sub (ws' := [(m8, .inr (6, [.int st8, .ref wa, .ref pa8, .ref sta, .ref mo, .ref hea, .ref tha, .int ig, .int io, .int op8, .int pl8, .int py, .int wn, .int tu, .int la, .int ps, .ref hd8, .ref od8, .long tb, .ref cd8, .int dr, .ref opa, .ref osa])), (mo, .inl (cI, 203520, .inl mq)), (hea, .inl (cZ, 3840, .inl hq)), (tha, .inl (cZ, 3840, .inl tq))]) [0, 1, 2, 3] rfl
        have hD9 := hD.sub (ws' := [(m8, .inr (6, [.int st8, .ref wa, .ref pa8, .ref sta, .ref mo, .ref hea, .ref tha, .int ig, .int io, .int op8, .int pl8, .int py, .int wn, .int tu, .int la, .int ps, .ref hd8, .ref od8, .long tb, .ref cd8, .int dr, .ref opa, .ref osa])), (mo, .inl (cI, 203520, .inl mq)), (hea, .inl (cZ, 3840, .inl hq)), (tha, .inl (cZ, 3840, .inl tq))]) [0, 1, 2, 3] (by decide) rfl
        exact W.lret (v := x7) hx hb hr (fun t ht hW => ⟨⟨x7, (mq, hq, tq), rfl, ⟨hMost, Or.inr ⟨hm0, Hs, lf, pt, hsq, hgd, hres⟩⟩, (by show wB D A _ t; exact ⟨by rw [ht]; exact hP9, hD9⟩)⟩, hS.F ht⟩) hS.2.2 dX8_bestOf_293
      · have hi2 : i < 2 := by rw [h10, show (54 : Int32) = nI 54 from rfl, nI_leI (by decide) (by omega)] at c_253; omega
        refine lv_iload hx hb dX8_bestOf_256 (lv_at hl 4 rfl) ?_
        refine lv_if_le (tgt := 291) hx hb dX8_bestOf_258 (by decide) (fun c_258 => ?_) (fun c_258 => ?_)
        · have hres : x7 = (fjF may (lastU must (Hs 52) 3840) (pt 52) 2).2 := by have hs := fjF_stop (i := i) (by rw [← hfj]; exact c_258) (2 - i); rw [show i + (2 - i) = 2 by omega, ← hfj] at hs; rw [hs]
          refine lv_lload hx hb dX8_bestOf_291 (lv_at hl 3 rfl) ?_
          rw [← hQ]
          have hP9 := hP.sub (ws' := [(m8, .inr (6, [.int st8, .ref wa, .ref pa8, .ref sta, .ref mo, .ref hea, .ref tha, .int ig, .int io, .int op8, .int pl8, .int py, .int wn, .int tu, .int la, .int ps, .ref hd8, .ref od8, .long tb, .ref cd8, .int dr, .ref opa, .ref osa])), (mo, .inl (cI, 203520, .inl mq)), (hea, .inl (cZ, 3840, .inl hq)), (tha, .inl (cZ, 3840, .inl tq))]) [0, 1, 2, 3] rfl
          have hD9 := hD.sub (ws' := [(m8, .inr (6, [.int st8, .ref wa, .ref pa8, .ref sta, .ref mo, .ref hea, .ref tha, .int ig, .int io, .int op8, .int pl8, .int py, .int wn, .int tu, .int la, .int ps, .ref hd8, .ref od8, .long tb, .ref cd8, .int dr, .ref opa, .ref osa])), (mo, .inl (cI, 203520, .inl mq)), (hea, .inl (cZ, 3840, .inl hq)), (tha, .inl (cZ, 3840, .inl tq))]) [0, 1, 2, 3] (by decide) rfl
          exact W.lret (v := x7) hx hb hr (fun t ht hW => ⟨⟨x7, (mq, hq, tq), rfl, ⟨hMost, Or.inr ⟨hm0, Hs, lf, pt, hsq, hgd, hres⟩⟩, (by show wB D A _ t; exact ⟨by rw [ht]; exact hP9, hD9⟩)⟩, hS.F ht⟩) hS.2.2 dX8_bestOf_293
        · refine lv_lload_n hx hb dX8_bestOf_261 rfl (lv_at hl 2 rfl) ?_
          refine lv_iload hx hb dX8_bestOf_262 (lv_at hl 5 rfl) ?_
          refine vp_callSi (W.runS (As := [.long may, .int x10]) (rest := []) ⟨hx, hb, hml, hown, hts⟩ (k_X8_has l may x10 ) (va_cwS 2 hts gX8_bestOf_X8_has rfl rfl rfl (by decide +kernel) ⟨Nat.le_of_ble_eq_true rfl, Nat.le_of_ble_eq_true rfl⟩) ⟨pS_fb, pS_pre⟩ rfl rfl hl.1 rfl (lv_room (Nat.le_of_ble_eq_true rfl)) dX8_bestOf_264 ⟨Nat.le_of_ble_eq_true rfl, Nat.le_of_ble_eq_true rfl⟩) (fun x264 hx264 => ?_)
          subst hx264
          refine lv_if_ne (tgt := 273) hx hb dX8_bestOf_267 (by decide) (fun c_267 => ?_) (fun c_267 => ?_)
          · refine lv_lload hx hb dX8_bestOf_273 (lv_at hl 3 rfl) ?_
            refine lv_lconst (v := 1) hx hb dX8_bestOf_275 (by decide) ?_
            refine lv_iload hx hb dX8_bestOf_276 (lv_at hl 5 rfl) ?_
            refine lv_lshl hx hb dX8_bestOf_278 rfl ?_
            refine lv_lor hx hb dX8_bestOf_279 ?_
            refine lv_topl (fun x280 ex280 => ?_)
            refine lv_lstore (lv' := [(7, .long x280), (0, .ref m8), (1, .long must), (3, .long may), (9, .int x9), (10, .int x10)]) hx hb dX8_bestOf_280 hl (by decide) rfl (fun ls hl => ?_)
            obtain ⟨x282, ex282⟩ : ∃ y : Int32, y = x9 + (-1) := ⟨_, rfl⟩
            refine lv_iinc (v := x282) (lv' := [(9, .int x282), (7, .long x280), (0, .ref m8), (1, .long must), (3, .long may), (10, .int x10)]) hx hb dX8_bestOf_282 hl (k := 4) rfl (by rw [ex282]; rfl) (by decide) rfl (fun ls hl => ?_)
            obtain ⟨x285, ex285⟩ : ∃ y : Int32, y = x10 + 1 := ⟨_, rfl⟩
            refine lv_iinc (v := x285) (lv' := [(10, .int x285), (9, .int x282), (7, .long x280), (0, .ref m8), (1, .long must), (3, .long may)]) hx hb dX8_bestOf_285 hl (k := 5) rfl (by rw [ex285]; rfl) (by decide) rfl (fun ls hl => ?_)
            refine lv_goto (tgt := 249) hx hb dX8_bestOf_288 (by decide) ?_
            exact ih249 (i + 1) Hs lf pt x280 x282 x285 mq hq tq (hMost) (hm0) (hsq) (hgd) (by rw [ex285, h10]; exact nI_1 _) (by omega) (by simp only [fjF]; rw [← hfj]; rw [if_neg c_258]; rw [h10] at c_267; first | (rw [if_pos c_267]; done) | (rw [if_neg c_267, ex282, ex280, h10]; done)) (by omega) _ _ hP hD hS ls (lv_sub hl [3, 4, 5, 2, 1, 0] rfl)
          · refine lv_goto (tgt := 285) hx hb dX8_bestOf_270 (by decide) ?_
            obtain ⟨x285, ex285⟩ : ∃ y : Int32, y = x10 + 1 := ⟨_, rfl⟩
            refine lv_iinc (v := x285) (lv' := [(10, .int x285), (0, .ref m8), (1, .long must), (3, .long may), (7, .long x7), (9, .int x9)]) hx hb dX8_bestOf_285 hl (k := 5) rfl (by rw [ex285]; rfl) (by decide) rfl (fun ls hl => ?_)
            refine lv_goto (tgt := 249) hx hb dX8_bestOf_288 (by decide) ?_
            exact ih249 (i + 1) Hs lf pt x7 x9 x285 mq hq tq (hMost) (hm0) (hsq) (hgd) (by rw [ex285, h10]; exact nI_1 _) (by omega) (by simp only [fjF]; rw [← hfj]; rw [if_neg c_258]; rw [h10] at c_267; first | (rw [if_pos c_267]; done) | (rw [if_neg c_267, ex282, ex280, h10]; done)) (by omega) _ _ hP hD hS ls (lv_sub hl [1, 2, 3, 4, 5, 0] rfl)
  have lab209 : ∀ fuel209 : Nat, ∀ (m1 : Nat) (Hs : Nat → Nat → Int32) (lf : Nat → Int32) (pt : Nat → Int64) (x7 : Int64) (x9 : Int32) (x10 : Int32) (mq : Nat → Int32) (hq : Nat → Int32) (tq : Nat → Int32), (hMost : MostEq must may aim mq) → (hm0 : ¬ mq 0 = -1) → (hsq : bestSeq must may aim mq Hs lf pt 52) → (hgd : ∀ m, m < 3840 → ¬ Hs 52 m = 0 → igN m ≤ 0) → (hHq : Hs 52 = hq) → (h7 : x7 = pt 52) → (h10 : x10 = nI m1) → (hm1 : m1 ≤ 3840) → (hlu : x9 = lastU must hq m1) → (hfu209 : 3840 - m1 < fuel209) → ∀ (H : Heap) (locs : List Loc), va_P D vwCl [(m8, .inr (6, [.int st8, .ref wa, .ref pa8, .ref sta, .ref mo, .ref hea, .ref tha, .int ig, .int io, .int op8, .int pl8, .int py, .int wn, .int tu, .int la, .int ps, .ref hd8, .ref od8, .long tb, .ref cd8, .int dr, .ref opa, .ref osa])), (mo, .inl (cI, 203520, .inl mq)), (hea, .inl (cZ, 3840, .inl hq)), (tha, .inl (cZ, 3840, .inl tq))] H → va_D A [(m8, .inr (6, [.int st8, .ref wa, .ref pa8, .ref sta, .ref mo, .ref hea, .ref tha, .int ig, .int io, .int op8, .int pl8, .int py, .int wn, .int tu, .int la, .int ps, .ref hd8, .ref od8, .long tb, .ref cd8, .int dr, .ref opa, .ref osa])), (mo, .inl (cI, 203520, .inl mq)), (hea, .inl (cZ, 3840, .inl hq)), (tha, .inl (cZ, 3840, .inl tq))] → va_S A s.heap H locs → ∀ ls : Array Slot, lv_has ls 12 [(0, .ref m8), (1, .long must), (3, .long may), (7, .long x7), (9, .int x9), (10, .int x10)] → W p l e (headSpec wsX8_bestOf ({ frames := 3, cells := 0, slots := 0, locals := 81 } : Room)).room s m args below meth c H locs 0 0 Q (F0 m 209 ls []) := by
    intro fuel209
    induction fuel209 with
    | zero =>
      intro m1 Hs lf pt x7 x9 x10 mq hq tq hMost hm0 hsq hgd hHq h7 h10 hm1 hlu hfu209
      exact absurd hfu209 (Nat.not_lt_zero _)
    | succ fuel209 ih209 =>
      intro m1 Hs lf pt x7 x9 x10 mq hq tq hMost hm0 hsq hgd hHq h7 h10 hm1 hlu hfu209 H locs hP hD hS ls hl
      refine lv_iload hx hb dX8_bestOf_209 (lv_at hl 5 rfl) ?_
      refine lv_sipush (v := 3840) hx hb dX8_bestOf_211 (by decide) ?_
      refine lv_icmp_ge (tgt := 245) hx hb dX8_bestOf_214 (by decide) (fun c_214 => ?_) (fun c_214 => ?_)
      · have hm9 : m1 = 3840 := hp_ge h10 (by decide : (3840 : Int32) = nI 3840) hm1 (by decide) c_214
        subst hm9
        have h9u : x9 = lastU must (Hs 52) 3840 := by rw [hHq]; exact hlu
        refine lv_bipush (v := 52) hx hb dX8_bestOf_245 (by decide) ?_
        refine lv_istore (lv' := [(10, .int 52), (0, .ref m8), (1, .long must), (3, .long may), (7, .long x7), (9, .int x9)]) hx hb dX8_bestOf_247 hl (by decide) rfl (fun ls hl => ?_)
        exact lab249 _ 0 Hs lf pt x7 x9 52 mq hq tq (hMost) (hm0) (hsq) (hgd) (rfl) (by omega) (by rw [h9u, h7]; rfl) (Nat.lt_succ_self _) _ _ hP hD hS ls (lv_sub hl [1, 2, 3, 4, 5, 0] rfl)
      · have hmlt : m1 < 3840 := hp_lt h10 (by decide : (3840 : Int32) = nI 3840) hm1 (by decide) c_214
        refine lv_aload_n hx hb dX8_bestOf_217 rfl (lv_at hl 0 rfl) ?_
        refine va_get (D := D) (ci := 6) (v := .ref hea) (C := RX8) (T := TX8) (N := 23) hx hb hts iX8 hown hK hP 0 rfl rfl 5 (by decide) k25 (fun _ h9 => h9) rfl dX8_bestOf_218 ?_
        refine lv_iload hx hb dX8_bestOf_221 (lv_at hl 5 rfl) ?_
        refine va_zald hx hb hK hP 2 2 rfl rfl (by rw [h10]; exact vp_in_nI hmlt (by decide)) dX8_bestOf_223 ?_
        refine lv_if_eq (tgt := 239) hx hb dX8_bestOf_224 (by decide) (fun c_224 => ?_) (fun c_224 => ?_)
        · obtain ⟨x239, ex239⟩ : ∃ y : Int32, y = x10 + 1 := ⟨_, rfl⟩
          refine lv_iinc (v := x239) (lv' := [(10, .int x239), (0, .ref m8), (1, .long must), (3, .long may), (7, .long x7), (9, .int x9)]) hx hb dX8_bestOf_239 hl (k := 5) rfl (by rw [ex239]; rfl) (by decide) rfl (fun ls hl => ?_)
          refine lv_goto (tgt := 209) hx hb dX8_bestOf_242 (by decide) ?_
          exact ih209 (m1 + 1) Hs lf pt x7 x9 x239 mq hq tq (hMost) (hm0) (hsq) (hgd) (hHq) (h7) (hp_s ex239 h10) (by omega) (by simp only [lastU]; rw [h10, nI_clamp (by omega)] at c_224; first | (rw [if_pos c_224]; exact hlu) | (rw [if_neg c_224, ex237, h10])) (by omega) _ _ hP hD hS ls (lv_sub hl [1, 2, 3, 4, 5, 0] rfl)
        · refine lv_iload hx hb dX8_bestOf_227 (lv_at hl 5 rfl) ?_
          refine vp_callSi (W.runS (As := [.int x10]) (rest := []) ⟨hx, hb, hml, hown, hts⟩ (k_X8_jokers l x10 ) (va_cwS 1 hts gX8_bestOf_X8_jokers rfl rfl rfl (by decide +kernel) ⟨Nat.le_of_ble_eq_true rfl, Nat.le_of_ble_eq_true rfl⟩) ⟨pS_fb, pS_pre⟩ rfl rfl hl.1 rfl (lv_room (Nat.le_of_ble_eq_true rfl)) dX8_bestOf_229 ⟨Nat.le_of_ble_eq_true rfl, Nat.le_of_ble_eq_true rfl⟩) (fun x229 hx229 => ?_)
          subst hx229
          refine lv_lload_n hx hb dX8_bestOf_232 rfl (lv_at hl 1 rfl) ?_
          refine vp_callSi (W.runS (As := [.long must]) (rest := [.int (j_X8_jokers x10)]) ⟨hx, hb, hml, hown, hts⟩ (k_X8_jokersOf l must ) (va_cwS 1 hts gX8_bestOf_X8_jokersOf rfl rfl rfl (by decide +kernel) ⟨Nat.le_of_ble_eq_true rfl, Nat.le_of_ble_eq_true rfl⟩) ⟨pS_fb, pS_pre⟩ rfl rfl hl.1 rfl (lv_room (Nat.le_of_ble_eq_true rfl)) dX8_bestOf_233 ⟨Nat.le_of_ble_eq_true rfl, Nat.le_of_ble_eq_true rfl⟩) (fun x233 hx233 => ?_)
          subst hx233
          refine lv_isub hx hb dX8_bestOf_236 ?_
          refine lv_topi (fun x237 ex237 => ?_)
          refine lv_istore (lv' := [(9, .int x237), (0, .ref m8), (1, .long must), (3, .long may), (7, .long x7), (10, .int x10)]) hx hb dX8_bestOf_237 hl (by decide) rfl (fun ls hl => ?_)
          obtain ⟨x239, ex239⟩ : ∃ y : Int32, y = x10 + 1 := ⟨_, rfl⟩
          refine lv_iinc (v := x239) (lv' := [(10, .int x239), (9, .int x237), (0, .ref m8), (1, .long must), (3, .long may), (7, .long x7)]) hx hb dX8_bestOf_239 hl (k := 5) rfl (by rw [ex239]; rfl) (by decide) rfl (fun ls hl => ?_)
          refine lv_goto (tgt := 209) hx hb dX8_bestOf_242 (by decide) ?_
          exact ih209 (m1 + 1) Hs lf pt x7 x237 x239 mq hq tq (hMost) (hm0) (hsq) (hgd) (hHq) (h7) (hp_s ex239 h10) (by omega) (by simp only [lastU]; rw [h10, nI_clamp (by omega)] at c_224; first | (rw [if_pos c_224]; exact hlu) | (rw [if_neg c_224, ex237, h10])) (by omega) _ _ hP hD hS ls (lv_sub hl [2, 3, 4, 5, 1, 0] rfl)
  have lab66 : ∀ fuel66 : Nat, ∀ (k1 : Nat) (Hs : Nat → Nat → Int32) (lf : Nat → Int32) (pt : Nat → Int64) (x6 : Int32) (x7 : Int64) (x9 : Int32) (mq : Nat → Int32) (hq : Nat → Int32) (tq : Nat → Int32), (hMost : MostEq must may aim mq) → (hm0 : ¬ mq 0 = -1) → (h9 : x9 = nI k1) → (hk1 : k1 ≤ 52) → (hsq : bestSeq must may aim mq Hs lf pt k1) → (hHq : Hs k1 = hq) → (h6 : x6 = lf k1) → (h7 : x7 = pt k1) → (hgd : ∀ m, m < 3840 → ¬ Hs k1 m = 0 → igN m ≤ k1 % 4) → (hfu66 : 52 - k1 < fuel66) → ∀ (H : Heap) (locs : List Loc), va_P D vwCl [(m8, .inr (6, [.int st8, .ref wa, .ref pa8, .ref sta, .ref mo, .ref hea, .ref tha, .int ig, .int io, .int op8, .int pl8, .int py, .int wn, .int tu, .int la, .int ps, .ref hd8, .ref od8, .long tb, .ref cd8, .int dr, .ref opa, .ref osa])), (mo, .inl (cI, 203520, .inl mq)), (hea, .inl (cZ, 3840, .inl hq)), (tha, .inl (cZ, 3840, .inl tq))] H → va_D A [(m8, .inr (6, [.int st8, .ref wa, .ref pa8, .ref sta, .ref mo, .ref hea, .ref tha, .int ig, .int io, .int op8, .int pl8, .int py, .int wn, .int tu, .int la, .int ps, .ref hd8, .ref od8, .long tb, .ref cd8, .int dr, .ref opa, .ref osa])), (mo, .inl (cI, 203520, .inl mq)), (hea, .inl (cZ, 3840, .inl hq)), (tha, .inl (cZ, 3840, .inl tq))] → va_S A s.heap H locs → ∀ ls : Array Slot, lv_has ls 12 [(0, .ref m8), (1, .long must), (3, .long may), (5, .int aim), (6, .int x6), (7, .long x7), (9, .int x9)] → W p l e (headSpec wsX8_bestOf ({ frames := 3, cells := 0, slots := 0, locals := 81 } : Room)).room s m args below meth c H locs 0 0 Q (F0 m 66 ls []) := by
    intro fuel66
    induction fuel66 with
    | zero =>
      intro k1 Hs lf pt x6 x7 x9 mq hq tq hMost hm0 h9 hk1 hsq hHq h6 h7 hgd hfu66
      exact absurd hfu66 (Nat.not_lt_zero _)
    | succ fuel66 ih66 =>
      intro k1 Hs lf pt x6 x7 x9 mq hq tq hMost hm0 h9 hk1 hsq hHq h6 h7 hgd hfu66 H locs hP hD hS ls hl
      have lab169 : ∀ fuel169 : Nat, ∀ (i : Nat) (x6 : Int32) (x7 : Int64) (x11 : Int32) (hr3 : Nat → Int32) (tq : Nat → Int32), (hkl : k1 < 52) → (hst : stB must may aim mq (Hs k1) tq (lf k1) x6 (pt k1) x7 k1) → (h11 : x11 = nI i) → (hi : i ≤ 3840) → (hcp : ∀ t, t < i → hr3 t = tq t) → (hfu169 : 3840 - i < fuel169) → ∀ (H : Heap) (locs : List Loc), va_P D vwCl [(m8, .inr (6, [.int st8, .ref wa, .ref pa8, .ref sta, .ref mo, .ref hea, .ref tha, .int ig, .int io, .int op8, .int pl8, .int py, .int wn, .int tu, .int la, .int ps, .ref hd8, .ref od8, .long tb, .ref cd8, .int dr, .ref opa, .ref osa])), (mo, .inl (cI, 203520, .inl mq)), (hea, .inl (cZ, 3840, .inl hr3)), (tha, .inl (cZ, 3840, .inl tq))] H → va_D A [(m8, .inr (6, [.int st8, .ref wa, .ref pa8, .ref sta, .ref mo, .ref hea, .ref tha, .int ig, .int io, .int op8, .int pl8, .int py, .int wn, .int tu, .int la, .int ps, .ref hd8, .ref od8, .long tb, .ref cd8, .int dr, .ref opa, .ref osa])), (mo, .inl (cI, 203520, .inl mq)), (hea, .inl (cZ, 3840, .inl hr3)), (tha, .inl (cZ, 3840, .inl tq))] → va_S A s.heap H locs → ∀ ls : Array Slot, lv_has ls 12 [(0, .ref m8), (1, .long must), (3, .long may), (5, .int aim), (6, .int x6), (7, .long x7), (9, .int x9), (11, .int x11)] → W p l e (headSpec wsX8_bestOf ({ frames := 3, cells := 0, slots := 0, locals := 81 } : Room)).room s m args below meth c H locs 0 0 Q (F0 m 169 ls []) := by
        intro fuel169
        induction fuel169 with
        | zero =>
          intro i x6 x7 x11 hr3 tq hkl hst h11 hi hcp hfu169
          exact absurd hfu169 (Nat.not_lt_zero _)
        | succ fuel169 ih169 =>
          intro i x6 x7 x11 hr3 tq hkl hst h11 hi hcp hfu169 H locs hP hD hS ls hl
          refine lv_iload hx hb dX8_bestOf_169 (lv_at hl 7 rfl) ?_
          refine lv_sipush (v := 3840) hx hb dX8_bestOf_171 (by decide) ?_
          refine lv_icmp_ge (tgt := 197) hx hb dX8_bestOf_174 (by decide) (fun c_174 => ?_) (fun c_174 => ?_)
          · have hi9 : i = 3840 := hp_ge h11 (by decide : (3840 : Int32) = nI 3840) hi (by decide) c_174
            subst hi9
            obtain ⟨x197, ex197⟩ : ∃ y : Int32, y = x9 + 1 := ⟨_, rfl⟩
            refine lv_iinc (v := x197) (lv' := [(9, .int x197), (0, .ref m8), (1, .long must), (3, .long may), (5, .int aim), (6, .int x6), (7, .long x7), (11, .int x11)]) hx hb dX8_bestOf_197 hl (k := 6) rfl (by rw [ex197]; rfl) (by decide) rfl (fun ls hl => ?_)
            refine lv_goto (tgt := 66) hx hb dX8_bestOf_200 (by decide) ?_
            exact ih66 (k1 + 1) (fun j => if j = k1 + 1 then hr3 else Hs j) (fun j => if j = k1 + 1 then x6 else lf j) (fun j => if j = k1 + 1 then x7 else pt j) x6 x7 x197 mq hr3 tq (hMost) (hm0) (hp_s ex197 h9) (by omega) (seq_next hsq (stB_ptw hcp hst)) (if_pos rfl) ((if_pos rfl).symm) ((if_pos rfl).symm) (fun m hm hz => by rw [if_pos rfl] at hz; exact (stB_good hgd hst m hm).2 (by rw [← hcp m hm]; exact hz)) (by omega) _ _ hP hD hS ls (lv_sub hl [1, 2, 3, 4, 5, 6, 0] rfl)
          · have hlt : i < 3840 := hp_lt h11 (by decide : (3840 : Int32) = nI 3840) hi (by decide) c_174
            refine lv_aload_n hx hb dX8_bestOf_177 rfl (lv_at hl 0 rfl) ?_
            refine va_get (D := D) (ci := 6) (v := .ref hea) (C := RX8) (T := TX8) (N := 23) hx hb hts iX8 hown hK hP 0 rfl rfl 5 (by decide) k25 (fun _ h9 => h9) rfl dX8_bestOf_178 ?_
            refine lv_iload hx hb dX8_bestOf_181 (lv_at hl 7 rfl) ?_
            refine lv_aload_n hx hb dX8_bestOf_183 rfl (lv_at hl 0 rfl) ?_
            refine va_get (D := D) (ci := 6) (v := .ref tha) (C := RX8) (T := TX8) (N := 23) hx hb hts iX8 hown hK hP 0 rfl rfl 6 (by decide) k28 (fun _ h9 => h9) rfl dX8_bestOf_184 ?_
            refine lv_iload hx hb dX8_bestOf_187 (lv_at hl 7 rfl) ?_
            refine va_zald hx hb hK hP 3 2 rfl rfl (by rw [h11]; exact vp_in_nI hlt (by decide)) dX8_bestOf_189 ?_
            refine va_zast hx hb hK hP hD hS 2 2 rfl rfl (by rw [h11]; exact vp_in_nI hlt (by decide)) dX8_bestOf_190 (fun H locs hP hD hS => ?_)
            have hP : va_P D vwCl [(m8, .inr (6, [.int st8, .ref wa, .ref pa8, .ref sta, .ref mo, .ref hea, .ref tha, .int ig, .int io, .int op8, .int pl8, .int py, .int wn, .int tu, .int la, .int ps, .ref hd8, .ref od8, .long tb, .ref cd8, .int dr, .ref opa, .ref osa])), (mo, .inl (cI, 203520, .inl mq)), (hea, .inl (cZ, 3840, .inl (upd hr3 x11.toNatClampNeg (vp_nar .boolean (tq x11.toNatClampNeg))))), (tha, .inl (cZ, 3840, .inl tq))] H := hP
            have hD : va_D A [(m8, .inr (6, [.int st8, .ref wa, .ref pa8, .ref sta, .ref mo, .ref hea, .ref tha, .int ig, .int io, .int op8, .int pl8, .int py, .int wn, .int tu, .int la, .int ps, .ref hd8, .ref od8, .long tb, .ref cd8, .int dr, .ref opa, .ref osa])), (mo, .inl (cI, 203520, .inl mq)), (hea, .inl (cZ, 3840, .inl (upd hr3 x11.toNatClampNeg (vp_nar .boolean (tq x11.toNatClampNeg))))), (tha, .inl (cZ, 3840, .inl tq))] := hD
            generalize ex190 : upd hr3 x11.toNatClampNeg (vp_nar .boolean (tq x11.toNatClampNeg)) = x190 at hP hD
            obtain ⟨x191, ex191⟩ : ∃ y : Int32, y = x11 + 1 := ⟨_, rfl⟩
            refine lv_iinc (v := x191) (lv' := [(11, .int x191), (0, .ref m8), (1, .long must), (3, .long may), (5, .int aim), (6, .int x6), (7, .long x7), (9, .int x9)]) hx hb dX8_bestOf_191 hl (k := 7) rfl (by rw [ex191]; rfl) (by decide) rfl (fun ls hl => ?_)
            refine lv_goto (tgt := 169) hx hb dX8_bestOf_194 (by decide) ?_
            exact ih169 (i + 1) x6 x7 x191 x190 tq (hkl) (hst) (hp_s ex191 h11) (by omega) (h_copy ex190 h11 hlt (stB_good hgd hst i hlt).1 hcp) (by omega) _ _ hP hD hS ls (lv_sub hl [1, 2, 3, 4, 5, 6, 7, 0] rfl)
      have lab166 : ∀  (x6 : Int32) (x7 : Int64) (tq : Nat → Int32), (hkl : k1 < 52) → (hst : stB must may aim mq (Hs k1) tq (lf k1) x6 (pt k1) x7 k1) → ∀ (H : Heap) (locs : List Loc), va_P D vwCl [(m8, .inr (6, [.int st8, .ref wa, .ref pa8, .ref sta, .ref mo, .ref hea, .ref tha, .int ig, .int io, .int op8, .int pl8, .int py, .int wn, .int tu, .int la, .int ps, .ref hd8, .ref od8, .long tb, .ref cd8, .int dr, .ref opa, .ref osa])), (mo, .inl (cI, 203520, .inl mq)), (hea, .inl (cZ, 3840, .inl hq)), (tha, .inl (cZ, 3840, .inl tq))] H → va_D A [(m8, .inr (6, [.int st8, .ref wa, .ref pa8, .ref sta, .ref mo, .ref hea, .ref tha, .int ig, .int io, .int op8, .int pl8, .int py, .int wn, .int tu, .int la, .int ps, .ref hd8, .ref od8, .long tb, .ref cd8, .int dr, .ref opa, .ref osa])), (mo, .inl (cI, 203520, .inl mq)), (hea, .inl (cZ, 3840, .inl hq)), (tha, .inl (cZ, 3840, .inl tq))] → va_S A s.heap H locs → ∀ ls : Array Slot, lv_has ls 12 [(0, .ref m8), (1, .long must), (3, .long may), (5, .int aim), (6, .int x6), (7, .long x7), (9, .int x9)] → W p l e (headSpec wsX8_bestOf ({ frames := 3, cells := 0, slots := 0, locals := 81 } : Room)).room s m args below meth c H locs 0 0 Q (F0 m 166 ls []) := by
        intro x6 x7 tq hkl hst H locs hP hD hS ls hl
        refine lv_iconst (v := 0) hx hb dX8_bestOf_166 (by decide) ?_
        refine lv_istore (lv' := [(11, .int 0), (0, .ref m8), (1, .long must), (3, .long may), (5, .int aim), (6, .int x6), (7, .long x7), (9, .int x9)]) hx hb dX8_bestOf_167 hl (by decide) rfl (fun ls hl => ?_)
        exact lab169 _ 0 x6 x7 0 hq tq (hkl) (hst) (nI_0.symm) (by omega) (fun t h => absurd h (Nat.not_lt_zero t)) (Nat.lt_succ_self _) _ _ hP hD hS ls (lv_sub hl [1, 2, 3, 4, 5, 6, 7, 0] rfl)
      have lab121 : ∀  (x10 : Int32) (tq : Nat → Int32), (hkl : k1 < 52) → (hin : (x10 = 1 ∧ stIn may aim mq (Hs k1) tq (lf k1) k1) ∨ (x10 = 0 ∧ stOut may aim mq (Hs k1) (lf k1) k1)) → ∀ (H : Heap) (locs : List Loc), va_P D vwCl [(m8, .inr (6, [.int st8, .ref wa, .ref pa8, .ref sta, .ref mo, .ref hea, .ref tha, .int ig, .int io, .int op8, .int pl8, .int py, .int wn, .int tu, .int la, .int ps, .ref hd8, .ref od8, .long tb, .ref cd8, .int dr, .ref opa, .ref osa])), (mo, .inl (cI, 203520, .inl mq)), (hea, .inl (cZ, 3840, .inl hq)), (tha, .inl (cZ, 3840, .inl tq))] H → va_D A [(m8, .inr (6, [.int st8, .ref wa, .ref pa8, .ref sta, .ref mo, .ref hea, .ref tha, .int ig, .int io, .int op8, .int pl8, .int py, .int wn, .int tu, .int la, .int ps, .ref hd8, .ref od8, .long tb, .ref cd8, .int dr, .ref opa, .ref osa])), (mo, .inl (cI, 203520, .inl mq)), (hea, .inl (cZ, 3840, .inl hq)), (tha, .inl (cZ, 3840, .inl tq))] → va_S A s.heap H locs → ∀ ls : Array Slot, lv_has ls 12 [(0, .ref m8), (1, .long must), (3, .long may), (5, .int aim), (6, .int x6), (7, .long x7), (9, .int x9), (10, .int x10)] → W p l e (headSpec wsX8_bestOf ({ frames := 3, cells := 0, slots := 0, locals := 81 } : Room)).room s m args below meth c H locs 0 0 Q (F0 m 121 ls []) := by
        intro x10 tq hkl hin H locs hP hD hS ls hl
        refine lv_iload hx hb dX8_bestOf_121 (lv_at hl 7 rfl) ?_
        refine lv_if_eq (tgt := 150) hx hb dX8_bestOf_123 (by decide) (fun c_123 => ?_) (fun c_123 => ?_)
        · have hout : stOut may aim mq (Hs k1) (lf k1) k1 := by rcases hin with h | h; exact absurd (h.1.symm.trans c_123) (by decide); exact h.2
          refine lv_aload_n hx hb dX8_bestOf_150 rfl (lv_at hl 0 rfl) ?_
          refine lv_iload hx hb dX8_bestOf_151 (lv_at hl 6 rfl) ?_
          refine lv_lload_n hx hb dX8_bestOf_153 rfl (lv_at hl 1 rfl) ?_
          refine lv_iload hx hb dX8_bestOf_154 (lv_at hl 6 rfl) ?_
          refine vp_callSi (W.runS (As := [.long must, .int x9]) (rest := [.int x9, .ref m8]) ⟨hx, hb, hml, hown, hts⟩ (k_X8_has l must x9 ) (va_cwS 2 hts gX8_bestOf_X8_has rfl rfl rfl (by decide +kernel) ⟨Nat.le_of_ble_eq_true rfl, Nat.le_of_ble_eq_true rfl⟩) ⟨pS_fb, pS_pre⟩ rfl rfl hl.1 rfl (lv_room (Nat.le_of_ble_eq_true rfl)) dX8_bestOf_156 ⟨Nat.le_of_ble_eq_true rfl, Nat.le_of_ble_eq_true rfl⟩) (fun x156 hx156 => ?_)
          subst hx156
          refine lv_iload hx hb dX8_bestOf_159 (lv_at hl 4 rfl) ?_
          have hPc := hP.sub (ws' := [(m8, .inr (6, [.int st8, .ref wa, .ref pa8, .ref sta, .ref mo, .ref hea, .ref tha, .int ig, .int io, .int op8, .int pl8, .int py, .int wn, .int tu, .int la, .int ps, .ref hd8, .ref od8, .long tb, .ref cd8, .int dr, .ref opa, .ref osa])), (mo, .inl (cI, 203520, .inl mq)), (hea, .inl (cZ, 3840, .inl hq)), (tha, .inl (cZ, 3840, .inl tq))]) [0, 1, 2, 3] rfl
          have hDc := hD.sub (ws' := [(m8, .inr (6, [.int st8, .ref wa, .ref pa8, .ref sta, .ref mo, .ref hea, .ref tha, .int ig, .int io, .int op8, .int pl8, .int py, .int wn, .int tu, .int la, .int ps, .ref hd8, .ref od8, .long tb, .ref cd8, .int dr, .ref opa, .ref osa])), (mo, .inl (cI, 203520, .inl mq)), (hea, .inl (cZ, 3840, .inl hq)), (tha, .inl (cZ, 3840, .inl tq))]) [0, 1, 2, 3] (by decide) rfl
          have hFc := va_free (wc := [(m8, .inr (6, [.int st8, .ref wa, .ref pa8, .ref sta, .ref mo, .ref hea, .ref tha, .int ig, .int io, .int op8, .int pl8, .int py, .int wn, .int tu, .int la, .int ps, .ref hd8, .ref od8, .long tb, .ref cd8, .int dr, .ref opa, .ref osa])), (mo, .inl (cI, 203520, .inl mq)), (hea, .inl (cZ, 3840, .inl hq)), (tha, .inl (cZ, 3840, .inl tq))]) hD hS hA [0, 1, 2, 3] rfl
          refine va_calli (va_runV (As := [.int x9, .int (j_X8_has must x9), .int x6]) (rest := []) ⟨hx, hb, hml, hown, hts⟩ (k_X8_goes l D cI cJ cZ H.size m8 wa pa8 sta mo hea tha hd8 od8 cd8 opa osa st8 ig io op8 pl8 py wn tu la ps dr tb mq hq tq x9 (j_X8_has must x9) x6 k1 (hsB must k1) (h9) (hkl) (by rw [h9]; exact jb_has hmust (by omega)) (by rw [← hHq]; exact hgd)) (cwV 3 hts gX8_bestOf_X8_goes rfl rfl rfl (by decide +kernel) ⟨Nat.le_of_ble_eq_true rfl, Nat.le_of_ble_eq_true rfl⟩) ⟨wM_fb, va_recv hK hPc (ci := 6) (q0 := 0) rfl rfl, wM_pre hPc ⟨hK, hN⟩ hDc⟩ rfl rfl hl.1 rfl (lv_room (Nat.le_of_ble_eq_true rfl)) dX8_bestOf_161 ⟨Nat.le_of_ble_eq_true rfl, Nat.le_of_ble_eq_true rfl⟩) hS (fun q _ h => hFc q h) hFc (fun x161 u t H1 locs ht hvm hx161 hB hz1 hk1 hS => ?_)
          obtain ⟨tf2_x161, rfl⟩ : ∃ z, z = u := ⟨_, rfl⟩
          obtain ⟨hP1, hD1⟩ := hB
          rw [ht] at hP1
          obtain ⟨hP, hD⟩ := va_join (wr := []) (w1 := [(m8, .inr (6, [.int st8, .ref wa, .ref pa8, .ref sta, .ref mo, .ref hea, .ref tha, .int ig, .int io, .int op8, .int pl8, .int py, .int wn, .int tu, .int la, .int ps, .ref hd8, .ref od8, .long tb, .ref cd8, .int dr, .ref opa, .ref osa])), (mo, .inl (cI, 203520, .inl mq)), (hea, .inl (cZ, 3840, .inl hq)), (tha, .inl (cZ, 3840, .inl tf2_x161))]) hP hD [0, 1, 2, 3] [] rfl rfl (by decide) (by decide) hk1 hFc hP1 hD1
          generalize H1 = H at hP hS ⊢
          have hP : va_P D vwCl [(m8, .inr (6, [.int st8, .ref wa, .ref pa8, .ref sta, .ref mo, .ref hea, .ref tha, .int ig, .int io, .int op8, .int pl8, .int py, .int wn, .int tu, .int la, .int ps, .ref hd8, .ref od8, .long tb, .ref cd8, .int dr, .ref opa, .ref osa])), (mo, .inl (cI, 203520, .inl mq)), (hea, .inl (cZ, 3840, .inl hq)), (tha, .inl (cZ, 3840, .inl tf2_x161))] H := hP
          have hD : va_D A [(m8, .inr (6, [.int st8, .ref wa, .ref pa8, .ref sta, .ref mo, .ref hea, .ref tha, .int ig, .int io, .int op8, .int pl8, .int py, .int wn, .int tu, .int la, .int ps, .ref hd8, .ref od8, .long tb, .ref cd8, .int dr, .ref opa, .ref osa])), (mo, .inl (cI, 203520, .inl mq)), (hea, .inl (cZ, 3840, .inl hq)), (tha, .inl (cZ, 3840, .inl tf2_x161))] := hD
          try dsimp only at hx161
          refine lv_istore (lv' := [(11, .int x161), (0, .ref m8), (1, .long must), (3, .long may), (5, .int aim), (6, .int x6), (7, .long x7), (9, .int x9), (10, .int x10)]) hx hb dX8_bestOf_164 hl (by decide) rfl (fun ls hl => ?_)
          exact lab166 x6 x7 tf2_x161 (hkl) (Or.inr ⟨hout, ⟨_, by rw [hHq, ← h6]; exact hx161⟩, h6, h7⟩) _ _ hP hD hS ls (lv_sub hl [1, 2, 3, 4, 5, 6, 7] rfl)
        · have hini : stIn may aim mq (Hs k1) tq (lf k1) k1 := by rcases hin with h | h; exact h.2; exact absurd h.1 c_123
          refine lv_iload hx hb dX8_bestOf_126 (lv_at hl 4 rfl) ?_
          refine lv_iload hx hb dX8_bestOf_128 (lv_at hl 6 rfl) ?_
          refine lv_iload hx hb dX8_bestOf_130 (lv_at hl 3 rfl) ?_
          refine vp_callSi (W.runS (As := [.int x9, .int aim]) (rest := [.int x6]) ⟨hx, hb, hml, hown, hts⟩ (k_X8_gain l x9 aim ) (va_cwS 2 hts gX8_bestOf_X8_gain rfl rfl rfl (by decide +kernel) ⟨Nat.le_of_ble_eq_true rfl, Nat.le_of_ble_eq_true rfl⟩) ⟨pS_fb, pS_pre⟩ rfl rfl hl.1 rfl (lv_room (Nat.le_of_ble_eq_true rfl)) dX8_bestOf_132 ⟨Nat.le_of_ble_eq_true rfl, Nat.le_of_ble_eq_true rfl⟩) (fun x132 hx132 => ?_)
          subst hx132
          refine lv_isub hx hb dX8_bestOf_135 ?_
          refine lv_topi (fun x136 ex136 => ?_)
          refine lv_istore (lv' := [(6, .int x136), (0, .ref m8), (1, .long must), (3, .long may), (5, .int aim), (7, .long x7), (9, .int x9), (10, .int x10)]) hx hb dX8_bestOf_136 hl (by decide) rfl (fun ls hl => ?_)
          refine lv_lload hx hb dX8_bestOf_138 (lv_at hl 5 rfl) ?_
          refine lv_lconst (v := 1) hx hb dX8_bestOf_140 (by decide) ?_
          refine lv_iload hx hb dX8_bestOf_141 (lv_at hl 6 rfl) ?_
          refine lv_lshl hx hb dX8_bestOf_143 rfl ?_
          refine lv_lor hx hb dX8_bestOf_144 ?_
          refine lv_topl (fun x145 ex145 => ?_)
          refine lv_lstore (lv' := [(7, .long x145), (6, .int x136), (0, .ref m8), (1, .long must), (3, .long may), (5, .int aim), (9, .int x9), (10, .int x10)]) hx hb dX8_bestOf_145 hl (by decide) rfl (fun ls hl => ?_)
          refine lv_goto (tgt := 166) hx hb dX8_bestOf_147 (by decide) ?_
          exact lab166 x136 x145 tq (hkl) (Or.inl ⟨hini, by rw [ex136, h6, h9], by rw [ex145, h7, h9]⟩) _ _ hP hD hS ls (lv_sub hl [2, 3, 4, 5, 1, 0, 6] rfl)
      refine lv_iload hx hb dX8_bestOf_66 (lv_at hl 6 rfl) ?_
      refine lv_bipush (v := 52) hx hb dX8_bestOf_68 (by decide) ?_
      refine lv_icmp_ge (tgt := 203) hx hb dX8_bestOf_70 (by decide) (fun c_70 => ?_) (fun c_70 => ?_)
      · have hk9 : k1 = 52 := hp_ge h9 (by decide : (52 : Int32) = nI 52) hk1 (by decide) c_70
        subst hk9
        refine lv_iconst (v := 0) hx hb dX8_bestOf_203 (by decide) ?_
        refine lv_istore (lv' := [(9, .int 0), (0, .ref m8), (1, .long must), (3, .long may), (5, .int aim), (6, .int x6), (7, .long x7)]) hx hb dX8_bestOf_204 hl (by decide) rfl (fun ls hl => ?_)
        refine lv_iconst (v := 0) hx hb dX8_bestOf_206 (by decide) ?_
        refine lv_istore (lv' := [(10, .int 0), (9, .int 0), (0, .ref m8), (1, .long must), (3, .long may), (5, .int aim), (6, .int x6), (7, .long x7)]) hx hb dX8_bestOf_207 hl (by decide) rfl (fun ls hl => ?_)
        exact lab209 _ 0 Hs lf pt x7 0 0 mq hq tq (hMost) (hm0) (hsq) (fun m h z => by have := hgd m h z; omega) (hHq) (h7) (nI_0.symm) (by omega) (rfl) (Nat.lt_succ_self _) _ _ hP hD hS ls (lv_sub hl [2, 3, 4, 7, 1, 0] rfl)
      · have hkl : k1 < 52 := hp_lt h9 (by decide : (52 : Int32) = nI 52) hk1 (by decide) c_70
        refine lv_lload_n hx hb dX8_bestOf_73 rfl (lv_at hl 2 rfl) ?_
        refine lv_iload hx hb dX8_bestOf_74 (lv_at hl 6 rfl) ?_
        refine vp_callSi (W.runS (As := [.long may, .int x9]) (rest := []) ⟨hx, hb, hml, hown, hts⟩ (k_X8_has l may x9 ) (va_cwS 2 hts gX8_bestOf_X8_has rfl rfl rfl (by decide +kernel) ⟨Nat.le_of_ble_eq_true rfl, Nat.le_of_ble_eq_true rfl⟩) ⟨pS_fb, pS_pre⟩ rfl rfl hl.1 rfl (lv_room (Nat.le_of_ble_eq_true rfl)) dX8_bestOf_76 ⟨Nat.le_of_ble_eq_true rfl, Nat.le_of_ble_eq_true rfl⟩) (fun x76 hx76 => ?_)
        subst hx76
        refine lv_if_eq (tgt := 118) hx hb dX8_bestOf_79 (by decide) (fun c_79 => ?_) (fun c_79 => ?_)
        · refine lv_iconst (v := 0) hx hb dX8_bestOf_118 (by decide) ?_
          refine lv_istore (lv' := [(10, .int 0), (0, .ref m8), (1, .long must), (3, .long may), (5, .int aim), (6, .int x6), (7, .long x7), (9, .int x9)]) hx hb dX8_bestOf_119 hl (by decide) rfl (fun ls hl => ?_)
          exact lab121 0 tq (hkl) (by first | exact Or.inr ⟨rfl, Or.inl (hs0 hmay (by omega) (by rw [← h9]; exact c_79))⟩ | exact Or.inr ⟨rfl, Or.inr (Or.inl (by rw [← h6, ← h9]; exact c_91))⟩ | exact Or.inr ⟨rfl, Or.inr (Or.inr ⟨tf2_x108, by rw [hHq, ← h6, ← h9, ← c_111]; exact hx108⟩)⟩ | exact Or.inl ⟨rfl, hs1 hmay (by omega) (by rw [← h9]; exact c_79), by rw [← h6, ← h9]; exact c_91, by rw [hHq, ← h6, ← h9]; exact g_r1 hx108 c_111⟩) _ _ hP hD hS ls (lv_sub hl [1, 2, 3, 4, 5, 6, 7, 0] rfl)
        · refine lv_iload hx hb dX8_bestOf_82 (lv_at hl 4 rfl) ?_
          refine lv_iload hx hb dX8_bestOf_84 (lv_at hl 6 rfl) ?_
          refine lv_iload hx hb dX8_bestOf_86 (lv_at hl 3 rfl) ?_
          refine vp_callSi (W.runS (As := [.int x9, .int aim]) (rest := [.int x6]) ⟨hx, hb, hml, hown, hts⟩ (k_X8_gain l x9 aim ) (va_cwS 2 hts gX8_bestOf_X8_gain rfl rfl rfl (by decide +kernel) ⟨Nat.le_of_ble_eq_true rfl, Nat.le_of_ble_eq_true rfl⟩) ⟨pS_fb, pS_pre⟩ rfl rfl hl.1 rfl (lv_room (Nat.le_of_ble_eq_true rfl)) dX8_bestOf_88 ⟨Nat.le_of_ble_eq_true rfl, Nat.le_of_ble_eq_true rfl⟩) (fun x88 hx88 => ?_)
          subst hx88
          refine lv_icmp_lt (tgt := 118) hx hb dX8_bestOf_91 (by decide) (fun c_91 => ?_) (fun c_91 => ?_)
          · refine lv_iconst (v := 0) hx hb dX8_bestOf_118 (by decide) ?_
            refine lv_istore (lv' := [(10, .int 0), (0, .ref m8), (1, .long must), (3, .long may), (5, .int aim), (6, .int x6), (7, .long x7), (9, .int x9)]) hx hb dX8_bestOf_119 hl (by decide) rfl (fun ls hl => ?_)
            exact lab121 0 tq (hkl) (by first | exact Or.inr ⟨rfl, Or.inl (hs0 hmay (by omega) (by rw [← h9]; exact c_79))⟩ | exact Or.inr ⟨rfl, Or.inr (Or.inl (by rw [← h6, ← h9]; exact c_91))⟩ | exact Or.inr ⟨rfl, Or.inr (Or.inr ⟨tf2_x108, by rw [hHq, ← h6, ← h9, ← c_111]; exact hx108⟩)⟩ | exact Or.inl ⟨rfl, hs1 hmay (by omega) (by rw [← h9]; exact c_79), by rw [← h6, ← h9]; exact c_91, by rw [hHq, ← h6, ← h9]; exact g_r1 hx108 c_111⟩) _ _ hP hD hS ls (lv_sub hl [1, 2, 3, 4, 5, 6, 7, 0] rfl)
          · refine lv_aload_n hx hb dX8_bestOf_94 rfl (lv_at hl 0 rfl) ?_
            refine lv_iload hx hb dX8_bestOf_95 (lv_at hl 6 rfl) ?_
            refine lv_iconst (v := 1) hx hb dX8_bestOf_97 (by decide) ?_
            refine lv_iload hx hb dX8_bestOf_98 (lv_at hl 4 rfl) ?_
            refine lv_iload hx hb dX8_bestOf_100 (lv_at hl 6 rfl) ?_
            refine lv_iload hx hb dX8_bestOf_102 (lv_at hl 3 rfl) ?_
            refine vp_callSi (W.runS (As := [.int x9, .int aim]) (rest := [.int x6, .int 1, .int x9, .ref m8]) ⟨hx, hb, hml, hown, hts⟩ (k_X8_gain l x9 aim ) (va_cwS 2 hts gX8_bestOf_X8_gain rfl rfl rfl (by decide +kernel) ⟨Nat.le_of_ble_eq_true rfl, Nat.le_of_ble_eq_true rfl⟩) ⟨pS_fb, pS_pre⟩ rfl rfl hl.1 rfl (lv_room (Nat.le_of_ble_eq_true rfl)) dX8_bestOf_104 ⟨Nat.le_of_ble_eq_true rfl, Nat.le_of_ble_eq_true rfl⟩) (fun x104 hx104 => ?_)
            subst hx104
            refine lv_isub hx hb dX8_bestOf_107 ?_
            have hPc := hP.sub (ws' := [(m8, .inr (6, [.int st8, .ref wa, .ref pa8, .ref sta, .ref mo, .ref hea, .ref tha, .int ig, .int io, .int op8, .int pl8, .int py, .int wn, .int tu, .int la, .int ps, .ref hd8, .ref od8, .long tb, .ref cd8, .int dr, .ref opa, .ref osa])), (mo, .inl (cI, 203520, .inl mq)), (hea, .inl (cZ, 3840, .inl hq)), (tha, .inl (cZ, 3840, .inl tq))]) [0, 1, 2, 3] rfl
            have hDc := hD.sub (ws' := [(m8, .inr (6, [.int st8, .ref wa, .ref pa8, .ref sta, .ref mo, .ref hea, .ref tha, .int ig, .int io, .int op8, .int pl8, .int py, .int wn, .int tu, .int la, .int ps, .ref hd8, .ref od8, .long tb, .ref cd8, .int dr, .ref opa, .ref osa])), (mo, .inl (cI, 203520, .inl mq)), (hea, .inl (cZ, 3840, .inl hq)), (tha, .inl (cZ, 3840, .inl tq))]) [0, 1, 2, 3] (by decide) rfl
            have hFc := va_free (wc := [(m8, .inr (6, [.int st8, .ref wa, .ref pa8, .ref sta, .ref mo, .ref hea, .ref tha, .int ig, .int io, .int op8, .int pl8, .int py, .int wn, .int tu, .int la, .int ps, .ref hd8, .ref od8, .long tb, .ref cd8, .int dr, .ref opa, .ref osa])), (mo, .inl (cI, 203520, .inl mq)), (hea, .inl (cZ, 3840, .inl hq)), (tha, .inl (cZ, 3840, .inl tq))]) hD hS hA [0, 1, 2, 3] rfl
            refine va_calli (va_runV (As := [.int x9, .int 1, .int (x6 - (j_X8_gain x9 aim))]) (rest := []) ⟨hx, hb, hml, hown, hts⟩ (k_X8_goes l D cI cJ cZ H.size m8 wa pa8 sta mo hea tha hd8 od8 cd8 opa osa st8 ig io op8 pl8 py wn tu la ps dr tb mq hq tq x9 1 (x6 - (j_X8_gain x9 aim)) k1 true (h9) (hkl) (rfl) (by rw [← hHq]; exact hgd)) (cwV 3 hts gX8_bestOf_X8_goes rfl rfl rfl (by decide +kernel) ⟨Nat.le_of_ble_eq_true rfl, Nat.le_of_ble_eq_true rfl⟩) ⟨wM_fb, va_recv hK hPc (ci := 6) (q0 := 0) rfl rfl, wM_pre hPc ⟨hK, hN⟩ hDc⟩ rfl rfl hl.1 rfl (lv_room (Nat.le_of_ble_eq_true rfl)) dX8_bestOf_108 ⟨Nat.le_of_ble_eq_true rfl, Nat.le_of_ble_eq_true rfl⟩) hS (fun q _ h => hFc q h) hFc (fun x108 u t H1 locs ht hvm hx108 hB hz1 hk1 hS => ?_)
            obtain ⟨tf2_x108, rfl⟩ : ∃ z, z = u := ⟨_, rfl⟩
            obtain ⟨hP1, hD1⟩ := hB
            rw [ht] at hP1
            obtain ⟨hP, hD⟩ := va_join (wr := []) (w1 := [(m8, .inr (6, [.int st8, .ref wa, .ref pa8, .ref sta, .ref mo, .ref hea, .ref tha, .int ig, .int io, .int op8, .int pl8, .int py, .int wn, .int tu, .int la, .int ps, .ref hd8, .ref od8, .long tb, .ref cd8, .int dr, .ref opa, .ref osa])), (mo, .inl (cI, 203520, .inl mq)), (hea, .inl (cZ, 3840, .inl hq)), (tha, .inl (cZ, 3840, .inl tf2_x108))]) hP hD [0, 1, 2, 3] [] rfl rfl (by decide) (by decide) hk1 hFc hP1 hD1
            generalize H1 = H at hP hS ⊢
            have hP : va_P D vwCl [(m8, .inr (6, [.int st8, .ref wa, .ref pa8, .ref sta, .ref mo, .ref hea, .ref tha, .int ig, .int io, .int op8, .int pl8, .int py, .int wn, .int tu, .int la, .int ps, .ref hd8, .ref od8, .long tb, .ref cd8, .int dr, .ref opa, .ref osa])), (mo, .inl (cI, 203520, .inl mq)), (hea, .inl (cZ, 3840, .inl hq)), (tha, .inl (cZ, 3840, .inl tf2_x108))] H := hP
            have hD : va_D A [(m8, .inr (6, [.int st8, .ref wa, .ref pa8, .ref sta, .ref mo, .ref hea, .ref tha, .int ig, .int io, .int op8, .int pl8, .int py, .int wn, .int tu, .int la, .int ps, .ref hd8, .ref od8, .long tb, .ref cd8, .int dr, .ref opa, .ref osa])), (mo, .inl (cI, 203520, .inl mq)), (hea, .inl (cZ, 3840, .inl hq)), (tha, .inl (cZ, 3840, .inl tf2_x108))] := hD
            try dsimp only at hx108
            refine lv_if_eq (tgt := 118) hx hb dX8_bestOf_111 (by decide) (fun c_111 => ?_) (fun c_111 => ?_)
            · refine lv_iconst (v := 0) hx hb dX8_bestOf_118 (by decide) ?_
              refine lv_istore (lv' := [(10, .int 0), (0, .ref m8), (1, .long must), (3, .long may), (5, .int aim), (6, .int x6), (7, .long x7), (9, .int x9)]) hx hb dX8_bestOf_119 hl (by decide) rfl (fun ls hl => ?_)
              exact lab121 0 tf2_x108 (hkl) (by first | exact Or.inr ⟨rfl, Or.inl (hs0 hmay (by omega) (by rw [← h9]; exact c_79))⟩ | exact Or.inr ⟨rfl, Or.inr (Or.inl (by rw [← h6, ← h9]; exact c_91))⟩ | exact Or.inr ⟨rfl, Or.inr (Or.inr ⟨tf2_x108, by rw [hHq, ← h6, ← h9, ← c_111]; exact hx108⟩)⟩ | exact Or.inl ⟨rfl, hs1 hmay (by omega) (by rw [← h9]; exact c_79), by rw [← h6, ← h9]; exact c_91, by rw [hHq, ← h6, ← h9]; exact g_r1 hx108 c_111⟩) _ _ hP hD hS ls (lv_sub hl [1, 2, 3, 4, 5, 6, 7, 0] rfl)
            · refine lv_iconst (v := 1) hx hb dX8_bestOf_114 (by decide) ?_
              refine lv_goto (tgt := 119) hx hb dX8_bestOf_115 (by decide) ?_
              refine lv_istore (lv' := [(10, .int 1), (0, .ref m8), (1, .long must), (3, .long may), (5, .int aim), (6, .int x6), (7, .long x7), (9, .int x9)]) hx hb dX8_bestOf_119 hl (by decide) rfl (fun ls hl => ?_)
              exact lab121 1 tf2_x108 (hkl) (by first | exact Or.inr ⟨rfl, Or.inl (hs0 hmay (by omega) (by rw [← h9]; exact c_79))⟩ | exact Or.inr ⟨rfl, Or.inr (Or.inl (by rw [← h6, ← h9]; exact c_91))⟩ | exact Or.inr ⟨rfl, Or.inr (Or.inr ⟨tf2_x108, by rw [hHq, ← h6, ← h9, ← c_111]; exact hx108⟩)⟩ | exact Or.inl ⟨rfl, hs1 hmay (by omega) (by rw [← h9]; exact c_79), by rw [← h6, ← h9]; exact c_91, by rw [hHq, ← h6, ← h9]; exact g_r1 hx108 c_111⟩) _ _ hP hD hS ls (lv_sub hl [1, 2, 3, 4, 5, 6, 7, 0] rfl)
  have lab32 : ∀ fuel32 : Nat, ∀ (i : Nat) (x6 : Int32) (x9 : Int32) (mq : Nat → Int32) (hq : Nat → Int32) (tq : Nat → Int32), (hMost : MostEq must may aim mq) → (hm0 : ¬ mq 0 = -1) → (hlf : x6 = mq 0) → (h9 : x9 = nI i) → (hi : i ≤ 3840) → (hin0 : ∀ m, m < i → hq m = if m = 0 then 1 else 0) → (hfu32 : 3840 - i < fuel32) → ∀ (H : Heap) (locs : List Loc), va_P D vwCl [(m8, .inr (6, [.int st8, .ref wa, .ref pa8, .ref sta, .ref mo, .ref hea, .ref tha, .int ig, .int io, .int op8, .int pl8, .int py, .int wn, .int tu, .int la, .int ps, .ref hd8, .ref od8, .long tb, .ref cd8, .int dr, .ref opa, .ref osa])), (mo, .inl (cI, 203520, .inl mq)), (hea, .inl (cZ, 3840, .inl hq)), (tha, .inl (cZ, 3840, .inl tq))] H → va_D A [(m8, .inr (6, [.int st8, .ref wa, .ref pa8, .ref sta, .ref mo, .ref hea, .ref tha, .int ig, .int io, .int op8, .int pl8, .int py, .int wn, .int tu, .int la, .int ps, .ref hd8, .ref od8, .long tb, .ref cd8, .int dr, .ref opa, .ref osa])), (mo, .inl (cI, 203520, .inl mq)), (hea, .inl (cZ, 3840, .inl hq)), (tha, .inl (cZ, 3840, .inl tq))] → va_S A s.heap H locs → ∀ ls : Array Slot, lv_has ls 12 [(0, .ref m8), (1, .long must), (3, .long may), (5, .int aim), (6, .int x6), (7, .long 0), (9, .int x9)] → W p l e (headSpec wsX8_bestOf ({ frames := 3, cells := 0, slots := 0, locals := 81 } : Room)).room s m args below meth c H locs 0 0 Q (F0 m 32 ls []) := by
    intro fuel32
    induction fuel32 with
    | zero =>
      intro i x6 x9 mq hq tq hMost hm0 hlf h9 hi hin0 hfu32
      exact absurd hfu32 (Nat.not_lt_zero _)
    | succ fuel32 ih32 =>
      intro i x6 x9 mq hq tq hMost hm0 hlf h9 hi hin0 hfu32 H locs hP hD hS ls hl
      refine lv_iload hx hb dX8_bestOf_32 (lv_at hl 6 rfl) ?_
      refine lv_sipush (v := 3840) hx hb dX8_bestOf_34 (by decide) ?_
      refine lv_icmp_ge (tgt := 63) hx hb dX8_bestOf_37 (by decide) (fun c_37 => ?_) (fun c_37 => ?_)
      · have hi9 : i = 3840 := hp_ge h9 (by decide : (3840 : Int32) = nI 3840) hi (by decide) c_37
        subst hi9
        refine lv_iconst (v := 0) hx hb dX8_bestOf_63 (by decide) ?_
        refine lv_istore (lv' := [(9, .int 0), (0, .ref m8), (1, .long must), (3, .long may), (5, .int aim), (6, .int x6), (7, .long 0)]) hx hb dX8_bestOf_64 hl (by decide) rfl (fun ls hl => ?_)
        exact lab66 _ 0 (fun _ => hq) (fun _ => mq 0) (fun _ => 0) x6 0 0 mq hq tq (hMost) (hm0) (nI_0.symm) (by omega) (⟨hin0, rfl, rfl, fun k h => absurd h (Nat.not_lt_zero k)⟩) (rfl) (hlf) (rfl) (fun m hm hz => by rw [hin0 m hm] at hz; rcases Nat.eq_zero_or_pos m with z | z; subst z; decide; exact absurd (if_neg (by omega)) hz) (Nat.lt_succ_self _) _ _ hP hD hS ls (lv_sub hl [1, 2, 3, 4, 5, 6, 0] rfl)
      · have hlt : i < 3840 := hp_lt h9 (by decide : (3840 : Int32) = nI 3840) hi (by decide) c_37
        refine lv_aload_n hx hb dX8_bestOf_40 rfl (lv_at hl 0 rfl) ?_
        refine va_get (D := D) (ci := 6) (v := .ref hea) (C := RX8) (T := TX8) (N := 23) hx hb hts iX8 hown hK hP 0 rfl rfl 5 (by decide) k25 (fun _ h9 => h9) rfl dX8_bestOf_41 ?_
        refine lv_iload hx hb dX8_bestOf_44 (lv_at hl 6 rfl) ?_
        refine lv_iload hx hb dX8_bestOf_46 (lv_at hl 6 rfl) ?_
        refine lv_if_ne (tgt := 55) hx hb dX8_bestOf_48 (by decide) (fun c_48 => ?_) (fun c_48 => ?_)
        · refine lv_iconst (v := 0) hx hb dX8_bestOf_55 (by decide) ?_
          refine va_zast hx hb hK hP hD hS 2 2 rfl rfl (by rw [h9]; exact vp_in_nI hlt (by decide)) dX8_bestOf_56 (fun H locs hP hD hS => ?_)
          have hP : va_P D vwCl [(m8, .inr (6, [.int st8, .ref wa, .ref pa8, .ref sta, .ref mo, .ref hea, .ref tha, .int ig, .int io, .int op8, .int pl8, .int py, .int wn, .int tu, .int la, .int ps, .ref hd8, .ref od8, .long tb, .ref cd8, .int dr, .ref opa, .ref osa])), (mo, .inl (cI, 203520, .inl mq)), (hea, .inl (cZ, 3840, .inl (upd hq x9.toNatClampNeg (vp_nar .boolean 0)))), (tha, .inl (cZ, 3840, .inl tq))] H := hP
          have hD : va_D A [(m8, .inr (6, [.int st8, .ref wa, .ref pa8, .ref sta, .ref mo, .ref hea, .ref tha, .int ig, .int io, .int op8, .int pl8, .int py, .int wn, .int tu, .int la, .int ps, .ref hd8, .ref od8, .long tb, .ref cd8, .int dr, .ref opa, .ref osa])), (mo, .inl (cI, 203520, .inl mq)), (hea, .inl (cZ, 3840, .inl (upd hq x9.toNatClampNeg (vp_nar .boolean 0)))), (tha, .inl (cZ, 3840, .inl tq))] := hD
          generalize ex56 : upd hq x9.toNatClampNeg (vp_nar .boolean 0) = x56 at hP hD
          obtain ⟨x57, ex57⟩ : ∃ y : Int32, y = x9 + 1 := ⟨_, rfl⟩
          refine lv_iinc (v := x57) (lv' := [(9, .int x57), (0, .ref m8), (1, .long must), (3, .long may), (5, .int aim), (6, .int x6), (7, .long 0)]) hx hb dX8_bestOf_57 hl (k := 6) rfl (by rw [ex57]; rfl) (by decide) rfl (fun ls hl => ?_)
          refine lv_goto (tgt := 32) hx hb dX8_bestOf_60 (by decide) ?_
          exact ih32 (i + 1) x6 x57 mq x56 tq (hMost) (hm0) (hlf) (hp_s ex57 h9) (by omega) (h_init ex56 h9 hlt (by first | exact i0_t h9 hlt c_48 | exact i0_f h9 hlt c_48) hin0) (by omega) _ _ hP hD hS ls (lv_sub hl [1, 2, 3, 4, 5, 6, 0] rfl)
        · refine lv_iconst (v := 1) hx hb dX8_bestOf_51 (by decide) ?_
          refine lv_goto (tgt := 56) hx hb dX8_bestOf_52 (by decide) ?_
          refine va_zast hx hb hK hP hD hS 2 2 rfl rfl (by rw [h9]; exact vp_in_nI hlt (by decide)) dX8_bestOf_56 (fun H locs hP hD hS => ?_)
          have hP : va_P D vwCl [(m8, .inr (6, [.int st8, .ref wa, .ref pa8, .ref sta, .ref mo, .ref hea, .ref tha, .int ig, .int io, .int op8, .int pl8, .int py, .int wn, .int tu, .int la, .int ps, .ref hd8, .ref od8, .long tb, .ref cd8, .int dr, .ref opa, .ref osa])), (mo, .inl (cI, 203520, .inl mq)), (hea, .inl (cZ, 3840, .inl (upd hq x9.toNatClampNeg (vp_nar .boolean 1)))), (tha, .inl (cZ, 3840, .inl tq))] H := hP
          have hD : va_D A [(m8, .inr (6, [.int st8, .ref wa, .ref pa8, .ref sta, .ref mo, .ref hea, .ref tha, .int ig, .int io, .int op8, .int pl8, .int py, .int wn, .int tu, .int la, .int ps, .ref hd8, .ref od8, .long tb, .ref cd8, .int dr, .ref opa, .ref osa])), (mo, .inl (cI, 203520, .inl mq)), (hea, .inl (cZ, 3840, .inl (upd hq x9.toNatClampNeg (vp_nar .boolean 1)))), (tha, .inl (cZ, 3840, .inl tq))] := hD
          generalize ex56 : upd hq x9.toNatClampNeg (vp_nar .boolean 1) = x56 at hP hD
          obtain ⟨x57, ex57⟩ : ∃ y : Int32, y = x9 + 1 := ⟨_, rfl⟩
          refine lv_iinc (v := x57) (lv' := [(9, .int x57), (0, .ref m8), (1, .long must), (3, .long may), (5, .int aim), (6, .int x6), (7, .long 0)]) hx hb dX8_bestOf_57 hl (k := 6) rfl (by rw [ex57]; rfl) (by decide) rfl (fun ls hl => ?_)
          refine lv_goto (tgt := 32) hx hb dX8_bestOf_60 (by decide) ?_
          exact ih32 (i + 1) x6 x57 mq x56 tq (hMost) (hm0) (hlf) (hp_s ex57 h9) (by omega) (h_init ex56 h9 hlt (by first | exact i0_t h9 hlt c_48 | exact i0_f h9 hlt c_48) hin0) (by omega) _ _ hP hD hS ls (lv_sub hl [1, 2, 3, 4, 5, 6, 0] rfl)
  refine lv_aload_n hx hb dX8_bestOf_0 rfl (lv_at hl 0 rfl) ?_
  refine lv_lload_n hx hb dX8_bestOf_1 rfl (lv_at hl 1 rfl) ?_
  refine lv_lload_n hx hb dX8_bestOf_2 rfl (lv_at hl 2 rfl) ?_
  refine lv_iload hx hb dX8_bestOf_3 (lv_at hl 3 rfl) ?_
  have hPc := hP.sub (ws' := [(m8, .inr (6, [.int st8, .ref wa, .ref pa8, .ref sta, .ref mo, .ref hea, .ref tha, .int ig, .int io, .int op8, .int pl8, .int py, .int wn, .int tu, .int la, .int ps, .ref hd8, .ref od8, .long tb, .ref cd8, .int dr, .ref opa, .ref osa])), (mo, .inl (cI, 203520, .inl mf))]) [0, 1] rfl
  have hDc := hD.sub (ws' := [(m8, .inr (6, [.int st8, .ref wa, .ref pa8, .ref sta, .ref mo, .ref hea, .ref tha, .int ig, .int io, .int op8, .int pl8, .int py, .int wn, .int tu, .int la, .int ps, .ref hd8, .ref od8, .long tb, .ref cd8, .int dr, .ref opa, .ref osa])), (mo, .inl (cI, 203520, .inl mf))]) [0, 1] (by decide) rfl
  have hFc := va_free (wc := [(m8, .inr (6, [.int st8, .ref wa, .ref pa8, .ref sta, .ref mo, .ref hea, .ref tha, .int ig, .int io, .int op8, .int pl8, .int py, .int wn, .int tu, .int la, .int ps, .ref hd8, .ref od8, .long tb, .ref cd8, .int dr, .ref opa, .ref osa])), (mo, .inl (cI, 203520, .inl mf))]) hD hS hA [0, 1] rfl
  refine va_callv (va_runV (As := [.long must, .long may, .int aim]) (rest := []) ⟨hx, hb, hml, hown, hts⟩ (k_X8_reckon l D cI cJ cZ s.heap.size m8 wa pa8 sta mo hea tha hd8 od8 cd8 opa osa st8 ig io op8 pl8 py wn tu la ps dr tb mf must may aim (by assumption) (by assumption)) (cwV 3 hts gX8_bestOf_X8_reckon rfl rfl rfl (by decide +kernel) ⟨Nat.le_of_ble_eq_true rfl, Nat.le_of_ble_eq_true rfl⟩) ⟨wM_fb, va_recv hK hPc (ci := 6) (q0 := 0) rfl rfl, wM_pre hPc ⟨hK, hN⟩ hDc⟩ rfl rfl hl.1 rfl (lv_room (Nat.le_of_ble_eq_true rfl)) dX8_bestOf_5 ⟨Nat.le_of_ble_eq_true rfl, Nat.le_of_ble_eq_true rfl⟩) hS (fun q _ h => hFc q h) hFc (fun u t H1 locs ht hvm hx5 hB hz1 hk1 hS => ?_)
  obtain ⟨mf2_x5, rfl⟩ : ∃ z, z = u := ⟨_, rfl⟩
  obtain ⟨hP1, hD1⟩ := hB
  rw [ht] at hP1
  obtain ⟨hP, hD⟩ := va_join (wr := [(hea, .inl (cZ, 3840, .inl hf9)), (tha, .inl (cZ, 3840, .inl tf9))]) (w1 := [(m8, .inr (6, [.int st8, .ref wa, .ref pa8, .ref sta, .ref mo, .ref hea, .ref tha, .int ig, .int io, .int op8, .int pl8, .int py, .int wn, .int tu, .int la, .int ps, .ref hd8, .ref od8, .long tb, .ref cd8, .int dr, .ref opa, .ref osa])), (mo, .inl (cI, 203520, .inl mf2_x5))]) hP hD [0, 1] [2, 3] rfl rfl (by decide) (by decide) hk1 hFc hP1 hD1
  generalize H1 = H at hP hS ⊢
  have hP : va_P D vwCl [(hea, .inl (cZ, 3840, .inl hf9)), (tha, .inl (cZ, 3840, .inl tf9)), (m8, .inr (6, [.int st8, .ref wa, .ref pa8, .ref sta, .ref mo, .ref hea, .ref tha, .int ig, .int io, .int op8, .int pl8, .int py, .int wn, .int tu, .int la, .int ps, .ref hd8, .ref od8, .long tb, .ref cd8, .int dr, .ref opa, .ref osa])), (mo, .inl (cI, 203520, .inl mf2_x5))] H := hP
  have hD : va_D A [(hea, .inl (cZ, 3840, .inl hf9)), (tha, .inl (cZ, 3840, .inl tf9)), (m8, .inr (6, [.int st8, .ref wa, .ref pa8, .ref sta, .ref mo, .ref hea, .ref tha, .int ig, .int io, .int op8, .int pl8, .int py, .int wn, .int tu, .int la, .int ps, .ref hd8, .ref od8, .long tb, .ref cd8, .int dr, .ref opa, .ref osa])), (mo, .inl (cI, 203520, .inl mf2_x5))] := hD
  try dsimp only at hx5
  refine lv_aload_n hx hb dX8_bestOf_8 rfl (lv_at hl 0 rfl) ?_
  refine va_get (D := D) (ci := 6) (v := .ref mo) (C := RX8) (T := TX8) (N := 23) hx hb hts iX8 hown hK hP 2 rfl rfl 4 (by decide) k22 (fun _ h9 => h9) rfl dX8_bestOf_9 ?_
  refine lv_iconst (v := 0) hx hb dX8_bestOf_12 (by decide) ?_
  refine va_iald hx hb hK hP 3 0 rfl rfl (vp_in_nI (n := 0) (by decide) (by decide)) dX8_bestOf_13 ?_
  refine lv_topi (fun x14 ex14 => ?_)
  refine lv_istore (lv' := [(6, .int x14), (0, .ref m8), (1, .long must), (3, .long may), (5, .int aim)]) hx hb dX8_bestOf_14 hl (by decide) rfl (fun ls hl => ?_)
  refine lv_iload hx hb dX8_bestOf_16 (lv_at hl 0 rfl) ?_
  refine lv_iconst (v := (-1)) hx hb dX8_bestOf_18 (by decide) ?_
  refine lv_icmp_ne (tgt := 26) hx hb dX8_bestOf_19 (by decide) (fun c_19 => ?_) (fun c_19 => ?_)
  · have hm5 : ¬ mf2_x5 0 = -1 := by rw [ex14] at c_19; exact c_19
    refine lv_lconst (v := 0) hx hb dX8_bestOf_26 (by decide) ?_
    refine lv_lstore (lv' := [(7, .long 0), (6, .int x14), (0, .ref m8), (1, .long must), (3, .long may), (5, .int aim)]) hx hb dX8_bestOf_27 hl (by decide) rfl (fun ls hl => ?_)
    refine lv_iconst (v := 0) hx hb dX8_bestOf_29 (by decide) ?_
    refine lv_istore (lv' := [(9, .int 0), (7, .long 0), (6, .int x14), (0, .ref m8), (1, .long must), (3, .long may), (5, .int aim)]) hx hb dX8_bestOf_30 hl (by decide) rfl (fun ls hl => ?_)
    exact lab32 _ 0 x14 0 mf2_x5 hf9 tf9 (hx5) (hm5) (ex14) (nI_0.symm) (by omega) (fun t h => absurd h (Nat.not_lt_zero t)) (Nat.lt_succ_self _) _ _ (hP.sub [2, 3, 0, 1] rfl) (hD.sub [2, 3, 0, 1] (by decide) rfl) hS ls (lv_sub hl [3, 4, 5, 6, 2, 1, 0] rfl)
  · have hm5 : mf2_x5 0 = -1 := by rw [ex14] at c_19; exact c_19
    refine lv_ldc2 hx hb hown k137 dX8_bestOf_22 ?_
    rw [← hQ]
    have hP9 := hP.sub (ws' := [(m8, .inr (6, [.int st8, .ref wa, .ref pa8, .ref sta, .ref mo, .ref hea, .ref tha, .int ig, .int io, .int op8, .int pl8, .int py, .int wn, .int tu, .int la, .int ps, .ref hd8, .ref od8, .long tb, .ref cd8, .int dr, .ref opa, .ref osa])), (mo, .inl (cI, 203520, .inl mf2_x5)), (hea, .inl (cZ, 3840, .inl hf9)), (tha, .inl (cZ, 3840, .inl tf9))]) [2, 3, 0, 1] rfl
    have hD9 := hD.sub (ws' := [(m8, .inr (6, [.int st8, .ref wa, .ref pa8, .ref sta, .ref mo, .ref hea, .ref tha, .int ig, .int io, .int op8, .int pl8, .int py, .int wn, .int tu, .int la, .int ps, .ref hd8, .ref od8, .long tb, .ref cd8, .int dr, .ref opa, .ref osa])), (mo, .inl (cI, 203520, .inl mf2_x5)), (hea, .inl (cZ, 3840, .inl hf9)), (tha, .inl (cZ, 3840, .inl tf9))]) [2, 3, 0, 1] (by decide) rfl
    exact W.lret (v := (-1)) hx hb hr (fun t ht hW => ⟨⟨(-1), (mf2_x5, hf9, tf9), rfl, ⟨hx5, Or.inl ⟨hm5, rfl⟩⟩, (by show wB D A _ t; exact ⟨by rw [ht]; exact hP9, hD9⟩)⟩, hS.F ht⟩) hS.2.2 dX8_bestOf_25
