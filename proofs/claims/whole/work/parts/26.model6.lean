/-- a mark t comes out of a mark that is here, by one of the pairs of mark and place ahead of (m1, pp) -/
def gR (hf mf : Nat → Int32) (k : Nat) (it : Bool) (left : Int32) (m1 pp t : Nat) : Prop := ∃ m p, (m < m1 ∨ (m = m1 ∧ p < pp)) ∧ m < 3840 ∧ ¬ hf m = 0 ∧ bN it ≤ p ∧ p < 4 ∧ bhN m k p (decide (0 < p) && !it) = some t ∧ mf (3840 * (k + 1) + t) = left
def gInv (hf mf : Nat → Int32) (k : Nat) (it : Bool) (left : Int32) (m1 pp : Nat) (tq : Nat → Int32) (x : Int32) : Prop :=
  (∀ t, t < 3840 → (tq t = 0 ∧ ¬ gR hf mf k it left m1 pp t) ∨ (tq t = 1 ∧ gR hf mf k it left m1 pp t)) ∧ ((x = 0 ∧ ∀ t, ¬ gR hf mf k it left m1 pp t) ∨ (x = 1 ∧ ∃ t, t < 3840 ∧ gR hf mf k it left m1 pp t))
theorem gInv_iff {hf mf : Nat → Int32} {k : Nat} {it : Bool} {left : Int32} {m1 pp m2 p2 : Nat} {tq : Nat → Int32} {x : Int32} (h : ∀ t, gR hf mf k it left m2 p2 t ↔ gR hf mf k it left m1 pp t) (hI : gInv hf mf k it left m1 pp tq x) : gInv hf mf k it left m2 p2 tq x := by
  unfold gInv at hI ⊢
  simp only [h]
  exact hI
theorem g_skip {hf mf : Nat → Int32} {k : Nat} {it : Bool} {left : Int32} {m1 pp : Nat} {tq : Nat → Int32} {x : Int32} (hn : ∀ t, bhN m1 k pp (decide (0 < pp) && !it) = some t → ¬ mf (3840 * (k + 1) + t) = left) (hI : gInv hf mf k it left m1 pp tq x) : gInv hf mf k it left m1 (pp + 1) tq x := by
  refine gInv_iff (fun t => ⟨?_, ?_⟩) hI
  · rintro ⟨m, p, h1, h2, h3, h4, h5, h6, h7⟩
    rcases h1 with h1 | ⟨h1, h8⟩
    · exact ⟨m, p, Or.inl h1, h2, h3, h4, h5, h6, h7⟩
    · rcases Nat.lt_succ_iff_lt_or_eq.mp h8 with z | z
      · exact ⟨m, p, Or.inr ⟨h1, z⟩, h2, h3, h4, h5, h6, h7⟩
      · subst z; subst h1; exact absurd h7 (hn t h6)
  · rintro ⟨m, p, h1, h2, h3, h4, h5, h6, h7⟩
    rcases h1 with h1 | ⟨h1, h8⟩
    · exact ⟨m, p, Or.inl h1, h2, h3, h4, h5, h6, h7⟩
    · exact ⟨m, p, Or.inr ⟨h1, by omega⟩, h2, h3, h4, h5, h6, h7⟩
theorem g_add {hf mf : Nat → Int32} {k : Nat} {it : Bool} {left : Int32} {m1 pp t0 : Nat} {tq t2 : Nat → Int32} {x z : Int32} (hm : m1 < 3840) (hh : ¬ hf m1 = 0) (hpl : bN it ≤ pp) (hp : pp < 4) (hb : bhN m1 k pp (decide (0 < pp) && !it) = some t0) (hl : mf (3840 * (k + 1) + t0) = left) (ht : t0 < 3840) (hz : z = nI t0) (e : upd tq z.toNatClampNeg (vp_nar .boolean 1) = t2) (hI : gInv hf mf k it left m1 pp tq x) : gInv hf mf k it left m1 (pp + 1) t2 1 := by
  subst hz
  rw [nI_clamp (by omega)] at e
  have h0 : gR hf mf k it left m1 (pp + 1) t0 := ⟨m1, pp, Or.inr ⟨rfl, by omega⟩, hm, hh, hpl, hp, hb, hl⟩
  have hiff : ∀ t, ¬ t = t0 → (gR hf mf k it left m1 (pp + 1) t ↔ gR hf mf k it left m1 pp t) := by
    intro t hne
    refine ⟨?_, ?_⟩
    · rintro ⟨m, p, h1, h2, h3, h4, h5, h6, h7⟩
      rcases h1 with h1 | ⟨h1, h8⟩
      · exact ⟨m, p, Or.inl h1, h2, h3, h4, h5, h6, h7⟩
      · rcases Nat.lt_succ_iff_lt_or_eq.mp h8 with q | q
        · exact ⟨m, p, Or.inr ⟨h1, q⟩, h2, h3, h4, h5, h6, h7⟩
        · subst q; subst h1; rw [hb] at h6; cases h6; exact absurd rfl hne
    · rintro ⟨m, p, h1, h2, h3, h4, h5, h6, h7⟩
      rcases h1 with h1 | ⟨h1, h8⟩
      · exact ⟨m, p, Or.inl h1, h2, h3, h4, h5, h6, h7⟩
      · exact ⟨m, p, Or.inr ⟨h1, by omega⟩, h2, h3, h4, h5, h6, h7⟩
  subst e
  refine ⟨fun t htl => ?_, Or.inr ⟨rfl, t0, ht, h0⟩⟩
  by_cases q : t = t0
  · subst q; exact Or.inr ⟨pk_us, h0⟩
  · rw [pk_un q, hiff t q]; exact hI.1 t htl
theorem g_none {hf mf : Nat → Int32} {k : Nat} {it : Bool} {left : Int32} {m1 : Nat} {tq : Nat → Int32} {x : Int32} (hh : hf m1 = 0) (hI : gInv hf mf k it left m1 0 tq x) : gInv hf mf k it left (m1 + 1) 0 tq x := by
  refine gInv_iff (fun t => ⟨?_, ?_⟩) hI
  · rintro ⟨m, p, h1, h2, h3, h4, h5, h6, h7⟩
    rcases h1 with h1 | ⟨h1, h8⟩
    · rcases Nat.lt_succ_iff_lt_or_eq.mp h1 with q | q
      · exact ⟨m, p, Or.inl q, h2, h3, h4, h5, h6, h7⟩
      · subst q; exact absurd hh h3
    · omega
  · rintro ⟨m, p, h1, h2, h3, h4, h5, h6, h7⟩
    exact ⟨m, p, Or.inl (by omega), h2, h3, h4, h5, h6, h7⟩
theorem g_next {hf mf : Nat → Int32} {k : Nat} {it : Bool} {left : Int32} {m1 : Nat} {tq : Nat → Int32} {x : Int32} (hI : gInv hf mf k it left m1 4 tq x) : gInv hf mf k it left (m1 + 1) 0 tq x := by
  refine gInv_iff (fun t => ⟨?_, ?_⟩) hI
  · rintro ⟨m, p, h1, h2, h3, h4, h5, h6, h7⟩
    exact ⟨m, p, by omega, h2, h3, h4, h5, h6, h7⟩
  · rintro ⟨m, p, h1, h2, h3, h4, h5, h6, h7⟩
    exact ⟨m, p, by omega, h2, h3, h4, h5, h6, h7⟩
theorem g_from {hf mf : Nat → Int32} {k : Nat} {it : Bool} {left : Int32} {m1 : Nat} {tq : Nat → Int32} {x : Int32} (hI : gInv hf mf k it left m1 0 tq x) : gInv hf mf k it left m1 (bN it) tq x := by
  refine gInv_iff (fun t => ⟨?_, ?_⟩) hI
  · rintro ⟨m, p, h1, h2, h3, h4, h5, h6, h7⟩
    exact ⟨m, p, by omega, h2, h3, h4, h5, h6, h7⟩
  · rintro ⟨m, p, h1, h2, h3, h4, h5, h6, h7⟩
    exact ⟨m, p, by omega, h2, h3, h4, h5, h6, h7⟩
theorem g_start {hf mf : Nat → Int32} {k : Nat} {it : Bool} {left : Int32} {tq : Nat → Int32} (h : ∀ t, t < 3840 → tq t = 0) : gInv hf mf k it left 0 0 tq 0 := by
  have hno : ∀ t, ¬ gR hf mf k it left 0 0 t := by
    rintro t ⟨m, p, h1, _⟩
    omega
  exact ⟨fun t ht => Or.inl ⟨h t ht, hno t⟩, Or.inl ⟨rfl, hno⟩⟩
theorem z_fill {f g : Nat → Int32} {x : Int32} {i : Nat} (e : upd f x.toNatClampNeg (vp_nar .boolean 0) = g) (hx : x = nI i) (hi : i < 2 ^ 31) (h : ∀ k, k < i → f k = 0) : ∀ k, k < i + 1 → g k = 0 := by
  intro k hk
  have hz := z_I e hx hi
  by_cases q : k = i
  · subst q; exact hz.1
  · exact hz.2 k (h k (by omega))
set_option maxHeartbeats 4000000 in
set_option maxRecDepth 100000 in
theorem k_X8_goes (l : Launch) (D : va_G) (cI cJ cZ : ClassId) (sz : Nat) (m8 wa pa8 sta mo hea tha hd8 od8 cd8 opa osa : Nat) (st8 ig io op8 pl8 py wn tu la ps dr : Int32) (tb : Int64) (mf hf9 tf9 : Nat → Int32) (kx ix left : Int32) (k0 : Nat) (it : Bool) (hkx : kx = nI k0) (hk0 : k0 < 52) (hix : ix = nI (bN it)) (hgood : ∀ m, m < 3840 → ¬ hf9 m = 0 → igN m ≤ k0 % 4) : Met l yX8_goes wsX8_goes ({ frames := 2, cells := 0, slots := 0, locals := 50 } : Room) (va_Pc [.ref m8, .int kx, .int ix, .int left] (wM D cI cJ cZ sz [(m8, .inr (6, [.int st8, .ref wa, .ref pa8, .ref sta, .ref mo, .ref hea, .ref tha, .int ig, .int io, .int op8, .int pl8, .int py, .int wn, .int tu, .int la, .int ps, .ref hd8, .ref od8, .long tb, .ref cd8, .int dr, .ref opa, .ref osa])), (mo, .inl (cI, 203520, .inl mf)), (hea, .inl (cZ, 3840, .inl hf9)), (tha, .inl (cZ, 3840, .inl tf9))])) (va_Qi (fun (r : Int32) (u : (Nat → Int32)) => match u with | tf2 => (gInv hf9 mf k0 it left 3840 0 tf2 r)) (fun (u : (Nat → Int32)) t => match u with | tf2 => wB D (va_A [(m8, .inr (6, [.int st8, .ref wa, .ref pa8, .ref sta, .ref mo, .ref hea, .ref tha, .int ig, .int io, .int op8, .int pl8, .int py, .int wn, .int tu, .int la, .int ps, .ref hd8, .ref od8, .long tb, .ref cd8, .int dr, .ref opa, .ref osa])), (mo, .inl (cI, 203520, .inl mf)), (hea, .inl (cZ, 3840, .inl hf9)), (tha, .inl (cZ, 3840, .inl tf9))] sz) [(m8, .inr (6, [.int st8, .ref wa, .ref pa8, .ref sta, .ref mo, .ref hea, .ref tha, .int ig, .int io, .int op8, .int pl8, .int py, .int wn, .int tu, .int la, .int ps, .ref hd8, .ref od8, .long tb, .ref cd8, .int dr, .ref opa, .ref osa])), (mo, .inl (cI, 203520, .inl mf)), (hea, .inl (cZ, 3840, .inl hf9)), (tha, .inl (cZ, 3840, .inl tf2))] t) (va_A [(m8, .inr (6, [.int st8, .ref wa, .ref pa8, .ref sta, .ref mo, .ref hea, .ref tha, .int ig, .int io, .int op8, .int pl8, .int py, .int wn, .int tu, .int la, .int ps, .ref hd8, .ref od8, .long tb, .ref cd8, .int dr, .ref opa, .ref osa])), (mo, .inl (cI, 203520, .inl mf)), (hea, .inl (cZ, 3840, .inl hf9)), (tha, .inl (cZ, 3840, .inl tf9))] sz)) 0 0 (va_A [(m8, .inr (6, [.int st8, .ref wa, .ref pa8, .ref sta, .ref mo, .ref hea, .ref tha, .int ig, .int io, .int op8, .int pl8, .int py, .int wn, .int tu, .int la, .int ps, .ref hd8, .ref od8, .long tb, .ref cd8, .int dr, .ref opa, .ref osa])), (mo, .inl (cI, 203520, .inl mf)), (hea, .inl (cZ, 3840, .inl hf9)), (tha, .inl (cZ, 3840, .inl tf9))] sz) := by
  refine Met.ofW (cc := cX8_goes) (maxL := 8) (ret := (some .boolean)) (by decide) rfl ?_
  intro p e s m args below meth c s₁ B hml hv
  obtain ⟨hargs, hsz, hP, ⟨hK, hN⟩, hD0⟩ := hv
  have hx := B.exec
  have hb := B.bytes
  have hr := B.returns
  have hlocks := B.notSynchronized
  have hts := atoms_spec (ws := wsX8_goes) B.pre
  have hown : s.vm.findClass RX8 = some m.cls := findClass_of_methodNamed B.named
  have k82 := hts (.methodLink RX8 82 yX8_behind) (by decide +kernel)
  have k22 := hts (.fieldLink RX8 22 "RummyTableModel" "most" "[I") (by decide +kernel)
  have iX8 : ∀ w ∈ wsX80, w ∈ wsX8_goes := by decide +kernel
  have k28 := hts (.fieldLink RX8 28 "RummyTableModel" "there" "[Z") (by decide +kernel)
  have k25 := hts (.fieldLink RX8 25 "RummyTableModel" "here" "[Z") (by decide +kernel)
  subst hsz
  have hD := hD0.self (sz := s.heap.size)
  generalize hAe : va_A [(m8, .inr (6, [.int st8, .ref wa, .ref pa8, .ref sta, .ref mo, .ref hea, .ref tha, .int ig, .int io, .int op8, .int pl8, .int py, .int wn, .int tu, .int la, .int ps, .ref hd8, .ref od8, .long tb, .ref cd8, .int dr, .ref opa, .ref osa])), (mo, .inl (cI, 203520, .inl mf)), (hea, .inl (cZ, 3840, .inl hf9)), (tha, .inl (cZ, 3840, .inl tf9))] s.heap.size = A at hD ⊢
  have hA : ∀ q : Nat, s.heap.size ≤ q → A q := fun q h => by rw [← hAe]; exact Or.inr h
  have hS : va_S A s.heap s.heap [] := va_S.rf
  rw [show entryFrame m args 8 = entryFrame m ([.ref m8, .int kx, .int ix, .int left] : List Value).toArray 8 from by rw [hargs]]
  have hl := lv_entry ([.ref m8, .int kx, .int ix, .int left]) (n := 8) (Nat.le_of_ble_eq_true rfl)
  rw [lg_entry_eq]
  generalize (lg_sl ([.ref m8, .int kx, .int ix, .int left]) ++ List.replicate (8 - (lg_sl ([.ref m8, .int kx, .int ix, .int left])).length) Slot.unset).toArray = ls at hl ⊢
  have hl : lv_has ls 8 [(0, .ref m8), (1, .int kx), (2, .int ix), (3, .int left)] := hl
  refine wQ (fun Q hQ => ?_)
  have lab31 : ∀ fuel31 : Nat, ∀ (m1 : Nat) (x4 : Int32) (x5 : Int32) (tq : Nat → Int32), (h5 : x5 = nI m1) → (hm1 : m1 ≤ 3840) → (hI : gInv hf9 mf k0 it left m1 0 tq x4) → (hfu31 : 3840 - m1 < fuel31) → ∀ (H : Heap) (locs : List Loc), va_P D vwCl [(m8, .inr (6, [.int st8, .ref wa, .ref pa8, .ref sta, .ref mo, .ref hea, .ref tha, .int ig, .int io, .int op8, .int pl8, .int py, .int wn, .int tu, .int la, .int ps, .ref hd8, .ref od8, .long tb, .ref cd8, .int dr, .ref opa, .ref osa])), (mo, .inl (cI, 203520, .inl mf)), (hea, .inl (cZ, 3840, .inl hf9)), (tha, .inl (cZ, 3840, .inl tq))] H → va_D A [(m8, .inr (6, [.int st8, .ref wa, .ref pa8, .ref sta, .ref mo, .ref hea, .ref tha, .int ig, .int io, .int op8, .int pl8, .int py, .int wn, .int tu, .int la, .int ps, .ref hd8, .ref od8, .long tb, .ref cd8, .int dr, .ref opa, .ref osa])), (mo, .inl (cI, 203520, .inl mf)), (hea, .inl (cZ, 3840, .inl hf9)), (tha, .inl (cZ, 3840, .inl tq))] → va_S A s.heap H locs → ∀ ls : Array Slot, lv_has ls 8 [(0, .ref m8), (1, .int kx), (2, .int ix), (3, .int left), (4, .int x4), (5, .int x5)] → W p l e (headSpec wsX8_goes ({ frames := 2, cells := 0, slots := 0, locals := 50 } : Room)).room s m args below meth c H locs 0 0 Q (F0 m 31 ls []) := by
    intro fuel31
    induction fuel31 with
    | zero =>
      intro m1 x4 x5 tq h5 hm1 hI hfu31
      exact absurd hfu31 (Nat.not_lt_zero _)
    | succ fuel31 ih31 =>
      intro m1 x4 x5 tq h5 hm1 hI hfu31 H locs hP hD hS ls hl
      have lab63 : ∀ fuel63 : Nat, ∀ (pp : Nat) (x4 : Int32) (x6 : Int32) (tq : Nat → Int32), (hmlt : m1 < 3840) → (hh : ¬ hf9 m1 = 0) → (h6 : x6 = nI pp) → (hp4 : pp ≤ 4) → (hpl : bN it ≤ pp) → (hI : gInv hf9 mf k0 it left m1 pp tq x4) → (hfu63 : 4 - pp < fuel63) → ∀ (H : Heap) (locs : List Loc), va_P D vwCl [(m8, .inr (6, [.int st8, .ref wa, .ref pa8, .ref sta, .ref mo, .ref hea, .ref tha, .int ig, .int io, .int op8, .int pl8, .int py, .int wn, .int tu, .int la, .int ps, .ref hd8, .ref od8, .long tb, .ref cd8, .int dr, .ref opa, .ref osa])), (mo, .inl (cI, 203520, .inl mf)), (hea, .inl (cZ, 3840, .inl hf9)), (tha, .inl (cZ, 3840, .inl tq))] H → va_D A [(m8, .inr (6, [.int st8, .ref wa, .ref pa8, .ref sta, .ref mo, .ref hea, .ref tha, .int ig, .int io, .int op8, .int pl8, .int py, .int wn, .int tu, .int la, .int ps, .ref hd8, .ref od8, .long tb, .ref cd8, .int dr, .ref opa, .ref osa])), (mo, .inl (cI, 203520, .inl mf)), (hea, .inl (cZ, 3840, .inl hf9)), (tha, .inl (cZ, 3840, .inl tq))] → va_S A s.heap H locs → ∀ ls : Array Slot, lv_has ls 8 [(0, .ref m8), (1, .int kx), (2, .int ix), (3, .int left), (4, .int x4), (5, .int x5), (6, .int x6)] → W p l e (headSpec wsX8_goes ({ frames := 2, cells := 0, slots := 0, locals := 50 } : Room)).room s m args below meth c H locs 0 0 Q (F0 m 63 ls []) := by
        intro fuel63
        induction fuel63 with
        | zero =>
          intro pp x4 x6 tq hmlt hh h6 hp4 hpl hI hfu63
          exact absurd hfu63 (Nat.not_lt_zero _)
        | succ fuel63 ih63 =>
          intro pp x4 x6 tq hmlt hh h6 hp4 hpl hI hfu63 H locs hP hD hS ls hl
          refine lv_iload hx hb dX8_goes_63 (lv_at hl 6 rfl) ?_
          refine lv_iconst (v := 3) hx hb dX8_goes_65 (by decide) ?_
          refine lv_icmp_gt (tgt := 138) hx hb dX8_goes_66 (by decide) (fun c_66 => ?_) (fun c_66 => ?_)
          · have hp9 : pp = 4 := hp_gt3 h6 hp4 c_66
            subst hp9
            have hI2 := g_next hI
            obtain ⟨x138, ex138⟩ : ∃ y : Int32, y = x5 + 1 := ⟨_, rfl⟩
            refine lv_iinc (v := x138) (lv' := [(5, .int x138), (0, .ref m8), (1, .int kx), (2, .int ix), (3, .int left), (4, .int x4), (6, .int x6)]) hx hb dX8_goes_138 hl (k := 5) rfl (by rw [ex138]; rfl) (by decide) rfl (fun ls hl => ?_)
            refine lv_goto (tgt := 31) hx hb dX8_goes_141 (by decide) ?_
            exact ih31 (m1 + 1) x4 x138 tq (hp_s ex138 h5) (by omega) (hI2) (by omega) _ _ hP hD hS ls (lv_sub hl [1, 2, 3, 4, 5, 0] rfl)
          · have hpl4 : pp < 4 := hp_ngt3 h6 hp4 c_66
            refine lv_iload hx hb dX8_goes_69 (lv_at hl 5 rfl) ?_
            refine lv_iload_n hx hb dX8_goes_71 rfl (lv_at hl 1 rfl) ?_
            refine lv_iload hx hb dX8_goes_72 (lv_at hl 6 rfl) ?_
            refine lv_iload hx hb dX8_goes_74 (lv_at hl 6 rfl) ?_
            refine lv_if_le (tgt := 87) hx hb dX8_goes_76 (by decide) (fun c_76 => ?_) (fun c_76 => ?_)
            · refine lv_iconst (v := 0) hx hb dX8_goes_87 (by decide) ?_
              refine vp_callSi (W.runS (As := [.int x5, .int kx, .int x6, .int 0]) (rest := []) ⟨hx, hb, hml, hown, hts⟩ (k_X8_behind l x5 kx x6 0 ) (va_cwS 4 hts gX8_goes_X8_behind rfl rfl rfl (by decide +kernel) ⟨Nat.le_of_ble_eq_true rfl, Nat.le_of_ble_eq_true rfl⟩) ⟨pS_fb, pS_pre⟩ rfl rfl hl.1 rfl (lv_room (Nat.le_of_ble_eq_true rfl)) dX8_goes_88 ⟨Nat.le_of_ble_eq_true rfl, Nat.le_of_ble_eq_true rfl⟩) (fun x88 hx88 => ?_)
              subst hx88
              refine lv_topi (fun x91 ex91 => ?_)
              refine lv_istore (lv' := [(7, .int x91), (0, .ref m8), (1, .int kx), (2, .int ix), (3, .int left), (4, .int x4), (5, .int x5), (6, .int x6)]) hx hb dX8_goes_91 hl (by decide) rfl (fun ls hl => ?_)
              have hto : x91 = oI (bhN m1 k0 pp (decide (0 < pp) && !it)) := by rw [ex91, h5, hkx, h6]; exact jb (by first | exact bjA h6 (by omega) c_76 _ | exact bjB hix c_80 | exact bjC h6 (by omega) c_76 hix c_80) hmlt hk0 hpl4
              have hsp := bh_split hmlt hto
              refine lv_iload hx hb dX8_goes_93 (lv_at hl 0 rfl) ?_
              refine lv_iconst (v := (-1)) hx hb dX8_goes_95 (by decide) ?_
              refine lv_icmp_eq (tgt := 132) hx hb dX8_goes_96 (by decide) (fun c_96 => ?_) (fun c_96 => ?_)
              · have hI3 := g_skip (fun t ht => by rw [hsp.1 c_96] at ht; cases ht) hI
                obtain ⟨x132, ex132⟩ : ∃ y : Int32, y = x6 + 1 := ⟨_, rfl⟩
                refine lv_iinc (v := x132) (lv' := [(6, .int x132), (7, .int x91), (0, .ref m8), (1, .int kx), (2, .int ix), (3, .int left), (4, .int x4), (5, .int x5)]) hx hb dX8_goes_132 hl (k := 7) rfl (by rw [ex132]; rfl) (by decide) rfl (fun ls hl => ?_)
                refine lv_goto (tgt := 63) hx hb dX8_goes_135 (by decide) ?_
                exact ih63 (pp + 1) x4 x132 tq (hmlt) (hh) (hp_s ex132 h6) (by omega) (by omega) (hI3) (by omega) _ _ hP hD hS ls (lv_sub hl [2, 3, 4, 5, 6, 7, 0] rfl)
              · obtain ⟨t, htt, htx⟩ := hsp.2 c_96
                have hixx : 3840 * (kx + 1) + x91 = nI (3840 * (k0 + 1) + t) := by rw [hkx, htx, nI_1, show (3840 : Int32) = nI 3840 from rfl, pk_mul, nI_add]
                have hil := bhN_idx hmlt hk0 htt
                have hgt := bhN_good hmlt (hgood m1 hmlt hh) htt
                have hcl2 : (nI (3840 * (k0 + 1) + t)).toNatClampNeg = 3840 * (k0 + 1) + t := nI_clamp (by omega)
                refine lv_aload_n hx hb dX8_goes_99 rfl (lv_at hl 1 rfl) ?_
                refine va_get (D := D) (ci := 6) (v := .ref mo) (C := RX8) (T := TX8) (N := 23) hx hb hts iX8 hown hK hP 0 rfl rfl 4 (by decide) k22 (fun _ h9 => h9) rfl dX8_goes_100 ?_
                refine lv_sipush (v := 3840) hx hb dX8_goes_103 (by decide) ?_
                refine lv_iload_n hx hb dX8_goes_106 rfl (lv_at hl 2 rfl) ?_
                refine lv_iconst (v := 1) hx hb dX8_goes_107 (by decide) ?_
                refine lv_iadd hx hb dX8_goes_108 ?_
                refine lv_imul hx hb dX8_goes_109 ?_
                refine lv_iload hx hb dX8_goes_110 (lv_at hl 0 rfl) ?_
                refine lv_iadd hx hb dX8_goes_112 ?_
                refine va_iald hx hb hK hP 1 0 rfl rfl (by rw [hixx]; exact vp_in_nI hil (by decide)) dX8_goes_113 ?_
                refine lv_iload_n hx hb dX8_goes_114 rfl (lv_at hl 4 rfl) ?_
                refine lv_icmp_eq (tgt := 121) hx hb dX8_goes_115 (by decide) (fun c_115 => ?_) (fun c_115 => ?_)
                · rw [hixx, hcl2] at c_115
                  refine lv_aload_n hx hb dX8_goes_121 rfl (lv_at hl 1 rfl) ?_
                  refine va_get (D := D) (ci := 6) (v := .ref tha) (C := RX8) (T := TX8) (N := 23) hx hb hts iX8 hown hK hP 0 rfl rfl 6 (by decide) k28 (fun _ h9 => h9) rfl dX8_goes_122 ?_
                  refine lv_iload hx hb dX8_goes_125 (lv_at hl 0 rfl) ?_
                  refine lv_iconst (v := 1) hx hb dX8_goes_127 (by decide) ?_
                  refine va_zast hx hb hK hP hD hS 3 2 rfl rfl (by rw [htx]; exact vp_in_nI hgt.1 (by decide)) dX8_goes_128 (fun H locs hP hD hS => ?_)
                  have hP : va_P D vwCl [(m8, .inr (6, [.int st8, .ref wa, .ref pa8, .ref sta, .ref mo, .ref hea, .ref tha, .int ig, .int io, .int op8, .int pl8, .int py, .int wn, .int tu, .int la, .int ps, .ref hd8, .ref od8, .long tb, .ref cd8, .int dr, .ref opa, .ref osa])), (mo, .inl (cI, 203520, .inl mf)), (hea, .inl (cZ, 3840, .inl hf9)), (tha, .inl (cZ, 3840, .inl (upd tq x91.toNatClampNeg (vp_nar .boolean 1))))] H := hP
                  have hD : va_D A [(m8, .inr (6, [.int st8, .ref wa, .ref pa8, .ref sta, .ref mo, .ref hea, .ref tha, .int ig, .int io, .int op8, .int pl8, .int py, .int wn, .int tu, .int la, .int ps, .ref hd8, .ref od8, .long tb, .ref cd8, .int dr, .ref opa, .ref osa])), (mo, .inl (cI, 203520, .inl mf)), (hea, .inl (cZ, 3840, .inl hf9)), (tha, .inl (cZ, 3840, .inl (upd tq x91.toNatClampNeg (vp_nar .boolean 1))))] := hD
                  generalize ex128 : upd tq x91.toNatClampNeg (vp_nar .boolean 1) = x128 at hP hD
                  have hI3 := g_add hmlt hh hpl hpl4 htt c_115 hgt.1 htx ex128 hI
                  refine lv_iconst (v := 1) hx hb dX8_goes_129 (by decide) ?_
                  refine lv_istore (lv' := [(4, .int 1), (7, .int x91), (0, .ref m8), (1, .int kx), (2, .int ix), (3, .int left), (5, .int x5), (6, .int x6)]) hx hb dX8_goes_130 hl (by decide) rfl (fun ls hl => ?_)
                  obtain ⟨x132, ex132⟩ : ∃ y : Int32, y = x6 + 1 := ⟨_, rfl⟩
                  refine lv_iinc (v := x132) (lv' := [(6, .int x132), (4, .int 1), (7, .int x91), (0, .ref m8), (1, .int kx), (2, .int ix), (3, .int left), (5, .int x5)]) hx hb dX8_goes_132 hl (k := 7) rfl (by rw [ex132]; rfl) (by decide) rfl (fun ls hl => ?_)
                  refine lv_goto (tgt := 63) hx hb dX8_goes_135 (by decide) ?_
                  exact ih63 (pp + 1) 1 x132 x128 (hmlt) (hh) (hp_s ex132 h6) (by omega) (by omega) (hI3) (by omega) _ _ hP hD hS ls (lv_sub hl [3, 4, 5, 6, 1, 7, 0] rfl)
                · rw [hixx, hcl2] at c_115
                  have hI3 := g_skip (fun t2 ht => by rw [htt] at ht; cases ht; exact c_115) hI
                  refine lv_goto (tgt := 132) hx hb dX8_goes_118 (by decide) ?_
                  obtain ⟨x132, ex132⟩ : ∃ y : Int32, y = x6 + 1 := ⟨_, rfl⟩
                  refine lv_iinc (v := x132) (lv' := [(6, .int x132), (7, .int x91), (0, .ref m8), (1, .int kx), (2, .int ix), (3, .int left), (4, .int x4), (5, .int x5)]) hx hb dX8_goes_132 hl (k := 7) rfl (by rw [ex132]; rfl) (by decide) rfl (fun ls hl => ?_)
                  refine lv_goto (tgt := 63) hx hb dX8_goes_135 (by decide) ?_
                  exact ih63 (pp + 1) x4 x132 tq (hmlt) (hh) (hp_s ex132 h6) (by omega) (by omega) (hI3) (by omega) _ _ hP hD hS ls (lv_sub hl [2, 3, 4, 5, 6, 7, 0] rfl)
            · refine lv_iload_n hx hb dX8_goes_79 rfl (lv_at hl 2 rfl) ?_
              refine lv_if_ne (tgt := 87) hx hb dX8_goes_80 (by decide) (fun c_80 => ?_) (fun c_80 => ?_)
              · refine lv_iconst (v := 0) hx hb dX8_goes_87 (by decide) ?_
                refine vp_callSi (W.runS (As := [.int x5, .int kx, .int x6, .int 0]) (rest := []) ⟨hx, hb, hml, hown, hts⟩ (k_X8_behind l x5 kx x6 0 ) (va_cwS 4 hts gX8_goes_X8_behind rfl rfl rfl (by decide +kernel) ⟨Nat.le_of_ble_eq_true rfl, Nat.le_of_ble_eq_true rfl⟩) ⟨pS_fb, pS_pre⟩ rfl rfl hl.1 rfl (lv_room (Nat.le_of_ble_eq_true rfl)) dX8_goes_88 ⟨Nat.le_of_ble_eq_true rfl, Nat.le_of_ble_eq_true rfl⟩) (fun x88 hx88 => ?_)
                subst hx88
                refine lv_topi (fun x91 ex91 => ?_)
                refine lv_istore (lv' := [(7, .int x91), (0, .ref m8), (1, .int kx), (2, .int ix), (3, .int left), (4, .int x4), (5, .int x5), (6, .int x6)]) hx hb dX8_goes_91 hl (by decide) rfl (fun ls hl => ?_)
                have hto : x91 = oI (bhN m1 k0 pp (decide (0 < pp) && !it)) := by rw [ex91, h5, hkx, h6]; exact jb (by first | exact bjA h6 (by omega) c_76 _ | exact bjB hix c_80 | exact bjC h6 (by omega) c_76 hix c_80) hmlt hk0 hpl4
                have hsp := bh_split hmlt hto
                refine lv_iload hx hb dX8_goes_93 (lv_at hl 0 rfl) ?_
                refine lv_iconst (v := (-1)) hx hb dX8_goes_95 (by decide) ?_
                refine lv_icmp_eq (tgt := 132) hx hb dX8_goes_96 (by decide) (fun c_96 => ?_) (fun c_96 => ?_)
                · have hI3 := g_skip (fun t ht => by rw [hsp.1 c_96] at ht; cases ht) hI
                  obtain ⟨x132, ex132⟩ : ∃ y : Int32, y = x6 + 1 := ⟨_, rfl⟩
                  refine lv_iinc (v := x132) (lv' := [(6, .int x132), (7, .int x91), (0, .ref m8), (1, .int kx), (2, .int ix), (3, .int left), (4, .int x4), (5, .int x5)]) hx hb dX8_goes_132 hl (k := 7) rfl (by rw [ex132]; rfl) (by decide) rfl (fun ls hl => ?_)
                  refine lv_goto (tgt := 63) hx hb dX8_goes_135 (by decide) ?_
                  exact ih63 (pp + 1) x4 x132 tq (hmlt) (hh) (hp_s ex132 h6) (by omega) (by omega) (hI3) (by omega) _ _ hP hD hS ls (lv_sub hl [2, 3, 4, 5, 6, 7, 0] rfl)
                · obtain ⟨t, htt, htx⟩ := hsp.2 c_96
                  have hixx : 3840 * (kx + 1) + x91 = nI (3840 * (k0 + 1) + t) := by rw [hkx, htx, nI_1, show (3840 : Int32) = nI 3840 from rfl, pk_mul, nI_add]
                  have hil := bhN_idx hmlt hk0 htt
                  have hgt := bhN_good hmlt (hgood m1 hmlt hh) htt
                  have hcl2 : (nI (3840 * (k0 + 1) + t)).toNatClampNeg = 3840 * (k0 + 1) + t := nI_clamp (by omega)
                  refine lv_aload_n hx hb dX8_goes_99 rfl (lv_at hl 1 rfl) ?_
                  refine va_get (D := D) (ci := 6) (v := .ref mo) (C := RX8) (T := TX8) (N := 23) hx hb hts iX8 hown hK hP 0 rfl rfl 4 (by decide) k22 (fun _ h9 => h9) rfl dX8_goes_100 ?_
                  refine lv_sipush (v := 3840) hx hb dX8_goes_103 (by decide) ?_
                  refine lv_iload_n hx hb dX8_goes_106 rfl (lv_at hl 2 rfl) ?_
                  refine lv_iconst (v := 1) hx hb dX8_goes_107 (by decide) ?_
                  refine lv_iadd hx hb dX8_goes_108 ?_
                  refine lv_imul hx hb dX8_goes_109 ?_
                  refine lv_iload hx hb dX8_goes_110 (lv_at hl 0 rfl) ?_
                  refine lv_iadd hx hb dX8_goes_112 ?_
                  refine va_iald hx hb hK hP 1 0 rfl rfl (by rw [hixx]; exact vp_in_nI hil (by decide)) dX8_goes_113 ?_
                  refine lv_iload_n hx hb dX8_goes_114 rfl (lv_at hl 4 rfl) ?_
                  refine lv_icmp_eq (tgt := 121) hx hb dX8_goes_115 (by decide) (fun c_115 => ?_) (fun c_115 => ?_)
                  · rw [hixx, hcl2] at c_115
                    refine lv_aload_n hx hb dX8_goes_121 rfl (lv_at hl 1 rfl) ?_
                    refine va_get (D := D) (ci := 6) (v := .ref tha) (C := RX8) (T := TX8) (N := 23) hx hb hts iX8 hown hK hP 0 rfl rfl 6 (by decide) k28 (fun _ h9 => h9) rfl dX8_goes_122 ?_
                    refine lv_iload hx hb dX8_goes_125 (lv_at hl 0 rfl) ?_
                    refine lv_iconst (v := 1) hx hb dX8_goes_127 (by decide) ?_
                    refine va_zast hx hb hK hP hD hS 3 2 rfl rfl (by rw [htx]; exact vp_in_nI hgt.1 (by decide)) dX8_goes_128 (fun H locs hP hD hS => ?_)
                    have hP : va_P D vwCl [(m8, .inr (6, [.int st8, .ref wa, .ref pa8, .ref sta, .ref mo, .ref hea, .ref tha, .int ig, .int io, .int op8, .int pl8, .int py, .int wn, .int tu, .int la, .int ps, .ref hd8, .ref od8, .long tb, .ref cd8, .int dr, .ref opa, .ref osa])), (mo, .inl (cI, 203520, .inl mf)), (hea, .inl (cZ, 3840, .inl hf9)), (tha, .inl (cZ, 3840, .inl (upd tq x91.toNatClampNeg (vp_nar .boolean 1))))] H := hP
                    have hD : va_D A [(m8, .inr (6, [.int st8, .ref wa, .ref pa8, .ref sta, .ref mo, .ref hea, .ref tha, .int ig, .int io, .int op8, .int pl8, .int py, .int wn, .int tu, .int la, .int ps, .ref hd8, .ref od8, .long tb, .ref cd8, .int dr, .ref opa, .ref osa])), (mo, .inl (cI, 203520, .inl mf)), (hea, .inl (cZ, 3840, .inl hf9)), (tha, .inl (cZ, 3840, .inl (upd tq x91.toNatClampNeg (vp_nar .boolean 1))))] := hD
                    generalize ex128 : upd tq x91.toNatClampNeg (vp_nar .boolean 1) = x128 at hP hD
                    have hI3 := g_add hmlt hh hpl hpl4 htt c_115 hgt.1 htx ex128 hI
                    refine lv_iconst (v := 1) hx hb dX8_goes_129 (by decide) ?_
                    refine lv_istore (lv' := [(4, .int 1), (7, .int x91), (0, .ref m8), (1, .int kx), (2, .int ix), (3, .int left), (5, .int x5), (6, .int x6)]) hx hb dX8_goes_130 hl (by decide) rfl (fun ls hl => ?_)
                    obtain ⟨x132, ex132⟩ : ∃ y : Int32, y = x6 + 1 := ⟨_, rfl⟩
                    refine lv_iinc (v := x132) (lv' := [(6, .int x132), (4, .int 1), (7, .int x91), (0, .ref m8), (1, .int kx), (2, .int ix), (3, .int left), (5, .int x5)]) hx hb dX8_goes_132 hl (k := 7) rfl (by rw [ex132]; rfl) (by decide) rfl (fun ls hl => ?_)
                    refine lv_goto (tgt := 63) hx hb dX8_goes_135 (by decide) ?_
                    exact ih63 (pp + 1) 1 x132 x128 (hmlt) (hh) (hp_s ex132 h6) (by omega) (by omega) (hI3) (by omega) _ _ hP hD hS ls (lv_sub hl [3, 4, 5, 6, 1, 7, 0] rfl)
                  · rw [hixx, hcl2] at c_115
                    have hI3 := g_skip (fun t2 ht => by rw [htt] at ht; cases ht; exact c_115) hI
                    refine lv_goto (tgt := 132) hx hb dX8_goes_118 (by decide) ?_
                    obtain ⟨x132, ex132⟩ : ∃ y : Int32, y = x6 + 1 := ⟨_, rfl⟩
                    refine lv_iinc (v := x132) (lv' := [(6, .int x132), (7, .int x91), (0, .ref m8), (1, .int kx), (2, .int ix), (3, .int left), (4, .int x4), (5, .int x5)]) hx hb dX8_goes_132 hl (k := 7) rfl (by rw [ex132]; rfl) (by decide) rfl (fun ls hl => ?_)
                    refine lv_goto (tgt := 63) hx hb dX8_goes_135 (by decide) ?_
                    exact ih63 (pp + 1) x4 x132 tq (hmlt) (hh) (hp_s ex132 h6) (by omega) (by omega) (hI3) (by omega) _ _ hP hD hS ls (lv_sub hl [2, 3, 4, 5, 6, 7, 0] rfl)
              · refine lv_iconst (v := 1) hx hb dX8_goes_83 (by decide) ?_
                refine lv_goto (tgt := 88) hx hb dX8_goes_84 (by decide) ?_
                refine vp_callSi (W.runS (As := [.int x5, .int kx, .int x6, .int 1]) (rest := []) ⟨hx, hb, hml, hown, hts⟩ (k_X8_behind l x5 kx x6 1 ) (va_cwS 4 hts gX8_goes_X8_behind rfl rfl rfl (by decide +kernel) ⟨Nat.le_of_ble_eq_true rfl, Nat.le_of_ble_eq_true rfl⟩) ⟨pS_fb, pS_pre⟩ rfl rfl hl.1 rfl (lv_room (Nat.le_of_ble_eq_true rfl)) dX8_goes_88 ⟨Nat.le_of_ble_eq_true rfl, Nat.le_of_ble_eq_true rfl⟩) (fun x88 hx88 => ?_)
                subst hx88
                refine lv_topi (fun x91 ex91 => ?_)
                refine lv_istore (lv' := [(7, .int x91), (0, .ref m8), (1, .int kx), (2, .int ix), (3, .int left), (4, .int x4), (5, .int x5), (6, .int x6)]) hx hb dX8_goes_91 hl (by decide) rfl (fun ls hl => ?_)
                have hto : x91 = oI (bhN m1 k0 pp (decide (0 < pp) && !it)) := by rw [ex91, h5, hkx, h6]; exact jb (by first | exact bjA h6 (by omega) c_76 _ | exact bjB hix c_80 | exact bjC h6 (by omega) c_76 hix c_80) hmlt hk0 hpl4
                have hsp := bh_split hmlt hto
                refine lv_iload hx hb dX8_goes_93 (lv_at hl 0 rfl) ?_
                refine lv_iconst (v := (-1)) hx hb dX8_goes_95 (by decide) ?_
                refine lv_icmp_eq (tgt := 132) hx hb dX8_goes_96 (by decide) (fun c_96 => ?_) (fun c_96 => ?_)
                · have hI3 := g_skip (fun t ht => by rw [hsp.1 c_96] at ht; cases ht) hI
                  obtain ⟨x132, ex132⟩ : ∃ y : Int32, y = x6 + 1 := ⟨_, rfl⟩
                  refine lv_iinc (v := x132) (lv' := [(6, .int x132), (7, .int x91), (0, .ref m8), (1, .int kx), (2, .int ix), (3, .int left), (4, .int x4), (5, .int x5)]) hx hb dX8_goes_132 hl (k := 7) rfl (by rw [ex132]; rfl) (by decide) rfl (fun ls hl => ?_)
                  refine lv_goto (tgt := 63) hx hb dX8_goes_135 (by decide) ?_
                  exact ih63 (pp + 1) x4 x132 tq (hmlt) (hh) (hp_s ex132 h6) (by omega) (by omega) (hI3) (by omega) _ _ hP hD hS ls (lv_sub hl [2, 3, 4, 5, 6, 7, 0] rfl)
                · obtain ⟨t, htt, htx⟩ := hsp.2 c_96
                  have hixx : 3840 * (kx + 1) + x91 = nI (3840 * (k0 + 1) + t) := by rw [hkx, htx, nI_1, show (3840 : Int32) = nI 3840 from rfl, pk_mul, nI_add]
                  have hil := bhN_idx hmlt hk0 htt
                  have hgt := bhN_good hmlt (hgood m1 hmlt hh) htt
                  have hcl2 : (nI (3840 * (k0 + 1) + t)).toNatClampNeg = 3840 * (k0 + 1) + t := nI_clamp (by omega)
                  refine lv_aload_n hx hb dX8_goes_99 rfl (lv_at hl 1 rfl) ?_
                  refine va_get (D := D) (ci := 6) (v := .ref mo) (C := RX8) (T := TX8) (N := 23) hx hb hts iX8 hown hK hP 0 rfl rfl 4 (by decide) k22 (fun _ h9 => h9) rfl dX8_goes_100 ?_
                  refine lv_sipush (v := 3840) hx hb dX8_goes_103 (by decide) ?_
                  refine lv_iload_n hx hb dX8_goes_106 rfl (lv_at hl 2 rfl) ?_
                  refine lv_iconst (v := 1) hx hb dX8_goes_107 (by decide) ?_
                  refine lv_iadd hx hb dX8_goes_108 ?_
                  refine lv_imul hx hb dX8_goes_109 ?_
                  refine lv_iload hx hb dX8_goes_110 (lv_at hl 0 rfl) ?_
                  refine lv_iadd hx hb dX8_goes_112 ?_
                  refine va_iald hx hb hK hP 1 0 rfl rfl (by rw [hixx]; exact vp_in_nI hil (by decide)) dX8_goes_113 ?_
                  refine lv_iload_n hx hb dX8_goes_114 rfl (lv_at hl 4 rfl) ?_
                  refine lv_icmp_eq (tgt := 121) hx hb dX8_goes_115 (by decide) (fun c_115 => ?_) (fun c_115 => ?_)
                  · rw [hixx, hcl2] at c_115
                    refine lv_aload_n hx hb dX8_goes_121 rfl (lv_at hl 1 rfl) ?_
                    refine va_get (D := D) (ci := 6) (v := .ref tha) (C := RX8) (T := TX8) (N := 23) hx hb hts iX8 hown hK hP 0 rfl rfl 6 (by decide) k28 (fun _ h9 => h9) rfl dX8_goes_122 ?_
                    refine lv_iload hx hb dX8_goes_125 (lv_at hl 0 rfl) ?_
                    refine lv_iconst (v := 1) hx hb dX8_goes_127 (by decide) ?_
                    refine va_zast hx hb hK hP hD hS 3 2 rfl rfl (by rw [htx]; exact vp_in_nI hgt.1 (by decide)) dX8_goes_128 (fun H locs hP hD hS => ?_)
                    have hP : va_P D vwCl [(m8, .inr (6, [.int st8, .ref wa, .ref pa8, .ref sta, .ref mo, .ref hea, .ref tha, .int ig, .int io, .int op8, .int pl8, .int py, .int wn, .int tu, .int la, .int ps, .ref hd8, .ref od8, .long tb, .ref cd8, .int dr, .ref opa, .ref osa])), (mo, .inl (cI, 203520, .inl mf)), (hea, .inl (cZ, 3840, .inl hf9)), (tha, .inl (cZ, 3840, .inl (upd tq x91.toNatClampNeg (vp_nar .boolean 1))))] H := hP
                    have hD : va_D A [(m8, .inr (6, [.int st8, .ref wa, .ref pa8, .ref sta, .ref mo, .ref hea, .ref tha, .int ig, .int io, .int op8, .int pl8, .int py, .int wn, .int tu, .int la, .int ps, .ref hd8, .ref od8, .long tb, .ref cd8, .int dr, .ref opa, .ref osa])), (mo, .inl (cI, 203520, .inl mf)), (hea, .inl (cZ, 3840, .inl hf9)), (tha, .inl (cZ, 3840, .inl (upd tq x91.toNatClampNeg (vp_nar .boolean 1))))] := hD
                    generalize ex128 : upd tq x91.toNatClampNeg (vp_nar .boolean 1) = x128 at hP hD
                    have hI3 := g_add hmlt hh hpl hpl4 htt c_115 hgt.1 htx ex128 hI
                    refine lv_iconst (v := 1) hx hb dX8_goes_129 (by decide) ?_
                    refine lv_istore (lv' := [(4, .int 1), (7, .int x91), (0, .ref m8), (1, .int kx), (2, .int ix), (3, .int left), (5, .int x5), (6, .int x6)]) hx hb dX8_goes_130 hl (by decide) rfl (fun ls hl => ?_)
                    obtain ⟨x132, ex132⟩ : ∃ y : Int32, y = x6 + 1 := ⟨_, rfl⟩
                    refine lv_iinc (v := x132) (lv' := [(6, .int x132), (4, .int 1), (7, .int x91), (0, .ref m8), (1, .int kx), (2, .int ix), (3, .int left), (5, .int x5)]) hx hb dX8_goes_132 hl (k := 7) rfl (by rw [ex132]; rfl) (by decide) rfl (fun ls hl => ?_)
                    refine lv_goto (tgt := 63) hx hb dX8_goes_135 (by decide) ?_
                    exact ih63 (pp + 1) 1 x132 x128 (hmlt) (hh) (hp_s ex132 h6) (by omega) (by omega) (hI3) (by omega) _ _ hP hD hS ls (lv_sub hl [3, 4, 5, 6, 1, 7, 0] rfl)
                  · rw [hixx, hcl2] at c_115
                    have hI3 := g_skip (fun t2 ht => by rw [htt] at ht; cases ht; exact c_115) hI
                    refine lv_goto (tgt := 132) hx hb dX8_goes_118 (by decide) ?_
                    obtain ⟨x132, ex132⟩ : ∃ y : Int32, y = x6 + 1 := ⟨_, rfl⟩
                    refine lv_iinc (v := x132) (lv' := [(6, .int x132), (7, .int x91), (0, .ref m8), (1, .int kx), (2, .int ix), (3, .int left), (4, .int x4), (5, .int x5)]) hx hb dX8_goes_132 hl (k := 7) rfl (by rw [ex132]; rfl) (by decide) rfl (fun ls hl => ?_)
                    refine lv_goto (tgt := 63) hx hb dX8_goes_135 (by decide) ?_
                    exact ih63 (pp + 1) x4 x132 tq (hmlt) (hh) (hp_s ex132 h6) (by omega) (by omega) (hI3) (by omega) _ _ hP hD hS ls (lv_sub hl [2, 3, 4, 5, 6, 7, 0] rfl)
      refine lv_iload hx hb dX8_goes_31 (lv_at hl 5 rfl) ?_
      refine lv_sipush (v := 3840) hx hb dX8_goes_33 (by decide) ?_
      refine lv_icmp_ge (tgt := 144) hx hb dX8_goes_36 (by decide) (fun c_36 => ?_) (fun c_36 => ?_)
      · have hm9 : m1 = 3840 := hp_ge h5 (by decide : (3840 : Int32) = nI 3840) hm1 (by decide) c_36
        subst hm9
        refine lv_iload hx hb dX8_goes_144 (lv_at hl 4 rfl) ?_
        rw [← hQ]
        have hP9 := hP.sub (ws' := [(m8, .inr (6, [.int st8, .ref wa, .ref pa8, .ref sta, .ref mo, .ref hea, .ref tha, .int ig, .int io, .int op8, .int pl8, .int py, .int wn, .int tu, .int la, .int ps, .ref hd8, .ref od8, .long tb, .ref cd8, .int dr, .ref opa, .ref osa])), (mo, .inl (cI, 203520, .inl mf)), (hea, .inl (cZ, 3840, .inl hf9)), (tha, .inl (cZ, 3840, .inl tq))]) [0, 1, 2, 3] rfl
        have hD9 := hD.sub (ws' := [(m8, .inr (6, [.int st8, .ref wa, .ref pa8, .ref sta, .ref mo, .ref hea, .ref tha, .int ig, .int io, .int op8, .int pl8, .int py, .int wn, .int tu, .int la, .int ps, .ref hd8, .ref od8, .long tb, .ref cd8, .int dr, .ref opa, .ref osa])), (mo, .inl (cI, 203520, .inl mf)), (hea, .inl (cZ, 3840, .inl hf9)), (tha, .inl (cZ, 3840, .inl tq))]) [0, 1, 2, 3] (by decide) rfl
        exact W.zret (v := x4) hx hb hr (by rcases hI.2 with h | h <;> rw [h.1] <;> rfl) (fun t ht hW => ⟨⟨x4, tq, rfl, hI, (by show wB D A _ t; exact ⟨by rw [ht]; exact hP9, hD9⟩)⟩, hS.F ht⟩) hS.2.2 dX8_goes_146
      · have hmlt : m1 < 3840 := hp_lt h5 (by decide : (3840 : Int32) = nI 3840) hm1 (by decide) c_36
        have hcl : x5.toNatClampNeg = m1 := by rw [h5]; exact nI_clamp (by omega)
        refine lv_aload_n hx hb dX8_goes_39 rfl (lv_at hl 0 rfl) ?_
        refine va_get (D := D) (ci := 6) (v := .ref hea) (C := RX8) (T := TX8) (N := 23) hx hb hts iX8 hown hK hP 0 rfl rfl 5 (by decide) k25 (fun _ h9 => h9) rfl dX8_goes_40 ?_
        refine lv_iload hx hb dX8_goes_43 (lv_at hl 5 rfl) ?_
        refine va_zald hx hb hK hP 2 2 rfl rfl (by rw [h5]; exact vp_in_nI hmlt (by decide)) dX8_goes_45 ?_
        refine lv_if_ne (tgt := 52) hx hb dX8_goes_46 (by decide) (fun c_46 => ?_) (fun c_46 => ?_)
        · have hh : ¬ hf9 m1 = 0 := by rw [← hcl]; exact c_46
          refine lv_iload_n hx hb dX8_goes_52 rfl (lv_at hl 2 rfl) ?_
          refine lv_if_eq (tgt := 60) hx hb dX8_goes_53 (by decide) (fun c_53 => ?_) (fun c_53 => ?_)
          · refine lv_iconst (v := 0) hx hb dX8_goes_60 (by decide) ?_
            refine lv_istore (lv' := [(6, .int 0), (0, .ref m8), (1, .int kx), (2, .int ix), (3, .int left), (4, .int x4), (5, .int x5)]) hx hb dX8_goes_61 hl (by decide) rfl (fun ls hl => ?_)
            exact lab63 _ (bN it) x4 0 tq (hmlt) (hh) (by first | exact its1 hix c_53 | exact its0 hix c_53) (by have := bN_le it; omega) (Nat.le_refl _) (g_from hI) (Nat.lt_succ_self _) _ _ hP hD hS ls (lv_sub hl [1, 2, 3, 4, 5, 6, 0] rfl)
          · refine lv_iconst (v := 1) hx hb dX8_goes_56 (by decide) ?_
            refine lv_goto (tgt := 61) hx hb dX8_goes_57 (by decide) ?_
            refine lv_istore (lv' := [(6, .int 1), (0, .ref m8), (1, .int kx), (2, .int ix), (3, .int left), (4, .int x4), (5, .int x5)]) hx hb dX8_goes_61 hl (by decide) rfl (fun ls hl => ?_)
            exact lab63 _ (bN it) x4 1 tq (hmlt) (hh) (by first | exact its1 hix c_53 | exact its0 hix c_53) (by have := bN_le it; omega) (Nat.le_refl _) (g_from hI) (Nat.lt_succ_self _) _ _ hP hD hS ls (lv_sub hl [1, 2, 3, 4, 5, 6, 0] rfl)
        · have hI2 := g_none (by rw [← hcl]; exact c_46) hI
          refine lv_goto (tgt := 138) hx hb dX8_goes_49 (by decide) ?_
          obtain ⟨x138, ex138⟩ : ∃ y : Int32, y = x5 + 1 := ⟨_, rfl⟩
          refine lv_iinc (v := x138) (lv' := [(5, .int x138), (0, .ref m8), (1, .int kx), (2, .int ix), (3, .int left), (4, .int x4)]) hx hb dX8_goes_138 hl (k := 5) rfl (by rw [ex138]; rfl) (by decide) rfl (fun ls hl => ?_)
          refine lv_goto (tgt := 31) hx hb dX8_goes_141 (by decide) ?_
          exact ih31 (m1 + 1) x4 x138 tq (hp_s ex138 h5) (by omega) (hI2) (by omega) _ _ hP hD hS ls (lv_sub hl [1, 2, 3, 4, 5, 0] rfl)
  have lab6 : ∀ fuel6 : Nat, ∀ (i : Nat) (x5 : Int32) (tq : Nat → Int32), (h5 : x5 = nI i) → (hi : i ≤ 3840) → (hz9 : ∀ k, k < i → tq k = 0) → (hfu6 : 3840 - i < fuel6) → ∀ (H : Heap) (locs : List Loc), va_P D vwCl [(m8, .inr (6, [.int st8, .ref wa, .ref pa8, .ref sta, .ref mo, .ref hea, .ref tha, .int ig, .int io, .int op8, .int pl8, .int py, .int wn, .int tu, .int la, .int ps, .ref hd8, .ref od8, .long tb, .ref cd8, .int dr, .ref opa, .ref osa])), (mo, .inl (cI, 203520, .inl mf)), (hea, .inl (cZ, 3840, .inl hf9)), (tha, .inl (cZ, 3840, .inl tq))] H → va_D A [(m8, .inr (6, [.int st8, .ref wa, .ref pa8, .ref sta, .ref mo, .ref hea, .ref tha, .int ig, .int io, .int op8, .int pl8, .int py, .int wn, .int tu, .int la, .int ps, .ref hd8, .ref od8, .long tb, .ref cd8, .int dr, .ref opa, .ref osa])), (mo, .inl (cI, 203520, .inl mf)), (hea, .inl (cZ, 3840, .inl hf9)), (tha, .inl (cZ, 3840, .inl tq))] → va_S A s.heap H locs → ∀ ls : Array Slot, lv_has ls 8 [(0, .ref m8), (1, .int kx), (2, .int ix), (3, .int left), (4, .int 0), (5, .int x5)] → W p l e (headSpec wsX8_goes ({ frames := 2, cells := 0, slots := 0, locals := 50 } : Room)).room s m args below meth c H locs 0 0 Q (F0 m 6 ls []) := by
    intro fuel6
    induction fuel6 with
    | zero =>
      intro i x5 tq h5 hi hz9 hfu6
      exact absurd hfu6 (Nat.not_lt_zero _)
    | succ fuel6 ih6 =>
      intro i x5 tq h5 hi hz9 hfu6 H locs hP hD hS ls hl
      refine lv_iload hx hb dX8_goes_6 (lv_at hl 5 rfl) ?_
      refine lv_sipush (v := 3840) hx hb dX8_goes_8 (by decide) ?_
      refine lv_icmp_ge (tgt := 28) hx hb dX8_goes_11 (by decide) (fun c_11 => ?_) (fun c_11 => ?_)
      · have hi9 : i = 3840 := hp_ge h5 (by decide : (3840 : Int32) = nI 3840) hi (by decide) c_11
        subst hi9
        refine lv_iconst (v := 0) hx hb dX8_goes_28 (by decide) ?_
        refine lv_istore (lv' := [(5, .int 0), (0, .ref m8), (1, .int kx), (2, .int ix), (3, .int left), (4, .int 0)]) hx hb dX8_goes_29 hl (by decide) rfl (fun ls hl => ?_)
        exact lab31 _ 0 0 0 tq (nI_0.symm) (by omega) (g_start hz9) (Nat.lt_succ_self _) _ _ hP hD hS ls (lv_sub hl [1, 2, 3, 4, 5, 0] rfl)
      · have hlt : i < 3840 := hp_lt h5 (by decide : (3840 : Int32) = nI 3840) hi (by decide) c_11
        refine lv_aload_n hx hb dX8_goes_14 rfl (lv_at hl 0 rfl) ?_
        refine va_get (D := D) (ci := 6) (v := .ref tha) (C := RX8) (T := TX8) (N := 23) hx hb hts iX8 hown hK hP 0 rfl rfl 6 (by decide) k28 (fun _ h9 => h9) rfl dX8_goes_15 ?_
        refine lv_iload hx hb dX8_goes_18 (lv_at hl 5 rfl) ?_
        refine lv_iconst (v := 0) hx hb dX8_goes_20 (by decide) ?_
        refine va_zast hx hb hK hP hD hS 3 2 rfl rfl (by rw [h5]; exact vp_in_nI hlt (by decide)) dX8_goes_21 (fun H locs hP hD hS => ?_)
        have hP : va_P D vwCl [(m8, .inr (6, [.int st8, .ref wa, .ref pa8, .ref sta, .ref mo, .ref hea, .ref tha, .int ig, .int io, .int op8, .int pl8, .int py, .int wn, .int tu, .int la, .int ps, .ref hd8, .ref od8, .long tb, .ref cd8, .int dr, .ref opa, .ref osa])), (mo, .inl (cI, 203520, .inl mf)), (hea, .inl (cZ, 3840, .inl hf9)), (tha, .inl (cZ, 3840, .inl (upd tq x5.toNatClampNeg (vp_nar .boolean 0))))] H := hP
        have hD : va_D A [(m8, .inr (6, [.int st8, .ref wa, .ref pa8, .ref sta, .ref mo, .ref hea, .ref tha, .int ig, .int io, .int op8, .int pl8, .int py, .int wn, .int tu, .int la, .int ps, .ref hd8, .ref od8, .long tb, .ref cd8, .int dr, .ref opa, .ref osa])), (mo, .inl (cI, 203520, .inl mf)), (hea, .inl (cZ, 3840, .inl hf9)), (tha, .inl (cZ, 3840, .inl (upd tq x5.toNatClampNeg (vp_nar .boolean 0))))] := hD
        generalize ex21 : upd tq x5.toNatClampNeg (vp_nar .boolean 0) = x21 at hP hD
        obtain ⟨x22, ex22⟩ : ∃ y : Int32, y = x5 + 1 := ⟨_, rfl⟩
        refine lv_iinc (v := x22) (lv' := [(5, .int x22), (0, .ref m8), (1, .int kx), (2, .int ix), (3, .int left), (4, .int 0)]) hx hb dX8_goes_22 hl (k := 5) rfl (by rw [ex22]; rfl) (by decide) rfl (fun ls hl => ?_)
        refine lv_goto (tgt := 6) hx hb dX8_goes_25 (by decide) ?_
        exact ih6 (i + 1) x22 x21 (hp_s ex22 h5) (by omega) (z_fill ex21 h5 (by omega) hz9) (by omega) _ _ hP hD hS ls (lv_sub hl [1, 2, 3, 4, 5, 0] rfl)
  refine lv_iconst (v := 0) hx hb dX8_goes_0 (by decide) ?_
  refine lv_istore (lv' := [(4, .int 0), (0, .ref m8), (1, .int kx), (2, .int ix), (3, .int left)]) hx hb dX8_goes_1 hl (by decide) rfl (fun ls hl => ?_)
  refine lv_iconst (v := 0) hx hb dX8_goes_3 (by decide) ?_
  refine lv_istore (lv' := [(5, .int 0), (4, .int 0), (0, .ref m8), (1, .int kx), (2, .int ix), (3, .int left)]) hx hb dX8_goes_4 hl (by decide) rfl (fun ls hl => ?_)
  exact lab6 _ 0 0 tf9 (nI_0.symm) (by omega) (fun m h => absurd h (Nat.not_lt_zero m)) (Nat.lt_succ_self _) _ _ hP hD hS ls (lv_sub hl [2, 3, 4, 5, 1, 0] rfl)
