theorem cmp_lt {x y : Int64} : lg_cmp x y < 0 ↔ x < y := by
  unfold lg_cmp
  by_cases h1 : x > y
  · rw [if_pos h1]; exact ⟨fun h => absurd h (by decide), fun h => absurd h (Int64.lt_asymm h1)⟩
  · rw [if_neg h1]
    by_cases h2 : x = y
    · rw [if_pos h2]; exact ⟨fun h => absurd h (by decide), fun h => absurd (h2 ▸ h) Int64.lt_irrefl⟩
    · rw [if_neg h2]
      exact ⟨fun _ => by rcases Int64.lt_or_eq_of_le (Int64.not_lt.mp h1) with h | h; exact h; exact absurd h h2, fun _ => by decide⟩
theorem cmp_gt {x y : Int64} : 0 < lg_cmp x y ↔ y < x := by
  unfold lg_cmp
  by_cases h1 : x > y
  · rw [if_pos h1]; exact ⟨fun _ => h1, fun _ => by decide⟩
  · rw [if_neg h1]
    by_cases h2 : x = y
    · rw [if_pos h2]; exact ⟨fun h => absurd h (by decide), fun h => absurd h h1⟩
    · rw [if_neg h2]; exact ⟨fun h => absurd h (by decide), fun h => absurd h h1⟩
theorem isS_lN {k : Nat} (h : k < 2 ^ 64) : isS (lN k) ↔ k < 2 ^ 54 := by unfold isS; rw [wb_tn h]
theorem isS_of {x : Int64} (h : isS x) : ∃ k, k < 2 ^ 54 ∧ x = lN k := by
  obtain ⟨w, hw, rfl⟩ := wb_of x
  exact ⟨w, (isS_lN hw).mp h, rfl⟩
theorem j8_set (x : Int64) : (j_X8_isSet x = 0 → ¬ isS x) ∧ (¬ j_X8_isSet x = 0 → isS x) := by
  unfold j_X8_isSet
  by_cases h1 : lg_cmp x 0 < 0
  · rw [if_pos h1]
    refine ⟨fun _ hs => ?_, fun h => absurd rfl h⟩
    obtain ⟨k, hk, rfl⟩ := isS_of hs
    have := (pk_lLT (a := k) (b := 0) (by omega) (by decide)).mp (cmp_lt.mp h1)
    omega
  · rw [if_neg h1]
    obtain ⟨k, hk, rfl⟩ := pk_lOf (fun z => h1 (cmp_lt.mpr z))
    by_cases h2 : 0 < lg_cmp (lN k) 18014398509481983
    · rw [if_pos h2]
      have h3 := (pk_lLT (a := 18014398509481983) (b := k) (by decide) hk).mp (cmp_gt.mp h2)
      exact ⟨fun _ hs => by have := (isS_lN (by omega)).mp hs; omega, fun h => absurd rfl h⟩
    · rw [if_neg h2]
      have h3 : ¬ 18014398509481983 < k := fun z => h2 (cmp_gt.mpr ((pk_lLT (a := 18014398509481983) (b := k) (by decide) hk).mpr z))
      exact ⟨fun h => absurd h (by decide), fun _ => (isS_lN (by omega)).mpr (by omega)⟩
theorem j0_set (x : Int64) : (j_X0_isSet x = 0 → ¬ isS x) ∧ (¬ j_X0_isSet x = 0 → isS x) := by
  unfold j_X0_isSet isS
  have h := cr_shr x ((54 : Int32).toInt64.toUInt64 &&& Int64.toUInt64 63) 54 (by decide)
  by_cases h1 : lg_cmp (x.toUInt64 >>> ((54 : Int32).toInt64.toUInt64 &&& Int64.toUInt64 63)).toInt64 0 = 0
  · rw [if_pos h1]
    exact ⟨fun z => absurd z (by decide), fun _ => h.mp (cmp_eq.mp h1)⟩
  · rw [if_neg h1]
    exact ⟨fun _ z => h1 (cmp_eq.mpr (h.mpr z)), fun z => absurd rfl z⟩
def j_shows (pf sf : Nat → Int32) (wh : Int) : Int32 := if wh = 0 then j_X8_melds pf - j_X8_runs pf else if wh = 1 then j_X8_runs pf else if wh = 2 then j_X8_shown pf else if wh = 3 then j_X8_stood sf else if wh = 4 then j_X8_worthShown pf else if wh = 5 then j_X8_longest pf else -1
theorem j_shows_no {pf sf : Nat → Int32} {wh : Int} (h : wh < 0 ∨ 5 < wh) : (-1 : Int32) = j_shows pf sf wh := by
  simp only [j_shows]
  rw [if_neg (by omega), if_neg (by omega), if_neg (by omega), if_neg (by omega), if_neg (by omega), if_neg (by omega)]
theorem js0 {pf sf : Nat → Int32} : j_shows pf sf 0 = j_X8_melds pf - j_X8_runs pf := by unfold j_shows; rw [if_pos rfl]
theorem js1 {pf sf : Nat → Int32} : j_shows pf sf 1 = j_X8_runs pf := by unfold j_shows; rw [if_neg (by decide), if_pos rfl]
theorem js2 {pf sf : Nat → Int32} : j_shows pf sf 2 = j_X8_shown pf := by unfold j_shows; rw [if_neg (by decide), if_neg (by decide), if_pos rfl]
theorem js3 {pf sf : Nat → Int32} : j_shows pf sf 3 = j_X8_stood sf := by unfold j_shows; rw [if_neg (by decide), if_neg (by decide), if_neg (by decide), if_pos rfl]
theorem js4 {pf sf : Nat → Int32} : j_shows pf sf 4 = j_X8_worthShown pf := by unfold j_shows; rw [if_neg (by decide), if_neg (by decide), if_neg (by decide), if_neg (by decide), if_pos rfl]
theorem js5 {pf sf : Nat → Int32} : j_shows pf sf 5 = j_X8_longest pf := by unfold j_shows; rw [if_neg (by decide), if_neg (by decide), if_neg (by decide), if_neg (by decide), if_neg (by decide), if_pos rfl]
def okOp (w : Int32) : Prop := ¬ w < 0 ∧ w ≤ 200
def j_hand (ig pl : Int32) (hf : Nat → Int64) (p : Int32) : Int32 × Int64 := if p < 0 then (1, -1) else if p ≤ 3 then (if ig = 0 then (4, -1) else if p < pl then (0, hf p.toNatClampNeg) else (1, -1)) else (1, -1)
def j_tell8 (ig py dr io wn tu la pl : Int32) (w : Int32) : Int32 × Int32 := if w < 0 then (1, -1) else if w ≤ 6 then (if ig = 0 then (4, -1) else (0, if w.toInt = 0 then py else if w.toInt = 1 then 54 - dr else if w.toInt = 2 then (if io = 0 then 0 else 1) else if w.toInt = 3 then wn else if w.toInt = 4 then tu else if w.toInt = 5 then la else pl)) else (1, -1)
def j_plr8 (ig pl : Int32) (hf : Nat → Int64) (of : Nat → Int32) (p w : Int32) : Int32 × Int32 := if w < 0 then (1, -1) else if w ≤ 2 then (if ig = 0 then (4, -1) else if p < 0 then (1, -1) else if p < pl then (0, if w = 0 then (if of p.toNatClampNeg = 0 then 0 else 1) else if w = 1 then j_X8_many (hf p.toNatClampNeg) else j_X8_worthAll (hf p.toNatClampNeg)) else (1, -1)) else (1, -1)
theorem hp_in4 {x : Int32} (h0 : ¬ x < 0) (h : x ≤ 3) : vp_in x 4 := by
  obtain ⟨j, hj, rfl⟩ := nI_of h0
  rw [show (3 : Int32) = nI 3 from rfl, nI_leI hj (by decide)] at h
  exact vp_in_nI (by omega) (by decide)
theorem hp_inP {x : Int32} {np : Nat} (h0 : ¬ x < 0) (h : x < nI np) (hn : np ≤ 4) : vp_in x 4 := by
  obtain ⟨j, hj, rfl⟩ := nI_of h0
  rw [nI_ltI hj (by omega)] at h
  exact vp_in_nI (by omega) (by decide)
set_option maxHeartbeats 4000000 in
set_option maxRecDepth 100000 in
theorem k_X8_ways (l : Launch) (D : va_G) (cI cJ cZ : ClassId) (sz : Nat) (m8 wa pa8 sta mo hea tha hd8 od8 cd8 opa osa : Nat) (st8 ig io op8 pl8 py wn tu la ps dr : Int32) (tb : Int64) (wf : Nat → Int64) (set : Int64)  : Met l yX8_ways wsX8_ways ({ frames := 3, cells := 0, slots := 0, locals := 79 } : Room) (va_Pc [.ref m8, .long set] (wM D cI cJ cZ sz [(m8, .inr (6, [.int st8, .ref wa, .ref pa8, .ref sta, .ref mo, .ref hea, .ref tha, .int ig, .int io, .int op8, .int pl8, .int py, .int wn, .int tu, .int la, .int ps, .ref hd8, .ref od8, .long tb, .ref cd8, .int dr, .ref opa, .ref osa])), (wa, .inl (cJ, 203520, .inr (.inl wf)))])) (va_Ql (fun (r : Int64) (u : (Int32) × (Nat → Int64)) => match u with | (st2, wf2) => ((isS set → st2 = 0 ∧ WaysEq set wf2 ∧ r = wf2 0) ∧ (¬ isS set → st2 = 1 ∧ r = -1 ∧ wf2 = wf))) (fun (u : (Int32) × (Nat → Int64)) t => match u with | (st2, wf2) => wB D (va_A [(m8, .inr (6, [.int st8, .ref wa, .ref pa8, .ref sta, .ref mo, .ref hea, .ref tha, .int ig, .int io, .int op8, .int pl8, .int py, .int wn, .int tu, .int la, .int ps, .ref hd8, .ref od8, .long tb, .ref cd8, .int dr, .ref opa, .ref osa])), (wa, .inl (cJ, 203520, .inr (.inl wf)))] sz) [(m8, .inr (6, [.int st2, .ref wa, .ref pa8, .ref sta, .ref mo, .ref hea, .ref tha, .int ig, .int io, .int op8, .int pl8, .int py, .int wn, .int tu, .int la, .int ps, .ref hd8, .ref od8, .long tb, .ref cd8, .int dr, .ref opa, .ref osa])), (wa, .inl (cJ, 203520, .inr (.inl wf2)))] t) (va_A [(m8, .inr (6, [.int st8, .ref wa, .ref pa8, .ref sta, .ref mo, .ref hea, .ref tha, .int ig, .int io, .int op8, .int pl8, .int py, .int wn, .int tu, .int la, .int ps, .ref hd8, .ref od8, .long tb, .ref cd8, .int dr, .ref opa, .ref osa])), (wa, .inl (cJ, 203520, .inr (.inl wf)))] sz)) 0 0 (va_A [(m8, .inr (6, [.int st8, .ref wa, .ref pa8, .ref sta, .ref mo, .ref hea, .ref tha, .int ig, .int io, .int op8, .int pl8, .int py, .int wn, .int tu, .int la, .int ps, .ref hd8, .ref od8, .long tb, .ref cd8, .int dr, .ref opa, .ref osa])), (wa, .inl (cJ, 203520, .inr (.inl wf)))] sz) := by
  refine Met.ofW (cc := cX8_ways) (maxL := 3) (ret := (some .long)) (by decide) rfl ?_
  intro p e s m args below meth c s₁ B hml hv
  obtain ⟨hargs, hsz, hP, ⟨hK, hN⟩, hD0⟩ := hv
  have hx := B.exec
  have hb := B.bytes
  have hr := B.returns
  have hlocks := B.notSynchronized
  have hts := atoms_spec (ws := wsX8_ways) B.pre
  have hown : s.vm.findClass RX8 = some m.cls := findClass_of_methodNamed B.named
  have k86 := hts (.methodLink RX8 86 yX8_isSet) (by decide +kernel)
  have k50 := hts (.fieldLink RX8 50 "RummyTableModel" "status" "I") (by decide +kernel)
  have iX8 : ∀ w ∈ wsX80, w ∈ wsX8_ways := by decide +kernel
  have k93 := hts (.methodLink RX8 93 yX8_count) (by decide +kernel)
  have k8 := hts (.fieldLink RX8 8 "RummyTableModel" "ways" "[J") (by decide +kernel)
  have k90 := hts (.methodLink RX8 90 yX8_none) (by decide +kernel)
  subst hsz
  have hD := hD0.self (sz := s.heap.size)
  generalize hAe : va_A [(m8, .inr (6, [.int st8, .ref wa, .ref pa8, .ref sta, .ref mo, .ref hea, .ref tha, .int ig, .int io, .int op8, .int pl8, .int py, .int wn, .int tu, .int la, .int ps, .ref hd8, .ref od8, .long tb, .ref cd8, .int dr, .ref opa, .ref osa])), (wa, .inl (cJ, 203520, .inr (.inl wf)))] s.heap.size = A at hD ⊢
  have hA : ∀ q : Nat, s.heap.size ≤ q → A q := fun q h => by rw [← hAe]; exact Or.inr h
  have hS : va_S A s.heap s.heap [] := va_S.rf
  rw [show entryFrame m args 3 = entryFrame m ([.ref m8, .long set] : List Value).toArray 3 from by rw [hargs]]
  have hl := lv_entry ([.ref m8, .long set]) (n := 3) (Nat.le_of_ble_eq_true rfl)
  rw [lg_entry_eq]
  generalize (lg_sl ([.ref m8, .long set]) ++ List.replicate (3 - (lg_sl ([.ref m8, .long set])).length) Slot.unset).toArray = ls at hl ⊢
  have hl : lv_has ls 3 [(0, .ref m8), (1, .long set)] := hl
  refine wQ (fun Q hQ => ?_)
  refine lv_lload_n hx hb dX8_ways_0 rfl (lv_at hl 1 rfl) ?_
  refine vp_callSi (W.runS (As := [.long set]) (rest := []) ⟨hx, hb, hml, hown, hts⟩ (k_X8_isSet l set ) (va_cwS 1 hts gX8_ways_X8_isSet rfl rfl rfl (by decide +kernel) ⟨Nat.le_of_ble_eq_true rfl, Nat.le_of_ble_eq_true rfl⟩) ⟨pS_fb, pS_pre⟩ rfl rfl hl.1 rfl (lv_room (Nat.le_of_ble_eq_true rfl)) dX8_ways_1 ⟨Nat.le_of_ble_eq_true rfl, Nat.le_of_ble_eq_true rfl⟩) (fun x1 hx1 => ?_)
  subst hx1
  refine lv_if_ne (tgt := 14) hx hb dX8_ways_4 (by decide) (fun c_4 => ?_) (fun c_4 => ?_)
  · have hset := (j8_set set).2 c_4
    refine lv_aload_n hx hb dX8_ways_14 rfl (lv_at hl 0 rfl) ?_
    refine lv_iconst (v := 0) hx hb dX8_ways_15 (by decide) ?_
    refine va_put (D := D) (ci := 6) (v := .int 0) (ty := .int) (C := RX8) (T := TX8) (N := 23) hx hb hts iX8 tyX8 tyX8_ok nmX8 hown hK hP hD hS 0 rfl rfl 0 (by decide) k50 (fun _ h9 => h9) rfl (by decide +kernel) rfl rfl (Nat.le_of_ble_eq_true rfl) dX8_ways_16 (fun H locs hP hD hS => ?_)
    have hP : va_P D vwCl [(m8, .inr (6, [.int 0, .ref wa, .ref pa8, .ref sta, .ref mo, .ref hea, .ref tha, .int ig, .int io, .int op8, .int pl8, .int py, .int wn, .int tu, .int la, .int ps, .ref hd8, .ref od8, .long tb, .ref cd8, .int dr, .ref opa, .ref osa])), (wa, .inl (cJ, 203520, .inr (.inl wf)))] H := hP
    have hD : va_D A [(m8, .inr (6, [.int 0, .ref wa, .ref pa8, .ref sta, .ref mo, .ref hea, .ref tha, .int ig, .int io, .int op8, .int pl8, .int py, .int wn, .int tu, .int la, .int ps, .ref hd8, .ref od8, .long tb, .ref cd8, .int dr, .ref opa, .ref osa])), (wa, .inl (cJ, 203520, .inr (.inl wf)))] := hD
    refine lv_aload_n hx hb dX8_ways_19 rfl (lv_at hl 0 rfl) ?_
    refine lv_lload_n hx hb dX8_ways_20 rfl (lv_at hl 1 rfl) ?_
    have hPc := hP.sub (ws' := [(m8, .inr (6, [.int 0, .ref wa, .ref pa8, .ref sta, .ref mo, .ref hea, .ref tha, .int ig, .int io, .int op8, .int pl8, .int py, .int wn, .int tu, .int la, .int ps, .ref hd8, .ref od8, .long tb, .ref cd8, .int dr, .ref opa, .ref osa])), (wa, .inl (cJ, 203520, .inr (.inl wf)))]) [0, 1] rfl
    have hDc := hD.sub (ws' := [(m8, .inr (6, [.int 0, .ref wa, .ref pa8, .ref sta, .ref mo, .ref hea, .ref tha, .int ig, .int io, .int op8, .int pl8, .int py, .int wn, .int tu, .int la, .int ps, .ref hd8, .ref od8, .long tb, .ref cd8, .int dr, .ref opa, .ref osa])), (wa, .inl (cJ, 203520, .inr (.inl wf)))]) [0, 1] (by decide) rfl
    have hFc := va_free (wc := [(m8, .inr (6, [.int 0, .ref wa, .ref pa8, .ref sta, .ref mo, .ref hea, .ref tha, .int ig, .int io, .int op8, .int pl8, .int py, .int wn, .int tu, .int la, .int ps, .ref hd8, .ref od8, .long tb, .ref cd8, .int dr, .ref opa, .ref osa])), (wa, .inl (cJ, 203520, .inr (.inl wf)))]) hD hS hA [0, 1] rfl
    refine va_callv (va_runV (As := [.long set]) (rest := []) ⟨hx, hb, hml, hown, hts⟩ (k_X8_count l D cI cJ cZ H.size m8 wa pa8 sta mo hea tha hd8 od8 cd8 opa osa 0 ig io op8 pl8 py wn tu la ps dr tb wf set (hset)) (cwV 1 hts gX8_ways_X8_count rfl rfl rfl (by decide +kernel) ⟨Nat.le_of_ble_eq_true rfl, Nat.le_of_ble_eq_true rfl⟩) ⟨wM_fb, va_recv hK hPc (ci := 6) (q0 := 0) rfl rfl, wM_pre hPc ⟨hK, hN⟩ hDc⟩ rfl rfl hl.1 rfl (lv_room (Nat.le_of_ble_eq_true rfl)) dX8_ways_21 ⟨Nat.le_of_ble_eq_true rfl, Nat.le_of_ble_eq_true rfl⟩) hS (fun q _ h => hFc q h) hFc (fun u t H1 locs ht hvm hx21 hB hz1 hk1 hS => ?_)
    obtain ⟨wf2_x21, rfl⟩ : ∃ z, z = u := ⟨_, rfl⟩
    obtain ⟨hP1, hD1⟩ := hB
    rw [ht] at hP1
    obtain ⟨hP, hD⟩ := va_join (wr := []) (w1 := [(m8, .inr (6, [.int 0, .ref wa, .ref pa8, .ref sta, .ref mo, .ref hea, .ref tha, .int ig, .int io, .int op8, .int pl8, .int py, .int wn, .int tu, .int la, .int ps, .ref hd8, .ref od8, .long tb, .ref cd8, .int dr, .ref opa, .ref osa])), (wa, .inl (cJ, 203520, .inr (.inl wf2_x21)))]) hP hD [0, 1] [] rfl rfl (by decide) (by decide) hk1 hFc hP1 hD1
    generalize H1 = H at hP hS ⊢
    have hP : va_P D vwCl [(m8, .inr (6, [.int 0, .ref wa, .ref pa8, .ref sta, .ref mo, .ref hea, .ref tha, .int ig, .int io, .int op8, .int pl8, .int py, .int wn, .int tu, .int la, .int ps, .ref hd8, .ref od8, .long tb, .ref cd8, .int dr, .ref opa, .ref osa])), (wa, .inl (cJ, 203520, .inr (.inl wf2_x21)))] H := hP
    have hD : va_D A [(m8, .inr (6, [.int 0, .ref wa, .ref pa8, .ref sta, .ref mo, .ref hea, .ref tha, .int ig, .int io, .int op8, .int pl8, .int py, .int wn, .int tu, .int la, .int ps, .ref hd8, .ref od8, .long tb, .ref cd8, .int dr, .ref opa, .ref osa])), (wa, .inl (cJ, 203520, .inr (.inl wf2_x21)))] := hD
    try dsimp only at hx21
    refine lv_aload_n hx hb dX8_ways_24 rfl (lv_at hl 0 rfl) ?_
    refine va_get (D := D) (ci := 6) (v := .ref wa) (C := RX8) (T := TX8) (N := 23) hx hb hts iX8 hown hK hP 0 rfl rfl 1 (by decide) k8 (fun _ h9 => h9) rfl dX8_ways_25 ?_
    refine lv_iconst (v := 0) hx hb dX8_ways_28 (by decide) ?_
    refine va_lald hx hb hK hP 1 1 rfl rfl (vp_in_nI (n := 0) (by decide) (by decide)) dX8_ways_29 ?_
    rw [← hQ]
    have hP9 := hP.sub (ws' := [(m8, .inr (6, [.int 0, .ref wa, .ref pa8, .ref sta, .ref mo, .ref hea, .ref tha, .int ig, .int io, .int op8, .int pl8, .int py, .int wn, .int tu, .int la, .int ps, .ref hd8, .ref od8, .long tb, .ref cd8, .int dr, .ref opa, .ref osa])), (wa, .inl (cJ, 203520, .inr (.inl wf2_x21)))]) [0, 1] rfl
    have hD9 := hD.sub (ws' := [(m8, .inr (6, [.int 0, .ref wa, .ref pa8, .ref sta, .ref mo, .ref hea, .ref tha, .int ig, .int io, .int op8, .int pl8, .int py, .int wn, .int tu, .int la, .int ps, .ref hd8, .ref od8, .long tb, .ref cd8, .int dr, .ref opa, .ref osa])), (wa, .inl (cJ, 203520, .inr (.inl wf2_x21)))]) [0, 1] (by decide) rfl
    exact W.lret (v := wf2_x21 (0 : Int32).toNatClampNeg) hx hb hr (fun t ht hW => ⟨⟨(wf2_x21 (0 : Int32).toNatClampNeg), (0, wf2_x21), rfl, ⟨fun _ => ⟨rfl, hx21, rfl⟩, fun z => absurd hset z⟩, (by show wB D A _ t; exact ⟨by rw [ht]; exact hP9, hD9⟩)⟩, hS.F ht⟩) hS.2.2 dX8_ways_30
  · have hset := (j8_set set).1 c_4
    refine lv_aload_n hx hb dX8_ways_7 rfl (lv_at hl 0 rfl) ?_
    refine lv_iconst (v := 1) hx hb dX8_ways_8 (by decide) ?_
    have hPc := hP.sub (ws' := [(m8, .inr (6, [.int st8, .ref wa, .ref pa8, .ref sta, .ref mo, .ref hea, .ref tha, .int ig, .int io, .int op8, .int pl8, .int py, .int wn, .int tu, .int la, .int ps, .ref hd8, .ref od8, .long tb, .ref cd8, .int dr, .ref opa, .ref osa]))]) [0] rfl
    have hDc := hD.sub (ws' := [(m8, .inr (6, [.int st8, .ref wa, .ref pa8, .ref sta, .ref mo, .ref hea, .ref tha, .int ig, .int io, .int op8, .int pl8, .int py, .int wn, .int tu, .int la, .int ps, .ref hd8, .ref od8, .long tb, .ref cd8, .int dr, .ref opa, .ref osa]))]) [0] (by decide) rfl
    have hFc := va_free (wc := [(m8, .inr (6, [.int st8, .ref wa, .ref pa8, .ref sta, .ref mo, .ref hea, .ref tha, .int ig, .int io, .int op8, .int pl8, .int py, .int wn, .int tu, .int la, .int ps, .ref hd8, .ref od8, .long tb, .ref cd8, .int dr, .ref opa, .ref osa]))]) hD hS hA [0] rfl
    refine va_calli (va_runV (As := [.int 1]) (rest := []) ⟨hx, hb, hml, hown, hts⟩ (k_X8_none l D cI cJ cZ s.heap.size m8 wa pa8 sta mo hea tha hd8 od8 cd8 opa osa st8 ig io op8 pl8 py wn tu la ps dr tb 1 ) (cwV 1 hts gX8_ways_X8_none rfl rfl rfl (by decide +kernel) ⟨Nat.le_of_ble_eq_true rfl, Nat.le_of_ble_eq_true rfl⟩) ⟨wM_fb, va_recv hK hPc (ci := 6) (q0 := 0) rfl rfl, wM_pre hPc ⟨hK, hN⟩ hDc⟩ rfl rfl hl.1 rfl (lv_room (Nat.le_of_ble_eq_true rfl)) dX8_ways_9 ⟨Nat.le_of_ble_eq_true rfl, Nat.le_of_ble_eq_true rfl⟩) hS (fun q _ h => hFc q h) hFc (fun x9 u t H1 locs ht hvm hx9 hB hz1 hk1 hS => ?_)
    obtain ⟨hP1, hD1⟩ := hB
    rw [ht] at hP1
    obtain ⟨hP, hD⟩ := va_join (wr := [(wa, .inl (cJ, 203520, .inr (.inl wf)))]) (w1 := [(m8, .inr (6, [.int 1, .ref wa, .ref pa8, .ref sta, .ref mo, .ref hea, .ref tha, .int ig, .int io, .int op8, .int pl8, .int py, .int wn, .int tu, .int la, .int ps, .ref hd8, .ref od8, .long tb, .ref cd8, .int dr, .ref opa, .ref osa]))]) hP hD [0] [1] rfl rfl (by decide) (by decide) hk1 hFc hP1 hD1
    generalize H1 = H at hP hS ⊢
    have hP : va_P D vwCl [(wa, .inl (cJ, 203520, .inr (.inl wf))), (m8, .inr (6, [.int 1, .ref wa, .ref pa8, .ref sta, .ref mo, .ref hea, .ref tha, .int ig, .int io, .int op8, .int pl8, .int py, .int wn, .int tu, .int la, .int ps, .ref hd8, .ref od8, .long tb, .ref cd8, .int dr, .ref opa, .ref osa]))] H := hP
    have hD : va_D A [(wa, .inl (cJ, 203520, .inr (.inl wf))), (m8, .inr (6, [.int 1, .ref wa, .ref pa8, .ref sta, .ref mo, .ref hea, .ref tha, .int ig, .int io, .int op8, .int pl8, .int py, .int wn, .int tu, .int la, .int ps, .ref hd8, .ref od8, .long tb, .ref cd8, .int dr, .ref opa, .ref osa]))] := hD
    try dsimp only at hx9
    refine lv_i2l hx hb dX8_ways_12 rfl ?_
    rw [← hQ]
    have hP9 := hP.sub (ws' := [(m8, .inr (6, [.int 1, .ref wa, .ref pa8, .ref sta, .ref mo, .ref hea, .ref tha, .int ig, .int io, .int op8, .int pl8, .int py, .int wn, .int tu, .int la, .int ps, .ref hd8, .ref od8, .long tb, .ref cd8, .int dr, .ref opa, .ref osa])), (wa, .inl (cJ, 203520, .inr (.inl wf)))]) [1, 0] rfl
    have hD9 := hD.sub (ws' := [(m8, .inr (6, [.int 1, .ref wa, .ref pa8, .ref sta, .ref mo, .ref hea, .ref tha, .int ig, .int io, .int op8, .int pl8, .int py, .int wn, .int tu, .int la, .int ps, .ref hd8, .ref od8, .long tb, .ref cd8, .int dr, .ref opa, .ref osa])), (wa, .inl (cJ, 203520, .inr (.inl wf)))]) [1, 0] (by decide) rfl
    exact W.lret (v := x9.toInt64) hx hb hr (fun t ht hW => ⟨⟨x9.toInt64, (1, wf), rfl, ⟨fun z => absurd z hset, fun _ => ⟨rfl, by rw [hx9]; rfl, rfl⟩⟩, (by show wB D A _ t; exact ⟨by rw [ht]; exact hP9, hD9⟩)⟩, hS.F ht⟩) hS.2.2 dX8_ways_13

set_option maxHeartbeats 4000000 in
set_option maxRecDepth 100000 in
theorem k_X8_layout (l : Launch) (D : va_G) (cI cJ cZ : ClassId) (sz : Nat) (m8 wa pa8 sta mo hea tha hd8 od8 cd8 opa osa : Nat) (st8 ig io op8 pl8 py wn tu la ps dr : Int32) (tb : Int64) (wf : Nat → Int64) (pf8 sf8 : Nat → Int32) (set : Int64)  : Met l yX8_layout wsX8_layout ({ frames := 4, cells := 0, slots := 0, locals := 106 } : Room) (va_Pc [.ref m8, .long set] (wM D cI cJ cZ sz [(m8, .inr (6, [.int st8, .ref wa, .ref pa8, .ref sta, .ref mo, .ref hea, .ref tha, .int ig, .int io, .int op8, .int pl8, .int py, .int wn, .int tu, .int la, .int ps, .ref hd8, .ref od8, .long tb, .ref cd8, .int dr, .ref opa, .ref osa])), (wa, .inl (cJ, 203520, .inr (.inl wf))), (pa8, .inl (cI, 52, .inl pf8)), (sta, .inl (cZ, 52, .inl sf8))])) (va_Qi (fun (r : Int32) (u : (Int32) × (Nat → Int64) × (Nat → Int32) × (Nat → Int32)) => match u with | (st2, wf2, pf2, sf2) => ((¬ isS set → st2 = 1 ∧ r = -1 ∧ wf2 = wf ∧ pf2 = pf8 ∧ sf2 = sf8) ∧ (isS set → WaysEq set wf2 ∧ (wf2 0 = 0 → st2 = 3 ∧ r = -1 ∧ pf2 = pf8 ∧ sf2 = sf8) ∧ (¬ wf2 0 = 0 → st2 = 0 ∧ r = j_X8_melds pf2 ∧ ∃ mk : Nat → Nat, mk 0 = 0 ∧ ∀ k, k < 52 → GR set wf2 pf2 sf2 mk k)))) (fun (u : (Int32) × (Nat → Int64) × (Nat → Int32) × (Nat → Int32)) t => match u with | (st2, wf2, pf2, sf2) => wB D (va_A [(m8, .inr (6, [.int st8, .ref wa, .ref pa8, .ref sta, .ref mo, .ref hea, .ref tha, .int ig, .int io, .int op8, .int pl8, .int py, .int wn, .int tu, .int la, .int ps, .ref hd8, .ref od8, .long tb, .ref cd8, .int dr, .ref opa, .ref osa])), (wa, .inl (cJ, 203520, .inr (.inl wf))), (pa8, .inl (cI, 52, .inl pf8)), (sta, .inl (cZ, 52, .inl sf8))] sz) [(m8, .inr (6, [.int st2, .ref wa, .ref pa8, .ref sta, .ref mo, .ref hea, .ref tha, .int ig, .int io, .int op8, .int pl8, .int py, .int wn, .int tu, .int la, .int ps, .ref hd8, .ref od8, .long tb, .ref cd8, .int dr, .ref opa, .ref osa])), (wa, .inl (cJ, 203520, .inr (.inl wf2))), (pa8, .inl (cI, 52, .inl pf2)), (sta, .inl (cZ, 52, .inl sf2))] t) (va_A [(m8, .inr (6, [.int st8, .ref wa, .ref pa8, .ref sta, .ref mo, .ref hea, .ref tha, .int ig, .int io, .int op8, .int pl8, .int py, .int wn, .int tu, .int la, .int ps, .ref hd8, .ref od8, .long tb, .ref cd8, .int dr, .ref opa, .ref osa])), (wa, .inl (cJ, 203520, .inr (.inl wf))), (pa8, .inl (cI, 52, .inl pf8)), (sta, .inl (cZ, 52, .inl sf8))] sz)) 0 0 (va_A [(m8, .inr (6, [.int st8, .ref wa, .ref pa8, .ref sta, .ref mo, .ref hea, .ref tha, .int ig, .int io, .int op8, .int pl8, .int py, .int wn, .int tu, .int la, .int ps, .ref hd8, .ref od8, .long tb, .ref cd8, .int dr, .ref opa, .ref osa])), (wa, .inl (cJ, 203520, .inr (.inl wf))), (pa8, .inl (cI, 52, .inl pf8)), (sta, .inl (cZ, 52, .inl sf8))] sz) := by
  refine Met.ofW (cc := cX8_layout) (maxL := 3) (ret := (some .int)) (by decide) rfl ?_
  intro p e s m args below meth c s₁ B hml hv
  obtain ⟨hargs, hsz, hP, ⟨hK, hN⟩, hD0⟩ := hv
  have hx := B.exec
  have hb := B.bytes
  have hr := B.returns
  have hlocks := B.notSynchronized
  have hts := atoms_spec (ws := wsX8_layout) B.pre
  have hown : s.vm.findClass RX8 = some m.cls := findClass_of_methodNamed B.named
  have k86 := hts (.methodLink RX8 86 yX8_isSet) (by decide +kernel)
  have k97 := hts (.methodLink RX8 97 yX8_keeps) (by decide +kernel)
  have k50 := hts (.fieldLink RX8 50 "RummyTableModel" "status" "I") (by decide +kernel)
  have iX8 : ∀ w ∈ wsX80, w ∈ wsX8_layout := by decide +kernel
  have k100 := hts (.methodLink RX8 100 yX8_melds) (by decide +kernel)
  have k90 := hts (.methodLink RX8 90 yX8_none) (by decide +kernel)
  subst hsz
  have hD := hD0.self (sz := s.heap.size)
  generalize hAe : va_A [(m8, .inr (6, [.int st8, .ref wa, .ref pa8, .ref sta, .ref mo, .ref hea, .ref tha, .int ig, .int io, .int op8, .int pl8, .int py, .int wn, .int tu, .int la, .int ps, .ref hd8, .ref od8, .long tb, .ref cd8, .int dr, .ref opa, .ref osa])), (wa, .inl (cJ, 203520, .inr (.inl wf))), (pa8, .inl (cI, 52, .inl pf8)), (sta, .inl (cZ, 52, .inl sf8))] s.heap.size = A at hD ⊢
  have hA : ∀ q : Nat, s.heap.size ≤ q → A q := fun q h => by rw [← hAe]; exact Or.inr h
  have hS : va_S A s.heap s.heap [] := va_S.rf
  rw [show entryFrame m args 3 = entryFrame m ([.ref m8, .long set] : List Value).toArray 3 from by rw [hargs]]
  have hl := lv_entry ([.ref m8, .long set]) (n := 3) (Nat.le_of_ble_eq_true rfl)
  rw [lg_entry_eq]
  generalize (lg_sl ([.ref m8, .long set]) ++ List.replicate (3 - (lg_sl ([.ref m8, .long set])).length) Slot.unset).toArray = ls at hl ⊢
  have hl : lv_has ls 3 [(0, .ref m8), (1, .long set)] := hl
  refine wQ (fun Q hQ => ?_)
  refine lv_lload_n hx hb dX8_layout_0 rfl (lv_at hl 1 rfl) ?_
  refine vp_callSi (W.runS (As := [.long set]) (rest := []) ⟨hx, hb, hml, hown, hts⟩ (k_X8_isSet l set ) (va_cwS 1 hts gX8_layout_X8_isSet rfl rfl rfl (by decide +kernel) ⟨Nat.le_of_ble_eq_true rfl, Nat.le_of_ble_eq_true rfl⟩) ⟨pS_fb, pS_pre⟩ rfl rfl hl.1 rfl (lv_room (Nat.le_of_ble_eq_true rfl)) dX8_layout_1 ⟨Nat.le_of_ble_eq_true rfl, Nat.le_of_ble_eq_true rfl⟩) (fun x1 hx1 => ?_)
  subst hx1
  refine lv_if_ne (tgt := 13) hx hb dX8_layout_4 (by decide) (fun c_4 => ?_) (fun c_4 => ?_)
  · have hset := (j8_set set).2 c_4
    refine lv_aload_n hx hb dX8_layout_13 rfl (lv_at hl 0 rfl) ?_
    refine lv_lload_n hx hb dX8_layout_14 rfl (lv_at hl 1 rfl) ?_
    have hPc := hP.sub (ws' := [(m8, .inr (6, [.int st8, .ref wa, .ref pa8, .ref sta, .ref mo, .ref hea, .ref tha, .int ig, .int io, .int op8, .int pl8, .int py, .int wn, .int tu, .int la, .int ps, .ref hd8, .ref od8, .long tb, .ref cd8, .int dr, .ref opa, .ref osa])), (wa, .inl (cJ, 203520, .inr (.inl wf))), (pa8, .inl (cI, 52, .inl pf8)), (sta, .inl (cZ, 52, .inl sf8))]) [0, 1, 2, 3] rfl
    have hDc := hD.sub (ws' := [(m8, .inr (6, [.int st8, .ref wa, .ref pa8, .ref sta, .ref mo, .ref hea, .ref tha, .int ig, .int io, .int op8, .int pl8, .int py, .int wn, .int tu, .int la, .int ps, .ref hd8, .ref od8, .long tb, .ref cd8, .int dr, .ref opa, .ref osa])), (wa, .inl (cJ, 203520, .inr (.inl wf))), (pa8, .inl (cI, 52, .inl pf8)), (sta, .inl (cZ, 52, .inl sf8))]) [0, 1, 2, 3] (by decide) rfl
    have hFc := va_free (wc := [(m8, .inr (6, [.int st8, .ref wa, .ref pa8, .ref sta, .ref mo, .ref hea, .ref tha, .int ig, .int io, .int op8, .int pl8, .int py, .int wn, .int tu, .int la, .int ps, .ref hd8, .ref od8, .long tb, .ref cd8, .int dr, .ref opa, .ref osa])), (wa, .inl (cJ, 203520, .inr (.inl wf))), (pa8, .inl (cI, 52, .inl pf8)), (sta, .inl (cZ, 52, .inl sf8))]) hD hS hA [0, 1, 2, 3] rfl
    refine va_calli (va_runV (As := [.long set]) (rest := []) ⟨hx, hb, hml, hown, hts⟩ (k_X8_keeps l D cI cJ cZ s.heap.size m8 wa pa8 sta mo hea tha hd8 od8 cd8 opa osa st8 ig io op8 pl8 py wn tu la ps dr tb wf pf8 sf8 set (hset)) (cwV 1 hts gX8_layout_X8_keeps rfl rfl rfl (by decide +kernel) ⟨Nat.le_of_ble_eq_true rfl, Nat.le_of_ble_eq_true rfl⟩) ⟨wM_fb, va_recv hK hPc (ci := 6) (q0 := 0) rfl rfl, wM_pre hPc ⟨hK, hN⟩ hDc⟩ rfl rfl hl.1 rfl (lv_room (Nat.le_of_ble_eq_true rfl)) dX8_layout_15 ⟨Nat.le_of_ble_eq_true rfl, Nat.le_of_ble_eq_true rfl⟩) hS (fun q _ h => hFc q h) hFc (fun x15 u t H1 locs ht hvm hx15 hB hz1 hk1 hS => ?_)
    obtain ⟨wf2_x15, pf2_x15, sf2_x15⟩ := u
    obtain ⟨hP1, hD1⟩ := hB
    rw [ht] at hP1
    obtain ⟨hP, hD⟩ := va_join (wr := []) (w1 := [(m8, .inr (6, [.int st8, .ref wa, .ref pa8, .ref sta, .ref mo, .ref hea, .ref tha, .int ig, .int io, .int op8, .int pl8, .int py, .int wn, .int tu, .int la, .int ps, .ref hd8, .ref od8, .long tb, .ref cd8, .int dr, .ref opa, .ref osa])), (wa, .inl (cJ, 203520, .inr (.inl wf2_x15))), (pa8, .inl (cI, 52, .inl pf2_x15)), (sta, .inl (cZ, 52, .inl sf2_x15))]) hP hD [0, 1, 2, 3] [] rfl rfl (by decide) (by decide) hk1 hFc hP1 hD1
    generalize H1 = H at hP hS ⊢
    have hP : va_P D vwCl [(m8, .inr (6, [.int st8, .ref wa, .ref pa8, .ref sta, .ref mo, .ref hea, .ref tha, .int ig, .int io, .int op8, .int pl8, .int py, .int wn, .int tu, .int la, .int ps, .ref hd8, .ref od8, .long tb, .ref cd8, .int dr, .ref opa, .ref osa])), (wa, .inl (cJ, 203520, .inr (.inl wf2_x15))), (pa8, .inl (cI, 52, .inl pf2_x15)), (sta, .inl (cZ, 52, .inl sf2_x15))] H := hP
    have hD : va_D A [(m8, .inr (6, [.int st8, .ref wa, .ref pa8, .ref sta, .ref mo, .ref hea, .ref tha, .int ig, .int io, .int op8, .int pl8, .int py, .int wn, .int tu, .int la, .int ps, .ref hd8, .ref od8, .long tb, .ref cd8, .int dr, .ref opa, .ref osa])), (wa, .inl (cJ, 203520, .inr (.inl wf2_x15))), (pa8, .inl (cI, 52, .inl pf2_x15)), (sta, .inl (cZ, 52, .inl sf2_x15))] := hD
    try dsimp only at hx15
    refine lv_if_ne (tgt := 27) hx hb dX8_layout_18 (by decide) (fun c_18 => ?_) (fun c_18 => ?_)
    · have hw0 : ¬ wf2_x15 0 = 0 := fun z => c_18 (by rw [hx15.1, if_pos z])
      refine lv_aload_n hx hb dX8_layout_27 rfl (lv_at hl 0 rfl) ?_
      refine lv_iconst (v := 0) hx hb dX8_layout_28 (by decide) ?_
      refine va_put (D := D) (ci := 6) (v := .int 0) (ty := .int) (C := RX8) (T := TX8) (N := 23) hx hb hts iX8 tyX8 tyX8_ok nmX8 hown hK hP hD hS 0 rfl rfl 0 (by decide) k50 (fun _ h9 => h9) rfl (by decide +kernel) rfl rfl (Nat.le_of_ble_eq_true rfl) dX8_layout_29 (fun H locs hP hD hS => ?_)
      have hP : va_P D vwCl [(m8, .inr (6, [.int 0, .ref wa, .ref pa8, .ref sta, .ref mo, .ref hea, .ref tha, .int ig, .int io, .int op8, .int pl8, .int py, .int wn, .int tu, .int la, .int ps, .ref hd8, .ref od8, .long tb, .ref cd8, .int dr, .ref opa, .ref osa])), (wa, .inl (cJ, 203520, .inr (.inl wf2_x15))), (pa8, .inl (cI, 52, .inl pf2_x15)), (sta, .inl (cZ, 52, .inl sf2_x15))] H := hP
      have hD : va_D A [(m8, .inr (6, [.int 0, .ref wa, .ref pa8, .ref sta, .ref mo, .ref hea, .ref tha, .int ig, .int io, .int op8, .int pl8, .int py, .int wn, .int tu, .int la, .int ps, .ref hd8, .ref od8, .long tb, .ref cd8, .int dr, .ref opa, .ref osa])), (wa, .inl (cJ, 203520, .inr (.inl wf2_x15))), (pa8, .inl (cI, 52, .inl pf2_x15)), (sta, .inl (cZ, 52, .inl sf2_x15))] := hD
      refine lv_aload_n hx hb dX8_layout_32 rfl (lv_at hl 0 rfl) ?_
      have hPc := hP.sub (ws' := [(m8, .inr (6, [.int 0, .ref wa, .ref pa8, .ref sta, .ref mo, .ref hea, .ref tha, .int ig, .int io, .int op8, .int pl8, .int py, .int wn, .int tu, .int la, .int ps, .ref hd8, .ref od8, .long tb, .ref cd8, .int dr, .ref opa, .ref osa])), (pa8, .inl (cI, 52, .inl pf2_x15))]) [0, 2] rfl
      refine vp_callSi (W.runV (As := []) (rest := []) ⟨hx, hb, hml, hown, hts⟩ (k_X8_melds l D cI cJ cZ m8 wa pa8 sta mo hea tha hd8 od8 cd8 opa osa 0 ig io op8 pl8 py wn tu la ps dr tb pf2_x15 ) (cwV 0 hts gX8_layout_X8_melds rfl rfl rfl (by decide +kernel) ⟨Nat.le_of_ble_eq_true rfl, Nat.le_of_ble_eq_true rfl⟩) ⟨wR_fb, va_recv hK hPc (ci := 6) (q0 := 0) rfl rfl, wR_pre hPc ⟨hK, hN⟩⟩ rfl rfl hl.1 rfl (lv_room (Nat.le_of_ble_eq_true rfl)) dX8_layout_33 ⟨Nat.le_of_ble_eq_true rfl, Nat.le_of_ble_eq_true rfl⟩) (fun x33 hx33 => ?_)
      subst hx33
      rw [← hQ]
      have hP9 := hP.sub (ws' := [(m8, .inr (6, [.int 0, .ref wa, .ref pa8, .ref sta, .ref mo, .ref hea, .ref tha, .int ig, .int io, .int op8, .int pl8, .int py, .int wn, .int tu, .int la, .int ps, .ref hd8, .ref od8, .long tb, .ref cd8, .int dr, .ref opa, .ref osa])), (wa, .inl (cJ, 203520, .inr (.inl wf2_x15))), (pa8, .inl (cI, 52, .inl pf2_x15)), (sta, .inl (cZ, 52, .inl sf2_x15))]) [0, 1, 2, 3] rfl
      have hD9 := hD.sub (ws' := [(m8, .inr (6, [.int 0, .ref wa, .ref pa8, .ref sta, .ref mo, .ref hea, .ref tha, .int ig, .int io, .int op8, .int pl8, .int py, .int wn, .int tu, .int la, .int ps, .ref hd8, .ref od8, .long tb, .ref cd8, .int dr, .ref opa, .ref osa])), (wa, .inl (cJ, 203520, .inr (.inl wf2_x15))), (pa8, .inl (cI, 52, .inl pf2_x15)), (sta, .inl (cZ, 52, .inl sf2_x15))]) [0, 1, 2, 3] (by decide) rfl
      exact W.iret (v := j_X8_melds pf2_x15) hx hb hr (fun t ht hW => ⟨⟨(j_X8_melds pf2_x15), (0, wf2_x15, pf2_x15, sf2_x15), rfl, ⟨fun z => absurd hset z, fun _ => ⟨hx15.2.1, fun z => absurd z hw0, fun _ => ⟨rfl, rfl, hx15.2.2.2 hw0⟩⟩⟩, (by show wB D A _ t; exact ⟨by rw [ht]; exact hP9, hD9⟩)⟩, hS.F ht⟩) hS.2.2 dX8_layout_36
    · have hw0 : wf2_x15 0 = 0 := by by_cases z : wf2_x15 0 = 0; exact z; exact absurd (hx15.1.symm.trans c_18) (by rw [if_neg z]; decide)
      refine lv_aload_n hx hb dX8_layout_21 rfl (lv_at hl 0 rfl) ?_
      refine lv_iconst (v := 3) hx hb dX8_layout_22 (by decide) ?_
      have hPc := hP.sub (ws' := [(m8, .inr (6, [.int st8, .ref wa, .ref pa8, .ref sta, .ref mo, .ref hea, .ref tha, .int ig, .int io, .int op8, .int pl8, .int py, .int wn, .int tu, .int la, .int ps, .ref hd8, .ref od8, .long tb, .ref cd8, .int dr, .ref opa, .ref osa]))]) [0] rfl
      have hDc := hD.sub (ws' := [(m8, .inr (6, [.int st8, .ref wa, .ref pa8, .ref sta, .ref mo, .ref hea, .ref tha, .int ig, .int io, .int op8, .int pl8, .int py, .int wn, .int tu, .int la, .int ps, .ref hd8, .ref od8, .long tb, .ref cd8, .int dr, .ref opa, .ref osa]))]) [0] (by decide) rfl
      have hFc := va_free (wc := [(m8, .inr (6, [.int st8, .ref wa, .ref pa8, .ref sta, .ref mo, .ref hea, .ref tha, .int ig, .int io, .int op8, .int pl8, .int py, .int wn, .int tu, .int la, .int ps, .ref hd8, .ref od8, .long tb, .ref cd8, .int dr, .ref opa, .ref osa]))]) hD hS hA [0] rfl
      refine va_calli (va_runV (As := [.int 3]) (rest := []) ⟨hx, hb, hml, hown, hts⟩ (k_X8_none l D cI cJ cZ H.size m8 wa pa8 sta mo hea tha hd8 od8 cd8 opa osa st8 ig io op8 pl8 py wn tu la ps dr tb 3 ) (cwV 1 hts gX8_layout_X8_none rfl rfl rfl (by decide +kernel) ⟨Nat.le_of_ble_eq_true rfl, Nat.le_of_ble_eq_true rfl⟩) ⟨wM_fb, va_recv hK hPc (ci := 6) (q0 := 0) rfl rfl, wM_pre hPc ⟨hK, hN⟩ hDc⟩ rfl rfl hl.1 rfl (lv_room (Nat.le_of_ble_eq_true rfl)) dX8_layout_23 ⟨Nat.le_of_ble_eq_true rfl, Nat.le_of_ble_eq_true rfl⟩) hS (fun q _ h => hFc q h) hFc (fun x23 u t H1 locs ht hvm hx23 hB hz1 hk1 hS => ?_)
      obtain ⟨hP1, hD1⟩ := hB
      rw [ht] at hP1
      obtain ⟨hP, hD⟩ := va_join (wr := [(wa, .inl (cJ, 203520, .inr (.inl wf2_x15))), (pa8, .inl (cI, 52, .inl pf2_x15)), (sta, .inl (cZ, 52, .inl sf2_x15))]) (w1 := [(m8, .inr (6, [.int 3, .ref wa, .ref pa8, .ref sta, .ref mo, .ref hea, .ref tha, .int ig, .int io, .int op8, .int pl8, .int py, .int wn, .int tu, .int la, .int ps, .ref hd8, .ref od8, .long tb, .ref cd8, .int dr, .ref opa, .ref osa]))]) hP hD [0] [1, 2, 3] rfl rfl (by decide) (by decide) hk1 hFc hP1 hD1
      generalize H1 = H at hP hS ⊢
      have hP : va_P D vwCl [(wa, .inl (cJ, 203520, .inr (.inl wf2_x15))), (pa8, .inl (cI, 52, .inl pf2_x15)), (sta, .inl (cZ, 52, .inl sf2_x15)), (m8, .inr (6, [.int 3, .ref wa, .ref pa8, .ref sta, .ref mo, .ref hea, .ref tha, .int ig, .int io, .int op8, .int pl8, .int py, .int wn, .int tu, .int la, .int ps, .ref hd8, .ref od8, .long tb, .ref cd8, .int dr, .ref opa, .ref osa]))] H := hP
      have hD : va_D A [(wa, .inl (cJ, 203520, .inr (.inl wf2_x15))), (pa8, .inl (cI, 52, .inl pf2_x15)), (sta, .inl (cZ, 52, .inl sf2_x15)), (m8, .inr (6, [.int 3, .ref wa, .ref pa8, .ref sta, .ref mo, .ref hea, .ref tha, .int ig, .int io, .int op8, .int pl8, .int py, .int wn, .int tu, .int la, .int ps, .ref hd8, .ref od8, .long tb, .ref cd8, .int dr, .ref opa, .ref osa]))] := hD
      try dsimp only at hx23
      rw [← hQ]
      have hP9 := hP.sub (ws' := [(m8, .inr (6, [.int 3, .ref wa, .ref pa8, .ref sta, .ref mo, .ref hea, .ref tha, .int ig, .int io, .int op8, .int pl8, .int py, .int wn, .int tu, .int la, .int ps, .ref hd8, .ref od8, .long tb, .ref cd8, .int dr, .ref opa, .ref osa])), (wa, .inl (cJ, 203520, .inr (.inl wf2_x15))), (pa8, .inl (cI, 52, .inl pf2_x15)), (sta, .inl (cZ, 52, .inl sf2_x15))]) [3, 0, 1, 2] rfl
      have hD9 := hD.sub (ws' := [(m8, .inr (6, [.int 3, .ref wa, .ref pa8, .ref sta, .ref mo, .ref hea, .ref tha, .int ig, .int io, .int op8, .int pl8, .int py, .int wn, .int tu, .int la, .int ps, .ref hd8, .ref od8, .long tb, .ref cd8, .int dr, .ref opa, .ref osa])), (wa, .inl (cJ, 203520, .inr (.inl wf2_x15))), (pa8, .inl (cI, 52, .inl pf2_x15)), (sta, .inl (cZ, 52, .inl sf2_x15))]) [3, 0, 1, 2] (by decide) rfl
      exact W.iret (v := x23) hx hb hr (fun t ht hW => ⟨⟨x23, (3, wf2_x15, pf2_x15, sf2_x15), rfl, ⟨fun z => absurd hset z, fun _ => ⟨hx15.2.1, fun _ => ⟨rfl, hx23, hx15.2.2.1 hw0⟩, fun z => absurd hw0 z⟩⟩, (by show wB D A _ t; exact ⟨by rw [ht]; exact hP9, hD9⟩)⟩, hS.F ht⟩) hS.2.2 dX8_layout_26
  · have hset := (j8_set set).1 c_4
    refine lv_aload_n hx hb dX8_layout_7 rfl (lv_at hl 0 rfl) ?_
    refine lv_iconst (v := 1) hx hb dX8_layout_8 (by decide) ?_
    have hPc := hP.sub (ws' := [(m8, .inr (6, [.int st8, .ref wa, .ref pa8, .ref sta, .ref mo, .ref hea, .ref tha, .int ig, .int io, .int op8, .int pl8, .int py, .int wn, .int tu, .int la, .int ps, .ref hd8, .ref od8, .long tb, .ref cd8, .int dr, .ref opa, .ref osa]))]) [0] rfl
    have hDc := hD.sub (ws' := [(m8, .inr (6, [.int st8, .ref wa, .ref pa8, .ref sta, .ref mo, .ref hea, .ref tha, .int ig, .int io, .int op8, .int pl8, .int py, .int wn, .int tu, .int la, .int ps, .ref hd8, .ref od8, .long tb, .ref cd8, .int dr, .ref opa, .ref osa]))]) [0] (by decide) rfl
    have hFc := va_free (wc := [(m8, .inr (6, [.int st8, .ref wa, .ref pa8, .ref sta, .ref mo, .ref hea, .ref tha, .int ig, .int io, .int op8, .int pl8, .int py, .int wn, .int tu, .int la, .int ps, .ref hd8, .ref od8, .long tb, .ref cd8, .int dr, .ref opa, .ref osa]))]) hD hS hA [0] rfl
    refine va_calli (va_runV (As := [.int 1]) (rest := []) ⟨hx, hb, hml, hown, hts⟩ (k_X8_none l D cI cJ cZ s.heap.size m8 wa pa8 sta mo hea tha hd8 od8 cd8 opa osa st8 ig io op8 pl8 py wn tu la ps dr tb 1 ) (cwV 1 hts gX8_layout_X8_none rfl rfl rfl (by decide +kernel) ⟨Nat.le_of_ble_eq_true rfl, Nat.le_of_ble_eq_true rfl⟩) ⟨wM_fb, va_recv hK hPc (ci := 6) (q0 := 0) rfl rfl, wM_pre hPc ⟨hK, hN⟩ hDc⟩ rfl rfl hl.1 rfl (lv_room (Nat.le_of_ble_eq_true rfl)) dX8_layout_9 ⟨Nat.le_of_ble_eq_true rfl, Nat.le_of_ble_eq_true rfl⟩) hS (fun q _ h => hFc q h) hFc (fun x9 u t H1 locs ht hvm hx9 hB hz1 hk1 hS => ?_)
    obtain ⟨hP1, hD1⟩ := hB
    rw [ht] at hP1
    obtain ⟨hP, hD⟩ := va_join (wr := [(wa, .inl (cJ, 203520, .inr (.inl wf))), (pa8, .inl (cI, 52, .inl pf8)), (sta, .inl (cZ, 52, .inl sf8))]) (w1 := [(m8, .inr (6, [.int 1, .ref wa, .ref pa8, .ref sta, .ref mo, .ref hea, .ref tha, .int ig, .int io, .int op8, .int pl8, .int py, .int wn, .int tu, .int la, .int ps, .ref hd8, .ref od8, .long tb, .ref cd8, .int dr, .ref opa, .ref osa]))]) hP hD [0] [1, 2, 3] rfl rfl (by decide) (by decide) hk1 hFc hP1 hD1
    generalize H1 = H at hP hS ⊢
    have hP : va_P D vwCl [(wa, .inl (cJ, 203520, .inr (.inl wf))), (pa8, .inl (cI, 52, .inl pf8)), (sta, .inl (cZ, 52, .inl sf8)), (m8, .inr (6, [.int 1, .ref wa, .ref pa8, .ref sta, .ref mo, .ref hea, .ref tha, .int ig, .int io, .int op8, .int pl8, .int py, .int wn, .int tu, .int la, .int ps, .ref hd8, .ref od8, .long tb, .ref cd8, .int dr, .ref opa, .ref osa]))] H := hP
    have hD : va_D A [(wa, .inl (cJ, 203520, .inr (.inl wf))), (pa8, .inl (cI, 52, .inl pf8)), (sta, .inl (cZ, 52, .inl sf8)), (m8, .inr (6, [.int 1, .ref wa, .ref pa8, .ref sta, .ref mo, .ref hea, .ref tha, .int ig, .int io, .int op8, .int pl8, .int py, .int wn, .int tu, .int la, .int ps, .ref hd8, .ref od8, .long tb, .ref cd8, .int dr, .ref opa, .ref osa]))] := hD
    try dsimp only at hx9
    rw [← hQ]
    have hP9 := hP.sub (ws' := [(m8, .inr (6, [.int 1, .ref wa, .ref pa8, .ref sta, .ref mo, .ref hea, .ref tha, .int ig, .int io, .int op8, .int pl8, .int py, .int wn, .int tu, .int la, .int ps, .ref hd8, .ref od8, .long tb, .ref cd8, .int dr, .ref opa, .ref osa])), (wa, .inl (cJ, 203520, .inr (.inl wf))), (pa8, .inl (cI, 52, .inl pf8)), (sta, .inl (cZ, 52, .inl sf8))]) [3, 0, 1, 2] rfl
    have hD9 := hD.sub (ws' := [(m8, .inr (6, [.int 1, .ref wa, .ref pa8, .ref sta, .ref mo, .ref hea, .ref tha, .int ig, .int io, .int op8, .int pl8, .int py, .int wn, .int tu, .int la, .int ps, .ref hd8, .ref od8, .long tb, .ref cd8, .int dr, .ref opa, .ref osa])), (wa, .inl (cJ, 203520, .inr (.inl wf))), (pa8, .inl (cI, 52, .inl pf8)), (sta, .inl (cZ, 52, .inl sf8))]) [3, 0, 1, 2] (by decide) rfl
    exact W.iret (v := x9) hx hb hr (fun t ht hW => ⟨⟨x9, (1, wf, pf8, sf8), rfl, ⟨fun _ => ⟨rfl, hx9, rfl, rfl, rfl⟩, fun z => absurd z hset⟩, (by show wB D A _ t; exact ⟨by rw [ht]; exact hP9, hD9⟩)⟩, hS.F ht⟩) hS.2.2 dX8_layout_12

set_option maxHeartbeats 4000000 in
set_option maxRecDepth 100000 in
theorem k_X8_worth (l : Launch) (D : va_G) (cI cJ cZ : ClassId) (sz : Nat) (m8 wa pa8 sta mo hea tha hd8 od8 cd8 opa osa : Nat) (st8 ig io op8 pl8 py wn tu la ps dr : Int32) (tb : Int64) (set : Int64)  : Met l yX8_worth wsX8_worth ({ frames := 2, cells := 0, slots := 0, locals := 45 } : Room) (va_Pc [.ref m8, .long set] (wM D cI cJ cZ sz [(m8, .inr (6, [.int st8, .ref wa, .ref pa8, .ref sta, .ref mo, .ref hea, .ref tha, .int ig, .int io, .int op8, .int pl8, .int py, .int wn, .int tu, .int la, .int ps, .ref hd8, .ref od8, .long tb, .ref cd8, .int dr, .ref opa, .ref osa]))])) (va_Qi (fun (r : Int32) (u : (Int32)) => match u with | st2 => ((isS set → st2 = 0 ∧ r = j_X8_worthAll set) ∧ (¬ isS set → st2 = 1 ∧ r = -1))) (fun (u : (Int32)) t => match u with | st2 => wB D (va_A [(m8, .inr (6, [.int st8, .ref wa, .ref pa8, .ref sta, .ref mo, .ref hea, .ref tha, .int ig, .int io, .int op8, .int pl8, .int py, .int wn, .int tu, .int la, .int ps, .ref hd8, .ref od8, .long tb, .ref cd8, .int dr, .ref opa, .ref osa]))] sz) [(m8, .inr (6, [.int st2, .ref wa, .ref pa8, .ref sta, .ref mo, .ref hea, .ref tha, .int ig, .int io, .int op8, .int pl8, .int py, .int wn, .int tu, .int la, .int ps, .ref hd8, .ref od8, .long tb, .ref cd8, .int dr, .ref opa, .ref osa]))] t) (va_A [(m8, .inr (6, [.int st8, .ref wa, .ref pa8, .ref sta, .ref mo, .ref hea, .ref tha, .int ig, .int io, .int op8, .int pl8, .int py, .int wn, .int tu, .int la, .int ps, .ref hd8, .ref od8, .long tb, .ref cd8, .int dr, .ref opa, .ref osa]))] sz)) 0 0 (va_A [(m8, .inr (6, [.int st8, .ref wa, .ref pa8, .ref sta, .ref mo, .ref hea, .ref tha, .int ig, .int io, .int op8, .int pl8, .int py, .int wn, .int tu, .int la, .int ps, .ref hd8, .ref od8, .long tb, .ref cd8, .int dr, .ref opa, .ref osa]))] sz) := by
  refine Met.ofW (cc := cX8_worth) (maxL := 3) (ret := (some .int)) (by decide) rfl ?_
  intro p e s m args below meth c s₁ B hml hv
  obtain ⟨hargs, hsz, hP, ⟨hK, hN⟩, hD0⟩ := hv
  have hx := B.exec
  have hb := B.bytes
  have hr := B.returns
  have hlocks := B.notSynchronized
  have hts := atoms_spec (ws := wsX8_worth) B.pre
  have hown : s.vm.findClass RX8 = some m.cls := findClass_of_methodNamed B.named
  have k86 := hts (.methodLink RX8 86 yX8_isSet) (by decide +kernel)
  have k50 := hts (.fieldLink RX8 50 "RummyTableModel" "status" "I") (by decide +kernel)
  have iX8 : ∀ w ∈ wsX80, w ∈ wsX8_worth := by decide +kernel
  have k119 := hts (.methodLink RX8 119 yX8_worthAll) (by decide +kernel)
  have k90 := hts (.methodLink RX8 90 yX8_none) (by decide +kernel)
  subst hsz
  have hD := hD0.self (sz := s.heap.size)
  generalize hAe : va_A [(m8, .inr (6, [.int st8, .ref wa, .ref pa8, .ref sta, .ref mo, .ref hea, .ref tha, .int ig, .int io, .int op8, .int pl8, .int py, .int wn, .int tu, .int la, .int ps, .ref hd8, .ref od8, .long tb, .ref cd8, .int dr, .ref opa, .ref osa]))] s.heap.size = A at hD ⊢
  have hA : ∀ q : Nat, s.heap.size ≤ q → A q := fun q h => by rw [← hAe]; exact Or.inr h
  have hS : va_S A s.heap s.heap [] := va_S.rf
  rw [show entryFrame m args 3 = entryFrame m ([.ref m8, .long set] : List Value).toArray 3 from by rw [hargs]]
  have hl := lv_entry ([.ref m8, .long set]) (n := 3) (Nat.le_of_ble_eq_true rfl)
  rw [lg_entry_eq]
  generalize (lg_sl ([.ref m8, .long set]) ++ List.replicate (3 - (lg_sl ([.ref m8, .long set])).length) Slot.unset).toArray = ls at hl ⊢
  have hl : lv_has ls 3 [(0, .ref m8), (1, .long set)] := hl
  refine wQ (fun Q hQ => ?_)
  refine lv_lload_n hx hb dX8_worth_0 rfl (lv_at hl 1 rfl) ?_
  refine vp_callSi (W.runS (As := [.long set]) (rest := []) ⟨hx, hb, hml, hown, hts⟩ (k_X8_isSet l set ) (va_cwS 1 hts gX8_worth_X8_isSet rfl rfl rfl (by decide +kernel) ⟨Nat.le_of_ble_eq_true rfl, Nat.le_of_ble_eq_true rfl⟩) ⟨pS_fb, pS_pre⟩ rfl rfl hl.1 rfl (lv_room (Nat.le_of_ble_eq_true rfl)) dX8_worth_1 ⟨Nat.le_of_ble_eq_true rfl, Nat.le_of_ble_eq_true rfl⟩) (fun x1 hx1 => ?_)
  subst hx1
  refine lv_if_ne (tgt := 13) hx hb dX8_worth_4 (by decide) (fun c_4 => ?_) (fun c_4 => ?_)
  · have hset := (j8_set set).2 c_4
    refine lv_aload_n hx hb dX8_worth_13 rfl (lv_at hl 0 rfl) ?_
    refine lv_iconst (v := 0) hx hb dX8_worth_14 (by decide) ?_
    refine va_put (D := D) (ci := 6) (v := .int 0) (ty := .int) (C := RX8) (T := TX8) (N := 23) hx hb hts iX8 tyX8 tyX8_ok nmX8 hown hK hP hD hS 0 rfl rfl 0 (by decide) k50 (fun _ h9 => h9) rfl (by decide +kernel) rfl rfl (Nat.le_of_ble_eq_true rfl) dX8_worth_15 (fun H locs hP hD hS => ?_)
    have hP : va_P D vwCl [(m8, .inr (6, [.int 0, .ref wa, .ref pa8, .ref sta, .ref mo, .ref hea, .ref tha, .int ig, .int io, .int op8, .int pl8, .int py, .int wn, .int tu, .int la, .int ps, .ref hd8, .ref od8, .long tb, .ref cd8, .int dr, .ref opa, .ref osa]))] H := hP
    have hD : va_D A [(m8, .inr (6, [.int 0, .ref wa, .ref pa8, .ref sta, .ref mo, .ref hea, .ref tha, .int ig, .int io, .int op8, .int pl8, .int py, .int wn, .int tu, .int la, .int ps, .ref hd8, .ref od8, .long tb, .ref cd8, .int dr, .ref opa, .ref osa]))] := hD
    refine lv_lload_n hx hb dX8_worth_18 rfl (lv_at hl 1 rfl) ?_
    refine vp_callSi (W.runS (As := [.long set]) (rest := []) ⟨hx, hb, hml, hown, hts⟩ (k_X8_worthAll l set ) (va_cwS 1 hts gX8_worth_X8_worthAll rfl rfl rfl (by decide +kernel) ⟨Nat.le_of_ble_eq_true rfl, Nat.le_of_ble_eq_true rfl⟩) ⟨pS_fb, pS_pre⟩ rfl rfl hl.1 rfl (lv_room (Nat.le_of_ble_eq_true rfl)) dX8_worth_19 ⟨Nat.le_of_ble_eq_true rfl, Nat.le_of_ble_eq_true rfl⟩) (fun x19 hx19 => ?_)
    subst hx19
    rw [← hQ]
    have hP9 := hP.sub (ws' := [(m8, .inr (6, [.int 0, .ref wa, .ref pa8, .ref sta, .ref mo, .ref hea, .ref tha, .int ig, .int io, .int op8, .int pl8, .int py, .int wn, .int tu, .int la, .int ps, .ref hd8, .ref od8, .long tb, .ref cd8, .int dr, .ref opa, .ref osa]))]) [0] rfl
    have hD9 := hD.sub (ws' := [(m8, .inr (6, [.int 0, .ref wa, .ref pa8, .ref sta, .ref mo, .ref hea, .ref tha, .int ig, .int io, .int op8, .int pl8, .int py, .int wn, .int tu, .int la, .int ps, .ref hd8, .ref od8, .long tb, .ref cd8, .int dr, .ref opa, .ref osa]))]) [0] (by decide) rfl
    exact W.iret (v := j_X8_worthAll set) hx hb hr (fun t ht hW => ⟨⟨(j_X8_worthAll set), 0, rfl, ⟨fun _ => ⟨rfl, rfl⟩, fun z => absurd hset z⟩, (by show wB D A _ t; exact ⟨by rw [ht]; exact hP9, hD9⟩)⟩, hS.F ht⟩) hS.2.2 dX8_worth_22
  · have hset := (j8_set set).1 c_4
    refine lv_aload_n hx hb dX8_worth_7 rfl (lv_at hl 0 rfl) ?_
    refine lv_iconst (v := 1) hx hb dX8_worth_8 (by decide) ?_
    have hPc := hP.sub (ws' := [(m8, .inr (6, [.int st8, .ref wa, .ref pa8, .ref sta, .ref mo, .ref hea, .ref tha, .int ig, .int io, .int op8, .int pl8, .int py, .int wn, .int tu, .int la, .int ps, .ref hd8, .ref od8, .long tb, .ref cd8, .int dr, .ref opa, .ref osa]))]) [0] rfl
    have hDc := hD.sub (ws' := [(m8, .inr (6, [.int st8, .ref wa, .ref pa8, .ref sta, .ref mo, .ref hea, .ref tha, .int ig, .int io, .int op8, .int pl8, .int py, .int wn, .int tu, .int la, .int ps, .ref hd8, .ref od8, .long tb, .ref cd8, .int dr, .ref opa, .ref osa]))]) [0] (by decide) rfl
    have hFc := va_free (wc := [(m8, .inr (6, [.int st8, .ref wa, .ref pa8, .ref sta, .ref mo, .ref hea, .ref tha, .int ig, .int io, .int op8, .int pl8, .int py, .int wn, .int tu, .int la, .int ps, .ref hd8, .ref od8, .long tb, .ref cd8, .int dr, .ref opa, .ref osa]))]) hD hS hA [0] rfl
    refine va_calli (va_runV (As := [.int 1]) (rest := []) ⟨hx, hb, hml, hown, hts⟩ (k_X8_none l D cI cJ cZ s.heap.size m8 wa pa8 sta mo hea tha hd8 od8 cd8 opa osa st8 ig io op8 pl8 py wn tu la ps dr tb 1 ) (cwV 1 hts gX8_worth_X8_none rfl rfl rfl (by decide +kernel) ⟨Nat.le_of_ble_eq_true rfl, Nat.le_of_ble_eq_true rfl⟩) ⟨wM_fb, va_recv hK hPc (ci := 6) (q0 := 0) rfl rfl, wM_pre hPc ⟨hK, hN⟩ hDc⟩ rfl rfl hl.1 rfl (lv_room (Nat.le_of_ble_eq_true rfl)) dX8_worth_9 ⟨Nat.le_of_ble_eq_true rfl, Nat.le_of_ble_eq_true rfl⟩) hS (fun q _ h => hFc q h) hFc (fun x9 u t H1 locs ht hvm hx9 hB hz1 hk1 hS => ?_)
    obtain ⟨hP1, hD1⟩ := hB
    rw [ht] at hP1
    obtain ⟨hP, hD⟩ := va_join (wr := []) (w1 := [(m8, .inr (6, [.int 1, .ref wa, .ref pa8, .ref sta, .ref mo, .ref hea, .ref tha, .int ig, .int io, .int op8, .int pl8, .int py, .int wn, .int tu, .int la, .int ps, .ref hd8, .ref od8, .long tb, .ref cd8, .int dr, .ref opa, .ref osa]))]) hP hD [0] [] rfl rfl (by decide) (by decide) hk1 hFc hP1 hD1
    generalize H1 = H at hP hS ⊢
    have hP : va_P D vwCl [(m8, .inr (6, [.int 1, .ref wa, .ref pa8, .ref sta, .ref mo, .ref hea, .ref tha, .int ig, .int io, .int op8, .int pl8, .int py, .int wn, .int tu, .int la, .int ps, .ref hd8, .ref od8, .long tb, .ref cd8, .int dr, .ref opa, .ref osa]))] H := hP
    have hD : va_D A [(m8, .inr (6, [.int 1, .ref wa, .ref pa8, .ref sta, .ref mo, .ref hea, .ref tha, .int ig, .int io, .int op8, .int pl8, .int py, .int wn, .int tu, .int la, .int ps, .ref hd8, .ref od8, .long tb, .ref cd8, .int dr, .ref opa, .ref osa]))] := hD
    try dsimp only at hx9
    rw [← hQ]
    have hP9 := hP.sub (ws' := [(m8, .inr (6, [.int 1, .ref wa, .ref pa8, .ref sta, .ref mo, .ref hea, .ref tha, .int ig, .int io, .int op8, .int pl8, .int py, .int wn, .int tu, .int la, .int ps, .ref hd8, .ref od8, .long tb, .ref cd8, .int dr, .ref opa, .ref osa]))]) [0] rfl
    have hD9 := hD.sub (ws' := [(m8, .inr (6, [.int 1, .ref wa, .ref pa8, .ref sta, .ref mo, .ref hea, .ref tha, .int ig, .int io, .int op8, .int pl8, .int py, .int wn, .int tu, .int la, .int ps, .ref hd8, .ref od8, .long tb, .ref cd8, .int dr, .ref opa, .ref osa]))]) [0] (by decide) rfl
    exact W.iret (v := x9) hx hb hr (fun t ht hW => ⟨⟨x9, 1, rfl, ⟨fun z => absurd z hset, fun _ => ⟨rfl, hx9⟩⟩, (by show wB D A _ t; exact ⟨by rw [ht]; exact hP9, hD9⟩)⟩, hS.F ht⟩) hS.2.2 dX8_worth_12

set_option maxHeartbeats 4000000 in
set_option maxRecDepth 100000 in
theorem k_X8_shows (l : Launch) (D : va_G) (cI cJ cZ : ClassId) (m8 wa pa8 sta mo hea tha hd8 od8 cd8 opa osa : Nat) (st8 ig io op8 pl8 py wn tu la ps dr : Int32) (tb : Int64) (pf8 sf8 : Nat → Int32) (wh : Int32)  : Met l yX8_shows wsX8_shows ({ frames := 2, cells := 0, slots := 0, locals := 42 } : Room) (va_Pc [.ref m8, .int wh] (wR D cI cJ cZ [(m8, .inr (6, [.int st8, .ref wa, .ref pa8, .ref sta, .ref mo, .ref hea, .ref tha, .int ig, .int io, .int op8, .int pl8, .int py, .int wn, .int tu, .int la, .int ps, .ref hd8, .ref od8, .long tb, .ref cd8, .int dr, .ref opa, .ref osa])), (pa8, .inl (cI, 52, .inl pf8)), (sta, .inl (cZ, 52, .inl sf8))])) (vp_Si (fun r => r = j_shows pf8 sf8 wh.toInt)) 0 0 (fun _ => False) := by
  refine Met.ofW (cc := cX8_shows) (maxL := 2) (ret := (some .int)) (by decide) rfl ?_
  intro p e s m args below meth c s₁ B hml hv
  obtain ⟨hargs, hP, hK, hN⟩ := hv
  have hx := B.exec
  have hb := B.bytes
  have hr := B.returns
  have hlocks := B.notSynchronized
  have hts := atoms_spec (ws := wsX8_shows) B.pre
  have hown : s.vm.findClass RX8 = some m.cls := findClass_of_methodNamed B.named
  have k100 := hts (.methodLink RX8 100 yX8_melds) (by decide +kernel)
  have k104 := hts (.methodLink RX8 104 yX8_runs) (by decide +kernel)
  have k107 := hts (.methodLink RX8 107 yX8_shown) (by decide +kernel)
  have k110 := hts (.methodLink RX8 110 yX8_stood) (by decide +kernel)
  have k113 := hts (.methodLink RX8 113 yX8_worthShown) (by decide +kernel)
  have k116 := hts (.methodLink RX8 116 yX8_longest) (by decide +kernel)
  rw [show entryFrame m args 2 = entryFrame m ([.ref m8, .int wh] : List Value).toArray 2 from by rw [hargs]]
  have hl := lv_entry ([.ref m8, .int wh]) (n := 2) (Nat.le_of_ble_eq_true rfl)
  rw [lg_entry_eq]
  generalize (lg_sl ([.ref m8, .int wh]) ++ List.replicate (2 - (lg_sl ([.ref m8, .int wh])).length) Slot.unset).toArray = ls at hl ⊢
  have hl : lv_has ls 2 [(0, .ref m8), (1, .int wh)] := hl
  refine wQ (fun Q hQ => ?_)
  refine lv_iload_n hx hb dX8_shows_0 rfl (lv_at hl 1 rfl) ?_
  by_cases hlo1 : wh.toInt < 0
  · refine lv_tableOut (tgt := 75) hx hb dX8_shows_1 (Or.inl hlo1) (by decide) ?_
    refine lv_iconst (v := (-1)) hx hb dX8_shows_75 (by decide) ?_
    rw [← hQ]
    exact W.iret (v := (-1)) hx hb hr (fun t ht hW => ⟨_, rfl, j_shows_no (by omega), ht⟩) (fun _ h => by cases h) dX8_shows_76
  by_cases hhi1 : 5 < wh.toInt
  · refine lv_tableOut (tgt := 75) hx hb dX8_shows_1 (Or.inr hhi1) (by decide) ?_
    refine lv_iconst (v := (-1)) hx hb dX8_shows_75 (by decide) ?_
    rw [← hQ]
    exact W.iret (v := (-1)) hx hb hr (fun t ht hW => ⟨_, rfl, j_shows_no (by omega), ht⟩) (fun _ h => by cases h) dX8_shows_76
  have hsw1 : wh.toInt = 0 ∨ wh.toInt = 1 ∨ wh.toInt = 2 ∨ wh.toInt = 3 ∨ wh.toInt = 4 ∨ wh.toInt = 5 := by have a1 := hlo1; have a2 := hhi1; omega
  rcases hsw1 with hc1 | hc1 | hc1 | hc1 | hc1 | hc1
  · refine lv_tableIn (off := 39) (tgt := 40) hx hb dX8_shows_1 hlo1 hhi1 (by rw [hc1]; rfl) (by decide) ?_
    refine lv_aload_n hx hb dX8_shows_40 rfl (lv_at hl 0 rfl) ?_
    have hPc := hP.sub (ws' := [(m8, .inr (6, [.int st8, .ref wa, .ref pa8, .ref sta, .ref mo, .ref hea, .ref tha, .int ig, .int io, .int op8, .int pl8, .int py, .int wn, .int tu, .int la, .int ps, .ref hd8, .ref od8, .long tb, .ref cd8, .int dr, .ref opa, .ref osa])), (pa8, .inl (cI, 52, .inl pf8))]) [0, 1] rfl
    refine vp_callSi (W.runV (As := []) (rest := []) ⟨hx, hb, hml, hown, hts⟩ (k_X8_melds l D cI cJ cZ m8 wa pa8 sta mo hea tha hd8 od8 cd8 opa osa st8 ig io op8 pl8 py wn tu la ps dr tb pf8 ) (cwV 0 hts gX8_shows_X8_melds rfl rfl rfl (by decide +kernel) ⟨Nat.le_of_ble_eq_true rfl, Nat.le_of_ble_eq_true rfl⟩) ⟨wR_fb, va_recv hK hPc (ci := 6) (q0 := 0) rfl rfl, wR_pre hPc ⟨hK, hN⟩⟩ rfl rfl hl.1 rfl (lv_room (Nat.le_of_ble_eq_true rfl)) dX8_shows_41 ⟨Nat.le_of_ble_eq_true rfl, Nat.le_of_ble_eq_true rfl⟩) (fun x41 hx41 => ?_)
    subst hx41
    refine lv_aload_n hx hb dX8_shows_44 rfl (lv_at hl 0 rfl) ?_
    have hPc := hP.sub (ws' := [(m8, .inr (6, [.int st8, .ref wa, .ref pa8, .ref sta, .ref mo, .ref hea, .ref tha, .int ig, .int io, .int op8, .int pl8, .int py, .int wn, .int tu, .int la, .int ps, .ref hd8, .ref od8, .long tb, .ref cd8, .int dr, .ref opa, .ref osa])), (pa8, .inl (cI, 52, .inl pf8))]) [0, 1] rfl
    refine vp_callSi (W.runV (As := []) (rest := [.int (j_X8_melds pf8)]) ⟨hx, hb, hml, hown, hts⟩ (k_X8_runs l D cI cJ cZ m8 wa pa8 sta mo hea tha hd8 od8 cd8 opa osa st8 ig io op8 pl8 py wn tu la ps dr tb pf8 ) (cwV 0 hts gX8_shows_X8_runs rfl rfl rfl (by decide +kernel) ⟨Nat.le_of_ble_eq_true rfl, Nat.le_of_ble_eq_true rfl⟩) ⟨wR_fb, va_recv hK hPc (ci := 6) (q0 := 0) rfl rfl, wR_pre hPc ⟨hK, hN⟩⟩ rfl rfl hl.1 rfl (lv_room (Nat.le_of_ble_eq_true rfl)) dX8_shows_45 ⟨Nat.le_of_ble_eq_true rfl, Nat.le_of_ble_eq_true rfl⟩) (fun x45 hx45 => ?_)
    subst hx45
    refine lv_isub hx hb dX8_shows_48 ?_
    rw [← hQ]
    exact W.iret (v := (j_X8_melds pf8) - (j_X8_runs pf8)) hx hb hr (fun t ht hW => ⟨_, rfl, (by rw [hc1]; exact js0.symm), ht⟩) (fun _ h => by cases h) dX8_shows_49
  · refine lv_tableIn (off := 49) (tgt := 50) hx hb dX8_shows_1 hlo1 hhi1 (by rw [hc1]; rfl) (by decide) ?_
    refine lv_aload_n hx hb dX8_shows_50 rfl (lv_at hl 0 rfl) ?_
    have hPc := hP.sub (ws' := [(m8, .inr (6, [.int st8, .ref wa, .ref pa8, .ref sta, .ref mo, .ref hea, .ref tha, .int ig, .int io, .int op8, .int pl8, .int py, .int wn, .int tu, .int la, .int ps, .ref hd8, .ref od8, .long tb, .ref cd8, .int dr, .ref opa, .ref osa])), (pa8, .inl (cI, 52, .inl pf8))]) [0, 1] rfl
    refine vp_callSi (W.runV (As := []) (rest := []) ⟨hx, hb, hml, hown, hts⟩ (k_X8_runs l D cI cJ cZ m8 wa pa8 sta mo hea tha hd8 od8 cd8 opa osa st8 ig io op8 pl8 py wn tu la ps dr tb pf8 ) (cwV 0 hts gX8_shows_X8_runs rfl rfl rfl (by decide +kernel) ⟨Nat.le_of_ble_eq_true rfl, Nat.le_of_ble_eq_true rfl⟩) ⟨wR_fb, va_recv hK hPc (ci := 6) (q0 := 0) rfl rfl, wR_pre hPc ⟨hK, hN⟩⟩ rfl rfl hl.1 rfl (lv_room (Nat.le_of_ble_eq_true rfl)) dX8_shows_51 ⟨Nat.le_of_ble_eq_true rfl, Nat.le_of_ble_eq_true rfl⟩) (fun x51 hx51 => ?_)
    subst hx51
    rw [← hQ]
    exact W.iret (v := j_X8_runs pf8) hx hb hr (fun t ht hW => ⟨_, rfl, (by rw [hc1]; exact js1.symm), ht⟩) (fun _ h => by cases h) dX8_shows_54
  · refine lv_tableIn (off := 54) (tgt := 55) hx hb dX8_shows_1 hlo1 hhi1 (by rw [hc1]; rfl) (by decide) ?_
    refine lv_aload_n hx hb dX8_shows_55 rfl (lv_at hl 0 rfl) ?_
    have hPc := hP.sub (ws' := [(m8, .inr (6, [.int st8, .ref wa, .ref pa8, .ref sta, .ref mo, .ref hea, .ref tha, .int ig, .int io, .int op8, .int pl8, .int py, .int wn, .int tu, .int la, .int ps, .ref hd8, .ref od8, .long tb, .ref cd8, .int dr, .ref opa, .ref osa])), (pa8, .inl (cI, 52, .inl pf8))]) [0, 1] rfl
    refine vp_callSi (W.runV (As := []) (rest := []) ⟨hx, hb, hml, hown, hts⟩ (k_X8_shown l D cI cJ cZ m8 wa pa8 sta mo hea tha hd8 od8 cd8 opa osa st8 ig io op8 pl8 py wn tu la ps dr tb pf8 ) (cwV 0 hts gX8_shows_X8_shown rfl rfl rfl (by decide +kernel) ⟨Nat.le_of_ble_eq_true rfl, Nat.le_of_ble_eq_true rfl⟩) ⟨wR_fb, va_recv hK hPc (ci := 6) (q0 := 0) rfl rfl, wR_pre hPc ⟨hK, hN⟩⟩ rfl rfl hl.1 rfl (lv_room (Nat.le_of_ble_eq_true rfl)) dX8_shows_56 ⟨Nat.le_of_ble_eq_true rfl, Nat.le_of_ble_eq_true rfl⟩) (fun x56 hx56 => ?_)
    subst hx56
    rw [← hQ]
    exact W.iret (v := j_X8_shown pf8) hx hb hr (fun t ht hW => ⟨_, rfl, (by rw [hc1]; exact js2.symm), ht⟩) (fun _ h => by cases h) dX8_shows_59
  · refine lv_tableIn (off := 59) (tgt := 60) hx hb dX8_shows_1 hlo1 hhi1 (by rw [hc1]; rfl) (by decide) ?_
    refine lv_aload_n hx hb dX8_shows_60 rfl (lv_at hl 0 rfl) ?_
    have hPc := hP.sub (ws' := [(m8, .inr (6, [.int st8, .ref wa, .ref pa8, .ref sta, .ref mo, .ref hea, .ref tha, .int ig, .int io, .int op8, .int pl8, .int py, .int wn, .int tu, .int la, .int ps, .ref hd8, .ref od8, .long tb, .ref cd8, .int dr, .ref opa, .ref osa])), (sta, .inl (cZ, 52, .inl sf8))]) [0, 2] rfl
    refine vp_callSi (W.runV (As := []) (rest := []) ⟨hx, hb, hml, hown, hts⟩ (k_X8_stood l D cI cJ cZ m8 wa pa8 sta mo hea tha hd8 od8 cd8 opa osa st8 ig io op8 pl8 py wn tu la ps dr tb sf8 ) (cwV 0 hts gX8_shows_X8_stood rfl rfl rfl (by decide +kernel) ⟨Nat.le_of_ble_eq_true rfl, Nat.le_of_ble_eq_true rfl⟩) ⟨wR_fb, va_recv hK hPc (ci := 6) (q0 := 0) rfl rfl, wR_pre hPc ⟨hK, hN⟩⟩ rfl rfl hl.1 rfl (lv_room (Nat.le_of_ble_eq_true rfl)) dX8_shows_61 ⟨Nat.le_of_ble_eq_true rfl, Nat.le_of_ble_eq_true rfl⟩) (fun x61 hx61 => ?_)
    subst hx61
    rw [← hQ]
    exact W.iret (v := j_X8_stood sf8) hx hb hr (fun t ht hW => ⟨_, rfl, (by rw [hc1]; exact js3.symm), ht⟩) (fun _ h => by cases h) dX8_shows_64
  · refine lv_tableIn (off := 64) (tgt := 65) hx hb dX8_shows_1 hlo1 hhi1 (by rw [hc1]; rfl) (by decide) ?_
    refine lv_aload_n hx hb dX8_shows_65 rfl (lv_at hl 0 rfl) ?_
    have hPc := hP.sub (ws' := [(m8, .inr (6, [.int st8, .ref wa, .ref pa8, .ref sta, .ref mo, .ref hea, .ref tha, .int ig, .int io, .int op8, .int pl8, .int py, .int wn, .int tu, .int la, .int ps, .ref hd8, .ref od8, .long tb, .ref cd8, .int dr, .ref opa, .ref osa])), (pa8, .inl (cI, 52, .inl pf8))]) [0, 1] rfl
    refine vp_callSi (W.runV (As := []) (rest := []) ⟨hx, hb, hml, hown, hts⟩ (k_X8_worthShown l D cI cJ cZ m8 wa pa8 sta mo hea tha hd8 od8 cd8 opa osa st8 ig io op8 pl8 py wn tu la ps dr tb pf8 ) (cwV 0 hts gX8_shows_X8_worthShown rfl rfl rfl (by decide +kernel) ⟨Nat.le_of_ble_eq_true rfl, Nat.le_of_ble_eq_true rfl⟩) ⟨wR_fb, va_recv hK hPc (ci := 6) (q0 := 0) rfl rfl, wR_pre hPc ⟨hK, hN⟩⟩ rfl rfl hl.1 rfl (lv_room (Nat.le_of_ble_eq_true rfl)) dX8_shows_66 ⟨Nat.le_of_ble_eq_true rfl, Nat.le_of_ble_eq_true rfl⟩) (fun x66 hx66 => ?_)
    subst hx66
    rw [← hQ]
    exact W.iret (v := j_X8_worthShown pf8) hx hb hr (fun t ht hW => ⟨_, rfl, (by rw [hc1]; exact js4.symm), ht⟩) (fun _ h => by cases h) dX8_shows_69
  · refine lv_tableIn (off := 69) (tgt := 70) hx hb dX8_shows_1 hlo1 hhi1 (by rw [hc1]; rfl) (by decide) ?_
    refine lv_aload_n hx hb dX8_shows_70 rfl (lv_at hl 0 rfl) ?_
    have hPc := hP.sub (ws' := [(m8, .inr (6, [.int st8, .ref wa, .ref pa8, .ref sta, .ref mo, .ref hea, .ref tha, .int ig, .int io, .int op8, .int pl8, .int py, .int wn, .int tu, .int la, .int ps, .ref hd8, .ref od8, .long tb, .ref cd8, .int dr, .ref opa, .ref osa])), (pa8, .inl (cI, 52, .inl pf8))]) [0, 1] rfl
    refine vp_callSi (W.runV (As := []) (rest := []) ⟨hx, hb, hml, hown, hts⟩ (k_X8_longest l D cI cJ cZ m8 wa pa8 sta mo hea tha hd8 od8 cd8 opa osa st8 ig io op8 pl8 py wn tu la ps dr tb pf8 ) (cwV 0 hts gX8_shows_X8_longest rfl rfl rfl (by decide +kernel) ⟨Nat.le_of_ble_eq_true rfl, Nat.le_of_ble_eq_true rfl⟩) ⟨wR_fb, va_recv hK hPc (ci := 6) (q0 := 0) rfl rfl, wR_pre hPc ⟨hK, hN⟩⟩ rfl rfl hl.1 rfl (lv_room (Nat.le_of_ble_eq_true rfl)) dX8_shows_71 ⟨Nat.le_of_ble_eq_true rfl, Nat.le_of_ble_eq_true rfl⟩) (fun x71 hx71 => ?_)
    subst hx71
    rw [← hQ]
    exact W.iret (v := j_X8_longest pf8) hx hb hr (fun t ht hW => ⟨_, rfl, (by rw [hc1]; exact js5.symm), ht⟩) (fun _ h => by cases h) dX8_shows_74

set_option maxHeartbeats 4000000 in
set_option maxRecDepth 100000 in
theorem k_X8_opening (l : Launch) (D : va_G) (cI cJ cZ : ClassId) (sz : Nat) (m8 wa pa8 sta mo hea tha hd8 od8 cd8 opa osa : Nat) (st8 ig io op8 pl8 py wn tu la ps dr : Int32) (tb : Int64) (w : Int32)  : Met l yX8_opening wsX8_opening ({ frames := 0, cells := 0, slots := 0, locals := 0 } : Room) (va_Pc [.ref m8, .int w] (wM D cI cJ cZ sz [(m8, .inr (6, [.int st8, .ref wa, .ref pa8, .ref sta, .ref mo, .ref hea, .ref tha, .int ig, .int io, .int op8, .int pl8, .int py, .int wn, .int tu, .int la, .int ps, .ref hd8, .ref od8, .long tb, .ref cd8, .int dr, .ref opa, .ref osa]))])) (va_Qi (fun (r : Int32) (u : (Int32) × (Int32)) => match u with | (st2, op2) => ((okOp w → st2 = 0 ∧ op2 = w ∧ r = 1) ∧ (¬ okOp w → st2 = 1 ∧ op2 = op8 ∧ r = 0))) (fun (u : (Int32) × (Int32)) t => match u with | (st2, op2) => wB D (va_A [(m8, .inr (6, [.int st8, .ref wa, .ref pa8, .ref sta, .ref mo, .ref hea, .ref tha, .int ig, .int io, .int op8, .int pl8, .int py, .int wn, .int tu, .int la, .int ps, .ref hd8, .ref od8, .long tb, .ref cd8, .int dr, .ref opa, .ref osa]))] sz) [(m8, .inr (6, [.int st2, .ref wa, .ref pa8, .ref sta, .ref mo, .ref hea, .ref tha, .int ig, .int io, .int op2, .int pl8, .int py, .int wn, .int tu, .int la, .int ps, .ref hd8, .ref od8, .long tb, .ref cd8, .int dr, .ref opa, .ref osa]))] t) (va_A [(m8, .inr (6, [.int st8, .ref wa, .ref pa8, .ref sta, .ref mo, .ref hea, .ref tha, .int ig, .int io, .int op8, .int pl8, .int py, .int wn, .int tu, .int la, .int ps, .ref hd8, .ref od8, .long tb, .ref cd8, .int dr, .ref opa, .ref osa]))] sz)) 0 0 (va_A [(m8, .inr (6, [.int st8, .ref wa, .ref pa8, .ref sta, .ref mo, .ref hea, .ref tha, .int ig, .int io, .int op8, .int pl8, .int py, .int wn, .int tu, .int la, .int ps, .ref hd8, .ref od8, .long tb, .ref cd8, .int dr, .ref opa, .ref osa]))] sz) := by
  refine Met.ofW (cc := cX8_opening) (maxL := 2) (ret := (some .boolean)) (by decide) rfl ?_
  intro p e s m args below meth c s₁ B hml hv
  obtain ⟨hargs, hsz, hP, ⟨hK, hN⟩, hD0⟩ := hv
  have hx := B.exec
  have hb := B.bytes
  have hr := B.returns
  have hlocks := B.notSynchronized
  have hts := atoms_spec (ws := wsX8_opening) B.pre
  have hown : s.vm.findClass RX8 = some m.cls := findClass_of_methodNamed B.named
  have k50 := hts (.fieldLink RX8 50 "RummyTableModel" "status" "I") (by decide +kernel)
  have iX8 : ∀ w ∈ wsX80, w ∈ wsX8_opening := by decide +kernel
  have k31 := hts (.fieldLink RX8 31 "RummyTableModel" "opening" "I") (by decide +kernel)
  subst hsz
  have hD := hD0.self (sz := s.heap.size)
  generalize hAe : va_A [(m8, .inr (6, [.int st8, .ref wa, .ref pa8, .ref sta, .ref mo, .ref hea, .ref tha, .int ig, .int io, .int op8, .int pl8, .int py, .int wn, .int tu, .int la, .int ps, .ref hd8, .ref od8, .long tb, .ref cd8, .int dr, .ref opa, .ref osa]))] s.heap.size = A at hD ⊢
  have hA : ∀ q : Nat, s.heap.size ≤ q → A q := fun q h => by rw [← hAe]; exact Or.inr h
  have hS : va_S A s.heap s.heap [] := va_S.rf
  rw [show entryFrame m args 2 = entryFrame m ([.ref m8, .int w] : List Value).toArray 2 from by rw [hargs]]
  have hl := lv_entry ([.ref m8, .int w]) (n := 2) (Nat.le_of_ble_eq_true rfl)
  rw [lg_entry_eq]
  generalize (lg_sl ([.ref m8, .int w]) ++ List.replicate (2 - (lg_sl ([.ref m8, .int w])).length) Slot.unset).toArray = ls at hl ⊢
  have hl : lv_has ls 2 [(0, .ref m8), (1, .int w)] := hl
  refine wQ (fun Q hQ => ?_)
  refine lv_aload_n hx hb dX8_opening_0 rfl (lv_at hl 0 rfl) ?_
  refine lv_iload_n hx hb dX8_opening_1 rfl (lv_at hl 1 rfl) ?_
  refine lv_if_lt (tgt := 12) hx hb dX8_opening_2 (by decide) (fun c_2 => ?_) (fun c_2 => ?_)
  · have hok : ¬ okOp w := fun z => z.1 c_2
    refine lv_iconst (v := 1) hx hb dX8_opening_12 (by decide) ?_
    refine lv_goto (tgt := 17) hx hb dX8_opening_13 (by decide) ?_
    refine va_put (D := D) (ci := 6) (v := .int 1) (ty := .int) (C := RX8) (T := TX8) (N := 23) hx hb hts iX8 tyX8 tyX8_ok nmX8 hown hK hP hD hS 0 rfl rfl 0 (by decide) k50 (fun _ h9 => h9) rfl (by decide +kernel) rfl rfl (Nat.le_of_ble_eq_true rfl) dX8_opening_17 (fun H locs hP hD hS => ?_)
    have hP : va_P D vwCl [(m8, .inr (6, [.int 1, .ref wa, .ref pa8, .ref sta, .ref mo, .ref hea, .ref tha, .int ig, .int io, .int op8, .int pl8, .int py, .int wn, .int tu, .int la, .int ps, .ref hd8, .ref od8, .long tb, .ref cd8, .int dr, .ref opa, .ref osa]))] H := hP
    have hD : va_D A [(m8, .inr (6, [.int 1, .ref wa, .ref pa8, .ref sta, .ref mo, .ref hea, .ref tha, .int ig, .int io, .int op8, .int pl8, .int py, .int wn, .int tu, .int la, .int ps, .ref hd8, .ref od8, .long tb, .ref cd8, .int dr, .ref opa, .ref osa]))] := hD
    refine lv_aload_n hx hb dX8_opening_20 rfl (lv_at hl 0 rfl) ?_
    refine va_get (D := D) (ci := 6) (v := .int 1) (C := RX8) (T := TX8) (N := 23) hx hb hts iX8 hown hK hP 0 rfl rfl 0 (by decide) k50 (fun _ h9 => h9) rfl dX8_opening_21 ?_
    refine lv_if_ne (tgt := 32) hx hb dX8_opening_24 (by decide) (fun c_24 => ?_) (fun c_24 => ?_)
    · refine lv_aload_n hx hb dX8_opening_32 rfl (lv_at hl 0 rfl) ?_
      refine va_get (D := D) (ci := 6) (v := .int 1) (C := RX8) (T := TX8) (N := 23) hx hb hts iX8 hown hK hP 0 rfl rfl 0 (by decide) k50 (fun _ h9 => h9) rfl dX8_opening_33 ?_
      refine lv_if_ne (tgt := 43) hx hb dX8_opening_36 (by decide) (fun c_36 => ?_) (fun c_36 => ?_)
      · refine lv_iconst (v := 0) hx hb dX8_opening_43 (by decide) ?_
        rw [← hQ]
        have hP9 := hP.sub (ws' := [(m8, .inr (6, [.int 1, .ref wa, .ref pa8, .ref sta, .ref mo, .ref hea, .ref tha, .int ig, .int io, .int op8, .int pl8, .int py, .int wn, .int tu, .int la, .int ps, .ref hd8, .ref od8, .long tb, .ref cd8, .int dr, .ref opa, .ref osa]))]) [0] rfl
        have hD9 := hD.sub (ws' := [(m8, .inr (6, [.int 1, .ref wa, .ref pa8, .ref sta, .ref mo, .ref hea, .ref tha, .int ig, .int io, .int op8, .int pl8, .int py, .int wn, .int tu, .int la, .int ps, .ref hd8, .ref od8, .long tb, .ref cd8, .int dr, .ref opa, .ref osa]))]) [0] (by decide) rfl
        exact W.zret (v := 0) hx hb hr (by first | decide | rfl | assumption) (fun t ht hW => ⟨⟨0, (1, op8), rfl, (by first | exact ⟨fun _ => ⟨rfl, rfl, rfl⟩, fun z => absurd hok z⟩ | exact ⟨fun z => absurd z hok, fun _ => ⟨rfl, rfl, rfl⟩⟩ | exact absurd rfl c_24 | exact absurd rfl c_36 | exact absurd c_24 (by decide) | exact absurd c_36 (by decide)), (by show wB D A _ t; exact ⟨by rw [ht]; exact hP9, hD9⟩)⟩, hS.F ht⟩) hS.2.2 dX8_opening_44
      · refine lv_iconst (v := 1) hx hb dX8_opening_39 (by decide) ?_
        refine lv_goto (tgt := 44) hx hb dX8_opening_40 (by decide) ?_
        rw [← hQ]
        have hP9 := hP.sub (ws' := [(m8, .inr (6, [.int 1, .ref wa, .ref pa8, .ref sta, .ref mo, .ref hea, .ref tha, .int ig, .int io, .int op8, .int pl8, .int py, .int wn, .int tu, .int la, .int ps, .ref hd8, .ref od8, .long tb, .ref cd8, .int dr, .ref opa, .ref osa]))]) [0] rfl
        have hD9 := hD.sub (ws' := [(m8, .inr (6, [.int 1, .ref wa, .ref pa8, .ref sta, .ref mo, .ref hea, .ref tha, .int ig, .int io, .int op8, .int pl8, .int py, .int wn, .int tu, .int la, .int ps, .ref hd8, .ref od8, .long tb, .ref cd8, .int dr, .ref opa, .ref osa]))]) [0] (by decide) rfl
        exact W.zret (v := 1) hx hb hr (by first | decide | rfl | assumption) (fun t ht hW => ⟨⟨1, (1, op8), rfl, (by first | exact ⟨fun _ => ⟨rfl, rfl, rfl⟩, fun z => absurd hok z⟩ | exact ⟨fun z => absurd z hok, fun _ => ⟨rfl, rfl, rfl⟩⟩ | exact absurd rfl c_24 | exact absurd rfl c_36 | exact absurd c_24 (by decide) | exact absurd c_36 (by decide)), (by show wB D A _ t; exact ⟨by rw [ht]; exact hP9, hD9⟩)⟩, hS.F ht⟩) hS.2.2 dX8_opening_44
    · refine lv_aload_n hx hb dX8_opening_27 rfl (lv_at hl 0 rfl) ?_
      refine lv_iload_n hx hb dX8_opening_28 rfl (lv_at hl 1 rfl) ?_
      refine va_put (D := D) (ci := 6) (v := .int w) (ty := .int) (C := RX8) (T := TX8) (N := 23) hx hb hts iX8 tyX8 tyX8_ok nmX8 hown hK hP hD hS 0 rfl rfl 9 (by decide) k31 (fun _ h9 => h9) rfl (by decide +kernel) rfl rfl (Nat.le_of_ble_eq_true rfl) dX8_opening_29 (fun H locs hP hD hS => ?_)
      have hP : va_P D vwCl [(m8, .inr (6, [.int 1, .ref wa, .ref pa8, .ref sta, .ref mo, .ref hea, .ref tha, .int ig, .int io, .int w, .int pl8, .int py, .int wn, .int tu, .int la, .int ps, .ref hd8, .ref od8, .long tb, .ref cd8, .int dr, .ref opa, .ref osa]))] H := hP
      have hD : va_D A [(m8, .inr (6, [.int 1, .ref wa, .ref pa8, .ref sta, .ref mo, .ref hea, .ref tha, .int ig, .int io, .int w, .int pl8, .int py, .int wn, .int tu, .int la, .int ps, .ref hd8, .ref od8, .long tb, .ref cd8, .int dr, .ref opa, .ref osa]))] := hD
      refine lv_aload_n hx hb dX8_opening_32 rfl (lv_at hl 0 rfl) ?_
      refine va_get (D := D) (ci := 6) (v := .int 1) (C := RX8) (T := TX8) (N := 23) hx hb hts iX8 hown hK hP 0 rfl rfl 0 (by decide) k50 (fun _ h9 => h9) rfl dX8_opening_33 ?_
      refine lv_if_ne (tgt := 43) hx hb dX8_opening_36 (by decide) (fun c_36 => ?_) (fun c_36 => ?_)
      · refine lv_iconst (v := 0) hx hb dX8_opening_43 (by decide) ?_
        rw [← hQ]
        have hP9 := hP.sub (ws' := [(m8, .inr (6, [.int 1, .ref wa, .ref pa8, .ref sta, .ref mo, .ref hea, .ref tha, .int ig, .int io, .int w, .int pl8, .int py, .int wn, .int tu, .int la, .int ps, .ref hd8, .ref od8, .long tb, .ref cd8, .int dr, .ref opa, .ref osa]))]) [0] rfl
        have hD9 := hD.sub (ws' := [(m8, .inr (6, [.int 1, .ref wa, .ref pa8, .ref sta, .ref mo, .ref hea, .ref tha, .int ig, .int io, .int w, .int pl8, .int py, .int wn, .int tu, .int la, .int ps, .ref hd8, .ref od8, .long tb, .ref cd8, .int dr, .ref opa, .ref osa]))]) [0] (by decide) rfl
        exact W.zret (v := 0) hx hb hr (by first | decide | rfl | assumption) (fun t ht hW => ⟨⟨0, (1, w), rfl, (by first | exact ⟨fun _ => ⟨rfl, rfl, rfl⟩, fun z => absurd hok z⟩ | exact ⟨fun z => absurd z hok, fun _ => ⟨rfl, rfl, rfl⟩⟩ | exact absurd rfl c_24 | exact absurd rfl c_36 | exact absurd c_24 (by decide) | exact absurd c_36 (by decide)), (by show wB D A _ t; exact ⟨by rw [ht]; exact hP9, hD9⟩)⟩, hS.F ht⟩) hS.2.2 dX8_opening_44
      · refine lv_iconst (v := 1) hx hb dX8_opening_39 (by decide) ?_
        refine lv_goto (tgt := 44) hx hb dX8_opening_40 (by decide) ?_
        rw [← hQ]
        have hP9 := hP.sub (ws' := [(m8, .inr (6, [.int 1, .ref wa, .ref pa8, .ref sta, .ref mo, .ref hea, .ref tha, .int ig, .int io, .int w, .int pl8, .int py, .int wn, .int tu, .int la, .int ps, .ref hd8, .ref od8, .long tb, .ref cd8, .int dr, .ref opa, .ref osa]))]) [0] rfl
        have hD9 := hD.sub (ws' := [(m8, .inr (6, [.int 1, .ref wa, .ref pa8, .ref sta, .ref mo, .ref hea, .ref tha, .int ig, .int io, .int w, .int pl8, .int py, .int wn, .int tu, .int la, .int ps, .ref hd8, .ref od8, .long tb, .ref cd8, .int dr, .ref opa, .ref osa]))]) [0] (by decide) rfl
        exact W.zret (v := 1) hx hb hr (by first | decide | rfl | assumption) (fun t ht hW => ⟨⟨1, (1, w), rfl, (by first | exact ⟨fun _ => ⟨rfl, rfl, rfl⟩, fun z => absurd hok z⟩ | exact ⟨fun z => absurd z hok, fun _ => ⟨rfl, rfl, rfl⟩⟩ | exact absurd rfl c_24 | exact absurd rfl c_36 | exact absurd c_24 (by decide) | exact absurd c_36 (by decide)), (by show wB D A _ t; exact ⟨by rw [ht]; exact hP9, hD9⟩)⟩, hS.F ht⟩) hS.2.2 dX8_opening_44
  · refine lv_iload_n hx hb dX8_opening_5 rfl (lv_at hl 1 rfl) ?_
    refine lv_sipush (v := 200) hx hb dX8_opening_6 (by decide) ?_
    refine lv_icmp_le (tgt := 16) hx hb dX8_opening_9 (by decide) (fun c_9 => ?_) (fun c_9 => ?_)
    · have hok : okOp w := ⟨c_2, c_9⟩
      refine lv_iconst (v := 0) hx hb dX8_opening_16 (by decide) ?_
      refine va_put (D := D) (ci := 6) (v := .int 0) (ty := .int) (C := RX8) (T := TX8) (N := 23) hx hb hts iX8 tyX8 tyX8_ok nmX8 hown hK hP hD hS 0 rfl rfl 0 (by decide) k50 (fun _ h9 => h9) rfl (by decide +kernel) rfl rfl (Nat.le_of_ble_eq_true rfl) dX8_opening_17 (fun H locs hP hD hS => ?_)
      have hP : va_P D vwCl [(m8, .inr (6, [.int 0, .ref wa, .ref pa8, .ref sta, .ref mo, .ref hea, .ref tha, .int ig, .int io, .int op8, .int pl8, .int py, .int wn, .int tu, .int la, .int ps, .ref hd8, .ref od8, .long tb, .ref cd8, .int dr, .ref opa, .ref osa]))] H := hP
      have hD : va_D A [(m8, .inr (6, [.int 0, .ref wa, .ref pa8, .ref sta, .ref mo, .ref hea, .ref tha, .int ig, .int io, .int op8, .int pl8, .int py, .int wn, .int tu, .int la, .int ps, .ref hd8, .ref od8, .long tb, .ref cd8, .int dr, .ref opa, .ref osa]))] := hD
      refine lv_aload_n hx hb dX8_opening_20 rfl (lv_at hl 0 rfl) ?_
      refine va_get (D := D) (ci := 6) (v := .int 0) (C := RX8) (T := TX8) (N := 23) hx hb hts iX8 hown hK hP 0 rfl rfl 0 (by decide) k50 (fun _ h9 => h9) rfl dX8_opening_21 ?_
      refine lv_if_ne (tgt := 32) hx hb dX8_opening_24 (by decide) (fun c_24 => ?_) (fun c_24 => ?_)
      · refine lv_aload_n hx hb dX8_opening_32 rfl (lv_at hl 0 rfl) ?_
        refine va_get (D := D) (ci := 6) (v := .int 0) (C := RX8) (T := TX8) (N := 23) hx hb hts iX8 hown hK hP 0 rfl rfl 0 (by decide) k50 (fun _ h9 => h9) rfl dX8_opening_33 ?_
        refine lv_if_ne (tgt := 43) hx hb dX8_opening_36 (by decide) (fun c_36 => ?_) (fun c_36 => ?_)
        · refine lv_iconst (v := 0) hx hb dX8_opening_43 (by decide) ?_
          rw [← hQ]
          have hP9 := hP.sub (ws' := [(m8, .inr (6, [.int 0, .ref wa, .ref pa8, .ref sta, .ref mo, .ref hea, .ref tha, .int ig, .int io, .int op8, .int pl8, .int py, .int wn, .int tu, .int la, .int ps, .ref hd8, .ref od8, .long tb, .ref cd8, .int dr, .ref opa, .ref osa]))]) [0] rfl
          have hD9 := hD.sub (ws' := [(m8, .inr (6, [.int 0, .ref wa, .ref pa8, .ref sta, .ref mo, .ref hea, .ref tha, .int ig, .int io, .int op8, .int pl8, .int py, .int wn, .int tu, .int la, .int ps, .ref hd8, .ref od8, .long tb, .ref cd8, .int dr, .ref opa, .ref osa]))]) [0] (by decide) rfl
          exact W.zret (v := 0) hx hb hr (by first | decide | rfl | assumption) (fun t ht hW => ⟨⟨0, (0, op8), rfl, (by first | exact ⟨fun _ => ⟨rfl, rfl, rfl⟩, fun z => absurd hok z⟩ | exact ⟨fun z => absurd z hok, fun _ => ⟨rfl, rfl, rfl⟩⟩ | exact absurd rfl c_24 | exact absurd rfl c_36 | exact absurd c_24 (by decide) | exact absurd c_36 (by decide)), (by show wB D A _ t; exact ⟨by rw [ht]; exact hP9, hD9⟩)⟩, hS.F ht⟩) hS.2.2 dX8_opening_44
        · refine lv_iconst (v := 1) hx hb dX8_opening_39 (by decide) ?_
          refine lv_goto (tgt := 44) hx hb dX8_opening_40 (by decide) ?_
          rw [← hQ]
          have hP9 := hP.sub (ws' := [(m8, .inr (6, [.int 0, .ref wa, .ref pa8, .ref sta, .ref mo, .ref hea, .ref tha, .int ig, .int io, .int op8, .int pl8, .int py, .int wn, .int tu, .int la, .int ps, .ref hd8, .ref od8, .long tb, .ref cd8, .int dr, .ref opa, .ref osa]))]) [0] rfl
          have hD9 := hD.sub (ws' := [(m8, .inr (6, [.int 0, .ref wa, .ref pa8, .ref sta, .ref mo, .ref hea, .ref tha, .int ig, .int io, .int op8, .int pl8, .int py, .int wn, .int tu, .int la, .int ps, .ref hd8, .ref od8, .long tb, .ref cd8, .int dr, .ref opa, .ref osa]))]) [0] (by decide) rfl
          exact W.zret (v := 1) hx hb hr (by first | decide | rfl | assumption) (fun t ht hW => ⟨⟨1, (0, op8), rfl, (by first | exact ⟨fun _ => ⟨rfl, rfl, rfl⟩, fun z => absurd hok z⟩ | exact ⟨fun z => absurd z hok, fun _ => ⟨rfl, rfl, rfl⟩⟩ | exact absurd rfl c_24 | exact absurd rfl c_36 | exact absurd c_24 (by decide) | exact absurd c_36 (by decide)), (by show wB D A _ t; exact ⟨by rw [ht]; exact hP9, hD9⟩)⟩, hS.F ht⟩) hS.2.2 dX8_opening_44
      · refine lv_aload_n hx hb dX8_opening_27 rfl (lv_at hl 0 rfl) ?_
        refine lv_iload_n hx hb dX8_opening_28 rfl (lv_at hl 1 rfl) ?_
        refine va_put (D := D) (ci := 6) (v := .int w) (ty := .int) (C := RX8) (T := TX8) (N := 23) hx hb hts iX8 tyX8 tyX8_ok nmX8 hown hK hP hD hS 0 rfl rfl 9 (by decide) k31 (fun _ h9 => h9) rfl (by decide +kernel) rfl rfl (Nat.le_of_ble_eq_true rfl) dX8_opening_29 (fun H locs hP hD hS => ?_)
        have hP : va_P D vwCl [(m8, .inr (6, [.int 0, .ref wa, .ref pa8, .ref sta, .ref mo, .ref hea, .ref tha, .int ig, .int io, .int w, .int pl8, .int py, .int wn, .int tu, .int la, .int ps, .ref hd8, .ref od8, .long tb, .ref cd8, .int dr, .ref opa, .ref osa]))] H := hP
        have hD : va_D A [(m8, .inr (6, [.int 0, .ref wa, .ref pa8, .ref sta, .ref mo, .ref hea, .ref tha, .int ig, .int io, .int w, .int pl8, .int py, .int wn, .int tu, .int la, .int ps, .ref hd8, .ref od8, .long tb, .ref cd8, .int dr, .ref opa, .ref osa]))] := hD
        refine lv_aload_n hx hb dX8_opening_32 rfl (lv_at hl 0 rfl) ?_
        refine va_get (D := D) (ci := 6) (v := .int 0) (C := RX8) (T := TX8) (N := 23) hx hb hts iX8 hown hK hP 0 rfl rfl 0 (by decide) k50 (fun _ h9 => h9) rfl dX8_opening_33 ?_
        refine lv_if_ne (tgt := 43) hx hb dX8_opening_36 (by decide) (fun c_36 => ?_) (fun c_36 => ?_)
        · refine lv_iconst (v := 0) hx hb dX8_opening_43 (by decide) ?_
          rw [← hQ]
          have hP9 := hP.sub (ws' := [(m8, .inr (6, [.int 0, .ref wa, .ref pa8, .ref sta, .ref mo, .ref hea, .ref tha, .int ig, .int io, .int w, .int pl8, .int py, .int wn, .int tu, .int la, .int ps, .ref hd8, .ref od8, .long tb, .ref cd8, .int dr, .ref opa, .ref osa]))]) [0] rfl
          have hD9 := hD.sub (ws' := [(m8, .inr (6, [.int 0, .ref wa, .ref pa8, .ref sta, .ref mo, .ref hea, .ref tha, .int ig, .int io, .int w, .int pl8, .int py, .int wn, .int tu, .int la, .int ps, .ref hd8, .ref od8, .long tb, .ref cd8, .int dr, .ref opa, .ref osa]))]) [0] (by decide) rfl
          exact W.zret (v := 0) hx hb hr (by first | decide | rfl | assumption) (fun t ht hW => ⟨⟨0, (0, w), rfl, (by first | exact ⟨fun _ => ⟨rfl, rfl, rfl⟩, fun z => absurd hok z⟩ | exact ⟨fun z => absurd z hok, fun _ => ⟨rfl, rfl, rfl⟩⟩ | exact absurd rfl c_24 | exact absurd rfl c_36 | exact absurd c_24 (by decide) | exact absurd c_36 (by decide)), (by show wB D A _ t; exact ⟨by rw [ht]; exact hP9, hD9⟩)⟩, hS.F ht⟩) hS.2.2 dX8_opening_44
        · refine lv_iconst (v := 1) hx hb dX8_opening_39 (by decide) ?_
          refine lv_goto (tgt := 44) hx hb dX8_opening_40 (by decide) ?_
          rw [← hQ]
          have hP9 := hP.sub (ws' := [(m8, .inr (6, [.int 0, .ref wa, .ref pa8, .ref sta, .ref mo, .ref hea, .ref tha, .int ig, .int io, .int w, .int pl8, .int py, .int wn, .int tu, .int la, .int ps, .ref hd8, .ref od8, .long tb, .ref cd8, .int dr, .ref opa, .ref osa]))]) [0] rfl
          have hD9 := hD.sub (ws' := [(m8, .inr (6, [.int 0, .ref wa, .ref pa8, .ref sta, .ref mo, .ref hea, .ref tha, .int ig, .int io, .int w, .int pl8, .int py, .int wn, .int tu, .int la, .int ps, .ref hd8, .ref od8, .long tb, .ref cd8, .int dr, .ref opa, .ref osa]))]) [0] (by decide) rfl
          exact W.zret (v := 1) hx hb hr (by first | decide | rfl | assumption) (fun t ht hW => ⟨⟨1, (0, w), rfl, (by first | exact ⟨fun _ => ⟨rfl, rfl, rfl⟩, fun z => absurd hok z⟩ | exact ⟨fun z => absurd z hok, fun _ => ⟨rfl, rfl, rfl⟩⟩ | exact absurd rfl c_24 | exact absurd rfl c_36 | exact absurd c_24 (by decide) | exact absurd c_36 (by decide)), (by show wB D A _ t; exact ⟨by rw [ht]; exact hP9, hD9⟩)⟩, hS.F ht⟩) hS.2.2 dX8_opening_44
    · have hok : ¬ okOp w := fun z => c_9 z.2
      refine lv_iconst (v := 1) hx hb dX8_opening_12 (by decide) ?_
      refine lv_goto (tgt := 17) hx hb dX8_opening_13 (by decide) ?_
      refine va_put (D := D) (ci := 6) (v := .int 1) (ty := .int) (C := RX8) (T := TX8) (N := 23) hx hb hts iX8 tyX8 tyX8_ok nmX8 hown hK hP hD hS 0 rfl rfl 0 (by decide) k50 (fun _ h9 => h9) rfl (by decide +kernel) rfl rfl (Nat.le_of_ble_eq_true rfl) dX8_opening_17 (fun H locs hP hD hS => ?_)
      have hP : va_P D vwCl [(m8, .inr (6, [.int 1, .ref wa, .ref pa8, .ref sta, .ref mo, .ref hea, .ref tha, .int ig, .int io, .int op8, .int pl8, .int py, .int wn, .int tu, .int la, .int ps, .ref hd8, .ref od8, .long tb, .ref cd8, .int dr, .ref opa, .ref osa]))] H := hP
      have hD : va_D A [(m8, .inr (6, [.int 1, .ref wa, .ref pa8, .ref sta, .ref mo, .ref hea, .ref tha, .int ig, .int io, .int op8, .int pl8, .int py, .int wn, .int tu, .int la, .int ps, .ref hd8, .ref od8, .long tb, .ref cd8, .int dr, .ref opa, .ref osa]))] := hD
      refine lv_aload_n hx hb dX8_opening_20 rfl (lv_at hl 0 rfl) ?_
      refine va_get (D := D) (ci := 6) (v := .int 1) (C := RX8) (T := TX8) (N := 23) hx hb hts iX8 hown hK hP 0 rfl rfl 0 (by decide) k50 (fun _ h9 => h9) rfl dX8_opening_21 ?_
      refine lv_if_ne (tgt := 32) hx hb dX8_opening_24 (by decide) (fun c_24 => ?_) (fun c_24 => ?_)
      · refine lv_aload_n hx hb dX8_opening_32 rfl (lv_at hl 0 rfl) ?_
        refine va_get (D := D) (ci := 6) (v := .int 1) (C := RX8) (T := TX8) (N := 23) hx hb hts iX8 hown hK hP 0 rfl rfl 0 (by decide) k50 (fun _ h9 => h9) rfl dX8_opening_33 ?_
        refine lv_if_ne (tgt := 43) hx hb dX8_opening_36 (by decide) (fun c_36 => ?_) (fun c_36 => ?_)
        · refine lv_iconst (v := 0) hx hb dX8_opening_43 (by decide) ?_
          rw [← hQ]
          have hP9 := hP.sub (ws' := [(m8, .inr (6, [.int 1, .ref wa, .ref pa8, .ref sta, .ref mo, .ref hea, .ref tha, .int ig, .int io, .int op8, .int pl8, .int py, .int wn, .int tu, .int la, .int ps, .ref hd8, .ref od8, .long tb, .ref cd8, .int dr, .ref opa, .ref osa]))]) [0] rfl
          have hD9 := hD.sub (ws' := [(m8, .inr (6, [.int 1, .ref wa, .ref pa8, .ref sta, .ref mo, .ref hea, .ref tha, .int ig, .int io, .int op8, .int pl8, .int py, .int wn, .int tu, .int la, .int ps, .ref hd8, .ref od8, .long tb, .ref cd8, .int dr, .ref opa, .ref osa]))]) [0] (by decide) rfl
          exact W.zret (v := 0) hx hb hr (by first | decide | rfl | assumption) (fun t ht hW => ⟨⟨0, (1, op8), rfl, (by first | exact ⟨fun _ => ⟨rfl, rfl, rfl⟩, fun z => absurd hok z⟩ | exact ⟨fun z => absurd z hok, fun _ => ⟨rfl, rfl, rfl⟩⟩ | exact absurd rfl c_24 | exact absurd rfl c_36 | exact absurd c_24 (by decide) | exact absurd c_36 (by decide)), (by show wB D A _ t; exact ⟨by rw [ht]; exact hP9, hD9⟩)⟩, hS.F ht⟩) hS.2.2 dX8_opening_44
        · refine lv_iconst (v := 1) hx hb dX8_opening_39 (by decide) ?_
          refine lv_goto (tgt := 44) hx hb dX8_opening_40 (by decide) ?_
          rw [← hQ]
          have hP9 := hP.sub (ws' := [(m8, .inr (6, [.int 1, .ref wa, .ref pa8, .ref sta, .ref mo, .ref hea, .ref tha, .int ig, .int io, .int op8, .int pl8, .int py, .int wn, .int tu, .int la, .int ps, .ref hd8, .ref od8, .long tb, .ref cd8, .int dr, .ref opa, .ref osa]))]) [0] rfl
          have hD9 := hD.sub (ws' := [(m8, .inr (6, [.int 1, .ref wa, .ref pa8, .ref sta, .ref mo, .ref hea, .ref tha, .int ig, .int io, .int op8, .int pl8, .int py, .int wn, .int tu, .int la, .int ps, .ref hd8, .ref od8, .long tb, .ref cd8, .int dr, .ref opa, .ref osa]))]) [0] (by decide) rfl
          exact W.zret (v := 1) hx hb hr (by first | decide | rfl | assumption) (fun t ht hW => ⟨⟨1, (1, op8), rfl, (by first | exact ⟨fun _ => ⟨rfl, rfl, rfl⟩, fun z => absurd hok z⟩ | exact ⟨fun z => absurd z hok, fun _ => ⟨rfl, rfl, rfl⟩⟩ | exact absurd rfl c_24 | exact absurd rfl c_36 | exact absurd c_24 (by decide) | exact absurd c_36 (by decide)), (by show wB D A _ t; exact ⟨by rw [ht]; exact hP9, hD9⟩)⟩, hS.F ht⟩) hS.2.2 dX8_opening_44
      · refine lv_aload_n hx hb dX8_opening_27 rfl (lv_at hl 0 rfl) ?_
        refine lv_iload_n hx hb dX8_opening_28 rfl (lv_at hl 1 rfl) ?_
        refine va_put (D := D) (ci := 6) (v := .int w) (ty := .int) (C := RX8) (T := TX8) (N := 23) hx hb hts iX8 tyX8 tyX8_ok nmX8 hown hK hP hD hS 0 rfl rfl 9 (by decide) k31 (fun _ h9 => h9) rfl (by decide +kernel) rfl rfl (Nat.le_of_ble_eq_true rfl) dX8_opening_29 (fun H locs hP hD hS => ?_)
        have hP : va_P D vwCl [(m8, .inr (6, [.int 1, .ref wa, .ref pa8, .ref sta, .ref mo, .ref hea, .ref tha, .int ig, .int io, .int w, .int pl8, .int py, .int wn, .int tu, .int la, .int ps, .ref hd8, .ref od8, .long tb, .ref cd8, .int dr, .ref opa, .ref osa]))] H := hP
        have hD : va_D A [(m8, .inr (6, [.int 1, .ref wa, .ref pa8, .ref sta, .ref mo, .ref hea, .ref tha, .int ig, .int io, .int w, .int pl8, .int py, .int wn, .int tu, .int la, .int ps, .ref hd8, .ref od8, .long tb, .ref cd8, .int dr, .ref opa, .ref osa]))] := hD
        refine lv_aload_n hx hb dX8_opening_32 rfl (lv_at hl 0 rfl) ?_
        refine va_get (D := D) (ci := 6) (v := .int 1) (C := RX8) (T := TX8) (N := 23) hx hb hts iX8 hown hK hP 0 rfl rfl 0 (by decide) k50 (fun _ h9 => h9) rfl dX8_opening_33 ?_
        refine lv_if_ne (tgt := 43) hx hb dX8_opening_36 (by decide) (fun c_36 => ?_) (fun c_36 => ?_)
        · refine lv_iconst (v := 0) hx hb dX8_opening_43 (by decide) ?_
          rw [← hQ]
          have hP9 := hP.sub (ws' := [(m8, .inr (6, [.int 1, .ref wa, .ref pa8, .ref sta, .ref mo, .ref hea, .ref tha, .int ig, .int io, .int w, .int pl8, .int py, .int wn, .int tu, .int la, .int ps, .ref hd8, .ref od8, .long tb, .ref cd8, .int dr, .ref opa, .ref osa]))]) [0] rfl
          have hD9 := hD.sub (ws' := [(m8, .inr (6, [.int 1, .ref wa, .ref pa8, .ref sta, .ref mo, .ref hea, .ref tha, .int ig, .int io, .int w, .int pl8, .int py, .int wn, .int tu, .int la, .int ps, .ref hd8, .ref od8, .long tb, .ref cd8, .int dr, .ref opa, .ref osa]))]) [0] (by decide) rfl
          exact W.zret (v := 0) hx hb hr (by first | decide | rfl | assumption) (fun t ht hW => ⟨⟨0, (1, w), rfl, (by first | exact ⟨fun _ => ⟨rfl, rfl, rfl⟩, fun z => absurd hok z⟩ | exact ⟨fun z => absurd z hok, fun _ => ⟨rfl, rfl, rfl⟩⟩ | exact absurd rfl c_24 | exact absurd rfl c_36 | exact absurd c_24 (by decide) | exact absurd c_36 (by decide)), (by show wB D A _ t; exact ⟨by rw [ht]; exact hP9, hD9⟩)⟩, hS.F ht⟩) hS.2.2 dX8_opening_44
        · refine lv_iconst (v := 1) hx hb dX8_opening_39 (by decide) ?_
          refine lv_goto (tgt := 44) hx hb dX8_opening_40 (by decide) ?_
          rw [← hQ]
          have hP9 := hP.sub (ws' := [(m8, .inr (6, [.int 1, .ref wa, .ref pa8, .ref sta, .ref mo, .ref hea, .ref tha, .int ig, .int io, .int w, .int pl8, .int py, .int wn, .int tu, .int la, .int ps, .ref hd8, .ref od8, .long tb, .ref cd8, .int dr, .ref opa, .ref osa]))]) [0] rfl
          have hD9 := hD.sub (ws' := [(m8, .inr (6, [.int 1, .ref wa, .ref pa8, .ref sta, .ref mo, .ref hea, .ref tha, .int ig, .int io, .int w, .int pl8, .int py, .int wn, .int tu, .int la, .int ps, .ref hd8, .ref od8, .long tb, .ref cd8, .int dr, .ref opa, .ref osa]))]) [0] (by decide) rfl
          exact W.zret (v := 1) hx hb hr (by first | decide | rfl | assumption) (fun t ht hW => ⟨⟨1, (1, w), rfl, (by first | exact ⟨fun _ => ⟨rfl, rfl, rfl⟩, fun z => absurd hok z⟩ | exact ⟨fun z => absurd z hok, fun _ => ⟨rfl, rfl, rfl⟩⟩ | exact absurd rfl c_24 | exact absurd rfl c_36 | exact absurd c_24 (by decide) | exact absurd c_36 (by decide)), (by show wB D A _ t; exact ⟨by rw [ht]; exact hP9, hD9⟩)⟩, hS.F ht⟩) hS.2.2 dX8_opening_44

set_option maxHeartbeats 4000000 in
set_option maxRecDepth 100000 in
theorem k_X8_hand (l : Launch) (D : va_G) (cI cJ cZ : ClassId) (sz : Nat) (m8 wa pa8 sta mo hea tha hd8 od8 cd8 opa osa : Nat) (st8 ig io op8 pl8 py wn tu la ps dr : Int32) (tb : Int64) (hf8 : Nat → Int64) (plr : Int32)  : Met l yX8_hand wsX8_hand ({ frames := 1, cells := 0, slots := 0, locals := 21 } : Room) (va_Pc [.ref m8, .int plr] (wM D cI cJ cZ sz [(m8, .inr (6, [.int st8, .ref wa, .ref pa8, .ref sta, .ref mo, .ref hea, .ref tha, .int ig, .int io, .int op8, .int pl8, .int py, .int wn, .int tu, .int la, .int ps, .ref hd8, .ref od8, .long tb, .ref cd8, .int dr, .ref opa, .ref osa])), (hd8, .inl (cJ, 4, .inr (.inl hf8)))])) (va_Ql (fun (r : Int64) (u : (Int32)) => match u with | st2 => ((st2, r) = j_hand ig pl8 hf8 plr)) (fun (u : (Int32)) t => match u with | st2 => wB D (va_A [(m8, .inr (6, [.int st8, .ref wa, .ref pa8, .ref sta, .ref mo, .ref hea, .ref tha, .int ig, .int io, .int op8, .int pl8, .int py, .int wn, .int tu, .int la, .int ps, .ref hd8, .ref od8, .long tb, .ref cd8, .int dr, .ref opa, .ref osa])), (hd8, .inl (cJ, 4, .inr (.inl hf8)))] sz) [(m8, .inr (6, [.int st2, .ref wa, .ref pa8, .ref sta, .ref mo, .ref hea, .ref tha, .int ig, .int io, .int op8, .int pl8, .int py, .int wn, .int tu, .int la, .int ps, .ref hd8, .ref od8, .long tb, .ref cd8, .int dr, .ref opa, .ref osa])), (hd8, .inl (cJ, 4, .inr (.inl hf8)))] t) (va_A [(m8, .inr (6, [.int st8, .ref wa, .ref pa8, .ref sta, .ref mo, .ref hea, .ref tha, .int ig, .int io, .int op8, .int pl8, .int py, .int wn, .int tu, .int la, .int ps, .ref hd8, .ref od8, .long tb, .ref cd8, .int dr, .ref opa, .ref osa])), (hd8, .inl (cJ, 4, .inr (.inl hf8)))] sz)) 0 0 (va_A [(m8, .inr (6, [.int st8, .ref wa, .ref pa8, .ref sta, .ref mo, .ref hea, .ref tha, .int ig, .int io, .int op8, .int pl8, .int py, .int wn, .int tu, .int la, .int ps, .ref hd8, .ref od8, .long tb, .ref cd8, .int dr, .ref opa, .ref osa])), (hd8, .inl (cJ, 4, .inr (.inl hf8)))] sz) := by
  refine Met.ofW (cc := cX8_hand) (maxL := 2) (ret := (some .long)) (by decide) rfl ?_
  intro p e s m args below meth c s₁ B hml hv
  obtain ⟨hargs, hsz, hP, ⟨hK, hN⟩, hD0⟩ := hv
  have hx := B.exec
  have hb := B.bytes
  have hr := B.returns
  have hlocks := B.notSynchronized
  have hts := atoms_spec (ws := wsX8_hand) B.pre
  have hown : s.vm.findClass RX8 = some m.cls := findClass_of_methodNamed B.named
  have k90 := hts (.methodLink RX8 90 yX8_none) (by decide +kernel)
  have k158 := hts (.fieldLink RX8 158 "RummyTableModel" "isGame" "Z") (by decide +kernel)
  have iX8 : ∀ w ∈ wsX80, w ∈ wsX8_hand := by decide +kernel
  have k155 := hts (.fieldLink RX8 155 "RummyTableModel" "players" "I") (by decide +kernel)
  have k50 := hts (.fieldLink RX8 50 "RummyTableModel" "status" "I") (by decide +kernel)
  have k35 := hts (.fieldLink RX8 35 "RummyTableModel" "hands" "[J") (by decide +kernel)
  subst hsz
  have hD := hD0.self (sz := s.heap.size)
  generalize hAe : va_A [(m8, .inr (6, [.int st8, .ref wa, .ref pa8, .ref sta, .ref mo, .ref hea, .ref tha, .int ig, .int io, .int op8, .int pl8, .int py, .int wn, .int tu, .int la, .int ps, .ref hd8, .ref od8, .long tb, .ref cd8, .int dr, .ref opa, .ref osa])), (hd8, .inl (cJ, 4, .inr (.inl hf8)))] s.heap.size = A at hD ⊢
  have hA : ∀ q : Nat, s.heap.size ≤ q → A q := fun q h => by rw [← hAe]; exact Or.inr h
  have hS : va_S A s.heap s.heap [] := va_S.rf
  rw [show entryFrame m args 2 = entryFrame m ([.ref m8, .int plr] : List Value).toArray 2 from by rw [hargs]]
  have hl := lv_entry ([.ref m8, .int plr]) (n := 2) (Nat.le_of_ble_eq_true rfl)
  rw [lg_entry_eq]
  generalize (lg_sl ([.ref m8, .int plr]) ++ List.replicate (2 - (lg_sl ([.ref m8, .int plr])).length) Slot.unset).toArray = ls at hl ⊢
  have hl : lv_has ls 2 [(0, .ref m8), (1, .int plr)] := hl
  refine wQ (fun Q hQ => ?_)
  refine lv_iload_n hx hb dX8_hand_0 rfl (lv_at hl 1 rfl) ?_
  refine lv_if_lt (tgt := 9) hx hb dX8_hand_1 (by decide) (fun c_1 => ?_) (fun c_1 => ?_)
  · refine lv_aload_n hx hb dX8_hand_9 rfl (lv_at hl 0 rfl) ?_
    refine lv_iconst (v := 1) hx hb dX8_hand_10 (by decide) ?_
    have hPc := hP.sub (ws' := [(m8, .inr (6, [.int st8, .ref wa, .ref pa8, .ref sta, .ref mo, .ref hea, .ref tha, .int ig, .int io, .int op8, .int pl8, .int py, .int wn, .int tu, .int la, .int ps, .ref hd8, .ref od8, .long tb, .ref cd8, .int dr, .ref opa, .ref osa]))]) [0] rfl
    have hDc := hD.sub (ws' := [(m8, .inr (6, [.int st8, .ref wa, .ref pa8, .ref sta, .ref mo, .ref hea, .ref tha, .int ig, .int io, .int op8, .int pl8, .int py, .int wn, .int tu, .int la, .int ps, .ref hd8, .ref od8, .long tb, .ref cd8, .int dr, .ref opa, .ref osa]))]) [0] (by decide) rfl
    have hFc := va_free (wc := [(m8, .inr (6, [.int st8, .ref wa, .ref pa8, .ref sta, .ref mo, .ref hea, .ref tha, .int ig, .int io, .int op8, .int pl8, .int py, .int wn, .int tu, .int la, .int ps, .ref hd8, .ref od8, .long tb, .ref cd8, .int dr, .ref opa, .ref osa]))]) hD hS hA [0] rfl
    refine va_calli (va_runV (As := [.int 1]) (rest := []) ⟨hx, hb, hml, hown, hts⟩ (k_X8_none l D cI cJ cZ s.heap.size m8 wa pa8 sta mo hea tha hd8 od8 cd8 opa osa st8 ig io op8 pl8 py wn tu la ps dr tb 1 ) (cwV 1 hts gX8_hand_X8_none rfl rfl rfl (by decide +kernel) ⟨Nat.le_of_ble_eq_true rfl, Nat.le_of_ble_eq_true rfl⟩) ⟨wM_fb, va_recv hK hPc (ci := 6) (q0 := 0) rfl rfl, wM_pre hPc ⟨hK, hN⟩ hDc⟩ rfl rfl hl.1 rfl (lv_room (Nat.le_of_ble_eq_true rfl)) dX8_hand_11 ⟨Nat.le_of_ble_eq_true rfl, Nat.le_of_ble_eq_true rfl⟩) hS (fun q _ h => hFc q h) hFc (fun x11 u t H1 locs ht hvm hx11 hB hz1 hk1 hS => ?_)
    obtain ⟨hP1, hD1⟩ := hB
    rw [ht] at hP1
    obtain ⟨hP, hD⟩ := va_join (wr := [(hd8, .inl (cJ, 4, .inr (.inl hf8)))]) (w1 := [(m8, .inr (6, [.int 1, .ref wa, .ref pa8, .ref sta, .ref mo, .ref hea, .ref tha, .int ig, .int io, .int op8, .int pl8, .int py, .int wn, .int tu, .int la, .int ps, .ref hd8, .ref od8, .long tb, .ref cd8, .int dr, .ref opa, .ref osa]))]) hP hD [0] [1] rfl rfl (by decide) (by decide) hk1 hFc hP1 hD1
    generalize H1 = H at hP hS ⊢
    have hP : va_P D vwCl [(hd8, .inl (cJ, 4, .inr (.inl hf8))), (m8, .inr (6, [.int 1, .ref wa, .ref pa8, .ref sta, .ref mo, .ref hea, .ref tha, .int ig, .int io, .int op8, .int pl8, .int py, .int wn, .int tu, .int la, .int ps, .ref hd8, .ref od8, .long tb, .ref cd8, .int dr, .ref opa, .ref osa]))] H := hP
    have hD : va_D A [(hd8, .inl (cJ, 4, .inr (.inl hf8))), (m8, .inr (6, [.int 1, .ref wa, .ref pa8, .ref sta, .ref mo, .ref hea, .ref tha, .int ig, .int io, .int op8, .int pl8, .int py, .int wn, .int tu, .int la, .int ps, .ref hd8, .ref od8, .long tb, .ref cd8, .int dr, .ref opa, .ref osa]))] := hD
    try dsimp only at hx11
    refine lv_i2l hx hb dX8_hand_14 rfl ?_
    rw [← hQ]
    have hP9 := hP.sub (ws' := [(m8, .inr (6, [.int 1, .ref wa, .ref pa8, .ref sta, .ref mo, .ref hea, .ref tha, .int ig, .int io, .int op8, .int pl8, .int py, .int wn, .int tu, .int la, .int ps, .ref hd8, .ref od8, .long tb, .ref cd8, .int dr, .ref opa, .ref osa])), (hd8, .inl (cJ, 4, .inr (.inl hf8)))]) [1, 0] rfl
    have hD9 := hD.sub (ws' := [(m8, .inr (6, [.int 1, .ref wa, .ref pa8, .ref sta, .ref mo, .ref hea, .ref tha, .int ig, .int io, .int op8, .int pl8, .int py, .int wn, .int tu, .int la, .int ps, .ref hd8, .ref od8, .long tb, .ref cd8, .int dr, .ref opa, .ref osa])), (hd8, .inl (cJ, 4, .inr (.inl hf8)))]) [1, 0] (by decide) rfl
    exact W.lret (v := x11.toInt64) hx hb hr (fun t ht hW => ⟨⟨x11.toInt64, 1, rfl, (by simp only [j_hand]; rw [hx11]; (repeat' split) <;> first | rfl | contradiction), (by show wB D A _ t; exact ⟨by rw [ht]; exact hP9, hD9⟩)⟩, hS.F ht⟩) hS.2.2 dX8_hand_15
  · refine lv_iload_n hx hb dX8_hand_4 rfl (lv_at hl 1 rfl) ?_
    refine lv_iconst (v := 3) hx hb dX8_hand_5 (by decide) ?_
    refine lv_icmp_le (tgt := 16) hx hb dX8_hand_6 (by decide) (fun c_6 => ?_) (fun c_6 => ?_)
    · refine lv_aload_n hx hb dX8_hand_16 rfl (lv_at hl 0 rfl) ?_
      refine va_get (D := D) (ci := 6) (v := .int ig) (C := RX8) (T := TX8) (N := 23) hx hb hts iX8 hown hK hP 0 rfl rfl 7 (by decide) k158 (fun _ h9 => h9) rfl dX8_hand_17 ?_
      refine lv_if_ne (tgt := 30) hx hb dX8_hand_20 (by decide) (fun c_20 => ?_) (fun c_20 => ?_)
      · refine lv_iload_n hx hb dX8_hand_30 rfl (lv_at hl 1 rfl) ?_
        refine lv_aload_n hx hb dX8_hand_31 rfl (lv_at hl 0 rfl) ?_
        refine va_get (D := D) (ci := 6) (v := .int pl8) (C := RX8) (T := TX8) (N := 23) hx hb hts iX8 hown hK hP 0 rfl rfl 10 (by decide) k155 (fun _ h9 => h9) rfl dX8_hand_32 ?_
        refine lv_icmp_lt (tgt := 45) hx hb dX8_hand_35 (by decide) (fun c_35 => ?_) (fun c_35 => ?_)
        · refine lv_aload_n hx hb dX8_hand_45 rfl (lv_at hl 0 rfl) ?_
          refine lv_iconst (v := 0) hx hb dX8_hand_46 (by decide) ?_
          refine va_put (D := D) (ci := 6) (v := .int 0) (ty := .int) (C := RX8) (T := TX8) (N := 23) hx hb hts iX8 tyX8 tyX8_ok nmX8 hown hK hP hD hS 0 rfl rfl 0 (by decide) k50 (fun _ h9 => h9) rfl (by decide +kernel) rfl rfl (Nat.le_of_ble_eq_true rfl) dX8_hand_47 (fun H locs hP hD hS => ?_)
          have hP : va_P D vwCl [(m8, .inr (6, [.int 0, .ref wa, .ref pa8, .ref sta, .ref mo, .ref hea, .ref tha, .int ig, .int io, .int op8, .int pl8, .int py, .int wn, .int tu, .int la, .int ps, .ref hd8, .ref od8, .long tb, .ref cd8, .int dr, .ref opa, .ref osa])), (hd8, .inl (cJ, 4, .inr (.inl hf8)))] H := hP
          have hD : va_D A [(m8, .inr (6, [.int 0, .ref wa, .ref pa8, .ref sta, .ref mo, .ref hea, .ref tha, .int ig, .int io, .int op8, .int pl8, .int py, .int wn, .int tu, .int la, .int ps, .ref hd8, .ref od8, .long tb, .ref cd8, .int dr, .ref opa, .ref osa])), (hd8, .inl (cJ, 4, .inr (.inl hf8)))] := hD
          refine lv_aload_n hx hb dX8_hand_50 rfl (lv_at hl 0 rfl) ?_
          refine va_get (D := D) (ci := 6) (v := .ref hd8) (C := RX8) (T := TX8) (N := 23) hx hb hts iX8 hown hK hP 0 rfl rfl 16 (by decide) k35 (fun _ h9 => h9) rfl dX8_hand_51 ?_
          refine lv_iload_n hx hb dX8_hand_54 rfl (lv_at hl 1 rfl) ?_
          refine va_lald hx hb hK hP 1 1 rfl rfl (hp_in4 c_1 c_6) dX8_hand_55 ?_
          rw [← hQ]
          have hP9 := hP.sub (ws' := [(m8, .inr (6, [.int 0, .ref wa, .ref pa8, .ref sta, .ref mo, .ref hea, .ref tha, .int ig, .int io, .int op8, .int pl8, .int py, .int wn, .int tu, .int la, .int ps, .ref hd8, .ref od8, .long tb, .ref cd8, .int dr, .ref opa, .ref osa])), (hd8, .inl (cJ, 4, .inr (.inl hf8)))]) [0, 1] rfl
          have hD9 := hD.sub (ws' := [(m8, .inr (6, [.int 0, .ref wa, .ref pa8, .ref sta, .ref mo, .ref hea, .ref tha, .int ig, .int io, .int op8, .int pl8, .int py, .int wn, .int tu, .int la, .int ps, .ref hd8, .ref od8, .long tb, .ref cd8, .int dr, .ref opa, .ref osa])), (hd8, .inl (cJ, 4, .inr (.inl hf8)))]) [0, 1] (by decide) rfl
          exact W.lret (v := hf8 plr.toNatClampNeg) hx hb hr (fun t ht hW => ⟨⟨(hf8 plr.toNatClampNeg), 0, rfl, (by simp only [j_hand]; (repeat' split) <;> first | rfl | contradiction), (by show wB D A _ t; exact ⟨by rw [ht]; exact hP9, hD9⟩)⟩, hS.F ht⟩) hS.2.2 dX8_hand_56
        · refine lv_aload_n hx hb dX8_hand_38 rfl (lv_at hl 0 rfl) ?_
          refine lv_iconst (v := 1) hx hb dX8_hand_39 (by decide) ?_
          have hPc := hP.sub (ws' := [(m8, .inr (6, [.int st8, .ref wa, .ref pa8, .ref sta, .ref mo, .ref hea, .ref tha, .int ig, .int io, .int op8, .int pl8, .int py, .int wn, .int tu, .int la, .int ps, .ref hd8, .ref od8, .long tb, .ref cd8, .int dr, .ref opa, .ref osa]))]) [0] rfl
          have hDc := hD.sub (ws' := [(m8, .inr (6, [.int st8, .ref wa, .ref pa8, .ref sta, .ref mo, .ref hea, .ref tha, .int ig, .int io, .int op8, .int pl8, .int py, .int wn, .int tu, .int la, .int ps, .ref hd8, .ref od8, .long tb, .ref cd8, .int dr, .ref opa, .ref osa]))]) [0] (by decide) rfl
          have hFc := va_free (wc := [(m8, .inr (6, [.int st8, .ref wa, .ref pa8, .ref sta, .ref mo, .ref hea, .ref tha, .int ig, .int io, .int op8, .int pl8, .int py, .int wn, .int tu, .int la, .int ps, .ref hd8, .ref od8, .long tb, .ref cd8, .int dr, .ref opa, .ref osa]))]) hD hS hA [0] rfl
          refine va_calli (va_runV (As := [.int 1]) (rest := []) ⟨hx, hb, hml, hown, hts⟩ (k_X8_none l D cI cJ cZ s.heap.size m8 wa pa8 sta mo hea tha hd8 od8 cd8 opa osa st8 ig io op8 pl8 py wn tu la ps dr tb 1 ) (cwV 1 hts gX8_hand_X8_none rfl rfl rfl (by decide +kernel) ⟨Nat.le_of_ble_eq_true rfl, Nat.le_of_ble_eq_true rfl⟩) ⟨wM_fb, va_recv hK hPc (ci := 6) (q0 := 0) rfl rfl, wM_pre hPc ⟨hK, hN⟩ hDc⟩ rfl rfl hl.1 rfl (lv_room (Nat.le_of_ble_eq_true rfl)) dX8_hand_40 ⟨Nat.le_of_ble_eq_true rfl, Nat.le_of_ble_eq_true rfl⟩) hS (fun q _ h => hFc q h) hFc (fun x40 u t H1 locs ht hvm hx40 hB hz1 hk1 hS => ?_)
          obtain ⟨hP1, hD1⟩ := hB
          rw [ht] at hP1
          obtain ⟨hP, hD⟩ := va_join (wr := [(hd8, .inl (cJ, 4, .inr (.inl hf8)))]) (w1 := [(m8, .inr (6, [.int 1, .ref wa, .ref pa8, .ref sta, .ref mo, .ref hea, .ref tha, .int ig, .int io, .int op8, .int pl8, .int py, .int wn, .int tu, .int la, .int ps, .ref hd8, .ref od8, .long tb, .ref cd8, .int dr, .ref opa, .ref osa]))]) hP hD [0] [1] rfl rfl (by decide) (by decide) hk1 hFc hP1 hD1
          generalize H1 = H at hP hS ⊢
          have hP : va_P D vwCl [(hd8, .inl (cJ, 4, .inr (.inl hf8))), (m8, .inr (6, [.int 1, .ref wa, .ref pa8, .ref sta, .ref mo, .ref hea, .ref tha, .int ig, .int io, .int op8, .int pl8, .int py, .int wn, .int tu, .int la, .int ps, .ref hd8, .ref od8, .long tb, .ref cd8, .int dr, .ref opa, .ref osa]))] H := hP
          have hD : va_D A [(hd8, .inl (cJ, 4, .inr (.inl hf8))), (m8, .inr (6, [.int 1, .ref wa, .ref pa8, .ref sta, .ref mo, .ref hea, .ref tha, .int ig, .int io, .int op8, .int pl8, .int py, .int wn, .int tu, .int la, .int ps, .ref hd8, .ref od8, .long tb, .ref cd8, .int dr, .ref opa, .ref osa]))] := hD
          try dsimp only at hx40
          refine lv_i2l hx hb dX8_hand_43 rfl ?_
          rw [← hQ]
          have hP9 := hP.sub (ws' := [(m8, .inr (6, [.int 1, .ref wa, .ref pa8, .ref sta, .ref mo, .ref hea, .ref tha, .int ig, .int io, .int op8, .int pl8, .int py, .int wn, .int tu, .int la, .int ps, .ref hd8, .ref od8, .long tb, .ref cd8, .int dr, .ref opa, .ref osa])), (hd8, .inl (cJ, 4, .inr (.inl hf8)))]) [1, 0] rfl
          have hD9 := hD.sub (ws' := [(m8, .inr (6, [.int 1, .ref wa, .ref pa8, .ref sta, .ref mo, .ref hea, .ref tha, .int ig, .int io, .int op8, .int pl8, .int py, .int wn, .int tu, .int la, .int ps, .ref hd8, .ref od8, .long tb, .ref cd8, .int dr, .ref opa, .ref osa])), (hd8, .inl (cJ, 4, .inr (.inl hf8)))]) [1, 0] (by decide) rfl
          exact W.lret (v := x40.toInt64) hx hb hr (fun t ht hW => ⟨⟨x40.toInt64, 1, rfl, (by simp only [j_hand]; rw [hx40]; (repeat' split) <;> first | rfl | contradiction), (by show wB D A _ t; exact ⟨by rw [ht]; exact hP9, hD9⟩)⟩, hS.F ht⟩) hS.2.2 dX8_hand_44
      · refine lv_aload_n hx hb dX8_hand_23 rfl (lv_at hl 0 rfl) ?_
        refine lv_iconst (v := 4) hx hb dX8_hand_24 (by decide) ?_
        have hPc := hP.sub (ws' := [(m8, .inr (6, [.int st8, .ref wa, .ref pa8, .ref sta, .ref mo, .ref hea, .ref tha, .int ig, .int io, .int op8, .int pl8, .int py, .int wn, .int tu, .int la, .int ps, .ref hd8, .ref od8, .long tb, .ref cd8, .int dr, .ref opa, .ref osa]))]) [0] rfl
        have hDc := hD.sub (ws' := [(m8, .inr (6, [.int st8, .ref wa, .ref pa8, .ref sta, .ref mo, .ref hea, .ref tha, .int ig, .int io, .int op8, .int pl8, .int py, .int wn, .int tu, .int la, .int ps, .ref hd8, .ref od8, .long tb, .ref cd8, .int dr, .ref opa, .ref osa]))]) [0] (by decide) rfl
        have hFc := va_free (wc := [(m8, .inr (6, [.int st8, .ref wa, .ref pa8, .ref sta, .ref mo, .ref hea, .ref tha, .int ig, .int io, .int op8, .int pl8, .int py, .int wn, .int tu, .int la, .int ps, .ref hd8, .ref od8, .long tb, .ref cd8, .int dr, .ref opa, .ref osa]))]) hD hS hA [0] rfl
        refine va_calli (va_runV (As := [.int 4]) (rest := []) ⟨hx, hb, hml, hown, hts⟩ (k_X8_none l D cI cJ cZ s.heap.size m8 wa pa8 sta mo hea tha hd8 od8 cd8 opa osa st8 ig io op8 pl8 py wn tu la ps dr tb 4 ) (cwV 1 hts gX8_hand_X8_none rfl rfl rfl (by decide +kernel) ⟨Nat.le_of_ble_eq_true rfl, Nat.le_of_ble_eq_true rfl⟩) ⟨wM_fb, va_recv hK hPc (ci := 6) (q0 := 0) rfl rfl, wM_pre hPc ⟨hK, hN⟩ hDc⟩ rfl rfl hl.1 rfl (lv_room (Nat.le_of_ble_eq_true rfl)) dX8_hand_25 ⟨Nat.le_of_ble_eq_true rfl, Nat.le_of_ble_eq_true rfl⟩) hS (fun q _ h => hFc q h) hFc (fun x25 u t H1 locs ht hvm hx25 hB hz1 hk1 hS => ?_)
        obtain ⟨hP1, hD1⟩ := hB
        rw [ht] at hP1
        obtain ⟨hP, hD⟩ := va_join (wr := [(hd8, .inl (cJ, 4, .inr (.inl hf8)))]) (w1 := [(m8, .inr (6, [.int 4, .ref wa, .ref pa8, .ref sta, .ref mo, .ref hea, .ref tha, .int ig, .int io, .int op8, .int pl8, .int py, .int wn, .int tu, .int la, .int ps, .ref hd8, .ref od8, .long tb, .ref cd8, .int dr, .ref opa, .ref osa]))]) hP hD [0] [1] rfl rfl (by decide) (by decide) hk1 hFc hP1 hD1
        generalize H1 = H at hP hS ⊢
        have hP : va_P D vwCl [(hd8, .inl (cJ, 4, .inr (.inl hf8))), (m8, .inr (6, [.int 4, .ref wa, .ref pa8, .ref sta, .ref mo, .ref hea, .ref tha, .int ig, .int io, .int op8, .int pl8, .int py, .int wn, .int tu, .int la, .int ps, .ref hd8, .ref od8, .long tb, .ref cd8, .int dr, .ref opa, .ref osa]))] H := hP
        have hD : va_D A [(hd8, .inl (cJ, 4, .inr (.inl hf8))), (m8, .inr (6, [.int 4, .ref wa, .ref pa8, .ref sta, .ref mo, .ref hea, .ref tha, .int ig, .int io, .int op8, .int pl8, .int py, .int wn, .int tu, .int la, .int ps, .ref hd8, .ref od8, .long tb, .ref cd8, .int dr, .ref opa, .ref osa]))] := hD
        try dsimp only at hx25
        refine lv_i2l hx hb dX8_hand_28 rfl ?_
        rw [← hQ]
        have hP9 := hP.sub (ws' := [(m8, .inr (6, [.int 4, .ref wa, .ref pa8, .ref sta, .ref mo, .ref hea, .ref tha, .int ig, .int io, .int op8, .int pl8, .int py, .int wn, .int tu, .int la, .int ps, .ref hd8, .ref od8, .long tb, .ref cd8, .int dr, .ref opa, .ref osa])), (hd8, .inl (cJ, 4, .inr (.inl hf8)))]) [1, 0] rfl
        have hD9 := hD.sub (ws' := [(m8, .inr (6, [.int 4, .ref wa, .ref pa8, .ref sta, .ref mo, .ref hea, .ref tha, .int ig, .int io, .int op8, .int pl8, .int py, .int wn, .int tu, .int la, .int ps, .ref hd8, .ref od8, .long tb, .ref cd8, .int dr, .ref opa, .ref osa])), (hd8, .inl (cJ, 4, .inr (.inl hf8)))]) [1, 0] (by decide) rfl
        exact W.lret (v := x25.toInt64) hx hb hr (fun t ht hW => ⟨⟨x25.toInt64, 4, rfl, (by simp only [j_hand]; rw [hx25]; (repeat' split) <;> first | rfl | contradiction), (by show wB D A _ t; exact ⟨by rw [ht]; exact hP9, hD9⟩)⟩, hS.F ht⟩) hS.2.2 dX8_hand_29
    · refine lv_aload_n hx hb dX8_hand_9 rfl (lv_at hl 0 rfl) ?_
      refine lv_iconst (v := 1) hx hb dX8_hand_10 (by decide) ?_
      have hPc := hP.sub (ws' := [(m8, .inr (6, [.int st8, .ref wa, .ref pa8, .ref sta, .ref mo, .ref hea, .ref tha, .int ig, .int io, .int op8, .int pl8, .int py, .int wn, .int tu, .int la, .int ps, .ref hd8, .ref od8, .long tb, .ref cd8, .int dr, .ref opa, .ref osa]))]) [0] rfl
      have hDc := hD.sub (ws' := [(m8, .inr (6, [.int st8, .ref wa, .ref pa8, .ref sta, .ref mo, .ref hea, .ref tha, .int ig, .int io, .int op8, .int pl8, .int py, .int wn, .int tu, .int la, .int ps, .ref hd8, .ref od8, .long tb, .ref cd8, .int dr, .ref opa, .ref osa]))]) [0] (by decide) rfl
      have hFc := va_free (wc := [(m8, .inr (6, [.int st8, .ref wa, .ref pa8, .ref sta, .ref mo, .ref hea, .ref tha, .int ig, .int io, .int op8, .int pl8, .int py, .int wn, .int tu, .int la, .int ps, .ref hd8, .ref od8, .long tb, .ref cd8, .int dr, .ref opa, .ref osa]))]) hD hS hA [0] rfl
      refine va_calli (va_runV (As := [.int 1]) (rest := []) ⟨hx, hb, hml, hown, hts⟩ (k_X8_none l D cI cJ cZ s.heap.size m8 wa pa8 sta mo hea tha hd8 od8 cd8 opa osa st8 ig io op8 pl8 py wn tu la ps dr tb 1 ) (cwV 1 hts gX8_hand_X8_none rfl rfl rfl (by decide +kernel) ⟨Nat.le_of_ble_eq_true rfl, Nat.le_of_ble_eq_true rfl⟩) ⟨wM_fb, va_recv hK hPc (ci := 6) (q0 := 0) rfl rfl, wM_pre hPc ⟨hK, hN⟩ hDc⟩ rfl rfl hl.1 rfl (lv_room (Nat.le_of_ble_eq_true rfl)) dX8_hand_11 ⟨Nat.le_of_ble_eq_true rfl, Nat.le_of_ble_eq_true rfl⟩) hS (fun q _ h => hFc q h) hFc (fun x11 u t H1 locs ht hvm hx11 hB hz1 hk1 hS => ?_)
      obtain ⟨hP1, hD1⟩ := hB
      rw [ht] at hP1
      obtain ⟨hP, hD⟩ := va_join (wr := [(hd8, .inl (cJ, 4, .inr (.inl hf8)))]) (w1 := [(m8, .inr (6, [.int 1, .ref wa, .ref pa8, .ref sta, .ref mo, .ref hea, .ref tha, .int ig, .int io, .int op8, .int pl8, .int py, .int wn, .int tu, .int la, .int ps, .ref hd8, .ref od8, .long tb, .ref cd8, .int dr, .ref opa, .ref osa]))]) hP hD [0] [1] rfl rfl (by decide) (by decide) hk1 hFc hP1 hD1
      generalize H1 = H at hP hS ⊢
      have hP : va_P D vwCl [(hd8, .inl (cJ, 4, .inr (.inl hf8))), (m8, .inr (6, [.int 1, .ref wa, .ref pa8, .ref sta, .ref mo, .ref hea, .ref tha, .int ig, .int io, .int op8, .int pl8, .int py, .int wn, .int tu, .int la, .int ps, .ref hd8, .ref od8, .long tb, .ref cd8, .int dr, .ref opa, .ref osa]))] H := hP
      have hD : va_D A [(hd8, .inl (cJ, 4, .inr (.inl hf8))), (m8, .inr (6, [.int 1, .ref wa, .ref pa8, .ref sta, .ref mo, .ref hea, .ref tha, .int ig, .int io, .int op8, .int pl8, .int py, .int wn, .int tu, .int la, .int ps, .ref hd8, .ref od8, .long tb, .ref cd8, .int dr, .ref opa, .ref osa]))] := hD
      try dsimp only at hx11
      refine lv_i2l hx hb dX8_hand_14 rfl ?_
      rw [← hQ]
      have hP9 := hP.sub (ws' := [(m8, .inr (6, [.int 1, .ref wa, .ref pa8, .ref sta, .ref mo, .ref hea, .ref tha, .int ig, .int io, .int op8, .int pl8, .int py, .int wn, .int tu, .int la, .int ps, .ref hd8, .ref od8, .long tb, .ref cd8, .int dr, .ref opa, .ref osa])), (hd8, .inl (cJ, 4, .inr (.inl hf8)))]) [1, 0] rfl
      have hD9 := hD.sub (ws' := [(m8, .inr (6, [.int 1, .ref wa, .ref pa8, .ref sta, .ref mo, .ref hea, .ref tha, .int ig, .int io, .int op8, .int pl8, .int py, .int wn, .int tu, .int la, .int ps, .ref hd8, .ref od8, .long tb, .ref cd8, .int dr, .ref opa, .ref osa])), (hd8, .inl (cJ, 4, .inr (.inl hf8)))]) [1, 0] (by decide) rfl
      exact W.lret (v := x11.toInt64) hx hb hr (fun t ht hW => ⟨⟨x11.toInt64, 1, rfl, (by simp only [j_hand]; rw [hx11]; (repeat' split) <;> first | rfl | contradiction), (by show wB D A _ t; exact ⟨by rw [ht]; exact hP9, hD9⟩)⟩, hS.F ht⟩) hS.2.2 dX8_hand_15

set_option maxHeartbeats 4000000 in
set_option maxRecDepth 100000 in
theorem k_X8_table (l : Launch) (D : va_G) (cI cJ cZ : ClassId) (sz : Nat) (m8 wa pa8 sta mo hea tha hd8 od8 cd8 opa osa : Nat) (st8 ig io op8 pl8 py wn tu la ps dr : Int32) (tb : Int64)   : Met l yX8_table wsX8_table ({ frames := 1, cells := 0, slots := 0, locals := 21 } : Room) (va_Pc [.ref m8] (wM D cI cJ cZ sz [(m8, .inr (6, [.int st8, .ref wa, .ref pa8, .ref sta, .ref mo, .ref hea, .ref tha, .int ig, .int io, .int op8, .int pl8, .int py, .int wn, .int tu, .int la, .int ps, .ref hd8, .ref od8, .long tb, .ref cd8, .int dr, .ref opa, .ref osa]))])) (va_Ql (fun (r : Int64) (u : (Int32)) => match u with | st2 => ((st2, r) = if ig = 0 then (4, -1) else (0, tb))) (fun (u : (Int32)) t => match u with | st2 => wB D (va_A [(m8, .inr (6, [.int st8, .ref wa, .ref pa8, .ref sta, .ref mo, .ref hea, .ref tha, .int ig, .int io, .int op8, .int pl8, .int py, .int wn, .int tu, .int la, .int ps, .ref hd8, .ref od8, .long tb, .ref cd8, .int dr, .ref opa, .ref osa]))] sz) [(m8, .inr (6, [.int st2, .ref wa, .ref pa8, .ref sta, .ref mo, .ref hea, .ref tha, .int ig, .int io, .int op8, .int pl8, .int py, .int wn, .int tu, .int la, .int ps, .ref hd8, .ref od8, .long tb, .ref cd8, .int dr, .ref opa, .ref osa]))] t) (va_A [(m8, .inr (6, [.int st8, .ref wa, .ref pa8, .ref sta, .ref mo, .ref hea, .ref tha, .int ig, .int io, .int op8, .int pl8, .int py, .int wn, .int tu, .int la, .int ps, .ref hd8, .ref od8, .long tb, .ref cd8, .int dr, .ref opa, .ref osa]))] sz)) 0 0 (va_A [(m8, .inr (6, [.int st8, .ref wa, .ref pa8, .ref sta, .ref mo, .ref hea, .ref tha, .int ig, .int io, .int op8, .int pl8, .int py, .int wn, .int tu, .int la, .int ps, .ref hd8, .ref od8, .long tb, .ref cd8, .int dr, .ref opa, .ref osa]))] sz) := by
  refine Met.ofW (cc := cX8_table) (maxL := 1) (ret := (some .long)) (by decide) rfl ?_
  intro p e s m args below meth c s₁ B hml hv
  obtain ⟨hargs, hsz, hP, ⟨hK, hN⟩, hD0⟩ := hv
  have hx := B.exec
  have hb := B.bytes
  have hr := B.returns
  have hlocks := B.notSynchronized
  have hts := atoms_spec (ws := wsX8_table) B.pre
  have hown : s.vm.findClass RX8 = some m.cls := findClass_of_methodNamed B.named
  have k158 := hts (.fieldLink RX8 158 "RummyTableModel" "isGame" "Z") (by decide +kernel)
  have iX8 : ∀ w ∈ wsX80, w ∈ wsX8_table := by decide +kernel
  have k50 := hts (.fieldLink RX8 50 "RummyTableModel" "status" "I") (by decide +kernel)
  have k180 := hts (.fieldLink RX8 180 "RummyTableModel" "table" "J") (by decide +kernel)
  have k90 := hts (.methodLink RX8 90 yX8_none) (by decide +kernel)
  subst hsz
  have hD := hD0.self (sz := s.heap.size)
  generalize hAe : va_A [(m8, .inr (6, [.int st8, .ref wa, .ref pa8, .ref sta, .ref mo, .ref hea, .ref tha, .int ig, .int io, .int op8, .int pl8, .int py, .int wn, .int tu, .int la, .int ps, .ref hd8, .ref od8, .long tb, .ref cd8, .int dr, .ref opa, .ref osa]))] s.heap.size = A at hD ⊢
  have hA : ∀ q : Nat, s.heap.size ≤ q → A q := fun q h => by rw [← hAe]; exact Or.inr h
  have hS : va_S A s.heap s.heap [] := va_S.rf
  rw [show entryFrame m args 1 = entryFrame m ([.ref m8] : List Value).toArray 1 from by rw [hargs]]
  have hl := lv_entry ([.ref m8]) (n := 1) (Nat.le_of_ble_eq_true rfl)
  rw [lg_entry_eq]
  generalize (lg_sl ([.ref m8]) ++ List.replicate (1 - (lg_sl ([.ref m8])).length) Slot.unset).toArray = ls at hl ⊢
  have hl : lv_has ls 1 [(0, .ref m8)] := hl
  refine wQ (fun Q hQ => ?_)
  refine lv_aload_n hx hb dX8_table_0 rfl (lv_at hl 0 rfl) ?_
  refine va_get (D := D) (ci := 6) (v := .int ig) (C := RX8) (T := TX8) (N := 23) hx hb hts iX8 hown hK hP 0 rfl rfl 7 (by decide) k158 (fun _ h9 => h9) rfl dX8_table_1 ?_
  refine lv_if_ne (tgt := 14) hx hb dX8_table_4 (by decide) (fun c_4 => ?_) (fun c_4 => ?_)
  · refine lv_aload_n hx hb dX8_table_14 rfl (lv_at hl 0 rfl) ?_
    refine lv_iconst (v := 0) hx hb dX8_table_15 (by decide) ?_
    refine va_put (D := D) (ci := 6) (v := .int 0) (ty := .int) (C := RX8) (T := TX8) (N := 23) hx hb hts iX8 tyX8 tyX8_ok nmX8 hown hK hP hD hS 0 rfl rfl 0 (by decide) k50 (fun _ h9 => h9) rfl (by decide +kernel) rfl rfl (Nat.le_of_ble_eq_true rfl) dX8_table_16 (fun H locs hP hD hS => ?_)
    have hP : va_P D vwCl [(m8, .inr (6, [.int 0, .ref wa, .ref pa8, .ref sta, .ref mo, .ref hea, .ref tha, .int ig, .int io, .int op8, .int pl8, .int py, .int wn, .int tu, .int la, .int ps, .ref hd8, .ref od8, .long tb, .ref cd8, .int dr, .ref opa, .ref osa]))] H := hP
    have hD : va_D A [(m8, .inr (6, [.int 0, .ref wa, .ref pa8, .ref sta, .ref mo, .ref hea, .ref tha, .int ig, .int io, .int op8, .int pl8, .int py, .int wn, .int tu, .int la, .int ps, .ref hd8, .ref od8, .long tb, .ref cd8, .int dr, .ref opa, .ref osa]))] := hD
    refine lv_aload_n hx hb dX8_table_19 rfl (lv_at hl 0 rfl) ?_
    refine va_get (D := D) (ci := 6) (v := .long tb) (C := RX8) (T := TX8) (N := 23) hx hb hts iX8 hown hK hP 0 rfl rfl 18 (by decide) k180 (fun _ h9 => h9) rfl dX8_table_20 ?_
    rw [← hQ]
    have hP9 := hP.sub (ws' := [(m8, .inr (6, [.int 0, .ref wa, .ref pa8, .ref sta, .ref mo, .ref hea, .ref tha, .int ig, .int io, .int op8, .int pl8, .int py, .int wn, .int tu, .int la, .int ps, .ref hd8, .ref od8, .long tb, .ref cd8, .int dr, .ref opa, .ref osa]))]) [0] rfl
    have hD9 := hD.sub (ws' := [(m8, .inr (6, [.int 0, .ref wa, .ref pa8, .ref sta, .ref mo, .ref hea, .ref tha, .int ig, .int io, .int op8, .int pl8, .int py, .int wn, .int tu, .int la, .int ps, .ref hd8, .ref od8, .long tb, .ref cd8, .int dr, .ref opa, .ref osa]))]) [0] (by decide) rfl
    exact W.lret (v := tb) hx hb hr (fun t ht hW => ⟨⟨tb, 0, rfl, (by (repeat' split) <;> first | rfl | contradiction), (by show wB D A _ t; exact ⟨by rw [ht]; exact hP9, hD9⟩)⟩, hS.F ht⟩) hS.2.2 dX8_table_23
  · refine lv_aload_n hx hb dX8_table_7 rfl (lv_at hl 0 rfl) ?_
    refine lv_iconst (v := 4) hx hb dX8_table_8 (by decide) ?_
    have hPc := hP.sub (ws' := [(m8, .inr (6, [.int st8, .ref wa, .ref pa8, .ref sta, .ref mo, .ref hea, .ref tha, .int ig, .int io, .int op8, .int pl8, .int py, .int wn, .int tu, .int la, .int ps, .ref hd8, .ref od8, .long tb, .ref cd8, .int dr, .ref opa, .ref osa]))]) [0] rfl
    have hDc := hD.sub (ws' := [(m8, .inr (6, [.int st8, .ref wa, .ref pa8, .ref sta, .ref mo, .ref hea, .ref tha, .int ig, .int io, .int op8, .int pl8, .int py, .int wn, .int tu, .int la, .int ps, .ref hd8, .ref od8, .long tb, .ref cd8, .int dr, .ref opa, .ref osa]))]) [0] (by decide) rfl
    have hFc := va_free (wc := [(m8, .inr (6, [.int st8, .ref wa, .ref pa8, .ref sta, .ref mo, .ref hea, .ref tha, .int ig, .int io, .int op8, .int pl8, .int py, .int wn, .int tu, .int la, .int ps, .ref hd8, .ref od8, .long tb, .ref cd8, .int dr, .ref opa, .ref osa]))]) hD hS hA [0] rfl
    refine va_calli (va_runV (As := [.int 4]) (rest := []) ⟨hx, hb, hml, hown, hts⟩ (k_X8_none l D cI cJ cZ s.heap.size m8 wa pa8 sta mo hea tha hd8 od8 cd8 opa osa st8 ig io op8 pl8 py wn tu la ps dr tb 4 ) (cwV 1 hts gX8_table_X8_none rfl rfl rfl (by decide +kernel) ⟨Nat.le_of_ble_eq_true rfl, Nat.le_of_ble_eq_true rfl⟩) ⟨wM_fb, va_recv hK hPc (ci := 6) (q0 := 0) rfl rfl, wM_pre hPc ⟨hK, hN⟩ hDc⟩ rfl rfl hl.1 rfl (lv_room (Nat.le_of_ble_eq_true rfl)) dX8_table_9 ⟨Nat.le_of_ble_eq_true rfl, Nat.le_of_ble_eq_true rfl⟩) hS (fun q _ h => hFc q h) hFc (fun x9 u t H1 locs ht hvm hx9 hB hz1 hk1 hS => ?_)
    obtain ⟨hP1, hD1⟩ := hB
    rw [ht] at hP1
    obtain ⟨hP, hD⟩ := va_join (wr := []) (w1 := [(m8, .inr (6, [.int 4, .ref wa, .ref pa8, .ref sta, .ref mo, .ref hea, .ref tha, .int ig, .int io, .int op8, .int pl8, .int py, .int wn, .int tu, .int la, .int ps, .ref hd8, .ref od8, .long tb, .ref cd8, .int dr, .ref opa, .ref osa]))]) hP hD [0] [] rfl rfl (by decide) (by decide) hk1 hFc hP1 hD1
    generalize H1 = H at hP hS ⊢
    have hP : va_P D vwCl [(m8, .inr (6, [.int 4, .ref wa, .ref pa8, .ref sta, .ref mo, .ref hea, .ref tha, .int ig, .int io, .int op8, .int pl8, .int py, .int wn, .int tu, .int la, .int ps, .ref hd8, .ref od8, .long tb, .ref cd8, .int dr, .ref opa, .ref osa]))] H := hP
    have hD : va_D A [(m8, .inr (6, [.int 4, .ref wa, .ref pa8, .ref sta, .ref mo, .ref hea, .ref tha, .int ig, .int io, .int op8, .int pl8, .int py, .int wn, .int tu, .int la, .int ps, .ref hd8, .ref od8, .long tb, .ref cd8, .int dr, .ref opa, .ref osa]))] := hD
    try dsimp only at hx9
    refine lv_i2l hx hb dX8_table_12 rfl ?_
    rw [← hQ]
    have hP9 := hP.sub (ws' := [(m8, .inr (6, [.int 4, .ref wa, .ref pa8, .ref sta, .ref mo, .ref hea, .ref tha, .int ig, .int io, .int op8, .int pl8, .int py, .int wn, .int tu, .int la, .int ps, .ref hd8, .ref od8, .long tb, .ref cd8, .int dr, .ref opa, .ref osa]))]) [0] rfl
    have hD9 := hD.sub (ws' := [(m8, .inr (6, [.int 4, .ref wa, .ref pa8, .ref sta, .ref mo, .ref hea, .ref tha, .int ig, .int io, .int op8, .int pl8, .int py, .int wn, .int tu, .int la, .int ps, .ref hd8, .ref od8, .long tb, .ref cd8, .int dr, .ref opa, .ref osa]))]) [0] (by decide) rfl
    exact W.lret (v := x9.toInt64) hx hb hr (fun t ht hW => ⟨⟨x9.toInt64, 4, rfl, (by rw [hx9]; (repeat' split) <;> first | rfl | contradiction), (by show wB D A _ t; exact ⟨by rw [ht]; exact hP9, hD9⟩)⟩, hS.F ht⟩) hS.2.2 dX8_table_13

set_option maxHeartbeats 4000000 in
set_option maxRecDepth 100000 in
theorem k_X8_tell (l : Launch) (D : va_G) (cI cJ cZ : ClassId) (sz : Nat) (m8 wa pa8 sta mo hea tha hd8 od8 cd8 opa osa : Nat) (st8 ig io op8 pl8 py wn tu la ps dr : Int32) (tb : Int64) (w : Int32)  : Met l yX8_tell wsX8_tell ({ frames := 1, cells := 0, slots := 0, locals := 21 } : Room) (va_Pc [.ref m8, .int w] (wM D cI cJ cZ sz [(m8, .inr (6, [.int st8, .ref wa, .ref pa8, .ref sta, .ref mo, .ref hea, .ref tha, .int ig, .int io, .int op8, .int pl8, .int py, .int wn, .int tu, .int la, .int ps, .ref hd8, .ref od8, .long tb, .ref cd8, .int dr, .ref opa, .ref osa]))])) (va_Qi (fun (r : Int32) (u : (Int32)) => match u with | st2 => ((st2, r) = j_tell8 ig py dr io wn tu la pl8 w)) (fun (u : (Int32)) t => match u with | st2 => wB D (va_A [(m8, .inr (6, [.int st8, .ref wa, .ref pa8, .ref sta, .ref mo, .ref hea, .ref tha, .int ig, .int io, .int op8, .int pl8, .int py, .int wn, .int tu, .int la, .int ps, .ref hd8, .ref od8, .long tb, .ref cd8, .int dr, .ref opa, .ref osa]))] sz) [(m8, .inr (6, [.int st2, .ref wa, .ref pa8, .ref sta, .ref mo, .ref hea, .ref tha, .int ig, .int io, .int op8, .int pl8, .int py, .int wn, .int tu, .int la, .int ps, .ref hd8, .ref od8, .long tb, .ref cd8, .int dr, .ref opa, .ref osa]))] t) (va_A [(m8, .inr (6, [.int st8, .ref wa, .ref pa8, .ref sta, .ref mo, .ref hea, .ref tha, .int ig, .int io, .int op8, .int pl8, .int py, .int wn, .int tu, .int la, .int ps, .ref hd8, .ref od8, .long tb, .ref cd8, .int dr, .ref opa, .ref osa]))] sz)) 0 0 (va_A [(m8, .inr (6, [.int st8, .ref wa, .ref pa8, .ref sta, .ref mo, .ref hea, .ref tha, .int ig, .int io, .int op8, .int pl8, .int py, .int wn, .int tu, .int la, .int ps, .ref hd8, .ref od8, .long tb, .ref cd8, .int dr, .ref opa, .ref osa]))] sz) := by
  refine Met.ofW (cc := cX8_tell) (maxL := 2) (ret := (some .int)) (by decide) rfl ?_
  intro p e s m args below meth c s₁ B hml hv
  obtain ⟨hargs, hsz, hP, ⟨hK, hN⟩, hD0⟩ := hv
  have hx := B.exec
  have hb := B.bytes
  have hr := B.returns
  have hlocks := B.notSynchronized
  have hts := atoms_spec (ws := wsX8_tell) B.pre
  have hown : s.vm.findClass RX8 = some m.cls := findClass_of_methodNamed B.named
  have k90 := hts (.methodLink RX8 90 yX8_none) (by decide +kernel)
  have k158 := hts (.fieldLink RX8 158 "RummyTableModel" "isGame" "Z") (by decide +kernel)
  have iX8 : ∀ w ∈ wsX80, w ∈ wsX8_tell := by decide +kernel
  have k50 := hts (.fieldLink RX8 50 "RummyTableModel" "status" "I") (by decide +kernel)
  have k155 := hts (.fieldLink RX8 155 "RummyTableModel" "players" "I") (by decide +kernel)
  have k165 := hts (.fieldLink RX8 165 "RummyTableModel" "plays" "I") (by decide +kernel)
  have k152 := hts (.fieldLink RX8 152 "RummyTableModel" "drawn" "I") (by decide +kernel)
  have k162 := hts (.fieldLink RX8 162 "RummyTableModel" "isOver" "Z") (by decide +kernel)
  have k168 := hts (.fieldLink RX8 168 "RummyTableModel" "won" "I") (by decide +kernel)
  have k171 := hts (.fieldLink RX8 171 "RummyTableModel" "turns" "I") (by decide +kernel)
  have k174 := hts (.fieldLink RX8 174 "RummyTableModel" "layings" "I") (by decide +kernel)
  subst hsz
  have hD := hD0.self (sz := s.heap.size)
  generalize hAe : va_A [(m8, .inr (6, [.int st8, .ref wa, .ref pa8, .ref sta, .ref mo, .ref hea, .ref tha, .int ig, .int io, .int op8, .int pl8, .int py, .int wn, .int tu, .int la, .int ps, .ref hd8, .ref od8, .long tb, .ref cd8, .int dr, .ref opa, .ref osa]))] s.heap.size = A at hD ⊢
  have hA : ∀ q : Nat, s.heap.size ≤ q → A q := fun q h => by rw [← hAe]; exact Or.inr h
  have hS : va_S A s.heap s.heap [] := va_S.rf
  rw [show entryFrame m args 2 = entryFrame m ([.ref m8, .int w] : List Value).toArray 2 from by rw [hargs]]
  have hl := lv_entry ([.ref m8, .int w]) (n := 2) (Nat.le_of_ble_eq_true rfl)
  rw [lg_entry_eq]
  generalize (lg_sl ([.ref m8, .int w]) ++ List.replicate (2 - (lg_sl ([.ref m8, .int w])).length) Slot.unset).toArray = ls at hl ⊢
  have hl : lv_has ls 2 [(0, .ref m8), (1, .int w)] := hl
  refine wQ (fun Q hQ => ?_)
  refine lv_iload_n hx hb dX8_tell_0 rfl (lv_at hl 1 rfl) ?_
  refine lv_if_lt (tgt := 10) hx hb dX8_tell_1 (by decide) (fun c_1 => ?_) (fun c_1 => ?_)
  · refine lv_aload_n hx hb dX8_tell_10 rfl (lv_at hl 0 rfl) ?_
    refine lv_iconst (v := 1) hx hb dX8_tell_11 (by decide) ?_
    have hPc := hP.sub (ws' := [(m8, .inr (6, [.int st8, .ref wa, .ref pa8, .ref sta, .ref mo, .ref hea, .ref tha, .int ig, .int io, .int op8, .int pl8, .int py, .int wn, .int tu, .int la, .int ps, .ref hd8, .ref od8, .long tb, .ref cd8, .int dr, .ref opa, .ref osa]))]) [0] rfl
    have hDc := hD.sub (ws' := [(m8, .inr (6, [.int st8, .ref wa, .ref pa8, .ref sta, .ref mo, .ref hea, .ref tha, .int ig, .int io, .int op8, .int pl8, .int py, .int wn, .int tu, .int la, .int ps, .ref hd8, .ref od8, .long tb, .ref cd8, .int dr, .ref opa, .ref osa]))]) [0] (by decide) rfl
    have hFc := va_free (wc := [(m8, .inr (6, [.int st8, .ref wa, .ref pa8, .ref sta, .ref mo, .ref hea, .ref tha, .int ig, .int io, .int op8, .int pl8, .int py, .int wn, .int tu, .int la, .int ps, .ref hd8, .ref od8, .long tb, .ref cd8, .int dr, .ref opa, .ref osa]))]) hD hS hA [0] rfl
    refine va_calli (va_runV (As := [.int 1]) (rest := []) ⟨hx, hb, hml, hown, hts⟩ (k_X8_none l D cI cJ cZ s.heap.size m8 wa pa8 sta mo hea tha hd8 od8 cd8 opa osa st8 ig io op8 pl8 py wn tu la ps dr tb 1 ) (cwV 1 hts gX8_tell_X8_none rfl rfl rfl (by decide +kernel) ⟨Nat.le_of_ble_eq_true rfl, Nat.le_of_ble_eq_true rfl⟩) ⟨wM_fb, va_recv hK hPc (ci := 6) (q0 := 0) rfl rfl, wM_pre hPc ⟨hK, hN⟩ hDc⟩ rfl rfl hl.1 rfl (lv_room (Nat.le_of_ble_eq_true rfl)) dX8_tell_12 ⟨Nat.le_of_ble_eq_true rfl, Nat.le_of_ble_eq_true rfl⟩) hS (fun q _ h => hFc q h) hFc (fun x12 u t H1 locs ht hvm hx12 hB hz1 hk1 hS => ?_)
    obtain ⟨hP1, hD1⟩ := hB
    rw [ht] at hP1
    obtain ⟨hP, hD⟩ := va_join (wr := []) (w1 := [(m8, .inr (6, [.int 1, .ref wa, .ref pa8, .ref sta, .ref mo, .ref hea, .ref tha, .int ig, .int io, .int op8, .int pl8, .int py, .int wn, .int tu, .int la, .int ps, .ref hd8, .ref od8, .long tb, .ref cd8, .int dr, .ref opa, .ref osa]))]) hP hD [0] [] rfl rfl (by decide) (by decide) hk1 hFc hP1 hD1
    generalize H1 = H at hP hS ⊢
    have hP : va_P D vwCl [(m8, .inr (6, [.int 1, .ref wa, .ref pa8, .ref sta, .ref mo, .ref hea, .ref tha, .int ig, .int io, .int op8, .int pl8, .int py, .int wn, .int tu, .int la, .int ps, .ref hd8, .ref od8, .long tb, .ref cd8, .int dr, .ref opa, .ref osa]))] H := hP
    have hD : va_D A [(m8, .inr (6, [.int 1, .ref wa, .ref pa8, .ref sta, .ref mo, .ref hea, .ref tha, .int ig, .int io, .int op8, .int pl8, .int py, .int wn, .int tu, .int la, .int ps, .ref hd8, .ref od8, .long tb, .ref cd8, .int dr, .ref opa, .ref osa]))] := hD
    try dsimp only at hx12
    rw [← hQ]
    have hP9 := hP.sub (ws' := [(m8, .inr (6, [.int 1, .ref wa, .ref pa8, .ref sta, .ref mo, .ref hea, .ref tha, .int ig, .int io, .int op8, .int pl8, .int py, .int wn, .int tu, .int la, .int ps, .ref hd8, .ref od8, .long tb, .ref cd8, .int dr, .ref opa, .ref osa]))]) [0] rfl
    have hD9 := hD.sub (ws' := [(m8, .inr (6, [.int 1, .ref wa, .ref pa8, .ref sta, .ref mo, .ref hea, .ref tha, .int ig, .int io, .int op8, .int pl8, .int py, .int wn, .int tu, .int la, .int ps, .ref hd8, .ref od8, .long tb, .ref cd8, .int dr, .ref opa, .ref osa]))]) [0] (by decide) rfl
    exact W.iret (v := x12) hx hb hr (fun t ht hW => ⟨⟨x12, 1, rfl, (by simp only [j_tell8]; rw [hx12]; (repeat' split) <;> first | rfl | contradiction), (by show wB D A _ t; exact ⟨by rw [ht]; exact hP9, hD9⟩)⟩, hS.F ht⟩) hS.2.2 dX8_tell_15
  · refine lv_iload_n hx hb dX8_tell_4 rfl (lv_at hl 1 rfl) ?_
    refine lv_bipush (v := 6) hx hb dX8_tell_5 (by decide) ?_
    refine lv_icmp_le (tgt := 16) hx hb dX8_tell_7 (by decide) (fun c_7 => ?_) (fun c_7 => ?_)
    · refine lv_aload_n hx hb dX8_tell_16 rfl (lv_at hl 0 rfl) ?_
      refine va_get (D := D) (ci := 6) (v := .int ig) (C := RX8) (T := TX8) (N := 23) hx hb hts iX8 hown hK hP 0 rfl rfl 7 (by decide) k158 (fun _ h9 => h9) rfl dX8_tell_17 ?_
      refine lv_if_ne (tgt := 29) hx hb dX8_tell_20 (by decide) (fun c_20 => ?_) (fun c_20 => ?_)
      · refine lv_aload_n hx hb dX8_tell_29 rfl (lv_at hl 0 rfl) ?_
        refine lv_iconst (v := 0) hx hb dX8_tell_30 (by decide) ?_
        refine va_put (D := D) (ci := 6) (v := .int 0) (ty := .int) (C := RX8) (T := TX8) (N := 23) hx hb hts iX8 tyX8 tyX8_ok nmX8 hown hK hP hD hS 0 rfl rfl 0 (by decide) k50 (fun _ h9 => h9) rfl (by decide +kernel) rfl rfl (Nat.le_of_ble_eq_true rfl) dX8_tell_31 (fun H locs hP hD hS => ?_)
        have hP : va_P D vwCl [(m8, .inr (6, [.int 0, .ref wa, .ref pa8, .ref sta, .ref mo, .ref hea, .ref tha, .int ig, .int io, .int op8, .int pl8, .int py, .int wn, .int tu, .int la, .int ps, .ref hd8, .ref od8, .long tb, .ref cd8, .int dr, .ref opa, .ref osa]))] H := hP
        have hD : va_D A [(m8, .inr (6, [.int 0, .ref wa, .ref pa8, .ref sta, .ref mo, .ref hea, .ref tha, .int ig, .int io, .int op8, .int pl8, .int py, .int wn, .int tu, .int la, .int ps, .ref hd8, .ref od8, .long tb, .ref cd8, .int dr, .ref opa, .ref osa]))] := hD
        refine lv_iload_n hx hb dX8_tell_34 rfl (lv_at hl 1 rfl) ?_
        by_cases hlo35 : w.toInt < 0
        · refine lv_tableOut (tgt := 113) hx hb dX8_tell_35 (Or.inl hlo35) (by decide) ?_
          refine lv_aload_n hx hb dX8_tell_113 rfl (lv_at hl 0 rfl) ?_
          refine va_get (D := D) (ci := 6) (v := .int pl8) (C := RX8) (T := TX8) (N := 23) hx hb hts iX8 hown hK hP 0 rfl rfl 10 (by decide) k155 (fun _ h9 => h9) rfl dX8_tell_114 ?_
          rw [← hQ]
          have hP9 := hP.sub (ws' := [(m8, .inr (6, [.int 0, .ref wa, .ref pa8, .ref sta, .ref mo, .ref hea, .ref tha, .int ig, .int io, .int op8, .int pl8, .int py, .int wn, .int tu, .int la, .int ps, .ref hd8, .ref od8, .long tb, .ref cd8, .int dr, .ref opa, .ref osa]))]) [0] rfl
          have hD9 := hD.sub (ws' := [(m8, .inr (6, [.int 0, .ref wa, .ref pa8, .ref sta, .ref mo, .ref hea, .ref tha, .int ig, .int io, .int op8, .int pl8, .int py, .int wn, .int tu, .int la, .int ps, .ref hd8, .ref od8, .long tb, .ref cd8, .int dr, .ref opa, .ref osa]))]) [0] (by decide) rfl
          exact W.iret (v := pl8) hx hb hr (fun t ht hW => ⟨⟨pl8, 0, rfl, (by simp only [j_tell8]; rw [if_neg c_1, if_pos c_7, if_neg c_20, if_neg (by omega), if_neg (by omega), if_neg (by omega), if_neg (by omega), if_neg (by omega), if_neg (by omega)]), (by show wB D A _ t; exact ⟨by rw [ht]; exact hP9, hD9⟩)⟩, hS.F ht⟩) hS.2.2 dX8_tell_117
        by_cases hhi35 : 5 < w.toInt
        · refine lv_tableOut (tgt := 113) hx hb dX8_tell_35 (Or.inr hhi35) (by decide) ?_
          refine lv_aload_n hx hb dX8_tell_113 rfl (lv_at hl 0 rfl) ?_
          refine va_get (D := D) (ci := 6) (v := .int pl8) (C := RX8) (T := TX8) (N := 23) hx hb hts iX8 hown hK hP 0 rfl rfl 10 (by decide) k155 (fun _ h9 => h9) rfl dX8_tell_114 ?_
          rw [← hQ]
          have hP9 := hP.sub (ws' := [(m8, .inr (6, [.int 0, .ref wa, .ref pa8, .ref sta, .ref mo, .ref hea, .ref tha, .int ig, .int io, .int op8, .int pl8, .int py, .int wn, .int tu, .int la, .int ps, .ref hd8, .ref od8, .long tb, .ref cd8, .int dr, .ref opa, .ref osa]))]) [0] rfl
          have hD9 := hD.sub (ws' := [(m8, .inr (6, [.int 0, .ref wa, .ref pa8, .ref sta, .ref mo, .ref hea, .ref tha, .int ig, .int io, .int op8, .int pl8, .int py, .int wn, .int tu, .int la, .int ps, .ref hd8, .ref od8, .long tb, .ref cd8, .int dr, .ref opa, .ref osa]))]) [0] (by decide) rfl
          exact W.iret (v := pl8) hx hb hr (fun t ht hW => ⟨⟨pl8, 0, rfl, (by simp only [j_tell8]; rw [if_neg c_1, if_pos c_7, if_neg c_20, if_neg (by omega), if_neg (by omega), if_neg (by omega), if_neg (by omega), if_neg (by omega), if_neg (by omega)]), (by show wB D A _ t; exact ⟨by rw [ht]; exact hP9, hD9⟩)⟩, hS.F ht⟩) hS.2.2 dX8_tell_117
        have hsw35 : w.toInt = 0 ∨ w.toInt = 1 ∨ w.toInt = 2 ∨ w.toInt = 3 ∨ w.toInt = 4 ∨ w.toInt = 5 := by have a1 := hlo35; have a2 := hhi35; omega
        rcases hsw35 with hc35 | hc35 | hc35 | hc35 | hc35 | hc35
        · refine lv_tableIn (off := 37) (tgt := 72) hx hb dX8_tell_35 hlo35 hhi35 (by rw [hc35]; rfl) (by decide) ?_
          refine lv_aload_n hx hb dX8_tell_72 rfl (lv_at hl 0 rfl) ?_
          refine va_get (D := D) (ci := 6) (v := .int py) (C := RX8) (T := TX8) (N := 23) hx hb hts iX8 hown hK hP 0 rfl rfl 11 (by decide) k165 (fun _ h9 => h9) rfl dX8_tell_73 ?_
          rw [← hQ]
          have hP9 := hP.sub (ws' := [(m8, .inr (6, [.int 0, .ref wa, .ref pa8, .ref sta, .ref mo, .ref hea, .ref tha, .int ig, .int io, .int op8, .int pl8, .int py, .int wn, .int tu, .int la, .int ps, .ref hd8, .ref od8, .long tb, .ref cd8, .int dr, .ref opa, .ref osa]))]) [0] rfl
          have hD9 := hD.sub (ws' := [(m8, .inr (6, [.int 0, .ref wa, .ref pa8, .ref sta, .ref mo, .ref hea, .ref tha, .int ig, .int io, .int op8, .int pl8, .int py, .int wn, .int tu, .int la, .int ps, .ref hd8, .ref od8, .long tb, .ref cd8, .int dr, .ref opa, .ref osa]))]) [0] (by decide) rfl
          exact W.iret (v := py) hx hb hr (fun t ht hW => ⟨⟨py, 0, rfl, (by simp only [j_tell8]; rw [if_neg c_1, if_pos c_7, if_neg c_20, hc35]; rfl), (by show wB D A _ t; exact ⟨by rw [ht]; exact hP9, hD9⟩)⟩, hS.F ht⟩) hS.2.2 dX8_tell_76
        · refine lv_tableIn (off := 42) (tgt := 77) hx hb dX8_tell_35 hlo35 hhi35 (by rw [hc35]; rfl) (by decide) ?_
          refine lv_bipush (v := 54) hx hb dX8_tell_77 (by decide) ?_
          refine lv_aload_n hx hb dX8_tell_79 rfl (lv_at hl 0 rfl) ?_
          refine va_get (D := D) (ci := 6) (v := .int dr) (C := RX8) (T := TX8) (N := 23) hx hb hts iX8 hown hK hP 0 rfl rfl 20 (by decide) k152 (fun _ h9 => h9) rfl dX8_tell_80 ?_
          refine lv_isub hx hb dX8_tell_83 ?_
          rw [← hQ]
          have hP9 := hP.sub (ws' := [(m8, .inr (6, [.int 0, .ref wa, .ref pa8, .ref sta, .ref mo, .ref hea, .ref tha, .int ig, .int io, .int op8, .int pl8, .int py, .int wn, .int tu, .int la, .int ps, .ref hd8, .ref od8, .long tb, .ref cd8, .int dr, .ref opa, .ref osa]))]) [0] rfl
          have hD9 := hD.sub (ws' := [(m8, .inr (6, [.int 0, .ref wa, .ref pa8, .ref sta, .ref mo, .ref hea, .ref tha, .int ig, .int io, .int op8, .int pl8, .int py, .int wn, .int tu, .int la, .int ps, .ref hd8, .ref od8, .long tb, .ref cd8, .int dr, .ref opa, .ref osa]))]) [0] (by decide) rfl
          exact W.iret (v := 54 - dr) hx hb hr (fun t ht hW => ⟨⟨(54 - dr), 0, rfl, (by simp only [j_tell8]; rw [if_neg c_1, if_pos c_7, if_neg c_20, hc35]; rfl), (by show wB D A _ t; exact ⟨by rw [ht]; exact hP9, hD9⟩)⟩, hS.F ht⟩) hS.2.2 dX8_tell_84
        · refine lv_tableIn (off := 50) (tgt := 85) hx hb dX8_tell_35 hlo35 hhi35 (by rw [hc35]; rfl) (by decide) ?_
          refine lv_aload_n hx hb dX8_tell_85 rfl (lv_at hl 0 rfl) ?_
          refine va_get (D := D) (ci := 6) (v := .int io) (C := RX8) (T := TX8) (N := 23) hx hb hts iX8 hown hK hP 0 rfl rfl 8 (by decide) k162 (fun _ h9 => h9) rfl dX8_tell_86 ?_
          refine lv_if_eq (tgt := 96) hx hb dX8_tell_89 (by decide) (fun c_89 => ?_) (fun c_89 => ?_)
          · refine lv_iconst (v := 0) hx hb dX8_tell_96 (by decide) ?_
            rw [← hQ]
            have hP9 := hP.sub (ws' := [(m8, .inr (6, [.int 0, .ref wa, .ref pa8, .ref sta, .ref mo, .ref hea, .ref tha, .int ig, .int io, .int op8, .int pl8, .int py, .int wn, .int tu, .int la, .int ps, .ref hd8, .ref od8, .long tb, .ref cd8, .int dr, .ref opa, .ref osa]))]) [0] rfl
            have hD9 := hD.sub (ws' := [(m8, .inr (6, [.int 0, .ref wa, .ref pa8, .ref sta, .ref mo, .ref hea, .ref tha, .int ig, .int io, .int op8, .int pl8, .int py, .int wn, .int tu, .int la, .int ps, .ref hd8, .ref od8, .long tb, .ref cd8, .int dr, .ref opa, .ref osa]))]) [0] (by decide) rfl
            exact W.iret (v := 0) hx hb hr (fun t ht hW => ⟨⟨0, 0, rfl, (by simp only [j_tell8]; rw [if_neg c_1, if_pos c_7, if_neg c_20, hc35]; congr 1; first | (rw [if_pos c_89]; done) | (rw [if_neg c_89]; done) | (simp only []; show _ = if io = 0 then _ else _; first | rw [if_pos c_89] | rw [if_neg c_89])), (by show wB D A _ t; exact ⟨by rw [ht]; exact hP9, hD9⟩)⟩, hS.F ht⟩) hS.2.2 dX8_tell_97
          · refine lv_iconst (v := 1) hx hb dX8_tell_92 (by decide) ?_
            refine lv_goto (tgt := 97) hx hb dX8_tell_93 (by decide) ?_
            rw [← hQ]
            have hP9 := hP.sub (ws' := [(m8, .inr (6, [.int 0, .ref wa, .ref pa8, .ref sta, .ref mo, .ref hea, .ref tha, .int ig, .int io, .int op8, .int pl8, .int py, .int wn, .int tu, .int la, .int ps, .ref hd8, .ref od8, .long tb, .ref cd8, .int dr, .ref opa, .ref osa]))]) [0] rfl
            have hD9 := hD.sub (ws' := [(m8, .inr (6, [.int 0, .ref wa, .ref pa8, .ref sta, .ref mo, .ref hea, .ref tha, .int ig, .int io, .int op8, .int pl8, .int py, .int wn, .int tu, .int la, .int ps, .ref hd8, .ref od8, .long tb, .ref cd8, .int dr, .ref opa, .ref osa]))]) [0] (by decide) rfl
            exact W.iret (v := 1) hx hb hr (fun t ht hW => ⟨⟨1, 0, rfl, (by simp only [j_tell8]; rw [if_neg c_1, if_pos c_7, if_neg c_20, hc35]; congr 1; first | (rw [if_pos c_89]; done) | (rw [if_neg c_89]; done) | (simp only []; show _ = if io = 0 then _ else _; first | rw [if_pos c_89] | rw [if_neg c_89])), (by show wB D A _ t; exact ⟨by rw [ht]; exact hP9, hD9⟩)⟩, hS.F ht⟩) hS.2.2 dX8_tell_97
        · refine lv_tableIn (off := 63) (tgt := 98) hx hb dX8_tell_35 hlo35 hhi35 (by rw [hc35]; rfl) (by decide) ?_
          refine lv_aload_n hx hb dX8_tell_98 rfl (lv_at hl 0 rfl) ?_
          refine va_get (D := D) (ci := 6) (v := .int wn) (C := RX8) (T := TX8) (N := 23) hx hb hts iX8 hown hK hP 0 rfl rfl 12 (by decide) k168 (fun _ h9 => h9) rfl dX8_tell_99 ?_
          rw [← hQ]
          have hP9 := hP.sub (ws' := [(m8, .inr (6, [.int 0, .ref wa, .ref pa8, .ref sta, .ref mo, .ref hea, .ref tha, .int ig, .int io, .int op8, .int pl8, .int py, .int wn, .int tu, .int la, .int ps, .ref hd8, .ref od8, .long tb, .ref cd8, .int dr, .ref opa, .ref osa]))]) [0] rfl
          have hD9 := hD.sub (ws' := [(m8, .inr (6, [.int 0, .ref wa, .ref pa8, .ref sta, .ref mo, .ref hea, .ref tha, .int ig, .int io, .int op8, .int pl8, .int py, .int wn, .int tu, .int la, .int ps, .ref hd8, .ref od8, .long tb, .ref cd8, .int dr, .ref opa, .ref osa]))]) [0] (by decide) rfl
          exact W.iret (v := wn) hx hb hr (fun t ht hW => ⟨⟨wn, 0, rfl, (by simp only [j_tell8]; rw [if_neg c_1, if_pos c_7, if_neg c_20, hc35]; rfl), (by show wB D A _ t; exact ⟨by rw [ht]; exact hP9, hD9⟩)⟩, hS.F ht⟩) hS.2.2 dX8_tell_102
        · refine lv_tableIn (off := 68) (tgt := 103) hx hb dX8_tell_35 hlo35 hhi35 (by rw [hc35]; rfl) (by decide) ?_
          refine lv_aload_n hx hb dX8_tell_103 rfl (lv_at hl 0 rfl) ?_
          refine va_get (D := D) (ci := 6) (v := .int tu) (C := RX8) (T := TX8) (N := 23) hx hb hts iX8 hown hK hP 0 rfl rfl 13 (by decide) k171 (fun _ h9 => h9) rfl dX8_tell_104 ?_
          rw [← hQ]
          have hP9 := hP.sub (ws' := [(m8, .inr (6, [.int 0, .ref wa, .ref pa8, .ref sta, .ref mo, .ref hea, .ref tha, .int ig, .int io, .int op8, .int pl8, .int py, .int wn, .int tu, .int la, .int ps, .ref hd8, .ref od8, .long tb, .ref cd8, .int dr, .ref opa, .ref osa]))]) [0] rfl
          have hD9 := hD.sub (ws' := [(m8, .inr (6, [.int 0, .ref wa, .ref pa8, .ref sta, .ref mo, .ref hea, .ref tha, .int ig, .int io, .int op8, .int pl8, .int py, .int wn, .int tu, .int la, .int ps, .ref hd8, .ref od8, .long tb, .ref cd8, .int dr, .ref opa, .ref osa]))]) [0] (by decide) rfl
          exact W.iret (v := tu) hx hb hr (fun t ht hW => ⟨⟨tu, 0, rfl, (by simp only [j_tell8]; rw [if_neg c_1, if_pos c_7, if_neg c_20, hc35]; rfl), (by show wB D A _ t; exact ⟨by rw [ht]; exact hP9, hD9⟩)⟩, hS.F ht⟩) hS.2.2 dX8_tell_107
        · refine lv_tableIn (off := 73) (tgt := 108) hx hb dX8_tell_35 hlo35 hhi35 (by rw [hc35]; rfl) (by decide) ?_
          refine lv_aload_n hx hb dX8_tell_108 rfl (lv_at hl 0 rfl) ?_
          refine va_get (D := D) (ci := 6) (v := .int la) (C := RX8) (T := TX8) (N := 23) hx hb hts iX8 hown hK hP 0 rfl rfl 14 (by decide) k174 (fun _ h9 => h9) rfl dX8_tell_109 ?_
          rw [← hQ]
          have hP9 := hP.sub (ws' := [(m8, .inr (6, [.int 0, .ref wa, .ref pa8, .ref sta, .ref mo, .ref hea, .ref tha, .int ig, .int io, .int op8, .int pl8, .int py, .int wn, .int tu, .int la, .int ps, .ref hd8, .ref od8, .long tb, .ref cd8, .int dr, .ref opa, .ref osa]))]) [0] rfl
          have hD9 := hD.sub (ws' := [(m8, .inr (6, [.int 0, .ref wa, .ref pa8, .ref sta, .ref mo, .ref hea, .ref tha, .int ig, .int io, .int op8, .int pl8, .int py, .int wn, .int tu, .int la, .int ps, .ref hd8, .ref od8, .long tb, .ref cd8, .int dr, .ref opa, .ref osa]))]) [0] (by decide) rfl
          exact W.iret (v := la) hx hb hr (fun t ht hW => ⟨⟨la, 0, rfl, (by simp only [j_tell8]; rw [if_neg c_1, if_pos c_7, if_neg c_20, hc35]; rfl), (by show wB D A _ t; exact ⟨by rw [ht]; exact hP9, hD9⟩)⟩, hS.F ht⟩) hS.2.2 dX8_tell_112
      · refine lv_aload_n hx hb dX8_tell_23 rfl (lv_at hl 0 rfl) ?_
        refine lv_iconst (v := 4) hx hb dX8_tell_24 (by decide) ?_
        have hPc := hP.sub (ws' := [(m8, .inr (6, [.int st8, .ref wa, .ref pa8, .ref sta, .ref mo, .ref hea, .ref tha, .int ig, .int io, .int op8, .int pl8, .int py, .int wn, .int tu, .int la, .int ps, .ref hd8, .ref od8, .long tb, .ref cd8, .int dr, .ref opa, .ref osa]))]) [0] rfl
        have hDc := hD.sub (ws' := [(m8, .inr (6, [.int st8, .ref wa, .ref pa8, .ref sta, .ref mo, .ref hea, .ref tha, .int ig, .int io, .int op8, .int pl8, .int py, .int wn, .int tu, .int la, .int ps, .ref hd8, .ref od8, .long tb, .ref cd8, .int dr, .ref opa, .ref osa]))]) [0] (by decide) rfl
        have hFc := va_free (wc := [(m8, .inr (6, [.int st8, .ref wa, .ref pa8, .ref sta, .ref mo, .ref hea, .ref tha, .int ig, .int io, .int op8, .int pl8, .int py, .int wn, .int tu, .int la, .int ps, .ref hd8, .ref od8, .long tb, .ref cd8, .int dr, .ref opa, .ref osa]))]) hD hS hA [0] rfl
        refine va_calli (va_runV (As := [.int 4]) (rest := []) ⟨hx, hb, hml, hown, hts⟩ (k_X8_none l D cI cJ cZ s.heap.size m8 wa pa8 sta mo hea tha hd8 od8 cd8 opa osa st8 ig io op8 pl8 py wn tu la ps dr tb 4 ) (cwV 1 hts gX8_tell_X8_none rfl rfl rfl (by decide +kernel) ⟨Nat.le_of_ble_eq_true rfl, Nat.le_of_ble_eq_true rfl⟩) ⟨wM_fb, va_recv hK hPc (ci := 6) (q0 := 0) rfl rfl, wM_pre hPc ⟨hK, hN⟩ hDc⟩ rfl rfl hl.1 rfl (lv_room (Nat.le_of_ble_eq_true rfl)) dX8_tell_25 ⟨Nat.le_of_ble_eq_true rfl, Nat.le_of_ble_eq_true rfl⟩) hS (fun q _ h => hFc q h) hFc (fun x25 u t H1 locs ht hvm hx25 hB hz1 hk1 hS => ?_)
        obtain ⟨hP1, hD1⟩ := hB
        rw [ht] at hP1
        obtain ⟨hP, hD⟩ := va_join (wr := []) (w1 := [(m8, .inr (6, [.int 4, .ref wa, .ref pa8, .ref sta, .ref mo, .ref hea, .ref tha, .int ig, .int io, .int op8, .int pl8, .int py, .int wn, .int tu, .int la, .int ps, .ref hd8, .ref od8, .long tb, .ref cd8, .int dr, .ref opa, .ref osa]))]) hP hD [0] [] rfl rfl (by decide) (by decide) hk1 hFc hP1 hD1
        generalize H1 = H at hP hS ⊢
        have hP : va_P D vwCl [(m8, .inr (6, [.int 4, .ref wa, .ref pa8, .ref sta, .ref mo, .ref hea, .ref tha, .int ig, .int io, .int op8, .int pl8, .int py, .int wn, .int tu, .int la, .int ps, .ref hd8, .ref od8, .long tb, .ref cd8, .int dr, .ref opa, .ref osa]))] H := hP
        have hD : va_D A [(m8, .inr (6, [.int 4, .ref wa, .ref pa8, .ref sta, .ref mo, .ref hea, .ref tha, .int ig, .int io, .int op8, .int pl8, .int py, .int wn, .int tu, .int la, .int ps, .ref hd8, .ref od8, .long tb, .ref cd8, .int dr, .ref opa, .ref osa]))] := hD
        try dsimp only at hx25
        rw [← hQ]
        have hP9 := hP.sub (ws' := [(m8, .inr (6, [.int 4, .ref wa, .ref pa8, .ref sta, .ref mo, .ref hea, .ref tha, .int ig, .int io, .int op8, .int pl8, .int py, .int wn, .int tu, .int la, .int ps, .ref hd8, .ref od8, .long tb, .ref cd8, .int dr, .ref opa, .ref osa]))]) [0] rfl
        have hD9 := hD.sub (ws' := [(m8, .inr (6, [.int 4, .ref wa, .ref pa8, .ref sta, .ref mo, .ref hea, .ref tha, .int ig, .int io, .int op8, .int pl8, .int py, .int wn, .int tu, .int la, .int ps, .ref hd8, .ref od8, .long tb, .ref cd8, .int dr, .ref opa, .ref osa]))]) [0] (by decide) rfl
        exact W.iret (v := x25) hx hb hr (fun t ht hW => ⟨⟨x25, 4, rfl, (by simp only [j_tell8]; rw [hx25]; (repeat' split) <;> first | rfl | contradiction), (by show wB D A _ t; exact ⟨by rw [ht]; exact hP9, hD9⟩)⟩, hS.F ht⟩) hS.2.2 dX8_tell_28
    · refine lv_aload_n hx hb dX8_tell_10 rfl (lv_at hl 0 rfl) ?_
      refine lv_iconst (v := 1) hx hb dX8_tell_11 (by decide) ?_
      have hPc := hP.sub (ws' := [(m8, .inr (6, [.int st8, .ref wa, .ref pa8, .ref sta, .ref mo, .ref hea, .ref tha, .int ig, .int io, .int op8, .int pl8, .int py, .int wn, .int tu, .int la, .int ps, .ref hd8, .ref od8, .long tb, .ref cd8, .int dr, .ref opa, .ref osa]))]) [0] rfl
      have hDc := hD.sub (ws' := [(m8, .inr (6, [.int st8, .ref wa, .ref pa8, .ref sta, .ref mo, .ref hea, .ref tha, .int ig, .int io, .int op8, .int pl8, .int py, .int wn, .int tu, .int la, .int ps, .ref hd8, .ref od8, .long tb, .ref cd8, .int dr, .ref opa, .ref osa]))]) [0] (by decide) rfl
      have hFc := va_free (wc := [(m8, .inr (6, [.int st8, .ref wa, .ref pa8, .ref sta, .ref mo, .ref hea, .ref tha, .int ig, .int io, .int op8, .int pl8, .int py, .int wn, .int tu, .int la, .int ps, .ref hd8, .ref od8, .long tb, .ref cd8, .int dr, .ref opa, .ref osa]))]) hD hS hA [0] rfl
      refine va_calli (va_runV (As := [.int 1]) (rest := []) ⟨hx, hb, hml, hown, hts⟩ (k_X8_none l D cI cJ cZ s.heap.size m8 wa pa8 sta mo hea tha hd8 od8 cd8 opa osa st8 ig io op8 pl8 py wn tu la ps dr tb 1 ) (cwV 1 hts gX8_tell_X8_none rfl rfl rfl (by decide +kernel) ⟨Nat.le_of_ble_eq_true rfl, Nat.le_of_ble_eq_true rfl⟩) ⟨wM_fb, va_recv hK hPc (ci := 6) (q0 := 0) rfl rfl, wM_pre hPc ⟨hK, hN⟩ hDc⟩ rfl rfl hl.1 rfl (lv_room (Nat.le_of_ble_eq_true rfl)) dX8_tell_12 ⟨Nat.le_of_ble_eq_true rfl, Nat.le_of_ble_eq_true rfl⟩) hS (fun q _ h => hFc q h) hFc (fun x12 u t H1 locs ht hvm hx12 hB hz1 hk1 hS => ?_)
      obtain ⟨hP1, hD1⟩ := hB
      rw [ht] at hP1
      obtain ⟨hP, hD⟩ := va_join (wr := []) (w1 := [(m8, .inr (6, [.int 1, .ref wa, .ref pa8, .ref sta, .ref mo, .ref hea, .ref tha, .int ig, .int io, .int op8, .int pl8, .int py, .int wn, .int tu, .int la, .int ps, .ref hd8, .ref od8, .long tb, .ref cd8, .int dr, .ref opa, .ref osa]))]) hP hD [0] [] rfl rfl (by decide) (by decide) hk1 hFc hP1 hD1
      generalize H1 = H at hP hS ⊢
      have hP : va_P D vwCl [(m8, .inr (6, [.int 1, .ref wa, .ref pa8, .ref sta, .ref mo, .ref hea, .ref tha, .int ig, .int io, .int op8, .int pl8, .int py, .int wn, .int tu, .int la, .int ps, .ref hd8, .ref od8, .long tb, .ref cd8, .int dr, .ref opa, .ref osa]))] H := hP
      have hD : va_D A [(m8, .inr (6, [.int 1, .ref wa, .ref pa8, .ref sta, .ref mo, .ref hea, .ref tha, .int ig, .int io, .int op8, .int pl8, .int py, .int wn, .int tu, .int la, .int ps, .ref hd8, .ref od8, .long tb, .ref cd8, .int dr, .ref opa, .ref osa]))] := hD
      try dsimp only at hx12
      rw [← hQ]
      have hP9 := hP.sub (ws' := [(m8, .inr (6, [.int 1, .ref wa, .ref pa8, .ref sta, .ref mo, .ref hea, .ref tha, .int ig, .int io, .int op8, .int pl8, .int py, .int wn, .int tu, .int la, .int ps, .ref hd8, .ref od8, .long tb, .ref cd8, .int dr, .ref opa, .ref osa]))]) [0] rfl
      have hD9 := hD.sub (ws' := [(m8, .inr (6, [.int 1, .ref wa, .ref pa8, .ref sta, .ref mo, .ref hea, .ref tha, .int ig, .int io, .int op8, .int pl8, .int py, .int wn, .int tu, .int la, .int ps, .ref hd8, .ref od8, .long tb, .ref cd8, .int dr, .ref opa, .ref osa]))]) [0] (by decide) rfl
      exact W.iret (v := x12) hx hb hr (fun t ht hW => ⟨⟨x12, 1, rfl, (by simp only [j_tell8]; rw [hx12]; (repeat' split) <;> first | rfl | contradiction), (by show wB D A _ t; exact ⟨by rw [ht]; exact hP9, hD9⟩)⟩, hS.F ht⟩) hS.2.2 dX8_tell_15

set_option maxHeartbeats 4000000 in
set_option maxRecDepth 100000 in
theorem k_X8_player (l : Launch) (D : va_G) (cI cJ cZ : ClassId) (sz : Nat) (m8 wa pa8 sta mo hea tha hd8 od8 cd8 opa osa : Nat) (st8 ig io op8 py wn tu la ps dr : Int32) (tb : Int64) (np : Nat) (hf8 : Nat → Int64) (of8 : Nat → Int32) (plr w : Int32) (hn4 : np ≤ 4) : Met l yX8_player wsX8_player ({ frames := 2, cells := 0, slots := 0, locals := 45 } : Room) (va_Pc [.ref m8, .int plr, .int w] (wM D cI cJ cZ sz [(m8, .inr (6, [.int st8, .ref wa, .ref pa8, .ref sta, .ref mo, .ref hea, .ref tha, .int ig, .int io, .int op8, .int (nI np), .int py, .int wn, .int tu, .int la, .int ps, .ref hd8, .ref od8, .long tb, .ref cd8, .int dr, .ref opa, .ref osa])), (hd8, .inl (cJ, 4, .inr (.inl hf8))), (od8, .inl (cZ, 4, .inl of8))])) (va_Qi (fun (r : Int32) (u : (Int32)) => match u with | st2 => ((st2, r) = j_plr8 ig (nI np) hf8 of8 plr w)) (fun (u : (Int32)) t => match u with | st2 => wB D (va_A [(m8, .inr (6, [.int st8, .ref wa, .ref pa8, .ref sta, .ref mo, .ref hea, .ref tha, .int ig, .int io, .int op8, .int (nI np), .int py, .int wn, .int tu, .int la, .int ps, .ref hd8, .ref od8, .long tb, .ref cd8, .int dr, .ref opa, .ref osa])), (hd8, .inl (cJ, 4, .inr (.inl hf8))), (od8, .inl (cZ, 4, .inl of8))] sz) [(m8, .inr (6, [.int st2, .ref wa, .ref pa8, .ref sta, .ref mo, .ref hea, .ref tha, .int ig, .int io, .int op8, .int (nI np), .int py, .int wn, .int tu, .int la, .int ps, .ref hd8, .ref od8, .long tb, .ref cd8, .int dr, .ref opa, .ref osa])), (hd8, .inl (cJ, 4, .inr (.inl hf8))), (od8, .inl (cZ, 4, .inl of8))] t) (va_A [(m8, .inr (6, [.int st8, .ref wa, .ref pa8, .ref sta, .ref mo, .ref hea, .ref tha, .int ig, .int io, .int op8, .int (nI np), .int py, .int wn, .int tu, .int la, .int ps, .ref hd8, .ref od8, .long tb, .ref cd8, .int dr, .ref opa, .ref osa])), (hd8, .inl (cJ, 4, .inr (.inl hf8))), (od8, .inl (cZ, 4, .inl of8))] sz)) 0 0 (va_A [(m8, .inr (6, [.int st8, .ref wa, .ref pa8, .ref sta, .ref mo, .ref hea, .ref tha, .int ig, .int io, .int op8, .int (nI np), .int py, .int wn, .int tu, .int la, .int ps, .ref hd8, .ref od8, .long tb, .ref cd8, .int dr, .ref opa, .ref osa])), (hd8, .inl (cJ, 4, .inr (.inl hf8))), (od8, .inl (cZ, 4, .inl of8))] sz) := by
  refine Met.ofW (cc := cX8_player) (maxL := 3) (ret := (some .int)) (by decide) rfl ?_
  intro p e s m args below meth c s₁ B hml hv
  obtain ⟨hargs, hsz, hP, ⟨hK, hN⟩, hD0⟩ := hv
  have hx := B.exec
  have hb := B.bytes
  have hr := B.returns
  have hlocks := B.notSynchronized
  have hts := atoms_spec (ws := wsX8_player) B.pre
  have hown : s.vm.findClass RX8 = some m.cls := findClass_of_methodNamed B.named
  have k90 := hts (.methodLink RX8 90 yX8_none) (by decide +kernel)
  have k158 := hts (.fieldLink RX8 158 "RummyTableModel" "isGame" "Z") (by decide +kernel)
  have iX8 : ∀ w ∈ wsX80, w ∈ wsX8_player := by decide +kernel
  have k155 := hts (.fieldLink RX8 155 "RummyTableModel" "players" "I") (by decide +kernel)
  have k50 := hts (.fieldLink RX8 50 "RummyTableModel" "status" "I") (by decide +kernel)
  have k35 := hts (.fieldLink RX8 35 "RummyTableModel" "hands" "[J") (by decide +kernel)
  have k119 := hts (.methodLink RX8 119 yX8_worthAll) (by decide +kernel)
  have k184 := hts (.methodLink RX8 184 yX8_many) (by decide +kernel)
  have k38 := hts (.fieldLink RX8 38 "RummyTableModel" "opened" "[Z") (by decide +kernel)
  subst hsz
  have hD := hD0.self (sz := s.heap.size)
  generalize hAe : va_A [(m8, .inr (6, [.int st8, .ref wa, .ref pa8, .ref sta, .ref mo, .ref hea, .ref tha, .int ig, .int io, .int op8, .int (nI np), .int py, .int wn, .int tu, .int la, .int ps, .ref hd8, .ref od8, .long tb, .ref cd8, .int dr, .ref opa, .ref osa])), (hd8, .inl (cJ, 4, .inr (.inl hf8))), (od8, .inl (cZ, 4, .inl of8))] s.heap.size = A at hD ⊢
  have hA : ∀ q : Nat, s.heap.size ≤ q → A q := fun q h => by rw [← hAe]; exact Or.inr h
  have hS : va_S A s.heap s.heap [] := va_S.rf
  rw [show entryFrame m args 3 = entryFrame m ([.ref m8, .int plr, .int w] : List Value).toArray 3 from by rw [hargs]]
  have hl := lv_entry ([.ref m8, .int plr, .int w]) (n := 3) (Nat.le_of_ble_eq_true rfl)
  rw [lg_entry_eq]
  generalize (lg_sl ([.ref m8, .int plr, .int w]) ++ List.replicate (3 - (lg_sl ([.ref m8, .int plr, .int w])).length) Slot.unset).toArray = ls at hl ⊢
  have hl : lv_has ls 3 [(0, .ref m8), (1, .int plr), (2, .int w)] := hl
  refine wQ (fun Q hQ => ?_)
  refine lv_iload_n hx hb dX8_player_0 rfl (lv_at hl 2 rfl) ?_
  refine lv_if_lt (tgt := 9) hx hb dX8_player_1 (by decide) (fun c_1 => ?_) (fun c_1 => ?_)
  · refine lv_aload_n hx hb dX8_player_9 rfl (lv_at hl 0 rfl) ?_
    refine lv_iconst (v := 1) hx hb dX8_player_10 (by decide) ?_
    have hPc := hP.sub (ws' := [(m8, .inr (6, [.int st8, .ref wa, .ref pa8, .ref sta, .ref mo, .ref hea, .ref tha, .int ig, .int io, .int op8, .int (nI np), .int py, .int wn, .int tu, .int la, .int ps, .ref hd8, .ref od8, .long tb, .ref cd8, .int dr, .ref opa, .ref osa]))]) [0] rfl
    have hDc := hD.sub (ws' := [(m8, .inr (6, [.int st8, .ref wa, .ref pa8, .ref sta, .ref mo, .ref hea, .ref tha, .int ig, .int io, .int op8, .int (nI np), .int py, .int wn, .int tu, .int la, .int ps, .ref hd8, .ref od8, .long tb, .ref cd8, .int dr, .ref opa, .ref osa]))]) [0] (by decide) rfl
    have hFc := va_free (wc := [(m8, .inr (6, [.int st8, .ref wa, .ref pa8, .ref sta, .ref mo, .ref hea, .ref tha, .int ig, .int io, .int op8, .int (nI np), .int py, .int wn, .int tu, .int la, .int ps, .ref hd8, .ref od8, .long tb, .ref cd8, .int dr, .ref opa, .ref osa]))]) hD hS hA [0] rfl
    refine va_calli (va_runV (As := [.int 1]) (rest := []) ⟨hx, hb, hml, hown, hts⟩ (k_X8_none l D cI cJ cZ s.heap.size m8 wa pa8 sta mo hea tha hd8 od8 cd8 opa osa st8 ig io op8 (nI np) py wn tu la ps dr tb 1 ) (cwV 1 hts gX8_player_X8_none rfl rfl rfl (by decide +kernel) ⟨Nat.le_of_ble_eq_true rfl, Nat.le_of_ble_eq_true rfl⟩) ⟨wM_fb, va_recv hK hPc (ci := 6) (q0 := 0) rfl rfl, wM_pre hPc ⟨hK, hN⟩ hDc⟩ rfl rfl hl.1 rfl (lv_room (Nat.le_of_ble_eq_true rfl)) dX8_player_11 ⟨Nat.le_of_ble_eq_true rfl, Nat.le_of_ble_eq_true rfl⟩) hS (fun q _ h => hFc q h) hFc (fun x11 u t H1 locs ht hvm hx11 hB hz1 hk1 hS => ?_)
    obtain ⟨hP1, hD1⟩ := hB
    rw [ht] at hP1
    obtain ⟨hP, hD⟩ := va_join (wr := [(hd8, .inl (cJ, 4, .inr (.inl hf8))), (od8, .inl (cZ, 4, .inl of8))]) (w1 := [(m8, .inr (6, [.int 1, .ref wa, .ref pa8, .ref sta, .ref mo, .ref hea, .ref tha, .int ig, .int io, .int op8, .int (nI np), .int py, .int wn, .int tu, .int la, .int ps, .ref hd8, .ref od8, .long tb, .ref cd8, .int dr, .ref opa, .ref osa]))]) hP hD [0] [1, 2] rfl rfl (by decide) (by decide) hk1 hFc hP1 hD1
    generalize H1 = H at hP hS ⊢
    have hP : va_P D vwCl [(hd8, .inl (cJ, 4, .inr (.inl hf8))), (od8, .inl (cZ, 4, .inl of8)), (m8, .inr (6, [.int 1, .ref wa, .ref pa8, .ref sta, .ref mo, .ref hea, .ref tha, .int ig, .int io, .int op8, .int (nI np), .int py, .int wn, .int tu, .int la, .int ps, .ref hd8, .ref od8, .long tb, .ref cd8, .int dr, .ref opa, .ref osa]))] H := hP
    have hD : va_D A [(hd8, .inl (cJ, 4, .inr (.inl hf8))), (od8, .inl (cZ, 4, .inl of8)), (m8, .inr (6, [.int 1, .ref wa, .ref pa8, .ref sta, .ref mo, .ref hea, .ref tha, .int ig, .int io, .int op8, .int (nI np), .int py, .int wn, .int tu, .int la, .int ps, .ref hd8, .ref od8, .long tb, .ref cd8, .int dr, .ref opa, .ref osa]))] := hD
    try dsimp only at hx11
    rw [← hQ]
    have hP9 := hP.sub (ws' := [(m8, .inr (6, [.int 1, .ref wa, .ref pa8, .ref sta, .ref mo, .ref hea, .ref tha, .int ig, .int io, .int op8, .int (nI np), .int py, .int wn, .int tu, .int la, .int ps, .ref hd8, .ref od8, .long tb, .ref cd8, .int dr, .ref opa, .ref osa])), (hd8, .inl (cJ, 4, .inr (.inl hf8))), (od8, .inl (cZ, 4, .inl of8))]) [2, 0, 1] rfl
    have hD9 := hD.sub (ws' := [(m8, .inr (6, [.int 1, .ref wa, .ref pa8, .ref sta, .ref mo, .ref hea, .ref tha, .int ig, .int io, .int op8, .int (nI np), .int py, .int wn, .int tu, .int la, .int ps, .ref hd8, .ref od8, .long tb, .ref cd8, .int dr, .ref opa, .ref osa])), (hd8, .inl (cJ, 4, .inr (.inl hf8))), (od8, .inl (cZ, 4, .inl of8))]) [2, 0, 1] (by decide) rfl
    exact W.iret (v := x11) hx hb hr (fun t ht hW => ⟨⟨x11, 1, rfl, (by simp only [j_plr8]; rw [hx11]; (repeat' split) <;> first | rfl | contradiction), (by show wB D A _ t; exact ⟨by rw [ht]; exact hP9, hD9⟩)⟩, hS.F ht⟩) hS.2.2 dX8_player_14
  · refine lv_iload_n hx hb dX8_player_4 rfl (lv_at hl 2 rfl) ?_
    refine lv_iconst (v := 2) hx hb dX8_player_5 (by decide) ?_
    refine lv_icmp_le (tgt := 15) hx hb dX8_player_6 (by decide) (fun c_6 => ?_) (fun c_6 => ?_)
    · refine lv_aload_n hx hb dX8_player_15 rfl (lv_at hl 0 rfl) ?_
      refine va_get (D := D) (ci := 6) (v := .int ig) (C := RX8) (T := TX8) (N := 23) hx hb hts iX8 hown hK hP 0 rfl rfl 7 (by decide) k158 (fun _ h9 => h9) rfl dX8_player_16 ?_
      refine lv_if_ne (tgt := 28) hx hb dX8_player_19 (by decide) (fun c_19 => ?_) (fun c_19 => ?_)
      · refine lv_iload_n hx hb dX8_player_28 rfl (lv_at hl 1 rfl) ?_
        refine lv_if_lt (tgt := 40) hx hb dX8_player_29 (by decide) (fun c_29 => ?_) (fun c_29 => ?_)
        · refine lv_aload_n hx hb dX8_player_40 rfl (lv_at hl 0 rfl) ?_
          refine lv_iconst (v := 1) hx hb dX8_player_41 (by decide) ?_
          have hPc := hP.sub (ws' := [(m8, .inr (6, [.int st8, .ref wa, .ref pa8, .ref sta, .ref mo, .ref hea, .ref tha, .int ig, .int io, .int op8, .int (nI np), .int py, .int wn, .int tu, .int la, .int ps, .ref hd8, .ref od8, .long tb, .ref cd8, .int dr, .ref opa, .ref osa]))]) [0] rfl
          have hDc := hD.sub (ws' := [(m8, .inr (6, [.int st8, .ref wa, .ref pa8, .ref sta, .ref mo, .ref hea, .ref tha, .int ig, .int io, .int op8, .int (nI np), .int py, .int wn, .int tu, .int la, .int ps, .ref hd8, .ref od8, .long tb, .ref cd8, .int dr, .ref opa, .ref osa]))]) [0] (by decide) rfl
          have hFc := va_free (wc := [(m8, .inr (6, [.int st8, .ref wa, .ref pa8, .ref sta, .ref mo, .ref hea, .ref tha, .int ig, .int io, .int op8, .int (nI np), .int py, .int wn, .int tu, .int la, .int ps, .ref hd8, .ref od8, .long tb, .ref cd8, .int dr, .ref opa, .ref osa]))]) hD hS hA [0] rfl
          refine va_calli (va_runV (As := [.int 1]) (rest := []) ⟨hx, hb, hml, hown, hts⟩ (k_X8_none l D cI cJ cZ s.heap.size m8 wa pa8 sta mo hea tha hd8 od8 cd8 opa osa st8 ig io op8 (nI np) py wn tu la ps dr tb 1 ) (cwV 1 hts gX8_player_X8_none rfl rfl rfl (by decide +kernel) ⟨Nat.le_of_ble_eq_true rfl, Nat.le_of_ble_eq_true rfl⟩) ⟨wM_fb, va_recv hK hPc (ci := 6) (q0 := 0) rfl rfl, wM_pre hPc ⟨hK, hN⟩ hDc⟩ rfl rfl hl.1 rfl (lv_room (Nat.le_of_ble_eq_true rfl)) dX8_player_42 ⟨Nat.le_of_ble_eq_true rfl, Nat.le_of_ble_eq_true rfl⟩) hS (fun q _ h => hFc q h) hFc (fun x42 u t H1 locs ht hvm hx42 hB hz1 hk1 hS => ?_)
          obtain ⟨hP1, hD1⟩ := hB
          rw [ht] at hP1
          obtain ⟨hP, hD⟩ := va_join (wr := [(hd8, .inl (cJ, 4, .inr (.inl hf8))), (od8, .inl (cZ, 4, .inl of8))]) (w1 := [(m8, .inr (6, [.int 1, .ref wa, .ref pa8, .ref sta, .ref mo, .ref hea, .ref tha, .int ig, .int io, .int op8, .int (nI np), .int py, .int wn, .int tu, .int la, .int ps, .ref hd8, .ref od8, .long tb, .ref cd8, .int dr, .ref opa, .ref osa]))]) hP hD [0] [1, 2] rfl rfl (by decide) (by decide) hk1 hFc hP1 hD1
          generalize H1 = H at hP hS ⊢
          have hP : va_P D vwCl [(hd8, .inl (cJ, 4, .inr (.inl hf8))), (od8, .inl (cZ, 4, .inl of8)), (m8, .inr (6, [.int 1, .ref wa, .ref pa8, .ref sta, .ref mo, .ref hea, .ref tha, .int ig, .int io, .int op8, .int (nI np), .int py, .int wn, .int tu, .int la, .int ps, .ref hd8, .ref od8, .long tb, .ref cd8, .int dr, .ref opa, .ref osa]))] H := hP
          have hD : va_D A [(hd8, .inl (cJ, 4, .inr (.inl hf8))), (od8, .inl (cZ, 4, .inl of8)), (m8, .inr (6, [.int 1, .ref wa, .ref pa8, .ref sta, .ref mo, .ref hea, .ref tha, .int ig, .int io, .int op8, .int (nI np), .int py, .int wn, .int tu, .int la, .int ps, .ref hd8, .ref od8, .long tb, .ref cd8, .int dr, .ref opa, .ref osa]))] := hD
          try dsimp only at hx42
          rw [← hQ]
          have hP9 := hP.sub (ws' := [(m8, .inr (6, [.int 1, .ref wa, .ref pa8, .ref sta, .ref mo, .ref hea, .ref tha, .int ig, .int io, .int op8, .int (nI np), .int py, .int wn, .int tu, .int la, .int ps, .ref hd8, .ref od8, .long tb, .ref cd8, .int dr, .ref opa, .ref osa])), (hd8, .inl (cJ, 4, .inr (.inl hf8))), (od8, .inl (cZ, 4, .inl of8))]) [2, 0, 1] rfl
          have hD9 := hD.sub (ws' := [(m8, .inr (6, [.int 1, .ref wa, .ref pa8, .ref sta, .ref mo, .ref hea, .ref tha, .int ig, .int io, .int op8, .int (nI np), .int py, .int wn, .int tu, .int la, .int ps, .ref hd8, .ref od8, .long tb, .ref cd8, .int dr, .ref opa, .ref osa])), (hd8, .inl (cJ, 4, .inr (.inl hf8))), (od8, .inl (cZ, 4, .inl of8))]) [2, 0, 1] (by decide) rfl
          exact W.iret (v := x42) hx hb hr (fun t ht hW => ⟨⟨x42, 1, rfl, (by simp only [j_plr8]; rw [hx42]; (repeat' split) <;> first | rfl | contradiction), (by show wB D A _ t; exact ⟨by rw [ht]; exact hP9, hD9⟩)⟩, hS.F ht⟩) hS.2.2 dX8_player_45
        · refine lv_iload_n hx hb dX8_player_32 rfl (lv_at hl 1 rfl) ?_
          refine lv_aload_n hx hb dX8_player_33 rfl (lv_at hl 0 rfl) ?_
          refine va_get (D := D) (ci := 6) (v := .int (nI np)) (C := RX8) (T := TX8) (N := 23) hx hb hts iX8 hown hK hP 0 rfl rfl 10 (by decide) k155 (fun _ h9 => h9) rfl dX8_player_34 ?_
          refine lv_icmp_lt (tgt := 46) hx hb dX8_player_37 (by decide) (fun c_37 => ?_) (fun c_37 => ?_)
          · refine lv_aload_n hx hb dX8_player_46 rfl (lv_at hl 0 rfl) ?_
            refine lv_iconst (v := 0) hx hb dX8_player_47 (by decide) ?_
            refine va_put (D := D) (ci := 6) (v := .int 0) (ty := .int) (C := RX8) (T := TX8) (N := 23) hx hb hts iX8 tyX8 tyX8_ok nmX8 hown hK hP hD hS 0 rfl rfl 0 (by decide) k50 (fun _ h9 => h9) rfl (by decide +kernel) rfl rfl (Nat.le_of_ble_eq_true rfl) dX8_player_48 (fun H locs hP hD hS => ?_)
            have hP : va_P D vwCl [(m8, .inr (6, [.int 0, .ref wa, .ref pa8, .ref sta, .ref mo, .ref hea, .ref tha, .int ig, .int io, .int op8, .int (nI np), .int py, .int wn, .int tu, .int la, .int ps, .ref hd8, .ref od8, .long tb, .ref cd8, .int dr, .ref opa, .ref osa])), (hd8, .inl (cJ, 4, .inr (.inl hf8))), (od8, .inl (cZ, 4, .inl of8))] H := hP
            have hD : va_D A [(m8, .inr (6, [.int 0, .ref wa, .ref pa8, .ref sta, .ref mo, .ref hea, .ref tha, .int ig, .int io, .int op8, .int (nI np), .int py, .int wn, .int tu, .int la, .int ps, .ref hd8, .ref od8, .long tb, .ref cd8, .int dr, .ref opa, .ref osa])), (hd8, .inl (cJ, 4, .inr (.inl hf8))), (od8, .inl (cZ, 4, .inl of8))] := hD
            refine lv_iload_n hx hb dX8_player_51 rfl (lv_at hl 2 rfl) ?_
            refine lv_if_ne (tgt := 72) hx hb dX8_player_52 (by decide) (fun c_52 => ?_) (fun c_52 => ?_)
            · refine lv_iload_n hx hb dX8_player_72 rfl (lv_at hl 2 rfl) ?_
              refine lv_iconst (v := 1) hx hb dX8_player_73 (by decide) ?_
              refine lv_icmp_ne (tgt := 89) hx hb dX8_player_74 (by decide) (fun c_74 => ?_) (fun c_74 => ?_)
              · refine lv_aload_n hx hb dX8_player_89 rfl (lv_at hl 0 rfl) ?_
                refine va_get (D := D) (ci := 6) (v := .ref hd8) (C := RX8) (T := TX8) (N := 23) hx hb hts iX8 hown hK hP 0 rfl rfl 16 (by decide) k35 (fun _ h9 => h9) rfl dX8_player_90 ?_
                refine lv_iload_n hx hb dX8_player_93 rfl (lv_at hl 1 rfl) ?_
                refine va_lald hx hb hK hP 1 1 rfl rfl (hp_inP c_29 c_37 hn4) dX8_player_94 ?_
                refine vp_callSi (W.runS (As := [.long (hf8 plr.toNatClampNeg)]) (rest := []) ⟨hx, hb, hml, hown, hts⟩ (k_X8_worthAll l (hf8 plr.toNatClampNeg) ) (va_cwS 1 hts gX8_player_X8_worthAll rfl rfl rfl (by decide +kernel) ⟨Nat.le_of_ble_eq_true rfl, Nat.le_of_ble_eq_true rfl⟩) ⟨pS_fb, pS_pre⟩ rfl rfl hl.1 rfl (lv_room (Nat.le_of_ble_eq_true rfl)) dX8_player_95 ⟨Nat.le_of_ble_eq_true rfl, Nat.le_of_ble_eq_true rfl⟩) (fun x95 hx95 => ?_)
                subst hx95
                rw [← hQ]
                have hP9 := hP.sub (ws' := [(m8, .inr (6, [.int 0, .ref wa, .ref pa8, .ref sta, .ref mo, .ref hea, .ref tha, .int ig, .int io, .int op8, .int (nI np), .int py, .int wn, .int tu, .int la, .int ps, .ref hd8, .ref od8, .long tb, .ref cd8, .int dr, .ref opa, .ref osa])), (hd8, .inl (cJ, 4, .inr (.inl hf8))), (od8, .inl (cZ, 4, .inl of8))]) [0, 1, 2] rfl
                have hD9 := hD.sub (ws' := [(m8, .inr (6, [.int 0, .ref wa, .ref pa8, .ref sta, .ref mo, .ref hea, .ref tha, .int ig, .int io, .int op8, .int (nI np), .int py, .int wn, .int tu, .int la, .int ps, .ref hd8, .ref od8, .long tb, .ref cd8, .int dr, .ref opa, .ref osa])), (hd8, .inl (cJ, 4, .inr (.inl hf8))), (od8, .inl (cZ, 4, .inl of8))]) [0, 1, 2] (by decide) rfl
                exact W.iret (v := j_X8_worthAll (hf8 plr.toNatClampNeg)) hx hb hr (fun t ht hW => ⟨⟨(j_X8_worthAll (hf8 plr.toNatClampNeg)), 0, rfl, (by simp only [j_plr8]; (repeat' split) <;> first | rfl | contradiction), (by show wB D A _ t; exact ⟨by rw [ht]; exact hP9, hD9⟩)⟩, hS.F ht⟩) hS.2.2 dX8_player_98
              · refine lv_aload_n hx hb dX8_player_77 rfl (lv_at hl 0 rfl) ?_
                refine va_get (D := D) (ci := 6) (v := .ref hd8) (C := RX8) (T := TX8) (N := 23) hx hb hts iX8 hown hK hP 0 rfl rfl 16 (by decide) k35 (fun _ h9 => h9) rfl dX8_player_78 ?_
                refine lv_iload_n hx hb dX8_player_81 rfl (lv_at hl 1 rfl) ?_
                refine va_lald hx hb hK hP 1 1 rfl rfl (hp_inP c_29 c_37 hn4) dX8_player_82 ?_
                refine vp_callSi (W.runS (As := [.long (hf8 plr.toNatClampNeg)]) (rest := []) ⟨hx, hb, hml, hown, hts⟩ (k_X8_many l (hf8 plr.toNatClampNeg) ) (va_cwS 1 hts gX8_player_X8_many rfl rfl rfl (by decide +kernel) ⟨Nat.le_of_ble_eq_true rfl, Nat.le_of_ble_eq_true rfl⟩) ⟨pS_fb, pS_pre⟩ rfl rfl hl.1 rfl (lv_room (Nat.le_of_ble_eq_true rfl)) dX8_player_83 ⟨Nat.le_of_ble_eq_true rfl, Nat.le_of_ble_eq_true rfl⟩) (fun x83 hx83 => ?_)
                subst hx83
                refine lv_goto (tgt := 98) hx hb dX8_player_86 (by decide) ?_
                rw [← hQ]
                have hP9 := hP.sub (ws' := [(m8, .inr (6, [.int 0, .ref wa, .ref pa8, .ref sta, .ref mo, .ref hea, .ref tha, .int ig, .int io, .int op8, .int (nI np), .int py, .int wn, .int tu, .int la, .int ps, .ref hd8, .ref od8, .long tb, .ref cd8, .int dr, .ref opa, .ref osa])), (hd8, .inl (cJ, 4, .inr (.inl hf8))), (od8, .inl (cZ, 4, .inl of8))]) [0, 1, 2] rfl
                have hD9 := hD.sub (ws' := [(m8, .inr (6, [.int 0, .ref wa, .ref pa8, .ref sta, .ref mo, .ref hea, .ref tha, .int ig, .int io, .int op8, .int (nI np), .int py, .int wn, .int tu, .int la, .int ps, .ref hd8, .ref od8, .long tb, .ref cd8, .int dr, .ref opa, .ref osa])), (hd8, .inl (cJ, 4, .inr (.inl hf8))), (od8, .inl (cZ, 4, .inl of8))]) [0, 1, 2] (by decide) rfl
                exact W.iret (v := j_X8_many (hf8 plr.toNatClampNeg)) hx hb hr (fun t ht hW => ⟨⟨(j_X8_many (hf8 plr.toNatClampNeg)), 0, rfl, (by simp only [j_plr8]; (repeat' split) <;> first | rfl | contradiction), (by show wB D A _ t; exact ⟨by rw [ht]; exact hP9, hD9⟩)⟩, hS.F ht⟩) hS.2.2 dX8_player_98
            · refine lv_aload_n hx hb dX8_player_55 rfl (lv_at hl 0 rfl) ?_
              refine va_get (D := D) (ci := 6) (v := .ref od8) (C := RX8) (T := TX8) (N := 23) hx hb hts iX8 hown hK hP 0 rfl rfl 17 (by decide) k38 (fun _ h9 => h9) rfl dX8_player_56 ?_
              refine lv_iload_n hx hb dX8_player_59 rfl (lv_at hl 1 rfl) ?_
              refine va_zald hx hb hK hP 2 2 rfl rfl (hp_inP c_29 c_37 hn4) dX8_player_60 ?_
              refine lv_if_eq (tgt := 68) hx hb dX8_player_61 (by decide) (fun c_61 => ?_) (fun c_61 => ?_)
              · refine lv_iconst (v := 0) hx hb dX8_player_68 (by decide) ?_
                refine lv_goto (tgt := 98) hx hb dX8_player_69 (by decide) ?_
                rw [← hQ]
                have hP9 := hP.sub (ws' := [(m8, .inr (6, [.int 0, .ref wa, .ref pa8, .ref sta, .ref mo, .ref hea, .ref tha, .int ig, .int io, .int op8, .int (nI np), .int py, .int wn, .int tu, .int la, .int ps, .ref hd8, .ref od8, .long tb, .ref cd8, .int dr, .ref opa, .ref osa])), (hd8, .inl (cJ, 4, .inr (.inl hf8))), (od8, .inl (cZ, 4, .inl of8))]) [0, 1, 2] rfl
                have hD9 := hD.sub (ws' := [(m8, .inr (6, [.int 0, .ref wa, .ref pa8, .ref sta, .ref mo, .ref hea, .ref tha, .int ig, .int io, .int op8, .int (nI np), .int py, .int wn, .int tu, .int la, .int ps, .ref hd8, .ref od8, .long tb, .ref cd8, .int dr, .ref opa, .ref osa])), (hd8, .inl (cJ, 4, .inr (.inl hf8))), (od8, .inl (cZ, 4, .inl of8))]) [0, 1, 2] (by decide) rfl
                exact W.iret (v := 0) hx hb hr (fun t ht hW => ⟨⟨0, 0, rfl, (by simp only [j_plr8]; (repeat' split) <;> first | rfl | contradiction), (by show wB D A _ t; exact ⟨by rw [ht]; exact hP9, hD9⟩)⟩, hS.F ht⟩) hS.2.2 dX8_player_98
              · refine lv_iconst (v := 1) hx hb dX8_player_64 (by decide) ?_
                refine lv_goto (tgt := 98) hx hb dX8_player_65 (by decide) ?_
                rw [← hQ]
                have hP9 := hP.sub (ws' := [(m8, .inr (6, [.int 0, .ref wa, .ref pa8, .ref sta, .ref mo, .ref hea, .ref tha, .int ig, .int io, .int op8, .int (nI np), .int py, .int wn, .int tu, .int la, .int ps, .ref hd8, .ref od8, .long tb, .ref cd8, .int dr, .ref opa, .ref osa])), (hd8, .inl (cJ, 4, .inr (.inl hf8))), (od8, .inl (cZ, 4, .inl of8))]) [0, 1, 2] rfl
                have hD9 := hD.sub (ws' := [(m8, .inr (6, [.int 0, .ref wa, .ref pa8, .ref sta, .ref mo, .ref hea, .ref tha, .int ig, .int io, .int op8, .int (nI np), .int py, .int wn, .int tu, .int la, .int ps, .ref hd8, .ref od8, .long tb, .ref cd8, .int dr, .ref opa, .ref osa])), (hd8, .inl (cJ, 4, .inr (.inl hf8))), (od8, .inl (cZ, 4, .inl of8))]) [0, 1, 2] (by decide) rfl
                exact W.iret (v := 1) hx hb hr (fun t ht hW => ⟨⟨1, 0, rfl, (by simp only [j_plr8]; (repeat' split) <;> first | rfl | contradiction), (by show wB D A _ t; exact ⟨by rw [ht]; exact hP9, hD9⟩)⟩, hS.F ht⟩) hS.2.2 dX8_player_98
          · refine lv_aload_n hx hb dX8_player_40 rfl (lv_at hl 0 rfl) ?_
            refine lv_iconst (v := 1) hx hb dX8_player_41 (by decide) ?_
            have hPc := hP.sub (ws' := [(m8, .inr (6, [.int st8, .ref wa, .ref pa8, .ref sta, .ref mo, .ref hea, .ref tha, .int ig, .int io, .int op8, .int (nI np), .int py, .int wn, .int tu, .int la, .int ps, .ref hd8, .ref od8, .long tb, .ref cd8, .int dr, .ref opa, .ref osa]))]) [0] rfl
            have hDc := hD.sub (ws' := [(m8, .inr (6, [.int st8, .ref wa, .ref pa8, .ref sta, .ref mo, .ref hea, .ref tha, .int ig, .int io, .int op8, .int (nI np), .int py, .int wn, .int tu, .int la, .int ps, .ref hd8, .ref od8, .long tb, .ref cd8, .int dr, .ref opa, .ref osa]))]) [0] (by decide) rfl
            have hFc := va_free (wc := [(m8, .inr (6, [.int st8, .ref wa, .ref pa8, .ref sta, .ref mo, .ref hea, .ref tha, .int ig, .int io, .int op8, .int (nI np), .int py, .int wn, .int tu, .int la, .int ps, .ref hd8, .ref od8, .long tb, .ref cd8, .int dr, .ref opa, .ref osa]))]) hD hS hA [0] rfl
            refine va_calli (va_runV (As := [.int 1]) (rest := []) ⟨hx, hb, hml, hown, hts⟩ (k_X8_none l D cI cJ cZ s.heap.size m8 wa pa8 sta mo hea tha hd8 od8 cd8 opa osa st8 ig io op8 (nI np) py wn tu la ps dr tb 1 ) (cwV 1 hts gX8_player_X8_none rfl rfl rfl (by decide +kernel) ⟨Nat.le_of_ble_eq_true rfl, Nat.le_of_ble_eq_true rfl⟩) ⟨wM_fb, va_recv hK hPc (ci := 6) (q0 := 0) rfl rfl, wM_pre hPc ⟨hK, hN⟩ hDc⟩ rfl rfl hl.1 rfl (lv_room (Nat.le_of_ble_eq_true rfl)) dX8_player_42 ⟨Nat.le_of_ble_eq_true rfl, Nat.le_of_ble_eq_true rfl⟩) hS (fun q _ h => hFc q h) hFc (fun x42 u t H1 locs ht hvm hx42 hB hz1 hk1 hS => ?_)
            obtain ⟨hP1, hD1⟩ := hB
            rw [ht] at hP1
            obtain ⟨hP, hD⟩ := va_join (wr := [(hd8, .inl (cJ, 4, .inr (.inl hf8))), (od8, .inl (cZ, 4, .inl of8))]) (w1 := [(m8, .inr (6, [.int 1, .ref wa, .ref pa8, .ref sta, .ref mo, .ref hea, .ref tha, .int ig, .int io, .int op8, .int (nI np), .int py, .int wn, .int tu, .int la, .int ps, .ref hd8, .ref od8, .long tb, .ref cd8, .int dr, .ref opa, .ref osa]))]) hP hD [0] [1, 2] rfl rfl (by decide) (by decide) hk1 hFc hP1 hD1
            generalize H1 = H at hP hS ⊢
            have hP : va_P D vwCl [(hd8, .inl (cJ, 4, .inr (.inl hf8))), (od8, .inl (cZ, 4, .inl of8)), (m8, .inr (6, [.int 1, .ref wa, .ref pa8, .ref sta, .ref mo, .ref hea, .ref tha, .int ig, .int io, .int op8, .int (nI np), .int py, .int wn, .int tu, .int la, .int ps, .ref hd8, .ref od8, .long tb, .ref cd8, .int dr, .ref opa, .ref osa]))] H := hP
            have hD : va_D A [(hd8, .inl (cJ, 4, .inr (.inl hf8))), (od8, .inl (cZ, 4, .inl of8)), (m8, .inr (6, [.int 1, .ref wa, .ref pa8, .ref sta, .ref mo, .ref hea, .ref tha, .int ig, .int io, .int op8, .int (nI np), .int py, .int wn, .int tu, .int la, .int ps, .ref hd8, .ref od8, .long tb, .ref cd8, .int dr, .ref opa, .ref osa]))] := hD
            try dsimp only at hx42
            rw [← hQ]
            have hP9 := hP.sub (ws' := [(m8, .inr (6, [.int 1, .ref wa, .ref pa8, .ref sta, .ref mo, .ref hea, .ref tha, .int ig, .int io, .int op8, .int (nI np), .int py, .int wn, .int tu, .int la, .int ps, .ref hd8, .ref od8, .long tb, .ref cd8, .int dr, .ref opa, .ref osa])), (hd8, .inl (cJ, 4, .inr (.inl hf8))), (od8, .inl (cZ, 4, .inl of8))]) [2, 0, 1] rfl
            have hD9 := hD.sub (ws' := [(m8, .inr (6, [.int 1, .ref wa, .ref pa8, .ref sta, .ref mo, .ref hea, .ref tha, .int ig, .int io, .int op8, .int (nI np), .int py, .int wn, .int tu, .int la, .int ps, .ref hd8, .ref od8, .long tb, .ref cd8, .int dr, .ref opa, .ref osa])), (hd8, .inl (cJ, 4, .inr (.inl hf8))), (od8, .inl (cZ, 4, .inl of8))]) [2, 0, 1] (by decide) rfl
            exact W.iret (v := x42) hx hb hr (fun t ht hW => ⟨⟨x42, 1, rfl, (by simp only [j_plr8]; rw [hx42]; (repeat' split) <;> first | rfl | contradiction), (by show wB D A _ t; exact ⟨by rw [ht]; exact hP9, hD9⟩)⟩, hS.F ht⟩) hS.2.2 dX8_player_45
      · refine lv_aload_n hx hb dX8_player_22 rfl (lv_at hl 0 rfl) ?_
        refine lv_iconst (v := 4) hx hb dX8_player_23 (by decide) ?_
        have hPc := hP.sub (ws' := [(m8, .inr (6, [.int st8, .ref wa, .ref pa8, .ref sta, .ref mo, .ref hea, .ref tha, .int ig, .int io, .int op8, .int (nI np), .int py, .int wn, .int tu, .int la, .int ps, .ref hd8, .ref od8, .long tb, .ref cd8, .int dr, .ref opa, .ref osa]))]) [0] rfl
        have hDc := hD.sub (ws' := [(m8, .inr (6, [.int st8, .ref wa, .ref pa8, .ref sta, .ref mo, .ref hea, .ref tha, .int ig, .int io, .int op8, .int (nI np), .int py, .int wn, .int tu, .int la, .int ps, .ref hd8, .ref od8, .long tb, .ref cd8, .int dr, .ref opa, .ref osa]))]) [0] (by decide) rfl
        have hFc := va_free (wc := [(m8, .inr (6, [.int st8, .ref wa, .ref pa8, .ref sta, .ref mo, .ref hea, .ref tha, .int ig, .int io, .int op8, .int (nI np), .int py, .int wn, .int tu, .int la, .int ps, .ref hd8, .ref od8, .long tb, .ref cd8, .int dr, .ref opa, .ref osa]))]) hD hS hA [0] rfl
        refine va_calli (va_runV (As := [.int 4]) (rest := []) ⟨hx, hb, hml, hown, hts⟩ (k_X8_none l D cI cJ cZ s.heap.size m8 wa pa8 sta mo hea tha hd8 od8 cd8 opa osa st8 ig io op8 (nI np) py wn tu la ps dr tb 4 ) (cwV 1 hts gX8_player_X8_none rfl rfl rfl (by decide +kernel) ⟨Nat.le_of_ble_eq_true rfl, Nat.le_of_ble_eq_true rfl⟩) ⟨wM_fb, va_recv hK hPc (ci := 6) (q0 := 0) rfl rfl, wM_pre hPc ⟨hK, hN⟩ hDc⟩ rfl rfl hl.1 rfl (lv_room (Nat.le_of_ble_eq_true rfl)) dX8_player_24 ⟨Nat.le_of_ble_eq_true rfl, Nat.le_of_ble_eq_true rfl⟩) hS (fun q _ h => hFc q h) hFc (fun x24 u t H1 locs ht hvm hx24 hB hz1 hk1 hS => ?_)
        obtain ⟨hP1, hD1⟩ := hB
        rw [ht] at hP1
        obtain ⟨hP, hD⟩ := va_join (wr := [(hd8, .inl (cJ, 4, .inr (.inl hf8))), (od8, .inl (cZ, 4, .inl of8))]) (w1 := [(m8, .inr (6, [.int 4, .ref wa, .ref pa8, .ref sta, .ref mo, .ref hea, .ref tha, .int ig, .int io, .int op8, .int (nI np), .int py, .int wn, .int tu, .int la, .int ps, .ref hd8, .ref od8, .long tb, .ref cd8, .int dr, .ref opa, .ref osa]))]) hP hD [0] [1, 2] rfl rfl (by decide) (by decide) hk1 hFc hP1 hD1
        generalize H1 = H at hP hS ⊢
        have hP : va_P D vwCl [(hd8, .inl (cJ, 4, .inr (.inl hf8))), (od8, .inl (cZ, 4, .inl of8)), (m8, .inr (6, [.int 4, .ref wa, .ref pa8, .ref sta, .ref mo, .ref hea, .ref tha, .int ig, .int io, .int op8, .int (nI np), .int py, .int wn, .int tu, .int la, .int ps, .ref hd8, .ref od8, .long tb, .ref cd8, .int dr, .ref opa, .ref osa]))] H := hP
        have hD : va_D A [(hd8, .inl (cJ, 4, .inr (.inl hf8))), (od8, .inl (cZ, 4, .inl of8)), (m8, .inr (6, [.int 4, .ref wa, .ref pa8, .ref sta, .ref mo, .ref hea, .ref tha, .int ig, .int io, .int op8, .int (nI np), .int py, .int wn, .int tu, .int la, .int ps, .ref hd8, .ref od8, .long tb, .ref cd8, .int dr, .ref opa, .ref osa]))] := hD
        try dsimp only at hx24
        rw [← hQ]
        have hP9 := hP.sub (ws' := [(m8, .inr (6, [.int 4, .ref wa, .ref pa8, .ref sta, .ref mo, .ref hea, .ref tha, .int ig, .int io, .int op8, .int (nI np), .int py, .int wn, .int tu, .int la, .int ps, .ref hd8, .ref od8, .long tb, .ref cd8, .int dr, .ref opa, .ref osa])), (hd8, .inl (cJ, 4, .inr (.inl hf8))), (od8, .inl (cZ, 4, .inl of8))]) [2, 0, 1] rfl
        have hD9 := hD.sub (ws' := [(m8, .inr (6, [.int 4, .ref wa, .ref pa8, .ref sta, .ref mo, .ref hea, .ref tha, .int ig, .int io, .int op8, .int (nI np), .int py, .int wn, .int tu, .int la, .int ps, .ref hd8, .ref od8, .long tb, .ref cd8, .int dr, .ref opa, .ref osa])), (hd8, .inl (cJ, 4, .inr (.inl hf8))), (od8, .inl (cZ, 4, .inl of8))]) [2, 0, 1] (by decide) rfl
        exact W.iret (v := x24) hx hb hr (fun t ht hW => ⟨⟨x24, 4, rfl, (by simp only [j_plr8]; rw [hx24]; (repeat' split) <;> first | rfl | contradiction), (by show wB D A _ t; exact ⟨by rw [ht]; exact hP9, hD9⟩)⟩, hS.F ht⟩) hS.2.2 dX8_player_27
    · refine lv_aload_n hx hb dX8_player_9 rfl (lv_at hl 0 rfl) ?_
      refine lv_iconst (v := 1) hx hb dX8_player_10 (by decide) ?_
      have hPc := hP.sub (ws' := [(m8, .inr (6, [.int st8, .ref wa, .ref pa8, .ref sta, .ref mo, .ref hea, .ref tha, .int ig, .int io, .int op8, .int (nI np), .int py, .int wn, .int tu, .int la, .int ps, .ref hd8, .ref od8, .long tb, .ref cd8, .int dr, .ref opa, .ref osa]))]) [0] rfl
      have hDc := hD.sub (ws' := [(m8, .inr (6, [.int st8, .ref wa, .ref pa8, .ref sta, .ref mo, .ref hea, .ref tha, .int ig, .int io, .int op8, .int (nI np), .int py, .int wn, .int tu, .int la, .int ps, .ref hd8, .ref od8, .long tb, .ref cd8, .int dr, .ref opa, .ref osa]))]) [0] (by decide) rfl
      have hFc := va_free (wc := [(m8, .inr (6, [.int st8, .ref wa, .ref pa8, .ref sta, .ref mo, .ref hea, .ref tha, .int ig, .int io, .int op8, .int (nI np), .int py, .int wn, .int tu, .int la, .int ps, .ref hd8, .ref od8, .long tb, .ref cd8, .int dr, .ref opa, .ref osa]))]) hD hS hA [0] rfl
      refine va_calli (va_runV (As := [.int 1]) (rest := []) ⟨hx, hb, hml, hown, hts⟩ (k_X8_none l D cI cJ cZ s.heap.size m8 wa pa8 sta mo hea tha hd8 od8 cd8 opa osa st8 ig io op8 (nI np) py wn tu la ps dr tb 1 ) (cwV 1 hts gX8_player_X8_none rfl rfl rfl (by decide +kernel) ⟨Nat.le_of_ble_eq_true rfl, Nat.le_of_ble_eq_true rfl⟩) ⟨wM_fb, va_recv hK hPc (ci := 6) (q0 := 0) rfl rfl, wM_pre hPc ⟨hK, hN⟩ hDc⟩ rfl rfl hl.1 rfl (lv_room (Nat.le_of_ble_eq_true rfl)) dX8_player_11 ⟨Nat.le_of_ble_eq_true rfl, Nat.le_of_ble_eq_true rfl⟩) hS (fun q _ h => hFc q h) hFc (fun x11 u t H1 locs ht hvm hx11 hB hz1 hk1 hS => ?_)
      obtain ⟨hP1, hD1⟩ := hB
      rw [ht] at hP1
      obtain ⟨hP, hD⟩ := va_join (wr := [(hd8, .inl (cJ, 4, .inr (.inl hf8))), (od8, .inl (cZ, 4, .inl of8))]) (w1 := [(m8, .inr (6, [.int 1, .ref wa, .ref pa8, .ref sta, .ref mo, .ref hea, .ref tha, .int ig, .int io, .int op8, .int (nI np), .int py, .int wn, .int tu, .int la, .int ps, .ref hd8, .ref od8, .long tb, .ref cd8, .int dr, .ref opa, .ref osa]))]) hP hD [0] [1, 2] rfl rfl (by decide) (by decide) hk1 hFc hP1 hD1
      generalize H1 = H at hP hS ⊢
      have hP : va_P D vwCl [(hd8, .inl (cJ, 4, .inr (.inl hf8))), (od8, .inl (cZ, 4, .inl of8)), (m8, .inr (6, [.int 1, .ref wa, .ref pa8, .ref sta, .ref mo, .ref hea, .ref tha, .int ig, .int io, .int op8, .int (nI np), .int py, .int wn, .int tu, .int la, .int ps, .ref hd8, .ref od8, .long tb, .ref cd8, .int dr, .ref opa, .ref osa]))] H := hP
      have hD : va_D A [(hd8, .inl (cJ, 4, .inr (.inl hf8))), (od8, .inl (cZ, 4, .inl of8)), (m8, .inr (6, [.int 1, .ref wa, .ref pa8, .ref sta, .ref mo, .ref hea, .ref tha, .int ig, .int io, .int op8, .int (nI np), .int py, .int wn, .int tu, .int la, .int ps, .ref hd8, .ref od8, .long tb, .ref cd8, .int dr, .ref opa, .ref osa]))] := hD
      try dsimp only at hx11
      rw [← hQ]
      have hP9 := hP.sub (ws' := [(m8, .inr (6, [.int 1, .ref wa, .ref pa8, .ref sta, .ref mo, .ref hea, .ref tha, .int ig, .int io, .int op8, .int (nI np), .int py, .int wn, .int tu, .int la, .int ps, .ref hd8, .ref od8, .long tb, .ref cd8, .int dr, .ref opa, .ref osa])), (hd8, .inl (cJ, 4, .inr (.inl hf8))), (od8, .inl (cZ, 4, .inl of8))]) [2, 0, 1] rfl
      have hD9 := hD.sub (ws' := [(m8, .inr (6, [.int 1, .ref wa, .ref pa8, .ref sta, .ref mo, .ref hea, .ref tha, .int ig, .int io, .int op8, .int (nI np), .int py, .int wn, .int tu, .int la, .int ps, .ref hd8, .ref od8, .long tb, .ref cd8, .int dr, .ref opa, .ref osa])), (hd8, .inl (cJ, 4, .inr (.inl hf8))), (od8, .inl (cZ, 4, .inl of8))]) [2, 0, 1] (by decide) rfl
      exact W.iret (v := x11) hx hb hr (fun t ht hW => ⟨⟨x11, 1, rfl, (by simp only [j_plr8]; rw [hx11]; (repeat' split) <;> first | rfl | contradiction), (by show wB D A _ t; exact ⟨by rw [ht]; exact hP9, hD9⟩)⟩, hS.F ht⟩) hS.2.2 dX8_player_14
