theorem hp_in52 {x : Int32} (h0 : ¬ x < 0) (h : ¬ 52 ≤ x) : vp_in x 52 := by
  obtain ⟨j, hj, rfl⟩ := nI_of h0
  rw [show (52 : Int32) = nI 52 from rfl, nI_leI (by decide) hj] at h
  exact vp_in_nI (by omega) (by decide)
def j_X8_place (pf : Nat → Int32) (c : Int32) : Int32 := if c < 0 then -1 else if 52 ≤ c then -1 else pf c.toNatClampNeg
def j_X8_stands (sf : Nat → Int32) (c : Int32) : Int32 := if c < 0 then -1 else if 52 ≤ c then -1 else if sf c.toNatClampNeg = 0 then 0 else 1
def j_X8_runs (pf : Nat → Int32) : Int32 := bx_sum (fun k => if pf k = 2 then 1 else 0) 52
def j_X8_shown (pf : Nat → Int32) : Int32 := bx_sum (fun k => if pf k ≤ 0 then 0 else 1) 52
def j_X8_stood (sf : Nat → Int32) : Int32 := bx_sum (fun k => if sf k = 0 then 0 else 1) 52
def j_X8_worthShown (pf : Nat → Int32) : Int32 := bx_sum (fun k => if pf k ≤ 0 then 0 else j_X8_worthOf (nI k)) 52
def j_X8_longest (pf : Nat → Int32) : Int32 := lrOut (fun c n => pf (4 * n + c)) 4
def mlG (pf : Nat → Int32) : Nat → Int32
  | 0 => 0
  | k + 1 => if k % 4 < 3 then mlG pf k + (if pf k = 1 then 1 else 0) else 0
def mlN (pf : Nat → Int32) : Nat → Int32
  | 0 => 0
  | k + 1 => if k % 4 < 3 then mlN pf k + (if pf k = 2 then 1 else 0) else mlN pf k + (if pf k = 2 then 1 else 0) + (if mlG pf k + (if pf k = 1 then 1 else 0) ≤ 0 then 0 else 1)
def j_X8_melds (pf : Nat → Int32) : Int32 := mlN pf 52
theorem hp_rem4 {x : Int32} {k : Nat} (hx : x = nI k) (hk : k < 52) : x - x / 4 * 4 = nI (k % 4) := by
  subst hx
  rw [show (4 : Int32) = nI 4 from rfl]
  exact pk_rem (by omega) (by decide) (by decide)
theorem hp_r3 {x : Int32} {k : Nat} (hx : x = nI k) (hk : k < 52) (h : 3 ≤ x - x / 4 * 4) : ¬ k % 4 < 3 := by
  rw [hp_rem4 hx hk, show (3 : Int32) = nI 3 from rfl, nI_leI (by decide) (by omega)] at h
  omega
theorem hp_r3n {x : Int32} {k : Nat} (hx : x = nI k) (hk : k < 52) (h : ¬ 3 ≤ x - x / 4 * 4) : k % 4 < 3 := by
  rw [hp_rem4 hx hk, show (3 : Int32) = nI 3 from rfl, nI_leI (by decide) (by omega)] at h
  omega
theorem hp_s4 {x z : Int32} {c n : Nat} (hz : z = x + 4) (hx : x = nI (4 * n + c)) : z = nI (4 * (n + 1) + c) := by
  rw [hz, hx, show (4 : Int32) = nI 4 from rfl, nI_add]; congr 1; omega
theorem hp_52 {x : Int32} {c n : Nat} (hx : x = nI (4 * n + c)) (hc : c < 4) (hn : n ≤ 13) (h : 52 ≤ x) : n = 13 := by
  rw [hx, show (52 : Int32) = nI 52 from rfl, nI_leI (by decide) (by omega)] at h; omega
theorem hp_52n {x : Int32} {c n : Nat} (hx : x = nI (4 * n + c)) (hc : c < 4) (hn : n ≤ 13) (h : ¬ 52 ≤ x) : n < 13 := by
  rw [hx, show (52 : Int32) = nI 52 from rfl, nI_leI (by decide) (by omega)] at h; omega
theorem hp_lr2 {P : Nat → Int32} {m0 le mo le2 mo2 : Int32} {i : Nat} (h : (le, mo) = lrIn P m0 i) (h1 : le2 = if P i = 3 then le + 1 else if P i = 2 then 1 else 0) (h2 : (le2 ≤ mo ∧ mo2 = mo) ∨ (¬ le2 ≤ mo ∧ mo2 = le2)) : (le2, mo2) = lrIn P m0 (i + 1) := by
  refine hp_lr h ?_ h1
  rcases h2 with ⟨a, b⟩ | ⟨a, b⟩
  · rw [if_neg (Int32.not_lt.mpr a)]; exact b
  · rw [if_pos (Int32.not_le.mp a)]; exact b
theorem nar01 {x : Int32} (h : x = 0 ∨ x = 1) : vp_nar .boolean x = x := by rcases h with h | h <;> subst h <;> rfl
theorem hp_cpy {f g a b a2 b2 : Nat → Int32} {x : Int32} {i : Nat} (hx : x = nI i) (hi : i < 2 ^ 31) (e1 : upd a x.toNatClampNeg (f x.toNatClampNeg) = a2) (e2 : upd b x.toNatClampNeg (vp_nar .boolean (g x.toNatClampNeg)) = b2) (hz : g i = 0 ∨ g i = 1) (h : ∀ k, k < i → a k = f k ∧ b k = g k) : ∀ k, k < i + 1 → a2 k = f k ∧ b2 k = g k := by
  intro k hk
  subst hx
  rw [nI_clamp hi] at e1 e2
  rw [nar01 hz] at e2
  subst e1; subst e2
  by_cases q : k = i
  · subst q; exact ⟨pk_us, pk_us⟩
  · rw [pk_un q, pk_un q]; exact h k (by omega)
set_option maxHeartbeats 4000000 in
set_option maxRecDepth 100000 in
theorem k_X8_none (l : Launch) (D : va_G) (cI cJ cZ : ClassId) (sz : Nat) (m8 wa pa8 sta mo hea tha hd8 od8 cd8 opa osa : Nat) (st8 ig io op8 pl8 py wn tu la ps dr : Int32) (tb : Int64) (why : Int32)  : Met l yX8_none wsX8_none ({ frames := 0, cells := 0, slots := 0, locals := 0 } : Room) (va_Pc [.ref m8, .int why] (wM D cI cJ cZ sz [(m8, .inr (6, [.int st8, .ref wa, .ref pa8, .ref sta, .ref mo, .ref hea, .ref tha, .int ig, .int io, .int op8, .int pl8, .int py, .int wn, .int tu, .int la, .int ps, .ref hd8, .ref od8, .long tb, .ref cd8, .int dr, .ref opa, .ref osa]))])) (va_Qi (fun (r : Int32) (u : Unit) => match u with | _ => (r = -1)) (fun (u : Unit) t => match u with | _ => wB D (va_A [(m8, .inr (6, [.int st8, .ref wa, .ref pa8, .ref sta, .ref mo, .ref hea, .ref tha, .int ig, .int io, .int op8, .int pl8, .int py, .int wn, .int tu, .int la, .int ps, .ref hd8, .ref od8, .long tb, .ref cd8, .int dr, .ref opa, .ref osa]))] sz) [(m8, .inr (6, [.int why, .ref wa, .ref pa8, .ref sta, .ref mo, .ref hea, .ref tha, .int ig, .int io, .int op8, .int pl8, .int py, .int wn, .int tu, .int la, .int ps, .ref hd8, .ref od8, .long tb, .ref cd8, .int dr, .ref opa, .ref osa]))] t) (va_A [(m8, .inr (6, [.int st8, .ref wa, .ref pa8, .ref sta, .ref mo, .ref hea, .ref tha, .int ig, .int io, .int op8, .int pl8, .int py, .int wn, .int tu, .int la, .int ps, .ref hd8, .ref od8, .long tb, .ref cd8, .int dr, .ref opa, .ref osa]))] sz)) 0 0 (va_A [(m8, .inr (6, [.int st8, .ref wa, .ref pa8, .ref sta, .ref mo, .ref hea, .ref tha, .int ig, .int io, .int op8, .int pl8, .int py, .int wn, .int tu, .int la, .int ps, .ref hd8, .ref od8, .long tb, .ref cd8, .int dr, .ref opa, .ref osa]))] sz) := by
  refine Met.ofW (cc := cX8_none) (maxL := 2) (ret := (some .int)) (by decide) rfl ?_
  intro p e s m args below meth c s₁ B hml hv
  obtain ⟨hargs, hsz, hP, ⟨hK, hN⟩, hD0⟩ := hv
  have hx := B.exec
  have hb := B.bytes
  have hr := B.returns
  have hlocks := B.notSynchronized
  have hts := atoms_spec (ws := wsX8_none) B.pre
  have hown : s.vm.findClass RX8 = some m.cls := findClass_of_methodNamed B.named
  have k50 := hts (.fieldLink RX8 50 "RummyTableModel" "status" "I") (by decide +kernel)
  have iX8 : ∀ w ∈ wsX80, w ∈ wsX8_none := by decide +kernel
  subst hsz
  have hD := hD0.self (sz := s.heap.size)
  generalize hAe : va_A [(m8, .inr (6, [.int st8, .ref wa, .ref pa8, .ref sta, .ref mo, .ref hea, .ref tha, .int ig, .int io, .int op8, .int pl8, .int py, .int wn, .int tu, .int la, .int ps, .ref hd8, .ref od8, .long tb, .ref cd8, .int dr, .ref opa, .ref osa]))] s.heap.size = A at hD ⊢
  have hA : ∀ q : Nat, s.heap.size ≤ q → A q := fun q h => by rw [← hAe]; exact Or.inr h
  have hS : va_S A s.heap s.heap [] := va_S.rf
  rw [show entryFrame m args 2 = entryFrame m ([.ref m8, .int why] : List Value).toArray 2 from by rw [hargs]]
  have hl := lv_entry ([.ref m8, .int why]) (n := 2) (Nat.le_of_ble_eq_true rfl)
  rw [lg_entry_eq]
  generalize (lg_sl ([.ref m8, .int why]) ++ List.replicate (2 - (lg_sl ([.ref m8, .int why])).length) Slot.unset).toArray = ls at hl ⊢
  have hl : lv_has ls 2 [(0, .ref m8), (1, .int why)] := hl
  refine wQ (fun Q hQ => ?_)
  refine lv_aload_n hx hb dX8_none_0 rfl (lv_at hl 0 rfl) ?_
  refine lv_iload_n hx hb dX8_none_1 rfl (lv_at hl 1 rfl) ?_
  refine va_put (D := D) (ci := 6) (v := .int why) (ty := .int) (C := RX8) (T := TX8) (N := 23) hx hb hts iX8 tyX8 tyX8_ok nmX8 hown hK hP hD hS 0 rfl rfl 0 (by decide) k50 (fun _ h9 => h9) rfl (by decide +kernel) rfl rfl (Nat.le_of_ble_eq_true rfl) dX8_none_2 (fun H locs hP hD hS => ?_)
  have hP : va_P D vwCl [(m8, .inr (6, [.int why, .ref wa, .ref pa8, .ref sta, .ref mo, .ref hea, .ref tha, .int ig, .int io, .int op8, .int pl8, .int py, .int wn, .int tu, .int la, .int ps, .ref hd8, .ref od8, .long tb, .ref cd8, .int dr, .ref opa, .ref osa]))] H := hP
  have hD : va_D A [(m8, .inr (6, [.int why, .ref wa, .ref pa8, .ref sta, .ref mo, .ref hea, .ref tha, .int ig, .int io, .int op8, .int pl8, .int py, .int wn, .int tu, .int la, .int ps, .ref hd8, .ref od8, .long tb, .ref cd8, .int dr, .ref opa, .ref osa]))] := hD
  refine lv_iconst (v := (-1)) hx hb dX8_none_5 (by decide) ?_
  rw [← hQ]
  have hP9 := hP.sub (ws' := [(m8, .inr (6, [.int why, .ref wa, .ref pa8, .ref sta, .ref mo, .ref hea, .ref tha, .int ig, .int io, .int op8, .int pl8, .int py, .int wn, .int tu, .int la, .int ps, .ref hd8, .ref od8, .long tb, .ref cd8, .int dr, .ref opa, .ref osa]))]) [0] rfl
  have hD9 := hD.sub (ws' := [(m8, .inr (6, [.int why, .ref wa, .ref pa8, .ref sta, .ref mo, .ref hea, .ref tha, .int ig, .int io, .int op8, .int pl8, .int py, .int wn, .int tu, .int la, .int ps, .ref hd8, .ref od8, .long tb, .ref cd8, .int dr, .ref opa, .ref osa]))]) [0] (by decide) rfl
  exact W.iret (v := (-1)) hx hb hr (fun t ht hW => ⟨⟨(-1), (), rfl, rfl, (by show wB D A _ t; exact ⟨by rw [ht]; exact hP9, hD9⟩)⟩, hS.F ht⟩) hS.2.2 dX8_none_6

set_option maxHeartbeats 4000000 in
set_option maxRecDepth 100000 in
theorem k_X8_status (l : Launch) (D : va_G) (cI cJ cZ : ClassId) (m8 wa pa8 sta mo hea tha hd8 od8 cd8 opa osa : Nat) (st8 ig io op8 pl8 py wn tu la ps dr : Int32) (tb : Int64)   : Met l yX8_status wsX8_status ({ frames := 0, cells := 0, slots := 0, locals := 0 } : Room) (va_Pc [.ref m8] (wR D cI cJ cZ [(m8, .inr (6, [.int st8, .ref wa, .ref pa8, .ref sta, .ref mo, .ref hea, .ref tha, .int ig, .int io, .int op8, .int pl8, .int py, .int wn, .int tu, .int la, .int ps, .ref hd8, .ref od8, .long tb, .ref cd8, .int dr, .ref opa, .ref osa]))])) (vp_Si (fun r => r = st8)) 0 0 (fun _ => False) := by
  refine Met.ofW (cc := cX8_status) (maxL := 1) (ret := (some .int)) (by decide) rfl ?_
  intro p e s m args below meth c s₁ B hml hv
  obtain ⟨hargs, hP, hK, hN⟩ := hv
  have hx := B.exec
  have hb := B.bytes
  have hr := B.returns
  have hlocks := B.notSynchronized
  have hts := atoms_spec (ws := wsX8_status) B.pre
  have hown : s.vm.findClass RX8 = some m.cls := findClass_of_methodNamed B.named
  have k50 := hts (.fieldLink RX8 50 "RummyTableModel" "status" "I") (by decide +kernel)
  have iX8 : ∀ w ∈ wsX80, w ∈ wsX8_status := by decide +kernel
  rw [show entryFrame m args 1 = entryFrame m ([.ref m8] : List Value).toArray 1 from by rw [hargs]]
  have hl := lv_entry ([.ref m8]) (n := 1) (Nat.le_of_ble_eq_true rfl)
  rw [lg_entry_eq]
  generalize (lg_sl ([.ref m8]) ++ List.replicate (1 - (lg_sl ([.ref m8])).length) Slot.unset).toArray = ls at hl ⊢
  have hl : lv_has ls 1 [(0, .ref m8)] := hl
  refine wQ (fun Q hQ => ?_)
  refine lv_aload_n hx hb dX8_status_0 rfl (lv_at hl 0 rfl) ?_
  refine va_get (D := D) (ci := 6) (v := .int st8) (C := RX8) (T := TX8) (N := 23) hx hb hts iX8 hown hK hP 0 rfl rfl 0 (by decide) k50 (fun _ h9 => h9) rfl dX8_status_1 ?_
  rw [← hQ]
  exact W.iret (v := st8) hx hb hr (fun t ht hW => ⟨_, rfl, rfl, ht⟩) (fun _ h => by cases h) dX8_status_4

set_option maxHeartbeats 4000000 in
set_option maxRecDepth 100000 in
theorem k_X8_place (l : Launch) (D : va_G) (cI cJ cZ : ClassId) (m8 wa pa8 sta mo hea tha hd8 od8 cd8 opa osa : Nat) (st8 ig io op8 pl8 py wn tu la ps dr : Int32) (tb : Int64) (pf8 : Nat → Int32) (card : Int32)  : Met l yX8_place wsX8_place ({ frames := 0, cells := 0, slots := 0, locals := 0 } : Room) (va_Pc [.ref m8, .int card] (wR D cI cJ cZ [(m8, .inr (6, [.int st8, .ref wa, .ref pa8, .ref sta, .ref mo, .ref hea, .ref tha, .int ig, .int io, .int op8, .int pl8, .int py, .int wn, .int tu, .int la, .int ps, .ref hd8, .ref od8, .long tb, .ref cd8, .int dr, .ref opa, .ref osa])), (pa8, .inl (cI, 52, .inl pf8))])) (vp_Si (fun r => r = j_X8_place pf8 card)) 0 0 (fun _ => False) := by
  refine Met.ofW (cc := cX8_place) (maxL := 2) (ret := (some .int)) (by decide) rfl ?_
  intro p e s m args below meth c s₁ B hml hv
  obtain ⟨hargs, hP, hK, hN⟩ := hv
  have hx := B.exec
  have hb := B.bytes
  have hr := B.returns
  have hlocks := B.notSynchronized
  have hts := atoms_spec (ws := wsX8_place) B.pre
  have hown : s.vm.findClass RX8 = some m.cls := findClass_of_methodNamed B.named
  have k14 := hts (.fieldLink RX8 14 "RummyTableModel" "places" "[I") (by decide +kernel)
  have iX8 : ∀ w ∈ wsX80, w ∈ wsX8_place := by decide +kernel
  rw [show entryFrame m args 2 = entryFrame m ([.ref m8, .int card] : List Value).toArray 2 from by rw [hargs]]
  have hl := lv_entry ([.ref m8, .int card]) (n := 2) (Nat.le_of_ble_eq_true rfl)
  rw [lg_entry_eq]
  generalize (lg_sl ([.ref m8, .int card]) ++ List.replicate (2 - (lg_sl ([.ref m8, .int card])).length) Slot.unset).toArray = ls at hl ⊢
  have hl : lv_has ls 2 [(0, .ref m8), (1, .int card)] := hl
  refine wQ (fun Q hQ => ?_)
  refine lv_iload_n hx hb dX8_place_0 rfl (lv_at hl 1 rfl) ?_
  refine lv_if_lt (tgt := 19) hx hb dX8_place_1 (by decide) (fun c_1 => ?_) (fun c_1 => ?_)
  · refine lv_iconst (v := (-1)) hx hb dX8_place_19 (by decide) ?_
    rw [← hQ]
    exact W.iret (v := (-1)) hx hb hr (fun t ht hW => ⟨_, rfl, (by simp only [j_X8_place]; (repeat' split) <;> first | rfl | contradiction), ht⟩) (fun _ h => by cases h) dX8_place_20
  · refine lv_iload_n hx hb dX8_place_4 rfl (lv_at hl 1 rfl) ?_
    refine lv_bipush (v := 52) hx hb dX8_place_5 (by decide) ?_
    refine lv_icmp_ge (tgt := 19) hx hb dX8_place_7 (by decide) (fun c_7 => ?_) (fun c_7 => ?_)
    · refine lv_iconst (v := (-1)) hx hb dX8_place_19 (by decide) ?_
      rw [← hQ]
      exact W.iret (v := (-1)) hx hb hr (fun t ht hW => ⟨_, rfl, (by simp only [j_X8_place]; (repeat' split) <;> first | rfl | contradiction), ht⟩) (fun _ h => by cases h) dX8_place_20
    · refine lv_aload_n hx hb dX8_place_10 rfl (lv_at hl 0 rfl) ?_
      refine va_get (D := D) (ci := 6) (v := .ref pa8) (C := RX8) (T := TX8) (N := 23) hx hb hts iX8 hown hK hP 0 rfl rfl 2 (by decide) k14 (fun _ h9 => h9) rfl dX8_place_11 ?_
      refine lv_iload_n hx hb dX8_place_14 rfl (lv_at hl 1 rfl) ?_
      refine va_iald hx hb hK hP 1 0 rfl rfl (hp_in52 c_1 c_7) dX8_place_15 ?_
      refine lv_goto (tgt := 20) hx hb dX8_place_16 (by decide) ?_
      rw [← hQ]
      exact W.iret (v := pf8 card.toNatClampNeg) hx hb hr (fun t ht hW => ⟨_, rfl, (by simp only [j_X8_place]; (repeat' split) <;> first | rfl | contradiction), ht⟩) (fun _ h => by cases h) dX8_place_20

set_option maxHeartbeats 4000000 in
set_option maxRecDepth 100000 in
theorem k_X8_stands (l : Launch) (D : va_G) (cI cJ cZ : ClassId) (m8 wa pa8 sta mo hea tha hd8 od8 cd8 opa osa : Nat) (st8 ig io op8 pl8 py wn tu la ps dr : Int32) (tb : Int64) (sf8 : Nat → Int32) (card : Int32)  : Met l yX8_stands wsX8_stands ({ frames := 0, cells := 0, slots := 0, locals := 0 } : Room) (va_Pc [.ref m8, .int card] (wR D cI cJ cZ [(m8, .inr (6, [.int st8, .ref wa, .ref pa8, .ref sta, .ref mo, .ref hea, .ref tha, .int ig, .int io, .int op8, .int pl8, .int py, .int wn, .int tu, .int la, .int ps, .ref hd8, .ref od8, .long tb, .ref cd8, .int dr, .ref opa, .ref osa])), (sta, .inl (cZ, 52, .inl sf8))])) (vp_Si (fun r => r = j_X8_stands sf8 card)) 0 0 (fun _ => False) := by
  refine Met.ofW (cc := cX8_stands) (maxL := 2) (ret := (some .int)) (by decide) rfl ?_
  intro p e s m args below meth c s₁ B hml hv
  obtain ⟨hargs, hP, hK, hN⟩ := hv
  have hx := B.exec
  have hb := B.bytes
  have hr := B.returns
  have hlocks := B.notSynchronized
  have hts := atoms_spec (ws := wsX8_stands) B.pre
  have hown : s.vm.findClass RX8 = some m.cls := findClass_of_methodNamed B.named
  have k18 := hts (.fieldLink RX8 18 "RummyTableModel" "stands" "[Z") (by decide +kernel)
  have iX8 : ∀ w ∈ wsX80, w ∈ wsX8_stands := by decide +kernel
  rw [show entryFrame m args 2 = entryFrame m ([.ref m8, .int card] : List Value).toArray 2 from by rw [hargs]]
  have hl := lv_entry ([.ref m8, .int card]) (n := 2) (Nat.le_of_ble_eq_true rfl)
  rw [lg_entry_eq]
  generalize (lg_sl ([.ref m8, .int card]) ++ List.replicate (2 - (lg_sl ([.ref m8, .int card])).length) Slot.unset).toArray = ls at hl ⊢
  have hl : lv_has ls 2 [(0, .ref m8), (1, .int card)] := hl
  refine wQ (fun Q hQ => ?_)
  refine lv_iload_n hx hb dX8_stands_0 rfl (lv_at hl 1 rfl) ?_
  refine lv_if_lt (tgt := 27) hx hb dX8_stands_1 (by decide) (fun c_1 => ?_) (fun c_1 => ?_)
  · refine lv_iconst (v := (-1)) hx hb dX8_stands_27 (by decide) ?_
    rw [← hQ]
    exact W.iret (v := (-1)) hx hb hr (fun t ht hW => ⟨_, rfl, (by simp only [j_X8_stands]; (repeat' split) <;> first | rfl | contradiction), ht⟩) (fun _ h => by cases h) dX8_stands_28
  · refine lv_iload_n hx hb dX8_stands_4 rfl (lv_at hl 1 rfl) ?_
    refine lv_bipush (v := 52) hx hb dX8_stands_5 (by decide) ?_
    refine lv_icmp_ge (tgt := 27) hx hb dX8_stands_7 (by decide) (fun c_7 => ?_) (fun c_7 => ?_)
    · refine lv_iconst (v := (-1)) hx hb dX8_stands_27 (by decide) ?_
      rw [← hQ]
      exact W.iret (v := (-1)) hx hb hr (fun t ht hW => ⟨_, rfl, (by simp only [j_X8_stands]; (repeat' split) <;> first | rfl | contradiction), ht⟩) (fun _ h => by cases h) dX8_stands_28
    · refine lv_aload_n hx hb dX8_stands_10 rfl (lv_at hl 0 rfl) ?_
      refine va_get (D := D) (ci := 6) (v := .ref sta) (C := RX8) (T := TX8) (N := 23) hx hb hts iX8 hown hK hP 0 rfl rfl 3 (by decide) k18 (fun _ h9 => h9) rfl dX8_stands_11 ?_
      refine lv_iload_n hx hb dX8_stands_14 rfl (lv_at hl 1 rfl) ?_
      refine va_zald hx hb hK hP 1 2 rfl rfl (hp_in52 c_1 c_7) dX8_stands_15 ?_
      refine lv_if_eq (tgt := 23) hx hb dX8_stands_16 (by decide) (fun c_16 => ?_) (fun c_16 => ?_)
      · refine lv_iconst (v := 0) hx hb dX8_stands_23 (by decide) ?_
        refine lv_goto (tgt := 28) hx hb dX8_stands_24 (by decide) ?_
        rw [← hQ]
        exact W.iret (v := 0) hx hb hr (fun t ht hW => ⟨_, rfl, (by simp only [j_X8_stands]; (repeat' split) <;> first | rfl | contradiction), ht⟩) (fun _ h => by cases h) dX8_stands_28
      · refine lv_iconst (v := 1) hx hb dX8_stands_19 (by decide) ?_
        refine lv_goto (tgt := 28) hx hb dX8_stands_20 (by decide) ?_
        rw [← hQ]
        exact W.iret (v := 1) hx hb hr (fun t ht hW => ⟨_, rfl, (by simp only [j_X8_stands]; (repeat' split) <;> first | rfl | contradiction), ht⟩) (fun _ h => by cases h) dX8_stands_28

set_option maxHeartbeats 4000000 in
set_option maxRecDepth 100000 in
theorem k_X8_runs (l : Launch) (D : va_G) (cI cJ cZ : ClassId) (m8 wa pa8 sta mo hea tha hd8 od8 cd8 opa osa : Nat) (st8 ig io op8 pl8 py wn tu la ps dr : Int32) (tb : Int64) (pf8 : Nat → Int32)  : Met l yX8_runs wsX8_runs ({ frames := 0, cells := 0, slots := 0, locals := 0 } : Room) (va_Pc [.ref m8] (wR D cI cJ cZ [(m8, .inr (6, [.int st8, .ref wa, .ref pa8, .ref sta, .ref mo, .ref hea, .ref tha, .int ig, .int io, .int op8, .int pl8, .int py, .int wn, .int tu, .int la, .int ps, .ref hd8, .ref od8, .long tb, .ref cd8, .int dr, .ref opa, .ref osa])), (pa8, .inl (cI, 52, .inl pf8))])) (vp_Si (fun r => r = j_X8_runs pf8)) 0 0 (fun _ => False) := by
  refine Met.ofW (cc := cX8_runs) (maxL := 3) (ret := (some .int)) (by decide) rfl ?_
  intro p e s m args below meth c s₁ B hml hv
  obtain ⟨hargs, hP, hK, hN⟩ := hv
  have hx := B.exec
  have hb := B.bytes
  have hr := B.returns
  have hlocks := B.notSynchronized
  have hts := atoms_spec (ws := wsX8_runs) B.pre
  have hown : s.vm.findClass RX8 = some m.cls := findClass_of_methodNamed B.named
  have k14 := hts (.fieldLink RX8 14 "RummyTableModel" "places" "[I") (by decide +kernel)
  have iX8 : ∀ w ∈ wsX80, w ∈ wsX8_runs := by decide +kernel
  rw [show entryFrame m args 3 = entryFrame m ([.ref m8] : List Value).toArray 3 from by rw [hargs]]
  have hl := lv_entry ([.ref m8]) (n := 3) (Nat.le_of_ble_eq_true rfl)
  rw [lg_entry_eq]
  generalize (lg_sl ([.ref m8]) ++ List.replicate (3 - (lg_sl ([.ref m8])).length) Slot.unset).toArray = ls at hl ⊢
  have hl : lv_has ls 3 [(0, .ref m8)] := hl
  refine wQ (fun Q hQ => ?_)
  have lab4 : ∀ fuel4 : Nat, ∀ (i : Nat) (a : Int32) (x2 : Int32), (h2 : x2 = nI i) → (hi : i ≤ 52) → (hs : a = bx_sum (fun k => if pf8 k = 2 then 1 else 0) i) → (hfu4 : 52 - i < fuel4) → ∀ ls : Array Slot, lv_has ls 3 [(0, .ref m8), (1, .int a), (2, .int x2)] → W p l e (headSpec wsX8_runs ({ frames := 0, cells := 0, slots := 0, locals := 0 } : Room)).room s m args below meth c s.heap [] 0 0 Q (F0 m 4 ls []) := by
    intro fuel4
    induction fuel4 with
    | zero =>
      intro i a x2 h2 hi hs hfu4
      exact absurd hfu4 (Nat.not_lt_zero _)
    | succ fuel4 ih4 =>
      intro i a x2 h2 hi hs hfu4 ls hl
      refine lv_iload_n hx hb dX8_runs_4 rfl (lv_at hl 2 rfl) ?_
      refine lv_bipush (v := 52) hx hb dX8_runs_5 (by decide) ?_
      refine lv_icmp_ge (tgt := 34) hx hb dX8_runs_7 (by decide) (fun c_7 => ?_) (fun c_7 => ?_)
      · have hi52 := hp_ge h2 (by decide : (52 : Int32) = nI 52) hi (by decide) c_7
        refine lv_iload_n hx hb dX8_runs_34 rfl (lv_at hl 1 rfl) ?_
        rw [← hQ]
        exact W.iret (v := a) hx hb hr (fun t ht hW => ⟨_, rfl, (by subst hi52; exact hs), ht⟩) (fun _ h => by cases h) dX8_runs_35
      · have hlt := hp_lt h2 (by decide : (52 : Int32) = nI 52) hi (by decide) c_7
        refine lv_iload_n hx hb dX8_runs_10 rfl (lv_at hl 1 rfl) ?_
        refine lv_aload_n hx hb dX8_runs_11 rfl (lv_at hl 0 rfl) ?_
        refine va_get (D := D) (ci := 6) (v := .ref pa8) (C := RX8) (T := TX8) (N := 23) hx hb hts iX8 hown hK hP 0 rfl rfl 2 (by decide) k14 (fun _ h9 => h9) rfl dX8_runs_12 ?_
        refine lv_iload_n hx hb dX8_runs_15 rfl (lv_at hl 2 rfl) ?_
        refine va_iald hx hb hK hP 1 0 rfl rfl (by rw [h2]; exact vp_in_nI hlt (by decide)) dX8_runs_16 ?_
        refine lv_iconst (v := 2) hx hb dX8_runs_17 (by decide) ?_
        refine lv_icmp_ne (tgt := 25) hx hb dX8_runs_18 (by decide) (fun c_18 => ?_) (fun c_18 => ?_)
        · refine lv_iconst (v := 0) hx hb dX8_runs_25 (by decide) ?_
          refine lv_iadd hx hb dX8_runs_26 ?_
          refine lv_topi (fun x27 ex27 => ?_)
          refine lv_istore_n (lv' := [(1, .int x27), (0, .ref m8), (2, .int x2)]) hx hb dX8_runs_27 rfl hl (by decide) rfl (fun ls hl => ?_)
          obtain ⟨x28, ex28⟩ : ∃ y : Int32, y = x2 + 1 := ⟨_, rfl⟩
          refine lv_iinc (v := x28) (lv' := [(2, .int x28), (1, .int x27), (0, .ref m8)]) hx hb dX8_runs_28 hl (k := 2) rfl (by rw [ex28]; rfl) (by decide) rfl (fun ls hl => ?_)
          refine lv_goto (tgt := 4) hx hb dX8_runs_31 (by decide) ?_
          exact ih4 (i + 1) x27 x28 (hp_s ex28 h2) (by omega) (by rw [h2, nI_clamp (show i < 2 ^ 31 by omega)] at c_18; subst hs; rw [ex27]; (try rw [h2]); simp only [bx_sum]; first | rw [if_pos c_18] | rw [if_neg c_18]) (by omega) ls (lv_sub hl [2, 1, 0] rfl)
        · refine lv_iconst (v := 1) hx hb dX8_runs_21 (by decide) ?_
          refine lv_goto (tgt := 26) hx hb dX8_runs_22 (by decide) ?_
          refine lv_iadd hx hb dX8_runs_26 ?_
          refine lv_topi (fun x27 ex27 => ?_)
          refine lv_istore_n (lv' := [(1, .int x27), (0, .ref m8), (2, .int x2)]) hx hb dX8_runs_27 rfl hl (by decide) rfl (fun ls hl => ?_)
          obtain ⟨x28, ex28⟩ : ∃ y : Int32, y = x2 + 1 := ⟨_, rfl⟩
          refine lv_iinc (v := x28) (lv' := [(2, .int x28), (1, .int x27), (0, .ref m8)]) hx hb dX8_runs_28 hl (k := 2) rfl (by rw [ex28]; rfl) (by decide) rfl (fun ls hl => ?_)
          refine lv_goto (tgt := 4) hx hb dX8_runs_31 (by decide) ?_
          exact ih4 (i + 1) x27 x28 (hp_s ex28 h2) (by omega) (by rw [h2, nI_clamp (show i < 2 ^ 31 by omega)] at c_18; subst hs; rw [ex27]; (try rw [h2]); simp only [bx_sum]; first | rw [if_pos c_18] | rw [if_neg c_18]) (by omega) ls (lv_sub hl [2, 1, 0] rfl)
  refine lv_iconst (v := 0) hx hb dX8_runs_0 (by decide) ?_
  refine lv_istore_n (lv' := [(1, .int 0), (0, .ref m8)]) hx hb dX8_runs_1 rfl hl (by decide) rfl (fun ls hl => ?_)
  refine lv_iconst (v := 0) hx hb dX8_runs_2 (by decide) ?_
  refine lv_istore_n (lv' := [(2, .int 0), (1, .int 0), (0, .ref m8)]) hx hb dX8_runs_3 rfl hl (by decide) rfl (fun ls hl => ?_)
  exact lab4 _ 0 0 0 (nI_0.symm) (by omega) (rfl) (Nat.lt_succ_self _) ls (lv_sub hl [2, 1, 0] rfl)

set_option maxHeartbeats 4000000 in
set_option maxRecDepth 100000 in
theorem k_X8_shown (l : Launch) (D : va_G) (cI cJ cZ : ClassId) (m8 wa pa8 sta mo hea tha hd8 od8 cd8 opa osa : Nat) (st8 ig io op8 pl8 py wn tu la ps dr : Int32) (tb : Int64) (pf8 : Nat → Int32)  : Met l yX8_shown wsX8_shown ({ frames := 0, cells := 0, slots := 0, locals := 0 } : Room) (va_Pc [.ref m8] (wR D cI cJ cZ [(m8, .inr (6, [.int st8, .ref wa, .ref pa8, .ref sta, .ref mo, .ref hea, .ref tha, .int ig, .int io, .int op8, .int pl8, .int py, .int wn, .int tu, .int la, .int ps, .ref hd8, .ref od8, .long tb, .ref cd8, .int dr, .ref opa, .ref osa])), (pa8, .inl (cI, 52, .inl pf8))])) (vp_Si (fun r => r = j_X8_shown pf8)) 0 0 (fun _ => False) := by
  refine Met.ofW (cc := cX8_shown) (maxL := 3) (ret := (some .int)) (by decide) rfl ?_
  intro p e s m args below meth c s₁ B hml hv
  obtain ⟨hargs, hP, hK, hN⟩ := hv
  have hx := B.exec
  have hb := B.bytes
  have hr := B.returns
  have hlocks := B.notSynchronized
  have hts := atoms_spec (ws := wsX8_shown) B.pre
  have hown : s.vm.findClass RX8 = some m.cls := findClass_of_methodNamed B.named
  have k14 := hts (.fieldLink RX8 14 "RummyTableModel" "places" "[I") (by decide +kernel)
  have iX8 : ∀ w ∈ wsX80, w ∈ wsX8_shown := by decide +kernel
  rw [show entryFrame m args 3 = entryFrame m ([.ref m8] : List Value).toArray 3 from by rw [hargs]]
  have hl := lv_entry ([.ref m8]) (n := 3) (Nat.le_of_ble_eq_true rfl)
  rw [lg_entry_eq]
  generalize (lg_sl ([.ref m8]) ++ List.replicate (3 - (lg_sl ([.ref m8])).length) Slot.unset).toArray = ls at hl ⊢
  have hl : lv_has ls 3 [(0, .ref m8)] := hl
  refine wQ (fun Q hQ => ?_)
  have lab4 : ∀ fuel4 : Nat, ∀ (i : Nat) (a : Int32) (x2 : Int32), (h2 : x2 = nI i) → (hi : i ≤ 52) → (hs : a = bx_sum (fun k => if pf8 k ≤ 0 then 0 else 1) i) → (hfu4 : 52 - i < fuel4) → ∀ ls : Array Slot, lv_has ls 3 [(0, .ref m8), (1, .int a), (2, .int x2)] → W p l e (headSpec wsX8_shown ({ frames := 0, cells := 0, slots := 0, locals := 0 } : Room)).room s m args below meth c s.heap [] 0 0 Q (F0 m 4 ls []) := by
    intro fuel4
    induction fuel4 with
    | zero =>
      intro i a x2 h2 hi hs hfu4
      exact absurd hfu4 (Nat.not_lt_zero _)
    | succ fuel4 ih4 =>
      intro i a x2 h2 hi hs hfu4 ls hl
      refine lv_iload_n hx hb dX8_shown_4 rfl (lv_at hl 2 rfl) ?_
      refine lv_bipush (v := 52) hx hb dX8_shown_5 (by decide) ?_
      refine lv_icmp_ge (tgt := 33) hx hb dX8_shown_7 (by decide) (fun c_7 => ?_) (fun c_7 => ?_)
      · have hi52 := hp_ge h2 (by decide : (52 : Int32) = nI 52) hi (by decide) c_7
        refine lv_iload_n hx hb dX8_shown_33 rfl (lv_at hl 1 rfl) ?_
        rw [← hQ]
        exact W.iret (v := a) hx hb hr (fun t ht hW => ⟨_, rfl, (by subst hi52; exact hs), ht⟩) (fun _ h => by cases h) dX8_shown_34
      · have hlt := hp_lt h2 (by decide : (52 : Int32) = nI 52) hi (by decide) c_7
        refine lv_iload_n hx hb dX8_shown_10 rfl (lv_at hl 1 rfl) ?_
        refine lv_aload_n hx hb dX8_shown_11 rfl (lv_at hl 0 rfl) ?_
        refine va_get (D := D) (ci := 6) (v := .ref pa8) (C := RX8) (T := TX8) (N := 23) hx hb hts iX8 hown hK hP 0 rfl rfl 2 (by decide) k14 (fun _ h9 => h9) rfl dX8_shown_12 ?_
        refine lv_iload_n hx hb dX8_shown_15 rfl (lv_at hl 2 rfl) ?_
        refine va_iald hx hb hK hP 1 0 rfl rfl (by rw [h2]; exact vp_in_nI hlt (by decide)) dX8_shown_16 ?_
        refine lv_if_le (tgt := 24) hx hb dX8_shown_17 (by decide) (fun c_17 => ?_) (fun c_17 => ?_)
        · refine lv_iconst (v := 0) hx hb dX8_shown_24 (by decide) ?_
          refine lv_iadd hx hb dX8_shown_25 ?_
          refine lv_topi (fun x26 ex26 => ?_)
          refine lv_istore_n (lv' := [(1, .int x26), (0, .ref m8), (2, .int x2)]) hx hb dX8_shown_26 rfl hl (by decide) rfl (fun ls hl => ?_)
          obtain ⟨x27, ex27⟩ : ∃ y : Int32, y = x2 + 1 := ⟨_, rfl⟩
          refine lv_iinc (v := x27) (lv' := [(2, .int x27), (1, .int x26), (0, .ref m8)]) hx hb dX8_shown_27 hl (k := 2) rfl (by rw [ex27]; rfl) (by decide) rfl (fun ls hl => ?_)
          refine lv_goto (tgt := 4) hx hb dX8_shown_30 (by decide) ?_
          exact ih4 (i + 1) x26 x27 (hp_s ex27 h2) (by omega) (by rw [h2, nI_clamp (show i < 2 ^ 31 by omega)] at c_17; subst hs; rw [ex26]; (try rw [h2]); simp only [bx_sum]; first | rw [if_pos c_17] | rw [if_neg c_17]) (by omega) ls (lv_sub hl [2, 1, 0] rfl)
        · refine lv_iconst (v := 1) hx hb dX8_shown_20 (by decide) ?_
          refine lv_goto (tgt := 25) hx hb dX8_shown_21 (by decide) ?_
          refine lv_iadd hx hb dX8_shown_25 ?_
          refine lv_topi (fun x26 ex26 => ?_)
          refine lv_istore_n (lv' := [(1, .int x26), (0, .ref m8), (2, .int x2)]) hx hb dX8_shown_26 rfl hl (by decide) rfl (fun ls hl => ?_)
          obtain ⟨x27, ex27⟩ : ∃ y : Int32, y = x2 + 1 := ⟨_, rfl⟩
          refine lv_iinc (v := x27) (lv' := [(2, .int x27), (1, .int x26), (0, .ref m8)]) hx hb dX8_shown_27 hl (k := 2) rfl (by rw [ex27]; rfl) (by decide) rfl (fun ls hl => ?_)
          refine lv_goto (tgt := 4) hx hb dX8_shown_30 (by decide) ?_
          exact ih4 (i + 1) x26 x27 (hp_s ex27 h2) (by omega) (by rw [h2, nI_clamp (show i < 2 ^ 31 by omega)] at c_17; subst hs; rw [ex26]; (try rw [h2]); simp only [bx_sum]; first | rw [if_pos c_17] | rw [if_neg c_17]) (by omega) ls (lv_sub hl [2, 1, 0] rfl)
  refine lv_iconst (v := 0) hx hb dX8_shown_0 (by decide) ?_
  refine lv_istore_n (lv' := [(1, .int 0), (0, .ref m8)]) hx hb dX8_shown_1 rfl hl (by decide) rfl (fun ls hl => ?_)
  refine lv_iconst (v := 0) hx hb dX8_shown_2 (by decide) ?_
  refine lv_istore_n (lv' := [(2, .int 0), (1, .int 0), (0, .ref m8)]) hx hb dX8_shown_3 rfl hl (by decide) rfl (fun ls hl => ?_)
  exact lab4 _ 0 0 0 (nI_0.symm) (by omega) (rfl) (Nat.lt_succ_self _) ls (lv_sub hl [2, 1, 0] rfl)

set_option maxHeartbeats 4000000 in
set_option maxRecDepth 100000 in
theorem k_X8_stood (l : Launch) (D : va_G) (cI cJ cZ : ClassId) (m8 wa pa8 sta mo hea tha hd8 od8 cd8 opa osa : Nat) (st8 ig io op8 pl8 py wn tu la ps dr : Int32) (tb : Int64) (sf8 : Nat → Int32)  : Met l yX8_stood wsX8_stood ({ frames := 0, cells := 0, slots := 0, locals := 0 } : Room) (va_Pc [.ref m8] (wR D cI cJ cZ [(m8, .inr (6, [.int st8, .ref wa, .ref pa8, .ref sta, .ref mo, .ref hea, .ref tha, .int ig, .int io, .int op8, .int pl8, .int py, .int wn, .int tu, .int la, .int ps, .ref hd8, .ref od8, .long tb, .ref cd8, .int dr, .ref opa, .ref osa])), (sta, .inl (cZ, 52, .inl sf8))])) (vp_Si (fun r => r = j_X8_stood sf8)) 0 0 (fun _ => False) := by
  refine Met.ofW (cc := cX8_stood) (maxL := 3) (ret := (some .int)) (by decide) rfl ?_
  intro p e s m args below meth c s₁ B hml hv
  obtain ⟨hargs, hP, hK, hN⟩ := hv
  have hx := B.exec
  have hb := B.bytes
  have hr := B.returns
  have hlocks := B.notSynchronized
  have hts := atoms_spec (ws := wsX8_stood) B.pre
  have hown : s.vm.findClass RX8 = some m.cls := findClass_of_methodNamed B.named
  have k18 := hts (.fieldLink RX8 18 "RummyTableModel" "stands" "[Z") (by decide +kernel)
  have iX8 : ∀ w ∈ wsX80, w ∈ wsX8_stood := by decide +kernel
  rw [show entryFrame m args 3 = entryFrame m ([.ref m8] : List Value).toArray 3 from by rw [hargs]]
  have hl := lv_entry ([.ref m8]) (n := 3) (Nat.le_of_ble_eq_true rfl)
  rw [lg_entry_eq]
  generalize (lg_sl ([.ref m8]) ++ List.replicate (3 - (lg_sl ([.ref m8])).length) Slot.unset).toArray = ls at hl ⊢
  have hl : lv_has ls 3 [(0, .ref m8)] := hl
  refine wQ (fun Q hQ => ?_)
  have lab4 : ∀ fuel4 : Nat, ∀ (i : Nat) (a : Int32) (x2 : Int32), (h2 : x2 = nI i) → (hi : i ≤ 52) → (hs : a = bx_sum (fun k => if sf8 k = 0 then 0 else 1) i) → (hfu4 : 52 - i < fuel4) → ∀ ls : Array Slot, lv_has ls 3 [(0, .ref m8), (1, .int a), (2, .int x2)] → W p l e (headSpec wsX8_stood ({ frames := 0, cells := 0, slots := 0, locals := 0 } : Room)).room s m args below meth c s.heap [] 0 0 Q (F0 m 4 ls []) := by
    intro fuel4
    induction fuel4 with
    | zero =>
      intro i a x2 h2 hi hs hfu4
      exact absurd hfu4 (Nat.not_lt_zero _)
    | succ fuel4 ih4 =>
      intro i a x2 h2 hi hs hfu4 ls hl
      refine lv_iload_n hx hb dX8_stood_4 rfl (lv_at hl 2 rfl) ?_
      refine lv_bipush (v := 52) hx hb dX8_stood_5 (by decide) ?_
      refine lv_icmp_ge (tgt := 33) hx hb dX8_stood_7 (by decide) (fun c_7 => ?_) (fun c_7 => ?_)
      · have hi52 := hp_ge h2 (by decide : (52 : Int32) = nI 52) hi (by decide) c_7
        refine lv_iload_n hx hb dX8_stood_33 rfl (lv_at hl 1 rfl) ?_
        rw [← hQ]
        exact W.iret (v := a) hx hb hr (fun t ht hW => ⟨_, rfl, (by subst hi52; exact hs), ht⟩) (fun _ h => by cases h) dX8_stood_34
      · have hlt := hp_lt h2 (by decide : (52 : Int32) = nI 52) hi (by decide) c_7
        refine lv_iload_n hx hb dX8_stood_10 rfl (lv_at hl 1 rfl) ?_
        refine lv_aload_n hx hb dX8_stood_11 rfl (lv_at hl 0 rfl) ?_
        refine va_get (D := D) (ci := 6) (v := .ref sta) (C := RX8) (T := TX8) (N := 23) hx hb hts iX8 hown hK hP 0 rfl rfl 3 (by decide) k18 (fun _ h9 => h9) rfl dX8_stood_12 ?_
        refine lv_iload_n hx hb dX8_stood_15 rfl (lv_at hl 2 rfl) ?_
        refine va_zald hx hb hK hP 1 2 rfl rfl (by rw [h2]; exact vp_in_nI hlt (by decide)) dX8_stood_16 ?_
        refine lv_if_eq (tgt := 24) hx hb dX8_stood_17 (by decide) (fun c_17 => ?_) (fun c_17 => ?_)
        · refine lv_iconst (v := 0) hx hb dX8_stood_24 (by decide) ?_
          refine lv_iadd hx hb dX8_stood_25 ?_
          refine lv_topi (fun x26 ex26 => ?_)
          refine lv_istore_n (lv' := [(1, .int x26), (0, .ref m8), (2, .int x2)]) hx hb dX8_stood_26 rfl hl (by decide) rfl (fun ls hl => ?_)
          obtain ⟨x27, ex27⟩ : ∃ y : Int32, y = x2 + 1 := ⟨_, rfl⟩
          refine lv_iinc (v := x27) (lv' := [(2, .int x27), (1, .int x26), (0, .ref m8)]) hx hb dX8_stood_27 hl (k := 2) rfl (by rw [ex27]; rfl) (by decide) rfl (fun ls hl => ?_)
          refine lv_goto (tgt := 4) hx hb dX8_stood_30 (by decide) ?_
          exact ih4 (i + 1) x26 x27 (hp_s ex27 h2) (by omega) (by rw [h2, nI_clamp (show i < 2 ^ 31 by omega)] at c_17; subst hs; rw [ex26]; (try rw [h2]); simp only [bx_sum]; first | rw [if_pos c_17] | rw [if_neg c_17]) (by omega) ls (lv_sub hl [2, 1, 0] rfl)
        · refine lv_iconst (v := 1) hx hb dX8_stood_20 (by decide) ?_
          refine lv_goto (tgt := 25) hx hb dX8_stood_21 (by decide) ?_
          refine lv_iadd hx hb dX8_stood_25 ?_
          refine lv_topi (fun x26 ex26 => ?_)
          refine lv_istore_n (lv' := [(1, .int x26), (0, .ref m8), (2, .int x2)]) hx hb dX8_stood_26 rfl hl (by decide) rfl (fun ls hl => ?_)
          obtain ⟨x27, ex27⟩ : ∃ y : Int32, y = x2 + 1 := ⟨_, rfl⟩
          refine lv_iinc (v := x27) (lv' := [(2, .int x27), (1, .int x26), (0, .ref m8)]) hx hb dX8_stood_27 hl (k := 2) rfl (by rw [ex27]; rfl) (by decide) rfl (fun ls hl => ?_)
          refine lv_goto (tgt := 4) hx hb dX8_stood_30 (by decide) ?_
          exact ih4 (i + 1) x26 x27 (hp_s ex27 h2) (by omega) (by rw [h2, nI_clamp (show i < 2 ^ 31 by omega)] at c_17; subst hs; rw [ex26]; (try rw [h2]); simp only [bx_sum]; first | rw [if_pos c_17] | rw [if_neg c_17]) (by omega) ls (lv_sub hl [2, 1, 0] rfl)
  refine lv_iconst (v := 0) hx hb dX8_stood_0 (by decide) ?_
  refine lv_istore_n (lv' := [(1, .int 0), (0, .ref m8)]) hx hb dX8_stood_1 rfl hl (by decide) rfl (fun ls hl => ?_)
  refine lv_iconst (v := 0) hx hb dX8_stood_2 (by decide) ?_
  refine lv_istore_n (lv' := [(2, .int 0), (1, .int 0), (0, .ref m8)]) hx hb dX8_stood_3 rfl hl (by decide) rfl (fun ls hl => ?_)
  exact lab4 _ 0 0 0 (nI_0.symm) (by omega) (rfl) (Nat.lt_succ_self _) ls (lv_sub hl [2, 1, 0] rfl)

set_option maxHeartbeats 4000000 in
set_option maxRecDepth 100000 in
theorem k_X8_worthShown (l : Launch) (D : va_G) (cI cJ cZ : ClassId) (m8 wa pa8 sta mo hea tha hd8 od8 cd8 opa osa : Nat) (st8 ig io op8 pl8 py wn tu la ps dr : Int32) (tb : Int64) (pf8 : Nat → Int32)  : Met l yX8_worthShown wsX8_worthShown ({ frames := 1, cells := 0, slots := 0, locals := 20 } : Room) (va_Pc [.ref m8] (wR D cI cJ cZ [(m8, .inr (6, [.int st8, .ref wa, .ref pa8, .ref sta, .ref mo, .ref hea, .ref tha, .int ig, .int io, .int op8, .int pl8, .int py, .int wn, .int tu, .int la, .int ps, .ref hd8, .ref od8, .long tb, .ref cd8, .int dr, .ref opa, .ref osa])), (pa8, .inl (cI, 52, .inl pf8))])) (vp_Si (fun r => r = j_X8_worthShown pf8)) 0 0 (fun _ => False) := by
  refine Met.ofW (cc := cX8_worthShown) (maxL := 3) (ret := (some .int)) (by decide) rfl ?_
  intro p e s m args below meth c s₁ B hml hv
  obtain ⟨hargs, hP, hK, hN⟩ := hv
  have hx := B.exec
  have hb := B.bytes
  have hr := B.returns
  have hlocks := B.notSynchronized
  have hts := atoms_spec (ws := wsX8_worthShown) B.pre
  have hown : s.vm.findClass RX8 = some m.cls := findClass_of_methodNamed B.named
  have k14 := hts (.fieldLink RX8 14 "RummyTableModel" "places" "[I") (by decide +kernel)
  have iX8 : ∀ w ∈ wsX80, w ∈ wsX8_worthShown := by decide +kernel
  have k59 := hts (.methodLink RX8 59 yX8_worthOf) (by decide +kernel)
  rw [show entryFrame m args 3 = entryFrame m ([.ref m8] : List Value).toArray 3 from by rw [hargs]]
  have hl := lv_entry ([.ref m8]) (n := 3) (Nat.le_of_ble_eq_true rfl)
  rw [lg_entry_eq]
  generalize (lg_sl ([.ref m8]) ++ List.replicate (3 - (lg_sl ([.ref m8])).length) Slot.unset).toArray = ls at hl ⊢
  have hl : lv_has ls 3 [(0, .ref m8)] := hl
  refine wQ (fun Q hQ => ?_)
  have lab4 : ∀ fuel4 : Nat, ∀ (i : Nat) (a : Int32) (x2 : Int32), (h2 : x2 = nI i) → (hi : i ≤ 52) → (hs : a = bx_sum (fun k => if pf8 k ≤ 0 then 0 else j_X8_worthOf (nI k)) i) → (hfu4 : 52 - i < fuel4) → ∀ ls : Array Slot, lv_has ls 3 [(0, .ref m8), (1, .int a), (2, .int x2)] → W p l e (headSpec wsX8_worthShown ({ frames := 1, cells := 0, slots := 0, locals := 20 } : Room)).room s m args below meth c s.heap [] 0 0 Q (F0 m 4 ls []) := by
    intro fuel4
    induction fuel4 with
    | zero =>
      intro i a x2 h2 hi hs hfu4
      exact absurd hfu4 (Nat.not_lt_zero _)
    | succ fuel4 ih4 =>
      intro i a x2 h2 hi hs hfu4 ls hl
      refine lv_iload_n hx hb dX8_worthShown_4 rfl (lv_at hl 2 rfl) ?_
      refine lv_bipush (v := 52) hx hb dX8_worthShown_5 (by decide) ?_
      refine lv_icmp_ge (tgt := 36) hx hb dX8_worthShown_7 (by decide) (fun c_7 => ?_) (fun c_7 => ?_)
      · have hi52 := hp_ge h2 (by decide : (52 : Int32) = nI 52) hi (by decide) c_7
        refine lv_iload_n hx hb dX8_worthShown_36 rfl (lv_at hl 1 rfl) ?_
        rw [← hQ]
        exact W.iret (v := a) hx hb hr (fun t ht hW => ⟨_, rfl, (by subst hi52; exact hs), ht⟩) (fun _ h => by cases h) dX8_worthShown_37
      · have hlt := hp_lt h2 (by decide : (52 : Int32) = nI 52) hi (by decide) c_7
        refine lv_iload_n hx hb dX8_worthShown_10 rfl (lv_at hl 1 rfl) ?_
        refine lv_aload_n hx hb dX8_worthShown_11 rfl (lv_at hl 0 rfl) ?_
        refine va_get (D := D) (ci := 6) (v := .ref pa8) (C := RX8) (T := TX8) (N := 23) hx hb hts iX8 hown hK hP 0 rfl rfl 2 (by decide) k14 (fun _ h9 => h9) rfl dX8_worthShown_12 ?_
        refine lv_iload_n hx hb dX8_worthShown_15 rfl (lv_at hl 2 rfl) ?_
        refine va_iald hx hb hK hP 1 0 rfl rfl (by rw [h2]; exact vp_in_nI hlt (by decide)) dX8_worthShown_16 ?_
        refine lv_if_le (tgt := 27) hx hb dX8_worthShown_17 (by decide) (fun c_17 => ?_) (fun c_17 => ?_)
        · refine lv_iconst (v := 0) hx hb dX8_worthShown_27 (by decide) ?_
          refine lv_iadd hx hb dX8_worthShown_28 ?_
          refine lv_topi (fun x29 ex29 => ?_)
          refine lv_istore_n (lv' := [(1, .int x29), (0, .ref m8), (2, .int x2)]) hx hb dX8_worthShown_29 rfl hl (by decide) rfl (fun ls hl => ?_)
          obtain ⟨x30, ex30⟩ : ∃ y : Int32, y = x2 + 1 := ⟨_, rfl⟩
          refine lv_iinc (v := x30) (lv' := [(2, .int x30), (1, .int x29), (0, .ref m8)]) hx hb dX8_worthShown_30 hl (k := 2) rfl (by rw [ex30]; rfl) (by decide) rfl (fun ls hl => ?_)
          refine lv_goto (tgt := 4) hx hb dX8_worthShown_33 (by decide) ?_
          exact ih4 (i + 1) x29 x30 (hp_s ex30 h2) (by omega) (by rw [h2, nI_clamp (show i < 2 ^ 31 by omega)] at c_17; subst hs; rw [ex29]; (try rw [h2]); simp only [bx_sum]; first | rw [if_pos c_17] | rw [if_neg c_17]) (by omega) ls (lv_sub hl [2, 1, 0] rfl)
        · refine lv_iload_n hx hb dX8_worthShown_20 rfl (lv_at hl 2 rfl) ?_
          refine vp_callSi (W.runS (As := [.int x2]) (rest := [.int a]) ⟨hx, hb, hml, hown, hts⟩ (k_X8_worthOf l x2 ) (va_cwS 1 hts gX8_worthShown_X8_worthOf rfl rfl rfl (by decide +kernel) ⟨Nat.le_of_ble_eq_true rfl, Nat.le_of_ble_eq_true rfl⟩) ⟨pS_fb, pS_pre⟩ rfl rfl hl.1 rfl (lv_room (Nat.le_of_ble_eq_true rfl)) dX8_worthShown_21 ⟨Nat.le_of_ble_eq_true rfl, Nat.le_of_ble_eq_true rfl⟩) (fun x21 hx21 => ?_)
          subst hx21
          refine lv_goto (tgt := 28) hx hb dX8_worthShown_24 (by decide) ?_
          refine lv_iadd hx hb dX8_worthShown_28 ?_
          refine lv_topi (fun x29 ex29 => ?_)
          refine lv_istore_n (lv' := [(1, .int x29), (0, .ref m8), (2, .int x2)]) hx hb dX8_worthShown_29 rfl hl (by decide) rfl (fun ls hl => ?_)
          obtain ⟨x30, ex30⟩ : ∃ y : Int32, y = x2 + 1 := ⟨_, rfl⟩
          refine lv_iinc (v := x30) (lv' := [(2, .int x30), (1, .int x29), (0, .ref m8)]) hx hb dX8_worthShown_30 hl (k := 2) rfl (by rw [ex30]; rfl) (by decide) rfl (fun ls hl => ?_)
          refine lv_goto (tgt := 4) hx hb dX8_worthShown_33 (by decide) ?_
          exact ih4 (i + 1) x29 x30 (hp_s ex30 h2) (by omega) (by rw [h2, nI_clamp (show i < 2 ^ 31 by omega)] at c_17; subst hs; rw [ex29]; (try rw [h2]); simp only [bx_sum]; first | rw [if_pos c_17] | rw [if_neg c_17]) (by omega) ls (lv_sub hl [2, 1, 0] rfl)
  refine lv_iconst (v := 0) hx hb dX8_worthShown_0 (by decide) ?_
  refine lv_istore_n (lv' := [(1, .int 0), (0, .ref m8)]) hx hb dX8_worthShown_1 rfl hl (by decide) rfl (fun ls hl => ?_)
  refine lv_iconst (v := 0) hx hb dX8_worthShown_2 (by decide) ?_
  refine lv_istore_n (lv' := [(2, .int 0), (1, .int 0), (0, .ref m8)]) hx hb dX8_worthShown_3 rfl hl (by decide) rfl (fun ls hl => ?_)
  exact lab4 _ 0 0 0 (nI_0.symm) (by omega) (rfl) (Nat.lt_succ_self _) ls (lv_sub hl [2, 1, 0] rfl)

set_option maxHeartbeats 4000000 in
set_option maxRecDepth 100000 in
theorem k_X8_longest (l : Launch) (D : va_G) (cI cJ cZ : ClassId) (m8 wa pa8 sta mo hea tha hd8 od8 cd8 opa osa : Nat) (st8 ig io op8 pl8 py wn tu la ps dr : Int32) (tb : Int64) (pf8 : Nat → Int32)  : Met l yX8_longest wsX8_longest ({ frames := 0, cells := 0, slots := 0, locals := 0 } : Room) (va_Pc [.ref m8] (wR D cI cJ cZ [(m8, .inr (6, [.int st8, .ref wa, .ref pa8, .ref sta, .ref mo, .ref hea, .ref tha, .int ig, .int io, .int op8, .int pl8, .int py, .int wn, .int tu, .int la, .int ps, .ref hd8, .ref od8, .long tb, .ref cd8, .int dr, .ref opa, .ref osa])), (pa8, .inl (cI, 52, .inl pf8))])) (vp_Si (fun r => r = j_X8_longest pf8)) 0 0 (fun _ => False) := by
  refine Met.ofW (cc := cX8_longest) (maxL := 5) (ret := (some .int)) (by decide) rfl ?_
  intro p e s m args below meth c s₁ B hml hv
  obtain ⟨hargs, hP, hK, hN⟩ := hv
  have hx := B.exec
  have hb := B.bytes
  have hr := B.returns
  have hlocks := B.notSynchronized
  have hts := atoms_spec (ws := wsX8_longest) B.pre
  have hown : s.vm.findClass RX8 = some m.cls := findClass_of_methodNamed B.named
  have k14 := hts (.fieldLink RX8 14 "RummyTableModel" "places" "[I") (by decide +kernel)
  have iX8 : ∀ w ∈ wsX80, w ∈ wsX8_longest := by decide +kernel
  rw [show entryFrame m args 5 = entryFrame m ([.ref m8] : List Value).toArray 5 from by rw [hargs]]
  have hl := lv_entry ([.ref m8]) (n := 5) (Nat.le_of_ble_eq_true rfl)
  rw [lg_entry_eq]
  generalize (lg_sl ([.ref m8]) ++ List.replicate (5 - (lg_sl ([.ref m8])).length) Slot.unset).toArray = ls at hl ⊢
  have hl : lv_has ls 5 [(0, .ref m8)] := hl
  refine wQ (fun Q hQ => ?_)
  have lab4 : ∀ fuel4 : Nat, ∀ (j : Nat) (mq : Int32) (x2 : Int32), (h2 : x2 = nI j) → (hj : j ≤ 4) → (h9 : mq = lrOut (fun c n => pf8 (4 * n + c)) j) → (hfu4 : 4 - j < fuel4) → ∀ ls : Array Slot, lv_has ls 5 [(0, .ref m8), (1, .int mq), (2, .int x2)] → W p l e (headSpec wsX8_longest ({ frames := 0, cells := 0, slots := 0, locals := 0 } : Room)).room s m args below meth c s.heap [] 0 0 Q (F0 m 4 ls []) := by
    intro fuel4
    induction fuel4 with
    | zero =>
      intro j mq x2 h2 hj h9 hfu4
      exact absurd hfu4 (Nat.not_lt_zero _)
    | succ fuel4 ih4 =>
      intro j mq x2 h2 hj h9 hfu4 ls hl
      have lab14 : ∀ fuel14 : Nat, ∀ (i : Nat) (mu : Int32) (le : Int32) (x4 : Int32), (hjlt : j < 4) → (h4 : x4 = nI (4 * i + j)) → (hi : i ≤ 13) → (h5 : (le, mu) = lrIn (fun n => pf8 (4 * n + j)) (lrOut (fun c n => pf8 (4 * n + c)) j) i) → (hfu14 : 13 - i < fuel14) → ∀ ls : Array Slot, lv_has ls 5 [(0, .ref m8), (1, .int mu), (2, .int x2), (3, .int le), (4, .int x4)] → W p l e (headSpec wsX8_longest ({ frames := 0, cells := 0, slots := 0, locals := 0 } : Room)).room s m args below meth c s.heap [] 0 0 Q (F0 m 14 ls []) := by
        intro fuel14
        induction fuel14 with
        | zero =>
          intro i mu le x4 hjlt h4 hi h5 hfu14
          exact absurd hfu14 (Nat.not_lt_zero _)
        | succ fuel14 ih14 =>
          intro i mu le x4 hjlt h4 hi h5 hfu14 ls hl
          refine lv_iload hx hb dX8_longest_14 (lv_at hl 4 rfl) ?_
          refine lv_bipush (v := 52) hx hb dX8_longest_16 (by decide) ?_
          refine lv_icmp_ge (tgt := 68) hx hb dX8_longest_18 (by decide) (fun c_18 => ?_) (fun c_18 => ?_)
          · have hi13 := hp_52 h4 hjlt hi c_18
            subst hi13
            have h70 : mu = lrOut (fun c n => pf8 (4 * n + c)) (j + 1) := congrArg Prod.snd h5
            obtain ⟨x68, ex68⟩ : ∃ y : Int32, y = x2 + 1 := ⟨_, rfl⟩
            refine lv_iinc (v := x68) (lv' := [(2, .int x68), (0, .ref m8), (1, .int mu), (3, .int le), (4, .int x4)]) hx hb dX8_longest_68 hl (k := 2) rfl (by rw [ex68]; rfl) (by decide) rfl (fun ls hl => ?_)
            refine lv_goto (tgt := 4) hx hb dX8_longest_71 (by decide) ?_
            exact ih4 (j + 1) mu x68 (hp_s ex68 h2) (by omega) (h70) (by omega) ls (lv_sub hl [1, 2, 0] rfl)
          · have hlt := hp_52n h4 hjlt hi c_18
            have hcl : x4.toNatClampNeg = 4 * i + j := by rw [h4]; exact nI_clamp (by omega)
            refine lv_aload_n hx hb dX8_longest_21 rfl (lv_at hl 0 rfl) ?_
            refine va_get (D := D) (ci := 6) (v := .ref pa8) (C := RX8) (T := TX8) (N := 23) hx hb hts iX8 hown hK hP 0 rfl rfl 2 (by decide) k14 (fun _ h9 => h9) rfl dX8_longest_22 ?_
            refine lv_iload hx hb dX8_longest_25 (lv_at hl 4 rfl) ?_
            refine va_iald hx hb hK hP 1 0 rfl rfl (by rw [h4]; exact vp_in_nI (by omega) (by decide)) dX8_longest_27 ?_
            refine lv_iconst (v := 3) hx hb dX8_longest_28 (by decide) ?_
            refine lv_icmp_ne (tgt := 38) hx hb dX8_longest_29 (by decide) (fun c_29 => ?_) (fun c_29 => ?_)
            · refine lv_aload_n hx hb dX8_longest_38 rfl (lv_at hl 0 rfl) ?_
              refine va_get (D := D) (ci := 6) (v := .ref pa8) (C := RX8) (T := TX8) (N := 23) hx hb hts iX8 hown hK hP 0 rfl rfl 2 (by decide) k14 (fun _ h9 => h9) rfl dX8_longest_39 ?_
              refine lv_iload hx hb dX8_longest_42 (lv_at hl 4 rfl) ?_
              refine va_iald hx hb hK hP 1 0 rfl rfl (by rw [h4]; exact vp_in_nI (by omega) (by decide)) dX8_longest_44 ?_
              refine lv_iconst (v := 2) hx hb dX8_longest_45 (by decide) ?_
              refine lv_icmp_ne (tgt := 53) hx hb dX8_longest_46 (by decide) (fun c_46 => ?_) (fun c_46 => ?_)
              · refine lv_iconst (v := 0) hx hb dX8_longest_53 (by decide) ?_
                refine lv_istore_n (lv' := [(3, .int 0), (0, .ref m8), (1, .int mu), (2, .int x2), (4, .int x4)]) hx hb dX8_longest_54 rfl hl (by decide) rfl (fun ls hl => ?_)
                have hle : 0 = if pf8 (4 * i + j) = 3 then le + 1 else if pf8 (4 * i + j) = 2 then 1 else 0 := by (try rw [ex54]); first | (rw [hcl] at c_29 c_46; (repeat' split) <;> first | rfl | contradiction) | (rw [hcl] at c_29; (repeat' split) <;> first | rfl | contradiction)
                refine lv_iload_n hx hb dX8_longest_55 rfl (lv_at hl 0 rfl) ?_
                refine lv_iload_n hx hb dX8_longest_56 rfl (lv_at hl 2 rfl) ?_
                refine lv_icmp_le (tgt := 62) hx hb dX8_longest_57 (by decide) (fun c_57 => ?_) (fun c_57 => ?_)
                · obtain ⟨x62, ex62⟩ : ∃ y : Int32, y = x4 + 4 := ⟨_, rfl⟩
                  refine lv_iinc (v := x62) (lv' := [(4, .int x62), (3, .int 0), (0, .ref m8), (1, .int mu), (2, .int x2)]) hx hb dX8_longest_62 hl (k := 4) rfl (by rw [ex62]; rfl) (by decide) rfl (fun ls hl => ?_)
                  refine lv_goto (tgt := 14) hx hb dX8_longest_65 (by decide) ?_
                  exact ih14 (i + 1) mu 0 x62 (hjlt) (hp_s4 ex62 h4) (by omega) (hp_lr2 h5 hle (by first | exact Or.inl ⟨c_57, rfl⟩ | exact Or.inr ⟨c_57, rfl⟩)) (by omega) ls (lv_sub hl [2, 3, 4, 1, 0] rfl)
                · refine lv_iload_n hx hb dX8_longest_60 rfl (lv_at hl 0 rfl) ?_
                  refine lv_istore_n (lv' := [(1, .int 0), (3, .int 0), (0, .ref m8), (2, .int x2), (4, .int x4)]) hx hb dX8_longest_61 rfl hl (by decide) rfl (fun ls hl => ?_)
                  obtain ⟨x62, ex62⟩ : ∃ y : Int32, y = x4 + 4 := ⟨_, rfl⟩
                  refine lv_iinc (v := x62) (lv' := [(4, .int x62), (1, .int 0), (3, .int 0), (0, .ref m8), (2, .int x2)]) hx hb dX8_longest_62 hl (k := 4) rfl (by rw [ex62]; rfl) (by decide) rfl (fun ls hl => ?_)
                  refine lv_goto (tgt := 14) hx hb dX8_longest_65 (by decide) ?_
                  exact ih14 (i + 1) 0 0 x62 (hjlt) (hp_s4 ex62 h4) (by omega) (hp_lr2 h5 hle (by first | exact Or.inl ⟨c_57, rfl⟩ | exact Or.inr ⟨c_57, rfl⟩)) (by omega) ls (lv_sub hl [3, 1, 4, 2, 0] rfl)
              · refine lv_iconst (v := 1) hx hb dX8_longest_49 (by decide) ?_
                refine lv_goto (tgt := 54) hx hb dX8_longest_50 (by decide) ?_
                refine lv_istore_n (lv' := [(3, .int 1), (0, .ref m8), (1, .int mu), (2, .int x2), (4, .int x4)]) hx hb dX8_longest_54 rfl hl (by decide) rfl (fun ls hl => ?_)
                have hle : 1 = if pf8 (4 * i + j) = 3 then le + 1 else if pf8 (4 * i + j) = 2 then 1 else 0 := by (try rw [ex54]); first | (rw [hcl] at c_29 c_46; (repeat' split) <;> first | rfl | contradiction) | (rw [hcl] at c_29; (repeat' split) <;> first | rfl | contradiction)
                refine lv_iload_n hx hb dX8_longest_55 rfl (lv_at hl 0 rfl) ?_
                refine lv_iload_n hx hb dX8_longest_56 rfl (lv_at hl 2 rfl) ?_
                refine lv_icmp_le (tgt := 62) hx hb dX8_longest_57 (by decide) (fun c_57 => ?_) (fun c_57 => ?_)
                · obtain ⟨x62, ex62⟩ : ∃ y : Int32, y = x4 + 4 := ⟨_, rfl⟩
                  refine lv_iinc (v := x62) (lv' := [(4, .int x62), (3, .int 1), (0, .ref m8), (1, .int mu), (2, .int x2)]) hx hb dX8_longest_62 hl (k := 4) rfl (by rw [ex62]; rfl) (by decide) rfl (fun ls hl => ?_)
                  refine lv_goto (tgt := 14) hx hb dX8_longest_65 (by decide) ?_
                  exact ih14 (i + 1) mu 1 x62 (hjlt) (hp_s4 ex62 h4) (by omega) (hp_lr2 h5 hle (by first | exact Or.inl ⟨c_57, rfl⟩ | exact Or.inr ⟨c_57, rfl⟩)) (by omega) ls (lv_sub hl [2, 3, 4, 1, 0] rfl)
                · refine lv_iload_n hx hb dX8_longest_60 rfl (lv_at hl 0 rfl) ?_
                  refine lv_istore_n (lv' := [(1, .int 1), (3, .int 1), (0, .ref m8), (2, .int x2), (4, .int x4)]) hx hb dX8_longest_61 rfl hl (by decide) rfl (fun ls hl => ?_)
                  obtain ⟨x62, ex62⟩ : ∃ y : Int32, y = x4 + 4 := ⟨_, rfl⟩
                  refine lv_iinc (v := x62) (lv' := [(4, .int x62), (1, .int 1), (3, .int 1), (0, .ref m8), (2, .int x2)]) hx hb dX8_longest_62 hl (k := 4) rfl (by rw [ex62]; rfl) (by decide) rfl (fun ls hl => ?_)
                  refine lv_goto (tgt := 14) hx hb dX8_longest_65 (by decide) ?_
                  exact ih14 (i + 1) 1 1 x62 (hjlt) (hp_s4 ex62 h4) (by omega) (hp_lr2 h5 hle (by first | exact Or.inl ⟨c_57, rfl⟩ | exact Or.inr ⟨c_57, rfl⟩)) (by omega) ls (lv_sub hl [3, 1, 4, 2, 0] rfl)
            · refine lv_iload_n hx hb dX8_longest_32 rfl (lv_at hl 3 rfl) ?_
              refine lv_iconst (v := 1) hx hb dX8_longest_33 (by decide) ?_
              refine lv_iadd hx hb dX8_longest_34 ?_
              refine lv_goto (tgt := 54) hx hb dX8_longest_35 (by decide) ?_
              refine lv_topi (fun x54 ex54 => ?_)
              refine lv_istore_n (lv' := [(3, .int x54), (0, .ref m8), (1, .int mu), (2, .int x2), (4, .int x4)]) hx hb dX8_longest_54 rfl hl (by decide) rfl (fun ls hl => ?_)
              have hle : x54 = if pf8 (4 * i + j) = 3 then le + 1 else if pf8 (4 * i + j) = 2 then 1 else 0 := by (try rw [ex54]); first | (rw [hcl] at c_29 c_46; (repeat' split) <;> first | rfl | contradiction) | (rw [hcl] at c_29; (repeat' split) <;> first | rfl | contradiction)
              refine lv_iload_n hx hb dX8_longest_55 rfl (lv_at hl 0 rfl) ?_
              refine lv_iload_n hx hb dX8_longest_56 rfl (lv_at hl 2 rfl) ?_
              refine lv_icmp_le (tgt := 62) hx hb dX8_longest_57 (by decide) (fun c_57 => ?_) (fun c_57 => ?_)
              · obtain ⟨x62, ex62⟩ : ∃ y : Int32, y = x4 + 4 := ⟨_, rfl⟩
                refine lv_iinc (v := x62) (lv' := [(4, .int x62), (3, .int x54), (0, .ref m8), (1, .int mu), (2, .int x2)]) hx hb dX8_longest_62 hl (k := 4) rfl (by rw [ex62]; rfl) (by decide) rfl (fun ls hl => ?_)
                refine lv_goto (tgt := 14) hx hb dX8_longest_65 (by decide) ?_
                exact ih14 (i + 1) mu x54 x62 (hjlt) (hp_s4 ex62 h4) (by omega) (hp_lr2 h5 hle (by first | exact Or.inl ⟨c_57, rfl⟩ | exact Or.inr ⟨c_57, rfl⟩)) (by omega) ls (lv_sub hl [2, 3, 4, 1, 0] rfl)
              · refine lv_iload_n hx hb dX8_longest_60 rfl (lv_at hl 0 rfl) ?_
                refine lv_istore_n (lv' := [(1, .int x54), (3, .int x54), (0, .ref m8), (2, .int x2), (4, .int x4)]) hx hb dX8_longest_61 rfl hl (by decide) rfl (fun ls hl => ?_)
                obtain ⟨x62, ex62⟩ : ∃ y : Int32, y = x4 + 4 := ⟨_, rfl⟩
                refine lv_iinc (v := x62) (lv' := [(4, .int x62), (1, .int x54), (3, .int x54), (0, .ref m8), (2, .int x2)]) hx hb dX8_longest_62 hl (k := 4) rfl (by rw [ex62]; rfl) (by decide) rfl (fun ls hl => ?_)
                refine lv_goto (tgt := 14) hx hb dX8_longest_65 (by decide) ?_
                exact ih14 (i + 1) x54 x54 x62 (hjlt) (hp_s4 ex62 h4) (by omega) (hp_lr2 h5 hle (by first | exact Or.inl ⟨c_57, rfl⟩ | exact Or.inr ⟨c_57, rfl⟩)) (by omega) ls (lv_sub hl [3, 1, 4, 2, 0] rfl)
      refine lv_iload_n hx hb dX8_longest_4 rfl (lv_at hl 2 rfl) ?_
      refine lv_iconst (v := 4) hx hb dX8_longest_5 (by decide) ?_
      refine lv_icmp_ge (tgt := 74) hx hb dX8_longest_6 (by decide) (fun c_6 => ?_) (fun c_6 => ?_)
      · have hj4 := hp_ge h2 (by decide : (4 : Int32) = nI 4) hj (by decide) c_6
        refine lv_iload_n hx hb dX8_longest_74 rfl (lv_at hl 1 rfl) ?_
        rw [← hQ]
        exact W.iret (v := mq) hx hb hr (fun t ht hW => ⟨_, rfl, (by subst hj4; exact h9), ht⟩) (fun _ h => by cases h) dX8_longest_75
      · have hjlt := hp_lt h2 (by decide : (4 : Int32) = nI 4) hj (by decide) c_6
        refine lv_iconst (v := 0) hx hb dX8_longest_9 (by decide) ?_
        refine lv_istore_n (lv' := [(3, .int 0), (0, .ref m8), (1, .int mq), (2, .int x2)]) hx hb dX8_longest_10 rfl hl (by decide) rfl (fun ls hl => ?_)
        refine lv_iload_n hx hb dX8_longest_11 rfl (lv_at hl 3 rfl) ?_
        refine lv_istore (lv' := [(4, .int x2), (3, .int 0), (0, .ref m8), (1, .int mq), (2, .int x2)]) hx hb dX8_longest_12 hl (by decide) rfl (fun ls hl => ?_)
        exact lab14 _ 0 mq 0 x2 (hjlt) (by rw [h2, Nat.mul_zero, Nat.zero_add]) (by omega) (by rw [h9]; rfl) (Nat.lt_succ_self _) ls (lv_sub hl [2, 3, 4, 1, 0] rfl)
  refine lv_iconst (v := 0) hx hb dX8_longest_0 (by decide) ?_
  refine lv_istore_n (lv' := [(1, .int 0), (0, .ref m8)]) hx hb dX8_longest_1 rfl hl (by decide) rfl (fun ls hl => ?_)
  refine lv_iconst (v := 0) hx hb dX8_longest_2 (by decide) ?_
  refine lv_istore_n (lv' := [(2, .int 0), (1, .int 0), (0, .ref m8)]) hx hb dX8_longest_3 rfl hl (by decide) rfl (fun ls hl => ?_)
  exact lab4 _ 0 0 0 (nI_0.symm) (by omega) (rfl) (Nat.lt_succ_self _) ls (lv_sub hl [2, 1, 0] rfl)

set_option maxHeartbeats 4000000 in
set_option maxRecDepth 100000 in
theorem k_X8_melds (l : Launch) (D : va_G) (cI cJ cZ : ClassId) (m8 wa pa8 sta mo hea tha hd8 od8 cd8 opa osa : Nat) (st8 ig io op8 pl8 py wn tu la ps dr : Int32) (tb : Int64) (pf8 : Nat → Int32)  : Met l yX8_melds wsX8_melds ({ frames := 0, cells := 0, slots := 0, locals := 0 } : Room) (va_Pc [.ref m8] (wR D cI cJ cZ [(m8, .inr (6, [.int st8, .ref wa, .ref pa8, .ref sta, .ref mo, .ref hea, .ref tha, .int ig, .int io, .int op8, .int pl8, .int py, .int wn, .int tu, .int la, .int ps, .ref hd8, .ref od8, .long tb, .ref cd8, .int dr, .ref opa, .ref osa])), (pa8, .inl (cI, 52, .inl pf8))])) (vp_Si (fun r => r = j_X8_melds pf8)) 0 0 (fun _ => False) := by
  refine Met.ofW (cc := cX8_melds) (maxL := 4) (ret := (some .int)) (by decide) rfl ?_
  intro p e s m args below meth c s₁ B hml hv
  obtain ⟨hargs, hP, hK, hN⟩ := hv
  have hx := B.exec
  have hb := B.bytes
  have hr := B.returns
  have hlocks := B.notSynchronized
  have hts := atoms_spec (ws := wsX8_melds) B.pre
  have hown : s.vm.findClass RX8 = some m.cls := findClass_of_methodNamed B.named
  have k14 := hts (.fieldLink RX8 14 "RummyTableModel" "places" "[I") (by decide +kernel)
  have iX8 : ∀ w ∈ wsX80, w ∈ wsX8_melds := by decide +kernel
  rw [show entryFrame m args 4 = entryFrame m ([.ref m8] : List Value).toArray 4 from by rw [hargs]]
  have hl := lv_entry ([.ref m8]) (n := 4) (Nat.le_of_ble_eq_true rfl)
  rw [lg_entry_eq]
  generalize (lg_sl ([.ref m8]) ++ List.replicate (4 - (lg_sl ([.ref m8])).length) Slot.unset).toArray = ls at hl ⊢
  have hl : lv_has ls 4 [(0, .ref m8)] := hl
  refine wQ (fun Q hQ => ?_)
  have lab6 : ∀ fuel6 : Nat, ∀ (i : Nat) (a : Int32) (b : Int32) (x3 : Int32), (h3 : x3 = nI i) → (hi : i ≤ 52) → (hs : a = mlN pf8 i) → (hg : b = mlG pf8 i) → (hfu6 : 52 - i < fuel6) → ∀ ls : Array Slot, lv_has ls 4 [(0, .ref m8), (1, .int a), (2, .int b), (3, .int x3)] → W p l e (headSpec wsX8_melds ({ frames := 0, cells := 0, slots := 0, locals := 0 } : Room)).room s m args below meth c s.heap [] 0 0 Q (F0 m 6 ls []) := by
    intro fuel6
    induction fuel6 with
    | zero =>
      intro i a b x3 h3 hi hs hg hfu6
      exact absurd hfu6 (Nat.not_lt_zero _)
    | succ fuel6 ih6 =>
      intro i a b x3 h3 hi hs hg hfu6 ls hl
      have hcl : x3.toNatClampNeg = i := by rw [h3]; exact nI_clamp (by omega)
      have lab48 : ∀  (a1 : Int32) (b1 : Int32), (hlt : i < 52) → (ha1 : a1 = mlN pf8 i + (if pf8 i = 2 then 1 else 0)) → (hb1 : b1 = mlG pf8 i + (if pf8 i = 1 then 1 else 0)) → ∀ ls : Array Slot, lv_has ls 4 [(0, .ref m8), (1, .int a1), (2, .int b1), (3, .int x3)] → W p l e (headSpec wsX8_melds ({ frames := 0, cells := 0, slots := 0, locals := 0 } : Room)).room s m args below meth c s.heap [] 0 0 Q (F0 m 48 ls []) := by
        intro a1 b1 hlt ha1 hb1 ls hl
        refine lv_iload_n hx hb dX8_melds_48 rfl (lv_at hl 3 rfl) ?_
        refine lv_iconst (v := 4) hx hb dX8_melds_49 (by decide) ?_
        refine lv_irem hx hb dX8_melds_50 (by decide) ?_
        refine lv_iconst (v := 3) hx hb dX8_melds_51 (by decide) ?_
        refine lv_icmp_ge (tgt := 58) hx hb dX8_melds_52 (by decide) (fun c_52 => ?_) (fun c_52 => ?_)
        · have h4r := hp_r3 h3 hlt c_52
          refine lv_iload_n hx hb dX8_melds_58 rfl (lv_at hl 1 rfl) ?_
          refine lv_iload_n hx hb dX8_melds_59 rfl (lv_at hl 2 rfl) ?_
          refine lv_if_le (tgt := 67) hx hb dX8_melds_60 (by decide) (fun c_60 => ?_) (fun c_60 => ?_)
          · refine lv_iconst (v := 0) hx hb dX8_melds_67 (by decide) ?_
            refine lv_iadd hx hb dX8_melds_68 ?_
            refine lv_topi (fun x69 ex69 => ?_)
            refine lv_istore_n (lv' := [(1, .int x69), (0, .ref m8), (2, .int b1), (3, .int x3)]) hx hb dX8_melds_69 rfl hl (by decide) rfl (fun ls hl => ?_)
            refine lv_iconst (v := 0) hx hb dX8_melds_70 (by decide) ?_
            refine lv_istore_n (lv' := [(2, .int 0), (1, .int x69), (0, .ref m8), (3, .int x3)]) hx hb dX8_melds_71 rfl hl (by decide) rfl (fun ls hl => ?_)
            obtain ⟨x72, ex72⟩ : ∃ y : Int32, y = x3 + 1 := ⟨_, rfl⟩
            refine lv_iinc (v := x72) (lv' := [(3, .int x72), (2, .int 0), (1, .int x69), (0, .ref m8)]) hx hb dX8_melds_72 hl (k := 3) rfl (by rw [ex72]; rfl) (by decide) rfl (fun ls hl => ?_)
            refine lv_goto (tgt := 6) hx hb dX8_melds_75 (by decide) ?_
            exact ih6 (i + 1) x69 0 x72 (hp_s ex72 h3) (by omega) (by simp only [mlN]; first | (rw [if_pos h4r, ← ha1]; done) | (rw [if_neg h4r, ← ha1, ← hb1, ex69]; first | rw [if_pos c_60] | rw [if_neg c_60])) (by simp only [mlG]; first | (rw [if_pos h4r, ← hb1]; done) | (rw [if_neg h4r]; done)) (by omega) ls (lv_sub hl [3, 2, 1, 0] rfl)
          · refine lv_iconst (v := 1) hx hb dX8_melds_63 (by decide) ?_
            refine lv_goto (tgt := 68) hx hb dX8_melds_64 (by decide) ?_
            refine lv_iadd hx hb dX8_melds_68 ?_
            refine lv_topi (fun x69 ex69 => ?_)
            refine lv_istore_n (lv' := [(1, .int x69), (0, .ref m8), (2, .int b1), (3, .int x3)]) hx hb dX8_melds_69 rfl hl (by decide) rfl (fun ls hl => ?_)
            refine lv_iconst (v := 0) hx hb dX8_melds_70 (by decide) ?_
            refine lv_istore_n (lv' := [(2, .int 0), (1, .int x69), (0, .ref m8), (3, .int x3)]) hx hb dX8_melds_71 rfl hl (by decide) rfl (fun ls hl => ?_)
            obtain ⟨x72, ex72⟩ : ∃ y : Int32, y = x3 + 1 := ⟨_, rfl⟩
            refine lv_iinc (v := x72) (lv' := [(3, .int x72), (2, .int 0), (1, .int x69), (0, .ref m8)]) hx hb dX8_melds_72 hl (k := 3) rfl (by rw [ex72]; rfl) (by decide) rfl (fun ls hl => ?_)
            refine lv_goto (tgt := 6) hx hb dX8_melds_75 (by decide) ?_
            exact ih6 (i + 1) x69 0 x72 (hp_s ex72 h3) (by omega) (by simp only [mlN]; first | (rw [if_pos h4r, ← ha1]; done) | (rw [if_neg h4r, ← ha1, ← hb1, ex69]; first | rw [if_pos c_60] | rw [if_neg c_60])) (by simp only [mlG]; first | (rw [if_pos h4r, ← hb1]; done) | (rw [if_neg h4r]; done)) (by omega) ls (lv_sub hl [3, 2, 1, 0] rfl)
        · have h4r := hp_r3n h3 hlt c_52
          refine lv_goto (tgt := 72) hx hb dX8_melds_55 (by decide) ?_
          obtain ⟨x72, ex72⟩ : ∃ y : Int32, y = x3 + 1 := ⟨_, rfl⟩
          refine lv_iinc (v := x72) (lv' := [(3, .int x72), (0, .ref m8), (1, .int a1), (2, .int b1)]) hx hb dX8_melds_72 hl (k := 3) rfl (by rw [ex72]; rfl) (by decide) rfl (fun ls hl => ?_)
          refine lv_goto (tgt := 6) hx hb dX8_melds_75 (by decide) ?_
          exact ih6 (i + 1) a1 b1 x72 (hp_s ex72 h3) (by omega) (by simp only [mlN]; first | (rw [if_pos h4r, ← ha1]; done) | (rw [if_neg h4r, ← ha1, ← hb1, ex69]; first | rw [if_pos c_60] | rw [if_neg c_60])) (by simp only [mlG]; first | (rw [if_pos h4r, ← hb1]; done) | (rw [if_neg h4r]; done)) (by omega) ls (lv_sub hl [1, 2, 3, 0] rfl)
      have lab30 : ∀  (a1 : Int32), (hlt : i < 52) → (ha0 : a1 = mlN pf8 i + (if pf8 i = 2 then 1 else 0)) → ∀ ls : Array Slot, lv_has ls 4 [(0, .ref m8), (1, .int a1), (2, .int b), (3, .int x3)] → W p l e (headSpec wsX8_melds ({ frames := 0, cells := 0, slots := 0, locals := 0 } : Room)).room s m args below meth c s.heap [] 0 0 Q (F0 m 30 ls []) := by
        intro a1 hlt ha0 ls hl
        refine lv_iload_n hx hb dX8_melds_30 rfl (lv_at hl 2 rfl) ?_
        refine lv_aload_n hx hb dX8_melds_31 rfl (lv_at hl 0 rfl) ?_
        refine va_get (D := D) (ci := 6) (v := .ref pa8) (C := RX8) (T := TX8) (N := 23) hx hb hts iX8 hown hK hP 0 rfl rfl 2 (by decide) k14 (fun _ h9 => h9) rfl dX8_melds_32 ?_
        refine lv_iload_n hx hb dX8_melds_35 rfl (lv_at hl 3 rfl) ?_
        refine va_iald hx hb hK hP 1 0 rfl rfl (by rw [h3]; exact vp_in_nI hlt (by decide)) dX8_melds_36 ?_
        refine lv_iconst (v := 1) hx hb dX8_melds_37 (by decide) ?_
        refine lv_icmp_ne (tgt := 45) hx hb dX8_melds_38 (by decide) (fun c_38 => ?_) (fun c_38 => ?_)
        · refine lv_iconst (v := 0) hx hb dX8_melds_45 (by decide) ?_
          refine lv_iadd hx hb dX8_melds_46 ?_
          refine lv_topi (fun x47 ex47 => ?_)
          refine lv_istore_n (lv' := [(2, .int x47), (0, .ref m8), (1, .int a1), (3, .int x3)]) hx hb dX8_melds_47 rfl hl (by decide) rfl (fun ls hl => ?_)
          exact lab48 a1 x47 (hlt) (ha0) (by rw [hcl] at c_38; (try rw [ex47]); rw [hg]; first | rw [if_pos c_38] | rw [if_neg c_38]) ls (lv_sub hl [1, 2, 0, 3] rfl)
        · refine lv_iconst (v := 1) hx hb dX8_melds_41 (by decide) ?_
          refine lv_goto (tgt := 46) hx hb dX8_melds_42 (by decide) ?_
          refine lv_iadd hx hb dX8_melds_46 ?_
          refine lv_topi (fun x47 ex47 => ?_)
          refine lv_istore_n (lv' := [(2, .int x47), (0, .ref m8), (1, .int a1), (3, .int x3)]) hx hb dX8_melds_47 rfl hl (by decide) rfl (fun ls hl => ?_)
          exact lab48 a1 x47 (hlt) (ha0) (by rw [hcl] at c_38; (try rw [ex47]); rw [hg]; first | rw [if_pos c_38] | rw [if_neg c_38]) ls (lv_sub hl [1, 2, 0, 3] rfl)
      refine lv_iload_n hx hb dX8_melds_6 rfl (lv_at hl 3 rfl) ?_
      refine lv_bipush (v := 52) hx hb dX8_melds_7 (by decide) ?_
      refine lv_icmp_ge (tgt := 78) hx hb dX8_melds_9 (by decide) (fun c_9 => ?_) (fun c_9 => ?_)
      · have hi52 := hp_ge h3 (by decide : (52 : Int32) = nI 52) hi (by decide) c_9
        refine lv_iload_n hx hb dX8_melds_78 rfl (lv_at hl 1 rfl) ?_
        rw [← hQ]
        exact W.iret (v := a) hx hb hr (fun t ht hW => ⟨_, rfl, (by subst hi52; exact hs), ht⟩) (fun _ h => by cases h) dX8_melds_79
      · have hlt := hp_lt h3 (by decide : (52 : Int32) = nI 52) hi (by decide) c_9
        refine lv_iload_n hx hb dX8_melds_12 rfl (lv_at hl 1 rfl) ?_
        refine lv_aload_n hx hb dX8_melds_13 rfl (lv_at hl 0 rfl) ?_
        refine va_get (D := D) (ci := 6) (v := .ref pa8) (C := RX8) (T := TX8) (N := 23) hx hb hts iX8 hown hK hP 0 rfl rfl 2 (by decide) k14 (fun _ h9 => h9) rfl dX8_melds_14 ?_
        refine lv_iload_n hx hb dX8_melds_17 rfl (lv_at hl 3 rfl) ?_
        refine va_iald hx hb hK hP 1 0 rfl rfl (by rw [h3]; exact vp_in_nI hlt (by decide)) dX8_melds_18 ?_
        refine lv_iconst (v := 2) hx hb dX8_melds_19 (by decide) ?_
        refine lv_icmp_ne (tgt := 27) hx hb dX8_melds_20 (by decide) (fun c_20 => ?_) (fun c_20 => ?_)
        · refine lv_iconst (v := 0) hx hb dX8_melds_27 (by decide) ?_
          refine lv_iadd hx hb dX8_melds_28 ?_
          refine lv_topi (fun x29 ex29 => ?_)
          refine lv_istore_n (lv' := [(1, .int x29), (0, .ref m8), (2, .int b), (3, .int x3)]) hx hb dX8_melds_29 rfl hl (by decide) rfl (fun ls hl => ?_)
          exact lab30 x29 (hlt) (by rw [hcl] at c_20; (try rw [ex29]); rw [hs]; first | rw [if_pos c_20] | rw [if_neg c_20]) ls (lv_sub hl [1, 0, 2, 3] rfl)
        · refine lv_iconst (v := 1) hx hb dX8_melds_23 (by decide) ?_
          refine lv_goto (tgt := 28) hx hb dX8_melds_24 (by decide) ?_
          refine lv_iadd hx hb dX8_melds_28 ?_
          refine lv_topi (fun x29 ex29 => ?_)
          refine lv_istore_n (lv' := [(1, .int x29), (0, .ref m8), (2, .int b), (3, .int x3)]) hx hb dX8_melds_29 rfl hl (by decide) rfl (fun ls hl => ?_)
          exact lab30 x29 (hlt) (by rw [hcl] at c_20; (try rw [ex29]); rw [hs]; first | rw [if_pos c_20] | rw [if_neg c_20]) ls (lv_sub hl [1, 0, 2, 3] rfl)
  refine lv_iconst (v := 0) hx hb dX8_melds_0 (by decide) ?_
  refine lv_istore_n (lv' := [(1, .int 0), (0, .ref m8)]) hx hb dX8_melds_1 rfl hl (by decide) rfl (fun ls hl => ?_)
  refine lv_iconst (v := 0) hx hb dX8_melds_2 (by decide) ?_
  refine lv_istore_n (lv' := [(2, .int 0), (1, .int 0), (0, .ref m8)]) hx hb dX8_melds_3 rfl hl (by decide) rfl (fun ls hl => ?_)
  refine lv_iconst (v := 0) hx hb dX8_melds_4 (by decide) ?_
  refine lv_istore_n (lv' := [(3, .int 0), (2, .int 0), (1, .int 0), (0, .ref m8)]) hx hb dX8_melds_5 rfl hl (by decide) rfl (fun ls hl => ?_)
  exact lab6 _ 0 0 0 0 (nI_0.symm) (by omega) (rfl) (rfl) (Nat.lt_succ_self _) ls (lv_sub hl [3, 2, 1, 0] rfl)

set_option maxHeartbeats 4000000 in
set_option maxRecDepth 100000 in
theorem k_X8_remember (l : Launch) (D : va_G) (cI cJ cZ : ClassId) (sz : Nat) (m8 wa pa8 sta mo hea tha hd8 od8 cd8 opa osa : Nat) (st8 ig io op8 pl8 py wn tu la ps dr : Int32) (tb : Int64) (pf8 sf8 opf osf : Nat → Int32) (hz : ∀ k, k < 52 → sf8 k = 0 ∨ sf8 k = 1) : Met l yX8_remember wsX8_remember ({ frames := 0, cells := 0, slots := 0, locals := 0 } : Room) (va_Pc [.ref m8] (wM D cI cJ cZ sz [(m8, .inr (6, [.int st8, .ref wa, .ref pa8, .ref sta, .ref mo, .ref hea, .ref tha, .int ig, .int io, .int op8, .int pl8, .int py, .int wn, .int tu, .int la, .int ps, .ref hd8, .ref od8, .long tb, .ref cd8, .int dr, .ref opa, .ref osa])), (pa8, .inl (cI, 52, .inl pf8)), (sta, .inl (cZ, 52, .inl sf8)), (opa, .inl (cI, 52, .inl opf)), (osa, .inl (cZ, 52, .inl osf))])) (va_Qv (fun (u : (Nat → Int32) × (Nat → Int32)) => match u with | (q1, q2) => (∀ k, k < 52 → q1 k = pf8 k ∧ q2 k = sf8 k)) (fun (u : (Nat → Int32) × (Nat → Int32)) t => match u with | (q1, q2) => wB D (va_A [(m8, .inr (6, [.int st8, .ref wa, .ref pa8, .ref sta, .ref mo, .ref hea, .ref tha, .int ig, .int io, .int op8, .int pl8, .int py, .int wn, .int tu, .int la, .int ps, .ref hd8, .ref od8, .long tb, .ref cd8, .int dr, .ref opa, .ref osa])), (pa8, .inl (cI, 52, .inl pf8)), (sta, .inl (cZ, 52, .inl sf8)), (opa, .inl (cI, 52, .inl opf)), (osa, .inl (cZ, 52, .inl osf))] sz) [(m8, .inr (6, [.int st8, .ref wa, .ref pa8, .ref sta, .ref mo, .ref hea, .ref tha, .int ig, .int io, .int op8, .int pl8, .int py, .int wn, .int tu, .int la, .int ps, .ref hd8, .ref od8, .long tb, .ref cd8, .int dr, .ref opa, .ref osa])), (pa8, .inl (cI, 52, .inl pf8)), (sta, .inl (cZ, 52, .inl sf8)), (opa, .inl (cI, 52, .inl q1)), (osa, .inl (cZ, 52, .inl q2))] t) (va_A [(m8, .inr (6, [.int st8, .ref wa, .ref pa8, .ref sta, .ref mo, .ref hea, .ref tha, .int ig, .int io, .int op8, .int pl8, .int py, .int wn, .int tu, .int la, .int ps, .ref hd8, .ref od8, .long tb, .ref cd8, .int dr, .ref opa, .ref osa])), (pa8, .inl (cI, 52, .inl pf8)), (sta, .inl (cZ, 52, .inl sf8)), (opa, .inl (cI, 52, .inl opf)), (osa, .inl (cZ, 52, .inl osf))] sz)) 0 0 (va_A [(m8, .inr (6, [.int st8, .ref wa, .ref pa8, .ref sta, .ref mo, .ref hea, .ref tha, .int ig, .int io, .int op8, .int pl8, .int py, .int wn, .int tu, .int la, .int ps, .ref hd8, .ref od8, .long tb, .ref cd8, .int dr, .ref opa, .ref osa])), (pa8, .inl (cI, 52, .inl pf8)), (sta, .inl (cZ, 52, .inl sf8)), (opa, .inl (cI, 52, .inl opf)), (osa, .inl (cZ, 52, .inl osf))] sz) := by
  refine Met.ofW (cc := cX8_remember) (maxL := 2) (ret := none) (by decide) rfl ?_
  intro p e s m args below meth c s₁ B hml hv
  obtain ⟨hargs, hsz, hP, ⟨hK, hN⟩, hD0⟩ := hv
  have hx := B.exec
  have hb := B.bytes
  have hr := B.returns
  have hlocks := B.notSynchronized
  have hts := atoms_spec (ws := wsX8_remember) B.pre
  have hown : s.vm.findClass RX8 = some m.cls := findClass_of_methodNamed B.named
  have k44 := hts (.fieldLink RX8 44 "RummyTableModel" "oldPlaces" "[I") (by decide +kernel)
  have iX8 : ∀ w ∈ wsX80, w ∈ wsX8_remember := by decide +kernel
  have k14 := hts (.fieldLink RX8 14 "RummyTableModel" "places" "[I") (by decide +kernel)
  have k47 := hts (.fieldLink RX8 47 "RummyTableModel" "oldStands" "[Z") (by decide +kernel)
  have k18 := hts (.fieldLink RX8 18 "RummyTableModel" "stands" "[Z") (by decide +kernel)
  subst hsz
  have hD := hD0.self (sz := s.heap.size)
  generalize hAe : va_A [(m8, .inr (6, [.int st8, .ref wa, .ref pa8, .ref sta, .ref mo, .ref hea, .ref tha, .int ig, .int io, .int op8, .int pl8, .int py, .int wn, .int tu, .int la, .int ps, .ref hd8, .ref od8, .long tb, .ref cd8, .int dr, .ref opa, .ref osa])), (pa8, .inl (cI, 52, .inl pf8)), (sta, .inl (cZ, 52, .inl sf8)), (opa, .inl (cI, 52, .inl opf)), (osa, .inl (cZ, 52, .inl osf))] s.heap.size = A at hD ⊢
  have hA : ∀ q : Nat, s.heap.size ≤ q → A q := fun q h => by rw [← hAe]; exact Or.inr h
  have hS : va_S A s.heap s.heap [] := va_S.rf
  rw [show entryFrame m args 2 = entryFrame m ([.ref m8] : List Value).toArray 2 from by rw [hargs]]
  have hl := lv_entry ([.ref m8]) (n := 2) (Nat.le_of_ble_eq_true rfl)
  rw [lg_entry_eq]
  generalize (lg_sl ([.ref m8]) ++ List.replicate (2 - (lg_sl ([.ref m8])).length) Slot.unset).toArray = ls at hl ⊢
  have hl : lv_has ls 2 [(0, .ref m8)] := hl
  refine wQ (fun Q hQ => ?_)
  have lab2 : ∀ fuel2 : Nat, ∀ (i : Nat) (x1 : Int32) (u1 : Nat → Int32) (u2 : Nat → Int32), (h1 : x1 = nI i) → (hi : i ≤ 52) → (hq : ∀ k, k < i → u1 k = pf8 k ∧ u2 k = sf8 k) → (hfu2 : 52 - i < fuel2) → ∀ (H : Heap) (locs : List Loc), va_P D vwCl [(m8, .inr (6, [.int st8, .ref wa, .ref pa8, .ref sta, .ref mo, .ref hea, .ref tha, .int ig, .int io, .int op8, .int pl8, .int py, .int wn, .int tu, .int la, .int ps, .ref hd8, .ref od8, .long tb, .ref cd8, .int dr, .ref opa, .ref osa])), (pa8, .inl (cI, 52, .inl pf8)), (sta, .inl (cZ, 52, .inl sf8)), (opa, .inl (cI, 52, .inl u1)), (osa, .inl (cZ, 52, .inl u2))] H → va_D A [(m8, .inr (6, [.int st8, .ref wa, .ref pa8, .ref sta, .ref mo, .ref hea, .ref tha, .int ig, .int io, .int op8, .int pl8, .int py, .int wn, .int tu, .int la, .int ps, .ref hd8, .ref od8, .long tb, .ref cd8, .int dr, .ref opa, .ref osa])), (pa8, .inl (cI, 52, .inl pf8)), (sta, .inl (cZ, 52, .inl sf8)), (opa, .inl (cI, 52, .inl u1)), (osa, .inl (cZ, 52, .inl u2))] → va_S A s.heap H locs → ∀ ls : Array Slot, lv_has ls 2 [(0, .ref m8), (1, .int x1)] → W p l e (headSpec wsX8_remember ({ frames := 0, cells := 0, slots := 0, locals := 0 } : Room)).room s m args below meth c H locs 0 0 Q (F0 m 2 ls []) := by
    intro fuel2
    induction fuel2 with
    | zero =>
      intro i x1 u1 u2 h1 hi hq hfu2
      exact absurd hfu2 (Nat.not_lt_zero _)
    | succ fuel2 ih2 =>
      intro i x1 u1 u2 h1 hi hq hfu2 H locs hP hD hS ls hl
      refine lv_iload_n hx hb dX8_remember_2 rfl (lv_at hl 1 rfl) ?_
      refine lv_bipush (v := 52) hx hb dX8_remember_3 (by decide) ?_
      refine lv_icmp_ge (tgt := 38) hx hb dX8_remember_5 (by decide) (fun c_5 => ?_) (fun c_5 => ?_)
      · have hi52 := hp_ge h1 (by decide : (52 : Int32) = nI 52) hi (by decide) c_5
        subst hi52
        rw [← hQ]
        have hP9 := hP.sub (ws' := [(m8, .inr (6, [.int st8, .ref wa, .ref pa8, .ref sta, .ref mo, .ref hea, .ref tha, .int ig, .int io, .int op8, .int pl8, .int py, .int wn, .int tu, .int la, .int ps, .ref hd8, .ref od8, .long tb, .ref cd8, .int dr, .ref opa, .ref osa])), (pa8, .inl (cI, 52, .inl pf8)), (sta, .inl (cZ, 52, .inl sf8)), (opa, .inl (cI, 52, .inl u1)), (osa, .inl (cZ, 52, .inl u2))]) [0, 1, 2, 3, 4] rfl
        have hD9 := hD.sub (ws' := [(m8, .inr (6, [.int st8, .ref wa, .ref pa8, .ref sta, .ref mo, .ref hea, .ref tha, .int ig, .int io, .int op8, .int pl8, .int py, .int wn, .int tu, .int la, .int ps, .ref hd8, .ref od8, .long tb, .ref cd8, .int dr, .ref opa, .ref osa])), (pa8, .inl (cI, 52, .inl pf8)), (sta, .inl (cZ, 52, .inl sf8)), (opa, .inl (cI, 52, .inl u1)), (osa, .inl (cZ, 52, .inl u2))]) [0, 1, 2, 3, 4] (by decide) rfl
        exact W.vret hx hb hr (fun t ht hW => ⟨⟨(u1, u2), rfl, hq, (by show wB D A _ t; exact ⟨by rw [ht]; exact hP9, hD9⟩)⟩, hS.F ht⟩) hS.2.2 dX8_remember_38
      · have hlt := hp_lt h1 (by decide : (52 : Int32) = nI 52) hi (by decide) c_5
        refine lv_aload_n hx hb dX8_remember_8 rfl (lv_at hl 0 rfl) ?_
        refine va_get (D := D) (ci := 6) (v := .ref opa) (C := RX8) (T := TX8) (N := 23) hx hb hts iX8 hown hK hP 0 rfl rfl 21 (by decide) k44 (fun _ h9 => h9) rfl dX8_remember_9 ?_
        refine lv_iload_n hx hb dX8_remember_12 rfl (lv_at hl 1 rfl) ?_
        refine lv_aload_n hx hb dX8_remember_13 rfl (lv_at hl 0 rfl) ?_
        refine va_get (D := D) (ci := 6) (v := .ref pa8) (C := RX8) (T := TX8) (N := 23) hx hb hts iX8 hown hK hP 0 rfl rfl 2 (by decide) k14 (fun _ h9 => h9) rfl dX8_remember_14 ?_
        refine lv_iload_n hx hb dX8_remember_17 rfl (lv_at hl 1 rfl) ?_
        refine va_iald hx hb hK hP 1 0 rfl rfl (by rw [h1]; exact vp_in_nI hlt (by decide)) dX8_remember_18 ?_
        refine va_iast hx hb hK hP hD hS 3 0 rfl rfl (by rw [h1]; exact vp_in_nI hlt (by decide)) dX8_remember_19 (fun H locs hP hD hS => ?_)
        have hP : va_P D vwCl [(m8, .inr (6, [.int st8, .ref wa, .ref pa8, .ref sta, .ref mo, .ref hea, .ref tha, .int ig, .int io, .int op8, .int pl8, .int py, .int wn, .int tu, .int la, .int ps, .ref hd8, .ref od8, .long tb, .ref cd8, .int dr, .ref opa, .ref osa])), (pa8, .inl (cI, 52, .inl pf8)), (sta, .inl (cZ, 52, .inl sf8)), (opa, .inl (cI, 52, .inl (upd u1 x1.toNatClampNeg (pf8 x1.toNatClampNeg)))), (osa, .inl (cZ, 52, .inl u2))] H := hP
        have hD : va_D A [(m8, .inr (6, [.int st8, .ref wa, .ref pa8, .ref sta, .ref mo, .ref hea, .ref tha, .int ig, .int io, .int op8, .int pl8, .int py, .int wn, .int tu, .int la, .int ps, .ref hd8, .ref od8, .long tb, .ref cd8, .int dr, .ref opa, .ref osa])), (pa8, .inl (cI, 52, .inl pf8)), (sta, .inl (cZ, 52, .inl sf8)), (opa, .inl (cI, 52, .inl (upd u1 x1.toNatClampNeg (pf8 x1.toNatClampNeg)))), (osa, .inl (cZ, 52, .inl u2))] := hD
        generalize ex19 : upd u1 x1.toNatClampNeg (pf8 x1.toNatClampNeg) = x19 at hP hD
        refine lv_aload_n hx hb dX8_remember_20 rfl (lv_at hl 0 rfl) ?_
        refine va_get (D := D) (ci := 6) (v := .ref osa) (C := RX8) (T := TX8) (N := 23) hx hb hts iX8 hown hK hP 0 rfl rfl 22 (by decide) k47 (fun _ h9 => h9) rfl dX8_remember_21 ?_
        refine lv_iload_n hx hb dX8_remember_24 rfl (lv_at hl 1 rfl) ?_
        refine lv_aload_n hx hb dX8_remember_25 rfl (lv_at hl 0 rfl) ?_
        refine va_get (D := D) (ci := 6) (v := .ref sta) (C := RX8) (T := TX8) (N := 23) hx hb hts iX8 hown hK hP 0 rfl rfl 3 (by decide) k18 (fun _ h9 => h9) rfl dX8_remember_26 ?_
        refine lv_iload_n hx hb dX8_remember_29 rfl (lv_at hl 1 rfl) ?_
        refine va_zald hx hb hK hP 2 2 rfl rfl (by rw [h1]; exact vp_in_nI hlt (by decide)) dX8_remember_30 ?_
        refine va_zast hx hb hK hP hD hS 4 2 rfl rfl (by rw [h1]; exact vp_in_nI hlt (by decide)) dX8_remember_31 (fun H locs hP hD hS => ?_)
        have hP : va_P D vwCl [(m8, .inr (6, [.int st8, .ref wa, .ref pa8, .ref sta, .ref mo, .ref hea, .ref tha, .int ig, .int io, .int op8, .int pl8, .int py, .int wn, .int tu, .int la, .int ps, .ref hd8, .ref od8, .long tb, .ref cd8, .int dr, .ref opa, .ref osa])), (pa8, .inl (cI, 52, .inl pf8)), (sta, .inl (cZ, 52, .inl sf8)), (opa, .inl (cI, 52, .inl x19)), (osa, .inl (cZ, 52, .inl (upd u2 x1.toNatClampNeg (vp_nar .boolean (sf8 x1.toNatClampNeg)))))] H := hP
        have hD : va_D A [(m8, .inr (6, [.int st8, .ref wa, .ref pa8, .ref sta, .ref mo, .ref hea, .ref tha, .int ig, .int io, .int op8, .int pl8, .int py, .int wn, .int tu, .int la, .int ps, .ref hd8, .ref od8, .long tb, .ref cd8, .int dr, .ref opa, .ref osa])), (pa8, .inl (cI, 52, .inl pf8)), (sta, .inl (cZ, 52, .inl sf8)), (opa, .inl (cI, 52, .inl x19)), (osa, .inl (cZ, 52, .inl (upd u2 x1.toNatClampNeg (vp_nar .boolean (sf8 x1.toNatClampNeg)))))] := hD
        generalize ex31 : upd u2 x1.toNatClampNeg (vp_nar .boolean (sf8 x1.toNatClampNeg)) = x31 at hP hD
        obtain ⟨x32, ex32⟩ : ∃ y : Int32, y = x1 + 1 := ⟨_, rfl⟩
        refine lv_iinc (v := x32) (lv' := [(1, .int x32), (0, .ref m8)]) hx hb dX8_remember_32 hl (k := 1) rfl (by rw [ex32]; rfl) (by decide) rfl (fun ls hl => ?_)
        refine lv_goto (tgt := 2) hx hb dX8_remember_35 (by decide) ?_
        exact ih2 (i + 1) x32 x19 x31 (hp_s ex32 h1) (by omega) (hp_cpy h1 (by omega) ex19 ex31 (hz i hlt) hq) (by omega) _ _ hP hD hS ls (lv_sub hl [1, 0] rfl)
  refine lv_iconst (v := 0) hx hb dX8_remember_0 (by decide) ?_
  refine lv_istore_n (lv' := [(1, .int 0), (0, .ref m8)]) hx hb dX8_remember_1 rfl hl (by decide) rfl (fun ls hl => ?_)
  exact lab2 _ 0 0 opf osf (nI_0.symm) (by omega) (fun k h => absurd h (Nat.not_lt_zero k)) (Nat.lt_succ_self _) _ _ hP hD hS ls (lv_sub hl [1, 0] rfl)

set_option maxHeartbeats 4000000 in
set_option maxRecDepth 100000 in
theorem k_X8_recall (l : Launch) (D : va_G) (cI cJ cZ : ClassId) (sz : Nat) (m8 wa pa8 sta mo hea tha hd8 od8 cd8 opa osa : Nat) (st8 ig io op8 pl8 py wn tu la ps dr : Int32) (tb : Int64) (pf8 sf8 opf osf : Nat → Int32) (hz : ∀ k, k < 52 → osf k = 0 ∨ osf k = 1) : Met l yX8_recall wsX8_recall ({ frames := 0, cells := 0, slots := 0, locals := 0 } : Room) (va_Pc [.ref m8] (wM D cI cJ cZ sz [(m8, .inr (6, [.int st8, .ref wa, .ref pa8, .ref sta, .ref mo, .ref hea, .ref tha, .int ig, .int io, .int op8, .int pl8, .int py, .int wn, .int tu, .int la, .int ps, .ref hd8, .ref od8, .long tb, .ref cd8, .int dr, .ref opa, .ref osa])), (pa8, .inl (cI, 52, .inl pf8)), (sta, .inl (cZ, 52, .inl sf8)), (opa, .inl (cI, 52, .inl opf)), (osa, .inl (cZ, 52, .inl osf))])) (va_Qv (fun (u : (Nat → Int32) × (Nat → Int32)) => match u with | (q1, q2) => (∀ k, k < 52 → q1 k = opf k ∧ q2 k = osf k)) (fun (u : (Nat → Int32) × (Nat → Int32)) t => match u with | (q1, q2) => wB D (va_A [(m8, .inr (6, [.int st8, .ref wa, .ref pa8, .ref sta, .ref mo, .ref hea, .ref tha, .int ig, .int io, .int op8, .int pl8, .int py, .int wn, .int tu, .int la, .int ps, .ref hd8, .ref od8, .long tb, .ref cd8, .int dr, .ref opa, .ref osa])), (pa8, .inl (cI, 52, .inl pf8)), (sta, .inl (cZ, 52, .inl sf8)), (opa, .inl (cI, 52, .inl opf)), (osa, .inl (cZ, 52, .inl osf))] sz) [(m8, .inr (6, [.int st8, .ref wa, .ref pa8, .ref sta, .ref mo, .ref hea, .ref tha, .int ig, .int io, .int op8, .int pl8, .int py, .int wn, .int tu, .int la, .int ps, .ref hd8, .ref od8, .long tb, .ref cd8, .int dr, .ref opa, .ref osa])), (pa8, .inl (cI, 52, .inl q1)), (sta, .inl (cZ, 52, .inl q2)), (opa, .inl (cI, 52, .inl opf)), (osa, .inl (cZ, 52, .inl osf))] t) (va_A [(m8, .inr (6, [.int st8, .ref wa, .ref pa8, .ref sta, .ref mo, .ref hea, .ref tha, .int ig, .int io, .int op8, .int pl8, .int py, .int wn, .int tu, .int la, .int ps, .ref hd8, .ref od8, .long tb, .ref cd8, .int dr, .ref opa, .ref osa])), (pa8, .inl (cI, 52, .inl pf8)), (sta, .inl (cZ, 52, .inl sf8)), (opa, .inl (cI, 52, .inl opf)), (osa, .inl (cZ, 52, .inl osf))] sz)) 0 0 (va_A [(m8, .inr (6, [.int st8, .ref wa, .ref pa8, .ref sta, .ref mo, .ref hea, .ref tha, .int ig, .int io, .int op8, .int pl8, .int py, .int wn, .int tu, .int la, .int ps, .ref hd8, .ref od8, .long tb, .ref cd8, .int dr, .ref opa, .ref osa])), (pa8, .inl (cI, 52, .inl pf8)), (sta, .inl (cZ, 52, .inl sf8)), (opa, .inl (cI, 52, .inl opf)), (osa, .inl (cZ, 52, .inl osf))] sz) := by
  refine Met.ofW (cc := cX8_recall) (maxL := 2) (ret := none) (by decide) rfl ?_
  intro p e s m args below meth c s₁ B hml hv
  obtain ⟨hargs, hsz, hP, ⟨hK, hN⟩, hD0⟩ := hv
  have hx := B.exec
  have hb := B.bytes
  have hr := B.returns
  have hlocks := B.notSynchronized
  have hts := atoms_spec (ws := wsX8_recall) B.pre
  have hown : s.vm.findClass RX8 = some m.cls := findClass_of_methodNamed B.named
  have k14 := hts (.fieldLink RX8 14 "RummyTableModel" "places" "[I") (by decide +kernel)
  have iX8 : ∀ w ∈ wsX80, w ∈ wsX8_recall := by decide +kernel
  have k44 := hts (.fieldLink RX8 44 "RummyTableModel" "oldPlaces" "[I") (by decide +kernel)
  have k18 := hts (.fieldLink RX8 18 "RummyTableModel" "stands" "[Z") (by decide +kernel)
  have k47 := hts (.fieldLink RX8 47 "RummyTableModel" "oldStands" "[Z") (by decide +kernel)
  subst hsz
  have hD := hD0.self (sz := s.heap.size)
  generalize hAe : va_A [(m8, .inr (6, [.int st8, .ref wa, .ref pa8, .ref sta, .ref mo, .ref hea, .ref tha, .int ig, .int io, .int op8, .int pl8, .int py, .int wn, .int tu, .int la, .int ps, .ref hd8, .ref od8, .long tb, .ref cd8, .int dr, .ref opa, .ref osa])), (pa8, .inl (cI, 52, .inl pf8)), (sta, .inl (cZ, 52, .inl sf8)), (opa, .inl (cI, 52, .inl opf)), (osa, .inl (cZ, 52, .inl osf))] s.heap.size = A at hD ⊢
  have hA : ∀ q : Nat, s.heap.size ≤ q → A q := fun q h => by rw [← hAe]; exact Or.inr h
  have hS : va_S A s.heap s.heap [] := va_S.rf
  rw [show entryFrame m args 2 = entryFrame m ([.ref m8] : List Value).toArray 2 from by rw [hargs]]
  have hl := lv_entry ([.ref m8]) (n := 2) (Nat.le_of_ble_eq_true rfl)
  rw [lg_entry_eq]
  generalize (lg_sl ([.ref m8]) ++ List.replicate (2 - (lg_sl ([.ref m8])).length) Slot.unset).toArray = ls at hl ⊢
  have hl : lv_has ls 2 [(0, .ref m8)] := hl
  refine wQ (fun Q hQ => ?_)
  have lab2 : ∀ fuel2 : Nat, ∀ (i : Nat) (x1 : Int32) (u1 : Nat → Int32) (u2 : Nat → Int32), (h1 : x1 = nI i) → (hi : i ≤ 52) → (hq : ∀ k, k < i → u1 k = opf k ∧ u2 k = osf k) → (hfu2 : 52 - i < fuel2) → ∀ (H : Heap) (locs : List Loc), va_P D vwCl [(m8, .inr (6, [.int st8, .ref wa, .ref pa8, .ref sta, .ref mo, .ref hea, .ref tha, .int ig, .int io, .int op8, .int pl8, .int py, .int wn, .int tu, .int la, .int ps, .ref hd8, .ref od8, .long tb, .ref cd8, .int dr, .ref opa, .ref osa])), (pa8, .inl (cI, 52, .inl u1)), (sta, .inl (cZ, 52, .inl u2)), (opa, .inl (cI, 52, .inl opf)), (osa, .inl (cZ, 52, .inl osf))] H → va_D A [(m8, .inr (6, [.int st8, .ref wa, .ref pa8, .ref sta, .ref mo, .ref hea, .ref tha, .int ig, .int io, .int op8, .int pl8, .int py, .int wn, .int tu, .int la, .int ps, .ref hd8, .ref od8, .long tb, .ref cd8, .int dr, .ref opa, .ref osa])), (pa8, .inl (cI, 52, .inl u1)), (sta, .inl (cZ, 52, .inl u2)), (opa, .inl (cI, 52, .inl opf)), (osa, .inl (cZ, 52, .inl osf))] → va_S A s.heap H locs → ∀ ls : Array Slot, lv_has ls 2 [(0, .ref m8), (1, .int x1)] → W p l e (headSpec wsX8_recall ({ frames := 0, cells := 0, slots := 0, locals := 0 } : Room)).room s m args below meth c H locs 0 0 Q (F0 m 2 ls []) := by
    intro fuel2
    induction fuel2 with
    | zero =>
      intro i x1 u1 u2 h1 hi hq hfu2
      exact absurd hfu2 (Nat.not_lt_zero _)
    | succ fuel2 ih2 =>
      intro i x1 u1 u2 h1 hi hq hfu2 H locs hP hD hS ls hl
      refine lv_iload_n hx hb dX8_recall_2 rfl (lv_at hl 1 rfl) ?_
      refine lv_bipush (v := 52) hx hb dX8_recall_3 (by decide) ?_
      refine lv_icmp_ge (tgt := 38) hx hb dX8_recall_5 (by decide) (fun c_5 => ?_) (fun c_5 => ?_)
      · have hi52 := hp_ge h1 (by decide : (52 : Int32) = nI 52) hi (by decide) c_5
        subst hi52
        rw [← hQ]
        have hP9 := hP.sub (ws' := [(m8, .inr (6, [.int st8, .ref wa, .ref pa8, .ref sta, .ref mo, .ref hea, .ref tha, .int ig, .int io, .int op8, .int pl8, .int py, .int wn, .int tu, .int la, .int ps, .ref hd8, .ref od8, .long tb, .ref cd8, .int dr, .ref opa, .ref osa])), (pa8, .inl (cI, 52, .inl u1)), (sta, .inl (cZ, 52, .inl u2)), (opa, .inl (cI, 52, .inl opf)), (osa, .inl (cZ, 52, .inl osf))]) [0, 1, 2, 3, 4] rfl
        have hD9 := hD.sub (ws' := [(m8, .inr (6, [.int st8, .ref wa, .ref pa8, .ref sta, .ref mo, .ref hea, .ref tha, .int ig, .int io, .int op8, .int pl8, .int py, .int wn, .int tu, .int la, .int ps, .ref hd8, .ref od8, .long tb, .ref cd8, .int dr, .ref opa, .ref osa])), (pa8, .inl (cI, 52, .inl u1)), (sta, .inl (cZ, 52, .inl u2)), (opa, .inl (cI, 52, .inl opf)), (osa, .inl (cZ, 52, .inl osf))]) [0, 1, 2, 3, 4] (by decide) rfl
        exact W.vret hx hb hr (fun t ht hW => ⟨⟨(u1, u2), rfl, hq, (by show wB D A _ t; exact ⟨by rw [ht]; exact hP9, hD9⟩)⟩, hS.F ht⟩) hS.2.2 dX8_recall_38
      · have hlt := hp_lt h1 (by decide : (52 : Int32) = nI 52) hi (by decide) c_5
        refine lv_aload_n hx hb dX8_recall_8 rfl (lv_at hl 0 rfl) ?_
        refine va_get (D := D) (ci := 6) (v := .ref pa8) (C := RX8) (T := TX8) (N := 23) hx hb hts iX8 hown hK hP 0 rfl rfl 2 (by decide) k14 (fun _ h9 => h9) rfl dX8_recall_9 ?_
        refine lv_iload_n hx hb dX8_recall_12 rfl (lv_at hl 1 rfl) ?_
        refine lv_aload_n hx hb dX8_recall_13 rfl (lv_at hl 0 rfl) ?_
        refine va_get (D := D) (ci := 6) (v := .ref opa) (C := RX8) (T := TX8) (N := 23) hx hb hts iX8 hown hK hP 0 rfl rfl 21 (by decide) k44 (fun _ h9 => h9) rfl dX8_recall_14 ?_
        refine lv_iload_n hx hb dX8_recall_17 rfl (lv_at hl 1 rfl) ?_
        refine va_iald hx hb hK hP 3 0 rfl rfl (by rw [h1]; exact vp_in_nI hlt (by decide)) dX8_recall_18 ?_
        refine va_iast hx hb hK hP hD hS 1 0 rfl rfl (by rw [h1]; exact vp_in_nI hlt (by decide)) dX8_recall_19 (fun H locs hP hD hS => ?_)
        have hP : va_P D vwCl [(m8, .inr (6, [.int st8, .ref wa, .ref pa8, .ref sta, .ref mo, .ref hea, .ref tha, .int ig, .int io, .int op8, .int pl8, .int py, .int wn, .int tu, .int la, .int ps, .ref hd8, .ref od8, .long tb, .ref cd8, .int dr, .ref opa, .ref osa])), (pa8, .inl (cI, 52, .inl (upd u1 x1.toNatClampNeg (opf x1.toNatClampNeg)))), (sta, .inl (cZ, 52, .inl u2)), (opa, .inl (cI, 52, .inl opf)), (osa, .inl (cZ, 52, .inl osf))] H := hP
        have hD : va_D A [(m8, .inr (6, [.int st8, .ref wa, .ref pa8, .ref sta, .ref mo, .ref hea, .ref tha, .int ig, .int io, .int op8, .int pl8, .int py, .int wn, .int tu, .int la, .int ps, .ref hd8, .ref od8, .long tb, .ref cd8, .int dr, .ref opa, .ref osa])), (pa8, .inl (cI, 52, .inl (upd u1 x1.toNatClampNeg (opf x1.toNatClampNeg)))), (sta, .inl (cZ, 52, .inl u2)), (opa, .inl (cI, 52, .inl opf)), (osa, .inl (cZ, 52, .inl osf))] := hD
        generalize ex19 : upd u1 x1.toNatClampNeg (opf x1.toNatClampNeg) = x19 at hP hD
        refine lv_aload_n hx hb dX8_recall_20 rfl (lv_at hl 0 rfl) ?_
        refine va_get (D := D) (ci := 6) (v := .ref sta) (C := RX8) (T := TX8) (N := 23) hx hb hts iX8 hown hK hP 0 rfl rfl 3 (by decide) k18 (fun _ h9 => h9) rfl dX8_recall_21 ?_
        refine lv_iload_n hx hb dX8_recall_24 rfl (lv_at hl 1 rfl) ?_
        refine lv_aload_n hx hb dX8_recall_25 rfl (lv_at hl 0 rfl) ?_
        refine va_get (D := D) (ci := 6) (v := .ref osa) (C := RX8) (T := TX8) (N := 23) hx hb hts iX8 hown hK hP 0 rfl rfl 22 (by decide) k47 (fun _ h9 => h9) rfl dX8_recall_26 ?_
        refine lv_iload_n hx hb dX8_recall_29 rfl (lv_at hl 1 rfl) ?_
        refine va_zald hx hb hK hP 4 2 rfl rfl (by rw [h1]; exact vp_in_nI hlt (by decide)) dX8_recall_30 ?_
        refine va_zast hx hb hK hP hD hS 2 2 rfl rfl (by rw [h1]; exact vp_in_nI hlt (by decide)) dX8_recall_31 (fun H locs hP hD hS => ?_)
        have hP : va_P D vwCl [(m8, .inr (6, [.int st8, .ref wa, .ref pa8, .ref sta, .ref mo, .ref hea, .ref tha, .int ig, .int io, .int op8, .int pl8, .int py, .int wn, .int tu, .int la, .int ps, .ref hd8, .ref od8, .long tb, .ref cd8, .int dr, .ref opa, .ref osa])), (pa8, .inl (cI, 52, .inl x19)), (sta, .inl (cZ, 52, .inl (upd u2 x1.toNatClampNeg (vp_nar .boolean (osf x1.toNatClampNeg))))), (opa, .inl (cI, 52, .inl opf)), (osa, .inl (cZ, 52, .inl osf))] H := hP
        have hD : va_D A [(m8, .inr (6, [.int st8, .ref wa, .ref pa8, .ref sta, .ref mo, .ref hea, .ref tha, .int ig, .int io, .int op8, .int pl8, .int py, .int wn, .int tu, .int la, .int ps, .ref hd8, .ref od8, .long tb, .ref cd8, .int dr, .ref opa, .ref osa])), (pa8, .inl (cI, 52, .inl x19)), (sta, .inl (cZ, 52, .inl (upd u2 x1.toNatClampNeg (vp_nar .boolean (osf x1.toNatClampNeg))))), (opa, .inl (cI, 52, .inl opf)), (osa, .inl (cZ, 52, .inl osf))] := hD
        generalize ex31 : upd u2 x1.toNatClampNeg (vp_nar .boolean (osf x1.toNatClampNeg)) = x31 at hP hD
        obtain ⟨x32, ex32⟩ : ∃ y : Int32, y = x1 + 1 := ⟨_, rfl⟩
        refine lv_iinc (v := x32) (lv' := [(1, .int x32), (0, .ref m8)]) hx hb dX8_recall_32 hl (k := 1) rfl (by rw [ex32]; rfl) (by decide) rfl (fun ls hl => ?_)
        refine lv_goto (tgt := 2) hx hb dX8_recall_35 (by decide) ?_
        exact ih2 (i + 1) x32 x19 x31 (hp_s ex32 h1) (by omega) (hp_cpy h1 (by omega) ex19 ex31 (hz i hlt) hq) (by omega) _ _ hP hD hS ls (lv_sub hl [1, 0] rfl)
  refine lv_iconst (v := 0) hx hb dX8_recall_0 (by decide) ?_
  refine lv_istore_n (lv' := [(1, .int 0), (0, .ref m8)]) hx hb dX8_recall_1 rfl hl (by decide) rfl (fun ls hl => ?_)
  exact lab2 _ 0 0 pf8 sf8 (nI_0.symm) (by omega) (fun k h => absurd h (Nat.not_lt_zero k)) (Nat.lt_succ_self _) _ _ hP hD hS ls (lv_sub hl [1, 0] rfl)

set_option maxHeartbeats 4000000 in
set_option maxRecDepth 100000 in
theorem k_X8_laid (l : Launch) (D : va_G) (cI cJ cZ : ClassId) (sz : Nat) (m8 wa pa8 sta mo hea tha hd8 od8 cd8 opa osa : Nat) (tn : Nat) (st8 ig io op8 pl8 wn tu la ps dr : Int32) (tb : Int64) (hf8 : Nat → Int64) (of8 : Nat → Int32) (cards : Int64) (htn : tn < 4) : Met l yX8_laid wsX8_laid ({ frames := 0, cells := 0, slots := 0, locals := 0 } : Room) (va_Pc [.ref m8, .long cards] (wM D cI cJ cZ sz [(m8, .inr (6, [.int st8, .ref wa, .ref pa8, .ref sta, .ref mo, .ref hea, .ref tha, .int ig, .int io, .int op8, .int pl8, .int (nI tn), .int wn, .int tu, .int la, .int ps, .ref hd8, .ref od8, .long tb, .ref cd8, .int dr, .ref opa, .ref osa])), (hd8, .inl (cJ, 4, .inr (.inl hf8))), (od8, .inl (cZ, 4, .inl of8))])) (va_Qv (fun (u : (Int64) × (Int32) × (Int32) × (Int32) × (Nat → Int64) × (Nat → Int32)) => match u with | (tb2, la2, io2, wn2, hf2, of2) => (True) ∧ tb2 = (tb ||| cards) ∧ la2 = (la + 1) ∧ io2 = (if hf8 tn &&& (cards ^^^ (-1)) = 0 then 1 else io) ∧ wn2 = (if hf8 tn &&& (cards ^^^ (-1)) = 0 then nI tn else wn) ∧ hf2 = (vp_updL hf8 tn (hf8 tn &&& (cards ^^^ (-1)))) ∧ of2 = (upd of8 tn 1)) (fun (u : (Int64) × (Int32) × (Int32) × (Int32) × (Nat → Int64) × (Nat → Int32)) t => match u with | (tb2, la2, io2, wn2, hf2, of2) => wB D (va_A [(m8, .inr (6, [.int st8, .ref wa, .ref pa8, .ref sta, .ref mo, .ref hea, .ref tha, .int ig, .int io, .int op8, .int pl8, .int (nI tn), .int wn, .int tu, .int la, .int ps, .ref hd8, .ref od8, .long tb, .ref cd8, .int dr, .ref opa, .ref osa])), (hd8, .inl (cJ, 4, .inr (.inl hf8))), (od8, .inl (cZ, 4, .inl of8))] sz) [(m8, .inr (6, [.int st8, .ref wa, .ref pa8, .ref sta, .ref mo, .ref hea, .ref tha, .int ig, .int io2, .int op8, .int pl8, .int (nI tn), .int wn2, .int tu, .int la2, .int ps, .ref hd8, .ref od8, .long tb2, .ref cd8, .int dr, .ref opa, .ref osa])), (hd8, .inl (cJ, 4, .inr (.inl hf2))), (od8, .inl (cZ, 4, .inl of2))] t) (va_A [(m8, .inr (6, [.int st8, .ref wa, .ref pa8, .ref sta, .ref mo, .ref hea, .ref tha, .int ig, .int io, .int op8, .int pl8, .int (nI tn), .int wn, .int tu, .int la, .int ps, .ref hd8, .ref od8, .long tb, .ref cd8, .int dr, .ref opa, .ref osa])), (hd8, .inl (cJ, 4, .inr (.inl hf8))), (od8, .inl (cZ, 4, .inl of8))] sz)) 0 0 (va_A [(m8, .inr (6, [.int st8, .ref wa, .ref pa8, .ref sta, .ref mo, .ref hea, .ref tha, .int ig, .int io, .int op8, .int pl8, .int (nI tn), .int wn, .int tu, .int la, .int ps, .ref hd8, .ref od8, .long tb, .ref cd8, .int dr, .ref opa, .ref osa])), (hd8, .inl (cJ, 4, .inr (.inl hf8))), (od8, .inl (cZ, 4, .inl of8))] sz) := by
  refine Met.ofW (cc := cX8_laid) (maxL := 3) (ret := none) (by decide) rfl ?_
  intro p e s m args below meth c s₁ B hml hv
  obtain ⟨hargs, hsz, hP, ⟨hK, hN⟩, hD0⟩ := hv
  have hx := B.exec
  have hb := B.bytes
  have hr := B.returns
  have hlocks := B.notSynchronized
  have hts := atoms_spec (ws := wsX8_laid) B.pre
  have hown : s.vm.findClass RX8 = some m.cls := findClass_of_methodNamed B.named
  have k180 := hts (.fieldLink RX8 180 "RummyTableModel" "table" "J") (by decide +kernel)
  have iX8 : ∀ w ∈ wsX80, w ∈ wsX8_laid := by decide +kernel
  have k35 := hts (.fieldLink RX8 35 "RummyTableModel" "hands" "[J") (by decide +kernel)
  have k165 := hts (.fieldLink RX8 165 "RummyTableModel" "plays" "I") (by decide +kernel)
  have k137 := hts (.constantLong RX8 137 (-1)) (by decide +kernel)
  have k38 := hts (.fieldLink RX8 38 "RummyTableModel" "opened" "[Z") (by decide +kernel)
  have k174 := hts (.fieldLink RX8 174 "RummyTableModel" "layings" "I") (by decide +kernel)
  have k162 := hts (.fieldLink RX8 162 "RummyTableModel" "isOver" "Z") (by decide +kernel)
  have k168 := hts (.fieldLink RX8 168 "RummyTableModel" "won" "I") (by decide +kernel)
  subst hsz
  have hD := hD0.self (sz := s.heap.size)
  generalize hAe : va_A [(m8, .inr (6, [.int st8, .ref wa, .ref pa8, .ref sta, .ref mo, .ref hea, .ref tha, .int ig, .int io, .int op8, .int pl8, .int (nI tn), .int wn, .int tu, .int la, .int ps, .ref hd8, .ref od8, .long tb, .ref cd8, .int dr, .ref opa, .ref osa])), (hd8, .inl (cJ, 4, .inr (.inl hf8))), (od8, .inl (cZ, 4, .inl of8))] s.heap.size = A at hD ⊢
  have hA : ∀ q : Nat, s.heap.size ≤ q → A q := fun q h => by rw [← hAe]; exact Or.inr h
  have hS : va_S A s.heap s.heap [] := va_S.rf
  rw [show entryFrame m args 3 = entryFrame m ([.ref m8, .long cards] : List Value).toArray 3 from by rw [hargs]]
  have hl := lv_entry ([.ref m8, .long cards]) (n := 3) (Nat.le_of_ble_eq_true rfl)
  rw [lg_entry_eq]
  generalize (lg_sl ([.ref m8, .long cards]) ++ List.replicate (3 - (lg_sl ([.ref m8, .long cards])).length) Slot.unset).toArray = ls at hl ⊢
  have hl : lv_has ls 3 [(0, .ref m8), (1, .long cards)] := hl
  refine wQ (fun Q hQ => ?_)
  have hin4 : vp_in (nI tn) 4 := vp_in_nI (by omega) (by decide)
  have hcl : (nI tn).toNatClampNeg = tn := nI_clamp (by omega)
  refine lv_aload_n hx hb dX8_laid_0 rfl (lv_at hl 0 rfl) ?_
  refine lv_dup hx hb dX8_laid_1 rfl ?_
  refine va_get (D := D) (ci := 6) (v := .long tb) (C := RX8) (T := TX8) (N := 23) hx hb hts iX8 hown hK hP 0 rfl rfl 18 (by decide) k180 (fun _ h9 => h9) rfl dX8_laid_2 ?_
  refine lv_lload_n hx hb dX8_laid_5 rfl (lv_at hl 1 rfl) ?_
  refine lv_lor hx hb dX8_laid_6 ?_
  refine va_put (D := D) (ci := 6) (v := .long (tb ||| cards)) (ty := .long) (C := RX8) (T := TX8) (N := 23) hx hb hts iX8 tyX8 tyX8_ok nmX8 hown hK hP hD hS 0 rfl rfl 18 (by decide) k180 (fun _ h9 => h9) rfl (by decide +kernel) rfl rfl (Nat.le_of_ble_eq_true rfl) dX8_laid_7 (fun H locs hP hD hS => ?_)
  have hP : va_P D vwCl [(m8, .inr (6, [.int st8, .ref wa, .ref pa8, .ref sta, .ref mo, .ref hea, .ref tha, .int ig, .int io, .int op8, .int pl8, .int (nI tn), .int wn, .int tu, .int la, .int ps, .ref hd8, .ref od8, .long (tb ||| cards), .ref cd8, .int dr, .ref opa, .ref osa])), (hd8, .inl (cJ, 4, .inr (.inl hf8))), (od8, .inl (cZ, 4, .inl of8))] H := hP
  have hD : va_D A [(m8, .inr (6, [.int st8, .ref wa, .ref pa8, .ref sta, .ref mo, .ref hea, .ref tha, .int ig, .int io, .int op8, .int pl8, .int (nI tn), .int wn, .int tu, .int la, .int ps, .ref hd8, .ref od8, .long (tb ||| cards), .ref cd8, .int dr, .ref opa, .ref osa])), (hd8, .inl (cJ, 4, .inr (.inl hf8))), (od8, .inl (cZ, 4, .inl of8))] := hD
  refine lv_aload_n hx hb dX8_laid_10 rfl (lv_at hl 0 rfl) ?_
  refine va_get (D := D) (ci := 6) (v := .ref hd8) (C := RX8) (T := TX8) (N := 23) hx hb hts iX8 hown hK hP 0 rfl rfl 16 (by decide) k35 (fun _ h9 => h9) rfl dX8_laid_11 ?_
  refine lv_aload_n hx hb dX8_laid_14 rfl (lv_at hl 0 rfl) ?_
  refine va_get (D := D) (ci := 6) (v := .int (nI tn)) (C := RX8) (T := TX8) (N := 23) hx hb hts iX8 hown hK hP 0 rfl rfl 11 (by decide) k165 (fun _ h9 => h9) rfl dX8_laid_15 ?_
  refine lv_dup2_11 hx hb dX8_laid_18 rfl rfl ?_
  refine va_lald hx hb hK hP 1 1 rfl rfl (hin4) dX8_laid_19 ?_
  refine lv_lload_n hx hb dX8_laid_20 rfl (lv_at hl 1 rfl) ?_
  refine lv_ldc2 hx hb hown k137 dX8_laid_21 ?_
  refine lv_lxor hx hb dX8_laid_24 ?_
  refine lv_land hx hb dX8_laid_25 ?_
  refine va_last hx hb hK hP hD hS 1 1 rfl rfl (hin4) dX8_laid_26 (fun H locs hP hD hS => ?_)
  have hP : va_P D vwCl [(m8, .inr (6, [.int st8, .ref wa, .ref pa8, .ref sta, .ref mo, .ref hea, .ref tha, .int ig, .int io, .int op8, .int pl8, .int (nI tn), .int wn, .int tu, .int la, .int ps, .ref hd8, .ref od8, .long (tb ||| cards), .ref cd8, .int dr, .ref opa, .ref osa])), (hd8, .inl (cJ, 4, .inr (.inl (vp_updL hf8 (nI tn).toNatClampNeg ((hf8 (nI tn).toNatClampNeg) &&& (cards ^^^ (-1))))))), (od8, .inl (cZ, 4, .inl of8))] H := hP
  have hD : va_D A [(m8, .inr (6, [.int st8, .ref wa, .ref pa8, .ref sta, .ref mo, .ref hea, .ref tha, .int ig, .int io, .int op8, .int pl8, .int (nI tn), .int wn, .int tu, .int la, .int ps, .ref hd8, .ref od8, .long (tb ||| cards), .ref cd8, .int dr, .ref opa, .ref osa])), (hd8, .inl (cJ, 4, .inr (.inl (vp_updL hf8 (nI tn).toNatClampNeg ((hf8 (nI tn).toNatClampNeg) &&& (cards ^^^ (-1))))))), (od8, .inl (cZ, 4, .inl of8))] := hD
  generalize ex26 : vp_updL hf8 (nI tn).toNatClampNeg ((hf8 (nI tn).toNatClampNeg) &&& (cards ^^^ (-1))) = x26 at hP hD
  refine lv_aload_n hx hb dX8_laid_27 rfl (lv_at hl 0 rfl) ?_
  refine va_get (D := D) (ci := 6) (v := .ref od8) (C := RX8) (T := TX8) (N := 23) hx hb hts iX8 hown hK hP 0 rfl rfl 17 (by decide) k38 (fun _ h9 => h9) rfl dX8_laid_28 ?_
  refine lv_aload_n hx hb dX8_laid_31 rfl (lv_at hl 0 rfl) ?_
  refine va_get (D := D) (ci := 6) (v := .int (nI tn)) (C := RX8) (T := TX8) (N := 23) hx hb hts iX8 hown hK hP 0 rfl rfl 11 (by decide) k165 (fun _ h9 => h9) rfl dX8_laid_32 ?_
  refine lv_iconst (v := 1) hx hb dX8_laid_35 (by decide) ?_
  refine va_zast hx hb hK hP hD hS 2 2 rfl rfl (hin4) dX8_laid_36 (fun H locs hP hD hS => ?_)
  have hP : va_P D vwCl [(m8, .inr (6, [.int st8, .ref wa, .ref pa8, .ref sta, .ref mo, .ref hea, .ref tha, .int ig, .int io, .int op8, .int pl8, .int (nI tn), .int wn, .int tu, .int la, .int ps, .ref hd8, .ref od8, .long (tb ||| cards), .ref cd8, .int dr, .ref opa, .ref osa])), (hd8, .inl (cJ, 4, .inr (.inl x26))), (od8, .inl (cZ, 4, .inl (upd of8 (nI tn).toNatClampNeg (vp_nar .boolean 1))))] H := hP
  have hD : va_D A [(m8, .inr (6, [.int st8, .ref wa, .ref pa8, .ref sta, .ref mo, .ref hea, .ref tha, .int ig, .int io, .int op8, .int pl8, .int (nI tn), .int wn, .int tu, .int la, .int ps, .ref hd8, .ref od8, .long (tb ||| cards), .ref cd8, .int dr, .ref opa, .ref osa])), (hd8, .inl (cJ, 4, .inr (.inl x26))), (od8, .inl (cZ, 4, .inl (upd of8 (nI tn).toNatClampNeg (vp_nar .boolean 1))))] := hD
  generalize ex36 : upd of8 (nI tn).toNatClampNeg (vp_nar .boolean 1) = x36 at hP hD
  refine lv_aload_n hx hb dX8_laid_37 rfl (lv_at hl 0 rfl) ?_
  refine lv_dup hx hb dX8_laid_38 rfl ?_
  refine va_get (D := D) (ci := 6) (v := .int la) (C := RX8) (T := TX8) (N := 23) hx hb hts iX8 hown hK hP 0 rfl rfl 14 (by decide) k174 (fun _ h9 => h9) rfl dX8_laid_39 ?_
  refine lv_iconst (v := 1) hx hb dX8_laid_42 (by decide) ?_
  refine lv_iadd hx hb dX8_laid_43 ?_
  refine va_put (D := D) (ci := 6) (v := .int (la + 1)) (ty := .int) (C := RX8) (T := TX8) (N := 23) hx hb hts iX8 tyX8 tyX8_ok nmX8 hown hK hP hD hS 0 rfl rfl 14 (by decide) k174 (fun _ h9 => h9) rfl (by decide +kernel) rfl rfl (Nat.le_of_ble_eq_true rfl) dX8_laid_44 (fun H locs hP hD hS => ?_)
  have hP : va_P D vwCl [(m8, .inr (6, [.int st8, .ref wa, .ref pa8, .ref sta, .ref mo, .ref hea, .ref tha, .int ig, .int io, .int op8, .int pl8, .int (nI tn), .int wn, .int tu, .int (la + 1), .int ps, .ref hd8, .ref od8, .long (tb ||| cards), .ref cd8, .int dr, .ref opa, .ref osa])), (hd8, .inl (cJ, 4, .inr (.inl x26))), (od8, .inl (cZ, 4, .inl x36))] H := hP
  have hD : va_D A [(m8, .inr (6, [.int st8, .ref wa, .ref pa8, .ref sta, .ref mo, .ref hea, .ref tha, .int ig, .int io, .int op8, .int pl8, .int (nI tn), .int wn, .int tu, .int (la + 1), .int ps, .ref hd8, .ref od8, .long (tb ||| cards), .ref cd8, .int dr, .ref opa, .ref osa])), (hd8, .inl (cJ, 4, .inr (.inl x26))), (od8, .inl (cZ, 4, .inl x36))] := hD
  refine lv_aload_n hx hb dX8_laid_47 rfl (lv_at hl 0 rfl) ?_
  refine va_get (D := D) (ci := 6) (v := .ref hd8) (C := RX8) (T := TX8) (N := 23) hx hb hts iX8 hown hK hP 0 rfl rfl 16 (by decide) k35 (fun _ h9 => h9) rfl dX8_laid_48 ?_
  refine lv_aload_n hx hb dX8_laid_51 rfl (lv_at hl 0 rfl) ?_
  refine va_get (D := D) (ci := 6) (v := .int (nI tn)) (C := RX8) (T := TX8) (N := 23) hx hb hts iX8 hown hK hP 0 rfl rfl 11 (by decide) k165 (fun _ h9 => h9) rfl dX8_laid_52 ?_
  refine va_lald hx hb hK hP 1 1 rfl rfl (hin4) dX8_laid_55 ?_
  refine lv_lconst (v := 0) hx hb dX8_laid_56 (by decide) ?_
  refine W.lcmp hx hb dX8_laid_57 ?_
  refine lv_if_eq (tgt := 62) hx hb dX8_laid_58 (by decide) (fun c_58 => ?_) (fun c_58 => ?_)
  · refine lv_aload_n hx hb dX8_laid_62 rfl (lv_at hl 0 rfl) ?_
    refine lv_iconst (v := 1) hx hb dX8_laid_63 (by decide) ?_
    refine va_put (D := D) (ci := 6) (v := .int 1) (ty := .boolean) (C := RX8) (T := TX8) (N := 23) hx hb hts iX8 tyX8 tyX8_ok nmX8 hown hK hP hD hS 0 rfl rfl 8 (by decide) k162 (fun _ h9 => h9) rfl (by decide +kernel) rfl rfl (Nat.le_of_ble_eq_true rfl) dX8_laid_64 (fun H locs hP hD hS => ?_)
    have hP : va_P D vwCl [(m8, .inr (6, [.int st8, .ref wa, .ref pa8, .ref sta, .ref mo, .ref hea, .ref tha, .int ig, .int 1, .int op8, .int pl8, .int (nI tn), .int wn, .int tu, .int (la + 1), .int ps, .ref hd8, .ref od8, .long (tb ||| cards), .ref cd8, .int dr, .ref opa, .ref osa])), (hd8, .inl (cJ, 4, .inr (.inl x26))), (od8, .inl (cZ, 4, .inl x36))] H := hP
    have hD : va_D A [(m8, .inr (6, [.int st8, .ref wa, .ref pa8, .ref sta, .ref mo, .ref hea, .ref tha, .int ig, .int 1, .int op8, .int pl8, .int (nI tn), .int wn, .int tu, .int (la + 1), .int ps, .ref hd8, .ref od8, .long (tb ||| cards), .ref cd8, .int dr, .ref opa, .ref osa])), (hd8, .inl (cJ, 4, .inr (.inl x26))), (od8, .inl (cZ, 4, .inl x36))] := hD
    refine lv_aload_n hx hb dX8_laid_67 rfl (lv_at hl 0 rfl) ?_
    refine lv_aload_n hx hb dX8_laid_68 rfl (lv_at hl 0 rfl) ?_
    refine va_get (D := D) (ci := 6) (v := .int (nI tn)) (C := RX8) (T := TX8) (N := 23) hx hb hts iX8 hown hK hP 0 rfl rfl 11 (by decide) k165 (fun _ h9 => h9) rfl dX8_laid_69 ?_
    refine va_put (D := D) (ci := 6) (v := .int (nI tn)) (ty := .int) (C := RX8) (T := TX8) (N := 23) hx hb hts iX8 tyX8 tyX8_ok nmX8 hown hK hP hD hS 0 rfl rfl 12 (by decide) k168 (fun _ h9 => h9) rfl (by decide +kernel) rfl rfl (Nat.le_of_ble_eq_true rfl) dX8_laid_72 (fun H locs hP hD hS => ?_)
    have hP : va_P D vwCl [(m8, .inr (6, [.int st8, .ref wa, .ref pa8, .ref sta, .ref mo, .ref hea, .ref tha, .int ig, .int 1, .int op8, .int pl8, .int (nI tn), .int (nI tn), .int tu, .int (la + 1), .int ps, .ref hd8, .ref od8, .long (tb ||| cards), .ref cd8, .int dr, .ref opa, .ref osa])), (hd8, .inl (cJ, 4, .inr (.inl x26))), (od8, .inl (cZ, 4, .inl x36))] H := hP
    have hD : va_D A [(m8, .inr (6, [.int st8, .ref wa, .ref pa8, .ref sta, .ref mo, .ref hea, .ref tha, .int ig, .int 1, .int op8, .int pl8, .int (nI tn), .int (nI tn), .int tu, .int (la + 1), .int ps, .ref hd8, .ref od8, .long (tb ||| cards), .ref cd8, .int dr, .ref opa, .ref osa])), (hd8, .inl (cJ, 4, .inr (.inl x26))), (od8, .inl (cZ, 4, .inl x36))] := hD
    rw [← hQ]
    have hP9 := hP.sub (ws' := [(m8, .inr (6, [.int st8, .ref wa, .ref pa8, .ref sta, .ref mo, .ref hea, .ref tha, .int ig, .int 1, .int op8, .int pl8, .int (nI tn), .int (nI tn), .int tu, .int (la + 1), .int ps, .ref hd8, .ref od8, .long (tb ||| cards), .ref cd8, .int dr, .ref opa, .ref osa])), (hd8, .inl (cJ, 4, .inr (.inl x26))), (od8, .inl (cZ, 4, .inl x36))]) [0, 1, 2] rfl
    have hD9 := hD.sub (ws' := [(m8, .inr (6, [.int st8, .ref wa, .ref pa8, .ref sta, .ref mo, .ref hea, .ref tha, .int ig, .int 1, .int op8, .int pl8, .int (nI tn), .int (nI tn), .int tu, .int (la + 1), .int ps, .ref hd8, .ref od8, .long (tb ||| cards), .ref cd8, .int dr, .ref opa, .ref osa])), (hd8, .inl (cJ, 4, .inr (.inl x26))), (od8, .inl (cZ, 4, .inl x36))]) [0, 1, 2] (by decide) rfl
    exact W.vret hx hb hr (fun t ht hW => ⟨⟨(tb ||| cards, la + 1, 1, nI tn, x26, x36), rfl, ⟨trivial, rfl, rfl, (by first | rw [if_neg (fun q => c_58 (hp_cz (by rw [← ex26, hcl, pk_uLs]; exact q)))] | rw [if_pos (hp_cz2 c_58 (by rw [← ex26, hcl, pk_uLs]))]), (by first | rw [if_neg (fun q => c_58 (hp_cz (by rw [← ex26, hcl, pk_uLs]; exact q)))] | rw [if_pos (hp_cz2 c_58 (by rw [← ex26, hcl, pk_uLs]))]), (by rw [← ex26, hcl]), (by rw [← ex36, hcl]; rfl)⟩, (by show wB D A _ t; exact ⟨by rw [ht]; exact hP9, hD9⟩)⟩, hS.F ht⟩) hS.2.2 dX8_laid_75
  · rw [← hQ]
    have hP9 := hP.sub (ws' := [(m8, .inr (6, [.int st8, .ref wa, .ref pa8, .ref sta, .ref mo, .ref hea, .ref tha, .int ig, .int io, .int op8, .int pl8, .int (nI tn), .int wn, .int tu, .int (la + 1), .int ps, .ref hd8, .ref od8, .long (tb ||| cards), .ref cd8, .int dr, .ref opa, .ref osa])), (hd8, .inl (cJ, 4, .inr (.inl x26))), (od8, .inl (cZ, 4, .inl x36))]) [0, 1, 2] rfl
    have hD9 := hD.sub (ws' := [(m8, .inr (6, [.int st8, .ref wa, .ref pa8, .ref sta, .ref mo, .ref hea, .ref tha, .int ig, .int io, .int op8, .int pl8, .int (nI tn), .int wn, .int tu, .int (la + 1), .int ps, .ref hd8, .ref od8, .long (tb ||| cards), .ref cd8, .int dr, .ref opa, .ref osa])), (hd8, .inl (cJ, 4, .inr (.inl x26))), (od8, .inl (cZ, 4, .inl x36))]) [0, 1, 2] (by decide) rfl
    exact W.vret hx hb hr (fun t ht hW => ⟨⟨(tb ||| cards, la + 1, io, wn, x26, x36), rfl, ⟨trivial, rfl, rfl, (by first | rw [if_neg (fun q => c_58 (hp_cz (by rw [← ex26, hcl, pk_uLs]; exact q)))] | rw [if_pos (hp_cz2 c_58 (by rw [← ex26, hcl, pk_uLs]))]), (by first | rw [if_neg (fun q => c_58 (hp_cz (by rw [← ex26, hcl, pk_uLs]; exact q)))] | rw [if_pos (hp_cz2 c_58 (by rw [← ex26, hcl, pk_uLs]))]), (by rw [← ex26, hcl]), (by rw [← ex36, hcl]; rfl)⟩, (by show wB D A _ t; exact ⟨by rw [ht]; exact hP9, hD9⟩)⟩, hS.F ht⟩) hS.2.2 dX8_laid_61
