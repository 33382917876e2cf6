theorem j_bit {c : Nat} (h : c < 54) : j_X1_bitOf (nI c) = 1 <<< ((nI c).toInt64 &&& 63) := by
  unfold j_X1_bitOf
  rw [if_neg (nI_pos (by omega)), if_neg (show ¬ (54 : Int32) ≤ nI c from nI_ge (b := 54) h (by decide))]
def eN_hf (la : Int32) (tp tn : Nat) (hf : Nat → Int64) (cf : Nat → Int32) : Nat → Int64 := if la = 0 then (if tp < 54 then vp_updL hf tn (hf tn ||| (1 <<< ((cf tp).toInt64 &&& 63))) else hf) else hf
theorem hp_plays {tn np : Nat} (h4 : np ≤ 4) (h : tn < np) : (nI tn + 1) - (nI tn + 1) / nI np * nI np = nI ((tn + 1) % np) := by
  rw [nI_1]; exact pk_rem (by omega) (by omega) (by omega)
theorem bgT_nn {nq mn : Nat} : bgT nq mn nq = nq * mn := by
  unfold bgT
  rw [if_neg (Nat.lt_irrefl _)]
theorem hp_le0 {x : Int32} {n : Nat} (hx : x = nI (53 - n)) (hn : n ≤ 53) (h : x ≤ 0) : n = 53 := by
  rw [hx, show (0 : Int32) = nI 0 from rfl, nI_leI (by omega) (by decide)] at h; omega
theorem hp_nle0 {x : Int32} {n : Nat} (hx : x = nI (53 - n)) (hn : n ≤ 53) (h : ¬ x ≤ 0) : n < 53 := by
  rw [hx, show (0 : Int32) = nI 0 from rfl, nI_leI (by omega) (by decide)] at h; omega
theorem hp_hd8 {hq h2 : Nat → Int64} {pf : Nat → Int32} {sd np mn p i : Nat} {x : Int32} (hx : x = nI p) (hp : p < np) (hn : np ≤ 4) (hm : mn ≤ 13) (hi : i < mn) (hpf : ∀ k, k < 54 → pf k = nI ((shN sd 53).2 k)) (e : vp_updL hq x.toNatClampNeg (hq x.toNatClampNeg ||| (1 <<< ((pf (nI (bgT np mn p + i)).toNatClampNeg).toInt64 &&& 63))) = h2) (h : hq p = hdL (shN sd 53).2 (p * mn) i) : h2 p = hdL (shN sd 53).2 (p * mn) (i + 1) := by
  have hl := bgT_lt hn hm hp hi
  rw [nI_clamp (show bgT np mn p + i < 2 ^ 31 by omega)] at e
  refine hp_hd hx hp hn hm hi rfl hpf ?_ h
  rw [hpf _ (by omega)] at e ⊢
  rw [j_bit (shN_card 53 (by decide) _ (by omega))]
  exact e
set_option maxHeartbeats 4000000 in
set_option maxRecDepth 100000 in
theorem k_X8_ends (l : Launch) (D : va_G) (cI cJ cZ : ClassId) (sz : Nat) (m8 wa pa8 sta mo hea tha hd8 od8 cd8 opa osa : Nat) (np tp tn : Nat) (st8 ig io op8 wn tu la ps : Int32) (tb : Int64) (hf8 : Nat → Int64) (cf8 : Nat → Int32) (hn4 : np ≤ 4) (htn : tn < np) (htp : tp ≤ 54) : Met l yX8_ends wsX8_ends ({ frames := 0, cells := 0, slots := 0, locals := 0 } : Room) (va_Pc [.ref m8] (wM D cI cJ cZ sz [(m8, .inr (6, [.int st8, .ref wa, .ref pa8, .ref sta, .ref mo, .ref hea, .ref tha, .int ig, .int io, .int op8, .int (nI np), .int (nI tn), .int wn, .int tu, .int la, .int ps, .ref hd8, .ref od8, .long tb, .ref cd8, .int (nI tp), .ref opa, .ref osa])), (hd8, .inl (cJ, 4, .inr (.inl hf8))), (cd8, .inl (cI, 54, .inl cf8))])) (va_Qi (fun (r : Int32) (u : (Int32) × (Int32) × (Int32) × (Int32) × (Int32) × (Nat → Int64)) => match u with | (dr2, py2, tu2, ps2, io2, hf2) => (r = eT_card la tp cf8) ∧ dr2 = (nI (eT_top la tp)) ∧ py2 = (nI ((tn + 1) % np)) ∧ tu2 = (tu + 1) ∧ ps2 = (eT_idle la ps (eT_card la tp cf8)) ∧ io2 = (if eT_idle la ps (eT_card la tp cf8) = nI np then 1 else 0) ∧ hf2 = (eN_hf la tp tn hf8 cf8)) (fun (u : (Int32) × (Int32) × (Int32) × (Int32) × (Int32) × (Nat → Int64)) t => match u with | (dr2, py2, tu2, ps2, io2, hf2) => wB D (va_A [(m8, .inr (6, [.int st8, .ref wa, .ref pa8, .ref sta, .ref mo, .ref hea, .ref tha, .int ig, .int io, .int op8, .int (nI np), .int (nI tn), .int wn, .int tu, .int la, .int ps, .ref hd8, .ref od8, .long tb, .ref cd8, .int (nI tp), .ref opa, .ref osa])), (hd8, .inl (cJ, 4, .inr (.inl hf8))), (cd8, .inl (cI, 54, .inl cf8))] sz) [(m8, .inr (6, [.int st8, .ref wa, .ref pa8, .ref sta, .ref mo, .ref hea, .ref tha, .int ig, .int io2, .int op8, .int (nI np), .int py2, .int wn, .int tu2, .int 0, .int ps2, .ref hd8, .ref od8, .long tb, .ref cd8, .int dr2, .ref opa, .ref osa])), (hd8, .inl (cJ, 4, .inr (.inl hf2))), (cd8, .inl (cI, 54, .inl cf8))] t) (va_A [(m8, .inr (6, [.int st8, .ref wa, .ref pa8, .ref sta, .ref mo, .ref hea, .ref tha, .int ig, .int io, .int op8, .int (nI np), .int (nI tn), .int wn, .int tu, .int la, .int ps, .ref hd8, .ref od8, .long tb, .ref cd8, .int (nI tp), .ref opa, .ref osa])), (hd8, .inl (cJ, 4, .inr (.inl hf8))), (cd8, .inl (cI, 54, .inl cf8))] sz)) 0 0 (va_A [(m8, .inr (6, [.int st8, .ref wa, .ref pa8, .ref sta, .ref mo, .ref hea, .ref tha, .int ig, .int io, .int op8, .int (nI np), .int (nI tn), .int wn, .int tu, .int la, .int ps, .ref hd8, .ref od8, .long tb, .ref cd8, .int (nI tp), .ref opa, .ref osa])), (hd8, .inl (cJ, 4, .inr (.inl hf8))), (cd8, .inl (cI, 54, .inl cf8))] sz) := by
  refine Met.ofW (cc := cX8_ends) (maxL := 2) (ret := (some .int)) (by decide) rfl ?_
  intro p e s m args below meth c s₁ B hml hv
  obtain ⟨hargs, hsz, hP, ⟨hK, hN⟩, hD0⟩ := hv
  have hx := B.exec
  have hb := B.bytes
  have hr := B.returns
  have hlocks := B.notSynchronized
  have hts := atoms_spec (ws := wsX8_ends) B.pre
  have hown : s.vm.findClass RX8 = some m.cls := findClass_of_methodNamed B.named
  have k174 := hts (.fieldLink RX8 174 "RummyTableModel" "layings" "I") (by decide +kernel)
  have iX8 : ∀ w ∈ wsX80, w ∈ wsX8_ends := by decide +kernel
  have k171 := hts (.fieldLink RX8 171 "RummyTableModel" "turns" "I") (by decide +kernel)
  have k165 := hts (.fieldLink RX8 165 "RummyTableModel" "plays" "I") (by decide +kernel)
  have k155 := hts (.fieldLink RX8 155 "RummyTableModel" "players" "I") (by decide +kernel)
  have k177 := hts (.fieldLink RX8 177 "RummyTableModel" "passed" "I") (by decide +kernel)
  have k162 := hts (.fieldLink RX8 162 "RummyTableModel" "isOver" "Z") (by decide +kernel)
  have k152 := hts (.fieldLink RX8 152 "RummyTableModel" "drawn" "I") (by decide +kernel)
  have k41 := hts (.fieldLink RX8 41 "RummyTableModel" "cards" "[I") (by decide +kernel)
  have k35 := hts (.fieldLink RX8 35 "RummyTableModel" "hands" "[J") (by decide +kernel)
  subst hsz
  have hD := hD0.self (sz := s.heap.size)
  generalize hAe : va_A [(m8, .inr (6, [.int st8, .ref wa, .ref pa8, .ref sta, .ref mo, .ref hea, .ref tha, .int ig, .int io, .int op8, .int (nI np), .int (nI tn), .int wn, .int tu, .int la, .int ps, .ref hd8, .ref od8, .long tb, .ref cd8, .int (nI tp), .ref opa, .ref osa])), (hd8, .inl (cJ, 4, .inr (.inl hf8))), (cd8, .inl (cI, 54, .inl cf8))] s.heap.size = A at hD ⊢
  have hA : ∀ q : Nat, s.heap.size ≤ q → A q := fun q h => by rw [← hAe]; exact Or.inr h
  have hS : va_S A s.heap s.heap [] := va_S.rf
  rw [show entryFrame m args 2 = entryFrame m ([.ref m8] : List Value).toArray 2 from by rw [hargs]]
  have hl := lv_entry ([.ref m8]) (n := 2) (Nat.le_of_ble_eq_true rfl)
  rw [lg_entry_eq]
  generalize (lg_sl ([.ref m8]) ++ List.replicate (2 - (lg_sl ([.ref m8])).length) Slot.unset).toArray = ls at hl ⊢
  have hl : lv_has ls 2 [(0, .ref m8)] := hl
  refine wQ (fun Q hQ => ?_)
  have hin4 : vp_in (nI tn) 4 := vp_in_nI (by omega) (by decide)
  have hcl : (nI tn).toNatClampNeg = tn := nI_clamp (by omega)
  have hct : (nI tp).toNatClampNeg = tp := nI_clamp (by omega)
  have lab101 : ∀  (cd : Int32) (tq : Int32) (hq : Nat → Int64) (id2 : Int32) (ov2 : Int32), (hcd : cd = eT_card la tp cf8) → (htq : tq = nI (eT_top la tp)) → (hhq : hq = eN_hf la tp tn hf8 cf8) → (hid : id2 = eT_idle la ps cd) → (hov : ov2 = if id2 = nI np then 1 else 0) → ∀ (H : Heap) (locs : List Loc), va_P D vwCl [(m8, .inr (6, [.int st8, .ref wa, .ref pa8, .ref sta, .ref mo, .ref hea, .ref tha, .int ig, .int ov2, .int op8, .int (nI np), .int (nI tn), .int wn, .int tu, .int la, .int id2, .ref hd8, .ref od8, .long tb, .ref cd8, .int tq, .ref opa, .ref osa])), (hd8, .inl (cJ, 4, .inr (.inl hq))), (cd8, .inl (cI, 54, .inl cf8))] H → va_D A [(m8, .inr (6, [.int st8, .ref wa, .ref pa8, .ref sta, .ref mo, .ref hea, .ref tha, .int ig, .int ov2, .int op8, .int (nI np), .int (nI tn), .int wn, .int tu, .int la, .int id2, .ref hd8, .ref od8, .long tb, .ref cd8, .int tq, .ref opa, .ref osa])), (hd8, .inl (cJ, 4, .inr (.inl hq))), (cd8, .inl (cI, 54, .inl cf8))] → va_S A s.heap H locs → ∀ ls : Array Slot, lv_has ls 2 [(0, .ref m8), (1, .int cd)] → W p l e (headSpec wsX8_ends ({ frames := 0, cells := 0, slots := 0, locals := 0 } : Room)).room s m args below meth c H locs 0 0 Q (F0 m 101 ls []) := by
    intro cd tq hq id2 ov2 hcd htq hhq hid hov H locs hP hD hS ls hl
    refine lv_aload_n hx hb dX8_ends_101 rfl (lv_at hl 0 rfl) ?_
    refine lv_iconst (v := 0) hx hb dX8_ends_102 (by decide) ?_
    refine va_put (D := D) (ci := 6) (v := .int 0) (ty := .int) (C := RX8) (T := TX8) (N := 23) hx hb hts iX8 tyX8 tyX8_ok nmX8 hown hK hP hD hS 0 rfl rfl 14 (by decide) k174 (fun _ h9 => h9) rfl (by decide +kernel) rfl rfl (Nat.le_of_ble_eq_true rfl) dX8_ends_103 (fun H locs hP hD hS => ?_)
    have hP : va_P D vwCl [(m8, .inr (6, [.int st8, .ref wa, .ref pa8, .ref sta, .ref mo, .ref hea, .ref tha, .int ig, .int ov2, .int op8, .int (nI np), .int (nI tn), .int wn, .int tu, .int 0, .int id2, .ref hd8, .ref od8, .long tb, .ref cd8, .int tq, .ref opa, .ref osa])), (hd8, .inl (cJ, 4, .inr (.inl hq))), (cd8, .inl (cI, 54, .inl cf8))] H := hP
    have hD : va_D A [(m8, .inr (6, [.int st8, .ref wa, .ref pa8, .ref sta, .ref mo, .ref hea, .ref tha, .int ig, .int ov2, .int op8, .int (nI np), .int (nI tn), .int wn, .int tu, .int 0, .int id2, .ref hd8, .ref od8, .long tb, .ref cd8, .int tq, .ref opa, .ref osa])), (hd8, .inl (cJ, 4, .inr (.inl hq))), (cd8, .inl (cI, 54, .inl cf8))] := hD
    refine lv_aload_n hx hb dX8_ends_106 rfl (lv_at hl 0 rfl) ?_
    refine lv_dup hx hb dX8_ends_107 rfl ?_
    refine va_get (D := D) (ci := 6) (v := .int tu) (C := RX8) (T := TX8) (N := 23) hx hb hts iX8 hown hK hP 0 rfl rfl 13 (by decide) k171 (fun _ h9 => h9) rfl dX8_ends_108 ?_
    refine lv_iconst (v := 1) hx hb dX8_ends_111 (by decide) ?_
    refine lv_iadd hx hb dX8_ends_112 ?_
    refine va_put (D := D) (ci := 6) (v := .int (tu + 1)) (ty := .int) (C := RX8) (T := TX8) (N := 23) hx hb hts iX8 tyX8 tyX8_ok nmX8 hown hK hP hD hS 0 rfl rfl 13 (by decide) k171 (fun _ h9 => h9) rfl (by decide +kernel) rfl rfl (Nat.le_of_ble_eq_true rfl) dX8_ends_113 (fun H locs hP hD hS => ?_)
    have hP : va_P D vwCl [(m8, .inr (6, [.int st8, .ref wa, .ref pa8, .ref sta, .ref mo, .ref hea, .ref tha, .int ig, .int ov2, .int op8, .int (nI np), .int (nI tn), .int wn, .int (tu + 1), .int 0, .int id2, .ref hd8, .ref od8, .long tb, .ref cd8, .int tq, .ref opa, .ref osa])), (hd8, .inl (cJ, 4, .inr (.inl hq))), (cd8, .inl (cI, 54, .inl cf8))] H := hP
    have hD : va_D A [(m8, .inr (6, [.int st8, .ref wa, .ref pa8, .ref sta, .ref mo, .ref hea, .ref tha, .int ig, .int ov2, .int op8, .int (nI np), .int (nI tn), .int wn, .int (tu + 1), .int 0, .int id2, .ref hd8, .ref od8, .long tb, .ref cd8, .int tq, .ref opa, .ref osa])), (hd8, .inl (cJ, 4, .inr (.inl hq))), (cd8, .inl (cI, 54, .inl cf8))] := hD
    refine lv_aload_n hx hb dX8_ends_116 rfl (lv_at hl 0 rfl) ?_
    refine lv_aload_n hx hb dX8_ends_117 rfl (lv_at hl 0 rfl) ?_
    refine va_get (D := D) (ci := 6) (v := .int (nI tn)) (C := RX8) (T := TX8) (N := 23) hx hb hts iX8 hown hK hP 0 rfl rfl 11 (by decide) k165 (fun _ h9 => h9) rfl dX8_ends_118 ?_
    refine lv_iconst (v := 1) hx hb dX8_ends_121 (by decide) ?_
    refine lv_iadd hx hb dX8_ends_122 ?_
    refine lv_aload_n hx hb dX8_ends_123 rfl (lv_at hl 0 rfl) ?_
    refine va_get (D := D) (ci := 6) (v := .int (nI np)) (C := RX8) (T := TX8) (N := 23) hx hb hts iX8 hown hK hP 0 rfl rfl 10 (by decide) k155 (fun _ h9 => h9) rfl dX8_ends_124 ?_
    refine lv_irem hx hb dX8_ends_127 (nI_ne0 (by omega) (by omega)) ?_
    refine lv_topi (fun x128 ex128 => ?_)
    rw [show (((nI tn) + 1) - ((nI tn) + 1) / (nI np) * (nI np) : Int32) = nI ((tn + 1) % np) from hp_plays hn4 htn] at ex128
    subst ex128
    refine va_put (D := D) (ci := 6) (v := .int (nI ((tn + 1) % np))) (ty := .int) (C := RX8) (T := TX8) (N := 23) hx hb hts iX8 tyX8 tyX8_ok nmX8 hown hK hP hD hS 0 rfl rfl 11 (by decide) k165 (fun _ h9 => h9) rfl (by decide +kernel) rfl rfl (Nat.le_of_ble_eq_true rfl) dX8_ends_128 (fun H locs hP hD hS => ?_)
    have hP : va_P D vwCl [(m8, .inr (6, [.int st8, .ref wa, .ref pa8, .ref sta, .ref mo, .ref hea, .ref tha, .int ig, .int ov2, .int op8, .int (nI np), .int (nI ((tn + 1) % np)), .int wn, .int (tu + 1), .int 0, .int id2, .ref hd8, .ref od8, .long tb, .ref cd8, .int tq, .ref opa, .ref osa])), (hd8, .inl (cJ, 4, .inr (.inl hq))), (cd8, .inl (cI, 54, .inl cf8))] H := hP
    have hD : va_D A [(m8, .inr (6, [.int st8, .ref wa, .ref pa8, .ref sta, .ref mo, .ref hea, .ref tha, .int ig, .int ov2, .int op8, .int (nI np), .int (nI ((tn + 1) % np)), .int wn, .int (tu + 1), .int 0, .int id2, .ref hd8, .ref od8, .long tb, .ref cd8, .int tq, .ref opa, .ref osa])), (hd8, .inl (cJ, 4, .inr (.inl hq))), (cd8, .inl (cI, 54, .inl cf8))] := hD
    refine lv_iload_n hx hb dX8_ends_131 rfl (lv_at hl 1 rfl) ?_
    rw [← hQ]
    have hP9 := hP.sub (ws' := [(m8, .inr (6, [.int st8, .ref wa, .ref pa8, .ref sta, .ref mo, .ref hea, .ref tha, .int ig, .int ov2, .int op8, .int (nI np), .int (nI ((tn + 1) % np)), .int wn, .int (tu + 1), .int 0, .int id2, .ref hd8, .ref od8, .long tb, .ref cd8, .int tq, .ref opa, .ref osa])), (hd8, .inl (cJ, 4, .inr (.inl hq))), (cd8, .inl (cI, 54, .inl cf8))]) [0, 1, 2] rfl
    have hD9 := hD.sub (ws' := [(m8, .inr (6, [.int st8, .ref wa, .ref pa8, .ref sta, .ref mo, .ref hea, .ref tha, .int ig, .int ov2, .int op8, .int (nI np), .int (nI ((tn + 1) % np)), .int wn, .int (tu + 1), .int 0, .int id2, .ref hd8, .ref od8, .long tb, .ref cd8, .int tq, .ref opa, .ref osa])), (hd8, .inl (cJ, 4, .inr (.inl hq))), (cd8, .inl (cI, 54, .inl cf8))]) [0, 1, 2] (by decide) rfl
    exact W.iret (v := cd) hx hb hr (fun t ht hW => ⟨⟨cd, (tq, nI ((tn + 1) % np), tu + 1, id2, ov2, hq), rfl, ⟨hcd, htq, rfl, rfl, (by rw [hid, hcd]), (by rw [hov, hid, hcd]), hhq⟩, (by show wB D A _ t; exact ⟨by rw [ht]; exact hP9, hD9⟩)⟩, hS.F ht⟩) hS.2.2 dX8_ends_132
  have lab81 : ∀  (cd : Int32) (tq : Int32) (hq : Nat → Int64) (id2 : Int32), (hcd : cd = eT_card la tp cf8) → (htq : tq = nI (eT_top la tp)) → (hhq : hq = eN_hf la tp tn hf8 cf8) → (hid : id2 = eT_idle la ps cd) → ∀ (H : Heap) (locs : List Loc), va_P D vwCl [(m8, .inr (6, [.int st8, .ref wa, .ref pa8, .ref sta, .ref mo, .ref hea, .ref tha, .int ig, .int io, .int op8, .int (nI np), .int (nI tn), .int wn, .int tu, .int la, .int id2, .ref hd8, .ref od8, .long tb, .ref cd8, .int tq, .ref opa, .ref osa])), (hd8, .inl (cJ, 4, .inr (.inl hq))), (cd8, .inl (cI, 54, .inl cf8))] H → va_D A [(m8, .inr (6, [.int st8, .ref wa, .ref pa8, .ref sta, .ref mo, .ref hea, .ref tha, .int ig, .int io, .int op8, .int (nI np), .int (nI tn), .int wn, .int tu, .int la, .int id2, .ref hd8, .ref od8, .long tb, .ref cd8, .int tq, .ref opa, .ref osa])), (hd8, .inl (cJ, 4, .inr (.inl hq))), (cd8, .inl (cI, 54, .inl cf8))] → va_S A s.heap H locs → ∀ ls : Array Slot, lv_has ls 2 [(0, .ref m8), (1, .int cd)] → W p l e (headSpec wsX8_ends ({ frames := 0, cells := 0, slots := 0, locals := 0 } : Room)).room s m args below meth c H locs 0 0 Q (F0 m 81 ls []) := by
    intro cd tq hq id2 hcd htq hhq hid H locs hP hD hS ls hl
    refine lv_aload_n hx hb dX8_ends_81 rfl (lv_at hl 0 rfl) ?_
    refine lv_aload_n hx hb dX8_ends_82 rfl (lv_at hl 0 rfl) ?_
    refine va_get (D := D) (ci := 6) (v := .int id2) (C := RX8) (T := TX8) (N := 23) hx hb hts iX8 hown hK hP 0 rfl rfl 15 (by decide) k177 (fun _ h9 => h9) rfl dX8_ends_83 ?_
    refine lv_aload_n hx hb dX8_ends_86 rfl (lv_at hl 0 rfl) ?_
    refine va_get (D := D) (ci := 6) (v := .int (nI np)) (C := RX8) (T := TX8) (N := 23) hx hb hts iX8 hown hK hP 0 rfl rfl 10 (by decide) k155 (fun _ h9 => h9) rfl dX8_ends_87 ?_
    refine lv_icmp_ne (tgt := 97) hx hb dX8_ends_90 (by decide) (fun c_90 => ?_) (fun c_90 => ?_)
    · refine lv_iconst (v := 0) hx hb dX8_ends_97 (by decide) ?_
      refine va_put (D := D) (ci := 6) (v := .int 0) (ty := .boolean) (C := RX8) (T := TX8) (N := 23) hx hb hts iX8 tyX8 tyX8_ok nmX8 hown hK hP hD hS 0 rfl rfl 8 (by decide) k162 (fun _ h9 => h9) rfl (by decide +kernel) rfl rfl (Nat.le_of_ble_eq_true rfl) dX8_ends_98 (fun H locs hP hD hS => ?_)
      have hP : va_P D vwCl [(m8, .inr (6, [.int st8, .ref wa, .ref pa8, .ref sta, .ref mo, .ref hea, .ref tha, .int ig, .int 0, .int op8, .int (nI np), .int (nI tn), .int wn, .int tu, .int la, .int id2, .ref hd8, .ref od8, .long tb, .ref cd8, .int tq, .ref opa, .ref osa])), (hd8, .inl (cJ, 4, .inr (.inl hq))), (cd8, .inl (cI, 54, .inl cf8))] H := hP
      have hD : va_D A [(m8, .inr (6, [.int st8, .ref wa, .ref pa8, .ref sta, .ref mo, .ref hea, .ref tha, .int ig, .int 0, .int op8, .int (nI np), .int (nI tn), .int wn, .int tu, .int la, .int id2, .ref hd8, .ref od8, .long tb, .ref cd8, .int tq, .ref opa, .ref osa])), (hd8, .inl (cJ, 4, .inr (.inl hq))), (cd8, .inl (cI, 54, .inl cf8))] := hD
      exact lab101 cd tq hq id2 0 (hcd) (htq) (hhq) (hid) (by first | (rw [if_neg c_90]) | (rw [if_pos c_90])) _ _ hP hD hS ls (lv_sub hl [0, 1] rfl)
    · refine lv_iconst (v := 1) hx hb dX8_ends_93 (by decide) ?_
      refine lv_goto (tgt := 98) hx hb dX8_ends_94 (by decide) ?_
      refine va_put (D := D) (ci := 6) (v := .int 1) (ty := .boolean) (C := RX8) (T := TX8) (N := 23) hx hb hts iX8 tyX8 tyX8_ok nmX8 hown hK hP hD hS 0 rfl rfl 8 (by decide) k162 (fun _ h9 => h9) rfl (by decide +kernel) rfl rfl (Nat.le_of_ble_eq_true rfl) dX8_ends_98 (fun H locs hP hD hS => ?_)
      have hP : va_P D vwCl [(m8, .inr (6, [.int st8, .ref wa, .ref pa8, .ref sta, .ref mo, .ref hea, .ref tha, .int ig, .int 1, .int op8, .int (nI np), .int (nI tn), .int wn, .int tu, .int la, .int id2, .ref hd8, .ref od8, .long tb, .ref cd8, .int tq, .ref opa, .ref osa])), (hd8, .inl (cJ, 4, .inr (.inl hq))), (cd8, .inl (cI, 54, .inl cf8))] H := hP
      have hD : va_D A [(m8, .inr (6, [.int st8, .ref wa, .ref pa8, .ref sta, .ref mo, .ref hea, .ref tha, .int ig, .int 1, .int op8, .int (nI np), .int (nI tn), .int wn, .int tu, .int la, .int id2, .ref hd8, .ref od8, .long tb, .ref cd8, .int tq, .ref opa, .ref osa])), (hd8, .inl (cJ, 4, .inr (.inl hq))), (cd8, .inl (cI, 54, .inl cf8))] := hD
      exact lab101 cd tq hq id2 1 (hcd) (htq) (hhq) (hid) (by first | (rw [if_neg c_90]) | (rw [if_pos c_90])) _ _ hP hD hS ls (lv_sub hl [0, 1] rfl)
  have lab54 : ∀  (cd : Int32) (tq : Int32) (hq : Nat → Int64), (hcd : cd = eT_card la tp cf8) → (htq : tq = nI (eT_top la tp)) → (hhq : hq = eN_hf la tp tn hf8 cf8) → ∀ (H : Heap) (locs : List Loc), va_P D vwCl [(m8, .inr (6, [.int st8, .ref wa, .ref pa8, .ref sta, .ref mo, .ref hea, .ref tha, .int ig, .int io, .int op8, .int (nI np), .int (nI tn), .int wn, .int tu, .int la, .int ps, .ref hd8, .ref od8, .long tb, .ref cd8, .int tq, .ref opa, .ref osa])), (hd8, .inl (cJ, 4, .inr (.inl hq))), (cd8, .inl (cI, 54, .inl cf8))] H → va_D A [(m8, .inr (6, [.int st8, .ref wa, .ref pa8, .ref sta, .ref mo, .ref hea, .ref tha, .int ig, .int io, .int op8, .int (nI np), .int (nI tn), .int wn, .int tu, .int la, .int ps, .ref hd8, .ref od8, .long tb, .ref cd8, .int tq, .ref opa, .ref osa])), (hd8, .inl (cJ, 4, .inr (.inl hq))), (cd8, .inl (cI, 54, .inl cf8))] → va_S A s.heap H locs → ∀ ls : Array Slot, lv_has ls 2 [(0, .ref m8), (1, .int cd)] → W p l e (headSpec wsX8_ends ({ frames := 0, cells := 0, slots := 0, locals := 0 } : Room)).room s m args below meth c H locs 0 0 Q (F0 m 54 ls []) := by
    intro cd tq hq hcd htq hhq H locs hP hD hS ls hl
    refine lv_aload_n hx hb dX8_ends_54 rfl (lv_at hl 0 rfl) ?_
    refine lv_aload_n hx hb dX8_ends_55 rfl (lv_at hl 0 rfl) ?_
    refine va_get (D := D) (ci := 6) (v := .int la) (C := RX8) (T := TX8) (N := 23) hx hb hts iX8 hown hK hP 0 rfl rfl 14 (by decide) k174 (fun _ h9 => h9) rfl dX8_ends_56 ?_
    refine lv_if_ne (tgt := 77) hx hb dX8_ends_59 (by decide) (fun c_59 => ?_) (fun c_59 => ?_)
    · refine lv_iconst (v := 0) hx hb dX8_ends_77 (by decide) ?_
      refine va_put (D := D) (ci := 6) (v := .int 0) (ty := .int) (C := RX8) (T := TX8) (N := 23) hx hb hts iX8 tyX8 tyX8_ok nmX8 hown hK hP hD hS 0 rfl rfl 15 (by decide) k177 (fun _ h9 => h9) rfl (by decide +kernel) rfl rfl (Nat.le_of_ble_eq_true rfl) dX8_ends_78 (fun H locs hP hD hS => ?_)
      have hP : va_P D vwCl [(m8, .inr (6, [.int st8, .ref wa, .ref pa8, .ref sta, .ref mo, .ref hea, .ref tha, .int ig, .int io, .int op8, .int (nI np), .int (nI tn), .int wn, .int tu, .int la, .int 0, .ref hd8, .ref od8, .long tb, .ref cd8, .int tq, .ref opa, .ref osa])), (hd8, .inl (cJ, 4, .inr (.inl hq))), (cd8, .inl (cI, 54, .inl cf8))] H := hP
      have hD : va_D A [(m8, .inr (6, [.int st8, .ref wa, .ref pa8, .ref sta, .ref mo, .ref hea, .ref tha, .int ig, .int io, .int op8, .int (nI np), .int (nI tn), .int wn, .int tu, .int la, .int 0, .ref hd8, .ref od8, .long tb, .ref cd8, .int tq, .ref opa, .ref osa])), (hd8, .inl (cJ, 4, .inr (.inl hq))), (cd8, .inl (cI, 54, .inl cf8))] := hD
      exact lab81 cd tq hq 0 (hcd) (htq) (hhq) (by simp only [eT_idle]; first | (rw [if_neg c_59]) | (rw [if_pos c_59, if_neg c_65]) | (rw [if_pos c_59, if_pos c_65])) _ _ hP hD hS ls (lv_sub hl [0, 1] rfl)
    · refine lv_iload_n hx hb dX8_ends_62 rfl (lv_at hl 1 rfl) ?_
      refine lv_bipush (v := 54) hx hb dX8_ends_63 (by decide) ?_
      refine lv_icmp_ne (tgt := 77) hx hb dX8_ends_65 (by decide) (fun c_65 => ?_) (fun c_65 => ?_)
      · refine lv_iconst (v := 0) hx hb dX8_ends_77 (by decide) ?_
        refine va_put (D := D) (ci := 6) (v := .int 0) (ty := .int) (C := RX8) (T := TX8) (N := 23) hx hb hts iX8 tyX8 tyX8_ok nmX8 hown hK hP hD hS 0 rfl rfl 15 (by decide) k177 (fun _ h9 => h9) rfl (by decide +kernel) rfl rfl (Nat.le_of_ble_eq_true rfl) dX8_ends_78 (fun H locs hP hD hS => ?_)
        have hP : va_P D vwCl [(m8, .inr (6, [.int st8, .ref wa, .ref pa8, .ref sta, .ref mo, .ref hea, .ref tha, .int ig, .int io, .int op8, .int (nI np), .int (nI tn), .int wn, .int tu, .int la, .int 0, .ref hd8, .ref od8, .long tb, .ref cd8, .int tq, .ref opa, .ref osa])), (hd8, .inl (cJ, 4, .inr (.inl hq))), (cd8, .inl (cI, 54, .inl cf8))] H := hP
        have hD : va_D A [(m8, .inr (6, [.int st8, .ref wa, .ref pa8, .ref sta, .ref mo, .ref hea, .ref tha, .int ig, .int io, .int op8, .int (nI np), .int (nI tn), .int wn, .int tu, .int la, .int 0, .ref hd8, .ref od8, .long tb, .ref cd8, .int tq, .ref opa, .ref osa])), (hd8, .inl (cJ, 4, .inr (.inl hq))), (cd8, .inl (cI, 54, .inl cf8))] := hD
        exact lab81 cd tq hq 0 (hcd) (htq) (hhq) (by simp only [eT_idle]; first | (rw [if_neg c_59]) | (rw [if_pos c_59, if_neg c_65]) | (rw [if_pos c_59, if_pos c_65])) _ _ hP hD hS ls (lv_sub hl [0, 1] rfl)
      · refine lv_aload_n hx hb dX8_ends_68 rfl (lv_at hl 0 rfl) ?_
        refine va_get (D := D) (ci := 6) (v := .int ps) (C := RX8) (T := TX8) (N := 23) hx hb hts iX8 hown hK hP 0 rfl rfl 15 (by decide) k177 (fun _ h9 => h9) rfl dX8_ends_69 ?_
        refine lv_iconst (v := 1) hx hb dX8_ends_72 (by decide) ?_
        refine lv_iadd hx hb dX8_ends_73 ?_
        refine lv_goto (tgt := 78) hx hb dX8_ends_74 (by decide) ?_
        refine va_put (D := D) (ci := 6) (v := .int (ps + 1)) (ty := .int) (C := RX8) (T := TX8) (N := 23) hx hb hts iX8 tyX8 tyX8_ok nmX8 hown hK hP hD hS 0 rfl rfl 15 (by decide) k177 (fun _ h9 => h9) rfl (by decide +kernel) rfl rfl (Nat.le_of_ble_eq_true rfl) dX8_ends_78 (fun H locs hP hD hS => ?_)
        have hP : va_P D vwCl [(m8, .inr (6, [.int st8, .ref wa, .ref pa8, .ref sta, .ref mo, .ref hea, .ref tha, .int ig, .int io, .int op8, .int (nI np), .int (nI tn), .int wn, .int tu, .int la, .int (ps + 1), .ref hd8, .ref od8, .long tb, .ref cd8, .int tq, .ref opa, .ref osa])), (hd8, .inl (cJ, 4, .inr (.inl hq))), (cd8, .inl (cI, 54, .inl cf8))] H := hP
        have hD : va_D A [(m8, .inr (6, [.int st8, .ref wa, .ref pa8, .ref sta, .ref mo, .ref hea, .ref tha, .int ig, .int io, .int op8, .int (nI np), .int (nI tn), .int wn, .int tu, .int la, .int (ps + 1), .ref hd8, .ref od8, .long tb, .ref cd8, .int tq, .ref opa, .ref osa])), (hd8, .inl (cJ, 4, .inr (.inl hq))), (cd8, .inl (cI, 54, .inl cf8))] := hD
        exact lab81 cd tq hq (ps + 1) (hcd) (htq) (hhq) (by simp only [eT_idle]; first | (rw [if_neg c_59]) | (rw [if_pos c_59, if_neg c_65]) | (rw [if_pos c_59, if_pos c_65])) _ _ hP hD hS ls (lv_sub hl [0, 1] rfl)
  refine lv_bipush (v := 54) hx hb dX8_ends_0 (by decide) ?_
  refine lv_istore_n (lv' := [(1, .int 54), (0, .ref m8)]) hx hb dX8_ends_2 rfl hl (by decide) rfl (fun ls hl => ?_)
  refine lv_aload_n hx hb dX8_ends_3 rfl (lv_at hl 1 rfl) ?_
  refine va_get (D := D) (ci := 6) (v := .int la) (C := RX8) (T := TX8) (N := 23) hx hb hts iX8 hown hK hP 0 rfl rfl 14 (by decide) k174 (fun _ h9 => h9) rfl dX8_ends_4 ?_
  refine lv_if_ne (tgt := 54) hx hb dX8_ends_7 (by decide) (fun c_7 => ?_) (fun c_7 => ?_)
  · exact lab54 54 (nI tp) hf8 (by simp only [eT_card]; rw [if_neg c_7]) (by simp only [eT_top]; rw [if_neg c_7]) (by simp only [eN_hf]; rw [if_neg c_7]) _ _ hP hD hS ls (lv_sub hl [1, 0] rfl)
  · refine lv_aload_n hx hb dX8_ends_10 rfl (lv_at hl 1 rfl) ?_
    refine va_get (D := D) (ci := 6) (v := .int (nI tp)) (C := RX8) (T := TX8) (N := 23) hx hb hts iX8 hown hK hP 0 rfl rfl 20 (by decide) k152 (fun _ h9 => h9) rfl dX8_ends_11 ?_
    refine lv_bipush (v := 54) hx hb dX8_ends_14 (by decide) ?_
    refine lv_icmp_ge (tgt := 54) hx hb dX8_ends_16 (by decide) (fun c_16 => ?_) (fun c_16 => ?_)
    · have hge : ¬ tp < 54 := fun h => absurd c_16 (nI_ge (b := 54) h (by decide))
      exact lab54 54 (nI tp) hf8 (by simp only [eT_card]; rw [if_pos c_7, if_neg hge]) (by simp only [eT_top]; rw [if_pos c_7, if_neg hge]) (by simp only [eN_hf]; rw [if_pos c_7, if_neg hge]) _ _ hP hD hS ls (lv_sub hl [1, 0] rfl)
    · have hlt : tp < 54 := by rcases Nat.lt_or_ge tp 54 with h | h; exact h; exact absurd (nI_le (a := 54) h (by omega)) c_16
      refine lv_aload_n hx hb dX8_ends_19 rfl (lv_at hl 1 rfl) ?_
      refine va_get (D := D) (ci := 6) (v := .ref cd8) (C := RX8) (T := TX8) (N := 23) hx hb hts iX8 hown hK hP 0 rfl rfl 19 (by decide) k41 (fun _ h9 => h9) rfl dX8_ends_20 ?_
      refine lv_aload_n hx hb dX8_ends_23 rfl (lv_at hl 1 rfl) ?_
      refine va_get (D := D) (ci := 6) (v := .int (nI tp)) (C := RX8) (T := TX8) (N := 23) hx hb hts iX8 hown hK hP 0 rfl rfl 20 (by decide) k152 (fun _ h9 => h9) rfl dX8_ends_24 ?_
      refine va_iald hx hb hK hP 2 0 rfl rfl (vp_in_nI hlt (by decide)) dX8_ends_27 ?_
      refine lv_topi (fun x28 ex28 => ?_)
      refine lv_istore_n (lv' := [(1, .int x28), (0, .ref m8)]) hx hb dX8_ends_28 rfl hl (by decide) rfl (fun ls hl => ?_)
      refine lv_aload_n hx hb dX8_ends_29 rfl (lv_at hl 1 rfl) ?_
      refine lv_dup hx hb dX8_ends_30 rfl ?_
      refine va_get (D := D) (ci := 6) (v := .int (nI tp)) (C := RX8) (T := TX8) (N := 23) hx hb hts iX8 hown hK hP 0 rfl rfl 20 (by decide) k152 (fun _ h9 => h9) rfl dX8_ends_31 ?_
      refine lv_iconst (v := 1) hx hb dX8_ends_34 (by decide) ?_
      refine lv_iadd hx hb dX8_ends_35 ?_
      refine va_put (D := D) (ci := 6) (v := .int ((nI tp) + 1)) (ty := .int) (C := RX8) (T := TX8) (N := 23) hx hb hts iX8 tyX8 tyX8_ok nmX8 hown hK hP hD hS 0 rfl rfl 20 (by decide) k152 (fun _ h9 => h9) rfl (by decide +kernel) rfl rfl (Nat.le_of_ble_eq_true rfl) dX8_ends_36 (fun H locs hP hD hS => ?_)
      have hP : va_P D vwCl [(m8, .inr (6, [.int st8, .ref wa, .ref pa8, .ref sta, .ref mo, .ref hea, .ref tha, .int ig, .int io, .int op8, .int (nI np), .int (nI tn), .int wn, .int tu, .int la, .int ps, .ref hd8, .ref od8, .long tb, .ref cd8, .int ((nI tp) + 1), .ref opa, .ref osa])), (hd8, .inl (cJ, 4, .inr (.inl hf8))), (cd8, .inl (cI, 54, .inl cf8))] H := hP
      have hD : va_D A [(m8, .inr (6, [.int st8, .ref wa, .ref pa8, .ref sta, .ref mo, .ref hea, .ref tha, .int ig, .int io, .int op8, .int (nI np), .int (nI tn), .int wn, .int tu, .int la, .int ps, .ref hd8, .ref od8, .long tb, .ref cd8, .int ((nI tp) + 1), .ref opa, .ref osa])), (hd8, .inl (cJ, 4, .inr (.inl hf8))), (cd8, .inl (cI, 54, .inl cf8))] := hD
      refine lv_aload_n hx hb dX8_ends_39 rfl (lv_at hl 1 rfl) ?_
      refine va_get (D := D) (ci := 6) (v := .ref hd8) (C := RX8) (T := TX8) (N := 23) hx hb hts iX8 hown hK hP 0 rfl rfl 16 (by decide) k35 (fun _ h9 => h9) rfl dX8_ends_40 ?_
      refine lv_aload_n hx hb dX8_ends_43 rfl (lv_at hl 1 rfl) ?_
      refine va_get (D := D) (ci := 6) (v := .int (nI tn)) (C := RX8) (T := TX8) (N := 23) hx hb hts iX8 hown hK hP 0 rfl rfl 11 (by decide) k165 (fun _ h9 => h9) rfl dX8_ends_44 ?_
      refine lv_dup2_11 hx hb dX8_ends_47 rfl rfl ?_
      refine va_lald hx hb hK hP 1 1 rfl rfl (hin4) dX8_ends_48 ?_
      refine lv_lconst (v := 1) hx hb dX8_ends_49 (by decide) ?_
      refine lv_iload_n hx hb dX8_ends_50 rfl (lv_at hl 0 rfl) ?_
      refine lv_lshl hx hb dX8_ends_51 rfl ?_
      refine lv_lor hx hb dX8_ends_52 ?_
      refine va_last hx hb hK hP hD hS 1 1 rfl rfl (hin4) dX8_ends_53 (fun H locs hP hD hS => ?_)
      have hP : va_P D vwCl [(m8, .inr (6, [.int st8, .ref wa, .ref pa8, .ref sta, .ref mo, .ref hea, .ref tha, .int ig, .int io, .int op8, .int (nI np), .int (nI tn), .int wn, .int tu, .int la, .int ps, .ref hd8, .ref od8, .long tb, .ref cd8, .int ((nI tp) + 1), .ref opa, .ref osa])), (hd8, .inl (cJ, 4, .inr (.inl (vp_updL hf8 (nI tn).toNatClampNeg ((hf8 (nI tn).toNatClampNeg) ||| (1 <<< (x28.toInt64 &&& 63))))))), (cd8, .inl (cI, 54, .inl cf8))] H := hP
      have hD : va_D A [(m8, .inr (6, [.int st8, .ref wa, .ref pa8, .ref sta, .ref mo, .ref hea, .ref tha, .int ig, .int io, .int op8, .int (nI np), .int (nI tn), .int wn, .int tu, .int la, .int ps, .ref hd8, .ref od8, .long tb, .ref cd8, .int ((nI tp) + 1), .ref opa, .ref osa])), (hd8, .inl (cJ, 4, .inr (.inl (vp_updL hf8 (nI tn).toNatClampNeg ((hf8 (nI tn).toNatClampNeg) ||| (1 <<< (x28.toInt64 &&& 63))))))), (cd8, .inl (cI, 54, .inl cf8))] := hD
      generalize ex53 : vp_updL hf8 (nI tn).toNatClampNeg ((hf8 (nI tn).toNatClampNeg) ||| (1 <<< (x28.toInt64 &&& 63))) = x53 at hP hD
      exact lab54 x28 ((nI tp) + 1) x53 (by simp only [eT_card]; rw [if_pos c_7, if_pos hlt, ex28, hct]) (by simp only [eT_top]; rw [if_pos c_7, if_pos hlt]; exact nI_1 tp) (by simp only [eN_hf]; rw [if_pos c_7, if_pos hlt, ← ex53, ex28, hct, hcl]) _ _ hP hD hS ls (lv_sub hl [1, 0] rfl)

set_option maxHeartbeats 4000000 in
set_option maxRecDepth 100000 in
theorem k_X8_deal_ok (l : Launch) (D : va_G) (cI cJ cZ : ClassId) (sz : Nat) (m8 wa pa8 sta mo hea tha hd8 od8 cd8 opa osa : Nat) (st8 ig io op8 pl8 py wn tu la ps dr : Int32) (tb : Int64) (nq mn sd : Nat) (hf8 : Nat → Int64) (of8 cf8 : Nat → Int32) (hn2 : 2 ≤ nq) (hn4 : nq ≤ 4) (hm0 : 1 ≤ mn) (hm1 : mn ≤ 13) (hs1 : 1 ≤ sd) (hs2 : sd < 2147483647) : Met l yX8_deal wsX8_deal ({ frames := 0, cells := 0, slots := 0, locals := 0 } : Room) (va_Pc [.ref m8, .int (nI nq), .int (nI mn), .int (nI sd)] (wM D cI cJ cZ sz [(m8, .inr (6, [.int st8, .ref wa, .ref pa8, .ref sta, .ref mo, .ref hea, .ref tha, .int ig, .int io, .int op8, .int pl8, .int py, .int wn, .int tu, .int la, .int ps, .ref hd8, .ref od8, .long tb, .ref cd8, .int dr, .ref opa, .ref osa])), (hd8, .inl (cJ, 4, .inr (.inl hf8))), (od8, .inl (cZ, 4, .inl of8)), (cd8, .inl (cI, 54, .inl cf8))])) (va_Qi (fun (r : Int32) (u : (Int32) × (Nat → Int64) × (Nat → Int32) × (Nat → Int32)) => match u with | (dr2, hf2, of2, cf2) => (r = 1 ∧ (∀ q, q < nq → hf2 q = bgH sd nq mn q) ∧ (∀ q, q < nq → of2 q = 0) ∧ (∀ k, k < 54 → cf2 k = nI ((shN sd 53).2 k))) ∧ dr2 = (nI (nq * mn))) (fun (u : (Int32) × (Nat → Int64) × (Nat → Int32) × (Nat → Int32)) t => match u with | (dr2, hf2, of2, cf2) => wB D (va_A [(m8, .inr (6, [.int st8, .ref wa, .ref pa8, .ref sta, .ref mo, .ref hea, .ref tha, .int ig, .int io, .int op8, .int pl8, .int py, .int wn, .int tu, .int la, .int ps, .ref hd8, .ref od8, .long tb, .ref cd8, .int dr, .ref opa, .ref osa])), (hd8, .inl (cJ, 4, .inr (.inl hf8))), (od8, .inl (cZ, 4, .inl of8)), (cd8, .inl (cI, 54, .inl cf8))] sz) [(m8, .inr (6, [.int 0, .ref wa, .ref pa8, .ref sta, .ref mo, .ref hea, .ref tha, .int 1, .int 0, .int op8, .int (nI nq), .int 0, .int (-1), .int 0, .int 0, .int 0, .ref hd8, .ref od8, .long 0, .ref cd8, .int dr2, .ref opa, .ref osa])), (hd8, .inl (cJ, 4, .inr (.inl hf2))), (od8, .inl (cZ, 4, .inl of2)), (cd8, .inl (cI, 54, .inl cf2))] t) (va_A [(m8, .inr (6, [.int st8, .ref wa, .ref pa8, .ref sta, .ref mo, .ref hea, .ref tha, .int ig, .int io, .int op8, .int pl8, .int py, .int wn, .int tu, .int la, .int ps, .ref hd8, .ref od8, .long tb, .ref cd8, .int dr, .ref opa, .ref osa])), (hd8, .inl (cJ, 4, .inr (.inl hf8))), (od8, .inl (cZ, 4, .inl of8)), (cd8, .inl (cI, 54, .inl cf8))] sz)) 0 0 (va_A [(m8, .inr (6, [.int st8, .ref wa, .ref pa8, .ref sta, .ref mo, .ref hea, .ref tha, .int ig, .int io, .int op8, .int pl8, .int py, .int wn, .int tu, .int la, .int ps, .ref hd8, .ref od8, .long tb, .ref cd8, .int dr, .ref opa, .ref osa])), (hd8, .inl (cJ, 4, .inr (.inl hf8))), (od8, .inl (cZ, 4, .inl of8)), (cd8, .inl (cI, 54, .inl cf8))] sz) := by
  refine Met.ofW (cc := cX8_deal) (maxL := 9) (ret := (some .boolean)) (by decide) rfl ?_
  intro p e s m args below meth c s₁ B hml hv
  obtain ⟨hargs, hsz, hP, ⟨hK, hN⟩, hD0⟩ := hv
  have hx := B.exec
  have hb := B.bytes
  have hr := B.returns
  have hlocks := B.notSynchronized
  have hts := atoms_spec (ws := wsX8_deal) B.pre
  have hown : s.vm.findClass RX8 = some m.cls := findClass_of_methodNamed B.named
  have k35 := hts (.fieldLink RX8 35 "RummyTableModel" "hands" "[J") (by decide +kernel)
  have iX8 : ∀ w ∈ wsX80, w ∈ wsX8_deal := by decide +kernel
  have k41 := hts (.fieldLink RX8 41 "RummyTableModel" "cards" "[I") (by decide +kernel)
  have k152 := hts (.fieldLink RX8 152 "RummyTableModel" "drawn" "I") (by decide +kernel)
  have k155 := hts (.fieldLink RX8 155 "RummyTableModel" "players" "I") (by decide +kernel)
  have k158 := hts (.fieldLink RX8 158 "RummyTableModel" "isGame" "Z") (by decide +kernel)
  have k162 := hts (.fieldLink RX8 162 "RummyTableModel" "isOver" "Z") (by decide +kernel)
  have k165 := hts (.fieldLink RX8 165 "RummyTableModel" "plays" "I") (by decide +kernel)
  have k168 := hts (.fieldLink RX8 168 "RummyTableModel" "won" "I") (by decide +kernel)
  have k171 := hts (.fieldLink RX8 171 "RummyTableModel" "turns" "I") (by decide +kernel)
  have k174 := hts (.fieldLink RX8 174 "RummyTableModel" "layings" "I") (by decide +kernel)
  have k177 := hts (.fieldLink RX8 177 "RummyTableModel" "passed" "I") (by decide +kernel)
  have k180 := hts (.fieldLink RX8 180 "RummyTableModel" "table" "J") (by decide +kernel)
  have k38 := hts (.fieldLink RX8 38 "RummyTableModel" "opened" "[Z") (by decide +kernel)
  have k148 := hts (.constantLong RX8 148 (48271)) (by decide +kernel)
  have k150 := hts (.constantLong RX8 150 (2147483647)) (by decide +kernel)
  have k147 := hts (.constant RX8 147 (2147483646)) (by decide +kernel)
  have k50 := hts (.fieldLink RX8 50 "RummyTableModel" "status" "I") (by decide +kernel)
  subst hsz
  have hD := hD0.self (sz := s.heap.size)
  generalize hAe : va_A [(m8, .inr (6, [.int st8, .ref wa, .ref pa8, .ref sta, .ref mo, .ref hea, .ref tha, .int ig, .int io, .int op8, .int pl8, .int py, .int wn, .int tu, .int la, .int ps, .ref hd8, .ref od8, .long tb, .ref cd8, .int dr, .ref opa, .ref osa])), (hd8, .inl (cJ, 4, .inr (.inl hf8))), (od8, .inl (cZ, 4, .inl of8)), (cd8, .inl (cI, 54, .inl cf8))] s.heap.size = A at hD ⊢
  have hA : ∀ q : Nat, s.heap.size ≤ q → A q := fun q h => by rw [← hAe]; exact Or.inr h
  have hS : va_S A s.heap s.heap [] := va_S.rf
  rw [show entryFrame m args 9 = entryFrame m ([.ref m8, .int (nI nq), .int (nI mn), .int (nI sd)] : List Value).toArray 9 from by rw [hargs]]
  have hl := lv_entry ([.ref m8, .int (nI nq), .int (nI mn), .int (nI sd)]) (n := 9) (Nat.le_of_ble_eq_true rfl)
  rw [lg_entry_eq]
  generalize (lg_sl ([.ref m8, .int (nI nq), .int (nI mn), .int (nI sd)]) ++ List.replicate (9 - (lg_sl ([.ref m8, .int (nI nq), .int (nI mn), .int (nI sd)])).length) Slot.unset).toArray = ls at hl ⊢
  have hl : lv_has ls 9 [(0, .ref m8), (1, .int (nI nq)), (2, .int (nI mn)), (3, .int (nI sd))] := hl
  refine wQ (fun Q hQ => ?_)
  have lab157 : ∀ fuel157 : Nat, ∀ (p1 : Nat) (x6 : Int32) (hq : Nat → Int64) (oq : Nat → Int32) (pq : Nat → Int32), (hpq : ∀ k, k < 54 → pq k = nI ((shN sd 53).2 k)) → (h6 : x6 = nI p1) → (hp4 : p1 ≤ nq) → (hhq : ∀ q, q < p1 → hq q = bgH sd nq mn q) → (hoq : ∀ q, q < p1 → oq q = 0) → (hfu157 : nq - p1 < fuel157) → ∀ (H : Heap) (locs : List Loc), va_P D vwCl [(m8, .inr (6, [.int 0, .ref wa, .ref pa8, .ref sta, .ref mo, .ref hea, .ref tha, .int ig, .int io, .int op8, .int pl8, .int py, .int wn, .int tu, .int la, .int ps, .ref hd8, .ref od8, .long tb, .ref cd8, .int (nI (bgT nq mn p1)), .ref opa, .ref osa])), (hd8, .inl (cJ, 4, .inr (.inl hq))), (od8, .inl (cZ, 4, .inl oq)), (cd8, .inl (cI, 54, .inl pq))] H → va_D A [(m8, .inr (6, [.int 0, .ref wa, .ref pa8, .ref sta, .ref mo, .ref hea, .ref tha, .int ig, .int io, .int op8, .int pl8, .int py, .int wn, .int tu, .int la, .int ps, .ref hd8, .ref od8, .long tb, .ref cd8, .int (nI (bgT nq mn p1)), .ref opa, .ref osa])), (hd8, .inl (cJ, 4, .inr (.inl hq))), (od8, .inl (cZ, 4, .inl oq)), (cd8, .inl (cI, 54, .inl pq))] → va_S A s.heap H locs → ∀ ls : Array Slot, lv_has ls 9 [(0, .ref m8), (1, .int (nI nq)), (2, .int (nI mn)), (6, .int x6)] → W p l e (headSpec wsX8_deal ({ frames := 0, cells := 0, slots := 0, locals := 0 } : Room)).room s m args below meth c H locs 0 0 Q (F0 m 157 ls []) := by
    intro fuel157
    induction fuel157 with
    | zero =>
      intro p1 x6 hq oq pq hpq h6 hp4 hhq hoq hfu157
      exact absurd hfu157 (Nat.not_lt_zero _)
    | succ fuel157 ih157 =>
      intro p1 x6 hq oq pq hpq h6 hp4 hhq hoq hfu157 H locs hP hD hS ls hl
      have lab182 : ∀ fuel182 : Nat, ∀ (i : Nat) (x7 : Int32) (hr2 : Nat → Int64) (or2 : Nat → Int32), (hpn : p1 < nq) → (h7 : x7 = nI i) → (hi : i ≤ mn) → (hhp : hr2 p1 = hdL (shN sd 53).2 (p1 * mn) i) → (hho : ∀ q, q < p1 → hr2 q = bgH sd nq mn q) → (hoq2 : ∀ q, q < p1 + 1 → or2 q = 0) → (hfu182 : mn - i < fuel182) → ∀ (H : Heap) (locs : List Loc), va_P D vwCl [(m8, .inr (6, [.int 0, .ref wa, .ref pa8, .ref sta, .ref mo, .ref hea, .ref tha, .int ig, .int io, .int op8, .int pl8, .int py, .int wn, .int tu, .int la, .int ps, .ref hd8, .ref od8, .long tb, .ref cd8, .int (nI (bgT nq mn p1 + i)), .ref opa, .ref osa])), (hd8, .inl (cJ, 4, .inr (.inl hr2))), (od8, .inl (cZ, 4, .inl or2)), (cd8, .inl (cI, 54, .inl pq))] H → va_D A [(m8, .inr (6, [.int 0, .ref wa, .ref pa8, .ref sta, .ref mo, .ref hea, .ref tha, .int ig, .int io, .int op8, .int pl8, .int py, .int wn, .int tu, .int la, .int ps, .ref hd8, .ref od8, .long tb, .ref cd8, .int (nI (bgT nq mn p1 + i)), .ref opa, .ref osa])), (hd8, .inl (cJ, 4, .inr (.inl hr2))), (od8, .inl (cZ, 4, .inl or2)), (cd8, .inl (cI, 54, .inl pq))] → va_S A s.heap H locs → ∀ ls : Array Slot, lv_has ls 9 [(0, .ref m8), (1, .int (nI nq)), (2, .int (nI mn)), (6, .int x6), (7, .int x7)] → W p l e (headSpec wsX8_deal ({ frames := 0, cells := 0, slots := 0, locals := 0 } : Room)).room s m args below meth c H locs 0 0 Q (F0 m 182 ls []) := by
        intro fuel182
        induction fuel182 with
        | zero =>
          intro i x7 hr2 or2 hpn h7 hi hhp hho hoq2 hfu182
          exact absurd hfu182 (Nat.not_lt_zero _)
        | succ fuel182 ih182 =>
          intro i x7 hr2 or2 hpn h7 hi hhp hho hoq2 hfu182 H locs hP hD hS ls hl
          refine lv_iload hx hb dX8_deal_182 (lv_at hl 4 rfl) ?_
          refine lv_iload_n hx hb dX8_deal_184 rfl (lv_at hl 2 rfl) ?_
          refine lv_icmp_ge (tgt := 225) hx hb dX8_deal_185 (by decide) (fun c_185 => ?_) (fun c_185 => ?_)
          · have him : i = mn := hp_ge h7 rfl hi (by omega) c_185
            have hnext := bg_next hhp hho (fun q => absurd hpn q) (Or.inl him)
            have e9 : (nI (bgT nq mn p1 + i) : Int32) = nI (bgT nq mn (p1 + 1)) := congrArg nI hnext.1
            have hP : va_P D vwCl [(m8, .inr (6, [.int 0, .ref wa, .ref pa8, .ref sta, .ref mo, .ref hea, .ref tha, .int ig, .int io, .int op8, .int pl8, .int py, .int wn, .int tu, .int la, .int ps, .ref hd8, .ref od8, .long tb, .ref cd8, .int (nI (bgT nq mn (p1 + 1))), .ref opa, .ref osa])), (hd8, .inl (cJ, 4, .inr (.inl hr2))), (od8, .inl (cZ, 4, .inl or2)), (cd8, .inl (cI, 54, .inl pq))] H := by rw [← e9]; exact hP
            have hD : va_D A [(m8, .inr (6, [.int 0, .ref wa, .ref pa8, .ref sta, .ref mo, .ref hea, .ref tha, .int ig, .int io, .int op8, .int pl8, .int py, .int wn, .int tu, .int la, .int ps, .ref hd8, .ref od8, .long tb, .ref cd8, .int (nI (bgT nq mn (p1 + 1))), .ref opa, .ref osa])), (hd8, .inl (cJ, 4, .inr (.inl hr2))), (od8, .inl (cZ, 4, .inl or2)), (cd8, .inl (cI, 54, .inl pq))] := by rw [← e9]; exact hD
            obtain ⟨x225, ex225⟩ : ∃ y : Int32, y = x6 + 1 := ⟨_, rfl⟩
            refine lv_iinc (v := x225) (lv' := [(6, .int x225), (0, .ref m8), (1, .int (nI nq)), (2, .int (nI mn)), (7, .int x7)]) hx hb dX8_deal_225 hl (k := 3) rfl (by rw [ex225]; rfl) (by decide) rfl (fun ls hl => ?_)
            refine lv_goto (tgt := 157) hx hb dX8_deal_228 (by decide) ?_
            exact ih157 (p1 + 1) x225 hr2 or2 pq (hpq) (hp_s ex225 h6) (by omega) (hnext.2) (hoq2) (by omega) _ _ hP hD hS ls (lv_sub hl [1, 2, 3, 0] rfl)
          · have hil : i < mn := hp_lt h7 rfl hi (by omega) c_185
            have hl52 : bgT nq mn p1 + i < 54 := by have := bgT_lt hn4 hm1 hpn hil; omega
            refine lv_aload_n hx hb dX8_deal_188 rfl (lv_at hl 0 rfl) ?_
            refine va_get (D := D) (ci := 6) (v := .ref hd8) (C := RX8) (T := TX8) (N := 23) hx hb hts iX8 hown hK hP 0 rfl rfl 16 (by decide) k35 (fun _ h9 => h9) rfl dX8_deal_189 ?_
            refine lv_iload hx hb dX8_deal_192 (lv_at hl 3 rfl) ?_
            refine lv_dup2_11 hx hb dX8_deal_194 rfl rfl ?_
            refine va_lald hx hb hK hP 1 1 rfl rfl (by rw [h6]; exact vp_in_nI (by omega) (by decide)) dX8_deal_195 ?_
            refine lv_lconst (v := 1) hx hb dX8_deal_196 (by decide) ?_
            refine lv_aload_n hx hb dX8_deal_197 rfl (lv_at hl 0 rfl) ?_
            refine va_get (D := D) (ci := 6) (v := .ref cd8) (C := RX8) (T := TX8) (N := 23) hx hb hts iX8 hown hK hP 0 rfl rfl 19 (by decide) k41 (fun _ h9 => h9) rfl dX8_deal_198 ?_
            refine lv_aload_n hx hb dX8_deal_201 rfl (lv_at hl 0 rfl) ?_
            refine va_get (D := D) (ci := 6) (v := .int (nI (bgT nq mn p1 + i))) (C := RX8) (T := TX8) (N := 23) hx hb hts iX8 hown hK hP 0 rfl rfl 20 (by decide) k152 (fun _ h9 => h9) rfl dX8_deal_202 ?_
            refine va_iald hx hb hK hP 3 0 rfl rfl (vp_in_nI hl52 (by decide)) dX8_deal_205 ?_
            refine lv_lshl hx hb dX8_deal_206 rfl ?_
            refine lv_lor hx hb dX8_deal_207 ?_
            refine va_last hx hb hK hP hD hS 1 1 rfl rfl (by rw [h6]; exact vp_in_nI (by omega) (by decide)) dX8_deal_208 (fun H locs hP hD hS => ?_)
            have hP : va_P D vwCl [(m8, .inr (6, [.int 0, .ref wa, .ref pa8, .ref sta, .ref mo, .ref hea, .ref tha, .int ig, .int io, .int op8, .int pl8, .int py, .int wn, .int tu, .int la, .int ps, .ref hd8, .ref od8, .long tb, .ref cd8, .int (nI (bgT nq mn p1 + i)), .ref opa, .ref osa])), (hd8, .inl (cJ, 4, .inr (.inl (vp_updL hr2 x6.toNatClampNeg ((hr2 x6.toNatClampNeg) ||| (1 <<< ((pq (nI (bgT nq mn p1 + i)).toNatClampNeg).toInt64 &&& 63))))))), (od8, .inl (cZ, 4, .inl or2)), (cd8, .inl (cI, 54, .inl pq))] H := hP
            have hD : va_D A [(m8, .inr (6, [.int 0, .ref wa, .ref pa8, .ref sta, .ref mo, .ref hea, .ref tha, .int ig, .int io, .int op8, .int pl8, .int py, .int wn, .int tu, .int la, .int ps, .ref hd8, .ref od8, .long tb, .ref cd8, .int (nI (bgT nq mn p1 + i)), .ref opa, .ref osa])), (hd8, .inl (cJ, 4, .inr (.inl (vp_updL hr2 x6.toNatClampNeg ((hr2 x6.toNatClampNeg) ||| (1 <<< ((pq (nI (bgT nq mn p1 + i)).toNatClampNeg).toInt64 &&& 63))))))), (od8, .inl (cZ, 4, .inl or2)), (cd8, .inl (cI, 54, .inl pq))] := hD
            generalize ex208 : vp_updL hr2 x6.toNatClampNeg ((hr2 x6.toNatClampNeg) ||| (1 <<< ((pq (nI (bgT nq mn p1 + i)).toNatClampNeg).toInt64 &&& 63))) = x208 at hP hD
            refine lv_aload_n hx hb dX8_deal_209 rfl (lv_at hl 0 rfl) ?_
            refine lv_dup hx hb dX8_deal_210 rfl ?_
            refine va_get (D := D) (ci := 6) (v := .int (nI (bgT nq mn p1 + i))) (C := RX8) (T := TX8) (N := 23) hx hb hts iX8 hown hK hP 0 rfl rfl 20 (by decide) k152 (fun _ h9 => h9) rfl dX8_deal_211 ?_
            refine lv_iconst (v := 1) hx hb dX8_deal_214 (by decide) ?_
            refine lv_iadd hx hb dX8_deal_215 ?_
            refine lv_topi (fun x216 ex216 => ?_)
            rw [show ((nI (bgT nq mn p1 + i)) + 1 : Int32) = nI (bgT nq mn p1 + (i + 1)) from nI_1 _] at ex216
            subst ex216
            refine va_put (D := D) (ci := 6) (v := .int (nI (bgT nq mn p1 + (i + 1)))) (ty := .int) (C := RX8) (T := TX8) (N := 23) hx hb hts iX8 tyX8 tyX8_ok nmX8 hown hK hP hD hS 0 rfl rfl 20 (by decide) k152 (fun _ h9 => h9) rfl (by decide +kernel) rfl rfl (Nat.le_of_ble_eq_true rfl) dX8_deal_216 (fun H locs hP hD hS => ?_)
            have hP : va_P D vwCl [(m8, .inr (6, [.int 0, .ref wa, .ref pa8, .ref sta, .ref mo, .ref hea, .ref tha, .int ig, .int io, .int op8, .int pl8, .int py, .int wn, .int tu, .int la, .int ps, .ref hd8, .ref od8, .long tb, .ref cd8, .int (nI (bgT nq mn p1 + (i + 1))), .ref opa, .ref osa])), (hd8, .inl (cJ, 4, .inr (.inl x208))), (od8, .inl (cZ, 4, .inl or2)), (cd8, .inl (cI, 54, .inl pq))] H := hP
            have hD : va_D A [(m8, .inr (6, [.int 0, .ref wa, .ref pa8, .ref sta, .ref mo, .ref hea, .ref tha, .int ig, .int io, .int op8, .int pl8, .int py, .int wn, .int tu, .int la, .int ps, .ref hd8, .ref od8, .long tb, .ref cd8, .int (nI (bgT nq mn p1 + (i + 1))), .ref opa, .ref osa])), (hd8, .inl (cJ, 4, .inr (.inl x208))), (od8, .inl (cZ, 4, .inl or2)), (cd8, .inl (cI, 54, .inl pq))] := hD
            obtain ⟨x219, ex219⟩ : ∃ y : Int32, y = x7 + 1 := ⟨_, rfl⟩
            refine lv_iinc (v := x219) (lv' := [(7, .int x219), (0, .ref m8), (1, .int (nI nq)), (2, .int (nI mn)), (6, .int x6)]) hx hb dX8_deal_219 hl (k := 4) rfl (by rw [ex219]; rfl) (by decide) rfl (fun ls hl => ?_)
            refine lv_goto (tgt := 182) hx hb dX8_deal_222 (by decide) ?_
            exact ih182 (i + 1) x219 x208 or2 (hpn) (hp_s ex219 h7) (by omega) (hp_hd8 h6 hpn hn4 hm1 hil hpq ex208 hhp) (fun q hq2 => by rw [hp_hk h6 (by omega) ex208 q (by omega)]; exact hho q hq2) (hoq2) (by omega) _ _ hP hD hS ls (lv_sub hl [1, 2, 3, 4, 0] rfl)
      refine lv_iload hx hb dX8_deal_157 (lv_at hl 3 rfl) ?_
      refine lv_iload_n hx hb dX8_deal_159 rfl (lv_at hl 1 rfl) ?_
      refine lv_icmp_ge (tgt := 231) hx hb dX8_deal_160 (by decide) (fun c_160 => ?_) (fun c_160 => ?_)
      · have hp9 : p1 = nq := hp_ge h6 rfl hp4 (by omega) c_160
        have e9 : (nI (bgT nq mn p1) : Int32) = nI (nq * mn) := by rw [hp9]; exact congrArg nI bgT_nn
        have hP : va_P D vwCl [(m8, .inr (6, [.int 0, .ref wa, .ref pa8, .ref sta, .ref mo, .ref hea, .ref tha, .int ig, .int io, .int op8, .int pl8, .int py, .int wn, .int tu, .int la, .int ps, .ref hd8, .ref od8, .long tb, .ref cd8, .int (nI (nq * mn)), .ref opa, .ref osa])), (hd8, .inl (cJ, 4, .inr (.inl hq))), (od8, .inl (cZ, 4, .inl oq)), (cd8, .inl (cI, 54, .inl pq))] H := by rw [← e9]; exact hP
        have hD : va_D A [(m8, .inr (6, [.int 0, .ref wa, .ref pa8, .ref sta, .ref mo, .ref hea, .ref tha, .int ig, .int io, .int op8, .int pl8, .int py, .int wn, .int tu, .int la, .int ps, .ref hd8, .ref od8, .long tb, .ref cd8, .int (nI (nq * mn)), .ref opa, .ref osa])), (hd8, .inl (cJ, 4, .inr (.inl hq))), (od8, .inl (cZ, 4, .inl oq)), (cd8, .inl (cI, 54, .inl pq))] := by rw [← e9]; exact hD
        refine lv_aload_n hx hb dX8_deal_231 rfl (lv_at hl 0 rfl) ?_
        refine lv_iload_n hx hb dX8_deal_232 rfl (lv_at hl 1 rfl) ?_
        refine va_put (D := D) (ci := 6) (v := .int (nI nq)) (ty := .int) (C := RX8) (T := TX8) (N := 23) hx hb hts iX8 tyX8 tyX8_ok nmX8 hown hK hP hD hS 0 rfl rfl 10 (by decide) k155 (fun _ h9 => h9) rfl (by decide +kernel) rfl rfl (Nat.le_of_ble_eq_true rfl) dX8_deal_233 (fun H locs hP hD hS => ?_)
        have hP : va_P D vwCl [(m8, .inr (6, [.int 0, .ref wa, .ref pa8, .ref sta, .ref mo, .ref hea, .ref tha, .int ig, .int io, .int op8, .int (nI nq), .int py, .int wn, .int tu, .int la, .int ps, .ref hd8, .ref od8, .long tb, .ref cd8, .int (nI (nq * mn)), .ref opa, .ref osa])), (hd8, .inl (cJ, 4, .inr (.inl hq))), (od8, .inl (cZ, 4, .inl oq)), (cd8, .inl (cI, 54, .inl pq))] H := hP
        have hD : va_D A [(m8, .inr (6, [.int 0, .ref wa, .ref pa8, .ref sta, .ref mo, .ref hea, .ref tha, .int ig, .int io, .int op8, .int (nI nq), .int py, .int wn, .int tu, .int la, .int ps, .ref hd8, .ref od8, .long tb, .ref cd8, .int (nI (nq * mn)), .ref opa, .ref osa])), (hd8, .inl (cJ, 4, .inr (.inl hq))), (od8, .inl (cZ, 4, .inl oq)), (cd8, .inl (cI, 54, .inl pq))] := hD
        refine lv_aload_n hx hb dX8_deal_236 rfl (lv_at hl 0 rfl) ?_
        refine lv_iconst (v := 1) hx hb dX8_deal_237 (by decide) ?_
        refine va_put (D := D) (ci := 6) (v := .int 1) (ty := .boolean) (C := RX8) (T := TX8) (N := 23) hx hb hts iX8 tyX8 tyX8_ok nmX8 hown hK hP hD hS 0 rfl rfl 7 (by decide) k158 (fun _ h9 => h9) rfl (by decide +kernel) rfl rfl (Nat.le_of_ble_eq_true rfl) dX8_deal_238 (fun H locs hP hD hS => ?_)
        have hP : va_P D vwCl [(m8, .inr (6, [.int 0, .ref wa, .ref pa8, .ref sta, .ref mo, .ref hea, .ref tha, .int 1, .int io, .int op8, .int (nI nq), .int py, .int wn, .int tu, .int la, .int ps, .ref hd8, .ref od8, .long tb, .ref cd8, .int (nI (nq * mn)), .ref opa, .ref osa])), (hd8, .inl (cJ, 4, .inr (.inl hq))), (od8, .inl (cZ, 4, .inl oq)), (cd8, .inl (cI, 54, .inl pq))] H := hP
        have hD : va_D A [(m8, .inr (6, [.int 0, .ref wa, .ref pa8, .ref sta, .ref mo, .ref hea, .ref tha, .int 1, .int io, .int op8, .int (nI nq), .int py, .int wn, .int tu, .int la, .int ps, .ref hd8, .ref od8, .long tb, .ref cd8, .int (nI (nq * mn)), .ref opa, .ref osa])), (hd8, .inl (cJ, 4, .inr (.inl hq))), (od8, .inl (cZ, 4, .inl oq)), (cd8, .inl (cI, 54, .inl pq))] := hD
        refine lv_aload_n hx hb dX8_deal_241 rfl (lv_at hl 0 rfl) ?_
        refine lv_iconst (v := 0) hx hb dX8_deal_242 (by decide) ?_
        refine va_put (D := D) (ci := 6) (v := .int 0) (ty := .boolean) (C := RX8) (T := TX8) (N := 23) hx hb hts iX8 tyX8 tyX8_ok nmX8 hown hK hP hD hS 0 rfl rfl 8 (by decide) k162 (fun _ h9 => h9) rfl (by decide +kernel) rfl rfl (Nat.le_of_ble_eq_true rfl) dX8_deal_243 (fun H locs hP hD hS => ?_)
        have hP : va_P D vwCl [(m8, .inr (6, [.int 0, .ref wa, .ref pa8, .ref sta, .ref mo, .ref hea, .ref tha, .int 1, .int 0, .int op8, .int (nI nq), .int py, .int wn, .int tu, .int la, .int ps, .ref hd8, .ref od8, .long tb, .ref cd8, .int (nI (nq * mn)), .ref opa, .ref osa])), (hd8, .inl (cJ, 4, .inr (.inl hq))), (od8, .inl (cZ, 4, .inl oq)), (cd8, .inl (cI, 54, .inl pq))] H := hP
        have hD : va_D A [(m8, .inr (6, [.int 0, .ref wa, .ref pa8, .ref sta, .ref mo, .ref hea, .ref tha, .int 1, .int 0, .int op8, .int (nI nq), .int py, .int wn, .int tu, .int la, .int ps, .ref hd8, .ref od8, .long tb, .ref cd8, .int (nI (nq * mn)), .ref opa, .ref osa])), (hd8, .inl (cJ, 4, .inr (.inl hq))), (od8, .inl (cZ, 4, .inl oq)), (cd8, .inl (cI, 54, .inl pq))] := hD
        refine lv_aload_n hx hb dX8_deal_246 rfl (lv_at hl 0 rfl) ?_
        refine lv_iconst (v := 0) hx hb dX8_deal_247 (by decide) ?_
        refine va_put (D := D) (ci := 6) (v := .int 0) (ty := .int) (C := RX8) (T := TX8) (N := 23) hx hb hts iX8 tyX8 tyX8_ok nmX8 hown hK hP hD hS 0 rfl rfl 11 (by decide) k165 (fun _ h9 => h9) rfl (by decide +kernel) rfl rfl (Nat.le_of_ble_eq_true rfl) dX8_deal_248 (fun H locs hP hD hS => ?_)
        have hP : va_P D vwCl [(m8, .inr (6, [.int 0, .ref wa, .ref pa8, .ref sta, .ref mo, .ref hea, .ref tha, .int 1, .int 0, .int op8, .int (nI nq), .int 0, .int wn, .int tu, .int la, .int ps, .ref hd8, .ref od8, .long tb, .ref cd8, .int (nI (nq * mn)), .ref opa, .ref osa])), (hd8, .inl (cJ, 4, .inr (.inl hq))), (od8, .inl (cZ, 4, .inl oq)), (cd8, .inl (cI, 54, .inl pq))] H := hP
        have hD : va_D A [(m8, .inr (6, [.int 0, .ref wa, .ref pa8, .ref sta, .ref mo, .ref hea, .ref tha, .int 1, .int 0, .int op8, .int (nI nq), .int 0, .int wn, .int tu, .int la, .int ps, .ref hd8, .ref od8, .long tb, .ref cd8, .int (nI (nq * mn)), .ref opa, .ref osa])), (hd8, .inl (cJ, 4, .inr (.inl hq))), (od8, .inl (cZ, 4, .inl oq)), (cd8, .inl (cI, 54, .inl pq))] := hD
        refine lv_aload_n hx hb dX8_deal_251 rfl (lv_at hl 0 rfl) ?_
        refine lv_iconst (v := (-1)) hx hb dX8_deal_252 (by decide) ?_
        refine va_put (D := D) (ci := 6) (v := .int (-1)) (ty := .int) (C := RX8) (T := TX8) (N := 23) hx hb hts iX8 tyX8 tyX8_ok nmX8 hown hK hP hD hS 0 rfl rfl 12 (by decide) k168 (fun _ h9 => h9) rfl (by decide +kernel) rfl rfl (Nat.le_of_ble_eq_true rfl) dX8_deal_253 (fun H locs hP hD hS => ?_)
        have hP : va_P D vwCl [(m8, .inr (6, [.int 0, .ref wa, .ref pa8, .ref sta, .ref mo, .ref hea, .ref tha, .int 1, .int 0, .int op8, .int (nI nq), .int 0, .int (-1), .int tu, .int la, .int ps, .ref hd8, .ref od8, .long tb, .ref cd8, .int (nI (nq * mn)), .ref opa, .ref osa])), (hd8, .inl (cJ, 4, .inr (.inl hq))), (od8, .inl (cZ, 4, .inl oq)), (cd8, .inl (cI, 54, .inl pq))] H := hP
        have hD : va_D A [(m8, .inr (6, [.int 0, .ref wa, .ref pa8, .ref sta, .ref mo, .ref hea, .ref tha, .int 1, .int 0, .int op8, .int (nI nq), .int 0, .int (-1), .int tu, .int la, .int ps, .ref hd8, .ref od8, .long tb, .ref cd8, .int (nI (nq * mn)), .ref opa, .ref osa])), (hd8, .inl (cJ, 4, .inr (.inl hq))), (od8, .inl (cZ, 4, .inl oq)), (cd8, .inl (cI, 54, .inl pq))] := hD
        refine lv_aload_n hx hb dX8_deal_256 rfl (lv_at hl 0 rfl) ?_
        refine lv_iconst (v := 0) hx hb dX8_deal_257 (by decide) ?_
        refine va_put (D := D) (ci := 6) (v := .int 0) (ty := .int) (C := RX8) (T := TX8) (N := 23) hx hb hts iX8 tyX8 tyX8_ok nmX8 hown hK hP hD hS 0 rfl rfl 13 (by decide) k171 (fun _ h9 => h9) rfl (by decide +kernel) rfl rfl (Nat.le_of_ble_eq_true rfl) dX8_deal_258 (fun H locs hP hD hS => ?_)
        have hP : va_P D vwCl [(m8, .inr (6, [.int 0, .ref wa, .ref pa8, .ref sta, .ref mo, .ref hea, .ref tha, .int 1, .int 0, .int op8, .int (nI nq), .int 0, .int (-1), .int 0, .int la, .int ps, .ref hd8, .ref od8, .long tb, .ref cd8, .int (nI (nq * mn)), .ref opa, .ref osa])), (hd8, .inl (cJ, 4, .inr (.inl hq))), (od8, .inl (cZ, 4, .inl oq)), (cd8, .inl (cI, 54, .inl pq))] H := hP
        have hD : va_D A [(m8, .inr (6, [.int 0, .ref wa, .ref pa8, .ref sta, .ref mo, .ref hea, .ref tha, .int 1, .int 0, .int op8, .int (nI nq), .int 0, .int (-1), .int 0, .int la, .int ps, .ref hd8, .ref od8, .long tb, .ref cd8, .int (nI (nq * mn)), .ref opa, .ref osa])), (hd8, .inl (cJ, 4, .inr (.inl hq))), (od8, .inl (cZ, 4, .inl oq)), (cd8, .inl (cI, 54, .inl pq))] := hD
        refine lv_aload_n hx hb dX8_deal_261 rfl (lv_at hl 0 rfl) ?_
        refine lv_iconst (v := 0) hx hb dX8_deal_262 (by decide) ?_
        refine va_put (D := D) (ci := 6) (v := .int 0) (ty := .int) (C := RX8) (T := TX8) (N := 23) hx hb hts iX8 tyX8 tyX8_ok nmX8 hown hK hP hD hS 0 rfl rfl 14 (by decide) k174 (fun _ h9 => h9) rfl (by decide +kernel) rfl rfl (Nat.le_of_ble_eq_true rfl) dX8_deal_263 (fun H locs hP hD hS => ?_)
        have hP : va_P D vwCl [(m8, .inr (6, [.int 0, .ref wa, .ref pa8, .ref sta, .ref mo, .ref hea, .ref tha, .int 1, .int 0, .int op8, .int (nI nq), .int 0, .int (-1), .int 0, .int 0, .int ps, .ref hd8, .ref od8, .long tb, .ref cd8, .int (nI (nq * mn)), .ref opa, .ref osa])), (hd8, .inl (cJ, 4, .inr (.inl hq))), (od8, .inl (cZ, 4, .inl oq)), (cd8, .inl (cI, 54, .inl pq))] H := hP
        have hD : va_D A [(m8, .inr (6, [.int 0, .ref wa, .ref pa8, .ref sta, .ref mo, .ref hea, .ref tha, .int 1, .int 0, .int op8, .int (nI nq), .int 0, .int (-1), .int 0, .int 0, .int ps, .ref hd8, .ref od8, .long tb, .ref cd8, .int (nI (nq * mn)), .ref opa, .ref osa])), (hd8, .inl (cJ, 4, .inr (.inl hq))), (od8, .inl (cZ, 4, .inl oq)), (cd8, .inl (cI, 54, .inl pq))] := hD
        refine lv_aload_n hx hb dX8_deal_266 rfl (lv_at hl 0 rfl) ?_
        refine lv_iconst (v := 0) hx hb dX8_deal_267 (by decide) ?_
        refine va_put (D := D) (ci := 6) (v := .int 0) (ty := .int) (C := RX8) (T := TX8) (N := 23) hx hb hts iX8 tyX8 tyX8_ok nmX8 hown hK hP hD hS 0 rfl rfl 15 (by decide) k177 (fun _ h9 => h9) rfl (by decide +kernel) rfl rfl (Nat.le_of_ble_eq_true rfl) dX8_deal_268 (fun H locs hP hD hS => ?_)
        have hP : va_P D vwCl [(m8, .inr (6, [.int 0, .ref wa, .ref pa8, .ref sta, .ref mo, .ref hea, .ref tha, .int 1, .int 0, .int op8, .int (nI nq), .int 0, .int (-1), .int 0, .int 0, .int 0, .ref hd8, .ref od8, .long tb, .ref cd8, .int (nI (nq * mn)), .ref opa, .ref osa])), (hd8, .inl (cJ, 4, .inr (.inl hq))), (od8, .inl (cZ, 4, .inl oq)), (cd8, .inl (cI, 54, .inl pq))] H := hP
        have hD : va_D A [(m8, .inr (6, [.int 0, .ref wa, .ref pa8, .ref sta, .ref mo, .ref hea, .ref tha, .int 1, .int 0, .int op8, .int (nI nq), .int 0, .int (-1), .int 0, .int 0, .int 0, .ref hd8, .ref od8, .long tb, .ref cd8, .int (nI (nq * mn)), .ref opa, .ref osa])), (hd8, .inl (cJ, 4, .inr (.inl hq))), (od8, .inl (cZ, 4, .inl oq)), (cd8, .inl (cI, 54, .inl pq))] := hD
        refine lv_aload_n hx hb dX8_deal_271 rfl (lv_at hl 0 rfl) ?_
        refine lv_lconst (v := 0) hx hb dX8_deal_272 (by decide) ?_
        refine va_put (D := D) (ci := 6) (v := .long 0) (ty := .long) (C := RX8) (T := TX8) (N := 23) hx hb hts iX8 tyX8 tyX8_ok nmX8 hown hK hP hD hS 0 rfl rfl 18 (by decide) k180 (fun _ h9 => h9) rfl (by decide +kernel) rfl rfl (Nat.le_of_ble_eq_true rfl) dX8_deal_273 (fun H locs hP hD hS => ?_)
        have hP : va_P D vwCl [(m8, .inr (6, [.int 0, .ref wa, .ref pa8, .ref sta, .ref mo, .ref hea, .ref tha, .int 1, .int 0, .int op8, .int (nI nq), .int 0, .int (-1), .int 0, .int 0, .int 0, .ref hd8, .ref od8, .long 0, .ref cd8, .int (nI (nq * mn)), .ref opa, .ref osa])), (hd8, .inl (cJ, 4, .inr (.inl hq))), (od8, .inl (cZ, 4, .inl oq)), (cd8, .inl (cI, 54, .inl pq))] H := hP
        have hD : va_D A [(m8, .inr (6, [.int 0, .ref wa, .ref pa8, .ref sta, .ref mo, .ref hea, .ref tha, .int 1, .int 0, .int op8, .int (nI nq), .int 0, .int (-1), .int 0, .int 0, .int 0, .ref hd8, .ref od8, .long 0, .ref cd8, .int (nI (nq * mn)), .ref opa, .ref osa])), (hd8, .inl (cJ, 4, .inr (.inl hq))), (od8, .inl (cZ, 4, .inl oq)), (cd8, .inl (cI, 54, .inl pq))] := hD
        refine lv_iconst (v := 1) hx hb dX8_deal_276 (by decide) ?_
        rw [← hQ]
        have hP9 := hP.sub (ws' := [(m8, .inr (6, [.int 0, .ref wa, .ref pa8, .ref sta, .ref mo, .ref hea, .ref tha, .int 1, .int 0, .int op8, .int (nI nq), .int 0, .int (-1), .int 0, .int 0, .int 0, .ref hd8, .ref od8, .long 0, .ref cd8, .int (nI (nq * mn)), .ref opa, .ref osa])), (hd8, .inl (cJ, 4, .inr (.inl hq))), (od8, .inl (cZ, 4, .inl oq)), (cd8, .inl (cI, 54, .inl pq))]) [0, 1, 2, 3] rfl
        have hD9 := hD.sub (ws' := [(m8, .inr (6, [.int 0, .ref wa, .ref pa8, .ref sta, .ref mo, .ref hea, .ref tha, .int 1, .int 0, .int op8, .int (nI nq), .int 0, .int (-1), .int 0, .int 0, .int 0, .ref hd8, .ref od8, .long 0, .ref cd8, .int (nI (nq * mn)), .ref opa, .ref osa])), (hd8, .inl (cJ, 4, .inr (.inl hq))), (od8, .inl (cZ, 4, .inl oq)), (cd8, .inl (cI, 54, .inl pq))]) [0, 1, 2, 3] (by decide) rfl
        exact W.zret (v := 1) hx hb hr (by first | decide | rfl | assumption) (fun t ht hW => ⟨⟨1, (nI (nq * mn), hq, oq, pq), rfl, ⟨⟨rfl, fun q h => hhq q (by omega), fun q h => hoq q (by omega), hpq⟩, rfl⟩, (by show wB D A _ t; exact ⟨by rw [ht]; exact hP9, hD9⟩)⟩, hS.F ht⟩) hS.2.2 dX8_deal_277
      · have hpn : p1 < nq := hp_lt h6 rfl hp4 (by omega) c_160
        refine lv_aload_n hx hb dX8_deal_163 rfl (lv_at hl 0 rfl) ?_
        refine va_get (D := D) (ci := 6) (v := .ref hd8) (C := RX8) (T := TX8) (N := 23) hx hb hts iX8 hown hK hP 0 rfl rfl 16 (by decide) k35 (fun _ h9 => h9) rfl dX8_deal_164 ?_
        refine lv_iload hx hb dX8_deal_167 (lv_at hl 3 rfl) ?_
        refine lv_lconst (v := 0) hx hb dX8_deal_169 (by decide) ?_
        refine va_last hx hb hK hP hD hS 1 1 rfl rfl (by rw [h6]; exact vp_in_nI (by omega) (by decide)) dX8_deal_170 (fun H locs hP hD hS => ?_)
        have hP : va_P D vwCl [(m8, .inr (6, [.int 0, .ref wa, .ref pa8, .ref sta, .ref mo, .ref hea, .ref tha, .int ig, .int io, .int op8, .int pl8, .int py, .int wn, .int tu, .int la, .int ps, .ref hd8, .ref od8, .long tb, .ref cd8, .int (nI (bgT nq mn p1)), .ref opa, .ref osa])), (hd8, .inl (cJ, 4, .inr (.inl (vp_updL hq x6.toNatClampNeg 0)))), (od8, .inl (cZ, 4, .inl oq)), (cd8, .inl (cI, 54, .inl pq))] H := hP
        have hD : va_D A [(m8, .inr (6, [.int 0, .ref wa, .ref pa8, .ref sta, .ref mo, .ref hea, .ref tha, .int ig, .int io, .int op8, .int pl8, .int py, .int wn, .int tu, .int la, .int ps, .ref hd8, .ref od8, .long tb, .ref cd8, .int (nI (bgT nq mn p1)), .ref opa, .ref osa])), (hd8, .inl (cJ, 4, .inr (.inl (vp_updL hq x6.toNatClampNeg 0)))), (od8, .inl (cZ, 4, .inl oq)), (cd8, .inl (cI, 54, .inl pq))] := hD
        generalize ex170 : vp_updL hq x6.toNatClampNeg 0 = x170 at hP hD
        refine lv_aload_n hx hb dX8_deal_171 rfl (lv_at hl 0 rfl) ?_
        refine va_get (D := D) (ci := 6) (v := .ref od8) (C := RX8) (T := TX8) (N := 23) hx hb hts iX8 hown hK hP 0 rfl rfl 17 (by decide) k38 (fun _ h9 => h9) rfl dX8_deal_172 ?_
        refine lv_iload hx hb dX8_deal_175 (lv_at hl 3 rfl) ?_
        refine lv_iconst (v := 0) hx hb dX8_deal_177 (by decide) ?_
        refine va_zast hx hb hK hP hD hS 2 2 rfl rfl (by rw [h6]; exact vp_in_nI (by omega) (by decide)) dX8_deal_178 (fun H locs hP hD hS => ?_)
        have hP : va_P D vwCl [(m8, .inr (6, [.int 0, .ref wa, .ref pa8, .ref sta, .ref mo, .ref hea, .ref tha, .int ig, .int io, .int op8, .int pl8, .int py, .int wn, .int tu, .int la, .int ps, .ref hd8, .ref od8, .long tb, .ref cd8, .int (nI (bgT nq mn p1)), .ref opa, .ref osa])), (hd8, .inl (cJ, 4, .inr (.inl x170))), (od8, .inl (cZ, 4, .inl (upd oq x6.toNatClampNeg (vp_nar .boolean 0)))), (cd8, .inl (cI, 54, .inl pq))] H := hP
        have hD : va_D A [(m8, .inr (6, [.int 0, .ref wa, .ref pa8, .ref sta, .ref mo, .ref hea, .ref tha, .int ig, .int io, .int op8, .int pl8, .int py, .int wn, .int tu, .int la, .int ps, .ref hd8, .ref od8, .long tb, .ref cd8, .int (nI (bgT nq mn p1)), .ref opa, .ref osa])), (hd8, .inl (cJ, 4, .inr (.inl x170))), (od8, .inl (cZ, 4, .inl (upd oq x6.toNatClampNeg (vp_nar .boolean 0)))), (cd8, .inl (cI, 54, .inl pq))] := hD
        generalize ex178 : upd oq x6.toNatClampNeg (vp_nar .boolean 0) = x178 at hP hD
        refine lv_iconst (v := 0) hx hb dX8_deal_179 (by decide) ?_
        refine lv_istore (lv' := [(7, .int 0), (0, .ref m8), (1, .int (nI nq)), (2, .int (nI mn)), (6, .int x6)]) hx hb dX8_deal_180 hl (by decide) rfl (fun ls hl => ?_)
        exact lab182 _ 0 0 x170 x178 (hpn) (nI_0.symm) (by omega) (hp_lk h6 (by omega) ex170) (fun q hq2 => by rw [hp_hk h6 (by omega) ex170 q (by omega)]; exact hhq q hq2) (fun q hq2 => by rcases Nat.lt_succ_iff_lt_or_eq.mp hq2 with h | h; rw [(hp_zk h6 (by omega) ex178).2 q (by omega)]; exact hoq q h; subst h; exact (hp_zk h6 (by omega) ex178).1) (Nat.lt_succ_self _) _ _ hP hD hS ls (lv_sub hl [1, 2, 3, 4, 0] rfl)
  have lab83 : ∀ fuel83 : Nat, ∀ (n : Nat) (sv : Int64) (x6 : Int32) (pq : Nat → Int32), (h6 : x6 = nI (53 - n)) → (hn : n ≤ 53) → (hsv : sv = lN (shN sd n).1) → (hq : ∀ k, k < 54 → pq k = nI ((shN sd n).2 k)) → (hfu83 : 53 - n < fuel83) → ∀ (H : Heap) (locs : List Loc), va_P D vwCl [(m8, .inr (6, [.int 0, .ref wa, .ref pa8, .ref sta, .ref mo, .ref hea, .ref tha, .int ig, .int io, .int op8, .int pl8, .int py, .int wn, .int tu, .int la, .int ps, .ref hd8, .ref od8, .long tb, .ref cd8, .int dr, .ref opa, .ref osa])), (hd8, .inl (cJ, 4, .inr (.inl hf8))), (od8, .inl (cZ, 4, .inl of8)), (cd8, .inl (cI, 54, .inl pq))] H → va_D A [(m8, .inr (6, [.int 0, .ref wa, .ref pa8, .ref sta, .ref mo, .ref hea, .ref tha, .int ig, .int io, .int op8, .int pl8, .int py, .int wn, .int tu, .int la, .int ps, .ref hd8, .ref od8, .long tb, .ref cd8, .int dr, .ref opa, .ref osa])), (hd8, .inl (cJ, 4, .inr (.inl hf8))), (od8, .inl (cZ, 4, .inl of8)), (cd8, .inl (cI, 54, .inl pq))] → va_S A s.heap H locs → ∀ ls : Array Slot, lv_has ls 9 [(0, .ref m8), (1, .int (nI nq)), (2, .int (nI mn)), (4, .long sv), (6, .int x6)] → W p l e (headSpec wsX8_deal ({ frames := 0, cells := 0, slots := 0, locals := 0 } : Room)).room s m args below meth c H locs 0 0 Q (F0 m 83 ls []) := by
    intro fuel83
    induction fuel83 with
    | zero =>
      intro n sv x6 pq h6 hn hsv hq hfu83
      exact absurd hfu83 (Nat.not_lt_zero _)
    | succ fuel83 ih83 =>
      intro n sv x6 pq h6 hn hsv hq hfu83 H locs hP hD hS ls hl
      refine lv_iload hx hb dX8_deal_83 (lv_at hl 4 rfl) ?_
      refine lv_if_le (tgt := 149) hx hb dX8_deal_85 (by decide) (fun c_85 => ?_) (fun c_85 => ?_)
      · have hn53 : n = 53 := hp_le0 h6 hn c_85
        subst hn53
        have hq53 := hq
        refine lv_aload_n hx hb dX8_deal_149 rfl (lv_at hl 0 rfl) ?_
        refine lv_iconst (v := 0) hx hb dX8_deal_150 (by decide) ?_
        refine va_put (D := D) (ci := 6) (v := .int 0) (ty := .int) (C := RX8) (T := TX8) (N := 23) hx hb hts iX8 tyX8 tyX8_ok nmX8 hown hK hP hD hS 0 rfl rfl 20 (by decide) k152 (fun _ h9 => h9) rfl (by decide +kernel) rfl rfl (Nat.le_of_ble_eq_true rfl) dX8_deal_151 (fun H locs hP hD hS => ?_)
        have hP : va_P D vwCl [(m8, .inr (6, [.int 0, .ref wa, .ref pa8, .ref sta, .ref mo, .ref hea, .ref tha, .int ig, .int io, .int op8, .int pl8, .int py, .int wn, .int tu, .int la, .int ps, .ref hd8, .ref od8, .long tb, .ref cd8, .int 0, .ref opa, .ref osa])), (hd8, .inl (cJ, 4, .inr (.inl hf8))), (od8, .inl (cZ, 4, .inl of8)), (cd8, .inl (cI, 54, .inl pq))] H := hP
        have hD : va_D A [(m8, .inr (6, [.int 0, .ref wa, .ref pa8, .ref sta, .ref mo, .ref hea, .ref tha, .int ig, .int io, .int op8, .int pl8, .int py, .int wn, .int tu, .int la, .int ps, .ref hd8, .ref od8, .long tb, .ref cd8, .int 0, .ref opa, .ref osa])), (hd8, .inl (cJ, 4, .inr (.inl hf8))), (od8, .inl (cZ, 4, .inl of8)), (cd8, .inl (cI, 54, .inl pq))] := hD
        have e9 : (0 : Int32) = nI (bgT nq mn 0) := bgT_0
        have hP : va_P D vwCl [(m8, .inr (6, [.int 0, .ref wa, .ref pa8, .ref sta, .ref mo, .ref hea, .ref tha, .int ig, .int io, .int op8, .int pl8, .int py, .int wn, .int tu, .int la, .int ps, .ref hd8, .ref od8, .long tb, .ref cd8, .int (nI (bgT nq mn 0)), .ref opa, .ref osa])), (hd8, .inl (cJ, 4, .inr (.inl hf8))), (od8, .inl (cZ, 4, .inl of8)), (cd8, .inl (cI, 54, .inl pq))] H := by rw [← e9]; exact hP
        have hD : va_D A [(m8, .inr (6, [.int 0, .ref wa, .ref pa8, .ref sta, .ref mo, .ref hea, .ref tha, .int ig, .int io, .int op8, .int pl8, .int py, .int wn, .int tu, .int la, .int ps, .ref hd8, .ref od8, .long tb, .ref cd8, .int (nI (bgT nq mn 0)), .ref opa, .ref osa])), (hd8, .inl (cJ, 4, .inr (.inl hf8))), (od8, .inl (cZ, 4, .inl of8)), (cd8, .inl (cI, 54, .inl pq))] := by rw [← e9]; exact hD
        refine lv_iconst (v := 0) hx hb dX8_deal_154 (by decide) ?_
        refine lv_istore (lv' := [(6, .int 0), (0, .ref m8), (1, .int (nI nq)), (2, .int (nI mn)), (4, .long sv)]) hx hb dX8_deal_155 hl (by decide) rfl (fun ls hl => ?_)
        exact lab157 _ 0 0 hf8 of8 pq (hq53) (nI_0.symm) (by omega) (fun q h => absurd h (Nat.not_lt_zero q)) (fun q h => absurd h (Nat.not_lt_zero q)) (Nat.lt_succ_self _) _ _ hP hD hS ls (lv_sub hl [1, 2, 3, 0] rfl)
      · have hlt := hp_nle0 h6 hn c_85
        have hab := shN_lt hs2 n
        refine lv_ldc2 hx hb hown k148 dX8_deal_88 ?_
        refine lv_lload hx hb dX8_deal_91 (lv_at hl 3 rfl) ?_
        refine lv_lmul hx hb dX8_deal_93 ?_
        refine lv_ldc2 hx hb hown k150 dX8_deal_94 ?_
        refine lv_lrem hx hb dX8_deal_97 (by decide) ?_
        refine lv_topl (fun x98 ex98 => ?_)
        refine lv_lstore (lv' := [(4, .long x98), (0, .ref m8), (1, .int (nI nq)), (2, .int (nI mn)), (6, .int x6)]) hx hb dX8_deal_98 hl (by decide) rfl (fun ls hl => ?_)
        have hs98 : x98 = lN (shN sd (n + 1)).1 := by rw [ex98, hsv]; exact hp_lcg hab
        refine lv_lload hx hb dX8_deal_100 (lv_at hl 0 rfl) ?_
        refine lv_iload hx hb dX8_deal_102 (lv_at hl 4 rfl) ?_
        refine lv_iconst (v := 1) hx hb dX8_deal_104 (by decide) ?_
        refine lv_iadd hx hb dX8_deal_105 ?_
        refine lv_i2l hx hb dX8_deal_106 rfl ?_
        refine lv_lrem hx hb dX8_deal_107 (hp_nz h6 (by omega)) ?_
        refine lv_l2i hx hb dX8_deal_108 rfl ?_
        refine lv_topi (fun x109 ex109 => ?_)
        refine lv_istore (lv' := [(7, .int x109), (4, .long x98), (0, .ref m8), (1, .int (nI nq)), (2, .int (nI mn)), (6, .int x6)]) hx hb dX8_deal_109 hl (by decide) rfl (fun ls hl => ?_)
        have hj : x109 = nI (48271 * (shN sd n).1 % 2147483647 % (53 - n + 1)) := by rw [ex109, hs98]; exact hp_mod h6 (shN_lt hs2 (n + 1)) (by omega)
        have hmm : 48271 * (shN sd n).1 % 2147483647 % (53 - n + 1) < 54 := Nat.lt_of_lt_of_le (Nat.mod_lt _ (Nat.succ_pos _)) (by omega)
        refine lv_aload_n hx hb dX8_deal_111 rfl (lv_at hl 2 rfl) ?_
        refine va_get (D := D) (ci := 6) (v := .ref cd8) (C := RX8) (T := TX8) (N := 23) hx hb hts iX8 hown hK hP 0 rfl rfl 19 (by decide) k41 (fun _ h9 => h9) rfl dX8_deal_112 ?_
        refine lv_iload hx hb dX8_deal_115 (lv_at hl 5 rfl) ?_
        refine va_iald hx hb hK hP 3 0 rfl rfl (by rw [h6]; exact vp_in_nI (by omega) (by decide)) dX8_deal_117 ?_
        refine lv_topi (fun x118 ex118 => ?_)
        refine lv_istore (lv' := [(8, .int x118), (7, .int x109), (4, .long x98), (0, .ref m8), (1, .int (nI nq)), (2, .int (nI mn)), (6, .int x6)]) hx hb dX8_deal_118 hl (by decide) rfl (fun ls hl => ?_)
        refine lv_aload_n hx hb dX8_deal_120 rfl (lv_at hl 3 rfl) ?_
        refine va_get (D := D) (ci := 6) (v := .ref cd8) (C := RX8) (T := TX8) (N := 23) hx hb hts iX8 hown hK hP 0 rfl rfl 19 (by decide) k41 (fun _ h9 => h9) rfl dX8_deal_121 ?_
        refine lv_iload hx hb dX8_deal_124 (lv_at hl 6 rfl) ?_
        refine lv_aload_n hx hb dX8_deal_126 rfl (lv_at hl 3 rfl) ?_
        refine va_get (D := D) (ci := 6) (v := .ref cd8) (C := RX8) (T := TX8) (N := 23) hx hb hts iX8 hown hK hP 0 rfl rfl 19 (by decide) k41 (fun _ h9 => h9) rfl dX8_deal_127 ?_
        refine lv_iload hx hb dX8_deal_130 (lv_at hl 1 rfl) ?_
        refine va_iald hx hb hK hP 3 0 rfl rfl (by rw [hj]; exact vp_in_nI hmm (by decide)) dX8_deal_132 ?_
        refine va_iast hx hb hK hP hD hS 3 0 rfl rfl (by rw [h6]; exact vp_in_nI (by omega) (by decide)) dX8_deal_133 (fun H locs hP hD hS => ?_)
        have hP : va_P D vwCl [(m8, .inr (6, [.int 0, .ref wa, .ref pa8, .ref sta, .ref mo, .ref hea, .ref tha, .int ig, .int io, .int op8, .int pl8, .int py, .int wn, .int tu, .int la, .int ps, .ref hd8, .ref od8, .long tb, .ref cd8, .int dr, .ref opa, .ref osa])), (hd8, .inl (cJ, 4, .inr (.inl hf8))), (od8, .inl (cZ, 4, .inl of8)), (cd8, .inl (cI, 54, .inl (upd pq x6.toNatClampNeg (pq x109.toNatClampNeg))))] H := hP
        have hD : va_D A [(m8, .inr (6, [.int 0, .ref wa, .ref pa8, .ref sta, .ref mo, .ref hea, .ref tha, .int ig, .int io, .int op8, .int pl8, .int py, .int wn, .int tu, .int la, .int ps, .ref hd8, .ref od8, .long tb, .ref cd8, .int dr, .ref opa, .ref osa])), (hd8, .inl (cJ, 4, .inr (.inl hf8))), (od8, .inl (cZ, 4, .inl of8)), (cd8, .inl (cI, 54, .inl (upd pq x6.toNatClampNeg (pq x109.toNatClampNeg))))] := hD
        generalize ex133 : upd pq x6.toNatClampNeg (pq x109.toNatClampNeg) = x133 at hP hD
        refine lv_aload_n hx hb dX8_deal_134 rfl (lv_at hl 3 rfl) ?_
        refine va_get (D := D) (ci := 6) (v := .ref cd8) (C := RX8) (T := TX8) (N := 23) hx hb hts iX8 hown hK hP 0 rfl rfl 19 (by decide) k41 (fun _ h9 => h9) rfl dX8_deal_135 ?_
        refine lv_iload hx hb dX8_deal_138 (lv_at hl 1 rfl) ?_
        refine lv_iload hx hb dX8_deal_140 (lv_at hl 0 rfl) ?_
        refine va_iast hx hb hK hP hD hS 3 0 rfl rfl (by rw [hj]; exact vp_in_nI hmm (by decide)) dX8_deal_142 (fun H locs hP hD hS => ?_)
        have hP : va_P D vwCl [(m8, .inr (6, [.int 0, .ref wa, .ref pa8, .ref sta, .ref mo, .ref hea, .ref tha, .int ig, .int io, .int op8, .int pl8, .int py, .int wn, .int tu, .int la, .int ps, .ref hd8, .ref od8, .long tb, .ref cd8, .int dr, .ref opa, .ref osa])), (hd8, .inl (cJ, 4, .inr (.inl hf8))), (od8, .inl (cZ, 4, .inl of8)), (cd8, .inl (cI, 54, .inl (upd x133 x109.toNatClampNeg x118)))] H := hP
        have hD : va_D A [(m8, .inr (6, [.int 0, .ref wa, .ref pa8, .ref sta, .ref mo, .ref hea, .ref tha, .int ig, .int io, .int op8, .int pl8, .int py, .int wn, .int tu, .int la, .int ps, .ref hd8, .ref od8, .long tb, .ref cd8, .int dr, .ref opa, .ref osa])), (hd8, .inl (cJ, 4, .inr (.inl hf8))), (od8, .inl (cZ, 4, .inl of8)), (cd8, .inl (cI, 54, .inl (upd x133 x109.toNatClampNeg x118)))] := hD
        generalize ex142 : upd x133 x109.toNatClampNeg x118 = x142 at hP hD
        obtain ⟨x143, ex143⟩ : ∃ y : Int32, y = x6 + (-1) := ⟨_, rfl⟩
        refine lv_iinc (v := x143) (lv' := [(6, .int x143), (8, .int x118), (7, .int x109), (4, .long x98), (0, .ref m8), (1, .int (nI nq)), (2, .int (nI mn))]) hx hb dX8_deal_143 hl (k := 6) rfl (by rw [ex143]; rfl) (by decide) rfl (fun ls hl => ?_)
        refine lv_goto (tgt := 83) hx hb dX8_deal_146 (by decide) ?_
        exact ih83 (n + 1) x98 x143 x142 (hp_down ex143 h6 hlt) (by omega) (hs98) (hp_swap h6 hj ex118 ex133 ex142 hlt hq) (by omega) _ _ hP hD hS ls (lv_sub hl [4, 5, 6, 3, 0] rfl)
  have lab53 : ∀ fuel53 : Nat, ∀ (i : Nat) (x4 : Int32) (pq : Nat → Int32), (h4 : x4 = nI i) → (hi : i ≤ 54) → (hf : ∀ k, k < i → pq k = nI k) → (hfu53 : 54 - i < fuel53) → ∀ (H : Heap) (locs : List Loc), va_P D vwCl [(m8, .inr (6, [.int 0, .ref wa, .ref pa8, .ref sta, .ref mo, .ref hea, .ref tha, .int ig, .int io, .int op8, .int pl8, .int py, .int wn, .int tu, .int la, .int ps, .ref hd8, .ref od8, .long tb, .ref cd8, .int dr, .ref opa, .ref osa])), (hd8, .inl (cJ, 4, .inr (.inl hf8))), (od8, .inl (cZ, 4, .inl of8)), (cd8, .inl (cI, 54, .inl pq))] H → va_D A [(m8, .inr (6, [.int 0, .ref wa, .ref pa8, .ref sta, .ref mo, .ref hea, .ref tha, .int ig, .int io, .int op8, .int pl8, .int py, .int wn, .int tu, .int la, .int ps, .ref hd8, .ref od8, .long tb, .ref cd8, .int dr, .ref opa, .ref osa])), (hd8, .inl (cJ, 4, .inr (.inl hf8))), (od8, .inl (cZ, 4, .inl of8)), (cd8, .inl (cI, 54, .inl pq))] → va_S A s.heap H locs → ∀ ls : Array Slot, lv_has ls 9 [(0, .ref m8), (1, .int (nI nq)), (2, .int (nI mn)), (3, .int (nI sd)), (4, .int x4)] → W p l e (headSpec wsX8_deal ({ frames := 0, cells := 0, slots := 0, locals := 0 } : Room)).room s m args below meth c H locs 0 0 Q (F0 m 53 ls []) := by
    intro fuel53
    induction fuel53 with
    | zero =>
      intro i x4 pq h4 hi hf hfu53
      exact absurd hfu53 (Nat.not_lt_zero _)
    | succ fuel53 ih53 =>
      intro i x4 pq h4 hi hf hfu53 H locs hP hD hS ls hl
      refine lv_iload hx hb dX8_deal_53 (lv_at hl 4 rfl) ?_
      refine lv_bipush (v := 54) hx hb dX8_deal_55 (by decide) ?_
      refine lv_icmp_ge (tgt := 75) hx hb dX8_deal_57 (by decide) (fun c_57 => ?_) (fun c_57 => ?_)
      · have hi54 := hp_ge h4 (by decide : (54 : Int32) = nI 54) hi (by decide) c_57
        subst hi54
        refine lv_iload_n hx hb dX8_deal_75 rfl (lv_at hl 3 rfl) ?_
        refine lv_i2l hx hb dX8_deal_76 rfl ?_
        refine lv_topl (fun x77 ex77 => ?_)
        refine lv_lstore (lv' := [(4, .long x77), (0, .ref m8), (1, .int (nI nq)), (2, .int (nI mn)), (3, .int (nI sd))]) hx hb dX8_deal_77 hl (by decide) rfl (fun ls hl => ?_)
        refine lv_bipush (v := 53) hx hb dX8_deal_79 (by decide) ?_
        refine lv_istore (lv' := [(6, .int 53), (4, .long x77), (0, .ref m8), (1, .int (nI nq)), (2, .int (nI mn)), (3, .int (nI sd))]) hx hb dX8_deal_81 hl (by decide) rfl (fun ls hl => ?_)
        exact lab83 _ 0 x77 53 pq (rfl) (by omega) (by rw [ex77]; exact nI_l (by omega)) (fun k hk => hf k hk) (Nat.lt_succ_self _) _ _ hP hD hS ls (lv_sub hl [2, 3, 4, 1, 0] rfl)
      · have hlt := hp_lt h4 (by decide : (54 : Int32) = nI 54) hi (by decide) c_57
        refine lv_aload_n hx hb dX8_deal_60 rfl (lv_at hl 0 rfl) ?_
        refine va_get (D := D) (ci := 6) (v := .ref cd8) (C := RX8) (T := TX8) (N := 23) hx hb hts iX8 hown hK hP 0 rfl rfl 19 (by decide) k41 (fun _ h9 => h9) rfl dX8_deal_61 ?_
        refine lv_iload hx hb dX8_deal_64 (lv_at hl 4 rfl) ?_
        refine lv_iload hx hb dX8_deal_66 (lv_at hl 4 rfl) ?_
        refine va_iast hx hb hK hP hD hS 3 0 rfl rfl (by rw [h4]; exact vp_in_nI hlt (by decide)) dX8_deal_68 (fun H locs hP hD hS => ?_)
        have hP : va_P D vwCl [(m8, .inr (6, [.int 0, .ref wa, .ref pa8, .ref sta, .ref mo, .ref hea, .ref tha, .int ig, .int io, .int op8, .int pl8, .int py, .int wn, .int tu, .int la, .int ps, .ref hd8, .ref od8, .long tb, .ref cd8, .int dr, .ref opa, .ref osa])), (hd8, .inl (cJ, 4, .inr (.inl hf8))), (od8, .inl (cZ, 4, .inl of8)), (cd8, .inl (cI, 54, .inl (upd pq x4.toNatClampNeg x4)))] H := hP
        have hD : va_D A [(m8, .inr (6, [.int 0, .ref wa, .ref pa8, .ref sta, .ref mo, .ref hea, .ref tha, .int ig, .int io, .int op8, .int pl8, .int py, .int wn, .int tu, .int la, .int ps, .ref hd8, .ref od8, .long tb, .ref cd8, .int dr, .ref opa, .ref osa])), (hd8, .inl (cJ, 4, .inr (.inl hf8))), (od8, .inl (cZ, 4, .inl of8)), (cd8, .inl (cI, 54, .inl (upd pq x4.toNatClampNeg x4)))] := hD
        generalize ex68 : upd pq x4.toNatClampNeg x4 = x68 at hP hD
        obtain ⟨x69, ex69⟩ : ∃ y : Int32, y = x4 + 1 := ⟨_, rfl⟩
        refine lv_iinc (v := x69) (lv' := [(4, .int x69), (0, .ref m8), (1, .int (nI nq)), (2, .int (nI mn)), (3, .int (nI sd))]) hx hb dX8_deal_69 hl (k := 4) rfl (by rw [ex69]; rfl) (by decide) rfl (fun ls hl => ?_)
        refine lv_goto (tgt := 53) hx hb dX8_deal_72 (by decide) ?_
        exact ih53 (i + 1) x69 x68 (hp_s ex69 h4) (by omega) (hp_id ex68 h4 (by omega) hf) (by omega) _ _ hP hD hS ls (lv_sub hl [1, 2, 3, 4, 0] rfl)
  refine lv_aload_n hx hb dX8_deal_0 rfl (lv_at hl 0 rfl) ?_
  refine lv_iload_n hx hb dX8_deal_1 rfl (lv_at hl 1 rfl) ?_
  refine lv_iconst (v := 2) hx hb dX8_deal_2 (by decide) ?_
  refine lv_icmp_lt (tgt := 33) hx hb dX8_deal_3 (by decide) (fun c_3 => ?_) (fun c_3 => ?_)
  · exact absurd c_3 (nI_nlt (b := 2) hn2 (by omega))
  · refine lv_iload_n hx hb dX8_deal_6 rfl (lv_at hl 1 rfl) ?_
    refine lv_iconst (v := 4) hx hb dX8_deal_7 (by decide) ?_
    refine lv_icmp_gt (tgt := 33) hx hb dX8_deal_8 (by decide) (fun c_8 => ?_) (fun c_8 => ?_)
    · exact absurd c_8 (nI_nlt (a := 4) hn4 (by decide))
    · refine lv_iload_n hx hb dX8_deal_11 rfl (lv_at hl 2 rfl) ?_
      refine lv_iconst (v := 1) hx hb dX8_deal_12 (by decide) ?_
      refine lv_icmp_lt (tgt := 33) hx hb dX8_deal_13 (by decide) (fun c_13 => ?_) (fun c_13 => ?_)
      · exact absurd c_13 (nI_nlt (b := 1) hm0 (by omega))
      · refine lv_iload_n hx hb dX8_deal_16 rfl (lv_at hl 2 rfl) ?_
        refine lv_bipush (v := 13) hx hb dX8_deal_17 (by decide) ?_
        refine lv_icmp_gt (tgt := 33) hx hb dX8_deal_19 (by decide) (fun c_19 => ?_) (fun c_19 => ?_)
        · exact absurd c_19 (nI_nlt (a := 13) hm1 (by decide))
        · refine lv_iload_n hx hb dX8_deal_22 rfl (lv_at hl 3 rfl) ?_
          refine lv_iconst (v := 1) hx hb dX8_deal_23 (by decide) ?_
          refine lv_icmp_lt (tgt := 33) hx hb dX8_deal_24 (by decide) (fun c_24 => ?_) (fun c_24 => ?_)
          · exact absurd c_24 (nI_nlt (b := 1) hs1 (by omega))
          · refine lv_iload_n hx hb dX8_deal_27 rfl (lv_at hl 3 rfl) ?_
            refine lv_ldc hx hb hown k147 dX8_deal_28 ?_
            refine lv_icmp_le (tgt := 37) hx hb dX8_deal_30 (by decide) (fun c_30 => ?_) (fun c_30 => ?_)
            · refine lv_iconst (v := 0) hx hb dX8_deal_37 (by decide) ?_
              refine va_put (D := D) (ci := 6) (v := .int 0) (ty := .int) (C := RX8) (T := TX8) (N := 23) hx hb hts iX8 tyX8 tyX8_ok nmX8 hown hK hP hD hS 0 rfl rfl 0 (by decide) k50 (fun _ h9 => h9) rfl (by decide +kernel) rfl rfl (Nat.le_of_ble_eq_true rfl) dX8_deal_38 (fun H locs hP hD hS => ?_)
              have hP : va_P D vwCl [(m8, .inr (6, [.int 0, .ref wa, .ref pa8, .ref sta, .ref mo, .ref hea, .ref tha, .int ig, .int io, .int op8, .int pl8, .int py, .int wn, .int tu, .int la, .int ps, .ref hd8, .ref od8, .long tb, .ref cd8, .int dr, .ref opa, .ref osa])), (hd8, .inl (cJ, 4, .inr (.inl hf8))), (od8, .inl (cZ, 4, .inl of8)), (cd8, .inl (cI, 54, .inl cf8))] H := hP
              have hD : va_D A [(m8, .inr (6, [.int 0, .ref wa, .ref pa8, .ref sta, .ref mo, .ref hea, .ref tha, .int ig, .int io, .int op8, .int pl8, .int py, .int wn, .int tu, .int la, .int ps, .ref hd8, .ref od8, .long tb, .ref cd8, .int dr, .ref opa, .ref osa])), (hd8, .inl (cJ, 4, .inr (.inl hf8))), (od8, .inl (cZ, 4, .inl of8)), (cd8, .inl (cI, 54, .inl cf8))] := hD
              refine lv_aload_n hx hb dX8_deal_41 rfl (lv_at hl 0 rfl) ?_
              refine va_get (D := D) (ci := 6) (v := .int 0) (C := RX8) (T := TX8) (N := 23) hx hb hts iX8 hown hK hP 0 rfl rfl 0 (by decide) k50 (fun _ h9 => h9) rfl dX8_deal_42 ?_
              refine lv_if_le (tgt := 50) hx hb dX8_deal_45 (by decide) (fun c_45 => ?_) (fun c_45 => ?_)
              · refine lv_iconst (v := 0) hx hb dX8_deal_50 (by decide) ?_
                refine lv_istore (lv' := [(4, .int 0), (0, .ref m8), (1, .int (nI nq)), (2, .int (nI mn)), (3, .int (nI sd))]) hx hb dX8_deal_51 hl (by decide) rfl (fun ls hl => ?_)
                exact lab53 _ 0 0 cf8 (nI_0.symm) (by omega) (fun k h => absurd h (Nat.not_lt_zero k)) (Nat.lt_succ_self _) _ _ hP hD hS ls (lv_sub hl [1, 2, 3, 4, 0] rfl)
              · exact absurd (by decide) c_45
            · exact absurd (nI_le (b := 2147483646) (by omega) (by decide)) c_30
