set_option maxHeartbeats 4000000 in
set_option maxRecDepth 100000 in
theorem k_X2_init (l : Launch) (D : va_G) (cI cJ cZ : ClassId) (sz : Nat) (lo : Nat)  : Met l yX2_init wsX2_init ({ frames := 1, cells := 1, slots := 13, locals := 40 } : Room) (va_Pc [.ref lo] (wM D cI cJ cZ sz [(lo, .inr (1, [.null, .long 0]))])) (va_Qv (fun (u : (Nat)) => match u with | a1 => (True)) (fun (u : (Nat)) t => match u with | a1 => wB D (va_A [(lo, .inr (1, [.null, .long 0]))] sz) [(lo, .inr (1, [.ref a1, .long 0])), (a1, .inl (cI, 13, .inl (fun _ => 0)))] t) (va_A [(lo, .inr (1, [.null, .long 0]))] sz)) 1 13 (va_A [(lo, .inr (1, [.null, .long 0]))] sz) := by
  refine Met.ofW (cc := cX2_init) (maxL := 1) (ret := none) (by decide) rfl ?_
  intro p e s m args below meth c s₁ B hml hv
  obtain ⟨hargs, hsz, hP, ⟨hK, hN⟩, hD0⟩ := hv
  have hx := B.exec
  have hb := B.bytes
  have hr := B.returns
  have hlocks := B.notSynchronized
  have hts := atoms_spec (ws := wsX2_init) B.pre
  have hown : s.vm.findClass RX2 = some m.cls := findClass_of_methodNamed B.named
  have hin : meth.name = "<init>" := (name_of_methodNamed B.named B.method).1
  have k3 := hts (.methodLink RX2 3 objectInit) (by decide +kernel)
  have i_oi := hts (.instanceMethod objectInit) (by decide +kernel)
  have c_oi := hts (.code objectInit ⟨#[0xb1]⟩ 1 none) (by decide +kernel)
  have acI := hts (.arrayClass .int) (by decide +kernel)
  have k9 := hts (.fieldLink RX2 9 "RummyTable$Layout" "steps" "[I") (by decide +kernel)
  have iX2 : ∀ w ∈ wsX20, w ∈ wsX2_init := by decide +kernel
  subst hsz
  have hD := hD0.self (sz := s.heap.size)
  generalize hAe : va_A [(lo, .inr (1, [.null, .long 0]))] s.heap.size = A at hD ⊢
  have hA : ∀ q : Nat, s.heap.size ≤ q → A q := fun q h => by rw [← hAe]; exact Or.inr h
  have hS : va_S A s.heap s.heap [] := va_S.rf
  rw [show entryFrame m args 1 = entryFrame m ([.ref lo] : List Value).toArray 1 from by rw [hargs]]
  have hl := lv_entry ([.ref lo]) (n := 1) (Nat.le_of_ble_eq_true rfl)
  rw [lg_entry_eq]
  generalize (lg_sl ([.ref lo]) ++ List.replicate (1 - (lg_sl ([.ref lo])).length) Slot.unset).toArray = ls at hl ⊢
  have hl : lv_has ls 1 [(0, .ref lo)] := hl
  refine wQ (fun Q hQ => ?_)
  refine lv_aload_n hx hb dX2_init_0 rfl (lv_at hl 0 rfl) ?_
  refine W.objInit hx hb hown k3 i_oi c_oi rfl (by rw [hml]; exact hl.1) rfl dX2_init_1 (Nat.le_of_ble_eq_true rfl) (Nat.le_of_ble_eq_true rfl) ?_
  refine W.eq (g2 := F0 m 4 ls []) rfl ?_
  refine lv_aload_n hx hb dX2_init_4 rfl (lv_at hl 0 rfl) ?_
  refine lv_bipush (v := 13) hx hb dX2_init_5 (by decide) ?_
  refine va_newa (atype := .int) hx hb acI (ty := .int) rfl hK hP hD hS hA (n := 13) (N' := 13) (a0 := (13, .inl (fun _ => 0))) (fun _ => rfl) (by decide) (by decide) (by decide) (Nat.le_of_ble_eq_true rfl) (Nat.le_of_ble_eq_true rfl) dX2_init_7 (fun q7 cA H hK9 hP hD hS => ?_)
  obtain rfl : cI = cA := Option.some.inj ((hK.2 0 _ rfl).2.symm.trans (hK9.2 3 _ rfl).2)
  clear hK9
  have hP : va_P D vwCl [(lo, .inr (1, [.null, .long 0])), (q7, .inl (cI, 13, .inl (fun _ => 0)))] H := hP
  have hD : va_D A [(lo, .inr (1, [.null, .long 0])), (q7, .inl (cI, 13, .inl (fun _ => 0)))] := hD
  refine va_putF (D := D) (ci := 1) (v := .ref q7) (ty := .array .int) (C := RX2) (T := TX2) (N := 2) hx hb hts iX2 tyX2 tyX2_ok nmX2 hown hK hP hD hS 0 rfl rfl 0 (by decide) k9 (fun _ h9 => h9) rfl hin rfl (by decide +kernel) rfl rfl (Nat.le_of_ble_eq_true rfl) dX2_init_9 (fun H locs hP hD hS => ?_)
  have hP : va_P D vwCl [(lo, .inr (1, [.ref q7, .long 0])), (q7, .inl (cI, 13, .inl (fun _ => 0)))] H := hP
  have hD : va_D A [(lo, .inr (1, [.ref q7, .long 0])), (q7, .inl (cI, 13, .inl (fun _ => 0)))] := hD
  rw [← hQ]
  have hP9 := hP.sub (ws' := [(lo, .inr (1, [.ref q7, .long 0])), (q7, .inl (cI, 13, .inl (fun _ => 0)))]) [0, 1] rfl
  have hD9 := hD.sub (ws' := [(lo, .inr (1, [.ref q7, .long 0])), (q7, .inl (cI, 13, .inl (fun _ => 0)))]) [0, 1] (by decide) rfl
  exact W.vret hx hb hr (fun t ht hW => ⟨⟨q7, rfl, trivial, (by show wB D A _ t; exact ⟨by rw [ht]; exact hP9, hD9⟩)⟩, hS.F ht⟩) hS.2.2 dX2_init_12

set_option maxHeartbeats 4000000 in
set_option maxRecDepth 100000 in
theorem k_X1_init (l : Launch) (D : va_G) (cI cJ cZ : ClassId) (sz : Nat) (g : Nat)  : Met l yX1_init wsX1_init ({ frames := 1, cells := 3, slots := 62, locals := 40 } : Room) (va_Pc [.ref g] (wM D cI cJ cZ sz [(g, .inr (0, [.null, .null, .null, .int 0, .int 0, .long 0, .int 0, .int 0, .int 0, .int 0, .int 0, .int 0]))])) (va_Qv (fun (u : (Nat) × (Nat) × (Nat)) => match u with | (a1, a2, a3) => (True)) (fun (u : (Nat) × (Nat) × (Nat)) t => match u with | (a1, a2, a3) => wB D (va_A [(g, .inr (0, [.null, .null, .null, .int 0, .int 0, .long 0, .int 0, .int 0, .int 0, .int 0, .int 0, .int 0]))] sz) [(g, .inr (0, [.ref a1, .ref a2, .ref a3, .int 0, .int 0, .long 0, .int 0, .int 0, .int 0, .int 0, .int 0, .int 0])), (a1, .inl (cJ, 4, .inr (.inl (fun _ => 0)))), (a2, .inl (cZ, 4, .inl (fun _ => 0))), (a3, .inl (cI, 54, .inl (fun _ => 0)))] t) (va_A [(g, .inr (0, [.null, .null, .null, .int 0, .int 0, .long 0, .int 0, .int 0, .int 0, .int 0, .int 0, .int 0]))] sz)) 3 62 (va_A [(g, .inr (0, [.null, .null, .null, .int 0, .int 0, .long 0, .int 0, .int 0, .int 0, .int 0, .int 0, .int 0]))] sz) := by
  refine Met.ofW (cc := cX1_init) (maxL := 1) (ret := none) (by decide) rfl ?_
  intro p e s m args below meth c s₁ B hml hv
  obtain ⟨hargs, hsz, hP, ⟨hK, hN⟩, hD0⟩ := hv
  have hx := B.exec
  have hb := B.bytes
  have hr := B.returns
  have hlocks := B.notSynchronized
  have hts := atoms_spec (ws := wsX1_init) B.pre
  have hown : s.vm.findClass RX1 = some m.cls := findClass_of_methodNamed B.named
  have hin : meth.name = "<init>" := (name_of_methodNamed B.named B.method).1
  have k3 := hts (.methodLink RX1 3 objectInit) (by decide +kernel)
  have i_oi := hts (.instanceMethod objectInit) (by decide +kernel)
  have c_oi := hts (.code objectInit ⟨#[0xb1]⟩ 1 none) (by decide +kernel)
  have acJ := hts (.arrayClass .long) (by decide +kernel)
  have k9 := hts (.fieldLink RX1 9 "RummyTable$Game" "hands" "[J") (by decide +kernel)
  have iX1 : ∀ w ∈ wsX10, w ∈ wsX1_init := by decide +kernel
  have acZ := hts (.arrayClass .boolean) (by decide +kernel)
  have k15 := hts (.fieldLink RX1 15 "RummyTable$Game" "opened" "[Z") (by decide +kernel)
  have acI := hts (.arrayClass .int) (by decide +kernel)
  have k19 := hts (.fieldLink RX1 19 "RummyTable$Game" "pack" "[I") (by decide +kernel)
  subst hsz
  have hD := hD0.self (sz := s.heap.size)
  generalize hAe : va_A [(g, .inr (0, [.null, .null, .null, .int 0, .int 0, .long 0, .int 0, .int 0, .int 0, .int 0, .int 0, .int 0]))] s.heap.size = A at hD ⊢
  have hA : ∀ q : Nat, s.heap.size ≤ q → A q := fun q h => by rw [← hAe]; exact Or.inr h
  have hS : va_S A s.heap s.heap [] := va_S.rf
  rw [show entryFrame m args 1 = entryFrame m ([.ref g] : List Value).toArray 1 from by rw [hargs]]
  have hl := lv_entry ([.ref g]) (n := 1) (Nat.le_of_ble_eq_true rfl)
  rw [lg_entry_eq]
  generalize (lg_sl ([.ref g]) ++ List.replicate (1 - (lg_sl ([.ref g])).length) Slot.unset).toArray = ls at hl ⊢
  have hl : lv_has ls 1 [(0, .ref g)] := hl
  refine wQ (fun Q hQ => ?_)
  refine lv_aload_n hx hb dX1_init_0 rfl (lv_at hl 0 rfl) ?_
  refine W.objInit hx hb hown k3 i_oi c_oi rfl (by rw [hml]; exact hl.1) rfl dX1_init_1 (Nat.le_of_ble_eq_true rfl) (Nat.le_of_ble_eq_true rfl) ?_
  refine W.eq (g2 := F0 m 4 ls []) rfl ?_
  refine lv_aload_n hx hb dX1_init_4 rfl (lv_at hl 0 rfl) ?_
  refine lv_iconst (v := 4) hx hb dX1_init_5 (by decide) ?_
  refine va_newa (atype := .long) hx hb acJ (ty := .long) rfl hK hP hD hS hA (n := 4) (N' := 4) (a0 := (4, .inr (.inl (fun _ => 0)))) (fun _ => rfl) (by decide) (by decide) (by decide) (Nat.le_of_ble_eq_true rfl) (Nat.le_of_ble_eq_true rfl) dX1_init_6 (fun q6 cA H hK9 hP hD hS => ?_)
  obtain rfl : cJ = cA := Option.some.inj ((hK.2 1 _ rfl).2.symm.trans (hK9.2 3 _ rfl).2)
  clear hK9
  have hP : va_P D vwCl [(g, .inr (0, [.null, .null, .null, .int 0, .int 0, .long 0, .int 0, .int 0, .int 0, .int 0, .int 0, .int 0])), (q6, .inl (cJ, 4, .inr (.inl (fun _ => 0))))] H := hP
  have hD : va_D A [(g, .inr (0, [.null, .null, .null, .int 0, .int 0, .long 0, .int 0, .int 0, .int 0, .int 0, .int 0, .int 0])), (q6, .inl (cJ, 4, .inr (.inl (fun _ => 0))))] := hD
  refine va_putF (D := D) (ci := 0) (v := .ref q6) (ty := .array .long) (C := RX1) (T := TX1) (N := 12) hx hb hts iX1 tyX1 tyX1_ok nmX1 hown hK hP hD hS 0 rfl rfl 0 (by decide) k9 (fun _ h9 => h9) rfl hin rfl (by decide +kernel) rfl rfl (Nat.le_of_ble_eq_true rfl) dX1_init_8 (fun H locs hP hD hS => ?_)
  have hP : va_P D vwCl [(g, .inr (0, [.ref q6, .null, .null, .int 0, .int 0, .long 0, .int 0, .int 0, .int 0, .int 0, .int 0, .int 0])), (q6, .inl (cJ, 4, .inr (.inl (fun _ => 0))))] H := hP
  have hD : va_D A [(g, .inr (0, [.ref q6, .null, .null, .int 0, .int 0, .long 0, .int 0, .int 0, .int 0, .int 0, .int 0, .int 0])), (q6, .inl (cJ, 4, .inr (.inl (fun _ => 0))))] := hD
  refine lv_aload_n hx hb dX1_init_11 rfl (lv_at hl 0 rfl) ?_
  refine lv_iconst (v := 4) hx hb dX1_init_12 (by decide) ?_
  refine va_newa (atype := .boolean) hx hb acZ (ty := .boolean) rfl hK hP hD hS hA (n := 4) (N' := 4) (a0 := (4, .inl (fun _ => 0))) (fun _ => rfl) (by decide) (by decide) (by decide) (Nat.le_of_ble_eq_true rfl) (Nat.le_of_ble_eq_true rfl) dX1_init_13 (fun q13 cA H hK9 hP hD hS => ?_)
  obtain rfl : cZ = cA := Option.some.inj ((hK.2 2 _ rfl).2.symm.trans (hK9.2 3 _ rfl).2)
  clear hK9
  have hP : va_P D vwCl [(g, .inr (0, [.ref q6, .null, .null, .int 0, .int 0, .long 0, .int 0, .int 0, .int 0, .int 0, .int 0, .int 0])), (q6, .inl (cJ, 4, .inr (.inl (fun _ => 0)))), (q13, .inl (cZ, 4, .inl (fun _ => 0)))] H := hP
  have hD : va_D A [(g, .inr (0, [.ref q6, .null, .null, .int 0, .int 0, .long 0, .int 0, .int 0, .int 0, .int 0, .int 0, .int 0])), (q6, .inl (cJ, 4, .inr (.inl (fun _ => 0)))), (q13, .inl (cZ, 4, .inl (fun _ => 0)))] := hD
  refine va_putF (D := D) (ci := 0) (v := .ref q13) (ty := .array .boolean) (C := RX1) (T := TX1) (N := 12) hx hb hts iX1 tyX1 tyX1_ok nmX1 hown hK hP hD hS 0 rfl rfl 1 (by decide) k15 (fun _ h9 => h9) rfl hin rfl (by decide +kernel) rfl rfl (Nat.le_of_ble_eq_true rfl) dX1_init_15 (fun H locs hP hD hS => ?_)
  have hP : va_P D vwCl [(g, .inr (0, [.ref q6, .ref q13, .null, .int 0, .int 0, .long 0, .int 0, .int 0, .int 0, .int 0, .int 0, .int 0])), (q6, .inl (cJ, 4, .inr (.inl (fun _ => 0)))), (q13, .inl (cZ, 4, .inl (fun _ => 0)))] H := hP
  have hD : va_D A [(g, .inr (0, [.ref q6, .ref q13, .null, .int 0, .int 0, .long 0, .int 0, .int 0, .int 0, .int 0, .int 0, .int 0])), (q6, .inl (cJ, 4, .inr (.inl (fun _ => 0)))), (q13, .inl (cZ, 4, .inl (fun _ => 0)))] := hD
  refine lv_aload_n hx hb dX1_init_18 rfl (lv_at hl 0 rfl) ?_
  refine lv_bipush (v := 54) hx hb dX1_init_19 (by decide) ?_
  refine va_newa (atype := .int) hx hb acI (ty := .int) rfl hK hP hD hS hA (n := 54) (N' := 54) (a0 := (54, .inl (fun _ => 0))) (fun _ => rfl) (by decide) (by decide) (by decide) (Nat.le_of_ble_eq_true rfl) (Nat.le_of_ble_eq_true rfl) dX1_init_21 (fun q21 cA H hK9 hP hD hS => ?_)
  obtain rfl : cI = cA := Option.some.inj ((hK.2 0 _ rfl).2.symm.trans (hK9.2 3 _ rfl).2)
  clear hK9
  have hP : va_P D vwCl [(g, .inr (0, [.ref q6, .ref q13, .null, .int 0, .int 0, .long 0, .int 0, .int 0, .int 0, .int 0, .int 0, .int 0])), (q6, .inl (cJ, 4, .inr (.inl (fun _ => 0)))), (q13, .inl (cZ, 4, .inl (fun _ => 0))), (q21, .inl (cI, 54, .inl (fun _ => 0)))] H := hP
  have hD : va_D A [(g, .inr (0, [.ref q6, .ref q13, .null, .int 0, .int 0, .long 0, .int 0, .int 0, .int 0, .int 0, .int 0, .int 0])), (q6, .inl (cJ, 4, .inr (.inl (fun _ => 0)))), (q13, .inl (cZ, 4, .inl (fun _ => 0))), (q21, .inl (cI, 54, .inl (fun _ => 0)))] := hD
  refine va_putF (D := D) (ci := 0) (v := .ref q21) (ty := .array .int) (C := RX1) (T := TX1) (N := 12) hx hb hts iX1 tyX1 tyX1_ok nmX1 hown hK hP hD hS 0 rfl rfl 2 (by decide) k19 (fun _ h9 => h9) rfl hin rfl (by decide +kernel) rfl rfl (Nat.le_of_ble_eq_true rfl) dX1_init_23 (fun H locs hP hD hS => ?_)
  have hP : va_P D vwCl [(g, .inr (0, [.ref q6, .ref q13, .ref q21, .int 0, .int 0, .long 0, .int 0, .int 0, .int 0, .int 0, .int 0, .int 0])), (q6, .inl (cJ, 4, .inr (.inl (fun _ => 0)))), (q13, .inl (cZ, 4, .inl (fun _ => 0))), (q21, .inl (cI, 54, .inl (fun _ => 0)))] H := hP
  have hD : va_D A [(g, .inr (0, [.ref q6, .ref q13, .ref q21, .int 0, .int 0, .long 0, .int 0, .int 0, .int 0, .int 0, .int 0, .int 0])), (q6, .inl (cJ, 4, .inr (.inl (fun _ => 0)))), (q13, .inl (cZ, 4, .inl (fun _ => 0))), (q21, .inl (cI, 54, .inl (fun _ => 0)))] := hD
  rw [← hQ]
  have hP9 := hP.sub (ws' := [(g, .inr (0, [.ref q6, .ref q13, .ref q21, .int 0, .int 0, .long 0, .int 0, .int 0, .int 0, .int 0, .int 0, .int 0])), (q6, .inl (cJ, 4, .inr (.inl (fun _ => 0)))), (q13, .inl (cZ, 4, .inl (fun _ => 0))), (q21, .inl (cI, 54, .inl (fun _ => 0)))]) [0, 1, 2, 3] rfl
  have hD9 := hD.sub (ws' := [(g, .inr (0, [.ref q6, .ref q13, .ref q21, .int 0, .int 0, .long 0, .int 0, .int 0, .int 0, .int 0, .int 0, .int 0])), (q6, .inl (cJ, 4, .inr (.inl (fun _ => 0)))), (q13, .inl (cZ, 4, .inl (fun _ => 0))), (q21, .inl (cI, 54, .inl (fun _ => 0)))]) [0, 1, 2, 3] (by decide) rfl
  exact W.vret hx hb hr (fun t ht hW => ⟨⟨(q6, q13, q21), rfl, trivial, (by show wB D A _ t; exact ⟨by rw [ht]; exact hP9, hD9⟩)⟩, hS.F ht⟩) hS.2.2 dX1_init_26

set_option maxHeartbeats 4000000 in
set_option maxRecDepth 100000 in
theorem k_X3_init (l : Launch) (D : va_G) (cI cJ cZ : ClassId) (sz : Nat) (rw : Nat)  : Met l yX3_init wsX3_init ({ frames := 1, cells := 3, slots := 1280, locals := 40 } : Room) (va_Pc [.ref rw] (wM D cI cJ cZ sz [(rw, .inr (2, [.null, .null, .null, .int 0]))])) (va_Qv (fun (u : (Nat) × (Nat) × (Nat)) => match u with | (a1, a2, a3) => (True)) (fun (u : (Nat) × (Nat) × (Nat)) t => match u with | (a1, a2, a3) => wB D (va_A [(rw, .inr (2, [.null, .null, .null, .int 0]))] sz) [(rw, .inr (2, [.ref a1, .ref a2, .ref a3, .int 0])), (a1, .inl (cJ, 768, .inr (.inl (fun _ => 0)))), (a2, .inl (cZ, 256, .inl (fun _ => 0))), (a3, .inl (cI, 256, .inl (fun _ => 0)))] t) (va_A [(rw, .inr (2, [.null, .null, .null, .int 0]))] sz)) 3 1280 (va_A [(rw, .inr (2, [.null, .null, .null, .int 0]))] sz) := by
  refine Met.ofW (cc := cX3_init) (maxL := 1) (ret := none) (by decide) rfl ?_
  intro p e s m args below meth c s₁ B hml hv
  obtain ⟨hargs, hsz, hP, ⟨hK, hN⟩, hD0⟩ := hv
  have hx := B.exec
  have hb := B.bytes
  have hr := B.returns
  have hlocks := B.notSynchronized
  have hts := atoms_spec (ws := wsX3_init) B.pre
  have hown : s.vm.findClass RX3 = some m.cls := findClass_of_methodNamed B.named
  have hin : meth.name = "<init>" := (name_of_methodNamed B.named B.method).1
  have k3 := hts (.methodLink RX3 3 objectInit) (by decide +kernel)
  have i_oi := hts (.instanceMethod objectInit) (by decide +kernel)
  have c_oi := hts (.code objectInit ⟨#[0xb1]⟩ 1 none) (by decide +kernel)
  have acJ := hts (.arrayClass .long) (by decide +kernel)
  have k9 := hts (.fieldLink RX3 9 "RummyTable$Row" "cells" "[J") (by decide +kernel)
  have iX3 : ∀ w ∈ wsX30, w ∈ wsX3_init := by decide +kernel
  have acZ := hts (.arrayClass .boolean) (by decide +kernel)
  have k15 := hts (.fieldLink RX3 15 "RummyTable$Row" "listed" "[Z") (by decide +kernel)
  have acI := hts (.arrayClass .int) (by decide +kernel)
  have k19 := hts (.fieldLink RX3 19 "RummyTable$Row" "states" "[I") (by decide +kernel)
  subst hsz
  have hD := hD0.self (sz := s.heap.size)
  generalize hAe : va_A [(rw, .inr (2, [.null, .null, .null, .int 0]))] s.heap.size = A at hD ⊢
  have hA : ∀ q : Nat, s.heap.size ≤ q → A q := fun q h => by rw [← hAe]; exact Or.inr h
  have hS : va_S A s.heap s.heap [] := va_S.rf
  rw [show entryFrame m args 1 = entryFrame m ([.ref rw] : List Value).toArray 1 from by rw [hargs]]
  have hl := lv_entry ([.ref rw]) (n := 1) (Nat.le_of_ble_eq_true rfl)
  rw [lg_entry_eq]
  generalize (lg_sl ([.ref rw]) ++ List.replicate (1 - (lg_sl ([.ref rw])).length) Slot.unset).toArray = ls at hl ⊢
  have hl : lv_has ls 1 [(0, .ref rw)] := hl
  refine wQ (fun Q hQ => ?_)
  refine lv_aload_n hx hb dX3_init_0 rfl (lv_at hl 0 rfl) ?_
  refine W.objInit hx hb hown k3 i_oi c_oi rfl (by rw [hml]; exact hl.1) rfl dX3_init_1 (Nat.le_of_ble_eq_true rfl) (Nat.le_of_ble_eq_true rfl) ?_
  refine W.eq (g2 := F0 m 4 ls []) rfl ?_
  refine lv_aload_n hx hb dX3_init_4 rfl (lv_at hl 0 rfl) ?_
  refine lv_sipush (v := 768) hx hb dX3_init_5 (by decide) ?_
  refine va_newa (atype := .long) hx hb acJ (ty := .long) rfl hK hP hD hS hA (n := 768) (N' := 768) (a0 := (768, .inr (.inl (fun _ => 0)))) (fun _ => rfl) (by decide) (by decide) (by decide) (Nat.le_of_ble_eq_true rfl) (Nat.le_of_ble_eq_true rfl) dX3_init_8 (fun q8 cA H hK9 hP hD hS => ?_)
  obtain rfl : cJ = cA := Option.some.inj ((hK.2 1 _ rfl).2.symm.trans (hK9.2 3 _ rfl).2)
  clear hK9
  have hP : va_P D vwCl [(rw, .inr (2, [.null, .null, .null, .int 0])), (q8, .inl (cJ, 768, .inr (.inl (fun _ => 0))))] H := hP
  have hD : va_D A [(rw, .inr (2, [.null, .null, .null, .int 0])), (q8, .inl (cJ, 768, .inr (.inl (fun _ => 0))))] := hD
  refine va_putF (D := D) (ci := 2) (v := .ref q8) (ty := .array .long) (C := RX3) (T := TX3) (N := 4) hx hb hts iX3 tyX3 tyX3_ok nmX3 hown hK hP hD hS 0 rfl rfl 0 (by decide) k9 (fun _ h9 => h9) rfl hin rfl (by decide +kernel) rfl rfl (Nat.le_of_ble_eq_true rfl) dX3_init_10 (fun H locs hP hD hS => ?_)
  have hP : va_P D vwCl [(rw, .inr (2, [.ref q8, .null, .null, .int 0])), (q8, .inl (cJ, 768, .inr (.inl (fun _ => 0))))] H := hP
  have hD : va_D A [(rw, .inr (2, [.ref q8, .null, .null, .int 0])), (q8, .inl (cJ, 768, .inr (.inl (fun _ => 0))))] := hD
  refine lv_aload_n hx hb dX3_init_13 rfl (lv_at hl 0 rfl) ?_
  refine lv_sipush (v := 256) hx hb dX3_init_14 (by decide) ?_
  refine va_newa (atype := .boolean) hx hb acZ (ty := .boolean) rfl hK hP hD hS hA (n := 256) (N' := 256) (a0 := (256, .inl (fun _ => 0))) (fun _ => rfl) (by decide) (by decide) (by decide) (Nat.le_of_ble_eq_true rfl) (Nat.le_of_ble_eq_true rfl) dX3_init_17 (fun q17 cA H hK9 hP hD hS => ?_)
  obtain rfl : cZ = cA := Option.some.inj ((hK.2 2 _ rfl).2.symm.trans (hK9.2 3 _ rfl).2)
  clear hK9
  have hP : va_P D vwCl [(rw, .inr (2, [.ref q8, .null, .null, .int 0])), (q8, .inl (cJ, 768, .inr (.inl (fun _ => 0)))), (q17, .inl (cZ, 256, .inl (fun _ => 0)))] H := hP
  have hD : va_D A [(rw, .inr (2, [.ref q8, .null, .null, .int 0])), (q8, .inl (cJ, 768, .inr (.inl (fun _ => 0)))), (q17, .inl (cZ, 256, .inl (fun _ => 0)))] := hD
  refine va_putF (D := D) (ci := 2) (v := .ref q17) (ty := .array .boolean) (C := RX3) (T := TX3) (N := 4) hx hb hts iX3 tyX3 tyX3_ok nmX3 hown hK hP hD hS 0 rfl rfl 1 (by decide) k15 (fun _ h9 => h9) rfl hin rfl (by decide +kernel) rfl rfl (Nat.le_of_ble_eq_true rfl) dX3_init_19 (fun H locs hP hD hS => ?_)
  have hP : va_P D vwCl [(rw, .inr (2, [.ref q8, .ref q17, .null, .int 0])), (q8, .inl (cJ, 768, .inr (.inl (fun _ => 0)))), (q17, .inl (cZ, 256, .inl (fun _ => 0)))] H := hP
  have hD : va_D A [(rw, .inr (2, [.ref q8, .ref q17, .null, .int 0])), (q8, .inl (cJ, 768, .inr (.inl (fun _ => 0)))), (q17, .inl (cZ, 256, .inl (fun _ => 0)))] := hD
  refine lv_aload_n hx hb dX3_init_22 rfl (lv_at hl 0 rfl) ?_
  refine lv_sipush (v := 256) hx hb dX3_init_23 (by decide) ?_
  refine va_newa (atype := .int) hx hb acI (ty := .int) rfl hK hP hD hS hA (n := 256) (N' := 256) (a0 := (256, .inl (fun _ => 0))) (fun _ => rfl) (by decide) (by decide) (by decide) (Nat.le_of_ble_eq_true rfl) (Nat.le_of_ble_eq_true rfl) dX3_init_26 (fun q26 cA H hK9 hP hD hS => ?_)
  obtain rfl : cI = cA := Option.some.inj ((hK.2 0 _ rfl).2.symm.trans (hK9.2 3 _ rfl).2)
  clear hK9
  have hP : va_P D vwCl [(rw, .inr (2, [.ref q8, .ref q17, .null, .int 0])), (q8, .inl (cJ, 768, .inr (.inl (fun _ => 0)))), (q17, .inl (cZ, 256, .inl (fun _ => 0))), (q26, .inl (cI, 256, .inl (fun _ => 0)))] H := hP
  have hD : va_D A [(rw, .inr (2, [.ref q8, .ref q17, .null, .int 0])), (q8, .inl (cJ, 768, .inr (.inl (fun _ => 0)))), (q17, .inl (cZ, 256, .inl (fun _ => 0))), (q26, .inl (cI, 256, .inl (fun _ => 0)))] := hD
  refine va_putF (D := D) (ci := 2) (v := .ref q26) (ty := .array .int) (C := RX3) (T := TX3) (N := 4) hx hb hts iX3 tyX3 tyX3_ok nmX3 hown hK hP hD hS 0 rfl rfl 2 (by decide) k19 (fun _ h9 => h9) rfl hin rfl (by decide +kernel) rfl rfl (Nat.le_of_ble_eq_true rfl) dX3_init_28 (fun H locs hP hD hS => ?_)
  have hP : va_P D vwCl [(rw, .inr (2, [.ref q8, .ref q17, .ref q26, .int 0])), (q8, .inl (cJ, 768, .inr (.inl (fun _ => 0)))), (q17, .inl (cZ, 256, .inl (fun _ => 0))), (q26, .inl (cI, 256, .inl (fun _ => 0)))] H := hP
  have hD : va_D A [(rw, .inr (2, [.ref q8, .ref q17, .ref q26, .int 0])), (q8, .inl (cJ, 768, .inr (.inl (fun _ => 0)))), (q17, .inl (cZ, 256, .inl (fun _ => 0))), (q26, .inl (cI, 256, .inl (fun _ => 0)))] := hD
  rw [← hQ]
  have hP9 := hP.sub (ws' := [(rw, .inr (2, [.ref q8, .ref q17, .ref q26, .int 0])), (q8, .inl (cJ, 768, .inr (.inl (fun _ => 0)))), (q17, .inl (cZ, 256, .inl (fun _ => 0))), (q26, .inl (cI, 256, .inl (fun _ => 0)))]) [0, 1, 2, 3] rfl
  have hD9 := hD.sub (ws' := [(rw, .inr (2, [.ref q8, .ref q17, .ref q26, .int 0])), (q8, .inl (cJ, 768, .inr (.inl (fun _ => 0)))), (q17, .inl (cZ, 256, .inl (fun _ => 0))), (q26, .inl (cI, 256, .inl (fun _ => 0)))]) [0, 1, 2, 3] (by decide) rfl
  exact W.vret hx hb hr (fun t ht hW => ⟨⟨(q8, q17, q26), rfl, trivial, (by show wB D A _ t; exact ⟨by rw [ht]; exact hP9, hD9⟩)⟩, hS.F ht⟩) hS.2.2 dX3_init_31

set_option maxHeartbeats 4000000 in
set_option maxRecDepth 100000 in
theorem k_X4_init (l : Launch) (D : va_G) (cI cJ cZ : ClassId) (sz : Nat) (so st0 : Nat) (stp : Nat → Int32)  : Met l yX4_init wsX4_init ({ frames := 1, cells := 1, slots := 156, locals := 40 } : Room) (va_Pc [.ref so, .ref st0] (wM D cI cJ cZ sz [(so, .inr (3, [.null, .null, .long 0])), (st0, .inl (cI, 94, .inl stp))])) (va_Qv (fun (u : (Nat)) => match u with | a1 => (True)) (fun (u : (Nat)) t => match u with | a1 => wB D (va_A [(so, .inr (3, [.null, .null, .long 0])), (st0, .inl (cI, 94, .inl stp))] sz) [(so, .inr (3, [.ref st0, .ref a1, .long 0])), (st0, .inl (cI, 94, .inl stp)), (a1, .inl (cJ, 156, .inr (.inl (fun _ => 0))))] t) (va_A [(so, .inr (3, [.null, .null, .long 0])), (st0, .inl (cI, 94, .inl stp))] sz)) 1 156 (va_A [(so, .inr (3, [.null, .null, .long 0])), (st0, .inl (cI, 94, .inl stp))] sz) := by
  refine Met.ofW (cc := cX4_init) (maxL := 2) (ret := none) (by decide) rfl ?_
  intro p e s m args below meth c s₁ B hml hv
  obtain ⟨hargs, hsz, hP, ⟨hK, hN⟩, hD0⟩ := hv
  have hx := B.exec
  have hb := B.bytes
  have hr := B.returns
  have hlocks := B.notSynchronized
  have hts := atoms_spec (ws := wsX4_init) B.pre
  have hown : s.vm.findClass RX4 = some m.cls := findClass_of_methodNamed B.named
  have hin : meth.name = "<init>" := (name_of_methodNamed B.named B.method).1
  have k3 := hts (.methodLink RX4 3 objectInit) (by decide +kernel)
  have i_oi := hts (.instanceMethod objectInit) (by decide +kernel)
  have c_oi := hts (.code objectInit ⟨#[0xb1]⟩ 1 none) (by decide +kernel)
  have acJ := hts (.arrayClass .long) (by decide +kernel)
  have k11 := hts (.fieldLink RX4 11 "RummyTable$Search" "hopeless" "[J") (by decide +kernel)
  have iX4 : ∀ w ∈ wsX40, w ∈ wsX4_init := by decide +kernel
  have k15 := hts (.fieldLink RX4 15 "RummyTable$Search" "steps" "[I") (by decide +kernel)
  subst hsz
  have hD := hD0.self (sz := s.heap.size)
  generalize hAe : va_A [(so, .inr (3, [.null, .null, .long 0])), (st0, .inl (cI, 94, .inl stp))] s.heap.size = A at hD ⊢
  have hA : ∀ q : Nat, s.heap.size ≤ q → A q := fun q h => by rw [← hAe]; exact Or.inr h
  have hS : va_S A s.heap s.heap [] := va_S.rf
  rw [show entryFrame m args 2 = entryFrame m ([.ref so, .ref st0] : List Value).toArray 2 from by rw [hargs]]
  have hl := lv_entry ([.ref so, .ref st0]) (n := 2) (Nat.le_of_ble_eq_true rfl)
  rw [lg_entry_eq]
  generalize (lg_sl ([.ref so, .ref st0]) ++ List.replicate (2 - (lg_sl ([.ref so, .ref st0])).length) Slot.unset).toArray = ls at hl ⊢
  have hl : lv_has ls 2 [(0, .ref so), (1, .ref st0)] := hl
  refine wQ (fun Q hQ => ?_)
  refine lv_aload_n hx hb dX4_init_0 rfl (lv_at hl 0 rfl) ?_
  refine W.objInit hx hb hown k3 i_oi c_oi rfl (by rw [hml]; exact hl.1) rfl dX4_init_1 (Nat.le_of_ble_eq_true rfl) (Nat.le_of_ble_eq_true rfl) ?_
  refine W.eq (g2 := F0 m 4 ls []) rfl ?_
  refine lv_aload_n hx hb dX4_init_4 rfl (lv_at hl 0 rfl) ?_
  refine lv_sipush (v := 156) hx hb dX4_init_5 (by decide) ?_
  refine va_newa (atype := .long) hx hb acJ (ty := .long) rfl hK hP hD hS hA (n := 156) (N' := 156) (a0 := (156, .inr (.inl (fun _ => 0)))) (fun _ => rfl) (by decide) (by decide) (by decide) (Nat.le_of_ble_eq_true rfl) (Nat.le_of_ble_eq_true rfl) dX4_init_8 (fun q8 cA H hK9 hP hD hS => ?_)
  obtain rfl : cJ = cA := Option.some.inj ((hK.2 1 _ rfl).2.symm.trans (hK9.2 3 _ rfl).2)
  clear hK9
  have hP : va_P D vwCl [(so, .inr (3, [.null, .null, .long 0])), (st0, .inl (cI, 94, .inl stp)), (q8, .inl (cJ, 156, .inr (.inl (fun _ => 0))))] H := hP
  have hD : va_D A [(so, .inr (3, [.null, .null, .long 0])), (st0, .inl (cI, 94, .inl stp)), (q8, .inl (cJ, 156, .inr (.inl (fun _ => 0))))] := hD
  refine va_putF (D := D) (ci := 3) (v := .ref q8) (ty := .array .long) (C := RX4) (T := TX4) (N := 3) hx hb hts iX4 tyX4 tyX4_ok nmX4 hown hK hP hD hS 0 rfl rfl 1 (by decide) k11 (fun _ h9 => h9) rfl hin rfl (by decide +kernel) rfl rfl (Nat.le_of_ble_eq_true rfl) dX4_init_10 (fun H locs hP hD hS => ?_)
  have hP : va_P D vwCl [(so, .inr (3, [.null, .ref q8, .long 0])), (st0, .inl (cI, 94, .inl stp)), (q8, .inl (cJ, 156, .inr (.inl (fun _ => 0))))] H := hP
  have hD : va_D A [(so, .inr (3, [.null, .ref q8, .long 0])), (st0, .inl (cI, 94, .inl stp)), (q8, .inl (cJ, 156, .inr (.inl (fun _ => 0))))] := hD
  refine lv_aload_n hx hb dX4_init_13 rfl (lv_at hl 0 rfl) ?_
  refine lv_aload_n hx hb dX4_init_14 rfl (lv_at hl 1 rfl) ?_
  refine va_putF (D := D) (ci := 3) (v := .ref st0) (ty := .array .int) (C := RX4) (T := TX4) (N := 3) hx hb hts iX4 tyX4 tyX4_ok nmX4 hown hK hP hD hS 0 rfl rfl 0 (by decide) k15 (fun _ h9 => h9) rfl hin rfl (by decide +kernel) rfl rfl (Nat.le_of_ble_eq_true rfl) dX4_init_15 (fun H locs hP hD hS => ?_)
  have hP : va_P D vwCl [(so, .inr (3, [.ref st0, .ref q8, .long 0])), (st0, .inl (cI, 94, .inl stp)), (q8, .inl (cJ, 156, .inr (.inl (fun _ => 0))))] H := hP
  have hD : va_D A [(so, .inr (3, [.ref st0, .ref q8, .long 0])), (st0, .inl (cI, 94, .inl stp)), (q8, .inl (cJ, 156, .inr (.inl (fun _ => 0))))] := hD
  rw [← hQ]
  have hP9 := hP.sub (ws' := [(so, .inr (3, [.ref st0, .ref q8, .long 0])), (st0, .inl (cI, 94, .inl stp)), (q8, .inl (cJ, 156, .inr (.inl (fun _ => 0))))]) [0, 1, 2] rfl
  have hD9 := hD.sub (ws' := [(so, .inr (3, [.ref st0, .ref q8, .long 0])), (st0, .inl (cI, 94, .inl stp)), (q8, .inl (cJ, 156, .inr (.inl (fun _ => 0))))]) [0, 1, 2] (by decide) rfl
  exact W.vret hx hb hr (fun t ht hW => ⟨⟨q8, rfl, trivial, (by show wB D A _ t; exact ⟨by rw [ht]; exact hP9, hD9⟩)⟩, hS.F ht⟩) hS.2.2 dX4_init_18

set_option maxHeartbeats 4000000 in
set_option maxRecDepth 100000 in
theorem k_X8_init (l : Launch) (D : va_G) (cI cJ cZ : ClassId) (sz : Nat) (m8 : Nat)  : Met l yX8_init wsX8_init ({ frames := 1, cells := 11, slots := 414990, locals := 40 } : Room) (va_Pc [.ref m8] (wM D cI cJ cZ sz [(m8, .inr (6, [.int 0, .null, .null, .null, .null, .null, .null, .int 0, .int 0, .int 0, .int 0, .int 0, .int 0, .int 0, .int 0, .int 0, .null, .null, .long 0, .null, .int 0, .null, .null]))])) (va_Qv (fun (u : (Nat) × (Nat) × (Nat) × (Nat) × (Nat) × (Nat) × (Nat) × (Nat) × (Nat) × (Nat) × (Nat)) => match u with | (wa, pa8, sta, mo, hea, tha, hd8, od8, cd8, opa, osa) => (True)) (fun (u : (Nat) × (Nat) × (Nat) × (Nat) × (Nat) × (Nat) × (Nat) × (Nat) × (Nat) × (Nat) × (Nat)) t => match u with | (wa, pa8, sta, mo, hea, tha, hd8, od8, cd8, opa, osa) => wB D (va_A [(m8, .inr (6, [.int 0, .null, .null, .null, .null, .null, .null, .int 0, .int 0, .int 0, .int 0, .int 0, .int 0, .int 0, .int 0, .int 0, .null, .null, .long 0, .null, .int 0, .null, .null]))] sz) [(m8, .inr (6, [.int 0, .ref wa, .ref pa8, .ref sta, .ref mo, .ref hea, .ref tha, .int 0, .int 0, .int 30, .int 0, .int 0, .int 0, .int 0, .int 0, .int 0, .ref hd8, .ref od8, .long 0, .ref cd8, .int 0, .ref opa, .ref osa])), (wa, .inl (cJ, 203520, .inr (.inl (fun _ => 0)))), (pa8, .inl (cI, 52, .inl (fun _ => 0))), (sta, .inl (cZ, 52, .inl (fun _ => 0))), (mo, .inl (cI, 203520, .inl (fun _ => 0))), (hea, .inl (cZ, 3840, .inl (fun _ => 0))), (tha, .inl (cZ, 3840, .inl (fun _ => 0))), (hd8, .inl (cJ, 4, .inr (.inl (fun _ => 0)))), (od8, .inl (cZ, 4, .inl (fun _ => 0))), (cd8, .inl (cI, 54, .inl (fun _ => 0))), (opa, .inl (cI, 52, .inl (fun _ => 0))), (osa, .inl (cZ, 52, .inl (fun _ => 0)))] t) (va_A [(m8, .inr (6, [.int 0, .null, .null, .null, .null, .null, .null, .int 0, .int 0, .int 0, .int 0, .int 0, .int 0, .int 0, .int 0, .int 0, .null, .null, .long 0, .null, .int 0, .null, .null]))] sz)) 11 414990 (va_A [(m8, .inr (6, [.int 0, .null, .null, .null, .null, .null, .null, .int 0, .int 0, .int 0, .int 0, .int 0, .int 0, .int 0, .int 0, .int 0, .null, .null, .long 0, .null, .int 0, .null, .null]))] sz) := by
  refine Met.ofW (cc := cX8_init) (maxL := 1) (ret := none) (by decide) rfl ?_
  intro p e s m args below meth c s₁ B hml hv
  obtain ⟨hargs, hsz, hP, ⟨hK, hN⟩, hD0⟩ := hv
  have hx := B.exec
  have hb := B.bytes
  have hr := B.returns
  have hlocks := B.notSynchronized
  have hts := atoms_spec (ws := wsX8_init) B.pre
  have hown : s.vm.findClass RX8 = some m.cls := findClass_of_methodNamed B.named
  have hin : meth.name = "<init>" := (name_of_methodNamed B.named B.method).1
  have k1 := hts (.methodLink RX8 1 objectInit) (by decide +kernel)
  have i_oi := hts (.instanceMethod objectInit) (by decide +kernel)
  have c_oi := hts (.code objectInit ⟨#[0xb1]⟩ 1 none) (by decide +kernel)
  have k7 := hts (.constant RX8 7 (203520)) (by decide +kernel)
  have acJ := hts (.arrayClass .long) (by decide +kernel)
  have k8 := hts (.fieldLink RX8 8 "RummyTableModel" "ways" "[J") (by decide +kernel)
  have iX8 : ∀ w ∈ wsX80, w ∈ wsX8_init := by decide +kernel
  have acI := hts (.arrayClass .int) (by decide +kernel)
  have k14 := hts (.fieldLink RX8 14 "RummyTableModel" "places" "[I") (by decide +kernel)
  have acZ := hts (.arrayClass .boolean) (by decide +kernel)
  have k18 := hts (.fieldLink RX8 18 "RummyTableModel" "stands" "[Z") (by decide +kernel)
  have k22 := hts (.fieldLink RX8 22 "RummyTableModel" "most" "[I") (by decide +kernel)
  have k25 := hts (.fieldLink RX8 25 "RummyTableModel" "here" "[Z") (by decide +kernel)
  have k28 := hts (.fieldLink RX8 28 "RummyTableModel" "there" "[Z") (by decide +kernel)
  have k31 := hts (.fieldLink RX8 31 "RummyTableModel" "opening" "I") (by decide +kernel)
  have k35 := hts (.fieldLink RX8 35 "RummyTableModel" "hands" "[J") (by decide +kernel)
  have k38 := hts (.fieldLink RX8 38 "RummyTableModel" "opened" "[Z") (by decide +kernel)
  have k41 := hts (.fieldLink RX8 41 "RummyTableModel" "cards" "[I") (by decide +kernel)
  have k44 := hts (.fieldLink RX8 44 "RummyTableModel" "oldPlaces" "[I") (by decide +kernel)
  have k47 := hts (.fieldLink RX8 47 "RummyTableModel" "oldStands" "[Z") (by decide +kernel)
  subst hsz
  have hD := hD0.self (sz := s.heap.size)
  generalize hAe : va_A [(m8, .inr (6, [.int 0, .null, .null, .null, .null, .null, .null, .int 0, .int 0, .int 0, .int 0, .int 0, .int 0, .int 0, .int 0, .int 0, .null, .null, .long 0, .null, .int 0, .null, .null]))] s.heap.size = A at hD ⊢
  have hA : ∀ q : Nat, s.heap.size ≤ q → A q := fun q h => by rw [← hAe]; exact Or.inr h
  have hS : va_S A s.heap s.heap [] := va_S.rf
  rw [show entryFrame m args 1 = entryFrame m ([.ref m8] : List Value).toArray 1 from by rw [hargs]]
  have hl := lv_entry ([.ref m8]) (n := 1) (Nat.le_of_ble_eq_true rfl)
  rw [lg_entry_eq]
  generalize (lg_sl ([.ref m8]) ++ List.replicate (1 - (lg_sl ([.ref m8])).length) Slot.unset).toArray = ls at hl ⊢
  have hl : lv_has ls 1 [(0, .ref m8)] := hl
  refine wQ (fun Q hQ => ?_)
  refine lv_aload_n hx hb dX8_init_0 rfl (lv_at hl 0 rfl) ?_
  refine W.objInit hx hb hown k1 i_oi c_oi rfl (by rw [hml]; exact hl.1) rfl dX8_init_1 (Nat.le_of_ble_eq_true rfl) (Nat.le_of_ble_eq_true rfl) ?_
  refine W.eq (g2 := F0 m 4 ls []) rfl ?_
  refine lv_aload_n hx hb dX8_init_4 rfl (lv_at hl 0 rfl) ?_
  refine lv_ldc hx hb hown k7 dX8_init_5 ?_
  refine va_newa (atype := .long) hx hb acJ (ty := .long) rfl hK hP hD hS hA (n := 203520) (N' := 203520) (a0 := (203520, .inr (.inl (fun _ => 0)))) (fun _ => rfl) (by decide) (by decide) (by decide) (Nat.le_of_ble_eq_true rfl) (Nat.le_of_ble_eq_true rfl) dX8_init_7 (fun q7 cA H hK9 hP hD hS => ?_)
  obtain rfl : cJ = cA := Option.some.inj ((hK.2 1 _ rfl).2.symm.trans (hK9.2 3 _ rfl).2)
  clear hK9
  have hP : va_P D vwCl [(m8, .inr (6, [.int 0, .null, .null, .null, .null, .null, .null, .int 0, .int 0, .int 0, .int 0, .int 0, .int 0, .int 0, .int 0, .int 0, .null, .null, .long 0, .null, .int 0, .null, .null])), (q7, .inl (cJ, 203520, .inr (.inl (fun _ => 0))))] H := hP
  have hD : va_D A [(m8, .inr (6, [.int 0, .null, .null, .null, .null, .null, .null, .int 0, .int 0, .int 0, .int 0, .int 0, .int 0, .int 0, .int 0, .int 0, .null, .null, .long 0, .null, .int 0, .null, .null])), (q7, .inl (cJ, 203520, .inr (.inl (fun _ => 0))))] := hD
  refine va_putF (D := D) (ci := 6) (v := .ref q7) (ty := .array .long) (C := RX8) (T := TX8) (N := 23) hx hb hts iX8 tyX8 tyX8_ok nmX8 hown hK hP hD hS 0 rfl rfl 1 (by decide) k8 (fun _ h9 => h9) rfl hin rfl (by decide +kernel) rfl rfl (Nat.le_of_ble_eq_true rfl) dX8_init_9 (fun H locs hP hD hS => ?_)
  have hP : va_P D vwCl [(m8, .inr (6, [.int 0, .ref q7, .null, .null, .null, .null, .null, .int 0, .int 0, .int 0, .int 0, .int 0, .int 0, .int 0, .int 0, .int 0, .null, .null, .long 0, .null, .int 0, .null, .null])), (q7, .inl (cJ, 203520, .inr (.inl (fun _ => 0))))] H := hP
  have hD : va_D A [(m8, .inr (6, [.int 0, .ref q7, .null, .null, .null, .null, .null, .int 0, .int 0, .int 0, .int 0, .int 0, .int 0, .int 0, .int 0, .int 0, .null, .null, .long 0, .null, .int 0, .null, .null])), (q7, .inl (cJ, 203520, .inr (.inl (fun _ => 0))))] := hD
  refine lv_aload_n hx hb dX8_init_12 rfl (lv_at hl 0 rfl) ?_
  refine lv_bipush (v := 52) hx hb dX8_init_13 (by decide) ?_
  refine va_newa (atype := .int) hx hb acI (ty := .int) rfl hK hP hD hS hA (n := 52) (N' := 52) (a0 := (52, .inl (fun _ => 0))) (fun _ => rfl) (by decide) (by decide) (by decide) (Nat.le_of_ble_eq_true rfl) (Nat.le_of_ble_eq_true rfl) dX8_init_15 (fun q15 cA H hK9 hP hD hS => ?_)
  obtain rfl : cI = cA := Option.some.inj ((hK.2 0 _ rfl).2.symm.trans (hK9.2 3 _ rfl).2)
  clear hK9
  have hP : va_P D vwCl [(m8, .inr (6, [.int 0, .ref q7, .null, .null, .null, .null, .null, .int 0, .int 0, .int 0, .int 0, .int 0, .int 0, .int 0, .int 0, .int 0, .null, .null, .long 0, .null, .int 0, .null, .null])), (q7, .inl (cJ, 203520, .inr (.inl (fun _ => 0)))), (q15, .inl (cI, 52, .inl (fun _ => 0)))] H := hP
  have hD : va_D A [(m8, .inr (6, [.int 0, .ref q7, .null, .null, .null, .null, .null, .int 0, .int 0, .int 0, .int 0, .int 0, .int 0, .int 0, .int 0, .int 0, .null, .null, .long 0, .null, .int 0, .null, .null])), (q7, .inl (cJ, 203520, .inr (.inl (fun _ => 0)))), (q15, .inl (cI, 52, .inl (fun _ => 0)))] := hD
  refine va_putF (D := D) (ci := 6) (v := .ref q15) (ty := .array .int) (C := RX8) (T := TX8) (N := 23) hx hb hts iX8 tyX8 tyX8_ok nmX8 hown hK hP hD hS 0 rfl rfl 2 (by decide) k14 (fun _ h9 => h9) rfl hin rfl (by decide +kernel) rfl rfl (Nat.le_of_ble_eq_true rfl) dX8_init_17 (fun H locs hP hD hS => ?_)
  have hP : va_P D vwCl [(m8, .inr (6, [.int 0, .ref q7, .ref q15, .null, .null, .null, .null, .int 0, .int 0, .int 0, .int 0, .int 0, .int 0, .int 0, .int 0, .int 0, .null, .null, .long 0, .null, .int 0, .null, .null])), (q7, .inl (cJ, 203520, .inr (.inl (fun _ => 0)))), (q15, .inl (cI, 52, .inl (fun _ => 0)))] H := hP
  have hD : va_D A [(m8, .inr (6, [.int 0, .ref q7, .ref q15, .null, .null, .null, .null, .int 0, .int 0, .int 0, .int 0, .int 0, .int 0, .int 0, .int 0, .int 0, .null, .null, .long 0, .null, .int 0, .null, .null])), (q7, .inl (cJ, 203520, .inr (.inl (fun _ => 0)))), (q15, .inl (cI, 52, .inl (fun _ => 0)))] := hD
  refine lv_aload_n hx hb dX8_init_20 rfl (lv_at hl 0 rfl) ?_
  refine lv_bipush (v := 52) hx hb dX8_init_21 (by decide) ?_
  refine va_newa (atype := .boolean) hx hb acZ (ty := .boolean) rfl hK hP hD hS hA (n := 52) (N' := 52) (a0 := (52, .inl (fun _ => 0))) (fun _ => rfl) (by decide) (by decide) (by decide) (Nat.le_of_ble_eq_true rfl) (Nat.le_of_ble_eq_true rfl) dX8_init_23 (fun q23 cA H hK9 hP hD hS => ?_)
  obtain rfl : cZ = cA := Option.some.inj ((hK.2 2 _ rfl).2.symm.trans (hK9.2 3 _ rfl).2)
  clear hK9
  have hP : va_P D vwCl [(m8, .inr (6, [.int 0, .ref q7, .ref q15, .null, .null, .null, .null, .int 0, .int 0, .int 0, .int 0, .int 0, .int 0, .int 0, .int 0, .int 0, .null, .null, .long 0, .null, .int 0, .null, .null])), (q7, .inl (cJ, 203520, .inr (.inl (fun _ => 0)))), (q15, .inl (cI, 52, .inl (fun _ => 0))), (q23, .inl (cZ, 52, .inl (fun _ => 0)))] H := hP
  have hD : va_D A [(m8, .inr (6, [.int 0, .ref q7, .ref q15, .null, .null, .null, .null, .int 0, .int 0, .int 0, .int 0, .int 0, .int 0, .int 0, .int 0, .int 0, .null, .null, .long 0, .null, .int 0, .null, .null])), (q7, .inl (cJ, 203520, .inr (.inl (fun _ => 0)))), (q15, .inl (cI, 52, .inl (fun _ => 0))), (q23, .inl (cZ, 52, .inl (fun _ => 0)))] := hD
  refine va_putF (D := D) (ci := 6) (v := .ref q23) (ty := .array .boolean) (C := RX8) (T := TX8) (N := 23) hx hb hts iX8 tyX8 tyX8_ok nmX8 hown hK hP hD hS 0 rfl rfl 3 (by decide) k18 (fun _ h9 => h9) rfl hin rfl (by decide +kernel) rfl rfl (Nat.le_of_ble_eq_true rfl) dX8_init_25 (fun H locs hP hD hS => ?_)
  have hP : va_P D vwCl [(m8, .inr (6, [.int 0, .ref q7, .ref q15, .ref q23, .null, .null, .null, .int 0, .int 0, .int 0, .int 0, .int 0, .int 0, .int 0, .int 0, .int 0, .null, .null, .long 0, .null, .int 0, .null, .null])), (q7, .inl (cJ, 203520, .inr (.inl (fun _ => 0)))), (q15, .inl (cI, 52, .inl (fun _ => 0))), (q23, .inl (cZ, 52, .inl (fun _ => 0)))] H := hP
  have hD : va_D A [(m8, .inr (6, [.int 0, .ref q7, .ref q15, .ref q23, .null, .null, .null, .int 0, .int 0, .int 0, .int 0, .int 0, .int 0, .int 0, .int 0, .int 0, .null, .null, .long 0, .null, .int 0, .null, .null])), (q7, .inl (cJ, 203520, .inr (.inl (fun _ => 0)))), (q15, .inl (cI, 52, .inl (fun _ => 0))), (q23, .inl (cZ, 52, .inl (fun _ => 0)))] := hD
  refine lv_aload_n hx hb dX8_init_28 rfl (lv_at hl 0 rfl) ?_
  refine lv_ldc hx hb hown k7 dX8_init_29 ?_
  refine va_newa (atype := .int) hx hb acI (ty := .int) rfl hK hP hD hS hA (n := 203520) (N' := 203520) (a0 := (203520, .inl (fun _ => 0))) (fun _ => rfl) (by decide) (by decide) (by decide) (Nat.le_of_ble_eq_true rfl) (Nat.le_of_ble_eq_true rfl) dX8_init_31 (fun q31 cA H hK9 hP hD hS => ?_)
  obtain rfl : cI = cA := Option.some.inj ((hK.2 0 _ rfl).2.symm.trans (hK9.2 3 _ rfl).2)
  clear hK9
  have hP : va_P D vwCl [(m8, .inr (6, [.int 0, .ref q7, .ref q15, .ref q23, .null, .null, .null, .int 0, .int 0, .int 0, .int 0, .int 0, .int 0, .int 0, .int 0, .int 0, .null, .null, .long 0, .null, .int 0, .null, .null])), (q7, .inl (cJ, 203520, .inr (.inl (fun _ => 0)))), (q15, .inl (cI, 52, .inl (fun _ => 0))), (q23, .inl (cZ, 52, .inl (fun _ => 0))), (q31, .inl (cI, 203520, .inl (fun _ => 0)))] H := hP
  have hD : va_D A [(m8, .inr (6, [.int 0, .ref q7, .ref q15, .ref q23, .null, .null, .null, .int 0, .int 0, .int 0, .int 0, .int 0, .int 0, .int 0, .int 0, .int 0, .null, .null, .long 0, .null, .int 0, .null, .null])), (q7, .inl (cJ, 203520, .inr (.inl (fun _ => 0)))), (q15, .inl (cI, 52, .inl (fun _ => 0))), (q23, .inl (cZ, 52, .inl (fun _ => 0))), (q31, .inl (cI, 203520, .inl (fun _ => 0)))] := hD
  refine va_putF (D := D) (ci := 6) (v := .ref q31) (ty := .array .int) (C := RX8) (T := TX8) (N := 23) hx hb hts iX8 tyX8 tyX8_ok nmX8 hown hK hP hD hS 0 rfl rfl 4 (by decide) k22 (fun _ h9 => h9) rfl hin rfl (by decide +kernel) rfl rfl (Nat.le_of_ble_eq_true rfl) dX8_init_33 (fun H locs hP hD hS => ?_)
  have hP : va_P D vwCl [(m8, .inr (6, [.int 0, .ref q7, .ref q15, .ref q23, .ref q31, .null, .null, .int 0, .int 0, .int 0, .int 0, .int 0, .int 0, .int 0, .int 0, .int 0, .null, .null, .long 0, .null, .int 0, .null, .null])), (q7, .inl (cJ, 203520, .inr (.inl (fun _ => 0)))), (q15, .inl (cI, 52, .inl (fun _ => 0))), (q23, .inl (cZ, 52, .inl (fun _ => 0))), (q31, .inl (cI, 203520, .inl (fun _ => 0)))] H := hP
  have hD : va_D A [(m8, .inr (6, [.int 0, .ref q7, .ref q15, .ref q23, .ref q31, .null, .null, .int 0, .int 0, .int 0, .int 0, .int 0, .int 0, .int 0, .int 0, .int 0, .null, .null, .long 0, .null, .int 0, .null, .null])), (q7, .inl (cJ, 203520, .inr (.inl (fun _ => 0)))), (q15, .inl (cI, 52, .inl (fun _ => 0))), (q23, .inl (cZ, 52, .inl (fun _ => 0))), (q31, .inl (cI, 203520, .inl (fun _ => 0)))] := hD
  refine lv_aload_n hx hb dX8_init_36 rfl (lv_at hl 0 rfl) ?_
  refine lv_sipush (v := 3840) hx hb dX8_init_37 (by decide) ?_
  refine va_newa (atype := .boolean) hx hb acZ (ty := .boolean) rfl hK hP hD hS hA (n := 3840) (N' := 3840) (a0 := (3840, .inl (fun _ => 0))) (fun _ => rfl) (by decide) (by decide) (by decide) (Nat.le_of_ble_eq_true rfl) (Nat.le_of_ble_eq_true rfl) dX8_init_40 (fun q40 cA H hK9 hP hD hS => ?_)
  obtain rfl : cZ = cA := Option.some.inj ((hK.2 2 _ rfl).2.symm.trans (hK9.2 3 _ rfl).2)
  clear hK9
  have hP : va_P D vwCl [(m8, .inr (6, [.int 0, .ref q7, .ref q15, .ref q23, .ref q31, .null, .null, .int 0, .int 0, .int 0, .int 0, .int 0, .int 0, .int 0, .int 0, .int 0, .null, .null, .long 0, .null, .int 0, .null, .null])), (q7, .inl (cJ, 203520, .inr (.inl (fun _ => 0)))), (q15, .inl (cI, 52, .inl (fun _ => 0))), (q23, .inl (cZ, 52, .inl (fun _ => 0))), (q31, .inl (cI, 203520, .inl (fun _ => 0))), (q40, .inl (cZ, 3840, .inl (fun _ => 0)))] H := hP
  have hD : va_D A [(m8, .inr (6, [.int 0, .ref q7, .ref q15, .ref q23, .ref q31, .null, .null, .int 0, .int 0, .int 0, .int 0, .int 0, .int 0, .int 0, .int 0, .int 0, .null, .null, .long 0, .null, .int 0, .null, .null])), (q7, .inl (cJ, 203520, .inr (.inl (fun _ => 0)))), (q15, .inl (cI, 52, .inl (fun _ => 0))), (q23, .inl (cZ, 52, .inl (fun _ => 0))), (q31, .inl (cI, 203520, .inl (fun _ => 0))), (q40, .inl (cZ, 3840, .inl (fun _ => 0)))] := hD
  refine va_putF (D := D) (ci := 6) (v := .ref q40) (ty := .array .boolean) (C := RX8) (T := TX8) (N := 23) hx hb hts iX8 tyX8 tyX8_ok nmX8 hown hK hP hD hS 0 rfl rfl 5 (by decide) k25 (fun _ h9 => h9) rfl hin rfl (by decide +kernel) rfl rfl (Nat.le_of_ble_eq_true rfl) dX8_init_42 (fun H locs hP hD hS => ?_)
  have hP : va_P D vwCl [(m8, .inr (6, [.int 0, .ref q7, .ref q15, .ref q23, .ref q31, .ref q40, .null, .int 0, .int 0, .int 0, .int 0, .int 0, .int 0, .int 0, .int 0, .int 0, .null, .null, .long 0, .null, .int 0, .null, .null])), (q7, .inl (cJ, 203520, .inr (.inl (fun _ => 0)))), (q15, .inl (cI, 52, .inl (fun _ => 0))), (q23, .inl (cZ, 52, .inl (fun _ => 0))), (q31, .inl (cI, 203520, .inl (fun _ => 0))), (q40, .inl (cZ, 3840, .inl (fun _ => 0)))] H := hP
  have hD : va_D A [(m8, .inr (6, [.int 0, .ref q7, .ref q15, .ref q23, .ref q31, .ref q40, .null, .int 0, .int 0, .int 0, .int 0, .int 0, .int 0, .int 0, .int 0, .int 0, .null, .null, .long 0, .null, .int 0, .null, .null])), (q7, .inl (cJ, 203520, .inr (.inl (fun _ => 0)))), (q15, .inl (cI, 52, .inl (fun _ => 0))), (q23, .inl (cZ, 52, .inl (fun _ => 0))), (q31, .inl (cI, 203520, .inl (fun _ => 0))), (q40, .inl (cZ, 3840, .inl (fun _ => 0)))] := hD
  refine lv_aload_n hx hb dX8_init_45 rfl (lv_at hl 0 rfl) ?_
  refine lv_sipush (v := 3840) hx hb dX8_init_46 (by decide) ?_
  refine va_newa (atype := .boolean) hx hb acZ (ty := .boolean) rfl hK hP hD hS hA (n := 3840) (N' := 3840) (a0 := (3840, .inl (fun _ => 0))) (fun _ => rfl) (by decide) (by decide) (by decide) (Nat.le_of_ble_eq_true rfl) (Nat.le_of_ble_eq_true rfl) dX8_init_49 (fun q49 cA H hK9 hP hD hS => ?_)
  obtain rfl : cZ = cA := Option.some.inj ((hK.2 2 _ rfl).2.symm.trans (hK9.2 3 _ rfl).2)
  clear hK9
  have hP : va_P D vwCl [(m8, .inr (6, [.int 0, .ref q7, .ref q15, .ref q23, .ref q31, .ref q40, .null, .int 0, .int 0, .int 0, .int 0, .int 0, .int 0, .int 0, .int 0, .int 0, .null, .null, .long 0, .null, .int 0, .null, .null])), (q7, .inl (cJ, 203520, .inr (.inl (fun _ => 0)))), (q15, .inl (cI, 52, .inl (fun _ => 0))), (q23, .inl (cZ, 52, .inl (fun _ => 0))), (q31, .inl (cI, 203520, .inl (fun _ => 0))), (q40, .inl (cZ, 3840, .inl (fun _ => 0))), (q49, .inl (cZ, 3840, .inl (fun _ => 0)))] H := hP
  have hD : va_D A [(m8, .inr (6, [.int 0, .ref q7, .ref q15, .ref q23, .ref q31, .ref q40, .null, .int 0, .int 0, .int 0, .int 0, .int 0, .int 0, .int 0, .int 0, .int 0, .null, .null, .long 0, .null, .int 0, .null, .null])), (q7, .inl (cJ, 203520, .inr (.inl (fun _ => 0)))), (q15, .inl (cI, 52, .inl (fun _ => 0))), (q23, .inl (cZ, 52, .inl (fun _ => 0))), (q31, .inl (cI, 203520, .inl (fun _ => 0))), (q40, .inl (cZ, 3840, .inl (fun _ => 0))), (q49, .inl (cZ, 3840, .inl (fun _ => 0)))] := hD
  refine va_putF (D := D) (ci := 6) (v := .ref q49) (ty := .array .boolean) (C := RX8) (T := TX8) (N := 23) hx hb hts iX8 tyX8 tyX8_ok nmX8 hown hK hP hD hS 0 rfl rfl 6 (by decide) k28 (fun _ h9 => h9) rfl hin rfl (by decide +kernel) rfl rfl (Nat.le_of_ble_eq_true rfl) dX8_init_51 (fun H locs hP hD hS => ?_)
  have hP : va_P D vwCl [(m8, .inr (6, [.int 0, .ref q7, .ref q15, .ref q23, .ref q31, .ref q40, .ref q49, .int 0, .int 0, .int 0, .int 0, .int 0, .int 0, .int 0, .int 0, .int 0, .null, .null, .long 0, .null, .int 0, .null, .null])), (q7, .inl (cJ, 203520, .inr (.inl (fun _ => 0)))), (q15, .inl (cI, 52, .inl (fun _ => 0))), (q23, .inl (cZ, 52, .inl (fun _ => 0))), (q31, .inl (cI, 203520, .inl (fun _ => 0))), (q40, .inl (cZ, 3840, .inl (fun _ => 0))), (q49, .inl (cZ, 3840, .inl (fun _ => 0)))] H := hP
  have hD : va_D A [(m8, .inr (6, [.int 0, .ref q7, .ref q15, .ref q23, .ref q31, .ref q40, .ref q49, .int 0, .int 0, .int 0, .int 0, .int 0, .int 0, .int 0, .int 0, .int 0, .null, .null, .long 0, .null, .int 0, .null, .null])), (q7, .inl (cJ, 203520, .inr (.inl (fun _ => 0)))), (q15, .inl (cI, 52, .inl (fun _ => 0))), (q23, .inl (cZ, 52, .inl (fun _ => 0))), (q31, .inl (cI, 203520, .inl (fun _ => 0))), (q40, .inl (cZ, 3840, .inl (fun _ => 0))), (q49, .inl (cZ, 3840, .inl (fun _ => 0)))] := hD
  refine lv_aload_n hx hb dX8_init_54 rfl (lv_at hl 0 rfl) ?_
  refine lv_bipush (v := 30) hx hb dX8_init_55 (by decide) ?_
  refine va_put (D := D) (ci := 6) (v := .int 30) (ty := .int) (C := RX8) (T := TX8) (N := 23) hx hb hts iX8 tyX8 tyX8_ok nmX8 hown hK hP hD hS 0 rfl rfl 9 (by decide) k31 (fun _ h9 => h9) rfl (by decide +kernel) rfl rfl (Nat.le_of_ble_eq_true rfl) dX8_init_57 (fun H locs hP hD hS => ?_)
  have hP : va_P D vwCl [(m8, .inr (6, [.int 0, .ref q7, .ref q15, .ref q23, .ref q31, .ref q40, .ref q49, .int 0, .int 0, .int 30, .int 0, .int 0, .int 0, .int 0, .int 0, .int 0, .null, .null, .long 0, .null, .int 0, .null, .null])), (q7, .inl (cJ, 203520, .inr (.inl (fun _ => 0)))), (q15, .inl (cI, 52, .inl (fun _ => 0))), (q23, .inl (cZ, 52, .inl (fun _ => 0))), (q31, .inl (cI, 203520, .inl (fun _ => 0))), (q40, .inl (cZ, 3840, .inl (fun _ => 0))), (q49, .inl (cZ, 3840, .inl (fun _ => 0)))] H := hP
  have hD : va_D A [(m8, .inr (6, [.int 0, .ref q7, .ref q15, .ref q23, .ref q31, .ref q40, .ref q49, .int 0, .int 0, .int 30, .int 0, .int 0, .int 0, .int 0, .int 0, .int 0, .null, .null, .long 0, .null, .int 0, .null, .null])), (q7, .inl (cJ, 203520, .inr (.inl (fun _ => 0)))), (q15, .inl (cI, 52, .inl (fun _ => 0))), (q23, .inl (cZ, 52, .inl (fun _ => 0))), (q31, .inl (cI, 203520, .inl (fun _ => 0))), (q40, .inl (cZ, 3840, .inl (fun _ => 0))), (q49, .inl (cZ, 3840, .inl (fun _ => 0)))] := hD
  refine lv_aload_n hx hb dX8_init_60 rfl (lv_at hl 0 rfl) ?_
  refine lv_iconst (v := 4) hx hb dX8_init_61 (by decide) ?_
  refine va_newa (atype := .long) hx hb acJ (ty := .long) rfl hK hP hD hS hA (n := 4) (N' := 4) (a0 := (4, .inr (.inl (fun _ => 0)))) (fun _ => rfl) (by decide) (by decide) (by decide) (Nat.le_of_ble_eq_true rfl) (Nat.le_of_ble_eq_true rfl) dX8_init_62 (fun q62 cA H hK9 hP hD hS => ?_)
  obtain rfl : cJ = cA := Option.some.inj ((hK.2 1 _ rfl).2.symm.trans (hK9.2 3 _ rfl).2)
  clear hK9
  have hP : va_P D vwCl [(m8, .inr (6, [.int 0, .ref q7, .ref q15, .ref q23, .ref q31, .ref q40, .ref q49, .int 0, .int 0, .int 30, .int 0, .int 0, .int 0, .int 0, .int 0, .int 0, .null, .null, .long 0, .null, .int 0, .null, .null])), (q7, .inl (cJ, 203520, .inr (.inl (fun _ => 0)))), (q15, .inl (cI, 52, .inl (fun _ => 0))), (q23, .inl (cZ, 52, .inl (fun _ => 0))), (q31, .inl (cI, 203520, .inl (fun _ => 0))), (q40, .inl (cZ, 3840, .inl (fun _ => 0))), (q49, .inl (cZ, 3840, .inl (fun _ => 0))), (q62, .inl (cJ, 4, .inr (.inl (fun _ => 0))))] H := hP
  have hD : va_D A [(m8, .inr (6, [.int 0, .ref q7, .ref q15, .ref q23, .ref q31, .ref q40, .ref q49, .int 0, .int 0, .int 30, .int 0, .int 0, .int 0, .int 0, .int 0, .int 0, .null, .null, .long 0, .null, .int 0, .null, .null])), (q7, .inl (cJ, 203520, .inr (.inl (fun _ => 0)))), (q15, .inl (cI, 52, .inl (fun _ => 0))), (q23, .inl (cZ, 52, .inl (fun _ => 0))), (q31, .inl (cI, 203520, .inl (fun _ => 0))), (q40, .inl (cZ, 3840, .inl (fun _ => 0))), (q49, .inl (cZ, 3840, .inl (fun _ => 0))), (q62, .inl (cJ, 4, .inr (.inl (fun _ => 0))))] := hD
  refine va_putF (D := D) (ci := 6) (v := .ref q62) (ty := .array .long) (C := RX8) (T := TX8) (N := 23) hx hb hts iX8 tyX8 tyX8_ok nmX8 hown hK hP hD hS 0 rfl rfl 16 (by decide) k35 (fun _ h9 => h9) rfl hin rfl (by decide +kernel) rfl rfl (Nat.le_of_ble_eq_true rfl) dX8_init_64 (fun H locs hP hD hS => ?_)
  have hP : va_P D vwCl [(m8, .inr (6, [.int 0, .ref q7, .ref q15, .ref q23, .ref q31, .ref q40, .ref q49, .int 0, .int 0, .int 30, .int 0, .int 0, .int 0, .int 0, .int 0, .int 0, .ref q62, .null, .long 0, .null, .int 0, .null, .null])), (q7, .inl (cJ, 203520, .inr (.inl (fun _ => 0)))), (q15, .inl (cI, 52, .inl (fun _ => 0))), (q23, .inl (cZ, 52, .inl (fun _ => 0))), (q31, .inl (cI, 203520, .inl (fun _ => 0))), (q40, .inl (cZ, 3840, .inl (fun _ => 0))), (q49, .inl (cZ, 3840, .inl (fun _ => 0))), (q62, .inl (cJ, 4, .inr (.inl (fun _ => 0))))] H := hP
  have hD : va_D A [(m8, .inr (6, [.int 0, .ref q7, .ref q15, .ref q23, .ref q31, .ref q40, .ref q49, .int 0, .int 0, .int 30, .int 0, .int 0, .int 0, .int 0, .int 0, .int 0, .ref q62, .null, .long 0, .null, .int 0, .null, .null])), (q7, .inl (cJ, 203520, .inr (.inl (fun _ => 0)))), (q15, .inl (cI, 52, .inl (fun _ => 0))), (q23, .inl (cZ, 52, .inl (fun _ => 0))), (q31, .inl (cI, 203520, .inl (fun _ => 0))), (q40, .inl (cZ, 3840, .inl (fun _ => 0))), (q49, .inl (cZ, 3840, .inl (fun _ => 0))), (q62, .inl (cJ, 4, .inr (.inl (fun _ => 0))))] := hD
  refine lv_aload_n hx hb dX8_init_67 rfl (lv_at hl 0 rfl) ?_
  refine lv_iconst (v := 4) hx hb dX8_init_68 (by decide) ?_
  refine va_newa (atype := .boolean) hx hb acZ (ty := .boolean) rfl hK hP hD hS hA (n := 4) (N' := 4) (a0 := (4, .inl (fun _ => 0))) (fun _ => rfl) (by decide) (by decide) (by decide) (Nat.le_of_ble_eq_true rfl) (Nat.le_of_ble_eq_true rfl) dX8_init_69 (fun q69 cA H hK9 hP hD hS => ?_)
  obtain rfl : cZ = cA := Option.some.inj ((hK.2 2 _ rfl).2.symm.trans (hK9.2 3 _ rfl).2)
  clear hK9
  have hP : va_P D vwCl [(m8, .inr (6, [.int 0, .ref q7, .ref q15, .ref q23, .ref q31, .ref q40, .ref q49, .int 0, .int 0, .int 30, .int 0, .int 0, .int 0, .int 0, .int 0, .int 0, .ref q62, .null, .long 0, .null, .int 0, .null, .null])), (q7, .inl (cJ, 203520, .inr (.inl (fun _ => 0)))), (q15, .inl (cI, 52, .inl (fun _ => 0))), (q23, .inl (cZ, 52, .inl (fun _ => 0))), (q31, .inl (cI, 203520, .inl (fun _ => 0))), (q40, .inl (cZ, 3840, .inl (fun _ => 0))), (q49, .inl (cZ, 3840, .inl (fun _ => 0))), (q62, .inl (cJ, 4, .inr (.inl (fun _ => 0)))), (q69, .inl (cZ, 4, .inl (fun _ => 0)))] H := hP
  have hD : va_D A [(m8, .inr (6, [.int 0, .ref q7, .ref q15, .ref q23, .ref q31, .ref q40, .ref q49, .int 0, .int 0, .int 30, .int 0, .int 0, .int 0, .int 0, .int 0, .int 0, .ref q62, .null, .long 0, .null, .int 0, .null, .null])), (q7, .inl (cJ, 203520, .inr (.inl (fun _ => 0)))), (q15, .inl (cI, 52, .inl (fun _ => 0))), (q23, .inl (cZ, 52, .inl (fun _ => 0))), (q31, .inl (cI, 203520, .inl (fun _ => 0))), (q40, .inl (cZ, 3840, .inl (fun _ => 0))), (q49, .inl (cZ, 3840, .inl (fun _ => 0))), (q62, .inl (cJ, 4, .inr (.inl (fun _ => 0)))), (q69, .inl (cZ, 4, .inl (fun _ => 0)))] := hD
  refine va_putF (D := D) (ci := 6) (v := .ref q69) (ty := .array .boolean) (C := RX8) (T := TX8) (N := 23) hx hb hts iX8 tyX8 tyX8_ok nmX8 hown hK hP hD hS 0 rfl rfl 17 (by decide) k38 (fun _ h9 => h9) rfl hin rfl (by decide +kernel) rfl rfl (Nat.le_of_ble_eq_true rfl) dX8_init_71 (fun H locs hP hD hS => ?_)
  have hP : va_P D vwCl [(m8, .inr (6, [.int 0, .ref q7, .ref q15, .ref q23, .ref q31, .ref q40, .ref q49, .int 0, .int 0, .int 30, .int 0, .int 0, .int 0, .int 0, .int 0, .int 0, .ref q62, .ref q69, .long 0, .null, .int 0, .null, .null])), (q7, .inl (cJ, 203520, .inr (.inl (fun _ => 0)))), (q15, .inl (cI, 52, .inl (fun _ => 0))), (q23, .inl (cZ, 52, .inl (fun _ => 0))), (q31, .inl (cI, 203520, .inl (fun _ => 0))), (q40, .inl (cZ, 3840, .inl (fun _ => 0))), (q49, .inl (cZ, 3840, .inl (fun _ => 0))), (q62, .inl (cJ, 4, .inr (.inl (fun _ => 0)))), (q69, .inl (cZ, 4, .inl (fun _ => 0)))] H := hP
  have hD : va_D A [(m8, .inr (6, [.int 0, .ref q7, .ref q15, .ref q23, .ref q31, .ref q40, .ref q49, .int 0, .int 0, .int 30, .int 0, .int 0, .int 0, .int 0, .int 0, .int 0, .ref q62, .ref q69, .long 0, .null, .int 0, .null, .null])), (q7, .inl (cJ, 203520, .inr (.inl (fun _ => 0)))), (q15, .inl (cI, 52, .inl (fun _ => 0))), (q23, .inl (cZ, 52, .inl (fun _ => 0))), (q31, .inl (cI, 203520, .inl (fun _ => 0))), (q40, .inl (cZ, 3840, .inl (fun _ => 0))), (q49, .inl (cZ, 3840, .inl (fun _ => 0))), (q62, .inl (cJ, 4, .inr (.inl (fun _ => 0)))), (q69, .inl (cZ, 4, .inl (fun _ => 0)))] := hD
  refine lv_aload_n hx hb dX8_init_74 rfl (lv_at hl 0 rfl) ?_
  refine lv_bipush (v := 54) hx hb dX8_init_75 (by decide) ?_
  refine va_newa (atype := .int) hx hb acI (ty := .int) rfl hK hP hD hS hA (n := 54) (N' := 54) (a0 := (54, .inl (fun _ => 0))) (fun _ => rfl) (by decide) (by decide) (by decide) (Nat.le_of_ble_eq_true rfl) (Nat.le_of_ble_eq_true rfl) dX8_init_77 (fun q77 cA H hK9 hP hD hS => ?_)
  obtain rfl : cI = cA := Option.some.inj ((hK.2 0 _ rfl).2.symm.trans (hK9.2 3 _ rfl).2)
  clear hK9
  have hP : va_P D vwCl [(m8, .inr (6, [.int 0, .ref q7, .ref q15, .ref q23, .ref q31, .ref q40, .ref q49, .int 0, .int 0, .int 30, .int 0, .int 0, .int 0, .int 0, .int 0, .int 0, .ref q62, .ref q69, .long 0, .null, .int 0, .null, .null])), (q7, .inl (cJ, 203520, .inr (.inl (fun _ => 0)))), (q15, .inl (cI, 52, .inl (fun _ => 0))), (q23, .inl (cZ, 52, .inl (fun _ => 0))), (q31, .inl (cI, 203520, .inl (fun _ => 0))), (q40, .inl (cZ, 3840, .inl (fun _ => 0))), (q49, .inl (cZ, 3840, .inl (fun _ => 0))), (q62, .inl (cJ, 4, .inr (.inl (fun _ => 0)))), (q69, .inl (cZ, 4, .inl (fun _ => 0))), (q77, .inl (cI, 54, .inl (fun _ => 0)))] H := hP
  have hD : va_D A [(m8, .inr (6, [.int 0, .ref q7, .ref q15, .ref q23, .ref q31, .ref q40, .ref q49, .int 0, .int 0, .int 30, .int 0, .int 0, .int 0, .int 0, .int 0, .int 0, .ref q62, .ref q69, .long 0, .null, .int 0, .null, .null])), (q7, .inl (cJ, 203520, .inr (.inl (fun _ => 0)))), (q15, .inl (cI, 52, .inl (fun _ => 0))), (q23, .inl (cZ, 52, .inl (fun _ => 0))), (q31, .inl (cI, 203520, .inl (fun _ => 0))), (q40, .inl (cZ, 3840, .inl (fun _ => 0))), (q49, .inl (cZ, 3840, .inl (fun _ => 0))), (q62, .inl (cJ, 4, .inr (.inl (fun _ => 0)))), (q69, .inl (cZ, 4, .inl (fun _ => 0))), (q77, .inl (cI, 54, .inl (fun _ => 0)))] := hD
  refine va_putF (D := D) (ci := 6) (v := .ref q77) (ty := .array .int) (C := RX8) (T := TX8) (N := 23) hx hb hts iX8 tyX8 tyX8_ok nmX8 hown hK hP hD hS 0 rfl rfl 19 (by decide) k41 (fun _ h9 => h9) rfl hin rfl (by decide +kernel) rfl rfl (Nat.le_of_ble_eq_true rfl) dX8_init_79 (fun H locs hP hD hS => ?_)
  have hP : va_P D vwCl [(m8, .inr (6, [.int 0, .ref q7, .ref q15, .ref q23, .ref q31, .ref q40, .ref q49, .int 0, .int 0, .int 30, .int 0, .int 0, .int 0, .int 0, .int 0, .int 0, .ref q62, .ref q69, .long 0, .ref q77, .int 0, .null, .null])), (q7, .inl (cJ, 203520, .inr (.inl (fun _ => 0)))), (q15, .inl (cI, 52, .inl (fun _ => 0))), (q23, .inl (cZ, 52, .inl (fun _ => 0))), (q31, .inl (cI, 203520, .inl (fun _ => 0))), (q40, .inl (cZ, 3840, .inl (fun _ => 0))), (q49, .inl (cZ, 3840, .inl (fun _ => 0))), (q62, .inl (cJ, 4, .inr (.inl (fun _ => 0)))), (q69, .inl (cZ, 4, .inl (fun _ => 0))), (q77, .inl (cI, 54, .inl (fun _ => 0)))] H := hP
  have hD : va_D A [(m8, .inr (6, [.int 0, .ref q7, .ref q15, .ref q23, .ref q31, .ref q40, .ref q49, .int 0, .int 0, .int 30, .int 0, .int 0, .int 0, .int 0, .int 0, .int 0, .ref q62, .ref q69, .long 0, .ref q77, .int 0, .null, .null])), (q7, .inl (cJ, 203520, .inr (.inl (fun _ => 0)))), (q15, .inl (cI, 52, .inl (fun _ => 0))), (q23, .inl (cZ, 52, .inl (fun _ => 0))), (q31, .inl (cI, 203520, .inl (fun _ => 0))), (q40, .inl (cZ, 3840, .inl (fun _ => 0))), (q49, .inl (cZ, 3840, .inl (fun _ => 0))), (q62, .inl (cJ, 4, .inr (.inl (fun _ => 0)))), (q69, .inl (cZ, 4, .inl (fun _ => 0))), (q77, .inl (cI, 54, .inl (fun _ => 0)))] := hD
  refine lv_aload_n hx hb dX8_init_82 rfl (lv_at hl 0 rfl) ?_
  refine lv_bipush (v := 52) hx hb dX8_init_83 (by decide) ?_
  refine va_newa (atype := .int) hx hb acI (ty := .int) rfl hK hP hD hS hA (n := 52) (N' := 52) (a0 := (52, .inl (fun _ => 0))) (fun _ => rfl) (by decide) (by decide) (by decide) (Nat.le_of_ble_eq_true rfl) (Nat.le_of_ble_eq_true rfl) dX8_init_85 (fun q85 cA H hK9 hP hD hS => ?_)
  obtain rfl : cI = cA := Option.some.inj ((hK.2 0 _ rfl).2.symm.trans (hK9.2 3 _ rfl).2)
  clear hK9
  have hP : va_P D vwCl [(m8, .inr (6, [.int 0, .ref q7, .ref q15, .ref q23, .ref q31, .ref q40, .ref q49, .int 0, .int 0, .int 30, .int 0, .int 0, .int 0, .int 0, .int 0, .int 0, .ref q62, .ref q69, .long 0, .ref q77, .int 0, .null, .null])), (q7, .inl (cJ, 203520, .inr (.inl (fun _ => 0)))), (q15, .inl (cI, 52, .inl (fun _ => 0))), (q23, .inl (cZ, 52, .inl (fun _ => 0))), (q31, .inl (cI, 203520, .inl (fun _ => 0))), (q40, .inl (cZ, 3840, .inl (fun _ => 0))), (q49, .inl (cZ, 3840, .inl (fun _ => 0))), (q62, .inl (cJ, 4, .inr (.inl (fun _ => 0)))), (q69, .inl (cZ, 4, .inl (fun _ => 0))), (q77, .inl (cI, 54, .inl (fun _ => 0))), (q85, .inl (cI, 52, .inl (fun _ => 0)))] H := hP
  have hD : va_D A [(m8, .inr (6, [.int 0, .ref q7, .ref q15, .ref q23, .ref q31, .ref q40, .ref q49, .int 0, .int 0, .int 30, .int 0, .int 0, .int 0, .int 0, .int 0, .int 0, .ref q62, .ref q69, .long 0, .ref q77, .int 0, .null, .null])), (q7, .inl (cJ, 203520, .inr (.inl (fun _ => 0)))), (q15, .inl (cI, 52, .inl (fun _ => 0))), (q23, .inl (cZ, 52, .inl (fun _ => 0))), (q31, .inl (cI, 203520, .inl (fun _ => 0))), (q40, .inl (cZ, 3840, .inl (fun _ => 0))), (q49, .inl (cZ, 3840, .inl (fun _ => 0))), (q62, .inl (cJ, 4, .inr (.inl (fun _ => 0)))), (q69, .inl (cZ, 4, .inl (fun _ => 0))), (q77, .inl (cI, 54, .inl (fun _ => 0))), (q85, .inl (cI, 52, .inl (fun _ => 0)))] := hD
  refine va_putF (D := D) (ci := 6) (v := .ref q85) (ty := .array .int) (C := RX8) (T := TX8) (N := 23) hx hb hts iX8 tyX8 tyX8_ok nmX8 hown hK hP hD hS 0 rfl rfl 21 (by decide) k44 (fun _ h9 => h9) rfl hin rfl (by decide +kernel) rfl rfl (Nat.le_of_ble_eq_true rfl) dX8_init_87 (fun H locs hP hD hS => ?_)
  have hP : va_P D vwCl [(m8, .inr (6, [.int 0, .ref q7, .ref q15, .ref q23, .ref q31, .ref q40, .ref q49, .int 0, .int 0, .int 30, .int 0, .int 0, .int 0, .int 0, .int 0, .int 0, .ref q62, .ref q69, .long 0, .ref q77, .int 0, .ref q85, .null])), (q7, .inl (cJ, 203520, .inr (.inl (fun _ => 0)))), (q15, .inl (cI, 52, .inl (fun _ => 0))), (q23, .inl (cZ, 52, .inl (fun _ => 0))), (q31, .inl (cI, 203520, .inl (fun _ => 0))), (q40, .inl (cZ, 3840, .inl (fun _ => 0))), (q49, .inl (cZ, 3840, .inl (fun _ => 0))), (q62, .inl (cJ, 4, .inr (.inl (fun _ => 0)))), (q69, .inl (cZ, 4, .inl (fun _ => 0))), (q77, .inl (cI, 54, .inl (fun _ => 0))), (q85, .inl (cI, 52, .inl (fun _ => 0)))] H := hP
  have hD : va_D A [(m8, .inr (6, [.int 0, .ref q7, .ref q15, .ref q23, .ref q31, .ref q40, .ref q49, .int 0, .int 0, .int 30, .int 0, .int 0, .int 0, .int 0, .int 0, .int 0, .ref q62, .ref q69, .long 0, .ref q77, .int 0, .ref q85, .null])), (q7, .inl (cJ, 203520, .inr (.inl (fun _ => 0)))), (q15, .inl (cI, 52, .inl (fun _ => 0))), (q23, .inl (cZ, 52, .inl (fun _ => 0))), (q31, .inl (cI, 203520, .inl (fun _ => 0))), (q40, .inl (cZ, 3840, .inl (fun _ => 0))), (q49, .inl (cZ, 3840, .inl (fun _ => 0))), (q62, .inl (cJ, 4, .inr (.inl (fun _ => 0)))), (q69, .inl (cZ, 4, .inl (fun _ => 0))), (q77, .inl (cI, 54, .inl (fun _ => 0))), (q85, .inl (cI, 52, .inl (fun _ => 0)))] := hD
  refine lv_aload_n hx hb dX8_init_90 rfl (lv_at hl 0 rfl) ?_
  refine lv_bipush (v := 52) hx hb dX8_init_91 (by decide) ?_
  refine va_newa (atype := .boolean) hx hb acZ (ty := .boolean) rfl hK hP hD hS hA (n := 52) (N' := 52) (a0 := (52, .inl (fun _ => 0))) (fun _ => rfl) (by decide) (by decide) (by decide) (Nat.le_of_ble_eq_true rfl) (Nat.le_of_ble_eq_true rfl) dX8_init_93 (fun q93 cA H hK9 hP hD hS => ?_)
  obtain rfl : cZ = cA := Option.some.inj ((hK.2 2 _ rfl).2.symm.trans (hK9.2 3 _ rfl).2)
  clear hK9
  have hP : va_P D vwCl [(m8, .inr (6, [.int 0, .ref q7, .ref q15, .ref q23, .ref q31, .ref q40, .ref q49, .int 0, .int 0, .int 30, .int 0, .int 0, .int 0, .int 0, .int 0, .int 0, .ref q62, .ref q69, .long 0, .ref q77, .int 0, .ref q85, .null])), (q7, .inl (cJ, 203520, .inr (.inl (fun _ => 0)))), (q15, .inl (cI, 52, .inl (fun _ => 0))), (q23, .inl (cZ, 52, .inl (fun _ => 0))), (q31, .inl (cI, 203520, .inl (fun _ => 0))), (q40, .inl (cZ, 3840, .inl (fun _ => 0))), (q49, .inl (cZ, 3840, .inl (fun _ => 0))), (q62, .inl (cJ, 4, .inr (.inl (fun _ => 0)))), (q69, .inl (cZ, 4, .inl (fun _ => 0))), (q77, .inl (cI, 54, .inl (fun _ => 0))), (q85, .inl (cI, 52, .inl (fun _ => 0))), (q93, .inl (cZ, 52, .inl (fun _ => 0)))] H := hP
  have hD : va_D A [(m8, .inr (6, [.int 0, .ref q7, .ref q15, .ref q23, .ref q31, .ref q40, .ref q49, .int 0, .int 0, .int 30, .int 0, .int 0, .int 0, .int 0, .int 0, .int 0, .ref q62, .ref q69, .long 0, .ref q77, .int 0, .ref q85, .null])), (q7, .inl (cJ, 203520, .inr (.inl (fun _ => 0)))), (q15, .inl (cI, 52, .inl (fun _ => 0))), (q23, .inl (cZ, 52, .inl (fun _ => 0))), (q31, .inl (cI, 203520, .inl (fun _ => 0))), (q40, .inl (cZ, 3840, .inl (fun _ => 0))), (q49, .inl (cZ, 3840, .inl (fun _ => 0))), (q62, .inl (cJ, 4, .inr (.inl (fun _ => 0)))), (q69, .inl (cZ, 4, .inl (fun _ => 0))), (q77, .inl (cI, 54, .inl (fun _ => 0))), (q85, .inl (cI, 52, .inl (fun _ => 0))), (q93, .inl (cZ, 52, .inl (fun _ => 0)))] := hD
  refine va_putF (D := D) (ci := 6) (v := .ref q93) (ty := .array .boolean) (C := RX8) (T := TX8) (N := 23) hx hb hts iX8 tyX8 tyX8_ok nmX8 hown hK hP hD hS 0 rfl rfl 22 (by decide) k47 (fun _ h9 => h9) rfl hin rfl (by decide +kernel) rfl rfl (Nat.le_of_ble_eq_true rfl) dX8_init_95 (fun H locs hP hD hS => ?_)
  have hP : va_P D vwCl [(m8, .inr (6, [.int 0, .ref q7, .ref q15, .ref q23, .ref q31, .ref q40, .ref q49, .int 0, .int 0, .int 30, .int 0, .int 0, .int 0, .int 0, .int 0, .int 0, .ref q62, .ref q69, .long 0, .ref q77, .int 0, .ref q85, .ref q93])), (q7, .inl (cJ, 203520, .inr (.inl (fun _ => 0)))), (q15, .inl (cI, 52, .inl (fun _ => 0))), (q23, .inl (cZ, 52, .inl (fun _ => 0))), (q31, .inl (cI, 203520, .inl (fun _ => 0))), (q40, .inl (cZ, 3840, .inl (fun _ => 0))), (q49, .inl (cZ, 3840, .inl (fun _ => 0))), (q62, .inl (cJ, 4, .inr (.inl (fun _ => 0)))), (q69, .inl (cZ, 4, .inl (fun _ => 0))), (q77, .inl (cI, 54, .inl (fun _ => 0))), (q85, .inl (cI, 52, .inl (fun _ => 0))), (q93, .inl (cZ, 52, .inl (fun _ => 0)))] H := hP
  have hD : va_D A [(m8, .inr (6, [.int 0, .ref q7, .ref q15, .ref q23, .ref q31, .ref q40, .ref q49, .int 0, .int 0, .int 30, .int 0, .int 0, .int 0, .int 0, .int 0, .int 0, .ref q62, .ref q69, .long 0, .ref q77, .int 0, .ref q85, .ref q93])), (q7, .inl (cJ, 203520, .inr (.inl (fun _ => 0)))), (q15, .inl (cI, 52, .inl (fun _ => 0))), (q23, .inl (cZ, 52, .inl (fun _ => 0))), (q31, .inl (cI, 203520, .inl (fun _ => 0))), (q40, .inl (cZ, 3840, .inl (fun _ => 0))), (q49, .inl (cZ, 3840, .inl (fun _ => 0))), (q62, .inl (cJ, 4, .inr (.inl (fun _ => 0)))), (q69, .inl (cZ, 4, .inl (fun _ => 0))), (q77, .inl (cI, 54, .inl (fun _ => 0))), (q85, .inl (cI, 52, .inl (fun _ => 0))), (q93, .inl (cZ, 52, .inl (fun _ => 0)))] := hD
  rw [← hQ]
  have hP9 := hP.sub (ws' := [(m8, .inr (6, [.int 0, .ref q7, .ref q15, .ref q23, .ref q31, .ref q40, .ref q49, .int 0, .int 0, .int 30, .int 0, .int 0, .int 0, .int 0, .int 0, .int 0, .ref q62, .ref q69, .long 0, .ref q77, .int 0, .ref q85, .ref q93])), (q7, .inl (cJ, 203520, .inr (.inl (fun _ => 0)))), (q15, .inl (cI, 52, .inl (fun _ => 0))), (q23, .inl (cZ, 52, .inl (fun _ => 0))), (q31, .inl (cI, 203520, .inl (fun _ => 0))), (q40, .inl (cZ, 3840, .inl (fun _ => 0))), (q49, .inl (cZ, 3840, .inl (fun _ => 0))), (q62, .inl (cJ, 4, .inr (.inl (fun _ => 0)))), (q69, .inl (cZ, 4, .inl (fun _ => 0))), (q77, .inl (cI, 54, .inl (fun _ => 0))), (q85, .inl (cI, 52, .inl (fun _ => 0))), (q93, .inl (cZ, 52, .inl (fun _ => 0)))]) [0, 1, 2, 3, 4, 5, 6, 7, 8, 9, 10, 11] rfl
  have hD9 := hD.sub (ws' := [(m8, .inr (6, [.int 0, .ref q7, .ref q15, .ref q23, .ref q31, .ref q40, .ref q49, .int 0, .int 0, .int 30, .int 0, .int 0, .int 0, .int 0, .int 0, .int 0, .ref q62, .ref q69, .long 0, .ref q77, .int 0, .ref q85, .ref q93])), (q7, .inl (cJ, 203520, .inr (.inl (fun _ => 0)))), (q15, .inl (cI, 52, .inl (fun _ => 0))), (q23, .inl (cZ, 52, .inl (fun _ => 0))), (q31, .inl (cI, 203520, .inl (fun _ => 0))), (q40, .inl (cZ, 3840, .inl (fun _ => 0))), (q49, .inl (cZ, 3840, .inl (fun _ => 0))), (q62, .inl (cJ, 4, .inr (.inl (fun _ => 0)))), (q69, .inl (cZ, 4, .inl (fun _ => 0))), (q77, .inl (cI, 54, .inl (fun _ => 0))), (q85, .inl (cI, 52, .inl (fun _ => 0))), (q93, .inl (cZ, 52, .inl (fun _ => 0)))]) [0, 1, 2, 3, 4, 5, 6, 7, 8, 9, 10, 11] (by decide) rfl
  exact W.vret hx hb hr (fun t ht hW => ⟨⟨(q7, q15, q23, q31, q40, q49, q62, q69, q77, q85, q93), rfl, trivial, (by show wB D A _ t; exact ⟨by rw [ht]; exact hP9, hD9⟩)⟩, hS.F ht⟩) hS.2.2 dX8_init_98
