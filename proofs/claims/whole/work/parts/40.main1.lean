theorem dealt_t {np : Nat} (c : ¬ (if nI np ≤ 0 then (0 : Int32) else 1) = 0) : ¬ nI np ≤ 0 := fun z => c (by rw [if_pos z])
theorem dealt_f {np : Nat} (c : (if nI np ≤ 0 then (0 : Int32) else 1) = 0) : nI np ≤ 0 := by
  by_cases z : nI np ≤ 0
  · exact z
  · rw [if_neg z] at c; exact absurd c (by decide)
def j_bar (np : Nat) (ov : Int32) : Int32 := if nI np ≤ 0 then 4 else if ov = 0 then 0 else 5
def j_shows7 (sf : Nat → Int32) (own : Int64) (wh : Int) : Int32 := if wh = 0 then j_X2_groups sf else if wh = 1 then j_X2_runs sf else if wh = 2 then j_X2_shownCards sf else if wh = 3 then j_X0_jokersIn own else if wh = 4 then j_X2_shownWorth sf else if wh = 5 then j_X2_longestRun sf else -1
theorem jt0 {sf : Nat → Int32} {own : Int64} : j_shows7 sf own 0 = j_X2_groups sf := by unfold j_shows7; rw [if_pos rfl]
theorem jt1 {sf : Nat → Int32} {own : Int64} : j_shows7 sf own 1 = j_X2_runs sf := by unfold j_shows7; rw [if_neg (by decide), if_pos rfl]
theorem jt2 {sf : Nat → Int32} {own : Int64} : j_shows7 sf own 2 = j_X2_shownCards sf := by unfold j_shows7; rw [if_neg (by decide), if_neg (by decide), if_pos rfl]
theorem jt3 {sf : Nat → Int32} {own : Int64} : j_shows7 sf own 3 = j_X0_jokersIn own := by unfold j_shows7; rw [if_neg (by decide), if_neg (by decide), if_neg (by decide), if_pos rfl]
theorem jt4 {sf : Nat → Int32} {own : Int64} : j_shows7 sf own 4 = j_X2_shownWorth sf := by unfold j_shows7; rw [if_neg (by decide), if_neg (by decide), if_neg (by decide), if_neg (by decide), if_pos rfl]
theorem jt5 {sf : Nat → Int32} {own : Int64} : j_shows7 sf own 5 = j_X2_longestRun sf := by unfold j_shows7; rw [if_neg (by decide), if_neg (by decide), if_neg (by decide), if_neg (by decide), if_neg (by decide), if_pos rfl]
theorem jt_no {sf : Nat → Int32} {own : Int64} {wh : Int} (h : wh < 0 ∨ 5 < wh) : (-1 : Int32) = j_shows7 sf own wh := by
  simp only [j_shows7]
  rw [if_neg (by omega), if_neg (by omega), if_neg (by omega), if_neg (by omega), if_neg (by omega), if_neg (by omega)]
def j_hand7 (np : Nat) (hf : Nat → Int64) (p : Int32) : Int32 × Int64 := if p < 0 then (1, -1) else if p < 4 then (if nI np ≤ 0 then (4, -1) else if j_has np p = 0 then (1, -1) else (0, hf p.toNatClampNeg)) else (1, -1)
def j_tell7 (np : Nat) (tp tn te lay ov win w : Int32) : Int32 × Int32 := if w < 0 then (1, -1) else if w ≤ 6 then (if nI np ≤ 0 then (4, -1) else (0, j_fact np tp tn te lay ov win w.toInt)) else (1, -1)
def j_plr7 (np : Nat) (hf : Nat → Int64) (of : Nat → Int32) (p w : Int32) : Int32 × Int32 := if w < 0 then (1, -1) else if w ≤ 2 then (if nI np ≤ 0 then (4, -1) else if j_has np p = 0 then (1, -1) else (0, if w = 0 then (if of p.toNatClampNeg = 0 then 0 else 1) else if w = 1 then j_bcL (hf p.toNatClampNeg) else j_X0_worthOfSet (hf p.toNatClampNeg))) else (1, -1)
theorem op_t {x f : Int32} (h : ¬ x = 0) (c : ¬ (if x = 0 then (0 : Int32) else if f = 0 then 0 else 1) = 0) : (1 : Int32) = if f = 0 then 0 else 1 := by
  rw [if_neg h] at c
  by_cases z : f = 0
  · rw [if_pos z] at c; exact absurd rfl c
  · rw [if_neg z]
theorem op_f {x f : Int32} (h : ¬ x = 0) (c : (if x = 0 then (0 : Int32) else if f = 0 then 0 else 1) = 0) : (0 : Int32) = if f = 0 then 0 else 1 := by
  rw [if_neg h] at c
  exact c.symm
set_option maxHeartbeats 4000000 in
set_option maxRecDepth 100000 in
theorem k_X7_status (l : Launch) (D : va_G) (cI cJ cZ : ClassId) (ox wk so ko tr : Nat) (op7 st7 : Int32) (g : Nat)  : Met l yX7_status wsX7_status ({ frames := 0, cells := 0, slots := 0, locals := 0 } : Room) (va_Pc [.ref ox] (wR D cI cJ cZ [(ox, .inr (5, [.ref wk, .ref so, .ref g, .ref ko, .ref tr, .int op7, .int st7]))])) (vp_Si (fun r => r = st7)) 0 0 (fun _ => False) := by
  refine Met.ofW (cc := cX7_status) (maxL := 1) (ret := (some .int)) (by decide) rfl ?_
  intro p e s m args below meth c s₁ B hml hv
  obtain ⟨hargs, hP, hK, hN⟩ := hv
  have hx := B.exec
  have hb := B.bytes
  have hr := B.returns
  have hlocks := B.notSynchronized
  have hts := atoms_spec (ws := wsX7_status) B.pre
  have hown : s.vm.findClass RX7 = some m.cls := findClass_of_methodNamed B.named
  have k52 := hts (.fieldLink RX7 52 "RummyTable" "status" "I") (by decide +kernel)
  have iX7 : ∀ w ∈ wsX70, w ∈ wsX7_status := by decide +kernel
  rw [show entryFrame m args 1 = entryFrame m ([.ref ox] : List Value).toArray 1 from by rw [hargs]]
  have hl := lv_entry ([.ref ox]) (n := 1) (Nat.le_of_ble_eq_true rfl)
  rw [lg_entry_eq]
  generalize (lg_sl ([.ref ox]) ++ List.replicate (1 - (lg_sl ([.ref ox])).length) Slot.unset).toArray = ls at hl ⊢
  have hl : lv_has ls 1 [(0, .ref ox)] := hl
  refine wQ (fun Q hQ => ?_)
  refine lv_aload_n hx hb dX7_status_0 rfl (lv_at hl 0 rfl) ?_
  refine va_get (D := D) (ci := 5) (v := .int st7) (C := RX7) (T := TX7) (N := 7) hx hb hts iX7 hown hK hP 0 rfl rfl 6 (by decide) k52 (fun _ h9 => h9) rfl dX7_status_1 ?_
  rw [← hQ]
  exact W.iret (v := st7) hx hb hr (fun t ht hW => ⟨_, rfl, rfl, ht⟩) (fun _ h => by cases h) dX7_status_4

set_option maxHeartbeats 4000000 in
set_option maxRecDepth 100000 in
theorem k_X7_refuse (l : Launch) (D : va_G) (cI cJ cZ : ClassId) (sz : Nat) (ox wk so ko tr : Nat) (op7 st7 : Int32) (g : Nat) (why : Int32)  : Met l yX7_refuse wsX7_refuse ({ frames := 0, cells := 0, slots := 0, locals := 0 } : Room) (va_Pc [.ref ox, .int why] (wM D cI cJ cZ sz [(ox, .inr (5, [.ref wk, .ref so, .ref g, .ref ko, .ref tr, .int op7, .int st7]))])) (va_Qi (fun (r : Int32) (u : Unit) => match u with | _ => (r = -1)) (fun (u : Unit) t => match u with | _ => wB D (va_A [(ox, .inr (5, [.ref wk, .ref so, .ref g, .ref ko, .ref tr, .int op7, .int st7]))] sz) [(ox, .inr (5, [.ref wk, .ref so, .ref g, .ref ko, .ref tr, .int op7, .int why]))] t) (va_A [(ox, .inr (5, [.ref wk, .ref so, .ref g, .ref ko, .ref tr, .int op7, .int st7]))] sz)) 0 0 (va_A [(ox, .inr (5, [.ref wk, .ref so, .ref g, .ref ko, .ref tr, .int op7, .int st7]))] sz) := by
  refine Met.ofW (cc := cX7_refuse) (maxL := 2) (ret := (some .int)) (by decide) rfl ?_
  intro p e s m args below meth c s₁ B hml hv
  obtain ⟨hargs, hsz, hP, ⟨hK, hN⟩, hD0⟩ := hv
  have hx := B.exec
  have hb := B.bytes
  have hr := B.returns
  have hlocks := B.notSynchronized
  have hts := atoms_spec (ws := wsX7_refuse) B.pre
  have hown : s.vm.findClass RX7 = some m.cls := findClass_of_methodNamed B.named
  have k52 := hts (.fieldLink RX7 52 "RummyTable" "status" "I") (by decide +kernel)
  have iX7 : ∀ w ∈ wsX70, w ∈ wsX7_refuse := by decide +kernel
  subst hsz
  have hD := hD0.self (sz := s.heap.size)
  generalize hAe : va_A [(ox, .inr (5, [.ref wk, .ref so, .ref g, .ref ko, .ref tr, .int op7, .int st7]))] s.heap.size = A at hD ⊢
  have hA : ∀ q : Nat, s.heap.size ≤ q → A q := fun q h => by rw [← hAe]; exact Or.inr h
  have hS : va_S A s.heap s.heap [] := va_S.rf
  rw [show entryFrame m args 2 = entryFrame m ([.ref ox, .int why] : List Value).toArray 2 from by rw [hargs]]
  have hl := lv_entry ([.ref ox, .int why]) (n := 2) (Nat.le_of_ble_eq_true rfl)
  rw [lg_entry_eq]
  generalize (lg_sl ([.ref ox, .int why]) ++ List.replicate (2 - (lg_sl ([.ref ox, .int why])).length) Slot.unset).toArray = ls at hl ⊢
  have hl : lv_has ls 2 [(0, .ref ox), (1, .int why)] := hl
  refine wQ (fun Q hQ => ?_)
  refine lv_aload_n hx hb dX7_refuse_0 rfl (lv_at hl 0 rfl) ?_
  refine lv_iload_n hx hb dX7_refuse_1 rfl (lv_at hl 1 rfl) ?_
  refine va_put (D := D) (ci := 5) (v := .int why) (ty := .int) (C := RX7) (T := TX7) (N := 7) hx hb hts iX7 tyX7 tyX7_ok nmX7 hown hK hP hD hS 0 rfl rfl 6 (by decide) k52 (fun _ h9 => h9) rfl (by decide +kernel) rfl rfl (Nat.le_of_ble_eq_true rfl) dX7_refuse_2 (fun H locs hP hD hS => ?_)
  have hP : va_P D vwCl [(ox, .inr (5, [.ref wk, .ref so, .ref g, .ref ko, .ref tr, .int op7, .int why]))] H := hP
  have hD : va_D A [(ox, .inr (5, [.ref wk, .ref so, .ref g, .ref ko, .ref tr, .int op7, .int why]))] := hD
  refine lv_iconst (v := (-1)) hx hb dX7_refuse_5 (by decide) ?_
  rw [← hQ]
  have hP9 := hP.sub (ws' := [(ox, .inr (5, [.ref wk, .ref so, .ref g, .ref ko, .ref tr, .int op7, .int why]))]) [0] rfl
  have hD9 := hD.sub (ws' := [(ox, .inr (5, [.ref wk, .ref so, .ref g, .ref ko, .ref tr, .int op7, .int why]))]) [0] (by decide) rfl
  exact W.iret (v := (-1)) hx hb hr (fun t ht hW => ⟨⟨(-1), (), rfl, rfl, (by show wB D A _ t; exact ⟨by rw [ht]; exact hP9, hD9⟩)⟩, hS.F ht⟩) hS.2.2 dX7_refuse_6

set_option maxHeartbeats 4000000 in
set_option maxRecDepth 100000 in
theorem k_X7_keepTrial (l : Launch) (D : va_G) (cI cJ cZ : ClassId) (sz : Nat) (ox wk so ko tr : Nat) (op7 st7 : Int32) (g : Nat)  : Met l yX7_keepTrial wsX7_keepTrial ({ frames := 0, cells := 0, slots := 0, locals := 0 } : Room) (va_Pc [.ref ox] (wM D cI cJ cZ sz [(ox, .inr (5, [.ref wk, .ref so, .ref g, .ref ko, .ref tr, .int op7, .int st7]))])) (va_Qv (fun (u : Unit) => match u with | _ => (True)) (fun (u : Unit) t => match u with | _ => wB D (va_A [(ox, .inr (5, [.ref wk, .ref so, .ref g, .ref ko, .ref tr, .int op7, .int st7]))] sz) [(ox, .inr (5, [.ref wk, .ref so, .ref g, .ref tr, .ref ko, .int op7, .int st7]))] t) (va_A [(ox, .inr (5, [.ref wk, .ref so, .ref g, .ref ko, .ref tr, .int op7, .int st7]))] sz)) 0 0 (va_A [(ox, .inr (5, [.ref wk, .ref so, .ref g, .ref ko, .ref tr, .int op7, .int st7]))] sz) := by
  refine Met.ofW (cc := cX7_keepTrial) (maxL := 2) (ret := none) (by decide) rfl ?_
  intro p e s m args below meth c s₁ B hml hv
  obtain ⟨hargs, hsz, hP, ⟨hK, hN⟩, hD0⟩ := hv
  have hx := B.exec
  have hb := B.bytes
  have hr := B.returns
  have hlocks := B.notSynchronized
  have hts := atoms_spec (ws := wsX7_keepTrial) B.pre
  have hown : s.vm.findClass RX7 = some m.cls := findClass_of_methodNamed B.named
  have k41 := hts (.fieldLink RX7 41 "RummyTable" "kept" "LRummyTable$Layout;") (by decide +kernel)
  have iX7 : ∀ w ∈ wsX70, w ∈ wsX7_keepTrial := by decide +kernel
  have k45 := hts (.fieldLink RX7 45 "RummyTable" "trial" "LRummyTable$Layout;") (by decide +kernel)
  subst hsz
  have hD := hD0.self (sz := s.heap.size)
  generalize hAe : va_A [(ox, .inr (5, [.ref wk, .ref so, .ref g, .ref ko, .ref tr, .int op7, .int st7]))] s.heap.size = A at hD ⊢
  have hA : ∀ q : Nat, s.heap.size ≤ q → A q := fun q h => by rw [← hAe]; exact Or.inr h
  have hS : va_S A s.heap s.heap [] := va_S.rf
  rw [show entryFrame m args 2 = entryFrame m ([.ref ox] : List Value).toArray 2 from by rw [hargs]]
  have hl := lv_entry ([.ref ox]) (n := 2) (Nat.le_of_ble_eq_true rfl)
  rw [lg_entry_eq]
  generalize (lg_sl ([.ref ox]) ++ List.replicate (2 - (lg_sl ([.ref ox])).length) Slot.unset).toArray = ls at hl ⊢
  have hl : lv_has ls 2 [(0, .ref ox)] := hl
  refine wQ (fun Q hQ => ?_)
  refine lv_aload_n hx hb dX7_keepTrial_0 rfl (lv_at hl 0 rfl) ?_
  refine va_get (D := D) (ci := 5) (v := .ref ko) (C := RX7) (T := TX7) (N := 7) hx hb hts iX7 hown hK hP 0 rfl rfl 3 (by decide) k41 (fun _ h9 => h9) rfl dX7_keepTrial_1 ?_
  refine lv_astore_n (lv' := [(1, .ref ko), (0, .ref ox)]) hx hb dX7_keepTrial_4 rfl hl (by decide) rfl (fun ls hl => ?_)
  refine lv_aload_n hx hb dX7_keepTrial_5 rfl (lv_at hl 1 rfl) ?_
  refine lv_aload_n hx hb dX7_keepTrial_6 rfl (lv_at hl 1 rfl) ?_
  refine va_get (D := D) (ci := 5) (v := .ref tr) (C := RX7) (T := TX7) (N := 7) hx hb hts iX7 hown hK hP 0 rfl rfl 4 (by decide) k45 (fun _ h9 => h9) rfl dX7_keepTrial_7 ?_
  refine va_put (D := D) (ci := 5) (v := .ref tr) (ty := .object "RummyTable$Layout") (C := RX7) (T := TX7) (N := 7) hx hb hts iX7 tyX7 tyX7_ok nmX7 hown hK hP hD hS 0 rfl rfl 3 (by decide) k41 (fun _ h9 => h9) rfl (by decide +kernel) rfl rfl (Nat.le_of_ble_eq_true rfl) dX7_keepTrial_10 (fun H locs hP hD hS => ?_)
  have hP : va_P D vwCl [(ox, .inr (5, [.ref wk, .ref so, .ref g, .ref tr, .ref tr, .int op7, .int st7]))] H := hP
  have hD : va_D A [(ox, .inr (5, [.ref wk, .ref so, .ref g, .ref tr, .ref tr, .int op7, .int st7]))] := hD
  refine lv_aload_n hx hb dX7_keepTrial_13 rfl (lv_at hl 1 rfl) ?_
  refine lv_aload_n hx hb dX7_keepTrial_14 rfl (lv_at hl 0 rfl) ?_
  refine va_put (D := D) (ci := 5) (v := .ref ko) (ty := .object "RummyTable$Layout") (C := RX7) (T := TX7) (N := 7) hx hb hts iX7 tyX7 tyX7_ok nmX7 hown hK hP hD hS 0 rfl rfl 4 (by decide) k45 (fun _ h9 => h9) rfl (by decide +kernel) rfl rfl (Nat.le_of_ble_eq_true rfl) dX7_keepTrial_15 (fun H locs hP hD hS => ?_)
  have hP : va_P D vwCl [(ox, .inr (5, [.ref wk, .ref so, .ref g, .ref tr, .ref ko, .int op7, .int st7]))] H := hP
  have hD : va_D A [(ox, .inr (5, [.ref wk, .ref so, .ref g, .ref tr, .ref ko, .int op7, .int st7]))] := hD
  rw [← hQ]
  have hP9 := hP.sub (ws' := [(ox, .inr (5, [.ref wk, .ref so, .ref g, .ref tr, .ref ko, .int op7, .int st7]))]) [0] rfl
  have hD9 := hD.sub (ws' := [(ox, .inr (5, [.ref wk, .ref so, .ref g, .ref tr, .ref ko, .int op7, .int st7]))]) [0] (by decide) rfl
  exact W.vret hx hb hr (fun t ht hW => ⟨⟨(), rfl, trivial, (by show wB D A _ t; exact ⟨by rw [ht]; exact hP9, hD9⟩)⟩, hS.F ht⟩) hS.2.2 dX7_keepTrial_18

set_option maxHeartbeats 4000000 in
set_option maxRecDepth 100000 in
theorem k_X7_barToPlay (l : Launch) (D : va_G) (cI cJ cZ : ClassId) (ox wk so ko tr : Nat) (op7 st7 : Int32) (g ha oa pa : Nat) (np : Nat) (tp0 tn0 te lay idl ov win : Int32) (ly : Int64)   : Met l yX7_barToPlay wsX7_barToPlay ({ frames := 1, cells := 0, slots := 0, locals := 20 } : Room) (va_Pc [.ref ox] (wR D cI cJ cZ [(ox, .inr (5, [.ref wk, .ref so, .ref g, .ref ko, .ref tr, .int op7, .int st7])), (g, .inr (0, [.ref ha, .ref oa, .ref pa, .int (nI np), .int tp0, .long ly, .int tn0, .int te, .int lay, .int idl, .int ov, .int win]))])) (vp_Si (fun r => r = j_bar np ov)) 0 0 (fun _ => False) := by
  refine Met.ofW (cc := cX7_barToPlay) (maxL := 1) (ret := (some .int)) (by decide) rfl ?_
  intro p e s m args below meth c s₁ B hml hv
  obtain ⟨hargs, hP, hK, hN⟩ := hv
  have hx := B.exec
  have hb := B.bytes
  have hr := B.returns
  have hlocks := B.notSynchronized
  have hts := atoms_spec (ws := wsX7_barToPlay) B.pre
  have hown : s.vm.findClass RX7 = some m.cls := findClass_of_methodNamed B.named
  have k34 := hts (.fieldLink RX7 34 "RummyTable" "game" "LRummyTable$Game;") (by decide +kernel)
  have iX7 : ∀ w ∈ wsX70, w ∈ wsX7_barToPlay := by decide +kernel
  have k122 := hts (.methodLink RX7 122 yX1_isDealt) (by decide +kernel)
  have k168 : (Cond.fieldLinkNest RX7 168 "RummyTable$Game" "over" "Z" "RummyTable").before args s = true := va_Nw.use rfl hN.2.2.2.2.2.2.2.1
  have iX1 : ∀ w ∈ wsX10, w ∈ wsX7_barToPlay := by decide +kernel
  rw [show entryFrame m args 1 = entryFrame m ([.ref ox] : List Value).toArray 1 from by rw [hargs]]
  have hl := lv_entry ([.ref ox]) (n := 1) (Nat.le_of_ble_eq_true rfl)
  rw [lg_entry_eq]
  generalize (lg_sl ([.ref ox]) ++ List.replicate (1 - (lg_sl ([.ref ox])).length) Slot.unset).toArray = ls at hl ⊢
  have hl : lv_has ls 1 [(0, .ref ox)] := hl
  refine wQ (fun Q hQ => ?_)
  refine lv_aload_n hx hb dX7_barToPlay_0 rfl (lv_at hl 0 rfl) ?_
  refine va_get (D := D) (ci := 5) (v := .ref g) (C := RX7) (T := TX7) (N := 7) hx hb hts iX7 hown hK hP 0 rfl rfl 2 (by decide) k34 (fun _ h9 => h9) rfl dX7_barToPlay_1 ?_
  have hPc := hP.sub (ws' := [(g, .inr (0, [.ref ha, .ref oa, .ref pa, .int (nI np), .int tp0, .long ly, .int tn0, .int te, .int lay, .int idl, .int ov, .int win]))]) [1] rfl
  refine vp_callSi (W.runV (As := []) (rest := []) ⟨hx, hb, hml, hown, hts⟩ (k_X1_isDealt l D cI cJ cZ g ha oa pa np tp0 tn0 te lay idl ov win ly ) (cwV 0 hts gX7_barToPlay_X1_isDealt rfl rfl rfl (by decide +kernel) ⟨Nat.le_of_ble_eq_true rfl, Nat.le_of_ble_eq_true rfl⟩) ⟨wR_fb, va_recv hK hPc (ci := 0) (q0 := 0) rfl rfl, wR_pre hPc ⟨hK, hN⟩⟩ rfl rfl hl.1 rfl (lv_room (Nat.le_of_ble_eq_true rfl)) dX7_barToPlay_4 ⟨Nat.le_of_ble_eq_true rfl, Nat.le_of_ble_eq_true rfl⟩) (fun x4 hx4 => ?_)
  subst hx4
  refine lv_if_ne (tgt := 12) hx hb dX7_barToPlay_7 (by decide) (fun c_7 => ?_) (fun c_7 => ?_)
  · refine lv_aload_n hx hb dX7_barToPlay_12 rfl (lv_at hl 0 rfl) ?_
    refine va_get (D := D) (ci := 5) (v := .ref g) (C := RX7) (T := TX7) (N := 7) hx hb hts iX7 hown hK hP 0 rfl rfl 2 (by decide) k34 (fun _ h9 => h9) rfl dX7_barToPlay_13 ?_
    refine va_getN (D := D) (ci := 0) (v := .int ov) (C := RX1) (T := TX1) (N := 12) hx hb hts iX1 hown hK hP 1 rfl rfl 10 (by decide) k168 (fun _ h9 => h9) rfl dX7_barToPlay_16 ?_
    refine lv_if_eq (tgt := 26) hx hb dX7_barToPlay_19 (by decide) (fun c_19 => ?_) (fun c_19 => ?_)
    · refine lv_iconst (v := 0) hx hb dX7_barToPlay_26 (by decide) ?_
      rw [← hQ]
      exact W.iret (v := 0) hx hb hr (fun t ht hW => ⟨_, rfl, (by unfold j_bar; rw [if_neg (dealt_t c_7)]; first | (rw [if_pos c_19]; done) | (rw [if_neg c_19]; done)), ht⟩) (fun _ h => by cases h) dX7_barToPlay_27
    · refine lv_iconst (v := 5) hx hb dX7_barToPlay_22 (by decide) ?_
      refine lv_goto (tgt := 27) hx hb dX7_barToPlay_23 (by decide) ?_
      rw [← hQ]
      exact W.iret (v := 5) hx hb hr (fun t ht hW => ⟨_, rfl, (by unfold j_bar; rw [if_neg (dealt_t c_7)]; first | (rw [if_pos c_19]; done) | (rw [if_neg c_19]; done)), ht⟩) (fun _ h => by cases h) dX7_barToPlay_27
  · refine lv_iconst (v := 4) hx hb dX7_barToPlay_10 (by decide) ?_
    rw [← hQ]
    exact W.iret (v := 4) hx hb hr (fun t ht hW => ⟨_, rfl, (by unfold j_bar; rw [if_pos (dealt_f c_7)]), ht⟩) (fun _ h => by cases h) dX7_barToPlay_11

set_option maxHeartbeats 4000000 in
set_option maxRecDepth 100000 in
theorem k_X7_place (l : Launch) (D : va_G) (cI cJ cZ : ClassId) (ox wk so ko tr : Nat) (op7 st7 : Int32) (g sk : Nat) (own : Int64) (sf : Nat → Int32) (card : Int32)  : Met l yX7_place wsX7_place ({ frames := 3, cells := 0, slots := 0, locals := 62 } : Room) (va_Pc [.ref ox, .int card] (wR D cI cJ cZ [(ox, .inr (5, [.ref wk, .ref so, .ref g, .ref ko, .ref tr, .int op7, .int st7])), (ko, .inr (1, [.ref sk, .long own])), (sk, .inl (cI, 13, .inl sf))])) (vp_Si (fun r => r = j_X2_placeOf sf card)) 0 0 (fun _ => False) := by
  refine Met.ofW (cc := cX7_place) (maxL := 2) (ret := (some .int)) (by decide) rfl ?_
  intro p e s m args below meth c s₁ B hml hv
  obtain ⟨hargs, hP, hK, hN⟩ := hv
  have hx := B.exec
  have hb := B.bytes
  have hr := B.returns
  have hlocks := B.notSynchronized
  have hts := atoms_spec (ws := wsX7_place) B.pre
  have hown : s.vm.findClass RX7 = some m.cls := findClass_of_methodNamed B.named
  have k41 := hts (.fieldLink RX7 41 "RummyTable" "kept" "LRummyTable$Layout;") (by decide +kernel)
  have iX7 : ∀ w ∈ wsX70, w ∈ wsX7_place := by decide +kernel
  have k91 := hts (.methodLink RX7 91 yX2_placeOf) (by decide +kernel)
  rw [show entryFrame m args 2 = entryFrame m ([.ref ox, .int card] : List Value).toArray 2 from by rw [hargs]]
  have hl := lv_entry ([.ref ox, .int card]) (n := 2) (Nat.le_of_ble_eq_true rfl)
  rw [lg_entry_eq]
  generalize (lg_sl ([.ref ox, .int card]) ++ List.replicate (2 - (lg_sl ([.ref ox, .int card])).length) Slot.unset).toArray = ls at hl ⊢
  have hl : lv_has ls 2 [(0, .ref ox), (1, .int card)] := hl
  refine wQ (fun Q hQ => ?_)
  refine lv_aload_n hx hb dX7_place_0 rfl (lv_at hl 0 rfl) ?_
  refine va_get (D := D) (ci := 5) (v := .ref ko) (C := RX7) (T := TX7) (N := 7) hx hb hts iX7 hown hK hP 0 rfl rfl 3 (by decide) k41 (fun _ h9 => h9) rfl dX7_place_1 ?_
  refine lv_iload_n hx hb dX7_place_4 rfl (lv_at hl 1 rfl) ?_
  have hPc := hP.sub (ws' := [(ko, .inr (1, [.ref sk, .long own])), (sk, .inl (cI, 13, .inl sf))]) [1, 2] rfl
  refine vp_callSi (W.runV (As := [.int card]) (rest := []) ⟨hx, hb, hml, hown, hts⟩ (k_X2_placeOf l D cI cJ cZ ko sk own sf card ) (cwV 1 hts gX7_place_X2_placeOf rfl rfl rfl (by decide +kernel) ⟨Nat.le_of_ble_eq_true rfl, Nat.le_of_ble_eq_true rfl⟩) ⟨wR_fb, va_recv hK hPc (ci := 1) (q0 := 0) rfl rfl, wR_pre hPc ⟨hK, hN⟩⟩ rfl rfl hl.1 rfl (lv_room (Nat.le_of_ble_eq_true rfl)) dX7_place_5 ⟨Nat.le_of_ble_eq_true rfl, Nat.le_of_ble_eq_true rfl⟩) (fun x5 hx5 => ?_)
  subst hx5
  rw [← hQ]
  exact W.iret (v := j_X2_placeOf sf card) hx hb hr (fun t ht hW => ⟨_, rfl, rfl, ht⟩) (fun _ h => by cases h) dX7_place_8

set_option maxHeartbeats 4000000 in
set_option maxRecDepth 100000 in
theorem k_X7_stands (l : Launch) (D : va_G) (cI cJ cZ : ClassId) (ox wk so ko tr : Nat) (op7 st7 : Int32) (g sk : Nat) (own : Int64) (sf : Nat → Int32) (card : Int32)  : Met l yX7_stands wsX7_stands ({ frames := 4, cells := 0, slots := 0, locals := 83 } : Room) (va_Pc [.ref ox, .int card] (wR D cI cJ cZ [(ox, .inr (5, [.ref wk, .ref so, .ref g, .ref ko, .ref tr, .int op7, .int st7])), (ko, .inr (1, [.ref sk, .long own])), (sk, .inl (cI, 13, .inl sf))])) (vp_Si (fun r => r = j_X2_jokerFor sf own card)) 0 0 (fun _ => False) := by
  refine Met.ofW (cc := cX7_stands) (maxL := 2) (ret := (some .int)) (by decide) rfl ?_
  intro p e s m args below meth c s₁ B hml hv
  obtain ⟨hargs, hP, hK, hN⟩ := hv
  have hx := B.exec
  have hb := B.bytes
  have hr := B.returns
  have hlocks := B.notSynchronized
  have hts := atoms_spec (ws := wsX7_stands) B.pre
  have hown : s.vm.findClass RX7 = some m.cls := findClass_of_methodNamed B.named
  have k41 := hts (.fieldLink RX7 41 "RummyTable" "kept" "LRummyTable$Layout;") (by decide +kernel)
  have iX7 : ∀ w ∈ wsX70, w ∈ wsX7_stands := by decide +kernel
  have k94 := hts (.methodLink RX7 94 yX2_jokerFor) (by decide +kernel)
  rw [show entryFrame m args 2 = entryFrame m ([.ref ox, .int card] : List Value).toArray 2 from by rw [hargs]]
  have hl := lv_entry ([.ref ox, .int card]) (n := 2) (Nat.le_of_ble_eq_true rfl)
  rw [lg_entry_eq]
  generalize (lg_sl ([.ref ox, .int card]) ++ List.replicate (2 - (lg_sl ([.ref ox, .int card])).length) Slot.unset).toArray = ls at hl ⊢
  have hl : lv_has ls 2 [(0, .ref ox), (1, .int card)] := hl
  refine wQ (fun Q hQ => ?_)
  refine lv_aload_n hx hb dX7_stands_0 rfl (lv_at hl 0 rfl) ?_
  refine va_get (D := D) (ci := 5) (v := .ref ko) (C := RX7) (T := TX7) (N := 7) hx hb hts iX7 hown hK hP 0 rfl rfl 3 (by decide) k41 (fun _ h9 => h9) rfl dX7_stands_1 ?_
  refine lv_iload_n hx hb dX7_stands_4 rfl (lv_at hl 1 rfl) ?_
  have hPc := hP.sub (ws' := [(ko, .inr (1, [.ref sk, .long own])), (sk, .inl (cI, 13, .inl sf))]) [1, 2] rfl
  refine vp_callSi (W.runV (As := [.int card]) (rest := []) ⟨hx, hb, hml, hown, hts⟩ (k_X2_jokerFor l D cI cJ cZ ko sk own sf card ) (cwV 1 hts gX7_stands_X2_jokerFor rfl rfl rfl (by decide +kernel) ⟨Nat.le_of_ble_eq_true rfl, Nat.le_of_ble_eq_true rfl⟩) ⟨wR_fb, va_recv hK hPc (ci := 1) (q0 := 0) rfl rfl, wR_pre hPc ⟨hK, hN⟩⟩ rfl rfl hl.1 rfl (lv_room (Nat.le_of_ble_eq_true rfl)) dX7_stands_5 ⟨Nat.le_of_ble_eq_true rfl, Nat.le_of_ble_eq_true rfl⟩) (fun x5 hx5 => ?_)
  subst hx5
  rw [← hQ]
  exact W.iret (v := j_X2_jokerFor sf own card) hx hb hr (fun t ht hW => ⟨_, rfl, rfl, ht⟩) (fun _ h => by cases h) dX7_stands_8

set_option maxHeartbeats 4000000 in
set_option maxRecDepth 100000 in
theorem k_X7_shows (l : Launch) (D : va_G) (cI cJ cZ : ClassId) (ox wk so ko tr : Nat) (op7 st7 : Int32) (g sk : Nat) (own : Int64) (sf : Nat → Int32) (wh : Int32)  : Met l yX7_shows wsX7_shows ({ frames := 3, cells := 0, slots := 0, locals := 82 } : Room) (va_Pc [.ref ox, .int wh] (wR D cI cJ cZ [(ox, .inr (5, [.ref wk, .ref so, .ref g, .ref ko, .ref tr, .int op7, .int st7])), (ko, .inr (1, [.ref sk, .long own])), (sk, .inl (cI, 13, .inl sf))])) (vp_Si (fun r => r = j_shows7 sf own wh.toInt)) 0 0 (fun _ => False) := by
  refine Met.ofW (cc := cX7_shows) (maxL := 2) (ret := (some .int)) (by decide) rfl ?_
  intro p e s m args below meth c s₁ B hml hv
  obtain ⟨hargs, hP, hK, hN⟩ := hv
  have hx := B.exec
  have hb := B.bytes
  have hr := B.returns
  have hlocks := B.notSynchronized
  have hts := atoms_spec (ws := wsX7_shows) B.pre
  have hown : s.vm.findClass RX7 = some m.cls := findClass_of_methodNamed B.named
  have k41 := hts (.fieldLink RX7 41 "RummyTable" "kept" "LRummyTable$Layout;") (by decide +kernel)
  have iX7 : ∀ w ∈ wsX70, w ∈ wsX7_shows := by decide +kernel
  have k76 := hts (.methodLink RX7 76 yX2_groups) (by decide +kernel)
  have k80 := hts (.methodLink RX7 80 yX2_runs) (by decide +kernel)
  have k97 := hts (.methodLink RX7 97 yX2_shownCards) (by decide +kernel)
  have k100 : (Cond.fieldLinkNest RX7 100 "RummyTable$Layout" "own" "J" "RummyTable").before args s = true := va_Nw.use rfl hN.2.2.2.2.1
  have iX2 : ∀ w ∈ wsX20, w ∈ wsX7_shows := by decide +kernel
  have k104 := hts (.methodLink RX7 104 yX0_jokersIn) (by decide +kernel)
  have k108 := hts (.methodLink RX7 108 yX2_shownWorth) (by decide +kernel)
  have k111 := hts (.methodLink RX7 111 yX2_longestRun) (by decide +kernel)
  rw [show entryFrame m args 2 = entryFrame m ([.ref ox, .int wh] : List Value).toArray 2 from by rw [hargs]]
  have hl := lv_entry ([.ref ox, .int wh]) (n := 2) (Nat.le_of_ble_eq_true rfl)
  rw [lg_entry_eq]
  generalize (lg_sl ([.ref ox, .int wh]) ++ List.replicate (2 - (lg_sl ([.ref ox, .int wh])).length) Slot.unset).toArray = ls at hl ⊢
  have hl : lv_has ls 2 [(0, .ref ox), (1, .int wh)] := hl
  refine wQ (fun Q hQ => ?_)
  refine lv_iload_n hx hb dX7_shows_0 rfl (lv_at hl 1 rfl) ?_
  by_cases hlo1 : wh.toInt < 0
  · refine lv_tableOut (tgt := 91) hx hb dX7_shows_1 (Or.inl hlo1) (by decide) ?_
    refine lv_iconst (v := (-1)) hx hb dX7_shows_91 (by decide) ?_
    rw [← hQ]
    exact W.iret (v := (-1)) hx hb hr (fun t ht hW => ⟨_, rfl, jt_no (by omega), ht⟩) (fun _ h => by cases h) dX7_shows_92
  by_cases hhi1 : 5 < wh.toInt
  · refine lv_tableOut (tgt := 91) hx hb dX7_shows_1 (Or.inr hhi1) (by decide) ?_
    refine lv_iconst (v := (-1)) hx hb dX7_shows_91 (by decide) ?_
    rw [← hQ]
    exact W.iret (v := (-1)) hx hb hr (fun t ht hW => ⟨_, rfl, jt_no (by omega), ht⟩) (fun _ h => by cases h) dX7_shows_92
  have hsw1 : wh.toInt = 0 ∨ wh.toInt = 1 ∨ wh.toInt = 2 ∨ wh.toInt = 3 ∨ wh.toInt = 4 ∨ wh.toInt = 5 := by have a1 := hlo1; have a2 := hhi1; omega
  rcases hsw1 with hc1 | hc1 | hc1 | hc1 | hc1 | hc1
  · refine lv_tableIn (off := 39) (tgt := 40) hx hb dX7_shows_1 hlo1 hhi1 (by rw [hc1]; rfl) (by decide) ?_
    refine lv_aload_n hx hb dX7_shows_40 rfl (lv_at hl 0 rfl) ?_
    refine va_get (D := D) (ci := 5) (v := .ref ko) (C := RX7) (T := TX7) (N := 7) hx hb hts iX7 hown hK hP 0 rfl rfl 3 (by decide) k41 (fun _ h9 => h9) rfl dX7_shows_41 ?_
    have hPc := hP.sub (ws' := [(ko, .inr (1, [.ref sk, .long own])), (sk, .inl (cI, 13, .inl sf))]) [1, 2] rfl
    refine vp_callSi (W.runV (As := []) (rest := []) ⟨hx, hb, hml, hown, hts⟩ (k_X2_groups l D cI cJ cZ ko sk own sf ) (cwV 0 hts gX7_shows_X2_groups rfl rfl rfl (by decide +kernel) ⟨Nat.le_of_ble_eq_true rfl, Nat.le_of_ble_eq_true rfl⟩) ⟨wR_fb, va_recv hK hPc (ci := 1) (q0 := 0) rfl rfl, wR_pre hPc ⟨hK, hN⟩⟩ rfl rfl hl.1 rfl (lv_room (Nat.le_of_ble_eq_true rfl)) dX7_shows_44 ⟨Nat.le_of_ble_eq_true rfl, Nat.le_of_ble_eq_true rfl⟩) (fun x44 hx44 => ?_)
    subst hx44
    rw [← hQ]
    exact W.iret (v := j_X2_groups sf) hx hb hr (fun t ht hW => ⟨_, rfl, (by rw [hc1]; exact jt0.symm), ht⟩) (fun _ h => by cases h) dX7_shows_47
  · refine lv_tableIn (off := 47) (tgt := 48) hx hb dX7_shows_1 hlo1 hhi1 (by rw [hc1]; rfl) (by decide) ?_
    refine lv_aload_n hx hb dX7_shows_48 rfl (lv_at hl 0 rfl) ?_
    refine va_get (D := D) (ci := 5) (v := .ref ko) (C := RX7) (T := TX7) (N := 7) hx hb hts iX7 hown hK hP 0 rfl rfl 3 (by decide) k41 (fun _ h9 => h9) rfl dX7_shows_49 ?_
    have hPc := hP.sub (ws' := [(ko, .inr (1, [.ref sk, .long own])), (sk, .inl (cI, 13, .inl sf))]) [1, 2] rfl
    refine vp_callSi (W.runV (As := []) (rest := []) ⟨hx, hb, hml, hown, hts⟩ (k_X2_runs l D cI cJ cZ ko sk own sf ) (cwV 0 hts gX7_shows_X2_runs rfl rfl rfl (by decide +kernel) ⟨Nat.le_of_ble_eq_true rfl, Nat.le_of_ble_eq_true rfl⟩) ⟨wR_fb, va_recv hK hPc (ci := 1) (q0 := 0) rfl rfl, wR_pre hPc ⟨hK, hN⟩⟩ rfl rfl hl.1 rfl (lv_room (Nat.le_of_ble_eq_true rfl)) dX7_shows_52 ⟨Nat.le_of_ble_eq_true rfl, Nat.le_of_ble_eq_true rfl⟩) (fun x52 hx52 => ?_)
    subst hx52
    rw [← hQ]
    exact W.iret (v := j_X2_runs sf) hx hb hr (fun t ht hW => ⟨_, rfl, (by rw [hc1]; exact jt1.symm), ht⟩) (fun _ h => by cases h) dX7_shows_55
  · refine lv_tableIn (off := 55) (tgt := 56) hx hb dX7_shows_1 hlo1 hhi1 (by rw [hc1]; rfl) (by decide) ?_
    refine lv_aload_n hx hb dX7_shows_56 rfl (lv_at hl 0 rfl) ?_
    refine va_get (D := D) (ci := 5) (v := .ref ko) (C := RX7) (T := TX7) (N := 7) hx hb hts iX7 hown hK hP 0 rfl rfl 3 (by decide) k41 (fun _ h9 => h9) rfl dX7_shows_57 ?_
    have hPc := hP.sub (ws' := [(ko, .inr (1, [.ref sk, .long own])), (sk, .inl (cI, 13, .inl sf))]) [1, 2] rfl
    refine vp_callSi (W.runV (As := []) (rest := []) ⟨hx, hb, hml, hown, hts⟩ (k_X2_shownCards l D cI cJ cZ ko sk own sf ) (cwV 0 hts gX7_shows_X2_shownCards rfl rfl rfl (by decide +kernel) ⟨Nat.le_of_ble_eq_true rfl, Nat.le_of_ble_eq_true rfl⟩) ⟨wR_fb, va_recv hK hPc (ci := 1) (q0 := 0) rfl rfl, wR_pre hPc ⟨hK, hN⟩⟩ rfl rfl hl.1 rfl (lv_room (Nat.le_of_ble_eq_true rfl)) dX7_shows_60 ⟨Nat.le_of_ble_eq_true rfl, Nat.le_of_ble_eq_true rfl⟩) (fun x60 hx60 => ?_)
    subst hx60
    rw [← hQ]
    exact W.iret (v := j_X2_shownCards sf) hx hb hr (fun t ht hW => ⟨_, rfl, (by rw [hc1]; exact jt2.symm), ht⟩) (fun _ h => by cases h) dX7_shows_63
  · refine lv_tableIn (off := 63) (tgt := 64) hx hb dX7_shows_1 hlo1 hhi1 (by rw [hc1]; rfl) (by decide) ?_
    refine lv_aload_n hx hb dX7_shows_64 rfl (lv_at hl 0 rfl) ?_
    refine va_get (D := D) (ci := 5) (v := .ref ko) (C := RX7) (T := TX7) (N := 7) hx hb hts iX7 hown hK hP 0 rfl rfl 3 (by decide) k41 (fun _ h9 => h9) rfl dX7_shows_65 ?_
    refine va_getN (D := D) (ci := 1) (v := .long own) (C := RX2) (T := TX2) (N := 2) hx hb hts iX2 hown hK hP 1 rfl rfl 1 (by decide) k100 (fun _ h9 => h9) rfl dX7_shows_68 ?_
    refine vp_callSi (W.runS (As := [.long own]) (rest := []) ⟨hx, hb, hml, hown, hts⟩ (k_X0_jokersIn l own ) (va_cwS 1 hts gX7_shows_X0_jokersIn rfl rfl rfl (by decide +kernel) ⟨Nat.le_of_ble_eq_true rfl, Nat.le_of_ble_eq_true rfl⟩) ⟨pS_fb, pS_pre⟩ rfl rfl hl.1 rfl (lv_room (Nat.le_of_ble_eq_true rfl)) dX7_shows_71 ⟨Nat.le_of_ble_eq_true rfl, Nat.le_of_ble_eq_true rfl⟩) (fun x71 hx71 => ?_)
    subst hx71
    rw [← hQ]
    exact W.iret (v := j_X0_jokersIn own) hx hb hr (fun t ht hW => ⟨_, rfl, (by rw [hc1]; exact jt3.symm), ht⟩) (fun _ h => by cases h) dX7_shows_74
  · refine lv_tableIn (off := 74) (tgt := 75) hx hb dX7_shows_1 hlo1 hhi1 (by rw [hc1]; rfl) (by decide) ?_
    refine lv_aload_n hx hb dX7_shows_75 rfl (lv_at hl 0 rfl) ?_
    refine va_get (D := D) (ci := 5) (v := .ref ko) (C := RX7) (T := TX7) (N := 7) hx hb hts iX7 hown hK hP 0 rfl rfl 3 (by decide) k41 (fun _ h9 => h9) rfl dX7_shows_76 ?_
    have hPc := hP.sub (ws' := [(ko, .inr (1, [.ref sk, .long own])), (sk, .inl (cI, 13, .inl sf))]) [1, 2] rfl
    refine vp_callSi (W.runV (As := []) (rest := []) ⟨hx, hb, hml, hown, hts⟩ (k_X2_shownWorth l D cI cJ cZ ko sk own sf ) (cwV 0 hts gX7_shows_X2_shownWorth rfl rfl rfl (by decide +kernel) ⟨Nat.le_of_ble_eq_true rfl, Nat.le_of_ble_eq_true rfl⟩) ⟨wR_fb, va_recv hK hPc (ci := 1) (q0 := 0) rfl rfl, wR_pre hPc ⟨hK, hN⟩⟩ rfl rfl hl.1 rfl (lv_room (Nat.le_of_ble_eq_true rfl)) dX7_shows_79 ⟨Nat.le_of_ble_eq_true rfl, Nat.le_of_ble_eq_true rfl⟩) (fun x79 hx79 => ?_)
    subst hx79
    rw [← hQ]
    exact W.iret (v := j_X2_shownWorth sf) hx hb hr (fun t ht hW => ⟨_, rfl, (by rw [hc1]; exact jt4.symm), ht⟩) (fun _ h => by cases h) dX7_shows_82
  · refine lv_tableIn (off := 82) (tgt := 83) hx hb dX7_shows_1 hlo1 hhi1 (by rw [hc1]; rfl) (by decide) ?_
    refine lv_aload_n hx hb dX7_shows_83 rfl (lv_at hl 0 rfl) ?_
    refine va_get (D := D) (ci := 5) (v := .ref ko) (C := RX7) (T := TX7) (N := 7) hx hb hts iX7 hown hK hP 0 rfl rfl 3 (by decide) k41 (fun _ h9 => h9) rfl dX7_shows_84 ?_
    have hPc := hP.sub (ws' := [(ko, .inr (1, [.ref sk, .long own])), (sk, .inl (cI, 13, .inl sf))]) [1, 2] rfl
    refine vp_callSi (W.runV (As := []) (rest := []) ⟨hx, hb, hml, hown, hts⟩ (k_X2_longestRun l D cI cJ cZ ko sk own sf ) (cwV 0 hts gX7_shows_X2_longestRun rfl rfl rfl (by decide +kernel) ⟨Nat.le_of_ble_eq_true rfl, Nat.le_of_ble_eq_true rfl⟩) ⟨wR_fb, va_recv hK hPc (ci := 1) (q0 := 0) rfl rfl, wR_pre hPc ⟨hK, hN⟩⟩ rfl rfl hl.1 rfl (lv_room (Nat.le_of_ble_eq_true rfl)) dX7_shows_87 ⟨Nat.le_of_ble_eq_true rfl, Nat.le_of_ble_eq_true rfl⟩) (fun x87 hx87 => ?_)
    subst hx87
    rw [← hQ]
    exact W.iret (v := j_X2_longestRun sf) hx hb hr (fun t ht hW => ⟨_, rfl, (by rw [hc1]; exact jt5.symm), ht⟩) (fun _ h => by cases h) dX7_shows_90

set_option maxHeartbeats 4000000 in
set_option maxRecDepth 100000 in
theorem k_X7_worth (l : Launch) (D : va_G) (cI cJ cZ : ClassId) (sz : Nat) (ox wk so ko tr : Nat) (op7 st7 : Int32) (g : Nat) (set : Int64)  : Met l yX7_worth wsX7_worth ({ frames := 3, cells := 0, slots := 0, locals := 83 } : Room) (va_Pc [.ref ox, .long set] (wM D cI cJ cZ sz [(ox, .inr (5, [.ref wk, .ref so, .ref g, .ref ko, .ref tr, .int op7, .int st7]))])) (va_Qi (fun (r : Int32) (u : (Int32)) => match u with | st2 => ((isS set → st2 = 0 ∧ r = j_X0_worthOfSet set) ∧ (¬ isS set → st2 = 1 ∧ r = -1))) (fun (u : (Int32)) t => match u with | st2 => wB D (va_A [(ox, .inr (5, [.ref wk, .ref so, .ref g, .ref ko, .ref tr, .int op7, .int st7]))] sz) [(ox, .inr (5, [.ref wk, .ref so, .ref g, .ref ko, .ref tr, .int op7, .int st2]))] t) (va_A [(ox, .inr (5, [.ref wk, .ref so, .ref g, .ref ko, .ref tr, .int op7, .int st7]))] sz)) 0 0 (va_A [(ox, .inr (5, [.ref wk, .ref so, .ref g, .ref ko, .ref tr, .int op7, .int st7]))] sz) := by
  refine Met.ofW (cc := cX7_worth) (maxL := 3) (ret := (some .int)) (by decide) rfl ?_
  intro p e s m args below meth c s₁ B hml hv
  obtain ⟨hargs, hsz, hP, ⟨hK, hN⟩, hD0⟩ := hv
  have hx := B.exec
  have hb := B.bytes
  have hr := B.returns
  have hlocks := B.notSynchronized
  have hts := atoms_spec (ws := wsX7_worth) B.pre
  have hown : s.vm.findClass RX7 = some m.cls := findClass_of_methodNamed B.named
  have k55 := hts (.methodLink RX7 55 yX0_isSet) (by decide +kernel)
  have k52 := hts (.fieldLink RX7 52 "RummyTable" "status" "I") (by decide +kernel)
  have iX7 : ∀ w ∈ wsX70, w ∈ wsX7_worth := by decide +kernel
  have k114 := hts (.methodLink RX7 114 yX0_worthOfSet) (by decide +kernel)
  have k61 := hts (.methodLink RX7 61 yX7_refuse) (by decide +kernel)
  subst hsz
  have hD := hD0.self (sz := s.heap.size)
  generalize hAe : va_A [(ox, .inr (5, [.ref wk, .ref so, .ref g, .ref ko, .ref tr, .int op7, .int st7]))] s.heap.size = A at hD ⊢
  have hA : ∀ q : Nat, s.heap.size ≤ q → A q := fun q h => by rw [← hAe]; exact Or.inr h
  have hS : va_S A s.heap s.heap [] := va_S.rf
  rw [show entryFrame m args 3 = entryFrame m ([.ref ox, .long set] : List Value).toArray 3 from by rw [hargs]]
  have hl := lv_entry ([.ref ox, .long set]) (n := 3) (Nat.le_of_ble_eq_true rfl)
  rw [lg_entry_eq]
  generalize (lg_sl ([.ref ox, .long set]) ++ List.replicate (3 - (lg_sl ([.ref ox, .long set])).length) Slot.unset).toArray = ls at hl ⊢
  have hl : lv_has ls 3 [(0, .ref ox), (1, .long set)] := hl
  refine wQ (fun Q hQ => ?_)
  refine lv_lload_n hx hb dX7_worth_0 rfl (lv_at hl 1 rfl) ?_
  refine vp_callSi (W.runS (As := [.long set]) (rest := []) ⟨hx, hb, hml, hown, hts⟩ (k_X0_isSet l set ) (va_cwS 1 hts gX7_worth_X0_isSet rfl rfl rfl (by decide +kernel) ⟨Nat.le_of_ble_eq_true rfl, Nat.le_of_ble_eq_true rfl⟩) ⟨pS_fb, pS_pre⟩ rfl rfl hl.1 rfl (lv_room (Nat.le_of_ble_eq_true rfl)) dX7_worth_1 ⟨Nat.le_of_ble_eq_true rfl, Nat.le_of_ble_eq_true rfl⟩) (fun x1 hx1 => ?_)
  subst hx1
  refine lv_if_ne (tgt := 13) hx hb dX7_worth_4 (by decide) (fun c_4 => ?_) (fun c_4 => ?_)
  · have hset := (j0_set set).2 c_4
    refine lv_aload_n hx hb dX7_worth_13 rfl (lv_at hl 0 rfl) ?_
    refine lv_iconst (v := 0) hx hb dX7_worth_14 (by decide) ?_
    refine va_put (D := D) (ci := 5) (v := .int 0) (ty := .int) (C := RX7) (T := TX7) (N := 7) hx hb hts iX7 tyX7 tyX7_ok nmX7 hown hK hP hD hS 0 rfl rfl 6 (by decide) k52 (fun _ h9 => h9) rfl (by decide +kernel) rfl rfl (Nat.le_of_ble_eq_true rfl) dX7_worth_15 (fun H locs hP hD hS => ?_)
    have hP : va_P D vwCl [(ox, .inr (5, [.ref wk, .ref so, .ref g, .ref ko, .ref tr, .int op7, .int 0]))] H := hP
    have hD : va_D A [(ox, .inr (5, [.ref wk, .ref so, .ref g, .ref ko, .ref tr, .int op7, .int 0]))] := hD
    refine lv_lload_n hx hb dX7_worth_18 rfl (lv_at hl 1 rfl) ?_
    refine vp_callSi (W.runS (As := [.long set]) (rest := []) ⟨hx, hb, hml, hown, hts⟩ (k_X0_worthOfSet l set ) (va_cwS 1 hts gX7_worth_X0_worthOfSet rfl rfl rfl (by decide +kernel) ⟨Nat.le_of_ble_eq_true rfl, Nat.le_of_ble_eq_true rfl⟩) ⟨pS_fb, pS_pre⟩ rfl rfl hl.1 rfl (lv_room (Nat.le_of_ble_eq_true rfl)) dX7_worth_19 ⟨Nat.le_of_ble_eq_true rfl, Nat.le_of_ble_eq_true rfl⟩) (fun x19 hx19 => ?_)
    subst hx19
    rw [← hQ]
    have hP9 := hP.sub (ws' := [(ox, .inr (5, [.ref wk, .ref so, .ref g, .ref ko, .ref tr, .int op7, .int 0]))]) [0] rfl
    have hD9 := hD.sub (ws' := [(ox, .inr (5, [.ref wk, .ref so, .ref g, .ref ko, .ref tr, .int op7, .int 0]))]) [0] (by decide) rfl
    exact W.iret (v := j_X0_worthOfSet set) hx hb hr (fun t ht hW => ⟨⟨(j_X0_worthOfSet set), 0, rfl, ⟨fun _ => ⟨rfl, rfl⟩, fun z => absurd hset z⟩, (by show wB D A _ t; exact ⟨by rw [ht]; exact hP9, hD9⟩)⟩, hS.F ht⟩) hS.2.2 dX7_worth_22
  · have hset := (j0_set set).1 c_4
    refine lv_aload_n hx hb dX7_worth_7 rfl (lv_at hl 0 rfl) ?_
    refine lv_iconst (v := 1) hx hb dX7_worth_8 (by decide) ?_
    have hPc := hP.sub (ws' := [(ox, .inr (5, [.ref wk, .ref so, .ref g, .ref ko, .ref tr, .int op7, .int st7]))]) [0] rfl
    have hDc := hD.sub (ws' := [(ox, .inr (5, [.ref wk, .ref so, .ref g, .ref ko, .ref tr, .int op7, .int st7]))]) [0] (by decide) rfl
    have hFc := va_free (wc := [(ox, .inr (5, [.ref wk, .ref so, .ref g, .ref ko, .ref tr, .int op7, .int st7]))]) hD hS hA [0] rfl
    refine va_calli (va_runV (As := [.int 1]) (rest := []) ⟨hx, hb, hml, hown, hts⟩ (k_X7_refuse l D cI cJ cZ s.heap.size ox wk so ko tr op7 st7 g 1 ) (cwV 1 hts gX7_worth_X7_refuse rfl rfl rfl (by decide +kernel) ⟨Nat.le_of_ble_eq_true rfl, Nat.le_of_ble_eq_true rfl⟩) ⟨wM_fb, va_recv hK hPc (ci := 5) (q0 := 0) rfl rfl, wM_pre hPc ⟨hK, hN⟩ hDc⟩ rfl rfl hl.1 rfl (lv_room (Nat.le_of_ble_eq_true rfl)) dX7_worth_9 ⟨Nat.le_of_ble_eq_true rfl, Nat.le_of_ble_eq_true rfl⟩) hS (fun q _ h => hFc q h) hFc (fun x9 u t H1 locs ht hvm hx9 hB hz1 hk1 hS => ?_)
    obtain ⟨hP1, hD1⟩ := hB
    rw [ht] at hP1
    obtain ⟨hP, hD⟩ := va_join (wr := []) (w1 := [(ox, .inr (5, [.ref wk, .ref so, .ref g, .ref ko, .ref tr, .int op7, .int 1]))]) hP hD [0] [] rfl rfl (by decide) (by decide) hk1 hFc hP1 hD1
    generalize H1 = H at hP hS ⊢
    have hP : va_P D vwCl [(ox, .inr (5, [.ref wk, .ref so, .ref g, .ref ko, .ref tr, .int op7, .int 1]))] H := hP
    have hD : va_D A [(ox, .inr (5, [.ref wk, .ref so, .ref g, .ref ko, .ref tr, .int op7, .int 1]))] := hD
    try dsimp only at hx9
    rw [← hQ]
    have hP9 := hP.sub (ws' := [(ox, .inr (5, [.ref wk, .ref so, .ref g, .ref ko, .ref tr, .int op7, .int 1]))]) [0] rfl
    have hD9 := hD.sub (ws' := [(ox, .inr (5, [.ref wk, .ref so, .ref g, .ref ko, .ref tr, .int op7, .int 1]))]) [0] (by decide) rfl
    exact W.iret (v := x9) hx hb hr (fun t ht hW => ⟨⟨x9, 1, rfl, ⟨fun z => absurd z hset, fun _ => ⟨rfl, hx9⟩⟩, (by show wB D A _ t; exact ⟨by rw [ht]; exact hP9, hD9⟩)⟩, hS.F ht⟩) hS.2.2 dX7_worth_12

set_option maxHeartbeats 4000000 in
set_option maxRecDepth 100000 in
theorem k_X7_opening (l : Launch) (D : va_G) (cI cJ cZ : ClassId) (sz : Nat) (ox wk so ko tr : Nat) (op7 st7 : Int32) (g : Nat) (w : Int32)  : Met l yX7_opening wsX7_opening ({ frames := 0, cells := 0, slots := 0, locals := 0 } : Room) (va_Pc [.ref ox, .int w] (wM D cI cJ cZ sz [(ox, .inr (5, [.ref wk, .ref so, .ref g, .ref ko, .ref tr, .int op7, .int st7]))])) (va_Qi (fun (r : Int32) (u : (Int32) × (Int32)) => match u with | (st2, op2) => ((okOp w → st2 = 0 ∧ op2 = w ∧ r = 1) ∧ (¬ okOp w → st2 = 1 ∧ op2 = op7 ∧ r = 0))) (fun (u : (Int32) × (Int32)) t => match u with | (st2, op2) => wB D (va_A [(ox, .inr (5, [.ref wk, .ref so, .ref g, .ref ko, .ref tr, .int op7, .int st7]))] sz) [(ox, .inr (5, [.ref wk, .ref so, .ref g, .ref ko, .ref tr, .int op2, .int st2]))] t) (va_A [(ox, .inr (5, [.ref wk, .ref so, .ref g, .ref ko, .ref tr, .int op7, .int st7]))] sz)) 0 0 (va_A [(ox, .inr (5, [.ref wk, .ref so, .ref g, .ref ko, .ref tr, .int op7, .int st7]))] sz) := by
  refine Met.ofW (cc := cX7_opening) (maxL := 2) (ret := (some .boolean)) (by decide) rfl ?_
  intro p e s m args below meth c s₁ B hml hv
  obtain ⟨hargs, hsz, hP, ⟨hK, hN⟩, hD0⟩ := hv
  have hx := B.exec
  have hb := B.bytes
  have hr := B.returns
  have hlocks := B.notSynchronized
  have hts := atoms_spec (ws := wsX7_opening) B.pre
  have hown : s.vm.findClass RX7 = some m.cls := findClass_of_methodNamed B.named
  have k52 := hts (.fieldLink RX7 52 "RummyTable" "status" "I") (by decide +kernel)
  have iX7 : ∀ w ∈ wsX70, w ∈ wsX7_opening := by decide +kernel
  have k48 := hts (.fieldLink RX7 48 "RummyTable" "opening" "I") (by decide +kernel)
  subst hsz
  have hD := hD0.self (sz := s.heap.size)
  generalize hAe : va_A [(ox, .inr (5, [.ref wk, .ref so, .ref g, .ref ko, .ref tr, .int op7, .int st7]))] s.heap.size = A at hD ⊢
  have hA : ∀ q : Nat, s.heap.size ≤ q → A q := fun q h => by rw [← hAe]; exact Or.inr h
  have hS : va_S A s.heap s.heap [] := va_S.rf
  rw [show entryFrame m args 2 = entryFrame m ([.ref ox, .int w] : List Value).toArray 2 from by rw [hargs]]
  have hl := lv_entry ([.ref ox, .int w]) (n := 2) (Nat.le_of_ble_eq_true rfl)
  rw [lg_entry_eq]
  generalize (lg_sl ([.ref ox, .int w]) ++ List.replicate (2 - (lg_sl ([.ref ox, .int w])).length) Slot.unset).toArray = ls at hl ⊢
  have hl : lv_has ls 2 [(0, .ref ox), (1, .int w)] := hl
  refine wQ (fun Q hQ => ?_)
  refine lv_iload_n hx hb dX7_opening_0 rfl (lv_at hl 1 rfl) ?_
  refine lv_if_lt (tgt := 11) hx hb dX7_opening_1 (by decide) (fun c_1 => ?_) (fun c_1 => ?_)
  · have hok : ¬ okOp w := fun z => z.1 c_1
    refine lv_aload_n hx hb dX7_opening_11 rfl (lv_at hl 0 rfl) ?_
    refine lv_iconst (v := 1) hx hb dX7_opening_12 (by decide) ?_
    refine va_put (D := D) (ci := 5) (v := .int 1) (ty := .int) (C := RX7) (T := TX7) (N := 7) hx hb hts iX7 tyX7 tyX7_ok nmX7 hown hK hP hD hS 0 rfl rfl 6 (by decide) k52 (fun _ h9 => h9) rfl (by decide +kernel) rfl rfl (Nat.le_of_ble_eq_true rfl) dX7_opening_13 (fun H locs hP hD hS => ?_)
    have hP : va_P D vwCl [(ox, .inr (5, [.ref wk, .ref so, .ref g, .ref ko, .ref tr, .int op7, .int 1]))] H := hP
    have hD : va_D A [(ox, .inr (5, [.ref wk, .ref so, .ref g, .ref ko, .ref tr, .int op7, .int 1]))] := hD
    refine lv_iconst (v := 0) hx hb dX7_opening_16 (by decide) ?_
    rw [← hQ]
    have hP9 := hP.sub (ws' := [(ox, .inr (5, [.ref wk, .ref so, .ref g, .ref ko, .ref tr, .int op7, .int 1]))]) [0] rfl
    have hD9 := hD.sub (ws' := [(ox, .inr (5, [.ref wk, .ref so, .ref g, .ref ko, .ref tr, .int op7, .int 1]))]) [0] (by decide) rfl
    exact W.zret (v := 0) hx hb hr (by first | decide | rfl | assumption) (fun t ht hW => ⟨⟨0, (1, op7), rfl, ⟨fun z => absurd z hok, fun _ => ⟨rfl, rfl, rfl⟩⟩, (by show wB D A _ t; exact ⟨by rw [ht]; exact hP9, hD9⟩)⟩, hS.F ht⟩) hS.2.2 dX7_opening_17
  · refine lv_iload_n hx hb dX7_opening_4 rfl (lv_at hl 1 rfl) ?_
    refine lv_sipush (v := 200) hx hb dX7_opening_5 (by decide) ?_
    refine lv_icmp_le (tgt := 18) hx hb dX7_opening_8 (by decide) (fun c_8 => ?_) (fun c_8 => ?_)
    · have hok : okOp w := ⟨c_1, c_8⟩
      refine lv_aload_n hx hb dX7_opening_18 rfl (lv_at hl 0 rfl) ?_
      refine lv_iload_n hx hb dX7_opening_19 rfl (lv_at hl 1 rfl) ?_
      refine va_put (D := D) (ci := 5) (v := .int w) (ty := .int) (C := RX7) (T := TX7) (N := 7) hx hb hts iX7 tyX7 tyX7_ok nmX7 hown hK hP hD hS 0 rfl rfl 5 (by decide) k48 (fun _ h9 => h9) rfl (by decide +kernel) rfl rfl (Nat.le_of_ble_eq_true rfl) dX7_opening_20 (fun H locs hP hD hS => ?_)
      have hP : va_P D vwCl [(ox, .inr (5, [.ref wk, .ref so, .ref g, .ref ko, .ref tr, .int w, .int st7]))] H := hP
      have hD : va_D A [(ox, .inr (5, [.ref wk, .ref so, .ref g, .ref ko, .ref tr, .int w, .int st7]))] := hD
      refine lv_aload_n hx hb dX7_opening_23 rfl (lv_at hl 0 rfl) ?_
      refine lv_iconst (v := 0) hx hb dX7_opening_24 (by decide) ?_
      refine va_put (D := D) (ci := 5) (v := .int 0) (ty := .int) (C := RX7) (T := TX7) (N := 7) hx hb hts iX7 tyX7 tyX7_ok nmX7 hown hK hP hD hS 0 rfl rfl 6 (by decide) k52 (fun _ h9 => h9) rfl (by decide +kernel) rfl rfl (Nat.le_of_ble_eq_true rfl) dX7_opening_25 (fun H locs hP hD hS => ?_)
      have hP : va_P D vwCl [(ox, .inr (5, [.ref wk, .ref so, .ref g, .ref ko, .ref tr, .int w, .int 0]))] H := hP
      have hD : va_D A [(ox, .inr (5, [.ref wk, .ref so, .ref g, .ref ko, .ref tr, .int w, .int 0]))] := hD
      refine lv_iconst (v := 1) hx hb dX7_opening_28 (by decide) ?_
      rw [← hQ]
      have hP9 := hP.sub (ws' := [(ox, .inr (5, [.ref wk, .ref so, .ref g, .ref ko, .ref tr, .int w, .int 0]))]) [0] rfl
      have hD9 := hD.sub (ws' := [(ox, .inr (5, [.ref wk, .ref so, .ref g, .ref ko, .ref tr, .int w, .int 0]))]) [0] (by decide) rfl
      exact W.zret (v := 1) hx hb hr (by first | decide | rfl | assumption) (fun t ht hW => ⟨⟨1, (0, w), rfl, ⟨fun _ => ⟨rfl, rfl, rfl⟩, fun z => absurd hok z⟩, (by show wB D A _ t; exact ⟨by rw [ht]; exact hP9, hD9⟩)⟩, hS.F ht⟩) hS.2.2 dX7_opening_29
    · have hok : ¬ okOp w := fun z => c_8 z.2
      refine lv_aload_n hx hb dX7_opening_11 rfl (lv_at hl 0 rfl) ?_
      refine lv_iconst (v := 1) hx hb dX7_opening_12 (by decide) ?_
      refine va_put (D := D) (ci := 5) (v := .int 1) (ty := .int) (C := RX7) (T := TX7) (N := 7) hx hb hts iX7 tyX7 tyX7_ok nmX7 hown hK hP hD hS 0 rfl rfl 6 (by decide) k52 (fun _ h9 => h9) rfl (by decide +kernel) rfl rfl (Nat.le_of_ble_eq_true rfl) dX7_opening_13 (fun H locs hP hD hS => ?_)
      have hP : va_P D vwCl [(ox, .inr (5, [.ref wk, .ref so, .ref g, .ref ko, .ref tr, .int op7, .int 1]))] H := hP
      have hD : va_D A [(ox, .inr (5, [.ref wk, .ref so, .ref g, .ref ko, .ref tr, .int op7, .int 1]))] := hD
      refine lv_iconst (v := 0) hx hb dX7_opening_16 (by decide) ?_
      rw [← hQ]
      have hP9 := hP.sub (ws' := [(ox, .inr (5, [.ref wk, .ref so, .ref g, .ref ko, .ref tr, .int op7, .int 1]))]) [0] rfl
      have hD9 := hD.sub (ws' := [(ox, .inr (5, [.ref wk, .ref so, .ref g, .ref ko, .ref tr, .int op7, .int 1]))]) [0] (by decide) rfl
      exact W.zret (v := 0) hx hb hr (by first | decide | rfl | assumption) (fun t ht hW => ⟨⟨0, (1, op7), rfl, ⟨fun z => absurd z hok, fun _ => ⟨rfl, rfl, rfl⟩⟩, (by show wB D A _ t; exact ⟨by rw [ht]; exact hP9, hD9⟩)⟩, hS.F ht⟩) hS.2.2 dX7_opening_17

set_option maxHeartbeats 4000000 in
set_option maxRecDepth 100000 in
theorem k_X7_hand (l : Launch) (D : va_G) (cI cJ cZ : ClassId) (sz : Nat) (ox wk so ko tr : Nat) (op7 st7 : Int32) (g ha oa pa : Nat) (np : Nat) (tp0 tn0 te lay idl ov win : Int32) (ly : Int64) (hf : Nat → Int64) (plr : Int32)  : Met l yX7_hand wsX7_hand ({ frames := 2, cells := 0, slots := 0, locals := 42 } : Room) (va_Pc [.ref ox, .int plr] (wM D cI cJ cZ sz [(ox, .inr (5, [.ref wk, .ref so, .ref g, .ref ko, .ref tr, .int op7, .int st7])), (g, .inr (0, [.ref ha, .ref oa, .ref pa, .int (nI np), .int tp0, .long ly, .int tn0, .int te, .int lay, .int idl, .int ov, .int win])), (ha, .inl (cJ, 4, .inr (.inl hf)))])) (va_Ql (fun (r : Int64) (u : (Int32)) => match u with | st2 => ((st2, r) = j_hand7 np hf plr)) (fun (u : (Int32)) t => match u with | st2 => wB D (va_A [(ox, .inr (5, [.ref wk, .ref so, .ref g, .ref ko, .ref tr, .int op7, .int st7])), (g, .inr (0, [.ref ha, .ref oa, .ref pa, .int (nI np), .int tp0, .long ly, .int tn0, .int te, .int lay, .int idl, .int ov, .int win])), (ha, .inl (cJ, 4, .inr (.inl hf)))] sz) [(ox, .inr (5, [.ref wk, .ref so, .ref g, .ref ko, .ref tr, .int op7, .int st2])), (g, .inr (0, [.ref ha, .ref oa, .ref pa, .int (nI np), .int tp0, .long ly, .int tn0, .int te, .int lay, .int idl, .int ov, .int win])), (ha, .inl (cJ, 4, .inr (.inl hf)))] t) (va_A [(ox, .inr (5, [.ref wk, .ref so, .ref g, .ref ko, .ref tr, .int op7, .int st7])), (g, .inr (0, [.ref ha, .ref oa, .ref pa, .int (nI np), .int tp0, .long ly, .int tn0, .int te, .int lay, .int idl, .int ov, .int win])), (ha, .inl (cJ, 4, .inr (.inl hf)))] sz)) 0 0 (va_A [(ox, .inr (5, [.ref wk, .ref so, .ref g, .ref ko, .ref tr, .int op7, .int st7])), (g, .inr (0, [.ref ha, .ref oa, .ref pa, .int (nI np), .int tp0, .long ly, .int tn0, .int te, .int lay, .int idl, .int ov, .int win])), (ha, .inl (cJ, 4, .inr (.inl hf)))] sz) := by
  refine Met.ofW (cc := cX7_hand) (maxL := 2) (ret := (some .long)) (by decide) rfl ?_
  intro p e s m args below meth c s₁ B hml hv
  obtain ⟨hargs, hsz, hP, ⟨hK, hN⟩, hD0⟩ := hv
  have hx := B.exec
  have hb := B.bytes
  have hr := B.returns
  have hlocks := B.notSynchronized
  have hts := atoms_spec (ws := wsX7_hand) B.pre
  have hown : s.vm.findClass RX7 = some m.cls := findClass_of_methodNamed B.named
  have k61 := hts (.methodLink RX7 61 yX7_refuse) (by decide +kernel)
  have k34 := hts (.fieldLink RX7 34 "RummyTable" "game" "LRummyTable$Game;") (by decide +kernel)
  have iX7 : ∀ w ∈ wsX70, w ∈ wsX7_hand := by decide +kernel
  have k122 := hts (.methodLink RX7 122 yX1_isDealt) (by decide +kernel)
  have k126 := hts (.methodLink RX7 126 yX1_has) (by decide +kernel)
  have k52 := hts (.fieldLink RX7 52 "RummyTable" "status" "I") (by decide +kernel)
  have k129 := hts (.methodLink RX7 129 yX1_handOf) (by decide +kernel)
  subst hsz
  have hD := hD0.self (sz := s.heap.size)
  generalize hAe : va_A [(ox, .inr (5, [.ref wk, .ref so, .ref g, .ref ko, .ref tr, .int op7, .int st7])), (g, .inr (0, [.ref ha, .ref oa, .ref pa, .int (nI np), .int tp0, .long ly, .int tn0, .int te, .int lay, .int idl, .int ov, .int win])), (ha, .inl (cJ, 4, .inr (.inl hf)))] s.heap.size = A at hD ⊢
  have hA : ∀ q : Nat, s.heap.size ≤ q → A q := fun q h => by rw [← hAe]; exact Or.inr h
  have hS : va_S A s.heap s.heap [] := va_S.rf
  rw [show entryFrame m args 2 = entryFrame m ([.ref ox, .int plr] : List Value).toArray 2 from by rw [hargs]]
  have hl := lv_entry ([.ref ox, .int plr]) (n := 2) (Nat.le_of_ble_eq_true rfl)
  rw [lg_entry_eq]
  generalize (lg_sl ([.ref ox, .int plr]) ++ List.replicate (2 - (lg_sl ([.ref ox, .int plr])).length) Slot.unset).toArray = ls at hl ⊢
  have hl : lv_has ls 2 [(0, .ref ox), (1, .int plr)] := hl
  refine wQ (fun Q hQ => ?_)
  refine lv_iload_n hx hb dX7_hand_0 rfl (lv_at hl 1 rfl) ?_
  refine lv_if_lt (tgt := 9) hx hb dX7_hand_1 (by decide) (fun c_1 => ?_) (fun c_1 => ?_)
  · refine lv_aload_n hx hb dX7_hand_9 rfl (lv_at hl 0 rfl) ?_
    refine lv_iconst (v := 1) hx hb dX7_hand_10 (by decide) ?_
    have hPc := hP.sub (ws' := [(ox, .inr (5, [.ref wk, .ref so, .ref g, .ref ko, .ref tr, .int op7, .int st7]))]) [0] rfl
    have hDc := hD.sub (ws' := [(ox, .inr (5, [.ref wk, .ref so, .ref g, .ref ko, .ref tr, .int op7, .int st7]))]) [0] (by decide) rfl
    have hFc := va_free (wc := [(ox, .inr (5, [.ref wk, .ref so, .ref g, .ref ko, .ref tr, .int op7, .int st7]))]) hD hS hA [0] rfl
    refine va_calli (va_runV (As := [.int 1]) (rest := []) ⟨hx, hb, hml, hown, hts⟩ (k_X7_refuse l D cI cJ cZ s.heap.size ox wk so ko tr op7 st7 g 1 ) (cwV 1 hts gX7_hand_X7_refuse rfl rfl rfl (by decide +kernel) ⟨Nat.le_of_ble_eq_true rfl, Nat.le_of_ble_eq_true rfl⟩) ⟨wM_fb, va_recv hK hPc (ci := 5) (q0 := 0) rfl rfl, wM_pre hPc ⟨hK, hN⟩ hDc⟩ rfl rfl hl.1 rfl (lv_room (Nat.le_of_ble_eq_true rfl)) dX7_hand_11 ⟨Nat.le_of_ble_eq_true rfl, Nat.le_of_ble_eq_true rfl⟩) hS (fun q _ h => hFc q h) hFc (fun x11 u t H1 locs ht hvm hx11 hB hz1 hk1 hS => ?_)
    obtain ⟨hP1, hD1⟩ := hB
    rw [ht] at hP1
    obtain ⟨hP, hD⟩ := va_join (wr := [(g, .inr (0, [.ref ha, .ref oa, .ref pa, .int (nI np), .int tp0, .long ly, .int tn0, .int te, .int lay, .int idl, .int ov, .int win])), (ha, .inl (cJ, 4, .inr (.inl hf)))]) (w1 := [(ox, .inr (5, [.ref wk, .ref so, .ref g, .ref ko, .ref tr, .int op7, .int 1]))]) hP hD [0] [1, 2] rfl rfl (by decide) (by decide) hk1 hFc hP1 hD1
    generalize H1 = H at hP hS ⊢
    have hP : va_P D vwCl [(g, .inr (0, [.ref ha, .ref oa, .ref pa, .int (nI np), .int tp0, .long ly, .int tn0, .int te, .int lay, .int idl, .int ov, .int win])), (ha, .inl (cJ, 4, .inr (.inl hf))), (ox, .inr (5, [.ref wk, .ref so, .ref g, .ref ko, .ref tr, .int op7, .int 1]))] H := hP
    have hD : va_D A [(g, .inr (0, [.ref ha, .ref oa, .ref pa, .int (nI np), .int tp0, .long ly, .int tn0, .int te, .int lay, .int idl, .int ov, .int win])), (ha, .inl (cJ, 4, .inr (.inl hf))), (ox, .inr (5, [.ref wk, .ref so, .ref g, .ref ko, .ref tr, .int op7, .int 1]))] := hD
    try dsimp only at hx11
    refine lv_i2l hx hb dX7_hand_14 rfl ?_
    rw [← hQ]
    have hP9 := hP.sub (ws' := [(ox, .inr (5, [.ref wk, .ref so, .ref g, .ref ko, .ref tr, .int op7, .int 1])), (g, .inr (0, [.ref ha, .ref oa, .ref pa, .int (nI np), .int tp0, .long ly, .int tn0, .int te, .int lay, .int idl, .int ov, .int win])), (ha, .inl (cJ, 4, .inr (.inl hf)))]) [2, 0, 1] rfl
    have hD9 := hD.sub (ws' := [(ox, .inr (5, [.ref wk, .ref so, .ref g, .ref ko, .ref tr, .int op7, .int 1])), (g, .inr (0, [.ref ha, .ref oa, .ref pa, .int (nI np), .int tp0, .long ly, .int tn0, .int te, .int lay, .int idl, .int ov, .int win])), (ha, .inl (cJ, 4, .inr (.inl hf)))]) [2, 0, 1] (by decide) rfl
    exact W.lret (v := x11.toInt64) hx hb hr (fun t ht hW => ⟨⟨x11.toInt64, 1, rfl, (by simp only [j_hand7]; rw [hx11]; (repeat' split) <;> first | rfl | contradiction), (by show wB D A _ t; exact ⟨by rw [ht]; exact hP9, hD9⟩)⟩, hS.F ht⟩) hS.2.2 dX7_hand_15
  · refine lv_iload_n hx hb dX7_hand_4 rfl (lv_at hl 1 rfl) ?_
    refine lv_iconst (v := 4) hx hb dX7_hand_5 (by decide) ?_
    refine lv_icmp_lt (tgt := 16) hx hb dX7_hand_6 (by decide) (fun c_6 => ?_) (fun c_6 => ?_)
    · refine lv_aload_n hx hb dX7_hand_16 rfl (lv_at hl 0 rfl) ?_
      refine va_get (D := D) (ci := 5) (v := .ref g) (C := RX7) (T := TX7) (N := 7) hx hb hts iX7 hown hK hP 0 rfl rfl 2 (by decide) k34 (fun _ h9 => h9) rfl dX7_hand_17 ?_
      have hPc := hP.sub (ws' := [(g, .inr (0, [.ref ha, .ref oa, .ref pa, .int (nI np), .int tp0, .long ly, .int tn0, .int te, .int lay, .int idl, .int ov, .int win]))]) [1] rfl
      refine vp_callSi (W.runV (As := []) (rest := []) ⟨hx, hb, hml, hown, hts⟩ (k_X1_isDealt l D cI cJ cZ g ha oa pa np tp0 tn0 te lay idl ov win ly ) (cwV 0 hts gX7_hand_X1_isDealt rfl rfl rfl (by decide +kernel) ⟨Nat.le_of_ble_eq_true rfl, Nat.le_of_ble_eq_true rfl⟩) ⟨wR_fb, va_recv hK hPc (ci := 0) (q0 := 0) rfl rfl, wR_pre hPc ⟨hK, hN⟩⟩ rfl rfl hl.1 rfl (lv_room (Nat.le_of_ble_eq_true rfl)) dX7_hand_20 ⟨Nat.le_of_ble_eq_true rfl, Nat.le_of_ble_eq_true rfl⟩) (fun x20 hx20 => ?_)
      subst hx20
      refine lv_if_ne (tgt := 33) hx hb dX7_hand_23 (by decide) (fun c_23 => ?_) (fun c_23 => ?_)
      · refine lv_aload_n hx hb dX7_hand_33 rfl (lv_at hl 0 rfl) ?_
        refine va_get (D := D) (ci := 5) (v := .ref g) (C := RX7) (T := TX7) (N := 7) hx hb hts iX7 hown hK hP 0 rfl rfl 2 (by decide) k34 (fun _ h9 => h9) rfl dX7_hand_34 ?_
        refine lv_iload_n hx hb dX7_hand_37 rfl (lv_at hl 1 rfl) ?_
        have hPc := hP.sub (ws' := [(g, .inr (0, [.ref ha, .ref oa, .ref pa, .int (nI np), .int tp0, .long ly, .int tn0, .int te, .int lay, .int idl, .int ov, .int win]))]) [1] rfl
        refine vp_callSi (W.runV (As := [.int plr]) (rest := []) ⟨hx, hb, hml, hown, hts⟩ (k_X1_has l D cI cJ cZ g ha oa pa np tp0 tn0 te lay idl ov win ly plr ) (cwV 1 hts gX7_hand_X1_has rfl rfl rfl (by decide +kernel) ⟨Nat.le_of_ble_eq_true rfl, Nat.le_of_ble_eq_true rfl⟩) ⟨wR_fb, va_recv hK hPc (ci := 0) (q0 := 0) rfl rfl, wR_pre hPc ⟨hK, hN⟩⟩ rfl rfl hl.1 rfl (lv_room (Nat.le_of_ble_eq_true rfl)) dX7_hand_38 ⟨Nat.le_of_ble_eq_true rfl, Nat.le_of_ble_eq_true rfl⟩) (fun x38 hx38 => ?_)
        subst hx38
        refine lv_if_ne (tgt := 51) hx hb dX7_hand_41 (by decide) (fun c_41 => ?_) (fun c_41 => ?_)
        · refine lv_aload_n hx hb dX7_hand_51 rfl (lv_at hl 0 rfl) ?_
          refine lv_iconst (v := 0) hx hb dX7_hand_52 (by decide) ?_
          refine va_put (D := D) (ci := 5) (v := .int 0) (ty := .int) (C := RX7) (T := TX7) (N := 7) hx hb hts iX7 tyX7 tyX7_ok nmX7 hown hK hP hD hS 0 rfl rfl 6 (by decide) k52 (fun _ h9 => h9) rfl (by decide +kernel) rfl rfl (Nat.le_of_ble_eq_true rfl) dX7_hand_53 (fun H locs hP hD hS => ?_)
          have hP : va_P D vwCl [(ox, .inr (5, [.ref wk, .ref so, .ref g, .ref ko, .ref tr, .int op7, .int 0])), (g, .inr (0, [.ref ha, .ref oa, .ref pa, .int (nI np), .int tp0, .long ly, .int tn0, .int te, .int lay, .int idl, .int ov, .int win])), (ha, .inl (cJ, 4, .inr (.inl hf)))] H := hP
          have hD : va_D A [(ox, .inr (5, [.ref wk, .ref so, .ref g, .ref ko, .ref tr, .int op7, .int 0])), (g, .inr (0, [.ref ha, .ref oa, .ref pa, .int (nI np), .int tp0, .long ly, .int tn0, .int te, .int lay, .int idl, .int ov, .int win])), (ha, .inl (cJ, 4, .inr (.inl hf)))] := hD
          refine lv_aload_n hx hb dX7_hand_56 rfl (lv_at hl 0 rfl) ?_
          refine va_get (D := D) (ci := 5) (v := .ref g) (C := RX7) (T := TX7) (N := 7) hx hb hts iX7 hown hK hP 0 rfl rfl 2 (by decide) k34 (fun _ h9 => h9) rfl dX7_hand_57 ?_
          refine lv_iload_n hx hb dX7_hand_60 rfl (lv_at hl 1 rfl) ?_
          have hPc := hP.sub (ws' := [(g, .inr (0, [.ref ha, .ref oa, .ref pa, .int (nI np), .int tp0, .long ly, .int tn0, .int te, .int lay, .int idl, .int ov, .int win])), (ha, .inl (cJ, 4, .inr (.inl hf)))]) [1, 2] rfl
          refine vp_callSl (W.runV (As := [.int plr]) (rest := []) ⟨hx, hb, hml, hown, hts⟩ (k_X1_handOf l D cI cJ cZ g ha oa pa np tp0 tn0 te lay idl ov win ly hf plr ) (cwV 1 hts gX7_hand_X1_handOf rfl rfl rfl (by decide +kernel) ⟨Nat.le_of_ble_eq_true rfl, Nat.le_of_ble_eq_true rfl⟩) ⟨wR_fb, va_recv hK hPc (ci := 0) (q0 := 0) rfl rfl, wR_pre hPc ⟨hK, hN⟩⟩ rfl rfl hl.1 rfl (lv_room (Nat.le_of_ble_eq_true rfl)) dX7_hand_61 ⟨Nat.le_of_ble_eq_true rfl, Nat.le_of_ble_eq_true rfl⟩) (fun x61 hx61 => ?_)
          subst hx61
          rw [← hQ]
          have hP9 := hP.sub (ws' := [(ox, .inr (5, [.ref wk, .ref so, .ref g, .ref ko, .ref tr, .int op7, .int 0])), (g, .inr (0, [.ref ha, .ref oa, .ref pa, .int (nI np), .int tp0, .long ly, .int tn0, .int te, .int lay, .int idl, .int ov, .int win])), (ha, .inl (cJ, 4, .inr (.inl hf)))]) [0, 1, 2] rfl
          have hD9 := hD.sub (ws' := [(ox, .inr (5, [.ref wk, .ref so, .ref g, .ref ko, .ref tr, .int op7, .int 0])), (g, .inr (0, [.ref ha, .ref oa, .ref pa, .int (nI np), .int tp0, .long ly, .int tn0, .int te, .int lay, .int idl, .int ov, .int win])), (ha, .inl (cJ, 4, .inr (.inl hf)))]) [0, 1, 2] (by decide) rfl
          exact W.lret (v := if j_has np plr = 0 then 0 else hf plr.toNatClampNeg) hx hb hr (fun t ht hW => ⟨⟨(if j_has np plr = 0 then 0 else hf plr.toNatClampNeg), 0, rfl, (by simp only [j_hand7]; rw [if_neg c_1, if_pos c_6, if_neg (dealt_t c_23), if_neg c_41, if_neg c_41]), (by show wB D A _ t; exact ⟨by rw [ht]; exact hP9, hD9⟩)⟩, hS.F ht⟩) hS.2.2 dX7_hand_64
        · refine lv_aload_n hx hb dX7_hand_44 rfl (lv_at hl 0 rfl) ?_
          refine lv_iconst (v := 1) hx hb dX7_hand_45 (by decide) ?_
          have hPc := hP.sub (ws' := [(ox, .inr (5, [.ref wk, .ref so, .ref g, .ref ko, .ref tr, .int op7, .int st7]))]) [0] rfl
          have hDc := hD.sub (ws' := [(ox, .inr (5, [.ref wk, .ref so, .ref g, .ref ko, .ref tr, .int op7, .int st7]))]) [0] (by decide) rfl
          have hFc := va_free (wc := [(ox, .inr (5, [.ref wk, .ref so, .ref g, .ref ko, .ref tr, .int op7, .int st7]))]) hD hS hA [0] rfl
          refine va_calli (va_runV (As := [.int 1]) (rest := []) ⟨hx, hb, hml, hown, hts⟩ (k_X7_refuse l D cI cJ cZ s.heap.size ox wk so ko tr op7 st7 g 1 ) (cwV 1 hts gX7_hand_X7_refuse rfl rfl rfl (by decide +kernel) ⟨Nat.le_of_ble_eq_true rfl, Nat.le_of_ble_eq_true rfl⟩) ⟨wM_fb, va_recv hK hPc (ci := 5) (q0 := 0) rfl rfl, wM_pre hPc ⟨hK, hN⟩ hDc⟩ rfl rfl hl.1 rfl (lv_room (Nat.le_of_ble_eq_true rfl)) dX7_hand_46 ⟨Nat.le_of_ble_eq_true rfl, Nat.le_of_ble_eq_true rfl⟩) hS (fun q _ h => hFc q h) hFc (fun x46 u t H1 locs ht hvm hx46 hB hz1 hk1 hS => ?_)
          obtain ⟨hP1, hD1⟩ := hB
          rw [ht] at hP1
          obtain ⟨hP, hD⟩ := va_join (wr := [(g, .inr (0, [.ref ha, .ref oa, .ref pa, .int (nI np), .int tp0, .long ly, .int tn0, .int te, .int lay, .int idl, .int ov, .int win])), (ha, .inl (cJ, 4, .inr (.inl hf)))]) (w1 := [(ox, .inr (5, [.ref wk, .ref so, .ref g, .ref ko, .ref tr, .int op7, .int 1]))]) hP hD [0] [1, 2] rfl rfl (by decide) (by decide) hk1 hFc hP1 hD1
          generalize H1 = H at hP hS ⊢
          have hP : va_P D vwCl [(g, .inr (0, [.ref ha, .ref oa, .ref pa, .int (nI np), .int tp0, .long ly, .int tn0, .int te, .int lay, .int idl, .int ov, .int win])), (ha, .inl (cJ, 4, .inr (.inl hf))), (ox, .inr (5, [.ref wk, .ref so, .ref g, .ref ko, .ref tr, .int op7, .int 1]))] H := hP
          have hD : va_D A [(g, .inr (0, [.ref ha, .ref oa, .ref pa, .int (nI np), .int tp0, .long ly, .int tn0, .int te, .int lay, .int idl, .int ov, .int win])), (ha, .inl (cJ, 4, .inr (.inl hf))), (ox, .inr (5, [.ref wk, .ref so, .ref g, .ref ko, .ref tr, .int op7, .int 1]))] := hD
          try dsimp only at hx46
          refine lv_i2l hx hb dX7_hand_49 rfl ?_
          rw [← hQ]
          have hP9 := hP.sub (ws' := [(ox, .inr (5, [.ref wk, .ref so, .ref g, .ref ko, .ref tr, .int op7, .int 1])), (g, .inr (0, [.ref ha, .ref oa, .ref pa, .int (nI np), .int tp0, .long ly, .int tn0, .int te, .int lay, .int idl, .int ov, .int win])), (ha, .inl (cJ, 4, .inr (.inl hf)))]) [2, 0, 1] rfl
          have hD9 := hD.sub (ws' := [(ox, .inr (5, [.ref wk, .ref so, .ref g, .ref ko, .ref tr, .int op7, .int 1])), (g, .inr (0, [.ref ha, .ref oa, .ref pa, .int (nI np), .int tp0, .long ly, .int tn0, .int te, .int lay, .int idl, .int ov, .int win])), (ha, .inl (cJ, 4, .inr (.inl hf)))]) [2, 0, 1] (by decide) rfl
          exact W.lret (v := x46.toInt64) hx hb hr (fun t ht hW => ⟨⟨x46.toInt64, 1, rfl, (by simp only [j_hand7]; rw [hx46, if_neg c_1, if_pos c_6, if_neg (dealt_t c_23), if_pos c_41]; rfl), (by show wB D A _ t; exact ⟨by rw [ht]; exact hP9, hD9⟩)⟩, hS.F ht⟩) hS.2.2 dX7_hand_50
      · refine lv_aload_n hx hb dX7_hand_26 rfl (lv_at hl 0 rfl) ?_
        refine lv_iconst (v := 4) hx hb dX7_hand_27 (by decide) ?_
        have hPc := hP.sub (ws' := [(ox, .inr (5, [.ref wk, .ref so, .ref g, .ref ko, .ref tr, .int op7, .int st7]))]) [0] rfl
        have hDc := hD.sub (ws' := [(ox, .inr (5, [.ref wk, .ref so, .ref g, .ref ko, .ref tr, .int op7, .int st7]))]) [0] (by decide) rfl
        have hFc := va_free (wc := [(ox, .inr (5, [.ref wk, .ref so, .ref g, .ref ko, .ref tr, .int op7, .int st7]))]) hD hS hA [0] rfl
        refine va_calli (va_runV (As := [.int 4]) (rest := []) ⟨hx, hb, hml, hown, hts⟩ (k_X7_refuse l D cI cJ cZ s.heap.size ox wk so ko tr op7 st7 g 4 ) (cwV 1 hts gX7_hand_X7_refuse rfl rfl rfl (by decide +kernel) ⟨Nat.le_of_ble_eq_true rfl, Nat.le_of_ble_eq_true rfl⟩) ⟨wM_fb, va_recv hK hPc (ci := 5) (q0 := 0) rfl rfl, wM_pre hPc ⟨hK, hN⟩ hDc⟩ rfl rfl hl.1 rfl (lv_room (Nat.le_of_ble_eq_true rfl)) dX7_hand_28 ⟨Nat.le_of_ble_eq_true rfl, Nat.le_of_ble_eq_true rfl⟩) hS (fun q _ h => hFc q h) hFc (fun x28 u t H1 locs ht hvm hx28 hB hz1 hk1 hS => ?_)
        obtain ⟨hP1, hD1⟩ := hB
        rw [ht] at hP1
        obtain ⟨hP, hD⟩ := va_join (wr := [(g, .inr (0, [.ref ha, .ref oa, .ref pa, .int (nI np), .int tp0, .long ly, .int tn0, .int te, .int lay, .int idl, .int ov, .int win])), (ha, .inl (cJ, 4, .inr (.inl hf)))]) (w1 := [(ox, .inr (5, [.ref wk, .ref so, .ref g, .ref ko, .ref tr, .int op7, .int 4]))]) hP hD [0] [1, 2] rfl rfl (by decide) (by decide) hk1 hFc hP1 hD1
        generalize H1 = H at hP hS ⊢
        have hP : va_P D vwCl [(g, .inr (0, [.ref ha, .ref oa, .ref pa, .int (nI np), .int tp0, .long ly, .int tn0, .int te, .int lay, .int idl, .int ov, .int win])), (ha, .inl (cJ, 4, .inr (.inl hf))), (ox, .inr (5, [.ref wk, .ref so, .ref g, .ref ko, .ref tr, .int op7, .int 4]))] H := hP
        have hD : va_D A [(g, .inr (0, [.ref ha, .ref oa, .ref pa, .int (nI np), .int tp0, .long ly, .int tn0, .int te, .int lay, .int idl, .int ov, .int win])), (ha, .inl (cJ, 4, .inr (.inl hf))), (ox, .inr (5, [.ref wk, .ref so, .ref g, .ref ko, .ref tr, .int op7, .int 4]))] := hD
        try dsimp only at hx28
        refine lv_i2l hx hb dX7_hand_31 rfl ?_
        rw [← hQ]
        have hP9 := hP.sub (ws' := [(ox, .inr (5, [.ref wk, .ref so, .ref g, .ref ko, .ref tr, .int op7, .int 4])), (g, .inr (0, [.ref ha, .ref oa, .ref pa, .int (nI np), .int tp0, .long ly, .int tn0, .int te, .int lay, .int idl, .int ov, .int win])), (ha, .inl (cJ, 4, .inr (.inl hf)))]) [2, 0, 1] rfl
        have hD9 := hD.sub (ws' := [(ox, .inr (5, [.ref wk, .ref so, .ref g, .ref ko, .ref tr, .int op7, .int 4])), (g, .inr (0, [.ref ha, .ref oa, .ref pa, .int (nI np), .int tp0, .long ly, .int tn0, .int te, .int lay, .int idl, .int ov, .int win])), (ha, .inl (cJ, 4, .inr (.inl hf)))]) [2, 0, 1] (by decide) rfl
        exact W.lret (v := x28.toInt64) hx hb hr (fun t ht hW => ⟨⟨x28.toInt64, 4, rfl, (by simp only [j_hand7]; rw [hx28, if_neg c_1, if_pos c_6, if_pos (dealt_f c_23)]; rfl), (by show wB D A _ t; exact ⟨by rw [ht]; exact hP9, hD9⟩)⟩, hS.F ht⟩) hS.2.2 dX7_hand_32
    · refine lv_aload_n hx hb dX7_hand_9 rfl (lv_at hl 0 rfl) ?_
      refine lv_iconst (v := 1) hx hb dX7_hand_10 (by decide) ?_
      have hPc := hP.sub (ws' := [(ox, .inr (5, [.ref wk, .ref so, .ref g, .ref ko, .ref tr, .int op7, .int st7]))]) [0] rfl
      have hDc := hD.sub (ws' := [(ox, .inr (5, [.ref wk, .ref so, .ref g, .ref ko, .ref tr, .int op7, .int st7]))]) [0] (by decide) rfl
      have hFc := va_free (wc := [(ox, .inr (5, [.ref wk, .ref so, .ref g, .ref ko, .ref tr, .int op7, .int st7]))]) hD hS hA [0] rfl
      refine va_calli (va_runV (As := [.int 1]) (rest := []) ⟨hx, hb, hml, hown, hts⟩ (k_X7_refuse l D cI cJ cZ s.heap.size ox wk so ko tr op7 st7 g 1 ) (cwV 1 hts gX7_hand_X7_refuse rfl rfl rfl (by decide +kernel) ⟨Nat.le_of_ble_eq_true rfl, Nat.le_of_ble_eq_true rfl⟩) ⟨wM_fb, va_recv hK hPc (ci := 5) (q0 := 0) rfl rfl, wM_pre hPc ⟨hK, hN⟩ hDc⟩ rfl rfl hl.1 rfl (lv_room (Nat.le_of_ble_eq_true rfl)) dX7_hand_11 ⟨Nat.le_of_ble_eq_true rfl, Nat.le_of_ble_eq_true rfl⟩) hS (fun q _ h => hFc q h) hFc (fun x11 u t H1 locs ht hvm hx11 hB hz1 hk1 hS => ?_)
      obtain ⟨hP1, hD1⟩ := hB
      rw [ht] at hP1
      obtain ⟨hP, hD⟩ := va_join (wr := [(g, .inr (0, [.ref ha, .ref oa, .ref pa, .int (nI np), .int tp0, .long ly, .int tn0, .int te, .int lay, .int idl, .int ov, .int win])), (ha, .inl (cJ, 4, .inr (.inl hf)))]) (w1 := [(ox, .inr (5, [.ref wk, .ref so, .ref g, .ref ko, .ref tr, .int op7, .int 1]))]) hP hD [0] [1, 2] rfl rfl (by decide) (by decide) hk1 hFc hP1 hD1
      generalize H1 = H at hP hS ⊢
      have hP : va_P D vwCl [(g, .inr (0, [.ref ha, .ref oa, .ref pa, .int (nI np), .int tp0, .long ly, .int tn0, .int te, .int lay, .int idl, .int ov, .int win])), (ha, .inl (cJ, 4, .inr (.inl hf))), (ox, .inr (5, [.ref wk, .ref so, .ref g, .ref ko, .ref tr, .int op7, .int 1]))] H := hP
      have hD : va_D A [(g, .inr (0, [.ref ha, .ref oa, .ref pa, .int (nI np), .int tp0, .long ly, .int tn0, .int te, .int lay, .int idl, .int ov, .int win])), (ha, .inl (cJ, 4, .inr (.inl hf))), (ox, .inr (5, [.ref wk, .ref so, .ref g, .ref ko, .ref tr, .int op7, .int 1]))] := hD
      try dsimp only at hx11
      refine lv_i2l hx hb dX7_hand_14 rfl ?_
      rw [← hQ]
      have hP9 := hP.sub (ws' := [(ox, .inr (5, [.ref wk, .ref so, .ref g, .ref ko, .ref tr, .int op7, .int 1])), (g, .inr (0, [.ref ha, .ref oa, .ref pa, .int (nI np), .int tp0, .long ly, .int tn0, .int te, .int lay, .int idl, .int ov, .int win])), (ha, .inl (cJ, 4, .inr (.inl hf)))]) [2, 0, 1] rfl
      have hD9 := hD.sub (ws' := [(ox, .inr (5, [.ref wk, .ref so, .ref g, .ref ko, .ref tr, .int op7, .int 1])), (g, .inr (0, [.ref ha, .ref oa, .ref pa, .int (nI np), .int tp0, .long ly, .int tn0, .int te, .int lay, .int idl, .int ov, .int win])), (ha, .inl (cJ, 4, .inr (.inl hf)))]) [2, 0, 1] (by decide) rfl
      exact W.lret (v := x11.toInt64) hx hb hr (fun t ht hW => ⟨⟨x11.toInt64, 1, rfl, (by simp only [j_hand7]; rw [hx11]; (repeat' split) <;> first | rfl | contradiction), (by show wB D A _ t; exact ⟨by rw [ht]; exact hP9, hD9⟩)⟩, hS.F ht⟩) hS.2.2 dX7_hand_15

set_option maxHeartbeats 4000000 in
set_option maxRecDepth 100000 in
theorem k_X7_table (l : Launch) (D : va_G) (cI cJ cZ : ClassId) (sz : Nat) (ox wk so ko tr : Nat) (op7 st7 : Int32) (g ha oa pa : Nat) (np : Nat) (tp0 tn0 te lay idl ov win : Int32) (ly : Int64)   : Met l yX7_table wsX7_table ({ frames := 1, cells := 0, slots := 0, locals := 21 } : Room) (va_Pc [.ref ox] (wM D cI cJ cZ sz [(ox, .inr (5, [.ref wk, .ref so, .ref g, .ref ko, .ref tr, .int op7, .int st7])), (g, .inr (0, [.ref ha, .ref oa, .ref pa, .int (nI np), .int tp0, .long ly, .int tn0, .int te, .int lay, .int idl, .int ov, .int win]))])) (va_Ql (fun (r : Int64) (u : (Int32)) => match u with | st2 => ((st2, r) = if nI np ≤ 0 then (4, -1) else (0, ly))) (fun (u : (Int32)) t => match u with | st2 => wB D (va_A [(ox, .inr (5, [.ref wk, .ref so, .ref g, .ref ko, .ref tr, .int op7, .int st7])), (g, .inr (0, [.ref ha, .ref oa, .ref pa, .int (nI np), .int tp0, .long ly, .int tn0, .int te, .int lay, .int idl, .int ov, .int win]))] sz) [(ox, .inr (5, [.ref wk, .ref so, .ref g, .ref ko, .ref tr, .int op7, .int st2])), (g, .inr (0, [.ref ha, .ref oa, .ref pa, .int (nI np), .int tp0, .long ly, .int tn0, .int te, .int lay, .int idl, .int ov, .int win]))] t) (va_A [(ox, .inr (5, [.ref wk, .ref so, .ref g, .ref ko, .ref tr, .int op7, .int st7])), (g, .inr (0, [.ref ha, .ref oa, .ref pa, .int (nI np), .int tp0, .long ly, .int tn0, .int te, .int lay, .int idl, .int ov, .int win]))] sz)) 0 0 (va_A [(ox, .inr (5, [.ref wk, .ref so, .ref g, .ref ko, .ref tr, .int op7, .int st7])), (g, .inr (0, [.ref ha, .ref oa, .ref pa, .int (nI np), .int tp0, .long ly, .int tn0, .int te, .int lay, .int idl, .int ov, .int win]))] sz) := by
  refine Met.ofW (cc := cX7_table) (maxL := 1) (ret := (some .long)) (by decide) rfl ?_
  intro p e s m args below meth c s₁ B hml hv
  obtain ⟨hargs, hsz, hP, ⟨hK, hN⟩, hD0⟩ := hv
  have hx := B.exec
  have hb := B.bytes
  have hr := B.returns
  have hlocks := B.notSynchronized
  have hts := atoms_spec (ws := wsX7_table) B.pre
  have hown : s.vm.findClass RX7 = some m.cls := findClass_of_methodNamed B.named
  have k34 := hts (.fieldLink RX7 34 "RummyTable" "game" "LRummyTable$Game;") (by decide +kernel)
  have iX7 : ∀ w ∈ wsX70, w ∈ wsX7_table := by decide +kernel
  have k122 := hts (.methodLink RX7 122 yX1_isDealt) (by decide +kernel)
  have k52 := hts (.fieldLink RX7 52 "RummyTable" "status" "I") (by decide +kernel)
  have k133 : (Cond.fieldLinkNest RX7 133 "RummyTable$Game" "lying" "J" "RummyTable").before args s = true := va_Nw.use rfl hN.2.2.2.2.2.1
  have iX1 : ∀ w ∈ wsX10, w ∈ wsX7_table := by decide +kernel
  have k61 := hts (.methodLink RX7 61 yX7_refuse) (by decide +kernel)
  subst hsz
  have hD := hD0.self (sz := s.heap.size)
  generalize hAe : va_A [(ox, .inr (5, [.ref wk, .ref so, .ref g, .ref ko, .ref tr, .int op7, .int st7])), (g, .inr (0, [.ref ha, .ref oa, .ref pa, .int (nI np), .int tp0, .long ly, .int tn0, .int te, .int lay, .int idl, .int ov, .int win]))] s.heap.size = A at hD ⊢
  have hA : ∀ q : Nat, s.heap.size ≤ q → A q := fun q h => by rw [← hAe]; exact Or.inr h
  have hS : va_S A s.heap s.heap [] := va_S.rf
  rw [show entryFrame m args 1 = entryFrame m ([.ref ox] : List Value).toArray 1 from by rw [hargs]]
  have hl := lv_entry ([.ref ox]) (n := 1) (Nat.le_of_ble_eq_true rfl)
  rw [lg_entry_eq]
  generalize (lg_sl ([.ref ox]) ++ List.replicate (1 - (lg_sl ([.ref ox])).length) Slot.unset).toArray = ls at hl ⊢
  have hl : lv_has ls 1 [(0, .ref ox)] := hl
  refine wQ (fun Q hQ => ?_)
  refine lv_aload_n hx hb dX7_table_0 rfl (lv_at hl 0 rfl) ?_
  refine va_get (D := D) (ci := 5) (v := .ref g) (C := RX7) (T := TX7) (N := 7) hx hb hts iX7 hown hK hP 0 rfl rfl 2 (by decide) k34 (fun _ h9 => h9) rfl dX7_table_1 ?_
  have hPc := hP.sub (ws' := [(g, .inr (0, [.ref ha, .ref oa, .ref pa, .int (nI np), .int tp0, .long ly, .int tn0, .int te, .int lay, .int idl, .int ov, .int win]))]) [1] rfl
  refine vp_callSi (W.runV (As := []) (rest := []) ⟨hx, hb, hml, hown, hts⟩ (k_X1_isDealt l D cI cJ cZ g ha oa pa np tp0 tn0 te lay idl ov win ly ) (cwV 0 hts gX7_table_X1_isDealt rfl rfl rfl (by decide +kernel) ⟨Nat.le_of_ble_eq_true rfl, Nat.le_of_ble_eq_true rfl⟩) ⟨wR_fb, va_recv hK hPc (ci := 0) (q0 := 0) rfl rfl, wR_pre hPc ⟨hK, hN⟩⟩ rfl rfl hl.1 rfl (lv_room (Nat.le_of_ble_eq_true rfl)) dX7_table_4 ⟨Nat.le_of_ble_eq_true rfl, Nat.le_of_ble_eq_true rfl⟩) (fun x4 hx4 => ?_)
  subst hx4
  refine lv_if_ne (tgt := 17) hx hb dX7_table_7 (by decide) (fun c_7 => ?_) (fun c_7 => ?_)
  · refine lv_aload_n hx hb dX7_table_17 rfl (lv_at hl 0 rfl) ?_
    refine lv_iconst (v := 0) hx hb dX7_table_18 (by decide) ?_
    refine va_put (D := D) (ci := 5) (v := .int 0) (ty := .int) (C := RX7) (T := TX7) (N := 7) hx hb hts iX7 tyX7 tyX7_ok nmX7 hown hK hP hD hS 0 rfl rfl 6 (by decide) k52 (fun _ h9 => h9) rfl (by decide +kernel) rfl rfl (Nat.le_of_ble_eq_true rfl) dX7_table_19 (fun H locs hP hD hS => ?_)
    have hP : va_P D vwCl [(ox, .inr (5, [.ref wk, .ref so, .ref g, .ref ko, .ref tr, .int op7, .int 0])), (g, .inr (0, [.ref ha, .ref oa, .ref pa, .int (nI np), .int tp0, .long ly, .int tn0, .int te, .int lay, .int idl, .int ov, .int win]))] H := hP
    have hD : va_D A [(ox, .inr (5, [.ref wk, .ref so, .ref g, .ref ko, .ref tr, .int op7, .int 0])), (g, .inr (0, [.ref ha, .ref oa, .ref pa, .int (nI np), .int tp0, .long ly, .int tn0, .int te, .int lay, .int idl, .int ov, .int win]))] := hD
    refine lv_aload_n hx hb dX7_table_22 rfl (lv_at hl 0 rfl) ?_
    refine va_get (D := D) (ci := 5) (v := .ref g) (C := RX7) (T := TX7) (N := 7) hx hb hts iX7 hown hK hP 0 rfl rfl 2 (by decide) k34 (fun _ h9 => h9) rfl dX7_table_23 ?_
    refine va_getN (D := D) (ci := 0) (v := .long ly) (C := RX1) (T := TX1) (N := 12) hx hb hts iX1 hown hK hP 1 rfl rfl 5 (by decide) k133 (fun _ h9 => h9) rfl dX7_table_26 ?_
    rw [← hQ]
    have hP9 := hP.sub (ws' := [(ox, .inr (5, [.ref wk, .ref so, .ref g, .ref ko, .ref tr, .int op7, .int 0])), (g, .inr (0, [.ref ha, .ref oa, .ref pa, .int (nI np), .int tp0, .long ly, .int tn0, .int te, .int lay, .int idl, .int ov, .int win]))]) [0, 1] rfl
    have hD9 := hD.sub (ws' := [(ox, .inr (5, [.ref wk, .ref so, .ref g, .ref ko, .ref tr, .int op7, .int 0])), (g, .inr (0, [.ref ha, .ref oa, .ref pa, .int (nI np), .int tp0, .long ly, .int tn0, .int te, .int lay, .int idl, .int ov, .int win]))]) [0, 1] (by decide) rfl
    exact W.lret (v := ly) hx hb hr (fun t ht hW => ⟨⟨ly, 0, rfl, (by rw [if_neg (dealt_t c_7)]), (by show wB D A _ t; exact ⟨by rw [ht]; exact hP9, hD9⟩)⟩, hS.F ht⟩) hS.2.2 dX7_table_29
  · refine lv_aload_n hx hb dX7_table_10 rfl (lv_at hl 0 rfl) ?_
    refine lv_iconst (v := 4) hx hb dX7_table_11 (by decide) ?_
    have hPc := hP.sub (ws' := [(ox, .inr (5, [.ref wk, .ref so, .ref g, .ref ko, .ref tr, .int op7, .int st7]))]) [0] rfl
    have hDc := hD.sub (ws' := [(ox, .inr (5, [.ref wk, .ref so, .ref g, .ref ko, .ref tr, .int op7, .int st7]))]) [0] (by decide) rfl
    have hFc := va_free (wc := [(ox, .inr (5, [.ref wk, .ref so, .ref g, .ref ko, .ref tr, .int op7, .int st7]))]) hD hS hA [0] rfl
    refine va_calli (va_runV (As := [.int 4]) (rest := []) ⟨hx, hb, hml, hown, hts⟩ (k_X7_refuse l D cI cJ cZ s.heap.size ox wk so ko tr op7 st7 g 4 ) (cwV 1 hts gX7_table_X7_refuse rfl rfl rfl (by decide +kernel) ⟨Nat.le_of_ble_eq_true rfl, Nat.le_of_ble_eq_true rfl⟩) ⟨wM_fb, va_recv hK hPc (ci := 5) (q0 := 0) rfl rfl, wM_pre hPc ⟨hK, hN⟩ hDc⟩ rfl rfl hl.1 rfl (lv_room (Nat.le_of_ble_eq_true rfl)) dX7_table_12 ⟨Nat.le_of_ble_eq_true rfl, Nat.le_of_ble_eq_true rfl⟩) hS (fun q _ h => hFc q h) hFc (fun x12 u t H1 locs ht hvm hx12 hB hz1 hk1 hS => ?_)
    obtain ⟨hP1, hD1⟩ := hB
    rw [ht] at hP1
    obtain ⟨hP, hD⟩ := va_join (wr := [(g, .inr (0, [.ref ha, .ref oa, .ref pa, .int (nI np), .int tp0, .long ly, .int tn0, .int te, .int lay, .int idl, .int ov, .int win]))]) (w1 := [(ox, .inr (5, [.ref wk, .ref so, .ref g, .ref ko, .ref tr, .int op7, .int 4]))]) hP hD [0] [1] rfl rfl (by decide) (by decide) hk1 hFc hP1 hD1
    generalize H1 = H at hP hS ⊢
    have hP : va_P D vwCl [(g, .inr (0, [.ref ha, .ref oa, .ref pa, .int (nI np), .int tp0, .long ly, .int tn0, .int te, .int lay, .int idl, .int ov, .int win])), (ox, .inr (5, [.ref wk, .ref so, .ref g, .ref ko, .ref tr, .int op7, .int 4]))] H := hP
    have hD : va_D A [(g, .inr (0, [.ref ha, .ref oa, .ref pa, .int (nI np), .int tp0, .long ly, .int tn0, .int te, .int lay, .int idl, .int ov, .int win])), (ox, .inr (5, [.ref wk, .ref so, .ref g, .ref ko, .ref tr, .int op7, .int 4]))] := hD
    try dsimp only at hx12
    refine lv_i2l hx hb dX7_table_15 rfl ?_
    rw [← hQ]
    have hP9 := hP.sub (ws' := [(ox, .inr (5, [.ref wk, .ref so, .ref g, .ref ko, .ref tr, .int op7, .int 4])), (g, .inr (0, [.ref ha, .ref oa, .ref pa, .int (nI np), .int tp0, .long ly, .int tn0, .int te, .int lay, .int idl, .int ov, .int win]))]) [1, 0] rfl
    have hD9 := hD.sub (ws' := [(ox, .inr (5, [.ref wk, .ref so, .ref g, .ref ko, .ref tr, .int op7, .int 4])), (g, .inr (0, [.ref ha, .ref oa, .ref pa, .int (nI np), .int tp0, .long ly, .int tn0, .int te, .int lay, .int idl, .int ov, .int win]))]) [1, 0] (by decide) rfl
    exact W.lret (v := x12.toInt64) hx hb hr (fun t ht hW => ⟨⟨x12.toInt64, 4, rfl, (by rw [hx12, if_pos (dealt_f c_7)]; rfl), (by show wB D A _ t; exact ⟨by rw [ht]; exact hP9, hD9⟩)⟩, hS.F ht⟩) hS.2.2 dX7_table_16

set_option maxHeartbeats 4000000 in
set_option maxRecDepth 100000 in
theorem k_X7_tell (l : Launch) (D : va_G) (cI cJ cZ : ClassId) (sz : Nat) (ox wk so ko tr : Nat) (op7 st7 : Int32) (g ha oa pa : Nat) (np : Nat) (tp0 tn0 te lay idl ov win : Int32) (ly : Int64) (w : Int32)  : Met l yX7_tell wsX7_tell ({ frames := 1, cells := 0, slots := 0, locals := 21 } : Room) (va_Pc [.ref ox, .int w] (wM D cI cJ cZ sz [(ox, .inr (5, [.ref wk, .ref so, .ref g, .ref ko, .ref tr, .int op7, .int st7])), (g, .inr (0, [.ref ha, .ref oa, .ref pa, .int (nI np), .int tp0, .long ly, .int tn0, .int te, .int lay, .int idl, .int ov, .int win]))])) (va_Qi (fun (r : Int32) (u : (Int32)) => match u with | st2 => ((st2, r) = j_tell7 np tp0 tn0 te lay ov win w)) (fun (u : (Int32)) t => match u with | st2 => wB D (va_A [(ox, .inr (5, [.ref wk, .ref so, .ref g, .ref ko, .ref tr, .int op7, .int st7])), (g, .inr (0, [.ref ha, .ref oa, .ref pa, .int (nI np), .int tp0, .long ly, .int tn0, .int te, .int lay, .int idl, .int ov, .int win]))] sz) [(ox, .inr (5, [.ref wk, .ref so, .ref g, .ref ko, .ref tr, .int op7, .int st2])), (g, .inr (0, [.ref ha, .ref oa, .ref pa, .int (nI np), .int tp0, .long ly, .int tn0, .int te, .int lay, .int idl, .int ov, .int win]))] t) (va_A [(ox, .inr (5, [.ref wk, .ref so, .ref g, .ref ko, .ref tr, .int op7, .int st7])), (g, .inr (0, [.ref ha, .ref oa, .ref pa, .int (nI np), .int tp0, .long ly, .int tn0, .int te, .int lay, .int idl, .int ov, .int win]))] sz)) 0 0 (va_A [(ox, .inr (5, [.ref wk, .ref so, .ref g, .ref ko, .ref tr, .int op7, .int st7])), (g, .inr (0, [.ref ha, .ref oa, .ref pa, .int (nI np), .int tp0, .long ly, .int tn0, .int te, .int lay, .int idl, .int ov, .int win]))] sz) := by
  refine Met.ofW (cc := cX7_tell) (maxL := 2) (ret := (some .int)) (by decide) rfl ?_
  intro p e s m args below meth c s₁ B hml hv
  obtain ⟨hargs, hsz, hP, ⟨hK, hN⟩, hD0⟩ := hv
  have hx := B.exec
  have hb := B.bytes
  have hr := B.returns
  have hlocks := B.notSynchronized
  have hts := atoms_spec (ws := wsX7_tell) B.pre
  have hown : s.vm.findClass RX7 = some m.cls := findClass_of_methodNamed B.named
  have k61 := hts (.methodLink RX7 61 yX7_refuse) (by decide +kernel)
  have k34 := hts (.fieldLink RX7 34 "RummyTable" "game" "LRummyTable$Game;") (by decide +kernel)
  have iX7 : ∀ w ∈ wsX70, w ∈ wsX7_tell := by decide +kernel
  have k122 := hts (.methodLink RX7 122 yX1_isDealt) (by decide +kernel)
  have k52 := hts (.fieldLink RX7 52 "RummyTable" "status" "I") (by decide +kernel)
  have k136 := hts (.methodLink RX7 136 yX1_fact) (by decide +kernel)
  subst hsz
  have hD := hD0.self (sz := s.heap.size)
  generalize hAe : va_A [(ox, .inr (5, [.ref wk, .ref so, .ref g, .ref ko, .ref tr, .int op7, .int st7])), (g, .inr (0, [.ref ha, .ref oa, .ref pa, .int (nI np), .int tp0, .long ly, .int tn0, .int te, .int lay, .int idl, .int ov, .int win]))] s.heap.size = A at hD ⊢
  have hA : ∀ q : Nat, s.heap.size ≤ q → A q := fun q h => by rw [← hAe]; exact Or.inr h
  have hS : va_S A s.heap s.heap [] := va_S.rf
  rw [show entryFrame m args 2 = entryFrame m ([.ref ox, .int w] : List Value).toArray 2 from by rw [hargs]]
  have hl := lv_entry ([.ref ox, .int w]) (n := 2) (Nat.le_of_ble_eq_true rfl)
  rw [lg_entry_eq]
  generalize (lg_sl ([.ref ox, .int w]) ++ List.replicate (2 - (lg_sl ([.ref ox, .int w])).length) Slot.unset).toArray = ls at hl ⊢
  have hl : lv_has ls 2 [(0, .ref ox), (1, .int w)] := hl
  refine wQ (fun Q hQ => ?_)
  refine lv_iload_n hx hb dX7_tell_0 rfl (lv_at hl 1 rfl) ?_
  refine lv_if_lt (tgt := 10) hx hb dX7_tell_1 (by decide) (fun c_1 => ?_) (fun c_1 => ?_)
  · refine lv_aload_n hx hb dX7_tell_10 rfl (lv_at hl 0 rfl) ?_
    refine lv_iconst (v := 1) hx hb dX7_tell_11 (by decide) ?_
    have hPc := hP.sub (ws' := [(ox, .inr (5, [.ref wk, .ref so, .ref g, .ref ko, .ref tr, .int op7, .int st7]))]) [0] rfl
    have hDc := hD.sub (ws' := [(ox, .inr (5, [.ref wk, .ref so, .ref g, .ref ko, .ref tr, .int op7, .int st7]))]) [0] (by decide) rfl
    have hFc := va_free (wc := [(ox, .inr (5, [.ref wk, .ref so, .ref g, .ref ko, .ref tr, .int op7, .int st7]))]) hD hS hA [0] rfl
    refine va_calli (va_runV (As := [.int 1]) (rest := []) ⟨hx, hb, hml, hown, hts⟩ (k_X7_refuse l D cI cJ cZ s.heap.size ox wk so ko tr op7 st7 g 1 ) (cwV 1 hts gX7_tell_X7_refuse rfl rfl rfl (by decide +kernel) ⟨Nat.le_of_ble_eq_true rfl, Nat.le_of_ble_eq_true rfl⟩) ⟨wM_fb, va_recv hK hPc (ci := 5) (q0 := 0) rfl rfl, wM_pre hPc ⟨hK, hN⟩ hDc⟩ rfl rfl hl.1 rfl (lv_room (Nat.le_of_ble_eq_true rfl)) dX7_tell_12 ⟨Nat.le_of_ble_eq_true rfl, Nat.le_of_ble_eq_true rfl⟩) hS (fun q _ h => hFc q h) hFc (fun x12 u t H1 locs ht hvm hx12 hB hz1 hk1 hS => ?_)
    obtain ⟨hP1, hD1⟩ := hB
    rw [ht] at hP1
    obtain ⟨hP, hD⟩ := va_join (wr := [(g, .inr (0, [.ref ha, .ref oa, .ref pa, .int (nI np), .int tp0, .long ly, .int tn0, .int te, .int lay, .int idl, .int ov, .int win]))]) (w1 := [(ox, .inr (5, [.ref wk, .ref so, .ref g, .ref ko, .ref tr, .int op7, .int 1]))]) hP hD [0] [1] rfl rfl (by decide) (by decide) hk1 hFc hP1 hD1
    generalize H1 = H at hP hS ⊢
    have hP : va_P D vwCl [(g, .inr (0, [.ref ha, .ref oa, .ref pa, .int (nI np), .int tp0, .long ly, .int tn0, .int te, .int lay, .int idl, .int ov, .int win])), (ox, .inr (5, [.ref wk, .ref so, .ref g, .ref ko, .ref tr, .int op7, .int 1]))] H := hP
    have hD : va_D A [(g, .inr (0, [.ref ha, .ref oa, .ref pa, .int (nI np), .int tp0, .long ly, .int tn0, .int te, .int lay, .int idl, .int ov, .int win])), (ox, .inr (5, [.ref wk, .ref so, .ref g, .ref ko, .ref tr, .int op7, .int 1]))] := hD
    try dsimp only at hx12
    rw [← hQ]
    have hP9 := hP.sub (ws' := [(ox, .inr (5, [.ref wk, .ref so, .ref g, .ref ko, .ref tr, .int op7, .int 1])), (g, .inr (0, [.ref ha, .ref oa, .ref pa, .int (nI np), .int tp0, .long ly, .int tn0, .int te, .int lay, .int idl, .int ov, .int win]))]) [1, 0] rfl
    have hD9 := hD.sub (ws' := [(ox, .inr (5, [.ref wk, .ref so, .ref g, .ref ko, .ref tr, .int op7, .int 1])), (g, .inr (0, [.ref ha, .ref oa, .ref pa, .int (nI np), .int tp0, .long ly, .int tn0, .int te, .int lay, .int idl, .int ov, .int win]))]) [1, 0] (by decide) rfl
    exact W.iret (v := x12) hx hb hr (fun t ht hW => ⟨⟨x12, 1, rfl, (by simp only [j_tell7]; rw [hx12]; (repeat' split) <;> first | rfl | contradiction), (by show wB D A _ t; exact ⟨by rw [ht]; exact hP9, hD9⟩)⟩, hS.F ht⟩) hS.2.2 dX7_tell_15
  · refine lv_iload_n hx hb dX7_tell_4 rfl (lv_at hl 1 rfl) ?_
    refine lv_bipush (v := 6) hx hb dX7_tell_5 (by decide) ?_
    refine lv_icmp_le (tgt := 16) hx hb dX7_tell_7 (by decide) (fun c_7 => ?_) (fun c_7 => ?_)
    · refine lv_aload_n hx hb dX7_tell_16 rfl (lv_at hl 0 rfl) ?_
      refine va_get (D := D) (ci := 5) (v := .ref g) (C := RX7) (T := TX7) (N := 7) hx hb hts iX7 hown hK hP 0 rfl rfl 2 (by decide) k34 (fun _ h9 => h9) rfl dX7_tell_17 ?_
      have hPc := hP.sub (ws' := [(g, .inr (0, [.ref ha, .ref oa, .ref pa, .int (nI np), .int tp0, .long ly, .int tn0, .int te, .int lay, .int idl, .int ov, .int win]))]) [1] rfl
      refine vp_callSi (W.runV (As := []) (rest := []) ⟨hx, hb, hml, hown, hts⟩ (k_X1_isDealt l D cI cJ cZ g ha oa pa np tp0 tn0 te lay idl ov win ly ) (cwV 0 hts gX7_tell_X1_isDealt rfl rfl rfl (by decide +kernel) ⟨Nat.le_of_ble_eq_true rfl, Nat.le_of_ble_eq_true rfl⟩) ⟨wR_fb, va_recv hK hPc (ci := 0) (q0 := 0) rfl rfl, wR_pre hPc ⟨hK, hN⟩⟩ rfl rfl hl.1 rfl (lv_room (Nat.le_of_ble_eq_true rfl)) dX7_tell_20 ⟨Nat.le_of_ble_eq_true rfl, Nat.le_of_ble_eq_true rfl⟩) (fun x20 hx20 => ?_)
      subst hx20
      refine lv_if_ne (tgt := 32) hx hb dX7_tell_23 (by decide) (fun c_23 => ?_) (fun c_23 => ?_)
      · refine lv_aload_n hx hb dX7_tell_32 rfl (lv_at hl 0 rfl) ?_
        refine lv_iconst (v := 0) hx hb dX7_tell_33 (by decide) ?_
        refine va_put (D := D) (ci := 5) (v := .int 0) (ty := .int) (C := RX7) (T := TX7) (N := 7) hx hb hts iX7 tyX7 tyX7_ok nmX7 hown hK hP hD hS 0 rfl rfl 6 (by decide) k52 (fun _ h9 => h9) rfl (by decide +kernel) rfl rfl (Nat.le_of_ble_eq_true rfl) dX7_tell_34 (fun H locs hP hD hS => ?_)
        have hP : va_P D vwCl [(ox, .inr (5, [.ref wk, .ref so, .ref g, .ref ko, .ref tr, .int op7, .int 0])), (g, .inr (0, [.ref ha, .ref oa, .ref pa, .int (nI np), .int tp0, .long ly, .int tn0, .int te, .int lay, .int idl, .int ov, .int win]))] H := hP
        have hD : va_D A [(ox, .inr (5, [.ref wk, .ref so, .ref g, .ref ko, .ref tr, .int op7, .int 0])), (g, .inr (0, [.ref ha, .ref oa, .ref pa, .int (nI np), .int tp0, .long ly, .int tn0, .int te, .int lay, .int idl, .int ov, .int win]))] := hD
        refine lv_aload_n hx hb dX7_tell_37 rfl (lv_at hl 0 rfl) ?_
        refine va_get (D := D) (ci := 5) (v := .ref g) (C := RX7) (T := TX7) (N := 7) hx hb hts iX7 hown hK hP 0 rfl rfl 2 (by decide) k34 (fun _ h9 => h9) rfl dX7_tell_38 ?_
        refine lv_iload_n hx hb dX7_tell_41 rfl (lv_at hl 1 rfl) ?_
        have hPc := hP.sub (ws' := [(g, .inr (0, [.ref ha, .ref oa, .ref pa, .int (nI np), .int tp0, .long ly, .int tn0, .int te, .int lay, .int idl, .int ov, .int win]))]) [1] rfl
        refine vp_callSi (W.runV (As := [.int w]) (rest := []) ⟨hx, hb, hml, hown, hts⟩ (k_X1_fact l D cI cJ cZ g ha oa pa np tp0 tn0 te lay idl ov win ly w ) (cwV 1 hts gX7_tell_X1_fact rfl rfl rfl (by decide +kernel) ⟨Nat.le_of_ble_eq_true rfl, Nat.le_of_ble_eq_true rfl⟩) ⟨wR_fb, va_recv hK hPc (ci := 0) (q0 := 0) rfl rfl, wR_pre hPc ⟨hK, hN⟩⟩ rfl rfl hl.1 rfl (lv_room (Nat.le_of_ble_eq_true rfl)) dX7_tell_42 ⟨Nat.le_of_ble_eq_true rfl, Nat.le_of_ble_eq_true rfl⟩) (fun x42 hx42 => ?_)
        subst hx42
        rw [← hQ]
        have hP9 := hP.sub (ws' := [(ox, .inr (5, [.ref wk, .ref so, .ref g, .ref ko, .ref tr, .int op7, .int 0])), (g, .inr (0, [.ref ha, .ref oa, .ref pa, .int (nI np), .int tp0, .long ly, .int tn0, .int te, .int lay, .int idl, .int ov, .int win]))]) [0, 1] rfl
        have hD9 := hD.sub (ws' := [(ox, .inr (5, [.ref wk, .ref so, .ref g, .ref ko, .ref tr, .int op7, .int 0])), (g, .inr (0, [.ref ha, .ref oa, .ref pa, .int (nI np), .int tp0, .long ly, .int tn0, .int te, .int lay, .int idl, .int ov, .int win]))]) [0, 1] (by decide) rfl
        exact W.iret (v := j_fact np tp0 tn0 te lay ov win w.toInt) hx hb hr (fun t ht hW => ⟨⟨(j_fact np tp0 tn0 te lay ov win w.toInt), 0, rfl, (by simp only [j_tell7]; rw [if_neg c_1, if_pos c_7, if_neg (dealt_t c_23)]), (by show wB D A _ t; exact ⟨by rw [ht]; exact hP9, hD9⟩)⟩, hS.F ht⟩) hS.2.2 dX7_tell_45
      · refine lv_aload_n hx hb dX7_tell_26 rfl (lv_at hl 0 rfl) ?_
        refine lv_iconst (v := 4) hx hb dX7_tell_27 (by decide) ?_
        have hPc := hP.sub (ws' := [(ox, .inr (5, [.ref wk, .ref so, .ref g, .ref ko, .ref tr, .int op7, .int st7]))]) [0] rfl
        have hDc := hD.sub (ws' := [(ox, .inr (5, [.ref wk, .ref so, .ref g, .ref ko, .ref tr, .int op7, .int st7]))]) [0] (by decide) rfl
        have hFc := va_free (wc := [(ox, .inr (5, [.ref wk, .ref so, .ref g, .ref ko, .ref tr, .int op7, .int st7]))]) hD hS hA [0] rfl
        refine va_calli (va_runV (As := [.int 4]) (rest := []) ⟨hx, hb, hml, hown, hts⟩ (k_X7_refuse l D cI cJ cZ s.heap.size ox wk so ko tr op7 st7 g 4 ) (cwV 1 hts gX7_tell_X7_refuse rfl rfl rfl (by decide +kernel) ⟨Nat.le_of_ble_eq_true rfl, Nat.le_of_ble_eq_true rfl⟩) ⟨wM_fb, va_recv hK hPc (ci := 5) (q0 := 0) rfl rfl, wM_pre hPc ⟨hK, hN⟩ hDc⟩ rfl rfl hl.1 rfl (lv_room (Nat.le_of_ble_eq_true rfl)) dX7_tell_28 ⟨Nat.le_of_ble_eq_true rfl, Nat.le_of_ble_eq_true rfl⟩) hS (fun q _ h => hFc q h) hFc (fun x28 u t H1 locs ht hvm hx28 hB hz1 hk1 hS => ?_)
        obtain ⟨hP1, hD1⟩ := hB
        rw [ht] at hP1
        obtain ⟨hP, hD⟩ := va_join (wr := [(g, .inr (0, [.ref ha, .ref oa, .ref pa, .int (nI np), .int tp0, .long ly, .int tn0, .int te, .int lay, .int idl, .int ov, .int win]))]) (w1 := [(ox, .inr (5, [.ref wk, .ref so, .ref g, .ref ko, .ref tr, .int op7, .int 4]))]) hP hD [0] [1] rfl rfl (by decide) (by decide) hk1 hFc hP1 hD1
        generalize H1 = H at hP hS ⊢
        have hP : va_P D vwCl [(g, .inr (0, [.ref ha, .ref oa, .ref pa, .int (nI np), .int tp0, .long ly, .int tn0, .int te, .int lay, .int idl, .int ov, .int win])), (ox, .inr (5, [.ref wk, .ref so, .ref g, .ref ko, .ref tr, .int op7, .int 4]))] H := hP
        have hD : va_D A [(g, .inr (0, [.ref ha, .ref oa, .ref pa, .int (nI np), .int tp0, .long ly, .int tn0, .int te, .int lay, .int idl, .int ov, .int win])), (ox, .inr (5, [.ref wk, .ref so, .ref g, .ref ko, .ref tr, .int op7, .int 4]))] := hD
        try dsimp only at hx28
        rw [← hQ]
        have hP9 := hP.sub (ws' := [(ox, .inr (5, [.ref wk, .ref so, .ref g, .ref ko, .ref tr, .int op7, .int 4])), (g, .inr (0, [.ref ha, .ref oa, .ref pa, .int (nI np), .int tp0, .long ly, .int tn0, .int te, .int lay, .int idl, .int ov, .int win]))]) [1, 0] rfl
        have hD9 := hD.sub (ws' := [(ox, .inr (5, [.ref wk, .ref so, .ref g, .ref ko, .ref tr, .int op7, .int 4])), (g, .inr (0, [.ref ha, .ref oa, .ref pa, .int (nI np), .int tp0, .long ly, .int tn0, .int te, .int lay, .int idl, .int ov, .int win]))]) [1, 0] (by decide) rfl
        exact W.iret (v := x28) hx hb hr (fun t ht hW => ⟨⟨x28, 4, rfl, (by simp only [j_tell7]; rw [hx28, if_neg c_1, if_pos c_7, if_pos (dealt_f c_23)]), (by show wB D A _ t; exact ⟨by rw [ht]; exact hP9, hD9⟩)⟩, hS.F ht⟩) hS.2.2 dX7_tell_31
    · refine lv_aload_n hx hb dX7_tell_10 rfl (lv_at hl 0 rfl) ?_
      refine lv_iconst (v := 1) hx hb dX7_tell_11 (by decide) ?_
      have hPc := hP.sub (ws' := [(ox, .inr (5, [.ref wk, .ref so, .ref g, .ref ko, .ref tr, .int op7, .int st7]))]) [0] rfl
      have hDc := hD.sub (ws' := [(ox, .inr (5, [.ref wk, .ref so, .ref g, .ref ko, .ref tr, .int op7, .int st7]))]) [0] (by decide) rfl
      have hFc := va_free (wc := [(ox, .inr (5, [.ref wk, .ref so, .ref g, .ref ko, .ref tr, .int op7, .int st7]))]) hD hS hA [0] rfl
      refine va_calli (va_runV (As := [.int 1]) (rest := []) ⟨hx, hb, hml, hown, hts⟩ (k_X7_refuse l D cI cJ cZ s.heap.size ox wk so ko tr op7 st7 g 1 ) (cwV 1 hts gX7_tell_X7_refuse rfl rfl rfl (by decide +kernel) ⟨Nat.le_of_ble_eq_true rfl, Nat.le_of_ble_eq_true rfl⟩) ⟨wM_fb, va_recv hK hPc (ci := 5) (q0 := 0) rfl rfl, wM_pre hPc ⟨hK, hN⟩ hDc⟩ rfl rfl hl.1 rfl (lv_room (Nat.le_of_ble_eq_true rfl)) dX7_tell_12 ⟨Nat.le_of_ble_eq_true rfl, Nat.le_of_ble_eq_true rfl⟩) hS (fun q _ h => hFc q h) hFc (fun x12 u t H1 locs ht hvm hx12 hB hz1 hk1 hS => ?_)
      obtain ⟨hP1, hD1⟩ := hB
      rw [ht] at hP1
      obtain ⟨hP, hD⟩ := va_join (wr := [(g, .inr (0, [.ref ha, .ref oa, .ref pa, .int (nI np), .int tp0, .long ly, .int tn0, .int te, .int lay, .int idl, .int ov, .int win]))]) (w1 := [(ox, .inr (5, [.ref wk, .ref so, .ref g, .ref ko, .ref tr, .int op7, .int 1]))]) hP hD [0] [1] rfl rfl (by decide) (by decide) hk1 hFc hP1 hD1
      generalize H1 = H at hP hS ⊢
      have hP : va_P D vwCl [(g, .inr (0, [.ref ha, .ref oa, .ref pa, .int (nI np), .int tp0, .long ly, .int tn0, .int te, .int lay, .int idl, .int ov, .int win])), (ox, .inr (5, [.ref wk, .ref so, .ref g, .ref ko, .ref tr, .int op7, .int 1]))] H := hP
      have hD : va_D A [(g, .inr (0, [.ref ha, .ref oa, .ref pa, .int (nI np), .int tp0, .long ly, .int tn0, .int te, .int lay, .int idl, .int ov, .int win])), (ox, .inr (5, [.ref wk, .ref so, .ref g, .ref ko, .ref tr, .int op7, .int 1]))] := hD
      try dsimp only at hx12
      rw [← hQ]
      have hP9 := hP.sub (ws' := [(ox, .inr (5, [.ref wk, .ref so, .ref g, .ref ko, .ref tr, .int op7, .int 1])), (g, .inr (0, [.ref ha, .ref oa, .ref pa, .int (nI np), .int tp0, .long ly, .int tn0, .int te, .int lay, .int idl, .int ov, .int win]))]) [1, 0] rfl
      have hD9 := hD.sub (ws' := [(ox, .inr (5, [.ref wk, .ref so, .ref g, .ref ko, .ref tr, .int op7, .int 1])), (g, .inr (0, [.ref ha, .ref oa, .ref pa, .int (nI np), .int tp0, .long ly, .int tn0, .int te, .int lay, .int idl, .int ov, .int win]))]) [1, 0] (by decide) rfl
      exact W.iret (v := x12) hx hb hr (fun t ht hW => ⟨⟨x12, 1, rfl, (by simp only [j_tell7]; rw [hx12]; (repeat' split) <;> first | rfl | contradiction), (by show wB D A _ t; exact ⟨by rw [ht]; exact hP9, hD9⟩)⟩, hS.F ht⟩) hS.2.2 dX7_tell_15

set_option maxHeartbeats 4000000 in
set_option maxRecDepth 100000 in
theorem k_X7_player (l : Launch) (D : va_G) (cI cJ cZ : ClassId) (sz : Nat) (ox wk so ko tr : Nat) (op7 st7 : Int32) (g ha oa pa : Nat) (np : Nat) (tp0 tn0 te lay idl ov win : Int32) (ly : Int64) (hf : Nat → Int64) (of : Nat → Int32) (plr w : Int32)  : Met l yX7_player wsX7_player ({ frames := 3, cells := 0, slots := 0, locals := 83 } : Room) (va_Pc [.ref ox, .int plr, .int w] (wM D cI cJ cZ sz [(ox, .inr (5, [.ref wk, .ref so, .ref g, .ref ko, .ref tr, .int op7, .int st7])), (g, .inr (0, [.ref ha, .ref oa, .ref pa, .int (nI np), .int tp0, .long ly, .int tn0, .int te, .int lay, .int idl, .int ov, .int win])), (ha, .inl (cJ, 4, .inr (.inl hf))), (oa, .inl (cZ, 4, .inl of))])) (va_Qi (fun (r : Int32) (u : (Int32)) => match u with | st2 => ((st2, r) = j_plr7 np hf of plr w)) (fun (u : (Int32)) t => match u with | st2 => wB D (va_A [(ox, .inr (5, [.ref wk, .ref so, .ref g, .ref ko, .ref tr, .int op7, .int st7])), (g, .inr (0, [.ref ha, .ref oa, .ref pa, .int (nI np), .int tp0, .long ly, .int tn0, .int te, .int lay, .int idl, .int ov, .int win])), (ha, .inl (cJ, 4, .inr (.inl hf))), (oa, .inl (cZ, 4, .inl of))] sz) [(ox, .inr (5, [.ref wk, .ref so, .ref g, .ref ko, .ref tr, .int op7, .int st2])), (g, .inr (0, [.ref ha, .ref oa, .ref pa, .int (nI np), .int tp0, .long ly, .int tn0, .int te, .int lay, .int idl, .int ov, .int win])), (ha, .inl (cJ, 4, .inr (.inl hf))), (oa, .inl (cZ, 4, .inl of))] t) (va_A [(ox, .inr (5, [.ref wk, .ref so, .ref g, .ref ko, .ref tr, .int op7, .int st7])), (g, .inr (0, [.ref ha, .ref oa, .ref pa, .int (nI np), .int tp0, .long ly, .int tn0, .int te, .int lay, .int idl, .int ov, .int win])), (ha, .inl (cJ, 4, .inr (.inl hf))), (oa, .inl (cZ, 4, .inl of))] sz)) 0 0 (va_A [(ox, .inr (5, [.ref wk, .ref so, .ref g, .ref ko, .ref tr, .int op7, .int st7])), (g, .inr (0, [.ref ha, .ref oa, .ref pa, .int (nI np), .int tp0, .long ly, .int tn0, .int te, .int lay, .int idl, .int ov, .int win])), (ha, .inl (cJ, 4, .inr (.inl hf))), (oa, .inl (cZ, 4, .inl of))] sz) := by
  refine Met.ofW (cc := cX7_player) (maxL := 5) (ret := (some .int)) (by decide) rfl ?_
  intro p e s m args below meth c s₁ B hml hv
  obtain ⟨hargs, hsz, hP, ⟨hK, hN⟩, hD0⟩ := hv
  have hx := B.exec
  have hb := B.bytes
  have hr := B.returns
  have hlocks := B.notSynchronized
  have hts := atoms_spec (ws := wsX7_player) B.pre
  have hown : s.vm.findClass RX7 = some m.cls := findClass_of_methodNamed B.named
  have k61 := hts (.methodLink RX7 61 yX7_refuse) (by decide +kernel)
  have k34 := hts (.fieldLink RX7 34 "RummyTable" "game" "LRummyTable$Game;") (by decide +kernel)
  have iX7 : ∀ w ∈ wsX70, w ∈ wsX7_player := by decide +kernel
  have k122 := hts (.methodLink RX7 122 yX1_isDealt) (by decide +kernel)
  have k126 := hts (.methodLink RX7 126 yX1_has) (by decide +kernel)
  have k52 := hts (.fieldLink RX7 52 "RummyTable" "status" "I") (by decide +kernel)
  have k129 := hts (.methodLink RX7 129 yX1_handOf) (by decide +kernel)
  have k114 := hts (.methodLink RX7 114 yX0_worthOfSet) (by decide +kernel)
  have k142 := hts (.methodLink RX7 142 yJ13_bitCount_95d88) (by decide +kernel)
  have k139 := hts (.methodLink RX7 139 yX1_hasOpened) (by decide +kernel)
  subst hsz
  have hD := hD0.self (sz := s.heap.size)
  generalize hAe : va_A [(ox, .inr (5, [.ref wk, .ref so, .ref g, .ref ko, .ref tr, .int op7, .int st7])), (g, .inr (0, [.ref ha, .ref oa, .ref pa, .int (nI np), .int tp0, .long ly, .int tn0, .int te, .int lay, .int idl, .int ov, .int win])), (ha, .inl (cJ, 4, .inr (.inl hf))), (oa, .inl (cZ, 4, .inl of))] s.heap.size = A at hD ⊢
  have hA : ∀ q : Nat, s.heap.size ≤ q → A q := fun q h => by rw [← hAe]; exact Or.inr h
  have hS : va_S A s.heap s.heap [] := va_S.rf
  rw [show entryFrame m args 5 = entryFrame m ([.ref ox, .int plr, .int w] : List Value).toArray 5 from by rw [hargs]]
  have hl := lv_entry ([.ref ox, .int plr, .int w]) (n := 5) (Nat.le_of_ble_eq_true rfl)
  rw [lg_entry_eq]
  generalize (lg_sl ([.ref ox, .int plr, .int w]) ++ List.replicate (5 - (lg_sl ([.ref ox, .int plr, .int w])).length) Slot.unset).toArray = ls at hl ⊢
  have hl : lv_has ls 5 [(0, .ref ox), (1, .int plr), (2, .int w)] := hl
  refine wQ (fun Q hQ => ?_)
  refine lv_iload_n hx hb dX7_player_0 rfl (lv_at hl 2 rfl) ?_
  refine lv_if_lt (tgt := 9) hx hb dX7_player_1 (by decide) (fun c_1 => ?_) (fun c_1 => ?_)
  · refine lv_aload_n hx hb dX7_player_9 rfl (lv_at hl 0 rfl) ?_
    refine lv_iconst (v := 1) hx hb dX7_player_10 (by decide) ?_
    have hPc := hP.sub (ws' := [(ox, .inr (5, [.ref wk, .ref so, .ref g, .ref ko, .ref tr, .int op7, .int st7]))]) [0] rfl
    have hDc := hD.sub (ws' := [(ox, .inr (5, [.ref wk, .ref so, .ref g, .ref ko, .ref tr, .int op7, .int st7]))]) [0] (by decide) rfl
    have hFc := va_free (wc := [(ox, .inr (5, [.ref wk, .ref so, .ref g, .ref ko, .ref tr, .int op7, .int st7]))]) hD hS hA [0] rfl
    refine va_calli (va_runV (As := [.int 1]) (rest := []) ⟨hx, hb, hml, hown, hts⟩ (k_X7_refuse l D cI cJ cZ s.heap.size ox wk so ko tr op7 st7 g 1 ) (cwV 1 hts gX7_player_X7_refuse rfl rfl rfl (by decide +kernel) ⟨Nat.le_of_ble_eq_true rfl, Nat.le_of_ble_eq_true rfl⟩) ⟨wM_fb, va_recv hK hPc (ci := 5) (q0 := 0) rfl rfl, wM_pre hPc ⟨hK, hN⟩ hDc⟩ rfl rfl hl.1 rfl (lv_room (Nat.le_of_ble_eq_true rfl)) dX7_player_11 ⟨Nat.le_of_ble_eq_true rfl, Nat.le_of_ble_eq_true rfl⟩) hS (fun q _ h => hFc q h) hFc (fun x11 u t H1 locs ht hvm hx11 hB hz1 hk1 hS => ?_)
    obtain ⟨hP1, hD1⟩ := hB
    rw [ht] at hP1
    obtain ⟨hP, hD⟩ := va_join (wr := [(g, .inr (0, [.ref ha, .ref oa, .ref pa, .int (nI np), .int tp0, .long ly, .int tn0, .int te, .int lay, .int idl, .int ov, .int win])), (ha, .inl (cJ, 4, .inr (.inl hf))), (oa, .inl (cZ, 4, .inl of))]) (w1 := [(ox, .inr (5, [.ref wk, .ref so, .ref g, .ref ko, .ref tr, .int op7, .int 1]))]) hP hD [0] [1, 2, 3] rfl rfl (by decide) (by decide) hk1 hFc hP1 hD1
    generalize H1 = H at hP hS ⊢
    have hP : va_P D vwCl [(g, .inr (0, [.ref ha, .ref oa, .ref pa, .int (nI np), .int tp0, .long ly, .int tn0, .int te, .int lay, .int idl, .int ov, .int win])), (ha, .inl (cJ, 4, .inr (.inl hf))), (oa, .inl (cZ, 4, .inl of)), (ox, .inr (5, [.ref wk, .ref so, .ref g, .ref ko, .ref tr, .int op7, .int 1]))] H := hP
    have hD : va_D A [(g, .inr (0, [.ref ha, .ref oa, .ref pa, .int (nI np), .int tp0, .long ly, .int tn0, .int te, .int lay, .int idl, .int ov, .int win])), (ha, .inl (cJ, 4, .inr (.inl hf))), (oa, .inl (cZ, 4, .inl of)), (ox, .inr (5, [.ref wk, .ref so, .ref g, .ref ko, .ref tr, .int op7, .int 1]))] := hD
    try dsimp only at hx11
    rw [← hQ]
    have hP9 := hP.sub (ws' := [(ox, .inr (5, [.ref wk, .ref so, .ref g, .ref ko, .ref tr, .int op7, .int 1])), (g, .inr (0, [.ref ha, .ref oa, .ref pa, .int (nI np), .int tp0, .long ly, .int tn0, .int te, .int lay, .int idl, .int ov, .int win])), (ha, .inl (cJ, 4, .inr (.inl hf))), (oa, .inl (cZ, 4, .inl of))]) [3, 0, 1, 2] rfl
    have hD9 := hD.sub (ws' := [(ox, .inr (5, [.ref wk, .ref so, .ref g, .ref ko, .ref tr, .int op7, .int 1])), (g, .inr (0, [.ref ha, .ref oa, .ref pa, .int (nI np), .int tp0, .long ly, .int tn0, .int te, .int lay, .int idl, .int ov, .int win])), (ha, .inl (cJ, 4, .inr (.inl hf))), (oa, .inl (cZ, 4, .inl of))]) [3, 0, 1, 2] (by decide) rfl
    exact W.iret (v := x11) hx hb hr (fun t ht hW => ⟨⟨x11, 1, rfl, (by simp only [j_plr7]; rw [hx11]; (repeat' split) <;> first | rfl | contradiction), (by show wB D A _ t; exact ⟨by rw [ht]; exact hP9, hD9⟩)⟩, hS.F ht⟩) hS.2.2 dX7_player_14
  · refine lv_iload_n hx hb dX7_player_4 rfl (lv_at hl 2 rfl) ?_
    refine lv_iconst (v := 2) hx hb dX7_player_5 (by decide) ?_
    refine lv_icmp_le (tgt := 15) hx hb dX7_player_6 (by decide) (fun c_6 => ?_) (fun c_6 => ?_)
    · refine lv_aload_n hx hb dX7_player_15 rfl (lv_at hl 0 rfl) ?_
      refine va_get (D := D) (ci := 5) (v := .ref g) (C := RX7) (T := TX7) (N := 7) hx hb hts iX7 hown hK hP 0 rfl rfl 2 (by decide) k34 (fun _ h9 => h9) rfl dX7_player_16 ?_
      have hPc := hP.sub (ws' := [(g, .inr (0, [.ref ha, .ref oa, .ref pa, .int (nI np), .int tp0, .long ly, .int tn0, .int te, .int lay, .int idl, .int ov, .int win]))]) [1] rfl
      refine vp_callSi (W.runV (As := []) (rest := []) ⟨hx, hb, hml, hown, hts⟩ (k_X1_isDealt l D cI cJ cZ g ha oa pa np tp0 tn0 te lay idl ov win ly ) (cwV 0 hts gX7_player_X1_isDealt rfl rfl rfl (by decide +kernel) ⟨Nat.le_of_ble_eq_true rfl, Nat.le_of_ble_eq_true rfl⟩) ⟨wR_fb, va_recv hK hPc (ci := 0) (q0 := 0) rfl rfl, wR_pre hPc ⟨hK, hN⟩⟩ rfl rfl hl.1 rfl (lv_room (Nat.le_of_ble_eq_true rfl)) dX7_player_19 ⟨Nat.le_of_ble_eq_true rfl, Nat.le_of_ble_eq_true rfl⟩) (fun x19 hx19 => ?_)
      subst hx19
      refine lv_if_ne (tgt := 31) hx hb dX7_player_22 (by decide) (fun c_22 => ?_) (fun c_22 => ?_)
      · refine lv_aload_n hx hb dX7_player_31 rfl (lv_at hl 0 rfl) ?_
        refine va_get (D := D) (ci := 5) (v := .ref g) (C := RX7) (T := TX7) (N := 7) hx hb hts iX7 hown hK hP 0 rfl rfl 2 (by decide) k34 (fun _ h9 => h9) rfl dX7_player_32 ?_
        refine lv_iload_n hx hb dX7_player_35 rfl (lv_at hl 1 rfl) ?_
        have hPc := hP.sub (ws' := [(g, .inr (0, [.ref ha, .ref oa, .ref pa, .int (nI np), .int tp0, .long ly, .int tn0, .int te, .int lay, .int idl, .int ov, .int win]))]) [1] rfl
        refine vp_callSi (W.runV (As := [.int plr]) (rest := []) ⟨hx, hb, hml, hown, hts⟩ (k_X1_has l D cI cJ cZ g ha oa pa np tp0 tn0 te lay idl ov win ly plr ) (cwV 1 hts gX7_player_X1_has rfl rfl rfl (by decide +kernel) ⟨Nat.le_of_ble_eq_true rfl, Nat.le_of_ble_eq_true rfl⟩) ⟨wR_fb, va_recv hK hPc (ci := 0) (q0 := 0) rfl rfl, wR_pre hPc ⟨hK, hN⟩⟩ rfl rfl hl.1 rfl (lv_room (Nat.le_of_ble_eq_true rfl)) dX7_player_36 ⟨Nat.le_of_ble_eq_true rfl, Nat.le_of_ble_eq_true rfl⟩) (fun x36 hx36 => ?_)
        subst hx36
        refine lv_if_ne (tgt := 48) hx hb dX7_player_39 (by decide) (fun c_39 => ?_) (fun c_39 => ?_)
        · refine lv_aload_n hx hb dX7_player_48 rfl (lv_at hl 0 rfl) ?_
          refine lv_iconst (v := 0) hx hb dX7_player_49 (by decide) ?_
          refine va_put (D := D) (ci := 5) (v := .int 0) (ty := .int) (C := RX7) (T := TX7) (N := 7) hx hb hts iX7 tyX7 tyX7_ok nmX7 hown hK hP hD hS 0 rfl rfl 6 (by decide) k52 (fun _ h9 => h9) rfl (by decide +kernel) rfl rfl (Nat.le_of_ble_eq_true rfl) dX7_player_50 (fun H locs hP hD hS => ?_)
          have hP : va_P D vwCl [(ox, .inr (5, [.ref wk, .ref so, .ref g, .ref ko, .ref tr, .int op7, .int 0])), (g, .inr (0, [.ref ha, .ref oa, .ref pa, .int (nI np), .int tp0, .long ly, .int tn0, .int te, .int lay, .int idl, .int ov, .int win])), (ha, .inl (cJ, 4, .inr (.inl hf))), (oa, .inl (cZ, 4, .inl of))] H := hP
          have hD : va_D A [(ox, .inr (5, [.ref wk, .ref so, .ref g, .ref ko, .ref tr, .int op7, .int 0])), (g, .inr (0, [.ref ha, .ref oa, .ref pa, .int (nI np), .int tp0, .long ly, .int tn0, .int te, .int lay, .int idl, .int ov, .int win])), (ha, .inl (cJ, 4, .inr (.inl hf))), (oa, .inl (cZ, 4, .inl of))] := hD
          refine lv_iload_n hx hb dX7_player_53 rfl (lv_at hl 2 rfl) ?_
          refine lv_if_ne (tgt := 74) hx hb dX7_player_54 (by decide) (fun c_54 => ?_) (fun c_54 => ?_)
          · refine lv_aload_n hx hb dX7_player_74 rfl (lv_at hl 0 rfl) ?_
            refine va_get (D := D) (ci := 5) (v := .ref g) (C := RX7) (T := TX7) (N := 7) hx hb hts iX7 hown hK hP 0 rfl rfl 2 (by decide) k34 (fun _ h9 => h9) rfl dX7_player_75 ?_
            refine lv_iload_n hx hb dX7_player_78 rfl (lv_at hl 1 rfl) ?_
            have hPc := hP.sub (ws' := [(g, .inr (0, [.ref ha, .ref oa, .ref pa, .int (nI np), .int tp0, .long ly, .int tn0, .int te, .int lay, .int idl, .int ov, .int win])), (ha, .inl (cJ, 4, .inr (.inl hf)))]) [1, 2] rfl
            refine vp_callSl (W.runV (As := [.int plr]) (rest := []) ⟨hx, hb, hml, hown, hts⟩ (k_X1_handOf l D cI cJ cZ g ha oa pa np tp0 tn0 te lay idl ov win ly hf plr ) (cwV 1 hts gX7_player_X1_handOf rfl rfl rfl (by decide +kernel) ⟨Nat.le_of_ble_eq_true rfl, Nat.le_of_ble_eq_true rfl⟩) ⟨wR_fb, va_recv hK hPc (ci := 0) (q0 := 0) rfl rfl, wR_pre hPc ⟨hK, hN⟩⟩ rfl rfl hl.1 rfl (lv_room (Nat.le_of_ble_eq_true rfl)) dX7_player_79 ⟨Nat.le_of_ble_eq_true rfl, Nat.le_of_ble_eq_true rfl⟩) (fun x79 hx79 => ?_)
            subst hx79
            refine lv_topl (fun x82 ex82 => ?_)
            refine lv_lstore_n (lv' := [(3, .long x82), (0, .ref ox), (1, .int plr), (2, .int w)]) hx hb dX7_player_82 rfl hl (by decide) rfl (fun ls hl => ?_)
            refine lv_iload_n hx hb dX7_player_83 rfl (lv_at hl 3 rfl) ?_
            refine lv_iconst (v := 1) hx hb dX7_player_84 (by decide) ?_
            refine lv_icmp_ne (tgt := 95) hx hb dX7_player_85 (by decide) (fun c_85 => ?_) (fun c_85 => ?_)
            · refine lv_lload_n hx hb dX7_player_95 rfl (lv_at hl 0 rfl) ?_
              refine vp_callSi (W.runS (As := [.long x82]) (rest := []) ⟨hx, hb, hml, hown, hts⟩ (k_X0_worthOfSet l x82 ) (va_cwS 1 hts gX7_player_X0_worthOfSet rfl rfl rfl (by decide +kernel) ⟨Nat.le_of_ble_eq_true rfl, Nat.le_of_ble_eq_true rfl⟩) ⟨pS_fb, pS_pre⟩ rfl rfl hl.1 rfl (lv_room (Nat.le_of_ble_eq_true rfl)) dX7_player_96 ⟨Nat.le_of_ble_eq_true rfl, Nat.le_of_ble_eq_true rfl⟩) (fun x96 hx96 => ?_)
              subst hx96
              rw [← hQ]
              have hP9 := hP.sub (ws' := [(ox, .inr (5, [.ref wk, .ref so, .ref g, .ref ko, .ref tr, .int op7, .int 0])), (g, .inr (0, [.ref ha, .ref oa, .ref pa, .int (nI np), .int tp0, .long ly, .int tn0, .int te, .int lay, .int idl, .int ov, .int win])), (ha, .inl (cJ, 4, .inr (.inl hf))), (oa, .inl (cZ, 4, .inl of))]) [0, 1, 2, 3] rfl
              have hD9 := hD.sub (ws' := [(ox, .inr (5, [.ref wk, .ref so, .ref g, .ref ko, .ref tr, .int op7, .int 0])), (g, .inr (0, [.ref ha, .ref oa, .ref pa, .int (nI np), .int tp0, .long ly, .int tn0, .int te, .int lay, .int idl, .int ov, .int win])), (ha, .inl (cJ, 4, .inr (.inl hf))), (oa, .inl (cZ, 4, .inl of))]) [0, 1, 2, 3] (by decide) rfl
              exact W.iret (v := j_X0_worthOfSet x82) hx hb hr (fun t ht hW => ⟨⟨(j_X0_worthOfSet x82), 0, rfl, (by simp only [j_plr7]; rw [if_neg c_1, if_pos c_6, if_neg (dealt_t c_22), if_neg c_39, if_neg c_54]; rw [ex82, if_neg c_39]; first | (rw [if_neg c_85]; done) | (rw [if_pos c_85]; done)), (by show wB D A _ t; exact ⟨by rw [ht]; exact hP9, hD9⟩)⟩, hS.F ht⟩) hS.2.2 dX7_player_99
            · refine lv_lload_n hx hb dX7_player_88 rfl (lv_at hl 0 rfl) ?_
              refine vp_callSi (W.runS (As := [.long x82]) (rest := []) ⟨hx, hb, hml, hown, hts⟩ (k_J13_bitCount_95d88 l x82 ) (va_cwS 1 hts gX7_player_J13_bitCount_95d88 rfl rfl rfl (by decide +kernel) ⟨Nat.le_of_ble_eq_true rfl, Nat.le_of_ble_eq_true rfl⟩) ⟨pS_fb, pS_pre⟩ rfl rfl hl.1 rfl (lv_room (Nat.le_of_ble_eq_true rfl)) dX7_player_89 ⟨Nat.le_of_ble_eq_true rfl, Nat.le_of_ble_eq_true rfl⟩) (fun x89 hx89 => ?_)
              subst hx89
              refine lv_goto (tgt := 99) hx hb dX7_player_92 (by decide) ?_
              rw [← hQ]
              have hP9 := hP.sub (ws' := [(ox, .inr (5, [.ref wk, .ref so, .ref g, .ref ko, .ref tr, .int op7, .int 0])), (g, .inr (0, [.ref ha, .ref oa, .ref pa, .int (nI np), .int tp0, .long ly, .int tn0, .int te, .int lay, .int idl, .int ov, .int win])), (ha, .inl (cJ, 4, .inr (.inl hf))), (oa, .inl (cZ, 4, .inl of))]) [0, 1, 2, 3] rfl
              have hD9 := hD.sub (ws' := [(ox, .inr (5, [.ref wk, .ref so, .ref g, .ref ko, .ref tr, .int op7, .int 0])), (g, .inr (0, [.ref ha, .ref oa, .ref pa, .int (nI np), .int tp0, .long ly, .int tn0, .int te, .int lay, .int idl, .int ov, .int win])), (ha, .inl (cJ, 4, .inr (.inl hf))), (oa, .inl (cZ, 4, .inl of))]) [0, 1, 2, 3] (by decide) rfl
              exact W.iret (v := j_bcL x82) hx hb hr (fun t ht hW => ⟨⟨(j_bcL x82), 0, rfl, (by simp only [j_plr7]; rw [if_neg c_1, if_pos c_6, if_neg (dealt_t c_22), if_neg c_39, if_neg c_54]; rw [ex82, if_neg c_39]; first | (rw [if_neg c_85]; done) | (rw [if_pos c_85]; done)), (by show wB D A _ t; exact ⟨by rw [ht]; exact hP9, hD9⟩)⟩, hS.F ht⟩) hS.2.2 dX7_player_99
          · refine lv_aload_n hx hb dX7_player_57 rfl (lv_at hl 0 rfl) ?_
            refine va_get (D := D) (ci := 5) (v := .ref g) (C := RX7) (T := TX7) (N := 7) hx hb hts iX7 hown hK hP 0 rfl rfl 2 (by decide) k34 (fun _ h9 => h9) rfl dX7_player_58 ?_
            refine lv_iload_n hx hb dX7_player_61 rfl (lv_at hl 1 rfl) ?_
            have hPc := hP.sub (ws' := [(g, .inr (0, [.ref ha, .ref oa, .ref pa, .int (nI np), .int tp0, .long ly, .int tn0, .int te, .int lay, .int idl, .int ov, .int win])), (oa, .inl (cZ, 4, .inl of))]) [1, 3] rfl
            refine vp_callSi (W.runV (As := [.int plr]) (rest := []) ⟨hx, hb, hml, hown, hts⟩ (k_X1_hasOpened l D cI cJ cZ g ha oa pa np tp0 tn0 te lay idl ov win ly of plr ) (cwV 1 hts gX7_player_X1_hasOpened rfl rfl rfl (by decide +kernel) ⟨Nat.le_of_ble_eq_true rfl, Nat.le_of_ble_eq_true rfl⟩) ⟨wR_fb, va_recv hK hPc (ci := 0) (q0 := 0) rfl rfl, wR_pre hPc ⟨hK, hN⟩⟩ rfl rfl hl.1 rfl (lv_room (Nat.le_of_ble_eq_true rfl)) dX7_player_62 ⟨Nat.le_of_ble_eq_true rfl, Nat.le_of_ble_eq_true rfl⟩) (fun x62 hx62 => ?_)
            subst hx62
            refine lv_if_eq (tgt := 72) hx hb dX7_player_65 (by decide) (fun c_65 => ?_) (fun c_65 => ?_)
            · refine lv_iconst (v := 0) hx hb dX7_player_72 (by decide) ?_
              rw [← hQ]
              have hP9 := hP.sub (ws' := [(ox, .inr (5, [.ref wk, .ref so, .ref g, .ref ko, .ref tr, .int op7, .int 0])), (g, .inr (0, [.ref ha, .ref oa, .ref pa, .int (nI np), .int tp0, .long ly, .int tn0, .int te, .int lay, .int idl, .int ov, .int win])), (ha, .inl (cJ, 4, .inr (.inl hf))), (oa, .inl (cZ, 4, .inl of))]) [0, 1, 2, 3] rfl
              have hD9 := hD.sub (ws' := [(ox, .inr (5, [.ref wk, .ref so, .ref g, .ref ko, .ref tr, .int op7, .int 0])), (g, .inr (0, [.ref ha, .ref oa, .ref pa, .int (nI np), .int tp0, .long ly, .int tn0, .int te, .int lay, .int idl, .int ov, .int win])), (ha, .inl (cJ, 4, .inr (.inl hf))), (oa, .inl (cZ, 4, .inl of))]) [0, 1, 2, 3] (by decide) rfl
              exact W.iret (v := 0) hx hb hr (fun t ht hW => ⟨⟨0, 0, rfl, (by simp only [j_plr7]; rw [if_neg c_1, if_pos c_6, if_neg (dealt_t c_22), if_neg c_39, if_pos c_54]; first | (rw [← op_t c_39 c_65]; done) | (rw [← op_f c_39 c_65]; done)), (by show wB D A _ t; exact ⟨by rw [ht]; exact hP9, hD9⟩)⟩, hS.F ht⟩) hS.2.2 dX7_player_73
            · refine lv_iconst (v := 1) hx hb dX7_player_68 (by decide) ?_
              refine lv_goto (tgt := 73) hx hb dX7_player_69 (by decide) ?_
              rw [← hQ]
              have hP9 := hP.sub (ws' := [(ox, .inr (5, [.ref wk, .ref so, .ref g, .ref ko, .ref tr, .int op7, .int 0])), (g, .inr (0, [.ref ha, .ref oa, .ref pa, .int (nI np), .int tp0, .long ly, .int tn0, .int te, .int lay, .int idl, .int ov, .int win])), (ha, .inl (cJ, 4, .inr (.inl hf))), (oa, .inl (cZ, 4, .inl of))]) [0, 1, 2, 3] rfl
              have hD9 := hD.sub (ws' := [(ox, .inr (5, [.ref wk, .ref so, .ref g, .ref ko, .ref tr, .int op7, .int 0])), (g, .inr (0, [.ref ha, .ref oa, .ref pa, .int (nI np), .int tp0, .long ly, .int tn0, .int te, .int lay, .int idl, .int ov, .int win])), (ha, .inl (cJ, 4, .inr (.inl hf))), (oa, .inl (cZ, 4, .inl of))]) [0, 1, 2, 3] (by decide) rfl
              exact W.iret (v := 1) hx hb hr (fun t ht hW => ⟨⟨1, 0, rfl, (by simp only [j_plr7]; rw [if_neg c_1, if_pos c_6, if_neg (dealt_t c_22), if_neg c_39, if_pos c_54]; first | (rw [← op_t c_39 c_65]; done) | (rw [← op_f c_39 c_65]; done)), (by show wB D A _ t; exact ⟨by rw [ht]; exact hP9, hD9⟩)⟩, hS.F ht⟩) hS.2.2 dX7_player_73
        · refine lv_aload_n hx hb dX7_player_42 rfl (lv_at hl 0 rfl) ?_
          refine lv_iconst (v := 1) hx hb dX7_player_43 (by decide) ?_
          have hPc := hP.sub (ws' := [(ox, .inr (5, [.ref wk, .ref so, .ref g, .ref ko, .ref tr, .int op7, .int st7]))]) [0] rfl
          have hDc := hD.sub (ws' := [(ox, .inr (5, [.ref wk, .ref so, .ref g, .ref ko, .ref tr, .int op7, .int st7]))]) [0] (by decide) rfl
          have hFc := va_free (wc := [(ox, .inr (5, [.ref wk, .ref so, .ref g, .ref ko, .ref tr, .int op7, .int st7]))]) hD hS hA [0] rfl
          refine va_calli (va_runV (As := [.int 1]) (rest := []) ⟨hx, hb, hml, hown, hts⟩ (k_X7_refuse l D cI cJ cZ s.heap.size ox wk so ko tr op7 st7 g 1 ) (cwV 1 hts gX7_player_X7_refuse rfl rfl rfl (by decide +kernel) ⟨Nat.le_of_ble_eq_true rfl, Nat.le_of_ble_eq_true rfl⟩) ⟨wM_fb, va_recv hK hPc (ci := 5) (q0 := 0) rfl rfl, wM_pre hPc ⟨hK, hN⟩ hDc⟩ rfl rfl hl.1 rfl (lv_room (Nat.le_of_ble_eq_true rfl)) dX7_player_44 ⟨Nat.le_of_ble_eq_true rfl, Nat.le_of_ble_eq_true rfl⟩) hS (fun q _ h => hFc q h) hFc (fun x44 u t H1 locs ht hvm hx44 hB hz1 hk1 hS => ?_)
          obtain ⟨hP1, hD1⟩ := hB
          rw [ht] at hP1
          obtain ⟨hP, hD⟩ := va_join (wr := [(g, .inr (0, [.ref ha, .ref oa, .ref pa, .int (nI np), .int tp0, .long ly, .int tn0, .int te, .int lay, .int idl, .int ov, .int win])), (ha, .inl (cJ, 4, .inr (.inl hf))), (oa, .inl (cZ, 4, .inl of))]) (w1 := [(ox, .inr (5, [.ref wk, .ref so, .ref g, .ref ko, .ref tr, .int op7, .int 1]))]) hP hD [0] [1, 2, 3] rfl rfl (by decide) (by decide) hk1 hFc hP1 hD1
          generalize H1 = H at hP hS ⊢
          have hP : va_P D vwCl [(g, .inr (0, [.ref ha, .ref oa, .ref pa, .int (nI np), .int tp0, .long ly, .int tn0, .int te, .int lay, .int idl, .int ov, .int win])), (ha, .inl (cJ, 4, .inr (.inl hf))), (oa, .inl (cZ, 4, .inl of)), (ox, .inr (5, [.ref wk, .ref so, .ref g, .ref ko, .ref tr, .int op7, .int 1]))] H := hP
          have hD : va_D A [(g, .inr (0, [.ref ha, .ref oa, .ref pa, .int (nI np), .int tp0, .long ly, .int tn0, .int te, .int lay, .int idl, .int ov, .int win])), (ha, .inl (cJ, 4, .inr (.inl hf))), (oa, .inl (cZ, 4, .inl of)), (ox, .inr (5, [.ref wk, .ref so, .ref g, .ref ko, .ref tr, .int op7, .int 1]))] := hD
          try dsimp only at hx44
          rw [← hQ]
          have hP9 := hP.sub (ws' := [(ox, .inr (5, [.ref wk, .ref so, .ref g, .ref ko, .ref tr, .int op7, .int 1])), (g, .inr (0, [.ref ha, .ref oa, .ref pa, .int (nI np), .int tp0, .long ly, .int tn0, .int te, .int lay, .int idl, .int ov, .int win])), (ha, .inl (cJ, 4, .inr (.inl hf))), (oa, .inl (cZ, 4, .inl of))]) [3, 0, 1, 2] rfl
          have hD9 := hD.sub (ws' := [(ox, .inr (5, [.ref wk, .ref so, .ref g, .ref ko, .ref tr, .int op7, .int 1])), (g, .inr (0, [.ref ha, .ref oa, .ref pa, .int (nI np), .int tp0, .long ly, .int tn0, .int te, .int lay, .int idl, .int ov, .int win])), (ha, .inl (cJ, 4, .inr (.inl hf))), (oa, .inl (cZ, 4, .inl of))]) [3, 0, 1, 2] (by decide) rfl
          exact W.iret (v := x44) hx hb hr (fun t ht hW => ⟨⟨x44, 1, rfl, (by simp only [j_plr7]; rw [hx44, if_neg c_1, if_pos c_6, if_neg (dealt_t c_22), if_pos c_39]), (by show wB D A _ t; exact ⟨by rw [ht]; exact hP9, hD9⟩)⟩, hS.F ht⟩) hS.2.2 dX7_player_47
      · refine lv_aload_n hx hb dX7_player_25 rfl (lv_at hl 0 rfl) ?_
        refine lv_iconst (v := 4) hx hb dX7_player_26 (by decide) ?_
        have hPc := hP.sub (ws' := [(ox, .inr (5, [.ref wk, .ref so, .ref g, .ref ko, .ref tr, .int op7, .int st7]))]) [0] rfl
        have hDc := hD.sub (ws' := [(ox, .inr (5, [.ref wk, .ref so, .ref g, .ref ko, .ref tr, .int op7, .int st7]))]) [0] (by decide) rfl
        have hFc := va_free (wc := [(ox, .inr (5, [.ref wk, .ref so, .ref g, .ref ko, .ref tr, .int op7, .int st7]))]) hD hS hA [0] rfl
        refine va_calli (va_runV (As := [.int 4]) (rest := []) ⟨hx, hb, hml, hown, hts⟩ (k_X7_refuse l D cI cJ cZ s.heap.size ox wk so ko tr op7 st7 g 4 ) (cwV 1 hts gX7_player_X7_refuse rfl rfl rfl (by decide +kernel) ⟨Nat.le_of_ble_eq_true rfl, Nat.le_of_ble_eq_true rfl⟩) ⟨wM_fb, va_recv hK hPc (ci := 5) (q0 := 0) rfl rfl, wM_pre hPc ⟨hK, hN⟩ hDc⟩ rfl rfl hl.1 rfl (lv_room (Nat.le_of_ble_eq_true rfl)) dX7_player_27 ⟨Nat.le_of_ble_eq_true rfl, Nat.le_of_ble_eq_true rfl⟩) hS (fun q _ h => hFc q h) hFc (fun x27 u t H1 locs ht hvm hx27 hB hz1 hk1 hS => ?_)
        obtain ⟨hP1, hD1⟩ := hB
        rw [ht] at hP1
        obtain ⟨hP, hD⟩ := va_join (wr := [(g, .inr (0, [.ref ha, .ref oa, .ref pa, .int (nI np), .int tp0, .long ly, .int tn0, .int te, .int lay, .int idl, .int ov, .int win])), (ha, .inl (cJ, 4, .inr (.inl hf))), (oa, .inl (cZ, 4, .inl of))]) (w1 := [(ox, .inr (5, [.ref wk, .ref so, .ref g, .ref ko, .ref tr, .int op7, .int 4]))]) hP hD [0] [1, 2, 3] rfl rfl (by decide) (by decide) hk1 hFc hP1 hD1
        generalize H1 = H at hP hS ⊢
        have hP : va_P D vwCl [(g, .inr (0, [.ref ha, .ref oa, .ref pa, .int (nI np), .int tp0, .long ly, .int tn0, .int te, .int lay, .int idl, .int ov, .int win])), (ha, .inl (cJ, 4, .inr (.inl hf))), (oa, .inl (cZ, 4, .inl of)), (ox, .inr (5, [.ref wk, .ref so, .ref g, .ref ko, .ref tr, .int op7, .int 4]))] H := hP
        have hD : va_D A [(g, .inr (0, [.ref ha, .ref oa, .ref pa, .int (nI np), .int tp0, .long ly, .int tn0, .int te, .int lay, .int idl, .int ov, .int win])), (ha, .inl (cJ, 4, .inr (.inl hf))), (oa, .inl (cZ, 4, .inl of)), (ox, .inr (5, [.ref wk, .ref so, .ref g, .ref ko, .ref tr, .int op7, .int 4]))] := hD
        try dsimp only at hx27
        rw [← hQ]
        have hP9 := hP.sub (ws' := [(ox, .inr (5, [.ref wk, .ref so, .ref g, .ref ko, .ref tr, .int op7, .int 4])), (g, .inr (0, [.ref ha, .ref oa, .ref pa, .int (nI np), .int tp0, .long ly, .int tn0, .int te, .int lay, .int idl, .int ov, .int win])), (ha, .inl (cJ, 4, .inr (.inl hf))), (oa, .inl (cZ, 4, .inl of))]) [3, 0, 1, 2] rfl
        have hD9 := hD.sub (ws' := [(ox, .inr (5, [.ref wk, .ref so, .ref g, .ref ko, .ref tr, .int op7, .int 4])), (g, .inr (0, [.ref ha, .ref oa, .ref pa, .int (nI np), .int tp0, .long ly, .int tn0, .int te, .int lay, .int idl, .int ov, .int win])), (ha, .inl (cJ, 4, .inr (.inl hf))), (oa, .inl (cZ, 4, .inl of))]) [3, 0, 1, 2] (by decide) rfl
        exact W.iret (v := x27) hx hb hr (fun t ht hW => ⟨⟨x27, 4, rfl, (by simp only [j_plr7]; rw [hx27, if_neg c_1, if_pos c_6, if_pos (dealt_f c_22)]), (by show wB D A _ t; exact ⟨by rw [ht]; exact hP9, hD9⟩)⟩, hS.F ht⟩) hS.2.2 dX7_player_30
    · refine lv_aload_n hx hb dX7_player_9 rfl (lv_at hl 0 rfl) ?_
      refine lv_iconst (v := 1) hx hb dX7_player_10 (by decide) ?_
      have hPc := hP.sub (ws' := [(ox, .inr (5, [.ref wk, .ref so, .ref g, .ref ko, .ref tr, .int op7, .int st7]))]) [0] rfl
      have hDc := hD.sub (ws' := [(ox, .inr (5, [.ref wk, .ref so, .ref g, .ref ko, .ref tr, .int op7, .int st7]))]) [0] (by decide) rfl
      have hFc := va_free (wc := [(ox, .inr (5, [.ref wk, .ref so, .ref g, .ref ko, .ref tr, .int op7, .int st7]))]) hD hS hA [0] rfl
      refine va_calli (va_runV (As := [.int 1]) (rest := []) ⟨hx, hb, hml, hown, hts⟩ (k_X7_refuse l D cI cJ cZ s.heap.size ox wk so ko tr op7 st7 g 1 ) (cwV 1 hts gX7_player_X7_refuse rfl rfl rfl (by decide +kernel) ⟨Nat.le_of_ble_eq_true rfl, Nat.le_of_ble_eq_true rfl⟩) ⟨wM_fb, va_recv hK hPc (ci := 5) (q0 := 0) rfl rfl, wM_pre hPc ⟨hK, hN⟩ hDc⟩ rfl rfl hl.1 rfl (lv_room (Nat.le_of_ble_eq_true rfl)) dX7_player_11 ⟨Nat.le_of_ble_eq_true rfl, Nat.le_of_ble_eq_true rfl⟩) hS (fun q _ h => hFc q h) hFc (fun x11 u t H1 locs ht hvm hx11 hB hz1 hk1 hS => ?_)
      obtain ⟨hP1, hD1⟩ := hB
      rw [ht] at hP1
      obtain ⟨hP, hD⟩ := va_join (wr := [(g, .inr (0, [.ref ha, .ref oa, .ref pa, .int (nI np), .int tp0, .long ly, .int tn0, .int te, .int lay, .int idl, .int ov, .int win])), (ha, .inl (cJ, 4, .inr (.inl hf))), (oa, .inl (cZ, 4, .inl of))]) (w1 := [(ox, .inr (5, [.ref wk, .ref so, .ref g, .ref ko, .ref tr, .int op7, .int 1]))]) hP hD [0] [1, 2, 3] rfl rfl (by decide) (by decide) hk1 hFc hP1 hD1
      generalize H1 = H at hP hS ⊢
      have hP : va_P D vwCl [(g, .inr (0, [.ref ha, .ref oa, .ref pa, .int (nI np), .int tp0, .long ly, .int tn0, .int te, .int lay, .int idl, .int ov, .int win])), (ha, .inl (cJ, 4, .inr (.inl hf))), (oa, .inl (cZ, 4, .inl of)), (ox, .inr (5, [.ref wk, .ref so, .ref g, .ref ko, .ref tr, .int op7, .int 1]))] H := hP
      have hD : va_D A [(g, .inr (0, [.ref ha, .ref oa, .ref pa, .int (nI np), .int tp0, .long ly, .int tn0, .int te, .int lay, .int idl, .int ov, .int win])), (ha, .inl (cJ, 4, .inr (.inl hf))), (oa, .inl (cZ, 4, .inl of)), (ox, .inr (5, [.ref wk, .ref so, .ref g, .ref ko, .ref tr, .int op7, .int 1]))] := hD
      try dsimp only at hx11
      rw [← hQ]
      have hP9 := hP.sub (ws' := [(ox, .inr (5, [.ref wk, .ref so, .ref g, .ref ko, .ref tr, .int op7, .int 1])), (g, .inr (0, [.ref ha, .ref oa, .ref pa, .int (nI np), .int tp0, .long ly, .int tn0, .int te, .int lay, .int idl, .int ov, .int win])), (ha, .inl (cJ, 4, .inr (.inl hf))), (oa, .inl (cZ, 4, .inl of))]) [3, 0, 1, 2] rfl
      have hD9 := hD.sub (ws' := [(ox, .inr (5, [.ref wk, .ref so, .ref g, .ref ko, .ref tr, .int op7, .int 1])), (g, .inr (0, [.ref ha, .ref oa, .ref pa, .int (nI np), .int tp0, .long ly, .int tn0, .int te, .int lay, .int idl, .int ov, .int win])), (ha, .inl (cJ, 4, .inr (.inl hf))), (oa, .inl (cZ, 4, .inl of))]) [3, 0, 1, 2] (by decide) rfl
      exact W.iret (v := x11) hx hb hr (fun t ht hW => ⟨⟨x11, 1, rfl, (by simp only [j_plr7]; rw [hx11]; (repeat' split) <;> first | rfl | contradiction), (by show wB D A _ t; exact ⟨by rw [ht]; exact hP9, hD9⟩)⟩, hS.F ht⟩) hS.2.2 dX7_player_14
