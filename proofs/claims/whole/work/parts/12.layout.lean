def lrIn (P : Nat → Int32) (m0 : Int32) : Nat → Int32 × Int32
  | 0 => (0, m0)
  | n + 1 => (if P n = 3 then (lrIn P m0 n).1 + 1 else if P n = 2 then 1 else 0, if (lrIn P m0 n).2 < (if P n = 3 then (lrIn P m0 n).1 + 1 else if P n = 2 then 1 else 0) then (if P n = 3 then (lrIn P m0 n).1 + 1 else if P n = 2 then 1 else 0) else (lrIn P m0 n).2)
def lrOut (P : Nat → Nat → Int32) : Nat → Int32
  | 0 => 0
  | c + 1 => (lrIn (P c) (lrOut P c) 13).2
def j_X2_placeOf (sf : Nat → Int32) (card : Int32) : Int32 := if card < 0 then -1 else if card < 52 then j_X5_placeOf (sf (card / 4).toNatClampNeg) (card - card / 4 * 4) else -1
def j_X2_jokerFor (sf : Nat → Int32) (own : Int64) (card : Int32) : Int32 := if card < 0 then -1 else if card < 52 then (if j_X2_placeOf sf card = 0 then 0 else if lg_cmp ((own.toUInt64 >>> (card.toInt64.toUInt64 &&& Int64.toUInt64 63)).toInt64 &&& 1) 0 = 0 then 1 else 0) else -1
def j_X2_groups (sf : Nat → Int32) : Int32 := bx_sum (fun n => if j_X5_grouped (sf n) = 0 then 0 else 1) 13
def j_X2_runs (sf : Nat → Int32) : Int32 := bx_sum (fun n => j_bcI (j_X5_begun (sf n))) 13
def j_X2_shownCards (sf : Nat → Int32) : Int32 := bx_sum (fun n => j_bcI (j_X5_shown (sf n))) 13
def j_X2_shownWorth (sf : Nat → Int32) : Int32 := bx_sum (fun n => j_X0_worthOfNumber (nI n) * j_bcI (j_X5_shown (sf n))) 13
def j_X2_longestRun (sf : Nat → Int32) : Int32 := lrOut (fun c n => j_X5_placeOf (sf n) (nI c)) 4
theorem hp_div4 {x : Int32} (h0 : ¬ x < 0) (h : x < 52) : vp_in (x / 4) 13 := by
  obtain ⟨j, hj, rfl⟩ := nI_of h0
  rw [show (52 : Int32) = nI 52 from rfl, nI_ltI hj (by decide)] at h
  rw [show (4 : Int32) = nI 4 from rfl, pk_div hj (by decide) (by decide)]
  exact vp_in_nI (by omega) (by decide)
theorem hp_lr {P : Nat → Int32} {m0 le mo le2 mo2 : Int32} {i : Nat} (h : (le, mo) = lrIn P m0 i) (h2 : mo2 = if mo < le2 then le2 else mo) (h1 : le2 = if P i = 3 then le + 1 else if P i = 2 then 1 else 0) : (le2, mo2) = lrIn P m0 (i + 1) := by
  show _ = (_, _)
  rw [← h]
  subst h1; subst h2
  rfl
set_option maxHeartbeats 4000000 in
set_option maxRecDepth 100000 in
theorem k_X2_placeOf (l : Launch) (D : va_G) (cI cJ cZ : ClassId) (lo sa : Nat) (own : Int64) (sf : Nat → Int32) (card : Int32)  : Met l yX2_placeOf wsX2_placeOf ({ frames := 2, cells := 0, slots := 0, locals := 41 } : Room) (va_Pc [.ref lo, .int card] (wR D cI cJ cZ [(lo, .inr (1, [.ref sa, .long own])), (sa, .inl (cI, 13, .inl sf))])) (vp_Si (fun r => r = j_X2_placeOf sf card)) 0 0 (fun _ => False) := by
  refine Met.ofW (cc := cX2_placeOf) (maxL := 2) (ret := (some .int)) (by decide) rfl ?_
  intro p e s m args below meth c s₁ B hml hv
  obtain ⟨hargs, hP, hK, hN⟩ := hv
  have hx := B.exec
  have hb := B.bytes
  have hr := B.returns
  have hlocks := B.notSynchronized
  have hts := atoms_spec (ws := wsX2_placeOf) B.pre
  have hown : s.vm.findClass RX2 = some m.cls := findClass_of_methodNamed B.named
  have k9 := hts (.fieldLink RX2 9 "RummyTable$Layout" "steps" "[I") (by decide +kernel)
  have iX2 : ∀ w ∈ wsX20, w ∈ wsX2_placeOf := by decide +kernel
  have k15 := hts (.methodLink RX2 15 yX5_placeOf) (by decide +kernel)
  rw [show entryFrame m args 2 = entryFrame m ([.ref lo, .int card] : List Value).toArray 2 from by rw [hargs]]
  have hl := lv_entry ([.ref lo, .int card]) (n := 2) (Nat.le_of_ble_eq_true rfl)
  rw [lg_entry_eq]
  generalize (lg_sl ([.ref lo, .int card]) ++ List.replicate (2 - (lg_sl ([.ref lo, .int card])).length) Slot.unset).toArray = ls at hl ⊢
  have hl : lv_has ls 2 [(0, .ref lo), (1, .int card)] := hl
  refine wQ (fun Q hQ => ?_)
  refine lv_iload_n hx hb dX2_placeOf_0 rfl (lv_at hl 1 rfl) ?_
  refine lv_if_lt (tgt := 10) hx hb dX2_placeOf_1 (by decide) (fun c_1 => ?_) (fun c_1 => ?_)
  · refine lv_iconst (v := (-1)) hx hb dX2_placeOf_10 (by decide) ?_
    rw [← hQ]
    exact W.iret (v := (-1)) hx hb hr (fun t ht hW => ⟨_, rfl, (by simp only [j_X2_placeOf]; (repeat' split) <;> first | rfl | contradiction), ht⟩) (fun _ h => by cases h) dX2_placeOf_11
  · refine lv_iload_n hx hb dX2_placeOf_4 rfl (lv_at hl 1 rfl) ?_
    refine lv_bipush (v := 52) hx hb dX2_placeOf_5 (by decide) ?_
    refine lv_icmp_lt (tgt := 12) hx hb dX2_placeOf_7 (by decide) (fun c_7 => ?_) (fun c_7 => ?_)
    · refine lv_aload_n hx hb dX2_placeOf_12 rfl (lv_at hl 0 rfl) ?_
      refine va_get (D := D) (ci := 1) (v := .ref sa) (C := RX2) (T := TX2) (N := 2) hx hb hts iX2 hown hK hP 0 rfl rfl 0 (by decide) k9 (fun _ h9 => h9) rfl dX2_placeOf_13 ?_
      refine lv_iload_n hx hb dX2_placeOf_16 rfl (lv_at hl 1 rfl) ?_
      refine lv_iconst (v := 4) hx hb dX2_placeOf_17 (by decide) ?_
      refine lv_idiv hx hb dX2_placeOf_18 (by decide) ?_
      refine va_iald hx hb hK hP 1 0 rfl rfl (hp_div4 c_1 c_7) dX2_placeOf_19 ?_
      refine lv_iload_n hx hb dX2_placeOf_20 rfl (lv_at hl 1 rfl) ?_
      refine lv_iconst (v := 4) hx hb dX2_placeOf_21 (by decide) ?_
      refine lv_irem hx hb dX2_placeOf_22 (by decide) ?_
      refine vp_callSi (W.runS (As := [.int (sf (card / 4).toNatClampNeg), .int (card - card / 4 * 4)]) (rest := []) ⟨hx, hb, hml, hown, hts⟩ (k_X5_placeOf l (sf (card / 4).toNatClampNeg) (card - card / 4 * 4) ) (va_cwS 2 hts gX2_placeOf_X5_placeOf rfl rfl rfl (by decide +kernel) ⟨Nat.le_of_ble_eq_true rfl, Nat.le_of_ble_eq_true rfl⟩) ⟨pS_fb, pS_pre⟩ rfl rfl hl.1 rfl (lv_room (Nat.le_of_ble_eq_true rfl)) dX2_placeOf_23 ⟨Nat.le_of_ble_eq_true rfl, Nat.le_of_ble_eq_true rfl⟩) (fun x23 hx23 => ?_)
      subst hx23
      rw [← hQ]
      exact W.iret (v := j_X5_placeOf (sf (card / 4).toNatClampNeg) (card - card / 4 * 4)) hx hb hr (fun t ht hW => ⟨_, rfl, (by subst_vars; simp only [j_X2_placeOf]; rw [if_neg c_1, if_pos c_7]), ht⟩) (fun _ h => by cases h) dX2_placeOf_26
    · refine lv_iconst (v := (-1)) hx hb dX2_placeOf_10 (by decide) ?_
      rw [← hQ]
      exact W.iret (v := (-1)) hx hb hr (fun t ht hW => ⟨_, rfl, (by simp only [j_X2_placeOf]; (repeat' split) <;> first | rfl | contradiction), ht⟩) (fun _ h => by cases h) dX2_placeOf_11

set_option maxHeartbeats 4000000 in
set_option maxRecDepth 100000 in
theorem k_X2_jokerFor (l : Launch) (D : va_G) (cI cJ cZ : ClassId) (lo sa : Nat) (own : Int64) (sf : Nat → Int32) (card : Int32)  : Met l yX2_jokerFor wsX2_jokerFor ({ frames := 3, cells := 0, slots := 0, locals := 62 } : Room) (va_Pc [.ref lo, .int card] (wR D cI cJ cZ [(lo, .inr (1, [.ref sa, .long own])), (sa, .inl (cI, 13, .inl sf))])) (vp_Si (fun r => r = j_X2_jokerFor sf own card)) 0 0 (fun _ => False) := by
  refine Met.ofW (cc := cX2_jokerFor) (maxL := 2) (ret := (some .int)) (by decide) rfl ?_
  intro p e s m args below meth c s₁ B hml hv
  obtain ⟨hargs, hP, hK, hN⟩ := hv
  have hx := B.exec
  have hb := B.bytes
  have hr := B.returns
  have hlocks := B.notSynchronized
  have hts := atoms_spec (ws := wsX2_jokerFor) B.pre
  have hown : s.vm.findClass RX2 = some m.cls := findClass_of_methodNamed B.named
  have k21 := hts (.methodLink RX2 21 yX2_placeOf) (by decide +kernel)
  have k24 := hts (.fieldLink RX2 24 "RummyTable$Layout" "own" "J") (by decide +kernel)
  have iX2 : ∀ w ∈ wsX20, w ∈ wsX2_jokerFor := by decide +kernel
  rw [show entryFrame m args 2 = entryFrame m ([.ref lo, .int card] : List Value).toArray 2 from by rw [hargs]]
  have hl := lv_entry ([.ref lo, .int card]) (n := 2) (Nat.le_of_ble_eq_true rfl)
  rw [lg_entry_eq]
  generalize (lg_sl ([.ref lo, .int card]) ++ List.replicate (2 - (lg_sl ([.ref lo, .int card])).length) Slot.unset).toArray = ls at hl ⊢
  have hl : lv_has ls 2 [(0, .ref lo), (1, .int card)] := hl
  refine wQ (fun Q hQ => ?_)
  refine lv_iload_n hx hb dX2_jokerFor_0 rfl (lv_at hl 1 rfl) ?_
  refine lv_if_lt (tgt := 10) hx hb dX2_jokerFor_1 (by decide) (fun c_1 => ?_) (fun c_1 => ?_)
  · refine lv_iconst (v := (-1)) hx hb dX2_jokerFor_10 (by decide) ?_
    rw [← hQ]
    exact W.iret (v := (-1)) hx hb hr (fun t ht hW => ⟨_, rfl, (by simp only [j_X2_jokerFor]; (repeat' split) <;> first | rfl | contradiction), ht⟩) (fun _ h => by cases h) dX2_jokerFor_11
  · refine lv_iload_n hx hb dX2_jokerFor_4 rfl (lv_at hl 1 rfl) ?_
    refine lv_bipush (v := 52) hx hb dX2_jokerFor_5 (by decide) ?_
    refine lv_icmp_lt (tgt := 12) hx hb dX2_jokerFor_7 (by decide) (fun c_7 => ?_) (fun c_7 => ?_)
    · refine lv_aload_n hx hb dX2_jokerFor_12 rfl (lv_at hl 0 rfl) ?_
      refine lv_iload_n hx hb dX2_jokerFor_13 rfl (lv_at hl 1 rfl) ?_
      have hPc := hP.sub (ws' := [(lo, .inr (1, [.ref sa, .long own])), (sa, .inl (cI, 13, .inl sf))]) [0, 1] rfl
      refine vp_callSi (W.runV (As := [.int card]) (rest := []) ⟨hx, hb, hml, hown, hts⟩ (k_X2_placeOf l D cI cJ cZ lo sa own sf card ) (cwV 1 hts gX2_jokerFor_X2_placeOf rfl rfl rfl (by decide +kernel) ⟨Nat.le_of_ble_eq_true rfl, Nat.le_of_ble_eq_true rfl⟩) ⟨wR_fb, va_recv hK hPc (ci := 1) (q0 := 0) rfl rfl, wR_pre hPc ⟨hK, hN⟩⟩ rfl rfl hl.1 rfl (lv_room (Nat.le_of_ble_eq_true rfl)) dX2_jokerFor_14 ⟨Nat.le_of_ble_eq_true rfl, Nat.le_of_ble_eq_true rfl⟩) (fun x14 hx14 => ?_)
      subst hx14
      refine lv_if_eq (tgt := 37) hx hb dX2_jokerFor_17 (by decide) (fun c_17 => ?_) (fun c_17 => ?_)
      · refine lv_iconst (v := 0) hx hb dX2_jokerFor_37 (by decide) ?_
        rw [← hQ]
        exact W.iret (v := 0) hx hb hr (fun t ht hW => ⟨_, rfl, (by simp only [j_X2_jokerFor]; (repeat' split) <;> first | rfl | contradiction), ht⟩) (fun _ h => by cases h) dX2_jokerFor_38
      · refine lv_aload_n hx hb dX2_jokerFor_20 rfl (lv_at hl 0 rfl) ?_
        refine va_get (D := D) (ci := 1) (v := .long own) (C := RX2) (T := TX2) (N := 2) hx hb hts iX2 hown hK hP 0 rfl rfl 1 (by decide) k24 (fun _ h9 => h9) rfl dX2_jokerFor_21 ?_
        refine lv_iload_n hx hb dX2_jokerFor_24 rfl (lv_at hl 1 rfl) ?_
        refine lv_lushr hx hb dX2_jokerFor_25 rfl ?_
        refine lv_lconst (v := 1) hx hb dX2_jokerFor_26 (by decide) ?_
        refine lv_land hx hb dX2_jokerFor_27 ?_
        refine lv_lconst (v := 0) hx hb dX2_jokerFor_28 (by decide) ?_
        refine W.lcmp hx hb dX2_jokerFor_29 ?_
        refine lv_if_ne (tgt := 37) hx hb dX2_jokerFor_30 (by decide) (fun c_30 => ?_) (fun c_30 => ?_)
        · refine lv_iconst (v := 0) hx hb dX2_jokerFor_37 (by decide) ?_
          rw [← hQ]
          exact W.iret (v := 0) hx hb hr (fun t ht hW => ⟨_, rfl, (by simp only [j_X2_jokerFor]; (repeat' split) <;> first | rfl | contradiction), ht⟩) (fun _ h => by cases h) dX2_jokerFor_38
        · refine lv_iconst (v := 1) hx hb dX2_jokerFor_33 (by decide) ?_
          refine lv_goto (tgt := 38) hx hb dX2_jokerFor_34 (by decide) ?_
          rw [← hQ]
          exact W.iret (v := 1) hx hb hr (fun t ht hW => ⟨_, rfl, (by simp only [j_X2_jokerFor]; (repeat' split) <;> first | rfl | contradiction), ht⟩) (fun _ h => by cases h) dX2_jokerFor_38
    · refine lv_iconst (v := (-1)) hx hb dX2_jokerFor_10 (by decide) ?_
      rw [← hQ]
      exact W.iret (v := (-1)) hx hb hr (fun t ht hW => ⟨_, rfl, (by simp only [j_X2_jokerFor]; (repeat' split) <;> first | rfl | contradiction), ht⟩) (fun _ h => by cases h) dX2_jokerFor_11

set_option maxHeartbeats 4000000 in
set_option maxRecDepth 100000 in
theorem k_X2_groups (l : Launch) (D : va_G) (cI cJ cZ : ClassId) (lo sa : Nat) (own : Int64) (sf : Nat → Int32)   : Met l yX2_groups wsX2_groups ({ frames := 1, cells := 0, slots := 0, locals := 20 } : Room) (va_Pc [.ref lo] (wR D cI cJ cZ [(lo, .inr (1, [.ref sa, .long own])), (sa, .inl (cI, 13, .inl sf))])) (vp_Si (fun r => r = j_X2_groups sf)) 0 0 (fun _ => False) := by
  refine Met.ofW (cc := cX2_groups) (maxL := 6) (ret := (some .int)) (by decide) rfl ?_
  intro p e s m args below meth c s₁ B hml hv
  obtain ⟨hargs, hP, hK, hN⟩ := hv
  have hx := B.exec
  have hb := B.bytes
  have hr := B.returns
  have hlocks := B.notSynchronized
  have hts := atoms_spec (ws := wsX2_groups) B.pre
  have hown : s.vm.findClass RX2 = some m.cls := findClass_of_methodNamed B.named
  have k28 := hts (.methodLink RX2 28 yX5_grouped) (by decide +kernel)
  have k9 := hts (.fieldLink RX2 9 "RummyTable$Layout" "steps" "[I") (by decide +kernel)
  have iX2 : ∀ w ∈ wsX20, w ∈ wsX2_groups := by decide +kernel
  rw [show entryFrame m args 6 = entryFrame m ([.ref lo] : List Value).toArray 6 from by rw [hargs]]
  have hl := lv_entry ([.ref lo]) (n := 6) (Nat.le_of_ble_eq_true rfl)
  rw [lg_entry_eq]
  generalize (lg_sl ([.ref lo]) ++ List.replicate (6 - (lg_sl ([.ref lo])).length) Slot.unset).toArray = ls at hl ⊢
  have hl : lv_has ls 6 [(0, .ref lo)] := hl
  refine wQ (fun Q hQ => ?_)
  have lab13 : ∀ fuel13 : Nat, ∀ (i : Nat) (a : Int32) (x3 : Int32) (x4 : Int32), (h3 : x3 = nI 13) → (h4 : x4 = nI i) → (hi : i ≤ 13) → (hs : a = bx_sum (fun n => if j_X5_grouped (sf n) = 0 then 0 else 1) i) → (hfu13 : 13 - i < fuel13) → ∀ ls : Array Slot, lv_has ls 6 [(0, .ref lo), (1, .int a), (2, .ref sa), (3, .int x3), (4, .int x4)] → W p l e (headSpec wsX2_groups ({ frames := 1, cells := 0, slots := 0, locals := 20 } : Room)).room s m args below meth c s.heap [] 0 0 Q (F0 m 13 ls []) := by
    intro fuel13
    induction fuel13 with
    | zero =>
      intro i a x3 x4 h3 h4 hi hs hfu13
      exact absurd hfu13 (Nat.not_lt_zero _)
    | succ fuel13 ih13 =>
      intro i a x3 x4 h3 h4 hi hs hfu13 ls hl
      refine lv_iload hx hb dX2_groups_13 (lv_at hl 4 rfl) ?_
      refine lv_iload_n hx hb dX2_groups_15 rfl (lv_at hl 3 rfl) ?_
      refine lv_icmp_ge (tgt := 42) hx hb dX2_groups_16 (by decide) (fun c_16 => ?_) (fun c_16 => ?_)
      · have hi13 := hp_ge h4 h3 hi (by decide) c_16
        refine lv_iload_n hx hb dX2_groups_42 rfl (lv_at hl 1 rfl) ?_
        rw [← hQ]
        exact W.iret (v := a) hx hb hr (fun t ht hW => ⟨_, rfl, (by subst hi13; exact hs), ht⟩) (fun _ h => by cases h) dX2_groups_43
      · have hlt := hp_lt h4 h3 hi (by decide) c_16
        refine lv_aload_n hx hb dX2_groups_19 rfl (lv_at hl 2 rfl) ?_
        refine lv_iload hx hb dX2_groups_20 (lv_at hl 4 rfl) ?_
        refine va_iald hx hb hK hP 1 0 rfl rfl (by rw [h4]; exact vp_in_nI hlt (by decide)) dX2_groups_22 ?_
        refine lv_topi (fun x23 ex23 => ?_)
        refine lv_istore (lv' := [(5, .int x23), (0, .ref lo), (1, .int a), (2, .ref sa), (3, .int x3), (4, .int x4)]) hx hb dX2_groups_23 hl (by decide) rfl (fun ls hl => ?_)
        refine lv_iload hx hb dX2_groups_25 (lv_at hl 0 rfl) ?_
        refine vp_callSi (W.runS (As := [.int x23]) (rest := []) ⟨hx, hb, hml, hown, hts⟩ (k_X5_grouped l x23 ) (va_cwS 1 hts gX2_groups_X5_grouped rfl rfl rfl (by decide +kernel) ⟨Nat.le_of_ble_eq_true rfl, Nat.le_of_ble_eq_true rfl⟩) ⟨pS_fb, pS_pre⟩ rfl rfl hl.1 rfl (lv_room (Nat.le_of_ble_eq_true rfl)) dX2_groups_27 ⟨Nat.le_of_ble_eq_true rfl, Nat.le_of_ble_eq_true rfl⟩) (fun x27 hx27 => ?_)
        subst hx27
        refine lv_if_eq (tgt := 36) hx hb dX2_groups_30 (by decide) (fun c_30 => ?_) (fun c_30 => ?_)
        · obtain ⟨x36, ex36⟩ : ∃ y : Int32, y = x4 + 1 := ⟨_, rfl⟩
          refine lv_iinc (v := x36) (lv' := [(4, .int x36), (5, .int x23), (0, .ref lo), (1, .int a), (2, .ref sa), (3, .int x3)]) hx hb dX2_groups_36 hl (k := 5) rfl (by rw [ex36]; rfl) (by decide) rfl (fun ls hl => ?_)
          refine lv_goto (tgt := 13) hx hb dX2_groups_39 (by decide) ?_
          exact ih13 (i + 1) a x3 x36 (h3) (hp_s ex36 h4) (by omega) (by rw [ex23, h4, nI_clamp (show i < 2 ^ 31 by omega)] at c_30; (try subst ex33); subst hs; simp only [bx_sum]; first | (rw [if_pos c_30]; simp; done) | (rw [if_neg c_30])) (by omega) ls (lv_sub hl [2, 3, 4, 5, 0] rfl)
        · obtain ⟨x33, ex33⟩ : ∃ y : Int32, y = a + 1 := ⟨_, rfl⟩
          refine lv_iinc (v := x33) (lv' := [(1, .int x33), (5, .int x23), (0, .ref lo), (2, .ref sa), (3, .int x3), (4, .int x4)]) hx hb dX2_groups_33 hl (k := 2) rfl (by rw [ex33]; rfl) (by decide) rfl (fun ls hl => ?_)
          obtain ⟨x36, ex36⟩ : ∃ y : Int32, y = x4 + 1 := ⟨_, rfl⟩
          refine lv_iinc (v := x36) (lv' := [(4, .int x36), (1, .int x33), (5, .int x23), (0, .ref lo), (2, .ref sa), (3, .int x3)]) hx hb dX2_groups_36 hl (k := 5) rfl (by rw [ex36]; rfl) (by decide) rfl (fun ls hl => ?_)
          refine lv_goto (tgt := 13) hx hb dX2_groups_39 (by decide) ?_
          exact ih13 (i + 1) x33 x3 x36 (h3) (hp_s ex36 h4) (by omega) (by rw [ex23, h4, nI_clamp (show i < 2 ^ 31 by omega)] at c_30; (try subst ex33); subst hs; simp only [bx_sum]; first | (rw [if_pos c_30]; simp; done) | (rw [if_neg c_30])) (by omega) ls (lv_sub hl [3, 1, 4, 5, 0] rfl)
  refine lv_iconst (v := 0) hx hb dX2_groups_0 (by decide) ?_
  refine lv_istore_n (lv' := [(1, .int 0), (0, .ref lo)]) hx hb dX2_groups_1 rfl hl (by decide) rfl (fun ls hl => ?_)
  refine lv_aload_n hx hb dX2_groups_2 rfl (lv_at hl 1 rfl) ?_
  refine va_get (D := D) (ci := 1) (v := .ref sa) (C := RX2) (T := TX2) (N := 2) hx hb hts iX2 hown hK hP 0 rfl rfl 0 (by decide) k9 (fun _ h9 => h9) rfl dX2_groups_3 ?_
  refine lv_astore_n (lv' := [(2, .ref sa), (1, .int 0), (0, .ref lo)]) hx hb dX2_groups_6 rfl hl (by decide) rfl (fun ls hl => ?_)
  refine lv_aload_n hx hb dX2_groups_7 rfl (lv_at hl 0 rfl) ?_
  refine va_alen hx hb hK hP 1 0 rfl (ty := .int) rfl (v := nI 13) rfl dX2_groups_8 ?_
  refine lv_topi (fun x9 ex9 => ?_)
  refine lv_istore_n (lv' := [(3, .int x9), (2, .ref sa), (1, .int 0), (0, .ref lo)]) hx hb dX2_groups_9 rfl hl (by decide) rfl (fun ls hl => ?_)
  refine lv_iconst (v := 0) hx hb dX2_groups_10 (by decide) ?_
  refine lv_istore (lv' := [(4, .int 0), (3, .int x9), (2, .ref sa), (1, .int 0), (0, .ref lo)]) hx hb dX2_groups_11 hl (by decide) rfl (fun ls hl => ?_)
  exact lab13 _ 0 0 x9 0 (ex9) (nI_0.symm) (by omega) (rfl) (Nat.lt_succ_self _) ls (lv_sub hl [4, 3, 2, 1, 0] rfl)

set_option maxHeartbeats 4000000 in
set_option maxRecDepth 100000 in
theorem k_X2_runs (l : Launch) (D : va_G) (cI cJ cZ : ClassId) (lo sa : Nat) (own : Int64) (sf : Nat → Int32)   : Met l yX2_runs wsX2_runs ({ frames := 1, cells := 0, slots := 0, locals := 20 } : Room) (va_Pc [.ref lo] (wR D cI cJ cZ [(lo, .inr (1, [.ref sa, .long own])), (sa, .inl (cI, 13, .inl sf))])) (vp_Si (fun r => r = j_X2_runs sf)) 0 0 (fun _ => False) := by
  refine Met.ofW (cc := cX2_runs) (maxL := 6) (ret := (some .int)) (by decide) rfl ?_
  intro p e s m args below meth c s₁ B hml hv
  obtain ⟨hargs, hP, hK, hN⟩ := hv
  have hx := B.exec
  have hb := B.bytes
  have hr := B.returns
  have hlocks := B.notSynchronized
  have hts := atoms_spec (ws := wsX2_runs) B.pre
  have hown : s.vm.findClass RX2 = some m.cls := findClass_of_methodNamed B.named
  have k31 := hts (.methodLink RX2 31 yX5_begun) (by decide +kernel)
  have k34 := hts (.methodLink RX2 34 yJ6_bitCount_0f7a4) (by decide +kernel)
  have k9 := hts (.fieldLink RX2 9 "RummyTable$Layout" "steps" "[I") (by decide +kernel)
  have iX2 : ∀ w ∈ wsX20, w ∈ wsX2_runs := by decide +kernel
  rw [show entryFrame m args 6 = entryFrame m ([.ref lo] : List Value).toArray 6 from by rw [hargs]]
  have hl := lv_entry ([.ref lo]) (n := 6) (Nat.le_of_ble_eq_true rfl)
  rw [lg_entry_eq]
  generalize (lg_sl ([.ref lo]) ++ List.replicate (6 - (lg_sl ([.ref lo])).length) Slot.unset).toArray = ls at hl ⊢
  have hl : lv_has ls 6 [(0, .ref lo)] := hl
  refine wQ (fun Q hQ => ?_)
  have lab13 : ∀ fuel13 : Nat, ∀ (i : Nat) (a : Int32) (x3 : Int32) (x4 : Int32), (h3 : x3 = nI 13) → (h4 : x4 = nI i) → (hi : i ≤ 13) → (hs : a = bx_sum (fun n => j_bcI (j_X5_begun (sf n))) i) → (hfu13 : 13 - i < fuel13) → ∀ ls : Array Slot, lv_has ls 6 [(0, .ref lo), (1, .int a), (2, .ref sa), (3, .int x3), (4, .int x4)] → W p l e (headSpec wsX2_runs ({ frames := 1, cells := 0, slots := 0, locals := 20 } : Room)).room s m args below meth c s.heap [] 0 0 Q (F0 m 13 ls []) := by
    intro fuel13
    induction fuel13 with
    | zero =>
      intro i a x3 x4 h3 h4 hi hs hfu13
      exact absurd hfu13 (Nat.not_lt_zero _)
    | succ fuel13 ih13 =>
      intro i a x3 x4 h3 h4 hi hs hfu13 ls hl
      refine lv_iload hx hb dX2_runs_13 (lv_at hl 4 rfl) ?_
      refine lv_iload_n hx hb dX2_runs_15 rfl (lv_at hl 3 rfl) ?_
      refine lv_icmp_ge (tgt := 42) hx hb dX2_runs_16 (by decide) (fun c_16 => ?_) (fun c_16 => ?_)
      · have hi13 := hp_ge h4 h3 hi (by decide) c_16
        refine lv_iload_n hx hb dX2_runs_42 rfl (lv_at hl 1 rfl) ?_
        rw [← hQ]
        exact W.iret (v := a) hx hb hr (fun t ht hW => ⟨_, rfl, (by subst hi13; exact hs), ht⟩) (fun _ h => by cases h) dX2_runs_43
      · have hlt := hp_lt h4 h3 hi (by decide) c_16
        refine lv_aload_n hx hb dX2_runs_19 rfl (lv_at hl 2 rfl) ?_
        refine lv_iload hx hb dX2_runs_20 (lv_at hl 4 rfl) ?_
        refine va_iald hx hb hK hP 1 0 rfl rfl (by rw [h4]; exact vp_in_nI hlt (by decide)) dX2_runs_22 ?_
        refine lv_topi (fun x23 ex23 => ?_)
        refine lv_istore (lv' := [(5, .int x23), (0, .ref lo), (1, .int a), (2, .ref sa), (3, .int x3), (4, .int x4)]) hx hb dX2_runs_23 hl (by decide) rfl (fun ls hl => ?_)
        refine lv_iload_n hx hb dX2_runs_25 rfl (lv_at hl 2 rfl) ?_
        refine lv_iload hx hb dX2_runs_26 (lv_at hl 0 rfl) ?_
        refine vp_callSi (W.runS (As := [.int x23]) (rest := [.int a]) ⟨hx, hb, hml, hown, hts⟩ (k_X5_begun l x23 ) (va_cwS 1 hts gX2_runs_X5_begun rfl rfl rfl (by decide +kernel) ⟨Nat.le_of_ble_eq_true rfl, Nat.le_of_ble_eq_true rfl⟩) ⟨pS_fb, pS_pre⟩ rfl rfl hl.1 rfl (lv_room (Nat.le_of_ble_eq_true rfl)) dX2_runs_28 ⟨Nat.le_of_ble_eq_true rfl, Nat.le_of_ble_eq_true rfl⟩) (fun x28 hx28 => ?_)
        subst hx28
        refine vp_callSi (W.runS (As := [.int (j_X5_begun x23)]) (rest := [.int a]) ⟨hx, hb, hml, hown, hts⟩ (k_J6_bitCount_0f7a4 l (j_X5_begun x23) ) (va_cwS 1 hts gX2_runs_J6_bitCount_0f7a4 rfl rfl rfl (by decide +kernel) ⟨Nat.le_of_ble_eq_true rfl, Nat.le_of_ble_eq_true rfl⟩) ⟨pS_fb, pS_pre⟩ rfl rfl hl.1 rfl (lv_room (Nat.le_of_ble_eq_true rfl)) dX2_runs_31 ⟨Nat.le_of_ble_eq_true rfl, Nat.le_of_ble_eq_true rfl⟩) (fun x31 hx31 => ?_)
        subst hx31
        refine lv_iadd hx hb dX2_runs_34 ?_
        refine lv_topi (fun x35 ex35 => ?_)
        refine lv_istore_n (lv' := [(1, .int x35), (5, .int x23), (0, .ref lo), (2, .ref sa), (3, .int x3), (4, .int x4)]) hx hb dX2_runs_35 rfl hl (by decide) rfl (fun ls hl => ?_)
        obtain ⟨x36, ex36⟩ : ∃ y : Int32, y = x4 + 1 := ⟨_, rfl⟩
        refine lv_iinc (v := x36) (lv' := [(4, .int x36), (1, .int x35), (5, .int x23), (0, .ref lo), (2, .ref sa), (3, .int x3)]) hx hb dX2_runs_36 hl (k := 5) rfl (by rw [ex36]; rfl) (by decide) rfl (fun ls hl => ?_)
        refine lv_goto (tgt := 13) hx hb dX2_runs_39 (by decide) ?_
        exact ih13 (i + 1) x35 x3 x36 (h3) (hp_s ex36 h4) (by omega) (by subst_vars; simp only [bx_sum, nI_clamp (show i < 2 ^ 31 by omega)]) (by omega) ls (lv_sub hl [3, 1, 4, 5, 0] rfl)
  refine lv_iconst (v := 0) hx hb dX2_runs_0 (by decide) ?_
  refine lv_istore_n (lv' := [(1, .int 0), (0, .ref lo)]) hx hb dX2_runs_1 rfl hl (by decide) rfl (fun ls hl => ?_)
  refine lv_aload_n hx hb dX2_runs_2 rfl (lv_at hl 1 rfl) ?_
  refine va_get (D := D) (ci := 1) (v := .ref sa) (C := RX2) (T := TX2) (N := 2) hx hb hts iX2 hown hK hP 0 rfl rfl 0 (by decide) k9 (fun _ h9 => h9) rfl dX2_runs_3 ?_
  refine lv_astore_n (lv' := [(2, .ref sa), (1, .int 0), (0, .ref lo)]) hx hb dX2_runs_6 rfl hl (by decide) rfl (fun ls hl => ?_)
  refine lv_aload_n hx hb dX2_runs_7 rfl (lv_at hl 0 rfl) ?_
  refine va_alen hx hb hK hP 1 0 rfl (ty := .int) rfl (v := nI 13) rfl dX2_runs_8 ?_
  refine lv_topi (fun x9 ex9 => ?_)
  refine lv_istore_n (lv' := [(3, .int x9), (2, .ref sa), (1, .int 0), (0, .ref lo)]) hx hb dX2_runs_9 rfl hl (by decide) rfl (fun ls hl => ?_)
  refine lv_iconst (v := 0) hx hb dX2_runs_10 (by decide) ?_
  refine lv_istore (lv' := [(4, .int 0), (3, .int x9), (2, .ref sa), (1, .int 0), (0, .ref lo)]) hx hb dX2_runs_11 hl (by decide) rfl (fun ls hl => ?_)
  exact lab13 _ 0 0 x9 0 (ex9) (nI_0.symm) (by omega) (rfl) (Nat.lt_succ_self _) ls (lv_sub hl [4, 3, 2, 1, 0] rfl)

set_option maxHeartbeats 4000000 in
set_option maxRecDepth 100000 in
theorem k_X2_shownCards (l : Launch) (D : va_G) (cI cJ cZ : ClassId) (lo sa : Nat) (own : Int64) (sf : Nat → Int32)   : Met l yX2_shownCards wsX2_shownCards ({ frames := 1, cells := 0, slots := 0, locals := 20 } : Room) (va_Pc [.ref lo] (wR D cI cJ cZ [(lo, .inr (1, [.ref sa, .long own])), (sa, .inl (cI, 13, .inl sf))])) (vp_Si (fun r => r = j_X2_shownCards sf)) 0 0 (fun _ => False) := by
  refine Met.ofW (cc := cX2_shownCards) (maxL := 6) (ret := (some .int)) (by decide) rfl ?_
  intro p e s m args below meth c s₁ B hml hv
  obtain ⟨hargs, hP, hK, hN⟩ := hv
  have hx := B.exec
  have hb := B.bytes
  have hr := B.returns
  have hlocks := B.notSynchronized
  have hts := atoms_spec (ws := wsX2_shownCards) B.pre
  have hown : s.vm.findClass RX2 = some m.cls := findClass_of_methodNamed B.named
  have k39 := hts (.methodLink RX2 39 yX5_shown) (by decide +kernel)
  have k34 := hts (.methodLink RX2 34 yJ6_bitCount_0f7a4) (by decide +kernel)
  have k9 := hts (.fieldLink RX2 9 "RummyTable$Layout" "steps" "[I") (by decide +kernel)
  have iX2 : ∀ w ∈ wsX20, w ∈ wsX2_shownCards := by decide +kernel
  rw [show entryFrame m args 6 = entryFrame m ([.ref lo] : List Value).toArray 6 from by rw [hargs]]
  have hl := lv_entry ([.ref lo]) (n := 6) (Nat.le_of_ble_eq_true rfl)
  rw [lg_entry_eq]
  generalize (lg_sl ([.ref lo]) ++ List.replicate (6 - (lg_sl ([.ref lo])).length) Slot.unset).toArray = ls at hl ⊢
  have hl : lv_has ls 6 [(0, .ref lo)] := hl
  refine wQ (fun Q hQ => ?_)
  have lab13 : ∀ fuel13 : Nat, ∀ (i : Nat) (a : Int32) (x3 : Int32) (x4 : Int32), (h3 : x3 = nI 13) → (h4 : x4 = nI i) → (hi : i ≤ 13) → (hs : a = bx_sum (fun n => j_bcI (j_X5_shown (sf n))) i) → (hfu13 : 13 - i < fuel13) → ∀ ls : Array Slot, lv_has ls 6 [(0, .ref lo), (1, .int a), (2, .ref sa), (3, .int x3), (4, .int x4)] → W p l e (headSpec wsX2_shownCards ({ frames := 1, cells := 0, slots := 0, locals := 20 } : Room)).room s m args below meth c s.heap [] 0 0 Q (F0 m 13 ls []) := by
    intro fuel13
    induction fuel13 with
    | zero =>
      intro i a x3 x4 h3 h4 hi hs hfu13
      exact absurd hfu13 (Nat.not_lt_zero _)
    | succ fuel13 ih13 =>
      intro i a x3 x4 h3 h4 hi hs hfu13 ls hl
      refine lv_iload hx hb dX2_shownCards_13 (lv_at hl 4 rfl) ?_
      refine lv_iload_n hx hb dX2_shownCards_15 rfl (lv_at hl 3 rfl) ?_
      refine lv_icmp_ge (tgt := 42) hx hb dX2_shownCards_16 (by decide) (fun c_16 => ?_) (fun c_16 => ?_)
      · have hi13 := hp_ge h4 h3 hi (by decide) c_16
        refine lv_iload_n hx hb dX2_shownCards_42 rfl (lv_at hl 1 rfl) ?_
        rw [← hQ]
        exact W.iret (v := a) hx hb hr (fun t ht hW => ⟨_, rfl, (by subst hi13; exact hs), ht⟩) (fun _ h => by cases h) dX2_shownCards_43
      · have hlt := hp_lt h4 h3 hi (by decide) c_16
        refine lv_aload_n hx hb dX2_shownCards_19 rfl (lv_at hl 2 rfl) ?_
        refine lv_iload hx hb dX2_shownCards_20 (lv_at hl 4 rfl) ?_
        refine va_iald hx hb hK hP 1 0 rfl rfl (by rw [h4]; exact vp_in_nI hlt (by decide)) dX2_shownCards_22 ?_
        refine lv_topi (fun x23 ex23 => ?_)
        refine lv_istore (lv' := [(5, .int x23), (0, .ref lo), (1, .int a), (2, .ref sa), (3, .int x3), (4, .int x4)]) hx hb dX2_shownCards_23 hl (by decide) rfl (fun ls hl => ?_)
        refine lv_iload_n hx hb dX2_shownCards_25 rfl (lv_at hl 2 rfl) ?_
        refine lv_iload hx hb dX2_shownCards_26 (lv_at hl 0 rfl) ?_
        refine vp_callSi (W.runS (As := [.int x23]) (rest := [.int a]) ⟨hx, hb, hml, hown, hts⟩ (k_X5_shown l x23 ) (va_cwS 1 hts gX2_shownCards_X5_shown rfl rfl rfl (by decide +kernel) ⟨Nat.le_of_ble_eq_true rfl, Nat.le_of_ble_eq_true rfl⟩) ⟨pS_fb, pS_pre⟩ rfl rfl hl.1 rfl (lv_room (Nat.le_of_ble_eq_true rfl)) dX2_shownCards_28 ⟨Nat.le_of_ble_eq_true rfl, Nat.le_of_ble_eq_true rfl⟩) (fun x28 hx28 => ?_)
        subst hx28
        refine vp_callSi (W.runS (As := [.int (j_X5_shown x23)]) (rest := [.int a]) ⟨hx, hb, hml, hown, hts⟩ (k_J6_bitCount_0f7a4 l (j_X5_shown x23) ) (va_cwS 1 hts gX2_shownCards_J6_bitCount_0f7a4 rfl rfl rfl (by decide +kernel) ⟨Nat.le_of_ble_eq_true rfl, Nat.le_of_ble_eq_true rfl⟩) ⟨pS_fb, pS_pre⟩ rfl rfl hl.1 rfl (lv_room (Nat.le_of_ble_eq_true rfl)) dX2_shownCards_31 ⟨Nat.le_of_ble_eq_true rfl, Nat.le_of_ble_eq_true rfl⟩) (fun x31 hx31 => ?_)
        subst hx31
        refine lv_iadd hx hb dX2_shownCards_34 ?_
        refine lv_topi (fun x35 ex35 => ?_)
        refine lv_istore_n (lv' := [(1, .int x35), (5, .int x23), (0, .ref lo), (2, .ref sa), (3, .int x3), (4, .int x4)]) hx hb dX2_shownCards_35 rfl hl (by decide) rfl (fun ls hl => ?_)
        obtain ⟨x36, ex36⟩ : ∃ y : Int32, y = x4 + 1 := ⟨_, rfl⟩
        refine lv_iinc (v := x36) (lv' := [(4, .int x36), (1, .int x35), (5, .int x23), (0, .ref lo), (2, .ref sa), (3, .int x3)]) hx hb dX2_shownCards_36 hl (k := 5) rfl (by rw [ex36]; rfl) (by decide) rfl (fun ls hl => ?_)
        refine lv_goto (tgt := 13) hx hb dX2_shownCards_39 (by decide) ?_
        exact ih13 (i + 1) x35 x3 x36 (h3) (hp_s ex36 h4) (by omega) (by subst_vars; simp only [bx_sum, nI_clamp (show i < 2 ^ 31 by omega)]) (by omega) ls (lv_sub hl [3, 1, 4, 5, 0] rfl)
  refine lv_iconst (v := 0) hx hb dX2_shownCards_0 (by decide) ?_
  refine lv_istore_n (lv' := [(1, .int 0), (0, .ref lo)]) hx hb dX2_shownCards_1 rfl hl (by decide) rfl (fun ls hl => ?_)
  refine lv_aload_n hx hb dX2_shownCards_2 rfl (lv_at hl 1 rfl) ?_
  refine va_get (D := D) (ci := 1) (v := .ref sa) (C := RX2) (T := TX2) (N := 2) hx hb hts iX2 hown hK hP 0 rfl rfl 0 (by decide) k9 (fun _ h9 => h9) rfl dX2_shownCards_3 ?_
  refine lv_astore_n (lv' := [(2, .ref sa), (1, .int 0), (0, .ref lo)]) hx hb dX2_shownCards_6 rfl hl (by decide) rfl (fun ls hl => ?_)
  refine lv_aload_n hx hb dX2_shownCards_7 rfl (lv_at hl 0 rfl) ?_
  refine va_alen hx hb hK hP 1 0 rfl (ty := .int) rfl (v := nI 13) rfl dX2_shownCards_8 ?_
  refine lv_topi (fun x9 ex9 => ?_)
  refine lv_istore_n (lv' := [(3, .int x9), (2, .ref sa), (1, .int 0), (0, .ref lo)]) hx hb dX2_shownCards_9 rfl hl (by decide) rfl (fun ls hl => ?_)
  refine lv_iconst (v := 0) hx hb dX2_shownCards_10 (by decide) ?_
  refine lv_istore (lv' := [(4, .int 0), (3, .int x9), (2, .ref sa), (1, .int 0), (0, .ref lo)]) hx hb dX2_shownCards_11 hl (by decide) rfl (fun ls hl => ?_)
  exact lab13 _ 0 0 x9 0 (ex9) (nI_0.symm) (by omega) (rfl) (Nat.lt_succ_self _) ls (lv_sub hl [4, 3, 2, 1, 0] rfl)

set_option maxHeartbeats 4000000 in
set_option maxRecDepth 100000 in
theorem k_X2_shownWorth (l : Launch) (D : va_G) (cI cJ cZ : ClassId) (lo sa : Nat) (own : Int64) (sf : Nat → Int32)   : Met l yX2_shownWorth wsX2_shownWorth ({ frames := 2, cells := 0, slots := 0, locals := 60 } : Room) (va_Pc [.ref lo] (wR D cI cJ cZ [(lo, .inr (1, [.ref sa, .long own])), (sa, .inl (cI, 13, .inl sf))])) (vp_Si (fun r => r = j_X2_shownWorth sf)) 0 0 (fun _ => False) := by
  refine Met.ofW (cc := cX2_shownWorth) (maxL := 3) (ret := (some .int)) (by decide) rfl ?_
  intro p e s m args below meth c s₁ B hml hv
  obtain ⟨hargs, hP, hK, hN⟩ := hv
  have hx := B.exec
  have hb := B.bytes
  have hr := B.returns
  have hlocks := B.notSynchronized
  have hts := atoms_spec (ws := wsX2_shownWorth) B.pre
  have hown : s.vm.findClass RX2 = some m.cls := findClass_of_methodNamed B.named
  have k42 := hts (.methodLink RX2 42 yX0_worthOfNumber) (by decide +kernel)
  have k9 := hts (.fieldLink RX2 9 "RummyTable$Layout" "steps" "[I") (by decide +kernel)
  have iX2 : ∀ w ∈ wsX20, w ∈ wsX2_shownWorth := by decide +kernel
  have k39 := hts (.methodLink RX2 39 yX5_shown) (by decide +kernel)
  have k34 := hts (.methodLink RX2 34 yJ6_bitCount_0f7a4) (by decide +kernel)
  rw [show entryFrame m args 3 = entryFrame m ([.ref lo] : List Value).toArray 3 from by rw [hargs]]
  have hl := lv_entry ([.ref lo]) (n := 3) (Nat.le_of_ble_eq_true rfl)
  rw [lg_entry_eq]
  generalize (lg_sl ([.ref lo]) ++ List.replicate (3 - (lg_sl ([.ref lo])).length) Slot.unset).toArray = ls at hl ⊢
  have hl : lv_has ls 3 [(0, .ref lo)] := hl
  refine wQ (fun Q hQ => ?_)
  have lab4 : ∀ fuel4 : Nat, ∀ (i : Nat) (a : Int32) (x2 : Int32), (h2 : x2 = nI i) → (hi : i ≤ 13) → (hs : a = bx_sum (fun n => j_X0_worthOfNumber (nI n) * j_bcI (j_X5_shown (sf n))) i) → (hfu4 : 13 - i < fuel4) → ∀ ls : Array Slot, lv_has ls 3 [(0, .ref lo), (1, .int a), (2, .int x2)] → W p l e (headSpec wsX2_shownWorth ({ frames := 2, cells := 0, slots := 0, locals := 60 } : Room)).room s m args below meth c s.heap [] 0 0 Q (F0 m 4 ls []) := by
    intro fuel4
    induction fuel4 with
    | zero =>
      intro i a x2 h2 hi hs hfu4
      exact absurd hfu4 (Nat.not_lt_zero _)
    | succ fuel4 ih4 =>
      intro i a x2 h2 hi hs hfu4 ls hl
      refine lv_iload_n hx hb dX2_shownWorth_4 rfl (lv_at hl 2 rfl) ?_
      refine lv_bipush (v := 13) hx hb dX2_shownWorth_5 (by decide) ?_
      refine lv_icmp_ge (tgt := 36) hx hb dX2_shownWorth_7 (by decide) (fun c_7 => ?_) (fun c_7 => ?_)
      · have hi13 := hp_ge h2 (by decide : (13 : Int32) = nI 13) hi (by decide) c_7
        refine lv_iload_n hx hb dX2_shownWorth_36 rfl (lv_at hl 1 rfl) ?_
        rw [← hQ]
        exact W.iret (v := a) hx hb hr (fun t ht hW => ⟨_, rfl, (by subst hi13; exact hs), ht⟩) (fun _ h => by cases h) dX2_shownWorth_37
      · have hlt := hp_lt h2 (by decide : (13 : Int32) = nI 13) hi (by decide) c_7
        refine lv_iload_n hx hb dX2_shownWorth_10 rfl (lv_at hl 1 rfl) ?_
        refine lv_iload_n hx hb dX2_shownWorth_11 rfl (lv_at hl 2 rfl) ?_
        refine vp_callSi (W.runS (As := [.int x2]) (rest := [.int a]) ⟨hx, hb, hml, hown, hts⟩ (k_X0_worthOfNumber l x2 ) (va_cwS 1 hts gX2_shownWorth_X0_worthOfNumber rfl rfl rfl (by decide +kernel) ⟨Nat.le_of_ble_eq_true rfl, Nat.le_of_ble_eq_true rfl⟩) ⟨pS_fb, pS_pre⟩ rfl rfl hl.1 rfl (lv_room (Nat.le_of_ble_eq_true rfl)) dX2_shownWorth_12 ⟨Nat.le_of_ble_eq_true rfl, Nat.le_of_ble_eq_true rfl⟩) (fun x12 hx12 => ?_)
        subst hx12
        refine lv_aload_n hx hb dX2_shownWorth_15 rfl (lv_at hl 0 rfl) ?_
        refine va_get (D := D) (ci := 1) (v := .ref sa) (C := RX2) (T := TX2) (N := 2) hx hb hts iX2 hown hK hP 0 rfl rfl 0 (by decide) k9 (fun _ h9 => h9) rfl dX2_shownWorth_16 ?_
        refine lv_iload_n hx hb dX2_shownWorth_19 rfl (lv_at hl 2 rfl) ?_
        refine va_iald hx hb hK hP 1 0 rfl rfl (by rw [h2]; exact vp_in_nI hlt (by decide)) dX2_shownWorth_20 ?_
        refine vp_callSi (W.runS (As := [.int (sf x2.toNatClampNeg)]) (rest := [.int (j_X0_worthOfNumber x2), .int a]) ⟨hx, hb, hml, hown, hts⟩ (k_X5_shown l (sf x2.toNatClampNeg) ) (va_cwS 1 hts gX2_shownWorth_X5_shown rfl rfl rfl (by decide +kernel) ⟨Nat.le_of_ble_eq_true rfl, Nat.le_of_ble_eq_true rfl⟩) ⟨pS_fb, pS_pre⟩ rfl rfl hl.1 rfl (lv_room (Nat.le_of_ble_eq_true rfl)) dX2_shownWorth_21 ⟨Nat.le_of_ble_eq_true rfl, Nat.le_of_ble_eq_true rfl⟩) (fun x21 hx21 => ?_)
        subst hx21
        refine vp_callSi (W.runS (As := [.int (j_X5_shown (sf x2.toNatClampNeg))]) (rest := [.int (j_X0_worthOfNumber x2), .int a]) ⟨hx, hb, hml, hown, hts⟩ (k_J6_bitCount_0f7a4 l (j_X5_shown (sf x2.toNatClampNeg)) ) (va_cwS 1 hts gX2_shownWorth_J6_bitCount_0f7a4 rfl rfl rfl (by decide +kernel) ⟨Nat.le_of_ble_eq_true rfl, Nat.le_of_ble_eq_true rfl⟩) ⟨pS_fb, pS_pre⟩ rfl rfl hl.1 rfl (lv_room (Nat.le_of_ble_eq_true rfl)) dX2_shownWorth_24 ⟨Nat.le_of_ble_eq_true rfl, Nat.le_of_ble_eq_true rfl⟩) (fun x24 hx24 => ?_)
        subst hx24
        refine lv_imul hx hb dX2_shownWorth_27 ?_
        refine lv_iadd hx hb dX2_shownWorth_28 ?_
        refine lv_topi (fun x29 ex29 => ?_)
        refine lv_istore_n (lv' := [(1, .int x29), (0, .ref lo), (2, .int x2)]) hx hb dX2_shownWorth_29 rfl hl (by decide) rfl (fun ls hl => ?_)
        obtain ⟨x30, ex30⟩ : ∃ y : Int32, y = x2 + 1 := ⟨_, rfl⟩
        refine lv_iinc (v := x30) (lv' := [(2, .int x30), (1, .int x29), (0, .ref lo)]) hx hb dX2_shownWorth_30 hl (k := 2) rfl (by rw [ex30]; rfl) (by decide) rfl (fun ls hl => ?_)
        refine lv_goto (tgt := 4) hx hb dX2_shownWorth_33 (by decide) ?_
        exact ih4 (i + 1) x29 x30 (hp_s ex30 h2) (by omega) (by subst_vars; simp only [bx_sum, nI_clamp (show i < 2 ^ 31 by omega)]) (by omega) ls (lv_sub hl [2, 1, 0] rfl)
  refine lv_iconst (v := 0) hx hb dX2_shownWorth_0 (by decide) ?_
  refine lv_istore_n (lv' := [(1, .int 0), (0, .ref lo)]) hx hb dX2_shownWorth_1 rfl hl (by decide) rfl (fun ls hl => ?_)
  refine lv_iconst (v := 0) hx hb dX2_shownWorth_2 (by decide) ?_
  refine lv_istore_n (lv' := [(2, .int 0), (1, .int 0), (0, .ref lo)]) hx hb dX2_shownWorth_3 rfl hl (by decide) rfl (fun ls hl => ?_)
  exact lab4 _ 0 0 0 (nI_0.symm) (by omega) (rfl) (Nat.lt_succ_self _) ls (lv_sub hl [2, 1, 0] rfl)

set_option maxHeartbeats 4000000 in
set_option maxRecDepth 100000 in
theorem k_X2_longestRun (l : Launch) (D : va_G) (cI cJ cZ : ClassId) (lo sa : Nat) (own : Int64) (sf : Nat → Int32)   : Met l yX2_longestRun wsX2_longestRun ({ frames := 2, cells := 0, slots := 0, locals := 41 } : Room) (va_Pc [.ref lo] (wR D cI cJ cZ [(lo, .inr (1, [.ref sa, .long own])), (sa, .inl (cI, 13, .inl sf))])) (vp_Si (fun r => r = j_X2_longestRun sf)) 0 0 (fun _ => False) := by
  refine Met.ofW (cc := cX2_longestRun) (maxL := 6) (ret := (some .int)) (by decide) rfl ?_
  intro p e s m args below meth c s₁ B hml hv
  obtain ⟨hargs, hP, hK, hN⟩ := hv
  have hx := B.exec
  have hb := B.bytes
  have hr := B.returns
  have hlocks := B.notSynchronized
  have hts := atoms_spec (ws := wsX2_longestRun) B.pre
  have hown : s.vm.findClass RX2 = some m.cls := findClass_of_methodNamed B.named
  have k9 := hts (.fieldLink RX2 9 "RummyTable$Layout" "steps" "[I") (by decide +kernel)
  have iX2 : ∀ w ∈ wsX20, w ∈ wsX2_longestRun := by decide +kernel
  have k15 := hts (.methodLink RX2 15 yX5_placeOf) (by decide +kernel)
  have k47 := hts (.methodLink RX2 47 Lib.Math.max.name) (by decide +kernel)
  have s_va_mmax := hts (.static Lib.Math.max.name) (by decide +kernel)
  have i_math := hts (.initialized "java/lang/Math") (by decide +kernel)
  have c_va_mmax := hts (.code Lib.Math.max.name Lib.Math.max.code 2 (some .int)) (by decide +kernel)
  rw [show entryFrame m args 6 = entryFrame m ([.ref lo] : List Value).toArray 6 from by rw [hargs]]
  have hl := lv_entry ([.ref lo]) (n := 6) (Nat.le_of_ble_eq_true rfl)
  rw [lg_entry_eq]
  generalize (lg_sl ([.ref lo]) ++ List.replicate (6 - (lg_sl ([.ref lo])).length) Slot.unset).toArray = ls at hl ⊢
  have hl : lv_has ls 6 [(0, .ref lo)] := hl
  refine wQ (fun Q hQ => ?_)
  have lab4 : ∀ fuel4 : Nat, ∀ (j : Nat) (mo : Int32) (x2 : Int32), (h2 : x2 = nI j) → (hj : j ≤ 4) → (h9 : mo = lrOut (fun c n => j_X5_placeOf (sf n) (nI c)) j) → (hfu4 : 4 - j < fuel4) → ∀ ls : Array Slot, lv_has ls 6 [(0, .ref lo), (1, .int mo), (2, .int x2)] → W p l e (headSpec wsX2_longestRun ({ frames := 2, cells := 0, slots := 0, locals := 41 } : Room)).room s m args below meth c s.heap [] 0 0 Q (F0 m 4 ls []) := by
    intro fuel4
    induction fuel4 with
    | zero =>
      intro j mo x2 h2 hj h9 hfu4
      exact absurd hfu4 (Nat.not_lt_zero _)
    | succ fuel4 ih4 =>
      intro j mo x2 h2 hj h9 hfu4 ls hl
      have lab14 : ∀ fuel14 : Nat, ∀ (i : Nat) (mu : Int32) (le : Int32) (x4 : Int32), (hjlt : j < 4) → (h4 : x4 = nI i) → (hi : i ≤ 13) → (h5 : (le, mu) = lrIn (fun n => j_X5_placeOf (sf n) (nI j)) (lrOut (fun c n => j_X5_placeOf (sf n) (nI c)) j) i) → (hfu14 : 13 - i < fuel14) → ∀ ls : Array Slot, lv_has ls 6 [(0, .ref lo), (1, .int mu), (2, .int x2), (3, .int le), (4, .int x4)] → W p l e (headSpec wsX2_longestRun ({ frames := 2, cells := 0, slots := 0, locals := 41 } : Room)).room s m args below meth c s.heap [] 0 0 Q (F0 m 14 ls []) := by
        intro fuel14
        induction fuel14 with
        | zero =>
          intro i mu le x4 hjlt h4 hi h5 hfu14
          exact absurd hfu14 (Nat.not_lt_zero _)
        | succ fuel14 ih14 =>
          intro i mu le x4 hjlt h4 hi h5 hfu14 ls hl
          refine lv_iload hx hb dX2_longestRun_14 (lv_at hl 4 rfl) ?_
          refine lv_bipush (v := 13) hx hb dX2_longestRun_16 (by decide) ?_
          refine lv_icmp_ge (tgt := 70) hx hb dX2_longestRun_18 (by decide) (fun c_18 => ?_) (fun c_18 => ?_)
          · have hi13 := hp_ge h4 (by decide : (13 : Int32) = nI 13) hi (by decide) c_18
            subst hi13
            have h70 : mu = lrOut (fun c n => j_X5_placeOf (sf n) (nI c)) (j + 1) := congrArg Prod.snd h5
            obtain ⟨x70, ex70⟩ : ∃ y : Int32, y = x2 + 1 := ⟨_, rfl⟩
            refine lv_iinc (v := x70) (lv' := [(2, .int x70), (0, .ref lo), (1, .int mu), (3, .int le), (4, .int x4)]) hx hb dX2_longestRun_70 hl (k := 2) rfl (by rw [ex70]; rfl) (by decide) rfl (fun ls hl => ?_)
            refine lv_goto (tgt := 4) hx hb dX2_longestRun_73 (by decide) ?_
            exact ih4 (j + 1) mu x70 (hp_s ex70 h2) (by omega) (h70) (by omega) ls (lv_sub hl [1, 2, 0] rfl)
          · have hlt := hp_lt h4 (by decide : (13 : Int32) = nI 13) hi (by decide) c_18
            refine lv_aload_n hx hb dX2_longestRun_21 rfl (lv_at hl 0 rfl) ?_
            refine va_get (D := D) (ci := 1) (v := .ref sa) (C := RX2) (T := TX2) (N := 2) hx hb hts iX2 hown hK hP 0 rfl rfl 0 (by decide) k9 (fun _ h9 => h9) rfl dX2_longestRun_22 ?_
            refine lv_iload hx hb dX2_longestRun_25 (lv_at hl 4 rfl) ?_
            refine va_iald hx hb hK hP 1 0 rfl rfl (by rw [h4]; exact vp_in_nI hlt (by decide)) dX2_longestRun_27 ?_
            refine lv_iload_n hx hb dX2_longestRun_28 rfl (lv_at hl 2 rfl) ?_
            refine vp_callSi (W.runS (As := [.int (sf x4.toNatClampNeg), .int x2]) (rest := []) ⟨hx, hb, hml, hown, hts⟩ (k_X5_placeOf l (sf x4.toNatClampNeg) x2 ) (va_cwS 2 hts gX2_longestRun_X5_placeOf rfl rfl rfl (by decide +kernel) ⟨Nat.le_of_ble_eq_true rfl, Nat.le_of_ble_eq_true rfl⟩) ⟨pS_fb, pS_pre⟩ rfl rfl hl.1 rfl (lv_room (Nat.le_of_ble_eq_true rfl)) dX2_longestRun_29 ⟨Nat.le_of_ble_eq_true rfl, Nat.le_of_ble_eq_true rfl⟩) (fun x29 hx29 => ?_)
            subst hx29
            refine lv_topi (fun x32 ex32 => ?_)
            refine lv_istore (lv' := [(5, .int x32), (0, .ref lo), (1, .int mu), (2, .int x2), (3, .int le), (4, .int x4)]) hx hb dX2_longestRun_32 hl (by decide) rfl (fun ls hl => ?_)
            refine lv_iload hx hb dX2_longestRun_34 (lv_at hl 0 rfl) ?_
            refine lv_iconst (v := 3) hx hb dX2_longestRun_36 (by decide) ?_
            refine lv_icmp_ne (tgt := 46) hx hb dX2_longestRun_37 (by decide) (fun c_37 => ?_) (fun c_37 => ?_)
            · refine lv_iload hx hb dX2_longestRun_46 (lv_at hl 0 rfl) ?_
              refine lv_iconst (v := 2) hx hb dX2_longestRun_48 (by decide) ?_
              refine lv_icmp_ne (tgt := 56) hx hb dX2_longestRun_49 (by decide) (fun c_49 => ?_) (fun c_49 => ?_)
              · refine lv_iconst (v := 0) hx hb dX2_longestRun_56 (by decide) ?_
                refine lv_istore_n (lv' := [(3, .int 0), (5, .int x32), (0, .ref lo), (1, .int mu), (2, .int x2), (4, .int x4)]) hx hb dX2_longestRun_57 rfl hl (by decide) rfl (fun ls hl => ?_)
                refine lv_iload_n hx hb dX2_longestRun_58 rfl (lv_at hl 3 rfl) ?_
                refine lv_iload_n hx hb dX2_longestRun_59 rfl (lv_at hl 0 rfl) ?_
                refine va_mmax hx hb (hml.trans hl.1.symm) hown k47 s_va_mmax i_math c_va_mmax (Nat.le_of_ble_eq_true rfl) (Nat.le_of_ble_eq_true rfl) (Nat.zero_le _) (Nat.zero_le _) dX2_longestRun_60 ?_
                refine lv_topi (fun x63 ex63 => ?_)
                refine lv_istore_n (lv' := [(1, .int x63), (3, .int 0), (5, .int x32), (0, .ref lo), (2, .int x2), (4, .int x4)]) hx hb dX2_longestRun_63 rfl hl (by decide) rfl (fun ls hl => ?_)
                obtain ⟨x64, ex64⟩ : ∃ y : Int32, y = x4 + 1 := ⟨_, rfl⟩
                refine lv_iinc (v := x64) (lv' := [(4, .int x64), (1, .int x63), (3, .int 0), (5, .int x32), (0, .ref lo), (2, .int x2)]) hx hb dX2_longestRun_64 hl (k := 5) rfl (by rw [ex64]; rfl) (by decide) rfl (fun ls hl => ?_)
                refine lv_goto (tgt := 14) hx hb dX2_longestRun_67 (by decide) ?_
                exact ih14 (i + 1) x63 0 x64 (hjlt) (hp_s ex64 h4) (by omega) (hp_lr h5 (by rw [ex63]) (by (try rw [ex57]); rw [h2, h4, nI_clamp (show i < 2 ^ 31 by omega)] at ex32; rw [← ex32]; (repeat' split) <;> first | rfl | contradiction)) (by omega) ls (lv_sub hl [4, 1, 5, 2, 0] rfl)
              · refine lv_iconst (v := 1) hx hb dX2_longestRun_52 (by decide) ?_
                refine lv_goto (tgt := 57) hx hb dX2_longestRun_53 (by decide) ?_
                refine lv_istore_n (lv' := [(3, .int 1), (5, .int x32), (0, .ref lo), (1, .int mu), (2, .int x2), (4, .int x4)]) hx hb dX2_longestRun_57 rfl hl (by decide) rfl (fun ls hl => ?_)
                refine lv_iload_n hx hb dX2_longestRun_58 rfl (lv_at hl 3 rfl) ?_
                refine lv_iload_n hx hb dX2_longestRun_59 rfl (lv_at hl 0 rfl) ?_
                refine va_mmax hx hb (hml.trans hl.1.symm) hown k47 s_va_mmax i_math c_va_mmax (Nat.le_of_ble_eq_true rfl) (Nat.le_of_ble_eq_true rfl) (Nat.zero_le _) (Nat.zero_le _) dX2_longestRun_60 ?_
                refine lv_topi (fun x63 ex63 => ?_)
                refine lv_istore_n (lv' := [(1, .int x63), (3, .int 1), (5, .int x32), (0, .ref lo), (2, .int x2), (4, .int x4)]) hx hb dX2_longestRun_63 rfl hl (by decide) rfl (fun ls hl => ?_)
                obtain ⟨x64, ex64⟩ : ∃ y : Int32, y = x4 + 1 := ⟨_, rfl⟩
                refine lv_iinc (v := x64) (lv' := [(4, .int x64), (1, .int x63), (3, .int 1), (5, .int x32), (0, .ref lo), (2, .int x2)]) hx hb dX2_longestRun_64 hl (k := 5) rfl (by rw [ex64]; rfl) (by decide) rfl (fun ls hl => ?_)
                refine lv_goto (tgt := 14) hx hb dX2_longestRun_67 (by decide) ?_
                exact ih14 (i + 1) x63 1 x64 (hjlt) (hp_s ex64 h4) (by omega) (hp_lr h5 (by rw [ex63]) (by (try rw [ex57]); rw [h2, h4, nI_clamp (show i < 2 ^ 31 by omega)] at ex32; rw [← ex32]; (repeat' split) <;> first | rfl | contradiction)) (by omega) ls (lv_sub hl [4, 1, 5, 2, 0] rfl)
            · refine lv_iload_n hx hb dX2_longestRun_40 rfl (lv_at hl 4 rfl) ?_
              refine lv_iconst (v := 1) hx hb dX2_longestRun_41 (by decide) ?_
              refine lv_iadd hx hb dX2_longestRun_42 ?_
              refine lv_goto (tgt := 57) hx hb dX2_longestRun_43 (by decide) ?_
              refine lv_topi (fun x57 ex57 => ?_)
              refine lv_istore_n (lv' := [(3, .int x57), (5, .int x32), (0, .ref lo), (1, .int mu), (2, .int x2), (4, .int x4)]) hx hb dX2_longestRun_57 rfl hl (by decide) rfl (fun ls hl => ?_)
              refine lv_iload_n hx hb dX2_longestRun_58 rfl (lv_at hl 3 rfl) ?_
              refine lv_iload_n hx hb dX2_longestRun_59 rfl (lv_at hl 0 rfl) ?_
              refine va_mmax hx hb (hml.trans hl.1.symm) hown k47 s_va_mmax i_math c_va_mmax (Nat.le_of_ble_eq_true rfl) (Nat.le_of_ble_eq_true rfl) (Nat.zero_le _) (Nat.zero_le _) dX2_longestRun_60 ?_
              refine lv_topi (fun x63 ex63 => ?_)
              refine lv_istore_n (lv' := [(1, .int x63), (3, .int x57), (5, .int x32), (0, .ref lo), (2, .int x2), (4, .int x4)]) hx hb dX2_longestRun_63 rfl hl (by decide) rfl (fun ls hl => ?_)
              obtain ⟨x64, ex64⟩ : ∃ y : Int32, y = x4 + 1 := ⟨_, rfl⟩
              refine lv_iinc (v := x64) (lv' := [(4, .int x64), (1, .int x63), (3, .int x57), (5, .int x32), (0, .ref lo), (2, .int x2)]) hx hb dX2_longestRun_64 hl (k := 5) rfl (by rw [ex64]; rfl) (by decide) rfl (fun ls hl => ?_)
              refine lv_goto (tgt := 14) hx hb dX2_longestRun_67 (by decide) ?_
              exact ih14 (i + 1) x63 x57 x64 (hjlt) (hp_s ex64 h4) (by omega) (hp_lr h5 (by rw [ex63]) (by (try rw [ex57]); rw [h2, h4, nI_clamp (show i < 2 ^ 31 by omega)] at ex32; rw [← ex32]; (repeat' split) <;> first | rfl | contradiction)) (by omega) ls (lv_sub hl [4, 1, 5, 2, 0] rfl)
      refine lv_iload_n hx hb dX2_longestRun_4 rfl (lv_at hl 2 rfl) ?_
      refine lv_iconst (v := 4) hx hb dX2_longestRun_5 (by decide) ?_
      refine lv_icmp_ge (tgt := 76) hx hb dX2_longestRun_6 (by decide) (fun c_6 => ?_) (fun c_6 => ?_)
      · have hj4 := hp_ge h2 (by decide : (4 : Int32) = nI 4) hj (by decide) c_6
        refine lv_iload_n hx hb dX2_longestRun_76 rfl (lv_at hl 1 rfl) ?_
        rw [← hQ]
        exact W.iret (v := mo) hx hb hr (fun t ht hW => ⟨_, rfl, (by subst hj4; exact h9), ht⟩) (fun _ h => by cases h) dX2_longestRun_77
      · have hjlt := hp_lt h2 (by decide : (4 : Int32) = nI 4) hj (by decide) c_6
        refine lv_iconst (v := 0) hx hb dX2_longestRun_9 (by decide) ?_
        refine lv_istore_n (lv' := [(3, .int 0), (0, .ref lo), (1, .int mo), (2, .int x2)]) hx hb dX2_longestRun_10 rfl hl (by decide) rfl (fun ls hl => ?_)
        refine lv_iconst (v := 0) hx hb dX2_longestRun_11 (by decide) ?_
        refine lv_istore (lv' := [(4, .int 0), (3, .int 0), (0, .ref lo), (1, .int mo), (2, .int x2)]) hx hb dX2_longestRun_12 hl (by decide) rfl (fun ls hl => ?_)
        exact lab14 _ 0 mo 0 0 (hjlt) (nI_0.symm) (by omega) (by rw [h9]; rfl) (Nat.lt_succ_self _) ls (lv_sub hl [2, 3, 4, 1, 0] rfl)
  refine lv_iconst (v := 0) hx hb dX2_longestRun_0 (by decide) ?_
  refine lv_istore_n (lv' := [(1, .int 0), (0, .ref lo)]) hx hb dX2_longestRun_1 rfl hl (by decide) rfl (fun ls hl => ?_)
  refine lv_iconst (v := 0) hx hb dX2_longestRun_2 (by decide) ?_
  refine lv_istore_n (lv' := [(2, .int 0), (1, .int 0), (0, .ref lo)]) hx hb dX2_longestRun_3 rfl hl (by decide) rfl (fun ls hl => ?_)
  exact lab4 _ 0 0 0 (nI_0.symm) (by omega) (rfl) (Nat.lt_succ_self _) ls (lv_sub hl [2, 1, 0] rfl)
