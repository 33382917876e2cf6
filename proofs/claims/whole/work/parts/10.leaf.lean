theorem wQ {p : Program} {l : Launch} {e : Env} {R : Room} {s : State} {m : MethodId} {args : Array Value} {below : List Frame} {meth : Method} {c : Code} {H : Heap} {locs : List Loc} {cells slots : Nat} {Q0 : State → Prop} {g : JFrame} (h : ∀ Q : State → Prop, Q0 = Q → W p l e R s m args below meth c H locs cells slots Q g) : W p l e R s m args below meth c H locs cells slots Q0 g := h Q0 rfl
theorem hp_lt {x y : Int32} {i N : Nat} (hx : x = nI i) (hy : y = nI N) (hi : i ≤ N) (hN : N < 2 ^ 31) (h : ¬ y ≤ x) : i < N := by
  rw [hx, hy, nI_leI hN (by omega)] at h; omega
theorem hp_ge {x y : Int32} {i N : Nat} (hx : x = nI i) (hy : y = nI N) (hi : i ≤ N) (hN : N < 2 ^ 31) (h : y ≤ x) : i = N := by
  rw [hx, hy, nI_leI hN (by omega)] at h; omega
theorem hp_s {x z : Int32} {i : Nat} (hz : z = x + 1) (hx : x = nI i) : z = nI (i + 1) := by rw [hz, hx]; exact nI_1 i
theorem hp_pm {i : Nat} (h : 0 < i) : nI i - 1 = nI (i - 1) := by
  obtain ⟨k, rfl⟩ : ∃ k, i = k + 1 := ⟨i - 1, by omega⟩
  exact nI_pred k
theorem hp_m1 {x : Int32} {i : Nat} (hx : x = nI i - 1) (hi : i ≤ 4) (h : x < 0) : i = 0 := by
  rcases Nat.eq_zero_or_pos i with q | q
  · exact q
  · rw [hx, hp_pm q] at h; exact absurd h (nI_pos (by omega))
theorem hp_m1p {x : Int32} {i : Nat} (hx : x = nI i - 1) (hi : i ≤ 4) (h : ¬ x < 0) : 0 < i := by
  rcases Nat.eq_zero_or_pos i with q | q
  · subst q; subst hx; exact absurd (by decide) h
  · exact q
theorem hp_wl {i : Nat} (h : 0 < i) : nI i - 1 + (-1) = nI (i - 1) - 1 := by
  rw [hp_pm h, Int32.sub_eq_add_neg]
def j_X0_isSet (s : Int64) : Int32 := if lg_cmp (s.toUInt64 >>> ((54 : Int32).toInt64.toUInt64 &&& Int64.toUInt64 63)).toInt64 0 = 0 then 1 else 0
def j_X0_worthOfNumber (n : Int32) : Int32 := if 10 < n + 1 then 10 else n + 1
def j_bcL (i : Int64) : Int32 :=
  let a := i - ((i.toUInt64 >>> ((1 : Int32).toInt64.toUInt64 &&& Int64.toUInt64 63)).toInt64 &&& 6148914691236517205)
  let b := (a &&& 3689348814741910323) + ((a.toUInt64 >>> ((2 : Int32).toInt64.toUInt64 &&& Int64.toUInt64 63)).toInt64 &&& 3689348814741910323)
  let c := (b + (b.toUInt64 >>> ((4 : Int32).toInt64.toUInt64 &&& Int64.toUInt64 63)).toInt64) &&& 1085102592571150095
  let d := c + (c.toUInt64 >>> ((8 : Int32).toInt64.toUInt64 &&& Int64.toUInt64 63)).toInt64
  let e := d + (d.toUInt64 >>> ((16 : Int32).toInt64.toUInt64 &&& Int64.toUInt64 63)).toInt64
  let f := e + (e.toUInt64 >>> ((32 : Int32).toInt64.toUInt64 &&& Int64.toUInt64 63)).toInt64
  f.toInt32 &&& 127
def j_bcI (i : Int32) : Int32 :=
  let a := i - ((i.toUInt32 >>> ((1 : Int32).toUInt32 &&& Int32.toUInt32 31)).toInt32 &&& 1431655765)
  let b := (a &&& 858993459) + ((a.toUInt32 >>> ((2 : Int32).toUInt32 &&& Int32.toUInt32 31)).toInt32 &&& 858993459)
  let c := (b + (b.toUInt32 >>> ((4 : Int32).toUInt32 &&& Int32.toUInt32 31)).toInt32) &&& 252645135
  let d := c + (c.toUInt32 >>> ((8 : Int32).toUInt32 &&& Int32.toUInt32 31)).toInt32
  let e := d + (d.toUInt32 >>> ((16 : Int32).toUInt32 &&& Int32.toUInt32 31)).toInt32
  e &&& 63
def j_X0_jokersIn (s : Int64) : Int32 := j_bcL (s.toUInt64 >>> ((52 : Int32).toInt64.toUInt64 &&& Int64.toUInt64 63)).toInt64
def j_X0_coloursOf (s : Int64) (n : Int32) : Int32 := (s.toUInt64 >>> ((4 * n).toInt64.toUInt64 &&& Int64.toUInt64 63)).toInt64.toInt32 &&& 15
def j_X0_worthOfSet (s : Int64) : Int32 := 20 * j_X0_jokersIn s + bx_sum (fun n => j_X0_worthOfNumber (nI n) * j_bcI (j_X0_coloursOf s (nI n))) 13
def j_X5_grouped (t : Int32) : Int32 := t &&& 15
def j_X5_begun (t : Int32) : Int32 := (t >>> ((4 : Int32) &&& 31)) &&& 15
def j_X5_continued (t : Int32) : Int32 := (t >>> ((8 : Int32) &&& 31)) &&& 15
def j_X5_shown (t : Int32) : Int32 := (t >>> ((12 : Int32) &&& 31)) &&& 15
def j_X5_placeOf (t c : Int32) : Int32 := if (j_X5_grouped t >>> (c &&& 31)) &&& 1 = 0 then (if (j_X5_begun t >>> (c &&& 31)) &&& 1 = 0 then (if (j_X5_continued t >>> (c &&& 31)) &&& 1 = 0 then 0 else 3) else 2) else 1
def j_X5_canContinue (s on : Int32) : Int32 := if ((s &&& 15) ^^^ ((s >>> ((4 : Int32) &&& 31)) &&& 15)) &&& (on ^^^ (-1)) = 0 then (if on &&& (((s &&& 15) ||| ((s >>> ((4 : Int32) &&& 31)) &&& 15)) ^^^ (-1)) = 0 then 1 else 0) else 0
def j_X5_stateAfter (s t : Int32) : Int32 := (j_X5_begun t ||| (j_X5_continued t &&& (s >>> ((4 : Int32) &&& 31)))) ||| (j_X5_continued t <<< ((4 : Int32) &&& 31))
def j_X5_mayEnd (s : Int32) : Int32 := if s &&& 15 = (s >>> ((4 : Int32) &&& 31)) &&& 15 then 1 else 0
def j_X7_isAim (a : Int32) : Int32 := if a = 0 then 1 else if a = 1 then 1 else 0
def j_X3_isCell (s u : Int32) : Int32 := if s < 0 then 0 else if 256 ≤ s then 0 else if u < 0 then 0 else if 3 ≤ u then 0 else 1
def j_X1_bitOf (c : Int32) : Int64 := if c < 0 then 0 else if 54 ≤ c then 0 else 1 <<< (c.toInt64 &&& 63)
def j_fp (code : Int32) : Nat → Int32
  | 0 => 0
  | n + 1 => if (code >>> (2 * (3 - nI n) &&& 31)) &&& 3 = 0 then j_fp code n else j_fp code n ||| ((1 <<< (4 * (((code >>> (2 * (3 - nI n) &&& 31)) &&& 3) - 1) + nI n &&& 31)) ||| (1 <<< (12 + nI n &&& 31)))
def j_X5_fromPlaces (code : Int32) : Int32 := j_fp code 4
def j_wl (c : Int32) : Nat → Int32
  | 0 => 0
  | n + 1 => if (c >>> (nI n &&& 31)) &&& 1 = 0 then j_wl c n else c &&& ((1 <<< (nI n &&& 31)) ^^^ (-1))
def j_X6_withoutLast (c : Int32) : Int32 := j_wl c 4
def j_X8_isSet (s : Int64) : Int32 := if lg_cmp s 0 < 0 then 0 else if 0 < lg_cmp s 18014398509481983 then 0 else 1
def j_X8_has (s : Int64) (c : Int32) : Int32 := if lg_cmp ((s >>> (c.toInt64 &&& 63)) &&& 1) 1 = 0 then 1 else 0
def j_X8_jokersOf (s : Int64) : Int32 := ((s >>> ((52 : Int32).toInt64 &&& 63)) &&& 1).toInt32 + ((s >>> ((53 : Int32).toInt64 &&& 63)) &&& 1).toInt32
def j_X8_worthOf (c : Int32) : Int32 := if c ≤ 51 then (if c / 4 ≤ 8 then c / 4 + 1 else 10) else 20
def j_X8_many (s : Int64) : Int32 := bx_sum (fun k => if j_X8_has s (nI k) = 0 then 0 else 1) 54
def j_X8_worthAll (s : Int64) : Int32 := bx_sum (fun k => if j_X8_has s (nI k) = 0 then 0 else j_X8_worthOf (nI k)) 54
def j_X8_run (m c : Int32) : Int32 := ((m / 15) >>> (2 * c &&& 31)) &&& 3
def j_X8_inGroup (m : Int32) : Int32 := m / 3 - m / 3 / 5 * 5
def j_X8_jokers (m : Int32) : Int32 := m - m / 3 * 3
def j_X8_gain (c a : Int32) : Int32 := if a = 0 then 1 else j_X8_worthOf c
def j_wh (m : Int32) : Nat → Int32
  | 0 => 1
  | n + 1 => if j_X8_run m (nI n) = 1 then 0 else if j_X8_run m (nI n) = 2 then 0 else j_wh m n
def j_X8_isWhole (m : Int32) : Int32 := if j_wh m 4 = 0 then 0 else if j_X8_inGroup m = 0 then 1 else 0
def j_bh_open (r p : Int32) : Int32 := if p = 3 then (if r = 3 then 3 else r + 1) else if p = 2 then 1 else 0
def j_bh_no (u r p : Int32) : Prop := 2 < u ∨ (¬ ((p = 3) ↔ (0 < r)) ∧ (p = 3 ∨ r < 3))
def j_bh_end (m col g u op : Int32) : Int32 := ((((m / 15 : Int32) &&& (((3 : Int32) <<< (2 * col &&& 31)) ^^^ (-1))) ||| (op <<< (2 * col &&& 31))) * 5 + g) * 3 + u
def j_bh_grp (m col g u op : Int32) : Int32 := if col = 3 then (if g = 1 then -1 else if g = 2 then -1 else j_bh_end m col 0 u op) else j_bh_end m col g u op
def j_bh_mid (m col r g u p : Int32) : Int32 := if 2 < u then -1 else
  if (if p = 3 then (1 : Int32) else 0) = (if r ≤ 0 then (0 : Int32) else 1) then j_bh_grp m col (if p = 1 then g + 1 else g) u (j_bh_open r p)
  else if p = 3 then -1 else if 3 ≤ r then j_bh_grp m col (if p = 1 then g + 1 else g) u (j_bh_open r p) else -1
def j_X8_behind (m c p b : Int32) : Int32 := j_bh_mid m (c - c / 4 * 4) (j_X8_run m (c - c / 4 * 4)) (j_X8_inGroup m) (j_X8_jokers m + (if b = 0 then 0 else 1)) p
theorem hp_wl2 {col x : Int32} {i : Nat} (h : 0 < i) (hx : x = nI i - 1) (hc : (col >>> (x &&& 31)) &&& 1 = 0) : j_wl col i = j_wl col (i - 1) := by
  obtain ⟨k, rfl⟩ : ∃ k, i = k + 1 := ⟨i - 1, by omega⟩
  rw [nI_pred] at hx; subst hx
  show (if _ then _ else _) = _
  rw [if_pos hc]; rfl
theorem hp_wl3 {col x : Int32} {i : Nat} (h : 0 < i) (hx : x = nI i - 1) (hc : ¬ (col >>> (x &&& 31)) &&& 1 = 0) : col &&& ((1 <<< (x &&& 31)) ^^^ (-1)) = j_wl col i := by
  obtain ⟨k, rfl⟩ : ∃ k, i = k + 1 := ⟨i - 1, by omega⟩
  rw [nI_pred] at hx; subst hx
  show _ = (if _ then _ else _)
  rw [if_neg hc]
theorem hp_wh {mk : Int32} : ∀ {n : Nat}, (∀ j, j < n → ¬ j_X8_run mk (nI j) = 1 ∧ ¬ j_X8_run mk (nI j) = 2) → j_wh mk n = 1
  | 0, _ => rfl
  | n + 1, h => by
    show (if _ then _ else if _ then _ else _) = _
    rw [if_neg (h n (Nat.lt_succ_self n)).1, if_neg (h n (Nat.lt_succ_self n)).2]
    exact hp_wh (fun j hj => h j (Nat.lt_succ_of_lt hj))
theorem hp_whz {mk : Int32} {i : Nat} (hr : j_X8_run mk (nI i) = 1 ∨ j_X8_run mk (nI i) = 2) : ∀ {n : Nat}, i < n → j_wh mk n = 0
  | 0, h => absurd h (Nat.not_lt_zero i)
  | n + 1, h => by
    show (if _ then _ else if _ then _ else _) = _
    rcases Nat.lt_succ_iff_lt_or_eq.mp h with q | q
    · rw [hp_whz hr q]; split
      · rfl
      · split <;> rfl
    · subst q
      rcases hr with q | q
      · rw [if_pos q]
      · rw [if_pos q]; split <;> rfl
theorem hp_wh0 {mk : Int32} {i : Nat} (hi : i < 4) (hr : j_X8_run mk (nI i) = 1 ∨ j_X8_run mk (nI i) = 2) : (0 : Int32) = j_X8_isWhole mk := by
  simp only [j_X8_isWhole]; rw [if_pos (hp_whz hr hi)]
set_option maxHeartbeats 4000000 in
set_option maxRecDepth 100000 in
theorem k_X0_isSet (l : Launch) (x : Int64)  : Met l yX0_isSet wsX0_isSet ({ frames := 0, cells := 0, slots := 0, locals := 0 } : Room) (va_Pc [.long x] (fun _ => True)) (vp_Si (fun r => r = j_X0_isSet x)) 0 0 (fun _ => False) := by
  refine Met.ofW (cc := cX0_isSet) (maxL := 2) (ret := (some .boolean)) (by decide) rfl ?_
  intro p e s m args below meth c s₁ B hml hv
  obtain ⟨hargs, -⟩ := hv
  have hx := B.exec
  have hb := B.bytes
  have hr := B.returns
  have hlocks := B.notSynchronized
  have hts := atoms_spec (ws := wsX0_isSet) B.pre
  have hown : s.vm.findClass RX0 = some m.cls := findClass_of_methodNamed B.named
  rw [show entryFrame m args 2 = entryFrame m ([.long x] : List Value).toArray 2 from by rw [hargs]]
  have hl := lv_entry ([.long x]) (n := 2) (Nat.le_of_ble_eq_true rfl)
  rw [lg_entry_eq]
  generalize (lg_sl ([.long x]) ++ List.replicate (2 - (lg_sl ([.long x])).length) Slot.unset).toArray = ls at hl ⊢
  have hl : lv_has ls 2 [(0, .long x)] := hl
  refine wQ (fun Q hQ => ?_)
  refine lv_lload_n hx hb dX0_isSet_0 rfl (lv_at hl 0 rfl) ?_
  refine lv_bipush (v := 54) hx hb dX0_isSet_1 (by decide) ?_
  refine lv_lushr hx hb dX0_isSet_3 rfl ?_
  refine lv_lconst (v := 0) hx hb dX0_isSet_4 (by decide) ?_
  refine W.lcmp hx hb dX0_isSet_5 ?_
  refine lv_if_ne (tgt := 13) hx hb dX0_isSet_6 (by decide) (fun c_6 => ?_) (fun c_6 => ?_)
  · refine lv_iconst (v := 0) hx hb dX0_isSet_13 (by decide) ?_
    rw [← hQ]
    exact W.zret (v := 0) hx hb hr (by first | decide | rfl | assumption) (fun t ht hW => ⟨_, rfl, (by simp only [j_X0_isSet]; (repeat' split) <;> first | rfl | contradiction), ht⟩) (fun _ h => by cases h) dX0_isSet_14
  · refine lv_iconst (v := 1) hx hb dX0_isSet_9 (by decide) ?_
    refine lv_goto (tgt := 14) hx hb dX0_isSet_10 (by decide) ?_
    rw [← hQ]
    exact W.zret (v := 1) hx hb hr (by first | decide | rfl | assumption) (fun t ht hW => ⟨_, rfl, (by simp only [j_X0_isSet]; (repeat' split) <;> first | rfl | contradiction), ht⟩) (fun _ h => by cases h) dX0_isSet_14

set_option maxHeartbeats 4000000 in
set_option maxRecDepth 100000 in
theorem k_X0_worthOfNumber (l : Launch) (n : Int32)  : Met l yX0_worthOfNumber wsX0_worthOfNumber ({ frames := 1, cells := 0, slots := 0, locals := 40 } : Room) (va_Pc [.int n] (fun _ => True)) (vp_Si (fun r => r = j_X0_worthOfNumber n)) 0 0 (fun _ => False) := by
  refine Met.ofW (cc := cX0_worthOfNumber) (maxL := 1) (ret := (some .int)) (by decide) rfl ?_
  intro p e s m args below meth c s₁ B hml hv
  obtain ⟨hargs, -⟩ := hv
  have hx := B.exec
  have hb := B.bytes
  have hr := B.returns
  have hlocks := B.notSynchronized
  have hts := atoms_spec (ws := wsX0_worthOfNumber) B.pre
  have hown : s.vm.findClass RX0 = some m.cls := findClass_of_methodNamed B.named
  have k9 := hts (.methodLink RX0 9 Lib.Math.min.name) (by decide +kernel)
  have s_va_mmin := hts (.static Lib.Math.min.name) (by decide +kernel)
  have i_math := hts (.initialized "java/lang/Math") (by decide +kernel)
  have c_va_mmin := hts (.code Lib.Math.min.name Lib.Math.min.code 2 (some .int)) (by decide +kernel)
  rw [show entryFrame m args 1 = entryFrame m ([.int n] : List Value).toArray 1 from by rw [hargs]]
  have hl := lv_entry ([.int n]) (n := 1) (Nat.le_of_ble_eq_true rfl)
  rw [lg_entry_eq]
  generalize (lg_sl ([.int n]) ++ List.replicate (1 - (lg_sl ([.int n])).length) Slot.unset).toArray = ls at hl ⊢
  have hl : lv_has ls 1 [(0, .int n)] := hl
  refine wQ (fun Q hQ => ?_)
  refine lv_iload_n hx hb dX0_worthOfNumber_0 rfl (lv_at hl 0 rfl) ?_
  refine lv_iconst (v := 1) hx hb dX0_worthOfNumber_1 (by decide) ?_
  refine lv_iadd hx hb dX0_worthOfNumber_2 ?_
  refine lv_bipush (v := 10) hx hb dX0_worthOfNumber_3 (by decide) ?_
  refine va_mmin hx hb (hml.trans hl.1.symm) hown k9 s_va_mmin i_math c_va_mmin (Nat.le_of_ble_eq_true rfl) (Nat.le_of_ble_eq_true rfl) (Nat.zero_le _) (Nat.zero_le _) dX0_worthOfNumber_5 ?_
  rw [← hQ]
  exact W.iret (v := if 10 < (n + 1) then 10 else (n + 1)) hx hb hr (fun t ht hW => ⟨_, rfl, rfl, ht⟩) (fun _ h => by cases h) dX0_worthOfNumber_8

set_option maxHeartbeats 4000000 in
set_option maxRecDepth 100000 in
theorem k_J13_bitCount_95d88 (l : Launch) (i : Int64)  : Met l yJ13_bitCount_95d88 wsJ13_bitCount_95d88 ({ frames := 0, cells := 0, slots := 0, locals := 0 } : Room) (va_Pc [.long i] (fun _ => True)) (vp_Si (fun r => r = j_bcL i)) 0 0 (fun _ => False) := by
  refine Met.ofW (cc := cJ13_bitCount_95d88) (maxL := 2) (ret := (some .int)) (by decide) rfl ?_
  intro p e s m args below meth c s₁ B hml hv
  obtain ⟨hargs, -⟩ := hv
  have hx := B.exec
  have hb := B.bytes
  have hr := B.returns
  have hlocks := B.notSynchronized
  have hts := atoms_spec (ws := wsJ13_bitCount_95d88) B.pre
  have hown : s.vm.findClass RJ13 = some m.cls := findClass_of_methodNamed B.named
  have k314 := hts (.constantLong RJ13 314 (6148914691236517205)) (by decide +kernel)
  have k316 := hts (.constantLong RJ13 316 (3689348814741910323)) (by decide +kernel)
  have k318 := hts (.constantLong RJ13 318 (1085102592571150095)) (by decide +kernel)
  rw [show entryFrame m args 2 = entryFrame m ([.long i] : List Value).toArray 2 from by rw [hargs]]
  have hl := lv_entry ([.long i]) (n := 2) (Nat.le_of_ble_eq_true rfl)
  rw [lg_entry_eq]
  generalize (lg_sl ([.long i]) ++ List.replicate (2 - (lg_sl ([.long i])).length) Slot.unset).toArray = ls at hl ⊢
  have hl : lv_has ls 2 [(0, .long i)] := hl
  refine wQ (fun Q hQ => ?_)
  refine lv_lload_n hx hb dJ13_bitCount_95d88_0 rfl (lv_at hl 0 rfl) ?_
  refine lv_lload_n hx hb dJ13_bitCount_95d88_1 rfl (lv_at hl 0 rfl) ?_
  refine lv_iconst (v := 1) hx hb dJ13_bitCount_95d88_2 (by decide) ?_
  refine lv_lushr hx hb dJ13_bitCount_95d88_3 rfl ?_
  refine lv_ldc2 hx hb hown k314 dJ13_bitCount_95d88_4 ?_
  refine lv_land hx hb dJ13_bitCount_95d88_7 ?_
  refine lv_lsub hx hb dJ13_bitCount_95d88_8 ?_
  refine lv_topl (fun x9 ex9 => ?_)
  refine lv_lstore_n (lv' := [(0, .long x9)]) hx hb dJ13_bitCount_95d88_9 rfl hl (by decide) rfl (fun ls hl => ?_)
  refine lv_lload_n hx hb dJ13_bitCount_95d88_10 rfl (lv_at hl 0 rfl) ?_
  refine lv_ldc2 hx hb hown k316 dJ13_bitCount_95d88_11 ?_
  refine lv_land hx hb dJ13_bitCount_95d88_14 ?_
  refine lv_lload_n hx hb dJ13_bitCount_95d88_15 rfl (lv_at hl 0 rfl) ?_
  refine lv_iconst (v := 2) hx hb dJ13_bitCount_95d88_16 (by decide) ?_
  refine lv_lushr hx hb dJ13_bitCount_95d88_17 rfl ?_
  refine lv_ldc2 hx hb hown k316 dJ13_bitCount_95d88_18 ?_
  refine lv_land hx hb dJ13_bitCount_95d88_21 ?_
  refine lv_ladd hx hb dJ13_bitCount_95d88_22 ?_
  refine lv_topl (fun x23 ex23 => ?_)
  refine lv_lstore_n (lv' := [(0, .long x23)]) hx hb dJ13_bitCount_95d88_23 rfl hl (by decide) rfl (fun ls hl => ?_)
  refine lv_lload_n hx hb dJ13_bitCount_95d88_24 rfl (lv_at hl 0 rfl) ?_
  refine lv_lload_n hx hb dJ13_bitCount_95d88_25 rfl (lv_at hl 0 rfl) ?_
  refine lv_iconst (v := 4) hx hb dJ13_bitCount_95d88_26 (by decide) ?_
  refine lv_lushr hx hb dJ13_bitCount_95d88_27 rfl ?_
  refine lv_ladd hx hb dJ13_bitCount_95d88_28 ?_
  refine lv_ldc2 hx hb hown k318 dJ13_bitCount_95d88_29 ?_
  refine lv_land hx hb dJ13_bitCount_95d88_32 ?_
  refine lv_topl (fun x33 ex33 => ?_)
  refine lv_lstore_n (lv' := [(0, .long x33)]) hx hb dJ13_bitCount_95d88_33 rfl hl (by decide) rfl (fun ls hl => ?_)
  refine lv_lload_n hx hb dJ13_bitCount_95d88_34 rfl (lv_at hl 0 rfl) ?_
  refine lv_lload_n hx hb dJ13_bitCount_95d88_35 rfl (lv_at hl 0 rfl) ?_
  refine lv_bipush (v := 8) hx hb dJ13_bitCount_95d88_36 (by decide) ?_
  refine lv_lushr hx hb dJ13_bitCount_95d88_38 rfl ?_
  refine lv_ladd hx hb dJ13_bitCount_95d88_39 ?_
  refine lv_topl (fun x40 ex40 => ?_)
  refine lv_lstore_n (lv' := [(0, .long x40)]) hx hb dJ13_bitCount_95d88_40 rfl hl (by decide) rfl (fun ls hl => ?_)
  refine lv_lload_n hx hb dJ13_bitCount_95d88_41 rfl (lv_at hl 0 rfl) ?_
  refine lv_lload_n hx hb dJ13_bitCount_95d88_42 rfl (lv_at hl 0 rfl) ?_
  refine lv_bipush (v := 16) hx hb dJ13_bitCount_95d88_43 (by decide) ?_
  refine lv_lushr hx hb dJ13_bitCount_95d88_45 rfl ?_
  refine lv_ladd hx hb dJ13_bitCount_95d88_46 ?_
  refine lv_topl (fun x47 ex47 => ?_)
  refine lv_lstore_n (lv' := [(0, .long x47)]) hx hb dJ13_bitCount_95d88_47 rfl hl (by decide) rfl (fun ls hl => ?_)
  refine lv_lload_n hx hb dJ13_bitCount_95d88_48 rfl (lv_at hl 0 rfl) ?_
  refine lv_lload_n hx hb dJ13_bitCount_95d88_49 rfl (lv_at hl 0 rfl) ?_
  refine lv_bipush (v := 32) hx hb dJ13_bitCount_95d88_50 (by decide) ?_
  refine lv_lushr hx hb dJ13_bitCount_95d88_52 rfl ?_
  refine lv_ladd hx hb dJ13_bitCount_95d88_53 ?_
  refine lv_topl (fun x54 ex54 => ?_)
  refine lv_lstore_n (lv' := [(0, .long x54)]) hx hb dJ13_bitCount_95d88_54 rfl hl (by decide) rfl (fun ls hl => ?_)
  refine lv_lload_n hx hb dJ13_bitCount_95d88_55 rfl (lv_at hl 0 rfl) ?_
  refine lv_l2i hx hb dJ13_bitCount_95d88_56 rfl ?_
  refine lv_bipush (v := 127) hx hb dJ13_bitCount_95d88_57 (by decide) ?_
  refine lv_iand hx hb dJ13_bitCount_95d88_59 ?_
  rw [← hQ]
  exact W.iret (v := x54.toInt32 &&& 127) hx hb hr (fun t ht hW => ⟨_, rfl, (by subst_vars; rfl), ht⟩) (fun _ h => by cases h) dJ13_bitCount_95d88_60

set_option maxHeartbeats 4000000 in
set_option maxRecDepth 100000 in
theorem k_J6_bitCount_0f7a4 (l : Launch) (i : Int32)  : Met l yJ6_bitCount_0f7a4 wsJ6_bitCount_0f7a4 ({ frames := 0, cells := 0, slots := 0, locals := 0 } : Room) (va_Pc [.int i] (fun _ => True)) (vp_Si (fun r => r = j_bcI i)) 0 0 (fun _ => False) := by
  refine Met.ofW (cc := cJ6_bitCount_0f7a4) (maxL := 1) (ret := (some .int)) (by decide) rfl ?_
  intro p e s m args below meth c s₁ B hml hv
  obtain ⟨hargs, -⟩ := hv
  have hx := B.exec
  have hb := B.bytes
  have hr := B.returns
  have hlocks := B.notSynchronized
  have hts := atoms_spec (ws := wsJ6_bitCount_0f7a4) B.pre
  have hown : s.vm.findClass RJ6 = some m.cls := findClass_of_methodNamed B.named
  have k265 := hts (.constant RJ6 265 (1431655765)) (by decide +kernel)
  have k266 := hts (.constant RJ6 266 (858993459)) (by decide +kernel)
  have k267 := hts (.constant RJ6 267 (252645135)) (by decide +kernel)
  rw [show entryFrame m args 1 = entryFrame m ([.int i] : List Value).toArray 1 from by rw [hargs]]
  have hl := lv_entry ([.int i]) (n := 1) (Nat.le_of_ble_eq_true rfl)
  rw [lg_entry_eq]
  generalize (lg_sl ([.int i]) ++ List.replicate (1 - (lg_sl ([.int i])).length) Slot.unset).toArray = ls at hl ⊢
  have hl : lv_has ls 1 [(0, .int i)] := hl
  refine wQ (fun Q hQ => ?_)
  refine lv_iload_n hx hb dJ6_bitCount_0f7a4_0 rfl (lv_at hl 0 rfl) ?_
  refine lv_iload_n hx hb dJ6_bitCount_0f7a4_1 rfl (lv_at hl 0 rfl) ?_
  refine lv_iconst (v := 1) hx hb dJ6_bitCount_0f7a4_2 (by decide) ?_
  refine lv_iushr hx hb dJ6_bitCount_0f7a4_3 rfl ?_
  refine lv_ldcw hx hb hown k265 dJ6_bitCount_0f7a4_4 ?_
  refine lv_iand hx hb dJ6_bitCount_0f7a4_7 ?_
  refine lv_isub hx hb dJ6_bitCount_0f7a4_8 ?_
  refine lv_topi (fun x9 ex9 => ?_)
  refine lv_istore_n (lv' := [(0, .int x9)]) hx hb dJ6_bitCount_0f7a4_9 rfl hl (by decide) rfl (fun ls hl => ?_)
  refine lv_iload_n hx hb dJ6_bitCount_0f7a4_10 rfl (lv_at hl 0 rfl) ?_
  refine lv_ldcw hx hb hown k266 dJ6_bitCount_0f7a4_11 ?_
  refine lv_iand hx hb dJ6_bitCount_0f7a4_14 ?_
  refine lv_iload_n hx hb dJ6_bitCount_0f7a4_15 rfl (lv_at hl 0 rfl) ?_
  refine lv_iconst (v := 2) hx hb dJ6_bitCount_0f7a4_16 (by decide) ?_
  refine lv_iushr hx hb dJ6_bitCount_0f7a4_17 rfl ?_
  refine lv_ldcw hx hb hown k266 dJ6_bitCount_0f7a4_18 ?_
  refine lv_iand hx hb dJ6_bitCount_0f7a4_21 ?_
  refine lv_iadd hx hb dJ6_bitCount_0f7a4_22 ?_
  refine lv_topi (fun x23 ex23 => ?_)
  refine lv_istore_n (lv' := [(0, .int x23)]) hx hb dJ6_bitCount_0f7a4_23 rfl hl (by decide) rfl (fun ls hl => ?_)
  refine lv_iload_n hx hb dJ6_bitCount_0f7a4_24 rfl (lv_at hl 0 rfl) ?_
  refine lv_iload_n hx hb dJ6_bitCount_0f7a4_25 rfl (lv_at hl 0 rfl) ?_
  refine lv_iconst (v := 4) hx hb dJ6_bitCount_0f7a4_26 (by decide) ?_
  refine lv_iushr hx hb dJ6_bitCount_0f7a4_27 rfl ?_
  refine lv_iadd hx hb dJ6_bitCount_0f7a4_28 ?_
  refine lv_ldcw hx hb hown k267 dJ6_bitCount_0f7a4_29 ?_
  refine lv_iand hx hb dJ6_bitCount_0f7a4_32 ?_
  refine lv_topi (fun x33 ex33 => ?_)
  refine lv_istore_n (lv' := [(0, .int x33)]) hx hb dJ6_bitCount_0f7a4_33 rfl hl (by decide) rfl (fun ls hl => ?_)
  refine lv_iload_n hx hb dJ6_bitCount_0f7a4_34 rfl (lv_at hl 0 rfl) ?_
  refine lv_iload_n hx hb dJ6_bitCount_0f7a4_35 rfl (lv_at hl 0 rfl) ?_
  refine lv_bipush (v := 8) hx hb dJ6_bitCount_0f7a4_36 (by decide) ?_
  refine lv_iushr hx hb dJ6_bitCount_0f7a4_38 rfl ?_
  refine lv_iadd hx hb dJ6_bitCount_0f7a4_39 ?_
  refine lv_topi (fun x40 ex40 => ?_)
  refine lv_istore_n (lv' := [(0, .int x40)]) hx hb dJ6_bitCount_0f7a4_40 rfl hl (by decide) rfl (fun ls hl => ?_)
  refine lv_iload_n hx hb dJ6_bitCount_0f7a4_41 rfl (lv_at hl 0 rfl) ?_
  refine lv_iload_n hx hb dJ6_bitCount_0f7a4_42 rfl (lv_at hl 0 rfl) ?_
  refine lv_bipush (v := 16) hx hb dJ6_bitCount_0f7a4_43 (by decide) ?_
  refine lv_iushr hx hb dJ6_bitCount_0f7a4_45 rfl ?_
  refine lv_iadd hx hb dJ6_bitCount_0f7a4_46 ?_
  refine lv_topi (fun x47 ex47 => ?_)
  refine lv_istore_n (lv' := [(0, .int x47)]) hx hb dJ6_bitCount_0f7a4_47 rfl hl (by decide) rfl (fun ls hl => ?_)
  refine lv_iload_n hx hb dJ6_bitCount_0f7a4_48 rfl (lv_at hl 0 rfl) ?_
  refine lv_bipush (v := 63) hx hb dJ6_bitCount_0f7a4_49 (by decide) ?_
  refine lv_iand hx hb dJ6_bitCount_0f7a4_51 ?_
  rw [← hQ]
  exact W.iret (v := x47 &&& 63) hx hb hr (fun t ht hW => ⟨_, rfl, (by subst_vars; rfl), ht⟩) (fun _ h => by cases h) dJ6_bitCount_0f7a4_52

set_option maxHeartbeats 4000000 in
set_option maxRecDepth 100000 in
theorem k_X0_jokersIn (l : Launch) (x : Int64)  : Met l yX0_jokersIn wsX0_jokersIn ({ frames := 1, cells := 0, slots := 0, locals := 21 } : Room) (va_Pc [.long x] (fun _ => True)) (vp_Si (fun r => r = j_X0_jokersIn x)) 0 0 (fun _ => False) := by
  refine Met.ofW (cc := cX0_jokersIn) (maxL := 2) (ret := (some .int)) (by decide) rfl ?_
  intro p e s m args below meth c s₁ B hml hv
  obtain ⟨hargs, -⟩ := hv
  have hx := B.exec
  have hb := B.bytes
  have hr := B.returns
  have hlocks := B.notSynchronized
  have hts := atoms_spec (ws := wsX0_jokersIn) B.pre
  have hown : s.vm.findClass RX0 = some m.cls := findClass_of_methodNamed B.named
  have k34 := hts (.methodLink RX0 34 yJ13_bitCount_95d88) (by decide +kernel)
  rw [show entryFrame m args 2 = entryFrame m ([.long x] : List Value).toArray 2 from by rw [hargs]]
  have hl := lv_entry ([.long x]) (n := 2) (Nat.le_of_ble_eq_true rfl)
  rw [lg_entry_eq]
  generalize (lg_sl ([.long x]) ++ List.replicate (2 - (lg_sl ([.long x])).length) Slot.unset).toArray = ls at hl ⊢
  have hl : lv_has ls 2 [(0, .long x)] := hl
  refine wQ (fun Q hQ => ?_)
  refine lv_lload_n hx hb dX0_jokersIn_0 rfl (lv_at hl 0 rfl) ?_
  refine lv_bipush (v := 52) hx hb dX0_jokersIn_1 (by decide) ?_
  refine lv_lushr hx hb dX0_jokersIn_3 rfl ?_
  refine vp_callSi (W.runS (As := [.long ((x.toUInt64 >>> ((52 : Int32).toInt64.toUInt64 &&& Int64.toUInt64 63)).toInt64)]) (rest := []) ⟨hx, hb, hml, hown, hts⟩ (k_J13_bitCount_95d88 l ((x.toUInt64 >>> ((52 : Int32).toInt64.toUInt64 &&& Int64.toUInt64 63)).toInt64) ) (va_cwS 1 hts gX0_jokersIn_J13_bitCount_95d88 rfl rfl rfl (by decide +kernel) ⟨Nat.le_of_ble_eq_true rfl, Nat.le_of_ble_eq_true rfl⟩) ⟨pS_fb, pS_pre⟩ rfl rfl hl.1 rfl (lv_room (Nat.le_of_ble_eq_true rfl)) dX0_jokersIn_4 ⟨Nat.le_of_ble_eq_true rfl, Nat.le_of_ble_eq_true rfl⟩) (fun x4 hx4 => ?_)
  subst hx4
  rw [← hQ]
  exact W.iret (v := j_bcL ((x.toUInt64 >>> ((52 : Int32).toInt64.toUInt64 &&& Int64.toUInt64 63)).toInt64)) hx hb hr (fun t ht hW => ⟨_, rfl, rfl, ht⟩) (fun _ h => by cases h) dX0_jokersIn_7

set_option maxHeartbeats 4000000 in
set_option maxRecDepth 100000 in
theorem k_X0_coloursOf (l : Launch) (x : Int64) (n : Int32)  : Met l yX0_coloursOf wsX0_coloursOf ({ frames := 0, cells := 0, slots := 0, locals := 0 } : Room) (va_Pc [.long x, .int n] (fun _ => True)) (vp_Si (fun r => r = j_X0_coloursOf x n)) 0 0 (fun _ => False) := by
  refine Met.ofW (cc := cX0_coloursOf) (maxL := 3) (ret := (some .int)) (by decide) rfl ?_
  intro p e s m args below meth c s₁ B hml hv
  obtain ⟨hargs, -⟩ := hv
  have hx := B.exec
  have hb := B.bytes
  have hr := B.returns
  have hlocks := B.notSynchronized
  have hts := atoms_spec (ws := wsX0_coloursOf) B.pre
  have hown : s.vm.findClass RX0 = some m.cls := findClass_of_methodNamed B.named
  rw [show entryFrame m args 3 = entryFrame m ([.long x, .int n] : List Value).toArray 3 from by rw [hargs]]
  have hl := lv_entry ([.long x, .int n]) (n := 3) (Nat.le_of_ble_eq_true rfl)
  rw [lg_entry_eq]
  generalize (lg_sl ([.long x, .int n]) ++ List.replicate (3 - (lg_sl ([.long x, .int n])).length) Slot.unset).toArray = ls at hl ⊢
  have hl : lv_has ls 3 [(0, .long x), (2, .int n)] := hl
  refine wQ (fun Q hQ => ?_)
  refine lv_lload_n hx hb dX0_coloursOf_0 rfl (lv_at hl 0 rfl) ?_
  refine lv_iconst (v := 4) hx hb dX0_coloursOf_1 (by decide) ?_
  refine lv_iload_n hx hb dX0_coloursOf_2 rfl (lv_at hl 1 rfl) ?_
  refine lv_imul hx hb dX0_coloursOf_3 ?_
  refine lv_lushr hx hb dX0_coloursOf_4 rfl ?_
  refine lv_l2i hx hb dX0_coloursOf_5 rfl ?_
  refine lv_bipush (v := 15) hx hb dX0_coloursOf_6 (by decide) ?_
  refine lv_iand hx hb dX0_coloursOf_8 ?_
  rw [← hQ]
  exact W.iret (v := (((x.toUInt64 >>> ((4 * n).toInt64.toUInt64 &&& Int64.toUInt64 63)).toInt64).toInt32) &&& 15) hx hb hr (fun t ht hW => ⟨_, rfl, rfl, ht⟩) (fun _ h => by cases h) dX0_coloursOf_9

set_option maxHeartbeats 4000000 in
set_option maxRecDepth 100000 in
theorem k_X0_worthOfSet (l : Launch) (x : Int64)  : Met l yX0_worthOfSet wsX0_worthOfSet ({ frames := 2, cells := 0, slots := 0, locals := 60 } : Room) (va_Pc [.long x] (fun _ => True)) (vp_Si (fun r => r = j_X0_worthOfSet x)) 0 0 (fun _ => False) := by
  refine Met.ofW (cc := cX0_worthOfSet) (maxL := 4) (ret := (some .int)) (by decide) rfl ?_
  intro p e s m args below meth c s₁ B hml hv
  obtain ⟨hargs, -⟩ := hv
  have hx := B.exec
  have hb := B.bytes
  have hr := B.returns
  have hlocks := B.notSynchronized
  have hts := atoms_spec (ws := wsX0_worthOfSet) B.pre
  have hown : s.vm.findClass RX0 = some m.cls := findClass_of_methodNamed B.named
  have k21 := hts (.methodLink RX0 21 yX0_worthOfNumber) (by decide +kernel)
  have k25 := hts (.methodLink RX0 25 yX0_coloursOf) (by decide +kernel)
  have k29 := hts (.methodLink RX0 29 yJ6_bitCount_0f7a4) (by decide +kernel)
  have k15 := hts (.methodLink RX0 15 yX0_jokersIn) (by decide +kernel)
  rw [show entryFrame m args 4 = entryFrame m ([.long x] : List Value).toArray 4 from by rw [hargs]]
  have hl := lv_entry ([.long x]) (n := 4) (Nat.le_of_ble_eq_true rfl)
  rw [lg_entry_eq]
  generalize (lg_sl ([.long x]) ++ List.replicate (4 - (lg_sl ([.long x])).length) Slot.unset).toArray = ls at hl ⊢
  have hl : lv_has ls 4 [(0, .long x)] := hl
  refine wQ (fun Q hQ => ?_)
  have lab10 : ∀ fuel10 : Nat, ∀ (i : Nat) (a : Int32) (x3 : Int32), (h3 : x3 = nI i) → (hi : i ≤ 13) → (ha : a = 20 * j_X0_jokersIn x + bx_sum (fun n => j_X0_worthOfNumber (nI n) * j_bcI (j_X0_coloursOf x (nI n))) i) → (hfu10 : 13 - i < fuel10) → ∀ ls : Array Slot, lv_has ls 4 [(0, .long x), (2, .int a), (3, .int x3)] → W p l e (headSpec wsX0_worthOfSet ({ frames := 2, cells := 0, slots := 0, locals := 60 } : Room)).room s m args below meth c s.heap [] 0 0 Q (F0 m 10 ls []) := by
    intro fuel10
    induction fuel10 with
    | zero =>
      intro i a x3 h3 hi ha hfu10
      exact absurd hfu10 (Nat.not_lt_zero _)
    | succ fuel10 ih10 =>
      intro i a x3 h3 hi ha hfu10 ls hl
      refine lv_iload_n hx hb dX0_worthOfSet_10 rfl (lv_at hl 2 rfl) ?_
      refine lv_bipush (v := 13) hx hb dX0_worthOfSet_11 (by decide) ?_
      refine lv_icmp_ge (tgt := 38) hx hb dX0_worthOfSet_13 (by decide) (fun c_13 => ?_) (fun c_13 => ?_)
      · have hi13 := hp_ge h3 (by decide : (13 : Int32) = nI 13) hi (by decide) c_13
        refine lv_iload_n hx hb dX0_worthOfSet_38 rfl (lv_at hl 1 rfl) ?_
        rw [← hQ]
        exact W.iret (v := a) hx hb hr (fun t ht hW => ⟨_, rfl, (by subst hi13; exact ha), ht⟩) (fun _ h => by cases h) dX0_worthOfSet_39
      · have hlt := hp_lt h3 (by decide : (13 : Int32) = nI 13) hi (by decide) c_13
        refine lv_iload_n hx hb dX0_worthOfSet_16 rfl (lv_at hl 1 rfl) ?_
        refine lv_iload_n hx hb dX0_worthOfSet_17 rfl (lv_at hl 2 rfl) ?_
        refine vp_callSi (W.runS (As := [.int x3]) (rest := [.int a]) ⟨hx, hb, hml, hown, hts⟩ (k_X0_worthOfNumber l x3 ) (va_cwS 1 hts gX0_worthOfSet_X0_worthOfNumber rfl rfl rfl (by decide +kernel) ⟨Nat.le_of_ble_eq_true rfl, Nat.le_of_ble_eq_true rfl⟩) ⟨pS_fb, pS_pre⟩ rfl rfl hl.1 rfl (lv_room (Nat.le_of_ble_eq_true rfl)) dX0_worthOfSet_18 ⟨Nat.le_of_ble_eq_true rfl, Nat.le_of_ble_eq_true rfl⟩) (fun x18 hx18 => ?_)
        subst hx18
        refine lv_lload_n hx hb dX0_worthOfSet_21 rfl (lv_at hl 0 rfl) ?_
        refine lv_iload_n hx hb dX0_worthOfSet_22 rfl (lv_at hl 2 rfl) ?_
        refine vp_callSi (W.runS (As := [.long x, .int x3]) (rest := [.int (j_X0_worthOfNumber x3), .int a]) ⟨hx, hb, hml, hown, hts⟩ (k_X0_coloursOf l x x3 ) (va_cwS 2 hts gX0_worthOfSet_X0_coloursOf rfl rfl rfl (by decide +kernel) ⟨Nat.le_of_ble_eq_true rfl, Nat.le_of_ble_eq_true rfl⟩) ⟨pS_fb, pS_pre⟩ rfl rfl hl.1 rfl (lv_room (Nat.le_of_ble_eq_true rfl)) dX0_worthOfSet_23 ⟨Nat.le_of_ble_eq_true rfl, Nat.le_of_ble_eq_true rfl⟩) (fun x23 hx23 => ?_)
        subst hx23
        refine vp_callSi (W.runS (As := [.int (j_X0_coloursOf x x3)]) (rest := [.int (j_X0_worthOfNumber x3), .int a]) ⟨hx, hb, hml, hown, hts⟩ (k_J6_bitCount_0f7a4 l (j_X0_coloursOf x x3) ) (va_cwS 1 hts gX0_worthOfSet_J6_bitCount_0f7a4 rfl rfl rfl (by decide +kernel) ⟨Nat.le_of_ble_eq_true rfl, Nat.le_of_ble_eq_true rfl⟩) ⟨pS_fb, pS_pre⟩ rfl rfl hl.1 rfl (lv_room (Nat.le_of_ble_eq_true rfl)) dX0_worthOfSet_26 ⟨Nat.le_of_ble_eq_true rfl, Nat.le_of_ble_eq_true rfl⟩) (fun x26 hx26 => ?_)
        subst hx26
        refine lv_imul hx hb dX0_worthOfSet_29 ?_
        refine lv_iadd hx hb dX0_worthOfSet_30 ?_
        refine lv_topi (fun x31 ex31 => ?_)
        refine lv_istore_n (lv' := [(2, .int x31), (0, .long x), (3, .int x3)]) hx hb dX0_worthOfSet_31 rfl hl (by decide) rfl (fun ls hl => ?_)
        obtain ⟨x32, ex32⟩ : ∃ y : Int32, y = x3 + 1 := ⟨_, rfl⟩
        refine lv_iinc (v := x32) (lv' := [(3, .int x32), (2, .int x31), (0, .long x)]) hx hb dX0_worthOfSet_32 hl (k := 2) rfl (by rw [ex32]; rfl) (by decide) rfl (fun ls hl => ?_)
        refine lv_goto (tgt := 10) hx hb dX0_worthOfSet_35 (by decide) ?_
        exact ih10 (i + 1) x31 x32 (hp_s (by assumption) h3) (by omega) (by subst_vars; simp only [bx_sum]; ac_rfl) (by omega) ls (lv_sub hl [2, 1, 0] rfl)
  refine lv_bipush (v := 20) hx hb dX0_worthOfSet_0 (by decide) ?_
  refine lv_lload_n hx hb dX0_worthOfSet_2 rfl (lv_at hl 0 rfl) ?_
  refine vp_callSi (W.runS (As := [.long x]) (rest := [.int 20]) ⟨hx, hb, hml, hown, hts⟩ (k_X0_jokersIn l x ) (va_cwS 1 hts gX0_worthOfSet_X0_jokersIn rfl rfl rfl (by decide +kernel) ⟨Nat.le_of_ble_eq_true rfl, Nat.le_of_ble_eq_true rfl⟩) ⟨pS_fb, pS_pre⟩ rfl rfl hl.1 rfl (lv_room (Nat.le_of_ble_eq_true rfl)) dX0_worthOfSet_3 ⟨Nat.le_of_ble_eq_true rfl, Nat.le_of_ble_eq_true rfl⟩) (fun x3 hx3 => ?_)
  subst hx3
  refine lv_imul hx hb dX0_worthOfSet_6 ?_
  refine lv_topi (fun x7 ex7 => ?_)
  refine lv_istore_n (lv' := [(2, .int x7), (0, .long x)]) hx hb dX0_worthOfSet_7 rfl hl (by decide) rfl (fun ls hl => ?_)
  refine lv_iconst (v := 0) hx hb dX0_worthOfSet_8 (by decide) ?_
  refine lv_istore_n (lv' := [(3, .int 0), (2, .int x7), (0, .long x)]) hx hb dX0_worthOfSet_9 rfl hl (by decide) rfl (fun ls hl => ?_)
  exact lab10 _ 0 x7 0 (nI_0.symm) (by omega) (by subst_vars; simp [bx_sum]) (Nat.lt_succ_self _) ls (lv_sub hl [2, 1, 0] rfl)

set_option maxHeartbeats 4000000 in
set_option maxRecDepth 100000 in
theorem k_X5_grouped (l : Launch) (t : Int32)  : Met l yX5_grouped wsX5_grouped ({ frames := 0, cells := 0, slots := 0, locals := 0 } : Room) (va_Pc [.int t] (fun _ => True)) (vp_Si (fun r => r = j_X5_grouped t)) 0 0 (fun _ => False) := by
  refine Met.ofW (cc := cX5_grouped) (maxL := 1) (ret := (some .int)) (by decide) rfl ?_
  intro p e s m args below meth c s₁ B hml hv
  obtain ⟨hargs, -⟩ := hv
  have hx := B.exec
  have hb := B.bytes
  have hr := B.returns
  have hlocks := B.notSynchronized
  have hts := atoms_spec (ws := wsX5_grouped) B.pre
  have hown : s.vm.findClass RX5 = some m.cls := findClass_of_methodNamed B.named
  rw [show entryFrame m args 1 = entryFrame m ([.int t] : List Value).toArray 1 from by rw [hargs]]
  have hl := lv_entry ([.int t]) (n := 1) (Nat.le_of_ble_eq_true rfl)
  rw [lg_entry_eq]
  generalize (lg_sl ([.int t]) ++ List.replicate (1 - (lg_sl ([.int t])).length) Slot.unset).toArray = ls at hl ⊢
  have hl : lv_has ls 1 [(0, .int t)] := hl
  refine wQ (fun Q hQ => ?_)
  refine lv_iload_n hx hb dX5_grouped_0 rfl (lv_at hl 0 rfl) ?_
  refine lv_bipush (v := 15) hx hb dX5_grouped_1 (by decide) ?_
  refine lv_iand hx hb dX5_grouped_3 ?_
  rw [← hQ]
  exact W.iret (v := t &&& 15) hx hb hr (fun t ht hW => ⟨_, rfl, rfl, ht⟩) (fun _ h => by cases h) dX5_grouped_4

set_option maxHeartbeats 4000000 in
set_option maxRecDepth 100000 in
theorem k_X5_begun (l : Launch) (t : Int32)  : Met l yX5_begun wsX5_begun ({ frames := 0, cells := 0, slots := 0, locals := 0 } : Room) (va_Pc [.int t] (fun _ => True)) (vp_Si (fun r => r = j_X5_begun t)) 0 0 (fun _ => False) := by
  refine Met.ofW (cc := cX5_begun) (maxL := 1) (ret := (some .int)) (by decide) rfl ?_
  intro p e s m args below meth c s₁ B hml hv
  obtain ⟨hargs, -⟩ := hv
  have hx := B.exec
  have hb := B.bytes
  have hr := B.returns
  have hlocks := B.notSynchronized
  have hts := atoms_spec (ws := wsX5_begun) B.pre
  have hown : s.vm.findClass RX5 = some m.cls := findClass_of_methodNamed B.named
  rw [show entryFrame m args 1 = entryFrame m ([.int t] : List Value).toArray 1 from by rw [hargs]]
  have hl := lv_entry ([.int t]) (n := 1) (Nat.le_of_ble_eq_true rfl)
  rw [lg_entry_eq]
  generalize (lg_sl ([.int t]) ++ List.replicate (1 - (lg_sl ([.int t])).length) Slot.unset).toArray = ls at hl ⊢
  have hl : lv_has ls 1 [(0, .int t)] := hl
  refine wQ (fun Q hQ => ?_)
  refine lv_iload_n hx hb dX5_begun_0 rfl (lv_at hl 0 rfl) ?_
  refine lv_iconst (v := 4) hx hb dX5_begun_1 (by decide) ?_
  refine lv_ishr hx hb dX5_begun_2 ?_
  refine lv_bipush (v := 15) hx hb dX5_begun_3 (by decide) ?_
  refine lv_iand hx hb dX5_begun_5 ?_
  rw [← hQ]
  exact W.iret (v := (t >>> (4 &&& 31)) &&& 15) hx hb hr (fun t ht hW => ⟨_, rfl, rfl, ht⟩) (fun _ h => by cases h) dX5_begun_6

set_option maxHeartbeats 4000000 in
set_option maxRecDepth 100000 in
theorem k_X5_continued (l : Launch) (t : Int32)  : Met l yX5_continued wsX5_continued ({ frames := 0, cells := 0, slots := 0, locals := 0 } : Room) (va_Pc [.int t] (fun _ => True)) (vp_Si (fun r => r = j_X5_continued t)) 0 0 (fun _ => False) := by
  refine Met.ofW (cc := cX5_continued) (maxL := 1) (ret := (some .int)) (by decide) rfl ?_
  intro p e s m args below meth c s₁ B hml hv
  obtain ⟨hargs, -⟩ := hv
  have hx := B.exec
  have hb := B.bytes
  have hr := B.returns
  have hlocks := B.notSynchronized
  have hts := atoms_spec (ws := wsX5_continued) B.pre
  have hown : s.vm.findClass RX5 = some m.cls := findClass_of_methodNamed B.named
  rw [show entryFrame m args 1 = entryFrame m ([.int t] : List Value).toArray 1 from by rw [hargs]]
  have hl := lv_entry ([.int t]) (n := 1) (Nat.le_of_ble_eq_true rfl)
  rw [lg_entry_eq]
  generalize (lg_sl ([.int t]) ++ List.replicate (1 - (lg_sl ([.int t])).length) Slot.unset).toArray = ls at hl ⊢
  have hl : lv_has ls 1 [(0, .int t)] := hl
  refine wQ (fun Q hQ => ?_)
  refine lv_iload_n hx hb dX5_continued_0 rfl (lv_at hl 0 rfl) ?_
  refine lv_bipush (v := 8) hx hb dX5_continued_1 (by decide) ?_
  refine lv_ishr hx hb dX5_continued_3 ?_
  refine lv_bipush (v := 15) hx hb dX5_continued_4 (by decide) ?_
  refine lv_iand hx hb dX5_continued_6 ?_
  rw [← hQ]
  exact W.iret (v := (t >>> (8 &&& 31)) &&& 15) hx hb hr (fun t ht hW => ⟨_, rfl, rfl, ht⟩) (fun _ h => by cases h) dX5_continued_7

set_option maxHeartbeats 4000000 in
set_option maxRecDepth 100000 in
theorem k_X5_shown (l : Launch) (t : Int32)  : Met l yX5_shown wsX5_shown ({ frames := 0, cells := 0, slots := 0, locals := 0 } : Room) (va_Pc [.int t] (fun _ => True)) (vp_Si (fun r => r = j_X5_shown t)) 0 0 (fun _ => False) := by
  refine Met.ofW (cc := cX5_shown) (maxL := 1) (ret := (some .int)) (by decide) rfl ?_
  intro p e s m args below meth c s₁ B hml hv
  obtain ⟨hargs, -⟩ := hv
  have hx := B.exec
  have hb := B.bytes
  have hr := B.returns
  have hlocks := B.notSynchronized
  have hts := atoms_spec (ws := wsX5_shown) B.pre
  have hown : s.vm.findClass RX5 = some m.cls := findClass_of_methodNamed B.named
  rw [show entryFrame m args 1 = entryFrame m ([.int t] : List Value).toArray 1 from by rw [hargs]]
  have hl := lv_entry ([.int t]) (n := 1) (Nat.le_of_ble_eq_true rfl)
  rw [lg_entry_eq]
  generalize (lg_sl ([.int t]) ++ List.replicate (1 - (lg_sl ([.int t])).length) Slot.unset).toArray = ls at hl ⊢
  have hl : lv_has ls 1 [(0, .int t)] := hl
  refine wQ (fun Q hQ => ?_)
  refine lv_iload_n hx hb dX5_shown_0 rfl (lv_at hl 0 rfl) ?_
  refine lv_bipush (v := 12) hx hb dX5_shown_1 (by decide) ?_
  refine lv_ishr hx hb dX5_shown_3 ?_
  refine lv_bipush (v := 15) hx hb dX5_shown_4 (by decide) ?_
  refine lv_iand hx hb dX5_shown_6 ?_
  rw [← hQ]
  exact W.iret (v := (t >>> (12 &&& 31)) &&& 15) hx hb hr (fun t ht hW => ⟨_, rfl, rfl, ht⟩) (fun _ h => by cases h) dX5_shown_7

set_option maxHeartbeats 4000000 in
set_option maxRecDepth 100000 in
theorem k_X5_placeOf (l : Launch) (t col : Int32)  : Met l yX5_placeOf wsX5_placeOf ({ frames := 1, cells := 0, slots := 0, locals := 20 } : Room) (va_Pc [.int t, .int col] (fun _ => True)) (vp_Si (fun r => r = j_X5_placeOf t col)) 0 0 (fun _ => False) := by
  refine Met.ofW (cc := cX5_placeOf) (maxL := 2) (ret := (some .int)) (by decide) rfl ?_
  intro p e s m args below meth c s₁ B hml hv
  obtain ⟨hargs, -⟩ := hv
  have hx := B.exec
  have hb := B.bytes
  have hr := B.returns
  have hlocks := B.notSynchronized
  have hts := atoms_spec (ws := wsX5_placeOf) B.pre
  have hown : s.vm.findClass RX5 = some m.cls := findClass_of_methodNamed B.named
  have k15 := hts (.methodLink RX5 15 yX5_grouped) (by decide +kernel)
  have k23 := hts (.methodLink RX5 23 yX5_begun) (by decide +kernel)
  have k26 := hts (.methodLink RX5 26 yX5_continued) (by decide +kernel)
  rw [show entryFrame m args 2 = entryFrame m ([.int t, .int col] : List Value).toArray 2 from by rw [hargs]]
  have hl := lv_entry ([.int t, .int col]) (n := 2) (Nat.le_of_ble_eq_true rfl)
  rw [lg_entry_eq]
  generalize (lg_sl ([.int t, .int col]) ++ List.replicate (2 - (lg_sl ([.int t, .int col])).length) Slot.unset).toArray = ls at hl ⊢
  have hl : lv_has ls 2 [(0, .int t), (1, .int col)] := hl
  refine wQ (fun Q hQ => ?_)
  refine lv_iload_n hx hb dX5_placeOf_0 rfl (lv_at hl 0 rfl) ?_
  refine vp_callSi (W.runS (As := [.int t]) (rest := []) ⟨hx, hb, hml, hown, hts⟩ (k_X5_grouped l t ) (va_cwS 1 hts gX5_placeOf_X5_grouped rfl rfl rfl (by decide +kernel) ⟨Nat.le_of_ble_eq_true rfl, Nat.le_of_ble_eq_true rfl⟩) ⟨pS_fb, pS_pre⟩ rfl rfl hl.1 rfl (lv_room (Nat.le_of_ble_eq_true rfl)) dX5_placeOf_1 ⟨Nat.le_of_ble_eq_true rfl, Nat.le_of_ble_eq_true rfl⟩) (fun x1 hx1 => ?_)
  subst hx1
  refine lv_iload_n hx hb dX5_placeOf_4 rfl (lv_at hl 1 rfl) ?_
  refine lv_ishr hx hb dX5_placeOf_5 ?_
  refine lv_iconst (v := 1) hx hb dX5_placeOf_6 (by decide) ?_
  refine lv_iand hx hb dX5_placeOf_7 ?_
  refine lv_if_eq (tgt := 13) hx hb dX5_placeOf_8 (by decide) (fun c_8 => ?_) (fun c_8 => ?_)
  · refine lv_iload_n hx hb dX5_placeOf_13 rfl (lv_at hl 0 rfl) ?_
    refine vp_callSi (W.runS (As := [.int t]) (rest := []) ⟨hx, hb, hml, hown, hts⟩ (k_X5_begun l t ) (va_cwS 1 hts gX5_placeOf_X5_begun rfl rfl rfl (by decide +kernel) ⟨Nat.le_of_ble_eq_true rfl, Nat.le_of_ble_eq_true rfl⟩) ⟨pS_fb, pS_pre⟩ rfl rfl hl.1 rfl (lv_room (Nat.le_of_ble_eq_true rfl)) dX5_placeOf_14 ⟨Nat.le_of_ble_eq_true rfl, Nat.le_of_ble_eq_true rfl⟩) (fun x14 hx14 => ?_)
    subst hx14
    refine lv_iload_n hx hb dX5_placeOf_17 rfl (lv_at hl 1 rfl) ?_
    refine lv_ishr hx hb dX5_placeOf_18 ?_
    refine lv_iconst (v := 1) hx hb dX5_placeOf_19 (by decide) ?_
    refine lv_iand hx hb dX5_placeOf_20 ?_
    refine lv_if_eq (tgt := 26) hx hb dX5_placeOf_21 (by decide) (fun c_21 => ?_) (fun c_21 => ?_)
    · refine lv_iload_n hx hb dX5_placeOf_26 rfl (lv_at hl 0 rfl) ?_
      refine vp_callSi (W.runS (As := [.int t]) (rest := []) ⟨hx, hb, hml, hown, hts⟩ (k_X5_continued l t ) (va_cwS 1 hts gX5_placeOf_X5_continued rfl rfl rfl (by decide +kernel) ⟨Nat.le_of_ble_eq_true rfl, Nat.le_of_ble_eq_true rfl⟩) ⟨pS_fb, pS_pre⟩ rfl rfl hl.1 rfl (lv_room (Nat.le_of_ble_eq_true rfl)) dX5_placeOf_27 ⟨Nat.le_of_ble_eq_true rfl, Nat.le_of_ble_eq_true rfl⟩) (fun x27 hx27 => ?_)
      subst hx27
      refine lv_iload_n hx hb dX5_placeOf_30 rfl (lv_at hl 1 rfl) ?_
      refine lv_ishr hx hb dX5_placeOf_31 ?_
      refine lv_iconst (v := 1) hx hb dX5_placeOf_32 (by decide) ?_
      refine lv_iand hx hb dX5_placeOf_33 ?_
      refine lv_if_eq (tgt := 41) hx hb dX5_placeOf_34 (by decide) (fun c_34 => ?_) (fun c_34 => ?_)
      · refine lv_iconst (v := 0) hx hb dX5_placeOf_41 (by decide) ?_
        rw [← hQ]
        exact W.iret (v := 0) hx hb hr (fun t ht hW => ⟨_, rfl, (by simp only [j_X5_placeOf]; (repeat' split) <;> first | rfl | contradiction), ht⟩) (fun _ h => by cases h) dX5_placeOf_42
      · refine lv_iconst (v := 3) hx hb dX5_placeOf_37 (by decide) ?_
        refine lv_goto (tgt := 42) hx hb dX5_placeOf_38 (by decide) ?_
        rw [← hQ]
        exact W.iret (v := 3) hx hb hr (fun t ht hW => ⟨_, rfl, (by simp only [j_X5_placeOf]; (repeat' split) <;> first | rfl | contradiction), ht⟩) (fun _ h => by cases h) dX5_placeOf_42
    · refine lv_iconst (v := 2) hx hb dX5_placeOf_24 (by decide) ?_
      rw [← hQ]
      exact W.iret (v := 2) hx hb hr (fun t ht hW => ⟨_, rfl, (by simp only [j_X5_placeOf]; (repeat' split) <;> first | rfl | contradiction), ht⟩) (fun _ h => by cases h) dX5_placeOf_25
  · refine lv_iconst (v := 1) hx hb dX5_placeOf_11 (by decide) ?_
    rw [← hQ]
    exact W.iret (v := 1) hx hb hr (fun t ht hW => ⟨_, rfl, (by simp only [j_X5_placeOf]; (repeat' split) <;> first | rfl | contradiction), ht⟩) (fun _ h => by cases h) dX5_placeOf_12

set_option maxHeartbeats 4000000 in
set_option maxRecDepth 100000 in
theorem k_X5_canContinue (l : Launch) (st on : Int32)  : Met l yX5_canContinue wsX5_canContinue ({ frames := 0, cells := 0, slots := 0, locals := 0 } : Room) (va_Pc [.int st, .int on] (fun _ => True)) (vp_Si (fun r => r = j_X5_canContinue st on)) 0 0 (fun _ => False) := by
  refine Met.ofW (cc := cX5_canContinue) (maxL := 4) (ret := (some .boolean)) (by decide) rfl ?_
  intro p e s m args below meth c s₁ B hml hv
  obtain ⟨hargs, -⟩ := hv
  have hx := B.exec
  have hb := B.bytes
  have hr := B.returns
  have hlocks := B.notSynchronized
  have hts := atoms_spec (ws := wsX5_canContinue) B.pre
  have hown : s.vm.findClass RX5 = some m.cls := findClass_of_methodNamed B.named
  rw [show entryFrame m args 4 = entryFrame m ([.int st, .int on] : List Value).toArray 4 from by rw [hargs]]
  have hl := lv_entry ([.int st, .int on]) (n := 4) (Nat.le_of_ble_eq_true rfl)
  rw [lg_entry_eq]
  generalize (lg_sl ([.int st, .int on]) ++ List.replicate (4 - (lg_sl ([.int st, .int on])).length) Slot.unset).toArray = ls at hl ⊢
  have hl : lv_has ls 4 [(0, .int st), (1, .int on)] := hl
  refine wQ (fun Q hQ => ?_)
  refine lv_iload_n hx hb dX5_canContinue_0 rfl (lv_at hl 0 rfl) ?_
  refine lv_bipush (v := 15) hx hb dX5_canContinue_1 (by decide) ?_
  refine lv_iand hx hb dX5_canContinue_3 ?_
  refine lv_topi (fun x4 ex4 => ?_)
  refine lv_istore_n (lv' := [(2, .int x4), (0, .int st), (1, .int on)]) hx hb dX5_canContinue_4 rfl hl (by decide) rfl (fun ls hl => ?_)
  refine lv_iload_n hx hb dX5_canContinue_5 rfl (lv_at hl 1 rfl) ?_
  refine lv_iconst (v := 4) hx hb dX5_canContinue_6 (by decide) ?_
  refine lv_ishr hx hb dX5_canContinue_7 ?_
  refine lv_bipush (v := 15) hx hb dX5_canContinue_8 (by decide) ?_
  refine lv_iand hx hb dX5_canContinue_10 ?_
  refine lv_topi (fun x11 ex11 => ?_)
  refine lv_istore_n (lv' := [(3, .int x11), (2, .int x4), (0, .int st), (1, .int on)]) hx hb dX5_canContinue_11 rfl hl (by decide) rfl (fun ls hl => ?_)
  refine lv_iload_n hx hb dX5_canContinue_12 rfl (lv_at hl 1 rfl) ?_
  refine lv_iload_n hx hb dX5_canContinue_13 rfl (lv_at hl 0 rfl) ?_
  refine lv_ixor hx hb dX5_canContinue_14 ?_
  refine lv_iload_n hx hb dX5_canContinue_15 rfl (lv_at hl 3 rfl) ?_
  refine lv_iconst (v := (-1)) hx hb dX5_canContinue_16 (by decide) ?_
  refine lv_ixor hx hb dX5_canContinue_17 ?_
  refine lv_iand hx hb dX5_canContinue_18 ?_
  refine lv_if_ne (tgt := 36) hx hb dX5_canContinue_19 (by decide) (fun c_19 => ?_) (fun c_19 => ?_)
  · refine lv_iconst (v := 0) hx hb dX5_canContinue_36 (by decide) ?_
    rw [← hQ]
    exact W.zret (v := 0) hx hb hr (by first | decide | rfl | assumption) (fun t ht hW => ⟨_, rfl, (by subst_vars; simp only [j_X5_canContinue]; (repeat' split) <;> first | rfl | contradiction), ht⟩) (fun _ h => by cases h) dX5_canContinue_37
  · refine lv_iload_n hx hb dX5_canContinue_22 rfl (lv_at hl 3 rfl) ?_
    refine lv_iload_n hx hb dX5_canContinue_23 rfl (lv_at hl 1 rfl) ?_
    refine lv_iload_n hx hb dX5_canContinue_24 rfl (lv_at hl 0 rfl) ?_
    refine lv_ior hx hb dX5_canContinue_25 ?_
    refine lv_iconst (v := (-1)) hx hb dX5_canContinue_26 (by decide) ?_
    refine lv_ixor hx hb dX5_canContinue_27 ?_
    refine lv_iand hx hb dX5_canContinue_28 ?_
    refine lv_if_ne (tgt := 36) hx hb dX5_canContinue_29 (by decide) (fun c_29 => ?_) (fun c_29 => ?_)
    · refine lv_iconst (v := 0) hx hb dX5_canContinue_36 (by decide) ?_
      rw [← hQ]
      exact W.zret (v := 0) hx hb hr (by first | decide | rfl | assumption) (fun t ht hW => ⟨_, rfl, (by subst_vars; simp only [j_X5_canContinue]; (repeat' split) <;> first | rfl | contradiction), ht⟩) (fun _ h => by cases h) dX5_canContinue_37
    · refine lv_iconst (v := 1) hx hb dX5_canContinue_32 (by decide) ?_
      refine lv_goto (tgt := 37) hx hb dX5_canContinue_33 (by decide) ?_
      rw [← hQ]
      exact W.zret (v := 1) hx hb hr (by first | decide | rfl | assumption) (fun t ht hW => ⟨_, rfl, (by subst_vars; simp only [j_X5_canContinue]; (repeat' split) <;> first | rfl | contradiction), ht⟩) (fun _ h => by cases h) dX5_canContinue_37

set_option maxHeartbeats 4000000 in
set_option maxRecDepth 100000 in
theorem k_X5_stateAfter (l : Launch) (st t : Int32)  : Met l yX5_stateAfter wsX5_stateAfter ({ frames := 1, cells := 0, slots := 0, locals := 20 } : Room) (va_Pc [.int st, .int t] (fun _ => True)) (vp_Si (fun r => r = j_X5_stateAfter st t)) 0 0 (fun _ => False) := by
  refine Met.ofW (cc := cX5_stateAfter) (maxL := 3) (ret := (some .int)) (by decide) rfl ?_
  intro p e s m args below meth c s₁ B hml hv
  obtain ⟨hargs, -⟩ := hv
  have hx := B.exec
  have hb := B.bytes
  have hr := B.returns
  have hlocks := B.notSynchronized
  have hts := atoms_spec (ws := wsX5_stateAfter) B.pre
  have hown : s.vm.findClass RX5 = some m.cls := findClass_of_methodNamed B.named
  have k26 := hts (.methodLink RX5 26 yX5_continued) (by decide +kernel)
  have k23 := hts (.methodLink RX5 23 yX5_begun) (by decide +kernel)
  rw [show entryFrame m args 3 = entryFrame m ([.int st, .int t] : List Value).toArray 3 from by rw [hargs]]
  have hl := lv_entry ([.int st, .int t]) (n := 3) (Nat.le_of_ble_eq_true rfl)
  rw [lg_entry_eq]
  generalize (lg_sl ([.int st, .int t]) ++ List.replicate (3 - (lg_sl ([.int st, .int t])).length) Slot.unset).toArray = ls at hl ⊢
  have hl : lv_has ls 3 [(0, .int st), (1, .int t)] := hl
  refine wQ (fun Q hQ => ?_)
  refine lv_iload_n hx hb dX5_stateAfter_0 rfl (lv_at hl 1 rfl) ?_
  refine vp_callSi (W.runS (As := [.int t]) (rest := []) ⟨hx, hb, hml, hown, hts⟩ (k_X5_continued l t ) (va_cwS 1 hts gX5_stateAfter_X5_continued rfl rfl rfl (by decide +kernel) ⟨Nat.le_of_ble_eq_true rfl, Nat.le_of_ble_eq_true rfl⟩) ⟨pS_fb, pS_pre⟩ rfl rfl hl.1 rfl (lv_room (Nat.le_of_ble_eq_true rfl)) dX5_stateAfter_1 ⟨Nat.le_of_ble_eq_true rfl, Nat.le_of_ble_eq_true rfl⟩) (fun x1 hx1 => ?_)
  subst hx1
  refine lv_topi (fun x4 ex4 => ?_)
  refine lv_istore_n (lv' := [(2, .int x4), (0, .int st), (1, .int t)]) hx hb dX5_stateAfter_4 rfl hl (by decide) rfl (fun ls hl => ?_)
  refine lv_iload_n hx hb dX5_stateAfter_5 rfl (lv_at hl 2 rfl) ?_
  refine vp_callSi (W.runS (As := [.int t]) (rest := []) ⟨hx, hb, hml, hown, hts⟩ (k_X5_begun l t ) (va_cwS 1 hts gX5_stateAfter_X5_begun rfl rfl rfl (by decide +kernel) ⟨Nat.le_of_ble_eq_true rfl, Nat.le_of_ble_eq_true rfl⟩) ⟨pS_fb, pS_pre⟩ rfl rfl hl.1 rfl (lv_room (Nat.le_of_ble_eq_true rfl)) dX5_stateAfter_6 ⟨Nat.le_of_ble_eq_true rfl, Nat.le_of_ble_eq_true rfl⟩) (fun x6 hx6 => ?_)
  subst hx6
  refine lv_iload_n hx hb dX5_stateAfter_9 rfl (lv_at hl 0 rfl) ?_
  refine lv_iload_n hx hb dX5_stateAfter_10 rfl (lv_at hl 1 rfl) ?_
  refine lv_iconst (v := 4) hx hb dX5_stateAfter_11 (by decide) ?_
  refine lv_ishr hx hb dX5_stateAfter_12 ?_
  refine lv_iand hx hb dX5_stateAfter_13 ?_
  refine lv_ior hx hb dX5_stateAfter_14 ?_
  refine lv_iload_n hx hb dX5_stateAfter_15 rfl (lv_at hl 0 rfl) ?_
  refine lv_iconst (v := 4) hx hb dX5_stateAfter_16 (by decide) ?_
  refine lv_ishl hx hb dX5_stateAfter_17 ?_
  refine lv_ior hx hb dX5_stateAfter_18 ?_
  rw [← hQ]
  exact W.iret (v := ((j_X5_begun t) ||| (x4 &&& (st >>> (4 &&& 31)))) ||| (x4 <<< (4 &&& 31))) hx hb hr (fun t ht hW => ⟨_, rfl, (by subst_vars; rfl), ht⟩) (fun _ h => by cases h) dX5_stateAfter_19

set_option maxHeartbeats 4000000 in
set_option maxRecDepth 100000 in
theorem k_X5_mayEnd (l : Launch) (st : Int32)  : Met l yX5_mayEnd wsX5_mayEnd ({ frames := 0, cells := 0, slots := 0, locals := 0 } : Room) (va_Pc [.int st] (fun _ => True)) (vp_Si (fun r => r = j_X5_mayEnd st)) 0 0 (fun _ => False) := by
  refine Met.ofW (cc := cX5_mayEnd) (maxL := 1) (ret := (some .boolean)) (by decide) rfl ?_
  intro p e s m args below meth c s₁ B hml hv
  obtain ⟨hargs, -⟩ := hv
  have hx := B.exec
  have hb := B.bytes
  have hr := B.returns
  have hlocks := B.notSynchronized
  have hts := atoms_spec (ws := wsX5_mayEnd) B.pre
  have hown : s.vm.findClass RX5 = some m.cls := findClass_of_methodNamed B.named
  rw [show entryFrame m args 1 = entryFrame m ([.int st] : List Value).toArray 1 from by rw [hargs]]
  have hl := lv_entry ([.int st]) (n := 1) (Nat.le_of_ble_eq_true rfl)
  rw [lg_entry_eq]
  generalize (lg_sl ([.int st]) ++ List.replicate (1 - (lg_sl ([.int st])).length) Slot.unset).toArray = ls at hl ⊢
  have hl : lv_has ls 1 [(0, .int st)] := hl
  refine wQ (fun Q hQ => ?_)
  refine lv_iload_n hx hb dX5_mayEnd_0 rfl (lv_at hl 0 rfl) ?_
  refine lv_bipush (v := 15) hx hb dX5_mayEnd_1 (by decide) ?_
  refine lv_iand hx hb dX5_mayEnd_3 ?_
  refine lv_iload_n hx hb dX5_mayEnd_4 rfl (lv_at hl 0 rfl) ?_
  refine lv_iconst (v := 4) hx hb dX5_mayEnd_5 (by decide) ?_
  refine lv_ishr hx hb dX5_mayEnd_6 ?_
  refine lv_bipush (v := 15) hx hb dX5_mayEnd_7 (by decide) ?_
  refine lv_iand hx hb dX5_mayEnd_9 ?_
  refine lv_icmp_ne (tgt := 17) hx hb dX5_mayEnd_10 (by decide) (fun c_10 => ?_) (fun c_10 => ?_)
  · refine lv_iconst (v := 0) hx hb dX5_mayEnd_17 (by decide) ?_
    rw [← hQ]
    exact W.zret (v := 0) hx hb hr (by first | decide | rfl | assumption) (fun t ht hW => ⟨_, rfl, (by simp only [j_X5_mayEnd]; (repeat' split) <;> first | rfl | contradiction), ht⟩) (fun _ h => by cases h) dX5_mayEnd_18
  · refine lv_iconst (v := 1) hx hb dX5_mayEnd_13 (by decide) ?_
    refine lv_goto (tgt := 18) hx hb dX5_mayEnd_14 (by decide) ?_
    rw [← hQ]
    exact W.zret (v := 1) hx hb hr (by first | decide | rfl | assumption) (fun t ht hW => ⟨_, rfl, (by simp only [j_X5_mayEnd]; (repeat' split) <;> first | rfl | contradiction), ht⟩) (fun _ h => by cases h) dX5_mayEnd_18

set_option maxHeartbeats 4000000 in
set_option maxRecDepth 100000 in
theorem k_X7_isAim (l : Launch) (aim : Int32)  : Met l yX7_isAim wsX7_isAim ({ frames := 0, cells := 0, slots := 0, locals := 0 } : Room) (va_Pc [.int aim] (fun _ => True)) (vp_Si (fun r => r = j_X7_isAim aim)) 0 0 (fun _ => False) := by
  refine Met.ofW (cc := cX7_isAim) (maxL := 1) (ret := (some .boolean)) (by decide) rfl ?_
  intro p e s m args below meth c s₁ B hml hv
  obtain ⟨hargs, -⟩ := hv
  have hx := B.exec
  have hb := B.bytes
  have hr := B.returns
  have hlocks := B.notSynchronized
  have hts := atoms_spec (ws := wsX7_isAim) B.pre
  have hown : s.vm.findClass RX7 = some m.cls := findClass_of_methodNamed B.named
  rw [show entryFrame m args 1 = entryFrame m ([.int aim] : List Value).toArray 1 from by rw [hargs]]
  have hl := lv_entry ([.int aim]) (n := 1) (Nat.le_of_ble_eq_true rfl)
  rw [lg_entry_eq]
  generalize (lg_sl ([.int aim]) ++ List.replicate (1 - (lg_sl ([.int aim])).length) Slot.unset).toArray = ls at hl ⊢
  have hl : lv_has ls 1 [(0, .int aim)] := hl
  refine wQ (fun Q hQ => ?_)
  refine lv_iload_n hx hb dX7_isAim_0 rfl (lv_at hl 0 rfl) ?_
  refine lv_if_eq (tgt := 9) hx hb dX7_isAim_1 (by decide) (fun c_1 => ?_) (fun c_1 => ?_)
  · refine lv_iconst (v := 1) hx hb dX7_isAim_9 (by decide) ?_
    refine lv_goto (tgt := 14) hx hb dX7_isAim_10 (by decide) ?_
    rw [← hQ]
    exact W.zret (v := 1) hx hb hr (by first | decide | rfl | assumption) (fun t ht hW => ⟨_, rfl, (by simp only [j_X7_isAim]; (repeat' split) <;> first | rfl | contradiction), ht⟩) (fun _ h => by cases h) dX7_isAim_14
  · refine lv_iload_n hx hb dX7_isAim_4 rfl (lv_at hl 0 rfl) ?_
    refine lv_iconst (v := 1) hx hb dX7_isAim_5 (by decide) ?_
    refine lv_icmp_ne (tgt := 13) hx hb dX7_isAim_6 (by decide) (fun c_6 => ?_) (fun c_6 => ?_)
    · refine lv_iconst (v := 0) hx hb dX7_isAim_13 (by decide) ?_
      rw [← hQ]
      exact W.zret (v := 0) hx hb hr (by first | decide | rfl | assumption) (fun t ht hW => ⟨_, rfl, (by simp only [j_X7_isAim]; (repeat' split) <;> first | rfl | contradiction), ht⟩) (fun _ h => by cases h) dX7_isAim_14
    · refine lv_iconst (v := 1) hx hb dX7_isAim_9 (by decide) ?_
      refine lv_goto (tgt := 14) hx hb dX7_isAim_10 (by decide) ?_
      rw [← hQ]
      exact W.zret (v := 1) hx hb hr (by first | decide | rfl | assumption) (fun t ht hW => ⟨_, rfl, (by simp only [j_X7_isAim]; (repeat' split) <;> first | rfl | contradiction), ht⟩) (fun _ h => by cases h) dX7_isAim_14

set_option maxHeartbeats 4000000 in
set_option maxRecDepth 100000 in
theorem k_X3_isCell (l : Launch) (st us : Int32)  : Met l yX3_isCell wsX3_isCell ({ frames := 0, cells := 0, slots := 0, locals := 0 } : Room) (va_Pc [.int st, .int us] (fun _ => True)) (vp_Si (fun r => r = j_X3_isCell st us)) 0 0 (fun _ => False) := by
  refine Met.ofW (cc := cX3_isCell) (maxL := 2) (ret := (some .boolean)) (by decide) rfl ?_
  intro p e s m args below meth c s₁ B hml hv
  obtain ⟨hargs, -⟩ := hv
  have hx := B.exec
  have hb := B.bytes
  have hr := B.returns
  have hlocks := B.notSynchronized
  have hts := atoms_spec (ws := wsX3_isCell) B.pre
  have hown : s.vm.findClass RX3 = some m.cls := findClass_of_methodNamed B.named
  rw [show entryFrame m args 2 = entryFrame m ([.int st, .int us] : List Value).toArray 2 from by rw [hargs]]
  have hl := lv_entry ([.int st, .int us]) (n := 2) (Nat.le_of_ble_eq_true rfl)
  rw [lg_entry_eq]
  generalize (lg_sl ([.int st, .int us]) ++ List.replicate (2 - (lg_sl ([.int st, .int us])).length) Slot.unset).toArray = ls at hl ⊢
  have hl : lv_has ls 2 [(0, .int st), (1, .int us)] := hl
  refine wQ (fun Q hQ => ?_)
  refine lv_iload_n hx hb dX3_isCell_0 rfl (lv_at hl 0 rfl) ?_
  refine lv_if_lt (tgt := 24) hx hb dX3_isCell_1 (by decide) (fun c_1 => ?_) (fun c_1 => ?_)
  · refine lv_iconst (v := 0) hx hb dX3_isCell_24 (by decide) ?_
    rw [← hQ]
    exact W.zret (v := 0) hx hb hr (by first | decide | rfl | assumption) (fun t ht hW => ⟨_, rfl, (by simp only [j_X3_isCell]; (repeat' split) <;> first | rfl | contradiction), ht⟩) (fun _ h => by cases h) dX3_isCell_25
  · refine lv_iload_n hx hb dX3_isCell_4 rfl (lv_at hl 0 rfl) ?_
    refine lv_sipush (v := 256) hx hb dX3_isCell_5 (by decide) ?_
    refine lv_icmp_ge (tgt := 24) hx hb dX3_isCell_8 (by decide) (fun c_8 => ?_) (fun c_8 => ?_)
    · refine lv_iconst (v := 0) hx hb dX3_isCell_24 (by decide) ?_
      rw [← hQ]
      exact W.zret (v := 0) hx hb hr (by first | decide | rfl | assumption) (fun t ht hW => ⟨_, rfl, (by simp only [j_X3_isCell]; (repeat' split) <;> first | rfl | contradiction), ht⟩) (fun _ h => by cases h) dX3_isCell_25
    · refine lv_iload_n hx hb dX3_isCell_11 rfl (lv_at hl 1 rfl) ?_
      refine lv_if_lt (tgt := 24) hx hb dX3_isCell_12 (by decide) (fun c_12 => ?_) (fun c_12 => ?_)
      · refine lv_iconst (v := 0) hx hb dX3_isCell_24 (by decide) ?_
        rw [← hQ]
        exact W.zret (v := 0) hx hb hr (by first | decide | rfl | assumption) (fun t ht hW => ⟨_, rfl, (by simp only [j_X3_isCell]; (repeat' split) <;> first | rfl | contradiction), ht⟩) (fun _ h => by cases h) dX3_isCell_25
      · refine lv_iload_n hx hb dX3_isCell_15 rfl (lv_at hl 1 rfl) ?_
        refine lv_iconst (v := 3) hx hb dX3_isCell_16 (by decide) ?_
        refine lv_icmp_ge (tgt := 24) hx hb dX3_isCell_17 (by decide) (fun c_17 => ?_) (fun c_17 => ?_)
        · refine lv_iconst (v := 0) hx hb dX3_isCell_24 (by decide) ?_
          rw [← hQ]
          exact W.zret (v := 0) hx hb hr (by first | decide | rfl | assumption) (fun t ht hW => ⟨_, rfl, (by simp only [j_X3_isCell]; (repeat' split) <;> first | rfl | contradiction), ht⟩) (fun _ h => by cases h) dX3_isCell_25
        · refine lv_iconst (v := 1) hx hb dX3_isCell_20 (by decide) ?_
          refine lv_goto (tgt := 25) hx hb dX3_isCell_21 (by decide) ?_
          rw [← hQ]
          exact W.zret (v := 1) hx hb hr (by first | decide | rfl | assumption) (fun t ht hW => ⟨_, rfl, (by simp only [j_X3_isCell]; (repeat' split) <;> first | rfl | contradiction), ht⟩) (fun _ h => by cases h) dX3_isCell_25

set_option maxHeartbeats 4000000 in
set_option maxRecDepth 100000 in
theorem k_X1_bitOf (l : Launch) (card : Int32)  : Met l yX1_bitOf wsX1_bitOf ({ frames := 0, cells := 0, slots := 0, locals := 0 } : Room) (va_Pc [.int card] (fun _ => True)) (vp_Sl (fun r => r = j_X1_bitOf card)) 0 0 (fun _ => False) := by
  refine Met.ofW (cc := cX1_bitOf) (maxL := 1) (ret := (some .long)) (by decide) rfl ?_
  intro p e s m args below meth c s₁ B hml hv
  obtain ⟨hargs, -⟩ := hv
  have hx := B.exec
  have hb := B.bytes
  have hr := B.returns
  have hlocks := B.notSynchronized
  have hts := atoms_spec (ws := wsX1_bitOf) B.pre
  have hown : s.vm.findClass RX1 = some m.cls := findClass_of_methodNamed B.named
  rw [show entryFrame m args 1 = entryFrame m ([.int card] : List Value).toArray 1 from by rw [hargs]]
  have hl := lv_entry ([.int card]) (n := 1) (Nat.le_of_ble_eq_true rfl)
  rw [lg_entry_eq]
  generalize (lg_sl ([.int card]) ++ List.replicate (1 - (lg_sl ([.int card])).length) Slot.unset).toArray = ls at hl ⊢
  have hl : lv_has ls 1 [(0, .int card)] := hl
  refine wQ (fun Q hQ => ?_)
  refine lv_iload_n hx hb dX1_bitOf_0 rfl (lv_at hl 0 rfl) ?_
  refine lv_if_lt (tgt := 16) hx hb dX1_bitOf_1 (by decide) (fun c_1 => ?_) (fun c_1 => ?_)
  · refine lv_lconst (v := 0) hx hb dX1_bitOf_16 (by decide) ?_
    rw [← hQ]
    exact W.lret (v := 0) hx hb hr (fun t ht hW => ⟨_, rfl, (by simp only [j_X1_bitOf]; (repeat' split) <;> first | rfl | contradiction), ht⟩) (fun _ h => by cases h) dX1_bitOf_17
  · refine lv_iload_n hx hb dX1_bitOf_4 rfl (lv_at hl 0 rfl) ?_
    refine lv_bipush (v := 54) hx hb dX1_bitOf_5 (by decide) ?_
    refine lv_icmp_ge (tgt := 16) hx hb dX1_bitOf_7 (by decide) (fun c_7 => ?_) (fun c_7 => ?_)
    · refine lv_lconst (v := 0) hx hb dX1_bitOf_16 (by decide) ?_
      rw [← hQ]
      exact W.lret (v := 0) hx hb hr (fun t ht hW => ⟨_, rfl, (by simp only [j_X1_bitOf]; (repeat' split) <;> first | rfl | contradiction), ht⟩) (fun _ h => by cases h) dX1_bitOf_17
    · refine lv_lconst (v := 1) hx hb dX1_bitOf_10 (by decide) ?_
      refine lv_iload_n hx hb dX1_bitOf_11 rfl (lv_at hl 0 rfl) ?_
      refine lv_lshl hx hb dX1_bitOf_12 rfl ?_
      refine lv_goto (tgt := 17) hx hb dX1_bitOf_13 (by decide) ?_
      rw [← hQ]
      exact W.lret (v := 1 <<< (card.toInt64 &&& 63)) hx hb hr (fun t ht hW => ⟨_, rfl, (by simp only [j_X1_bitOf]; (repeat' split) <;> first | rfl | contradiction), ht⟩) (fun _ h => by cases h) dX1_bitOf_17

set_option maxHeartbeats 4000000 in
set_option maxRecDepth 100000 in
theorem k_X5_fromPlaces (l : Launch) (code : Int32)  : Met l yX5_fromPlaces wsX5_fromPlaces ({ frames := 0, cells := 0, slots := 0, locals := 0 } : Room) (va_Pc [.int code] (fun _ => True)) (vp_Si (fun r => r = j_X5_fromPlaces code)) 0 0 (fun _ => False) := by
  refine Met.ofW (cc := cX5_fromPlaces) (maxL := 4) (ret := (some .int)) (by decide) rfl ?_
  intro p e s m args below meth c s₁ B hml hv
  obtain ⟨hargs, -⟩ := hv
  have hx := B.exec
  have hb := B.bytes
  have hr := B.returns
  have hlocks := B.notSynchronized
  have hts := atoms_spec (ws := wsX5_fromPlaces) B.pre
  have hown : s.vm.findClass RX5 = some m.cls := findClass_of_methodNamed B.named
  rw [show entryFrame m args 4 = entryFrame m ([.int code] : List Value).toArray 4 from by rw [hargs]]
  have hl := lv_entry ([.int code]) (n := 4) (Nat.le_of_ble_eq_true rfl)
  rw [lg_entry_eq]
  generalize (lg_sl ([.int code]) ++ List.replicate (4 - (lg_sl ([.int code])).length) Slot.unset).toArray = ls at hl ⊢
  have hl : lv_has ls 4 [(0, .int code)] := hl
  refine wQ (fun Q hQ => ?_)
  have lab4 : ∀ fuel4 : Nat, ∀ (i : Nat) (a : Int32) (x2 : Int32), (h2 : x2 = nI i) → (hi : i ≤ 4) → (ha : a = j_fp code i) → (hfu4 : 4 - i < fuel4) → ∀ ls : Array Slot, lv_has ls 4 [(0, .int code), (1, .int a), (2, .int x2)] → W p l e (headSpec wsX5_fromPlaces ({ frames := 0, cells := 0, slots := 0, locals := 0 } : Room)).room s m args below meth c s.heap [] 0 0 Q (F0 m 4 ls []) := by
    intro fuel4
    induction fuel4 with
    | zero =>
      intro i a x2 h2 hi ha hfu4
      exact absurd hfu4 (Nat.not_lt_zero _)
    | succ fuel4 ih4 =>
      intro i a x2 h2 hi ha hfu4 ls hl
      refine lv_iload_n hx hb dX5_fromPlaces_4 rfl (lv_at hl 2 rfl) ?_
      refine lv_iconst (v := 4) hx hb dX5_fromPlaces_5 (by decide) ?_
      refine lv_icmp_ge (tgt := 48) hx hb dX5_fromPlaces_6 (by decide) (fun c_6 => ?_) (fun c_6 => ?_)
      · have hi4 := hp_ge h2 (by decide : (4 : Int32) = nI 4) hi (by decide) c_6
        refine lv_iload_n hx hb dX5_fromPlaces_48 rfl (lv_at hl 1 rfl) ?_
        rw [← hQ]
        exact W.iret (v := a) hx hb hr (fun t ht hW => ⟨_, rfl, (by subst hi4; exact ha), ht⟩) (fun _ h => by cases h) dX5_fromPlaces_49
      · have hlt := hp_lt h2 (by decide : (4 : Int32) = nI 4) hi (by decide) c_6
        refine lv_iload_n hx hb dX5_fromPlaces_9 rfl (lv_at hl 0 rfl) ?_
        refine lv_iconst (v := 2) hx hb dX5_fromPlaces_10 (by decide) ?_
        refine lv_iconst (v := 3) hx hb dX5_fromPlaces_11 (by decide) ?_
        refine lv_iload_n hx hb dX5_fromPlaces_12 rfl (lv_at hl 2 rfl) ?_
        refine lv_isub hx hb dX5_fromPlaces_13 ?_
        refine lv_imul hx hb dX5_fromPlaces_14 ?_
        refine lv_ishr hx hb dX5_fromPlaces_15 ?_
        refine lv_iconst (v := 3) hx hb dX5_fromPlaces_16 (by decide) ?_
        refine lv_iand hx hb dX5_fromPlaces_17 ?_
        refine lv_topi (fun x18 ex18 => ?_)
        refine lv_istore_n (lv' := [(3, .int x18), (0, .int code), (1, .int a), (2, .int x2)]) hx hb dX5_fromPlaces_18 rfl hl (by decide) rfl (fun ls hl => ?_)
        refine lv_iload_n hx hb dX5_fromPlaces_19 rfl (lv_at hl 0 rfl) ?_
        refine lv_if_eq (tgt := 42) hx hb dX5_fromPlaces_20 (by decide) (fun c_20 => ?_) (fun c_20 => ?_)
        · obtain ⟨x42, ex42⟩ : ∃ y : Int32, y = x2 + 1 := ⟨_, rfl⟩
          refine lv_iinc (v := x42) (lv' := [(2, .int x42), (3, .int x18), (0, .int code), (1, .int a)]) hx hb dX5_fromPlaces_42 hl (k := 3) rfl (by rw [ex42]; rfl) (by decide) rfl (fun ls hl => ?_)
          refine lv_goto (tgt := 4) hx hb dX5_fromPlaces_45 (by decide) ?_
          exact ih4 (i + 1) a x42 (hp_s (by assumption) h2) (by omega) (by subst ex18; subst ha; subst h2; (try subst ex41); simp only [j_fp]; split <;> first | rfl | contradiction) (by omega) ls (lv_sub hl [2, 3, 0] rfl)
        · refine lv_iload_n hx hb dX5_fromPlaces_23 rfl (lv_at hl 2 rfl) ?_
          refine lv_iconst (v := 1) hx hb dX5_fromPlaces_24 (by decide) ?_
          refine lv_iconst (v := 4) hx hb dX5_fromPlaces_25 (by decide) ?_
          refine lv_iload_n hx hb dX5_fromPlaces_26 rfl (lv_at hl 0 rfl) ?_
          refine lv_iconst (v := 1) hx hb dX5_fromPlaces_27 (by decide) ?_
          refine lv_isub hx hb dX5_fromPlaces_28 ?_
          refine lv_imul hx hb dX5_fromPlaces_29 ?_
          refine lv_iload_n hx hb dX5_fromPlaces_30 rfl (lv_at hl 3 rfl) ?_
          refine lv_iadd hx hb dX5_fromPlaces_31 ?_
          refine lv_ishl hx hb dX5_fromPlaces_32 ?_
          refine lv_iconst (v := 1) hx hb dX5_fromPlaces_33 (by decide) ?_
          refine lv_bipush (v := 12) hx hb dX5_fromPlaces_34 (by decide) ?_
          refine lv_iload_n hx hb dX5_fromPlaces_36 rfl (lv_at hl 3 rfl) ?_
          refine lv_iadd hx hb dX5_fromPlaces_37 ?_
          refine lv_ishl hx hb dX5_fromPlaces_38 ?_
          refine lv_ior hx hb dX5_fromPlaces_39 ?_
          refine lv_ior hx hb dX5_fromPlaces_40 ?_
          refine lv_topi (fun x41 ex41 => ?_)
          refine lv_istore_n (lv' := [(1, .int x41), (3, .int x18), (0, .int code), (2, .int x2)]) hx hb dX5_fromPlaces_41 rfl hl (by decide) rfl (fun ls hl => ?_)
          obtain ⟨x42, ex42⟩ : ∃ y : Int32, y = x2 + 1 := ⟨_, rfl⟩
          refine lv_iinc (v := x42) (lv' := [(2, .int x42), (1, .int x41), (3, .int x18), (0, .int code)]) hx hb dX5_fromPlaces_42 hl (k := 3) rfl (by rw [ex42]; rfl) (by decide) rfl (fun ls hl => ?_)
          refine lv_goto (tgt := 4) hx hb dX5_fromPlaces_45 (by decide) ?_
          exact ih4 (i + 1) x41 x42 (hp_s (by assumption) h2) (by omega) (by subst ex18; subst ha; subst h2; (try subst ex41); simp only [j_fp]; split <;> first | rfl | contradiction) (by omega) ls (lv_sub hl [3, 1, 0] rfl)
  refine lv_iconst (v := 0) hx hb dX5_fromPlaces_0 (by decide) ?_
  refine lv_istore_n (lv' := [(1, .int 0), (0, .int code)]) hx hb dX5_fromPlaces_1 rfl hl (by decide) rfl (fun ls hl => ?_)
  refine lv_iconst (v := 0) hx hb dX5_fromPlaces_2 (by decide) ?_
  refine lv_istore_n (lv' := [(2, .int 0), (1, .int 0), (0, .int code)]) hx hb dX5_fromPlaces_3 rfl hl (by decide) rfl (fun ls hl => ?_)
  exact lab4 _ 0 0 0 (nI_0.symm) (by omega) (rfl) (Nat.lt_succ_self _) ls (lv_sub hl [2, 1, 0] rfl)

set_option maxHeartbeats 4000000 in
set_option maxRecDepth 100000 in
theorem k_X6_withoutLast (l : Launch) (col : Int32)  : Met l yX6_withoutLast wsX6_withoutLast ({ frames := 0, cells := 0, slots := 0, locals := 0 } : Room) (va_Pc [.int col] (fun _ => True)) (vp_Si (fun r => r = j_X6_withoutLast col)) 0 0 (fun _ => False) := by
  refine Met.ofW (cc := cX6_withoutLast) (maxL := 2) (ret := (some .int)) (by decide) rfl ?_
  intro p e s m args below meth c s₁ B hml hv
  obtain ⟨hargs, -⟩ := hv
  have hx := B.exec
  have hb := B.bytes
  have hr := B.returns
  have hlocks := B.notSynchronized
  have hts := atoms_spec (ws := wsX6_withoutLast) B.pre
  have hown : s.vm.findClass RX6 = some m.cls := findClass_of_methodNamed B.named
  rw [show entryFrame m args 2 = entryFrame m ([.int col] : List Value).toArray 2 from by rw [hargs]]
  have hl := lv_entry ([.int col]) (n := 2) (Nat.le_of_ble_eq_true rfl)
  rw [lg_entry_eq]
  generalize (lg_sl ([.int col]) ++ List.replicate (2 - (lg_sl ([.int col])).length) Slot.unset).toArray = ls at hl ⊢
  have hl : lv_has ls 2 [(0, .int col)] := hl
  refine wQ (fun Q hQ => ?_)
  have lab2 : ∀ fuel2 : Nat, ∀ (i : Nat) (x1 : Int32), (h1 : x1 = nI i - 1) → (hi : i ≤ 4) → (ha : j_X6_withoutLast col = j_wl col i) → (hfu2 : i < fuel2) → ∀ ls : Array Slot, lv_has ls 2 [(0, .int col), (1, .int x1)] → W p l e (headSpec wsX6_withoutLast ({ frames := 0, cells := 0, slots := 0, locals := 0 } : Room)).room s m args below meth c s.heap [] 0 0 Q (F0 m 2 ls []) := by
    intro fuel2
    induction fuel2 with
    | zero =>
      intro i x1 h1 hi ha hfu2
      exact absurd hfu2 (Nat.not_lt_zero _)
    | succ fuel2 ih2 =>
      intro i x1 h1 hi ha hfu2 ls hl
      refine lv_iload_n hx hb dX6_withoutLast_2 rfl (lv_at hl 1 rfl) ?_
      refine lv_if_lt (tgt := 28) hx hb dX6_withoutLast_3 (by decide) (fun c_3 => ?_) (fun c_3 => ?_)
      · have hi0 : i = 0 := hp_m1 h1 hi c_3
        refine lv_iconst (v := 0) hx hb dX6_withoutLast_28 (by decide) ?_
        rw [← hQ]
        exact W.iret (v := 0) hx hb hr (fun t ht hW => ⟨_, rfl, (by subst hi0; exact ha.symm), ht⟩) (fun _ h => by cases h) dX6_withoutLast_29
      · have hi0 : 0 < i := hp_m1p h1 hi c_3
        refine lv_iload_n hx hb dX6_withoutLast_6 rfl (lv_at hl 0 rfl) ?_
        refine lv_iload_n hx hb dX6_withoutLast_7 rfl (lv_at hl 1 rfl) ?_
        refine lv_ishr hx hb dX6_withoutLast_8 ?_
        refine lv_iconst (v := 1) hx hb dX6_withoutLast_9 (by decide) ?_
        refine lv_iand hx hb dX6_withoutLast_10 ?_
        refine lv_if_eq (tgt := 22) hx hb dX6_withoutLast_11 (by decide) (fun c_11 => ?_) (fun c_11 => ?_)
        · obtain ⟨x22, ex22⟩ : ∃ y : Int32, y = x1 + (-1) := ⟨_, rfl⟩
          refine lv_iinc (v := x22) (lv' := [(1, .int x22), (0, .int col)]) hx hb dX6_withoutLast_22 hl (k := 1) rfl (by rw [ex22]; rfl) (by decide) rfl (fun ls hl => ?_)
          refine lv_goto (tgt := 2) hx hb dX6_withoutLast_25 (by decide) ?_
          exact ih2 (i - 1) x22 (by subst_vars; exact hp_wl hi0) (by omega) (by rw [ha]; exact hp_wl2 hi0 h1 c_11) (by omega) ls (lv_sub hl [1, 0] rfl)
        · refine lv_iload_n hx hb dX6_withoutLast_14 rfl (lv_at hl 0 rfl) ?_
          refine lv_iconst (v := 1) hx hb dX6_withoutLast_15 (by decide) ?_
          refine lv_iload_n hx hb dX6_withoutLast_16 rfl (lv_at hl 1 rfl) ?_
          refine lv_ishl hx hb dX6_withoutLast_17 ?_
          refine lv_iconst (v := (-1)) hx hb dX6_withoutLast_18 (by decide) ?_
          refine lv_ixor hx hb dX6_withoutLast_19 ?_
          refine lv_iand hx hb dX6_withoutLast_20 ?_
          rw [← hQ]
          exact W.iret (v := col &&& ((1 <<< (x1 &&& 31)) ^^^ (-1))) hx hb hr (fun t ht hW => ⟨_, rfl, (by rw [ha]; exact hp_wl3 hi0 h1 c_11), ht⟩) (fun _ h => by cases h) dX6_withoutLast_21
  refine lv_iconst (v := 3) hx hb dX6_withoutLast_0 (by decide) ?_
  refine lv_istore_n (lv' := [(1, .int 3), (0, .int col)]) hx hb dX6_withoutLast_1 rfl hl (by decide) rfl (fun ls hl => ?_)
  exact lab2 _ 4 3 (by decide) (by omega) (rfl) (Nat.lt_succ_self _) ls (lv_sub hl [1, 0] rfl)

set_option maxHeartbeats 4000000 in
set_option maxRecDepth 100000 in
theorem k_X8_isSet (l : Launch) (x : Int64)  : Met l yX8_isSet wsX8_isSet ({ frames := 0, cells := 0, slots := 0, locals := 0 } : Room) (va_Pc [.long x] (fun _ => True)) (vp_Si (fun r => r = j_X8_isSet x)) 0 0 (fun _ => False) := by
  refine Met.ofW (cc := cX8_isSet) (maxL := 2) (ret := (some .boolean)) (by decide) rfl ?_
  intro p e s m args below meth c s₁ B hml hv
  obtain ⟨hargs, -⟩ := hv
  have hx := B.exec
  have hb := B.bytes
  have hr := B.returns
  have hlocks := B.notSynchronized
  have hts := atoms_spec (ws := wsX8_isSet) B.pre
  have hown : s.vm.findClass RX8 = some m.cls := findClass_of_methodNamed B.named
  have k53 := hts (.constantLong RX8 53 (18014398509481983)) (by decide +kernel)
  rw [show entryFrame m args 2 = entryFrame m ([.long x] : List Value).toArray 2 from by rw [hargs]]
  have hl := lv_entry ([.long x]) (n := 2) (Nat.le_of_ble_eq_true rfl)
  rw [lg_entry_eq]
  generalize (lg_sl ([.long x]) ++ List.replicate (2 - (lg_sl ([.long x])).length) Slot.unset).toArray = ls at hl ⊢
  have hl : lv_has ls 2 [(0, .long x)] := hl
  refine wQ (fun Q hQ => ?_)
  refine lv_lload_n hx hb dX8_isSet_0 rfl (lv_at hl 0 rfl) ?_
  refine lv_lconst (v := 0) hx hb dX8_isSet_1 (by decide) ?_
  refine W.lcmp hx hb dX8_isSet_2 ?_
  refine lv_if_lt (tgt := 18) hx hb dX8_isSet_3 (by decide) (fun c_3 => ?_) (fun c_3 => ?_)
  · refine lv_iconst (v := 0) hx hb dX8_isSet_18 (by decide) ?_
    rw [← hQ]
    exact W.zret (v := 0) hx hb hr (by first | decide | rfl | assumption) (fun t ht hW => ⟨_, rfl, (by simp only [j_X8_isSet]; (repeat' split) <;> first | rfl | contradiction), ht⟩) (fun _ h => by cases h) dX8_isSet_19
  · refine lv_lload_n hx hb dX8_isSet_6 rfl (lv_at hl 0 rfl) ?_
    refine lv_ldc2 hx hb hown k53 dX8_isSet_7 ?_
    refine W.lcmp hx hb dX8_isSet_10 ?_
    refine lv_if_gt (tgt := 18) hx hb dX8_isSet_11 (by decide) (fun c_11 => ?_) (fun c_11 => ?_)
    · refine lv_iconst (v := 0) hx hb dX8_isSet_18 (by decide) ?_
      rw [← hQ]
      exact W.zret (v := 0) hx hb hr (by first | decide | rfl | assumption) (fun t ht hW => ⟨_, rfl, (by simp only [j_X8_isSet]; (repeat' split) <;> first | rfl | contradiction), ht⟩) (fun _ h => by cases h) dX8_isSet_19
    · refine lv_iconst (v := 1) hx hb dX8_isSet_14 (by decide) ?_
      refine lv_goto (tgt := 19) hx hb dX8_isSet_15 (by decide) ?_
      rw [← hQ]
      exact W.zret (v := 1) hx hb hr (by first | decide | rfl | assumption) (fun t ht hW => ⟨_, rfl, (by simp only [j_X8_isSet]; (repeat' split) <;> first | rfl | contradiction), ht⟩) (fun _ h => by cases h) dX8_isSet_19

set_option maxHeartbeats 4000000 in
set_option maxRecDepth 100000 in
theorem k_X8_has (l : Launch) (x : Int64) (card : Int32)  : Met l yX8_has wsX8_has ({ frames := 0, cells := 0, slots := 0, locals := 0 } : Room) (va_Pc [.long x, .int card] (fun _ => True)) (vp_Si (fun r => r = j_X8_has x card)) 0 0 (fun _ => False) := by
  refine Met.ofW (cc := cX8_has) (maxL := 3) (ret := (some .boolean)) (by decide) rfl ?_
  intro p e s m args below meth c s₁ B hml hv
  obtain ⟨hargs, -⟩ := hv
  have hx := B.exec
  have hb := B.bytes
  have hr := B.returns
  have hlocks := B.notSynchronized
  have hts := atoms_spec (ws := wsX8_has) B.pre
  have hown : s.vm.findClass RX8 = some m.cls := findClass_of_methodNamed B.named
  rw [show entryFrame m args 3 = entryFrame m ([.long x, .int card] : List Value).toArray 3 from by rw [hargs]]
  have hl := lv_entry ([.long x, .int card]) (n := 3) (Nat.le_of_ble_eq_true rfl)
  rw [lg_entry_eq]
  generalize (lg_sl ([.long x, .int card]) ++ List.replicate (3 - (lg_sl ([.long x, .int card])).length) Slot.unset).toArray = ls at hl ⊢
  have hl : lv_has ls 3 [(0, .long x), (2, .int card)] := hl
  refine wQ (fun Q hQ => ?_)
  refine lv_lload_n hx hb dX8_has_0 rfl (lv_at hl 0 rfl) ?_
  refine lv_iload_n hx hb dX8_has_1 rfl (lv_at hl 1 rfl) ?_
  refine lv_lshr hx hb dX8_has_2 rfl ?_
  refine lv_lconst (v := 1) hx hb dX8_has_3 (by decide) ?_
  refine lv_land hx hb dX8_has_4 ?_
  refine lv_lconst (v := 1) hx hb dX8_has_5 (by decide) ?_
  refine W.lcmp hx hb dX8_has_6 ?_
  refine lv_if_ne (tgt := 14) hx hb dX8_has_7 (by decide) (fun c_7 => ?_) (fun c_7 => ?_)
  · refine lv_iconst (v := 0) hx hb dX8_has_14 (by decide) ?_
    rw [← hQ]
    exact W.zret (v := 0) hx hb hr (by first | decide | rfl | assumption) (fun t ht hW => ⟨_, rfl, (by simp only [j_X8_has]; (repeat' split) <;> first | rfl | contradiction), ht⟩) (fun _ h => by cases h) dX8_has_15
  · refine lv_iconst (v := 1) hx hb dX8_has_10 (by decide) ?_
    refine lv_goto (tgt := 15) hx hb dX8_has_11 (by decide) ?_
    rw [← hQ]
    exact W.zret (v := 1) hx hb hr (by first | decide | rfl | assumption) (fun t ht hW => ⟨_, rfl, (by simp only [j_X8_has]; (repeat' split) <;> first | rfl | contradiction), ht⟩) (fun _ h => by cases h) dX8_has_15

set_option maxHeartbeats 4000000 in
set_option maxRecDepth 100000 in
theorem k_X8_jokersOf (l : Launch) (x : Int64)  : Met l yX8_jokersOf wsX8_jokersOf ({ frames := 0, cells := 0, slots := 0, locals := 0 } : Room) (va_Pc [.long x] (fun _ => True)) (vp_Si (fun r => r = j_X8_jokersOf x)) 0 0 (fun _ => False) := by
  refine Met.ofW (cc := cX8_jokersOf) (maxL := 2) (ret := (some .int)) (by decide) rfl ?_
  intro p e s m args below meth c s₁ B hml hv
  obtain ⟨hargs, -⟩ := hv
  have hx := B.exec
  have hb := B.bytes
  have hr := B.returns
  have hlocks := B.notSynchronized
  have hts := atoms_spec (ws := wsX8_jokersOf) B.pre
  have hown : s.vm.findClass RX8 = some m.cls := findClass_of_methodNamed B.named
  rw [show entryFrame m args 2 = entryFrame m ([.long x] : List Value).toArray 2 from by rw [hargs]]
  have hl := lv_entry ([.long x]) (n := 2) (Nat.le_of_ble_eq_true rfl)
  rw [lg_entry_eq]
  generalize (lg_sl ([.long x]) ++ List.replicate (2 - (lg_sl ([.long x])).length) Slot.unset).toArray = ls at hl ⊢
  have hl : lv_has ls 2 [(0, .long x)] := hl
  refine wQ (fun Q hQ => ?_)
  refine lv_lload_n hx hb dX8_jokersOf_0 rfl (lv_at hl 0 rfl) ?_
  refine lv_bipush (v := 52) hx hb dX8_jokersOf_1 (by decide) ?_
  refine lv_lshr hx hb dX8_jokersOf_3 rfl ?_
  refine lv_lconst (v := 1) hx hb dX8_jokersOf_4 (by decide) ?_
  refine lv_land hx hb dX8_jokersOf_5 ?_
  refine lv_l2i hx hb dX8_jokersOf_6 rfl ?_
  refine lv_lload_n hx hb dX8_jokersOf_7 rfl (lv_at hl 0 rfl) ?_
  refine lv_bipush (v := 53) hx hb dX8_jokersOf_8 (by decide) ?_
  refine lv_lshr hx hb dX8_jokersOf_10 rfl ?_
  refine lv_lconst (v := 1) hx hb dX8_jokersOf_11 (by decide) ?_
  refine lv_land hx hb dX8_jokersOf_12 ?_
  refine lv_l2i hx hb dX8_jokersOf_13 rfl ?_
  refine lv_iadd hx hb dX8_jokersOf_14 ?_
  rw [← hQ]
  exact W.iret (v := (((x >>> ((52 : Int32).toInt64 &&& 63)) &&& 1).toInt32) + (((x >>> ((53 : Int32).toInt64 &&& 63)) &&& 1).toInt32)) hx hb hr (fun t ht hW => ⟨_, rfl, rfl, ht⟩) (fun _ h => by cases h) dX8_jokersOf_15

set_option maxHeartbeats 4000000 in
set_option maxRecDepth 100000 in
theorem k_X8_worthOf (l : Launch) (card : Int32)  : Met l yX8_worthOf wsX8_worthOf ({ frames := 0, cells := 0, slots := 0, locals := 0 } : Room) (va_Pc [.int card] (fun _ => True)) (vp_Si (fun r => r = j_X8_worthOf card)) 0 0 (fun _ => False) := by
  refine Met.ofW (cc := cX8_worthOf) (maxL := 1) (ret := (some .int)) (by decide) rfl ?_
  intro p e s m args below meth c s₁ B hml hv
  obtain ⟨hargs, -⟩ := hv
  have hx := B.exec
  have hb := B.bytes
  have hr := B.returns
  have hlocks := B.notSynchronized
  have hts := atoms_spec (ws := wsX8_worthOf) B.pre
  have hown : s.vm.findClass RX8 = some m.cls := findClass_of_methodNamed B.named
  rw [show entryFrame m args 1 = entryFrame m ([.int card] : List Value).toArray 1 from by rw [hargs]]
  have hl := lv_entry ([.int card]) (n := 1) (Nat.le_of_ble_eq_true rfl)
  rw [lg_entry_eq]
  generalize (lg_sl ([.int card]) ++ List.replicate (1 - (lg_sl ([.int card])).length) Slot.unset).toArray = ls at hl ⊢
  have hl : lv_has ls 1 [(0, .int card)] := hl
  refine wQ (fun Q hQ => ?_)
  refine lv_iload_n hx hb dX8_worthOf_0 rfl (lv_at hl 0 rfl) ?_
  refine lv_bipush (v := 51) hx hb dX8_worthOf_1 (by decide) ?_
  refine lv_icmp_le (tgt := 11) hx hb dX8_worthOf_3 (by decide) (fun c_3 => ?_) (fun c_3 => ?_)
  · refine lv_iload_n hx hb dX8_worthOf_11 rfl (lv_at hl 0 rfl) ?_
    refine lv_iconst (v := 4) hx hb dX8_worthOf_12 (by decide) ?_
    refine lv_idiv hx hb dX8_worthOf_13 (by decide) ?_
    refine lv_bipush (v := 8) hx hb dX8_worthOf_14 (by decide) ?_
    refine lv_icmp_le (tgt := 24) hx hb dX8_worthOf_16 (by decide) (fun c_16 => ?_) (fun c_16 => ?_)
    · refine lv_iload_n hx hb dX8_worthOf_24 rfl (lv_at hl 0 rfl) ?_
      refine lv_iconst (v := 4) hx hb dX8_worthOf_25 (by decide) ?_
      refine lv_idiv hx hb dX8_worthOf_26 (by decide) ?_
      refine lv_iconst (v := 1) hx hb dX8_worthOf_27 (by decide) ?_
      refine lv_iadd hx hb dX8_worthOf_28 ?_
      rw [← hQ]
      exact W.iret (v := (card / 4) + 1) hx hb hr (fun t ht hW => ⟨_, rfl, (by simp only [j_X8_worthOf]; (repeat' split) <;> first | rfl | contradiction), ht⟩) (fun _ h => by cases h) dX8_worthOf_29
    · refine lv_bipush (v := 10) hx hb dX8_worthOf_19 (by decide) ?_
      refine lv_goto (tgt := 29) hx hb dX8_worthOf_21 (by decide) ?_
      rw [← hQ]
      exact W.iret (v := 10) hx hb hr (fun t ht hW => ⟨_, rfl, (by simp only [j_X8_worthOf]; (repeat' split) <;> first | rfl | contradiction), ht⟩) (fun _ h => by cases h) dX8_worthOf_29
  · refine lv_bipush (v := 20) hx hb dX8_worthOf_6 (by decide) ?_
    refine lv_goto (tgt := 29) hx hb dX8_worthOf_8 (by decide) ?_
    rw [← hQ]
    exact W.iret (v := 20) hx hb hr (fun t ht hW => ⟨_, rfl, (by simp only [j_X8_worthOf]; (repeat' split) <;> first | rfl | contradiction), ht⟩) (fun _ h => by cases h) dX8_worthOf_29

set_option maxHeartbeats 4000000 in
set_option maxRecDepth 100000 in
theorem k_X8_run (l : Launch) (mk col : Int32)  : Met l yX8_run wsX8_run ({ frames := 0, cells := 0, slots := 0, locals := 0 } : Room) (va_Pc [.int mk, .int col] (fun _ => True)) (vp_Si (fun r => r = j_X8_run mk col)) 0 0 (fun _ => False) := by
  refine Met.ofW (cc := cX8_run) (maxL := 2) (ret := (some .int)) (by decide) rfl ?_
  intro p e s m args below meth c s₁ B hml hv
  obtain ⟨hargs, -⟩ := hv
  have hx := B.exec
  have hb := B.bytes
  have hr := B.returns
  have hlocks := B.notSynchronized
  have hts := atoms_spec (ws := wsX8_run) B.pre
  have hown : s.vm.findClass RX8 = some m.cls := findClass_of_methodNamed B.named
  rw [show entryFrame m args 2 = entryFrame m ([.int mk, .int col] : List Value).toArray 2 from by rw [hargs]]
  have hl := lv_entry ([.int mk, .int col]) (n := 2) (Nat.le_of_ble_eq_true rfl)
  rw [lg_entry_eq]
  generalize (lg_sl ([.int mk, .int col]) ++ List.replicate (2 - (lg_sl ([.int mk, .int col])).length) Slot.unset).toArray = ls at hl ⊢
  have hl : lv_has ls 2 [(0, .int mk), (1, .int col)] := hl
  refine wQ (fun Q hQ => ?_)
  refine lv_iload_n hx hb dX8_run_0 rfl (lv_at hl 0 rfl) ?_
  refine lv_bipush (v := 15) hx hb dX8_run_1 (by decide) ?_
  refine lv_idiv hx hb dX8_run_3 (by decide) ?_
  refine lv_iconst (v := 2) hx hb dX8_run_4 (by decide) ?_
  refine lv_iload_n hx hb dX8_run_5 rfl (lv_at hl 1 rfl) ?_
  refine lv_imul hx hb dX8_run_6 ?_
  refine lv_ishr hx hb dX8_run_7 ?_
  refine lv_iconst (v := 3) hx hb dX8_run_8 (by decide) ?_
  refine lv_iand hx hb dX8_run_9 ?_
  rw [← hQ]
  exact W.iret (v := ((mk / 15) >>> ((2 * col) &&& 31)) &&& 3) hx hb hr (fun t ht hW => ⟨_, rfl, rfl, ht⟩) (fun _ h => by cases h) dX8_run_10

set_option maxHeartbeats 4000000 in
set_option maxRecDepth 100000 in
theorem k_X8_inGroup (l : Launch) (mk : Int32)  : Met l yX8_inGroup wsX8_inGroup ({ frames := 0, cells := 0, slots := 0, locals := 0 } : Room) (va_Pc [.int mk] (fun _ => True)) (vp_Si (fun r => r = j_X8_inGroup mk)) 0 0 (fun _ => False) := by
  refine Met.ofW (cc := cX8_inGroup) (maxL := 1) (ret := (some .int)) (by decide) rfl ?_
  intro p e s m args below meth c s₁ B hml hv
  obtain ⟨hargs, -⟩ := hv
  have hx := B.exec
  have hb := B.bytes
  have hr := B.returns
  have hlocks := B.notSynchronized
  have hts := atoms_spec (ws := wsX8_inGroup) B.pre
  have hown : s.vm.findClass RX8 = some m.cls := findClass_of_methodNamed B.named
  rw [show entryFrame m args 1 = entryFrame m ([.int mk] : List Value).toArray 1 from by rw [hargs]]
  have hl := lv_entry ([.int mk]) (n := 1) (Nat.le_of_ble_eq_true rfl)
  rw [lg_entry_eq]
  generalize (lg_sl ([.int mk]) ++ List.replicate (1 - (lg_sl ([.int mk])).length) Slot.unset).toArray = ls at hl ⊢
  have hl : lv_has ls 1 [(0, .int mk)] := hl
  refine wQ (fun Q hQ => ?_)
  refine lv_iload_n hx hb dX8_inGroup_0 rfl (lv_at hl 0 rfl) ?_
  refine lv_iconst (v := 3) hx hb dX8_inGroup_1 (by decide) ?_
  refine lv_idiv hx hb dX8_inGroup_2 (by decide) ?_
  refine lv_iconst (v := 5) hx hb dX8_inGroup_3 (by decide) ?_
  refine lv_irem hx hb dX8_inGroup_4 (by decide) ?_
  rw [← hQ]
  exact W.iret (v := (mk / 3) - (mk / 3) / 5 * 5) hx hb hr (fun t ht hW => ⟨_, rfl, rfl, ht⟩) (fun _ h => by cases h) dX8_inGroup_5

set_option maxHeartbeats 4000000 in
set_option maxRecDepth 100000 in
theorem k_X8_jokers (l : Launch) (mk : Int32)  : Met l yX8_jokers wsX8_jokers ({ frames := 0, cells := 0, slots := 0, locals := 0 } : Room) (va_Pc [.int mk] (fun _ => True)) (vp_Si (fun r => r = j_X8_jokers mk)) 0 0 (fun _ => False) := by
  refine Met.ofW (cc := cX8_jokers) (maxL := 1) (ret := (some .int)) (by decide) rfl ?_
  intro p e s m args below meth c s₁ B hml hv
  obtain ⟨hargs, -⟩ := hv
  have hx := B.exec
  have hb := B.bytes
  have hr := B.returns
  have hlocks := B.notSynchronized
  have hts := atoms_spec (ws := wsX8_jokers) B.pre
  have hown : s.vm.findClass RX8 = some m.cls := findClass_of_methodNamed B.named
  rw [show entryFrame m args 1 = entryFrame m ([.int mk] : List Value).toArray 1 from by rw [hargs]]
  have hl := lv_entry ([.int mk]) (n := 1) (Nat.le_of_ble_eq_true rfl)
  rw [lg_entry_eq]
  generalize (lg_sl ([.int mk]) ++ List.replicate (1 - (lg_sl ([.int mk])).length) Slot.unset).toArray = ls at hl ⊢
  have hl : lv_has ls 1 [(0, .int mk)] := hl
  refine wQ (fun Q hQ => ?_)
  refine lv_iload_n hx hb dX8_jokers_0 rfl (lv_at hl 0 rfl) ?_
  refine lv_iconst (v := 3) hx hb dX8_jokers_1 (by decide) ?_
  refine lv_irem hx hb dX8_jokers_2 (by decide) ?_
  rw [← hQ]
  exact W.iret (v := mk - mk / 3 * 3) hx hb hr (fun t ht hW => ⟨_, rfl, rfl, ht⟩) (fun _ h => by cases h) dX8_jokers_3

set_option maxHeartbeats 4000000 in
set_option maxRecDepth 100000 in
theorem k_X8_gain (l : Launch) (card aim : Int32)  : Met l yX8_gain wsX8_gain ({ frames := 1, cells := 0, slots := 0, locals := 20 } : Room) (va_Pc [.int card, .int aim] (fun _ => True)) (vp_Si (fun r => r = j_X8_gain card aim)) 0 0 (fun _ => False) := by
  refine Met.ofW (cc := cX8_gain) (maxL := 2) (ret := (some .int)) (by decide) rfl ?_
  intro p e s m args below meth c s₁ B hml hv
  obtain ⟨hargs, -⟩ := hv
  have hx := B.exec
  have hb := B.bytes
  have hr := B.returns
  have hlocks := B.notSynchronized
  have hts := atoms_spec (ws := wsX8_gain) B.pre
  have hown : s.vm.findClass RX8 = some m.cls := findClass_of_methodNamed B.named
  have k59 := hts (.methodLink RX8 59 yX8_worthOf) (by decide +kernel)
  rw [show entryFrame m args 2 = entryFrame m ([.int card, .int aim] : List Value).toArray 2 from by rw [hargs]]
  have hl := lv_entry ([.int card, .int aim]) (n := 2) (Nat.le_of_ble_eq_true rfl)
  rw [lg_entry_eq]
  generalize (lg_sl ([.int card, .int aim]) ++ List.replicate (2 - (lg_sl ([.int card, .int aim])).length) Slot.unset).toArray = ls at hl ⊢
  have hl : lv_has ls 2 [(0, .int card), (1, .int aim)] := hl
  refine wQ (fun Q hQ => ?_)
  refine lv_iload_n hx hb dX8_gain_0 rfl (lv_at hl 1 rfl) ?_
  refine lv_if_ne (tgt := 8) hx hb dX8_gain_1 (by decide) (fun c_1 => ?_) (fun c_1 => ?_)
  · refine lv_iload_n hx hb dX8_gain_8 rfl (lv_at hl 0 rfl) ?_
    refine vp_callSi (W.runS (As := [.int card]) (rest := []) ⟨hx, hb, hml, hown, hts⟩ (k_X8_worthOf l card ) (va_cwS 1 hts gX8_gain_X8_worthOf rfl rfl rfl (by decide +kernel) ⟨Nat.le_of_ble_eq_true rfl, Nat.le_of_ble_eq_true rfl⟩) ⟨pS_fb, pS_pre⟩ rfl rfl hl.1 rfl (lv_room (Nat.le_of_ble_eq_true rfl)) dX8_gain_9 ⟨Nat.le_of_ble_eq_true rfl, Nat.le_of_ble_eq_true rfl⟩) (fun x9 hx9 => ?_)
    subst hx9
    rw [← hQ]
    exact W.iret (v := j_X8_worthOf card) hx hb hr (fun t ht hW => ⟨_, rfl, (by subst_vars; simp only [j_X8_gain]; (repeat' split) <;> first | rfl | contradiction), ht⟩) (fun _ h => by cases h) dX8_gain_12
  · refine lv_iconst (v := 1) hx hb dX8_gain_4 (by decide) ?_
    refine lv_goto (tgt := 12) hx hb dX8_gain_5 (by decide) ?_
    rw [← hQ]
    exact W.iret (v := 1) hx hb hr (fun t ht hW => ⟨_, rfl, (by subst_vars; simp only [j_X8_gain]; (repeat' split) <;> first | rfl | contradiction), ht⟩) (fun _ h => by cases h) dX8_gain_12

set_option maxHeartbeats 4000000 in
set_option maxRecDepth 100000 in
theorem k_X8_many (l : Launch) (x : Int64)  : Met l yX8_many wsX8_many ({ frames := 1, cells := 0, slots := 0, locals := 22 } : Room) (va_Pc [.long x] (fun _ => True)) (vp_Si (fun r => r = j_X8_many x)) 0 0 (fun _ => False) := by
  refine Met.ofW (cc := cX8_many) (maxL := 4) (ret := (some .int)) (by decide) rfl ?_
  intro p e s m args below meth c s₁ B hml hv
  obtain ⟨hargs, -⟩ := hv
  have hx := B.exec
  have hb := B.bytes
  have hr := B.returns
  have hlocks := B.notSynchronized
  have hts := atoms_spec (ws := wsX8_many) B.pre
  have hown : s.vm.findClass RX8 = some m.cls := findClass_of_methodNamed B.named
  have k55 := hts (.methodLink RX8 55 yX8_has) (by decide +kernel)
  rw [show entryFrame m args 4 = entryFrame m ([.long x] : List Value).toArray 4 from by rw [hargs]]
  have hl := lv_entry ([.long x]) (n := 4) (Nat.le_of_ble_eq_true rfl)
  rw [lg_entry_eq]
  generalize (lg_sl ([.long x]) ++ List.replicate (4 - (lg_sl ([.long x])).length) Slot.unset).toArray = ls at hl ⊢
  have hl : lv_has ls 4 [(0, .long x)] := hl
  refine wQ (fun Q hQ => ?_)
  have lab4 : ∀ fuel4 : Nat, ∀ (i : Nat) (a : Int32) (x3 : Int32), (h3 : x3 = nI i) → (hi : i ≤ 54) → (ha : a = bx_sum (fun k => if j_X8_has x (nI k) = 0 then 0 else 1) i) → (hfu4 : 54 - i < fuel4) → ∀ ls : Array Slot, lv_has ls 4 [(0, .long x), (2, .int a), (3, .int x3)] → W p l e (headSpec wsX8_many ({ frames := 1, cells := 0, slots := 0, locals := 22 } : Room)).room s m args below meth c s.heap [] 0 0 Q (F0 m 4 ls []) := by
    intro fuel4
    induction fuel4 with
    | zero =>
      intro i a x3 h3 hi ha hfu4
      exact absurd hfu4 (Nat.not_lt_zero _)
    | succ fuel4 ih4 =>
      intro i a x3 h3 hi ha hfu4 ls hl
      refine lv_iload_n hx hb dX8_many_4 rfl (lv_at hl 2 rfl) ?_
      refine lv_bipush (v := 54) hx hb dX8_many_5 (by decide) ?_
      refine lv_icmp_ge (tgt := 32) hx hb dX8_many_7 (by decide) (fun c_7 => ?_) (fun c_7 => ?_)
      · have hi9 := hp_ge h3 (by decide : (54 : Int32) = nI 54) hi (by decide) c_7
        refine lv_iload_n hx hb dX8_many_32 rfl (lv_at hl 1 rfl) ?_
        rw [← hQ]
        exact W.iret (v := a) hx hb hr (fun t ht hW => ⟨_, rfl, (by subst hi9; exact ha), ht⟩) (fun _ h => by cases h) dX8_many_33
      · have hlt := hp_lt h3 (by decide : (54 : Int32) = nI 54) hi (by decide) c_7
        refine lv_iload_n hx hb dX8_many_10 rfl (lv_at hl 1 rfl) ?_
        refine lv_lload_n hx hb dX8_many_11 rfl (lv_at hl 0 rfl) ?_
        refine lv_iload_n hx hb dX8_many_12 rfl (lv_at hl 2 rfl) ?_
        refine vp_callSi (W.runS (As := [.long x, .int x3]) (rest := [.int a]) ⟨hx, hb, hml, hown, hts⟩ (k_X8_has l x x3 ) (va_cwS 2 hts gX8_many_X8_has rfl rfl rfl (by decide +kernel) ⟨Nat.le_of_ble_eq_true rfl, Nat.le_of_ble_eq_true rfl⟩) ⟨pS_fb, pS_pre⟩ rfl rfl hl.1 rfl (lv_room (Nat.le_of_ble_eq_true rfl)) dX8_many_13 ⟨Nat.le_of_ble_eq_true rfl, Nat.le_of_ble_eq_true rfl⟩) (fun x13 hx13 => ?_)
        subst hx13
        refine lv_if_eq (tgt := 23) hx hb dX8_many_16 (by decide) (fun c_16 => ?_) (fun c_16 => ?_)
        · refine lv_iconst (v := 0) hx hb dX8_many_23 (by decide) ?_
          refine lv_iadd hx hb dX8_many_24 ?_
          refine lv_topi (fun x25 ex25 => ?_)
          refine lv_istore_n (lv' := [(2, .int x25), (0, .long x), (3, .int x3)]) hx hb dX8_many_25 rfl hl (by decide) rfl (fun ls hl => ?_)
          obtain ⟨x26, ex26⟩ : ∃ y : Int32, y = x3 + 1 := ⟨_, rfl⟩
          refine lv_iinc (v := x26) (lv' := [(3, .int x26), (2, .int x25), (0, .long x)]) hx hb dX8_many_26 hl (k := 2) rfl (by rw [ex26]; rfl) (by decide) rfl (fun ls hl => ?_)
          refine lv_goto (tgt := 4) hx hb dX8_many_29 (by decide) ?_
          exact ih4 (i + 1) x25 x26 (hp_s (by assumption) h3) (by omega) (by subst h3; subst ha; (try subst ex25); (try subst ex28); simp only [bx_sum]; split <;> first | rfl | contradiction) (by omega) ls (lv_sub hl [2, 1, 0] rfl)
        · refine lv_iconst (v := 1) hx hb dX8_many_19 (by decide) ?_
          refine lv_goto (tgt := 24) hx hb dX8_many_20 (by decide) ?_
          refine lv_iadd hx hb dX8_many_24 ?_
          refine lv_topi (fun x25 ex25 => ?_)
          refine lv_istore_n (lv' := [(2, .int x25), (0, .long x), (3, .int x3)]) hx hb dX8_many_25 rfl hl (by decide) rfl (fun ls hl => ?_)
          obtain ⟨x26, ex26⟩ : ∃ y : Int32, y = x3 + 1 := ⟨_, rfl⟩
          refine lv_iinc (v := x26) (lv' := [(3, .int x26), (2, .int x25), (0, .long x)]) hx hb dX8_many_26 hl (k := 2) rfl (by rw [ex26]; rfl) (by decide) rfl (fun ls hl => ?_)
          refine lv_goto (tgt := 4) hx hb dX8_many_29 (by decide) ?_
          exact ih4 (i + 1) x25 x26 (hp_s (by assumption) h3) (by omega) (by subst h3; subst ha; (try subst ex25); (try subst ex28); simp only [bx_sum]; split <;> first | rfl | contradiction) (by omega) ls (lv_sub hl [2, 1, 0] rfl)
  refine lv_iconst (v := 0) hx hb dX8_many_0 (by decide) ?_
  refine lv_istore_n (lv' := [(2, .int 0), (0, .long x)]) hx hb dX8_many_1 rfl hl (by decide) rfl (fun ls hl => ?_)
  refine lv_iconst (v := 0) hx hb dX8_many_2 (by decide) ?_
  refine lv_istore_n (lv' := [(3, .int 0), (2, .int 0), (0, .long x)]) hx hb dX8_many_3 rfl hl (by decide) rfl (fun ls hl => ?_)
  exact lab4 _ 0 0 0 (nI_0.symm) (by omega) (rfl) (Nat.lt_succ_self _) ls (lv_sub hl [2, 1, 0] rfl)

set_option maxHeartbeats 4000000 in
set_option maxRecDepth 100000 in
theorem k_X8_worthAll (l : Launch) (x : Int64)  : Met l yX8_worthAll wsX8_worthAll ({ frames := 1, cells := 0, slots := 0, locals := 22 } : Room) (va_Pc [.long x] (fun _ => True)) (vp_Si (fun r => r = j_X8_worthAll x)) 0 0 (fun _ => False) := by
  refine Met.ofW (cc := cX8_worthAll) (maxL := 4) (ret := (some .int)) (by decide) rfl ?_
  intro p e s m args below meth c s₁ B hml hv
  obtain ⟨hargs, -⟩ := hv
  have hx := B.exec
  have hb := B.bytes
  have hr := B.returns
  have hlocks := B.notSynchronized
  have hts := atoms_spec (ws := wsX8_worthAll) B.pre
  have hown : s.vm.findClass RX8 = some m.cls := findClass_of_methodNamed B.named
  have k55 := hts (.methodLink RX8 55 yX8_has) (by decide +kernel)
  have k59 := hts (.methodLink RX8 59 yX8_worthOf) (by decide +kernel)
  rw [show entryFrame m args 4 = entryFrame m ([.long x] : List Value).toArray 4 from by rw [hargs]]
  have hl := lv_entry ([.long x]) (n := 4) (Nat.le_of_ble_eq_true rfl)
  rw [lg_entry_eq]
  generalize (lg_sl ([.long x]) ++ List.replicate (4 - (lg_sl ([.long x])).length) Slot.unset).toArray = ls at hl ⊢
  have hl : lv_has ls 4 [(0, .long x)] := hl
  refine wQ (fun Q hQ => ?_)
  have lab4 : ∀ fuel4 : Nat, ∀ (i : Nat) (a : Int32) (x3 : Int32), (h3 : x3 = nI i) → (hi : i ≤ 54) → (ha : a = bx_sum (fun k => if j_X8_has x (nI k) = 0 then 0 else j_X8_worthOf (nI k)) i) → (hfu4 : 54 - i < fuel4) → ∀ ls : Array Slot, lv_has ls 4 [(0, .long x), (2, .int a), (3, .int x3)] → W p l e (headSpec wsX8_worthAll ({ frames := 1, cells := 0, slots := 0, locals := 22 } : Room)).room s m args below meth c s.heap [] 0 0 Q (F0 m 4 ls []) := by
    intro fuel4
    induction fuel4 with
    | zero =>
      intro i a x3 h3 hi ha hfu4
      exact absurd hfu4 (Nat.not_lt_zero _)
    | succ fuel4 ih4 =>
      intro i a x3 h3 hi ha hfu4 ls hl
      refine lv_iload_n hx hb dX8_worthAll_4 rfl (lv_at hl 2 rfl) ?_
      refine lv_bipush (v := 54) hx hb dX8_worthAll_5 (by decide) ?_
      refine lv_icmp_ge (tgt := 35) hx hb dX8_worthAll_7 (by decide) (fun c_7 => ?_) (fun c_7 => ?_)
      · have hi9 := hp_ge h3 (by decide : (54 : Int32) = nI 54) hi (by decide) c_7
        refine lv_iload_n hx hb dX8_worthAll_35 rfl (lv_at hl 1 rfl) ?_
        rw [← hQ]
        exact W.iret (v := a) hx hb hr (fun t ht hW => ⟨_, rfl, (by subst hi9; exact ha), ht⟩) (fun _ h => by cases h) dX8_worthAll_36
      · have hlt := hp_lt h3 (by decide : (54 : Int32) = nI 54) hi (by decide) c_7
        refine lv_iload_n hx hb dX8_worthAll_10 rfl (lv_at hl 1 rfl) ?_
        refine lv_lload_n hx hb dX8_worthAll_11 rfl (lv_at hl 0 rfl) ?_
        refine lv_iload_n hx hb dX8_worthAll_12 rfl (lv_at hl 2 rfl) ?_
        refine vp_callSi (W.runS (As := [.long x, .int x3]) (rest := [.int a]) ⟨hx, hb, hml, hown, hts⟩ (k_X8_has l x x3 ) (va_cwS 2 hts gX8_worthAll_X8_has rfl rfl rfl (by decide +kernel) ⟨Nat.le_of_ble_eq_true rfl, Nat.le_of_ble_eq_true rfl⟩) ⟨pS_fb, pS_pre⟩ rfl rfl hl.1 rfl (lv_room (Nat.le_of_ble_eq_true rfl)) dX8_worthAll_13 ⟨Nat.le_of_ble_eq_true rfl, Nat.le_of_ble_eq_true rfl⟩) (fun x13 hx13 => ?_)
        subst hx13
        refine lv_if_eq (tgt := 26) hx hb dX8_worthAll_16 (by decide) (fun c_16 => ?_) (fun c_16 => ?_)
        · refine lv_iconst (v := 0) hx hb dX8_worthAll_26 (by decide) ?_
          refine lv_iadd hx hb dX8_worthAll_27 ?_
          refine lv_topi (fun x28 ex28 => ?_)
          refine lv_istore_n (lv' := [(2, .int x28), (0, .long x), (3, .int x3)]) hx hb dX8_worthAll_28 rfl hl (by decide) rfl (fun ls hl => ?_)
          obtain ⟨x29, ex29⟩ : ∃ y : Int32, y = x3 + 1 := ⟨_, rfl⟩
          refine lv_iinc (v := x29) (lv' := [(3, .int x29), (2, .int x28), (0, .long x)]) hx hb dX8_worthAll_29 hl (k := 2) rfl (by rw [ex29]; rfl) (by decide) rfl (fun ls hl => ?_)
          refine lv_goto (tgt := 4) hx hb dX8_worthAll_32 (by decide) ?_
          exact ih4 (i + 1) x28 x29 (hp_s (by assumption) h3) (by omega) (by subst h3; subst ha; (try subst ex25); (try subst ex28); simp only [bx_sum]; split <;> first | rfl | contradiction) (by omega) ls (lv_sub hl [2, 1, 0] rfl)
        · refine lv_iload_n hx hb dX8_worthAll_19 rfl (lv_at hl 2 rfl) ?_
          refine vp_callSi (W.runS (As := [.int x3]) (rest := [.int a]) ⟨hx, hb, hml, hown, hts⟩ (k_X8_worthOf l x3 ) (va_cwS 1 hts gX8_worthAll_X8_worthOf rfl rfl rfl (by decide +kernel) ⟨Nat.le_of_ble_eq_true rfl, Nat.le_of_ble_eq_true rfl⟩) ⟨pS_fb, pS_pre⟩ rfl rfl hl.1 rfl (lv_room (Nat.le_of_ble_eq_true rfl)) dX8_worthAll_20 ⟨Nat.le_of_ble_eq_true rfl, Nat.le_of_ble_eq_true rfl⟩) (fun x20 hx20 => ?_)
          subst hx20
          refine lv_goto (tgt := 27) hx hb dX8_worthAll_23 (by decide) ?_
          refine lv_iadd hx hb dX8_worthAll_27 ?_
          refine lv_topi (fun x28 ex28 => ?_)
          refine lv_istore_n (lv' := [(2, .int x28), (0, .long x), (3, .int x3)]) hx hb dX8_worthAll_28 rfl hl (by decide) rfl (fun ls hl => ?_)
          obtain ⟨x29, ex29⟩ : ∃ y : Int32, y = x3 + 1 := ⟨_, rfl⟩
          refine lv_iinc (v := x29) (lv' := [(3, .int x29), (2, .int x28), (0, .long x)]) hx hb dX8_worthAll_29 hl (k := 2) rfl (by rw [ex29]; rfl) (by decide) rfl (fun ls hl => ?_)
          refine lv_goto (tgt := 4) hx hb dX8_worthAll_32 (by decide) ?_
          exact ih4 (i + 1) x28 x29 (hp_s (by assumption) h3) (by omega) (by subst h3; subst ha; (try subst ex25); (try subst ex28); simp only [bx_sum]; split <;> first | rfl | contradiction) (by omega) ls (lv_sub hl [2, 1, 0] rfl)
  refine lv_iconst (v := 0) hx hb dX8_worthAll_0 (by decide) ?_
  refine lv_istore_n (lv' := [(2, .int 0), (0, .long x)]) hx hb dX8_worthAll_1 rfl hl (by decide) rfl (fun ls hl => ?_)
  refine lv_iconst (v := 0) hx hb dX8_worthAll_2 (by decide) ?_
  refine lv_istore_n (lv' := [(3, .int 0), (2, .int 0), (0, .long x)]) hx hb dX8_worthAll_3 rfl hl (by decide) rfl (fun ls hl => ?_)
  exact lab4 _ 0 0 0 (nI_0.symm) (by omega) (rfl) (Nat.lt_succ_self _) ls (lv_sub hl [2, 1, 0] rfl)

set_option maxHeartbeats 4000000 in
set_option maxRecDepth 100000 in
theorem k_X8_isWhole (l : Launch) (mk : Int32)  : Met l yX8_isWhole wsX8_isWhole ({ frames := 1, cells := 0, slots := 0, locals := 21 } : Room) (va_Pc [.int mk] (fun _ => True)) (vp_Si (fun r => r = j_X8_isWhole mk)) 0 0 (fun _ => False) := by
  refine Met.ofW (cc := cX8_isWhole) (maxL := 2) (ret := (some .boolean)) (by decide) rfl ?_
  intro p e s m args below meth c s₁ B hml hv
  obtain ⟨hargs, -⟩ := hv
  have hx := B.exec
  have hb := B.bytes
  have hr := B.returns
  have hlocks := B.notSynchronized
  have hts := atoms_spec (ws := wsX8_isWhole) B.pre
  have hown : s.vm.findClass RX8 = some m.cls := findClass_of_methodNamed B.named
  have k67 := hts (.methodLink RX8 67 yX8_inGroup) (by decide +kernel)
  have k63 := hts (.methodLink RX8 63 yX8_run) (by decide +kernel)
  rw [show entryFrame m args 2 = entryFrame m ([.int mk] : List Value).toArray 2 from by rw [hargs]]
  have hl := lv_entry ([.int mk]) (n := 2) (Nat.le_of_ble_eq_true rfl)
  rw [lg_entry_eq]
  generalize (lg_sl ([.int mk]) ++ List.replicate (2 - (lg_sl ([.int mk])).length) Slot.unset).toArray = ls at hl ⊢
  have hl : lv_has ls 2 [(0, .int mk)] := hl
  refine wQ (fun Q hQ => ?_)
  have lab2 : ∀ fuel2 : Nat, ∀ (i : Nat) (x1 : Int32), (h1 : x1 = nI i) → (hi : i ≤ 4) → (ha : ∀ j, j < i → ¬ j_X8_run mk (nI j) = 1 ∧ ¬ j_X8_run mk (nI j) = 2) → (hfu2 : 4 - i < fuel2) → ∀ ls : Array Slot, lv_has ls 2 [(0, .int mk), (1, .int x1)] → W p l e (headSpec wsX8_isWhole ({ frames := 1, cells := 0, slots := 0, locals := 21 } : Room)).room s m args below meth c s.heap [] 0 0 Q (F0 m 2 ls []) := by
    intro fuel2
    induction fuel2 with
    | zero =>
      intro i x1 h1 hi ha hfu2
      exact absurd hfu2 (Nat.not_lt_zero _)
    | succ fuel2 ih2 =>
      intro i x1 h1 hi ha hfu2 ls hl
      refine lv_iload_n hx hb dX8_isWhole_2 rfl (lv_at hl 1 rfl) ?_
      refine lv_iconst (v := 4) hx hb dX8_isWhole_3 (by decide) ?_
      refine lv_icmp_ge (tgt := 33) hx hb dX8_isWhole_4 (by decide) (fun c_4 => ?_) (fun c_4 => ?_)
      · have hi4 := hp_ge h1 (by decide : (4 : Int32) = nI 4) hi (by decide) c_4
        subst hi4
        have hw : j_wh mk 4 = 1 := hp_wh ha
        refine lv_iload_n hx hb dX8_isWhole_33 rfl (lv_at hl 0 rfl) ?_
        refine vp_callSi (W.runS (As := [.int mk]) (rest := []) ⟨hx, hb, hml, hown, hts⟩ (k_X8_inGroup l mk ) (va_cwS 1 hts gX8_isWhole_X8_inGroup rfl rfl rfl (by decide +kernel) ⟨Nat.le_of_ble_eq_true rfl, Nat.le_of_ble_eq_true rfl⟩) ⟨pS_fb, pS_pre⟩ rfl rfl hl.1 rfl (lv_room (Nat.le_of_ble_eq_true rfl)) dX8_isWhole_34 ⟨Nat.le_of_ble_eq_true rfl, Nat.le_of_ble_eq_true rfl⟩) (fun x34 hx34 => ?_)
        subst hx34
        refine lv_if_ne (tgt := 44) hx hb dX8_isWhole_37 (by decide) (fun c_37 => ?_) (fun c_37 => ?_)
        · refine lv_iconst (v := 0) hx hb dX8_isWhole_44 (by decide) ?_
          rw [← hQ]
          exact W.zret (v := 0) hx hb hr (by first | decide | rfl | assumption) (fun t ht hW => ⟨_, rfl, (by simp only [j_X8_isWhole, hw]; rw [if_neg (by decide)]; split <;> first | rfl | contradiction), ht⟩) (fun _ h => by cases h) dX8_isWhole_45
        · refine lv_iconst (v := 1) hx hb dX8_isWhole_40 (by decide) ?_
          refine lv_goto (tgt := 45) hx hb dX8_isWhole_41 (by decide) ?_
          rw [← hQ]
          exact W.zret (v := 1) hx hb hr (by first | decide | rfl | assumption) (fun t ht hW => ⟨_, rfl, (by simp only [j_X8_isWhole, hw]; rw [if_neg (by decide)]; split <;> first | rfl | contradiction), ht⟩) (fun _ h => by cases h) dX8_isWhole_45
      · have hlt := hp_lt h1 (by decide : (4 : Int32) = nI 4) hi (by decide) c_4
        refine lv_iload_n hx hb dX8_isWhole_7 rfl (lv_at hl 0 rfl) ?_
        refine lv_iload_n hx hb dX8_isWhole_8 rfl (lv_at hl 1 rfl) ?_
        refine vp_callSi (W.runS (As := [.int mk, .int x1]) (rest := []) ⟨hx, hb, hml, hown, hts⟩ (k_X8_run l mk x1 ) (va_cwS 2 hts gX8_isWhole_X8_run rfl rfl rfl (by decide +kernel) ⟨Nat.le_of_ble_eq_true rfl, Nat.le_of_ble_eq_true rfl⟩) ⟨pS_fb, pS_pre⟩ rfl rfl hl.1 rfl (lv_room (Nat.le_of_ble_eq_true rfl)) dX8_isWhole_9 ⟨Nat.le_of_ble_eq_true rfl, Nat.le_of_ble_eq_true rfl⟩) (fun x9 hx9 => ?_)
        subst hx9
        refine lv_iconst (v := 1) hx hb dX8_isWhole_12 (by decide) ?_
        refine lv_icmp_eq (tgt := 25) hx hb dX8_isWhole_13 (by decide) (fun c_13 => ?_) (fun c_13 => ?_)
        · refine lv_iconst (v := 0) hx hb dX8_isWhole_25 (by decide) ?_
          rw [← hQ]
          exact W.zret (v := 0) hx hb hr (by first | decide | rfl | assumption) (fun t ht hW => ⟨_, rfl, (by subst h1; exact hp_wh0 hlt (by first | exact Or.inl c_13 | exact Or.inr c_22)), ht⟩) (fun _ h => by cases h) dX8_isWhole_26
        · refine lv_iload_n hx hb dX8_isWhole_16 rfl (lv_at hl 0 rfl) ?_
          refine lv_iload_n hx hb dX8_isWhole_17 rfl (lv_at hl 1 rfl) ?_
          refine vp_callSi (W.runS (As := [.int mk, .int x1]) (rest := []) ⟨hx, hb, hml, hown, hts⟩ (k_X8_run l mk x1 ) (va_cwS 2 hts gX8_isWhole_X8_run rfl rfl rfl (by decide +kernel) ⟨Nat.le_of_ble_eq_true rfl, Nat.le_of_ble_eq_true rfl⟩) ⟨pS_fb, pS_pre⟩ rfl rfl hl.1 rfl (lv_room (Nat.le_of_ble_eq_true rfl)) dX8_isWhole_18 ⟨Nat.le_of_ble_eq_true rfl, Nat.le_of_ble_eq_true rfl⟩) (fun x18 hx18 => ?_)
          subst hx18
          refine lv_iconst (v := 2) hx hb dX8_isWhole_21 (by decide) ?_
          refine lv_icmp_ne (tgt := 27) hx hb dX8_isWhole_22 (by decide) (fun c_22 => ?_) (fun c_22 => ?_)
          · obtain ⟨x27, ex27⟩ : ∃ y : Int32, y = x1 + 1 := ⟨_, rfl⟩
            refine lv_iinc (v := x27) (lv' := [(1, .int x27), (0, .int mk)]) hx hb dX8_isWhole_27 hl (k := 1) rfl (by rw [ex27]; rfl) (by decide) rfl (fun ls hl => ?_)
            refine lv_goto (tgt := 2) hx hb dX8_isWhole_30 (by decide) ?_
            exact ih2 (i + 1) x27 (hp_s (by assumption) h1) (by omega) (by subst h1; intro j hj; rcases Nat.lt_succ_iff_lt_or_eq.mp hj with q | q; exact ha j q; subst q; exact ⟨c_13, fun q => c_22 q⟩) (by omega) ls (lv_sub hl [1, 0] rfl)
          · refine lv_iconst (v := 0) hx hb dX8_isWhole_25 (by decide) ?_
            rw [← hQ]
            exact W.zret (v := 0) hx hb hr (by first | decide | rfl | assumption) (fun t ht hW => ⟨_, rfl, (by subst h1; exact hp_wh0 hlt (by first | exact Or.inl c_13 | exact Or.inr c_22)), ht⟩) (fun _ h => by cases h) dX8_isWhole_26
  refine lv_iconst (v := 0) hx hb dX8_isWhole_0 (by decide) ?_
  refine lv_istore_n (lv' := [(1, .int 0), (0, .int mk)]) hx hb dX8_isWhole_1 rfl hl (by decide) rfl (fun ls hl => ?_)
  exact lab2 _ 0 0 (nI_0.symm) (by omega) (fun j h => absurd h (Nat.not_lt_zero j)) (Nat.lt_succ_self _) ls (lv_sub hl [1, 0] rfl)

set_option maxHeartbeats 4000000 in
set_option maxRecDepth 100000 in
theorem k_X8_behind (l : Launch) (mk card pl bj : Int32)  : Met l yX8_behind wsX8_behind ({ frames := 1, cells := 0, slots := 0, locals := 21 } : Room) (va_Pc [.int mk, .int card, .int pl, .int bj] (fun _ => True)) (vp_Si (fun r => r = j_X8_behind mk card pl bj)) 0 0 (fun _ => False) := by
  refine Met.ofW (cc := cX8_behind) (maxL := 10) (ret := (some .int)) (by decide) rfl ?_
  intro p e s m args below meth c s₁ B hml hv
  obtain ⟨hargs, -⟩ := hv
  have hx := B.exec
  have hb := B.bytes
  have hr := B.returns
  have hlocks := B.notSynchronized
  have hts := atoms_spec (ws := wsX8_behind) B.pre
  have hown : s.vm.findClass RX8 = some m.cls := findClass_of_methodNamed B.named
  have k63 := hts (.methodLink RX8 63 yX8_run) (by decide +kernel)
  have k67 := hts (.methodLink RX8 67 yX8_inGroup) (by decide +kernel)
  have k70 := hts (.methodLink RX8 70 yX8_jokers) (by decide +kernel)
  rw [show entryFrame m args 10 = entryFrame m ([.int mk, .int card, .int pl, .int bj] : List Value).toArray 10 from by rw [hargs]]
  have hl := lv_entry ([.int mk, .int card, .int pl, .int bj]) (n := 10) (Nat.le_of_ble_eq_true rfl)
  rw [lg_entry_eq]
  generalize (lg_sl ([.int mk, .int card, .int pl, .int bj]) ++ List.replicate (10 - (lg_sl ([.int mk, .int card, .int pl, .int bj])).length) Slot.unset).toArray = ls at hl ⊢
  have hl : lv_has ls 10 [(0, .int mk), (1, .int card), (2, .int pl), (3, .int bj)] := hl
  refine wQ (fun Q hQ => ?_)
  have lab142 : ∀  (col : Int32) (g : Int32) (u : Int32) (op : Int32), (hg : j_X8_behind mk card pl bj = j_bh_end mk col g u op) → ∀ ls : Array Slot, lv_has ls 10 [(0, .int mk), (4, .int col), (6, .int g), (7, .int u), (8, .int op)] → W p l e (headSpec wsX8_behind ({ frames := 1, cells := 0, slots := 0, locals := 21 } : Room)).room s m args below meth c s.heap [] 0 0 Q (F0 m 142 ls []) := by
    intro col g u op hg ls hl
    refine lv_iload_n hx hb dX8_behind_142 rfl (lv_at hl 0 rfl) ?_
    refine lv_bipush (v := 15) hx hb dX8_behind_143 (by decide) ?_
    refine lv_idiv hx hb dX8_behind_145 (by decide) ?_
    refine lv_iconst (v := 3) hx hb dX8_behind_146 (by decide) ?_
    refine lv_iconst (v := 2) hx hb dX8_behind_147 (by decide) ?_
    refine lv_iload hx hb dX8_behind_148 (lv_at hl 1 rfl) ?_
    refine lv_imul hx hb dX8_behind_150 ?_
    refine lv_ishl hx hb dX8_behind_151 ?_
    refine lv_iconst (v := (-1)) hx hb dX8_behind_152 (by decide) ?_
    refine lv_ixor hx hb dX8_behind_153 ?_
    refine lv_iand hx hb dX8_behind_154 ?_
    refine lv_iload hx hb dX8_behind_155 (lv_at hl 4 rfl) ?_
    refine lv_iconst (v := 2) hx hb dX8_behind_157 (by decide) ?_
    refine lv_iload hx hb dX8_behind_158 (lv_at hl 1 rfl) ?_
    refine lv_imul hx hb dX8_behind_160 ?_
    refine lv_ishl hx hb dX8_behind_161 ?_
    refine lv_ior hx hb dX8_behind_162 ?_
    refine lv_topi (fun x163 ex163 => ?_)
    refine lv_istore (lv' := [(9, .int x163), (0, .int mk), (4, .int col), (6, .int g), (7, .int u), (8, .int op)]) hx hb dX8_behind_163 hl (by decide) rfl (fun ls hl => ?_)
    refine lv_iload hx hb dX8_behind_165 (lv_at hl 0 rfl) ?_
    refine lv_iconst (v := 5) hx hb dX8_behind_167 (by decide) ?_
    refine lv_imul hx hb dX8_behind_168 ?_
    refine lv_iload hx hb dX8_behind_169 (lv_at hl 3 rfl) ?_
    refine lv_iadd hx hb dX8_behind_171 ?_
    refine lv_iconst (v := 3) hx hb dX8_behind_172 (by decide) ?_
    refine lv_imul hx hb dX8_behind_173 ?_
    refine lv_iload hx hb dX8_behind_174 (lv_at hl 4 rfl) ?_
    refine lv_iadd hx hb dX8_behind_176 ?_
    rw [← hQ]
    exact W.iret (v := (((x163 * 5) + g) * 3) + u) hx hb hr (fun t ht hW => ⟨_, rfl, (by rw [hg]; subst_vars; rfl), ht⟩) (fun _ h => by cases h) dX8_behind_177
  have lab119 : ∀  (col : Int32) (g : Int32) (u : Int32) (op : Int32), (hgr : j_X8_behind mk card pl bj = j_bh_grp mk col g u op) → ∀ ls : Array Slot, lv_has ls 10 [(0, .int mk), (4, .int col), (6, .int g), (7, .int u), (8, .int op)] → W p l e (headSpec wsX8_behind ({ frames := 1, cells := 0, slots := 0, locals := 21 } : Room)).room s m args below meth c s.heap [] 0 0 Q (F0 m 119 ls []) := by
    intro col g u op hgr ls hl
    refine lv_iload hx hb dX8_behind_119 (lv_at hl 1 rfl) ?_
    refine lv_iconst (v := 3) hx hb dX8_behind_121 (by decide) ?_
    refine lv_icmp_ne (tgt := 142) hx hb dX8_behind_122 (by decide) (fun c_122 => ?_) (fun c_122 => ?_)
    · exact lab142 col g u op (by rw [hgr]; simp only [j_bh_grp]; rw [if_neg c_122]) ls (lv_sub hl [0, 1, 2, 3, 4] rfl)
    · refine lv_iload hx hb dX8_behind_125 (lv_at hl 2 rfl) ?_
      refine lv_iconst (v := 1) hx hb dX8_behind_127 (by decide) ?_
      refine lv_icmp_eq (tgt := 137) hx hb dX8_behind_128 (by decide) (fun c_128 => ?_) (fun c_128 => ?_)
      · refine lv_iconst (v := (-1)) hx hb dX8_behind_137 (by decide) ?_
        rw [← hQ]
        exact W.iret (v := (-1)) hx hb hr (fun t ht hW => ⟨_, rfl, (by rw [hgr]; simp only [j_bh_grp]; (repeat' split) <;> first | rfl | contradiction), ht⟩) (fun _ h => by cases h) dX8_behind_138
      · refine lv_iload hx hb dX8_behind_131 (lv_at hl 2 rfl) ?_
        refine lv_iconst (v := 2) hx hb dX8_behind_133 (by decide) ?_
        refine lv_icmp_ne (tgt := 139) hx hb dX8_behind_134 (by decide) (fun c_134 => ?_) (fun c_134 => ?_)
        · refine lv_iconst (v := 0) hx hb dX8_behind_139 (by decide) ?_
          refine lv_istore (lv' := [(6, .int 0), (0, .int mk), (4, .int col), (7, .int u), (8, .int op)]) hx hb dX8_behind_140 hl (by decide) rfl (fun ls hl => ?_)
          exact lab142 col 0 u op (by rw [hgr]; simp only [j_bh_grp]; rw [if_pos c_122, if_neg c_128, if_neg c_134]) ls (lv_sub hl [1, 2, 0, 3, 4] rfl)
        · refine lv_iconst (v := (-1)) hx hb dX8_behind_137 (by decide) ?_
          rw [← hQ]
          exact W.iret (v := (-1)) hx hb hr (fun t ht hW => ⟨_, rfl, (by rw [hgr]; simp only [j_bh_grp]; (repeat' split) <;> first | rfl | contradiction), ht⟩) (fun _ h => by cases h) dX8_behind_138
  have lab109 : ∀  (col : Int32) (g : Int32) (u : Int32) (op : Int32), (h109 : j_X8_behind mk card pl bj = j_bh_grp mk col (if pl = 1 then g + 1 else g) u op) → ∀ ls : Array Slot, lv_has ls 10 [(0, .int mk), (2, .int pl), (4, .int col), (6, .int g), (7, .int u)] → W p l e (headSpec wsX8_behind ({ frames := 1, cells := 0, slots := 0, locals := 21 } : Room)).room s m args below meth c s.heap [] 0 0 Q (F0 m 109 ls [.int op]) := by
    intro col g u op h109 ls hl
    refine lv_istore (lv' := [(8, .int op), (0, .int mk), (2, .int pl), (4, .int col), (6, .int g), (7, .int u)]) hx hb dX8_behind_109 hl (by decide) rfl (fun ls hl => ?_)
    refine lv_iload_n hx hb dX8_behind_111 rfl (lv_at hl 2 rfl) ?_
    refine lv_iconst (v := 1) hx hb dX8_behind_112 (by decide) ?_
    refine lv_icmp_ne (tgt := 119) hx hb dX8_behind_113 (by decide) (fun c_113 => ?_) (fun c_113 => ?_)
    · exact lab119 col g u op (by rw [h109, if_neg c_113]) ls (lv_sub hl [1, 3, 4, 5, 0] rfl)
    · obtain ⟨x116, ex116⟩ : ∃ y : Int32, y = g + 1 := ⟨_, rfl⟩
      refine lv_iinc (v := x116) (lv' := [(6, .int x116), (8, .int op), (0, .int mk), (2, .int pl), (4, .int col), (7, .int u)]) hx hb dX8_behind_116 hl (k := 4) rfl (by rw [ex116]; rfl) (by decide) rfl (fun ls hl => ?_)
      exact lab119 col x116 u op (by rw [h109, if_pos c_113]; subst_vars; rfl) ls (lv_sub hl [2, 4, 0, 5, 1] rfl)
  have lab77 : ∀  (col : Int32) (r : Int32) (g : Int32) (u : Int32), (h77 : j_X8_behind mk card pl bj = j_bh_grp mk col (if pl = 1 then g + 1 else g) u (j_bh_open r pl)) → ∀ ls : Array Slot, lv_has ls 10 [(0, .int mk), (2, .int pl), (4, .int col), (5, .int r), (6, .int g), (7, .int u)] → W p l e (headSpec wsX8_behind ({ frames := 1, cells := 0, slots := 0, locals := 21 } : Room)).room s m args below meth c s.heap [] 0 0 Q (F0 m 77 ls []) := by
    intro col r g u h77 ls hl
    refine lv_iload_n hx hb dX8_behind_77 rfl (lv_at hl 1 rfl) ?_
    refine lv_iconst (v := 3) hx hb dX8_behind_78 (by decide) ?_
    refine lv_icmp_ne (tgt := 99) hx hb dX8_behind_79 (by decide) (fun c_79 => ?_) (fun c_79 => ?_)
    · refine lv_iload_n hx hb dX8_behind_99 rfl (lv_at hl 1 rfl) ?_
      refine lv_iconst (v := 2) hx hb dX8_behind_100 (by decide) ?_
      refine lv_icmp_ne (tgt := 108) hx hb dX8_behind_101 (by decide) (fun c_101 => ?_) (fun c_101 => ?_)
      · refine lv_iconst (v := 0) hx hb dX8_behind_108 (by decide) ?_
        exact lab109 col g u 0 (by rw [h77]; congr 1; simp only [j_bh_open]; (repeat' split) <;> first | rfl | contradiction) ls (lv_sub hl [0, 1, 2, 4, 5] rfl)
      · refine lv_iconst (v := 1) hx hb dX8_behind_104 (by decide) ?_
        refine lv_goto (tgt := 109) hx hb dX8_behind_105 (by decide) ?_
        exact lab109 col g u 1 (by rw [h77]; congr 1; simp only [j_bh_open]; (repeat' split) <;> first | rfl | contradiction) ls (lv_sub hl [0, 1, 2, 4, 5] rfl)
    · refine lv_iload hx hb dX8_behind_82 (lv_at hl 3 rfl) ?_
      refine lv_iconst (v := 3) hx hb dX8_behind_84 (by decide) ?_
      refine lv_icmp_ne (tgt := 92) hx hb dX8_behind_85 (by decide) (fun c_85 => ?_) (fun c_85 => ?_)
      · refine lv_iload hx hb dX8_behind_92 (lv_at hl 3 rfl) ?_
        refine lv_iconst (v := 1) hx hb dX8_behind_94 (by decide) ?_
        refine lv_iadd hx hb dX8_behind_95 ?_
        refine lv_goto (tgt := 109) hx hb dX8_behind_96 (by decide) ?_
        exact lab109 col g u (r + 1) (by rw [h77]; congr 1; simp only [j_bh_open]; (repeat' split) <;> first | rfl | contradiction) ls (lv_sub hl [0, 1, 2, 4, 5] rfl)
      · refine lv_iconst (v := 3) hx hb dX8_behind_88 (by decide) ?_
        refine lv_goto (tgt := 109) hx hb dX8_behind_89 (by decide) ?_
        exact lab109 col g u 3 (by rw [h77]; congr 1; simp only [j_bh_open]; (repeat' split) <;> first | rfl | contradiction) ls (lv_sub hl [0, 1, 2, 4, 5] rfl)
  have lab35 : ∀  (col : Int32) (r : Int32) (g : Int32) (u : Int32), (h35 : j_X8_behind mk card pl bj = j_bh_mid mk col r g u pl) → ∀ ls : Array Slot, lv_has ls 10 [(0, .int mk), (2, .int pl), (4, .int col), (5, .int r), (6, .int g), (7, .int u)] → W p l e (headSpec wsX8_behind ({ frames := 1, cells := 0, slots := 0, locals := 21 } : Room)).room s m args below meth c s.heap [] 0 0 Q (F0 m 35 ls []) := by
    intro col r g u h35 ls hl
    refine lv_iload hx hb dX8_behind_35 (lv_at hl 5 rfl) ?_
    refine lv_iconst (v := 2) hx hb dX8_behind_37 (by decide) ?_
    refine lv_icmp_gt (tgt := 75) hx hb dX8_behind_38 (by decide) (fun c_38 => ?_) (fun c_38 => ?_)
    · refine lv_iconst (v := (-1)) hx hb dX8_behind_75 (by decide) ?_
      rw [← hQ]
      exact W.iret (v := (-1)) hx hb hr (fun t ht hW => ⟨_, rfl, (by rw [h35]; simp only [j_bh_mid]; (repeat' split) <;> first | rfl | contradiction), ht⟩) (fun _ h => by cases h) dX8_behind_76
    · refine lv_iload_n hx hb dX8_behind_41 rfl (lv_at hl 1 rfl) ?_
      refine lv_iconst (v := 3) hx hb dX8_behind_42 (by decide) ?_
      refine lv_icmp_ne (tgt := 50) hx hb dX8_behind_43 (by decide) (fun c_43 => ?_) (fun c_43 => ?_)
      · refine lv_iconst (v := 0) hx hb dX8_behind_50 (by decide) ?_
        refine lv_iload hx hb dX8_behind_51 (lv_at hl 3 rfl) ?_
        refine lv_if_le (tgt := 60) hx hb dX8_behind_53 (by decide) (fun c_53 => ?_) (fun c_53 => ?_)
        · refine lv_iconst (v := 0) hx hb dX8_behind_60 (by decide) ?_
          refine lv_icmp_eq (tgt := 77) hx hb dX8_behind_61 (by decide) (fun c_61 => ?_) (fun c_61 => ?_)
          · exact lab77 col r g u (by rw [h35]; simp only [j_bh_mid]; (repeat' split) <;> first | rfl | contradiction) ls (lv_sub hl [0, 1, 2, 3, 4, 5] rfl)
          · refine lv_iload_n hx hb dX8_behind_64 rfl (lv_at hl 1 rfl) ?_
            refine lv_iconst (v := 3) hx hb dX8_behind_65 (by decide) ?_
            refine lv_icmp_eq (tgt := 75) hx hb dX8_behind_66 (by decide) (fun c_66 => ?_) (fun c_66 => ?_)
            · refine lv_iconst (v := (-1)) hx hb dX8_behind_75 (by decide) ?_
              rw [← hQ]
              exact W.iret (v := (-1)) hx hb hr (fun t ht hW => ⟨_, rfl, (by rw [h35]; simp only [j_bh_mid]; (repeat' split) <;> first | rfl | contradiction), ht⟩) (fun _ h => by cases h) dX8_behind_76
            · refine lv_iload hx hb dX8_behind_69 (lv_at hl 3 rfl) ?_
              refine lv_iconst (v := 3) hx hb dX8_behind_71 (by decide) ?_
              refine lv_icmp_ge (tgt := 77) hx hb dX8_behind_72 (by decide) (fun c_72 => ?_) (fun c_72 => ?_)
              · exact lab77 col r g u (by rw [h35]; simp only [j_bh_mid]; (repeat' split) <;> first | rfl | contradiction) ls (lv_sub hl [0, 1, 2, 3, 4, 5] rfl)
              · refine lv_iconst (v := (-1)) hx hb dX8_behind_75 (by decide) ?_
                rw [← hQ]
                exact W.iret (v := (-1)) hx hb hr (fun t ht hW => ⟨_, rfl, (by rw [h35]; simp only [j_bh_mid]; (repeat' split) <;> first | rfl | contradiction), ht⟩) (fun _ h => by cases h) dX8_behind_76
        · refine lv_iconst (v := 1) hx hb dX8_behind_56 (by decide) ?_
          refine lv_goto (tgt := 61) hx hb dX8_behind_57 (by decide) ?_
          refine lv_icmp_eq (tgt := 77) hx hb dX8_behind_61 (by decide) (fun c_61 => ?_) (fun c_61 => ?_)
          · exact lab77 col r g u (by rw [h35]; simp only [j_bh_mid]; (repeat' split) <;> first | rfl | contradiction) ls (lv_sub hl [0, 1, 2, 3, 4, 5] rfl)
          · refine lv_iload_n hx hb dX8_behind_64 rfl (lv_at hl 1 rfl) ?_
            refine lv_iconst (v := 3) hx hb dX8_behind_65 (by decide) ?_
            refine lv_icmp_eq (tgt := 75) hx hb dX8_behind_66 (by decide) (fun c_66 => ?_) (fun c_66 => ?_)
            · refine lv_iconst (v := (-1)) hx hb dX8_behind_75 (by decide) ?_
              rw [← hQ]
              exact W.iret (v := (-1)) hx hb hr (fun t ht hW => ⟨_, rfl, (by rw [h35]; simp only [j_bh_mid]; (repeat' split) <;> first | rfl | contradiction), ht⟩) (fun _ h => by cases h) dX8_behind_76
            · refine lv_iload hx hb dX8_behind_69 (lv_at hl 3 rfl) ?_
              refine lv_iconst (v := 3) hx hb dX8_behind_71 (by decide) ?_
              refine lv_icmp_ge (tgt := 77) hx hb dX8_behind_72 (by decide) (fun c_72 => ?_) (fun c_72 => ?_)
              · exact lab77 col r g u (by rw [h35]; simp only [j_bh_mid]; (repeat' split) <;> first | rfl | contradiction) ls (lv_sub hl [0, 1, 2, 3, 4, 5] rfl)
              · refine lv_iconst (v := (-1)) hx hb dX8_behind_75 (by decide) ?_
                rw [← hQ]
                exact W.iret (v := (-1)) hx hb hr (fun t ht hW => ⟨_, rfl, (by rw [h35]; simp only [j_bh_mid]; (repeat' split) <;> first | rfl | contradiction), ht⟩) (fun _ h => by cases h) dX8_behind_76
      · refine lv_iconst (v := 1) hx hb dX8_behind_46 (by decide) ?_
        refine lv_goto (tgt := 51) hx hb dX8_behind_47 (by decide) ?_
        refine lv_iload hx hb dX8_behind_51 (lv_at hl 3 rfl) ?_
        refine lv_if_le (tgt := 60) hx hb dX8_behind_53 (by decide) (fun c_53 => ?_) (fun c_53 => ?_)
        · refine lv_iconst (v := 0) hx hb dX8_behind_60 (by decide) ?_
          refine lv_icmp_eq (tgt := 77) hx hb dX8_behind_61 (by decide) (fun c_61 => ?_) (fun c_61 => ?_)
          · exact lab77 col r g u (by rw [h35]; simp only [j_bh_mid]; (repeat' split) <;> first | rfl | contradiction) ls (lv_sub hl [0, 1, 2, 3, 4, 5] rfl)
          · refine lv_iload_n hx hb dX8_behind_64 rfl (lv_at hl 1 rfl) ?_
            refine lv_iconst (v := 3) hx hb dX8_behind_65 (by decide) ?_
            refine lv_icmp_eq (tgt := 75) hx hb dX8_behind_66 (by decide) (fun c_66 => ?_) (fun c_66 => ?_)
            · refine lv_iconst (v := (-1)) hx hb dX8_behind_75 (by decide) ?_
              rw [← hQ]
              exact W.iret (v := (-1)) hx hb hr (fun t ht hW => ⟨_, rfl, (by rw [h35]; simp only [j_bh_mid]; (repeat' split) <;> first | rfl | contradiction), ht⟩) (fun _ h => by cases h) dX8_behind_76
            · refine lv_iload hx hb dX8_behind_69 (lv_at hl 3 rfl) ?_
              refine lv_iconst (v := 3) hx hb dX8_behind_71 (by decide) ?_
              refine lv_icmp_ge (tgt := 77) hx hb dX8_behind_72 (by decide) (fun c_72 => ?_) (fun c_72 => ?_)
              · exact lab77 col r g u (by rw [h35]; simp only [j_bh_mid]; (repeat' split) <;> first | rfl | contradiction) ls (lv_sub hl [0, 1, 2, 3, 4, 5] rfl)
              · refine lv_iconst (v := (-1)) hx hb dX8_behind_75 (by decide) ?_
                rw [← hQ]
                exact W.iret (v := (-1)) hx hb hr (fun t ht hW => ⟨_, rfl, (by rw [h35]; simp only [j_bh_mid]; (repeat' split) <;> first | rfl | contradiction), ht⟩) (fun _ h => by cases h) dX8_behind_76
        · refine lv_iconst (v := 1) hx hb dX8_behind_56 (by decide) ?_
          refine lv_goto (tgt := 61) hx hb dX8_behind_57 (by decide) ?_
          refine lv_icmp_eq (tgt := 77) hx hb dX8_behind_61 (by decide) (fun c_61 => ?_) (fun c_61 => ?_)
          · exact lab77 col r g u (by rw [h35]; simp only [j_bh_mid]; (repeat' split) <;> first | rfl | contradiction) ls (lv_sub hl [0, 1, 2, 3, 4, 5] rfl)
          · refine lv_iload_n hx hb dX8_behind_64 rfl (lv_at hl 1 rfl) ?_
            refine lv_iconst (v := 3) hx hb dX8_behind_65 (by decide) ?_
            refine lv_icmp_eq (tgt := 75) hx hb dX8_behind_66 (by decide) (fun c_66 => ?_) (fun c_66 => ?_)
            · refine lv_iconst (v := (-1)) hx hb dX8_behind_75 (by decide) ?_
              rw [← hQ]
              exact W.iret (v := (-1)) hx hb hr (fun t ht hW => ⟨_, rfl, (by rw [h35]; simp only [j_bh_mid]; (repeat' split) <;> first | rfl | contradiction), ht⟩) (fun _ h => by cases h) dX8_behind_76
            · refine lv_iload hx hb dX8_behind_69 (lv_at hl 3 rfl) ?_
              refine lv_iconst (v := 3) hx hb dX8_behind_71 (by decide) ?_
              refine lv_icmp_ge (tgt := 77) hx hb dX8_behind_72 (by decide) (fun c_72 => ?_) (fun c_72 => ?_)
              · exact lab77 col r g u (by rw [h35]; simp only [j_bh_mid]; (repeat' split) <;> first | rfl | contradiction) ls (lv_sub hl [0, 1, 2, 3, 4, 5] rfl)
              · refine lv_iconst (v := (-1)) hx hb dX8_behind_75 (by decide) ?_
                rw [← hQ]
                exact W.iret (v := (-1)) hx hb hr (fun t ht hW => ⟨_, rfl, (by rw [h35]; simp only [j_bh_mid]; (repeat' split) <;> first | rfl | contradiction), ht⟩) (fun _ h => by cases h) dX8_behind_76
  refine lv_iload_n hx hb dX8_behind_0 rfl (lv_at hl 1 rfl) ?_
  refine lv_iconst (v := 4) hx hb dX8_behind_1 (by decide) ?_
  refine lv_irem hx hb dX8_behind_2 (by decide) ?_
  refine lv_topi (fun x3 ex3 => ?_)
  refine lv_istore (lv' := [(4, .int x3), (0, .int mk), (1, .int card), (2, .int pl), (3, .int bj)]) hx hb dX8_behind_3 hl (by decide) rfl (fun ls hl => ?_)
  refine lv_iload_n hx hb dX8_behind_5 rfl (lv_at hl 1 rfl) ?_
  refine lv_iload hx hb dX8_behind_6 (lv_at hl 0 rfl) ?_
  refine vp_callSi (W.runS (As := [.int mk, .int x3]) (rest := []) ⟨hx, hb, hml, hown, hts⟩ (k_X8_run l mk x3 ) (va_cwS 2 hts gX8_behind_X8_run rfl rfl rfl (by decide +kernel) ⟨Nat.le_of_ble_eq_true rfl, Nat.le_of_ble_eq_true rfl⟩) ⟨pS_fb, pS_pre⟩ rfl rfl hl.1 rfl (lv_room (Nat.le_of_ble_eq_true rfl)) dX8_behind_8 ⟨Nat.le_of_ble_eq_true rfl, Nat.le_of_ble_eq_true rfl⟩) (fun x8 hx8 => ?_)
  subst hx8
  refine lv_topi (fun x11 ex11 => ?_)
  refine lv_istore (lv' := [(5, .int x11), (4, .int x3), (0, .int mk), (1, .int card), (2, .int pl), (3, .int bj)]) hx hb dX8_behind_11 hl (by decide) rfl (fun ls hl => ?_)
  refine lv_iload_n hx hb dX8_behind_13 rfl (lv_at hl 2 rfl) ?_
  refine vp_callSi (W.runS (As := [.int mk]) (rest := []) ⟨hx, hb, hml, hown, hts⟩ (k_X8_inGroup l mk ) (va_cwS 1 hts gX8_behind_X8_inGroup rfl rfl rfl (by decide +kernel) ⟨Nat.le_of_ble_eq_true rfl, Nat.le_of_ble_eq_true rfl⟩) ⟨pS_fb, pS_pre⟩ rfl rfl hl.1 rfl (lv_room (Nat.le_of_ble_eq_true rfl)) dX8_behind_14 ⟨Nat.le_of_ble_eq_true rfl, Nat.le_of_ble_eq_true rfl⟩) (fun x14 hx14 => ?_)
  subst hx14
  refine lv_topi (fun x17 ex17 => ?_)
  refine lv_istore (lv' := [(6, .int x17), (5, .int x11), (4, .int x3), (0, .int mk), (1, .int card), (2, .int pl), (3, .int bj)]) hx hb dX8_behind_17 hl (by decide) rfl (fun ls hl => ?_)
  refine lv_iload_n hx hb dX8_behind_19 rfl (lv_at hl 3 rfl) ?_
  refine vp_callSi (W.runS (As := [.int mk]) (rest := []) ⟨hx, hb, hml, hown, hts⟩ (k_X8_jokers l mk ) (va_cwS 1 hts gX8_behind_X8_jokers rfl rfl rfl (by decide +kernel) ⟨Nat.le_of_ble_eq_true rfl, Nat.le_of_ble_eq_true rfl⟩) ⟨pS_fb, pS_pre⟩ rfl rfl hl.1 rfl (lv_room (Nat.le_of_ble_eq_true rfl)) dX8_behind_20 ⟨Nat.le_of_ble_eq_true rfl, Nat.le_of_ble_eq_true rfl⟩) (fun x20 hx20 => ?_)
  subst hx20
  refine lv_iload_n hx hb dX8_behind_23 rfl (lv_at hl 6 rfl) ?_
  refine lv_if_eq (tgt := 31) hx hb dX8_behind_24 (by decide) (fun c_24 => ?_) (fun c_24 => ?_)
  · refine lv_iconst (v := 0) hx hb dX8_behind_31 (by decide) ?_
    refine lv_iadd hx hb dX8_behind_32 ?_
    refine lv_topi (fun x33 ex33 => ?_)
    refine lv_istore (lv' := [(7, .int x33), (6, .int x17), (5, .int x11), (4, .int x3), (0, .int mk), (1, .int card), (2, .int pl), (3, .int bj)]) hx hb dX8_behind_33 hl (by decide) rfl (fun ls hl => ?_)
    exact lab35 x3 x11 x17 x33 (by subst_vars; simp only [j_X8_behind]; (repeat' split) <;> first | rfl | contradiction) ls (lv_sub hl [4, 6, 3, 2, 1, 0] rfl)
  · refine lv_iconst (v := 1) hx hb dX8_behind_27 (by decide) ?_
    refine lv_goto (tgt := 32) hx hb dX8_behind_28 (by decide) ?_
    refine lv_iadd hx hb dX8_behind_32 ?_
    refine lv_topi (fun x33 ex33 => ?_)
    refine lv_istore (lv' := [(7, .int x33), (6, .int x17), (5, .int x11), (4, .int x3), (0, .int mk), (1, .int card), (2, .int pl), (3, .int bj)]) hx hb dX8_behind_33 hl (by decide) rfl (fun ls hl => ?_)
    exact lab35 x3 x11 x17 x33 (by subst_vars; simp only [j_X8_behind]; (repeat' split) <;> first | rfl | contradiction) ls (lv_sub hl [4, 6, 3, 2, 1, 0] rfl)
