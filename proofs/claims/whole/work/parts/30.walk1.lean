def gnF (un nx cx : Int32) : Nat → Int64
  | 0 => (un.toInt64 * (j_bcI cx).toInt64) <<< ((53 : Int32).toInt64 &&& 63)
  | c + 1 => if (cx >>> (nI c &&& 31)) &&& 1 = 0 then gnF un nx cx c else gnF un nx cx c ||| (1 <<< ((52 - 4 * nx - nI c).toInt64 &&& 63))
def j_X6_gainOf (un nx cx : Int32) : Int64 := gnF un nx cx 4
/-- the cards left to be taken, and whether a joker more can be used, behind u counts of jokers -/
def sgS (mi op : Int32) : Nat → Int32 × Int32
  | 0 => (op, 1)
  | u + 1 => if nI u < mi then sgS mi op u else if (sgS mi op u).2 = 0 then sgS mi op u else (j_X6_withoutLast (sgS mi op u).1, if (sgS mi op u).1 = 0 then 0 else 1)
def sgV (un nx mi op : Int32) (u : Nat) : Int64 := if nI u < mi then -1 else if (sgS mi op u).2 = 0 then -1 else j_X6_gainOf un nx (sgS mi op u).1
def ckF (key : Int64) : Nat → Int64
  | 0 => 0
  | c + 1 => ckF key c ||| (((key.toUInt64 >>> ((52 - nI c).toInt64.toUInt64 &&& Int64.toUInt64 63)).toInt64 &&& 1) <<< ((nI c).toInt64 &&& 63))
def j_X6_cardsOfKey (key : Int64) : Int64 := ckF key 52
def fj6 (y : Int64) (u : Int32) : Nat → Int32 × Int64
  | 0 => (u, 0)
  | i + 1 => if (fj6 y u i).1 ≤ 0 then fj6 y u i else if lg_cmp ((y.toUInt64 >>> ((nI (52 + i)).toInt64.toUInt64 &&& Int64.toUInt64 63)).toInt64 &&& 1) 0 = 0 then fj6 y u i else ((fj6 y u i).1 + (-1), (fj6 y u i).2 ||| (1 <<< ((nI (52 + i)).toInt64 &&& 63)))
theorem fj6_stop {y : Int64} {u : Int32} {i : Nat} (h : (fj6 y u i).1 ≤ 0) : ∀ j, fj6 y u (i + j) = fj6 y u i
  | 0 => rfl
  | j + 1 => by
    have e := fj6_stop h j
    show (if (fj6 y u (i + j)).1 ≤ 0 then fj6 y u (i + j) else _) = _
    rw [e, if_pos h]
theorem ga_set {f g : Nat → Int64} {a b x : Int32} {v : Int64} {F u : Nat} (hx : x = a * 3 + b) (ha : a = nI F) (hb : b = nI u) (hF : F < 94) (hu : u < 3) (e : vp_updL f x.toNatClampNeg v = g) : g (3 * F + u) = v ∧ ∀ i, ¬ i = 3 * F + u → g i = f i := by
  have hz : x = nI (3 * F + u) := by rw [hx, ha, hb, show (3 : Int32) = nI 3 from rfl, pk_mul, nI_add, Nat.mul_comm]
  subst hz
  rw [nI_clamp (by omega)] at e
  subst e
  exact ⟨pk_uLs, fun i hi => pk_uLn hi⟩
theorem ga_in {a b x : Int32} {F u : Nat} (hx : x = a * 3 + b) (ha : a = nI F) (hb : b = nI u) (hF : F < 94) (hu : u < 3) : vp_in x 282 := by
  rw [show x = nI (3 * F + u) by rw [hx, ha, hb, show (3 : Int32) = nI 3 from rfl, pk_mul, nI_add, Nat.mul_comm]]
  exact vp_in_nI (by omega) (by decide)
def SG (un nx mi op : Int32) (F n : Nat) (f g : Nat → Int64) : Prop := (∀ u, u < n → g (3 * F + u) = sgV un nx mi op u) ∧ ∀ i, (i < 3 * F ∨ 3 * F + 3 ≤ i) → g i = f i
theorem SG_s {un nx mi op : Int32} {F n : Nat} {f g h : Nat → Int64} {v : Int64} (hn : n < 3) (hS : SG un nx mi op F n f g) (e : h (3 * F + n) = v ∧ ∀ i, ¬ i = 3 * F + n → h i = g i) (hv : v = sgV un nx mi op n) : SG un nx mi op F (n + 1) f h := by
  refine ⟨fun u hu => ?_, fun i hi => ?_⟩
  · rcases Nat.lt_succ_iff_lt_or_eq.mp hu with z | z
    · rw [e.2 _ (by omega)]; exact hS.1 u z
    · subst z; rw [e.1]; exact hv
  · rw [e.2 _ (by omega)]; exact hS.2 i hi
set_option maxHeartbeats 4000000 in
set_option maxRecDepth 100000 in
theorem k_X6_gainOf (l : Launch) (D : va_G) (cI cJ cZ : ClassId) (wk ws6 fi6 ff6 ga6 ahr atr : Nat) (ft6 jk6 ct6 bw6 un6 : Int32) (mu6 my6 : Int64) (nx cx : Int32)  : Met l yX6_gainOf wsX6_gainOf ({ frames := 1, cells := 0, slots := 0, locals := 20 } : Room) (va_Pc [.ref wk, .int nx, .int cx] (wR D cI cJ cZ [(wk, .inr (4, [.ref ws6, .ref fi6, .ref ff6, .ref ga6, .int ft6, .ref ahr, .ref atr, .long mu6, .long my6, .int jk6, .int ct6, .int bw6, .int un6]))])) (vp_Sl (fun r => r = j_X6_gainOf un6 nx cx)) 0 0 (fun _ => False) := by
  refine Met.ofW (cc := cX6_gainOf) (maxL := 6) (ret := (some .long)) (by decide) rfl ?_
  intro p e s m args below meth c s₁ B hml hv
  obtain ⟨hargs, hP, hK, hN⟩ := hv
  have hx := B.exec
  have hb := B.bytes
  have hr := B.returns
  have hlocks := B.notSynchronized
  have hts := atoms_spec (ws := wsX6_gainOf) B.pre
  have hown : s.vm.findClass RX6 = some m.cls := findClass_of_methodNamed B.named
  have k137 := hts (.fieldLink RX6 137 "RummyTable$Walk" "unit" "I") (by decide +kernel)
  have iX6 : ∀ w ∈ wsX60, w ∈ wsX6_gainOf := by decide +kernel
  have k146 := hts (.methodLink RX6 146 yJ6_bitCount_0f7a4) (by decide +kernel)
  rw [show entryFrame m args 6 = entryFrame m ([.ref wk, .int nx, .int cx] : List Value).toArray 6 from by rw [hargs]]
  have hl := lv_entry ([.ref wk, .int nx, .int cx]) (n := 6) (Nat.le_of_ble_eq_true rfl)
  rw [lg_entry_eq]
  generalize (lg_sl ([.ref wk, .int nx, .int cx]) ++ List.replicate (6 - (lg_sl ([.ref wk, .int nx, .int cx])).length) Slot.unset).toArray = ls at hl ⊢
  have hl : lv_has ls 6 [(0, .ref wk), (1, .int nx), (2, .int cx)] := hl
  refine wQ (fun Q hQ => ?_)
  have lab18 : ∀ fuel18 : Nat, ∀ (i : Nat) (gg : Int64) (x5 : Int32), (h5 : x5 = nI i) → (hi : i ≤ 4) → (hg : gg = gnF un6 nx cx i) → (hfu18 : 4 - i < fuel18) → ∀ ls : Array Slot, lv_has ls 6 [(0, .ref wk), (1, .int nx), (2, .int cx), (3, .long gg), (5, .int x5)] → W p l e (headSpec wsX6_gainOf ({ frames := 1, cells := 0, slots := 0, locals := 20 } : Room)).room s m args below meth c s.heap [] 0 0 Q (F0 m 18 ls []) := by
    intro fuel18
    induction fuel18 with
    | zero =>
      intro i gg x5 h5 hi hg hfu18
      exact absurd hfu18 (Nat.not_lt_zero _)
    | succ fuel18 ih18 =>
      intro i gg x5 h5 hi hg hfu18 ls hl
      refine lv_iload hx hb dX6_gainOf_18 (lv_at hl 4 rfl) ?_
      refine lv_iconst (v := 4) hx hb dX6_gainOf_20 (by decide) ?_
      refine lv_icmp_ge (tgt := 53) hx hb dX6_gainOf_21 (by decide) (fun c_21 => ?_) (fun c_21 => ?_)
      · have hi4 := hp_ge h5 (by decide : (4 : Int32) = nI 4) hi (by decide) c_21
        subst hi4
        refine lv_lload_n hx hb dX6_gainOf_53 rfl (lv_at hl 3 rfl) ?_
        rw [← hQ]
        exact W.lret (v := gg) hx hb hr (fun t ht hW => ⟨_, rfl, hg, ht⟩) (fun _ h => by cases h) dX6_gainOf_54
      · have hlt := hp_lt h5 (by decide : (4 : Int32) = nI 4) hi (by decide) c_21
        refine lv_iload_n hx hb dX6_gainOf_24 rfl (lv_at hl 2 rfl) ?_
        refine lv_iload hx hb dX6_gainOf_25 (lv_at hl 4 rfl) ?_
        refine lv_ishr hx hb dX6_gainOf_27 ?_
        refine lv_iconst (v := 1) hx hb dX6_gainOf_28 (by decide) ?_
        refine lv_iand hx hb dX6_gainOf_29 ?_
        refine lv_if_eq (tgt := 47) hx hb dX6_gainOf_30 (by decide) (fun c_30 => ?_) (fun c_30 => ?_)
        · obtain ⟨x47, ex47⟩ : ∃ y : Int32, y = x5 + 1 := ⟨_, rfl⟩
          refine lv_iinc (v := x47) (lv' := [(5, .int x47), (0, .ref wk), (1, .int nx), (2, .int cx), (3, .long gg)]) hx hb dX6_gainOf_47 hl (k := 4) rfl (by rw [ex47]; rfl) (by decide) rfl (fun ls hl => ?_)
          refine lv_goto (tgt := 18) hx hb dX6_gainOf_50 (by decide) ?_
          exact ih18 (i + 1) gg x47 (hp_s ex47 h5) (by omega) (by rw [h5] at c_30; simp only [gnF]; first | (rw [if_pos c_30]; exact hg) | (rw [if_neg c_30, ex46, hg, h5])) (by omega) ls (lv_sub hl [1, 2, 3, 4, 0] rfl)
        · refine lv_lload_n hx hb dX6_gainOf_33 rfl (lv_at hl 3 rfl) ?_
          refine lv_lconst (v := 1) hx hb dX6_gainOf_34 (by decide) ?_
          refine lv_bipush (v := 52) hx hb dX6_gainOf_35 (by decide) ?_
          refine lv_iconst (v := 4) hx hb dX6_gainOf_37 (by decide) ?_
          refine lv_iload_n hx hb dX6_gainOf_38 rfl (lv_at hl 1 rfl) ?_
          refine lv_imul hx hb dX6_gainOf_39 ?_
          refine lv_isub hx hb dX6_gainOf_40 ?_
          refine lv_iload hx hb dX6_gainOf_41 (lv_at hl 4 rfl) ?_
          refine lv_isub hx hb dX6_gainOf_43 ?_
          refine lv_lshl hx hb dX6_gainOf_44 rfl ?_
          refine lv_lor hx hb dX6_gainOf_45 ?_
          refine lv_topl (fun x46 ex46 => ?_)
          refine lv_lstore_n (lv' := [(3, .long x46), (0, .ref wk), (1, .int nx), (2, .int cx), (5, .int x5)]) hx hb dX6_gainOf_46 rfl hl (by decide) rfl (fun ls hl => ?_)
          obtain ⟨x47, ex47⟩ : ∃ y : Int32, y = x5 + 1 := ⟨_, rfl⟩
          refine lv_iinc (v := x47) (lv' := [(5, .int x47), (3, .long x46), (0, .ref wk), (1, .int nx), (2, .int cx)]) hx hb dX6_gainOf_47 hl (k := 4) rfl (by rw [ex47]; rfl) (by decide) rfl (fun ls hl => ?_)
          refine lv_goto (tgt := 18) hx hb dX6_gainOf_50 (by decide) ?_
          exact ih18 (i + 1) x46 x47 (hp_s ex47 h5) (by omega) (by rw [h5] at c_30; simp only [gnF]; first | (rw [if_pos c_30]; exact hg) | (rw [if_neg c_30, ex46, hg, h5])) (by omega) ls (lv_sub hl [2, 3, 4, 1, 0] rfl)
  refine lv_aload_n hx hb dX6_gainOf_0 rfl (lv_at hl 0 rfl) ?_
  refine va_get (D := D) (ci := 4) (v := .int un6) (C := RX6) (T := TX6) (N := 13) hx hb hts iX6 hown hK hP 0 rfl rfl 12 (by decide) k137 (fun _ h9 => h9) rfl dX6_gainOf_1 ?_
  refine lv_i2l hx hb dX6_gainOf_4 rfl ?_
  refine lv_iload_n hx hb dX6_gainOf_5 rfl (lv_at hl 2 rfl) ?_
  refine vp_callSi (W.runS (As := [.int cx]) (rest := [.long un6.toInt64]) ⟨hx, hb, hml, hown, hts⟩ (k_J6_bitCount_0f7a4 l cx ) (va_cwS 1 hts gX6_gainOf_J6_bitCount_0f7a4 rfl rfl rfl (by decide +kernel) ⟨Nat.le_of_ble_eq_true rfl, Nat.le_of_ble_eq_true rfl⟩) ⟨pS_fb, pS_pre⟩ rfl rfl hl.1 rfl (lv_room (Nat.le_of_ble_eq_true rfl)) dX6_gainOf_6 ⟨Nat.le_of_ble_eq_true rfl, Nat.le_of_ble_eq_true rfl⟩) (fun x6 hx6 => ?_)
  subst hx6
  refine lv_i2l hx hb dX6_gainOf_9 rfl ?_
  refine lv_lmul hx hb dX6_gainOf_10 ?_
  refine lv_bipush (v := 53) hx hb dX6_gainOf_11 (by decide) ?_
  refine lv_lshl hx hb dX6_gainOf_13 rfl ?_
  refine lv_topl (fun x14 ex14 => ?_)
  refine lv_lstore_n (lv' := [(3, .long x14), (0, .ref wk), (1, .int nx), (2, .int cx)]) hx hb dX6_gainOf_14 rfl hl (by decide) rfl (fun ls hl => ?_)
  refine lv_iconst (v := 0) hx hb dX6_gainOf_15 (by decide) ?_
  refine lv_istore (lv' := [(5, .int 0), (3, .long x14), (0, .ref wk), (1, .int nx), (2, .int cx)]) hx hb dX6_gainOf_16 hl (by decide) rfl (fun ls hl => ?_)
  exact lab18 _ 0 x14 0 (nI_0.symm) (by omega) (by rw [ex14]; rfl) (Nat.lt_succ_self _) ls (lv_sub hl [2, 3, 4, 1, 0] rfl)

set_option maxHeartbeats 4000000 in
set_option maxRecDepth 100000 in
theorem k_X6_setGains (l : Launch) (D : va_G) (cI cJ cZ : ClassId) (sz : Nat) (wk ws6 fi6 ff6 ga6 ahr atr : Nat) (jk6 ct6 bw6 un6 : Int32) (mu6 my6 : Int64) (fF : Nat) (gf : Nat → Int64) (nx mi op : Int32) (hfF : fF < 94) : Met l yX6_setGains wsX6_setGains ({ frames := 2, cells := 0, slots := 0, locals := 45 } : Room) (va_Pc [.ref wk, .int nx, .int mi, .int op] (wM D cI cJ cZ sz [(wk, .inr (4, [.ref ws6, .ref fi6, .ref ff6, .ref ga6, .int (nI fF), .ref ahr, .ref atr, .long mu6, .long my6, .int jk6, .int ct6, .int bw6, .int un6])), (ga6, .inl (cJ, 282, .inr (.inl gf)))])) (va_Qv (fun (u : (Nat → Int64)) => match u with | gf2 => (SG un6 nx mi op fF 3 gf gf2)) (fun (u : (Nat → Int64)) t => match u with | gf2 => wB D (va_A [(wk, .inr (4, [.ref ws6, .ref fi6, .ref ff6, .ref ga6, .int (nI fF), .ref ahr, .ref atr, .long mu6, .long my6, .int jk6, .int ct6, .int bw6, .int un6])), (ga6, .inl (cJ, 282, .inr (.inl gf)))] sz) [(wk, .inr (4, [.ref ws6, .ref fi6, .ref ff6, .ref ga6, .int (nI fF), .ref ahr, .ref atr, .long mu6, .long my6, .int jk6, .int ct6, .int bw6, .int un6])), (ga6, .inl (cJ, 282, .inr (.inl gf2)))] t) (va_A [(wk, .inr (4, [.ref ws6, .ref fi6, .ref ff6, .ref ga6, .int (nI fF), .ref ahr, .ref atr, .long mu6, .long my6, .int jk6, .int ct6, .int bw6, .int un6])), (ga6, .inl (cJ, 282, .inr (.inl gf)))] sz)) 0 0 (va_A [(wk, .inr (4, [.ref ws6, .ref fi6, .ref ff6, .ref ga6, .int (nI fF), .ref ahr, .ref atr, .long mu6, .long my6, .int jk6, .int ct6, .int bw6, .int un6])), (ga6, .inl (cJ, 282, .inr (.inl gf)))] sz) := by
  refine Met.ofW (cc := cX6_setGains) (maxL := 8) (ret := none) (by decide) rfl ?_
  intro p e s m args below meth c s₁ B hml hv
  obtain ⟨hargs, hsz, hP, ⟨hK, hN⟩, hD0⟩ := hv
  have hx := B.exec
  have hb := B.bytes
  have hr := B.returns
  have hlocks := B.notSynchronized
  have hts := atoms_spec (ws := wsX6_setGains) B.pre
  have hown : s.vm.findClass RX6 = some m.cls := findClass_of_methodNamed B.named
  have k140 := hts (.fieldLink RX6 140 "RummyTable$Walk" "fits" "I") (by decide +kernel)
  have iX6 : ∀ w ∈ wsX60, w ∈ wsX6_setGains := by decide +kernel
  have k21 := hts (.fieldLink RX6 21 "RummyTable$Walk" "gains" "[J") (by decide +kernel)
  have k90 := hts (.constantLong RX6 90 (-1)) (by decide +kernel)
  have k154 := hts (.methodLink RX6 154 yX6_gainOf) (by decide +kernel)
  have k157 := hts (.methodLink RX6 157 yX6_withoutLast) (by decide +kernel)
  subst hsz
  have hD := hD0.self (sz := s.heap.size)
  generalize hAe : va_A [(wk, .inr (4, [.ref ws6, .ref fi6, .ref ff6, .ref ga6, .int (nI fF), .ref ahr, .ref atr, .long mu6, .long my6, .int jk6, .int ct6, .int bw6, .int un6])), (ga6, .inl (cJ, 282, .inr (.inl gf)))] s.heap.size = A at hD ⊢
  have hA : ∀ q : Nat, s.heap.size ≤ q → A q := fun q h => by rw [← hAe]; exact Or.inr h
  have hS : va_S A s.heap s.heap [] := va_S.rf
  rw [show entryFrame m args 8 = entryFrame m ([.ref wk, .int nx, .int mi, .int op] : List Value).toArray 8 from by rw [hargs]]
  have hl := lv_entry ([.ref wk, .int nx, .int mi, .int op]) (n := 8) (Nat.le_of_ble_eq_true rfl)
  rw [lg_entry_eq]
  generalize (lg_sl ([.ref wk, .int nx, .int mi, .int op]) ++ List.replicate (8 - (lg_sl ([.ref wk, .int nx, .int mi, .int op])).length) Slot.unset).toArray = ls at hl ⊢
  have hl : lv_has ls 8 [(0, .ref wk), (1, .int nx), (2, .int mi), (3, .int op)] := hl
  refine wQ (fun Q hQ => ?_)
  have lab9 : ∀ fuel9 : Nat, ∀ (u : Nat) (tk : Int32) (cn : Int32) (x6 : Int32) (gq : Nat → Int64), (h6 : x6 = nI u) → (hu : u ≤ 3) → (htc : (tk, cn) = sgS mi op u) → (hSG : SG un6 nx mi op fF u gf gq) → (hfu9 : 3 - u < fuel9) → ∀ (H : Heap) (locs : List Loc), va_P D vwCl [(wk, .inr (4, [.ref ws6, .ref fi6, .ref ff6, .ref ga6, .int (nI fF), .ref ahr, .ref atr, .long mu6, .long my6, .int jk6, .int ct6, .int bw6, .int un6])), (ga6, .inl (cJ, 282, .inr (.inl gq)))] H → va_D A [(wk, .inr (4, [.ref ws6, .ref fi6, .ref ff6, .ref ga6, .int (nI fF), .ref ahr, .ref atr, .long mu6, .long my6, .int jk6, .int ct6, .int bw6, .int un6])), (ga6, .inl (cJ, 282, .inr (.inl gq)))] → va_S A s.heap H locs → ∀ ls : Array Slot, lv_has ls 8 [(0, .ref wk), (1, .int nx), (2, .int mi), (3, .int op), (4, .int tk), (5, .int cn), (6, .int x6)] → W p l e (headSpec wsX6_setGains ({ frames := 2, cells := 0, slots := 0, locals := 45 } : Room)).room s m args below meth c H locs 0 0 Q (F0 m 9 ls []) := by
    intro fuel9
    induction fuel9 with
    | zero =>
      intro u tk cn x6 gq h6 hu htc hSG hfu9
      exact absurd hfu9 (Nat.not_lt_zero _)
    | succ fuel9 ih9 =>
      intro u tk cn x6 gq h6 hu htc hSG hfu9 H locs hP hD hS ls hl
      refine lv_iload hx hb dX6_setGains_9 (lv_at hl 6 rfl) ?_
      refine lv_iconst (v := 3) hx hb dX6_setGains_11 (by decide) ?_
      refine lv_icmp_ge (tgt := 89) hx hb dX6_setGains_12 (by decide) (fun c_12 => ?_) (fun c_12 => ?_)
      · have hu3 := hp_ge h6 (by decide : (3 : Int32) = nI 3) hu (by decide) c_12
        subst hu3
        rw [← hQ]
        have hP9 := hP.sub (ws' := [(wk, .inr (4, [.ref ws6, .ref fi6, .ref ff6, .ref ga6, .int (nI fF), .ref ahr, .ref atr, .long mu6, .long my6, .int jk6, .int ct6, .int bw6, .int un6])), (ga6, .inl (cJ, 282, .inr (.inl gq)))]) [0, 1] rfl
        have hD9 := hD.sub (ws' := [(wk, .inr (4, [.ref ws6, .ref fi6, .ref ff6, .ref ga6, .int (nI fF), .ref ahr, .ref atr, .long mu6, .long my6, .int jk6, .int ct6, .int bw6, .int un6])), (ga6, .inl (cJ, 282, .inr (.inl gq)))]) [0, 1] (by decide) rfl
        exact W.vret hx hb hr (fun t ht hW => ⟨⟨gq, rfl, hSG, (by show wB D A _ t; exact ⟨by rw [ht]; exact hP9, hD9⟩)⟩, hS.F ht⟩) hS.2.2 dX6_setGains_89
      · have hlt := hp_lt h6 (by decide : (3 : Int32) = nI 3) hu (by decide) c_12
        have ht1 : (sgS mi op u).1 = tk := by rw [← htc]
        have ht2 : (sgS mi op u).2 = cn := by rw [← htc]
        refine lv_aload_n hx hb dX6_setGains_15 rfl (lv_at hl 0 rfl) ?_
        refine va_get (D := D) (ci := 4) (v := .int (nI fF)) (C := RX6) (T := TX6) (N := 13) hx hb hts iX6 hown hK hP 0 rfl rfl 4 (by decide) k140 (fun _ h9 => h9) rfl dX6_setGains_16 ?_
        refine lv_iconst (v := 3) hx hb dX6_setGains_19 (by decide) ?_
        refine lv_imul hx hb dX6_setGains_20 ?_
        refine lv_iload hx hb dX6_setGains_21 (lv_at hl 6 rfl) ?_
        refine lv_iadd hx hb dX6_setGains_23 ?_
        refine lv_topi (fun x24 ex24 => ?_)
        refine lv_istore (lv' := [(7, .int x24), (0, .ref wk), (1, .int nx), (2, .int mi), (3, .int op), (4, .int tk), (5, .int cn), (6, .int x6)]) hx hb dX6_setGains_24 hl (by decide) rfl (fun ls hl => ?_)
        refine lv_iload hx hb dX6_setGains_26 (lv_at hl 7 rfl) ?_
        refine lv_iload_n hx hb dX6_setGains_28 rfl (lv_at hl 3 rfl) ?_
        refine lv_icmp_lt (tgt := 37) hx hb dX6_setGains_29 (by decide) (fun c_29 => ?_) (fun c_29 => ?_)
        · rw [h6] at c_29
          refine lv_aload_n hx hb dX6_setGains_37 rfl (lv_at hl 1 rfl) ?_
          refine va_get (D := D) (ci := 4) (v := .ref ga6) (C := RX6) (T := TX6) (N := 13) hx hb hts iX6 hown hK hP 0 rfl rfl 3 (by decide) k21 (fun _ h9 => h9) rfl dX6_setGains_38 ?_
          refine lv_iload hx hb dX6_setGains_41 (lv_at hl 0 rfl) ?_
          refine lv_ldc2 hx hb hown k90 dX6_setGains_43 ?_
          refine va_last hx hb hK hP hD hS 1 1 rfl rfl (ga_in ex24 rfl h6 hfF hlt) dX6_setGains_46 (fun H locs hP hD hS => ?_)
          have hP : va_P D vwCl [(wk, .inr (4, [.ref ws6, .ref fi6, .ref ff6, .ref ga6, .int (nI fF), .ref ahr, .ref atr, .long mu6, .long my6, .int jk6, .int ct6, .int bw6, .int un6])), (ga6, .inl (cJ, 282, .inr (.inl (vp_updL gq x24.toNatClampNeg (-1)))))] H := hP
          have hD : va_D A [(wk, .inr (4, [.ref ws6, .ref fi6, .ref ff6, .ref ga6, .int (nI fF), .ref ahr, .ref atr, .long mu6, .long my6, .int jk6, .int ct6, .int bw6, .int un6])), (ga6, .inl (cJ, 282, .inr (.inl (vp_updL gq x24.toNatClampNeg (-1)))))] := hD
          generalize ex46 : vp_updL gq x24.toNatClampNeg (-1) = x46 at hP hD
          have hnx1 : (tk, cn) = sgS mi op (u + 1) := by simp only [sgS]; first | (rw [if_pos c_29]; exact htc) | (rw [if_neg c_29, ht2, if_pos c_34]; exact htc)
          have hnx2 := SG_s hlt hSG (ga_set ex24 rfl h6 hfF hlt ex46) (by unfold sgV; first | (rw [if_pos c_29]; done) | (rw [if_neg c_29, ht2, if_pos c_34]; done))
          refine lv_goto (tgt := 83) hx hb dX6_setGains_47 (by decide) ?_
          have hnx1 : (tk, cn) = sgS mi op (u + 1) := by first | exact hnx1 | (simp only [sgS]; rw [if_neg c_29, ht2, if_neg c_34, ht1, ex81]; first | (rw [if_pos c_66]; done) | (rw [if_neg c_66]; done))
          obtain ⟨x83, ex83⟩ : ∃ y : Int32, y = x6 + 1 := ⟨_, rfl⟩
          refine lv_iinc (v := x83) (lv' := [(6, .int x83), (7, .int x24), (0, .ref wk), (1, .int nx), (2, .int mi), (3, .int op), (4, .int tk), (5, .int cn)]) hx hb dX6_setGains_83 hl (k := 7) rfl (by rw [ex83]; rfl) (by decide) rfl (fun ls hl => ?_)
          refine lv_goto (tgt := 9) hx hb dX6_setGains_86 (by decide) ?_
          exact ih9 (u + 1) tk cn x83 x46 (hp_s ex83 h6) (by omega) (hnx1) (hnx2) (by omega) _ _ hP hD hS ls (lv_sub hl [2, 3, 4, 5, 6, 7, 0] rfl)
        · rw [h6] at c_29
          refine lv_iload hx hb dX6_setGains_32 (lv_at hl 6 rfl) ?_
          refine lv_if_ne (tgt := 50) hx hb dX6_setGains_34 (by decide) (fun c_34 => ?_) (fun c_34 => ?_)
          · refine lv_aload_n hx hb dX6_setGains_50 rfl (lv_at hl 1 rfl) ?_
            refine va_get (D := D) (ci := 4) (v := .ref ga6) (C := RX6) (T := TX6) (N := 13) hx hb hts iX6 hown hK hP 0 rfl rfl 3 (by decide) k21 (fun _ h9 => h9) rfl dX6_setGains_51 ?_
            refine lv_iload hx hb dX6_setGains_54 (lv_at hl 0 rfl) ?_
            refine lv_aload_n hx hb dX6_setGains_56 rfl (lv_at hl 1 rfl) ?_
            refine lv_iload_n hx hb dX6_setGains_57 rfl (lv_at hl 2 rfl) ?_
            refine lv_iload hx hb dX6_setGains_58 (lv_at hl 5 rfl) ?_
            have hPc := hP.sub (ws' := [(wk, .inr (4, [.ref ws6, .ref fi6, .ref ff6, .ref ga6, .int (nI fF), .ref ahr, .ref atr, .long mu6, .long my6, .int jk6, .int ct6, .int bw6, .int un6]))]) [0] rfl
            refine vp_callSl (W.runV (As := [.int nx, .int tk]) (rest := [.int x24, .ref ga6]) ⟨hx, hb, hml, hown, hts⟩ (k_X6_gainOf l D cI cJ cZ wk ws6 fi6 ff6 ga6 ahr atr (nI fF) jk6 ct6 bw6 un6 mu6 my6 nx tk ) (cwV 2 hts gX6_setGains_X6_gainOf rfl rfl rfl (by decide +kernel) ⟨Nat.le_of_ble_eq_true rfl, Nat.le_of_ble_eq_true rfl⟩) ⟨wR_fb, va_recv hK hPc (ci := 4) (q0 := 0) rfl rfl, wR_pre hPc ⟨hK, hN⟩⟩ rfl rfl hl.1 rfl (lv_room (Nat.le_of_ble_eq_true rfl)) dX6_setGains_60 ⟨Nat.le_of_ble_eq_true rfl, Nat.le_of_ble_eq_true rfl⟩) (fun x60 hx60 => ?_)
            subst hx60
            refine va_last hx hb hK hP hD hS 1 1 rfl rfl (ga_in ex24 rfl h6 hfF hlt) dX6_setGains_63 (fun H locs hP hD hS => ?_)
            have hP : va_P D vwCl [(wk, .inr (4, [.ref ws6, .ref fi6, .ref ff6, .ref ga6, .int (nI fF), .ref ahr, .ref atr, .long mu6, .long my6, .int jk6, .int ct6, .int bw6, .int un6])), (ga6, .inl (cJ, 282, .inr (.inl (vp_updL gq x24.toNatClampNeg (j_X6_gainOf un6 nx tk)))))] H := hP
            have hD : va_D A [(wk, .inr (4, [.ref ws6, .ref fi6, .ref ff6, .ref ga6, .int (nI fF), .ref ahr, .ref atr, .long mu6, .long my6, .int jk6, .int ct6, .int bw6, .int un6])), (ga6, .inl (cJ, 282, .inr (.inl (vp_updL gq x24.toNatClampNeg (j_X6_gainOf un6 nx tk)))))] := hD
            generalize ex63 : vp_updL gq x24.toNatClampNeg (j_X6_gainOf un6 nx tk) = x63 at hP hD
            have hnx2 := SG_s hlt hSG (ga_set ex24 rfl h6 hfF hlt ex63) (by unfold sgV; rw [if_neg c_29, ht2, if_neg c_34, ht1])
            refine lv_iload hx hb dX6_setGains_64 (lv_at hl 5 rfl) ?_
            refine lv_if_eq (tgt := 73) hx hb dX6_setGains_66 (by decide) (fun c_66 => ?_) (fun c_66 => ?_)
            · refine lv_iconst (v := 0) hx hb dX6_setGains_73 (by decide) ?_
              refine lv_istore (lv' := [(5, .int 0), (7, .int x24), (0, .ref wk), (1, .int nx), (2, .int mi), (3, .int op), (4, .int tk), (6, .int x6)]) hx hb dX6_setGains_74 hl (by decide) rfl (fun ls hl => ?_)
              refine lv_iload hx hb dX6_setGains_76 (lv_at hl 6 rfl) ?_
              refine vp_callSi (W.runS (As := [.int tk]) (rest := []) ⟨hx, hb, hml, hown, hts⟩ (k_X6_withoutLast l tk ) (va_cwS 1 hts gX6_setGains_X6_withoutLast rfl rfl rfl (by decide +kernel) ⟨Nat.le_of_ble_eq_true rfl, Nat.le_of_ble_eq_true rfl⟩) ⟨pS_fb, pS_pre⟩ rfl rfl hl.1 rfl (lv_room (Nat.le_of_ble_eq_true rfl)) dX6_setGains_78 ⟨Nat.le_of_ble_eq_true rfl, Nat.le_of_ble_eq_true rfl⟩) (fun x78 hx78 => ?_)
              subst hx78
              refine lv_topi (fun x81 ex81 => ?_)
              refine lv_istore (lv' := [(4, .int x81), (5, .int 0), (7, .int x24), (0, .ref wk), (1, .int nx), (2, .int mi), (3, .int op), (6, .int x6)]) hx hb dX6_setGains_81 hl (by decide) rfl (fun ls hl => ?_)
              have hnx1 : (x81, 0) = sgS mi op (u + 1) := by first | exact hnx1 | (simp only [sgS]; rw [if_neg c_29, ht2, if_neg c_34, ht1, ex81]; first | (rw [if_pos c_66]; done) | (rw [if_neg c_66]; done))
              obtain ⟨x83, ex83⟩ : ∃ y : Int32, y = x6 + 1 := ⟨_, rfl⟩
              refine lv_iinc (v := x83) (lv' := [(6, .int x83), (4, .int x81), (5, .int 0), (7, .int x24), (0, .ref wk), (1, .int nx), (2, .int mi), (3, .int op)]) hx hb dX6_setGains_83 hl (k := 7) rfl (by rw [ex83]; rfl) (by decide) rfl (fun ls hl => ?_)
              refine lv_goto (tgt := 9) hx hb dX6_setGains_86 (by decide) ?_
              exact ih9 (u + 1) x81 0 x83 x63 (hp_s ex83 h6) (by omega) (hnx1) (hnx2) (by omega) _ _ hP hD hS ls (lv_sub hl [4, 5, 6, 7, 1, 2, 0] rfl)
            · refine lv_iconst (v := 1) hx hb dX6_setGains_69 (by decide) ?_
              refine lv_goto (tgt := 74) hx hb dX6_setGains_70 (by decide) ?_
              refine lv_istore (lv' := [(5, .int 1), (7, .int x24), (0, .ref wk), (1, .int nx), (2, .int mi), (3, .int op), (4, .int tk), (6, .int x6)]) hx hb dX6_setGains_74 hl (by decide) rfl (fun ls hl => ?_)
              refine lv_iload hx hb dX6_setGains_76 (lv_at hl 6 rfl) ?_
              refine vp_callSi (W.runS (As := [.int tk]) (rest := []) ⟨hx, hb, hml, hown, hts⟩ (k_X6_withoutLast l tk ) (va_cwS 1 hts gX6_setGains_X6_withoutLast rfl rfl rfl (by decide +kernel) ⟨Nat.le_of_ble_eq_true rfl, Nat.le_of_ble_eq_true rfl⟩) ⟨pS_fb, pS_pre⟩ rfl rfl hl.1 rfl (lv_room (Nat.le_of_ble_eq_true rfl)) dX6_setGains_78 ⟨Nat.le_of_ble_eq_true rfl, Nat.le_of_ble_eq_true rfl⟩) (fun x78 hx78 => ?_)
              subst hx78
              refine lv_topi (fun x81 ex81 => ?_)
              refine lv_istore (lv' := [(4, .int x81), (5, .int 1), (7, .int x24), (0, .ref wk), (1, .int nx), (2, .int mi), (3, .int op), (6, .int x6)]) hx hb dX6_setGains_81 hl (by decide) rfl (fun ls hl => ?_)
              have hnx1 : (x81, 1) = sgS mi op (u + 1) := by first | exact hnx1 | (simp only [sgS]; rw [if_neg c_29, ht2, if_neg c_34, ht1, ex81]; first | (rw [if_pos c_66]; done) | (rw [if_neg c_66]; done))
              obtain ⟨x83, ex83⟩ : ∃ y : Int32, y = x6 + 1 := ⟨_, rfl⟩
              refine lv_iinc (v := x83) (lv' := [(6, .int x83), (4, .int x81), (5, .int 1), (7, .int x24), (0, .ref wk), (1, .int nx), (2, .int mi), (3, .int op)]) hx hb dX6_setGains_83 hl (k := 7) rfl (by rw [ex83]; rfl) (by decide) rfl (fun ls hl => ?_)
              refine lv_goto (tgt := 9) hx hb dX6_setGains_86 (by decide) ?_
              exact ih9 (u + 1) x81 1 x83 x63 (hp_s ex83 h6) (by omega) (hnx1) (hnx2) (by omega) _ _ hP hD hS ls (lv_sub hl [4, 5, 6, 7, 1, 2, 0] rfl)
          · refine lv_aload_n hx hb dX6_setGains_37 rfl (lv_at hl 1 rfl) ?_
            refine va_get (D := D) (ci := 4) (v := .ref ga6) (C := RX6) (T := TX6) (N := 13) hx hb hts iX6 hown hK hP 0 rfl rfl 3 (by decide) k21 (fun _ h9 => h9) rfl dX6_setGains_38 ?_
            refine lv_iload hx hb dX6_setGains_41 (lv_at hl 0 rfl) ?_
            refine lv_ldc2 hx hb hown k90 dX6_setGains_43 ?_
            refine va_last hx hb hK hP hD hS 1 1 rfl rfl (ga_in ex24 rfl h6 hfF hlt) dX6_setGains_46 (fun H locs hP hD hS => ?_)
            have hP : va_P D vwCl [(wk, .inr (4, [.ref ws6, .ref fi6, .ref ff6, .ref ga6, .int (nI fF), .ref ahr, .ref atr, .long mu6, .long my6, .int jk6, .int ct6, .int bw6, .int un6])), (ga6, .inl (cJ, 282, .inr (.inl (vp_updL gq x24.toNatClampNeg (-1)))))] H := hP
            have hD : va_D A [(wk, .inr (4, [.ref ws6, .ref fi6, .ref ff6, .ref ga6, .int (nI fF), .ref ahr, .ref atr, .long mu6, .long my6, .int jk6, .int ct6, .int bw6, .int un6])), (ga6, .inl (cJ, 282, .inr (.inl (vp_updL gq x24.toNatClampNeg (-1)))))] := hD
            generalize ex46 : vp_updL gq x24.toNatClampNeg (-1) = x46 at hP hD
            have hnx1 : (tk, cn) = sgS mi op (u + 1) := by simp only [sgS]; first | (rw [if_pos c_29]; exact htc) | (rw [if_neg c_29, ht2, if_pos c_34]; exact htc)
            have hnx2 := SG_s hlt hSG (ga_set ex24 rfl h6 hfF hlt ex46) (by unfold sgV; first | (rw [if_pos c_29]; done) | (rw [if_neg c_29, ht2, if_pos c_34]; done))
            refine lv_goto (tgt := 83) hx hb dX6_setGains_47 (by decide) ?_
            have hnx1 : (tk, cn) = sgS mi op (u + 1) := by first | exact hnx1 | (simp only [sgS]; rw [if_neg c_29, ht2, if_neg c_34, ht1, ex81]; first | (rw [if_pos c_66]; done) | (rw [if_neg c_66]; done))
            obtain ⟨x83, ex83⟩ : ∃ y : Int32, y = x6 + 1 := ⟨_, rfl⟩
            refine lv_iinc (v := x83) (lv' := [(6, .int x83), (7, .int x24), (0, .ref wk), (1, .int nx), (2, .int mi), (3, .int op), (4, .int tk), (5, .int cn)]) hx hb dX6_setGains_83 hl (k := 7) rfl (by rw [ex83]; rfl) (by decide) rfl (fun ls hl => ?_)
            refine lv_goto (tgt := 9) hx hb dX6_setGains_86 (by decide) ?_
            exact ih9 (u + 1) tk cn x83 x46 (hp_s ex83 h6) (by omega) (hnx1) (hnx2) (by omega) _ _ hP hD hS ls (lv_sub hl [2, 3, 4, 5, 6, 7, 0] rfl)
  refine lv_iload_n hx hb dX6_setGains_0 rfl (lv_at hl 3 rfl) ?_
  refine lv_istore (lv' := [(4, .int op), (0, .ref wk), (1, .int nx), (2, .int mi), (3, .int op)]) hx hb dX6_setGains_1 hl (by decide) rfl (fun ls hl => ?_)
  refine lv_iconst (v := 1) hx hb dX6_setGains_3 (by decide) ?_
  refine lv_istore (lv' := [(5, .int 1), (4, .int op), (0, .ref wk), (1, .int nx), (2, .int mi), (3, .int op)]) hx hb dX6_setGains_4 hl (by decide) rfl (fun ls hl => ?_)
  refine lv_iconst (v := 0) hx hb dX6_setGains_6 (by decide) ?_
  refine lv_istore (lv' := [(6, .int 0), (5, .int 1), (4, .int op), (0, .ref wk), (1, .int nx), (2, .int mi), (3, .int op)]) hx hb dX6_setGains_7 hl (by decide) rfl (fun ls hl => ?_)
  exact lab9 _ 0 op 1 0 gf (nI_0.symm) (by omega) (rfl) (⟨fun v h => absurd h (Nat.not_lt_zero v), fun _ _ => rfl⟩) (Nat.lt_succ_self _) _ _ hP hD hS ls (lv_sub hl [3, 4, 5, 6, 2, 1, 0] rfl)

set_option maxHeartbeats 4000000 in
set_option maxRecDepth 100000 in
theorem k_X6_cardsOfKey (l : Launch) (D : va_G) (cI cJ cZ : ClassId) (wk ws6 fi6 ff6 ga6 ahr atr : Nat) (ft6 jk6 ct6 bw6 un6 : Int32) (mu6 my6 : Int64) (key : Int64)  : Met l yX6_cardsOfKey wsX6_cardsOfKey ({ frames := 0, cells := 0, slots := 0, locals := 0 } : Room) (va_Pc [.ref wk, .long key] (wR D cI cJ cZ [(wk, .inr (4, [.ref ws6, .ref fi6, .ref ff6, .ref ga6, .int ft6, .ref ahr, .ref atr, .long mu6, .long my6, .int jk6, .int ct6, .int bw6, .int un6]))])) (vp_Sl (fun r => r = j_X6_cardsOfKey key)) 0 0 (fun _ => False) := by
  refine Met.ofW (cc := cX6_cardsOfKey) (maxL := 6) (ret := (some .long)) (by decide) rfl ?_
  intro p e s m args below meth c s₁ B hml hv
  obtain ⟨hargs, hP, hK, hN⟩ := hv
  have hx := B.exec
  have hb := B.bytes
  have hr := B.returns
  have hlocks := B.notSynchronized
  have hts := atoms_spec (ws := wsX6_cardsOfKey) B.pre
  have hown : s.vm.findClass RX6 = some m.cls := findClass_of_methodNamed B.named
  rw [show entryFrame m args 6 = entryFrame m ([.ref wk, .long key] : List Value).toArray 6 from by rw [hargs]]
  have hl := lv_entry ([.ref wk, .long key]) (n := 6) (Nat.le_of_ble_eq_true rfl)
  rw [lg_entry_eq]
  generalize (lg_sl ([.ref wk, .long key]) ++ List.replicate (6 - (lg_sl ([.ref wk, .long key])).length) Slot.unset).toArray = ls at hl ⊢
  have hl : lv_has ls 6 [(0, .ref wk), (1, .long key)] := hl
  refine wQ (fun Q hQ => ?_)
  have lab5 : ∀ fuel5 : Nat, ∀ (i : Nat) (gg : Int64) (x5 : Int32), (h5 : x5 = nI i) → (hi : i ≤ 52) → (hg : gg = ckF key i) → (hfu5 : 52 - i < fuel5) → ∀ ls : Array Slot, lv_has ls 6 [(0, .ref wk), (1, .long key), (3, .long gg), (5, .int x5)] → W p l e (headSpec wsX6_cardsOfKey ({ frames := 0, cells := 0, slots := 0, locals := 0 } : Room)).room s m args below meth c s.heap [] 0 0 Q (F0 m 5 ls []) := by
    intro fuel5
    induction fuel5 with
    | zero =>
      intro i gg x5 h5 hi hg hfu5
      exact absurd hfu5 (Nat.not_lt_zero _)
    | succ fuel5 ih5 =>
      intro i gg x5 h5 hi hg hfu5 ls hl
      refine lv_iload hx hb dX6_cardsOfKey_5 (lv_at hl 3 rfl) ?_
      refine lv_bipush (v := 52) hx hb dX6_cardsOfKey_7 (by decide) ?_
      refine lv_icmp_ge (tgt := 33) hx hb dX6_cardsOfKey_9 (by decide) (fun c_9 => ?_) (fun c_9 => ?_)
      · have hi4 := hp_ge h5 (by decide : (52 : Int32) = nI 52) hi (by decide) c_9
        subst hi4
        refine lv_lload_n hx hb dX6_cardsOfKey_33 rfl (lv_at hl 2 rfl) ?_
        rw [← hQ]
        exact W.lret (v := gg) hx hb hr (fun t ht hW => ⟨_, rfl, hg, ht⟩) (fun _ h => by cases h) dX6_cardsOfKey_34
      · have hlt := hp_lt h5 (by decide : (52 : Int32) = nI 52) hi (by decide) c_9
        refine lv_lload_n hx hb dX6_cardsOfKey_12 rfl (lv_at hl 2 rfl) ?_
        refine lv_lload_n hx hb dX6_cardsOfKey_13 rfl (lv_at hl 1 rfl) ?_
        refine lv_bipush (v := 52) hx hb dX6_cardsOfKey_14 (by decide) ?_
        refine lv_iload hx hb dX6_cardsOfKey_16 (lv_at hl 3 rfl) ?_
        refine lv_isub hx hb dX6_cardsOfKey_18 ?_
        refine lv_lushr hx hb dX6_cardsOfKey_19 rfl ?_
        refine lv_lconst (v := 1) hx hb dX6_cardsOfKey_20 (by decide) ?_
        refine lv_land hx hb dX6_cardsOfKey_21 ?_
        refine lv_iload hx hb dX6_cardsOfKey_22 (lv_at hl 3 rfl) ?_
        refine lv_lshl hx hb dX6_cardsOfKey_24 rfl ?_
        refine lv_lor hx hb dX6_cardsOfKey_25 ?_
        refine lv_topl (fun x26 ex26 => ?_)
        refine lv_lstore_n (lv' := [(3, .long x26), (0, .ref wk), (1, .long key), (5, .int x5)]) hx hb dX6_cardsOfKey_26 rfl hl (by decide) rfl (fun ls hl => ?_)
        obtain ⟨x27, ex27⟩ : ∃ y : Int32, y = x5 + 1 := ⟨_, rfl⟩
        refine lv_iinc (v := x27) (lv' := [(5, .int x27), (3, .long x26), (0, .ref wk), (1, .long key)]) hx hb dX6_cardsOfKey_27 hl (k := 3) rfl (by rw [ex27]; rfl) (by decide) rfl (fun ls hl => ?_)
        refine lv_goto (tgt := 5) hx hb dX6_cardsOfKey_30 (by decide) ?_
        exact ih5 (i + 1) x26 x27 (hp_s ex27 h5) (by omega) (by simp only [ckF]; rw [ex26, hg, h5]) (by omega) ls (lv_sub hl [2, 3, 1, 0] rfl)
  refine lv_lconst (v := 0) hx hb dX6_cardsOfKey_0 (by decide) ?_
  refine lv_lstore_n (lv' := [(3, .long 0), (0, .ref wk), (1, .long key)]) hx hb dX6_cardsOfKey_1 rfl hl (by decide) rfl (fun ls hl => ?_)
  refine lv_iconst (v := 0) hx hb dX6_cardsOfKey_2 (by decide) ?_
  refine lv_istore (lv' := [(5, .int 0), (3, .long 0), (0, .ref wk), (1, .long key)]) hx hb dX6_cardsOfKey_3 hl (by decide) rfl (fun ls hl => ?_)
  exact lab5 _ 0 0 0 (nI_0.symm) (by omega) (rfl) (Nat.lt_succ_self _) ls (lv_sub hl [2, 3, 1, 0] rfl)

set_option maxHeartbeats 4000000 in
set_option maxRecDepth 100000 in
theorem k_X6_firstJokers (l : Launch) (D : va_G) (cI cJ cZ : ClassId) (wk ws6 fi6 ff6 ga6 ahr atr : Nat) (ft6 jk6 ct6 bw6 un6 : Int32) (mu6 my6 : Int64) (u0 : Int32)  : Met l yX6_firstJokers wsX6_firstJokers ({ frames := 0, cells := 0, slots := 0, locals := 0 } : Room) (va_Pc [.ref wk, .int u0] (wR D cI cJ cZ [(wk, .inr (4, [.ref ws6, .ref fi6, .ref ff6, .ref ga6, .int ft6, .ref ahr, .ref atr, .long mu6, .long my6, .int jk6, .int ct6, .int bw6, .int un6]))])) (vp_Sl (fun r => r = (fj6 my6 u0 2).2)) 0 0 (fun _ => False) := by
  refine Met.ofW (cc := cX6_firstJokers) (maxL := 6) (ret := (some .long)) (by decide) rfl ?_
  intro p e s m args below meth c s₁ B hml hv
  obtain ⟨hargs, hP, hK, hN⟩ := hv
  have hx := B.exec
  have hb := B.bytes
  have hr := B.returns
  have hlocks := B.notSynchronized
  have hts := atoms_spec (ws := wsX6_firstJokers) B.pre
  have hown : s.vm.findClass RX6 = some m.cls := findClass_of_methodNamed B.named
  have k45 := hts (.fieldLink RX6 45 "RummyTable$Walk" "may" "J") (by decide +kernel)
  have iX6 : ∀ w ∈ wsX60, w ∈ wsX6_firstJokers := by decide +kernel
  rw [show entryFrame m args 6 = entryFrame m ([.ref wk, .int u0] : List Value).toArray 6 from by rw [hargs]]
  have hl := lv_entry ([.ref wk, .int u0]) (n := 6) (Nat.le_of_ble_eq_true rfl)
  rw [lg_entry_eq]
  generalize (lg_sl ([.ref wk, .int u0]) ++ List.replicate (6 - (lg_sl ([.ref wk, .int u0])).length) Slot.unset).toArray = ls at hl ⊢
  have hl : lv_has ls 6 [(0, .ref wk), (1, .int u0)] := hl
  refine wQ (fun Q hQ => ?_)
  have lab9 : ∀ fuel9 : Nat, ∀ (i : Nat) (gg : Int64) (x4 : Int32) (x5 : Int32), (h5 : x5 = nI (52 + i)) → (hi : i ≤ 2) → (hg : (x4, gg) = fj6 my6 u0 i) → (hfu9 : 2 - i < fuel9) → ∀ ls : Array Slot, lv_has ls 6 [(0, .ref wk), (2, .long gg), (4, .int x4), (5, .int x5)] → W p l e (headSpec wsX6_firstJokers ({ frames := 0, cells := 0, slots := 0, locals := 0 } : Room)).room s m args below meth c s.heap [] 0 0 Q (F0 m 9 ls []) := by
    intro fuel9
    induction fuel9 with
    | zero =>
      intro i gg x4 x5 h5 hi hg hfu9
      exact absurd hfu9 (Nat.not_lt_zero _)
    | succ fuel9 ih9 =>
      intro i gg x4 x5 h5 hi hg hfu9 ls hl
      refine lv_iload hx hb dX6_firstJokers_9 (lv_at hl 3 rfl) ?_
      refine lv_bipush (v := 54) hx hb dX6_firstJokers_11 (by decide) ?_
      refine lv_icmp_ge (tgt := 51) hx hb dX6_firstJokers_13 (by decide) (fun c_13 => ?_) (fun c_13 => ?_)
      · have hi2 : i = 2 := by rw [h5, show (54 : Int32) = nI 54 from rfl, nI_leI (by decide) (by omega)] at c_13; omega
        subst hi2
        have hres : gg = (fj6 my6 u0 2).2 := congrArg Prod.snd hg
        refine lv_lload_n hx hb dX6_firstJokers_51 rfl (lv_at hl 1 rfl) ?_
        rw [← hQ]
        exact W.lret (v := gg) hx hb hr (fun t ht hW => ⟨_, rfl, hres, ht⟩) (fun _ h => by cases h) dX6_firstJokers_52
      · have hi2 : i < 2 := by rw [h5, show (54 : Int32) = nI 54 from rfl, nI_leI (by decide) (by omega)] at c_13; omega
        refine lv_iload hx hb dX6_firstJokers_16 (lv_at hl 2 rfl) ?_
        refine lv_if_le (tgt := 51) hx hb dX6_firstJokers_18 (by decide) (fun c_18 => ?_) (fun c_18 => ?_)
        · have hres : gg = (fj6 my6 u0 2).2 := by have hs := fj6_stop (i := i) (by rw [← hg]; exact c_18) (2 - i); rw [show i + (2 - i) = 2 by omega, ← hg] at hs; rw [hs]
          refine lv_lload_n hx hb dX6_firstJokers_51 rfl (lv_at hl 1 rfl) ?_
          rw [← hQ]
          exact W.lret (v := gg) hx hb hr (fun t ht hW => ⟨_, rfl, hres, ht⟩) (fun _ h => by cases h) dX6_firstJokers_52
        · refine lv_aload_n hx hb dX6_firstJokers_21 rfl (lv_at hl 0 rfl) ?_
          refine va_get (D := D) (ci := 4) (v := .long my6) (C := RX6) (T := TX6) (N := 13) hx hb hts iX6 hown hK hP 0 rfl rfl 8 (by decide) k45 (fun _ h9 => h9) rfl dX6_firstJokers_22 ?_
          refine lv_iload hx hb dX6_firstJokers_25 (lv_at hl 3 rfl) ?_
          refine lv_lushr hx hb dX6_firstJokers_27 rfl ?_
          refine lv_lconst (v := 1) hx hb dX6_firstJokers_28 (by decide) ?_
          refine lv_land hx hb dX6_firstJokers_29 ?_
          refine lv_lconst (v := 0) hx hb dX6_firstJokers_30 (by decide) ?_
          refine W.lcmp hx hb dX6_firstJokers_31 ?_
          refine lv_if_eq (tgt := 45) hx hb dX6_firstJokers_32 (by decide) (fun c_32 => ?_) (fun c_32 => ?_)
          · obtain ⟨x45, ex45⟩ : ∃ y : Int32, y = x5 + 1 := ⟨_, rfl⟩
            refine lv_iinc (v := x45) (lv' := [(5, .int x45), (0, .ref wk), (2, .long gg), (4, .int x4)]) hx hb dX6_firstJokers_45 hl (k := 3) rfl (by rw [ex45]; rfl) (by decide) rfl (fun ls hl => ?_)
            refine lv_goto (tgt := 9) hx hb dX6_firstJokers_48 (by decide) ?_
            exact ih9 (i + 1) gg x4 x45 (by rw [ex45, h5]; exact nI_1 _) (by omega) (by simp only [fj6]; rw [← hg]; rw [if_neg c_18]; rw [h5] at c_32; first | (rw [if_pos c_32]; done) | (rw [if_neg c_32, ex42, ex41, h5]; done)) (by omega) ls (lv_sub hl [1, 2, 3, 0] rfl)
          · refine lv_lload_n hx hb dX6_firstJokers_35 rfl (lv_at hl 1 rfl) ?_
            refine lv_lconst (v := 1) hx hb dX6_firstJokers_36 (by decide) ?_
            refine lv_iload hx hb dX6_firstJokers_37 (lv_at hl 3 rfl) ?_
            refine lv_lshl hx hb dX6_firstJokers_39 rfl ?_
            refine lv_lor hx hb dX6_firstJokers_40 ?_
            refine lv_topl (fun x41 ex41 => ?_)
            refine lv_lstore_n (lv' := [(2, .long x41), (0, .ref wk), (4, .int x4), (5, .int x5)]) hx hb dX6_firstJokers_41 rfl hl (by decide) rfl (fun ls hl => ?_)
            obtain ⟨x42, ex42⟩ : ∃ y : Int32, y = x4 + (-1) := ⟨_, rfl⟩
            refine lv_iinc (v := x42) (lv' := [(4, .int x42), (2, .long x41), (0, .ref wk), (5, .int x5)]) hx hb dX6_firstJokers_42 hl (k := 2) rfl (by rw [ex42]; rfl) (by decide) rfl (fun ls hl => ?_)
            obtain ⟨x45, ex45⟩ : ∃ y : Int32, y = x5 + 1 := ⟨_, rfl⟩
            refine lv_iinc (v := x45) (lv' := [(5, .int x45), (4, .int x42), (2, .long x41), (0, .ref wk)]) hx hb dX6_firstJokers_45 hl (k := 3) rfl (by rw [ex45]; rfl) (by decide) rfl (fun ls hl => ?_)
            refine lv_goto (tgt := 9) hx hb dX6_firstJokers_48 (by decide) ?_
            exact ih9 (i + 1) x41 x42 x45 (by rw [ex45, h5]; exact nI_1 _) (by omega) (by simp only [fj6]; rw [← hg]; rw [if_neg c_18]; rw [h5] at c_32; first | (rw [if_pos c_32]; done) | (rw [if_neg c_32, ex42, ex41, h5]; done)) (by omega) ls (lv_sub hl [3, 2, 1, 0] rfl)
  refine lv_lconst (v := 0) hx hb dX6_firstJokers_0 (by decide) ?_
  refine lv_lstore_n (lv' := [(2, .long 0), (0, .ref wk), (1, .int u0)]) hx hb dX6_firstJokers_1 rfl hl (by decide) rfl (fun ls hl => ?_)
  refine lv_iload_n hx hb dX6_firstJokers_2 rfl (lv_at hl 2 rfl) ?_
  refine lv_istore (lv' := [(4, .int u0), (2, .long 0), (0, .ref wk), (1, .int u0)]) hx hb dX6_firstJokers_3 hl (by decide) rfl (fun ls hl => ?_)
  refine lv_bipush (v := 52) hx hb dX6_firstJokers_5 (by decide) ?_
  refine lv_istore (lv' := [(5, .int 52), (4, .int u0), (2, .long 0), (0, .ref wk), (1, .int u0)]) hx hb dX6_firstJokers_7 hl (by decide) rfl (fun ls hl => ?_)
  exact lab9 _ 0 0 u0 52 (rfl) (by omega) (rfl) (Nat.lt_succ_self _) ls (lv_sub hl [3, 2, 1, 0] rfl)
