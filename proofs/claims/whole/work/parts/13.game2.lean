def eT_card (lay : Int32) (tp : Nat) (pf : Nat → Int32) : Int32 := if lay = 0 then (if tp < 54 then pf tp else 54) else 54
def eT_top (lay : Int32) (tp : Nat) : Nat := if lay = 0 then (if tp < 54 then tp + 1 else tp) else tp
def eT_idle (lay idl cd : Int32) : Int32 := if lay = 0 then (if cd = 54 then idl + 1 else 0) else 0
theorem hp_turn {tn np : Nat} (h : np ≤ 4) (ht : tn < np) (c : nI np ≤ nI tn + 1) : (0 : Int32) = nI (if tn + 1 < np then tn + 1 else 0) := by
  rw [nI_1, nI_leI (by omega) (by omega)] at c
  rw [if_neg (by omega)]; rfl
theorem hp_turn2 {tn np : Nat} (h : np ≤ 4) (ht : tn < np) (c : ¬ nI np ≤ nI tn + 1) : nI tn + 1 = nI (if tn + 1 < np then tn + 1 else 0) := by
  rw [nI_1, nI_leI (by omega) (by omega)] at c
  rw [if_pos (by omega), nI_1]
def bgT (np mn p : Nat) : Nat := (if p < np then p else np) * mn
def bgH (sd np mn p : Nat) : Int64 := if p < np then hdL (shN sd 53).2 (p * mn) mn else 0
theorem bgT_s {np mn p : Nat} (h : p < np) : bgT np mn (p + 1) = bgT np mn p + mn := by
  unfold bgT
  rw [if_pos h]
  by_cases q : p + 1 < np
  · rw [if_pos q, Nat.succ_mul]
  · rw [if_neg q, show np = p + 1 by omega, Nat.succ_mul]
theorem bgT_n {np mn p : Nat} (h : ¬ p < np) : bgT np mn (p + 1) = bgT np mn p := by
  unfold bgT
  rw [if_neg h, if_neg (by omega)]
theorem bgT_le {np mn p : Nat} (h : np ≤ 4) (hm : mn ≤ 13) : bgT np mn p ≤ 52 := by
  unfold bgT
  have : (if p < np then p else np) ≤ 4 := by split <;> omega
  calc _ ≤ 4 * 13 := Nat.mul_le_mul this hm
    _ ≤ 52 := by decide
theorem bgT_lt {np mn p i : Nat} (h : np ≤ 4) (hm : mn ≤ 13) (hp : p < np) (hi : i < mn) : bgT np mn p + i < 52 := by
  have := bgT_le (p := p + 1) h hm
  rw [bgT_s hp] at this
  omega
theorem hp_hd {hq h2 : Nat → Int64} {pf : Nat → Int32} {sd np mn p i : Nat} {x : Int32} {top : Int32} (hx : x = nI p) (hp : p < np) (hn : np ≤ 4) (hm : mn ≤ 13) (hi : i < mn) (ht : top = pf (bgT np mn p + i)) (hpf : ∀ k, k < 54 → pf k = nI ((shN sd 53).2 k)) (e : vp_updL hq x.toNatClampNeg (hq x.toNatClampNeg ||| j_X1_bitOf top) = h2) (h : hq p = hdL (shN sd 53).2 (p * mn) i) : h2 p = hdL (shN sd 53).2 (p * mn) (i + 1) := by
  subst hx
  rw [nI_clamp (by omega)] at e
  have hl := bgT_lt hn hm hp hi
  rw [hpf _ (by omega)] at ht
  subst e; subst ht
  rw [pk_uLs, h]
  show _ = _ ||| _
  unfold bgT
  rw [if_pos hp]
theorem hp_hk {hq h2 : Nat → Int64} {p : Nat} {x : Int32} {v : Int64} (hx : x = nI p) (hp : p < 5) (e : vp_updL hq x.toNatClampNeg v = h2) : ∀ q, q ≠ p → h2 q = hq q := by
  intro q hq2
  subst hx
  rw [nI_clamp (by omega)] at e
  subst e
  exact pk_uLn hq2
theorem hp_zk {hq h2 : Nat → Int32} {p : Nat} {x v : Int32} (hx : x = nI p) (hp : p < 5) (e : upd hq x.toNatClampNeg v = h2) : h2 p = v ∧ ∀ q, q ≠ p → h2 q = hq q := by
  subst hx
  rw [nI_clamp (by omega)] at e
  subst e
  exact ⟨pk_us, fun q h => pk_un h⟩
theorem hp_lk {hq h2 : Nat → Int64} {p : Nat} {x : Int32} {v : Int64} (hx : x = nI p) (hp : p < 5) (e : vp_updL hq x.toNatClampNeg v = h2) : h2 p = v := by
  subst hx
  rw [nI_clamp (by omega)] at e
  subst e
  exact pk_uLs
theorem hp_min4 {n : Nat} (h : n ≤ 4) : (if (4 : Int32) < nI n then (4 : Int32) else nI n) = nI n := by
  rw [if_neg (fun q => by rw [show (4 : Int32) = nI 4 from rfl, nI_ltI (by decide) (by omega)] at q; omega)]
theorem bg_next {hr2 : Nat → Int64} {sd nq mn p1 i : Nat} (hhp : hr2 p1 = hdL (shN sd 53).2 (p1 * mn) i) (hho : ∀ q, q < p1 → hr2 q = bgH sd nq mn q) (hnp : ¬ p1 < nq → i = 0) (hx : i = mn ∨ ¬ p1 < nq) : bgT nq mn p1 + i = bgT nq mn (p1 + 1) ∧ ∀ q, q < p1 + 1 → hr2 q = bgH sd nq mn q := by
  by_cases hp : p1 < nq
  · have hi : i = mn := hx.resolve_right (fun h => h hp)
    subst hi
    refine ⟨(bgT_s hp).symm, fun q hq => ?_⟩
    rcases Nat.lt_succ_iff_lt_or_eq.mp hq with h | h
    · exact hho q h
    · subst h; rw [hhp]; unfold bgH; rw [if_pos hp]
  · have hi := hnp hp
    subst hi
    refine ⟨(bgT_n hp).symm, fun q hq => ?_⟩
    rcases Nat.lt_succ_iff_lt_or_eq.mp hq with h | h
    · exact hho q h
    · subst h; rw [hhp]; unfold bgH; rw [if_neg hp]; rfl
theorem bgT_0 {nq mn : Nat} : (0 : Int32) = nI (bgT nq mn 0) := by
  unfold bgT
  by_cases h : 0 < nq
  · rw [if_pos h, Nat.zero_mul]; rfl
  · rw [if_neg h, show nq = 0 by omega, Nat.zero_mul]; rfl
theorem bgT_4 {nq mn : Nat} (h : nq ≤ 4) : bgT nq mn 4 = nq * mn := by
  unfold bgT
  by_cases q : 4 < nq
  · omega
  · rw [if_neg q]
set_option maxHeartbeats 4000000 in
set_option maxRecDepth 100000 in
theorem k_X1_endTurn (l : Launch) (D : va_G) (cI cJ cZ : ClassId) (sz : Nat) (g ha oa pa : Nat) (np tp tn : Nat) (te lay idl ov win : Int32) (ly : Int64) (hf : Nat → Int64) (pf : Nat → Int32) (hn4 : np ≤ 4) (htn : tn < np) (htp : tp ≤ 54) : Met l yX1_endTurn wsX1_endTurn ({ frames := 1, cells := 0, slots := 0, locals := 21 } : Room) (va_Pc [.ref g] (wM D cI cJ cZ sz [(g, .inr (0, [.ref ha, .ref oa, .ref pa, .int (nI np), .int (nI tp), .long ly, .int (nI tn), .int te, .int lay, .int idl, .int ov, .int win])), (ha, .inl (cJ, 4, .inr (.inl hf))), (pa, .inl (cI, 54, .inl pf))])) (va_Qi (fun (r : Int32) (u : (Int32) × (Int32) × (Int32) × (Int32) × (Int32) × (Nat → Int64)) => match u with | (top2, turn2, te2, idle2, ov2, hf2) => (r = eT_card lay tp pf) ∧ top2 = (nI (eT_top lay tp)) ∧ turn2 = (nI (if tn + 1 < np then tn + 1 else 0)) ∧ te2 = (te + 1) ∧ idle2 = (eT_idle lay idl (eT_card lay tp pf)) ∧ ov2 = (if eT_idle lay idl (eT_card lay tp pf) < nI np then 0 else 1) ∧ hf2 = (vp_updL hf tn (hf tn ||| j_X1_bitOf (eT_card lay tp pf)))) (fun (u : (Int32) × (Int32) × (Int32) × (Int32) × (Int32) × (Nat → Int64)) t => match u with | (top2, turn2, te2, idle2, ov2, hf2) => wB D (va_A [(g, .inr (0, [.ref ha, .ref oa, .ref pa, .int (nI np), .int (nI tp), .long ly, .int (nI tn), .int te, .int lay, .int idl, .int ov, .int win])), (ha, .inl (cJ, 4, .inr (.inl hf))), (pa, .inl (cI, 54, .inl pf))] sz) [(g, .inr (0, [.ref ha, .ref oa, .ref pa, .int (nI np), .int top2, .long ly, .int turn2, .int te2, .int 0, .int idle2, .int ov2, .int win])), (ha, .inl (cJ, 4, .inr (.inl hf2))), (pa, .inl (cI, 54, .inl pf))] t) (va_A [(g, .inr (0, [.ref ha, .ref oa, .ref pa, .int (nI np), .int (nI tp), .long ly, .int (nI tn), .int te, .int lay, .int idl, .int ov, .int win])), (ha, .inl (cJ, 4, .inr (.inl hf))), (pa, .inl (cI, 54, .inl pf))] sz)) 0 0 (va_A [(g, .inr (0, [.ref ha, .ref oa, .ref pa, .int (nI np), .int (nI tp), .long ly, .int (nI tn), .int te, .int lay, .int idl, .int ov, .int win])), (ha, .inl (cJ, 4, .inr (.inl hf))), (pa, .inl (cI, 54, .inl pf))] sz) := by
  refine Met.ofW (cc := cX1_endTurn) (maxL := 2) (ret := (some .int)) (by decide) rfl ?_
  intro p e s m args below meth c s₁ B hml hv
  obtain ⟨hargs, hsz, hP, ⟨hK, hN⟩, hD0⟩ := hv
  have hx := B.exec
  have hb := B.bytes
  have hr := B.returns
  have hlocks := B.notSynchronized
  have hts := atoms_spec (ws := wsX1_endTurn) B.pre
  have hown : s.vm.findClass RX1 = some m.cls := findClass_of_methodNamed B.named
  have k55 := hts (.fieldLink RX1 55 "RummyTable$Game" "turnsEnded" "I") (by decide +kernel)
  have iX1 : ∀ w ∈ wsX10, w ∈ wsX1_endTurn := by decide +kernel
  have k58 := hts (.fieldLink RX1 58 "RummyTable$Game" "layings" "I") (by decide +kernel)
  have k52 := hts (.fieldLink RX1 52 "RummyTable$Game" "turn" "I") (by decide +kernel)
  have k33 := hts (.fieldLink RX1 33 "RummyTable$Game" "players" "I") (by decide +kernel)
  have k61 := hts (.fieldLink RX1 61 "RummyTable$Game" "idleTurns" "I") (by decide +kernel)
  have k64 := hts (.fieldLink RX1 64 "RummyTable$Game" "over" "Z") (by decide +kernel)
  have k75 := hts (.methodLink RX1 75 yX1_has) (by decide +kernel)
  have k9 := hts (.fieldLink RX1 9 "RummyTable$Game" "hands" "[J") (by decide +kernel)
  have k44 := hts (.methodLink RX1 44 yX1_bitOf) (by decide +kernel)
  have k40 := hts (.methodLink RX1 40 yX1_drawn) (by decide +kernel)
  subst hsz
  have hD := hD0.self (sz := s.heap.size)
  generalize hAe : va_A [(g, .inr (0, [.ref ha, .ref oa, .ref pa, .int (nI np), .int (nI tp), .long ly, .int (nI tn), .int te, .int lay, .int idl, .int ov, .int win])), (ha, .inl (cJ, 4, .inr (.inl hf))), (pa, .inl (cI, 54, .inl pf))] s.heap.size = A at hD ⊢
  have hA : ∀ q : Nat, s.heap.size ≤ q → A q := fun q h => by rw [← hAe]; exact Or.inr h
  have hS : va_S A s.heap s.heap [] := va_S.rf
  rw [show entryFrame m args 2 = entryFrame m ([.ref g] : List Value).toArray 2 from by rw [hargs]]
  have hl := lv_entry ([.ref g]) (n := 2) (Nat.le_of_ble_eq_true rfl)
  rw [lg_entry_eq]
  generalize (lg_sl ([.ref g]) ++ List.replicate (2 - (lg_sl ([.ref g])).length) Slot.unset).toArray = ls at hl ⊢
  have hl : lv_has ls 2 [(0, .ref g)] := hl
  refine wQ (fun Q hQ => ?_)
  have hin4 : vp_in (nI tn) 4 := vp_in_nI (by omega) (by decide)
  have hcl : (nI tn).toNatClampNeg = tn := nI_clamp (by omega)
  have lab91 : ∀  (cd : Int32) (tq : Int32) (id2 : Int32) (ov2 : Int32) (hq : Nat → Int64), (hcd : cd = eT_card lay tp pf) → (htq : tq = nI (eT_top lay tp)) → (hid : id2 = eT_idle lay idl cd) → (hov : ov2 = if id2 < nI np then 0 else 1) → (hhf : hq = vp_updL hf tn (hf tn ||| j_X1_bitOf cd)) → ∀ (H : Heap) (locs : List Loc), va_P D vwCl [(g, .inr (0, [.ref ha, .ref oa, .ref pa, .int (nI np), .int tq, .long ly, .int (nI tn), .int te, .int lay, .int id2, .int ov2, .int win])), (ha, .inl (cJ, 4, .inr (.inl hq))), (pa, .inl (cI, 54, .inl pf))] H → va_D A [(g, .inr (0, [.ref ha, .ref oa, .ref pa, .int (nI np), .int tq, .long ly, .int (nI tn), .int te, .int lay, .int id2, .int ov2, .int win])), (ha, .inl (cJ, 4, .inr (.inl hq))), (pa, .inl (cI, 54, .inl pf))] → va_S A s.heap H locs → ∀ ls : Array Slot, lv_has ls 2 [(0, .ref g), (1, .int cd)] → W p l e (headSpec wsX1_endTurn ({ frames := 1, cells := 0, slots := 0, locals := 21 } : Room)).room s m args below meth c H locs 0 0 Q (F0 m 91 ls []) := by
    intro cd tq id2 ov2 hq hcd htq hid hov hhf H locs hP hD hS ls hl
    refine lv_aload_n hx hb dX1_endTurn_91 rfl (lv_at hl 0 rfl) ?_
    refine lv_dup hx hb dX1_endTurn_92 rfl ?_
    refine va_get (D := D) (ci := 0) (v := .int te) (C := RX1) (T := TX1) (N := 12) hx hb hts iX1 hown hK hP 0 rfl rfl 7 (by decide) k55 (fun _ h9 => h9) rfl dX1_endTurn_93 ?_
    refine lv_iconst (v := 1) hx hb dX1_endTurn_96 (by decide) ?_
    refine lv_iadd hx hb dX1_endTurn_97 ?_
    refine va_put (D := D) (ci := 0) (v := .int (te + 1)) (ty := .int) (C := RX1) (T := TX1) (N := 12) hx hb hts iX1 tyX1 tyX1_ok nmX1 hown hK hP hD hS 0 rfl rfl 7 (by decide) k55 (fun _ h9 => h9) rfl (by decide +kernel) rfl rfl (Nat.le_of_ble_eq_true rfl) dX1_endTurn_98 (fun H locs hP hD hS => ?_)
    have hP : va_P D vwCl [(g, .inr (0, [.ref ha, .ref oa, .ref pa, .int (nI np), .int tq, .long ly, .int (nI tn), .int (te + 1), .int lay, .int id2, .int ov2, .int win])), (ha, .inl (cJ, 4, .inr (.inl hq))), (pa, .inl (cI, 54, .inl pf))] H := hP
    have hD : va_D A [(g, .inr (0, [.ref ha, .ref oa, .ref pa, .int (nI np), .int tq, .long ly, .int (nI tn), .int (te + 1), .int lay, .int id2, .int ov2, .int win])), (ha, .inl (cJ, 4, .inr (.inl hq))), (pa, .inl (cI, 54, .inl pf))] := hD
    refine lv_aload_n hx hb dX1_endTurn_101 rfl (lv_at hl 0 rfl) ?_
    refine lv_iconst (v := 0) hx hb dX1_endTurn_102 (by decide) ?_
    refine va_put (D := D) (ci := 0) (v := .int 0) (ty := .int) (C := RX1) (T := TX1) (N := 12) hx hb hts iX1 tyX1 tyX1_ok nmX1 hown hK hP hD hS 0 rfl rfl 8 (by decide) k58 (fun _ h9 => h9) rfl (by decide +kernel) rfl rfl (Nat.le_of_ble_eq_true rfl) dX1_endTurn_103 (fun H locs hP hD hS => ?_)
    have hP : va_P D vwCl [(g, .inr (0, [.ref ha, .ref oa, .ref pa, .int (nI np), .int tq, .long ly, .int (nI tn), .int (te + 1), .int 0, .int id2, .int ov2, .int win])), (ha, .inl (cJ, 4, .inr (.inl hq))), (pa, .inl (cI, 54, .inl pf))] H := hP
    have hD : va_D A [(g, .inr (0, [.ref ha, .ref oa, .ref pa, .int (nI np), .int tq, .long ly, .int (nI tn), .int (te + 1), .int 0, .int id2, .int ov2, .int win])), (ha, .inl (cJ, 4, .inr (.inl hq))), (pa, .inl (cI, 54, .inl pf))] := hD
    refine lv_aload_n hx hb dX1_endTurn_106 rfl (lv_at hl 0 rfl) ?_
    refine lv_aload_n hx hb dX1_endTurn_107 rfl (lv_at hl 0 rfl) ?_
    refine va_get (D := D) (ci := 0) (v := .int (nI tn)) (C := RX1) (T := TX1) (N := 12) hx hb hts iX1 hown hK hP 0 rfl rfl 6 (by decide) k52 (fun _ h9 => h9) rfl dX1_endTurn_108 ?_
    refine lv_iconst (v := 1) hx hb dX1_endTurn_111 (by decide) ?_
    refine lv_iadd hx hb dX1_endTurn_112 ?_
    refine lv_aload_n hx hb dX1_endTurn_113 rfl (lv_at hl 0 rfl) ?_
    refine va_get (D := D) (ci := 0) (v := .int (nI np)) (C := RX1) (T := TX1) (N := 12) hx hb hts iX1 hown hK hP 0 rfl rfl 3 (by decide) k33 (fun _ h9 => h9) rfl dX1_endTurn_114 ?_
    refine lv_icmp_ge (tgt := 129) hx hb dX1_endTurn_117 (by decide) (fun c_117 => ?_) (fun c_117 => ?_)
    · refine lv_iconst (v := 0) hx hb dX1_endTurn_129 (by decide) ?_
      refine va_put (D := D) (ci := 0) (v := .int 0) (ty := .int) (C := RX1) (T := TX1) (N := 12) hx hb hts iX1 tyX1 tyX1_ok nmX1 hown hK hP hD hS 0 rfl rfl 6 (by decide) k52 (fun _ h9 => h9) rfl (by decide +kernel) rfl rfl (Nat.le_of_ble_eq_true rfl) dX1_endTurn_130 (fun H locs hP hD hS => ?_)
      have hP : va_P D vwCl [(g, .inr (0, [.ref ha, .ref oa, .ref pa, .int (nI np), .int tq, .long ly, .int 0, .int (te + 1), .int 0, .int id2, .int ov2, .int win])), (ha, .inl (cJ, 4, .inr (.inl hq))), (pa, .inl (cI, 54, .inl pf))] H := hP
      have hD : va_D A [(g, .inr (0, [.ref ha, .ref oa, .ref pa, .int (nI np), .int tq, .long ly, .int 0, .int (te + 1), .int 0, .int id2, .int ov2, .int win])), (ha, .inl (cJ, 4, .inr (.inl hq))), (pa, .inl (cI, 54, .inl pf))] := hD
      refine lv_iload_n hx hb dX1_endTurn_133 rfl (lv_at hl 1 rfl) ?_
      rw [← hQ]
      have hP9 := hP.sub (ws' := [(g, .inr (0, [.ref ha, .ref oa, .ref pa, .int (nI np), .int tq, .long ly, .int 0, .int (te + 1), .int 0, .int id2, .int ov2, .int win])), (ha, .inl (cJ, 4, .inr (.inl hq))), (pa, .inl (cI, 54, .inl pf))]) [0, 1, 2] rfl
      have hD9 := hD.sub (ws' := [(g, .inr (0, [.ref ha, .ref oa, .ref pa, .int (nI np), .int tq, .long ly, .int 0, .int (te + 1), .int 0, .int id2, .int ov2, .int win])), (ha, .inl (cJ, 4, .inr (.inl hq))), (pa, .inl (cI, 54, .inl pf))]) [0, 1, 2] (by decide) rfl
      exact W.iret (v := cd) hx hb hr (fun t ht hW => ⟨⟨cd, (tq, 0, te + 1, id2, ov2, hq), rfl, ⟨hcd, htq, (by first | exact hp_turn hn4 htn c_117 | exact hp_turn2 hn4 htn c_117), rfl, (by rw [hid, hcd]), (by rw [hov, hid, hcd]), (by rw [hhf, hcd])⟩, (by show wB D A _ t; exact ⟨by rw [ht]; exact hP9, hD9⟩)⟩, hS.F ht⟩) hS.2.2 dX1_endTurn_134
    · refine lv_aload_n hx hb dX1_endTurn_120 rfl (lv_at hl 0 rfl) ?_
      refine va_get (D := D) (ci := 0) (v := .int (nI tn)) (C := RX1) (T := TX1) (N := 12) hx hb hts iX1 hown hK hP 0 rfl rfl 6 (by decide) k52 (fun _ h9 => h9) rfl dX1_endTurn_121 ?_
      refine lv_iconst (v := 1) hx hb dX1_endTurn_124 (by decide) ?_
      refine lv_iadd hx hb dX1_endTurn_125 ?_
      refine lv_goto (tgt := 130) hx hb dX1_endTurn_126 (by decide) ?_
      refine va_put (D := D) (ci := 0) (v := .int ((nI tn) + 1)) (ty := .int) (C := RX1) (T := TX1) (N := 12) hx hb hts iX1 tyX1 tyX1_ok nmX1 hown hK hP hD hS 0 rfl rfl 6 (by decide) k52 (fun _ h9 => h9) rfl (by decide +kernel) rfl rfl (Nat.le_of_ble_eq_true rfl) dX1_endTurn_130 (fun H locs hP hD hS => ?_)
      have hP : va_P D vwCl [(g, .inr (0, [.ref ha, .ref oa, .ref pa, .int (nI np), .int tq, .long ly, .int ((nI tn) + 1), .int (te + 1), .int 0, .int id2, .int ov2, .int win])), (ha, .inl (cJ, 4, .inr (.inl hq))), (pa, .inl (cI, 54, .inl pf))] H := hP
      have hD : va_D A [(g, .inr (0, [.ref ha, .ref oa, .ref pa, .int (nI np), .int tq, .long ly, .int ((nI tn) + 1), .int (te + 1), .int 0, .int id2, .int ov2, .int win])), (ha, .inl (cJ, 4, .inr (.inl hq))), (pa, .inl (cI, 54, .inl pf))] := hD
      refine lv_iload_n hx hb dX1_endTurn_133 rfl (lv_at hl 1 rfl) ?_
      rw [← hQ]
      have hP9 := hP.sub (ws' := [(g, .inr (0, [.ref ha, .ref oa, .ref pa, .int (nI np), .int tq, .long ly, .int ((nI tn) + 1), .int (te + 1), .int 0, .int id2, .int ov2, .int win])), (ha, .inl (cJ, 4, .inr (.inl hq))), (pa, .inl (cI, 54, .inl pf))]) [0, 1, 2] rfl
      have hD9 := hD.sub (ws' := [(g, .inr (0, [.ref ha, .ref oa, .ref pa, .int (nI np), .int tq, .long ly, .int ((nI tn) + 1), .int (te + 1), .int 0, .int id2, .int ov2, .int win])), (ha, .inl (cJ, 4, .inr (.inl hq))), (pa, .inl (cI, 54, .inl pf))]) [0, 1, 2] (by decide) rfl
      exact W.iret (v := cd) hx hb hr (fun t ht hW => ⟨⟨cd, (tq, (nI tn) + 1, te + 1, id2, ov2, hq), rfl, ⟨hcd, htq, (by first | exact hp_turn hn4 htn c_117 | exact hp_turn2 hn4 htn c_117), rfl, (by rw [hid, hcd]), (by rw [hov, hid, hcd]), (by rw [hhf, hcd])⟩, (by show wB D A _ t; exact ⟨by rw [ht]; exact hP9, hD9⟩)⟩, hS.F ht⟩) hS.2.2 dX1_endTurn_134
  have lab71 : ∀  (cd : Int32) (tq : Int32) (id2 : Int32) (hq : Nat → Int64), (hcd : cd = eT_card lay tp pf) → (htq : tq = nI (eT_top lay tp)) → (hid : id2 = eT_idle lay idl cd) → (hhf : hq = vp_updL hf tn (hf tn ||| j_X1_bitOf cd)) → ∀ (H : Heap) (locs : List Loc), va_P D vwCl [(g, .inr (0, [.ref ha, .ref oa, .ref pa, .int (nI np), .int tq, .long ly, .int (nI tn), .int te, .int lay, .int id2, .int ov, .int win])), (ha, .inl (cJ, 4, .inr (.inl hq))), (pa, .inl (cI, 54, .inl pf))] H → va_D A [(g, .inr (0, [.ref ha, .ref oa, .ref pa, .int (nI np), .int tq, .long ly, .int (nI tn), .int te, .int lay, .int id2, .int ov, .int win])), (ha, .inl (cJ, 4, .inr (.inl hq))), (pa, .inl (cI, 54, .inl pf))] → va_S A s.heap H locs → ∀ ls : Array Slot, lv_has ls 2 [(0, .ref g), (1, .int cd)] → W p l e (headSpec wsX1_endTurn ({ frames := 1, cells := 0, slots := 0, locals := 21 } : Room)).room s m args below meth c H locs 0 0 Q (F0 m 71 ls []) := by
    intro cd tq id2 hq hcd htq hid hhf H locs hP hD hS ls hl
    refine lv_aload_n hx hb dX1_endTurn_71 rfl (lv_at hl 0 rfl) ?_
    refine lv_aload_n hx hb dX1_endTurn_72 rfl (lv_at hl 0 rfl) ?_
    refine va_get (D := D) (ci := 0) (v := .int id2) (C := RX1) (T := TX1) (N := 12) hx hb hts iX1 hown hK hP 0 rfl rfl 9 (by decide) k61 (fun _ h9 => h9) rfl dX1_endTurn_73 ?_
    refine lv_aload_n hx hb dX1_endTurn_76 rfl (lv_at hl 0 rfl) ?_
    refine va_get (D := D) (ci := 0) (v := .int (nI np)) (C := RX1) (T := TX1) (N := 12) hx hb hts iX1 hown hK hP 0 rfl rfl 3 (by decide) k33 (fun _ h9 => h9) rfl dX1_endTurn_77 ?_
    refine lv_icmp_lt (tgt := 87) hx hb dX1_endTurn_80 (by decide) (fun c_80 => ?_) (fun c_80 => ?_)
    · refine lv_iconst (v := 0) hx hb dX1_endTurn_87 (by decide) ?_
      refine va_put (D := D) (ci := 0) (v := .int 0) (ty := .boolean) (C := RX1) (T := TX1) (N := 12) hx hb hts iX1 tyX1 tyX1_ok nmX1 hown hK hP hD hS 0 rfl rfl 10 (by decide) k64 (fun _ h9 => h9) rfl (by decide +kernel) rfl rfl (Nat.le_of_ble_eq_true rfl) dX1_endTurn_88 (fun H locs hP hD hS => ?_)
      have hP : va_P D vwCl [(g, .inr (0, [.ref ha, .ref oa, .ref pa, .int (nI np), .int tq, .long ly, .int (nI tn), .int te, .int lay, .int id2, .int 0, .int win])), (ha, .inl (cJ, 4, .inr (.inl hq))), (pa, .inl (cI, 54, .inl pf))] H := hP
      have hD : va_D A [(g, .inr (0, [.ref ha, .ref oa, .ref pa, .int (nI np), .int tq, .long ly, .int (nI tn), .int te, .int lay, .int id2, .int 0, .int win])), (ha, .inl (cJ, 4, .inr (.inl hq))), (pa, .inl (cI, 54, .inl pf))] := hD
      exact lab91 cd tq id2 0 hq (hcd) (htq) (hid) (by first | (rw [if_pos c_80]) | (rw [if_neg (fun q => c_80 q)])) (hhf) _ _ hP hD hS ls (lv_sub hl [0, 1] rfl)
    · refine lv_iconst (v := 1) hx hb dX1_endTurn_83 (by decide) ?_
      refine lv_goto (tgt := 88) hx hb dX1_endTurn_84 (by decide) ?_
      refine va_put (D := D) (ci := 0) (v := .int 1) (ty := .boolean) (C := RX1) (T := TX1) (N := 12) hx hb hts iX1 tyX1 tyX1_ok nmX1 hown hK hP hD hS 0 rfl rfl 10 (by decide) k64 (fun _ h9 => h9) rfl (by decide +kernel) rfl rfl (Nat.le_of_ble_eq_true rfl) dX1_endTurn_88 (fun H locs hP hD hS => ?_)
      have hP : va_P D vwCl [(g, .inr (0, [.ref ha, .ref oa, .ref pa, .int (nI np), .int tq, .long ly, .int (nI tn), .int te, .int lay, .int id2, .int 1, .int win])), (ha, .inl (cJ, 4, .inr (.inl hq))), (pa, .inl (cI, 54, .inl pf))] H := hP
      have hD : va_D A [(g, .inr (0, [.ref ha, .ref oa, .ref pa, .int (nI np), .int tq, .long ly, .int (nI tn), .int te, .int lay, .int id2, .int 1, .int win])), (ha, .inl (cJ, 4, .inr (.inl hq))), (pa, .inl (cI, 54, .inl pf))] := hD
      exact lab91 cd tq id2 1 hq (hcd) (htq) (hid) (by first | (rw [if_pos c_80]) | (rw [if_neg (fun q => c_80 q)])) (hhf) _ _ hP hD hS ls (lv_sub hl [0, 1] rfl)
  have lab17 : ∀  (cd : Int32) (tq : Int32), (hcd : cd = eT_card lay tp pf) → (htq : tq = nI (eT_top lay tp)) → ∀ (H : Heap) (locs : List Loc), va_P D vwCl [(g, .inr (0, [.ref ha, .ref oa, .ref pa, .int (nI np), .int tq, .long ly, .int (nI tn), .int te, .int lay, .int idl, .int ov, .int win])), (ha, .inl (cJ, 4, .inr (.inl hf))), (pa, .inl (cI, 54, .inl pf))] H → va_D A [(g, .inr (0, [.ref ha, .ref oa, .ref pa, .int (nI np), .int tq, .long ly, .int (nI tn), .int te, .int lay, .int idl, .int ov, .int win])), (ha, .inl (cJ, 4, .inr (.inl hf))), (pa, .inl (cI, 54, .inl pf))] → va_S A s.heap H locs → ∀ ls : Array Slot, lv_has ls 2 [(0, .ref g), (1, .int cd)] → W p l e (headSpec wsX1_endTurn ({ frames := 1, cells := 0, slots := 0, locals := 21 } : Room)).room s m args below meth c H locs 0 0 Q (F0 m 17 ls []) := by
    intro cd tq hcd htq H locs hP hD hS ls hl
    refine lv_aload_n hx hb dX1_endTurn_17 rfl (lv_at hl 0 rfl) ?_
    refine lv_aload_n hx hb dX1_endTurn_18 rfl (lv_at hl 0 rfl) ?_
    refine va_get (D := D) (ci := 0) (v := .int (nI tn)) (C := RX1) (T := TX1) (N := 12) hx hb hts iX1 hown hK hP 0 rfl rfl 6 (by decide) k52 (fun _ h9 => h9) rfl dX1_endTurn_19 ?_
    have hPc := hP.sub (ws' := [(g, .inr (0, [.ref ha, .ref oa, .ref pa, .int (nI np), .int tq, .long ly, .int (nI tn), .int te, .int lay, .int idl, .int ov, .int win]))]) [0] rfl
    refine vp_callSi (W.runV (As := [.int (nI tn)]) (rest := []) ⟨hx, hb, hml, hown, hts⟩ (k_X1_has l D cI cJ cZ g ha oa pa np tq (nI tn) te lay idl ov win ly (nI tn) ) (cwV 1 hts gX1_endTurn_X1_has rfl rfl rfl (by decide +kernel) ⟨Nat.le_of_ble_eq_true rfl, Nat.le_of_ble_eq_true rfl⟩) ⟨wR_fb, va_recv hK hPc (ci := 0) (q0 := 0) rfl rfl, wR_pre hPc ⟨hK, hN⟩⟩ rfl rfl hl.1 rfl (lv_room (Nat.le_of_ble_eq_true rfl)) dX1_endTurn_22 ⟨Nat.le_of_ble_eq_true rfl, Nat.le_of_ble_eq_true rfl⟩) (fun x22 hx22 => ?_)
    subst hx22
    refine lv_topi (fun y22 ey22 => ?_)
    rw [show j_has np (nI tn) = 1 from j_has_ok htn hn4] at ey22
    refine lv_if_eq (tgt := 44) hx hb dX1_endTurn_25 (by decide) (fun c_25 => ?_) (fun c_25 => ?_)
    · exact absurd (ey22.symm.trans c_25) (by decide)
    · refine lv_aload_n hx hb dX1_endTurn_28 rfl (lv_at hl 0 rfl) ?_
      refine va_get (D := D) (ci := 0) (v := .ref ha) (C := RX1) (T := TX1) (N := 12) hx hb hts iX1 hown hK hP 0 rfl rfl 0 (by decide) k9 (fun _ h9 => h9) rfl dX1_endTurn_29 ?_
      refine lv_aload_n hx hb dX1_endTurn_32 rfl (lv_at hl 0 rfl) ?_
      refine va_get (D := D) (ci := 0) (v := .int (nI tn)) (C := RX1) (T := TX1) (N := 12) hx hb hts iX1 hown hK hP 0 rfl rfl 6 (by decide) k52 (fun _ h9 => h9) rfl dX1_endTurn_33 ?_
      refine lv_dup2_11 hx hb dX1_endTurn_36 rfl rfl ?_
      refine va_lald hx hb hK hP 1 1 rfl rfl (hin4) dX1_endTurn_37 ?_
      refine lv_iload_n hx hb dX1_endTurn_38 rfl (lv_at hl 1 rfl) ?_
      refine vp_callSl (W.runS (As := [.int cd]) (rest := [.long (hf (nI tn).toNatClampNeg), .int (nI tn), .ref ha]) ⟨hx, hb, hml, hown, hts⟩ (k_X1_bitOf l cd ) (va_cwS 1 hts gX1_endTurn_X1_bitOf rfl rfl rfl (by decide +kernel) ⟨Nat.le_of_ble_eq_true rfl, Nat.le_of_ble_eq_true rfl⟩) ⟨pS_fb, pS_pre⟩ rfl rfl hl.1 rfl (lv_room (Nat.le_of_ble_eq_true rfl)) dX1_endTurn_39 ⟨Nat.le_of_ble_eq_true rfl, Nat.le_of_ble_eq_true rfl⟩) (fun x39 hx39 => ?_)
      subst hx39
      refine lv_lor hx hb dX1_endTurn_42 ?_
      refine va_last hx hb hK hP hD hS 1 1 rfl rfl (hin4) dX1_endTurn_43 (fun H locs hP hD hS => ?_)
      have hP : va_P D vwCl [(g, .inr (0, [.ref ha, .ref oa, .ref pa, .int (nI np), .int tq, .long ly, .int (nI tn), .int te, .int lay, .int idl, .int ov, .int win])), (ha, .inl (cJ, 4, .inr (.inl (vp_updL hf (nI tn).toNatClampNeg ((hf (nI tn).toNatClampNeg) ||| (j_X1_bitOf cd)))))), (pa, .inl (cI, 54, .inl pf))] H := hP
      have hD : va_D A [(g, .inr (0, [.ref ha, .ref oa, .ref pa, .int (nI np), .int tq, .long ly, .int (nI tn), .int te, .int lay, .int idl, .int ov, .int win])), (ha, .inl (cJ, 4, .inr (.inl (vp_updL hf (nI tn).toNatClampNeg ((hf (nI tn).toNatClampNeg) ||| (j_X1_bitOf cd)))))), (pa, .inl (cI, 54, .inl pf))] := hD
      generalize ex43 : vp_updL hf (nI tn).toNatClampNeg ((hf (nI tn).toNatClampNeg) ||| (j_X1_bitOf cd)) = x43 at hP hD
      refine lv_aload_n hx hb dX1_endTurn_44 rfl (lv_at hl 0 rfl) ?_
      refine lv_aload_n hx hb dX1_endTurn_45 rfl (lv_at hl 0 rfl) ?_
      refine va_get (D := D) (ci := 0) (v := .int lay) (C := RX1) (T := TX1) (N := 12) hx hb hts iX1 hown hK hP 0 rfl rfl 8 (by decide) k58 (fun _ h9 => h9) rfl dX1_endTurn_46 ?_
      refine lv_if_ne (tgt := 67) hx hb dX1_endTurn_49 (by decide) (fun c_49 => ?_) (fun c_49 => ?_)
      · refine lv_iconst (v := 0) hx hb dX1_endTurn_67 (by decide) ?_
        refine va_put (D := D) (ci := 0) (v := .int 0) (ty := .int) (C := RX1) (T := TX1) (N := 12) hx hb hts iX1 tyX1 tyX1_ok nmX1 hown hK hP hD hS 0 rfl rfl 9 (by decide) k61 (fun _ h9 => h9) rfl (by decide +kernel) rfl rfl (Nat.le_of_ble_eq_true rfl) dX1_endTurn_68 (fun H locs hP hD hS => ?_)
        have hP : va_P D vwCl [(g, .inr (0, [.ref ha, .ref oa, .ref pa, .int (nI np), .int tq, .long ly, .int (nI tn), .int te, .int lay, .int 0, .int ov, .int win])), (ha, .inl (cJ, 4, .inr (.inl x43))), (pa, .inl (cI, 54, .inl pf))] H := hP
        have hD : va_D A [(g, .inr (0, [.ref ha, .ref oa, .ref pa, .int (nI np), .int tq, .long ly, .int (nI tn), .int te, .int lay, .int 0, .int ov, .int win])), (ha, .inl (cJ, 4, .inr (.inl x43))), (pa, .inl (cI, 54, .inl pf))] := hD
        exact lab71 cd tq 0 x43 (hcd) (htq) (by simp only [eT_idle]; first | (rw [if_neg c_49]) | (rw [if_pos c_49, if_neg c_55]) | (rw [if_pos c_49, if_pos c_55])) (by rw [← ex43, hcl]) _ _ hP hD hS ls (lv_sub hl [0, 1] rfl)
      · refine lv_iload_n hx hb dX1_endTurn_52 rfl (lv_at hl 1 rfl) ?_
        refine lv_bipush (v := 54) hx hb dX1_endTurn_53 (by decide) ?_
        refine lv_icmp_ne (tgt := 67) hx hb dX1_endTurn_55 (by decide) (fun c_55 => ?_) (fun c_55 => ?_)
        · refine lv_iconst (v := 0) hx hb dX1_endTurn_67 (by decide) ?_
          refine va_put (D := D) (ci := 0) (v := .int 0) (ty := .int) (C := RX1) (T := TX1) (N := 12) hx hb hts iX1 tyX1 tyX1_ok nmX1 hown hK hP hD hS 0 rfl rfl 9 (by decide) k61 (fun _ h9 => h9) rfl (by decide +kernel) rfl rfl (Nat.le_of_ble_eq_true rfl) dX1_endTurn_68 (fun H locs hP hD hS => ?_)
          have hP : va_P D vwCl [(g, .inr (0, [.ref ha, .ref oa, .ref pa, .int (nI np), .int tq, .long ly, .int (nI tn), .int te, .int lay, .int 0, .int ov, .int win])), (ha, .inl (cJ, 4, .inr (.inl x43))), (pa, .inl (cI, 54, .inl pf))] H := hP
          have hD : va_D A [(g, .inr (0, [.ref ha, .ref oa, .ref pa, .int (nI np), .int tq, .long ly, .int (nI tn), .int te, .int lay, .int 0, .int ov, .int win])), (ha, .inl (cJ, 4, .inr (.inl x43))), (pa, .inl (cI, 54, .inl pf))] := hD
          exact lab71 cd tq 0 x43 (hcd) (htq) (by simp only [eT_idle]; first | (rw [if_neg c_49]) | (rw [if_pos c_49, if_neg c_55]) | (rw [if_pos c_49, if_pos c_55])) (by rw [← ex43, hcl]) _ _ hP hD hS ls (lv_sub hl [0, 1] rfl)
        · refine lv_aload_n hx hb dX1_endTurn_58 rfl (lv_at hl 0 rfl) ?_
          refine va_get (D := D) (ci := 0) (v := .int idl) (C := RX1) (T := TX1) (N := 12) hx hb hts iX1 hown hK hP 0 rfl rfl 9 (by decide) k61 (fun _ h9 => h9) rfl dX1_endTurn_59 ?_
          refine lv_iconst (v := 1) hx hb dX1_endTurn_62 (by decide) ?_
          refine lv_iadd hx hb dX1_endTurn_63 ?_
          refine lv_goto (tgt := 68) hx hb dX1_endTurn_64 (by decide) ?_
          refine va_put (D := D) (ci := 0) (v := .int (idl + 1)) (ty := .int) (C := RX1) (T := TX1) (N := 12) hx hb hts iX1 tyX1 tyX1_ok nmX1 hown hK hP hD hS 0 rfl rfl 9 (by decide) k61 (fun _ h9 => h9) rfl (by decide +kernel) rfl rfl (Nat.le_of_ble_eq_true rfl) dX1_endTurn_68 (fun H locs hP hD hS => ?_)
          have hP : va_P D vwCl [(g, .inr (0, [.ref ha, .ref oa, .ref pa, .int (nI np), .int tq, .long ly, .int (nI tn), .int te, .int lay, .int (idl + 1), .int ov, .int win])), (ha, .inl (cJ, 4, .inr (.inl x43))), (pa, .inl (cI, 54, .inl pf))] H := hP
          have hD : va_D A [(g, .inr (0, [.ref ha, .ref oa, .ref pa, .int (nI np), .int tq, .long ly, .int (nI tn), .int te, .int lay, .int (idl + 1), .int ov, .int win])), (ha, .inl (cJ, 4, .inr (.inl x43))), (pa, .inl (cI, 54, .inl pf))] := hD
          exact lab71 cd tq (idl + 1) x43 (hcd) (htq) (by simp only [eT_idle]; first | (rw [if_neg c_49]) | (rw [if_pos c_49, if_neg c_55]) | (rw [if_pos c_49, if_pos c_55])) (by rw [← ex43, hcl]) _ _ hP hD hS ls (lv_sub hl [0, 1] rfl)
  refine lv_aload_n hx hb dX1_endTurn_0 rfl (lv_at hl 0 rfl) ?_
  refine va_get (D := D) (ci := 0) (v := .int lay) (C := RX1) (T := TX1) (N := 12) hx hb hts iX1 hown hK hP 0 rfl rfl 8 (by decide) k58 (fun _ h9 => h9) rfl dX1_endTurn_1 ?_
  refine lv_if_ne (tgt := 14) hx hb dX1_endTurn_4 (by decide) (fun c_4 => ?_) (fun c_4 => ?_)
  · refine lv_bipush (v := 54) hx hb dX1_endTurn_14 (by decide) ?_
    refine lv_istore_n (lv' := [(1, .int 54), (0, .ref g)]) hx hb dX1_endTurn_16 rfl hl (by decide) rfl (fun ls hl => ?_)
    exact lab17 54 (nI tp) (by simp only [eT_card]; first | (rw [if_neg c_4]; done) | (rw [if_pos c_4]; exact hx8)) (by simp only [eT_top]; first | (rw [if_neg c_4]; done) | (rw [if_pos c_4]; done)) _ _ hP hD hS ls (lv_sub hl [1, 0] rfl)
  · refine lv_aload_n hx hb dX1_endTurn_7 rfl (lv_at hl 0 rfl) ?_
    have hPc := hP.sub (ws' := [(g, .inr (0, [.ref ha, .ref oa, .ref pa, .int (nI np), .int (nI tp), .long ly, .int (nI tn), .int te, .int lay, .int idl, .int ov, .int win])), (pa, .inl (cI, 54, .inl pf))]) [0, 2] rfl
    have hDc := hD.sub (ws' := [(g, .inr (0, [.ref ha, .ref oa, .ref pa, .int (nI np), .int (nI tp), .long ly, .int (nI tn), .int te, .int lay, .int idl, .int ov, .int win])), (pa, .inl (cI, 54, .inl pf))]) [0, 2] (by decide) rfl
    have hFc := va_free (wc := [(g, .inr (0, [.ref ha, .ref oa, .ref pa, .int (nI np), .int (nI tp), .long ly, .int (nI tn), .int te, .int lay, .int idl, .int ov, .int win])), (pa, .inl (cI, 54, .inl pf))]) hD hS hA [0, 2] rfl
    refine va_calli (va_runV (As := []) (rest := []) ⟨hx, hb, hml, hown, hts⟩ (k_X1_drawn l D cI cJ cZ s.heap.size g ha oa pa np tp (nI tn) te lay idl ov win ly pf (by assumption)) (cwV 0 hts gX1_endTurn_X1_drawn rfl rfl rfl (by decide +kernel) ⟨Nat.le_of_ble_eq_true rfl, Nat.le_of_ble_eq_true rfl⟩) ⟨wM_fb, va_recv hK hPc (ci := 0) (q0 := 0) rfl rfl, wM_pre hPc ⟨hK, hN⟩ hDc⟩ rfl rfl hl.1 rfl (lv_room (Nat.le_of_ble_eq_true rfl)) dX1_endTurn_8 ⟨Nat.le_of_ble_eq_true rfl, Nat.le_of_ble_eq_true rfl⟩) hS (fun q _ h => hFc q h) hFc (fun x8 u t H1 locs ht hvm hx8 hB hz1 hk1 hS => ?_)
    obtain ⟨top2_x8, rfl⟩ : ∃ z, z = u := ⟨_, rfl⟩
    obtain ⟨hP1, hD1⟩ := hB
    rw [ht] at hP1
    obtain ⟨hP, hD⟩ := va_join (wr := [(ha, .inl (cJ, 4, .inr (.inl hf)))]) (w1 := [(g, .inr (0, [.ref ha, .ref oa, .ref pa, .int (nI np), .int top2_x8, .long ly, .int (nI tn), .int te, .int lay, .int idl, .int ov, .int win])), (pa, .inl (cI, 54, .inl pf))]) hP hD [0, 2] [1] rfl rfl (by decide) (by decide) hk1 hFc hP1 hD1
    generalize H1 = H at hP hS ⊢
    have hP : va_P D vwCl [(ha, .inl (cJ, 4, .inr (.inl hf))), (g, .inr (0, [.ref ha, .ref oa, .ref pa, .int (nI np), .int top2_x8, .long ly, .int (nI tn), .int te, .int lay, .int idl, .int ov, .int win])), (pa, .inl (cI, 54, .inl pf))] H := hP
    have hD : va_D A [(ha, .inl (cJ, 4, .inr (.inl hf))), (g, .inr (0, [.ref ha, .ref oa, .ref pa, .int (nI np), .int top2_x8, .long ly, .int (nI tn), .int te, .int lay, .int idl, .int ov, .int win])), (pa, .inl (cI, 54, .inl pf))] := hD
    try dsimp only at hx8
    obtain ⟨hx8, hd_top2⟩ := hx8
    subst hd_top2
    refine lv_goto (tgt := 16) hx hb dX1_endTurn_11 (by decide) ?_
    refine lv_istore_n (lv' := [(1, .int x8), (0, .ref g)]) hx hb dX1_endTurn_16 rfl hl (by decide) rfl (fun ls hl => ?_)
    exact lab17 x8 (nI (if tp < 54 then tp + 1 else tp)) (by simp only [eT_card]; first | (rw [if_neg c_4]; done) | (rw [if_pos c_4]; exact hx8)) (by simp only [eT_top]; first | (rw [if_neg c_4]; done) | (rw [if_pos c_4]; done)) _ _ (hP.sub [1, 0, 2] rfl) (hD.sub [1, 0, 2] (by decide) rfl) hS ls (lv_sub hl [1, 0] rfl)

set_option maxHeartbeats 4000000 in
set_option maxRecDepth 100000 in
theorem k_X1_begin (l : Launch) (D : va_G) (cI cJ cZ : ClassId) (sz : Nat) (g ha oa pa : Nat) (pl0 tp0 tn0 te lay idl ov win : Int32) (ly : Int64) (nq mn sd : Nat) (hf : Nat → Int64) (of pf : Nat → Int32) (hn4 : nq ≤ 4) (hm1 : mn ≤ 13) (hs1 : 1 ≤ sd) (hs2 : sd < 2147483647) : Met l yX1_begin wsX1_begin ({ frames := 1, cells := 0, slots := 0, locals := 40 } : Room) (va_Pc [.ref g, .int (nI nq), .int (nI mn), .int (nI sd)] (wM D cI cJ cZ sz [(g, .inr (0, [.ref ha, .ref oa, .ref pa, .int pl0, .int tp0, .long ly, .int tn0, .int te, .int lay, .int idl, .int ov, .int win])), (ha, .inl (cJ, 4, .inr (.inl hf))), (oa, .inl (cZ, 4, .inl of)), (pa, .inl (cI, 54, .inl pf))])) (va_Qv (fun (u : (Int32) × (Nat → Int64) × (Nat → Int32) × (Nat → Int32)) => match u with | (top2, hf2, of2, pf2) => ((∀ q, q < 4 → hf2 q = bgH sd nq mn q) ∧ (∀ q, q < 4 → of2 q = 0) ∧ (∀ k, k < 54 → pf2 k = nI ((shN sd 53).2 k))) ∧ top2 = (nI (nq * mn))) (fun (u : (Int32) × (Nat → Int64) × (Nat → Int32) × (Nat → Int32)) t => match u with | (top2, hf2, of2, pf2) => wB D (va_A [(g, .inr (0, [.ref ha, .ref oa, .ref pa, .int pl0, .int tp0, .long ly, .int tn0, .int te, .int lay, .int idl, .int ov, .int win])), (ha, .inl (cJ, 4, .inr (.inl hf))), (oa, .inl (cZ, 4, .inl of)), (pa, .inl (cI, 54, .inl pf))] sz) [(g, .inr (0, [.ref ha, .ref oa, .ref pa, .int (nI nq), .int top2, .long 0, .int 0, .int 0, .int 0, .int 0, .int 0, .int (-1)])), (ha, .inl (cJ, 4, .inr (.inl hf2))), (oa, .inl (cZ, 4, .inl of2)), (pa, .inl (cI, 54, .inl pf2))] t) (va_A [(g, .inr (0, [.ref ha, .ref oa, .ref pa, .int pl0, .int tp0, .long ly, .int tn0, .int te, .int lay, .int idl, .int ov, .int win])), (ha, .inl (cJ, 4, .inr (.inl hf))), (oa, .inl (cZ, 4, .inl of)), (pa, .inl (cI, 54, .inl pf))] sz)) 0 0 (va_A [(g, .inr (0, [.ref ha, .ref oa, .ref pa, .int pl0, .int tp0, .long ly, .int tn0, .int te, .int lay, .int idl, .int ov, .int win])), (ha, .inl (cJ, 4, .inr (.inl hf))), (oa, .inl (cZ, 4, .inl of)), (pa, .inl (cI, 54, .inl pf))] sz) := by
  refine Met.ofW (cc := cX1_begin) (maxL := 6) (ret := none) (by decide) rfl ?_
  intro p e s m args below meth c s₁ B hml hv
  obtain ⟨hargs, hsz, hP, ⟨hK, hN⟩, hD0⟩ := hv
  have hx := B.exec
  have hb := B.bytes
  have hr := B.returns
  have hlocks := B.notSynchronized
  have hts := atoms_spec (ws := wsX1_begin) B.pre
  have hown : s.vm.findClass RX1 = some m.cls := findClass_of_methodNamed B.named
  have k33 := hts (.fieldLink RX1 33 "RummyTable$Game" "players" "I") (by decide +kernel)
  have iX1 : ∀ w ∈ wsX10, w ∈ wsX1_begin := by decide +kernel
  have k9 := hts (.fieldLink RX1 9 "RummyTable$Game" "hands" "[J") (by decide +kernel)
  have k40 := hts (.methodLink RX1 40 yX1_drawn) (by decide +kernel)
  have k44 := hts (.methodLink RX1 44 yX1_bitOf) (by decide +kernel)
  have k48 := hts (.fieldLink RX1 48 "RummyTable$Game" "lying" "J") (by decide +kernel)
  have k52 := hts (.fieldLink RX1 52 "RummyTable$Game" "turn" "I") (by decide +kernel)
  have k55 := hts (.fieldLink RX1 55 "RummyTable$Game" "turnsEnded" "I") (by decide +kernel)
  have k58 := hts (.fieldLink RX1 58 "RummyTable$Game" "layings" "I") (by decide +kernel)
  have k61 := hts (.fieldLink RX1 61 "RummyTable$Game" "idleTurns" "I") (by decide +kernel)
  have k64 := hts (.fieldLink RX1 64 "RummyTable$Game" "over" "Z") (by decide +kernel)
  have k68 := hts (.fieldLink RX1 68 "RummyTable$Game" "winner" "I") (by decide +kernel)
  have k15 := hts (.fieldLink RX1 15 "RummyTable$Game" "opened" "[Z") (by decide +kernel)
  have k23 := hts (.methodLink RX1 23 yX1_shuffle) (by decide +kernel)
  have k27 := hts (.methodLink RX1 27 Lib.Math.min.name) (by decide +kernel)
  have s_va_mmin := hts (.static Lib.Math.min.name) (by decide +kernel)
  have i_math := hts (.initialized "java/lang/Math") (by decide +kernel)
  have c_va_mmin := hts (.code Lib.Math.min.name Lib.Math.min.code 2 (some .int)) (by decide +kernel)
  have k37 := hts (.fieldLink RX1 37 "RummyTable$Game" "top" "I") (by decide +kernel)
  subst hsz
  have hD := hD0.self (sz := s.heap.size)
  generalize hAe : va_A [(g, .inr (0, [.ref ha, .ref oa, .ref pa, .int pl0, .int tp0, .long ly, .int tn0, .int te, .int lay, .int idl, .int ov, .int win])), (ha, .inl (cJ, 4, .inr (.inl hf))), (oa, .inl (cZ, 4, .inl of)), (pa, .inl (cI, 54, .inl pf))] s.heap.size = A at hD ⊢
  have hA : ∀ q : Nat, s.heap.size ≤ q → A q := fun q h => by rw [← hAe]; exact Or.inr h
  have hS : va_S A s.heap s.heap [] := va_S.rf
  rw [show entryFrame m args 6 = entryFrame m ([.ref g, .int (nI nq), .int (nI mn), .int (nI sd)] : List Value).toArray 6 from by rw [hargs]]
  have hl := lv_entry ([.ref g, .int (nI nq), .int (nI mn), .int (nI sd)]) (n := 6) (Nat.le_of_ble_eq_true rfl)
  rw [lg_entry_eq]
  generalize (lg_sl ([.ref g, .int (nI nq), .int (nI mn), .int (nI sd)]) ++ List.replicate (6 - (lg_sl ([.ref g, .int (nI nq), .int (nI mn), .int (nI sd)])).length) Slot.unset).toArray = ls at hl ⊢
  have hl : lv_has ls 6 [(0, .ref g), (1, .int (nI nq)), (2, .int (nI mn)), (3, .int (nI sd))] := hl
  refine wQ (fun Q hQ => ?_)
  have lab22 : ∀ fuel22 : Nat, ∀ (p1 : Nat) (x4 : Int32) (hq : Nat → Int64) (oq : Nat → Int32) (pq : Nat → Int32), (hpq : ∀ k, k < 54 → pq k = nI ((shN sd 53).2 k)) → (h4 : x4 = nI p1) → (hp4 : p1 ≤ 4) → (hhq : ∀ q, q < p1 → hq q = bgH sd nq mn q) → (hoq : ∀ q, q < p1 → oq q = 0) → (hfu22 : 4 - p1 < fuel22) → ∀ (H : Heap) (locs : List Loc), va_P D vwCl [(g, .inr (0, [.ref ha, .ref oa, .ref pa, .int (nI nq), .int (nI (bgT nq mn p1)), .long ly, .int tn0, .int te, .int lay, .int idl, .int ov, .int win])), (ha, .inl (cJ, 4, .inr (.inl hq))), (oa, .inl (cZ, 4, .inl oq)), (pa, .inl (cI, 54, .inl pq))] H → va_D A [(g, .inr (0, [.ref ha, .ref oa, .ref pa, .int (nI nq), .int (nI (bgT nq mn p1)), .long ly, .int tn0, .int te, .int lay, .int idl, .int ov, .int win])), (ha, .inl (cJ, 4, .inr (.inl hq))), (oa, .inl (cZ, 4, .inl oq)), (pa, .inl (cI, 54, .inl pq))] → va_S A s.heap H locs → ∀ ls : Array Slot, lv_has ls 6 [(0, .ref g), (1, .int (nI nq)), (2, .int (nI mn)), (3, .int (nI sd)), (4, .int x4)] → W p l e (headSpec wsX1_begin ({ frames := 1, cells := 0, slots := 0, locals := 40 } : Room)).room s m args below meth c H locs 0 0 Q (F0 m 22 ls []) := by
    intro fuel22
    induction fuel22 with
    | zero =>
      intro p1 x4 hq oq pq hpq h4 hp4 hhq hoq hfu22
      exact absurd hfu22 (Nat.not_lt_zero _)
    | succ fuel22 ih22 =>
      intro p1 x4 hq oq pq hpq h4 hp4 hhq hoq hfu22 H locs hP hD hS ls hl
      have lab47 : ∀ fuel47 : Nat, ∀ (i : Nat) (x5 : Int32) (hr2 : Nat → Int64) (or2 : Nat → Int32), (hlt : p1 < 4) → (h5 : x5 = nI i) → (hi : i ≤ mn) → (hhp : hr2 p1 = hdL (shN sd 53).2 (p1 * mn) i) → (hho : ∀ q, q < p1 → hr2 q = bgH sd nq mn q) → (hoq2 : ∀ q, q < p1 + 1 → or2 q = 0) → (hnp : ¬ p1 < nq → i = 0) → (hfu47 : mn - i < fuel47) → ∀ (H : Heap) (locs : List Loc), va_P D vwCl [(g, .inr (0, [.ref ha, .ref oa, .ref pa, .int (nI nq), .int (nI (bgT nq mn p1 + i)), .long ly, .int tn0, .int te, .int lay, .int idl, .int ov, .int win])), (ha, .inl (cJ, 4, .inr (.inl hr2))), (oa, .inl (cZ, 4, .inl or2)), (pa, .inl (cI, 54, .inl pq))] H → va_D A [(g, .inr (0, [.ref ha, .ref oa, .ref pa, .int (nI nq), .int (nI (bgT nq mn p1 + i)), .long ly, .int tn0, .int te, .int lay, .int idl, .int ov, .int win])), (ha, .inl (cJ, 4, .inr (.inl hr2))), (oa, .inl (cZ, 4, .inl or2)), (pa, .inl (cI, 54, .inl pq))] → va_S A s.heap H locs → ∀ ls : Array Slot, lv_has ls 6 [(0, .ref g), (1, .int (nI nq)), (2, .int (nI mn)), (3, .int (nI sd)), (4, .int x4), (5, .int x5)] → W p l e (headSpec wsX1_begin ({ frames := 1, cells := 0, slots := 0, locals := 40 } : Room)).room s m args below meth c H locs 0 0 Q (F0 m 47 ls []) := by
        intro fuel47
        induction fuel47 with
        | zero =>
          intro i x5 hr2 or2 hlt h5 hi hhp hho hoq2 hnp hfu47
          exact absurd hfu47 (Nat.not_lt_zero _)
        | succ fuel47 ih47 =>
          intro i x5 hr2 or2 hlt h5 hi hhp hho hoq2 hnp hfu47 H locs hP hD hS ls hl
          refine lv_iload hx hb dX1_begin_47 (lv_at hl 5 rfl) ?_
          refine lv_iload_n hx hb dX1_begin_49 rfl (lv_at hl 2 rfl) ?_
          refine lv_icmp_ge (tgt := 85) hx hb dX1_begin_50 (by decide) (fun c_50 => ?_) (fun c_50 => ?_)
          · have him : i = mn := hp_ge h5 rfl hi (by omega) c_50
            have hnext := bg_next hhp hho hnp (Or.inl him)
            rw [show (nI (bgT nq mn p1 + i) : Int32) = nI (bgT nq mn (p1 + 1)) from congrArg nI hnext.1] at hP hD
            have hP : va_P D vwCl [(g, .inr (0, [.ref ha, .ref oa, .ref pa, .int (nI nq), .int (nI (bgT nq mn (p1 + 1))), .long ly, .int tn0, .int te, .int lay, .int idl, .int ov, .int win])), (ha, .inl (cJ, 4, .inr (.inl hr2))), (oa, .inl (cZ, 4, .inl or2)), (pa, .inl (cI, 54, .inl pq))] H := hP
            have hD : va_D A [(g, .inr (0, [.ref ha, .ref oa, .ref pa, .int (nI nq), .int (nI (bgT nq mn (p1 + 1))), .long ly, .int tn0, .int te, .int lay, .int idl, .int ov, .int win])), (ha, .inl (cJ, 4, .inr (.inl hr2))), (oa, .inl (cZ, 4, .inl or2)), (pa, .inl (cI, 54, .inl pq))] := hD
            obtain ⟨x85, ex85⟩ : ∃ y : Int32, y = x4 + 1 := ⟨_, rfl⟩
            refine lv_iinc (v := x85) (lv' := [(4, .int x85), (0, .ref g), (1, .int (nI nq)), (2, .int (nI mn)), (3, .int (nI sd)), (5, .int x5)]) hx hb dX1_begin_85 hl (k := 4) rfl (by rw [ex85]; rfl) (by decide) rfl (fun ls hl => ?_)
            refine lv_goto (tgt := 22) hx hb dX1_begin_88 (by decide) ?_
            exact ih22 (p1 + 1) x85 hr2 or2 pq (hpq) (hp_s ex85 h4) (by omega) (hnext.2) (hoq2) (by omega) _ _ hP hD hS ls (lv_sub hl [1, 2, 3, 4, 0] rfl)
          · have hil : i < mn := hp_lt h5 rfl hi (by omega) c_50
            refine lv_iload hx hb dX1_begin_53 (lv_at hl 4 rfl) ?_
            refine lv_aload_n hx hb dX1_begin_55 rfl (lv_at hl 0 rfl) ?_
            refine va_get (D := D) (ci := 0) (v := .int (nI nq)) (C := RX1) (T := TX1) (N := 12) hx hb hts iX1 hown hK hP 0 rfl rfl 3 (by decide) k33 (fun _ h9 => h9) rfl dX1_begin_56 ?_
            refine lv_icmp_ge (tgt := 85) hx hb dX1_begin_59 (by decide) (fun c_59 => ?_) (fun c_59 => ?_)
            · have hpn : ¬ p1 < nq := fun q => by rw [h4, nI_leI (by omega) (by omega)] at c_59; omega
              have hnext := bg_next hhp hho hnp (Or.inr hpn)
              rw [show (nI (bgT nq mn p1 + i) : Int32) = nI (bgT nq mn (p1 + 1)) from congrArg nI hnext.1] at hP hD
              have hP : va_P D vwCl [(g, .inr (0, [.ref ha, .ref oa, .ref pa, .int (nI nq), .int (nI (bgT nq mn (p1 + 1))), .long ly, .int tn0, .int te, .int lay, .int idl, .int ov, .int win])), (ha, .inl (cJ, 4, .inr (.inl hr2))), (oa, .inl (cZ, 4, .inl or2)), (pa, .inl (cI, 54, .inl pq))] H := hP
              have hD : va_D A [(g, .inr (0, [.ref ha, .ref oa, .ref pa, .int (nI nq), .int (nI (bgT nq mn (p1 + 1))), .long ly, .int tn0, .int te, .int lay, .int idl, .int ov, .int win])), (ha, .inl (cJ, 4, .inr (.inl hr2))), (oa, .inl (cZ, 4, .inl or2)), (pa, .inl (cI, 54, .inl pq))] := hD
              obtain ⟨x85, ex85⟩ : ∃ y : Int32, y = x4 + 1 := ⟨_, rfl⟩
              refine lv_iinc (v := x85) (lv' := [(4, .int x85), (0, .ref g), (1, .int (nI nq)), (2, .int (nI mn)), (3, .int (nI sd)), (5, .int x5)]) hx hb dX1_begin_85 hl (k := 4) rfl (by rw [ex85]; rfl) (by decide) rfl (fun ls hl => ?_)
              refine lv_goto (tgt := 22) hx hb dX1_begin_88 (by decide) ?_
              exact ih22 (p1 + 1) x85 hr2 or2 pq (hpq) (hp_s ex85 h4) (by omega) (hnext.2) (hoq2) (by omega) _ _ hP hD hS ls (lv_sub hl [1, 2, 3, 4, 0] rfl)
            · have hpn : p1 < nq := by rw [h4, nI_leI (by omega) (by omega)] at c_59; omega
              have hl52 : bgT nq mn p1 + i < 54 := by have := bgT_lt hn4 hm1 hpn hil; omega
              refine lv_aload_n hx hb dX1_begin_62 rfl (lv_at hl 0 rfl) ?_
              refine va_get (D := D) (ci := 0) (v := .ref ha) (C := RX1) (T := TX1) (N := 12) hx hb hts iX1 hown hK hP 0 rfl rfl 0 (by decide) k9 (fun _ h9 => h9) rfl dX1_begin_63 ?_
              refine lv_iload hx hb dX1_begin_66 (lv_at hl 4 rfl) ?_
              refine lv_dup2_11 hx hb dX1_begin_68 rfl rfl ?_
              refine va_lald hx hb hK hP 1 1 rfl rfl (by rw [h4]; exact vp_in_nI hlt (by decide)) dX1_begin_69 ?_
              refine lv_aload_n hx hb dX1_begin_70 rfl (lv_at hl 0 rfl) ?_
              have hPc := hP.sub (ws' := [(g, .inr (0, [.ref ha, .ref oa, .ref pa, .int (nI nq), .int (nI (bgT nq mn p1 + i)), .long ly, .int tn0, .int te, .int lay, .int idl, .int ov, .int win])), (pa, .inl (cI, 54, .inl pq))]) [0, 3] rfl
              have hDc := hD.sub (ws' := [(g, .inr (0, [.ref ha, .ref oa, .ref pa, .int (nI nq), .int (nI (bgT nq mn p1 + i)), .long ly, .int tn0, .int te, .int lay, .int idl, .int ov, .int win])), (pa, .inl (cI, 54, .inl pq))]) [0, 3] (by decide) rfl
              have hFc := va_free (wc := [(g, .inr (0, [.ref ha, .ref oa, .ref pa, .int (nI nq), .int (nI (bgT nq mn p1 + i)), .long ly, .int tn0, .int te, .int lay, .int idl, .int ov, .int win])), (pa, .inl (cI, 54, .inl pq))]) hD hS hA [0, 3] rfl
              refine va_calli (va_runV (As := []) (rest := [.long (hr2 x4.toNatClampNeg), .int x4, .ref ha]) ⟨hx, hb, hml, hown, hts⟩ (k_X1_drawn l D cI cJ cZ H.size g ha oa pa nq (bgT nq mn p1 + i) tn0 te lay idl ov win ly pq (by omega)) (cwV 0 hts gX1_begin_X1_drawn rfl rfl rfl (by decide +kernel) ⟨Nat.le_of_ble_eq_true rfl, Nat.le_of_ble_eq_true rfl⟩) ⟨wM_fb, va_recv hK hPc (ci := 0) (q0 := 0) rfl rfl, wM_pre hPc ⟨hK, hN⟩ hDc⟩ rfl rfl hl.1 rfl (lv_room (Nat.le_of_ble_eq_true rfl)) dX1_begin_71 ⟨Nat.le_of_ble_eq_true rfl, Nat.le_of_ble_eq_true rfl⟩) hS (fun q _ h => hFc q h) hFc (fun cd u t H1 locs ht hvm hcd hB hz1 hk1 hS => ?_)
              obtain ⟨top2_cd, rfl⟩ : ∃ z, z = u := ⟨_, rfl⟩
              obtain ⟨hP1, hD1⟩ := hB
              rw [ht] at hP1
              obtain ⟨hP, hD⟩ := va_join (wr := [(ha, .inl (cJ, 4, .inr (.inl hr2))), (oa, .inl (cZ, 4, .inl or2))]) (w1 := [(g, .inr (0, [.ref ha, .ref oa, .ref pa, .int (nI nq), .int top2_cd, .long ly, .int tn0, .int te, .int lay, .int idl, .int ov, .int win])), (pa, .inl (cI, 54, .inl pq))]) hP hD [0, 3] [1, 2] rfl rfl (by decide) (by decide) hk1 hFc hP1 hD1
              generalize H1 = H at hP hS ⊢
              have hP : va_P D vwCl [(ha, .inl (cJ, 4, .inr (.inl hr2))), (oa, .inl (cZ, 4, .inl or2)), (g, .inr (0, [.ref ha, .ref oa, .ref pa, .int (nI nq), .int top2_cd, .long ly, .int tn0, .int te, .int lay, .int idl, .int ov, .int win])), (pa, .inl (cI, 54, .inl pq))] H := hP
              have hD : va_D A [(ha, .inl (cJ, 4, .inr (.inl hr2))), (oa, .inl (cZ, 4, .inl or2)), (g, .inr (0, [.ref ha, .ref oa, .ref pa, .int (nI nq), .int top2_cd, .long ly, .int tn0, .int te, .int lay, .int idl, .int ov, .int win])), (pa, .inl (cI, 54, .inl pq))] := hD
              try dsimp only at hcd
              obtain ⟨hcd, hd_top2⟩ := hcd
              subst hd_top2
              refine vp_callSl (W.runS (As := [.int cd]) (rest := [.long (hr2 x4.toNatClampNeg), .int x4, .ref ha]) ⟨hx, hb, hml, hown, hts⟩ (k_X1_bitOf l cd ) (va_cwS 1 hts gX1_begin_X1_bitOf rfl rfl rfl (by decide +kernel) ⟨Nat.le_of_ble_eq_true rfl, Nat.le_of_ble_eq_true rfl⟩) ⟨pS_fb, pS_pre⟩ rfl rfl hl.1 rfl (lv_room (Nat.le_of_ble_eq_true rfl)) dX1_begin_74 ⟨Nat.le_of_ble_eq_true rfl, Nat.le_of_ble_eq_true rfl⟩) (fun x74 hx74 => ?_)
              subst hx74
              refine lv_lor hx hb dX1_begin_77 ?_
              refine va_last hx hb hK hP hD hS 0 1 rfl rfl (by rw [h4]; exact vp_in_nI hlt (by decide)) dX1_begin_78 (fun H locs hP hD hS => ?_)
              have hP : va_P D vwCl [(ha, .inl (cJ, 4, .inr (.inl (vp_updL hr2 x4.toNatClampNeg ((hr2 x4.toNatClampNeg) ||| (j_X1_bitOf cd)))))), (oa, .inl (cZ, 4, .inl or2)), (g, .inr (0, [.ref ha, .ref oa, .ref pa, .int (nI nq), .int (nI (if (bgT nq mn p1 + i) < 54 then (bgT nq mn p1 + i) + 1 else (bgT nq mn p1 + i))), .long ly, .int tn0, .int te, .int lay, .int idl, .int ov, .int win])), (pa, .inl (cI, 54, .inl pq))] H := hP
              have hD : va_D A [(ha, .inl (cJ, 4, .inr (.inl (vp_updL hr2 x4.toNatClampNeg ((hr2 x4.toNatClampNeg) ||| (j_X1_bitOf cd)))))), (oa, .inl (cZ, 4, .inl or2)), (g, .inr (0, [.ref ha, .ref oa, .ref pa, .int (nI nq), .int (nI (if (bgT nq mn p1 + i) < 54 then (bgT nq mn p1 + i) + 1 else (bgT nq mn p1 + i))), .long ly, .int tn0, .int te, .int lay, .int idl, .int ov, .int win])), (pa, .inl (cI, 54, .inl pq))] := hD
              generalize ex78 : vp_updL hr2 x4.toNatClampNeg ((hr2 x4.toNatClampNeg) ||| (j_X1_bitOf cd)) = x78 at hP hD
              rw [show ((nI (if (bgT nq mn p1 + i) < 54 then (bgT nq mn p1 + i) + 1 else (bgT nq mn p1 + i))) : Int32) = nI (bgT nq mn p1 + (i + 1)) from by rw [if_pos hl52]; rfl] at hP hD
              have hP : va_P D vwCl [(ha, .inl (cJ, 4, .inr (.inl x78))), (oa, .inl (cZ, 4, .inl or2)), (g, .inr (0, [.ref ha, .ref oa, .ref pa, .int (nI nq), .int (nI (bgT nq mn p1 + (i + 1))), .long ly, .int tn0, .int te, .int lay, .int idl, .int ov, .int win])), (pa, .inl (cI, 54, .inl pq))] H := hP
              have hD : va_D A [(ha, .inl (cJ, 4, .inr (.inl x78))), (oa, .inl (cZ, 4, .inl or2)), (g, .inr (0, [.ref ha, .ref oa, .ref pa, .int (nI nq), .int (nI (bgT nq mn p1 + (i + 1))), .long ly, .int tn0, .int te, .int lay, .int idl, .int ov, .int win])), (pa, .inl (cI, 54, .inl pq))] := hD
              obtain ⟨x79, ex79⟩ : ∃ y : Int32, y = x5 + 1 := ⟨_, rfl⟩
              refine lv_iinc (v := x79) (lv' := [(5, .int x79), (0, .ref g), (1, .int (nI nq)), (2, .int (nI mn)), (3, .int (nI sd)), (4, .int x4)]) hx hb dX1_begin_79 hl (k := 5) rfl (by rw [ex79]; rfl) (by decide) rfl (fun ls hl => ?_)
              refine lv_goto (tgt := 47) hx hb dX1_begin_82 (by decide) ?_
              exact ih47 (i + 1) x79 x78 or2 (hlt) (hp_s ex79 h5) (by omega) (hp_hd h4 hpn hn4 hm1 hil (by rw [hcd, if_pos hl52]) hpq ex78 hhp) (fun q hq2 => by rw [hp_hk h4 (by omega) ex78 q (by omega)]; exact hho q hq2) (hoq2) (fun q => absurd hpn q) (by omega) _ _ (hP.sub [2, 0, 1, 3] rfl) (hD.sub [2, 0, 1, 3] (by decide) rfl) hS ls (lv_sub hl [1, 2, 3, 4, 5, 0] rfl)
      refine lv_iload hx hb dX1_begin_22 (lv_at hl 4 rfl) ?_
      refine lv_iconst (v := 4) hx hb dX1_begin_24 (by decide) ?_
      refine lv_icmp_ge (tgt := 91) hx hb dX1_begin_25 (by decide) (fun c_25 => ?_) (fun c_25 => ?_)
      · have hp9 := hp_ge h4 (by decide : (4 : Int32) = nI 4) hp4 (by decide) c_25
        rw [show (nI (bgT nq mn p1) : Int32) = nI (nq * mn) from by rw [hp9]; exact congrArg nI (bgT_4 hn4)] at hP hD
        have hP : va_P D vwCl [(g, .inr (0, [.ref ha, .ref oa, .ref pa, .int (nI nq), .int (nI (nq * mn)), .long ly, .int tn0, .int te, .int lay, .int idl, .int ov, .int win])), (ha, .inl (cJ, 4, .inr (.inl hq))), (oa, .inl (cZ, 4, .inl oq)), (pa, .inl (cI, 54, .inl pq))] H := hP
        have hD : va_D A [(g, .inr (0, [.ref ha, .ref oa, .ref pa, .int (nI nq), .int (nI (nq * mn)), .long ly, .int tn0, .int te, .int lay, .int idl, .int ov, .int win])), (ha, .inl (cJ, 4, .inr (.inl hq))), (oa, .inl (cZ, 4, .inl oq)), (pa, .inl (cI, 54, .inl pq))] := hD
        refine lv_aload_n hx hb dX1_begin_91 rfl (lv_at hl 0 rfl) ?_
        refine lv_lconst (v := 0) hx hb dX1_begin_92 (by decide) ?_
        refine va_put (D := D) (ci := 0) (v := .long 0) (ty := .long) (C := RX1) (T := TX1) (N := 12) hx hb hts iX1 tyX1 tyX1_ok nmX1 hown hK hP hD hS 0 rfl rfl 5 (by decide) k48 (fun _ h9 => h9) rfl (by decide +kernel) rfl rfl (Nat.le_of_ble_eq_true rfl) dX1_begin_93 (fun H locs hP hD hS => ?_)
        have hP : va_P D vwCl [(g, .inr (0, [.ref ha, .ref oa, .ref pa, .int (nI nq), .int (nI (nq * mn)), .long 0, .int tn0, .int te, .int lay, .int idl, .int ov, .int win])), (ha, .inl (cJ, 4, .inr (.inl hq))), (oa, .inl (cZ, 4, .inl oq)), (pa, .inl (cI, 54, .inl pq))] H := hP
        have hD : va_D A [(g, .inr (0, [.ref ha, .ref oa, .ref pa, .int (nI nq), .int (nI (nq * mn)), .long 0, .int tn0, .int te, .int lay, .int idl, .int ov, .int win])), (ha, .inl (cJ, 4, .inr (.inl hq))), (oa, .inl (cZ, 4, .inl oq)), (pa, .inl (cI, 54, .inl pq))] := hD
        refine lv_aload_n hx hb dX1_begin_96 rfl (lv_at hl 0 rfl) ?_
        refine lv_iconst (v := 0) hx hb dX1_begin_97 (by decide) ?_
        refine va_put (D := D) (ci := 0) (v := .int 0) (ty := .int) (C := RX1) (T := TX1) (N := 12) hx hb hts iX1 tyX1 tyX1_ok nmX1 hown hK hP hD hS 0 rfl rfl 6 (by decide) k52 (fun _ h9 => h9) rfl (by decide +kernel) rfl rfl (Nat.le_of_ble_eq_true rfl) dX1_begin_98 (fun H locs hP hD hS => ?_)
        have hP : va_P D vwCl [(g, .inr (0, [.ref ha, .ref oa, .ref pa, .int (nI nq), .int (nI (nq * mn)), .long 0, .int 0, .int te, .int lay, .int idl, .int ov, .int win])), (ha, .inl (cJ, 4, .inr (.inl hq))), (oa, .inl (cZ, 4, .inl oq)), (pa, .inl (cI, 54, .inl pq))] H := hP
        have hD : va_D A [(g, .inr (0, [.ref ha, .ref oa, .ref pa, .int (nI nq), .int (nI (nq * mn)), .long 0, .int 0, .int te, .int lay, .int idl, .int ov, .int win])), (ha, .inl (cJ, 4, .inr (.inl hq))), (oa, .inl (cZ, 4, .inl oq)), (pa, .inl (cI, 54, .inl pq))] := hD
        refine lv_aload_n hx hb dX1_begin_101 rfl (lv_at hl 0 rfl) ?_
        refine lv_iconst (v := 0) hx hb dX1_begin_102 (by decide) ?_
        refine va_put (D := D) (ci := 0) (v := .int 0) (ty := .int) (C := RX1) (T := TX1) (N := 12) hx hb hts iX1 tyX1 tyX1_ok nmX1 hown hK hP hD hS 0 rfl rfl 7 (by decide) k55 (fun _ h9 => h9) rfl (by decide +kernel) rfl rfl (Nat.le_of_ble_eq_true rfl) dX1_begin_103 (fun H locs hP hD hS => ?_)
        have hP : va_P D vwCl [(g, .inr (0, [.ref ha, .ref oa, .ref pa, .int (nI nq), .int (nI (nq * mn)), .long 0, .int 0, .int 0, .int lay, .int idl, .int ov, .int win])), (ha, .inl (cJ, 4, .inr (.inl hq))), (oa, .inl (cZ, 4, .inl oq)), (pa, .inl (cI, 54, .inl pq))] H := hP
        have hD : va_D A [(g, .inr (0, [.ref ha, .ref oa, .ref pa, .int (nI nq), .int (nI (nq * mn)), .long 0, .int 0, .int 0, .int lay, .int idl, .int ov, .int win])), (ha, .inl (cJ, 4, .inr (.inl hq))), (oa, .inl (cZ, 4, .inl oq)), (pa, .inl (cI, 54, .inl pq))] := hD
        refine lv_aload_n hx hb dX1_begin_106 rfl (lv_at hl 0 rfl) ?_
        refine lv_iconst (v := 0) hx hb dX1_begin_107 (by decide) ?_
        refine va_put (D := D) (ci := 0) (v := .int 0) (ty := .int) (C := RX1) (T := TX1) (N := 12) hx hb hts iX1 tyX1 tyX1_ok nmX1 hown hK hP hD hS 0 rfl rfl 8 (by decide) k58 (fun _ h9 => h9) rfl (by decide +kernel) rfl rfl (Nat.le_of_ble_eq_true rfl) dX1_begin_108 (fun H locs hP hD hS => ?_)
        have hP : va_P D vwCl [(g, .inr (0, [.ref ha, .ref oa, .ref pa, .int (nI nq), .int (nI (nq * mn)), .long 0, .int 0, .int 0, .int 0, .int idl, .int ov, .int win])), (ha, .inl (cJ, 4, .inr (.inl hq))), (oa, .inl (cZ, 4, .inl oq)), (pa, .inl (cI, 54, .inl pq))] H := hP
        have hD : va_D A [(g, .inr (0, [.ref ha, .ref oa, .ref pa, .int (nI nq), .int (nI (nq * mn)), .long 0, .int 0, .int 0, .int 0, .int idl, .int ov, .int win])), (ha, .inl (cJ, 4, .inr (.inl hq))), (oa, .inl (cZ, 4, .inl oq)), (pa, .inl (cI, 54, .inl pq))] := hD
        refine lv_aload_n hx hb dX1_begin_111 rfl (lv_at hl 0 rfl) ?_
        refine lv_iconst (v := 0) hx hb dX1_begin_112 (by decide) ?_
        refine va_put (D := D) (ci := 0) (v := .int 0) (ty := .int) (C := RX1) (T := TX1) (N := 12) hx hb hts iX1 tyX1 tyX1_ok nmX1 hown hK hP hD hS 0 rfl rfl 9 (by decide) k61 (fun _ h9 => h9) rfl (by decide +kernel) rfl rfl (Nat.le_of_ble_eq_true rfl) dX1_begin_113 (fun H locs hP hD hS => ?_)
        have hP : va_P D vwCl [(g, .inr (0, [.ref ha, .ref oa, .ref pa, .int (nI nq), .int (nI (nq * mn)), .long 0, .int 0, .int 0, .int 0, .int 0, .int ov, .int win])), (ha, .inl (cJ, 4, .inr (.inl hq))), (oa, .inl (cZ, 4, .inl oq)), (pa, .inl (cI, 54, .inl pq))] H := hP
        have hD : va_D A [(g, .inr (0, [.ref ha, .ref oa, .ref pa, .int (nI nq), .int (nI (nq * mn)), .long 0, .int 0, .int 0, .int 0, .int 0, .int ov, .int win])), (ha, .inl (cJ, 4, .inr (.inl hq))), (oa, .inl (cZ, 4, .inl oq)), (pa, .inl (cI, 54, .inl pq))] := hD
        refine lv_aload_n hx hb dX1_begin_116 rfl (lv_at hl 0 rfl) ?_
        refine lv_iconst (v := 0) hx hb dX1_begin_117 (by decide) ?_
        refine va_put (D := D) (ci := 0) (v := .int 0) (ty := .boolean) (C := RX1) (T := TX1) (N := 12) hx hb hts iX1 tyX1 tyX1_ok nmX1 hown hK hP hD hS 0 rfl rfl 10 (by decide) k64 (fun _ h9 => h9) rfl (by decide +kernel) rfl rfl (Nat.le_of_ble_eq_true rfl) dX1_begin_118 (fun H locs hP hD hS => ?_)
        have hP : va_P D vwCl [(g, .inr (0, [.ref ha, .ref oa, .ref pa, .int (nI nq), .int (nI (nq * mn)), .long 0, .int 0, .int 0, .int 0, .int 0, .int 0, .int win])), (ha, .inl (cJ, 4, .inr (.inl hq))), (oa, .inl (cZ, 4, .inl oq)), (pa, .inl (cI, 54, .inl pq))] H := hP
        have hD : va_D A [(g, .inr (0, [.ref ha, .ref oa, .ref pa, .int (nI nq), .int (nI (nq * mn)), .long 0, .int 0, .int 0, .int 0, .int 0, .int 0, .int win])), (ha, .inl (cJ, 4, .inr (.inl hq))), (oa, .inl (cZ, 4, .inl oq)), (pa, .inl (cI, 54, .inl pq))] := hD
        refine lv_aload_n hx hb dX1_begin_121 rfl (lv_at hl 0 rfl) ?_
        refine lv_iconst (v := (-1)) hx hb dX1_begin_122 (by decide) ?_
        refine va_put (D := D) (ci := 0) (v := .int (-1)) (ty := .int) (C := RX1) (T := TX1) (N := 12) hx hb hts iX1 tyX1 tyX1_ok nmX1 hown hK hP hD hS 0 rfl rfl 11 (by decide) k68 (fun _ h9 => h9) rfl (by decide +kernel) rfl rfl (Nat.le_of_ble_eq_true rfl) dX1_begin_123 (fun H locs hP hD hS => ?_)
        have hP : va_P D vwCl [(g, .inr (0, [.ref ha, .ref oa, .ref pa, .int (nI nq), .int (nI (nq * mn)), .long 0, .int 0, .int 0, .int 0, .int 0, .int 0, .int (-1)])), (ha, .inl (cJ, 4, .inr (.inl hq))), (oa, .inl (cZ, 4, .inl oq)), (pa, .inl (cI, 54, .inl pq))] H := hP
        have hD : va_D A [(g, .inr (0, [.ref ha, .ref oa, .ref pa, .int (nI nq), .int (nI (nq * mn)), .long 0, .int 0, .int 0, .int 0, .int 0, .int 0, .int (-1)])), (ha, .inl (cJ, 4, .inr (.inl hq))), (oa, .inl (cZ, 4, .inl oq)), (pa, .inl (cI, 54, .inl pq))] := hD
        rw [← hQ]
        have hP9 := hP.sub (ws' := [(g, .inr (0, [.ref ha, .ref oa, .ref pa, .int (nI nq), .int (nI (nq * mn)), .long 0, .int 0, .int 0, .int 0, .int 0, .int 0, .int (-1)])), (ha, .inl (cJ, 4, .inr (.inl hq))), (oa, .inl (cZ, 4, .inl oq)), (pa, .inl (cI, 54, .inl pq))]) [0, 1, 2, 3] rfl
        have hD9 := hD.sub (ws' := [(g, .inr (0, [.ref ha, .ref oa, .ref pa, .int (nI nq), .int (nI (nq * mn)), .long 0, .int 0, .int 0, .int 0, .int 0, .int 0, .int (-1)])), (ha, .inl (cJ, 4, .inr (.inl hq))), (oa, .inl (cZ, 4, .inl oq)), (pa, .inl (cI, 54, .inl pq))]) [0, 1, 2, 3] (by decide) rfl
        exact W.vret hx hb hr (fun t ht hW => ⟨⟨(nI (nq * mn), hq, oq, pq), rfl, ⟨⟨fun q h => hhq q (by omega), fun q h => hoq q (by omega), hpq⟩, rfl⟩, (by show wB D A _ t; exact ⟨by rw [ht]; exact hP9, hD9⟩)⟩, hS.F ht⟩) hS.2.2 dX1_begin_126
      · have hlt := hp_lt h4 (by decide : (4 : Int32) = nI 4) hp4 (by decide) c_25
        refine lv_aload_n hx hb dX1_begin_28 rfl (lv_at hl 0 rfl) ?_
        refine va_get (D := D) (ci := 0) (v := .ref oa) (C := RX1) (T := TX1) (N := 12) hx hb hts iX1 hown hK hP 0 rfl rfl 1 (by decide) k15 (fun _ h9 => h9) rfl dX1_begin_29 ?_
        refine lv_iload hx hb dX1_begin_32 (lv_at hl 4 rfl) ?_
        refine lv_iconst (v := 0) hx hb dX1_begin_34 (by decide) ?_
        refine va_zast hx hb hK hP hD hS 2 2 rfl rfl (by rw [h4]; exact vp_in_nI hlt (by decide)) dX1_begin_35 (fun H locs hP hD hS => ?_)
        have hP : va_P D vwCl [(g, .inr (0, [.ref ha, .ref oa, .ref pa, .int (nI nq), .int (nI (bgT nq mn p1)), .long ly, .int tn0, .int te, .int lay, .int idl, .int ov, .int win])), (ha, .inl (cJ, 4, .inr (.inl hq))), (oa, .inl (cZ, 4, .inl (upd oq x4.toNatClampNeg (vp_nar .boolean 0)))), (pa, .inl (cI, 54, .inl pq))] H := hP
        have hD : va_D A [(g, .inr (0, [.ref ha, .ref oa, .ref pa, .int (nI nq), .int (nI (bgT nq mn p1)), .long ly, .int tn0, .int te, .int lay, .int idl, .int ov, .int win])), (ha, .inl (cJ, 4, .inr (.inl hq))), (oa, .inl (cZ, 4, .inl (upd oq x4.toNatClampNeg (vp_nar .boolean 0)))), (pa, .inl (cI, 54, .inl pq))] := hD
        generalize ex35 : upd oq x4.toNatClampNeg (vp_nar .boolean 0) = x35 at hP hD
        refine lv_aload_n hx hb dX1_begin_36 rfl (lv_at hl 0 rfl) ?_
        refine va_get (D := D) (ci := 0) (v := .ref ha) (C := RX1) (T := TX1) (N := 12) hx hb hts iX1 hown hK hP 0 rfl rfl 0 (by decide) k9 (fun _ h9 => h9) rfl dX1_begin_37 ?_
        refine lv_iload hx hb dX1_begin_40 (lv_at hl 4 rfl) ?_
        refine lv_lconst (v := 0) hx hb dX1_begin_42 (by decide) ?_
        refine va_last hx hb hK hP hD hS 1 1 rfl rfl (by rw [h4]; exact vp_in_nI hlt (by decide)) dX1_begin_43 (fun H locs hP hD hS => ?_)
        have hP : va_P D vwCl [(g, .inr (0, [.ref ha, .ref oa, .ref pa, .int (nI nq), .int (nI (bgT nq mn p1)), .long ly, .int tn0, .int te, .int lay, .int idl, .int ov, .int win])), (ha, .inl (cJ, 4, .inr (.inl (vp_updL hq x4.toNatClampNeg 0)))), (oa, .inl (cZ, 4, .inl x35)), (pa, .inl (cI, 54, .inl pq))] H := hP
        have hD : va_D A [(g, .inr (0, [.ref ha, .ref oa, .ref pa, .int (nI nq), .int (nI (bgT nq mn p1)), .long ly, .int tn0, .int te, .int lay, .int idl, .int ov, .int win])), (ha, .inl (cJ, 4, .inr (.inl (vp_updL hq x4.toNatClampNeg 0)))), (oa, .inl (cZ, 4, .inl x35)), (pa, .inl (cI, 54, .inl pq))] := hD
        generalize ex43 : vp_updL hq x4.toNatClampNeg 0 = x43 at hP hD
        refine lv_iconst (v := 0) hx hb dX1_begin_44 (by decide) ?_
        refine lv_istore (lv' := [(5, .int 0), (0, .ref g), (1, .int (nI nq)), (2, .int (nI mn)), (3, .int (nI sd)), (4, .int x4)]) hx hb dX1_begin_45 hl (by decide) rfl (fun ls hl => ?_)
        exact lab47 _ 0 0 x43 x35 (hlt) (nI_0.symm) (by omega) (hp_lk h4 (by omega) ex43) (fun q hq2 => by rw [hp_hk h4 (by omega) ex43 q (by omega)]; exact hhq q hq2) (fun q hq2 => by rcases Nat.lt_succ_iff_lt_or_eq.mp hq2 with h | h; rw [(hp_zk h4 (by omega) ex35).2 q (by omega)]; exact hoq q h; subst h; exact (hp_zk h4 (by omega) ex35).1) (fun _ => rfl) (Nat.lt_succ_self _) _ _ hP hD hS ls (lv_sub hl [1, 2, 3, 4, 5, 0] rfl)
  refine lv_aload_n hx hb dX1_begin_0 rfl (lv_at hl 0 rfl) ?_
  refine lv_iload_n hx hb dX1_begin_1 rfl (lv_at hl 3 rfl) ?_
  have hPc := hP.sub (ws' := [(g, .inr (0, [.ref ha, .ref oa, .ref pa, .int pl0, .int tp0, .long ly, .int tn0, .int te, .int lay, .int idl, .int ov, .int win])), (pa, .inl (cI, 54, .inl pf))]) [0, 3] rfl
  have hDc := hD.sub (ws' := [(g, .inr (0, [.ref ha, .ref oa, .ref pa, .int pl0, .int tp0, .long ly, .int tn0, .int te, .int lay, .int idl, .int ov, .int win])), (pa, .inl (cI, 54, .inl pf))]) [0, 3] (by decide) rfl
  have hFc := va_free (wc := [(g, .inr (0, [.ref ha, .ref oa, .ref pa, .int pl0, .int tp0, .long ly, .int tn0, .int te, .int lay, .int idl, .int ov, .int win])), (pa, .inl (cI, 54, .inl pf))]) hD hS hA [0, 3] rfl
  refine va_callv (va_runV (As := [.int (nI sd)]) (rest := []) ⟨hx, hb, hml, hown, hts⟩ (k_X1_shuffle l D cI cJ cZ s.heap.size g ha oa pa pl0 tp0 tn0 te lay idl ov win ly sd pf (by assumption) (by assumption)) (cwV 1 hts gX1_begin_X1_shuffle rfl rfl rfl (by decide +kernel) ⟨Nat.le_of_ble_eq_true rfl, Nat.le_of_ble_eq_true rfl⟩) ⟨wM_fb, va_recv hK hPc (ci := 0) (q0 := 0) rfl rfl, wM_pre hPc ⟨hK, hN⟩ hDc⟩ rfl rfl hl.1 rfl (lv_room (Nat.le_of_ble_eq_true rfl)) dX1_begin_2 ⟨Nat.le_of_ble_eq_true rfl, Nat.le_of_ble_eq_true rfl⟩) hS (fun q _ h => hFc q h) hFc (fun u t H1 locs ht hvm hx2 hB hz1 hk1 hS => ?_)
  obtain ⟨pf2_x2, rfl⟩ : ∃ z, z = u := ⟨_, rfl⟩
  obtain ⟨hP1, hD1⟩ := hB
  rw [ht] at hP1
  obtain ⟨hP, hD⟩ := va_join (wr := [(ha, .inl (cJ, 4, .inr (.inl hf))), (oa, .inl (cZ, 4, .inl of))]) (w1 := [(g, .inr (0, [.ref ha, .ref oa, .ref pa, .int pl0, .int tp0, .long ly, .int tn0, .int te, .int lay, .int idl, .int ov, .int win])), (pa, .inl (cI, 54, .inl pf2_x2))]) hP hD [0, 3] [1, 2] rfl rfl (by decide) (by decide) hk1 hFc hP1 hD1
  generalize H1 = H at hP hS ⊢
  have hP : va_P D vwCl [(ha, .inl (cJ, 4, .inr (.inl hf))), (oa, .inl (cZ, 4, .inl of)), (g, .inr (0, [.ref ha, .ref oa, .ref pa, .int pl0, .int tp0, .long ly, .int tn0, .int te, .int lay, .int idl, .int ov, .int win])), (pa, .inl (cI, 54, .inl pf2_x2))] H := hP
  have hD : va_D A [(ha, .inl (cJ, 4, .inr (.inl hf))), (oa, .inl (cZ, 4, .inl of)), (g, .inr (0, [.ref ha, .ref oa, .ref pa, .int pl0, .int tp0, .long ly, .int tn0, .int te, .int lay, .int idl, .int ov, .int win])), (pa, .inl (cI, 54, .inl pf2_x2))] := hD
  try dsimp only at hx2
  refine lv_aload_n hx hb dX1_begin_5 rfl (lv_at hl 0 rfl) ?_
  refine lv_iload_n hx hb dX1_begin_6 rfl (lv_at hl 1 rfl) ?_
  refine lv_iconst (v := 4) hx hb dX1_begin_7 (by decide) ?_
  refine va_mmin hx hb (hml.trans hl.1.symm) hown k27 s_va_mmin i_math c_va_mmin (Nat.le_of_ble_eq_true rfl) (Nat.le_of_ble_eq_true rfl) (Nat.zero_le _) (Nat.zero_le _) dX1_begin_8 ?_
  refine lv_topi (fun x11 ex11 => ?_)
  rw [show (if 4 < (nI nq) then 4 else (nI nq) : Int32) = nI nq from hp_min4 hn4] at ex11
  subst ex11
  refine va_put (D := D) (ci := 0) (v := .int (nI nq)) (ty := .int) (C := RX1) (T := TX1) (N := 12) hx hb hts iX1 tyX1 tyX1_ok nmX1 hown hK hP hD hS 2 rfl rfl 3 (by decide) k33 (fun _ h9 => h9) rfl (by decide +kernel) rfl rfl (Nat.le_of_ble_eq_true rfl) dX1_begin_11 (fun H locs hP hD hS => ?_)
  have hP : va_P D vwCl [(ha, .inl (cJ, 4, .inr (.inl hf))), (oa, .inl (cZ, 4, .inl of)), (g, .inr (0, [.ref ha, .ref oa, .ref pa, .int (nI nq), .int tp0, .long ly, .int tn0, .int te, .int lay, .int idl, .int ov, .int win])), (pa, .inl (cI, 54, .inl pf2_x2))] H := hP
  have hD : va_D A [(ha, .inl (cJ, 4, .inr (.inl hf))), (oa, .inl (cZ, 4, .inl of)), (g, .inr (0, [.ref ha, .ref oa, .ref pa, .int (nI nq), .int tp0, .long ly, .int tn0, .int te, .int lay, .int idl, .int ov, .int win])), (pa, .inl (cI, 54, .inl pf2_x2))] := hD
  refine lv_aload_n hx hb dX1_begin_14 rfl (lv_at hl 0 rfl) ?_
  refine lv_iconst (v := 0) hx hb dX1_begin_15 (by decide) ?_
  refine va_put (D := D) (ci := 0) (v := .int 0) (ty := .int) (C := RX1) (T := TX1) (N := 12) hx hb hts iX1 tyX1 tyX1_ok nmX1 hown hK hP hD hS 2 rfl rfl 4 (by decide) k37 (fun _ h9 => h9) rfl (by decide +kernel) rfl rfl (Nat.le_of_ble_eq_true rfl) dX1_begin_16 (fun H locs hP hD hS => ?_)
  have hP : va_P D vwCl [(ha, .inl (cJ, 4, .inr (.inl hf))), (oa, .inl (cZ, 4, .inl of)), (g, .inr (0, [.ref ha, .ref oa, .ref pa, .int (nI nq), .int 0, .long ly, .int tn0, .int te, .int lay, .int idl, .int ov, .int win])), (pa, .inl (cI, 54, .inl pf2_x2))] H := hP
  have hD : va_D A [(ha, .inl (cJ, 4, .inr (.inl hf))), (oa, .inl (cZ, 4, .inl of)), (g, .inr (0, [.ref ha, .ref oa, .ref pa, .int (nI nq), .int 0, .long ly, .int tn0, .int te, .int lay, .int idl, .int ov, .int win])), (pa, .inl (cI, 54, .inl pf2_x2))] := hD
  rw [show (0 : Int32) = nI (bgT nq mn 0) from bgT_0] at hP hD
  have hP : va_P D vwCl [(ha, .inl (cJ, 4, .inr (.inl hf))), (oa, .inl (cZ, 4, .inl of)), (g, .inr (0, [.ref ha, .ref oa, .ref pa, .int (nI nq), .int (nI (bgT nq mn 0)), .long ly, .int tn0, .int te, .int lay, .int idl, .int ov, .int win])), (pa, .inl (cI, 54, .inl pf2_x2))] H := hP
  have hD : va_D A [(ha, .inl (cJ, 4, .inr (.inl hf))), (oa, .inl (cZ, 4, .inl of)), (g, .inr (0, [.ref ha, .ref oa, .ref pa, .int (nI nq), .int (nI (bgT nq mn 0)), .long ly, .int tn0, .int te, .int lay, .int idl, .int ov, .int win])), (pa, .inl (cI, 54, .inl pf2_x2))] := hD
  refine lv_iconst (v := 0) hx hb dX1_begin_19 (by decide) ?_
  refine lv_istore (lv' := [(4, .int 0), (0, .ref g), (1, .int (nI nq)), (2, .int (nI mn)), (3, .int (nI sd))]) hx hb dX1_begin_20 hl (by decide) rfl (fun ls hl => ?_)
  exact lab22 _ 0 0 hf of pf2_x2 (hx2) (nI_0.symm) (by omega) (fun q h => absurd h (Nat.not_lt_zero q)) (fun q h => absurd h (Nat.not_lt_zero q)) (Nat.lt_succ_self _) _ _ (hP.sub [2, 0, 1, 3] rfl) (hD.sub [2, 0, 1, 3] (by decide) rfl) hS ls (lv_sub hl [1, 2, 3, 4, 0] rfl)
