/-- whether a game is there, as the class tells it -/
def igF (np : Nat) : Int32 := if nI np ≤ 0 then 0 else 1
theorem ig_0 {np : Nat} (h : nI np ≤ 0) : igF np = 0 := by unfold igF; rw [if_pos h]
theorem ig_1 {np : Nat} (h : ¬ nI np ≤ 0) : ¬ igF np = 0 := by unfold igF; rw [if_neg h]; decide
theorem bar_c {np : Nat} {ov : Int32} : j_bar np ov = endW (igF np) ov := by
  unfold j_bar endW igF
  by_cases z : nI np ≤ 0
  · rw [if_pos z, if_pos z, if_pos rfl]
  · rw [if_neg z, if_neg z, if_neg (show ¬ (1 : Int32) = 0 by decide)]
    by_cases y : ov = 0
    · rw [if_pos y, if_neg (fun q => q y)]
    · rw [if_neg y, if_pos y]
theorem end_z {ig io : Int32} (h : endW ig io = 0) : ¬ ig = 0 ∧ io = 0 := by
  unfold endW at h
  by_cases z : ig = 0
  · rw [if_pos z] at h; exact absurd h (by decide)
  · rw [if_neg z] at h
    by_cases y : io = 0
    · exact ⟨z, y⟩
    · rw [if_pos y] at h; exact absurd h (by decide)
theorem ig_np {np : Nat} (h : ¬ igF np = 0) : 0 < np := by
  unfold igF at h
  rcases Nat.eq_zero_or_pos np with z | z
  · subst z; rw [if_pos (by decide)] at h; exact absurd rfl h
  · exact z
theorem lay_e {ig io of opn : Int32} {hand tb cards : Int64} (h1 : isS cards) (h2 : ¬ cards = 0) (h : ¬ endW ig io = 0) : layW ig io of opn hand tb cards = endW ig io := by
  by_cases z : ig = 0
  · rw [lay_4 h1 h2 z, end_4 z]
  · by_cases y : io = 0
    · exact absurd (end_0 z y) h
    · rw [lay_5 h1 h2 z y, end_5 z y]
/-- the class's answer of lay -/
def lay7 (w st r tn : Int32) (tb cards : Int64) (la io wn la2 io2 wn2 : Int32) (tb2 hand : Int64) (hf hf2 : Nat → Int64) (of of2 : Nat → Int32) (own own2 : Int64) (sf sf2 : Nat → Int32) (t : Nat) : Prop := st = w ∧ (¬ w = 0 → r = -1 ∧ tb2 = tb ∧ la2 = la ∧ io2 = io ∧ wn2 = wn ∧ hf2 = hf ∧ of2 = of ∧ own2 = own ∧ sf2 = sf) ∧ (w = 0 → r = j_bcL (tb ||| cards) ∧ tb2 = tb ||| cards ∧ la2 = la + 1 ∧ io2 = (if hand &&& (cards ^^^ (-1)) = 0 then 1 else io) ∧ wn2 = (if hand &&& (cards ^^^ (-1)) = 0 then tn else wn) ∧ hf2 = vp_updL hf t (hand &&& (cards ^^^ (-1))) ∧ of2 = upd of t 1 ∧ own2 = tb ||| cards ∧ ∀ n, n < 13 → sf2 n = lyF (tb ||| cards) n)
theorem lay7_no {w st r tn : Int32} {tb cards : Int64} {la io wn : Int32} {hand : Int64} {hf : Nat → Int64} {of : Nat → Int32} {own : Int64} {sf : Nat → Int32} {t : Nat} (h : w = st) (h0 : ¬ st = 0) (hr : r = -1) : lay7 w st r tn tb cards la io wn la io wn tb hand hf hf of of own own sf sf t := ⟨h.symm, fun _ => ⟨hr, rfl, rfl, rfl, rfl, rfl, rfl, rfl, rfl⟩, fun z => absurd (h.symm.trans z) h0⟩
theorem ho_of {np tn : Nat} {of : Nat → Int32} (h : tn < np) (h4 : np ≤ 4) : (if j_has np (nI tn) = 0 then (0 : Int32) else if of (nI tn).toNatClampNeg = 0 then 0 else 1) = if of tn = 0 then 0 else 1 := by
  rw [j_has_ok h h4, if_neg (by decide), nI_clamp (by omega)]
theorem hd_of {np tn : Nat} {hf : Nat → Int64} (h : tn < np) (h4 : np ≤ 4) : (if j_has np (nI tn) = 0 then (0 : Int64) else hf (nI tn).toNatClampNeg) = hf tn := by
  rw [j_has_ok h h4, if_neg (by decide), nI_clamp (by omega)]
theorem if01 {x : Int32} (h : (if x = 0 then (0 : Int32) else 1) = 0) : x = 0 := by
  by_cases z : x = 0
  · exact z
  · rw [if_neg z] at h; exact absurd h (by decide)
theorem if01n {x : Int32} (h : ¬ (if x = 0 then (0 : Int32) else 1) = 0) : ¬ x = 0 := fun z => h (by rw [if_pos z])
set_option maxHeartbeats 4000000 in
set_option maxRecDepth 100000 in
theorem k_X7_tryLaying (l : Launch) (D : va_G) (cI cJ cZ : ClassId) (sz : Nat) (ox wk so g ko tr : Nat) (op7 st7 : Int32) (sp hp ta : Nat) (se town : Int64) (stp tf7 : Nat → Int32) (hq : Nat → Int64) (ha oa pa : Nat) (np tp tn : Nat) (te lay idl ov win : Int32) (ly : Int64) (of : Nat → Int32) (cards : Int64) (hst : ∀ i, i < 94 → stp i = nI (stT i)) (hset : isS cards) (hly : isS ly) (hn4 : np ≤ 4) (htn : tn < np) : Met l yX7_tryLaying wsX7_tryLaying ({ frames := 17, cells := 0, slots := 0, locals := 479 } : Room) (va_Pc [.ref ox, .long cards] (wM D cI cJ cZ sz [(ox, .inr (5, [.ref wk, .ref so, .ref g, .ref ko, .ref tr, .int op7, .int st7])), (so, .inr (3, [.ref sp, .ref hp, .long se])), (sp, .inl (cI, 94, .inl stp)), (hp, .inl (cJ, 156, .inr (.inl hq))), (tr, .inr (1, [.ref ta, .long town])), (ta, .inl (cI, 13, .inl tf7)), (g, .inr (0, [.ref ha, .ref oa, .ref pa, .int (nI np), .int (nI tp), .long ly, .int (nI tn), .int te, .int lay, .int idl, .int ov, .int win])), (oa, .inl (cZ, 4, .inl of))])) (va_Qi (fun (r : Int32) (u : (Int64) × (Nat → Int32) × (Int64) × (Nat → Int64)) => match u with | (town2, tf2, se2, hq2) => (r = mlS (of tn) op7 ly cards ∧ (mlS (of tn) op7 ly cards = 0 → town2 = ly ||| cards ∧ ∀ n, n < 13 → tf2 n = lyF (ly ||| cards) n))) (fun (u : (Int64) × (Nat → Int32) × (Int64) × (Nat → Int64)) t => match u with | (town2, tf2, se2, hq2) => wB D (va_A [(ox, .inr (5, [.ref wk, .ref so, .ref g, .ref ko, .ref tr, .int op7, .int st7])), (so, .inr (3, [.ref sp, .ref hp, .long se])), (sp, .inl (cI, 94, .inl stp)), (hp, .inl (cJ, 156, .inr (.inl hq))), (tr, .inr (1, [.ref ta, .long town])), (ta, .inl (cI, 13, .inl tf7)), (g, .inr (0, [.ref ha, .ref oa, .ref pa, .int (nI np), .int (nI tp), .long ly, .int (nI tn), .int te, .int lay, .int idl, .int ov, .int win])), (oa, .inl (cZ, 4, .inl of))] sz) [(ox, .inr (5, [.ref wk, .ref so, .ref g, .ref ko, .ref tr, .int op7, .int st7])), (so, .inr (3, [.ref sp, .ref hp, .long se2])), (sp, .inl (cI, 94, .inl stp)), (hp, .inl (cJ, 156, .inr (.inl hq2))), (tr, .inr (1, [.ref ta, .long town2])), (ta, .inl (cI, 13, .inl tf2)), (g, .inr (0, [.ref ha, .ref oa, .ref pa, .int (nI np), .int (nI tp), .long ly, .int (nI tn), .int te, .int lay, .int idl, .int ov, .int win])), (oa, .inl (cZ, 4, .inl of))] t) (va_A [(ox, .inr (5, [.ref wk, .ref so, .ref g, .ref ko, .ref tr, .int op7, .int st7])), (so, .inr (3, [.ref sp, .ref hp, .long se])), (sp, .inl (cI, 94, .inl stp)), (hp, .inl (cJ, 156, .inr (.inl hq))), (tr, .inr (1, [.ref ta, .long town])), (ta, .inl (cI, 13, .inl tf7)), (g, .inr (0, [.ref ha, .ref oa, .ref pa, .int (nI np), .int (nI tp), .long ly, .int (nI tn), .int te, .int lay, .int idl, .int ov, .int win])), (oa, .inl (cZ, 4, .inl of))] sz)) 0 0 (va_A [(ox, .inr (5, [.ref wk, .ref so, .ref g, .ref ko, .ref tr, .int op7, .int st7])), (so, .inr (3, [.ref sp, .ref hp, .long se])), (sp, .inl (cI, 94, .inl stp)), (hp, .inl (cJ, 156, .inr (.inl hq))), (tr, .inr (1, [.ref ta, .long town])), (ta, .inl (cI, 13, .inl tf7)), (g, .inr (0, [.ref ha, .ref oa, .ref pa, .int (nI np), .int (nI tp), .long ly, .int (nI tn), .int te, .int lay, .int idl, .int ov, .int win])), (oa, .inl (cZ, 4, .inl of))] sz) := by
  refine Met.ofW (cc := cX7_tryLaying) (maxL := 3) (ret := (some .int)) (by decide) rfl ?_
  intro p e s m args below meth c s₁ B hml hv
  obtain ⟨hargs, hsz, hP, ⟨hK, hN⟩, hD0⟩ := hv
  have hx := B.exec
  have hb := B.bytes
  have hr := B.returns
  have hlocks := B.notSynchronized
  have hts := atoms_spec (ws := wsX7_tryLaying) B.pre
  have hown : s.vm.findClass RX7 = some m.cls := findClass_of_methodNamed B.named
  have k34 := hts (.fieldLink RX7 34 "RummyTable" "game" "LRummyTable$Game;") (by decide +kernel)
  have iX7 : ∀ w ∈ wsX70, w ∈ wsX7_tryLaying := by decide +kernel
  have k150 : (Cond.fieldLinkNest RX7 150 "RummyTable$Game" "turn" "I" "RummyTable").before args s = true := va_Nw.use rfl hN.2.2.2.2.2.2.1
  have iX1 : ∀ w ∈ wsX10, w ∈ wsX7_tryLaying := by decide +kernel
  have k139 := hts (.methodLink RX7 139 yX1_hasOpened) (by decide +kernel)
  have k27 := hts (.fieldLink RX7 27 "RummyTable" "search" "LRummyTable$Search;") (by decide +kernel)
  have k133 : (Cond.fieldLinkNest RX7 133 "RummyTable$Game" "lying" "J" "RummyTable").before args s = true := va_Nw.use rfl hN.2.2.2.2.2.1
  have k45 := hts (.fieldLink RX7 45 "RummyTable" "trial" "LRummyTable$Layout;") (by decide +kernel)
  have k69 := hts (.methodLink RX7 69 yX4_findFirst) (by decide +kernel)
  have k108 := hts (.methodLink RX7 108 yX2_shownWorth) (by decide +kernel)
  have k48 := hts (.fieldLink RX7 48 "RummyTable" "opening" "I") (by decide +kernel)
  subst hsz
  have hD := hD0.self (sz := s.heap.size)
  generalize hAe : va_A [(ox, .inr (5, [.ref wk, .ref so, .ref g, .ref ko, .ref tr, .int op7, .int st7])), (so, .inr (3, [.ref sp, .ref hp, .long se])), (sp, .inl (cI, 94, .inl stp)), (hp, .inl (cJ, 156, .inr (.inl hq))), (tr, .inr (1, [.ref ta, .long town])), (ta, .inl (cI, 13, .inl tf7)), (g, .inr (0, [.ref ha, .ref oa, .ref pa, .int (nI np), .int (nI tp), .long ly, .int (nI tn), .int te, .int lay, .int idl, .int ov, .int win])), (oa, .inl (cZ, 4, .inl of))] s.heap.size = A at hD ⊢
  have hA : ∀ q : Nat, s.heap.size ≤ q → A q := fun q h => by rw [← hAe]; exact Or.inr h
  have hS : va_S A s.heap s.heap [] := va_S.rf
  rw [show entryFrame m args 3 = entryFrame m ([.ref ox, .long cards] : List Value).toArray 3 from by rw [hargs]]
  have hl := lv_entry ([.ref ox, .long cards]) (n := 3) (Nat.le_of_ble_eq_true rfl)
  rw [lg_entry_eq]
  generalize (lg_sl ([.ref ox, .long cards]) ++ List.replicate (3 - (lg_sl ([.ref ox, .long cards])).length) Slot.unset).toArray = ls at hl ⊢
  have hl : lv_has ls 3 [(0, .ref ox), (1, .long cards)] := hl
  refine wQ (fun Q hQ => ?_)
  refine lv_aload_n hx hb dX7_tryLaying_0 rfl (lv_at hl 0 rfl) ?_
  refine va_get (D := D) (ci := 5) (v := .ref g) (C := RX7) (T := TX7) (N := 7) hx hb hts iX7 hown hK hP 0 rfl rfl 2 (by decide) k34 (fun _ h9 => h9) rfl dX7_tryLaying_1 ?_
  refine lv_aload_n hx hb dX7_tryLaying_4 rfl (lv_at hl 0 rfl) ?_
  refine va_get (D := D) (ci := 5) (v := .ref g) (C := RX7) (T := TX7) (N := 7) hx hb hts iX7 hown hK hP 0 rfl rfl 2 (by decide) k34 (fun _ h9 => h9) rfl dX7_tryLaying_5 ?_
  refine va_getN (D := D) (ci := 0) (v := .int (nI tn)) (C := RX1) (T := TX1) (N := 12) hx hb hts iX1 hown hK hP 6 rfl rfl 6 (by decide) k150 (fun _ h9 => h9) rfl dX7_tryLaying_8 ?_
  have hPc := hP.sub (ws' := [(g, .inr (0, [.ref ha, .ref oa, .ref pa, .int (nI np), .int (nI tp), .long ly, .int (nI tn), .int te, .int lay, .int idl, .int ov, .int win])), (oa, .inl (cZ, 4, .inl of))]) [6, 7] rfl
  refine vp_callSi (W.runV (As := [.int (nI tn)]) (rest := []) ⟨hx, hb, hml, hown, hts⟩ (k_X1_hasOpened l D cI cJ cZ g ha oa pa np (nI tp) (nI tn) te lay idl ov win ly of (nI tn) ) (cwV 1 hts gX7_tryLaying_X1_hasOpened rfl rfl rfl (by decide +kernel) ⟨Nat.le_of_ble_eq_true rfl, Nat.le_of_ble_eq_true rfl⟩) ⟨wR_fb, va_recv hK hPc (ci := 0) (q0 := 0) rfl rfl, wR_pre hPc ⟨hK, hN⟩⟩ rfl rfl hl.1 rfl (lv_room (Nat.le_of_ble_eq_true rfl)) dX7_tryLaying_11 ⟨Nat.le_of_ble_eq_true rfl, Nat.le_of_ble_eq_true rfl⟩) (fun x11 hx11 => ?_)
  subst hx11
  refine lv_if_ne (tgt := 49) hx hb dX7_tryLaying_14 (by decide) (fun c_14 => ?_) (fun c_14 => ?_)
  · rw [ho_of htn hn4] at c_14
    have hof : ¬ of tn = 0 := if01n c_14
    have hgo : ¬ of tn = 0 ∨ (of tn = 0 ∧ fe cards = true ∧ ¬ wsh cards < op7) := Or.inl hof
    refine lv_aload_n hx hb dX7_tryLaying_49 rfl (lv_at hl 0 rfl) ?_
    refine va_get (D := D) (ci := 5) (v := .ref so) (C := RX7) (T := TX7) (N := 7) hx hb hts iX7 hown hK hP 0 rfl rfl 1 (by decide) k27 (fun _ h9 => h9) rfl dX7_tryLaying_50 ?_
    refine lv_aload_n hx hb dX7_tryLaying_53 rfl (lv_at hl 0 rfl) ?_
    refine va_get (D := D) (ci := 5) (v := .ref g) (C := RX7) (T := TX7) (N := 7) hx hb hts iX7 hown hK hP 0 rfl rfl 2 (by decide) k34 (fun _ h9 => h9) rfl dX7_tryLaying_54 ?_
    refine va_getN (D := D) (ci := 0) (v := .long ly) (C := RX1) (T := TX1) (N := 12) hx hb hts iX1 hown hK hP 6 rfl rfl 5 (by decide) k133 (fun _ h9 => h9) rfl dX7_tryLaying_57 ?_
    refine lv_lload_n hx hb dX7_tryLaying_60 rfl (lv_at hl 1 rfl) ?_
    refine lv_lor hx hb dX7_tryLaying_61 ?_
    refine lv_aload_n hx hb dX7_tryLaying_62 rfl (lv_at hl 0 rfl) ?_
    refine va_get (D := D) (ci := 5) (v := .ref tr) (C := RX7) (T := TX7) (N := 7) hx hb hts iX7 hown hK hP 0 rfl rfl 4 (by decide) k45 (fun _ h9 => h9) rfl dX7_tryLaying_63 ?_
    have hPc := hP.sub (ws' := [(so, .inr (3, [.ref sp, .ref hp, .long se])), (sp, .inl (cI, 94, .inl stp)), (hp, .inl (cJ, 156, .inr (.inl hq))), (tr, .inr (1, [.ref ta, .long town])), (ta, .inl (cI, 13, .inl tf7))]) [1, 2, 3, 4, 5] rfl
    have hDc := hD.sub (ws' := [(so, .inr (3, [.ref sp, .ref hp, .long se])), (sp, .inl (cI, 94, .inl stp)), (hp, .inl (cJ, 156, .inr (.inl hq))), (tr, .inr (1, [.ref ta, .long town])), (ta, .inl (cI, 13, .inl tf7))]) [1, 2, 3, 4, 5] (by decide) rfl
    have hFc := va_free (wc := [(so, .inr (3, [.ref sp, .ref hp, .long se])), (sp, .inl (cI, 94, .inl stp)), (hp, .inl (cJ, 156, .inr (.inl hq))), (tr, .inr (1, [.ref ta, .long town])), (ta, .inl (cI, 13, .inl tf7))]) hD hS hA [1, 2, 3, 4, 5] rfl
    refine va_calli (va_runV (As := [.long (ly ||| cards), .ref tr]) (rest := []) ⟨hx, hb, hml, hown, hts⟩ (k_X4_findFirst l D cI cJ cZ s.heap.size so sp hp tr ta se town (ly ||| cards) stp tf7 hq (hst) (or_S hly hset)) (cwV 2 hts gX7_tryLaying_X4_findFirst rfl rfl rfl (by decide +kernel) ⟨Nat.le_of_ble_eq_true rfl, Nat.le_of_ble_eq_true rfl⟩) ⟨wM_fb, va_recv hK hPc (ci := 3) (q0 := 0) rfl rfl, wM_pre hPc ⟨hK, hN⟩ hDc⟩ rfl rfl hl.1 rfl (lv_room (Nat.le_of_ble_eq_true rfl)) dX7_tryLaying_66 ⟨Nat.le_of_ble_eq_true rfl, Nat.le_of_ble_eq_true rfl⟩) hS (fun q _ h => hFc q h) hFc (fun x66 u t H1 locs ht hvm hx66 hB hz1 hk1 hS => ?_)
    obtain ⟨own2_x66, hq2_x66, sf2_x66⟩ := u
    obtain ⟨hP1, hD1⟩ := hB
    rw [ht] at hP1
    obtain ⟨hP, hD⟩ := va_join (wr := [(ox, .inr (5, [.ref wk, .ref so, .ref g, .ref ko, .ref tr, .int op7, .int st7])), (g, .inr (0, [.ref ha, .ref oa, .ref pa, .int (nI np), .int (nI tp), .long ly, .int (nI tn), .int te, .int lay, .int idl, .int ov, .int win])), (oa, .inl (cZ, 4, .inl of))]) (w1 := [(so, .inr (3, [.ref sp, .ref hp, .long (ly ||| cards)])), (sp, .inl (cI, 94, .inl stp)), (hp, .inl (cJ, 156, .inr (.inl hq2_x66))), (tr, .inr (1, [.ref ta, .long own2_x66])), (ta, .inl (cI, 13, .inl sf2_x66))]) hP hD [1, 2, 3, 4, 5] [0, 6, 7] rfl rfl (by decide) (by decide) hk1 hFc hP1 hD1
    generalize H1 = H at hP hS ⊢
    have hP : va_P D vwCl [(ox, .inr (5, [.ref wk, .ref so, .ref g, .ref ko, .ref tr, .int op7, .int st7])), (g, .inr (0, [.ref ha, .ref oa, .ref pa, .int (nI np), .int (nI tp), .long ly, .int (nI tn), .int te, .int lay, .int idl, .int ov, .int win])), (oa, .inl (cZ, 4, .inl of)), (so, .inr (3, [.ref sp, .ref hp, .long (ly ||| cards)])), (sp, .inl (cI, 94, .inl stp)), (hp, .inl (cJ, 156, .inr (.inl hq2_x66))), (tr, .inr (1, [.ref ta, .long own2_x66])), (ta, .inl (cI, 13, .inl sf2_x66))] H := hP
    have hD : va_D A [(ox, .inr (5, [.ref wk, .ref so, .ref g, .ref ko, .ref tr, .int op7, .int st7])), (g, .inr (0, [.ref ha, .ref oa, .ref pa, .int (nI np), .int (nI tp), .long ly, .int (nI tn), .int te, .int lay, .int idl, .int ov, .int win])), (oa, .inl (cZ, 4, .inl of)), (so, .inr (3, [.ref sp, .ref hp, .long (ly ||| cards)])), (sp, .inl (cI, 94, .inl stp)), (hp, .inl (cJ, 156, .inr (.inl hq2_x66))), (tr, .inr (1, [.ref ta, .long own2_x66])), (ta, .inl (cI, 13, .inl sf2_x66))] := hD
    try dsimp only at hx66
    obtain ⟨hx66, hd_own2⟩ := hx66
    subst hd_own2
    rw [fe_if] at hx66
    refine lv_if_eq (tgt := 76) hx hb dX7_tryLaying_69 (by decide) (fun c_69 => ?_) (fun c_69 => ?_)
    · have hfe : ¬ fe (ly ||| cards) = true := fun z => by have c9 := c_69; rw [hx66.1, if_pos z] at c9; exact absurd c9 (by decide)
      refine lv_iconst (v := 3) hx hb dX7_tryLaying_76 (by decide) ?_
      rw [← hQ]
      have hP9 := hP.sub (ws' := [(ox, .inr (5, [.ref wk, .ref so, .ref g, .ref ko, .ref tr, .int op7, .int st7])), (so, .inr (3, [.ref sp, .ref hp, .long (ly ||| cards)])), (sp, .inl (cI, 94, .inl stp)), (hp, .inl (cJ, 156, .inr (.inl hq2_x66))), (tr, .inr (1, [.ref ta, .long (if feasN (ly ||| cards) 13 0 (jkN (ly ||| cards)) then (ly ||| cards) else town)])), (ta, .inl (cI, 13, .inl sf2_x66)), (g, .inr (0, [.ref ha, .ref oa, .ref pa, .int (nI np), .int (nI tp), .long ly, .int (nI tn), .int te, .int lay, .int idl, .int ov, .int win])), (oa, .inl (cZ, 4, .inl of))]) [0, 3, 4, 5, 6, 7, 1, 2] rfl
      have hD9 := hD.sub (ws' := [(ox, .inr (5, [.ref wk, .ref so, .ref g, .ref ko, .ref tr, .int op7, .int st7])), (so, .inr (3, [.ref sp, .ref hp, .long (ly ||| cards)])), (sp, .inl (cI, 94, .inl stp)), (hp, .inl (cJ, 156, .inr (.inl hq2_x66))), (tr, .inr (1, [.ref ta, .long (if feasN (ly ||| cards) 13 0 (jkN (ly ||| cards)) then (ly ||| cards) else town)])), (ta, .inl (cI, 13, .inl sf2_x66)), (g, .inr (0, [.ref ha, .ref oa, .ref pa, .int (nI np), .int (nI tp), .long ly, .int (nI tn), .int te, .int lay, .int idl, .int ov, .int win])), (oa, .inl (cZ, 4, .inl of))]) [0, 3, 4, 5, 6, 7, 1, 2] (by decide) rfl
      exact W.iret (v := 3) hx hb hr (fun t ht hW => ⟨⟨3, ((if feasN (ly ||| cards) 13 0 (jkN (ly ||| cards)) then (ly ||| cards) else town), sf2_x66, (ly ||| cards), hq2_x66), rfl, (by rw [mls_o hgo]; first | exact ⟨(if_neg hfe).symm, fun z => by rw [if_neg hfe] at z; exact absurd z (by decide)⟩ | exact ⟨(if_pos hfe).symm, fun _ => ⟨by first | exact if_pos hfe | (rw [fe_if]; exact if_pos hfe), hx66.2.2 hfe⟩⟩), (by show wB D A _ t; exact ⟨by rw [ht]; exact hP9, hD9⟩)⟩, hS.F ht⟩) hS.2.2 dX7_tryLaying_77
    · have hfe : fe (ly ||| cards) = true := by by_cases z : fe (ly ||| cards) = true; exact z; exact absurd (hx66.1.trans (if_neg z)) c_69
      refine lv_iconst (v := 0) hx hb dX7_tryLaying_72 (by decide) ?_
      refine lv_goto (tgt := 77) hx hb dX7_tryLaying_73 (by decide) ?_
      rw [← hQ]
      have hP9 := hP.sub (ws' := [(ox, .inr (5, [.ref wk, .ref so, .ref g, .ref ko, .ref tr, .int op7, .int st7])), (so, .inr (3, [.ref sp, .ref hp, .long (ly ||| cards)])), (sp, .inl (cI, 94, .inl stp)), (hp, .inl (cJ, 156, .inr (.inl hq2_x66))), (tr, .inr (1, [.ref ta, .long (if feasN (ly ||| cards) 13 0 (jkN (ly ||| cards)) then (ly ||| cards) else town)])), (ta, .inl (cI, 13, .inl sf2_x66)), (g, .inr (0, [.ref ha, .ref oa, .ref pa, .int (nI np), .int (nI tp), .long ly, .int (nI tn), .int te, .int lay, .int idl, .int ov, .int win])), (oa, .inl (cZ, 4, .inl of))]) [0, 3, 4, 5, 6, 7, 1, 2] rfl
      have hD9 := hD.sub (ws' := [(ox, .inr (5, [.ref wk, .ref so, .ref g, .ref ko, .ref tr, .int op7, .int st7])), (so, .inr (3, [.ref sp, .ref hp, .long (ly ||| cards)])), (sp, .inl (cI, 94, .inl stp)), (hp, .inl (cJ, 156, .inr (.inl hq2_x66))), (tr, .inr (1, [.ref ta, .long (if feasN (ly ||| cards) 13 0 (jkN (ly ||| cards)) then (ly ||| cards) else town)])), (ta, .inl (cI, 13, .inl sf2_x66)), (g, .inr (0, [.ref ha, .ref oa, .ref pa, .int (nI np), .int (nI tp), .long ly, .int (nI tn), .int te, .int lay, .int idl, .int ov, .int win])), (oa, .inl (cZ, 4, .inl of))]) [0, 3, 4, 5, 6, 7, 1, 2] (by decide) rfl
      exact W.iret (v := 0) hx hb hr (fun t ht hW => ⟨⟨0, ((if feasN (ly ||| cards) 13 0 (jkN (ly ||| cards)) then (ly ||| cards) else town), sf2_x66, (ly ||| cards), hq2_x66), rfl, (by rw [mls_o hgo]; first | exact ⟨(if_neg hfe).symm, fun z => by rw [if_neg hfe] at z; exact absurd z (by decide)⟩ | exact ⟨(if_pos hfe).symm, fun _ => ⟨by first | exact if_pos hfe | (rw [fe_if]; exact if_pos hfe), hx66.2.2 hfe⟩⟩), (by show wB D A _ t; exact ⟨by rw [ht]; exact hP9, hD9⟩)⟩, hS.F ht⟩) hS.2.2 dX7_tryLaying_77
  · have c14 := c_14
    rw [ho_of htn hn4] at c14
    have hof : of tn = 0 := if01 (by first | exact c14 | exact Classical.not_not.mp c14)
    refine lv_aload_n hx hb dX7_tryLaying_17 rfl (lv_at hl 0 rfl) ?_
    refine va_get (D := D) (ci := 5) (v := .ref so) (C := RX7) (T := TX7) (N := 7) hx hb hts iX7 hown hK hP 0 rfl rfl 1 (by decide) k27 (fun _ h9 => h9) rfl dX7_tryLaying_18 ?_
    refine lv_lload_n hx hb dX7_tryLaying_21 rfl (lv_at hl 1 rfl) ?_
    refine lv_aload_n hx hb dX7_tryLaying_22 rfl (lv_at hl 0 rfl) ?_
    refine va_get (D := D) (ci := 5) (v := .ref tr) (C := RX7) (T := TX7) (N := 7) hx hb hts iX7 hown hK hP 0 rfl rfl 4 (by decide) k45 (fun _ h9 => h9) rfl dX7_tryLaying_23 ?_
    have hPc := hP.sub (ws' := [(so, .inr (3, [.ref sp, .ref hp, .long se])), (sp, .inl (cI, 94, .inl stp)), (hp, .inl (cJ, 156, .inr (.inl hq))), (tr, .inr (1, [.ref ta, .long town])), (ta, .inl (cI, 13, .inl tf7))]) [1, 2, 3, 4, 5] rfl
    have hDc := hD.sub (ws' := [(so, .inr (3, [.ref sp, .ref hp, .long se])), (sp, .inl (cI, 94, .inl stp)), (hp, .inl (cJ, 156, .inr (.inl hq))), (tr, .inr (1, [.ref ta, .long town])), (ta, .inl (cI, 13, .inl tf7))]) [1, 2, 3, 4, 5] (by decide) rfl
    have hFc := va_free (wc := [(so, .inr (3, [.ref sp, .ref hp, .long se])), (sp, .inl (cI, 94, .inl stp)), (hp, .inl (cJ, 156, .inr (.inl hq))), (tr, .inr (1, [.ref ta, .long town])), (ta, .inl (cI, 13, .inl tf7))]) hD hS hA [1, 2, 3, 4, 5] rfl
    refine va_calli (va_runV (As := [.long cards, .ref tr]) (rest := []) ⟨hx, hb, hml, hown, hts⟩ (k_X4_findFirst l D cI cJ cZ s.heap.size so sp hp tr ta se town cards stp tf7 hq (hst) (hset)) (cwV 2 hts gX7_tryLaying_X4_findFirst rfl rfl rfl (by decide +kernel) ⟨Nat.le_of_ble_eq_true rfl, Nat.le_of_ble_eq_true rfl⟩) ⟨wM_fb, va_recv hK hPc (ci := 3) (q0 := 0) rfl rfl, wM_pre hPc ⟨hK, hN⟩ hDc⟩ rfl rfl hl.1 rfl (lv_room (Nat.le_of_ble_eq_true rfl)) dX7_tryLaying_26 ⟨Nat.le_of_ble_eq_true rfl, Nat.le_of_ble_eq_true rfl⟩) hS (fun q _ h => hFc q h) hFc (fun x26 u t H1 locs ht hvm hx26 hB hz1 hk1 hS => ?_)
    obtain ⟨own2_x26, hq2_x26, sf2_x26⟩ := u
    obtain ⟨hP1, hD1⟩ := hB
    rw [ht] at hP1
    obtain ⟨hP, hD⟩ := va_join (wr := [(ox, .inr (5, [.ref wk, .ref so, .ref g, .ref ko, .ref tr, .int op7, .int st7])), (g, .inr (0, [.ref ha, .ref oa, .ref pa, .int (nI np), .int (nI tp), .long ly, .int (nI tn), .int te, .int lay, .int idl, .int ov, .int win])), (oa, .inl (cZ, 4, .inl of))]) (w1 := [(so, .inr (3, [.ref sp, .ref hp, .long cards])), (sp, .inl (cI, 94, .inl stp)), (hp, .inl (cJ, 156, .inr (.inl hq2_x26))), (tr, .inr (1, [.ref ta, .long own2_x26])), (ta, .inl (cI, 13, .inl sf2_x26))]) hP hD [1, 2, 3, 4, 5] [0, 6, 7] rfl rfl (by decide) (by decide) hk1 hFc hP1 hD1
    generalize H1 = H at hP hS ⊢
    have hP : va_P D vwCl [(ox, .inr (5, [.ref wk, .ref so, .ref g, .ref ko, .ref tr, .int op7, .int st7])), (g, .inr (0, [.ref ha, .ref oa, .ref pa, .int (nI np), .int (nI tp), .long ly, .int (nI tn), .int te, .int lay, .int idl, .int ov, .int win])), (oa, .inl (cZ, 4, .inl of)), (so, .inr (3, [.ref sp, .ref hp, .long cards])), (sp, .inl (cI, 94, .inl stp)), (hp, .inl (cJ, 156, .inr (.inl hq2_x26))), (tr, .inr (1, [.ref ta, .long own2_x26])), (ta, .inl (cI, 13, .inl sf2_x26))] H := hP
    have hD : va_D A [(ox, .inr (5, [.ref wk, .ref so, .ref g, .ref ko, .ref tr, .int op7, .int st7])), (g, .inr (0, [.ref ha, .ref oa, .ref pa, .int (nI np), .int (nI tp), .long ly, .int (nI tn), .int te, .int lay, .int idl, .int ov, .int win])), (oa, .inl (cZ, 4, .inl of)), (so, .inr (3, [.ref sp, .ref hp, .long cards])), (sp, .inl (cI, 94, .inl stp)), (hp, .inl (cJ, 156, .inr (.inl hq2_x26))), (tr, .inr (1, [.ref ta, .long own2_x26])), (ta, .inl (cI, 13, .inl sf2_x26))] := hD
    try dsimp only at hx26
    obtain ⟨hx26, hd_own2⟩ := hx26
    subst hd_own2
    rw [fe_if] at hx26
    refine lv_if_eq (tgt := 46) hx hb dX7_tryLaying_29 (by decide) (fun c_29 => ?_) (fun c_29 => ?_)
    · have hfp : ¬ fe cards = true := fun z => by have c9 := c_29; rw [hx26.1, if_pos z] at c9; exact absurd c9 (by decide)
      refine lv_bipush (v := 7) hx hb dX7_tryLaying_46 (by decide) ?_
      rw [← hQ]
      have hP9 := hP.sub (ws' := [(ox, .inr (5, [.ref wk, .ref so, .ref g, .ref ko, .ref tr, .int op7, .int st7])), (so, .inr (3, [.ref sp, .ref hp, .long cards])), (sp, .inl (cI, 94, .inl stp)), (hp, .inl (cJ, 156, .inr (.inl hq2_x26))), (tr, .inr (1, [.ref ta, .long (if feasN cards 13 0 (jkN cards) then cards else town)])), (ta, .inl (cI, 13, .inl sf2_x26)), (g, .inr (0, [.ref ha, .ref oa, .ref pa, .int (nI np), .int (nI tp), .long ly, .int (nI tn), .int te, .int lay, .int idl, .int ov, .int win])), (oa, .inl (cZ, 4, .inl of))]) [0, 3, 4, 5, 6, 7, 1, 2] rfl
      have hD9 := hD.sub (ws' := [(ox, .inr (5, [.ref wk, .ref so, .ref g, .ref ko, .ref tr, .int op7, .int st7])), (so, .inr (3, [.ref sp, .ref hp, .long cards])), (sp, .inl (cI, 94, .inl stp)), (hp, .inl (cJ, 156, .inr (.inl hq2_x26))), (tr, .inr (1, [.ref ta, .long (if feasN cards 13 0 (jkN cards) then cards else town)])), (ta, .inl (cI, 13, .inl sf2_x26)), (g, .inr (0, [.ref ha, .ref oa, .ref pa, .int (nI np), .int (nI tp), .long ly, .int (nI tn), .int te, .int lay, .int idl, .int ov, .int win])), (oa, .inl (cZ, 4, .inl of))]) [0, 3, 4, 5, 6, 7, 1, 2] (by decide) rfl
      exact W.iret (v := 7) hx hb hr (fun t ht hW => ⟨⟨7, ((if feasN cards 13 0 (jkN cards) then cards else town), sf2_x26, cards, hq2_x26), rfl, (by first | exact ⟨(mls_7a hof hfp).symm, fun z => absurd ((mls_7a hof hfp).symm.trans z) (by decide)⟩ | exact ⟨(mls_7b hof hfp (Int32.not_le.mp c_43)).symm, fun z => absurd ((mls_7b hof hfp (Int32.not_le.mp c_43)).symm.trans z) (by decide)⟩), (by show wB D A _ t; exact ⟨by rw [ht]; exact hP9, hD9⟩)⟩, hS.F ht⟩) hS.2.2 dX7_tryLaying_48
    · have hfp : fe cards = true := by by_cases z : fe cards = true; exact z; exact absurd (hx26.1.trans (if_neg z)) c_29
      have hwo := (st_congr (hx26.2.2 hfp)).2.2.2.1
      refine lv_aload_n hx hb dX7_tryLaying_32 rfl (lv_at hl 0 rfl) ?_
      refine va_get (D := D) (ci := 5) (v := .ref tr) (C := RX7) (T := TX7) (N := 7) hx hb hts iX7 hown hK hP 0 rfl rfl 4 (by decide) k45 (fun _ h9 => h9) rfl dX7_tryLaying_33 ?_
      have hPc := hP.sub (ws' := [(tr, .inr (1, [.ref ta, .long (if feasN cards 13 0 (jkN cards) then cards else town)])), (ta, .inl (cI, 13, .inl sf2_x26))]) [6, 7] rfl
      refine vp_callSi (W.runV (As := []) (rest := []) ⟨hx, hb, hml, hown, hts⟩ (k_X2_shownWorth l D cI cJ cZ tr ta (if feasN cards 13 0 (jkN cards) then cards else town) sf2_x26 ) (cwV 0 hts gX7_tryLaying_X2_shownWorth rfl rfl rfl (by decide +kernel) ⟨Nat.le_of_ble_eq_true rfl, Nat.le_of_ble_eq_true rfl⟩) ⟨wR_fb, va_recv hK hPc (ci := 1) (q0 := 0) rfl rfl, wR_pre hPc ⟨hK, hN⟩⟩ rfl rfl hl.1 rfl (lv_room (Nat.le_of_ble_eq_true rfl)) dX7_tryLaying_36 ⟨Nat.le_of_ble_eq_true rfl, Nat.le_of_ble_eq_true rfl⟩) (fun x36 hx36 => ?_)
      subst hx36
      refine lv_aload_n hx hb dX7_tryLaying_39 rfl (lv_at hl 0 rfl) ?_
      refine va_get (D := D) (ci := 5) (v := .int op7) (C := RX7) (T := TX7) (N := 7) hx hb hts iX7 hown hK hP 0 rfl rfl 5 (by decide) k48 (fun _ h9 => h9) rfl dX7_tryLaying_40 ?_
      refine lv_icmp_ge (tgt := 49) hx hb dX7_tryLaying_43 (by decide) (fun c_43 => ?_) (fun c_43 => ?_)
      · rw [hwo] at c_43
        have hgo : ¬ of tn = 0 ∨ (of tn = 0 ∧ fe cards = true ∧ ¬ wsh cards < op7) := Or.inr ⟨hof, hfp, Int32.not_lt.mpr c_43⟩
        refine lv_aload_n hx hb dX7_tryLaying_49 rfl (lv_at hl 0 rfl) ?_
        refine va_get (D := D) (ci := 5) (v := .ref so) (C := RX7) (T := TX7) (N := 7) hx hb hts iX7 hown hK hP 0 rfl rfl 1 (by decide) k27 (fun _ h9 => h9) rfl dX7_tryLaying_50 ?_
        refine lv_aload_n hx hb dX7_tryLaying_53 rfl (lv_at hl 0 rfl) ?_
        refine va_get (D := D) (ci := 5) (v := .ref g) (C := RX7) (T := TX7) (N := 7) hx hb hts iX7 hown hK hP 0 rfl rfl 2 (by decide) k34 (fun _ h9 => h9) rfl dX7_tryLaying_54 ?_
        refine va_getN (D := D) (ci := 0) (v := .long ly) (C := RX1) (T := TX1) (N := 12) hx hb hts iX1 hown hK hP 1 rfl rfl 5 (by decide) k133 (fun _ h9 => h9) rfl dX7_tryLaying_57 ?_
        refine lv_lload_n hx hb dX7_tryLaying_60 rfl (lv_at hl 1 rfl) ?_
        refine lv_lor hx hb dX7_tryLaying_61 ?_
        refine lv_aload_n hx hb dX7_tryLaying_62 rfl (lv_at hl 0 rfl) ?_
        refine va_get (D := D) (ci := 5) (v := .ref tr) (C := RX7) (T := TX7) (N := 7) hx hb hts iX7 hown hK hP 0 rfl rfl 4 (by decide) k45 (fun _ h9 => h9) rfl dX7_tryLaying_63 ?_
        have hPc := hP.sub (ws' := [(so, .inr (3, [.ref sp, .ref hp, .long cards])), (sp, .inl (cI, 94, .inl stp)), (hp, .inl (cJ, 156, .inr (.inl hq2_x26))), (tr, .inr (1, [.ref ta, .long (if feasN cards 13 0 (jkN cards) then cards else town)])), (ta, .inl (cI, 13, .inl sf2_x26))]) [3, 4, 5, 6, 7] rfl
        have hDc := hD.sub (ws' := [(so, .inr (3, [.ref sp, .ref hp, .long cards])), (sp, .inl (cI, 94, .inl stp)), (hp, .inl (cJ, 156, .inr (.inl hq2_x26))), (tr, .inr (1, [.ref ta, .long (if feasN cards 13 0 (jkN cards) then cards else town)])), (ta, .inl (cI, 13, .inl sf2_x26))]) [3, 4, 5, 6, 7] (by decide) rfl
        have hFc := va_free (wc := [(so, .inr (3, [.ref sp, .ref hp, .long cards])), (sp, .inl (cI, 94, .inl stp)), (hp, .inl (cJ, 156, .inr (.inl hq2_x26))), (tr, .inr (1, [.ref ta, .long (if feasN cards 13 0 (jkN cards) then cards else town)])), (ta, .inl (cI, 13, .inl sf2_x26))]) hD hS hA [3, 4, 5, 6, 7] rfl
        refine va_calli (va_runV (As := [.long (ly ||| cards), .ref tr]) (rest := []) ⟨hx, hb, hml, hown, hts⟩ (k_X4_findFirst l D cI cJ cZ H.size so sp hp tr ta cards (if feasN cards 13 0 (jkN cards) then cards else town) (ly ||| cards) stp sf2_x26 hq2_x26 (hst) (or_S hly hset)) (cwV 2 hts gX7_tryLaying_X4_findFirst rfl rfl rfl (by decide +kernel) ⟨Nat.le_of_ble_eq_true rfl, Nat.le_of_ble_eq_true rfl⟩) ⟨wM_fb, va_recv hK hPc (ci := 3) (q0 := 0) rfl rfl, wM_pre hPc ⟨hK, hN⟩ hDc⟩ rfl rfl hl.1 rfl (lv_room (Nat.le_of_ble_eq_true rfl)) dX7_tryLaying_66 ⟨Nat.le_of_ble_eq_true rfl, Nat.le_of_ble_eq_true rfl⟩) hS (fun q _ h => hFc q h) hFc (fun x66 u t H1 locs ht hvm hx66 hB hz1 hk1 hS => ?_)
        obtain ⟨own2_x66, hq2_x66, sf2_x66⟩ := u
        obtain ⟨hP1, hD1⟩ := hB
        rw [ht] at hP1
        obtain ⟨hP, hD⟩ := va_join (wr := [(ox, .inr (5, [.ref wk, .ref so, .ref g, .ref ko, .ref tr, .int op7, .int st7])), (g, .inr (0, [.ref ha, .ref oa, .ref pa, .int (nI np), .int (nI tp), .long ly, .int (nI tn), .int te, .int lay, .int idl, .int ov, .int win])), (oa, .inl (cZ, 4, .inl of))]) (w1 := [(so, .inr (3, [.ref sp, .ref hp, .long (ly ||| cards)])), (sp, .inl (cI, 94, .inl stp)), (hp, .inl (cJ, 156, .inr (.inl hq2_x66))), (tr, .inr (1, [.ref ta, .long own2_x66])), (ta, .inl (cI, 13, .inl sf2_x66))]) hP hD [3, 4, 5, 6, 7] [0, 1, 2] rfl rfl (by decide) (by decide) hk1 hFc hP1 hD1
        generalize H1 = H at hP hS ⊢
        have hP : va_P D vwCl [(ox, .inr (5, [.ref wk, .ref so, .ref g, .ref ko, .ref tr, .int op7, .int st7])), (g, .inr (0, [.ref ha, .ref oa, .ref pa, .int (nI np), .int (nI tp), .long ly, .int (nI tn), .int te, .int lay, .int idl, .int ov, .int win])), (oa, .inl (cZ, 4, .inl of)), (so, .inr (3, [.ref sp, .ref hp, .long (ly ||| cards)])), (sp, .inl (cI, 94, .inl stp)), (hp, .inl (cJ, 156, .inr (.inl hq2_x66))), (tr, .inr (1, [.ref ta, .long own2_x66])), (ta, .inl (cI, 13, .inl sf2_x66))] H := hP
        have hD : va_D A [(ox, .inr (5, [.ref wk, .ref so, .ref g, .ref ko, .ref tr, .int op7, .int st7])), (g, .inr (0, [.ref ha, .ref oa, .ref pa, .int (nI np), .int (nI tp), .long ly, .int (nI tn), .int te, .int lay, .int idl, .int ov, .int win])), (oa, .inl (cZ, 4, .inl of)), (so, .inr (3, [.ref sp, .ref hp, .long (ly ||| cards)])), (sp, .inl (cI, 94, .inl stp)), (hp, .inl (cJ, 156, .inr (.inl hq2_x66))), (tr, .inr (1, [.ref ta, .long own2_x66])), (ta, .inl (cI, 13, .inl sf2_x66))] := hD
        try dsimp only at hx66
        obtain ⟨hx66, hd_own2⟩ := hx66
        subst hd_own2
        rw [fe_if] at hx66
        refine lv_if_eq (tgt := 76) hx hb dX7_tryLaying_69 (by decide) (fun c_69 => ?_) (fun c_69 => ?_)
        · have hfe : ¬ fe (ly ||| cards) = true := fun z => by have c9 := c_69; rw [hx66.1, if_pos z] at c9; exact absurd c9 (by decide)
          refine lv_iconst (v := 3) hx hb dX7_tryLaying_76 (by decide) ?_
          rw [← hQ]
          have hP9 := hP.sub (ws' := [(ox, .inr (5, [.ref wk, .ref so, .ref g, .ref ko, .ref tr, .int op7, .int st7])), (so, .inr (3, [.ref sp, .ref hp, .long (ly ||| cards)])), (sp, .inl (cI, 94, .inl stp)), (hp, .inl (cJ, 156, .inr (.inl hq2_x66))), (tr, .inr (1, [.ref ta, .long (if feasN (ly ||| cards) 13 0 (jkN (ly ||| cards)) then (ly ||| cards) else (if feasN cards 13 0 (jkN cards) then cards else town))])), (ta, .inl (cI, 13, .inl sf2_x66)), (g, .inr (0, [.ref ha, .ref oa, .ref pa, .int (nI np), .int (nI tp), .long ly, .int (nI tn), .int te, .int lay, .int idl, .int ov, .int win])), (oa, .inl (cZ, 4, .inl of))]) [0, 3, 4, 5, 6, 7, 1, 2] rfl
          have hD9 := hD.sub (ws' := [(ox, .inr (5, [.ref wk, .ref so, .ref g, .ref ko, .ref tr, .int op7, .int st7])), (so, .inr (3, [.ref sp, .ref hp, .long (ly ||| cards)])), (sp, .inl (cI, 94, .inl stp)), (hp, .inl (cJ, 156, .inr (.inl hq2_x66))), (tr, .inr (1, [.ref ta, .long (if feasN (ly ||| cards) 13 0 (jkN (ly ||| cards)) then (ly ||| cards) else (if feasN cards 13 0 (jkN cards) then cards else town))])), (ta, .inl (cI, 13, .inl sf2_x66)), (g, .inr (0, [.ref ha, .ref oa, .ref pa, .int (nI np), .int (nI tp), .long ly, .int (nI tn), .int te, .int lay, .int idl, .int ov, .int win])), (oa, .inl (cZ, 4, .inl of))]) [0, 3, 4, 5, 6, 7, 1, 2] (by decide) rfl
          exact W.iret (v := 3) hx hb hr (fun t ht hW => ⟨⟨3, ((if feasN (ly ||| cards) 13 0 (jkN (ly ||| cards)) then (ly ||| cards) else (if feasN cards 13 0 (jkN cards) then cards else town)), sf2_x66, (ly ||| cards), hq2_x66), rfl, (by rw [mls_o hgo]; first | exact ⟨(if_neg hfe).symm, fun z => by rw [if_neg hfe] at z; exact absurd z (by decide)⟩ | exact ⟨(if_pos hfe).symm, fun _ => ⟨by first | exact if_pos hfe | (rw [fe_if]; exact if_pos hfe), hx66.2.2 hfe⟩⟩), (by show wB D A _ t; exact ⟨by rw [ht]; exact hP9, hD9⟩)⟩, hS.F ht⟩) hS.2.2 dX7_tryLaying_77
        · have hfe : fe (ly ||| cards) = true := by by_cases z : fe (ly ||| cards) = true; exact z; exact absurd (hx66.1.trans (if_neg z)) c_69
          refine lv_iconst (v := 0) hx hb dX7_tryLaying_72 (by decide) ?_
          refine lv_goto (tgt := 77) hx hb dX7_tryLaying_73 (by decide) ?_
          rw [← hQ]
          have hP9 := hP.sub (ws' := [(ox, .inr (5, [.ref wk, .ref so, .ref g, .ref ko, .ref tr, .int op7, .int st7])), (so, .inr (3, [.ref sp, .ref hp, .long (ly ||| cards)])), (sp, .inl (cI, 94, .inl stp)), (hp, .inl (cJ, 156, .inr (.inl hq2_x66))), (tr, .inr (1, [.ref ta, .long (if feasN (ly ||| cards) 13 0 (jkN (ly ||| cards)) then (ly ||| cards) else (if feasN cards 13 0 (jkN cards) then cards else town))])), (ta, .inl (cI, 13, .inl sf2_x66)), (g, .inr (0, [.ref ha, .ref oa, .ref pa, .int (nI np), .int (nI tp), .long ly, .int (nI tn), .int te, .int lay, .int idl, .int ov, .int win])), (oa, .inl (cZ, 4, .inl of))]) [0, 3, 4, 5, 6, 7, 1, 2] rfl
          have hD9 := hD.sub (ws' := [(ox, .inr (5, [.ref wk, .ref so, .ref g, .ref ko, .ref tr, .int op7, .int st7])), (so, .inr (3, [.ref sp, .ref hp, .long (ly ||| cards)])), (sp, .inl (cI, 94, .inl stp)), (hp, .inl (cJ, 156, .inr (.inl hq2_x66))), (tr, .inr (1, [.ref ta, .long (if feasN (ly ||| cards) 13 0 (jkN (ly ||| cards)) then (ly ||| cards) else (if feasN cards 13 0 (jkN cards) then cards else town))])), (ta, .inl (cI, 13, .inl sf2_x66)), (g, .inr (0, [.ref ha, .ref oa, .ref pa, .int (nI np), .int (nI tp), .long ly, .int (nI tn), .int te, .int lay, .int idl, .int ov, .int win])), (oa, .inl (cZ, 4, .inl of))]) [0, 3, 4, 5, 6, 7, 1, 2] (by decide) rfl
          exact W.iret (v := 0) hx hb hr (fun t ht hW => ⟨⟨0, ((if feasN (ly ||| cards) 13 0 (jkN (ly ||| cards)) then (ly ||| cards) else (if feasN cards 13 0 (jkN cards) then cards else town)), sf2_x66, (ly ||| cards), hq2_x66), rfl, (by rw [mls_o hgo]; first | exact ⟨(if_neg hfe).symm, fun z => by rw [if_neg hfe] at z; exact absurd z (by decide)⟩ | exact ⟨(if_pos hfe).symm, fun _ => ⟨by first | exact if_pos hfe | (rw [fe_if]; exact if_pos hfe), hx66.2.2 hfe⟩⟩), (by show wB D A _ t; exact ⟨by rw [ht]; exact hP9, hD9⟩)⟩, hS.F ht⟩) hS.2.2 dX7_tryLaying_77
      · rw [hwo] at c_43
        refine lv_bipush (v := 7) hx hb dX7_tryLaying_46 (by decide) ?_
        rw [← hQ]
        have hP9 := hP.sub (ws' := [(ox, .inr (5, [.ref wk, .ref so, .ref g, .ref ko, .ref tr, .int op7, .int st7])), (so, .inr (3, [.ref sp, .ref hp, .long cards])), (sp, .inl (cI, 94, .inl stp)), (hp, .inl (cJ, 156, .inr (.inl hq2_x26))), (tr, .inr (1, [.ref ta, .long (if feasN cards 13 0 (jkN cards) then cards else town)])), (ta, .inl (cI, 13, .inl sf2_x26)), (g, .inr (0, [.ref ha, .ref oa, .ref pa, .int (nI np), .int (nI tp), .long ly, .int (nI tn), .int te, .int lay, .int idl, .int ov, .int win])), (oa, .inl (cZ, 4, .inl of))]) [0, 3, 4, 5, 6, 7, 1, 2] rfl
        have hD9 := hD.sub (ws' := [(ox, .inr (5, [.ref wk, .ref so, .ref g, .ref ko, .ref tr, .int op7, .int st7])), (so, .inr (3, [.ref sp, .ref hp, .long cards])), (sp, .inl (cI, 94, .inl stp)), (hp, .inl (cJ, 156, .inr (.inl hq2_x26))), (tr, .inr (1, [.ref ta, .long (if feasN cards 13 0 (jkN cards) then cards else town)])), (ta, .inl (cI, 13, .inl sf2_x26)), (g, .inr (0, [.ref ha, .ref oa, .ref pa, .int (nI np), .int (nI tp), .long ly, .int (nI tn), .int te, .int lay, .int idl, .int ov, .int win])), (oa, .inl (cZ, 4, .inl of))]) [0, 3, 4, 5, 6, 7, 1, 2] (by decide) rfl
        exact W.iret (v := 7) hx hb hr (fun t ht hW => ⟨⟨7, ((if feasN cards 13 0 (jkN cards) then cards else town), sf2_x26, cards, hq2_x26), rfl, (by first | exact ⟨(mls_7a hof hfp).symm, fun z => absurd ((mls_7a hof hfp).symm.trans z) (by decide)⟩ | exact ⟨(mls_7b hof hfp (Int32.not_le.mp c_43)).symm, fun z => absurd ((mls_7b hof hfp (Int32.not_le.mp c_43)).symm.trans z) (by decide)⟩), (by show wB D A _ t; exact ⟨by rw [ht]; exact hP9, hD9⟩)⟩, hS.F ht⟩) hS.2.2 dX7_tryLaying_48

set_option maxHeartbeats 4000000 in
set_option maxRecDepth 100000 in
theorem k_X7_carryOut (l : Launch) (D : va_G) (cI cJ cZ : ClassId) (sz : Nat) (ox wk so g ko tr : Nat) (op7 st7 : Int32) (ha oa pa : Nat) (np tp tn : Nat) (te lay idl ov win : Int32) (ly : Int64) (hf : Nat → Int64) (of : Nat → Int32) (cards : Int64) (hn4 : np ≤ 4) (htn : tn < np) : Met l yX7_carryOut wsX7_carryOut ({ frames := 2, cells := 0, slots := 0, locals := 43 } : Room) (va_Pc [.ref ox, .long cards] (wM D cI cJ cZ sz [(ox, .inr (5, [.ref wk, .ref so, .ref g, .ref ko, .ref tr, .int op7, .int st7])), (g, .inr (0, [.ref ha, .ref oa, .ref pa, .int (nI np), .int (nI tp), .long ly, .int (nI tn), .int te, .int lay, .int idl, .int ov, .int win])), (ha, .inl (cJ, 4, .inr (.inl hf))), (oa, .inl (cZ, 4, .inl of))])) (va_Qv (fun (u : (Int64) × (Int32) × (Int32) × (Int32) × (Nat → Int64) × (Nat → Int32)) => match u with | (ly2, lay2, ov2, win2, hf2, of2) => (True) ∧ ly2 = (ly ||| cards) ∧ lay2 = (lay + 1) ∧ ov2 = (if hf tn &&& (cards ^^^ (-1)) = 0 then 1 else ov) ∧ win2 = (if hf tn &&& (cards ^^^ (-1)) = 0 then nI tn else win) ∧ hf2 = (vp_updL hf tn (hf tn &&& (cards ^^^ (-1)))) ∧ of2 = (upd of tn 1)) (fun (u : (Int64) × (Int32) × (Int32) × (Int32) × (Nat → Int64) × (Nat → Int32)) t => match u with | (ly2, lay2, ov2, win2, hf2, of2) => wB D (va_A [(ox, .inr (5, [.ref wk, .ref so, .ref g, .ref ko, .ref tr, .int op7, .int st7])), (g, .inr (0, [.ref ha, .ref oa, .ref pa, .int (nI np), .int (nI tp), .long ly, .int (nI tn), .int te, .int lay, .int idl, .int ov, .int win])), (ha, .inl (cJ, 4, .inr (.inl hf))), (oa, .inl (cZ, 4, .inl of))] sz) [(ox, .inr (5, [.ref wk, .ref so, .ref g, .ref tr, .ref ko, .int op7, .int st7])), (g, .inr (0, [.ref ha, .ref oa, .ref pa, .int (nI np), .int (nI tp), .long ly2, .int (nI tn), .int te, .int lay2, .int idl, .int ov2, .int win2])), (ha, .inl (cJ, 4, .inr (.inl hf2))), (oa, .inl (cZ, 4, .inl of2))] t) (va_A [(ox, .inr (5, [.ref wk, .ref so, .ref g, .ref ko, .ref tr, .int op7, .int st7])), (g, .inr (0, [.ref ha, .ref oa, .ref pa, .int (nI np), .int (nI tp), .long ly, .int (nI tn), .int te, .int lay, .int idl, .int ov, .int win])), (ha, .inl (cJ, 4, .inr (.inl hf))), (oa, .inl (cZ, 4, .inl of))] sz)) 0 0 (va_A [(ox, .inr (5, [.ref wk, .ref so, .ref g, .ref ko, .ref tr, .int op7, .int st7])), (g, .inr (0, [.ref ha, .ref oa, .ref pa, .int (nI np), .int (nI tp), .long ly, .int (nI tn), .int te, .int lay, .int idl, .int ov, .int win])), (ha, .inl (cJ, 4, .inr (.inl hf))), (oa, .inl (cZ, 4, .inl of))] sz) := by
  refine Met.ofW (cc := cX7_carryOut) (maxL := 3) (ret := none) (by decide) rfl ?_
  intro p e s m args below meth c s₁ B hml hv
  obtain ⟨hargs, hsz, hP, ⟨hK, hN⟩, hD0⟩ := hv
  have hx := B.exec
  have hb := B.bytes
  have hr := B.returns
  have hlocks := B.notSynchronized
  have hts := atoms_spec (ws := wsX7_carryOut) B.pre
  have hown : s.vm.findClass RX7 = some m.cls := findClass_of_methodNamed B.named
  have k34 := hts (.fieldLink RX7 34 "RummyTable" "game" "LRummyTable$Game;") (by decide +kernel)
  have iX7 : ∀ w ∈ wsX70, w ∈ wsX7_carryOut := by decide +kernel
  have k172 := hts (.methodLink RX7 172 yX1_putDown) (by decide +kernel)
  have k73 := hts (.methodLink RX7 73 yX7_keepTrial) (by decide +kernel)
  subst hsz
  have hD := hD0.self (sz := s.heap.size)
  generalize hAe : va_A [(ox, .inr (5, [.ref wk, .ref so, .ref g, .ref ko, .ref tr, .int op7, .int st7])), (g, .inr (0, [.ref ha, .ref oa, .ref pa, .int (nI np), .int (nI tp), .long ly, .int (nI tn), .int te, .int lay, .int idl, .int ov, .int win])), (ha, .inl (cJ, 4, .inr (.inl hf))), (oa, .inl (cZ, 4, .inl of))] s.heap.size = A at hD ⊢
  have hA : ∀ q : Nat, s.heap.size ≤ q → A q := fun q h => by rw [← hAe]; exact Or.inr h
  have hS : va_S A s.heap s.heap [] := va_S.rf
  rw [show entryFrame m args 3 = entryFrame m ([.ref ox, .long cards] : List Value).toArray 3 from by rw [hargs]]
  have hl := lv_entry ([.ref ox, .long cards]) (n := 3) (Nat.le_of_ble_eq_true rfl)
  rw [lg_entry_eq]
  generalize (lg_sl ([.ref ox, .long cards]) ++ List.replicate (3 - (lg_sl ([.ref ox, .long cards])).length) Slot.unset).toArray = ls at hl ⊢
  have hl : lv_has ls 3 [(0, .ref ox), (1, .long cards)] := hl
  refine wQ (fun Q hQ => ?_)
  refine lv_aload_n hx hb dX7_carryOut_0 rfl (lv_at hl 0 rfl) ?_
  refine va_get (D := D) (ci := 5) (v := .ref g) (C := RX7) (T := TX7) (N := 7) hx hb hts iX7 hown hK hP 0 rfl rfl 2 (by decide) k34 (fun _ h9 => h9) rfl dX7_carryOut_1 ?_
  refine lv_lload_n hx hb dX7_carryOut_4 rfl (lv_at hl 1 rfl) ?_
  have hPc := hP.sub (ws' := [(g, .inr (0, [.ref ha, .ref oa, .ref pa, .int (nI np), .int (nI tp), .long ly, .int (nI tn), .int te, .int lay, .int idl, .int ov, .int win])), (ha, .inl (cJ, 4, .inr (.inl hf))), (oa, .inl (cZ, 4, .inl of))]) [1, 2, 3] rfl
  have hDc := hD.sub (ws' := [(g, .inr (0, [.ref ha, .ref oa, .ref pa, .int (nI np), .int (nI tp), .long ly, .int (nI tn), .int te, .int lay, .int idl, .int ov, .int win])), (ha, .inl (cJ, 4, .inr (.inl hf))), (oa, .inl (cZ, 4, .inl of))]) [1, 2, 3] (by decide) rfl
  have hFc := va_free (wc := [(g, .inr (0, [.ref ha, .ref oa, .ref pa, .int (nI np), .int (nI tp), .long ly, .int (nI tn), .int te, .int lay, .int idl, .int ov, .int win])), (ha, .inl (cJ, 4, .inr (.inl hf))), (oa, .inl (cZ, 4, .inl of))]) hD hS hA [1, 2, 3] rfl
  refine va_callv (va_runV (As := [.long cards]) (rest := []) ⟨hx, hb, hml, hown, hts⟩ (k_X1_putDown l D cI cJ cZ s.heap.size g ha oa pa np tp tn te lay idl ov win ly hf of cards (hn4) (htn)) (cwV 1 hts gX7_carryOut_X1_putDown rfl rfl rfl (by decide +kernel) ⟨Nat.le_of_ble_eq_true rfl, Nat.le_of_ble_eq_true rfl⟩) ⟨wM_fb, va_recv hK hPc (ci := 0) (q0 := 0) rfl rfl, wM_pre hPc ⟨hK, hN⟩ hDc⟩ rfl rfl hl.1 rfl (lv_room (Nat.le_of_ble_eq_true rfl)) dX7_carryOut_5 ⟨Nat.le_of_ble_eq_true rfl, Nat.le_of_ble_eq_true rfl⟩) hS (fun q _ h => hFc q h) hFc (fun u t H1 locs ht hvm hx5 hB hz1 hk1 hS => ?_)
  obtain ⟨ly2_x5, lay2_x5, ov2_x5, win2_x5, hf2_x5, of2_x5⟩ := u
  obtain ⟨hP1, hD1⟩ := hB
  rw [ht] at hP1
  obtain ⟨hP, hD⟩ := va_join (wr := [(ox, .inr (5, [.ref wk, .ref so, .ref g, .ref ko, .ref tr, .int op7, .int st7]))]) (w1 := [(g, .inr (0, [.ref ha, .ref oa, .ref pa, .int (nI np), .int (nI tp), .long ly2_x5, .int (nI tn), .int te, .int lay2_x5, .int idl, .int ov2_x5, .int win2_x5])), (ha, .inl (cJ, 4, .inr (.inl hf2_x5))), (oa, .inl (cZ, 4, .inl of2_x5))]) hP hD [1, 2, 3] [0] rfl rfl (by decide) (by decide) hk1 hFc hP1 hD1
  generalize H1 = H at hP hS ⊢
  have hP : va_P D vwCl [(ox, .inr (5, [.ref wk, .ref so, .ref g, .ref ko, .ref tr, .int op7, .int st7])), (g, .inr (0, [.ref ha, .ref oa, .ref pa, .int (nI np), .int (nI tp), .long ly2_x5, .int (nI tn), .int te, .int lay2_x5, .int idl, .int ov2_x5, .int win2_x5])), (ha, .inl (cJ, 4, .inr (.inl hf2_x5))), (oa, .inl (cZ, 4, .inl of2_x5))] H := hP
  have hD : va_D A [(ox, .inr (5, [.ref wk, .ref so, .ref g, .ref ko, .ref tr, .int op7, .int st7])), (g, .inr (0, [.ref ha, .ref oa, .ref pa, .int (nI np), .int (nI tp), .long ly2_x5, .int (nI tn), .int te, .int lay2_x5, .int idl, .int ov2_x5, .int win2_x5])), (ha, .inl (cJ, 4, .inr (.inl hf2_x5))), (oa, .inl (cZ, 4, .inl of2_x5))] := hD
  try dsimp only at hx5
  obtain ⟨hx5, hd_ly2, hd_lay2, hd_ov2, hd_win2, hd_hf2, hd_of2⟩ := hx5
  subst hd_ly2
  subst hd_lay2
  subst hd_ov2
  subst hd_win2
  subst hd_hf2
  subst hd_of2
  refine lv_aload_n hx hb dX7_carryOut_8 rfl (lv_at hl 0 rfl) ?_
  have hPc := hP.sub (ws' := [(ox, .inr (5, [.ref wk, .ref so, .ref g, .ref ko, .ref tr, .int op7, .int st7]))]) [0] rfl
  have hDc := hD.sub (ws' := [(ox, .inr (5, [.ref wk, .ref so, .ref g, .ref ko, .ref tr, .int op7, .int st7]))]) [0] (by decide) rfl
  have hFc := va_free (wc := [(ox, .inr (5, [.ref wk, .ref so, .ref g, .ref ko, .ref tr, .int op7, .int st7]))]) hD hS hA [0] rfl
  refine va_callv (va_runV (As := []) (rest := []) ⟨hx, hb, hml, hown, hts⟩ (k_X7_keepTrial l D cI cJ cZ H.size ox wk so ko tr op7 st7 g ) (cwV 0 hts gX7_carryOut_X7_keepTrial rfl rfl rfl (by decide +kernel) ⟨Nat.le_of_ble_eq_true rfl, Nat.le_of_ble_eq_true rfl⟩) ⟨wM_fb, va_recv hK hPc (ci := 5) (q0 := 0) rfl rfl, wM_pre hPc ⟨hK, hN⟩ hDc⟩ rfl rfl hl.1 rfl (lv_room (Nat.le_of_ble_eq_true rfl)) dX7_carryOut_9 ⟨Nat.le_of_ble_eq_true rfl, Nat.le_of_ble_eq_true rfl⟩) hS (fun q _ h => hFc q h) hFc (fun u t H1 locs ht hvm hx9 hB hz1 hk1 hS => ?_)
  obtain ⟨hP1, hD1⟩ := hB
  rw [ht] at hP1
  obtain ⟨hP, hD⟩ := va_join (wr := [(g, .inr (0, [.ref ha, .ref oa, .ref pa, .int (nI np), .int (nI tp), .long (ly ||| cards), .int (nI tn), .int te, .int (lay + 1), .int idl, .int (if hf tn &&& (cards ^^^ (-1)) = 0 then 1 else ov), .int (if hf tn &&& (cards ^^^ (-1)) = 0 then nI tn else win)])), (ha, .inl (cJ, 4, .inr (.inl (vp_updL hf tn (hf tn &&& (cards ^^^ (-1))))))), (oa, .inl (cZ, 4, .inl (upd of tn 1)))]) (w1 := [(ox, .inr (5, [.ref wk, .ref so, .ref g, .ref tr, .ref ko, .int op7, .int st7]))]) hP hD [0] [1, 2, 3] rfl rfl (by decide) (by decide) hk1 hFc hP1 hD1
  generalize H1 = H at hP hS ⊢
  have hP : va_P D vwCl [(g, .inr (0, [.ref ha, .ref oa, .ref pa, .int (nI np), .int (nI tp), .long (ly ||| cards), .int (nI tn), .int te, .int (lay + 1), .int idl, .int (if hf tn &&& (cards ^^^ (-1)) = 0 then 1 else ov), .int (if hf tn &&& (cards ^^^ (-1)) = 0 then nI tn else win)])), (ha, .inl (cJ, 4, .inr (.inl (vp_updL hf tn (hf tn &&& (cards ^^^ (-1))))))), (oa, .inl (cZ, 4, .inl (upd of tn 1))), (ox, .inr (5, [.ref wk, .ref so, .ref g, .ref tr, .ref ko, .int op7, .int st7]))] H := hP
  have hD : va_D A [(g, .inr (0, [.ref ha, .ref oa, .ref pa, .int (nI np), .int (nI tp), .long (ly ||| cards), .int (nI tn), .int te, .int (lay + 1), .int idl, .int (if hf tn &&& (cards ^^^ (-1)) = 0 then 1 else ov), .int (if hf tn &&& (cards ^^^ (-1)) = 0 then nI tn else win)])), (ha, .inl (cJ, 4, .inr (.inl (vp_updL hf tn (hf tn &&& (cards ^^^ (-1))))))), (oa, .inl (cZ, 4, .inl (upd of tn 1))), (ox, .inr (5, [.ref wk, .ref so, .ref g, .ref tr, .ref ko, .int op7, .int st7]))] := hD
  try dsimp only at hx9
  rw [← hQ]
  have hP9 := hP.sub (ws' := [(ox, .inr (5, [.ref wk, .ref so, .ref g, .ref tr, .ref ko, .int op7, .int st7])), (g, .inr (0, [.ref ha, .ref oa, .ref pa, .int (nI np), .int (nI tp), .long (ly ||| cards), .int (nI tn), .int te, .int (lay + 1), .int idl, .int (if hf tn &&& (cards ^^^ (-1)) = 0 then 1 else ov), .int (if hf tn &&& (cards ^^^ (-1)) = 0 then nI tn else win)])), (ha, .inl (cJ, 4, .inr (.inl (vp_updL hf tn (hf tn &&& (cards ^^^ (-1))))))), (oa, .inl (cZ, 4, .inl (upd of tn 1)))]) [3, 0, 1, 2] rfl
  have hD9 := hD.sub (ws' := [(ox, .inr (5, [.ref wk, .ref so, .ref g, .ref tr, .ref ko, .int op7, .int st7])), (g, .inr (0, [.ref ha, .ref oa, .ref pa, .int (nI np), .int (nI tp), .long (ly ||| cards), .int (nI tn), .int te, .int (lay + 1), .int idl, .int (if hf tn &&& (cards ^^^ (-1)) = 0 then 1 else ov), .int (if hf tn &&& (cards ^^^ (-1)) = 0 then nI tn else win)])), (ha, .inl (cJ, 4, .inr (.inl (vp_updL hf tn (hf tn &&& (cards ^^^ (-1))))))), (oa, .inl (cZ, 4, .inl (upd of tn 1)))]) [3, 0, 1, 2] (by decide) rfl
  exact W.vret hx hb hr (fun t ht hW => ⟨⟨((ly ||| cards), (lay + 1), (if hf tn &&& (cards ^^^ (-1)) = 0 then 1 else ov), (if hf tn &&& (cards ^^^ (-1)) = 0 then nI tn else win), (vp_updL hf tn (hf tn &&& (cards ^^^ (-1)))), (upd of tn 1)), rfl, ⟨trivial, rfl, rfl, rfl, rfl, rfl, rfl⟩, (by show wB D A _ t; exact ⟨by rw [ht]; exact hP9, hD9⟩)⟩, hS.F ht⟩) hS.2.2 dX7_carryOut_12

set_option maxHeartbeats 4000000 in
set_option maxRecDepth 100000 in
theorem k_X7_lay (l : Launch) (D : va_G) (cI cJ cZ : ClassId) (sz : Nat) (ox wk so g ko tr : Nat) (op7 st7 : Int32) (sp hp sk ta : Nat) (se own town : Int64) (stp sf tf7 : Nat → Int32) (hq : Nat → Int64) (ha oa pa : Nat) (np tp tn : Nat) (te lay idl ov win : Int32) (ly : Int64) (hf : Nat → Int64) (of : Nat → Int32) (cards : Int64) (hst : ∀ i, i < 94 → stp i = nI (stT i)) (hly : isS ly) (hgm : ¬ igF np = 0 → np ≤ 4 ∧ tn < np ∧ tp ≤ 54) : Met l yX7_lay wsX7_lay ({ frames := 18, cells := 0, slots := 0, locals := 501 } : Room) (va_Pc [.ref ox, .long cards] (wM D cI cJ cZ sz [(ox, .inr (5, [.ref wk, .ref so, .ref g, .ref ko, .ref tr, .int op7, .int st7])), (so, .inr (3, [.ref sp, .ref hp, .long se])), (sp, .inl (cI, 94, .inl stp)), (hp, .inl (cJ, 156, .inr (.inl hq))), (ko, .inr (1, [.ref sk, .long own])), (sk, .inl (cI, 13, .inl sf)), (tr, .inr (1, [.ref ta, .long town])), (ta, .inl (cI, 13, .inl tf7)), (g, .inr (0, [.ref ha, .ref oa, .ref pa, .int (nI np), .int (nI tp), .long ly, .int (nI tn), .int te, .int lay, .int idl, .int ov, .int win])), (ha, .inl (cJ, 4, .inr (.inl hf))), (oa, .inl (cZ, 4, .inl of))])) (va_Qi (fun (r : Int32) (u : (Int32) × (Nat) × (Nat) × (Nat) × (Nat) × (Int64) × (Int64) × (Nat → Int32) × (Nat → Int32) × (Int64) × (Nat → Int64) × (Int64) × (Int32) × (Int32) × (Int32) × (Nat → Int64) × (Nat → Int32)) => match u with | (st2, ko2, sk2, tr2, ta2, own2, town2, sf2, tf2, se2, hq2, ly2, lay2, ov2, win2, hf2, of2) => (lay7 (layW (igF np) ov (of tn) op7 (hf tn) ly cards) st2 r (nI tn) ly cards lay ov win lay2 ov2 win2 ly2 (hf tn) hf hf2 of of2 own own2 sf sf2 tn)) (fun (u : (Int32) × (Nat) × (Nat) × (Nat) × (Nat) × (Int64) × (Int64) × (Nat → Int32) × (Nat → Int32) × (Int64) × (Nat → Int64) × (Int64) × (Int32) × (Int32) × (Int32) × (Nat → Int64) × (Nat → Int32)) t => match u with | (st2, ko2, sk2, tr2, ta2, own2, town2, sf2, tf2, se2, hq2, ly2, lay2, ov2, win2, hf2, of2) => wB D (va_A [(ox, .inr (5, [.ref wk, .ref so, .ref g, .ref ko, .ref tr, .int op7, .int st7])), (so, .inr (3, [.ref sp, .ref hp, .long se])), (sp, .inl (cI, 94, .inl stp)), (hp, .inl (cJ, 156, .inr (.inl hq))), (ko, .inr (1, [.ref sk, .long own])), (sk, .inl (cI, 13, .inl sf)), (tr, .inr (1, [.ref ta, .long town])), (ta, .inl (cI, 13, .inl tf7)), (g, .inr (0, [.ref ha, .ref oa, .ref pa, .int (nI np), .int (nI tp), .long ly, .int (nI tn), .int te, .int lay, .int idl, .int ov, .int win])), (ha, .inl (cJ, 4, .inr (.inl hf))), (oa, .inl (cZ, 4, .inl of))] sz) [(ox, .inr (5, [.ref wk, .ref so, .ref g, .ref ko2, .ref tr2, .int op7, .int st2])), (so, .inr (3, [.ref sp, .ref hp, .long se2])), (sp, .inl (cI, 94, .inl stp)), (hp, .inl (cJ, 156, .inr (.inl hq2))), (ko2, .inr (1, [.ref sk2, .long own2])), (sk2, .inl (cI, 13, .inl sf2)), (tr2, .inr (1, [.ref ta2, .long town2])), (ta2, .inl (cI, 13, .inl tf2)), (g, .inr (0, [.ref ha, .ref oa, .ref pa, .int (nI np), .int (nI tp), .long ly2, .int (nI tn), .int te, .int lay2, .int idl, .int ov2, .int win2])), (ha, .inl (cJ, 4, .inr (.inl hf2))), (oa, .inl (cZ, 4, .inl of2))] t) (va_A [(ox, .inr (5, [.ref wk, .ref so, .ref g, .ref ko, .ref tr, .int op7, .int st7])), (so, .inr (3, [.ref sp, .ref hp, .long se])), (sp, .inl (cI, 94, .inl stp)), (hp, .inl (cJ, 156, .inr (.inl hq))), (ko, .inr (1, [.ref sk, .long own])), (sk, .inl (cI, 13, .inl sf)), (tr, .inr (1, [.ref ta, .long town])), (ta, .inl (cI, 13, .inl tf7)), (g, .inr (0, [.ref ha, .ref oa, .ref pa, .int (nI np), .int (nI tp), .long ly, .int (nI tn), .int te, .int lay, .int idl, .int ov, .int win])), (ha, .inl (cJ, 4, .inr (.inl hf))), (oa, .inl (cZ, 4, .inl of))] sz)) 0 0 (va_A [(ox, .inr (5, [.ref wk, .ref so, .ref g, .ref ko, .ref tr, .int op7, .int st7])), (so, .inr (3, [.ref sp, .ref hp, .long se])), (sp, .inl (cI, 94, .inl stp)), (hp, .inl (cJ, 156, .inr (.inl hq))), (ko, .inr (1, [.ref sk, .long own])), (sk, .inl (cI, 13, .inl sf)), (tr, .inr (1, [.ref ta, .long town])), (ta, .inl (cI, 13, .inl tf7)), (g, .inr (0, [.ref ha, .ref oa, .ref pa, .int (nI np), .int (nI tp), .long ly, .int (nI tn), .int te, .int lay, .int idl, .int ov, .int win])), (ha, .inl (cJ, 4, .inr (.inl hf))), (oa, .inl (cZ, 4, .inl of))] sz) := by
  refine Met.ofW (cc := cX7_lay) (maxL := 5) (ret := (some .int)) (by decide) rfl ?_
  intro p e s m args below meth c s₁ B hml hv
  obtain ⟨hargs, hsz, hP, ⟨hK, hN⟩, hD0⟩ := hv
  have hx := B.exec
  have hb := B.bytes
  have hr := B.returns
  have hlocks := B.notSynchronized
  have hts := atoms_spec (ws := wsX7_lay) B.pre
  have hown : s.vm.findClass RX7 = some m.cls := findClass_of_methodNamed B.named
  have k55 := hts (.methodLink RX7 55 yX0_isSet) (by decide +kernel)
  have k61 := hts (.methodLink RX7 61 yX7_refuse) (by decide +kernel)
  have k147 := hts (.methodLink RX7 147 yX7_barToPlay) (by decide +kernel)
  have k34 := hts (.fieldLink RX7 34 "RummyTable" "game" "LRummyTable$Game;") (by decide +kernel)
  have iX7 : ∀ w ∈ wsX70, w ∈ wsX7_lay := by decide +kernel
  have k150 : (Cond.fieldLinkNest RX7 150 "RummyTable$Game" "turn" "I" "RummyTable").before args s = true := va_Nw.use rfl hN.2.2.2.2.2.2.1
  have iX1 : ∀ w ∈ wsX10, w ∈ wsX7_lay := by decide +kernel
  have k129 := hts (.methodLink RX7 129 yX1_handOf) (by decide +kernel)
  have k153 := hts (.constantLong RX7 153 (-1)) (by decide +kernel)
  have k155 := hts (.methodLink RX7 155 yX7_tryLaying) (by decide +kernel)
  have k158 := hts (.methodLink RX7 158 yX7_carryOut) (by decide +kernel)
  have k52 := hts (.fieldLink RX7 52 "RummyTable" "status" "I") (by decide +kernel)
  have k133 : (Cond.fieldLinkNest RX7 133 "RummyTable$Game" "lying" "J" "RummyTable").before args s = true := va_Nw.use rfl hN.2.2.2.2.2.1
  have k142 := hts (.methodLink RX7 142 yJ13_bitCount_95d88) (by decide +kernel)
  subst hsz
  have hD := hD0.self (sz := s.heap.size)
  generalize hAe : va_A [(ox, .inr (5, [.ref wk, .ref so, .ref g, .ref ko, .ref tr, .int op7, .int st7])), (so, .inr (3, [.ref sp, .ref hp, .long se])), (sp, .inl (cI, 94, .inl stp)), (hp, .inl (cJ, 156, .inr (.inl hq))), (ko, .inr (1, [.ref sk, .long own])), (sk, .inl (cI, 13, .inl sf)), (tr, .inr (1, [.ref ta, .long town])), (ta, .inl (cI, 13, .inl tf7)), (g, .inr (0, [.ref ha, .ref oa, .ref pa, .int (nI np), .int (nI tp), .long ly, .int (nI tn), .int te, .int lay, .int idl, .int ov, .int win])), (ha, .inl (cJ, 4, .inr (.inl hf))), (oa, .inl (cZ, 4, .inl of))] s.heap.size = A at hD ⊢
  have hA : ∀ q : Nat, s.heap.size ≤ q → A q := fun q h => by rw [← hAe]; exact Or.inr h
  have hS : va_S A s.heap s.heap [] := va_S.rf
  rw [show entryFrame m args 5 = entryFrame m ([.ref ox, .long cards] : List Value).toArray 5 from by rw [hargs]]
  have hl := lv_entry ([.ref ox, .long cards]) (n := 5) (Nat.le_of_ble_eq_true rfl)
  rw [lg_entry_eq]
  generalize (lg_sl ([.ref ox, .long cards]) ++ List.replicate (5 - (lg_sl ([.ref ox, .long cards])).length) Slot.unset).toArray = ls at hl ⊢
  have hl : lv_has ls 5 [(0, .ref ox), (1, .long cards)] := hl
  refine wQ (fun Q hQ => ?_)
  refine lv_lload_n hx hb dX7_lay_0 rfl (lv_at hl 1 rfl) ?_
  refine vp_callSi (W.runS (As := [.long cards]) (rest := []) ⟨hx, hb, hml, hown, hts⟩ (k_X0_isSet l cards ) (va_cwS 1 hts gX7_lay_X0_isSet rfl rfl rfl (by decide +kernel) ⟨Nat.le_of_ble_eq_true rfl, Nat.le_of_ble_eq_true rfl⟩) ⟨pS_fb, pS_pre⟩ rfl rfl hl.1 rfl (lv_room (Nat.le_of_ble_eq_true rfl)) dX7_lay_1 ⟨Nat.le_of_ble_eq_true rfl, Nat.le_of_ble_eq_true rfl⟩) (fun x1 hx1 => ?_)
  subst hx1
  refine lv_if_eq (tgt := 13) hx hb dX7_lay_4 (by decide) (fun c_4 => ?_) (fun c_4 => ?_)
  · have hbad := lay_1 (ig := igF np) (io := ov) (of := of tn) (opn := op7) (hand := hf tn) (tb := ly) (Or.inl ((j0_set cards).1 c_4))
    refine lv_aload_n hx hb dX7_lay_13 rfl (lv_at hl 0 rfl) ?_
    refine lv_iconst (v := 1) hx hb dX7_lay_14 (by decide) ?_
    have hPc := hP.sub (ws' := [(ox, .inr (5, [.ref wk, .ref so, .ref g, .ref ko, .ref tr, .int op7, .int st7]))]) [0] rfl
    have hDc := hD.sub (ws' := [(ox, .inr (5, [.ref wk, .ref so, .ref g, .ref ko, .ref tr, .int op7, .int st7]))]) [0] (by decide) rfl
    have hFc := va_free (wc := [(ox, .inr (5, [.ref wk, .ref so, .ref g, .ref ko, .ref tr, .int op7, .int st7]))]) hD hS hA [0] rfl
    refine va_calli (va_runV (As := [.int 1]) (rest := []) ⟨hx, hb, hml, hown, hts⟩ (k_X7_refuse l D cI cJ cZ s.heap.size ox wk so ko tr op7 st7 g 1 ) (cwV 1 hts gX7_lay_X7_refuse rfl rfl rfl (by decide +kernel) ⟨Nat.le_of_ble_eq_true rfl, Nat.le_of_ble_eq_true rfl⟩) ⟨wM_fb, va_recv hK hPc (ci := 5) (q0 := 0) rfl rfl, wM_pre hPc ⟨hK, hN⟩ hDc⟩ rfl rfl hl.1 rfl (lv_room (Nat.le_of_ble_eq_true rfl)) dX7_lay_15 ⟨Nat.le_of_ble_eq_true rfl, Nat.le_of_ble_eq_true rfl⟩) hS (fun q _ h => hFc q h) hFc (fun x15 u t H1 locs ht hvm hx15 hB hz1 hk1 hS => ?_)
    obtain ⟨hP1, hD1⟩ := hB
    rw [ht] at hP1
    obtain ⟨hP, hD⟩ := va_join (wr := [(so, .inr (3, [.ref sp, .ref hp, .long se])), (sp, .inl (cI, 94, .inl stp)), (hp, .inl (cJ, 156, .inr (.inl hq))), (ko, .inr (1, [.ref sk, .long own])), (sk, .inl (cI, 13, .inl sf)), (tr, .inr (1, [.ref ta, .long town])), (ta, .inl (cI, 13, .inl tf7)), (g, .inr (0, [.ref ha, .ref oa, .ref pa, .int (nI np), .int (nI tp), .long ly, .int (nI tn), .int te, .int lay, .int idl, .int ov, .int win])), (ha, .inl (cJ, 4, .inr (.inl hf))), (oa, .inl (cZ, 4, .inl of))]) (w1 := [(ox, .inr (5, [.ref wk, .ref so, .ref g, .ref ko, .ref tr, .int op7, .int 1]))]) hP hD [0] [1, 2, 3, 4, 5, 6, 7, 8, 9, 10] rfl rfl (by decide) (by decide) hk1 hFc hP1 hD1
    generalize H1 = H at hP hS ⊢
    have hP : va_P D vwCl [(so, .inr (3, [.ref sp, .ref hp, .long se])), (sp, .inl (cI, 94, .inl stp)), (hp, .inl (cJ, 156, .inr (.inl hq))), (ko, .inr (1, [.ref sk, .long own])), (sk, .inl (cI, 13, .inl sf)), (tr, .inr (1, [.ref ta, .long town])), (ta, .inl (cI, 13, .inl tf7)), (g, .inr (0, [.ref ha, .ref oa, .ref pa, .int (nI np), .int (nI tp), .long ly, .int (nI tn), .int te, .int lay, .int idl, .int ov, .int win])), (ha, .inl (cJ, 4, .inr (.inl hf))), (oa, .inl (cZ, 4, .inl of)), (ox, .inr (5, [.ref wk, .ref so, .ref g, .ref ko, .ref tr, .int op7, .int 1]))] H := hP
    have hD : va_D A [(so, .inr (3, [.ref sp, .ref hp, .long se])), (sp, .inl (cI, 94, .inl stp)), (hp, .inl (cJ, 156, .inr (.inl hq))), (ko, .inr (1, [.ref sk, .long own])), (sk, .inl (cI, 13, .inl sf)), (tr, .inr (1, [.ref ta, .long town])), (ta, .inl (cI, 13, .inl tf7)), (g, .inr (0, [.ref ha, .ref oa, .ref pa, .int (nI np), .int (nI tp), .long ly, .int (nI tn), .int te, .int lay, .int idl, .int ov, .int win])), (ha, .inl (cJ, 4, .inr (.inl hf))), (oa, .inl (cZ, 4, .inl of)), (ox, .inr (5, [.ref wk, .ref so, .ref g, .ref ko, .ref tr, .int op7, .int 1]))] := hD
    try dsimp only at hx15
    rw [← hQ]
    have hP9 := hP.sub (ws' := [(ox, .inr (5, [.ref wk, .ref so, .ref g, .ref ko, .ref tr, .int op7, .int 1])), (so, .inr (3, [.ref sp, .ref hp, .long se])), (sp, .inl (cI, 94, .inl stp)), (hp, .inl (cJ, 156, .inr (.inl hq))), (ko, .inr (1, [.ref sk, .long own])), (sk, .inl (cI, 13, .inl sf)), (tr, .inr (1, [.ref ta, .long town])), (ta, .inl (cI, 13, .inl tf7)), (g, .inr (0, [.ref ha, .ref oa, .ref pa, .int (nI np), .int (nI tp), .long ly, .int (nI tn), .int te, .int lay, .int idl, .int ov, .int win])), (ha, .inl (cJ, 4, .inr (.inl hf))), (oa, .inl (cZ, 4, .inl of))]) [10, 0, 1, 2, 3, 4, 5, 6, 7, 8, 9] rfl
    have hD9 := hD.sub (ws' := [(ox, .inr (5, [.ref wk, .ref so, .ref g, .ref ko, .ref tr, .int op7, .int 1])), (so, .inr (3, [.ref sp, .ref hp, .long se])), (sp, .inl (cI, 94, .inl stp)), (hp, .inl (cJ, 156, .inr (.inl hq))), (ko, .inr (1, [.ref sk, .long own])), (sk, .inl (cI, 13, .inl sf)), (tr, .inr (1, [.ref ta, .long town])), (ta, .inl (cI, 13, .inl tf7)), (g, .inr (0, [.ref ha, .ref oa, .ref pa, .int (nI np), .int (nI tp), .long ly, .int (nI tn), .int te, .int lay, .int idl, .int ov, .int win])), (ha, .inl (cJ, 4, .inr (.inl hf))), (oa, .inl (cZ, 4, .inl of))]) [10, 0, 1, 2, 3, 4, 5, 6, 7, 8, 9] (by decide) rfl
    exact W.iret (v := x15) hx hb hr (fun t ht hW => ⟨⟨x15, (1, ko, sk, tr, ta, own, town, sf, tf7, se, hq, ly, lay, ov, win, hf, of), rfl, lay7_no hbad (by decide) hx15, (by show wB D A _ t; exact ⟨by rw [ht]; exact hP9, hD9⟩)⟩, hS.F ht⟩) hS.2.2 dX7_lay_18
  · have hset := (j0_set cards).2 c_4
    refine lv_lload_n hx hb dX7_lay_7 rfl (lv_at hl 1 rfl) ?_
    refine lv_lconst (v := 0) hx hb dX7_lay_8 (by decide) ?_
    refine W.lcmp hx hb dX7_lay_9 ?_
    refine lv_if_ne (tgt := 19) hx hb dX7_lay_10 (by decide) (fun c_10 => ?_) (fun c_10 => ?_)
    · have hc0 : ¬ cards = 0 := fun z => c_10 (cmp_eq.mpr z)
      refine lv_aload_n hx hb dX7_lay_19 rfl (lv_at hl 0 rfl) ?_
      have hPc := hP.sub (ws' := [(ox, .inr (5, [.ref wk, .ref so, .ref g, .ref ko, .ref tr, .int op7, .int st7])), (g, .inr (0, [.ref ha, .ref oa, .ref pa, .int (nI np), .int (nI tp), .long ly, .int (nI tn), .int te, .int lay, .int idl, .int ov, .int win]))]) [0, 8] rfl
      refine vp_callSi (W.runV (As := []) (rest := []) ⟨hx, hb, hml, hown, hts⟩ (k_X7_barToPlay l D cI cJ cZ ox wk so ko tr op7 st7 g ha oa pa np (nI tp) (nI tn) te lay idl ov win ly ) (cwV 0 hts gX7_lay_X7_barToPlay rfl rfl rfl (by decide +kernel) ⟨Nat.le_of_ble_eq_true rfl, Nat.le_of_ble_eq_true rfl⟩) ⟨wR_fb, va_recv hK hPc (ci := 5) (q0 := 0) rfl rfl, wR_pre hPc ⟨hK, hN⟩⟩ rfl rfl hl.1 rfl (lv_room (Nat.le_of_ble_eq_true rfl)) dX7_lay_20 ⟨Nat.le_of_ble_eq_true rfl, Nat.le_of_ble_eq_true rfl⟩) (fun x20 hx20 => ?_)
      subst hx20
      refine lv_topi (fun x23 ex23 => ?_)
      refine lv_istore_n (lv' := [(3, .int x23), (0, .ref ox), (1, .long cards)]) hx hb dX7_lay_23 rfl hl (by decide) rfl (fun ls hl => ?_)
      refine lv_iload_n hx hb dX7_lay_24 rfl (lv_at hl 0 rfl) ?_
      refine lv_if_eq (tgt := 34) hx hb dX7_lay_25 (by decide) (fun c_25 => ?_) (fun c_25 => ?_)
      · have hb0 : endW (igF np) ov = 0 := by rw [← bar_c]; exact ex23.symm.trans c_25
        obtain ⟨c_23, c_36⟩ := end_z hb0
        obtain ⟨hn4, htn, htp⟩ := hgm c_23
        refine lv_lload_n hx hb dX7_lay_34 rfl (lv_at hl 2 rfl) ?_
        refine lv_aload_n hx hb dX7_lay_35 rfl (lv_at hl 1 rfl) ?_
        refine va_get (D := D) (ci := 5) (v := .ref g) (C := RX7) (T := TX7) (N := 7) hx hb hts iX7 hown hK hP 0 rfl rfl 2 (by decide) k34 (fun _ h9 => h9) rfl dX7_lay_36 ?_
        refine lv_aload_n hx hb dX7_lay_39 rfl (lv_at hl 1 rfl) ?_
        refine va_get (D := D) (ci := 5) (v := .ref g) (C := RX7) (T := TX7) (N := 7) hx hb hts iX7 hown hK hP 0 rfl rfl 2 (by decide) k34 (fun _ h9 => h9) rfl dX7_lay_40 ?_
        refine va_getN (D := D) (ci := 0) (v := .int (nI tn)) (C := RX1) (T := TX1) (N := 12) hx hb hts iX1 hown hK hP 8 rfl rfl 6 (by decide) k150 (fun _ h9 => h9) rfl dX7_lay_43 ?_
        have hPc := hP.sub (ws' := [(g, .inr (0, [.ref ha, .ref oa, .ref pa, .int (nI np), .int (nI tp), .long ly, .int (nI tn), .int te, .int lay, .int idl, .int ov, .int win])), (ha, .inl (cJ, 4, .inr (.inl hf)))]) [8, 9] rfl
        refine vp_callSl (W.runV (As := [.int (nI tn)]) (rest := [.long cards]) ⟨hx, hb, hml, hown, hts⟩ (k_X1_handOf l D cI cJ cZ g ha oa pa np (nI tp) (nI tn) te lay idl ov win ly hf (nI tn) ) (cwV 1 hts gX7_lay_X1_handOf rfl rfl rfl (by decide +kernel) ⟨Nat.le_of_ble_eq_true rfl, Nat.le_of_ble_eq_true rfl⟩) ⟨wR_fb, va_recv hK hPc (ci := 0) (q0 := 0) rfl rfl, wR_pre hPc ⟨hK, hN⟩⟩ rfl rfl hl.1 rfl (lv_room (Nat.le_of_ble_eq_true rfl)) dX7_lay_46 ⟨Nat.le_of_ble_eq_true rfl, Nat.le_of_ble_eq_true rfl⟩) (fun x46 hx46 => ?_)
        subst hx46
        refine lv_ldc2 hx hb hown k153 dX7_lay_49 ?_
        refine lv_lxor hx hb dX7_lay_52 ?_
        refine lv_land hx hb dX7_lay_53 ?_
        refine lv_lconst (v := 0) hx hb dX7_lay_54 (by decide) ?_
        refine W.lcmp hx hb dX7_lay_55 ?_
        refine lv_if_eq (tgt := 66) hx hb dX7_lay_56 (by decide) (fun c_56 => ?_) (fun c_56 => ?_)
        · rw [hd_of htn hn4] at c_56
          have hh : cards &&& (hf tn ^^^ (-1)) = 0 := cmp_eq.mp c_56
          refine lv_aload_n hx hb dX7_lay_66 rfl (lv_at hl 1 rfl) ?_
          refine lv_lload_n hx hb dX7_lay_67 rfl (lv_at hl 2 rfl) ?_
          have hPc := hP.sub (ws' := [(ox, .inr (5, [.ref wk, .ref so, .ref g, .ref ko, .ref tr, .int op7, .int st7])), (so, .inr (3, [.ref sp, .ref hp, .long se])), (sp, .inl (cI, 94, .inl stp)), (hp, .inl (cJ, 156, .inr (.inl hq))), (tr, .inr (1, [.ref ta, .long town])), (ta, .inl (cI, 13, .inl tf7)), (g, .inr (0, [.ref ha, .ref oa, .ref pa, .int (nI np), .int (nI tp), .long ly, .int (nI tn), .int te, .int lay, .int idl, .int ov, .int win])), (oa, .inl (cZ, 4, .inl of))]) [0, 1, 2, 3, 6, 7, 8, 10] rfl
          have hDc := hD.sub (ws' := [(ox, .inr (5, [.ref wk, .ref so, .ref g, .ref ko, .ref tr, .int op7, .int st7])), (so, .inr (3, [.ref sp, .ref hp, .long se])), (sp, .inl (cI, 94, .inl stp)), (hp, .inl (cJ, 156, .inr (.inl hq))), (tr, .inr (1, [.ref ta, .long town])), (ta, .inl (cI, 13, .inl tf7)), (g, .inr (0, [.ref ha, .ref oa, .ref pa, .int (nI np), .int (nI tp), .long ly, .int (nI tn), .int te, .int lay, .int idl, .int ov, .int win])), (oa, .inl (cZ, 4, .inl of))]) [0, 1, 2, 3, 6, 7, 8, 10] (by decide) rfl
          have hFc := va_free (wc := [(ox, .inr (5, [.ref wk, .ref so, .ref g, .ref ko, .ref tr, .int op7, .int st7])), (so, .inr (3, [.ref sp, .ref hp, .long se])), (sp, .inl (cI, 94, .inl stp)), (hp, .inl (cJ, 156, .inr (.inl hq))), (tr, .inr (1, [.ref ta, .long town])), (ta, .inl (cI, 13, .inl tf7)), (g, .inr (0, [.ref ha, .ref oa, .ref pa, .int (nI np), .int (nI tp), .long ly, .int (nI tn), .int te, .int lay, .int idl, .int ov, .int win])), (oa, .inl (cZ, 4, .inl of))]) hD hS hA [0, 1, 2, 3, 6, 7, 8, 10] rfl
          refine va_calli (va_runV (As := [.long cards]) (rest := []) ⟨hx, hb, hml, hown, hts⟩ (k_X7_tryLaying l D cI cJ cZ s.heap.size ox wk so g ko tr op7 st7 sp hp ta se town stp tf7 hq ha oa pa np tp tn te lay idl ov win ly of cards (hst) (hset) (hly) (hn4) (htn)) (cwV 1 hts gX7_lay_X7_tryLaying rfl rfl rfl (by decide +kernel) ⟨Nat.le_of_ble_eq_true rfl, Nat.le_of_ble_eq_true rfl⟩) ⟨wM_fb, va_recv hK hPc (ci := 5) (q0 := 0) rfl rfl, wM_pre hPc ⟨hK, hN⟩ hDc⟩ rfl rfl hl.1 rfl (lv_room (Nat.le_of_ble_eq_true rfl)) dX7_lay_68 ⟨Nat.le_of_ble_eq_true rfl, Nat.le_of_ble_eq_true rfl⟩) hS (fun q _ h => hFc q h) hFc (fun x68 u t H1 locs ht hvm hx68 hB hz1 hk1 hS => ?_)
          obtain ⟨town2_x68, tf2_x68, se2_x68, hq2_x68⟩ := u
          obtain ⟨hP1, hD1⟩ := hB
          rw [ht] at hP1
          obtain ⟨hP, hD⟩ := va_join (wr := [(ko, .inr (1, [.ref sk, .long own])), (sk, .inl (cI, 13, .inl sf)), (ha, .inl (cJ, 4, .inr (.inl hf)))]) (w1 := [(ox, .inr (5, [.ref wk, .ref so, .ref g, .ref ko, .ref tr, .int op7, .int st7])), (so, .inr (3, [.ref sp, .ref hp, .long se2_x68])), (sp, .inl (cI, 94, .inl stp)), (hp, .inl (cJ, 156, .inr (.inl hq2_x68))), (tr, .inr (1, [.ref ta, .long town2_x68])), (ta, .inl (cI, 13, .inl tf2_x68)), (g, .inr (0, [.ref ha, .ref oa, .ref pa, .int (nI np), .int (nI tp), .long ly, .int (nI tn), .int te, .int lay, .int idl, .int ov, .int win])), (oa, .inl (cZ, 4, .inl of))]) hP hD [0, 1, 2, 3, 6, 7, 8, 10] [4, 5, 9] rfl rfl (by decide) (by decide) hk1 hFc hP1 hD1
          generalize H1 = H at hP hS ⊢
          have hP : va_P D vwCl [(ko, .inr (1, [.ref sk, .long own])), (sk, .inl (cI, 13, .inl sf)), (ha, .inl (cJ, 4, .inr (.inl hf))), (ox, .inr (5, [.ref wk, .ref so, .ref g, .ref ko, .ref tr, .int op7, .int st7])), (so, .inr (3, [.ref sp, .ref hp, .long se2_x68])), (sp, .inl (cI, 94, .inl stp)), (hp, .inl (cJ, 156, .inr (.inl hq2_x68))), (tr, .inr (1, [.ref ta, .long town2_x68])), (ta, .inl (cI, 13, .inl tf2_x68)), (g, .inr (0, [.ref ha, .ref oa, .ref pa, .int (nI np), .int (nI tp), .long ly, .int (nI tn), .int te, .int lay, .int idl, .int ov, .int win])), (oa, .inl (cZ, 4, .inl of))] H := hP
          have hD : va_D A [(ko, .inr (1, [.ref sk, .long own])), (sk, .inl (cI, 13, .inl sf)), (ha, .inl (cJ, 4, .inr (.inl hf))), (ox, .inr (5, [.ref wk, .ref so, .ref g, .ref ko, .ref tr, .int op7, .int st7])), (so, .inr (3, [.ref sp, .ref hp, .long se2_x68])), (sp, .inl (cI, 94, .inl stp)), (hp, .inl (cJ, 156, .inr (.inl hq2_x68))), (tr, .inr (1, [.ref ta, .long town2_x68])), (ta, .inl (cI, 13, .inl tf2_x68)), (g, .inr (0, [.ref ha, .ref oa, .ref pa, .int (nI np), .int (nI tp), .long ly, .int (nI tn), .int te, .int lay, .int idl, .int ov, .int win])), (oa, .inl (cZ, 4, .inl of))] := hD
          try dsimp only at hx68
          refine lv_istore (lv' := [(4, .int x68), (3, .int x23), (0, .ref ox), (1, .long cards)]) hx hb dX7_lay_71 hl (by decide) rfl (fun ls hl => ?_)
          have hw := lay_m (of := of tn) (opn := op7) (tb := ly) hset hc0 c_23 c_36 hh
          refine lv_iload hx hb dX7_lay_73 (lv_at hl 0 rfl) ?_
          refine lv_if_eq (tgt := 85) hx hb dX7_lay_75 (by decide) (fun c_75 => ?_) (fun c_75 => ?_)
          · have hm0 : mlS (of tn) op7 ly cards = 0 := hx68.1.symm.trans c_75
            refine lv_aload_n hx hb dX7_lay_85 rfl (lv_at hl 2 rfl) ?_
            refine lv_lload_n hx hb dX7_lay_86 rfl (lv_at hl 3 rfl) ?_
            have hPc := hP.sub (ws' := [(ox, .inr (5, [.ref wk, .ref so, .ref g, .ref ko, .ref tr, .int op7, .int st7])), (g, .inr (0, [.ref ha, .ref oa, .ref pa, .int (nI np), .int (nI tp), .long ly, .int (nI tn), .int te, .int lay, .int idl, .int ov, .int win])), (ha, .inl (cJ, 4, .inr (.inl hf))), (oa, .inl (cZ, 4, .inl of))]) [3, 9, 2, 10] rfl
            have hDc := hD.sub (ws' := [(ox, .inr (5, [.ref wk, .ref so, .ref g, .ref ko, .ref tr, .int op7, .int st7])), (g, .inr (0, [.ref ha, .ref oa, .ref pa, .int (nI np), .int (nI tp), .long ly, .int (nI tn), .int te, .int lay, .int idl, .int ov, .int win])), (ha, .inl (cJ, 4, .inr (.inl hf))), (oa, .inl (cZ, 4, .inl of))]) [3, 9, 2, 10] (by decide) rfl
            have hFc := va_free (wc := [(ox, .inr (5, [.ref wk, .ref so, .ref g, .ref ko, .ref tr, .int op7, .int st7])), (g, .inr (0, [.ref ha, .ref oa, .ref pa, .int (nI np), .int (nI tp), .long ly, .int (nI tn), .int te, .int lay, .int idl, .int ov, .int win])), (ha, .inl (cJ, 4, .inr (.inl hf))), (oa, .inl (cZ, 4, .inl of))]) hD hS hA [3, 9, 2, 10] rfl
            refine va_callv (va_runV (As := [.long cards]) (rest := []) ⟨hx, hb, hml, hown, hts⟩ (k_X7_carryOut l D cI cJ cZ H.size ox wk so g ko tr op7 st7 ha oa pa np tp tn te lay idl ov win ly hf of cards (hn4) (htn)) (cwV 1 hts gX7_lay_X7_carryOut rfl rfl rfl (by decide +kernel) ⟨Nat.le_of_ble_eq_true rfl, Nat.le_of_ble_eq_true rfl⟩) ⟨wM_fb, va_recv hK hPc (ci := 5) (q0 := 0) rfl rfl, wM_pre hPc ⟨hK, hN⟩ hDc⟩ rfl rfl hl.1 rfl (lv_room (Nat.le_of_ble_eq_true rfl)) dX7_lay_87 ⟨Nat.le_of_ble_eq_true rfl, Nat.le_of_ble_eq_true rfl⟩) hS (fun q _ h => hFc q h) hFc (fun u t H1 locs ht hvm hx87 hB hz1 hk1 hS => ?_)
            obtain ⟨ly2_x87, lay2_x87, ov2_x87, win2_x87, hf2_x87, of2_x87⟩ := u
            obtain ⟨hP1, hD1⟩ := hB
            rw [ht] at hP1
            obtain ⟨hP, hD⟩ := va_join (wr := [(ko, .inr (1, [.ref sk, .long own])), (sk, .inl (cI, 13, .inl sf)), (so, .inr (3, [.ref sp, .ref hp, .long se2_x68])), (sp, .inl (cI, 94, .inl stp)), (hp, .inl (cJ, 156, .inr (.inl hq2_x68))), (tr, .inr (1, [.ref ta, .long town2_x68])), (ta, .inl (cI, 13, .inl tf2_x68))]) (w1 := [(ox, .inr (5, [.ref wk, .ref so, .ref g, .ref tr, .ref ko, .int op7, .int st7])), (g, .inr (0, [.ref ha, .ref oa, .ref pa, .int (nI np), .int (nI tp), .long ly2_x87, .int (nI tn), .int te, .int lay2_x87, .int idl, .int ov2_x87, .int win2_x87])), (ha, .inl (cJ, 4, .inr (.inl hf2_x87))), (oa, .inl (cZ, 4, .inl of2_x87))]) hP hD [3, 9, 2, 10] [0, 1, 4, 5, 6, 7, 8] rfl rfl (by decide) (by decide) hk1 hFc hP1 hD1
            generalize H1 = H at hP hS ⊢
            have hP : va_P D vwCl [(ko, .inr (1, [.ref sk, .long own])), (sk, .inl (cI, 13, .inl sf)), (so, .inr (3, [.ref sp, .ref hp, .long se2_x68])), (sp, .inl (cI, 94, .inl stp)), (hp, .inl (cJ, 156, .inr (.inl hq2_x68))), (tr, .inr (1, [.ref ta, .long town2_x68])), (ta, .inl (cI, 13, .inl tf2_x68)), (ox, .inr (5, [.ref wk, .ref so, .ref g, .ref tr, .ref ko, .int op7, .int st7])), (g, .inr (0, [.ref ha, .ref oa, .ref pa, .int (nI np), .int (nI tp), .long ly2_x87, .int (nI tn), .int te, .int lay2_x87, .int idl, .int ov2_x87, .int win2_x87])), (ha, .inl (cJ, 4, .inr (.inl hf2_x87))), (oa, .inl (cZ, 4, .inl of2_x87))] H := hP
            have hD : va_D A [(ko, .inr (1, [.ref sk, .long own])), (sk, .inl (cI, 13, .inl sf)), (so, .inr (3, [.ref sp, .ref hp, .long se2_x68])), (sp, .inl (cI, 94, .inl stp)), (hp, .inl (cJ, 156, .inr (.inl hq2_x68))), (tr, .inr (1, [.ref ta, .long town2_x68])), (ta, .inl (cI, 13, .inl tf2_x68)), (ox, .inr (5, [.ref wk, .ref so, .ref g, .ref tr, .ref ko, .int op7, .int st7])), (g, .inr (0, [.ref ha, .ref oa, .ref pa, .int (nI np), .int (nI tp), .long ly2_x87, .int (nI tn), .int te, .int lay2_x87, .int idl, .int ov2_x87, .int win2_x87])), (ha, .inl (cJ, 4, .inr (.inl hf2_x87))), (oa, .inl (cZ, 4, .inl of2_x87))] := hD
            try dsimp only at hx87
            obtain ⟨hx87, hd_ly2, hd_lay2, hd_ov2, hd_win2, hd_hf2, hd_of2⟩ := hx87
            subst hd_ly2
            subst hd_lay2
            subst hd_ov2
            subst hd_win2
            subst hd_hf2
            subst hd_of2
            refine lv_aload_n hx hb dX7_lay_90 rfl (lv_at hl 2 rfl) ?_
            refine lv_iconst (v := 0) hx hb dX7_lay_91 (by decide) ?_
            refine va_put (D := D) (ci := 5) (v := .int 0) (ty := .int) (C := RX7) (T := TX7) (N := 7) hx hb hts iX7 tyX7 tyX7_ok nmX7 hown hK hP hD hS 7 rfl rfl 6 (by decide) k52 (fun _ h9 => h9) rfl (by decide +kernel) rfl rfl (Nat.le_of_ble_eq_true rfl) dX7_lay_92 (fun H locs hP hD hS => ?_)
            have hP : va_P D vwCl [(ko, .inr (1, [.ref sk, .long own])), (sk, .inl (cI, 13, .inl sf)), (so, .inr (3, [.ref sp, .ref hp, .long se2_x68])), (sp, .inl (cI, 94, .inl stp)), (hp, .inl (cJ, 156, .inr (.inl hq2_x68))), (tr, .inr (1, [.ref ta, .long town2_x68])), (ta, .inl (cI, 13, .inl tf2_x68)), (ox, .inr (5, [.ref wk, .ref so, .ref g, .ref tr, .ref ko, .int op7, .int 0])), (g, .inr (0, [.ref ha, .ref oa, .ref pa, .int (nI np), .int (nI tp), .long (ly ||| cards), .int (nI tn), .int te, .int (lay + 1), .int idl, .int (if hf tn &&& (cards ^^^ (-1)) = 0 then 1 else ov), .int (if hf tn &&& (cards ^^^ (-1)) = 0 then nI tn else win)])), (ha, .inl (cJ, 4, .inr (.inl (vp_updL hf tn (hf tn &&& (cards ^^^ (-1))))))), (oa, .inl (cZ, 4, .inl (upd of tn 1)))] H := hP
            have hD : va_D A [(ko, .inr (1, [.ref sk, .long own])), (sk, .inl (cI, 13, .inl sf)), (so, .inr (3, [.ref sp, .ref hp, .long se2_x68])), (sp, .inl (cI, 94, .inl stp)), (hp, .inl (cJ, 156, .inr (.inl hq2_x68))), (tr, .inr (1, [.ref ta, .long town2_x68])), (ta, .inl (cI, 13, .inl tf2_x68)), (ox, .inr (5, [.ref wk, .ref so, .ref g, .ref tr, .ref ko, .int op7, .int 0])), (g, .inr (0, [.ref ha, .ref oa, .ref pa, .int (nI np), .int (nI tp), .long (ly ||| cards), .int (nI tn), .int te, .int (lay + 1), .int idl, .int (if hf tn &&& (cards ^^^ (-1)) = 0 then 1 else ov), .int (if hf tn &&& (cards ^^^ (-1)) = 0 then nI tn else win)])), (ha, .inl (cJ, 4, .inr (.inl (vp_updL hf tn (hf tn &&& (cards ^^^ (-1))))))), (oa, .inl (cZ, 4, .inl (upd of tn 1)))] := hD
            refine lv_aload_n hx hb dX7_lay_95 rfl (lv_at hl 2 rfl) ?_
            refine va_get (D := D) (ci := 5) (v := .ref g) (C := RX7) (T := TX7) (N := 7) hx hb hts iX7 hown hK hP 7 rfl rfl 2 (by decide) k34 (fun _ h9 => h9) rfl dX7_lay_96 ?_
            refine va_getN (D := D) (ci := 0) (v := .long (ly ||| cards)) (C := RX1) (T := TX1) (N := 12) hx hb hts iX1 hown hK hP 8 rfl rfl 5 (by decide) k133 (fun _ h9 => h9) rfl dX7_lay_99 ?_
            refine vp_callSi (W.runS (As := [.long (ly ||| cards)]) (rest := []) ⟨hx, hb, hml, hown, hts⟩ (k_J13_bitCount_95d88 l (ly ||| cards) ) (va_cwS 1 hts gX7_lay_J13_bitCount_95d88 rfl rfl rfl (by decide +kernel) ⟨Nat.le_of_ble_eq_true rfl, Nat.le_of_ble_eq_true rfl⟩) ⟨pS_fb, pS_pre⟩ rfl rfl hl.1 rfl (lv_room (Nat.le_of_ble_eq_true rfl)) dX7_lay_102 ⟨Nat.le_of_ble_eq_true rfl, Nat.le_of_ble_eq_true rfl⟩) (fun x102 hx102 => ?_)
            subst hx102
            rw [← hQ]
            have hP9 := hP.sub (ws' := [(ox, .inr (5, [.ref wk, .ref so, .ref g, .ref tr, .ref ko, .int op7, .int 0])), (so, .inr (3, [.ref sp, .ref hp, .long se2_x68])), (sp, .inl (cI, 94, .inl stp)), (hp, .inl (cJ, 156, .inr (.inl hq2_x68))), (tr, .inr (1, [.ref ta, .long town2_x68])), (ta, .inl (cI, 13, .inl tf2_x68)), (ko, .inr (1, [.ref sk, .long own])), (sk, .inl (cI, 13, .inl sf)), (g, .inr (0, [.ref ha, .ref oa, .ref pa, .int (nI np), .int (nI tp), .long (ly ||| cards), .int (nI tn), .int te, .int (lay + 1), .int idl, .int (if hf tn &&& (cards ^^^ (-1)) = 0 then 1 else ov), .int (if hf tn &&& (cards ^^^ (-1)) = 0 then nI tn else win)])), (ha, .inl (cJ, 4, .inr (.inl (vp_updL hf tn (hf tn &&& (cards ^^^ (-1))))))), (oa, .inl (cZ, 4, .inl (upd of tn 1)))]) [7, 2, 3, 4, 5, 6, 0, 1, 8, 9, 10] rfl
            have hD9 := hD.sub (ws' := [(ox, .inr (5, [.ref wk, .ref so, .ref g, .ref tr, .ref ko, .int op7, .int 0])), (so, .inr (3, [.ref sp, .ref hp, .long se2_x68])), (sp, .inl (cI, 94, .inl stp)), (hp, .inl (cJ, 156, .inr (.inl hq2_x68))), (tr, .inr (1, [.ref ta, .long town2_x68])), (ta, .inl (cI, 13, .inl tf2_x68)), (ko, .inr (1, [.ref sk, .long own])), (sk, .inl (cI, 13, .inl sf)), (g, .inr (0, [.ref ha, .ref oa, .ref pa, .int (nI np), .int (nI tp), .long (ly ||| cards), .int (nI tn), .int te, .int (lay + 1), .int idl, .int (if hf tn &&& (cards ^^^ (-1)) = 0 then 1 else ov), .int (if hf tn &&& (cards ^^^ (-1)) = 0 then nI tn else win)])), (ha, .inl (cJ, 4, .inr (.inl (vp_updL hf tn (hf tn &&& (cards ^^^ (-1))))))), (oa, .inl (cZ, 4, .inl (upd of tn 1)))]) [7, 2, 3, 4, 5, 6, 0, 1, 8, 9, 10] (by decide) rfl
            exact W.iret (v := j_bcL (ly ||| cards)) hx hb hr (fun t ht hW => ⟨⟨(j_bcL (ly ||| cards)), (0, tr, ta, ko, sk, town2_x68, own, tf2_x68, sf, se2_x68, hq2_x68, (ly ||| cards), (lay + 1), (if hf tn &&& (cards ^^^ (-1)) = 0 then 1 else ov), (if hf tn &&& (cards ^^^ (-1)) = 0 then nI tn else win), (vp_updL hf tn (hf tn &&& (cards ^^^ (-1)))), (upd of tn 1)), rfl, (by rw [hw]; exact ⟨hm0.symm, fun z => absurd hm0 z, fun _ => ⟨rfl, rfl, rfl, rfl, rfl, rfl, rfl, (hx68.2 hm0).1, (hx68.2 hm0).2⟩⟩), (by show wB D A _ t; exact ⟨by rw [ht]; exact hP9, hD9⟩)⟩, hS.F ht⟩) hS.2.2 dX7_lay_105
          · have hm0 : ¬ mlS (of tn) op7 ly cards = 0 := fun z => c_75 (hx68.1.trans z)
            refine lv_aload_n hx hb dX7_lay_78 rfl (lv_at hl 2 rfl) ?_
            refine lv_iload hx hb dX7_lay_79 (lv_at hl 0 rfl) ?_
            have hPc := hP.sub (ws' := [(ox, .inr (5, [.ref wk, .ref so, .ref g, .ref ko, .ref tr, .int op7, .int st7]))]) [3] rfl
            have hDc := hD.sub (ws' := [(ox, .inr (5, [.ref wk, .ref so, .ref g, .ref ko, .ref tr, .int op7, .int st7]))]) [3] (by decide) rfl
            have hFc := va_free (wc := [(ox, .inr (5, [.ref wk, .ref so, .ref g, .ref ko, .ref tr, .int op7, .int st7]))]) hD hS hA [3] rfl
            refine va_calli (va_runV (As := [.int x68]) (rest := []) ⟨hx, hb, hml, hown, hts⟩ (k_X7_refuse l D cI cJ cZ H.size ox wk so ko tr op7 st7 g x68 ) (cwV 1 hts gX7_lay_X7_refuse rfl rfl rfl (by decide +kernel) ⟨Nat.le_of_ble_eq_true rfl, Nat.le_of_ble_eq_true rfl⟩) ⟨wM_fb, va_recv hK hPc (ci := 5) (q0 := 0) rfl rfl, wM_pre hPc ⟨hK, hN⟩ hDc⟩ rfl rfl hl.1 rfl (lv_room (Nat.le_of_ble_eq_true rfl)) dX7_lay_81 ⟨Nat.le_of_ble_eq_true rfl, Nat.le_of_ble_eq_true rfl⟩) hS (fun q _ h => hFc q h) hFc (fun x81 u t H1 locs ht hvm hx81 hB hz1 hk1 hS => ?_)
            obtain ⟨hP1, hD1⟩ := hB
            rw [ht] at hP1
            obtain ⟨hP, hD⟩ := va_join (wr := [(ko, .inr (1, [.ref sk, .long own])), (sk, .inl (cI, 13, .inl sf)), (ha, .inl (cJ, 4, .inr (.inl hf))), (so, .inr (3, [.ref sp, .ref hp, .long se2_x68])), (sp, .inl (cI, 94, .inl stp)), (hp, .inl (cJ, 156, .inr (.inl hq2_x68))), (tr, .inr (1, [.ref ta, .long town2_x68])), (ta, .inl (cI, 13, .inl tf2_x68)), (g, .inr (0, [.ref ha, .ref oa, .ref pa, .int (nI np), .int (nI tp), .long ly, .int (nI tn), .int te, .int lay, .int idl, .int ov, .int win])), (oa, .inl (cZ, 4, .inl of))]) (w1 := [(ox, .inr (5, [.ref wk, .ref so, .ref g, .ref ko, .ref tr, .int op7, .int x68]))]) hP hD [3] [0, 1, 2, 4, 5, 6, 7, 8, 9, 10] rfl rfl (by decide) (by decide) hk1 hFc hP1 hD1
            generalize H1 = H at hP hS ⊢
            have hP : va_P D vwCl [(ko, .inr (1, [.ref sk, .long own])), (sk, .inl (cI, 13, .inl sf)), (ha, .inl (cJ, 4, .inr (.inl hf))), (so, .inr (3, [.ref sp, .ref hp, .long se2_x68])), (sp, .inl (cI, 94, .inl stp)), (hp, .inl (cJ, 156, .inr (.inl hq2_x68))), (tr, .inr (1, [.ref ta, .long town2_x68])), (ta, .inl (cI, 13, .inl tf2_x68)), (g, .inr (0, [.ref ha, .ref oa, .ref pa, .int (nI np), .int (nI tp), .long ly, .int (nI tn), .int te, .int lay, .int idl, .int ov, .int win])), (oa, .inl (cZ, 4, .inl of)), (ox, .inr (5, [.ref wk, .ref so, .ref g, .ref ko, .ref tr, .int op7, .int x68]))] H := hP
            have hD : va_D A [(ko, .inr (1, [.ref sk, .long own])), (sk, .inl (cI, 13, .inl sf)), (ha, .inl (cJ, 4, .inr (.inl hf))), (so, .inr (3, [.ref sp, .ref hp, .long se2_x68])), (sp, .inl (cI, 94, .inl stp)), (hp, .inl (cJ, 156, .inr (.inl hq2_x68))), (tr, .inr (1, [.ref ta, .long town2_x68])), (ta, .inl (cI, 13, .inl tf2_x68)), (g, .inr (0, [.ref ha, .ref oa, .ref pa, .int (nI np), .int (nI tp), .long ly, .int (nI tn), .int te, .int lay, .int idl, .int ov, .int win])), (oa, .inl (cZ, 4, .inl of)), (ox, .inr (5, [.ref wk, .ref so, .ref g, .ref ko, .ref tr, .int op7, .int x68]))] := hD
            try dsimp only at hx81
            rw [← hQ]
            have hP9 := hP.sub (ws' := [(ox, .inr (5, [.ref wk, .ref so, .ref g, .ref ko, .ref tr, .int op7, .int x68])), (so, .inr (3, [.ref sp, .ref hp, .long se2_x68])), (sp, .inl (cI, 94, .inl stp)), (hp, .inl (cJ, 156, .inr (.inl hq2_x68))), (ko, .inr (1, [.ref sk, .long own])), (sk, .inl (cI, 13, .inl sf)), (tr, .inr (1, [.ref ta, .long town2_x68])), (ta, .inl (cI, 13, .inl tf2_x68)), (g, .inr (0, [.ref ha, .ref oa, .ref pa, .int (nI np), .int (nI tp), .long ly, .int (nI tn), .int te, .int lay, .int idl, .int ov, .int win])), (ha, .inl (cJ, 4, .inr (.inl hf))), (oa, .inl (cZ, 4, .inl of))]) [10, 3, 4, 5, 0, 1, 6, 7, 8, 2, 9] rfl
            have hD9 := hD.sub (ws' := [(ox, .inr (5, [.ref wk, .ref so, .ref g, .ref ko, .ref tr, .int op7, .int x68])), (so, .inr (3, [.ref sp, .ref hp, .long se2_x68])), (sp, .inl (cI, 94, .inl stp)), (hp, .inl (cJ, 156, .inr (.inl hq2_x68))), (ko, .inr (1, [.ref sk, .long own])), (sk, .inl (cI, 13, .inl sf)), (tr, .inr (1, [.ref ta, .long town2_x68])), (ta, .inl (cI, 13, .inl tf2_x68)), (g, .inr (0, [.ref ha, .ref oa, .ref pa, .int (nI np), .int (nI tp), .long ly, .int (nI tn), .int te, .int lay, .int idl, .int ov, .int win])), (ha, .inl (cJ, 4, .inr (.inl hf))), (oa, .inl (cZ, 4, .inl of))]) [10, 3, 4, 5, 0, 1, 6, 7, 8, 2, 9] (by decide) rfl
            exact W.iret (v := x81) hx hb hr (fun t ht hW => ⟨⟨x81, (x68, ko, sk, tr, ta, own, town2_x68, sf, tf2_x68, se2_x68, hq2_x68, ly, lay, ov, win, hf, of), rfl, (by rw [hw, hx81, hx68.1]; exact lay7_no rfl hm0 rfl), (by show wB D A _ t; exact ⟨by rw [ht]; exact hP9, hD9⟩)⟩, hS.F ht⟩) hS.2.2 dX7_lay_84
        · rw [hd_of htn hn4] at c_56
          have hh : ¬ cards &&& (hf tn ^^^ (-1)) = 0 := fun z => c_56 (cmp_eq.mpr z)
          refine lv_aload_n hx hb dX7_lay_59 rfl (lv_at hl 1 rfl) ?_
          refine lv_bipush (v := 6) hx hb dX7_lay_60 (by decide) ?_
          have hPc := hP.sub (ws' := [(ox, .inr (5, [.ref wk, .ref so, .ref g, .ref ko, .ref tr, .int op7, .int st7]))]) [0] rfl
          have hDc := hD.sub (ws' := [(ox, .inr (5, [.ref wk, .ref so, .ref g, .ref ko, .ref tr, .int op7, .int st7]))]) [0] (by decide) rfl
          have hFc := va_free (wc := [(ox, .inr (5, [.ref wk, .ref so, .ref g, .ref ko, .ref tr, .int op7, .int st7]))]) hD hS hA [0] rfl
          refine va_calli (va_runV (As := [.int 6]) (rest := []) ⟨hx, hb, hml, hown, hts⟩ (k_X7_refuse l D cI cJ cZ s.heap.size ox wk so ko tr op7 st7 g 6 ) (cwV 1 hts gX7_lay_X7_refuse rfl rfl rfl (by decide +kernel) ⟨Nat.le_of_ble_eq_true rfl, Nat.le_of_ble_eq_true rfl⟩) ⟨wM_fb, va_recv hK hPc (ci := 5) (q0 := 0) rfl rfl, wM_pre hPc ⟨hK, hN⟩ hDc⟩ rfl rfl hl.1 rfl (lv_room (Nat.le_of_ble_eq_true rfl)) dX7_lay_62 ⟨Nat.le_of_ble_eq_true rfl, Nat.le_of_ble_eq_true rfl⟩) hS (fun q _ h => hFc q h) hFc (fun x62 u t H1 locs ht hvm hx62 hB hz1 hk1 hS => ?_)
          obtain ⟨hP1, hD1⟩ := hB
          rw [ht] at hP1
          obtain ⟨hP, hD⟩ := va_join (wr := [(so, .inr (3, [.ref sp, .ref hp, .long se])), (sp, .inl (cI, 94, .inl stp)), (hp, .inl (cJ, 156, .inr (.inl hq))), (ko, .inr (1, [.ref sk, .long own])), (sk, .inl (cI, 13, .inl sf)), (tr, .inr (1, [.ref ta, .long town])), (ta, .inl (cI, 13, .inl tf7)), (g, .inr (0, [.ref ha, .ref oa, .ref pa, .int (nI np), .int (nI tp), .long ly, .int (nI tn), .int te, .int lay, .int idl, .int ov, .int win])), (ha, .inl (cJ, 4, .inr (.inl hf))), (oa, .inl (cZ, 4, .inl of))]) (w1 := [(ox, .inr (5, [.ref wk, .ref so, .ref g, .ref ko, .ref tr, .int op7, .int 6]))]) hP hD [0] [1, 2, 3, 4, 5, 6, 7, 8, 9, 10] rfl rfl (by decide) (by decide) hk1 hFc hP1 hD1
          generalize H1 = H at hP hS ⊢
          have hP : va_P D vwCl [(so, .inr (3, [.ref sp, .ref hp, .long se])), (sp, .inl (cI, 94, .inl stp)), (hp, .inl (cJ, 156, .inr (.inl hq))), (ko, .inr (1, [.ref sk, .long own])), (sk, .inl (cI, 13, .inl sf)), (tr, .inr (1, [.ref ta, .long town])), (ta, .inl (cI, 13, .inl tf7)), (g, .inr (0, [.ref ha, .ref oa, .ref pa, .int (nI np), .int (nI tp), .long ly, .int (nI tn), .int te, .int lay, .int idl, .int ov, .int win])), (ha, .inl (cJ, 4, .inr (.inl hf))), (oa, .inl (cZ, 4, .inl of)), (ox, .inr (5, [.ref wk, .ref so, .ref g, .ref ko, .ref tr, .int op7, .int 6]))] H := hP
          have hD : va_D A [(so, .inr (3, [.ref sp, .ref hp, .long se])), (sp, .inl (cI, 94, .inl stp)), (hp, .inl (cJ, 156, .inr (.inl hq))), (ko, .inr (1, [.ref sk, .long own])), (sk, .inl (cI, 13, .inl sf)), (tr, .inr (1, [.ref ta, .long town])), (ta, .inl (cI, 13, .inl tf7)), (g, .inr (0, [.ref ha, .ref oa, .ref pa, .int (nI np), .int (nI tp), .long ly, .int (nI tn), .int te, .int lay, .int idl, .int ov, .int win])), (ha, .inl (cJ, 4, .inr (.inl hf))), (oa, .inl (cZ, 4, .inl of)), (ox, .inr (5, [.ref wk, .ref so, .ref g, .ref ko, .ref tr, .int op7, .int 6]))] := hD
          try dsimp only at hx62
          rw [← hQ]
          have hP9 := hP.sub (ws' := [(ox, .inr (5, [.ref wk, .ref so, .ref g, .ref ko, .ref tr, .int op7, .int 6])), (so, .inr (3, [.ref sp, .ref hp, .long se])), (sp, .inl (cI, 94, .inl stp)), (hp, .inl (cJ, 156, .inr (.inl hq))), (ko, .inr (1, [.ref sk, .long own])), (sk, .inl (cI, 13, .inl sf)), (tr, .inr (1, [.ref ta, .long town])), (ta, .inl (cI, 13, .inl tf7)), (g, .inr (0, [.ref ha, .ref oa, .ref pa, .int (nI np), .int (nI tp), .long ly, .int (nI tn), .int te, .int lay, .int idl, .int ov, .int win])), (ha, .inl (cJ, 4, .inr (.inl hf))), (oa, .inl (cZ, 4, .inl of))]) [10, 0, 1, 2, 3, 4, 5, 6, 7, 8, 9] rfl
          have hD9 := hD.sub (ws' := [(ox, .inr (5, [.ref wk, .ref so, .ref g, .ref ko, .ref tr, .int op7, .int 6])), (so, .inr (3, [.ref sp, .ref hp, .long se])), (sp, .inl (cI, 94, .inl stp)), (hp, .inl (cJ, 156, .inr (.inl hq))), (ko, .inr (1, [.ref sk, .long own])), (sk, .inl (cI, 13, .inl sf)), (tr, .inr (1, [.ref ta, .long town])), (ta, .inl (cI, 13, .inl tf7)), (g, .inr (0, [.ref ha, .ref oa, .ref pa, .int (nI np), .int (nI tp), .long ly, .int (nI tn), .int te, .int lay, .int idl, .int ov, .int win])), (ha, .inl (cJ, 4, .inr (.inl hf))), (oa, .inl (cZ, 4, .inl of))]) [10, 0, 1, 2, 3, 4, 5, 6, 7, 8, 9] (by decide) rfl
          exact W.iret (v := x62) hx hb hr (fun t ht hW => ⟨⟨x62, (6, ko, sk, tr, ta, own, town, sf, tf7, se, hq, ly, lay, ov, win, hf, of), rfl, lay7_no (lay_6 hset hc0 c_23 c_36 hh) (by decide) hx62, (by show wB D A _ t; exact ⟨by rw [ht]; exact hP9, hD9⟩)⟩, hS.F ht⟩) hS.2.2 dX7_lay_65
      · have hb0 : ¬ endW (igF np) ov = 0 := by rw [← bar_c]; exact fun z => c_25 (ex23.trans z)
        refine lv_aload_n hx hb dX7_lay_28 rfl (lv_at hl 1 rfl) ?_
        refine lv_iload_n hx hb dX7_lay_29 rfl (lv_at hl 0 rfl) ?_
        have hPc := hP.sub (ws' := [(ox, .inr (5, [.ref wk, .ref so, .ref g, .ref ko, .ref tr, .int op7, .int st7]))]) [0] rfl
        have hDc := hD.sub (ws' := [(ox, .inr (5, [.ref wk, .ref so, .ref g, .ref ko, .ref tr, .int op7, .int st7]))]) [0] (by decide) rfl
        have hFc := va_free (wc := [(ox, .inr (5, [.ref wk, .ref so, .ref g, .ref ko, .ref tr, .int op7, .int st7]))]) hD hS hA [0] rfl
        refine va_calli (va_runV (As := [.int x23]) (rest := []) ⟨hx, hb, hml, hown, hts⟩ (k_X7_refuse l D cI cJ cZ s.heap.size ox wk so ko tr op7 st7 g x23 ) (cwV 1 hts gX7_lay_X7_refuse rfl rfl rfl (by decide +kernel) ⟨Nat.le_of_ble_eq_true rfl, Nat.le_of_ble_eq_true rfl⟩) ⟨wM_fb, va_recv hK hPc (ci := 5) (q0 := 0) rfl rfl, wM_pre hPc ⟨hK, hN⟩ hDc⟩ rfl rfl hl.1 rfl (lv_room (Nat.le_of_ble_eq_true rfl)) dX7_lay_30 ⟨Nat.le_of_ble_eq_true rfl, Nat.le_of_ble_eq_true rfl⟩) hS (fun q _ h => hFc q h) hFc (fun x30 u t H1 locs ht hvm hx30 hB hz1 hk1 hS => ?_)
        obtain ⟨hP1, hD1⟩ := hB
        rw [ht] at hP1
        obtain ⟨hP, hD⟩ := va_join (wr := [(so, .inr (3, [.ref sp, .ref hp, .long se])), (sp, .inl (cI, 94, .inl stp)), (hp, .inl (cJ, 156, .inr (.inl hq))), (ko, .inr (1, [.ref sk, .long own])), (sk, .inl (cI, 13, .inl sf)), (tr, .inr (1, [.ref ta, .long town])), (ta, .inl (cI, 13, .inl tf7)), (g, .inr (0, [.ref ha, .ref oa, .ref pa, .int (nI np), .int (nI tp), .long ly, .int (nI tn), .int te, .int lay, .int idl, .int ov, .int win])), (ha, .inl (cJ, 4, .inr (.inl hf))), (oa, .inl (cZ, 4, .inl of))]) (w1 := [(ox, .inr (5, [.ref wk, .ref so, .ref g, .ref ko, .ref tr, .int op7, .int x23]))]) hP hD [0] [1, 2, 3, 4, 5, 6, 7, 8, 9, 10] rfl rfl (by decide) (by decide) hk1 hFc hP1 hD1
        generalize H1 = H at hP hS ⊢
        have hP : va_P D vwCl [(so, .inr (3, [.ref sp, .ref hp, .long se])), (sp, .inl (cI, 94, .inl stp)), (hp, .inl (cJ, 156, .inr (.inl hq))), (ko, .inr (1, [.ref sk, .long own])), (sk, .inl (cI, 13, .inl sf)), (tr, .inr (1, [.ref ta, .long town])), (ta, .inl (cI, 13, .inl tf7)), (g, .inr (0, [.ref ha, .ref oa, .ref pa, .int (nI np), .int (nI tp), .long ly, .int (nI tn), .int te, .int lay, .int idl, .int ov, .int win])), (ha, .inl (cJ, 4, .inr (.inl hf))), (oa, .inl (cZ, 4, .inl of)), (ox, .inr (5, [.ref wk, .ref so, .ref g, .ref ko, .ref tr, .int op7, .int x23]))] H := hP
        have hD : va_D A [(so, .inr (3, [.ref sp, .ref hp, .long se])), (sp, .inl (cI, 94, .inl stp)), (hp, .inl (cJ, 156, .inr (.inl hq))), (ko, .inr (1, [.ref sk, .long own])), (sk, .inl (cI, 13, .inl sf)), (tr, .inr (1, [.ref ta, .long town])), (ta, .inl (cI, 13, .inl tf7)), (g, .inr (0, [.ref ha, .ref oa, .ref pa, .int (nI np), .int (nI tp), .long ly, .int (nI tn), .int te, .int lay, .int idl, .int ov, .int win])), (ha, .inl (cJ, 4, .inr (.inl hf))), (oa, .inl (cZ, 4, .inl of)), (ox, .inr (5, [.ref wk, .ref so, .ref g, .ref ko, .ref tr, .int op7, .int x23]))] := hD
        try dsimp only at hx30
        rw [← hQ]
        have hP9 := hP.sub (ws' := [(ox, .inr (5, [.ref wk, .ref so, .ref g, .ref ko, .ref tr, .int op7, .int x23])), (so, .inr (3, [.ref sp, .ref hp, .long se])), (sp, .inl (cI, 94, .inl stp)), (hp, .inl (cJ, 156, .inr (.inl hq))), (ko, .inr (1, [.ref sk, .long own])), (sk, .inl (cI, 13, .inl sf)), (tr, .inr (1, [.ref ta, .long town])), (ta, .inl (cI, 13, .inl tf7)), (g, .inr (0, [.ref ha, .ref oa, .ref pa, .int (nI np), .int (nI tp), .long ly, .int (nI tn), .int te, .int lay, .int idl, .int ov, .int win])), (ha, .inl (cJ, 4, .inr (.inl hf))), (oa, .inl (cZ, 4, .inl of))]) [10, 0, 1, 2, 3, 4, 5, 6, 7, 8, 9] rfl
        have hD9 := hD.sub (ws' := [(ox, .inr (5, [.ref wk, .ref so, .ref g, .ref ko, .ref tr, .int op7, .int x23])), (so, .inr (3, [.ref sp, .ref hp, .long se])), (sp, .inl (cI, 94, .inl stp)), (hp, .inl (cJ, 156, .inr (.inl hq))), (ko, .inr (1, [.ref sk, .long own])), (sk, .inl (cI, 13, .inl sf)), (tr, .inr (1, [.ref ta, .long town])), (ta, .inl (cI, 13, .inl tf7)), (g, .inr (0, [.ref ha, .ref oa, .ref pa, .int (nI np), .int (nI tp), .long ly, .int (nI tn), .int te, .int lay, .int idl, .int ov, .int win])), (ha, .inl (cJ, 4, .inr (.inl hf))), (oa, .inl (cZ, 4, .inl of))]) [10, 0, 1, 2, 3, 4, 5, 6, 7, 8, 9] (by decide) rfl
        exact W.iret (v := x30) hx hb hr (fun t ht hW => ⟨⟨x30, (x23, ko, sk, tr, ta, own, town, sf, tf7, se, hq, ly, lay, ov, win, hf, of), rfl, lay7_no ((lay_e hset hc0 hb0).trans (bar_c.symm.trans ex23.symm)) c_25 hx30, (by show wB D A _ t; exact ⟨by rw [ht]; exact hP9, hD9⟩)⟩, hS.F ht⟩) hS.2.2 dX7_lay_33
    · have hbad := lay_1 (ig := igF np) (io := ov) (of := of tn) (opn := op7) (hand := hf tn) (tb := ly) (cards := cards) (Or.inr (cmp_eq.mp (by first | exact c_10 | exact Classical.not_not.mp c_10)))
      refine lv_aload_n hx hb dX7_lay_13 rfl (lv_at hl 0 rfl) ?_
      refine lv_iconst (v := 1) hx hb dX7_lay_14 (by decide) ?_
      have hPc := hP.sub (ws' := [(ox, .inr (5, [.ref wk, .ref so, .ref g, .ref ko, .ref tr, .int op7, .int st7]))]) [0] rfl
      have hDc := hD.sub (ws' := [(ox, .inr (5, [.ref wk, .ref so, .ref g, .ref ko, .ref tr, .int op7, .int st7]))]) [0] (by decide) rfl
      have hFc := va_free (wc := [(ox, .inr (5, [.ref wk, .ref so, .ref g, .ref ko, .ref tr, .int op7, .int st7]))]) hD hS hA [0] rfl
      refine va_calli (va_runV (As := [.int 1]) (rest := []) ⟨hx, hb, hml, hown, hts⟩ (k_X7_refuse l D cI cJ cZ s.heap.size ox wk so ko tr op7 st7 g 1 ) (cwV 1 hts gX7_lay_X7_refuse rfl rfl rfl (by decide +kernel) ⟨Nat.le_of_ble_eq_true rfl, Nat.le_of_ble_eq_true rfl⟩) ⟨wM_fb, va_recv hK hPc (ci := 5) (q0 := 0) rfl rfl, wM_pre hPc ⟨hK, hN⟩ hDc⟩ rfl rfl hl.1 rfl (lv_room (Nat.le_of_ble_eq_true rfl)) dX7_lay_15 ⟨Nat.le_of_ble_eq_true rfl, Nat.le_of_ble_eq_true rfl⟩) hS (fun q _ h => hFc q h) hFc (fun x15 u t H1 locs ht hvm hx15 hB hz1 hk1 hS => ?_)
      obtain ⟨hP1, hD1⟩ := hB
      rw [ht] at hP1
      obtain ⟨hP, hD⟩ := va_join (wr := [(so, .inr (3, [.ref sp, .ref hp, .long se])), (sp, .inl (cI, 94, .inl stp)), (hp, .inl (cJ, 156, .inr (.inl hq))), (ko, .inr (1, [.ref sk, .long own])), (sk, .inl (cI, 13, .inl sf)), (tr, .inr (1, [.ref ta, .long town])), (ta, .inl (cI, 13, .inl tf7)), (g, .inr (0, [.ref ha, .ref oa, .ref pa, .int (nI np), .int (nI tp), .long ly, .int (nI tn), .int te, .int lay, .int idl, .int ov, .int win])), (ha, .inl (cJ, 4, .inr (.inl hf))), (oa, .inl (cZ, 4, .inl of))]) (w1 := [(ox, .inr (5, [.ref wk, .ref so, .ref g, .ref ko, .ref tr, .int op7, .int 1]))]) hP hD [0] [1, 2, 3, 4, 5, 6, 7, 8, 9, 10] rfl rfl (by decide) (by decide) hk1 hFc hP1 hD1
      generalize H1 = H at hP hS ⊢
      have hP : va_P D vwCl [(so, .inr (3, [.ref sp, .ref hp, .long se])), (sp, .inl (cI, 94, .inl stp)), (hp, .inl (cJ, 156, .inr (.inl hq))), (ko, .inr (1, [.ref sk, .long own])), (sk, .inl (cI, 13, .inl sf)), (tr, .inr (1, [.ref ta, .long town])), (ta, .inl (cI, 13, .inl tf7)), (g, .inr (0, [.ref ha, .ref oa, .ref pa, .int (nI np), .int (nI tp), .long ly, .int (nI tn), .int te, .int lay, .int idl, .int ov, .int win])), (ha, .inl (cJ, 4, .inr (.inl hf))), (oa, .inl (cZ, 4, .inl of)), (ox, .inr (5, [.ref wk, .ref so, .ref g, .ref ko, .ref tr, .int op7, .int 1]))] H := hP
      have hD : va_D A [(so, .inr (3, [.ref sp, .ref hp, .long se])), (sp, .inl (cI, 94, .inl stp)), (hp, .inl (cJ, 156, .inr (.inl hq))), (ko, .inr (1, [.ref sk, .long own])), (sk, .inl (cI, 13, .inl sf)), (tr, .inr (1, [.ref ta, .long town])), (ta, .inl (cI, 13, .inl tf7)), (g, .inr (0, [.ref ha, .ref oa, .ref pa, .int (nI np), .int (nI tp), .long ly, .int (nI tn), .int te, .int lay, .int idl, .int ov, .int win])), (ha, .inl (cJ, 4, .inr (.inl hf))), (oa, .inl (cZ, 4, .inl of)), (ox, .inr (5, [.ref wk, .ref so, .ref g, .ref ko, .ref tr, .int op7, .int 1]))] := hD
      try dsimp only at hx15
      rw [← hQ]
      have hP9 := hP.sub (ws' := [(ox, .inr (5, [.ref wk, .ref so, .ref g, .ref ko, .ref tr, .int op7, .int 1])), (so, .inr (3, [.ref sp, .ref hp, .long se])), (sp, .inl (cI, 94, .inl stp)), (hp, .inl (cJ, 156, .inr (.inl hq))), (ko, .inr (1, [.ref sk, .long own])), (sk, .inl (cI, 13, .inl sf)), (tr, .inr (1, [.ref ta, .long town])), (ta, .inl (cI, 13, .inl tf7)), (g, .inr (0, [.ref ha, .ref oa, .ref pa, .int (nI np), .int (nI tp), .long ly, .int (nI tn), .int te, .int lay, .int idl, .int ov, .int win])), (ha, .inl (cJ, 4, .inr (.inl hf))), (oa, .inl (cZ, 4, .inl of))]) [10, 0, 1, 2, 3, 4, 5, 6, 7, 8, 9] rfl
      have hD9 := hD.sub (ws' := [(ox, .inr (5, [.ref wk, .ref so, .ref g, .ref ko, .ref tr, .int op7, .int 1])), (so, .inr (3, [.ref sp, .ref hp, .long se])), (sp, .inl (cI, 94, .inl stp)), (hp, .inl (cJ, 156, .inr (.inl hq))), (ko, .inr (1, [.ref sk, .long own])), (sk, .inl (cI, 13, .inl sf)), (tr, .inr (1, [.ref ta, .long town])), (ta, .inl (cI, 13, .inl tf7)), (g, .inr (0, [.ref ha, .ref oa, .ref pa, .int (nI np), .int (nI tp), .long ly, .int (nI tn), .int te, .int lay, .int idl, .int ov, .int win])), (ha, .inl (cJ, 4, .inr (.inl hf))), (oa, .inl (cZ, 4, .inl of))]) [10, 0, 1, 2, 3, 4, 5, 6, 7, 8, 9] (by decide) rfl
      exact W.iret (v := x15) hx hb hr (fun t ht hW => ⟨⟨x15, (1, ko, sk, tr, ta, own, town, sf, tf7, se, hq, ly, lay, ov, win, hf, of), rfl, lay7_no hbad (by decide) hx15, (by show wB D A _ t; exact ⟨by rw [ht]; exact hP9, hD9⟩)⟩, hS.F ht⟩) hS.2.2 dX7_lay_18

set_option maxHeartbeats 4000000 in
set_option maxRecDepth 100000 in
theorem k_X7_end (l : Launch) (D : va_G) (cI cJ cZ : ClassId) (sz : Nat) (ox wk so g ko tr : Nat) (op7 st7 : Int32) (ha oa pa : Nat) (np tp tn : Nat) (te lay idl ov win : Int32) (ly : Int64) (hf : Nat → Int64) (pf : Nat → Int32) (hgm : ¬ igF np = 0 → np ≤ 4 ∧ tn < np ∧ tp ≤ 54) : Met l yX7_end wsX7_end ({ frames := 2, cells := 0, slots := 0, locals := 42 } : Room) (va_Pc [.ref ox] (wM D cI cJ cZ sz [(ox, .inr (5, [.ref wk, .ref so, .ref g, .ref ko, .ref tr, .int op7, .int st7])), (g, .inr (0, [.ref ha, .ref oa, .ref pa, .int (nI np), .int (nI tp), .long ly, .int (nI tn), .int te, .int lay, .int idl, .int ov, .int win])), (ha, .inl (cJ, 4, .inr (.inl hf))), (pa, .inl (cI, 54, .inl pf))])) (va_Qi (fun (r : Int32) (u : (Int32) × (Int32) × (Int32) × (Int32) × (Int32) × (Int32) × (Int32) × (Nat → Int64)) => match u with | (st2, top2, turn2, te2, lay2, idle2, ov2, hf2) => (st2 = endW (igF np) ov ∧ (¬ endW (igF np) ov = 0 → r = -1 ∧ top2 = nI tp ∧ turn2 = nI tn ∧ te2 = te ∧ lay2 = lay ∧ idle2 = idl ∧ ov2 = ov ∧ hf2 = hf) ∧ (endW (igF np) ov = 0 → r = eT_card lay tp pf ∧ top2 = nI (eT_top lay tp) ∧ turn2 = nI (if tn + 1 < np then tn + 1 else 0) ∧ te2 = te + 1 ∧ lay2 = 0 ∧ idle2 = eT_idle lay idl (eT_card lay tp pf) ∧ ov2 = (if eT_idle lay idl (eT_card lay tp pf) < nI np then 0 else 1) ∧ hf2 = vp_updL hf tn (hf tn ||| j_X1_bitOf (eT_card lay tp pf))))) (fun (u : (Int32) × (Int32) × (Int32) × (Int32) × (Int32) × (Int32) × (Int32) × (Nat → Int64)) t => match u with | (st2, top2, turn2, te2, lay2, idle2, ov2, hf2) => wB D (va_A [(ox, .inr (5, [.ref wk, .ref so, .ref g, .ref ko, .ref tr, .int op7, .int st7])), (g, .inr (0, [.ref ha, .ref oa, .ref pa, .int (nI np), .int (nI tp), .long ly, .int (nI tn), .int te, .int lay, .int idl, .int ov, .int win])), (ha, .inl (cJ, 4, .inr (.inl hf))), (pa, .inl (cI, 54, .inl pf))] sz) [(ox, .inr (5, [.ref wk, .ref so, .ref g, .ref ko, .ref tr, .int op7, .int st2])), (g, .inr (0, [.ref ha, .ref oa, .ref pa, .int (nI np), .int top2, .long ly, .int turn2, .int te2, .int lay2, .int idle2, .int ov2, .int win])), (ha, .inl (cJ, 4, .inr (.inl hf2))), (pa, .inl (cI, 54, .inl pf))] t) (va_A [(ox, .inr (5, [.ref wk, .ref so, .ref g, .ref ko, .ref tr, .int op7, .int st7])), (g, .inr (0, [.ref ha, .ref oa, .ref pa, .int (nI np), .int (nI tp), .long ly, .int (nI tn), .int te, .int lay, .int idl, .int ov, .int win])), (ha, .inl (cJ, 4, .inr (.inl hf))), (pa, .inl (cI, 54, .inl pf))] sz)) 0 0 (va_A [(ox, .inr (5, [.ref wk, .ref so, .ref g, .ref ko, .ref tr, .int op7, .int st7])), (g, .inr (0, [.ref ha, .ref oa, .ref pa, .int (nI np), .int (nI tp), .long ly, .int (nI tn), .int te, .int lay, .int idl, .int ov, .int win])), (ha, .inl (cJ, 4, .inr (.inl hf))), (pa, .inl (cI, 54, .inl pf))] sz) := by
  refine Met.ofW (cc := cX7_end) (maxL := 2) (ret := (some .int)) (by decide) rfl ?_
  intro p e s m args below meth c s₁ B hml hv
  obtain ⟨hargs, hsz, hP, ⟨hK, hN⟩, hD0⟩ := hv
  have hx := B.exec
  have hb := B.bytes
  have hr := B.returns
  have hlocks := B.notSynchronized
  have hts := atoms_spec (ws := wsX7_end) B.pre
  have hown : s.vm.findClass RX7 = some m.cls := findClass_of_methodNamed B.named
  have k147 := hts (.methodLink RX7 147 yX7_barToPlay) (by decide +kernel)
  have k52 := hts (.fieldLink RX7 52 "RummyTable" "status" "I") (by decide +kernel)
  have iX7 : ∀ w ∈ wsX70, w ∈ wsX7_end := by decide +kernel
  have k34 := hts (.fieldLink RX7 34 "RummyTable" "game" "LRummyTable$Game;") (by decide +kernel)
  have k162 := hts (.methodLink RX7 162 yX1_endTurn) (by decide +kernel)
  have k61 := hts (.methodLink RX7 61 yX7_refuse) (by decide +kernel)
  subst hsz
  have hD := hD0.self (sz := s.heap.size)
  generalize hAe : va_A [(ox, .inr (5, [.ref wk, .ref so, .ref g, .ref ko, .ref tr, .int op7, .int st7])), (g, .inr (0, [.ref ha, .ref oa, .ref pa, .int (nI np), .int (nI tp), .long ly, .int (nI tn), .int te, .int lay, .int idl, .int ov, .int win])), (ha, .inl (cJ, 4, .inr (.inl hf))), (pa, .inl (cI, 54, .inl pf))] s.heap.size = A at hD ⊢
  have hA : ∀ q : Nat, s.heap.size ≤ q → A q := fun q h => by rw [← hAe]; exact Or.inr h
  have hS : va_S A s.heap s.heap [] := va_S.rf
  rw [show entryFrame m args 2 = entryFrame m ([.ref ox] : List Value).toArray 2 from by rw [hargs]]
  have hl := lv_entry ([.ref ox]) (n := 2) (Nat.le_of_ble_eq_true rfl)
  rw [lg_entry_eq]
  generalize (lg_sl ([.ref ox]) ++ List.replicate (2 - (lg_sl ([.ref ox])).length) Slot.unset).toArray = ls at hl ⊢
  have hl : lv_has ls 2 [(0, .ref ox)] := hl
  refine wQ (fun Q hQ => ?_)
  refine lv_aload_n hx hb dX7_end_0 rfl (lv_at hl 0 rfl) ?_
  have hPc := hP.sub (ws' := [(ox, .inr (5, [.ref wk, .ref so, .ref g, .ref ko, .ref tr, .int op7, .int st7])), (g, .inr (0, [.ref ha, .ref oa, .ref pa, .int (nI np), .int (nI tp), .long ly, .int (nI tn), .int te, .int lay, .int idl, .int ov, .int win]))]) [0, 1] rfl
  refine vp_callSi (W.runV (As := []) (rest := []) ⟨hx, hb, hml, hown, hts⟩ (k_X7_barToPlay l D cI cJ cZ ox wk so ko tr op7 st7 g ha oa pa np (nI tp) (nI tn) te lay idl ov win ly ) (cwV 0 hts gX7_end_X7_barToPlay rfl rfl rfl (by decide +kernel) ⟨Nat.le_of_ble_eq_true rfl, Nat.le_of_ble_eq_true rfl⟩) ⟨wR_fb, va_recv hK hPc (ci := 5) (q0 := 0) rfl rfl, wR_pre hPc ⟨hK, hN⟩⟩ rfl rfl hl.1 rfl (lv_room (Nat.le_of_ble_eq_true rfl)) dX7_end_1 ⟨Nat.le_of_ble_eq_true rfl, Nat.le_of_ble_eq_true rfl⟩) (fun x1 hx1 => ?_)
  subst hx1
  refine lv_topi (fun x4 ex4 => ?_)
  refine lv_istore_n (lv' := [(1, .int x4), (0, .ref ox)]) hx hb dX7_end_4 rfl hl (by decide) rfl (fun ls hl => ?_)
  refine lv_iload_n hx hb dX7_end_5 rfl (lv_at hl 0 rfl) ?_
  refine lv_if_eq (tgt := 15) hx hb dX7_end_6 (by decide) (fun c_6 => ?_) (fun c_6 => ?_)
  · have hb0 : endW (igF np) ov = 0 := by rw [← bar_c]; exact ex4.symm.trans c_6
    obtain ⟨c_23, c_36⟩ := end_z hb0
    obtain ⟨hn4, htn, htp⟩ := hgm c_23
    refine lv_aload_n hx hb dX7_end_15 rfl (lv_at hl 1 rfl) ?_
    refine lv_iconst (v := 0) hx hb dX7_end_16 (by decide) ?_
    refine va_put (D := D) (ci := 5) (v := .int 0) (ty := .int) (C := RX7) (T := TX7) (N := 7) hx hb hts iX7 tyX7 tyX7_ok nmX7 hown hK hP hD hS 0 rfl rfl 6 (by decide) k52 (fun _ h9 => h9) rfl (by decide +kernel) rfl rfl (Nat.le_of_ble_eq_true rfl) dX7_end_17 (fun H locs hP hD hS => ?_)
    have hP : va_P D vwCl [(ox, .inr (5, [.ref wk, .ref so, .ref g, .ref ko, .ref tr, .int op7, .int 0])), (g, .inr (0, [.ref ha, .ref oa, .ref pa, .int (nI np), .int (nI tp), .long ly, .int (nI tn), .int te, .int lay, .int idl, .int ov, .int win])), (ha, .inl (cJ, 4, .inr (.inl hf))), (pa, .inl (cI, 54, .inl pf))] H := hP
    have hD : va_D A [(ox, .inr (5, [.ref wk, .ref so, .ref g, .ref ko, .ref tr, .int op7, .int 0])), (g, .inr (0, [.ref ha, .ref oa, .ref pa, .int (nI np), .int (nI tp), .long ly, .int (nI tn), .int te, .int lay, .int idl, .int ov, .int win])), (ha, .inl (cJ, 4, .inr (.inl hf))), (pa, .inl (cI, 54, .inl pf))] := hD
    refine lv_aload_n hx hb dX7_end_20 rfl (lv_at hl 1 rfl) ?_
    refine va_get (D := D) (ci := 5) (v := .ref g) (C := RX7) (T := TX7) (N := 7) hx hb hts iX7 hown hK hP 0 rfl rfl 2 (by decide) k34 (fun _ h9 => h9) rfl dX7_end_21 ?_
    have hPc := hP.sub (ws' := [(g, .inr (0, [.ref ha, .ref oa, .ref pa, .int (nI np), .int (nI tp), .long ly, .int (nI tn), .int te, .int lay, .int idl, .int ov, .int win])), (ha, .inl (cJ, 4, .inr (.inl hf))), (pa, .inl (cI, 54, .inl pf))]) [1, 2, 3] rfl
    have hDc := hD.sub (ws' := [(g, .inr (0, [.ref ha, .ref oa, .ref pa, .int (nI np), .int (nI tp), .long ly, .int (nI tn), .int te, .int lay, .int idl, .int ov, .int win])), (ha, .inl (cJ, 4, .inr (.inl hf))), (pa, .inl (cI, 54, .inl pf))]) [1, 2, 3] (by decide) rfl
    have hFc := va_free (wc := [(g, .inr (0, [.ref ha, .ref oa, .ref pa, .int (nI np), .int (nI tp), .long ly, .int (nI tn), .int te, .int lay, .int idl, .int ov, .int win])), (ha, .inl (cJ, 4, .inr (.inl hf))), (pa, .inl (cI, 54, .inl pf))]) hD hS hA [1, 2, 3] rfl
    refine va_calli (va_runV (As := []) (rest := []) ⟨hx, hb, hml, hown, hts⟩ (k_X1_endTurn l D cI cJ cZ H.size g ha oa pa np tp tn te lay idl ov win ly hf pf (hn4) (htn) (htp)) (cwV 0 hts gX7_end_X1_endTurn rfl rfl rfl (by decide +kernel) ⟨Nat.le_of_ble_eq_true rfl, Nat.le_of_ble_eq_true rfl⟩) ⟨wM_fb, va_recv hK hPc (ci := 0) (q0 := 0) rfl rfl, wM_pre hPc ⟨hK, hN⟩ hDc⟩ rfl rfl hl.1 rfl (lv_room (Nat.le_of_ble_eq_true rfl)) dX7_end_24 ⟨Nat.le_of_ble_eq_true rfl, Nat.le_of_ble_eq_true rfl⟩) hS (fun q _ h => hFc q h) hFc (fun x24 u t H1 locs ht hvm hx24 hB hz1 hk1 hS => ?_)
    obtain ⟨top2_x24, turn2_x24, te2_x24, idle2_x24, ov2_x24, hf2_x24⟩ := u
    obtain ⟨hP1, hD1⟩ := hB
    rw [ht] at hP1
    obtain ⟨hP, hD⟩ := va_join (wr := [(ox, .inr (5, [.ref wk, .ref so, .ref g, .ref ko, .ref tr, .int op7, .int 0]))]) (w1 := [(g, .inr (0, [.ref ha, .ref oa, .ref pa, .int (nI np), .int top2_x24, .long ly, .int turn2_x24, .int te2_x24, .int 0, .int idle2_x24, .int ov2_x24, .int win])), (ha, .inl (cJ, 4, .inr (.inl hf2_x24))), (pa, .inl (cI, 54, .inl pf))]) hP hD [1, 2, 3] [0] rfl rfl (by decide) (by decide) hk1 hFc hP1 hD1
    generalize H1 = H at hP hS ⊢
    have hP : va_P D vwCl [(ox, .inr (5, [.ref wk, .ref so, .ref g, .ref ko, .ref tr, .int op7, .int 0])), (g, .inr (0, [.ref ha, .ref oa, .ref pa, .int (nI np), .int top2_x24, .long ly, .int turn2_x24, .int te2_x24, .int 0, .int idle2_x24, .int ov2_x24, .int win])), (ha, .inl (cJ, 4, .inr (.inl hf2_x24))), (pa, .inl (cI, 54, .inl pf))] H := hP
    have hD : va_D A [(ox, .inr (5, [.ref wk, .ref so, .ref g, .ref ko, .ref tr, .int op7, .int 0])), (g, .inr (0, [.ref ha, .ref oa, .ref pa, .int (nI np), .int top2_x24, .long ly, .int turn2_x24, .int te2_x24, .int 0, .int idle2_x24, .int ov2_x24, .int win])), (ha, .inl (cJ, 4, .inr (.inl hf2_x24))), (pa, .inl (cI, 54, .inl pf))] := hD
    try dsimp only at hx24
    obtain ⟨hx24, hd_top2, hd_turn2, hd_te2, hd_idle2, hd_ov2, hd_hf2⟩ := hx24
    subst hd_top2
    subst hd_turn2
    subst hd_te2
    subst hd_idle2
    subst hd_ov2
    subst hd_hf2
    rw [← hQ]
    have hP9 := hP.sub (ws' := [(ox, .inr (5, [.ref wk, .ref so, .ref g, .ref ko, .ref tr, .int op7, .int 0])), (g, .inr (0, [.ref ha, .ref oa, .ref pa, .int (nI np), .int (nI (eT_top lay tp)), .long ly, .int (nI (if tn + 1 < np then tn + 1 else 0)), .int (te + 1), .int 0, .int (eT_idle lay idl (eT_card lay tp pf)), .int (if eT_idle lay idl (eT_card lay tp pf) < nI np then 0 else 1), .int win])), (ha, .inl (cJ, 4, .inr (.inl (vp_updL hf tn (hf tn ||| j_X1_bitOf (eT_card lay tp pf)))))), (pa, .inl (cI, 54, .inl pf))]) [0, 1, 2, 3] rfl
    have hD9 := hD.sub (ws' := [(ox, .inr (5, [.ref wk, .ref so, .ref g, .ref ko, .ref tr, .int op7, .int 0])), (g, .inr (0, [.ref ha, .ref oa, .ref pa, .int (nI np), .int (nI (eT_top lay tp)), .long ly, .int (nI (if tn + 1 < np then tn + 1 else 0)), .int (te + 1), .int 0, .int (eT_idle lay idl (eT_card lay tp pf)), .int (if eT_idle lay idl (eT_card lay tp pf) < nI np then 0 else 1), .int win])), (ha, .inl (cJ, 4, .inr (.inl (vp_updL hf tn (hf tn ||| j_X1_bitOf (eT_card lay tp pf)))))), (pa, .inl (cI, 54, .inl pf))]) [0, 1, 2, 3] (by decide) rfl
    exact W.iret (v := x24) hx hb hr (fun t ht hW => ⟨⟨x24, (0, (nI (eT_top lay tp)), (nI (if tn + 1 < np then tn + 1 else 0)), (te + 1), 0, (eT_idle lay idl (eT_card lay tp pf)), (if eT_idle lay idl (eT_card lay tp pf) < nI np then 0 else 1), (vp_updL hf tn (hf tn ||| j_X1_bitOf (eT_card lay tp pf)))), rfl, ⟨hb0.symm, fun z => absurd hb0 z, fun _ => ⟨hx24, rfl, rfl, rfl, rfl, rfl, rfl, rfl⟩⟩, (by show wB D A _ t; exact ⟨by rw [ht]; exact hP9, hD9⟩)⟩, hS.F ht⟩) hS.2.2 dX7_end_27
  · have hb0 : ¬ endW (igF np) ov = 0 := by rw [← bar_c]; exact fun z => c_6 (ex4.trans z)
    refine lv_aload_n hx hb dX7_end_9 rfl (lv_at hl 1 rfl) ?_
    refine lv_iload_n hx hb dX7_end_10 rfl (lv_at hl 0 rfl) ?_
    have hPc := hP.sub (ws' := [(ox, .inr (5, [.ref wk, .ref so, .ref g, .ref ko, .ref tr, .int op7, .int st7]))]) [0] rfl
    have hDc := hD.sub (ws' := [(ox, .inr (5, [.ref wk, .ref so, .ref g, .ref ko, .ref tr, .int op7, .int st7]))]) [0] (by decide) rfl
    have hFc := va_free (wc := [(ox, .inr (5, [.ref wk, .ref so, .ref g, .ref ko, .ref tr, .int op7, .int st7]))]) hD hS hA [0] rfl
    refine va_calli (va_runV (As := [.int x4]) (rest := []) ⟨hx, hb, hml, hown, hts⟩ (k_X7_refuse l D cI cJ cZ s.heap.size ox wk so ko tr op7 st7 g x4 ) (cwV 1 hts gX7_end_X7_refuse rfl rfl rfl (by decide +kernel) ⟨Nat.le_of_ble_eq_true rfl, Nat.le_of_ble_eq_true rfl⟩) ⟨wM_fb, va_recv hK hPc (ci := 5) (q0 := 0) rfl rfl, wM_pre hPc ⟨hK, hN⟩ hDc⟩ rfl rfl hl.1 rfl (lv_room (Nat.le_of_ble_eq_true rfl)) dX7_end_11 ⟨Nat.le_of_ble_eq_true rfl, Nat.le_of_ble_eq_true rfl⟩) hS (fun q _ h => hFc q h) hFc (fun x11 u t H1 locs ht hvm hx11 hB hz1 hk1 hS => ?_)
    obtain ⟨hP1, hD1⟩ := hB
    rw [ht] at hP1
    obtain ⟨hP, hD⟩ := va_join (wr := [(g, .inr (0, [.ref ha, .ref oa, .ref pa, .int (nI np), .int (nI tp), .long ly, .int (nI tn), .int te, .int lay, .int idl, .int ov, .int win])), (ha, .inl (cJ, 4, .inr (.inl hf))), (pa, .inl (cI, 54, .inl pf))]) (w1 := [(ox, .inr (5, [.ref wk, .ref so, .ref g, .ref ko, .ref tr, .int op7, .int x4]))]) hP hD [0] [1, 2, 3] rfl rfl (by decide) (by decide) hk1 hFc hP1 hD1
    generalize H1 = H at hP hS ⊢
    have hP : va_P D vwCl [(g, .inr (0, [.ref ha, .ref oa, .ref pa, .int (nI np), .int (nI tp), .long ly, .int (nI tn), .int te, .int lay, .int idl, .int ov, .int win])), (ha, .inl (cJ, 4, .inr (.inl hf))), (pa, .inl (cI, 54, .inl pf)), (ox, .inr (5, [.ref wk, .ref so, .ref g, .ref ko, .ref tr, .int op7, .int x4]))] H := hP
    have hD : va_D A [(g, .inr (0, [.ref ha, .ref oa, .ref pa, .int (nI np), .int (nI tp), .long ly, .int (nI tn), .int te, .int lay, .int idl, .int ov, .int win])), (ha, .inl (cJ, 4, .inr (.inl hf))), (pa, .inl (cI, 54, .inl pf)), (ox, .inr (5, [.ref wk, .ref so, .ref g, .ref ko, .ref tr, .int op7, .int x4]))] := hD
    try dsimp only at hx11
    rw [← hQ]
    have hP9 := hP.sub (ws' := [(ox, .inr (5, [.ref wk, .ref so, .ref g, .ref ko, .ref tr, .int op7, .int x4])), (g, .inr (0, [.ref ha, .ref oa, .ref pa, .int (nI np), .int (nI tp), .long ly, .int (nI tn), .int te, .int lay, .int idl, .int ov, .int win])), (ha, .inl (cJ, 4, .inr (.inl hf))), (pa, .inl (cI, 54, .inl pf))]) [3, 0, 1, 2] rfl
    have hD9 := hD.sub (ws' := [(ox, .inr (5, [.ref wk, .ref so, .ref g, .ref ko, .ref tr, .int op7, .int x4])), (g, .inr (0, [.ref ha, .ref oa, .ref pa, .int (nI np), .int (nI tp), .long ly, .int (nI tn), .int te, .int lay, .int idl, .int ov, .int win])), (ha, .inl (cJ, 4, .inr (.inl hf))), (pa, .inl (cI, 54, .inl pf))]) [3, 0, 1, 2] (by decide) rfl
    exact W.iret (v := x11) hx hb hr (fun t ht hW => ⟨⟨x11, (x4, nI tp, nI tn, te, lay, idl, ov, hf), rfl, ⟨ex4.trans bar_c, fun _ => ⟨hx11, rfl, rfl, rfl, rfl, rfl, rfl, rfl⟩, fun z => absurd z hb0⟩, (by show wB D A _ t; exact ⟨by rw [ht]; exact hP9, hD9⟩)⟩, hS.F ht⟩) hS.2.2 dX7_end_14
