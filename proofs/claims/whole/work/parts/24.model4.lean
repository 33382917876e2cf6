theorem beN_ig {m c g u o : Nat} (hg : g < 5) (hu : u ≤ 2) : igN (beN m c g u o) = g := by
  unfold igN beN
  omega
theorem bhN_good {m k p t : Nat} {b : Bool} (hm : m < 3840) (hg : igN m ≤ k % 4) (h : bhN m k p b = some t) : t < 3840 ∧ igN t ≤ (k + 1) % 4 := by
  have hc : k % 4 < 4 := Nat.mod_lt _ (by decide)
  have hgl := igN_lt m
  have ho := opN_lt (p := p) (rnN_lt m (k % 4))
  have key : ∀ u, u ≤ 2 → bgN m (k % 4) (if p = 1 then igN m + 1 else igN m) u (opN (rnN m (k % 4)) p) = some t → t < 3840 ∧ igN t ≤ (k + 1) % 4 := by
    intro u hu hb
    have hg5 : (if p = 1 then igN m + 1 else igN m) ≤ k % 4 + 1 := by split <;> omega
    generalize (if p = 1 then igN m + 1 else igN m) = g at hg5 hb
    unfold bgN at hb
    have hs := setR_lt (m / 15) (by omega) (k % 4) hc _ ho
    split at hb
    · split at hb
      · cases hb
      · split at hb
        · cases hb
        · cases hb
          refine ⟨(beN_lt hm hc ho (by omega) hu).2 rfl, ?_⟩
          rw [beN_ig (by omega) hu]; omega
    · rename_i h3
      cases hb
      refine ⟨?_, ?_⟩
      · unfold beN; omega
      · rw [beN_ig (by omega) hu]; omega
  unfold bhN at h
  split at h
  · cases h
  · split at h
    · exact key _ (by omega) h
    · split at h
      · cases h
      · split at h
        · exact key _ (by omega) h
        · cases h
/-- at card k the first place that leads on is taken -/
def GR (x : Int64) (w : Nat → Int64) (pf sf : Nat → Int32) (mk : Nat → Nat) (k : Nat) : Prop :=
  mk k < 3840 ∧ igN (mk k) ≤ k % 4 ∧ ∃ p, p < 4 ∧ bN (hsB x k) ≤ p ∧ pf k = nI p ∧ sf k = nI (bN (decide (0 < p) && !hsB x k)) ∧ bhN (mk k) k p (decide (0 < p) && !hsB x k) = some (mk (k + 1)) ∧ ¬ w (3840 * (k + 1) + mk (k + 1)) = 0 ∧ ∀ q, bN (hsB x k) ≤ q → q < p → trm x w k (mk k) q = 0
theorem GR_congr {x : Int64} {w : Nat → Int64} {pf sf p2 s2 : Nat → Int32} {mk m2 : Nat → Nat} {k : Nat} (h : GR x w pf sf mk k) (h1 : p2 k = pf k) (h2 : s2 k = sf k) (h3 : m2 k = mk k) (h4 : m2 (k + 1) = mk (k + 1)) : GR x w p2 s2 m2 k := by
  unfold GR at h ⊢
  rw [h1, h2, h3, h4]; exact h
theorem cs_zero {x : Int64} {w : Nat → Int64} {k m : Nat} (h : ∀ q, bN (hsB x k) ≤ q → q < 4 → trm x w k m q = 0) : ∀ q, q ≤ 4 → csF x w k m q = 0
  | 0, _ => rfl
  | q + 1, hq => by
    show (if _ then _ else _) = _
    split
    · rfl
    · rw [cs_zero h q (by omega), h q (by omega) (by omega)]; rfl
theorem bf0 (b : Bool) : (0 : Int32) = nI (bN (decide (0 < bN b) && !b)) := by cases b <;> rfl
theorem bjC' {y : Int32} {p : Nat} {b : Bool} (h2 : y = nI (bN b)) (c2 : y = 0) : (1 : Int32) = nI (bN (decide (0 < p + 1) && !b)) := by
  rw [itsF h2 c2, decide_eq_true (Nat.succ_pos p)]; rfl
theorem gr_next {x : Int64} {w : Nat → Int64} {pq sq p2 s2 : Nat → Int32} {mk : Nat → Nat} {k t pp : Nat} {x4 x6 v : Int32} (hk : k < 52) (h4 : x4 = nI k) (h6 : x6 = nI pp) (hp : pp < 4) (hpl : bN (hsB x k) ≤ pp) (hmk : mk k < 3840 ∧ igN (mk k) ≤ k % 4) (ht : bhN (mk k) k pp (decide (0 < pp) && !hsB x k) = some t) (hw : ¬ w (3840 * (k + 1) + t) = 0) (hbef : ∀ q, bN (hsB x k) ≤ q → q < pp → trm x w k (mk k) q = 0) (e1 : upd pq x4.toNatClampNeg x6 = p2) (e2 : upd sq x4.toNatClampNeg (vp_nar .boolean v) = s2) (hv : v = nI (bN (decide (0 < pp) && !hsB x k))) (hG : ∀ j, j < k → GR x w pq sq mk j) : ∀ j, j < k + 1 → GR x w p2 s2 (fun i => if i = k + 1 then t else mk i) j := by
  subst h4; subst h6
  rw [nI_clamp (by omega)] at e1 e2
  have hv2 : vp_nar .boolean v = v := nar01 (by rw [hv]; cases (decide (0 < pp) && !hsB x k) <;> simp [bN] <;> first | exact Or.inl rfl | exact Or.inr rfl)
  rw [hv2] at e2
  subst e1; subst e2
  intro j hj
  by_cases q : j = k
  · subst q
    have ej : (fun i => if i = j + 1 then t else mk i) j = mk j := if_neg (by omega)
    have es : (fun i => if i = j + 1 then t else mk i) (j + 1) = t := if_pos rfl
    generalize (fun i => if i = j + 1 then t else mk i) = m2 at ej es ⊢
    unfold GR
    rw [ej, es]
    exact ⟨hmk.1, hmk.2, pp, hp, hpl, pk_us, by rw [pk_us]; exact hv, ht, hw, hbef⟩
  · exact GR_congr (hG j (by omega)) (pk_un q) (pk_un q) (if_neg (by omega)) (if_neg (by omega))
set_option maxHeartbeats 4000000 in
set_option maxRecDepth 100000 in
theorem k_X8_keeps (l : Launch) (D : va_G) (cI cJ cZ : ClassId) (sz : Nat) (m8 wa pa8 sta mo hea tha hd8 od8 cd8 opa osa : Nat) (st8 ig io op8 pl8 py wn tu la ps dr : Int32) (tb : Int64) (wf : Nat → Int64) (pf8 sf8 : Nat → Int32) (set : Int64) (hset : isS set) : Met l yX8_keeps wsX8_keeps ({ frames := 3, cells := 0, slots := 0, locals := 79 } : Room) (va_Pc [.ref m8, .long set] (wM D cI cJ cZ sz [(m8, .inr (6, [.int st8, .ref wa, .ref pa8, .ref sta, .ref mo, .ref hea, .ref tha, .int ig, .int io, .int op8, .int pl8, .int py, .int wn, .int tu, .int la, .int ps, .ref hd8, .ref od8, .long tb, .ref cd8, .int dr, .ref opa, .ref osa])), (wa, .inl (cJ, 203520, .inr (.inl wf))), (pa8, .inl (cI, 52, .inl pf8)), (sta, .inl (cZ, 52, .inl sf8))])) (va_Qi (fun (r : Int32) (u : (Nat → Int64) × (Nat → Int32) × (Nat → Int32)) => match u with | (wf2, pf2, sf2) => (r = (if wf2 0 = 0 then 0 else 1) ∧ WaysEq set wf2 ∧ (wf2 0 = 0 → pf2 = pf8 ∧ sf2 = sf8) ∧ (¬ wf2 0 = 0 → ∃ mk : Nat → Nat, mk 0 = 0 ∧ ∀ k, k < 52 → GR set wf2 pf2 sf2 mk k))) (fun (u : (Nat → Int64) × (Nat → Int32) × (Nat → Int32)) t => match u with | (wf2, pf2, sf2) => wB D (va_A [(m8, .inr (6, [.int st8, .ref wa, .ref pa8, .ref sta, .ref mo, .ref hea, .ref tha, .int ig, .int io, .int op8, .int pl8, .int py, .int wn, .int tu, .int la, .int ps, .ref hd8, .ref od8, .long tb, .ref cd8, .int dr, .ref opa, .ref osa])), (wa, .inl (cJ, 203520, .inr (.inl wf))), (pa8, .inl (cI, 52, .inl pf8)), (sta, .inl (cZ, 52, .inl sf8))] sz) [(m8, .inr (6, [.int st8, .ref wa, .ref pa8, .ref sta, .ref mo, .ref hea, .ref tha, .int ig, .int io, .int op8, .int pl8, .int py, .int wn, .int tu, .int la, .int ps, .ref hd8, .ref od8, .long tb, .ref cd8, .int dr, .ref opa, .ref osa])), (wa, .inl (cJ, 203520, .inr (.inl wf2))), (pa8, .inl (cI, 52, .inl pf2)), (sta, .inl (cZ, 52, .inl sf2))] t) (va_A [(m8, .inr (6, [.int st8, .ref wa, .ref pa8, .ref sta, .ref mo, .ref hea, .ref tha, .int ig, .int io, .int op8, .int pl8, .int py, .int wn, .int tu, .int la, .int ps, .ref hd8, .ref od8, .long tb, .ref cd8, .int dr, .ref opa, .ref osa])), (wa, .inl (cJ, 203520, .inr (.inl wf))), (pa8, .inl (cI, 52, .inl pf8)), (sta, .inl (cZ, 52, .inl sf8))] sz)) 0 0 (va_A [(m8, .inr (6, [.int st8, .ref wa, .ref pa8, .ref sta, .ref mo, .ref hea, .ref tha, .int ig, .int io, .int op8, .int pl8, .int py, .int wn, .int tu, .int la, .int ps, .ref hd8, .ref od8, .long tb, .ref cd8, .int dr, .ref opa, .ref osa])), (wa, .inl (cJ, 203520, .inr (.inl wf))), (pa8, .inl (cI, 52, .inl pf8)), (sta, .inl (cZ, 52, .inl sf8))] sz) := by
  refine Met.ofW (cc := cX8_keeps) (maxL := 8) (ret := (some .boolean)) (by decide) rfl ?_
  intro p e s m args below meth c s₁ B hml hv
  obtain ⟨hargs, hsz, hP, ⟨hK, hN⟩, hD0⟩ := hv
  have hx := B.exec
  have hb := B.bytes
  have hr := B.returns
  have hlocks := B.notSynchronized
  have hts := atoms_spec (ws := wsX8_keeps) B.pre
  have hown : s.vm.findClass RX8 = some m.cls := findClass_of_methodNamed B.named
  have k82 := hts (.methodLink RX8 82 yX8_behind) (by decide +kernel)
  have k8 := hts (.fieldLink RX8 8 "RummyTableModel" "ways" "[J") (by decide +kernel)
  have iX8 : ∀ w ∈ wsX80, w ∈ wsX8_keeps := by decide +kernel
  have k14 := hts (.fieldLink RX8 14 "RummyTableModel" "places" "[I") (by decide +kernel)
  have k18 := hts (.fieldLink RX8 18 "RummyTableModel" "stands" "[Z") (by decide +kernel)
  have k55 := hts (.methodLink RX8 55 yX8_has) (by decide +kernel)
  have k93 := hts (.methodLink RX8 93 yX8_count) (by decide +kernel)
  subst hsz
  have hD := hD0.self (sz := s.heap.size)
  generalize hAe : va_A [(m8, .inr (6, [.int st8, .ref wa, .ref pa8, .ref sta, .ref mo, .ref hea, .ref tha, .int ig, .int io, .int op8, .int pl8, .int py, .int wn, .int tu, .int la, .int ps, .ref hd8, .ref od8, .long tb, .ref cd8, .int dr, .ref opa, .ref osa])), (wa, .inl (cJ, 203520, .inr (.inl wf))), (pa8, .inl (cI, 52, .inl pf8)), (sta, .inl (cZ, 52, .inl sf8))] s.heap.size = A at hD ⊢
  have hA : ∀ q : Nat, s.heap.size ≤ q → A q := fun q h => by rw [← hAe]; exact Or.inr h
  have hS : va_S A s.heap s.heap [] := va_S.rf
  rw [show entryFrame m args 8 = entryFrame m ([.ref m8, .long set] : List Value).toArray 8 from by rw [hargs]]
  have hl := lv_entry ([.ref m8, .long set]) (n := 8) (Nat.le_of_ble_eq_true rfl)
  rw [lg_entry_eq]
  generalize (lg_sl ([.ref m8, .long set]) ++ List.replicate (8 - (lg_sl ([.ref m8, .long set])).length) Slot.unset).toArray = ls at hl ⊢
  have hl : lv_has ls 8 [(0, .ref m8), (1, .long set)] := hl
  refine wQ (fun Q hQ => ?_)
  have lab23 : ∀ fuel23 : Nat, ∀ (k1 : Nat) (mk : Nat → Nat) (x3 : Int32) (x4 : Int32) (wq : Nat → Int64) (pq : Nat → Int32) (sq : Nat → Int32), (hWq : WaysEq set wq) → (h4 : x4 = nI k1) → (hk1 : k1 ≤ 52) → (h3 : x3 = nI (mk k1)) → (hm0 : mk 0 = 0) → (hmk : mk k1 < 3840 ∧ igN (mk k1) ≤ k1 % 4) → (hne : ¬ wq (3840 * k1 + mk k1) = 0) → (hne0 : ¬ wq 0 = 0) → (hG : ∀ j, j < k1 → GR set wq pq sq mk j) → (hfu23 : 52 - k1 < fuel23) → ∀ (H : Heap) (locs : List Loc), va_P D vwCl [(m8, .inr (6, [.int st8, .ref wa, .ref pa8, .ref sta, .ref mo, .ref hea, .ref tha, .int ig, .int io, .int op8, .int pl8, .int py, .int wn, .int tu, .int la, .int ps, .ref hd8, .ref od8, .long tb, .ref cd8, .int dr, .ref opa, .ref osa])), (wa, .inl (cJ, 203520, .inr (.inl wq))), (pa8, .inl (cI, 52, .inl pq)), (sta, .inl (cZ, 52, .inl sq))] H → va_D A [(m8, .inr (6, [.int st8, .ref wa, .ref pa8, .ref sta, .ref mo, .ref hea, .ref tha, .int ig, .int io, .int op8, .int pl8, .int py, .int wn, .int tu, .int la, .int ps, .ref hd8, .ref od8, .long tb, .ref cd8, .int dr, .ref opa, .ref osa])), (wa, .inl (cJ, 203520, .inr (.inl wq))), (pa8, .inl (cI, 52, .inl pq)), (sta, .inl (cZ, 52, .inl sq))] → va_S A s.heap H locs → ∀ ls : Array Slot, lv_has ls 8 [(0, .ref m8), (1, .long set), (3, .int x3), (4, .int x4)] → W p l e (headSpec wsX8_keeps ({ frames := 3, cells := 0, slots := 0, locals := 79 } : Room)).room s m args below meth c H locs 0 0 Q (F0 m 23 ls []) := by
    intro fuel23
    induction fuel23 with
    | zero =>
      intro k1 mk x3 x4 wq pq sq hWq h4 hk1 h3 hm0 hmk hne hne0 hG hfu23
      exact absurd hfu23 (Nat.not_lt_zero _)
    | succ fuel23 ih23 =>
      intro k1 mk x3 x4 wq pq sq hWq h4 hk1 h3 hm0 hmk hne hne0 hG hfu23 H locs hP hD hS ls hl
      have lab75 : ∀ fuel75 : Nat, ∀ (pp : Nat) (x5 : Int32) (x6 : Int32) (x7 : Int32), (hkl : k1 < 52) → (h5 : x5 = nI (bN (hsB set k1))) → (h6 : x6 = nI pp) → (hpp : pp < 4) → (hpl : bN (hsB set k1) ≤ pp) → (h7 : x7 = oI (bhN (mk k1) k1 pp (decide (0 < pp) && !hsB set k1))) → (hbef : ∀ q, bN (hsB set k1) ≤ q → q < pp → trm set wq k1 (mk k1) q = 0) → (hfu75 : 4 - pp < fuel75) → ∀ (H : Heap) (locs : List Loc), va_P D vwCl [(m8, .inr (6, [.int st8, .ref wa, .ref pa8, .ref sta, .ref mo, .ref hea, .ref tha, .int ig, .int io, .int op8, .int pl8, .int py, .int wn, .int tu, .int la, .int ps, .ref hd8, .ref od8, .long tb, .ref cd8, .int dr, .ref opa, .ref osa])), (wa, .inl (cJ, 203520, .inr (.inl wq))), (pa8, .inl (cI, 52, .inl pq)), (sta, .inl (cZ, 52, .inl sq))] H → va_D A [(m8, .inr (6, [.int st8, .ref wa, .ref pa8, .ref sta, .ref mo, .ref hea, .ref tha, .int ig, .int io, .int op8, .int pl8, .int py, .int wn, .int tu, .int la, .int ps, .ref hd8, .ref od8, .long tb, .ref cd8, .int dr, .ref opa, .ref osa])), (wa, .inl (cJ, 203520, .inr (.inl wq))), (pa8, .inl (cI, 52, .inl pq)), (sta, .inl (cZ, 52, .inl sq))] → va_S A s.heap H locs → ∀ ls : Array Slot, lv_has ls 8 [(0, .ref m8), (1, .long set), (3, .int x3), (4, .int x4), (5, .int x5), (6, .int x6), (7, .int x7)] → W p l e (headSpec wsX8_keeps ({ frames := 3, cells := 0, slots := 0, locals := 79 } : Room)).room s m args below meth c H locs 0 0 Q (F0 m 75 ls []) := by
        intro fuel75
        induction fuel75 with
        | zero =>
          intro pp x5 x6 x7 hkl h5 h6 hpp hpl h7 hbef hfu75
          exact absurd hfu75 (Nat.not_lt_zero _)
        | succ fuel75 ih75 =>
          intro pp x5 x6 x7 hkl h5 h6 hpp hpl h7 hbef hfu75 H locs hP hD hS ls hl
          refine lv_iload hx hb dX8_keeps_75 (lv_at hl 6 rfl) ?_
          refine lv_iconst (v := (-1)) hx hb dX8_keeps_77 (by decide) ?_
          refine lv_icmp_eq (tgt := 102) hx hb dX8_keeps_78 (by decide) (fun c_78 => ?_) (fun c_78 => ?_)
          · have htz : trm set wq k1 (mk k1) pp = 0 := trm_no ((bh_split hmk.1 h7).1 c_78)
            have hbef2 : ∀ q, bN (hsB set k1) ≤ q → q < pp + 1 → trm set wq k1 (mk k1) q = 0 := fun q h1 h2 => by rcases Nat.lt_succ_iff_lt_or_eq.mp h2 with z | z; exact hbef q h1 z; subst z; exact htz
            have hp3 : pp + 1 < 4 := by rcases Nat.lt_or_ge (pp + 1) 4 with z | z; exact z; exact absurd ((hWq.2 k1 hkl (mk k1) hmk.1).trans (cs_zero (fun q h1 h2 => hbef2 q h1 (by omega)) 4 (by omega))) hne
            obtain ⟨x102, ex102⟩ : ∃ y : Int32, y = x6 + 1 := ⟨_, rfl⟩
            refine lv_iinc (v := x102) (lv' := [(6, .int x102), (0, .ref m8), (1, .long set), (3, .int x3), (4, .int x4), (5, .int x5), (7, .int x7)]) hx hb dX8_keeps_102 hl (k := 5) rfl (by rw [ex102]; rfl) (by decide) rfl (fun ls hl => ?_)
            refine lv_iload_n hx hb dX8_keeps_105 rfl (lv_at hl 3 rfl) ?_
            refine lv_iload hx hb dX8_keeps_106 (lv_at hl 4 rfl) ?_
            refine lv_iload hx hb dX8_keeps_108 (lv_at hl 0 rfl) ?_
            refine lv_iload hx hb dX8_keeps_110 (lv_at hl 5 rfl) ?_
            refine lv_if_ne (tgt := 119) hx hb dX8_keeps_112 (by decide) (fun c_112 => ?_) (fun c_112 => ?_)
            · refine lv_iconst (v := 0) hx hb dX8_keeps_119 (by decide) ?_
              refine vp_callSi (W.runS (As := [.int x3, .int x4, .int x102, .int 0]) (rest := []) ⟨hx, hb, hml, hown, hts⟩ (k_X8_behind l x3 x4 x102 0 ) (va_cwS 4 hts gX8_keeps_X8_behind rfl rfl rfl (by decide +kernel) ⟨Nat.le_of_ble_eq_true rfl, Nat.le_of_ble_eq_true rfl⟩) ⟨pS_fb, pS_pre⟩ rfl rfl hl.1 rfl (lv_room (Nat.le_of_ble_eq_true rfl)) dX8_keeps_120 ⟨Nat.le_of_ble_eq_true rfl, Nat.le_of_ble_eq_true rfl⟩) (fun x120 hx120 => ?_)
              subst hx120
              refine lv_topi (fun x123 ex123 => ?_)
              refine lv_istore (lv' := [(7, .int x123), (6, .int x102), (0, .ref m8), (1, .long set), (3, .int x3), (4, .int x4), (5, .int x5)]) hx hb dX8_keeps_123 hl (by decide) rfl (fun ls hl => ?_)
              refine lv_goto (tgt := 75) hx hb dX8_keeps_125 (by decide) ?_
              exact ih75 (pp + 1) x5 x102 x123 (hkl) (h5) (hp_s ex102 h6) (hp3) (by omega) (by rw [ex123, h3, h4, hp_s ex102 h6]; exact jb (by first | exact bjB h5 c_112 | exact bjC' h5 c_112) hmk.1 hkl hp3) (hbef2) (by omega) _ _ hP hD hS ls (lv_sub hl [2, 3, 4, 5, 6, 1, 0] rfl)
            · refine lv_iconst (v := 1) hx hb dX8_keeps_115 (by decide) ?_
              refine lv_goto (tgt := 120) hx hb dX8_keeps_116 (by decide) ?_
              refine vp_callSi (W.runS (As := [.int x3, .int x4, .int x102, .int 1]) (rest := []) ⟨hx, hb, hml, hown, hts⟩ (k_X8_behind l x3 x4 x102 1 ) (va_cwS 4 hts gX8_keeps_X8_behind rfl rfl rfl (by decide +kernel) ⟨Nat.le_of_ble_eq_true rfl, Nat.le_of_ble_eq_true rfl⟩) ⟨pS_fb, pS_pre⟩ rfl rfl hl.1 rfl (lv_room (Nat.le_of_ble_eq_true rfl)) dX8_keeps_120 ⟨Nat.le_of_ble_eq_true rfl, Nat.le_of_ble_eq_true rfl⟩) (fun x120 hx120 => ?_)
              subst hx120
              refine lv_topi (fun x123 ex123 => ?_)
              refine lv_istore (lv' := [(7, .int x123), (6, .int x102), (0, .ref m8), (1, .long set), (3, .int x3), (4, .int x4), (5, .int x5)]) hx hb dX8_keeps_123 hl (by decide) rfl (fun ls hl => ?_)
              refine lv_goto (tgt := 75) hx hb dX8_keeps_125 (by decide) ?_
              exact ih75 (pp + 1) x5 x102 x123 (hkl) (h5) (hp_s ex102 h6) (hp3) (by omega) (by rw [ex123, h3, h4, hp_s ex102 h6]; exact jb (by first | exact bjB h5 c_112 | exact bjC' h5 c_112) hmk.1 hkl hp3) (hbef2) (by omega) _ _ hP hD hS ls (lv_sub hl [2, 3, 4, 5, 6, 1, 0] rfl)
          · obtain ⟨t, htt, htx⟩ := (bh_split hmk.1 h7).2 c_78
            have hix : 3840 * (x4 + 1) + x7 = nI (3840 * (k1 + 1) + t) := by rw [h4, htx, nI_1, show (3840 : Int32) = nI 3840 from rfl, pk_mul, nI_add]
            have hil := bhN_idx hmk.1 hkl htt
            have hcl : (nI (3840 * (k1 + 1) + t)).toNatClampNeg = 3840 * (k1 + 1) + t := nI_clamp (by omega)
            refine lv_aload_n hx hb dX8_keeps_81 rfl (lv_at hl 0 rfl) ?_
            refine va_get (D := D) (ci := 6) (v := .ref wa) (C := RX8) (T := TX8) (N := 23) hx hb hts iX8 hown hK hP 0 rfl rfl 1 (by decide) k8 (fun _ h9 => h9) rfl dX8_keeps_82 ?_
            refine lv_sipush (v := 3840) hx hb dX8_keeps_85 (by decide) ?_
            refine lv_iload hx hb dX8_keeps_88 (lv_at hl 3 rfl) ?_
            refine lv_iconst (v := 1) hx hb dX8_keeps_90 (by decide) ?_
            refine lv_iadd hx hb dX8_keeps_91 ?_
            refine lv_imul hx hb dX8_keeps_92 ?_
            refine lv_iload hx hb dX8_keeps_93 (lv_at hl 6 rfl) ?_
            refine lv_iadd hx hb dX8_keeps_95 ?_
            refine va_lald hx hb hK hP 1 1 rfl rfl (by rw [hix]; exact vp_in_nI hil (by decide)) dX8_keeps_96 ?_
            refine lv_lconst (v := 0) hx hb dX8_keeps_97 (by decide) ?_
            refine W.lcmp hx hb dX8_keeps_98 ?_
            refine lv_if_ne (tgt := 128) hx hb dX8_keeps_99 (by decide) (fun c_99 => ?_) (fun c_99 => ?_)
            · have hwt : ¬ wq (3840 * (k1 + 1) + t) = 0 := fun z => c_99 (by rw [hix, hcl]; exact cmp_eq.mpr z)
              have hin4 : vp_in x4 52 := by rw [h4]; exact vp_in_nI hkl (by decide)
              refine lv_aload_n hx hb dX8_keeps_128 rfl (lv_at hl 0 rfl) ?_
              refine va_get (D := D) (ci := 6) (v := .ref pa8) (C := RX8) (T := TX8) (N := 23) hx hb hts iX8 hown hK hP 0 rfl rfl 2 (by decide) k14 (fun _ h9 => h9) rfl dX8_keeps_129 ?_
              refine lv_iload hx hb dX8_keeps_132 (lv_at hl 3 rfl) ?_
              refine lv_iload hx hb dX8_keeps_134 (lv_at hl 5 rfl) ?_
              refine va_iast hx hb hK hP hD hS 2 0 rfl rfl (hin4) dX8_keeps_136 (fun H locs hP hD hS => ?_)
              have hP : va_P D vwCl [(m8, .inr (6, [.int st8, .ref wa, .ref pa8, .ref sta, .ref mo, .ref hea, .ref tha, .int ig, .int io, .int op8, .int pl8, .int py, .int wn, .int tu, .int la, .int ps, .ref hd8, .ref od8, .long tb, .ref cd8, .int dr, .ref opa, .ref osa])), (wa, .inl (cJ, 203520, .inr (.inl wq))), (pa8, .inl (cI, 52, .inl (upd pq x4.toNatClampNeg x6))), (sta, .inl (cZ, 52, .inl sq))] H := hP
              have hD : va_D A [(m8, .inr (6, [.int st8, .ref wa, .ref pa8, .ref sta, .ref mo, .ref hea, .ref tha, .int ig, .int io, .int op8, .int pl8, .int py, .int wn, .int tu, .int la, .int ps, .ref hd8, .ref od8, .long tb, .ref cd8, .int dr, .ref opa, .ref osa])), (wa, .inl (cJ, 203520, .inr (.inl wq))), (pa8, .inl (cI, 52, .inl (upd pq x4.toNatClampNeg x6))), (sta, .inl (cZ, 52, .inl sq))] := hD
              generalize ex136 : upd pq x4.toNatClampNeg x6 = x136 at hP hD
              refine lv_aload_n hx hb dX8_keeps_137 rfl (lv_at hl 0 rfl) ?_
              refine va_get (D := D) (ci := 6) (v := .ref sta) (C := RX8) (T := TX8) (N := 23) hx hb hts iX8 hown hK hP 0 rfl rfl 3 (by decide) k18 (fun _ h9 => h9) rfl dX8_keeps_138 ?_
              refine lv_iload hx hb dX8_keeps_141 (lv_at hl 3 rfl) ?_
              refine lv_iload hx hb dX8_keeps_143 (lv_at hl 5 rfl) ?_
              refine lv_if_le (tgt := 157) hx hb dX8_keeps_145 (by decide) (fun c_145 => ?_) (fun c_145 => ?_)
              · refine lv_iconst (v := 0) hx hb dX8_keeps_157 (by decide) ?_
                refine va_zast hx hb hK hP hD hS 3 2 rfl rfl (hin4) dX8_keeps_158 (fun H locs hP hD hS => ?_)
                have hP : va_P D vwCl [(m8, .inr (6, [.int st8, .ref wa, .ref pa8, .ref sta, .ref mo, .ref hea, .ref tha, .int ig, .int io, .int op8, .int pl8, .int py, .int wn, .int tu, .int la, .int ps, .ref hd8, .ref od8, .long tb, .ref cd8, .int dr, .ref opa, .ref osa])), (wa, .inl (cJ, 203520, .inr (.inl wq))), (pa8, .inl (cI, 52, .inl x136)), (sta, .inl (cZ, 52, .inl (upd sq x4.toNatClampNeg (vp_nar .boolean 0))))] H := hP
                have hD : va_D A [(m8, .inr (6, [.int st8, .ref wa, .ref pa8, .ref sta, .ref mo, .ref hea, .ref tha, .int ig, .int io, .int op8, .int pl8, .int py, .int wn, .int tu, .int la, .int ps, .ref hd8, .ref od8, .long tb, .ref cd8, .int dr, .ref opa, .ref osa])), (wa, .inl (cJ, 203520, .inr (.inl wq))), (pa8, .inl (cI, 52, .inl x136)), (sta, .inl (cZ, 52, .inl (upd sq x4.toNatClampNeg (vp_nar .boolean 0))))] := hD
                generalize ex158 : upd sq x4.toNatClampNeg (vp_nar .boolean 0) = x158 at hP hD
                refine lv_iload hx hb dX8_keeps_159 (lv_at hl 6 rfl) ?_
                refine lv_istore_n (lv' := [(3, .int x7), (0, .ref m8), (1, .long set), (4, .int x4), (5, .int x5), (6, .int x6), (7, .int x7)]) hx hb dX8_keeps_161 rfl hl (by decide) rfl (fun ls hl => ?_)
                obtain ⟨x162, ex162⟩ : ∃ y : Int32, y = x4 + 1 := ⟨_, rfl⟩
                refine lv_iinc (v := x162) (lv' := [(4, .int x162), (3, .int x7), (0, .ref m8), (1, .long set), (5, .int x5), (6, .int x6), (7, .int x7)]) hx hb dX8_keeps_162 hl (k := 3) rfl (by rw [ex162]; rfl) (by decide) rfl (fun ls hl => ?_)
                refine lv_goto (tgt := 23) hx hb dX8_keeps_165 (by decide) ?_
                exact ih23 (k1 + 1) (fun i => if i = k1 + 1 then t else mk i) x7 x162 wq x136 x158 (hWq) (hp_s ex162 h4) (by omega) (by rw [if_pos rfl]; exact htx) (by rw [if_neg (by omega)]; exact hm0) (by rw [if_pos rfl]; exact bhN_good hmk.1 hmk.2 htt) (by rw [if_pos rfl]; exact hwt) (hne0) (gr_next hkl h4 h6 hpp hpl hmk htt hwt hbef ex136 ex158 (by first | exact bjA h6 (by omega) c_145 _ | exact bjB h5 c_150 | exact bjC h6 (by omega) c_145 h5 c_150) hG) (by omega) _ _ hP hD hS ls (lv_sub hl [2, 3, 1, 0] rfl)
              · refine lv_iload hx hb dX8_keeps_148 (lv_at hl 4 rfl) ?_
                refine lv_if_ne (tgt := 157) hx hb dX8_keeps_150 (by decide) (fun c_150 => ?_) (fun c_150 => ?_)
                · refine lv_iconst (v := 0) hx hb dX8_keeps_157 (by decide) ?_
                  refine va_zast hx hb hK hP hD hS 3 2 rfl rfl (hin4) dX8_keeps_158 (fun H locs hP hD hS => ?_)
                  have hP : va_P D vwCl [(m8, .inr (6, [.int st8, .ref wa, .ref pa8, .ref sta, .ref mo, .ref hea, .ref tha, .int ig, .int io, .int op8, .int pl8, .int py, .int wn, .int tu, .int la, .int ps, .ref hd8, .ref od8, .long tb, .ref cd8, .int dr, .ref opa, .ref osa])), (wa, .inl (cJ, 203520, .inr (.inl wq))), (pa8, .inl (cI, 52, .inl x136)), (sta, .inl (cZ, 52, .inl (upd sq x4.toNatClampNeg (vp_nar .boolean 0))))] H := hP
                  have hD : va_D A [(m8, .inr (6, [.int st8, .ref wa, .ref pa8, .ref sta, .ref mo, .ref hea, .ref tha, .int ig, .int io, .int op8, .int pl8, .int py, .int wn, .int tu, .int la, .int ps, .ref hd8, .ref od8, .long tb, .ref cd8, .int dr, .ref opa, .ref osa])), (wa, .inl (cJ, 203520, .inr (.inl wq))), (pa8, .inl (cI, 52, .inl x136)), (sta, .inl (cZ, 52, .inl (upd sq x4.toNatClampNeg (vp_nar .boolean 0))))] := hD
                  generalize ex158 : upd sq x4.toNatClampNeg (vp_nar .boolean 0) = x158 at hP hD
                  refine lv_iload hx hb dX8_keeps_159 (lv_at hl 6 rfl) ?_
                  refine lv_istore_n (lv' := [(3, .int x7), (0, .ref m8), (1, .long set), (4, .int x4), (5, .int x5), (6, .int x6), (7, .int x7)]) hx hb dX8_keeps_161 rfl hl (by decide) rfl (fun ls hl => ?_)
                  obtain ⟨x162, ex162⟩ : ∃ y : Int32, y = x4 + 1 := ⟨_, rfl⟩
                  refine lv_iinc (v := x162) (lv' := [(4, .int x162), (3, .int x7), (0, .ref m8), (1, .long set), (5, .int x5), (6, .int x6), (7, .int x7)]) hx hb dX8_keeps_162 hl (k := 3) rfl (by rw [ex162]; rfl) (by decide) rfl (fun ls hl => ?_)
                  refine lv_goto (tgt := 23) hx hb dX8_keeps_165 (by decide) ?_
                  exact ih23 (k1 + 1) (fun i => if i = k1 + 1 then t else mk i) x7 x162 wq x136 x158 (hWq) (hp_s ex162 h4) (by omega) (by rw [if_pos rfl]; exact htx) (by rw [if_neg (by omega)]; exact hm0) (by rw [if_pos rfl]; exact bhN_good hmk.1 hmk.2 htt) (by rw [if_pos rfl]; exact hwt) (hne0) (gr_next hkl h4 h6 hpp hpl hmk htt hwt hbef ex136 ex158 (by first | exact bjA h6 (by omega) c_145 _ | exact bjB h5 c_150 | exact bjC h6 (by omega) c_145 h5 c_150) hG) (by omega) _ _ hP hD hS ls (lv_sub hl [2, 3, 1, 0] rfl)
                · refine lv_iconst (v := 1) hx hb dX8_keeps_153 (by decide) ?_
                  refine lv_goto (tgt := 158) hx hb dX8_keeps_154 (by decide) ?_
                  refine va_zast hx hb hK hP hD hS 3 2 rfl rfl (hin4) dX8_keeps_158 (fun H locs hP hD hS => ?_)
                  have hP : va_P D vwCl [(m8, .inr (6, [.int st8, .ref wa, .ref pa8, .ref sta, .ref mo, .ref hea, .ref tha, .int ig, .int io, .int op8, .int pl8, .int py, .int wn, .int tu, .int la, .int ps, .ref hd8, .ref od8, .long tb, .ref cd8, .int dr, .ref opa, .ref osa])), (wa, .inl (cJ, 203520, .inr (.inl wq))), (pa8, .inl (cI, 52, .inl x136)), (sta, .inl (cZ, 52, .inl (upd sq x4.toNatClampNeg (vp_nar .boolean 1))))] H := hP
                  have hD : va_D A [(m8, .inr (6, [.int st8, .ref wa, .ref pa8, .ref sta, .ref mo, .ref hea, .ref tha, .int ig, .int io, .int op8, .int pl8, .int py, .int wn, .int tu, .int la, .int ps, .ref hd8, .ref od8, .long tb, .ref cd8, .int dr, .ref opa, .ref osa])), (wa, .inl (cJ, 203520, .inr (.inl wq))), (pa8, .inl (cI, 52, .inl x136)), (sta, .inl (cZ, 52, .inl (upd sq x4.toNatClampNeg (vp_nar .boolean 1))))] := hD
                  generalize ex158 : upd sq x4.toNatClampNeg (vp_nar .boolean 1) = x158 at hP hD
                  refine lv_iload hx hb dX8_keeps_159 (lv_at hl 6 rfl) ?_
                  refine lv_istore_n (lv' := [(3, .int x7), (0, .ref m8), (1, .long set), (4, .int x4), (5, .int x5), (6, .int x6), (7, .int x7)]) hx hb dX8_keeps_161 rfl hl (by decide) rfl (fun ls hl => ?_)
                  obtain ⟨x162, ex162⟩ : ∃ y : Int32, y = x4 + 1 := ⟨_, rfl⟩
                  refine lv_iinc (v := x162) (lv' := [(4, .int x162), (3, .int x7), (0, .ref m8), (1, .long set), (5, .int x5), (6, .int x6), (7, .int x7)]) hx hb dX8_keeps_162 hl (k := 3) rfl (by rw [ex162]; rfl) (by decide) rfl (fun ls hl => ?_)
                  refine lv_goto (tgt := 23) hx hb dX8_keeps_165 (by decide) ?_
                  exact ih23 (k1 + 1) (fun i => if i = k1 + 1 then t else mk i) x7 x162 wq x136 x158 (hWq) (hp_s ex162 h4) (by omega) (by rw [if_pos rfl]; exact htx) (by rw [if_neg (by omega)]; exact hm0) (by rw [if_pos rfl]; exact bhN_good hmk.1 hmk.2 htt) (by rw [if_pos rfl]; exact hwt) (hne0) (gr_next hkl h4 h6 hpp hpl hmk htt hwt hbef ex136 ex158 (by first | exact bjA h6 (by omega) c_145 _ | exact bjB h5 c_150 | exact bjC h6 (by omega) c_145 h5 c_150) hG) (by omega) _ _ hP hD hS ls (lv_sub hl [2, 3, 1, 0] rfl)
            · have htz : trm set wq k1 (mk k1) pp = 0 := by rw [trm_some htt]; rw [hix, hcl] at c_99; exact cmp_eq.mp c_99
              have hbef2 : ∀ q, bN (hsB set k1) ≤ q → q < pp + 1 → trm set wq k1 (mk k1) q = 0 := fun q h1 h2 => by rcases Nat.lt_succ_iff_lt_or_eq.mp h2 with z | z; exact hbef q h1 z; subst z; exact htz
              have hp3 : pp + 1 < 4 := by rcases Nat.lt_or_ge (pp + 1) 4 with z | z; exact z; exact absurd ((hWq.2 k1 hkl (mk k1) hmk.1).trans (cs_zero (fun q h1 h2 => hbef2 q h1 (by omega)) 4 (by omega))) hne
              obtain ⟨x102, ex102⟩ : ∃ y : Int32, y = x6 + 1 := ⟨_, rfl⟩
              refine lv_iinc (v := x102) (lv' := [(6, .int x102), (0, .ref m8), (1, .long set), (3, .int x3), (4, .int x4), (5, .int x5), (7, .int x7)]) hx hb dX8_keeps_102 hl (k := 5) rfl (by rw [ex102]; rfl) (by decide) rfl (fun ls hl => ?_)
              refine lv_iload_n hx hb dX8_keeps_105 rfl (lv_at hl 3 rfl) ?_
              refine lv_iload hx hb dX8_keeps_106 (lv_at hl 4 rfl) ?_
              refine lv_iload hx hb dX8_keeps_108 (lv_at hl 0 rfl) ?_
              refine lv_iload hx hb dX8_keeps_110 (lv_at hl 5 rfl) ?_
              refine lv_if_ne (tgt := 119) hx hb dX8_keeps_112 (by decide) (fun c_112 => ?_) (fun c_112 => ?_)
              · refine lv_iconst (v := 0) hx hb dX8_keeps_119 (by decide) ?_
                refine vp_callSi (W.runS (As := [.int x3, .int x4, .int x102, .int 0]) (rest := []) ⟨hx, hb, hml, hown, hts⟩ (k_X8_behind l x3 x4 x102 0 ) (va_cwS 4 hts gX8_keeps_X8_behind rfl rfl rfl (by decide +kernel) ⟨Nat.le_of_ble_eq_true rfl, Nat.le_of_ble_eq_true rfl⟩) ⟨pS_fb, pS_pre⟩ rfl rfl hl.1 rfl (lv_room (Nat.le_of_ble_eq_true rfl)) dX8_keeps_120 ⟨Nat.le_of_ble_eq_true rfl, Nat.le_of_ble_eq_true rfl⟩) (fun x120 hx120 => ?_)
                subst hx120
                refine lv_topi (fun x123 ex123 => ?_)
                refine lv_istore (lv' := [(7, .int x123), (6, .int x102), (0, .ref m8), (1, .long set), (3, .int x3), (4, .int x4), (5, .int x5)]) hx hb dX8_keeps_123 hl (by decide) rfl (fun ls hl => ?_)
                refine lv_goto (tgt := 75) hx hb dX8_keeps_125 (by decide) ?_
                exact ih75 (pp + 1) x5 x102 x123 (hkl) (h5) (hp_s ex102 h6) (hp3) (by omega) (by rw [ex123, h3, h4, hp_s ex102 h6]; exact jb (by first | exact bjB h5 c_112 | exact bjC' h5 c_112) hmk.1 hkl hp3) (hbef2) (by omega) _ _ hP hD hS ls (lv_sub hl [2, 3, 4, 5, 6, 1, 0] rfl)
              · refine lv_iconst (v := 1) hx hb dX8_keeps_115 (by decide) ?_
                refine lv_goto (tgt := 120) hx hb dX8_keeps_116 (by decide) ?_
                refine vp_callSi (W.runS (As := [.int x3, .int x4, .int x102, .int 1]) (rest := []) ⟨hx, hb, hml, hown, hts⟩ (k_X8_behind l x3 x4 x102 1 ) (va_cwS 4 hts gX8_keeps_X8_behind rfl rfl rfl (by decide +kernel) ⟨Nat.le_of_ble_eq_true rfl, Nat.le_of_ble_eq_true rfl⟩) ⟨pS_fb, pS_pre⟩ rfl rfl hl.1 rfl (lv_room (Nat.le_of_ble_eq_true rfl)) dX8_keeps_120 ⟨Nat.le_of_ble_eq_true rfl, Nat.le_of_ble_eq_true rfl⟩) (fun x120 hx120 => ?_)
                subst hx120
                refine lv_topi (fun x123 ex123 => ?_)
                refine lv_istore (lv' := [(7, .int x123), (6, .int x102), (0, .ref m8), (1, .long set), (3, .int x3), (4, .int x4), (5, .int x5)]) hx hb dX8_keeps_123 hl (by decide) rfl (fun ls hl => ?_)
                refine lv_goto (tgt := 75) hx hb dX8_keeps_125 (by decide) ?_
                exact ih75 (pp + 1) x5 x102 x123 (hkl) (h5) (hp_s ex102 h6) (hp3) (by omega) (by rw [ex123, h3, h4, hp_s ex102 h6]; exact jb (by first | exact bjB h5 c_112 | exact bjC' h5 c_112) hmk.1 hkl hp3) (hbef2) (by omega) _ _ hP hD hS ls (lv_sub hl [2, 3, 4, 5, 6, 1, 0] rfl)
      have lab50 : ∀  (x5 : Int32) (x6 : Int32), (hkl : k1 < 52) → (h5 : x5 = nI (bN (hsB set k1))) → (h6 : x6 = nI (bN (hsB set k1))) → ∀ (H : Heap) (locs : List Loc), va_P D vwCl [(m8, .inr (6, [.int st8, .ref wa, .ref pa8, .ref sta, .ref mo, .ref hea, .ref tha, .int ig, .int io, .int op8, .int pl8, .int py, .int wn, .int tu, .int la, .int ps, .ref hd8, .ref od8, .long tb, .ref cd8, .int dr, .ref opa, .ref osa])), (wa, .inl (cJ, 203520, .inr (.inl wq))), (pa8, .inl (cI, 52, .inl pq)), (sta, .inl (cZ, 52, .inl sq))] H → va_D A [(m8, .inr (6, [.int st8, .ref wa, .ref pa8, .ref sta, .ref mo, .ref hea, .ref tha, .int ig, .int io, .int op8, .int pl8, .int py, .int wn, .int tu, .int la, .int ps, .ref hd8, .ref od8, .long tb, .ref cd8, .int dr, .ref opa, .ref osa])), (wa, .inl (cJ, 203520, .inr (.inl wq))), (pa8, .inl (cI, 52, .inl pq)), (sta, .inl (cZ, 52, .inl sq))] → va_S A s.heap H locs → ∀ ls : Array Slot, lv_has ls 8 [(0, .ref m8), (1, .long set), (3, .int x3), (4, .int x4), (5, .int x5), (6, .int x6)] → W p l e (headSpec wsX8_keeps ({ frames := 3, cells := 0, slots := 0, locals := 79 } : Room)).room s m args below meth c H locs 0 0 Q (F0 m 50 ls []) := by
        intro x5 x6 hkl h5 h6 H locs hP hD hS ls hl
        refine lv_iload_n hx hb dX8_keeps_50 rfl (lv_at hl 2 rfl) ?_
        refine lv_iload hx hb dX8_keeps_51 (lv_at hl 3 rfl) ?_
        refine lv_iload hx hb dX8_keeps_53 (lv_at hl 5 rfl) ?_
        refine lv_iload hx hb dX8_keeps_55 (lv_at hl 5 rfl) ?_
        refine lv_if_le (tgt := 69) hx hb dX8_keeps_57 (by decide) (fun c_57 => ?_) (fun c_57 => ?_)
        · refine lv_iconst (v := 0) hx hb dX8_keeps_69 (by decide) ?_
          refine vp_callSi (W.runS (As := [.int x3, .int x4, .int x6, .int 0]) (rest := []) ⟨hx, hb, hml, hown, hts⟩ (k_X8_behind l x3 x4 x6 0 ) (va_cwS 4 hts gX8_keeps_X8_behind rfl rfl rfl (by decide +kernel) ⟨Nat.le_of_ble_eq_true rfl, Nat.le_of_ble_eq_true rfl⟩) ⟨pS_fb, pS_pre⟩ rfl rfl hl.1 rfl (lv_room (Nat.le_of_ble_eq_true rfl)) dX8_keeps_70 ⟨Nat.le_of_ble_eq_true rfl, Nat.le_of_ble_eq_true rfl⟩) (fun x70 hx70 => ?_)
          subst hx70
          refine lv_topi (fun x73 ex73 => ?_)
          refine lv_istore (lv' := [(7, .int x73), (0, .ref m8), (1, .long set), (3, .int x3), (4, .int x4), (5, .int x5), (6, .int x6)]) hx hb dX8_keeps_73 hl (by decide) rfl (fun ls hl => ?_)
          exact lab75 _ (bN (hsB set k1)) x5 x6 x73 (hkl) (h5) (h6) (by have := bN_le (hsB set k1); omega) (Nat.le_refl _) (by rw [ex73, h3, h4, h6]; exact jb (bf0 _) hmk.1 hkl (by have := bN_le (hsB set k1); omega)) (fun q h1 h2 => absurd h2 (by omega)) (Nat.lt_succ_self _) _ _ hP hD hS ls (lv_sub hl [1, 2, 3, 4, 5, 6, 0] rfl)
        · refine lv_iload hx hb dX8_keeps_60 (lv_at hl 4 rfl) ?_
          refine lv_if_ne (tgt := 69) hx hb dX8_keeps_62 (by decide) (fun c_62 => ?_) (fun c_62 => ?_)
          · refine lv_iconst (v := 0) hx hb dX8_keeps_69 (by decide) ?_
            refine vp_callSi (W.runS (As := [.int x3, .int x4, .int x6, .int 0]) (rest := []) ⟨hx, hb, hml, hown, hts⟩ (k_X8_behind l x3 x4 x6 0 ) (va_cwS 4 hts gX8_keeps_X8_behind rfl rfl rfl (by decide +kernel) ⟨Nat.le_of_ble_eq_true rfl, Nat.le_of_ble_eq_true rfl⟩) ⟨pS_fb, pS_pre⟩ rfl rfl hl.1 rfl (lv_room (Nat.le_of_ble_eq_true rfl)) dX8_keeps_70 ⟨Nat.le_of_ble_eq_true rfl, Nat.le_of_ble_eq_true rfl⟩) (fun x70 hx70 => ?_)
            subst hx70
            refine lv_topi (fun x73 ex73 => ?_)
            refine lv_istore (lv' := [(7, .int x73), (0, .ref m8), (1, .long set), (3, .int x3), (4, .int x4), (5, .int x5), (6, .int x6)]) hx hb dX8_keeps_73 hl (by decide) rfl (fun ls hl => ?_)
            exact lab75 _ (bN (hsB set k1)) x5 x6 x73 (hkl) (h5) (h6) (by have := bN_le (hsB set k1); omega) (Nat.le_refl _) (by rw [ex73, h3, h4, h6]; exact jb (bf0 _) hmk.1 hkl (by have := bN_le (hsB set k1); omega)) (fun q h1 h2 => absurd h2 (by omega)) (Nat.lt_succ_self _) _ _ hP hD hS ls (lv_sub hl [1, 2, 3, 4, 5, 6, 0] rfl)
          · exact absurd (by rw [h6, itsF h5 c_62]; decide) c_57
      refine lv_iload hx hb dX8_keeps_23 (lv_at hl 3 rfl) ?_
      refine lv_bipush (v := 52) hx hb dX8_keeps_25 (by decide) ?_
      refine lv_icmp_ge (tgt := 168) hx hb dX8_keeps_27 (by decide) (fun c_27 => ?_) (fun c_27 => ?_)
      · have hk9 : k1 = 52 := hp_ge h4 (by decide : (52 : Int32) = nI 52) hk1 (by decide) c_27
        subst hk9
        refine lv_iconst (v := 1) hx hb dX8_keeps_168 (by decide) ?_
        rw [← hQ]
        have hP9 := hP.sub (ws' := [(m8, .inr (6, [.int st8, .ref wa, .ref pa8, .ref sta, .ref mo, .ref hea, .ref tha, .int ig, .int io, .int op8, .int pl8, .int py, .int wn, .int tu, .int la, .int ps, .ref hd8, .ref od8, .long tb, .ref cd8, .int dr, .ref opa, .ref osa])), (wa, .inl (cJ, 203520, .inr (.inl wq))), (pa8, .inl (cI, 52, .inl pq)), (sta, .inl (cZ, 52, .inl sq))]) [0, 1, 2, 3] rfl
        have hD9 := hD.sub (ws' := [(m8, .inr (6, [.int st8, .ref wa, .ref pa8, .ref sta, .ref mo, .ref hea, .ref tha, .int ig, .int io, .int op8, .int pl8, .int py, .int wn, .int tu, .int la, .int ps, .ref hd8, .ref od8, .long tb, .ref cd8, .int dr, .ref opa, .ref osa])), (wa, .inl (cJ, 203520, .inr (.inl wq))), (pa8, .inl (cI, 52, .inl pq)), (sta, .inl (cZ, 52, .inl sq))]) [0, 1, 2, 3] (by decide) rfl
        exact W.zret (v := 1) hx hb hr (by first | decide | rfl | assumption) (fun t ht hW => ⟨⟨1, (wq, pq, sq), rfl, ⟨by rw [if_neg hne0], hWq, fun z => absurd z hne0, fun _ => ⟨mk, hm0, hG⟩⟩, (by show wB D A _ t; exact ⟨by rw [ht]; exact hP9, hD9⟩)⟩, hS.F ht⟩) hS.2.2 dX8_keeps_169
      · have hkl : k1 < 52 := hp_lt h4 (by decide : (52 : Int32) = nI 52) hk1 (by decide) c_27
        refine lv_lload_n hx hb dX8_keeps_30 rfl (lv_at hl 1 rfl) ?_
        refine lv_iload hx hb dX8_keeps_31 (lv_at hl 3 rfl) ?_
        refine vp_callSi (W.runS (As := [.long set, .int x4]) (rest := []) ⟨hx, hb, hml, hown, hts⟩ (k_X8_has l set x4 ) (va_cwS 2 hts gX8_keeps_X8_has rfl rfl rfl (by decide +kernel) ⟨Nat.le_of_ble_eq_true rfl, Nat.le_of_ble_eq_true rfl⟩) ⟨pS_fb, pS_pre⟩ rfl rfl hl.1 rfl (lv_room (Nat.le_of_ble_eq_true rfl)) dX8_keeps_33 ⟨Nat.le_of_ble_eq_true rfl, Nat.le_of_ble_eq_true rfl⟩) (fun x33 hx33 => ?_)
        subst hx33
        refine lv_topi (fun x36 ex36 => ?_)
        refine lv_istore (lv' := [(5, .int x36), (0, .ref m8), (1, .long set), (3, .int x3), (4, .int x4)]) hx hb dX8_keeps_36 hl (by decide) rfl (fun ls hl => ?_)
        have h36 : x36 = nI (bN (hsB set k1)) := by rw [ex36, h4]; exact jb_has hset (by omega)
        refine lv_iload hx hb dX8_keeps_38 (lv_at hl 0 rfl) ?_
        refine lv_if_eq (tgt := 47) hx hb dX8_keeps_40 (by decide) (fun c_40 => ?_) (fun c_40 => ?_)
        · refine lv_iconst (v := 0) hx hb dX8_keeps_47 (by decide) ?_
          refine lv_istore (lv' := [(6, .int 0), (5, .int x36), (0, .ref m8), (1, .long set), (3, .int x3), (4, .int x4)]) hx hb dX8_keeps_48 hl (by decide) rfl (fun ls hl => ?_)
          exact lab50 x36 0 (hkl) (h36) (by first | exact its1 h36 c_40 | exact its0 h36 c_40) _ _ hP hD hS ls (lv_sub hl [2, 3, 4, 5, 1, 0] rfl)
        · refine lv_iconst (v := 1) hx hb dX8_keeps_43 (by decide) ?_
          refine lv_goto (tgt := 48) hx hb dX8_keeps_44 (by decide) ?_
          refine lv_istore (lv' := [(6, .int 1), (5, .int x36), (0, .ref m8), (1, .long set), (3, .int x3), (4, .int x4)]) hx hb dX8_keeps_48 hl (by decide) rfl (fun ls hl => ?_)
          exact lab50 x36 1 (hkl) (h36) (by first | exact its1 h36 c_40 | exact its0 h36 c_40) _ _ hP hD hS ls (lv_sub hl [2, 3, 4, 5, 1, 0] rfl)
  refine lv_aload_n hx hb dX8_keeps_0 rfl (lv_at hl 0 rfl) ?_
  refine lv_lload_n hx hb dX8_keeps_1 rfl (lv_at hl 1 rfl) ?_
  have hPc := hP.sub (ws' := [(m8, .inr (6, [.int st8, .ref wa, .ref pa8, .ref sta, .ref mo, .ref hea, .ref tha, .int ig, .int io, .int op8, .int pl8, .int py, .int wn, .int tu, .int la, .int ps, .ref hd8, .ref od8, .long tb, .ref cd8, .int dr, .ref opa, .ref osa])), (wa, .inl (cJ, 203520, .inr (.inl wf)))]) [0, 1] rfl
  have hDc := hD.sub (ws' := [(m8, .inr (6, [.int st8, .ref wa, .ref pa8, .ref sta, .ref mo, .ref hea, .ref tha, .int ig, .int io, .int op8, .int pl8, .int py, .int wn, .int tu, .int la, .int ps, .ref hd8, .ref od8, .long tb, .ref cd8, .int dr, .ref opa, .ref osa])), (wa, .inl (cJ, 203520, .inr (.inl wf)))]) [0, 1] (by decide) rfl
  have hFc := va_free (wc := [(m8, .inr (6, [.int st8, .ref wa, .ref pa8, .ref sta, .ref mo, .ref hea, .ref tha, .int ig, .int io, .int op8, .int pl8, .int py, .int wn, .int tu, .int la, .int ps, .ref hd8, .ref od8, .long tb, .ref cd8, .int dr, .ref opa, .ref osa])), (wa, .inl (cJ, 203520, .inr (.inl wf)))]) hD hS hA [0, 1] rfl
  refine va_callv (va_runV (As := [.long set]) (rest := []) ⟨hx, hb, hml, hown, hts⟩ (k_X8_count l D cI cJ cZ s.heap.size m8 wa pa8 sta mo hea tha hd8 od8 cd8 opa osa st8 ig io op8 pl8 py wn tu la ps dr tb wf set (by assumption)) (cwV 1 hts gX8_keeps_X8_count rfl rfl rfl (by decide +kernel) ⟨Nat.le_of_ble_eq_true rfl, Nat.le_of_ble_eq_true rfl⟩) ⟨wM_fb, va_recv hK hPc (ci := 6) (q0 := 0) rfl rfl, wM_pre hPc ⟨hK, hN⟩ hDc⟩ rfl rfl hl.1 rfl (lv_room (Nat.le_of_ble_eq_true rfl)) dX8_keeps_2 ⟨Nat.le_of_ble_eq_true rfl, Nat.le_of_ble_eq_true rfl⟩) hS (fun q _ h => hFc q h) hFc (fun u t H1 locs ht hvm hx2 hB hz1 hk1 hS => ?_)
  obtain ⟨wf2_x2, rfl⟩ : ∃ z, z = u := ⟨_, rfl⟩
  obtain ⟨hP1, hD1⟩ := hB
  rw [ht] at hP1
  obtain ⟨hP, hD⟩ := va_join (wr := [(pa8, .inl (cI, 52, .inl pf8)), (sta, .inl (cZ, 52, .inl sf8))]) (w1 := [(m8, .inr (6, [.int st8, .ref wa, .ref pa8, .ref sta, .ref mo, .ref hea, .ref tha, .int ig, .int io, .int op8, .int pl8, .int py, .int wn, .int tu, .int la, .int ps, .ref hd8, .ref od8, .long tb, .ref cd8, .int dr, .ref opa, .ref osa])), (wa, .inl (cJ, 203520, .inr (.inl wf2_x2)))]) hP hD [0, 1] [2, 3] rfl rfl (by decide) (by decide) hk1 hFc hP1 hD1
  generalize H1 = H at hP hS ⊢
  have hP : va_P D vwCl [(pa8, .inl (cI, 52, .inl pf8)), (sta, .inl (cZ, 52, .inl sf8)), (m8, .inr (6, [.int st8, .ref wa, .ref pa8, .ref sta, .ref mo, .ref hea, .ref tha, .int ig, .int io, .int op8, .int pl8, .int py, .int wn, .int tu, .int la, .int ps, .ref hd8, .ref od8, .long tb, .ref cd8, .int dr, .ref opa, .ref osa])), (wa, .inl (cJ, 203520, .inr (.inl wf2_x2)))] H := hP
  have hD : va_D A [(pa8, .inl (cI, 52, .inl pf8)), (sta, .inl (cZ, 52, .inl sf8)), (m8, .inr (6, [.int st8, .ref wa, .ref pa8, .ref sta, .ref mo, .ref hea, .ref tha, .int ig, .int io, .int op8, .int pl8, .int py, .int wn, .int tu, .int la, .int ps, .ref hd8, .ref od8, .long tb, .ref cd8, .int dr, .ref opa, .ref osa])), (wa, .inl (cJ, 203520, .inr (.inl wf2_x2)))] := hD
  try dsimp only at hx2
  refine lv_aload_n hx hb dX8_keeps_5 rfl (lv_at hl 0 rfl) ?_
  refine va_get (D := D) (ci := 6) (v := .ref wa) (C := RX8) (T := TX8) (N := 23) hx hb hts iX8 hown hK hP 2 rfl rfl 1 (by decide) k8 (fun _ h9 => h9) rfl dX8_keeps_6 ?_
  refine lv_iconst (v := 0) hx hb dX8_keeps_9 (by decide) ?_
  refine va_lald hx hb hK hP 3 1 rfl rfl (vp_in_nI (n := 0) (by decide) (by decide)) dX8_keeps_10 ?_
  refine lv_lconst (v := 0) hx hb dX8_keeps_11 (by decide) ?_
  refine W.lcmp hx hb dX8_keeps_12 ?_
  refine lv_if_ne (tgt := 18) hx hb dX8_keeps_13 (by decide) (fun c_13 => ?_) (fun c_13 => ?_)
  · have hw0 : ¬ wf2_x2 0 = 0 := fun z => c_13 (cmp_eq.mpr z)
    refine lv_iconst (v := 0) hx hb dX8_keeps_18 (by decide) ?_
    refine lv_istore_n (lv' := [(3, .int 0), (0, .ref m8), (1, .long set)]) hx hb dX8_keeps_19 rfl hl (by decide) rfl (fun ls hl => ?_)
    refine lv_iconst (v := 0) hx hb dX8_keeps_20 (by decide) ?_
    refine lv_istore (lv' := [(4, .int 0), (3, .int 0), (0, .ref m8), (1, .long set)]) hx hb dX8_keeps_21 hl (by decide) rfl (fun ls hl => ?_)
    exact lab23 _ 0 (fun _ => 0) 0 0 wf2_x2 pf8 sf8 (hx2) (nI_0.symm) (by omega) (nI_0.symm) (rfl) (⟨by decide, by decide⟩) (hw0) (hw0) (fun j h => absurd h (Nat.not_lt_zero j)) (Nat.lt_succ_self _) _ _ (hP.sub [2, 3, 0, 1] rfl) (hD.sub [2, 3, 0, 1] (by decide) rfl) hS ls (lv_sub hl [2, 3, 1, 0] rfl)
  · have hw0 : wf2_x2 0 = 0 := cmp_eq.mp c_13
    refine lv_iconst (v := 0) hx hb dX8_keeps_16 (by decide) ?_
    rw [← hQ]
    have hP9 := hP.sub (ws' := [(m8, .inr (6, [.int st8, .ref wa, .ref pa8, .ref sta, .ref mo, .ref hea, .ref tha, .int ig, .int io, .int op8, .int pl8, .int py, .int wn, .int tu, .int la, .int ps, .ref hd8, .ref od8, .long tb, .ref cd8, .int dr, .ref opa, .ref osa])), (wa, .inl (cJ, 203520, .inr (.inl wf2_x2))), (pa8, .inl (cI, 52, .inl pf8)), (sta, .inl (cZ, 52, .inl sf8))]) [2, 3, 0, 1] rfl
    have hD9 := hD.sub (ws' := [(m8, .inr (6, [.int st8, .ref wa, .ref pa8, .ref sta, .ref mo, .ref hea, .ref tha, .int ig, .int io, .int op8, .int pl8, .int py, .int wn, .int tu, .int la, .int ps, .ref hd8, .ref od8, .long tb, .ref cd8, .int dr, .ref opa, .ref osa])), (wa, .inl (cJ, 203520, .inr (.inl wf2_x2))), (pa8, .inl (cI, 52, .inl pf8)), (sta, .inl (cZ, 52, .inl sf8))]) [2, 3, 0, 1] (by decide) rfl
    exact W.zret (v := 0) hx hb hr (by first | decide | rfl | assumption) (fun t ht hW => ⟨⟨0, (wf2_x2, pf8, sf8), rfl, ⟨by rw [if_pos hw0], hx2, fun _ => ⟨rfl, rfl⟩, fun z => absurd hw0 z⟩, (by show wB D A _ t; exact ⟨by rw [ht]; exact hP9, hD9⟩)⟩, hS.F ht⟩) hS.2.2 dX8_keeps_17
