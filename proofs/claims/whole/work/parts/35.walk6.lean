/-- the states that a row lists -/
def rowL (htf : Nat → Int32) (hcn : Int32) (v : Nat → Nat → Int64) (cL : Nat) (q : Nat → Nat) : Prop := hcn = nI cL ∧ cL ≤ 256 ∧ (∀ i, i < cL → q i < 256 ∧ htf i = nI (q i)) ∧ (∀ i j, i < cL → j < cL → q i = q j → i = j) ∧ (∀ s, s < 256 → (∃ i, i < cL ∧ q i = s) ∨ ∀ u, u < 3 → v s u = 0)
theorem rowL_of {cf : Nat → Int64} {lf tf : Nat → Int32} {cn : Int32} {v : Nat → Nat → Int64} (h : RowRep cf lf tf cn v) : ∃ cL q, rowL tf cn v cL q := by
  obtain ⟨cL, q, e1, e2, e3, e4, e5, e6⟩ := h
  exact ⟨cL, q, e1, e2, fun i h => ⟨(e3 i h).1, (e3 i h).2.1⟩, e4, fun s h => (e5 s h).imp id And.right⟩
def gaF (v : Nat → Nat → Int64) (u : Nat) (q : Nat → Nat) : Nat → Int64
  | 0 => 0
  | i + 1 => if c_en (q i) = true then (if v (q i) u < gaF v u q i then gaF v u q i else v (q i) u) else gaF v u q i
def smF (v : Nat → Nat → Int64) (u : Nat) (q : Nat → Nat) : Nat → Int64
  | 0 => 0
  | i + 1 => if c_en (q i) = true then smF v u q i + v (q i) u else smF v u q i
theorem en_f {s : Nat} {x : Int32} (hx : x = nI s) (hs : s < 256) (c : j_X5_mayEnd x = 0) : ¬ c_en s = true := by
  rw [hx, jn_en s hs] at c
  intro z
  rw [z] at c; exact absurd c (by decide)
theorem en_t {s : Nat} {x : Int32} (hx : x = nI s) (hs : s < 256) (c : ¬ j_X5_mayEnd x = 0) : c_en s = true := by
  rw [hx, jn_en s hs] at c
  cases h : c_en s with
  | true => rfl
  | false => rw [h] at c; exact absurd rfl c
set_option maxHeartbeats 4000000 in
set_option maxRecDepth 100000 in
theorem k_X6_greatestAtEnd (l : Launch) (D : va_G) (cI cJ cZ : ClassId) (wk ws6 fi6 ff6 ga6 ahr atr : Nat) (ft6 jk6 ct6 bw6 un6 : Int32) (mu6 my6 : Int64) (hca hla hta : Nat) (hcn : Int32) (u1 : Nat) (hcf : Nat → Int64) (hlf htf : Nat → Int32) (v0 : Nat → Nat → Int64) (ux : Int32) (hu1 : u1 < 3) (hux : ux = nI u1) (hrH : RowRep hcf hlf htf hcn v0) : Met l yX6_greatestAtEnd wsX6_greatestAtEnd ({ frames := 2, cells := 0, slots := 0, locals := 43 } : Room) (va_Pc [.ref wk, .int ux] (wR D cI cJ cZ [(wk, .inr (4, [.ref ws6, .ref fi6, .ref ff6, .ref ga6, .int ft6, .ref ahr, .ref atr, .long mu6, .long my6, .int jk6, .int ct6, .int bw6, .int un6])), (ahr, .inr (2, [.ref hca, .ref hla, .ref hta, .int hcn])), (hca, .inl (cJ, 768, .inr (.inl hcf))), (hta, .inl (cI, 256, .inl htf))])) (vp_Sl (fun r => ∃ cL q, rowL htf hcn v0 cL q ∧ r = gaF v0 u1 q cL)) 0 0 (fun _ => False) := by
  refine Met.ofW (cc := cX6_greatestAtEnd) (maxL := 5) (ret := (some .long)) (by decide) rfl ?_
  intro p e s m args below meth c s₁ B hml hv
  obtain ⟨hargs, hP, hK, hN⟩ := hv
  have hx := B.exec
  have hb := B.bytes
  have hr := B.returns
  have hlocks := B.notSynchronized
  have hts := atoms_spec (ws := wsX6_greatestAtEnd) B.pre
  have hown : s.vm.findClass RX6 = some m.cls := findClass_of_methodNamed B.named
  have k28 := hts (.fieldLink RX6 28 "RummyTable$Walk" "here" "LRummyTable$Row;") (by decide +kernel)
  have iX6 : ∀ w ∈ wsX60, w ∈ wsX6_greatestAtEnd := by decide +kernel
  have k62 : (Cond.fieldLinkNest RX6 62 "RummyTable$Row" "count" "I" "RummyTable").before args s = true := va_Nw.use rfl hN.2.2.1
  have iX3 : ∀ w ∈ wsX30, w ∈ wsX6_greatestAtEnd := by decide +kernel
  have k66 : (Cond.fieldLinkNest RX6 66 "RummyTable$Row" "states" "[I" "RummyTable").before args s = true := va_Nw.use rfl hN.2.2.2.1
  have k69 := hts (.methodLink RX6 69 yX5_mayEnd) (by decide +kernel)
  have k73 := hts (.methodLink RX6 73 yX3_at) (by decide +kernel)
  have k99 := hts (.methodLink RX6 99 Lib.MathLoose.max_long.x) (by decide +kernel)
  have s_va_mmax_long := hts (.static Lib.MathLoose.max_long.x) (by decide +kernel)
  have i_math := hts (.initialized "java/lang/Math") (by decide +kernel)
  have c_va_mmax_long := hts (.code Lib.MathLoose.max_long.x Lib.MathLoose.max_long.code 4 (some .long)) (by decide +kernel)
  rw [show entryFrame m args 5 = entryFrame m ([.ref wk, .int ux] : List Value).toArray 5 from by rw [hargs]]
  have hl := lv_entry ([.ref wk, .int ux]) (n := 5) (Nat.le_of_ble_eq_true rfl)
  rw [lg_entry_eq]
  generalize (lg_sl ([.ref wk, .int ux]) ++ List.replicate (5 - (lg_sl ([.ref wk, .int ux])).length) Slot.unset).toArray = ls at hl ⊢
  have hl : lv_has ls 5 [(0, .ref wk), (1, .int ux)] := hl
  refine wQ (fun Q hQ => ?_)
  obtain ⟨cL, q, hL1, hL2, hL3, hL4, hL5⟩ := rowL_of hrH
  have lab5 : ∀ fuel5 : Nat, ∀ (i : Nat) (key : Int64) (x4 : Int32), (h4 : x4 = nI i) → (hi : i ≤ cL) → (hg : key = gaF v0 u1 q i) → (hfu5 : cL - i < fuel5) → ∀ ls : Array Slot, lv_has ls 5 [(0, .ref wk), (1, .int ux), (2, .long key), (4, .int x4)] → W p l e (headSpec wsX6_greatestAtEnd ({ frames := 2, cells := 0, slots := 0, locals := 43 } : Room)).room s m args below meth c s.heap [] 0 0 Q (F0 m 5 ls []) := by
    intro fuel5
    induction fuel5 with
    | zero =>
      intro i key x4 h4 hi hg hfu5
      exact absurd hfu5 (Nat.not_lt_zero _)
    | succ fuel5 ih5 =>
      intro i key x4 h4 hi hg hfu5 ls hl
      refine lv_iload hx hb dX6_greatestAtEnd_5 (lv_at hl 3 rfl) ?_
      refine lv_aload_n hx hb dX6_greatestAtEnd_7 rfl (lv_at hl 0 rfl) ?_
      refine va_get (D := D) (ci := 4) (v := .ref ahr) (C := RX6) (T := TX6) (N := 13) hx hb hts iX6 hown hK hP 0 rfl rfl 5 (by decide) k28 (fun _ h9 => h9) rfl dX6_greatestAtEnd_8 ?_
      refine va_getN (D := D) (ci := 2) (v := .int hcn) (C := RX3) (T := TX3) (N := 4) hx hb hts iX3 hown hK hP 1 rfl rfl 3 (by decide) k62 (fun _ h9 => h9) rfl dX6_greatestAtEnd_11 ?_
      refine lv_icmp_ge (tgt := 62) hx hb dX6_greatestAtEnd_14 (by decide) (fun c_14 => ?_) (fun c_14 => ?_)
      · have hi9 : i = cL := hp_ge h4 hL1 hi (by omega) c_14
        subst hi9
        refine lv_lload_n hx hb dX6_greatestAtEnd_62 rfl (lv_at hl 2 rfl) ?_
        rw [← hQ]
        exact W.lret (v := key) hx hb hr (fun t ht hW => ⟨_, rfl, ⟨_, q, ⟨hL1, hL2, hL3, hL4, hL5⟩, hg⟩, ht⟩) (fun _ h => by cases h) dX6_greatestAtEnd_63
      · have hlt : i < cL := hp_lt h4 hL1 hi (by omega) c_14
        have hsv : htf x4.toNatClampNeg = nI (q i) := by rw [h4, nI_clamp (by omega)]; exact (hL3 i hlt).2
        have hqi := (hL3 i hlt).1
        have hat : j_at hcf (htf x4.toNatClampNeg) ux = v0 (q i) u1 := by rw [j_at_ok hsv hux hqi hu1]; exact row_val hrH hqi hu1
        refine lv_aload_n hx hb dX6_greatestAtEnd_17 rfl (lv_at hl 0 rfl) ?_
        refine va_get (D := D) (ci := 4) (v := .ref ahr) (C := RX6) (T := TX6) (N := 13) hx hb hts iX6 hown hK hP 0 rfl rfl 5 (by decide) k28 (fun _ h9 => h9) rfl dX6_greatestAtEnd_18 ?_
        refine va_getN (D := D) (ci := 2) (v := .ref hta) (C := RX3) (T := TX3) (N := 4) hx hb hts iX3 hown hK hP 1 rfl rfl 2 (by decide) k66 (fun _ h9 => h9) rfl dX6_greatestAtEnd_21 ?_
        refine lv_iload hx hb dX6_greatestAtEnd_24 (lv_at hl 3 rfl) ?_
        refine va_iald hx hb hK hP 3 0 rfl rfl (by rw [h4]; exact vp_in_nI (by omega) (by decide)) dX6_greatestAtEnd_26 ?_
        refine vp_callSi (W.runS (As := [.int (htf x4.toNatClampNeg)]) (rest := []) ⟨hx, hb, hml, hown, hts⟩ (k_X5_mayEnd l (htf x4.toNatClampNeg) ) (va_cwS 1 hts gX6_greatestAtEnd_X5_mayEnd rfl rfl rfl (by decide +kernel) ⟨Nat.le_of_ble_eq_true rfl, Nat.le_of_ble_eq_true rfl⟩) ⟨pS_fb, pS_pre⟩ rfl rfl hl.1 rfl (lv_room (Nat.le_of_ble_eq_true rfl)) dX6_greatestAtEnd_27 ⟨Nat.le_of_ble_eq_true rfl, Nat.le_of_ble_eq_true rfl⟩) (fun x27 hx27 => ?_)
        subst hx27
        refine lv_if_eq (tgt := 56) hx hb dX6_greatestAtEnd_30 (by decide) (fun c_30 => ?_) (fun c_30 => ?_)
        · obtain ⟨x56, ex56⟩ : ∃ y : Int32, y = x4 + 1 := ⟨_, rfl⟩
          refine lv_iinc (v := x56) (lv' := [(4, .int x56), (0, .ref wk), (1, .int ux), (2, .long key)]) hx hb dX6_greatestAtEnd_56 hl (k := 3) rfl (by rw [ex56]; rfl) (by decide) rfl (fun ls hl => ?_)
          refine lv_goto (tgt := 5) hx hb dX6_greatestAtEnd_59 (by decide) ?_
          exact ih5 (i + 1) key x56 (hp_s ex56 h4) (by omega) (by simp only [gaF]; first | (rw [if_neg (en_f hsv hqi c_30)]; exact hg) | (rw [if_pos (en_t hsv hqi c_30), ex55, hat, hg])) (by omega) ls (lv_sub hl [1, 2, 3, 0] rfl)
        · refine lv_lload_n hx hb dX6_greatestAtEnd_33 rfl (lv_at hl 2 rfl) ?_
          refine lv_aload_n hx hb dX6_greatestAtEnd_34 rfl (lv_at hl 0 rfl) ?_
          refine va_get (D := D) (ci := 4) (v := .ref ahr) (C := RX6) (T := TX6) (N := 13) hx hb hts iX6 hown hK hP 0 rfl rfl 5 (by decide) k28 (fun _ h9 => h9) rfl dX6_greatestAtEnd_35 ?_
          refine lv_aload_n hx hb dX6_greatestAtEnd_38 rfl (lv_at hl 0 rfl) ?_
          refine va_get (D := D) (ci := 4) (v := .ref ahr) (C := RX6) (T := TX6) (N := 13) hx hb hts iX6 hown hK hP 0 rfl rfl 5 (by decide) k28 (fun _ h9 => h9) rfl dX6_greatestAtEnd_39 ?_
          refine va_getN (D := D) (ci := 2) (v := .ref hta) (C := RX3) (T := TX3) (N := 4) hx hb hts iX3 hown hK hP 1 rfl rfl 2 (by decide) k66 (fun _ h9 => h9) rfl dX6_greatestAtEnd_42 ?_
          refine lv_iload hx hb dX6_greatestAtEnd_45 (lv_at hl 3 rfl) ?_
          refine va_iald hx hb hK hP 3 0 rfl rfl (by rw [h4]; exact vp_in_nI (by omega) (by decide)) dX6_greatestAtEnd_47 ?_
          refine lv_iload_n hx hb dX6_greatestAtEnd_48 rfl (lv_at hl 1 rfl) ?_
          have hPc := hP.sub (ws' := [(ahr, .inr (2, [.ref hca, .ref hla, .ref hta, .int hcn])), (hca, .inl (cJ, 768, .inr (.inl hcf)))]) [1, 2] rfl
          refine vp_callSl (W.runV (As := [.int (htf x4.toNatClampNeg), .int ux]) (rest := [.long key]) ⟨hx, hb, hml, hown, hts⟩ (k_X3_at l D cI cJ cZ ahr hca hla hta hcn hcf (htf x4.toNatClampNeg) ux ) (cwV 2 hts gX6_greatestAtEnd_X3_at rfl rfl rfl (by decide +kernel) ⟨Nat.le_of_ble_eq_true rfl, Nat.le_of_ble_eq_true rfl⟩) ⟨wR_fb, va_recv hK hPc (ci := 2) (q0 := 0) rfl rfl, wR_pre hPc ⟨hK, hN⟩⟩ rfl rfl hl.1 rfl (lv_room (Nat.le_of_ble_eq_true rfl)) dX6_greatestAtEnd_49 ⟨Nat.le_of_ble_eq_true rfl, Nat.le_of_ble_eq_true rfl⟩) (fun x49 hx49 => ?_)
          subst hx49
          refine va_mmax_long hx hb (hml.trans hl.1.symm) hown k99 s_va_mmax_long i_math c_va_mmax_long (Nat.le_of_ble_eq_true rfl) (Nat.le_of_ble_eq_true rfl) (Nat.zero_le _) (Nat.zero_le _) dX6_greatestAtEnd_52 ?_
          refine lv_topl (fun x55 ex55 => ?_)
          refine lv_lstore_n (lv' := [(2, .long x55), (0, .ref wk), (1, .int ux), (4, .int x4)]) hx hb dX6_greatestAtEnd_55 rfl hl (by decide) rfl (fun ls hl => ?_)
          obtain ⟨x56, ex56⟩ : ∃ y : Int32, y = x4 + 1 := ⟨_, rfl⟩
          refine lv_iinc (v := x56) (lv' := [(4, .int x56), (2, .long x55), (0, .ref wk), (1, .int ux)]) hx hb dX6_greatestAtEnd_56 hl (k := 3) rfl (by rw [ex56]; rfl) (by decide) rfl (fun ls hl => ?_)
          refine lv_goto (tgt := 5) hx hb dX6_greatestAtEnd_59 (by decide) ?_
          exact ih5 (i + 1) x55 x56 (hp_s ex56 h4) (by omega) (by simp only [gaF]; first | (rw [if_neg (en_f hsv hqi c_30)]; exact hg) | (rw [if_pos (en_t hsv hqi c_30), ex55, hat, hg])) (by omega) ls (lv_sub hl [2, 3, 1, 0] rfl)
  refine lv_lconst (v := 0) hx hb dX6_greatestAtEnd_0 (by decide) ?_
  refine lv_lstore_n (lv' := [(2, .long 0), (0, .ref wk), (1, .int ux)]) hx hb dX6_greatestAtEnd_1 rfl hl (by decide) rfl (fun ls hl => ?_)
  refine lv_iconst (v := 0) hx hb dX6_greatestAtEnd_2 (by decide) ?_
  refine lv_istore (lv' := [(4, .int 0), (2, .long 0), (0, .ref wk), (1, .int ux)]) hx hb dX6_greatestAtEnd_3 hl (by decide) rfl (fun ls hl => ?_)
  exact lab5 _ 0 0 0 (nI_0.symm) (by omega) (rfl) (Nat.lt_succ_self _) ls (lv_sub hl [2, 3, 1, 0] rfl)

set_option maxHeartbeats 4000000 in
set_option maxRecDepth 100000 in
theorem k_X6_countLayouts (l : Launch) (D : va_G) (cI cJ cZ : ClassId) (sz : Nat) (wk ws6 fi6 ff6 ga6 ahr atr : Nat) (ft6 jk6 ct6 bw6 un6 : Int32) (mu6 my6 : Int64) (hca hla hta tca tla tta : Nat) (hcn tcn : Int32) (set : Int64) (wsf fif fff : Nat → Int32) (gf hcf tcf : Nat → Int64) (hlf htf tlf ttf : Nat → Int32) (v0 v1 : Nat → Nat → Int64) (hset : isS set) (hws : ∀ i, i < 94 → wsf i = nI (wkT i)) (hf0 : fff 0 = 0) (hrH : RowRep hcf hlf htf hcn v0) (hrT : RowRep tcf tlf ttf tcn v1) : Met l yX6_countLayouts wsX6_countLayouts ({ frames := 5, cells := 0, slots := 0, locals := 122 } : Room) (va_Pc [.ref wk, .long set] (wM D cI cJ cZ sz [(wk, .inr (4, [.ref ws6, .ref fi6, .ref ff6, .ref ga6, .int ft6, .ref ahr, .ref atr, .long mu6, .long my6, .int jk6, .int ct6, .int bw6, .int un6])), (ws6, .inl (cI, 94, .inl wsf)), (fi6, .inl (cI, 94, .inl fif)), (ff6, .inl (cI, 17, .inl fff)), (ga6, .inl (cJ, 282, .inr (.inl gf))), (ahr, .inr (2, [.ref hca, .ref hla, .ref hta, .int hcn])), (hca, .inl (cJ, 768, .inr (.inl hcf))), (hla, .inl (cZ, 256, .inl hlf)), (hta, .inl (cI, 256, .inl htf)), (atr, .inr (2, [.ref tca, .ref tla, .ref tta, .int tcn])), (tca, .inl (cJ, 768, .inr (.inl tcf))), (tla, .inl (cZ, 256, .inl tlf)), (tta, .inl (cI, 256, .inl ttf))])) (va_Ql (fun (r : Int64) (u : (Nat) × (Nat) × (Nat) × (Nat) × (Nat) × (Nat) × (Nat) × (Nat) × (Int32) × (Int32) × (Int32) × (Int32) × (Nat → Int32) × (Nat → Int32) × (Nat → Int64) × (Nat → Int64) × (Nat → Int32) × (Nat → Int32) × (Nat → Int64) × (Nat → Int32) × (Nat → Int32)) => match u with | (ah2, hc2, hl2, ht2, at2, tc2, tl2, tt2, hcn2, tcn2, ft2, un2, fif2, fff2, gf2, hcf2, hlf2, htf2, tcf2, tlf2, ttf2) => (fff2 0 = 0 ∧ (∃ vt, RowRep tcf2 tlf2 ttf2 tcn2 vt) ∧ ∃ vs : Nat → Nat → Nat → Int64, vs 0 = up2 (fun _ _ => 0) 0 0 1 ∧ (∀ n, n < 13 → rowStep 1 bw6 set 0 (jkN set) n (vs n) (vs (n + 1))) ∧ RowRep hcf2 hlf2 htf2 hcn2 (vs 13) ∧ ∃ cL q, rowL htf2 hcn2 (vs 13) cL q ∧ r = smF (vs 13) (jkN set) q cL)) (fun (u : (Nat) × (Nat) × (Nat) × (Nat) × (Nat) × (Nat) × (Nat) × (Nat) × (Int32) × (Int32) × (Int32) × (Int32) × (Nat → Int32) × (Nat → Int32) × (Nat → Int64) × (Nat → Int64) × (Nat → Int32) × (Nat → Int32) × (Nat → Int64) × (Nat → Int32) × (Nat → Int32)) t => match u with | (ah2, hc2, hl2, ht2, at2, tc2, tl2, tt2, hcn2, tcn2, ft2, un2, fif2, fff2, gf2, hcf2, hlf2, htf2, tcf2, tlf2, ttf2) => wB D (va_A [(wk, .inr (4, [.ref ws6, .ref fi6, .ref ff6, .ref ga6, .int ft6, .ref ahr, .ref atr, .long mu6, .long my6, .int jk6, .int ct6, .int bw6, .int un6])), (ws6, .inl (cI, 94, .inl wsf)), (fi6, .inl (cI, 94, .inl fif)), (ff6, .inl (cI, 17, .inl fff)), (ga6, .inl (cJ, 282, .inr (.inl gf))), (ahr, .inr (2, [.ref hca, .ref hla, .ref hta, .int hcn])), (hca, .inl (cJ, 768, .inr (.inl hcf))), (hla, .inl (cZ, 256, .inl hlf)), (hta, .inl (cI, 256, .inl htf)), (atr, .inr (2, [.ref tca, .ref tla, .ref tta, .int tcn])), (tca, .inl (cJ, 768, .inr (.inl tcf))), (tla, .inl (cZ, 256, .inl tlf)), (tta, .inl (cI, 256, .inl ttf))] sz) [(wk, .inr (4, [.ref ws6, .ref fi6, .ref ff6, .ref ga6, .int ft2, .ref ah2, .ref at2, .long set, .long 0, .int (nI (jkN set)), .int 1, .int bw6, .int un2])), (ws6, .inl (cI, 94, .inl wsf)), (fi6, .inl (cI, 94, .inl fif2)), (ff6, .inl (cI, 17, .inl fff2)), (ga6, .inl (cJ, 282, .inr (.inl gf2))), (ah2, .inr (2, [.ref hc2, .ref hl2, .ref ht2, .int hcn2])), (hc2, .inl (cJ, 768, .inr (.inl hcf2))), (hl2, .inl (cZ, 256, .inl hlf2)), (ht2, .inl (cI, 256, .inl htf2)), (at2, .inr (2, [.ref tc2, .ref tl2, .ref tt2, .int tcn2])), (tc2, .inl (cJ, 768, .inr (.inl tcf2))), (tl2, .inl (cZ, 256, .inl tlf2)), (tt2, .inl (cI, 256, .inl ttf2))] t) (va_A [(wk, .inr (4, [.ref ws6, .ref fi6, .ref ff6, .ref ga6, .int ft6, .ref ahr, .ref atr, .long mu6, .long my6, .int jk6, .int ct6, .int bw6, .int un6])), (ws6, .inl (cI, 94, .inl wsf)), (fi6, .inl (cI, 94, .inl fif)), (ff6, .inl (cI, 17, .inl fff)), (ga6, .inl (cJ, 282, .inr (.inl gf))), (ahr, .inr (2, [.ref hca, .ref hla, .ref hta, .int hcn])), (hca, .inl (cJ, 768, .inr (.inl hcf))), (hla, .inl (cZ, 256, .inl hlf)), (hta, .inl (cI, 256, .inl htf)), (atr, .inr (2, [.ref tca, .ref tla, .ref tta, .int tcn])), (tca, .inl (cJ, 768, .inr (.inl tcf))), (tla, .inl (cZ, 256, .inl tlf)), (tta, .inl (cI, 256, .inl ttf))] sz)) 0 0 (va_A [(wk, .inr (4, [.ref ws6, .ref fi6, .ref ff6, .ref ga6, .int ft6, .ref ahr, .ref atr, .long mu6, .long my6, .int jk6, .int ct6, .int bw6, .int un6])), (ws6, .inl (cI, 94, .inl wsf)), (fi6, .inl (cI, 94, .inl fif)), (ff6, .inl (cI, 17, .inl fff)), (ga6, .inl (cJ, 282, .inr (.inl gf))), (ahr, .inr (2, [.ref hca, .ref hla, .ref hta, .int hcn])), (hca, .inl (cJ, 768, .inr (.inl hcf))), (hla, .inl (cZ, 256, .inl hlf)), (hta, .inl (cI, 256, .inl htf)), (atr, .inr (2, [.ref tca, .ref tla, .ref tta, .int tcn])), (tca, .inl (cJ, 768, .inr (.inl tcf))), (tla, .inl (cZ, 256, .inl tlf)), (tta, .inl (cI, 256, .inl ttf))] sz) := by
  refine Met.ofW (cc := cX6_countLayouts) (maxL := 7) (ret := (some .long)) (by decide) rfl ?_
  intro p e s m args below meth c s₁ B hml hv
  obtain ⟨hargs, hsz, hP, ⟨hK, hN⟩, hD0⟩ := hv
  have hx := B.exec
  have hb := B.bytes
  have hr := B.returns
  have hlocks := B.notSynchronized
  have hts := atoms_spec (ws := wsX6_countLayouts) B.pre
  have hown : s.vm.findClass RX6 = some m.cls := findClass_of_methodNamed B.named
  have k28 := hts (.fieldLink RX6 28 "RummyTable$Walk" "here" "LRummyTable$Row;") (by decide +kernel)
  have iX6 : ∀ w ∈ wsX60, w ∈ wsX6_countLayouts := by decide +kernel
  have k62 : (Cond.fieldLinkNest RX6 62 "RummyTable$Row" "count" "I" "RummyTable").before args s = true := va_Nw.use rfl hN.2.2.1
  have iX3 : ∀ w ∈ wsX30, w ∈ wsX6_countLayouts := by decide +kernel
  have k66 : (Cond.fieldLinkNest RX6 66 "RummyTable$Row" "states" "[I" "RummyTable").before args s = true := va_Nw.use rfl hN.2.2.2.1
  have k69 := hts (.methodLink RX6 69 yX5_mayEnd) (by decide +kernel)
  have k73 := hts (.methodLink RX6 73 yX3_at) (by decide +kernel)
  have k41 := hts (.fieldLink RX6 41 "RummyTable$Walk" "must" "J") (by decide +kernel)
  have k45 := hts (.fieldLink RX6 45 "RummyTable$Walk" "may" "J") (by decide +kernel)
  have k48 := hts (.fieldLink RX6 48 "RummyTable$Walk" "counting" "Z") (by decide +kernel)
  have k52 := hts (.methodLink RX6 52 yX0_jokersIn) (by decide +kernel)
  have k58 := hts (.methodLink RX6 58 yX6_goThrough) (by decide +kernel)
  subst hsz
  have hD := hD0.self (sz := s.heap.size)
  generalize hAe : va_A [(wk, .inr (4, [.ref ws6, .ref fi6, .ref ff6, .ref ga6, .int ft6, .ref ahr, .ref atr, .long mu6, .long my6, .int jk6, .int ct6, .int bw6, .int un6])), (ws6, .inl (cI, 94, .inl wsf)), (fi6, .inl (cI, 94, .inl fif)), (ff6, .inl (cI, 17, .inl fff)), (ga6, .inl (cJ, 282, .inr (.inl gf))), (ahr, .inr (2, [.ref hca, .ref hla, .ref hta, .int hcn])), (hca, .inl (cJ, 768, .inr (.inl hcf))), (hla, .inl (cZ, 256, .inl hlf)), (hta, .inl (cI, 256, .inl htf)), (atr, .inr (2, [.ref tca, .ref tla, .ref tta, .int tcn])), (tca, .inl (cJ, 768, .inr (.inl tcf))), (tla, .inl (cZ, 256, .inl tlf)), (tta, .inl (cI, 256, .inl ttf))] s.heap.size = A at hD ⊢
  have hA : ∀ q : Nat, s.heap.size ≤ q → A q := fun q h => by rw [← hAe]; exact Or.inr h
  have hS : va_S A s.heap s.heap [] := va_S.rf
  rw [show entryFrame m args 7 = entryFrame m ([.ref wk, .long set] : List Value).toArray 7 from by rw [hargs]]
  have hl := lv_entry ([.ref wk, .long set]) (n := 7) (Nat.le_of_ble_eq_true rfl)
  rw [lg_entry_eq]
  generalize (lg_sl ([.ref wk, .long set]) ++ List.replicate (7 - (lg_sl ([.ref wk, .long set])).length) Slot.unset).toArray = ls at hl ⊢
  have hl : lv_has ls 7 [(0, .ref wk), (1, .long set)] := hl
  refine wQ (fun Q hQ => ?_)
  have lab31 : ∀ fuel31 : Nat, ∀ (i : Nat) (vt : Nat → Nat → Int64) (vs : Nat → Nat → Nat → Int64) (cL : Nat) (q : Nat → Nat) (ah1 : Nat) (hc1 : Nat) (hl1 : Nat) (ht1 : Nat) (at1 : Nat) (tc1 : Nat) (tl1 : Nat) (tt1 : Nat) (x3 : Int32) (sm : Int64) (x6 : Int32) (ft1 : Int32) (un1 : Int32) (fq0 : Nat → Int32) (fr0 : Nat → Int32) (gq0 : Nat → Int64) (hcx : Int32) (hf1 : Nat → Int64) (hg1 : Nat → Int32) (hh1 : Nat → Int32) (tn1 : Int32) (tf1 : Nat → Int64) (tg1 : Nat → Int32) (th1 : Nat → Int32), (h3 : x3 = nI (jkN set)) → (hr0 : fr0 0 = 0) → (hRT : RowRep tf1 tg1 th1 tn1 vt) → (hv0 : vs 0 = up2 (fun _ _ => 0) 0 0 1) → (hvs : ∀ n, n < 13 → rowStep 1 bw6 set 0 (jkN set) n (vs n) (vs (n + 1))) → (hRH : RowRep hf1 hg1 hh1 hcx (vs 13)) → (hrL : rowL hh1 hcx (vs 13) cL q) → (h6 : x6 = nI i) → (hi : i ≤ cL) → (hsm : sm = smF (vs 13) (jkN set) q i) → (hfu31 : cL - i < fuel31) → ∀ (H : Heap) (locs : List Loc), va_P D vwCl [(wk, .inr (4, [.ref ws6, .ref fi6, .ref ff6, .ref ga6, .int ft1, .ref ah1, .ref at1, .long set, .long 0, .int (nI (jkN set)), .int 1, .int bw6, .int un1])), (ws6, .inl (cI, 94, .inl wsf)), (fi6, .inl (cI, 94, .inl fq0)), (ff6, .inl (cI, 17, .inl fr0)), (ga6, .inl (cJ, 282, .inr (.inl gq0))), (ah1, .inr (2, [.ref hc1, .ref hl1, .ref ht1, .int hcx])), (hc1, .inl (cJ, 768, .inr (.inl hf1))), (hl1, .inl (cZ, 256, .inl hg1)), (ht1, .inl (cI, 256, .inl hh1)), (at1, .inr (2, [.ref tc1, .ref tl1, .ref tt1, .int tn1])), (tc1, .inl (cJ, 768, .inr (.inl tf1))), (tl1, .inl (cZ, 256, .inl tg1)), (tt1, .inl (cI, 256, .inl th1))] H → va_D A [(wk, .inr (4, [.ref ws6, .ref fi6, .ref ff6, .ref ga6, .int ft1, .ref ah1, .ref at1, .long set, .long 0, .int (nI (jkN set)), .int 1, .int bw6, .int un1])), (ws6, .inl (cI, 94, .inl wsf)), (fi6, .inl (cI, 94, .inl fq0)), (ff6, .inl (cI, 17, .inl fr0)), (ga6, .inl (cJ, 282, .inr (.inl gq0))), (ah1, .inr (2, [.ref hc1, .ref hl1, .ref ht1, .int hcx])), (hc1, .inl (cJ, 768, .inr (.inl hf1))), (hl1, .inl (cZ, 256, .inl hg1)), (ht1, .inl (cI, 256, .inl hh1)), (at1, .inr (2, [.ref tc1, .ref tl1, .ref tt1, .int tn1])), (tc1, .inl (cJ, 768, .inr (.inl tf1))), (tl1, .inl (cZ, 256, .inl tg1)), (tt1, .inl (cI, 256, .inl th1))] → va_S A s.heap H locs → ∀ ls : Array Slot, lv_has ls 7 [(0, .ref wk), (1, .long set), (3, .int x3), (4, .long sm), (6, .int x6)] → W p l e (headSpec wsX6_countLayouts ({ frames := 5, cells := 0, slots := 0, locals := 122 } : Room)).room s m args below meth c H locs 0 0 Q (F0 m 31 ls []) := by
    intro fuel31
    induction fuel31 with
    | zero =>
      intro i vt vs cL q ah1 hc1 hl1 ht1 at1 tc1 tl1 tt1 x3 sm x6 ft1 un1 fq0 fr0 gq0 hcx hf1 hg1 hh1 tn1 tf1 tg1 th1 h3 hr0 hRT hv0 hvs hRH hrL h6 hi hsm hfu31
      exact absurd hfu31 (Nat.not_lt_zero _)
    | succ fuel31 ih31 =>
      intro i vt vs cL q ah1 hc1 hl1 ht1 at1 tc1 tl1 tt1 x3 sm x6 ft1 un1 fq0 fr0 gq0 hcx hf1 hg1 hh1 tn1 tf1 tg1 th1 h3 hr0 hRT hv0 hvs hRH hrL h6 hi hsm hfu31 H locs hP hD hS ls hl
      obtain ⟨hL1, hL2, hL3, hL4, hL5⟩ := hrL
      have hj2 := jkN_le set
      refine lv_iload hx hb dX6_countLayouts_31 (lv_at hl 4 rfl) ?_
      refine lv_aload_n hx hb dX6_countLayouts_33 rfl (lv_at hl 0 rfl) ?_
      refine va_get (D := D) (ci := 4) (v := .ref ah1) (C := RX6) (T := TX6) (N := 13) hx hb hts iX6 hown hK hP 0 rfl rfl 5 (by decide) k28 (fun _ h9 => h9) rfl dX6_countLayouts_34 ?_
      refine va_getN (D := D) (ci := 2) (v := .int hcx) (C := RX3) (T := TX3) (N := 4) hx hb hts iX3 hown hK hP 5 rfl rfl 3 (by decide) k62 (fun _ h9 => h9) rfl dX6_countLayouts_37 ?_
      refine lv_icmp_ge (tgt := 88) hx hb dX6_countLayouts_40 (by decide) (fun c_40 => ?_) (fun c_40 => ?_)
      · have hi9 : i = cL := hp_ge h6 hL1 hi (by omega) c_40
        subst hi9
        refine lv_lload hx hb dX6_countLayouts_88 (lv_at hl 3 rfl) ?_
        rw [← hQ]
        have hP9 := hP.sub (ws' := [(wk, .inr (4, [.ref ws6, .ref fi6, .ref ff6, .ref ga6, .int ft1, .ref ah1, .ref at1, .long set, .long 0, .int (nI (jkN set)), .int 1, .int bw6, .int un1])), (ws6, .inl (cI, 94, .inl wsf)), (fi6, .inl (cI, 94, .inl fq0)), (ff6, .inl (cI, 17, .inl fr0)), (ga6, .inl (cJ, 282, .inr (.inl gq0))), (ah1, .inr (2, [.ref hc1, .ref hl1, .ref ht1, .int hcx])), (hc1, .inl (cJ, 768, .inr (.inl hf1))), (hl1, .inl (cZ, 256, .inl hg1)), (ht1, .inl (cI, 256, .inl hh1)), (at1, .inr (2, [.ref tc1, .ref tl1, .ref tt1, .int tn1])), (tc1, .inl (cJ, 768, .inr (.inl tf1))), (tl1, .inl (cZ, 256, .inl tg1)), (tt1, .inl (cI, 256, .inl th1))]) [0, 1, 2, 3, 4, 5, 6, 7, 8, 9, 10, 11, 12] rfl
        have hD9 := hD.sub (ws' := [(wk, .inr (4, [.ref ws6, .ref fi6, .ref ff6, .ref ga6, .int ft1, .ref ah1, .ref at1, .long set, .long 0, .int (nI (jkN set)), .int 1, .int bw6, .int un1])), (ws6, .inl (cI, 94, .inl wsf)), (fi6, .inl (cI, 94, .inl fq0)), (ff6, .inl (cI, 17, .inl fr0)), (ga6, .inl (cJ, 282, .inr (.inl gq0))), (ah1, .inr (2, [.ref hc1, .ref hl1, .ref ht1, .int hcx])), (hc1, .inl (cJ, 768, .inr (.inl hf1))), (hl1, .inl (cZ, 256, .inl hg1)), (ht1, .inl (cI, 256, .inl hh1)), (at1, .inr (2, [.ref tc1, .ref tl1, .ref tt1, .int tn1])), (tc1, .inl (cJ, 768, .inr (.inl tf1))), (tl1, .inl (cZ, 256, .inl tg1)), (tt1, .inl (cI, 256, .inl th1))]) [0, 1, 2, 3, 4, 5, 6, 7, 8, 9, 10, 11, 12] (by decide) rfl
        exact W.lret (v := sm) hx hb hr (fun t ht hW => ⟨⟨sm, (ah1, hc1, hl1, ht1, at1, tc1, tl1, tt1, hcx, tn1, ft1, un1, fq0, fr0, gq0, hf1, hg1, hh1, tf1, tg1, th1), rfl, ⟨hr0, ⟨vt, hRT⟩, vs, hv0, hvs, hRH, _, q, ⟨hL1, hL2, hL3, hL4, hL5⟩, hsm⟩, (by show wB D A _ t; exact ⟨by rw [ht]; exact hP9, hD9⟩)⟩, hS.F ht⟩) hS.2.2 dX6_countLayouts_90
      · have hlt : i < cL := hp_lt h6 hL1 hi (by omega) c_40
        have hsv : hh1 x6.toNatClampNeg = nI (q i) := by rw [h6, nI_clamp (by omega)]; exact (hL3 i hlt).2
        have hqi := (hL3 i hlt).1
        have hat : j_at hf1 (hh1 x6.toNatClampNeg) x3 = vs 13 (q i) (jkN set) := by rw [j_at_ok hsv h3 hqi (by omega)]; exact row_val hRH hqi (by omega)
        refine lv_aload_n hx hb dX6_countLayouts_43 rfl (lv_at hl 0 rfl) ?_
        refine va_get (D := D) (ci := 4) (v := .ref ah1) (C := RX6) (T := TX6) (N := 13) hx hb hts iX6 hown hK hP 0 rfl rfl 5 (by decide) k28 (fun _ h9 => h9) rfl dX6_countLayouts_44 ?_
        refine va_getN (D := D) (ci := 2) (v := .ref ht1) (C := RX3) (T := TX3) (N := 4) hx hb hts iX3 hown hK hP 5 rfl rfl 2 (by decide) k66 (fun _ h9 => h9) rfl dX6_countLayouts_47 ?_
        refine lv_iload hx hb dX6_countLayouts_50 (lv_at hl 4 rfl) ?_
        refine va_iald hx hb hK hP 8 0 rfl rfl (by rw [h6]; exact vp_in_nI (by omega) (by decide)) dX6_countLayouts_52 ?_
        refine vp_callSi (W.runS (As := [.int (hh1 x6.toNatClampNeg)]) (rest := []) ⟨hx, hb, hml, hown, hts⟩ (k_X5_mayEnd l (hh1 x6.toNatClampNeg) ) (va_cwS 1 hts gX6_countLayouts_X5_mayEnd rfl rfl rfl (by decide +kernel) ⟨Nat.le_of_ble_eq_true rfl, Nat.le_of_ble_eq_true rfl⟩) ⟨pS_fb, pS_pre⟩ rfl rfl hl.1 rfl (lv_room (Nat.le_of_ble_eq_true rfl)) dX6_countLayouts_53 ⟨Nat.le_of_ble_eq_true rfl, Nat.le_of_ble_eq_true rfl⟩) (fun x53 hx53 => ?_)
        subst hx53
        refine lv_if_eq (tgt := 82) hx hb dX6_countLayouts_56 (by decide) (fun c_56 => ?_) (fun c_56 => ?_)
        · obtain ⟨x82, ex82⟩ : ∃ y : Int32, y = x6 + 1 := ⟨_, rfl⟩
          refine lv_iinc (v := x82) (lv' := [(6, .int x82), (0, .ref wk), (1, .long set), (3, .int x3), (4, .long sm)]) hx hb dX6_countLayouts_82 hl (k := 4) rfl (by rw [ex82]; rfl) (by decide) rfl (fun ls hl => ?_)
          refine lv_goto (tgt := 31) hx hb dX6_countLayouts_85 (by decide) ?_
          exact ih31 (i + 1) vt vs cL q ah1 hc1 hl1 ht1 at1 tc1 tl1 tt1 x3 sm x82 ft1 un1 fq0 fr0 gq0 hcx hf1 hg1 hh1 tn1 tf1 tg1 th1 (h3) (hr0) (hRT) (hv0) (hvs) (hRH) (⟨hL1, hL2, hL3, hL4, hL5⟩) (hp_s ex82 h6) (by omega) (by simp only [smF]; first | (rw [if_neg (en_f hsv hqi c_56)]; exact hsm) | (rw [if_pos (en_t hsv hqi c_56), ex80, hat, hsm])) (by omega) _ _ hP hD hS ls (lv_sub hl [1, 2, 3, 4, 0] rfl)
        · refine lv_lload hx hb dX6_countLayouts_59 (lv_at hl 3 rfl) ?_
          refine lv_aload_n hx hb dX6_countLayouts_61 rfl (lv_at hl 0 rfl) ?_
          refine va_get (D := D) (ci := 4) (v := .ref ah1) (C := RX6) (T := TX6) (N := 13) hx hb hts iX6 hown hK hP 0 rfl rfl 5 (by decide) k28 (fun _ h9 => h9) rfl dX6_countLayouts_62 ?_
          refine lv_aload_n hx hb dX6_countLayouts_65 rfl (lv_at hl 0 rfl) ?_
          refine va_get (D := D) (ci := 4) (v := .ref ah1) (C := RX6) (T := TX6) (N := 13) hx hb hts iX6 hown hK hP 0 rfl rfl 5 (by decide) k28 (fun _ h9 => h9) rfl dX6_countLayouts_66 ?_
          refine va_getN (D := D) (ci := 2) (v := .ref ht1) (C := RX3) (T := TX3) (N := 4) hx hb hts iX3 hown hK hP 5 rfl rfl 2 (by decide) k66 (fun _ h9 => h9) rfl dX6_countLayouts_69 ?_
          refine lv_iload hx hb dX6_countLayouts_72 (lv_at hl 4 rfl) ?_
          refine va_iald hx hb hK hP 8 0 rfl rfl (by rw [h6]; exact vp_in_nI (by omega) (by decide)) dX6_countLayouts_74 ?_
          refine lv_iload_n hx hb dX6_countLayouts_75 rfl (lv_at hl 2 rfl) ?_
          have hPc := hP.sub (ws' := [(ah1, .inr (2, [.ref hc1, .ref hl1, .ref ht1, .int hcx])), (hc1, .inl (cJ, 768, .inr (.inl hf1)))]) [5, 6] rfl
          refine vp_callSl (W.runV (As := [.int (hh1 x6.toNatClampNeg), .int x3]) (rest := [.long sm]) ⟨hx, hb, hml, hown, hts⟩ (k_X3_at l D cI cJ cZ ah1 hc1 hl1 ht1 hcx hf1 (hh1 x6.toNatClampNeg) x3 ) (cwV 2 hts gX6_countLayouts_X3_at rfl rfl rfl (by decide +kernel) ⟨Nat.le_of_ble_eq_true rfl, Nat.le_of_ble_eq_true rfl⟩) ⟨wR_fb, va_recv hK hPc (ci := 2) (q0 := 0) rfl rfl, wR_pre hPc ⟨hK, hN⟩⟩ rfl rfl hl.1 rfl (lv_room (Nat.le_of_ble_eq_true rfl)) dX6_countLayouts_76 ⟨Nat.le_of_ble_eq_true rfl, Nat.le_of_ble_eq_true rfl⟩) (fun x76 hx76 => ?_)
          subst hx76
          refine lv_ladd hx hb dX6_countLayouts_79 ?_
          refine lv_topl (fun x80 ex80 => ?_)
          refine lv_lstore (lv' := [(4, .long x80), (0, .ref wk), (1, .long set), (3, .int x3), (6, .int x6)]) hx hb dX6_countLayouts_80 hl (by decide) rfl (fun ls hl => ?_)
          obtain ⟨x82, ex82⟩ : ∃ y : Int32, y = x6 + 1 := ⟨_, rfl⟩
          refine lv_iinc (v := x82) (lv' := [(6, .int x82), (4, .long x80), (0, .ref wk), (1, .long set), (3, .int x3)]) hx hb dX6_countLayouts_82 hl (k := 4) rfl (by rw [ex82]; rfl) (by decide) rfl (fun ls hl => ?_)
          refine lv_goto (tgt := 31) hx hb dX6_countLayouts_85 (by decide) ?_
          exact ih31 (i + 1) vt vs cL q ah1 hc1 hl1 ht1 at1 tc1 tl1 tt1 x3 x80 x82 ft1 un1 fq0 fr0 gq0 hcx hf1 hg1 hh1 tn1 tf1 tg1 th1 (h3) (hr0) (hRT) (hv0) (hvs) (hRH) (⟨hL1, hL2, hL3, hL4, hL5⟩) (hp_s ex82 h6) (by omega) (by simp only [smF]; first | (rw [if_neg (en_f hsv hqi c_56)]; exact hsm) | (rw [if_pos (en_t hsv hqi c_56), ex80, hat, hsm])) (by omega) _ _ hP hD hS ls (lv_sub hl [2, 3, 4, 1, 0] rfl)
  refine lv_aload_n hx hb dX6_countLayouts_0 rfl (lv_at hl 0 rfl) ?_
  refine lv_lload_n hx hb dX6_countLayouts_1 rfl (lv_at hl 1 rfl) ?_
  refine va_put (D := D) (ci := 4) (v := .long set) (ty := .long) (C := RX6) (T := TX6) (N := 13) hx hb hts iX6 tyX6 tyX6_ok nmX6 hown hK hP hD hS 0 rfl rfl 7 (by decide) k41 (fun _ h9 => h9) rfl (by decide +kernel) rfl rfl (Nat.le_of_ble_eq_true rfl) dX6_countLayouts_2 (fun H locs hP hD hS => ?_)
  have hP : va_P D vwCl [(wk, .inr (4, [.ref ws6, .ref fi6, .ref ff6, .ref ga6, .int ft6, .ref ahr, .ref atr, .long set, .long my6, .int jk6, .int ct6, .int bw6, .int un6])), (ws6, .inl (cI, 94, .inl wsf)), (fi6, .inl (cI, 94, .inl fif)), (ff6, .inl (cI, 17, .inl fff)), (ga6, .inl (cJ, 282, .inr (.inl gf))), (ahr, .inr (2, [.ref hca, .ref hla, .ref hta, .int hcn])), (hca, .inl (cJ, 768, .inr (.inl hcf))), (hla, .inl (cZ, 256, .inl hlf)), (hta, .inl (cI, 256, .inl htf)), (atr, .inr (2, [.ref tca, .ref tla, .ref tta, .int tcn])), (tca, .inl (cJ, 768, .inr (.inl tcf))), (tla, .inl (cZ, 256, .inl tlf)), (tta, .inl (cI, 256, .inl ttf))] H := hP
  have hD : va_D A [(wk, .inr (4, [.ref ws6, .ref fi6, .ref ff6, .ref ga6, .int ft6, .ref ahr, .ref atr, .long set, .long my6, .int jk6, .int ct6, .int bw6, .int un6])), (ws6, .inl (cI, 94, .inl wsf)), (fi6, .inl (cI, 94, .inl fif)), (ff6, .inl (cI, 17, .inl fff)), (ga6, .inl (cJ, 282, .inr (.inl gf))), (ahr, .inr (2, [.ref hca, .ref hla, .ref hta, .int hcn])), (hca, .inl (cJ, 768, .inr (.inl hcf))), (hla, .inl (cZ, 256, .inl hlf)), (hta, .inl (cI, 256, .inl htf)), (atr, .inr (2, [.ref tca, .ref tla, .ref tta, .int tcn])), (tca, .inl (cJ, 768, .inr (.inl tcf))), (tla, .inl (cZ, 256, .inl tlf)), (tta, .inl (cI, 256, .inl ttf))] := hD
  refine lv_aload_n hx hb dX6_countLayouts_5 rfl (lv_at hl 0 rfl) ?_
  refine lv_lconst (v := 0) hx hb dX6_countLayouts_6 (by decide) ?_
  refine va_put (D := D) (ci := 4) (v := .long 0) (ty := .long) (C := RX6) (T := TX6) (N := 13) hx hb hts iX6 tyX6 tyX6_ok nmX6 hown hK hP hD hS 0 rfl rfl 8 (by decide) k45 (fun _ h9 => h9) rfl (by decide +kernel) rfl rfl (Nat.le_of_ble_eq_true rfl) dX6_countLayouts_7 (fun H locs hP hD hS => ?_)
  have hP : va_P D vwCl [(wk, .inr (4, [.ref ws6, .ref fi6, .ref ff6, .ref ga6, .int ft6, .ref ahr, .ref atr, .long set, .long 0, .int jk6, .int ct6, .int bw6, .int un6])), (ws6, .inl (cI, 94, .inl wsf)), (fi6, .inl (cI, 94, .inl fif)), (ff6, .inl (cI, 17, .inl fff)), (ga6, .inl (cJ, 282, .inr (.inl gf))), (ahr, .inr (2, [.ref hca, .ref hla, .ref hta, .int hcn])), (hca, .inl (cJ, 768, .inr (.inl hcf))), (hla, .inl (cZ, 256, .inl hlf)), (hta, .inl (cI, 256, .inl htf)), (atr, .inr (2, [.ref tca, .ref tla, .ref tta, .int tcn])), (tca, .inl (cJ, 768, .inr (.inl tcf))), (tla, .inl (cZ, 256, .inl tlf)), (tta, .inl (cI, 256, .inl ttf))] H := hP
  have hD : va_D A [(wk, .inr (4, [.ref ws6, .ref fi6, .ref ff6, .ref ga6, .int ft6, .ref ahr, .ref atr, .long set, .long 0, .int jk6, .int ct6, .int bw6, .int un6])), (ws6, .inl (cI, 94, .inl wsf)), (fi6, .inl (cI, 94, .inl fif)), (ff6, .inl (cI, 17, .inl fff)), (ga6, .inl (cJ, 282, .inr (.inl gf))), (ahr, .inr (2, [.ref hca, .ref hla, .ref hta, .int hcn])), (hca, .inl (cJ, 768, .inr (.inl hcf))), (hla, .inl (cZ, 256, .inl hlf)), (hta, .inl (cI, 256, .inl htf)), (atr, .inr (2, [.ref tca, .ref tla, .ref tta, .int tcn])), (tca, .inl (cJ, 768, .inr (.inl tcf))), (tla, .inl (cZ, 256, .inl tlf)), (tta, .inl (cI, 256, .inl ttf))] := hD
  refine lv_aload_n hx hb dX6_countLayouts_10 rfl (lv_at hl 0 rfl) ?_
  refine lv_iconst (v := 1) hx hb dX6_countLayouts_11 (by decide) ?_
  refine va_put (D := D) (ci := 4) (v := .int 1) (ty := .boolean) (C := RX6) (T := TX6) (N := 13) hx hb hts iX6 tyX6 tyX6_ok nmX6 hown hK hP hD hS 0 rfl rfl 10 (by decide) k48 (fun _ h9 => h9) rfl (by decide +kernel) rfl rfl (Nat.le_of_ble_eq_true rfl) dX6_countLayouts_12 (fun H locs hP hD hS => ?_)
  have hP : va_P D vwCl [(wk, .inr (4, [.ref ws6, .ref fi6, .ref ff6, .ref ga6, .int ft6, .ref ahr, .ref atr, .long set, .long 0, .int jk6, .int 1, .int bw6, .int un6])), (ws6, .inl (cI, 94, .inl wsf)), (fi6, .inl (cI, 94, .inl fif)), (ff6, .inl (cI, 17, .inl fff)), (ga6, .inl (cJ, 282, .inr (.inl gf))), (ahr, .inr (2, [.ref hca, .ref hla, .ref hta, .int hcn])), (hca, .inl (cJ, 768, .inr (.inl hcf))), (hla, .inl (cZ, 256, .inl hlf)), (hta, .inl (cI, 256, .inl htf)), (atr, .inr (2, [.ref tca, .ref tla, .ref tta, .int tcn])), (tca, .inl (cJ, 768, .inr (.inl tcf))), (tla, .inl (cZ, 256, .inl tlf)), (tta, .inl (cI, 256, .inl ttf))] H := hP
  have hD : va_D A [(wk, .inr (4, [.ref ws6, .ref fi6, .ref ff6, .ref ga6, .int ft6, .ref ahr, .ref atr, .long set, .long 0, .int jk6, .int 1, .int bw6, .int un6])), (ws6, .inl (cI, 94, .inl wsf)), (fi6, .inl (cI, 94, .inl fif)), (ff6, .inl (cI, 17, .inl fff)), (ga6, .inl (cJ, 282, .inr (.inl gf))), (ahr, .inr (2, [.ref hca, .ref hla, .ref hta, .int hcn])), (hca, .inl (cJ, 768, .inr (.inl hcf))), (hla, .inl (cZ, 256, .inl hlf)), (hta, .inl (cI, 256, .inl htf)), (atr, .inr (2, [.ref tca, .ref tla, .ref tta, .int tcn])), (tca, .inl (cJ, 768, .inr (.inl tcf))), (tla, .inl (cZ, 256, .inl tlf)), (tta, .inl (cI, 256, .inl ttf))] := hD
  refine lv_lload_n hx hb dX6_countLayouts_15 rfl (lv_at hl 1 rfl) ?_
  refine vp_callSi (W.runS (As := [.long set]) (rest := []) ⟨hx, hb, hml, hown, hts⟩ (k_X0_jokersIn l set ) (va_cwS 1 hts gX6_countLayouts_X0_jokersIn rfl rfl rfl (by decide +kernel) ⟨Nat.le_of_ble_eq_true rfl, Nat.le_of_ble_eq_true rfl⟩) ⟨pS_fb, pS_pre⟩ rfl rfl hl.1 rfl (lv_room (Nat.le_of_ble_eq_true rfl)) dX6_countLayouts_16 ⟨Nat.le_of_ble_eq_true rfl, Nat.le_of_ble_eq_true rfl⟩) (fun x16 hx16 => ?_)
  subst hx16
  refine lv_topi (fun x19 ex19 => ?_)
  refine lv_istore_n (lv' := [(3, .int x19), (0, .ref wk), (1, .long set)]) hx hb dX6_countLayouts_19 rfl hl (by decide) rfl (fun ls hl => ?_)
  have h19 : x19 = nI (jkN set) := by rw [ex19]; exact jn_jk hset
  have hj2 := jkN_le set
  refine lv_aload_n hx hb dX6_countLayouts_20 rfl (lv_at hl 1 rfl) ?_
  refine lv_iload_n hx hb dX6_countLayouts_21 rfl (lv_at hl 0 rfl) ?_
  have hPc := hP.sub (ws' := [(wk, .inr (4, [.ref ws6, .ref fi6, .ref ff6, .ref ga6, .int ft6, .ref ahr, .ref atr, .long set, .long 0, .int jk6, .int 1, .int bw6, .int un6])), (ws6, .inl (cI, 94, .inl wsf)), (fi6, .inl (cI, 94, .inl fif)), (ff6, .inl (cI, 17, .inl fff)), (ga6, .inl (cJ, 282, .inr (.inl gf))), (ahr, .inr (2, [.ref hca, .ref hla, .ref hta, .int hcn])), (hca, .inl (cJ, 768, .inr (.inl hcf))), (hla, .inl (cZ, 256, .inl hlf)), (hta, .inl (cI, 256, .inl htf)), (atr, .inr (2, [.ref tca, .ref tla, .ref tta, .int tcn])), (tca, .inl (cJ, 768, .inr (.inl tcf))), (tla, .inl (cZ, 256, .inl tlf)), (tta, .inl (cI, 256, .inl ttf))]) [0, 1, 2, 3, 4, 5, 6, 7, 8, 9, 10, 11, 12] rfl
  have hDc := hD.sub (ws' := [(wk, .inr (4, [.ref ws6, .ref fi6, .ref ff6, .ref ga6, .int ft6, .ref ahr, .ref atr, .long set, .long 0, .int jk6, .int 1, .int bw6, .int un6])), (ws6, .inl (cI, 94, .inl wsf)), (fi6, .inl (cI, 94, .inl fif)), (ff6, .inl (cI, 17, .inl fff)), (ga6, .inl (cJ, 282, .inr (.inl gf))), (ahr, .inr (2, [.ref hca, .ref hla, .ref hta, .int hcn])), (hca, .inl (cJ, 768, .inr (.inl hcf))), (hla, .inl (cZ, 256, .inl hlf)), (hta, .inl (cI, 256, .inl htf)), (atr, .inr (2, [.ref tca, .ref tla, .ref tta, .int tcn])), (tca, .inl (cJ, 768, .inr (.inl tcf))), (tla, .inl (cZ, 256, .inl tlf)), (tta, .inl (cI, 256, .inl ttf))]) [0, 1, 2, 3, 4, 5, 6, 7, 8, 9, 10, 11, 12] (by decide) rfl
  have hFc := va_free (wc := [(wk, .inr (4, [.ref ws6, .ref fi6, .ref ff6, .ref ga6, .int ft6, .ref ahr, .ref atr, .long set, .long 0, .int jk6, .int 1, .int bw6, .int un6])), (ws6, .inl (cI, 94, .inl wsf)), (fi6, .inl (cI, 94, .inl fif)), (ff6, .inl (cI, 17, .inl fff)), (ga6, .inl (cJ, 282, .inr (.inl gf))), (ahr, .inr (2, [.ref hca, .ref hla, .ref hta, .int hcn])), (hca, .inl (cJ, 768, .inr (.inl hcf))), (hla, .inl (cZ, 256, .inl hlf)), (hta, .inl (cI, 256, .inl htf)), (atr, .inr (2, [.ref tca, .ref tla, .ref tta, .int tcn])), (tca, .inl (cJ, 768, .inr (.inl tcf))), (tla, .inl (cZ, 256, .inl tlf)), (tta, .inl (cI, 256, .inl ttf))]) hD hS hA [0, 1, 2, 3, 4, 5, 6, 7, 8, 9, 10, 11, 12] rfl
  refine va_callv (va_runV (As := [.int x19]) (rest := []) ⟨hx, hb, hml, hown, hts⟩ (k_X6_goThrough l D cI cJ cZ H.size wk ws6 fi6 ff6 ga6 ahr atr ft6 jk6 1 bw6 un6 set 0 hca hla hta tca tla tta hcn tcn (jkN set) wsf fif fff gf hcf tcf hlf htf tlf ttf v0 v1 x19 (hj2) (h19) (hws) (hf0) (hrH) (hrT)) (cwV 1 hts gX6_countLayouts_X6_goThrough rfl rfl rfl (by decide +kernel) ⟨Nat.le_of_ble_eq_true rfl, Nat.le_of_ble_eq_true rfl⟩) ⟨wM_fb, va_recv hK hPc (ci := 4) (q0 := 0) rfl rfl, wM_pre hPc ⟨hK, hN⟩ hDc⟩ rfl rfl hl.1 rfl (lv_room (Nat.le_of_ble_eq_true rfl)) dX6_countLayouts_22 ⟨Nat.le_of_ble_eq_true rfl, Nat.le_of_ble_eq_true rfl⟩) hS (fun q _ h => hFc q h) hFc (fun u t H1 locs ht hvm hx22 hB hz1 hk1 hS => ?_)
  obtain ⟨ah2_x22, hc2_x22, hl2_x22, ht2_x22, at2_x22, tc2_x22, tl2_x22, tt2_x22, hcn2_x22, tcn2_x22, ft2_x22, un2_x22, fif2_x22, fff2_x22, gf2_x22, hcf2_x22, hlf2_x22, htf2_x22, tcf2_x22, tlf2_x22, ttf2_x22⟩ := u
  obtain ⟨hP1, hD1⟩ := hB
  rw [ht] at hP1
  obtain ⟨hP, hD⟩ := va_join (wr := []) (w1 := [(wk, .inr (4, [.ref ws6, .ref fi6, .ref ff6, .ref ga6, .int ft2_x22, .ref ah2_x22, .ref at2_x22, .long set, .long 0, .int (nI (jkN set)), .int 1, .int bw6, .int un2_x22])), (ws6, .inl (cI, 94, .inl wsf)), (fi6, .inl (cI, 94, .inl fif2_x22)), (ff6, .inl (cI, 17, .inl fff2_x22)), (ga6, .inl (cJ, 282, .inr (.inl gf2_x22))), (ah2_x22, .inr (2, [.ref hc2_x22, .ref hl2_x22, .ref ht2_x22, .int hcn2_x22])), (hc2_x22, .inl (cJ, 768, .inr (.inl hcf2_x22))), (hl2_x22, .inl (cZ, 256, .inl hlf2_x22)), (ht2_x22, .inl (cI, 256, .inl htf2_x22)), (at2_x22, .inr (2, [.ref tc2_x22, .ref tl2_x22, .ref tt2_x22, .int tcn2_x22])), (tc2_x22, .inl (cJ, 768, .inr (.inl tcf2_x22))), (tl2_x22, .inl (cZ, 256, .inl tlf2_x22)), (tt2_x22, .inl (cI, 256, .inl ttf2_x22))]) hP hD [0, 1, 2, 3, 4, 5, 6, 7, 8, 9, 10, 11, 12] [] rfl rfl (by decide) (by decide) hk1 hFc hP1 hD1
  generalize H1 = H at hP hS ⊢
  have hP : va_P D vwCl [(wk, .inr (4, [.ref ws6, .ref fi6, .ref ff6, .ref ga6, .int ft2_x22, .ref ah2_x22, .ref at2_x22, .long set, .long 0, .int (nI (jkN set)), .int 1, .int bw6, .int un2_x22])), (ws6, .inl (cI, 94, .inl wsf)), (fi6, .inl (cI, 94, .inl fif2_x22)), (ff6, .inl (cI, 17, .inl fff2_x22)), (ga6, .inl (cJ, 282, .inr (.inl gf2_x22))), (ah2_x22, .inr (2, [.ref hc2_x22, .ref hl2_x22, .ref ht2_x22, .int hcn2_x22])), (hc2_x22, .inl (cJ, 768, .inr (.inl hcf2_x22))), (hl2_x22, .inl (cZ, 256, .inl hlf2_x22)), (ht2_x22, .inl (cI, 256, .inl htf2_x22)), (at2_x22, .inr (2, [.ref tc2_x22, .ref tl2_x22, .ref tt2_x22, .int tcn2_x22])), (tc2_x22, .inl (cJ, 768, .inr (.inl tcf2_x22))), (tl2_x22, .inl (cZ, 256, .inl tlf2_x22)), (tt2_x22, .inl (cI, 256, .inl ttf2_x22))] H := hP
  have hD : va_D A [(wk, .inr (4, [.ref ws6, .ref fi6, .ref ff6, .ref ga6, .int ft2_x22, .ref ah2_x22, .ref at2_x22, .long set, .long 0, .int (nI (jkN set)), .int 1, .int bw6, .int un2_x22])), (ws6, .inl (cI, 94, .inl wsf)), (fi6, .inl (cI, 94, .inl fif2_x22)), (ff6, .inl (cI, 17, .inl fff2_x22)), (ga6, .inl (cJ, 282, .inr (.inl gf2_x22))), (ah2_x22, .inr (2, [.ref hc2_x22, .ref hl2_x22, .ref ht2_x22, .int hcn2_x22])), (hc2_x22, .inl (cJ, 768, .inr (.inl hcf2_x22))), (hl2_x22, .inl (cZ, 256, .inl hlf2_x22)), (ht2_x22, .inl (cI, 256, .inl htf2_x22)), (at2_x22, .inr (2, [.ref tc2_x22, .ref tl2_x22, .ref tt2_x22, .int tcn2_x22])), (tc2_x22, .inl (cJ, 768, .inr (.inl tcf2_x22))), (tl2_x22, .inl (cZ, 256, .inl tlf2_x22)), (tt2_x22, .inl (cI, 256, .inl ttf2_x22))] := hD
  try dsimp only at hx22
  obtain ⟨g1, ⟨vt, g2⟩, vs, g3, g4, g5⟩ := hx22
  obtain ⟨cL, q, g6⟩ := rowL_of g5
  refine lv_lconst (v := 0) hx hb dX6_countLayouts_25 (by decide) ?_
  refine lv_lstore (lv' := [(4, .long 0), (3, .int x19), (0, .ref wk), (1, .long set)]) hx hb dX6_countLayouts_26 hl (by decide) rfl (fun ls hl => ?_)
  refine lv_iconst (v := 0) hx hb dX6_countLayouts_28 (by decide) ?_
  refine lv_istore (lv' := [(6, .int 0), (4, .long 0), (3, .int x19), (0, .ref wk), (1, .long set)]) hx hb dX6_countLayouts_29 hl (by decide) rfl (fun ls hl => ?_)
  exact lab31 _ 0 vt vs cL q ah2_x22 hc2_x22 hl2_x22 ht2_x22 at2_x22 tc2_x22 tl2_x22 tt2_x22 x19 0 0 ft2_x22 un2_x22 fif2_x22 fff2_x22 gf2_x22 hcn2_x22 hcf2_x22 hlf2_x22 htf2_x22 tcn2_x22 tcf2_x22 tlf2_x22 ttf2_x22 (h19) (g1) (g2) (g3) (g4) (g5) (g6) (nI_0.symm) (by omega) (rfl) (Nat.lt_succ_self _) _ _ hP hD hS ls (lv_sub hl [3, 4, 2, 1, 0] rfl)
