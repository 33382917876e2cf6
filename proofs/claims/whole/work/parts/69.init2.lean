def posG : Nat → Nat
  | 0 => 0
  | c + 1 => posG c + bN (gok c)
theorem pg_st : ∀ cd, cd < 256 → gok cd = true → posG cd < 94 ∧ stT (posG cd) = stC cd := by decide +kernel
theorem pg_94 : posG 256 = 94 := by decide +kernel
theorem fp_st : ∀ cd, cd < 256 → j_X5_fromPlaces (nI cd) = nI (stC cd) := by decide +kernel
theorem fp_gr : ∀ cd, cd < 256 → j_bcI (j_X5_grouped (nI (stC cd))) = nI (gN cd) := by decide +kernel
theorem gN_lt (cd : Nat) : gN cd ≤ 4 := by have h0 := g1_le (cdP cd 0); have h1 := g1_le (cdP cd 1); have h2 := g1_le (cdP cd 2); have h3 := g1_le (cdP cd 3); unfold gN; omega
theorem gok_y {cd : Nat} (h : gN cd = 0 ∨ 3 ≤ gN cd) : gok cd = true := by
  unfold gok
  have h1 : (gN cd == 1) = false := by simp; omega
  have h2 : (gN cd == 2) = false := by simp; omega
  rw [h1, h2]; rfl
theorem gok_n {cd : Nat} (h : ¬ gN cd = 0) (h2 : gN cd < 3) : gok cd = false := by
  unfold gok
  have z : gN cd = 1 ∨ gN cd = 2 := by omega
  rcases z with z | z <;> rw [z] <;> rfl
theorem pg_y {cd : Nat} (h : gok cd = true) : posG (cd + 1) = posG cd + 1 := by show posG cd + bN (gok cd) = _; rw [h]; rfl
theorem pg_n {cd : Nat} (h : gok cd = false) : posG (cd + 1) = posG cd := by show posG cd + bN (gok cd) = _; rw [h]; rfl
theorem ar_put {f g : Nat → Int32} {x v : Int32} {i : Nat} {F : Nat → Int32} (e : upd f x.toNatClampNeg v = g) (hx : x = nI i) (hi : i < 2 ^ 31) (hv : v = F i) (h : ∀ k, k < i → f k = F k) : ∀ k, k < i + 1 → g k = F k := by
  subst hx
  rw [nI_clamp hi] at e
  subst e
  intro k hk
  by_cases q : k = i
  · subst q; rw [pk_us]; exact hv
  · rw [pk_un q]; exact h k (by omega)
/-- how many of the first i steps go on with these colours -/
def wc (on : Nat) : Nat → Nat
  | 0 => 0
  | i + 1 => wc on i + bN (t_co (stT i) == on)
theorem wc_at : ∀ on, on < 16 → ∀ i, i < 94 → t_co (stT i) = on → lbT on + wc on i < 94 ∧ wkT (lbT on + wc on i) = stT i := by decide +kernel
theorem wc_94 : ∀ on, on < 16 → lbT on + wc on 94 = lbT (on + 1) := by decide +kernel
theorem wc_mono (on : Nat) : ∀ i j, wc on i ≤ wc on (i + j)
  | i, 0 => Nat.le_refl _
  | i, j + 1 => Nat.le_trans (wc_mono on i j) (Nat.le_add_right _ _)
theorem wc_le {on i : Nat} (ho : on < 16) (hi : i ≤ 94) : lbT on + wc on i ≤ 94 := by
  have h1 := wc_mono on i (94 - i)
  rw [show i + (94 - i) = 94 by omega] at h1
  have h2 := wc_94 on ho
  have h3 := (lb_94 on ho).2
  omega
theorem wc_end {on i : Nat} (ho : on < 16) (hi : i ≤ 94) (h : 94 ≤ lbT on + wc on i) : lbT on + wc on i = lbT (on + 1) := by
  have h1 := wc_mono on i (94 - i)
  rw [show i + (94 - i) = 94 by omega] at h1
  have h2 := wc_94 on ho
  have h3 := (lb_94 on ho).2
  omega
theorem wc_y {on i : Nat} (h : t_co (stT i) = on) : wc on (i + 1) = wc on i + 1 := by show wc on i + bN (t_co (stT i) == on) = _; rw [h]; simp [bN]
theorem wc_n {on i : Nat} (h : ¬ t_co (stT i) = on) : wc on (i + 1) = wc on i := by show wc on i + bN (t_co (stT i) == on) = _; simp [h, bN]
theorem row_0 : RowRep (fun _ => 0) (fun _ => 0) (fun _ => 0) 0 (fun _ _ => 0) := ⟨0, fun _ => 0, rfl, by decide, fun i hi => absurd hi (Nat.not_lt_zero i), fun i j hi => absurd hi (Nat.not_lt_zero i), fun s _ => Or.inr ⟨rfl, fun _ _ => rfl⟩, fun _ _ _ _ => rfl⟩
set_option maxHeartbeats 4000000 in
set_option maxRecDepth 100000 in
theorem k_X5_allInOrder (l : Launch) (D : va_G) (cI cJ cZ : ClassId) (sz : Nat)   : Met l yX5_allInOrder wsX5_allInOrder ({ frames := 1, cells := 1, slots := 94, locals := 23 } : Room) (va_Pc [] (wM D cI cJ cZ sz [])) (va_Qr (fun (u : (Nat → Int32)) => match u with | f2 => (∀ i, i < 94 → f2 i = nI (stT i))) (fun (u : (Nat → Int32)) (ra : Nat) t => match u with | f2 => wB D (va_A [] sz) [(ra, .inl (cI, 94, .inl f2))] t) (va_A [] sz)) 1 94 (va_A [] sz) := by
  refine Met.ofW (cc := cX5_allInOrder) (maxL := 5) (ret := (some (.array .int))) (by decide) rfl ?_
  intro p e s m args below meth c s₁ B hml hv
  obtain ⟨hargs, hsz, hP, ⟨hK, hN⟩, hD0⟩ := hv
  have hx := B.exec
  have hb := B.bytes
  have hr := B.returns
  have hlocks := B.notSynchronized
  have hts := atoms_spec (ws := wsX5_allInOrder) B.pre
  have hown : s.vm.findClass RX5 = some m.cls := findClass_of_methodNamed B.named
  have k9 := hts (.methodLink RX5 9 yX5_fromPlaces) (by decide +kernel)
  have k15 := hts (.methodLink RX5 15 yX5_grouped) (by decide +kernel)
  have k18 := hts (.methodLink RX5 18 yJ6_bitCount_0f7a4) (by decide +kernel)
  have acI := hts (.arrayClass .int) (by decide +kernel)
  subst hsz
  have hD := hD0.self (sz := s.heap.size)
  generalize hAe : va_A [] s.heap.size = A at hD ⊢
  have hA : ∀ q : Nat, s.heap.size ≤ q → A q := fun q h => by rw [← hAe]; exact Or.inr h
  have hS : va_S A s.heap s.heap [] := va_S.rf
  rw [show entryFrame m args 5 = entryFrame m ([] : List Value).toArray 5 from by rw [hargs]]
  have hl := lv_entry ([]) (n := 5) (Nat.le_of_ble_eq_true rfl)
  rw [lg_entry_eq]
  generalize (lg_sl ([]) ++ List.replicate (5 - (lg_sl ([])).length) Slot.unset).toArray = ls at hl ⊢
  have hl : lv_has ls 5 [] := hl
  refine wQ (fun Q hQ => ?_)
  have lab9 : ∀ fuel9 : Nat, ∀ (cd : Nat) (ar : Nat) (x1 : Int32) (x2 : Int32) (aq : Nat → Int32), (h2 : x2 = nI cd) → (hcd : cd ≤ 256) → (h1 : x1 = nI (posG cd)) → (hq : ∀ k, k < posG cd → aq k = nI (stT k)) → (hfu9 : 256 - cd < fuel9) → ∀ (H : Heap) (locs : List Loc), va_P D vwCl [(ar, .inl (cI, 94, .inl aq))] H → va_D A [(ar, .inl (cI, 94, .inl aq))] → va_S A s.heap H locs → ∀ ls : Array Slot, lv_has ls 5 [(0, .ref ar), (1, .int x1), (2, .int x2)] → W p l e (headSpec wsX5_allInOrder ({ frames := 1, cells := 1, slots := 94, locals := 23 } : Room)).room s m args below meth c H locs 1 94 Q (F0 m 9 ls []) := by
    intro fuel9
    induction fuel9 with
    | zero =>
      intro cd ar x1 x2 aq h2 hcd h1 hq hfu9
      exact absurd hfu9 (Nat.not_lt_zero _)
    | succ fuel9 ih9 =>
      intro cd ar x1 x2 aq h2 hcd h1 hq hfu9 H locs hP hD hS ls hl
      refine lv_iload_n hx hb dX5_allInOrder_9 rfl (lv_at hl 2 rfl) ?_
      refine lv_sipush (v := 256) hx hb dX5_allInOrder_10 (by decide) ?_
      refine lv_icmp_ge (tgt := 60) hx hb dX5_allInOrder_13 (by decide) (fun c_13 => ?_) (fun c_13 => ?_)
      · have hc9 : cd = 256 := hp_ge h2 (by decide : (256 : Int32) = nI 256) hcd (by decide) c_13
        subst hc9
        rw [pg_94] at hq
        refine lv_aload_n hx hb dX5_allInOrder_60 rfl (lv_at hl 0 rfl) ?_
        rw [← hQ]
        have hP9 := hP.sub (ws' := [(ar, .inl (cI, 94, .inl aq))]) [0] rfl
        have hD9 := hD.sub (ws' := [(ar, .inl (cI, 94, .inl aq))]) [0] (by decide) rfl
        exact W.aret (v := .ref ar) hx hb hr (Or.inr ⟨_, rfl⟩) (Or.inr ⟨_, rfl⟩) (fun t ht hW => ⟨⟨aq, ar, rfl, hq, (by show wB D A _ t; exact ⟨by rw [ht]; exact hP9, hD9⟩)⟩, hS.F ht⟩) hS.2.2 dX5_allInOrder_61
      · have hlt : cd < 256 := hp_lt h2 (by decide : (256 : Int32) = nI 256) hcd (by decide) c_13
        refine lv_iload_n hx hb dX5_allInOrder_16 rfl (lv_at hl 2 rfl) ?_
        refine vp_callSi (W.runS (As := [.int x2]) (rest := []) ⟨hx, hb, hml, hown, hts⟩ (k_X5_fromPlaces l x2 ) (va_cwS 1 hts gX5_allInOrder_X5_fromPlaces rfl rfl rfl (by decide +kernel) ⟨Nat.le_of_ble_eq_true rfl, Nat.le_of_ble_eq_true rfl⟩) ⟨pS_fb, pS_pre⟩ rfl rfl hl.1 rfl (lv_room (Nat.le_of_ble_eq_true rfl)) dX5_allInOrder_17 ⟨Nat.le_of_ble_eq_true rfl, Nat.le_of_ble_eq_true rfl⟩) (fun x17 hx17 => ?_)
        subst hx17
        refine lv_topi (fun x20 ex20 => ?_)
        refine lv_istore_n (lv' := [(3, .int x20), (0, .ref ar), (1, .int x1), (2, .int x2)]) hx hb dX5_allInOrder_20 rfl hl (by decide) rfl (fun ls hl => ?_)
        have hfp : x20 = nI (stC cd) := by rw [ex20, h2]; exact fp_st cd hlt
        refine lv_iload_n hx hb dX5_allInOrder_21 rfl (lv_at hl 0 rfl) ?_
        refine vp_callSi (W.runS (As := [.int x20]) (rest := []) ⟨hx, hb, hml, hown, hts⟩ (k_X5_grouped l x20 ) (va_cwS 1 hts gX5_allInOrder_X5_grouped rfl rfl rfl (by decide +kernel) ⟨Nat.le_of_ble_eq_true rfl, Nat.le_of_ble_eq_true rfl⟩) ⟨pS_fb, pS_pre⟩ rfl rfl hl.1 rfl (lv_room (Nat.le_of_ble_eq_true rfl)) dX5_allInOrder_22 ⟨Nat.le_of_ble_eq_true rfl, Nat.le_of_ble_eq_true rfl⟩) (fun x22 hx22 => ?_)
        subst hx22
        refine vp_callSi (W.runS (As := [.int (j_X5_grouped x20)]) (rest := []) ⟨hx, hb, hml, hown, hts⟩ (k_J6_bitCount_0f7a4 l (j_X5_grouped x20) ) (va_cwS 1 hts gX5_allInOrder_J6_bitCount_0f7a4 rfl rfl rfl (by decide +kernel) ⟨Nat.le_of_ble_eq_true rfl, Nat.le_of_ble_eq_true rfl⟩) ⟨pS_fb, pS_pre⟩ rfl rfl hl.1 rfl (lv_room (Nat.le_of_ble_eq_true rfl)) dX5_allInOrder_25 ⟨Nat.le_of_ble_eq_true rfl, Nat.le_of_ble_eq_true rfl⟩) (fun x25 hx25 => ?_)
        subst hx25
        refine lv_topi (fun x28 ex28 => ?_)
        refine lv_istore (lv' := [(4, .int x28), (3, .int x20), (0, .ref ar), (1, .int x1), (2, .int x2)]) hx hb dX5_allInOrder_28 hl (by decide) rfl (fun ls hl => ?_)
        have hgn : x28 = nI (gN cd) := by rw [ex28, hfp]; exact fp_gr cd hlt
        have hg4 := gN_lt cd
        refine lv_iload hx hb dX5_allInOrder_30 (lv_at hl 0 rfl) ?_
        refine lv_if_eq (tgt := 41) hx hb dX5_allInOrder_32 (by decide) (fun c_32 => ?_) (fun c_32 => ?_)
        · have hgk : gok cd = true := gok_y (Or.inl ((nI_eq (by omega) (by decide)).mp (show nI (gN cd) = nI 0 from hgn.symm.trans c_32)))
          have hps := pg_st cd hlt hgk
          refine lv_iload_n hx hb dX5_allInOrder_41 rfl (lv_at hl 3 rfl) ?_
          refine lv_bipush (v := 94) hx hb dX5_allInOrder_42 (by decide) ?_
          refine lv_icmp_ge (tgt := 54) hx hb dX5_allInOrder_44 (by decide) (fun c_44 => ?_) (fun c_44 => ?_)
          · exact absurd c_44 (by rw [h1, show (94 : Int32) = nI 94 from rfl, nI_leI (by decide) (by omega)]; omega)
          · refine lv_aload_n hx hb dX5_allInOrder_47 rfl (lv_at hl 2 rfl) ?_
            refine lv_iload_n hx hb dX5_allInOrder_48 rfl (lv_at hl 3 rfl) ?_
            refine lv_iload_n hx hb dX5_allInOrder_49 rfl (lv_at hl 1 rfl) ?_
            refine va_iast hx hb hK hP hD hS 0 0 rfl rfl (by rw [h1]; exact vp_in_nI (by omega) (by decide)) dX5_allInOrder_50 (fun H locs hP hD hS => ?_)
            have hP : va_P D vwCl [(ar, .inl (cI, 94, .inl (upd aq x1.toNatClampNeg x20)))] H := hP
            have hD : va_D A [(ar, .inl (cI, 94, .inl (upd aq x1.toNatClampNeg x20)))] := hD
            generalize ex50 : upd aq x1.toNatClampNeg x20 = x50 at hP hD
            obtain ⟨x51, ex51⟩ : ∃ y : Int32, y = x1 + 1 := ⟨_, rfl⟩
            refine lv_iinc (v := x51) (lv' := [(1, .int x51), (4, .int x28), (3, .int x20), (0, .ref ar), (2, .int x2)]) hx hb dX5_allInOrder_51 hl (k := 3) rfl (by rw [ex51]; rfl) (by decide) rfl (fun ls hl => ?_)
            obtain ⟨x54, ex54⟩ : ∃ y : Int32, y = x2 + 1 := ⟨_, rfl⟩
            refine lv_iinc (v := x54) (lv' := [(2, .int x54), (1, .int x51), (4, .int x28), (3, .int x20), (0, .ref ar)]) hx hb dX5_allInOrder_54 hl (k := 4) rfl (by rw [ex54]; rfl) (by decide) rfl (fun ls hl => ?_)
            refine lv_goto (tgt := 9) hx hb dX5_allInOrder_57 (by decide) ?_
            exact ih9 (cd + 1) ar x51 x54 x50 (hp_s ex54 h2) (by omega) (by first | (rw [pg_n hgk]; exact h1) | (rw [pg_y hgk]; exact hp_s ex51 h1)) (by first | (rw [pg_n hgk]; exact hq) | (rw [pg_y hgk]; exact ar_put (i := posG cd) (F := fun k => nI (stT k)) ex50 h1 (by omega) (by rw [hfp, (pg_st cd hlt hgk).2]) hq)) (by omega) _ _ hP hD hS ls (lv_sub hl [4, 1, 0] rfl)
        · have hg0 : ¬ gN cd = 0 := fun z => c_32 (by rw [hgn, z]; rfl)
          refine lv_iload hx hb dX5_allInOrder_35 (lv_at hl 0 rfl) ?_
          refine lv_iconst (v := 3) hx hb dX5_allInOrder_37 (by decide) ?_
          refine lv_icmp_lt (tgt := 54) hx hb dX5_allInOrder_38 (by decide) (fun c_38 => ?_) (fun c_38 => ?_)
          · have hgk : gok cd = false := gok_n hg0 (by rw [hgn, show (3 : Int32) = nI 3 from rfl, nI_ltI (by omega) (by decide)] at c_38; exact c_38)
            obtain ⟨x54, ex54⟩ : ∃ y : Int32, y = x2 + 1 := ⟨_, rfl⟩
            refine lv_iinc (v := x54) (lv' := [(2, .int x54), (4, .int x28), (3, .int x20), (0, .ref ar), (1, .int x1)]) hx hb dX5_allInOrder_54 hl (k := 4) rfl (by rw [ex54]; rfl) (by decide) rfl (fun ls hl => ?_)
            refine lv_goto (tgt := 9) hx hb dX5_allInOrder_57 (by decide) ?_
            exact ih9 (cd + 1) ar x1 x54 aq (hp_s ex54 h2) (by omega) (by first | (rw [pg_n hgk]; exact h1) | (rw [pg_y hgk]; exact hp_s ex51 h1)) (by first | (rw [pg_n hgk]; exact hq) | (rw [pg_y hgk]; exact ar_put (i := posG cd) (F := fun k => nI (stT k)) ex50 h1 (by omega) (by rw [hfp, (pg_st cd hlt hgk).2]) hq)) (by omega) _ _ hP hD hS ls (lv_sub hl [3, 4, 0] rfl)
          · have hgk : gok cd = true := gok_y (Or.inr (by rw [hgn, show (3 : Int32) = nI 3 from rfl, nI_ltI (by omega) (by decide)] at c_38; omega))
            have hps := pg_st cd hlt hgk
            refine lv_iload_n hx hb dX5_allInOrder_41 rfl (lv_at hl 3 rfl) ?_
            refine lv_bipush (v := 94) hx hb dX5_allInOrder_42 (by decide) ?_
            refine lv_icmp_ge (tgt := 54) hx hb dX5_allInOrder_44 (by decide) (fun c_44 => ?_) (fun c_44 => ?_)
            · exact absurd c_44 (by rw [h1, show (94 : Int32) = nI 94 from rfl, nI_leI (by decide) (by omega)]; omega)
            · refine lv_aload_n hx hb dX5_allInOrder_47 rfl (lv_at hl 2 rfl) ?_
              refine lv_iload_n hx hb dX5_allInOrder_48 rfl (lv_at hl 3 rfl) ?_
              refine lv_iload_n hx hb dX5_allInOrder_49 rfl (lv_at hl 1 rfl) ?_
              refine va_iast hx hb hK hP hD hS 0 0 rfl rfl (by rw [h1]; exact vp_in_nI (by omega) (by decide)) dX5_allInOrder_50 (fun H locs hP hD hS => ?_)
              have hP : va_P D vwCl [(ar, .inl (cI, 94, .inl (upd aq x1.toNatClampNeg x20)))] H := hP
              have hD : va_D A [(ar, .inl (cI, 94, .inl (upd aq x1.toNatClampNeg x20)))] := hD
              generalize ex50 : upd aq x1.toNatClampNeg x20 = x50 at hP hD
              obtain ⟨x51, ex51⟩ : ∃ y : Int32, y = x1 + 1 := ⟨_, rfl⟩
              refine lv_iinc (v := x51) (lv' := [(1, .int x51), (4, .int x28), (3, .int x20), (0, .ref ar), (2, .int x2)]) hx hb dX5_allInOrder_51 hl (k := 3) rfl (by rw [ex51]; rfl) (by decide) rfl (fun ls hl => ?_)
              obtain ⟨x54, ex54⟩ : ∃ y : Int32, y = x2 + 1 := ⟨_, rfl⟩
              refine lv_iinc (v := x54) (lv' := [(2, .int x54), (1, .int x51), (4, .int x28), (3, .int x20), (0, .ref ar)]) hx hb dX5_allInOrder_54 hl (k := 4) rfl (by rw [ex54]; rfl) (by decide) rfl (fun ls hl => ?_)
              refine lv_goto (tgt := 9) hx hb dX5_allInOrder_57 (by decide) ?_
              exact ih9 (cd + 1) ar x51 x54 x50 (hp_s ex54 h2) (by omega) (by first | (rw [pg_n hgk]; exact h1) | (rw [pg_y hgk]; exact hp_s ex51 h1)) (by first | (rw [pg_n hgk]; exact hq) | (rw [pg_y hgk]; exact ar_put (i := posG cd) (F := fun k => nI (stT k)) ex50 h1 (by omega) (by rw [hfp, (pg_st cd hlt hgk).2]) hq)) (by omega) _ _ hP hD hS ls (lv_sub hl [4, 1, 0] rfl)
  refine lv_bipush (v := 94) hx hb dX5_allInOrder_0 (by decide) ?_
  refine va_newa (atype := .int) hx hb acI (ty := .int) rfl hK hP hD hS hA (n := 94) (N' := 94) (a0 := (94, .inl (fun _ => 0))) (fun _ => rfl) (by decide) (by decide) (by decide) (Nat.le_of_ble_eq_true rfl) (Nat.le_of_ble_eq_true rfl) dX5_allInOrder_2 (fun q2 cA H hK9 hP hD hS => ?_)
  obtain rfl : cI = cA := Option.some.inj ((hK.2 0 _ rfl).2.symm.trans (hK9.2 3 _ rfl).2)
  clear hK9
  have hP : va_P D vwCl [(q2, .inl (cI, 94, .inl (fun _ => 0)))] H := hP
  have hD : va_D A [(q2, .inl (cI, 94, .inl (fun _ => 0)))] := hD
  refine lv_astore_n (lv' := [(0, .ref q2)]) hx hb dX5_allInOrder_4 rfl hl (by decide) rfl (fun ls hl => ?_)
  refine lv_iconst (v := 0) hx hb dX5_allInOrder_5 (by decide) ?_
  refine lv_istore_n (lv' := [(1, .int 0), (0, .ref q2)]) hx hb dX5_allInOrder_6 rfl hl (by decide) rfl (fun ls hl => ?_)
  refine lv_iconst (v := 0) hx hb dX5_allInOrder_7 (by decide) ?_
  refine lv_istore_n (lv' := [(2, .int 0), (1, .int 0), (0, .ref q2)]) hx hb dX5_allInOrder_8 rfl hl (by decide) rfl (fun ls hl => ?_)
  exact lab9 _ 0 q2 0 0 (fun _ => 0) (nI_0.symm) (by omega) (nI_0.symm) (fun k h => absurd h (Nat.not_lt_zero k)) (Nat.lt_succ_self _) _ _ hP hD hS ls (lv_sub hl [2, 1, 0] rfl)

set_option maxHeartbeats 4000000 in
set_option maxRecDepth 100000 in
theorem k_X6_init (l : Launch) (D : va_G) (cI cJ cZ : ClassId) (sz : Nat) (wk st0 : Nat) (stp : Nat → Int32) (hst : ∀ i, i < 94 → stp i = nI (stT i)) : Met l yX6_init wsX6_init ({ frames := 2, cells := 12, slots := 3055, locals := 60 } : Room) (va_Pc [.ref wk, .ref st0] (wM D cI cJ cZ sz [(wk, .inr (4, [.null, .null, .null, .null, .int 0, .null, .null, .long 0, .long 0, .int 0, .int 0, .int 0, .int 0])), (st0, .inl (cI, 94, .inl stp))])) (va_Qv (fun (u : (Nat) × (Nat) × (Nat) × (Nat) × (Nat) × (Nat) × (Nat) × (Nat) × (Nat) × (Nat) × (Nat) × (Nat) × (Nat → Int32)) => match u with | (ws6, fi6, ff6, ga6, ahr, hca, hla, hta, atr, tca, tla, tta, wsf) => (∀ i, i < 94 → wsf i = nI (wkT i))) (fun (u : (Nat) × (Nat) × (Nat) × (Nat) × (Nat) × (Nat) × (Nat) × (Nat) × (Nat) × (Nat) × (Nat) × (Nat) × (Nat → Int32)) t => match u with | (ws6, fi6, ff6, ga6, ahr, hca, hla, hta, atr, tca, tla, tta, wsf) => wB D (va_A [(wk, .inr (4, [.null, .null, .null, .null, .int 0, .null, .null, .long 0, .long 0, .int 0, .int 0, .int 0, .int 0])), (st0, .inl (cI, 94, .inl stp))] sz) [(wk, .inr (4, [.ref ws6, .ref fi6, .ref ff6, .ref ga6, .int 0, .ref ahr, .ref atr, .long 0, .long 0, .int 0, .int 0, .int 0, .int 0])), (st0, .inl (cI, 94, .inl stp)), (ws6, .inl (cI, 94, .inl wsf)), (fi6, .inl (cI, 94, .inl (fun _ => 0))), (ff6, .inl (cI, 17, .inl (fun _ => 0))), (ga6, .inl (cJ, 282, .inr (.inl (fun _ => 0)))), (ahr, .inr (2, [.ref hca, .ref hla, .ref hta, .int 0])), (hca, .inl (cJ, 768, .inr (.inl (fun _ => 0)))), (hla, .inl (cZ, 256, .inl (fun _ => 0))), (hta, .inl (cI, 256, .inl (fun _ => 0))), (atr, .inr (2, [.ref tca, .ref tla, .ref tta, .int 0])), (tca, .inl (cJ, 768, .inr (.inl (fun _ => 0)))), (tla, .inl (cZ, 256, .inl (fun _ => 0))), (tta, .inl (cI, 256, .inl (fun _ => 0)))] t) (va_A [(wk, .inr (4, [.null, .null, .null, .null, .int 0, .null, .null, .long 0, .long 0, .int 0, .int 0, .int 0, .int 0])), (st0, .inl (cI, 94, .inl stp))] sz)) 12 3055 (va_A [(wk, .inr (4, [.null, .null, .null, .null, .int 0, .null, .null, .long 0, .long 0, .int 0, .int 0, .int 0, .int 0])), (st0, .inl (cI, 94, .inl stp))] sz) := by
  refine Met.ofW (cc := cX6_init) (maxL := 5) (ret := none) (by decide) rfl ?_
  intro p e s m args below meth c s₁ B hml hv
  obtain ⟨hargs, hsz, hP, ⟨hK, hN⟩, hD0⟩ := hv
  have hx := B.exec
  have hb := B.bytes
  have hr := B.returns
  have hlocks := B.notSynchronized
  have hts := atoms_spec (ws := wsX6_init) B.pre
  have hown : s.vm.findClass RX6 = some m.cls := findClass_of_methodNamed B.named
  have hin : meth.name = "<init>" := (name_of_methodNamed B.named B.method).1
  have k35 := hts (.methodLink RX6 35 yX5_continued) (by decide +kernel)
  have k9 := hts (.fieldLink RX6 9 "RummyTable$Walk" "steps" "[I") (by decide +kernel)
  have iX6 : ∀ w ∈ wsX60, w ∈ wsX6_init := by decide +kernel
  have k3 := hts (.methodLink RX6 3 objectInit) (by decide +kernel)
  have i_oi := hts (.instanceMethod objectInit) (by decide +kernel)
  have c_oi := hts (.code objectInit ⟨#[0xb1]⟩ 1 none) (by decide +kernel)
  have acI := hts (.arrayClass .int) (by decide +kernel)
  have k15 := hts (.fieldLink RX6 15 "RummyTable$Walk" "fitting" "[I") (by decide +kernel)
  have k18 := hts (.fieldLink RX6 18 "RummyTable$Walk" "firstFit" "[I") (by decide +kernel)
  have acJ := hts (.arrayClass .long) (by decide +kernel)
  have k21 := hts (.fieldLink RX6 21 "RummyTable$Walk" "gains" "[J") (by decide +kernel)
  have k25 := hts (.classLink RX6 25 RX3) (by decide +kernel)
  have itX3 := hts (.instantiable RX3 4) (by decide +kernel)
  have iniRX3 := hts (.initialized RX3) (by decide +kernel)
  have iX3 : ∀ w ∈ wsX30, w ∈ wsX6_init := by decide +kernel
  have k27 : va_Nw (Cond.methodLinkNest RX6 27 yX3_init "RummyTable") s := hN.2.2.2.2.2.2.2.2.1
  have imX3_init := hts (.instanceMethod yX3_init) (by decide +kernel)
  have k28 := hts (.fieldLink RX6 28 "RummyTable$Walk" "here" "LRummyTable$Row;") (by decide +kernel)
  have k32 := hts (.fieldLink RX6 32 "RummyTable$Walk" "there" "LRummyTable$Row;") (by decide +kernel)
  subst hsz
  have hD := hD0.self (sz := s.heap.size)
  generalize hAe : va_A [(wk, .inr (4, [.null, .null, .null, .null, .int 0, .null, .null, .long 0, .long 0, .int 0, .int 0, .int 0, .int 0])), (st0, .inl (cI, 94, .inl stp))] s.heap.size = A at hD ⊢
  have hA : ∀ q : Nat, s.heap.size ≤ q → A q := fun q h => by rw [← hAe]; exact Or.inr h
  have hS : va_S A s.heap s.heap [] := va_S.rf
  rw [show entryFrame m args 5 = entryFrame m ([.ref wk, .ref st0] : List Value).toArray 5 from by rw [hargs]]
  have hl := lv_entry ([.ref wk, .ref st0]) (n := 5) (Nat.le_of_ble_eq_true rfl)
  rw [lg_entry_eq]
  generalize (lg_sl ([.ref wk, .ref st0]) ++ List.replicate (5 - (lg_sl ([.ref wk, .ref st0])).length) Slot.unset).toArray = ls at hl ⊢
  have hl : lv_has ls 5 [(0, .ref wk), (1, .ref st0)] := hl
  refine wQ (fun Q hQ => ?_)
  have lab63 : ∀ fuel63 : Nat, ∀ (on : Nat) (ws1 : Nat) (fi1 : Nat) (ff1 : Nat) (ga1 : Nat) (ah1 : Nat) (hc1 : Nat) (hl1 : Nat) (ht1 : Nat) (at1 : Nat) (tc1 : Nat) (tl1 : Nat) (tt1 : Nat) (x2 : Int32) (x3 : Int32) (wq : Nat → Int32), (h3 : x3 = nI on) → (hon : on ≤ 16) → (h2 : x2 = nI (lbT on)) → (hq : ∀ k, k < lbT on → wq k = nI (wkT k)) → (hfu63 : 16 - on < fuel63) → ∀ (H : Heap) (locs : List Loc), va_P D vwCl [(wk, .inr (4, [.ref ws1, .ref fi1, .ref ff1, .ref ga1, .int 0, .ref ah1, .ref at1, .long 0, .long 0, .int 0, .int 0, .int 0, .int 0])), (st0, .inl (cI, 94, .inl stp)), (ws1, .inl (cI, 94, .inl wq)), (fi1, .inl (cI, 94, .inl (fun _ => 0))), (ff1, .inl (cI, 17, .inl (fun _ => 0))), (ga1, .inl (cJ, 282, .inr (.inl (fun _ => 0)))), (ah1, .inr (2, [.ref hc1, .ref hl1, .ref ht1, .int 0])), (hc1, .inl (cJ, 768, .inr (.inl (fun _ => 0)))), (hl1, .inl (cZ, 256, .inl (fun _ => 0))), (ht1, .inl (cI, 256, .inl (fun _ => 0))), (at1, .inr (2, [.ref tc1, .ref tl1, .ref tt1, .int 0])), (tc1, .inl (cJ, 768, .inr (.inl (fun _ => 0)))), (tl1, .inl (cZ, 256, .inl (fun _ => 0))), (tt1, .inl (cI, 256, .inl (fun _ => 0)))] H → va_D A [(wk, .inr (4, [.ref ws1, .ref fi1, .ref ff1, .ref ga1, .int 0, .ref ah1, .ref at1, .long 0, .long 0, .int 0, .int 0, .int 0, .int 0])), (st0, .inl (cI, 94, .inl stp)), (ws1, .inl (cI, 94, .inl wq)), (fi1, .inl (cI, 94, .inl (fun _ => 0))), (ff1, .inl (cI, 17, .inl (fun _ => 0))), (ga1, .inl (cJ, 282, .inr (.inl (fun _ => 0)))), (ah1, .inr (2, [.ref hc1, .ref hl1, .ref ht1, .int 0])), (hc1, .inl (cJ, 768, .inr (.inl (fun _ => 0)))), (hl1, .inl (cZ, 256, .inl (fun _ => 0))), (ht1, .inl (cI, 256, .inl (fun _ => 0))), (at1, .inr (2, [.ref tc1, .ref tl1, .ref tt1, .int 0])), (tc1, .inl (cJ, 768, .inr (.inl (fun _ => 0)))), (tl1, .inl (cZ, 256, .inl (fun _ => 0))), (tt1, .inl (cI, 256, .inl (fun _ => 0)))] → va_S A s.heap H locs → ∀ ls : Array Slot, lv_has ls 5 [(0, .ref wk), (1, .ref st0), (2, .int x2), (3, .int x3)] → W p l e (headSpec wsX6_init ({ frames := 2, cells := 12, slots := 3055, locals := 60 } : Room)).room s m args below meth c H locs 12 3055 Q (F0 m 63 ls []) := by
    intro fuel63
    induction fuel63 with
    | zero =>
      intro on ws1 fi1 ff1 ga1 ah1 hc1 hl1 ht1 at1 tc1 tl1 tt1 x2 x3 wq h3 hon h2 hq hfu63
      exact absurd hfu63 (Nat.not_lt_zero _)
    | succ fuel63 ih63 =>
      intro on ws1 fi1 ff1 ga1 ah1 hc1 hl1 ht1 at1 tc1 tl1 tt1 x2 x3 wq h3 hon h2 hq hfu63 H locs hP hD hS ls hl
      have lab72 : ∀ fuel72 : Nat, ∀ (i : Nat) (x2 : Int32) (x4 : Int32) (wr : Nat → Int32), (hon2 : on < 16) → (h4 : x4 = nI i) → (hi : i ≤ 94) → (h2 : x2 = nI (lbT on + wc on i)) → (hq : ∀ k, k < lbT on + wc on i → wr k = nI (wkT k)) → (hfu72 : 94 - i < fuel72) → ∀ (H : Heap) (locs : List Loc), va_P D vwCl [(wk, .inr (4, [.ref ws1, .ref fi1, .ref ff1, .ref ga1, .int 0, .ref ah1, .ref at1, .long 0, .long 0, .int 0, .int 0, .int 0, .int 0])), (st0, .inl (cI, 94, .inl stp)), (ws1, .inl (cI, 94, .inl wr)), (fi1, .inl (cI, 94, .inl (fun _ => 0))), (ff1, .inl (cI, 17, .inl (fun _ => 0))), (ga1, .inl (cJ, 282, .inr (.inl (fun _ => 0)))), (ah1, .inr (2, [.ref hc1, .ref hl1, .ref ht1, .int 0])), (hc1, .inl (cJ, 768, .inr (.inl (fun _ => 0)))), (hl1, .inl (cZ, 256, .inl (fun _ => 0))), (ht1, .inl (cI, 256, .inl (fun _ => 0))), (at1, .inr (2, [.ref tc1, .ref tl1, .ref tt1, .int 0])), (tc1, .inl (cJ, 768, .inr (.inl (fun _ => 0)))), (tl1, .inl (cZ, 256, .inl (fun _ => 0))), (tt1, .inl (cI, 256, .inl (fun _ => 0)))] H → va_D A [(wk, .inr (4, [.ref ws1, .ref fi1, .ref ff1, .ref ga1, .int 0, .ref ah1, .ref at1, .long 0, .long 0, .int 0, .int 0, .int 0, .int 0])), (st0, .inl (cI, 94, .inl stp)), (ws1, .inl (cI, 94, .inl wr)), (fi1, .inl (cI, 94, .inl (fun _ => 0))), (ff1, .inl (cI, 17, .inl (fun _ => 0))), (ga1, .inl (cJ, 282, .inr (.inl (fun _ => 0)))), (ah1, .inr (2, [.ref hc1, .ref hl1, .ref ht1, .int 0])), (hc1, .inl (cJ, 768, .inr (.inl (fun _ => 0)))), (hl1, .inl (cZ, 256, .inl (fun _ => 0))), (ht1, .inl (cI, 256, .inl (fun _ => 0))), (at1, .inr (2, [.ref tc1, .ref tl1, .ref tt1, .int 0])), (tc1, .inl (cJ, 768, .inr (.inl (fun _ => 0)))), (tl1, .inl (cZ, 256, .inl (fun _ => 0))), (tt1, .inl (cI, 256, .inl (fun _ => 0)))] → va_S A s.heap H locs → ∀ ls : Array Slot, lv_has ls 5 [(0, .ref wk), (1, .ref st0), (2, .int x2), (3, .int x3), (4, .int x4)] → W p l e (headSpec wsX6_init ({ frames := 2, cells := 12, slots := 3055, locals := 60 } : Room)).room s m args below meth c H locs 12 3055 Q (F0 m 72 ls []) := by
        intro fuel72
        induction fuel72 with
        | zero =>
          intro i x2 x4 wr hon2 h4 hi h2 hq hfu72
          exact absurd hfu72 (Nat.not_lt_zero _)
        | succ fuel72 ih72 =>
          intro i x2 x4 wr hon2 h4 hi h2 hq hfu72 H locs hP hD hS ls hl
          refine lv_iload hx hb dX6_init_72 (lv_at hl 4 rfl) ?_
          refine lv_aload_n hx hb dX6_init_74 rfl (lv_at hl 1 rfl) ?_
          refine va_alen hx hb hK hP 1 0 rfl (ty := .int) rfl (v := nI 94) rfl dX6_init_75 ?_
          refine lv_icmp_ge (tgt := 115) hx hb dX6_init_76 (by decide) (fun c_76 => ?_) (fun c_76 => ?_)
          · have hi9 : i = 94 := hp_ge h4 rfl hi (by decide) c_76
            subst hi9
            have hw9 := wc_94 on hon2
            obtain ⟨x115, ex115⟩ : ∃ y : Int32, y = x3 + 1 := ⟨_, rfl⟩
            refine lv_iinc (v := x115) (lv' := [(3, .int x115), (0, .ref wk), (1, .ref st0), (2, .int x2), (4, .int x4)]) hx hb dX6_init_115 hl (k := 3) rfl (by rw [ex115]; rfl) (by decide) rfl (fun ls hl => ?_)
            refine lv_goto (tgt := 63) hx hb dX6_init_118 (by decide) ?_
            exact ih63 (on + 1) ws1 fi1 ff1 ga1 ah1 hc1 hl1 ht1 at1 tc1 tl1 tt1 x2 x115 wr (hp_s ex115 h3) (by omega) (by rw [← hw9]; exact h2) (by rw [← hw9]; exact hq) (by omega) _ _ hP hD hS ls (lv_sub hl [1, 2, 3, 0] rfl)
          · have hlt : i < 94 := hp_lt h4 rfl hi (by decide) c_76
            have hwl := wc_le hon2 hi
            refine lv_iload_n hx hb dX6_init_79 rfl (lv_at hl 2 rfl) ?_
            refine lv_bipush (v := 94) hx hb dX6_init_80 (by decide) ?_
            refine lv_icmp_ge (tgt := 115) hx hb dX6_init_82 (by decide) (fun c_82 => ?_) (fun c_82 => ?_)
            · have hw9 := wc_end hon2 hi (by rw [h2, show (94 : Int32) = nI 94 from rfl, nI_leI (by decide) (by omega)] at c_82; exact c_82)
              obtain ⟨x115, ex115⟩ : ∃ y : Int32, y = x3 + 1 := ⟨_, rfl⟩
              refine lv_iinc (v := x115) (lv' := [(3, .int x115), (0, .ref wk), (1, .ref st0), (2, .int x2), (4, .int x4)]) hx hb dX6_init_115 hl (k := 3) rfl (by rw [ex115]; rfl) (by decide) rfl (fun ls hl => ?_)
              refine lv_goto (tgt := 63) hx hb dX6_init_118 (by decide) ?_
              exact ih63 (on + 1) ws1 fi1 ff1 ga1 ah1 hc1 hl1 ht1 at1 tc1 tl1 tt1 x2 x115 wr (hp_s ex115 h3) (by omega) (by rw [← hw9]; exact h2) (by rw [← hw9]; exact hq) (by omega) _ _ hP hD hS ls (lv_sub hl [1, 2, 3, 0] rfl)
            · have hc9 : lbT on + wc on i < 94 := by rw [h2, show (94 : Int32) = nI 94 from rfl, nI_leI (by decide) (by omega)] at c_82; omega
              refine lv_aload_n hx hb dX6_init_85 rfl (lv_at hl 1 rfl) ?_
              refine lv_iload hx hb dX6_init_86 (lv_at hl 4 rfl) ?_
              refine va_iald hx hb hK hP 1 0 rfl rfl (by rw [h4]; exact vp_in_nI hlt (by decide)) dX6_init_88 ?_
              refine vp_callSi (W.runS (As := [.int (stp x4.toNatClampNeg)]) (rest := []) ⟨hx, hb, hml, hown, hts⟩ (k_X5_continued l (stp x4.toNatClampNeg) ) (va_cwS 1 hts gX6_init_X5_continued rfl rfl rfl (by decide +kernel) ⟨Nat.le_of_ble_eq_true rfl, Nat.le_of_ble_eq_true rfl⟩) ⟨pS_fb, pS_pre⟩ rfl rfl hl.1 rfl (lv_room (Nat.le_of_ble_eq_true rfl)) dX6_init_89 ⟨Nat.le_of_ble_eq_true rfl, Nat.le_of_ble_eq_true rfl⟩) (fun x89 hx89 => ?_)
              subst hx89
              refine lv_iload_n hx hb dX6_init_92 rfl (lv_at hl 3 rfl) ?_
              refine lv_icmp_ne (tgt := 109) hx hb dX6_init_93 (by decide) (fun c_93 => ?_) (fun c_93 => ?_)
              · have hco : ¬ t_co (stT i) = on := fun z => c_93 (by rw [h4, nI_clamp (by omega), hst i hlt, jn_co (stT_lt i hlt), z, h3])
                obtain ⟨x109, ex109⟩ : ∃ y : Int32, y = x4 + 1 := ⟨_, rfl⟩
                refine lv_iinc (v := x109) (lv' := [(4, .int x109), (0, .ref wk), (1, .ref st0), (2, .int x2), (3, .int x3)]) hx hb dX6_init_109 hl (k := 4) rfl (by rw [ex109]; rfl) (by decide) rfl (fun ls hl => ?_)
                refine lv_goto (tgt := 72) hx hb dX6_init_112 (by decide) ?_
                exact ih72 (i + 1) x2 x109 wr (hon2) (hp_s ex109 h4) (by omega) (by first | (rw [wc_n hco]; exact h2) | (rw [wc_y hco]; exact hp_s ex106 h2)) (by first | (rw [wc_n hco]; exact hq) | (rw [wc_y hco]; exact ar_put (i := lbT on + wc on i) (F := fun k => nI (wkT k)) ex105 h2 (by omega) (by rw [h4, nI_clamp (by omega), hst i hlt, (wc_at on hon2 i hlt hco).2]) hq)) (by omega) _ _ hP hD hS ls (lv_sub hl [1, 2, 3, 4, 0] rfl)
              · have hco : t_co (stT i) = on := by have c9 := c_93; rw [h4, nI_clamp (by omega), hst i hlt, jn_co (stT_lt i hlt), h3, nI_eqI (by have := t_co_lt (stT i); omega) (by omega)] at c9; first | exact c9 | exact Classical.not_not.mp c9
                refine lv_aload_n hx hb dX6_init_96 rfl (lv_at hl 0 rfl) ?_
                refine va_get (D := D) (ci := 4) (v := .ref ws1) (C := RX6) (T := TX6) (N := 13) hx hb hts iX6 hown hK hP 0 rfl rfl 0 (by decide) k9 (fun _ h9 => h9) rfl dX6_init_97 ?_
                refine lv_iload_n hx hb dX6_init_100 rfl (lv_at hl 2 rfl) ?_
                refine lv_aload_n hx hb dX6_init_101 rfl (lv_at hl 1 rfl) ?_
                refine lv_iload hx hb dX6_init_102 (lv_at hl 4 rfl) ?_
                refine va_iald hx hb hK hP 1 0 rfl rfl (by rw [h4]; exact vp_in_nI hlt (by decide)) dX6_init_104 ?_
                refine va_iast hx hb hK hP hD hS 2 0 rfl rfl (by rw [h2]; exact vp_in_nI hc9 (by decide)) dX6_init_105 (fun H locs hP hD hS => ?_)
                have hP : va_P D vwCl [(wk, .inr (4, [.ref ws1, .ref fi1, .ref ff1, .ref ga1, .int 0, .ref ah1, .ref at1, .long 0, .long 0, .int 0, .int 0, .int 0, .int 0])), (st0, .inl (cI, 94, .inl stp)), (ws1, .inl (cI, 94, .inl (upd wr x2.toNatClampNeg (stp x4.toNatClampNeg)))), (fi1, .inl (cI, 94, .inl (fun _ => 0))), (ff1, .inl (cI, 17, .inl (fun _ => 0))), (ga1, .inl (cJ, 282, .inr (.inl (fun _ => 0)))), (ah1, .inr (2, [.ref hc1, .ref hl1, .ref ht1, .int 0])), (hc1, .inl (cJ, 768, .inr (.inl (fun _ => 0)))), (hl1, .inl (cZ, 256, .inl (fun _ => 0))), (ht1, .inl (cI, 256, .inl (fun _ => 0))), (at1, .inr (2, [.ref tc1, .ref tl1, .ref tt1, .int 0])), (tc1, .inl (cJ, 768, .inr (.inl (fun _ => 0)))), (tl1, .inl (cZ, 256, .inl (fun _ => 0))), (tt1, .inl (cI, 256, .inl (fun _ => 0)))] H := hP
                have hD : va_D A [(wk, .inr (4, [.ref ws1, .ref fi1, .ref ff1, .ref ga1, .int 0, .ref ah1, .ref at1, .long 0, .long 0, .int 0, .int 0, .int 0, .int 0])), (st0, .inl (cI, 94, .inl stp)), (ws1, .inl (cI, 94, .inl (upd wr x2.toNatClampNeg (stp x4.toNatClampNeg)))), (fi1, .inl (cI, 94, .inl (fun _ => 0))), (ff1, .inl (cI, 17, .inl (fun _ => 0))), (ga1, .inl (cJ, 282, .inr (.inl (fun _ => 0)))), (ah1, .inr (2, [.ref hc1, .ref hl1, .ref ht1, .int 0])), (hc1, .inl (cJ, 768, .inr (.inl (fun _ => 0)))), (hl1, .inl (cZ, 256, .inl (fun _ => 0))), (ht1, .inl (cI, 256, .inl (fun _ => 0))), (at1, .inr (2, [.ref tc1, .ref tl1, .ref tt1, .int 0])), (tc1, .inl (cJ, 768, .inr (.inl (fun _ => 0)))), (tl1, .inl (cZ, 256, .inl (fun _ => 0))), (tt1, .inl (cI, 256, .inl (fun _ => 0)))] := hD
                generalize ex105 : upd wr x2.toNatClampNeg (stp x4.toNatClampNeg) = x105 at hP hD
                obtain ⟨x106, ex106⟩ : ∃ y : Int32, y = x2 + 1 := ⟨_, rfl⟩
                refine lv_iinc (v := x106) (lv' := [(2, .int x106), (0, .ref wk), (1, .ref st0), (3, .int x3), (4, .int x4)]) hx hb dX6_init_106 hl (k := 2) rfl (by rw [ex106]; rfl) (by decide) rfl (fun ls hl => ?_)
                obtain ⟨x109, ex109⟩ : ∃ y : Int32, y = x4 + 1 := ⟨_, rfl⟩
                refine lv_iinc (v := x109) (lv' := [(4, .int x109), (2, .int x106), (0, .ref wk), (1, .ref st0), (3, .int x3)]) hx hb dX6_init_109 hl (k := 4) rfl (by rw [ex109]; rfl) (by decide) rfl (fun ls hl => ?_)
                refine lv_goto (tgt := 72) hx hb dX6_init_112 (by decide) ?_
                exact ih72 (i + 1) x106 x109 x105 (hon2) (hp_s ex109 h4) (by omega) (by first | (rw [wc_n hco]; exact h2) | (rw [wc_y hco]; exact hp_s ex106 h2)) (by first | (rw [wc_n hco]; exact hq) | (rw [wc_y hco]; exact ar_put (i := lbT on + wc on i) (F := fun k => nI (wkT k)) ex105 h2 (by omega) (by rw [h4, nI_clamp (by omega), hst i hlt, (wc_at on hon2 i hlt hco).2]) hq)) (by omega) _ _ hP hD hS ls (lv_sub hl [2, 3, 1, 4, 0] rfl)
      refine lv_iload_n hx hb dX6_init_63 rfl (lv_at hl 3 rfl) ?_
      refine lv_bipush (v := 15) hx hb dX6_init_64 (by decide) ?_
      refine lv_icmp_gt (tgt := 121) hx hb dX6_init_66 (by decide) (fun c_66 => ?_) (fun c_66 => ?_)
      · have ho9 : on = 16 := by rw [h3, show (15 : Int32) = nI 15 from rfl, nI_ltI (by decide) (by omega)] at c_66; omega
        subst ho9
        rw [← hQ]
        have hP9 := hP.sub (ws' := [(wk, .inr (4, [.ref ws1, .ref fi1, .ref ff1, .ref ga1, .int 0, .ref ah1, .ref at1, .long 0, .long 0, .int 0, .int 0, .int 0, .int 0])), (st0, .inl (cI, 94, .inl stp)), (ws1, .inl (cI, 94, .inl wq)), (fi1, .inl (cI, 94, .inl (fun _ => 0))), (ff1, .inl (cI, 17, .inl (fun _ => 0))), (ga1, .inl (cJ, 282, .inr (.inl (fun _ => 0)))), (ah1, .inr (2, [.ref hc1, .ref hl1, .ref ht1, .int 0])), (hc1, .inl (cJ, 768, .inr (.inl (fun _ => 0)))), (hl1, .inl (cZ, 256, .inl (fun _ => 0))), (ht1, .inl (cI, 256, .inl (fun _ => 0))), (at1, .inr (2, [.ref tc1, .ref tl1, .ref tt1, .int 0])), (tc1, .inl (cJ, 768, .inr (.inl (fun _ => 0)))), (tl1, .inl (cZ, 256, .inl (fun _ => 0))), (tt1, .inl (cI, 256, .inl (fun _ => 0)))]) [0, 1, 2, 3, 4, 5, 6, 7, 8, 9, 10, 11, 12, 13] rfl
        have hD9 := hD.sub (ws' := [(wk, .inr (4, [.ref ws1, .ref fi1, .ref ff1, .ref ga1, .int 0, .ref ah1, .ref at1, .long 0, .long 0, .int 0, .int 0, .int 0, .int 0])), (st0, .inl (cI, 94, .inl stp)), (ws1, .inl (cI, 94, .inl wq)), (fi1, .inl (cI, 94, .inl (fun _ => 0))), (ff1, .inl (cI, 17, .inl (fun _ => 0))), (ga1, .inl (cJ, 282, .inr (.inl (fun _ => 0)))), (ah1, .inr (2, [.ref hc1, .ref hl1, .ref ht1, .int 0])), (hc1, .inl (cJ, 768, .inr (.inl (fun _ => 0)))), (hl1, .inl (cZ, 256, .inl (fun _ => 0))), (ht1, .inl (cI, 256, .inl (fun _ => 0))), (at1, .inr (2, [.ref tc1, .ref tl1, .ref tt1, .int 0])), (tc1, .inl (cJ, 768, .inr (.inl (fun _ => 0)))), (tl1, .inl (cZ, 256, .inl (fun _ => 0))), (tt1, .inl (cI, 256, .inl (fun _ => 0)))]) [0, 1, 2, 3, 4, 5, 6, 7, 8, 9, 10, 11, 12, 13] (by decide) rfl
        exact W.vret hx hb hr (fun t ht hW => ⟨⟨(ws1, fi1, ff1, ga1, ah1, hc1, hl1, ht1, at1, tc1, tl1, tt1, wq), rfl, hq, (by show wB D A _ t; exact ⟨by rw [ht]; exact hP9, hD9⟩)⟩, hS.F ht⟩) hS.2.2 dX6_init_121
      · have hlt16 : on < 16 := by rw [h3, show (15 : Int32) = nI 15 from rfl, nI_ltI (by decide) (by omega)] at c_66; omega
        refine lv_iconst (v := 0) hx hb dX6_init_69 (by decide) ?_
        refine lv_istore (lv' := [(4, .int 0), (0, .ref wk), (1, .ref st0), (2, .int x2), (3, .int x3)]) hx hb dX6_init_70 hl (by decide) rfl (fun ls hl => ?_)
        exact lab72 _ 0 x2 0 wq (hlt16) (nI_0.symm) (by omega) (h2) (hq) (Nat.lt_succ_self _) _ _ hP hD hS ls (lv_sub hl [1, 2, 3, 4, 0] rfl)
  refine lv_aload_n hx hb dX6_init_0 rfl (lv_at hl 0 rfl) ?_
  refine W.objInit hx hb hown k3 i_oi c_oi rfl (by rw [hml]; exact hl.1) rfl dX6_init_1 (Nat.le_of_ble_eq_true rfl) (Nat.le_of_ble_eq_true rfl) ?_
  refine W.eq (g2 := F0 m 4 ls []) rfl ?_
  refine lv_aload_n hx hb dX6_init_4 rfl (lv_at hl 0 rfl) ?_
  refine lv_bipush (v := 94) hx hb dX6_init_5 (by decide) ?_
  refine va_newa (atype := .int) hx hb acI (ty := .int) rfl hK hP hD hS hA (n := 94) (N' := 94) (a0 := (94, .inl (fun _ => 0))) (fun _ => rfl) (by decide) (by decide) (by decide) (Nat.le_of_ble_eq_true rfl) (Nat.le_of_ble_eq_true rfl) dX6_init_7 (fun q7 cA H hK9 hP hD hS => ?_)
  obtain rfl : cI = cA := Option.some.inj ((hK.2 0 _ rfl).2.symm.trans (hK9.2 3 _ rfl).2)
  clear hK9
  have hP : va_P D vwCl [(wk, .inr (4, [.null, .null, .null, .null, .int 0, .null, .null, .long 0, .long 0, .int 0, .int 0, .int 0, .int 0])), (st0, .inl (cI, 94, .inl stp)), (q7, .inl (cI, 94, .inl (fun _ => 0)))] H := hP
  have hD : va_D A [(wk, .inr (4, [.null, .null, .null, .null, .int 0, .null, .null, .long 0, .long 0, .int 0, .int 0, .int 0, .int 0])), (st0, .inl (cI, 94, .inl stp)), (q7, .inl (cI, 94, .inl (fun _ => 0)))] := hD
  refine va_putF (D := D) (ci := 4) (v := .ref q7) (ty := .array .int) (C := RX6) (T := TX6) (N := 13) hx hb hts iX6 tyX6 tyX6_ok nmX6 hown hK hP hD hS 0 rfl rfl 0 (by decide) k9 (fun _ h9 => h9) rfl hin rfl (by decide +kernel) rfl rfl (Nat.le_of_ble_eq_true rfl) dX6_init_9 (fun H locs hP hD hS => ?_)
  have hP : va_P D vwCl [(wk, .inr (4, [.ref q7, .null, .null, .null, .int 0, .null, .null, .long 0, .long 0, .int 0, .int 0, .int 0, .int 0])), (st0, .inl (cI, 94, .inl stp)), (q7, .inl (cI, 94, .inl (fun _ => 0)))] H := hP
  have hD : va_D A [(wk, .inr (4, [.ref q7, .null, .null, .null, .int 0, .null, .null, .long 0, .long 0, .int 0, .int 0, .int 0, .int 0])), (st0, .inl (cI, 94, .inl stp)), (q7, .inl (cI, 94, .inl (fun _ => 0)))] := hD
  refine lv_aload_n hx hb dX6_init_12 rfl (lv_at hl 0 rfl) ?_
  refine lv_bipush (v := 94) hx hb dX6_init_13 (by decide) ?_
  refine va_newa (atype := .int) hx hb acI (ty := .int) rfl hK hP hD hS hA (n := 94) (N' := 94) (a0 := (94, .inl (fun _ => 0))) (fun _ => rfl) (by decide) (by decide) (by decide) (Nat.le_of_ble_eq_true rfl) (Nat.le_of_ble_eq_true rfl) dX6_init_15 (fun q15 cA H hK9 hP hD hS => ?_)
  obtain rfl : cI = cA := Option.some.inj ((hK.2 0 _ rfl).2.symm.trans (hK9.2 3 _ rfl).2)
  clear hK9
  have hP : va_P D vwCl [(wk, .inr (4, [.ref q7, .null, .null, .null, .int 0, .null, .null, .long 0, .long 0, .int 0, .int 0, .int 0, .int 0])), (st0, .inl (cI, 94, .inl stp)), (q7, .inl (cI, 94, .inl (fun _ => 0))), (q15, .inl (cI, 94, .inl (fun _ => 0)))] H := hP
  have hD : va_D A [(wk, .inr (4, [.ref q7, .null, .null, .null, .int 0, .null, .null, .long 0, .long 0, .int 0, .int 0, .int 0, .int 0])), (st0, .inl (cI, 94, .inl stp)), (q7, .inl (cI, 94, .inl (fun _ => 0))), (q15, .inl (cI, 94, .inl (fun _ => 0)))] := hD
  refine va_putF (D := D) (ci := 4) (v := .ref q15) (ty := .array .int) (C := RX6) (T := TX6) (N := 13) hx hb hts iX6 tyX6 tyX6_ok nmX6 hown hK hP hD hS 0 rfl rfl 1 (by decide) k15 (fun _ h9 => h9) rfl hin rfl (by decide +kernel) rfl rfl (Nat.le_of_ble_eq_true rfl) dX6_init_17 (fun H locs hP hD hS => ?_)
  have hP : va_P D vwCl [(wk, .inr (4, [.ref q7, .ref q15, .null, .null, .int 0, .null, .null, .long 0, .long 0, .int 0, .int 0, .int 0, .int 0])), (st0, .inl (cI, 94, .inl stp)), (q7, .inl (cI, 94, .inl (fun _ => 0))), (q15, .inl (cI, 94, .inl (fun _ => 0)))] H := hP
  have hD : va_D A [(wk, .inr (4, [.ref q7, .ref q15, .null, .null, .int 0, .null, .null, .long 0, .long 0, .int 0, .int 0, .int 0, .int 0])), (st0, .inl (cI, 94, .inl stp)), (q7, .inl (cI, 94, .inl (fun _ => 0))), (q15, .inl (cI, 94, .inl (fun _ => 0)))] := hD
  refine lv_aload_n hx hb dX6_init_20 rfl (lv_at hl 0 rfl) ?_
  refine lv_bipush (v := 17) hx hb dX6_init_21 (by decide) ?_
  refine va_newa (atype := .int) hx hb acI (ty := .int) rfl hK hP hD hS hA (n := 17) (N' := 17) (a0 := (17, .inl (fun _ => 0))) (fun _ => rfl) (by decide) (by decide) (by decide) (Nat.le_of_ble_eq_true rfl) (Nat.le_of_ble_eq_true rfl) dX6_init_23 (fun q23 cA H hK9 hP hD hS => ?_)
  obtain rfl : cI = cA := Option.some.inj ((hK.2 0 _ rfl).2.symm.trans (hK9.2 3 _ rfl).2)
  clear hK9
  have hP : va_P D vwCl [(wk, .inr (4, [.ref q7, .ref q15, .null, .null, .int 0, .null, .null, .long 0, .long 0, .int 0, .int 0, .int 0, .int 0])), (st0, .inl (cI, 94, .inl stp)), (q7, .inl (cI, 94, .inl (fun _ => 0))), (q15, .inl (cI, 94, .inl (fun _ => 0))), (q23, .inl (cI, 17, .inl (fun _ => 0)))] H := hP
  have hD : va_D A [(wk, .inr (4, [.ref q7, .ref q15, .null, .null, .int 0, .null, .null, .long 0, .long 0, .int 0, .int 0, .int 0, .int 0])), (st0, .inl (cI, 94, .inl stp)), (q7, .inl (cI, 94, .inl (fun _ => 0))), (q15, .inl (cI, 94, .inl (fun _ => 0))), (q23, .inl (cI, 17, .inl (fun _ => 0)))] := hD
  refine va_putF (D := D) (ci := 4) (v := .ref q23) (ty := .array .int) (C := RX6) (T := TX6) (N := 13) hx hb hts iX6 tyX6 tyX6_ok nmX6 hown hK hP hD hS 0 rfl rfl 2 (by decide) k18 (fun _ h9 => h9) rfl hin rfl (by decide +kernel) rfl rfl (Nat.le_of_ble_eq_true rfl) dX6_init_25 (fun H locs hP hD hS => ?_)
  have hP : va_P D vwCl [(wk, .inr (4, [.ref q7, .ref q15, .ref q23, .null, .int 0, .null, .null, .long 0, .long 0, .int 0, .int 0, .int 0, .int 0])), (st0, .inl (cI, 94, .inl stp)), (q7, .inl (cI, 94, .inl (fun _ => 0))), (q15, .inl (cI, 94, .inl (fun _ => 0))), (q23, .inl (cI, 17, .inl (fun _ => 0)))] H := hP
  have hD : va_D A [(wk, .inr (4, [.ref q7, .ref q15, .ref q23, .null, .int 0, .null, .null, .long 0, .long 0, .int 0, .int 0, .int 0, .int 0])), (st0, .inl (cI, 94, .inl stp)), (q7, .inl (cI, 94, .inl (fun _ => 0))), (q15, .inl (cI, 94, .inl (fun _ => 0))), (q23, .inl (cI, 17, .inl (fun _ => 0)))] := hD
  refine lv_aload_n hx hb dX6_init_28 rfl (lv_at hl 0 rfl) ?_
  refine lv_sipush (v := 282) hx hb dX6_init_29 (by decide) ?_
  refine va_newa (atype := .long) hx hb acJ (ty := .long) rfl hK hP hD hS hA (n := 282) (N' := 282) (a0 := (282, .inr (.inl (fun _ => 0)))) (fun _ => rfl) (by decide) (by decide) (by decide) (Nat.le_of_ble_eq_true rfl) (Nat.le_of_ble_eq_true rfl) dX6_init_32 (fun q32 cA H hK9 hP hD hS => ?_)
  obtain rfl : cJ = cA := Option.some.inj ((hK.2 1 _ rfl).2.symm.trans (hK9.2 3 _ rfl).2)
  clear hK9
  have hP : va_P D vwCl [(wk, .inr (4, [.ref q7, .ref q15, .ref q23, .null, .int 0, .null, .null, .long 0, .long 0, .int 0, .int 0, .int 0, .int 0])), (st0, .inl (cI, 94, .inl stp)), (q7, .inl (cI, 94, .inl (fun _ => 0))), (q15, .inl (cI, 94, .inl (fun _ => 0))), (q23, .inl (cI, 17, .inl (fun _ => 0))), (q32, .inl (cJ, 282, .inr (.inl (fun _ => 0))))] H := hP
  have hD : va_D A [(wk, .inr (4, [.ref q7, .ref q15, .ref q23, .null, .int 0, .null, .null, .long 0, .long 0, .int 0, .int 0, .int 0, .int 0])), (st0, .inl (cI, 94, .inl stp)), (q7, .inl (cI, 94, .inl (fun _ => 0))), (q15, .inl (cI, 94, .inl (fun _ => 0))), (q23, .inl (cI, 17, .inl (fun _ => 0))), (q32, .inl (cJ, 282, .inr (.inl (fun _ => 0))))] := hD
  refine va_putF (D := D) (ci := 4) (v := .ref q32) (ty := .array .long) (C := RX6) (T := TX6) (N := 13) hx hb hts iX6 tyX6 tyX6_ok nmX6 hown hK hP hD hS 0 rfl rfl 3 (by decide) k21 (fun _ h9 => h9) rfl hin rfl (by decide +kernel) rfl rfl (Nat.le_of_ble_eq_true rfl) dX6_init_34 (fun H locs hP hD hS => ?_)
  have hP : va_P D vwCl [(wk, .inr (4, [.ref q7, .ref q15, .ref q23, .ref q32, .int 0, .null, .null, .long 0, .long 0, .int 0, .int 0, .int 0, .int 0])), (st0, .inl (cI, 94, .inl stp)), (q7, .inl (cI, 94, .inl (fun _ => 0))), (q15, .inl (cI, 94, .inl (fun _ => 0))), (q23, .inl (cI, 17, .inl (fun _ => 0))), (q32, .inl (cJ, 282, .inr (.inl (fun _ => 0))))] H := hP
  have hD : va_D A [(wk, .inr (4, [.ref q7, .ref q15, .ref q23, .ref q32, .int 0, .null, .null, .long 0, .long 0, .int 0, .int 0, .int 0, .int 0])), (st0, .inl (cI, 94, .inl stp)), (q7, .inl (cI, 94, .inl (fun _ => 0))), (q15, .inl (cI, 94, .inl (fun _ => 0))), (q23, .inl (cI, 17, .inl (fun _ => 0))), (q32, .inl (cJ, 282, .inr (.inl (fun _ => 0))))] := hD
  refine lv_aload_n hx hb dX6_init_37 rfl (lv_at hl 0 rfl) ?_
  refine va_new (C := RX3) (T := TX3) (N := 4) (ci := 2) hx hb hts iX3 tyX3 tyX3_ok hown k25 itX3 iniRX3 hK hP hD hS hA rfl (fs := [.null, .null, .null, .int 0]) (fun j hj => by rcases (show j = 0 ∨ j = 1 ∨ j = 2 ∨ j = 3 by omega) with rfl | rfl | rfl | rfl <;> rfl) (Nat.le_of_ble_eq_true rfl) (Nat.le_of_ble_eq_true rfl) dX6_init_38 (fun q38 H hP hD hS => ?_)
  have hP : va_P D vwCl [(wk, .inr (4, [.ref q7, .ref q15, .ref q23, .ref q32, .int 0, .null, .null, .long 0, .long 0, .int 0, .int 0, .int 0, .int 0])), (st0, .inl (cI, 94, .inl stp)), (q7, .inl (cI, 94, .inl (fun _ => 0))), (q15, .inl (cI, 94, .inl (fun _ => 0))), (q23, .inl (cI, 17, .inl (fun _ => 0))), (q32, .inl (cJ, 282, .inr (.inl (fun _ => 0)))), (q38, .inr (2, [.null, .null, .null, .int 0]))] H := hP
  have hD : va_D A [(wk, .inr (4, [.ref q7, .ref q15, .ref q23, .ref q32, .int 0, .null, .null, .long 0, .long 0, .int 0, .int 0, .int 0, .int 0])), (st0, .inl (cI, 94, .inl stp)), (q7, .inl (cI, 94, .inl (fun _ => 0))), (q15, .inl (cI, 94, .inl (fun _ => 0))), (q23, .inl (cI, 17, .inl (fun _ => 0))), (q32, .inl (cJ, 282, .inr (.inl (fun _ => 0)))), (q38, .inr (2, [.null, .null, .null, .int 0]))] := hD
  refine lv_dup hx hb dX6_init_41 rfl ?_
  have hPc := hP.sub (ws' := [(q38, .inr (2, [.null, .null, .null, .int 0]))]) [6] rfl
  have hDc := hD.sub (ws' := [(q38, .inr (2, [.null, .null, .null, .int 0]))]) [6] (by decide) rfl
  have hFc := va_free (wc := [(q38, .inr (2, [.null, .null, .null, .int 0]))]) hD hS hA [6] rfl
  refine va_callv (va_runIN (As := []) (rest := [.ref q38, .ref wk]) ⟨hx, hb, hml, hown, hts⟩ (k_X3_init l D cI cJ cZ H.size q38 ) ⟨va_cnB 0 hts ggX6_init_X3_init rfl rfl rfl k27 iniRX3 (by decide +kernel) ⟨Nat.le_of_ble_eq_true rfl, Nat.le_of_ble_eq_true rfl⟩, rfl, imX3_init⟩ ⟨wM_fb, wM_pre hPc ⟨hK, hN⟩ hDc⟩ rfl rfl hl.1 rfl (lv_room (Nat.le_of_ble_eq_true rfl)) dX6_init_42 ⟨Nat.le_of_ble_eq_true rfl, Nat.le_of_ble_eq_true rfl⟩) hS (fun q _ h => hFc q h) hFc (fun u t H1 locs ht hvm hx42 hB hz1 hk1 hS => ?_)
  obtain ⟨a1_x42, a2_x42, a3_x42⟩ := u
  obtain ⟨hP1, hD1⟩ := hB
  rw [ht] at hP1
  obtain ⟨hP, hD⟩ := va_join (wr := [(wk, .inr (4, [.ref q7, .ref q15, .ref q23, .ref q32, .int 0, .null, .null, .long 0, .long 0, .int 0, .int 0, .int 0, .int 0])), (st0, .inl (cI, 94, .inl stp)), (q7, .inl (cI, 94, .inl (fun _ => 0))), (q15, .inl (cI, 94, .inl (fun _ => 0))), (q23, .inl (cI, 17, .inl (fun _ => 0))), (q32, .inl (cJ, 282, .inr (.inl (fun _ => 0))))]) (w1 := [(q38, .inr (2, [.ref a1_x42, .ref a2_x42, .ref a3_x42, .int 0])), (a1_x42, .inl (cJ, 768, .inr (.inl (fun _ => 0)))), (a2_x42, .inl (cZ, 256, .inl (fun _ => 0))), (a3_x42, .inl (cI, 256, .inl (fun _ => 0)))]) hP hD [6] [0, 1, 2, 3, 4, 5] rfl rfl (by decide) (by decide) hk1 hFc hP1 hD1
  generalize H1 = H at hP hS ⊢
  have hP : va_P D vwCl [(wk, .inr (4, [.ref q7, .ref q15, .ref q23, .ref q32, .int 0, .null, .null, .long 0, .long 0, .int 0, .int 0, .int 0, .int 0])), (st0, .inl (cI, 94, .inl stp)), (q7, .inl (cI, 94, .inl (fun _ => 0))), (q15, .inl (cI, 94, .inl (fun _ => 0))), (q23, .inl (cI, 17, .inl (fun _ => 0))), (q32, .inl (cJ, 282, .inr (.inl (fun _ => 0)))), (q38, .inr (2, [.ref a1_x42, .ref a2_x42, .ref a3_x42, .int 0])), (a1_x42, .inl (cJ, 768, .inr (.inl (fun _ => 0)))), (a2_x42, .inl (cZ, 256, .inl (fun _ => 0))), (a3_x42, .inl (cI, 256, .inl (fun _ => 0)))] H := hP
  have hD : va_D A [(wk, .inr (4, [.ref q7, .ref q15, .ref q23, .ref q32, .int 0, .null, .null, .long 0, .long 0, .int 0, .int 0, .int 0, .int 0])), (st0, .inl (cI, 94, .inl stp)), (q7, .inl (cI, 94, .inl (fun _ => 0))), (q15, .inl (cI, 94, .inl (fun _ => 0))), (q23, .inl (cI, 17, .inl (fun _ => 0))), (q32, .inl (cJ, 282, .inr (.inl (fun _ => 0)))), (q38, .inr (2, [.ref a1_x42, .ref a2_x42, .ref a3_x42, .int 0])), (a1_x42, .inl (cJ, 768, .inr (.inl (fun _ => 0)))), (a2_x42, .inl (cZ, 256, .inl (fun _ => 0))), (a3_x42, .inl (cI, 256, .inl (fun _ => 0)))] := hD
  try dsimp only at hx42
  refine va_put (D := D) (ci := 4) (v := .ref q38) (ty := .object "RummyTable$Row") (C := RX6) (T := TX6) (N := 13) hx hb hts iX6 tyX6 tyX6_ok nmX6 hown hK hP hD hS 0 rfl rfl 5 (by decide) k28 (fun _ h9 => h9) rfl (by decide +kernel) rfl rfl (Nat.le_of_ble_eq_true rfl) dX6_init_45 (fun H locs hP hD hS => ?_)
  have hP : va_P D vwCl [(wk, .inr (4, [.ref q7, .ref q15, .ref q23, .ref q32, .int 0, .ref q38, .null, .long 0, .long 0, .int 0, .int 0, .int 0, .int 0])), (st0, .inl (cI, 94, .inl stp)), (q7, .inl (cI, 94, .inl (fun _ => 0))), (q15, .inl (cI, 94, .inl (fun _ => 0))), (q23, .inl (cI, 17, .inl (fun _ => 0))), (q32, .inl (cJ, 282, .inr (.inl (fun _ => 0)))), (q38, .inr (2, [.ref a1_x42, .ref a2_x42, .ref a3_x42, .int 0])), (a1_x42, .inl (cJ, 768, .inr (.inl (fun _ => 0)))), (a2_x42, .inl (cZ, 256, .inl (fun _ => 0))), (a3_x42, .inl (cI, 256, .inl (fun _ => 0)))] H := hP
  have hD : va_D A [(wk, .inr (4, [.ref q7, .ref q15, .ref q23, .ref q32, .int 0, .ref q38, .null, .long 0, .long 0, .int 0, .int 0, .int 0, .int 0])), (st0, .inl (cI, 94, .inl stp)), (q7, .inl (cI, 94, .inl (fun _ => 0))), (q15, .inl (cI, 94, .inl (fun _ => 0))), (q23, .inl (cI, 17, .inl (fun _ => 0))), (q32, .inl (cJ, 282, .inr (.inl (fun _ => 0)))), (q38, .inr (2, [.ref a1_x42, .ref a2_x42, .ref a3_x42, .int 0])), (a1_x42, .inl (cJ, 768, .inr (.inl (fun _ => 0)))), (a2_x42, .inl (cZ, 256, .inl (fun _ => 0))), (a3_x42, .inl (cI, 256, .inl (fun _ => 0)))] := hD
  refine lv_aload_n hx hb dX6_init_48 rfl (lv_at hl 0 rfl) ?_
  refine va_new (C := RX3) (T := TX3) (N := 4) (ci := 2) hx hb hts iX3 tyX3 tyX3_ok hown k25 itX3 iniRX3 hK hP hD hS hA rfl (fs := [.null, .null, .null, .int 0]) (fun j hj => by rcases (show j = 0 ∨ j = 1 ∨ j = 2 ∨ j = 3 by omega) with rfl | rfl | rfl | rfl <;> rfl) (Nat.le_of_ble_eq_true rfl) (Nat.le_of_ble_eq_true rfl) dX6_init_49 (fun q49 H hP hD hS => ?_)
  have hP : va_P D vwCl [(wk, .inr (4, [.ref q7, .ref q15, .ref q23, .ref q32, .int 0, .ref q38, .null, .long 0, .long 0, .int 0, .int 0, .int 0, .int 0])), (st0, .inl (cI, 94, .inl stp)), (q7, .inl (cI, 94, .inl (fun _ => 0))), (q15, .inl (cI, 94, .inl (fun _ => 0))), (q23, .inl (cI, 17, .inl (fun _ => 0))), (q32, .inl (cJ, 282, .inr (.inl (fun _ => 0)))), (q38, .inr (2, [.ref a1_x42, .ref a2_x42, .ref a3_x42, .int 0])), (a1_x42, .inl (cJ, 768, .inr (.inl (fun _ => 0)))), (a2_x42, .inl (cZ, 256, .inl (fun _ => 0))), (a3_x42, .inl (cI, 256, .inl (fun _ => 0))), (q49, .inr (2, [.null, .null, .null, .int 0]))] H := hP
  have hD : va_D A [(wk, .inr (4, [.ref q7, .ref q15, .ref q23, .ref q32, .int 0, .ref q38, .null, .long 0, .long 0, .int 0, .int 0, .int 0, .int 0])), (st0, .inl (cI, 94, .inl stp)), (q7, .inl (cI, 94, .inl (fun _ => 0))), (q15, .inl (cI, 94, .inl (fun _ => 0))), (q23, .inl (cI, 17, .inl (fun _ => 0))), (q32, .inl (cJ, 282, .inr (.inl (fun _ => 0)))), (q38, .inr (2, [.ref a1_x42, .ref a2_x42, .ref a3_x42, .int 0])), (a1_x42, .inl (cJ, 768, .inr (.inl (fun _ => 0)))), (a2_x42, .inl (cZ, 256, .inl (fun _ => 0))), (a3_x42, .inl (cI, 256, .inl (fun _ => 0))), (q49, .inr (2, [.null, .null, .null, .int 0]))] := hD
  refine lv_dup hx hb dX6_init_52 rfl ?_
  have hPc := hP.sub (ws' := [(q49, .inr (2, [.null, .null, .null, .int 0]))]) [10] rfl
  have hDc := hD.sub (ws' := [(q49, .inr (2, [.null, .null, .null, .int 0]))]) [10] (by decide) rfl
  have hFc := va_free (wc := [(q49, .inr (2, [.null, .null, .null, .int 0]))]) hD hS hA [10] rfl
  refine va_callv (va_runIN (As := []) (rest := [.ref q49, .ref wk]) ⟨hx, hb, hml, hown, hts⟩ (k_X3_init l D cI cJ cZ H.size q49 ) ⟨va_cnB 0 hts ggX6_init_X3_init rfl rfl rfl k27 iniRX3 (by decide +kernel) ⟨Nat.le_of_ble_eq_true rfl, Nat.le_of_ble_eq_true rfl⟩, rfl, imX3_init⟩ ⟨wM_fb, wM_pre hPc ⟨hK, hN⟩ hDc⟩ rfl rfl hl.1 rfl (lv_room (Nat.le_of_ble_eq_true rfl)) dX6_init_53 ⟨Nat.le_of_ble_eq_true rfl, Nat.le_of_ble_eq_true rfl⟩) hS (fun q _ h => hFc q h) hFc (fun u t H1 locs ht hvm hx53 hB hz1 hk1 hS => ?_)
  obtain ⟨a1_x53, a2_x53, a3_x53⟩ := u
  obtain ⟨hP1, hD1⟩ := hB
  rw [ht] at hP1
  obtain ⟨hP, hD⟩ := va_join (wr := [(wk, .inr (4, [.ref q7, .ref q15, .ref q23, .ref q32, .int 0, .ref q38, .null, .long 0, .long 0, .int 0, .int 0, .int 0, .int 0])), (st0, .inl (cI, 94, .inl stp)), (q7, .inl (cI, 94, .inl (fun _ => 0))), (q15, .inl (cI, 94, .inl (fun _ => 0))), (q23, .inl (cI, 17, .inl (fun _ => 0))), (q32, .inl (cJ, 282, .inr (.inl (fun _ => 0)))), (q38, .inr (2, [.ref a1_x42, .ref a2_x42, .ref a3_x42, .int 0])), (a1_x42, .inl (cJ, 768, .inr (.inl (fun _ => 0)))), (a2_x42, .inl (cZ, 256, .inl (fun _ => 0))), (a3_x42, .inl (cI, 256, .inl (fun _ => 0)))]) (w1 := [(q49, .inr (2, [.ref a1_x53, .ref a2_x53, .ref a3_x53, .int 0])), (a1_x53, .inl (cJ, 768, .inr (.inl (fun _ => 0)))), (a2_x53, .inl (cZ, 256, .inl (fun _ => 0))), (a3_x53, .inl (cI, 256, .inl (fun _ => 0)))]) hP hD [10] [0, 1, 2, 3, 4, 5, 6, 7, 8, 9] rfl rfl (by decide) (by decide) hk1 hFc hP1 hD1
  generalize H1 = H at hP hS ⊢
  have hP : va_P D vwCl [(wk, .inr (4, [.ref q7, .ref q15, .ref q23, .ref q32, .int 0, .ref q38, .null, .long 0, .long 0, .int 0, .int 0, .int 0, .int 0])), (st0, .inl (cI, 94, .inl stp)), (q7, .inl (cI, 94, .inl (fun _ => 0))), (q15, .inl (cI, 94, .inl (fun _ => 0))), (q23, .inl (cI, 17, .inl (fun _ => 0))), (q32, .inl (cJ, 282, .inr (.inl (fun _ => 0)))), (q38, .inr (2, [.ref a1_x42, .ref a2_x42, .ref a3_x42, .int 0])), (a1_x42, .inl (cJ, 768, .inr (.inl (fun _ => 0)))), (a2_x42, .inl (cZ, 256, .inl (fun _ => 0))), (a3_x42, .inl (cI, 256, .inl (fun _ => 0))), (q49, .inr (2, [.ref a1_x53, .ref a2_x53, .ref a3_x53, .int 0])), (a1_x53, .inl (cJ, 768, .inr (.inl (fun _ => 0)))), (a2_x53, .inl (cZ, 256, .inl (fun _ => 0))), (a3_x53, .inl (cI, 256, .inl (fun _ => 0)))] H := hP
  have hD : va_D A [(wk, .inr (4, [.ref q7, .ref q15, .ref q23, .ref q32, .int 0, .ref q38, .null, .long 0, .long 0, .int 0, .int 0, .int 0, .int 0])), (st0, .inl (cI, 94, .inl stp)), (q7, .inl (cI, 94, .inl (fun _ => 0))), (q15, .inl (cI, 94, .inl (fun _ => 0))), (q23, .inl (cI, 17, .inl (fun _ => 0))), (q32, .inl (cJ, 282, .inr (.inl (fun _ => 0)))), (q38, .inr (2, [.ref a1_x42, .ref a2_x42, .ref a3_x42, .int 0])), (a1_x42, .inl (cJ, 768, .inr (.inl (fun _ => 0)))), (a2_x42, .inl (cZ, 256, .inl (fun _ => 0))), (a3_x42, .inl (cI, 256, .inl (fun _ => 0))), (q49, .inr (2, [.ref a1_x53, .ref a2_x53, .ref a3_x53, .int 0])), (a1_x53, .inl (cJ, 768, .inr (.inl (fun _ => 0)))), (a2_x53, .inl (cZ, 256, .inl (fun _ => 0))), (a3_x53, .inl (cI, 256, .inl (fun _ => 0)))] := hD
  try dsimp only at hx53
  refine va_put (D := D) (ci := 4) (v := .ref q49) (ty := .object "RummyTable$Row") (C := RX6) (T := TX6) (N := 13) hx hb hts iX6 tyX6 tyX6_ok nmX6 hown hK hP hD hS 0 rfl rfl 6 (by decide) k32 (fun _ h9 => h9) rfl (by decide +kernel) rfl rfl (Nat.le_of_ble_eq_true rfl) dX6_init_56 (fun H locs hP hD hS => ?_)
  have hP : va_P D vwCl [(wk, .inr (4, [.ref q7, .ref q15, .ref q23, .ref q32, .int 0, .ref q38, .ref q49, .long 0, .long 0, .int 0, .int 0, .int 0, .int 0])), (st0, .inl (cI, 94, .inl stp)), (q7, .inl (cI, 94, .inl (fun _ => 0))), (q15, .inl (cI, 94, .inl (fun _ => 0))), (q23, .inl (cI, 17, .inl (fun _ => 0))), (q32, .inl (cJ, 282, .inr (.inl (fun _ => 0)))), (q38, .inr (2, [.ref a1_x42, .ref a2_x42, .ref a3_x42, .int 0])), (a1_x42, .inl (cJ, 768, .inr (.inl (fun _ => 0)))), (a2_x42, .inl (cZ, 256, .inl (fun _ => 0))), (a3_x42, .inl (cI, 256, .inl (fun _ => 0))), (q49, .inr (2, [.ref a1_x53, .ref a2_x53, .ref a3_x53, .int 0])), (a1_x53, .inl (cJ, 768, .inr (.inl (fun _ => 0)))), (a2_x53, .inl (cZ, 256, .inl (fun _ => 0))), (a3_x53, .inl (cI, 256, .inl (fun _ => 0)))] H := hP
  have hD : va_D A [(wk, .inr (4, [.ref q7, .ref q15, .ref q23, .ref q32, .int 0, .ref q38, .ref q49, .long 0, .long 0, .int 0, .int 0, .int 0, .int 0])), (st0, .inl (cI, 94, .inl stp)), (q7, .inl (cI, 94, .inl (fun _ => 0))), (q15, .inl (cI, 94, .inl (fun _ => 0))), (q23, .inl (cI, 17, .inl (fun _ => 0))), (q32, .inl (cJ, 282, .inr (.inl (fun _ => 0)))), (q38, .inr (2, [.ref a1_x42, .ref a2_x42, .ref a3_x42, .int 0])), (a1_x42, .inl (cJ, 768, .inr (.inl (fun _ => 0)))), (a2_x42, .inl (cZ, 256, .inl (fun _ => 0))), (a3_x42, .inl (cI, 256, .inl (fun _ => 0))), (q49, .inr (2, [.ref a1_x53, .ref a2_x53, .ref a3_x53, .int 0])), (a1_x53, .inl (cJ, 768, .inr (.inl (fun _ => 0)))), (a2_x53, .inl (cZ, 256, .inl (fun _ => 0))), (a3_x53, .inl (cI, 256, .inl (fun _ => 0)))] := hD
  refine lv_iconst (v := 0) hx hb dX6_init_59 (by decide) ?_
  refine lv_istore_n (lv' := [(2, .int 0), (0, .ref wk), (1, .ref st0)]) hx hb dX6_init_60 rfl hl (by decide) rfl (fun ls hl => ?_)
  refine lv_iconst (v := 0) hx hb dX6_init_61 (by decide) ?_
  refine lv_istore_n (lv' := [(3, .int 0), (2, .int 0), (0, .ref wk), (1, .ref st0)]) hx hb dX6_init_62 rfl hl (by decide) rfl (fun ls hl => ?_)
  exact lab63 _ 0 q7 q15 q23 q32 q38 a1_x42 a2_x42 a3_x42 q49 a1_x53 a2_x53 a3_x53 0 0 (fun _ => 0) (nI_0.symm) (by omega) (nI_0.symm) (fun k h => absurd h (Nat.not_lt_zero k)) (Nat.lt_succ_self _) _ _ hP hD hS ls (lv_sub hl [2, 3, 1, 0] rfl)
