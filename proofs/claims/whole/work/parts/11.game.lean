/-- the shuffle: what s is and which card lies where, behind n steps -/
def shN (seed : Nat) : Nat → Nat × (Nat → Nat)
  | 0 => (seed, fun k => k)
  | n + 1 => (48271 * (shN seed n).1 % 2147483647, fun k => if k = 48271 * (shN seed n).1 % 2147483647 % (53 - n + 1) then (shN seed n).2 (53 - n) else if k = 53 - n then (shN seed n).2 (48271 * (shN seed n).1 % 2147483647 % (53 - n + 1)) else (shN seed n).2 k)
theorem shN_lt {sd : Nat} (h : sd < 2147483647) : ∀ n, (shN sd n).1 < 2147483647
  | 0 => h
  | n + 1 => Nat.mod_lt _ (by decide)
theorem shN_card {sd : Nat} : ∀ n, n ≤ 53 → ∀ k, k < 54 → (shN sd n).2 k < 54
  | 0, _, k, h => h
  | n + 1, hn, k, h => by
    show (if _ then _ else if _ then _ else _) < 54
    have hm : 48271 * (shN sd n).1 % 2147483647 % (53 - n + 1) < 54 := Nat.lt_of_lt_of_le (Nat.mod_lt _ (Nat.succ_pos _)) (by omega)
    split
    · exact shN_card n (by omega) _ (by omega)
    · split
      · exact shN_card n (by omega) _ hm
      · exact shN_card n (by omega) k h
theorem hp_id {f g : Nat → Int32} {x : Int32} {i : Nat} (e : upd f x.toNatClampNeg x = g) (hx : x = nI i) (hi : i < 2 ^ 31) (h : ∀ k, k < i → f k = nI k) : ∀ k, k < i + 1 → g k = nI k := by
  intro k hk
  subst e; subst hx
  rw [nI_clamp hi]
  by_cases q : k = i
  · subst q; exact pk_us
  · rw [pk_un q]; exact h k (by omega)
theorem lN_lit (n : Nat) : (OfNat.ofNat n : Int64) = lN n := rfl
theorem hp_lcg {a : Nat} (h : a < 2147483647) : (48271 : Int64) * lN a - (48271 : Int64) * lN a / 2147483647 * 2147483647 = lN (48271 * a % 2147483647) := by
  rw [show (48271 : Int64) = lN 48271 from rfl, show (2147483647 : Int64) = lN 2147483647 from rfl, lN_mul]
  exact pk_lRem (by omega) (by decide) (by decide)
theorem hp_mod {a i : Nat} {x : Int32} (hx : x = nI i) (h : a < 2147483647) (hi : i < 100) : (lN a - lN a / (x + 1).toInt64 * (x + 1).toInt64).toInt32 = nI (a % (i + 1)) := by
  subst hx
  rw [nI_1, nI_l (by omega), pk_lRem (by omega) (by omega) (by omega), lN_i]
theorem hp_nz {i : Nat} {x : Int32} (hx : x = nI i) (hi : i < 100) : ¬ (x + 1).toInt64 = 0 := by
  subst hx
  rw [nI_1, nI_l (by omega)]
  intro h
  have := (lN_eq (a := i + 1) (b := 0) (by omega) (by decide)).mp h
  omega
theorem hp_down {x z : Int32} {n : Nat} (hz : z = x + (-1)) (hx : x = nI (53 - n)) (hn : n < 53) : z = nI (53 - (n + 1)) := by
  rw [hz, hx, show 53 - n = (53 - (n + 1)) + 1 by omega]
  exact pk_m1 _
theorem hp_lt1 {x : Int32} {n : Nat} (hx : x = nI (53 - n)) (hn : n ≤ 53) (h : x < 1) : n = 53 := by
  rw [hx, show (1 : Int32) = nI 1 from rfl, nI_ltI (by omega) (by decide)] at h; omega
theorem hp_nlt1 {x : Int32} {n : Nat} (hx : x = nI (53 - n)) (hn : n ≤ 53) (h : ¬ x < 1) : n < 53 := by
  rw [hx, show (1 : Int32) = nI 1 from rfl, nI_ltI (by omega) (by decide)] at h; omega
theorem hp_swap {f g h : Nat → Int32} {sd n : Nat} {x y c : Int32} (hx : x = nI (53 - n)) (hy : y = nI (48271 * (shN sd n).1 % 2147483647 % (53 - n + 1))) (hc : c = f x.toNatClampNeg) (e1 : upd f x.toNatClampNeg (f y.toNatClampNeg) = g) (e2 : upd g y.toNatClampNeg c = h) (hn : n < 53) (hf : ∀ k, k < 54 → f k = nI ((shN sd n).2 k)) : ∀ k, k < 54 → h k = nI ((shN sd (n + 1)).2 k) := by
  intro k hk
  have hm : 48271 * (shN sd n).1 % 2147483647 % (53 - n + 1) < 54 := Nat.lt_of_lt_of_le (Nat.mod_lt _ (Nat.succ_pos _)) (by omega)
  subst e1; subst e2; subst hc; subst hx; subst hy
  rw [nI_clamp (by omega), nI_clamp (by omega)]
  show _ = nI (if _ then _ else if _ then _ else _)
  by_cases q : k = 48271 * (shN sd n).1 % 2147483647 % (53 - n + 1)
  · rw [if_pos q, q, pk_us]; exact hf _ (by omega)
  · rw [if_neg q, pk_un q]
    by_cases q2 : k = 53 - n
    · rw [if_pos q2, q2, pk_us]; exact hf _ hm
    · rw [if_neg q2, pk_un q2]; exact hf k hk
def j_has (np : Nat) (pl : Int32) : Int32 := if pl < 0 then 0 else if nI np ≤ pl then 0 else if 4 ≤ pl then 0 else 1
theorem j_has_in {np : Nat} {pl : Int32} (h : ¬ j_has np pl = 0) : vp_in pl 4 := by
  simp only [j_has] at h
  split at h
  · exact absurd rfl h
  · split at h
    · exact absurd rfl h
    · split at h
      · exact absurd rfl h
      · rename_i h1 _ h3
        rw [vp_in_iff]
        rw [Int32.lt_iff_toInt_lt] at h1
        rw [Int32.le_iff_toInt_le] at h3
        have e0 : (0 : Int32).toInt = 0 := by decide
        have e4 : (4 : Int32).toInt = 4 := by decide
        omega
theorem j_has_ok {np k : Nat} (h : k < np) (hn : np ≤ 4) : j_has np (nI k) = 1 := by
  simp only [j_has]
  rw [if_neg (nI_pos (by omega)), if_neg (nI_ge h (by omega)), if_neg (show ¬ (4 : Int32) ≤ nI k from nI_ge (b := 4) (by omega) (by decide))]
/-- the hand of n cards from place t on -/
def hdL (f : Nat → Nat) (t : Nat) : Nat → Int64
  | 0 => 0
  | n + 1 => hdL f t n ||| j_X1_bitOf (nI (f (t + n)))
def j_fact (np : Nat) (tp tn te lay ov win : Int32) (wh : Int) : Int32 := if wh = 0 then tn else if wh = 1 then 54 - tp else if wh = 2 then (if ov = 0 then 0 else 1) else if wh = 3 then win else if wh = 4 then te else if wh = 5 then lay else nI np
theorem j_fact_big {np : Nat} {tp tn te lay ov win : Int32} {wh : Int} (h : wh < 0 ∨ 5 < wh) : nI np = j_fact np tp tn te lay ov win wh := by
  simp only [j_fact]
  rw [if_neg (by omega), if_neg (by omega), if_neg (by omega), if_neg (by omega), if_neg (by omega), if_neg (by omega)]
theorem cmp_eq {x y : Int64} : lg_cmp x y = 0 ↔ x = y := by
  unfold lg_cmp
  constructor
  · intro h
    split at h
    · exact absurd h (by decide)
    · split at h
      · assumption
      · exact absurd h (by decide)
  · intro h; subst h
    rw [if_neg (Int64.lt_irrefl), if_pos rfl]
theorem hp_cz {x : Int64} (h : x = 0) : lg_cmp x 0 = 0 := cmp_eq.mpr h
theorem hp_cz2 {x y : Int64} (h : lg_cmp x 0 = 0) (e : x = y) : y = 0 := by rw [← e]; exact cmp_eq.mp h
set_option maxHeartbeats 4000000 in
set_option maxRecDepth 100000 in
theorem k_X1_shuffle (l : Launch) (D : va_G) (cI cJ cZ : ClassId) (sz : Nat) (g ha oa pa : Nat) (pl0 tp0 tn0 te lay idl ov win : Int32) (ly : Int64) (sd : Nat) (pf : Nat → Int32) (hs1 : 1 ≤ sd) (hs2 : sd < 2147483647) : Met l yX1_shuffle wsX1_shuffle ({ frames := 0, cells := 0, slots := 0, locals := 0 } : Room) (va_Pc [.ref g, .int (nI sd)] (wM D cI cJ cZ sz [(g, .inr (0, [.ref ha, .ref oa, .ref pa, .int pl0, .int tp0, .long ly, .int tn0, .int te, .int lay, .int idl, .int ov, .int win])), (pa, .inl (cI, 54, .inl pf))])) (va_Qv (fun (u : (Nat → Int32)) => match u with | pf2 => (∀ k, k < 54 → pf2 k = nI ((shN sd 53).2 k))) (fun (u : (Nat → Int32)) t => match u with | pf2 => wB D (va_A [(g, .inr (0, [.ref ha, .ref oa, .ref pa, .int pl0, .int tp0, .long ly, .int tn0, .int te, .int lay, .int idl, .int ov, .int win])), (pa, .inl (cI, 54, .inl pf))] sz) [(g, .inr (0, [.ref ha, .ref oa, .ref pa, .int pl0, .int tp0, .long ly, .int tn0, .int te, .int lay, .int idl, .int ov, .int win])), (pa, .inl (cI, 54, .inl pf2))] t) (va_A [(g, .inr (0, [.ref ha, .ref oa, .ref pa, .int pl0, .int tp0, .long ly, .int tn0, .int te, .int lay, .int idl, .int ov, .int win])), (pa, .inl (cI, 54, .inl pf))] sz)) 0 0 (va_A [(g, .inr (0, [.ref ha, .ref oa, .ref pa, .int pl0, .int tp0, .long ly, .int tn0, .int te, .int lay, .int idl, .int ov, .int win])), (pa, .inl (cI, 54, .inl pf))] sz) := by
  refine Met.ofW (cc := cX1_shuffle) (maxL := 7) (ret := none) (by decide) rfl ?_
  intro p e s m args below meth c s₁ B hml hv
  obtain ⟨hargs, hsz, hP, ⟨hK, hN⟩, hD0⟩ := hv
  have hx := B.exec
  have hb := B.bytes
  have hr := B.returns
  have hlocks := B.notSynchronized
  have hts := atoms_spec (ws := wsX1_shuffle) B.pre
  have hown : s.vm.findClass RX1 = some m.cls := findClass_of_methodNamed B.named
  have k71 := hts (.constantLong RX1 71 (48271)) (by decide +kernel)
  have k73 := hts (.constantLong RX1 73 (2147483647)) (by decide +kernel)
  have k19 := hts (.fieldLink RX1 19 "RummyTable$Game" "pack" "[I") (by decide +kernel)
  have iX1 : ∀ w ∈ wsX10, w ∈ wsX1_shuffle := by decide +kernel
  subst hsz
  have hD := hD0.self (sz := s.heap.size)
  generalize hAe : va_A [(g, .inr (0, [.ref ha, .ref oa, .ref pa, .int pl0, .int tp0, .long ly, .int tn0, .int te, .int lay, .int idl, .int ov, .int win])), (pa, .inl (cI, 54, .inl pf))] s.heap.size = A at hD ⊢
  have hA : ∀ q : Nat, s.heap.size ≤ q → A q := fun q h => by rw [← hAe]; exact Or.inr h
  have hS : va_S A s.heap s.heap [] := va_S.rf
  rw [show entryFrame m args 7 = entryFrame m ([.ref g, .int (nI sd)] : List Value).toArray 7 from by rw [hargs]]
  have hl := lv_entry ([.ref g, .int (nI sd)]) (n := 7) (Nat.le_of_ble_eq_true rfl)
  rw [lg_entry_eq]
  generalize (lg_sl ([.ref g, .int (nI sd)]) ++ List.replicate (7 - (lg_sl ([.ref g, .int (nI sd)])).length) Slot.unset).toArray = ls at hl ⊢
  have hl : lv_has ls 7 [(0, .ref g), (1, .int (nI sd))] := hl
  refine wQ (fun Q hQ => ?_)
  have lab28 : ∀ fuel28 : Nat, ∀ (n : Nat) (sv : Int64) (x4 : Int32) (pq : Nat → Int32), (h4 : x4 = nI (53 - n)) → (hn : n ≤ 53) → (hsv : sv = lN (shN sd n).1) → (hq : ∀ k, k < 54 → pq k = nI ((shN sd n).2 k)) → (hfu28 : 53 - n < fuel28) → ∀ (H : Heap) (locs : List Loc), va_P D vwCl [(g, .inr (0, [.ref ha, .ref oa, .ref pa, .int pl0, .int tp0, .long ly, .int tn0, .int te, .int lay, .int idl, .int ov, .int win])), (pa, .inl (cI, 54, .inl pq))] H → va_D A [(g, .inr (0, [.ref ha, .ref oa, .ref pa, .int pl0, .int tp0, .long ly, .int tn0, .int te, .int lay, .int idl, .int ov, .int win])), (pa, .inl (cI, 54, .inl pq))] → va_S A s.heap H locs → ∀ ls : Array Slot, lv_has ls 7 [(0, .ref g), (1, .int (nI sd)), (2, .long sv), (4, .int x4)] → W p l e (headSpec wsX1_shuffle ({ frames := 0, cells := 0, slots := 0, locals := 0 } : Room)).room s m args below meth c H locs 0 0 Q (F0 m 28 ls []) := by
    intro fuel28
    induction fuel28 with
    | zero =>
      intro n sv x4 pq h4 hn hsv hq hfu28
      exact absurd hfu28 (Nat.not_lt_zero _)
    | succ fuel28 ih28 =>
      intro n sv x4 pq h4 hn hsv hq hfu28 H locs hP hD hS ls hl
      refine lv_iload hx hb dX1_shuffle_28 (lv_at hl 3 rfl) ?_
      refine lv_iconst (v := 1) hx hb dX1_shuffle_30 (by decide) ?_
      refine lv_icmp_lt (tgt := 92) hx hb dX1_shuffle_31 (by decide) (fun c_31 => ?_) (fun c_31 => ?_)
      · have hn53 := hp_lt1 h4 hn c_31
        subst hn53
        rw [← hQ]
        have hP9 := hP.sub (ws' := [(g, .inr (0, [.ref ha, .ref oa, .ref pa, .int pl0, .int tp0, .long ly, .int tn0, .int te, .int lay, .int idl, .int ov, .int win])), (pa, .inl (cI, 54, .inl pq))]) [0, 1] rfl
        have hD9 := hD.sub (ws' := [(g, .inr (0, [.ref ha, .ref oa, .ref pa, .int pl0, .int tp0, .long ly, .int tn0, .int te, .int lay, .int idl, .int ov, .int win])), (pa, .inl (cI, 54, .inl pq))]) [0, 1] (by decide) rfl
        exact W.vret hx hb hr (fun t ht hW => ⟨⟨pq, rfl, hq, (by show wB D A _ t; exact ⟨by rw [ht]; exact hP9, hD9⟩)⟩, hS.F ht⟩) hS.2.2 dX1_shuffle_92
      · have hlt := hp_nlt1 h4 hn c_31
        have hab := shN_lt hs2 n
        refine lv_ldc2 hx hb hown k71 dX1_shuffle_34 ?_
        refine lv_lload_n hx hb dX1_shuffle_37 rfl (lv_at hl 2 rfl) ?_
        refine lv_lmul hx hb dX1_shuffle_38 ?_
        refine lv_ldc2 hx hb hown k73 dX1_shuffle_39 ?_
        refine lv_lrem hx hb dX1_shuffle_42 (by decide) ?_
        refine lv_topl (fun x43 ex43 => ?_)
        refine lv_lstore_n (lv' := [(2, .long x43), (0, .ref g), (1, .int (nI sd)), (4, .int x4)]) hx hb dX1_shuffle_43 rfl hl (by decide) rfl (fun ls hl => ?_)
        have hs43 : x43 = lN (shN sd (n + 1)).1 := by rw [ex43, hsv]; exact hp_lcg hab
        refine lv_lload_n hx hb dX1_shuffle_44 rfl (lv_at hl 0 rfl) ?_
        refine lv_iload hx hb dX1_shuffle_45 (lv_at hl 3 rfl) ?_
        refine lv_iconst (v := 1) hx hb dX1_shuffle_47 (by decide) ?_
        refine lv_iadd hx hb dX1_shuffle_48 ?_
        refine lv_i2l hx hb dX1_shuffle_49 rfl ?_
        refine lv_lrem hx hb dX1_shuffle_50 (hp_nz h4 (by omega)) ?_
        refine lv_l2i hx hb dX1_shuffle_51 rfl ?_
        refine lv_topi (fun x52 ex52 => ?_)
        refine lv_istore (lv' := [(5, .int x52), (2, .long x43), (0, .ref g), (1, .int (nI sd)), (4, .int x4)]) hx hb dX1_shuffle_52 hl (by decide) rfl (fun ls hl => ?_)
        have hj : x52 = nI (48271 * (shN sd n).1 % 2147483647 % (53 - n + 1)) := by rw [ex52, hs43]; exact hp_mod h4 (shN_lt hs2 (n + 1)) (by omega)
        have hmm : 48271 * (shN sd n).1 % 2147483647 % (53 - n + 1) < 54 := Nat.lt_of_lt_of_le (Nat.mod_lt _ (Nat.succ_pos _)) (by omega)
        refine lv_aload_n hx hb dX1_shuffle_54 rfl (lv_at hl 2 rfl) ?_
        refine va_get (D := D) (ci := 0) (v := .ref pa) (C := RX1) (T := TX1) (N := 12) hx hb hts iX1 hown hK hP 0 rfl rfl 2 (by decide) k19 (fun _ h9 => h9) rfl dX1_shuffle_55 ?_
        refine lv_iload hx hb dX1_shuffle_58 (lv_at hl 4 rfl) ?_
        refine va_iald hx hb hK hP 1 0 rfl rfl (by rw [h4]; exact vp_in_nI (by omega) (by decide)) dX1_shuffle_60 ?_
        refine lv_topi (fun x61 ex61 => ?_)
        refine lv_istore (lv' := [(6, .int x61), (5, .int x52), (2, .long x43), (0, .ref g), (1, .int (nI sd)), (4, .int x4)]) hx hb dX1_shuffle_61 hl (by decide) rfl (fun ls hl => ?_)
        refine lv_aload_n hx hb dX1_shuffle_63 rfl (lv_at hl 3 rfl) ?_
        refine va_get (D := D) (ci := 0) (v := .ref pa) (C := RX1) (T := TX1) (N := 12) hx hb hts iX1 hown hK hP 0 rfl rfl 2 (by decide) k19 (fun _ h9 => h9) rfl dX1_shuffle_64 ?_
        refine lv_iload hx hb dX1_shuffle_67 (lv_at hl 5 rfl) ?_
        refine lv_aload_n hx hb dX1_shuffle_69 rfl (lv_at hl 3 rfl) ?_
        refine va_get (D := D) (ci := 0) (v := .ref pa) (C := RX1) (T := TX1) (N := 12) hx hb hts iX1 hown hK hP 0 rfl rfl 2 (by decide) k19 (fun _ h9 => h9) rfl dX1_shuffle_70 ?_
        refine lv_iload hx hb dX1_shuffle_73 (lv_at hl 1 rfl) ?_
        refine va_iald hx hb hK hP 1 0 rfl rfl (by rw [hj]; exact vp_in_nI hmm (by decide)) dX1_shuffle_75 ?_
        refine va_iast hx hb hK hP hD hS 1 0 rfl rfl (by rw [h4]; exact vp_in_nI (by omega) (by decide)) dX1_shuffle_76 (fun H locs hP hD hS => ?_)
        have hP : va_P D vwCl [(g, .inr (0, [.ref ha, .ref oa, .ref pa, .int pl0, .int tp0, .long ly, .int tn0, .int te, .int lay, .int idl, .int ov, .int win])), (pa, .inl (cI, 54, .inl (upd pq x4.toNatClampNeg (pq x52.toNatClampNeg))))] H := hP
        have hD : va_D A [(g, .inr (0, [.ref ha, .ref oa, .ref pa, .int pl0, .int tp0, .long ly, .int tn0, .int te, .int lay, .int idl, .int ov, .int win])), (pa, .inl (cI, 54, .inl (upd pq x4.toNatClampNeg (pq x52.toNatClampNeg))))] := hD
        generalize ex76 : upd pq x4.toNatClampNeg (pq x52.toNatClampNeg) = x76 at hP hD
        refine lv_aload_n hx hb dX1_shuffle_77 rfl (lv_at hl 3 rfl) ?_
        refine va_get (D := D) (ci := 0) (v := .ref pa) (C := RX1) (T := TX1) (N := 12) hx hb hts iX1 hown hK hP 0 rfl rfl 2 (by decide) k19 (fun _ h9 => h9) rfl dX1_shuffle_78 ?_
        refine lv_iload hx hb dX1_shuffle_81 (lv_at hl 1 rfl) ?_
        refine lv_iload hx hb dX1_shuffle_83 (lv_at hl 0 rfl) ?_
        refine va_iast hx hb hK hP hD hS 1 0 rfl rfl (by rw [hj]; exact vp_in_nI hmm (by decide)) dX1_shuffle_85 (fun H locs hP hD hS => ?_)
        have hP : va_P D vwCl [(g, .inr (0, [.ref ha, .ref oa, .ref pa, .int pl0, .int tp0, .long ly, .int tn0, .int te, .int lay, .int idl, .int ov, .int win])), (pa, .inl (cI, 54, .inl (upd x76 x52.toNatClampNeg x61)))] H := hP
        have hD : va_D A [(g, .inr (0, [.ref ha, .ref oa, .ref pa, .int pl0, .int tp0, .long ly, .int tn0, .int te, .int lay, .int idl, .int ov, .int win])), (pa, .inl (cI, 54, .inl (upd x76 x52.toNatClampNeg x61)))] := hD
        generalize ex85 : upd x76 x52.toNatClampNeg x61 = x85 at hP hD
        obtain ⟨x86, ex86⟩ : ∃ y : Int32, y = x4 + (-1) := ⟨_, rfl⟩
        refine lv_iinc (v := x86) (lv' := [(4, .int x86), (6, .int x61), (5, .int x52), (2, .long x43), (0, .ref g), (1, .int (nI sd))]) hx hb dX1_shuffle_86 hl (k := 5) rfl (by rw [ex86]; rfl) (by decide) rfl (fun ls hl => ?_)
        refine lv_goto (tgt := 28) hx hb dX1_shuffle_89 (by decide) ?_
        exact ih28 (n + 1) x43 x86 x85 (hp_down ex86 h4 hlt) (by omega) (hs43) (hp_swap h4 hj ex61 ex76 ex85 hlt hq) (by omega) _ _ hP hD hS ls (lv_sub hl [4, 5, 3, 0] rfl)
  have lab2 : ∀ fuel2 : Nat, ∀ (i : Nat) (x2 : Int32) (pq : Nat → Int32), (h2 : x2 = nI i) → (hi : i ≤ 54) → (hf : ∀ k, k < i → pq k = nI k) → (hfu2 : 54 - i < fuel2) → ∀ (H : Heap) (locs : List Loc), va_P D vwCl [(g, .inr (0, [.ref ha, .ref oa, .ref pa, .int pl0, .int tp0, .long ly, .int tn0, .int te, .int lay, .int idl, .int ov, .int win])), (pa, .inl (cI, 54, .inl pq))] H → va_D A [(g, .inr (0, [.ref ha, .ref oa, .ref pa, .int pl0, .int tp0, .long ly, .int tn0, .int te, .int lay, .int idl, .int ov, .int win])), (pa, .inl (cI, 54, .inl pq))] → va_S A s.heap H locs → ∀ ls : Array Slot, lv_has ls 7 [(0, .ref g), (1, .int (nI sd)), (2, .int x2)] → W p l e (headSpec wsX1_shuffle ({ frames := 0, cells := 0, slots := 0, locals := 0 } : Room)).room s m args below meth c H locs 0 0 Q (F0 m 2 ls []) := by
    intro fuel2
    induction fuel2 with
    | zero =>
      intro i x2 pq h2 hi hf hfu2
      exact absurd hfu2 (Nat.not_lt_zero _)
    | succ fuel2 ih2 =>
      intro i x2 pq h2 hi hf hfu2 H locs hP hD hS ls hl
      refine lv_iload_n hx hb dX1_shuffle_2 rfl (lv_at hl 2 rfl) ?_
      refine lv_bipush (v := 54) hx hb dX1_shuffle_3 (by decide) ?_
      refine lv_icmp_ge (tgt := 21) hx hb dX1_shuffle_5 (by decide) (fun c_5 => ?_) (fun c_5 => ?_)
      · have hi54 := hp_ge h2 (by decide : (54 : Int32) = nI 54) hi (by decide) c_5
        subst hi54
        refine lv_iload_n hx hb dX1_shuffle_21 rfl (lv_at hl 1 rfl) ?_
        refine lv_i2l hx hb dX1_shuffle_22 rfl ?_
        refine lv_topl (fun x23 ex23 => ?_)
        refine lv_lstore_n (lv' := [(2, .long x23), (0, .ref g), (1, .int (nI sd))]) hx hb dX1_shuffle_23 rfl hl (by decide) rfl (fun ls hl => ?_)
        refine lv_bipush (v := 53) hx hb dX1_shuffle_24 (by decide) ?_
        refine lv_istore (lv' := [(4, .int 53), (2, .long x23), (0, .ref g), (1, .int (nI sd))]) hx hb dX1_shuffle_26 hl (by decide) rfl (fun ls hl => ?_)
        exact lab28 _ 0 x23 53 pq (rfl) (by omega) (by rw [ex23]; exact nI_l (by omega)) (fun k hk => hf k hk) (Nat.lt_succ_self _) _ _ hP hD hS ls (lv_sub hl [2, 3, 1, 0] rfl)
      · have hlt := hp_lt h2 (by decide : (54 : Int32) = nI 54) hi (by decide) c_5
        refine lv_aload_n hx hb dX1_shuffle_8 rfl (lv_at hl 0 rfl) ?_
        refine va_get (D := D) (ci := 0) (v := .ref pa) (C := RX1) (T := TX1) (N := 12) hx hb hts iX1 hown hK hP 0 rfl rfl 2 (by decide) k19 (fun _ h9 => h9) rfl dX1_shuffle_9 ?_
        refine lv_iload_n hx hb dX1_shuffle_12 rfl (lv_at hl 2 rfl) ?_
        refine lv_iload_n hx hb dX1_shuffle_13 rfl (lv_at hl 2 rfl) ?_
        refine va_iast hx hb hK hP hD hS 1 0 rfl rfl (by rw [h2]; exact vp_in_nI hlt (by decide)) dX1_shuffle_14 (fun H locs hP hD hS => ?_)
        have hP : va_P D vwCl [(g, .inr (0, [.ref ha, .ref oa, .ref pa, .int pl0, .int tp0, .long ly, .int tn0, .int te, .int lay, .int idl, .int ov, .int win])), (pa, .inl (cI, 54, .inl (upd pq x2.toNatClampNeg x2)))] H := hP
        have hD : va_D A [(g, .inr (0, [.ref ha, .ref oa, .ref pa, .int pl0, .int tp0, .long ly, .int tn0, .int te, .int lay, .int idl, .int ov, .int win])), (pa, .inl (cI, 54, .inl (upd pq x2.toNatClampNeg x2)))] := hD
        generalize ex14 : upd pq x2.toNatClampNeg x2 = x14 at hP hD
        obtain ⟨x15, ex15⟩ : ∃ y : Int32, y = x2 + 1 := ⟨_, rfl⟩
        refine lv_iinc (v := x15) (lv' := [(2, .int x15), (0, .ref g), (1, .int (nI sd))]) hx hb dX1_shuffle_15 hl (k := 2) rfl (by rw [ex15]; rfl) (by decide) rfl (fun ls hl => ?_)
        refine lv_goto (tgt := 2) hx hb dX1_shuffle_18 (by decide) ?_
        exact ih2 (i + 1) x15 x14 (hp_s ex15 h2) (by omega) (hp_id ex14 h2 (by omega) hf) (by omega) _ _ hP hD hS ls (lv_sub hl [1, 2, 0] rfl)
  refine lv_iconst (v := 0) hx hb dX1_shuffle_0 (by decide) ?_
  refine lv_istore_n (lv' := [(2, .int 0), (0, .ref g), (1, .int (nI sd))]) hx hb dX1_shuffle_1 rfl hl (by decide) rfl (fun ls hl => ?_)
  exact lab2 _ 0 0 pf (nI_0.symm) (by omega) (fun k h => absurd h (Nat.not_lt_zero k)) (Nat.lt_succ_self _) _ _ hP hD hS ls (lv_sub hl [1, 2, 0] rfl)

set_option maxHeartbeats 4000000 in
set_option maxRecDepth 100000 in
theorem k_X1_has (l : Launch) (D : va_G) (cI cJ cZ : ClassId) (g ha oa pa : Nat) (np : Nat) (tp0 tn0 te lay idl ov win : Int32) (ly : Int64) (plr : Int32)  : Met l yX1_has wsX1_has ({ frames := 0, cells := 0, slots := 0, locals := 0 } : Room) (va_Pc [.ref g, .int plr] (wR D cI cJ cZ [(g, .inr (0, [.ref ha, .ref oa, .ref pa, .int (nI np), .int tp0, .long ly, .int tn0, .int te, .int lay, .int idl, .int ov, .int win]))])) (vp_Si (fun r => r = j_has np plr)) 0 0 (fun _ => False) := by
  refine Met.ofW (cc := cX1_has) (maxL := 2) (ret := (some .boolean)) (by decide) rfl ?_
  intro p e s m args below meth c s₁ B hml hv
  obtain ⟨hargs, hP, hK, hN⟩ := hv
  have hx := B.exec
  have hb := B.bytes
  have hr := B.returns
  have hlocks := B.notSynchronized
  have hts := atoms_spec (ws := wsX1_has) B.pre
  have hown : s.vm.findClass RX1 = some m.cls := findClass_of_methodNamed B.named
  have k33 := hts (.fieldLink RX1 33 "RummyTable$Game" "players" "I") (by decide +kernel)
  have iX1 : ∀ w ∈ wsX10, w ∈ wsX1_has := by decide +kernel
  rw [show entryFrame m args 2 = entryFrame m ([.ref g, .int plr] : List Value).toArray 2 from by rw [hargs]]
  have hl := lv_entry ([.ref g, .int plr]) (n := 2) (Nat.le_of_ble_eq_true rfl)
  rw [lg_entry_eq]
  generalize (lg_sl ([.ref g, .int plr]) ++ List.replicate (2 - (lg_sl ([.ref g, .int plr])).length) Slot.unset).toArray = ls at hl ⊢
  have hl : lv_has ls 2 [(0, .ref g), (1, .int plr)] := hl
  refine wQ (fun Q hQ => ?_)
  refine lv_iload_n hx hb dX1_has_0 rfl (lv_at hl 1 rfl) ?_
  refine lv_if_lt (tgt := 21) hx hb dX1_has_1 (by decide) (fun c_1 => ?_) (fun c_1 => ?_)
  · refine lv_iconst (v := 0) hx hb dX1_has_21 (by decide) ?_
    rw [← hQ]
    exact W.zret (v := 0) hx hb hr (by first | decide | rfl | assumption) (fun t ht hW => ⟨_, rfl, (by simp only [j_has]; (repeat' split) <;> first | rfl | contradiction), ht⟩) (fun _ h => by cases h) dX1_has_22
  · refine lv_iload_n hx hb dX1_has_4 rfl (lv_at hl 1 rfl) ?_
    refine lv_aload_n hx hb dX1_has_5 rfl (lv_at hl 0 rfl) ?_
    refine va_get (D := D) (ci := 0) (v := .int (nI np)) (C := RX1) (T := TX1) (N := 12) hx hb hts iX1 hown hK hP 0 rfl rfl 3 (by decide) k33 (fun _ h9 => h9) rfl dX1_has_6 ?_
    refine lv_icmp_ge (tgt := 21) hx hb dX1_has_9 (by decide) (fun c_9 => ?_) (fun c_9 => ?_)
    · refine lv_iconst (v := 0) hx hb dX1_has_21 (by decide) ?_
      rw [← hQ]
      exact W.zret (v := 0) hx hb hr (by first | decide | rfl | assumption) (fun t ht hW => ⟨_, rfl, (by simp only [j_has]; (repeat' split) <;> first | rfl | contradiction), ht⟩) (fun _ h => by cases h) dX1_has_22
    · refine lv_iload_n hx hb dX1_has_12 rfl (lv_at hl 1 rfl) ?_
      refine lv_iconst (v := 4) hx hb dX1_has_13 (by decide) ?_
      refine lv_icmp_ge (tgt := 21) hx hb dX1_has_14 (by decide) (fun c_14 => ?_) (fun c_14 => ?_)
      · refine lv_iconst (v := 0) hx hb dX1_has_21 (by decide) ?_
        rw [← hQ]
        exact W.zret (v := 0) hx hb hr (by first | decide | rfl | assumption) (fun t ht hW => ⟨_, rfl, (by simp only [j_has]; (repeat' split) <;> first | rfl | contradiction), ht⟩) (fun _ h => by cases h) dX1_has_22
      · refine lv_iconst (v := 1) hx hb dX1_has_17 (by decide) ?_
        refine lv_goto (tgt := 22) hx hb dX1_has_18 (by decide) ?_
        rw [← hQ]
        exact W.zret (v := 1) hx hb hr (by first | decide | rfl | assumption) (fun t ht hW => ⟨_, rfl, (by simp only [j_has]; (repeat' split) <;> first | rfl | contradiction), ht⟩) (fun _ h => by cases h) dX1_has_22

set_option maxHeartbeats 4000000 in
set_option maxRecDepth 100000 in
theorem k_X1_isDealt (l : Launch) (D : va_G) (cI cJ cZ : ClassId) (g ha oa pa : Nat) (np : Nat) (tp0 tn0 te lay idl ov win : Int32) (ly : Int64)   : Met l yX1_isDealt wsX1_isDealt ({ frames := 0, cells := 0, slots := 0, locals := 0 } : Room) (va_Pc [.ref g] (wR D cI cJ cZ [(g, .inr (0, [.ref ha, .ref oa, .ref pa, .int (nI np), .int tp0, .long ly, .int tn0, .int te, .int lay, .int idl, .int ov, .int win]))])) (vp_Si (fun r => r = if nI np ≤ 0 then 0 else 1)) 0 0 (fun _ => False) := by
  refine Met.ofW (cc := cX1_isDealt) (maxL := 1) (ret := (some .boolean)) (by decide) rfl ?_
  intro p e s m args below meth c s₁ B hml hv
  obtain ⟨hargs, hP, hK, hN⟩ := hv
  have hx := B.exec
  have hb := B.bytes
  have hr := B.returns
  have hlocks := B.notSynchronized
  have hts := atoms_spec (ws := wsX1_isDealt) B.pre
  have hown : s.vm.findClass RX1 = some m.cls := findClass_of_methodNamed B.named
  have k33 := hts (.fieldLink RX1 33 "RummyTable$Game" "players" "I") (by decide +kernel)
  have iX1 : ∀ w ∈ wsX10, w ∈ wsX1_isDealt := by decide +kernel
  rw [show entryFrame m args 1 = entryFrame m ([.ref g] : List Value).toArray 1 from by rw [hargs]]
  have hl := lv_entry ([.ref g]) (n := 1) (Nat.le_of_ble_eq_true rfl)
  rw [lg_entry_eq]
  generalize (lg_sl ([.ref g]) ++ List.replicate (1 - (lg_sl ([.ref g])).length) Slot.unset).toArray = ls at hl ⊢
  have hl : lv_has ls 1 [(0, .ref g)] := hl
  refine wQ (fun Q hQ => ?_)
  refine lv_aload_n hx hb dX1_isDealt_0 rfl (lv_at hl 0 rfl) ?_
  refine va_get (D := D) (ci := 0) (v := .int (nI np)) (C := RX1) (T := TX1) (N := 12) hx hb hts iX1 hown hK hP 0 rfl rfl 3 (by decide) k33 (fun _ h9 => h9) rfl dX1_isDealt_1 ?_
  refine lv_if_le (tgt := 11) hx hb dX1_isDealt_4 (by decide) (fun c_4 => ?_) (fun c_4 => ?_)
  · refine lv_iconst (v := 0) hx hb dX1_isDealt_11 (by decide) ?_
    rw [← hQ]
    exact W.zret (v := 0) hx hb hr (by first | decide | rfl | assumption) (fun t ht hW => ⟨_, rfl, (by (repeat' split) <;> first | rfl | contradiction), ht⟩) (fun _ h => by cases h) dX1_isDealt_12
  · refine lv_iconst (v := 1) hx hb dX1_isDealt_7 (by decide) ?_
    refine lv_goto (tgt := 12) hx hb dX1_isDealt_8 (by decide) ?_
    rw [← hQ]
    exact W.zret (v := 1) hx hb hr (by first | decide | rfl | assumption) (fun t ht hW => ⟨_, rfl, (by (repeat' split) <;> first | rfl | contradiction), ht⟩) (fun _ h => by cases h) dX1_isDealt_12

set_option maxHeartbeats 4000000 in
set_option maxRecDepth 100000 in
theorem k_X1_handOf (l : Launch) (D : va_G) (cI cJ cZ : ClassId) (g ha oa pa : Nat) (np : Nat) (tp0 tn0 te lay idl ov win : Int32) (ly : Int64) (hf : Nat → Int64) (plr : Int32)  : Met l yX1_handOf wsX1_handOf ({ frames := 1, cells := 0, slots := 0, locals := 21 } : Room) (va_Pc [.ref g, .int plr] (wR D cI cJ cZ [(g, .inr (0, [.ref ha, .ref oa, .ref pa, .int (nI np), .int tp0, .long ly, .int tn0, .int te, .int lay, .int idl, .int ov, .int win])), (ha, .inl (cJ, 4, .inr (.inl hf)))])) (vp_Sl (fun r => r = if j_has np plr = 0 then 0 else hf plr.toNatClampNeg)) 0 0 (fun _ => False) := by
  refine Met.ofW (cc := cX1_handOf) (maxL := 2) (ret := (some .long)) (by decide) rfl ?_
  intro p e s m args below meth c s₁ B hml hv
  obtain ⟨hargs, hP, hK, hN⟩ := hv
  have hx := B.exec
  have hb := B.bytes
  have hr := B.returns
  have hlocks := B.notSynchronized
  have hts := atoms_spec (ws := wsX1_handOf) B.pre
  have hown : s.vm.findClass RX1 = some m.cls := findClass_of_methodNamed B.named
  have k75 := hts (.methodLink RX1 75 yX1_has) (by decide +kernel)
  have k9 := hts (.fieldLink RX1 9 "RummyTable$Game" "hands" "[J") (by decide +kernel)
  have iX1 : ∀ w ∈ wsX10, w ∈ wsX1_handOf := by decide +kernel
  rw [show entryFrame m args 2 = entryFrame m ([.ref g, .int plr] : List Value).toArray 2 from by rw [hargs]]
  have hl := lv_entry ([.ref g, .int plr]) (n := 2) (Nat.le_of_ble_eq_true rfl)
  rw [lg_entry_eq]
  generalize (lg_sl ([.ref g, .int plr]) ++ List.replicate (2 - (lg_sl ([.ref g, .int plr])).length) Slot.unset).toArray = ls at hl ⊢
  have hl : lv_has ls 2 [(0, .ref g), (1, .int plr)] := hl
  refine wQ (fun Q hQ => ?_)
  refine lv_aload_n hx hb dX1_handOf_0 rfl (lv_at hl 0 rfl) ?_
  refine lv_iload_n hx hb dX1_handOf_1 rfl (lv_at hl 1 rfl) ?_
  have hPc := hP.sub (ws' := [(g, .inr (0, [.ref ha, .ref oa, .ref pa, .int (nI np), .int tp0, .long ly, .int tn0, .int te, .int lay, .int idl, .int ov, .int win]))]) [0] rfl
  refine vp_callSi (W.runV (As := [.int plr]) (rest := []) ⟨hx, hb, hml, hown, hts⟩ (k_X1_has l D cI cJ cZ g ha oa pa np tp0 tn0 te lay idl ov win ly plr ) (cwV 1 hts gX1_handOf_X1_has rfl rfl rfl (by decide +kernel) ⟨Nat.le_of_ble_eq_true rfl, Nat.le_of_ble_eq_true rfl⟩) ⟨wR_fb, va_recv hK hPc (ci := 0) (q0 := 0) rfl rfl, wR_pre hPc ⟨hK, hN⟩⟩ rfl rfl hl.1 rfl (lv_room (Nat.le_of_ble_eq_true rfl)) dX1_handOf_2 ⟨Nat.le_of_ble_eq_true rfl, Nat.le_of_ble_eq_true rfl⟩) (fun x2 hx2 => ?_)
  subst hx2
  refine lv_if_eq (tgt := 17) hx hb dX1_handOf_5 (by decide) (fun c_5 => ?_) (fun c_5 => ?_)
  · refine lv_lconst (v := 0) hx hb dX1_handOf_17 (by decide) ?_
    rw [← hQ]
    exact W.lret (v := 0) hx hb hr (fun t ht hW => ⟨_, rfl, (by (repeat' split) <;> first | rfl | contradiction), ht⟩) (fun _ h => by cases h) dX1_handOf_18
  · refine lv_aload_n hx hb dX1_handOf_8 rfl (lv_at hl 0 rfl) ?_
    refine va_get (D := D) (ci := 0) (v := .ref ha) (C := RX1) (T := TX1) (N := 12) hx hb hts iX1 hown hK hP 0 rfl rfl 0 (by decide) k9 (fun _ h9 => h9) rfl dX1_handOf_9 ?_
    refine lv_iload_n hx hb dX1_handOf_12 rfl (lv_at hl 1 rfl) ?_
    refine va_lald hx hb hK hP 1 1 rfl rfl (j_has_in c_5) dX1_handOf_13 ?_
    refine lv_goto (tgt := 18) hx hb dX1_handOf_14 (by decide) ?_
    rw [← hQ]
    exact W.lret (v := hf plr.toNatClampNeg) hx hb hr (fun t ht hW => ⟨_, rfl, (by (repeat' split) <;> first | rfl | contradiction), ht⟩) (fun _ h => by cases h) dX1_handOf_18

set_option maxHeartbeats 4000000 in
set_option maxRecDepth 100000 in
theorem k_X1_hasOpened (l : Launch) (D : va_G) (cI cJ cZ : ClassId) (g ha oa pa : Nat) (np : Nat) (tp0 tn0 te lay idl ov win : Int32) (ly : Int64) (of : Nat → Int32) (plr : Int32)  : Met l yX1_hasOpened wsX1_hasOpened ({ frames := 1, cells := 0, slots := 0, locals := 21 } : Room) (va_Pc [.ref g, .int plr] (wR D cI cJ cZ [(g, .inr (0, [.ref ha, .ref oa, .ref pa, .int (nI np), .int tp0, .long ly, .int tn0, .int te, .int lay, .int idl, .int ov, .int win])), (oa, .inl (cZ, 4, .inl of))])) (vp_Si (fun r => r = if j_has np plr = 0 then 0 else if of plr.toNatClampNeg = 0 then 0 else 1)) 0 0 (fun _ => False) := by
  refine Met.ofW (cc := cX1_hasOpened) (maxL := 2) (ret := (some .boolean)) (by decide) rfl ?_
  intro p e s m args below meth c s₁ B hml hv
  obtain ⟨hargs, hP, hK, hN⟩ := hv
  have hx := B.exec
  have hb := B.bytes
  have hr := B.returns
  have hlocks := B.notSynchronized
  have hts := atoms_spec (ws := wsX1_hasOpened) B.pre
  have hown : s.vm.findClass RX1 = some m.cls := findClass_of_methodNamed B.named
  have k75 := hts (.methodLink RX1 75 yX1_has) (by decide +kernel)
  have k15 := hts (.fieldLink RX1 15 "RummyTable$Game" "opened" "[Z") (by decide +kernel)
  have iX1 : ∀ w ∈ wsX10, w ∈ wsX1_hasOpened := by decide +kernel
  rw [show entryFrame m args 2 = entryFrame m ([.ref g, .int plr] : List Value).toArray 2 from by rw [hargs]]
  have hl := lv_entry ([.ref g, .int plr]) (n := 2) (Nat.le_of_ble_eq_true rfl)
  rw [lg_entry_eq]
  generalize (lg_sl ([.ref g, .int plr]) ++ List.replicate (2 - (lg_sl ([.ref g, .int plr])).length) Slot.unset).toArray = ls at hl ⊢
  have hl : lv_has ls 2 [(0, .ref g), (1, .int plr)] := hl
  refine wQ (fun Q hQ => ?_)
  refine lv_aload_n hx hb dX1_hasOpened_0 rfl (lv_at hl 0 rfl) ?_
  refine lv_iload_n hx hb dX1_hasOpened_1 rfl (lv_at hl 1 rfl) ?_
  have hPc := hP.sub (ws' := [(g, .inr (0, [.ref ha, .ref oa, .ref pa, .int (nI np), .int tp0, .long ly, .int tn0, .int te, .int lay, .int idl, .int ov, .int win]))]) [0] rfl
  refine vp_callSi (W.runV (As := [.int plr]) (rest := []) ⟨hx, hb, hml, hown, hts⟩ (k_X1_has l D cI cJ cZ g ha oa pa np tp0 tn0 te lay idl ov win ly plr ) (cwV 1 hts gX1_hasOpened_X1_has rfl rfl rfl (by decide +kernel) ⟨Nat.le_of_ble_eq_true rfl, Nat.le_of_ble_eq_true rfl⟩) ⟨wR_fb, va_recv hK hPc (ci := 0) (q0 := 0) rfl rfl, wR_pre hPc ⟨hK, hN⟩⟩ rfl rfl hl.1 rfl (lv_room (Nat.le_of_ble_eq_true rfl)) dX1_hasOpened_2 ⟨Nat.le_of_ble_eq_true rfl, Nat.le_of_ble_eq_true rfl⟩) (fun x2 hx2 => ?_)
  subst hx2
  refine lv_if_eq (tgt := 21) hx hb dX1_hasOpened_5 (by decide) (fun c_5 => ?_) (fun c_5 => ?_)
  · refine lv_iconst (v := 0) hx hb dX1_hasOpened_21 (by decide) ?_
    rw [← hQ]
    exact W.zret (v := 0) hx hb hr (by first | decide | rfl | assumption) (fun t ht hW => ⟨_, rfl, (by (repeat' split) <;> first | rfl | contradiction), ht⟩) (fun _ h => by cases h) dX1_hasOpened_22
  · refine lv_aload_n hx hb dX1_hasOpened_8 rfl (lv_at hl 0 rfl) ?_
    refine va_get (D := D) (ci := 0) (v := .ref oa) (C := RX1) (T := TX1) (N := 12) hx hb hts iX1 hown hK hP 0 rfl rfl 1 (by decide) k15 (fun _ h9 => h9) rfl dX1_hasOpened_9 ?_
    refine lv_iload_n hx hb dX1_hasOpened_12 rfl (lv_at hl 1 rfl) ?_
    refine va_zald hx hb hK hP 1 2 rfl rfl (j_has_in c_5) dX1_hasOpened_13 ?_
    refine lv_if_eq (tgt := 21) hx hb dX1_hasOpened_14 (by decide) (fun c_14 => ?_) (fun c_14 => ?_)
    · refine lv_iconst (v := 0) hx hb dX1_hasOpened_21 (by decide) ?_
      rw [← hQ]
      exact W.zret (v := 0) hx hb hr (by first | decide | rfl | assumption) (fun t ht hW => ⟨_, rfl, (by (repeat' split) <;> first | rfl | contradiction), ht⟩) (fun _ h => by cases h) dX1_hasOpened_22
    · refine lv_iconst (v := 1) hx hb dX1_hasOpened_17 (by decide) ?_
      refine lv_goto (tgt := 22) hx hb dX1_hasOpened_18 (by decide) ?_
      rw [← hQ]
      exact W.zret (v := 1) hx hb hr (by first | decide | rfl | assumption) (fun t ht hW => ⟨_, rfl, (by (repeat' split) <;> first | rfl | contradiction), ht⟩) (fun _ h => by cases h) dX1_hasOpened_22

set_option maxHeartbeats 4000000 in
set_option maxRecDepth 100000 in
theorem k_X1_fact (l : Launch) (D : va_G) (cI cJ cZ : ClassId) (g ha oa pa : Nat) (np : Nat) (tp0 tn0 te lay idl ov win : Int32) (ly : Int64) (wh : Int32)  : Met l yX1_fact wsX1_fact ({ frames := 0, cells := 0, slots := 0, locals := 0 } : Room) (va_Pc [.ref g, .int wh] (wR D cI cJ cZ [(g, .inr (0, [.ref ha, .ref oa, .ref pa, .int (nI np), .int tp0, .long ly, .int tn0, .int te, .int lay, .int idl, .int ov, .int win]))])) (vp_Si (fun r => r = j_fact np tp0 tn0 te lay ov win wh.toInt)) 0 0 (fun _ => False) := by
  refine Met.ofW (cc := cX1_fact) (maxL := 2) (ret := (some .int)) (by decide) rfl ?_
  intro p e s m args below meth c s₁ B hml hv
  obtain ⟨hargs, hP, hK, hN⟩ := hv
  have hx := B.exec
  have hb := B.bytes
  have hr := B.returns
  have hlocks := B.notSynchronized
  have hts := atoms_spec (ws := wsX1_fact) B.pre
  have hown : s.vm.findClass RX1 = some m.cls := findClass_of_methodNamed B.named
  have k33 := hts (.fieldLink RX1 33 "RummyTable$Game" "players" "I") (by decide +kernel)
  have iX1 : ∀ w ∈ wsX10, w ∈ wsX1_fact := by decide +kernel
  have k52 := hts (.fieldLink RX1 52 "RummyTable$Game" "turn" "I") (by decide +kernel)
  have k37 := hts (.fieldLink RX1 37 "RummyTable$Game" "top" "I") (by decide +kernel)
  have k64 := hts (.fieldLink RX1 64 "RummyTable$Game" "over" "Z") (by decide +kernel)
  have k68 := hts (.fieldLink RX1 68 "RummyTable$Game" "winner" "I") (by decide +kernel)
  have k55 := hts (.fieldLink RX1 55 "RummyTable$Game" "turnsEnded" "I") (by decide +kernel)
  have k58 := hts (.fieldLink RX1 58 "RummyTable$Game" "layings" "I") (by decide +kernel)
  rw [show entryFrame m args 2 = entryFrame m ([.ref g, .int wh] : List Value).toArray 2 from by rw [hargs]]
  have hl := lv_entry ([.ref g, .int wh]) (n := 2) (Nat.le_of_ble_eq_true rfl)
  rw [lg_entry_eq]
  generalize (lg_sl ([.ref g, .int wh]) ++ List.replicate (2 - (lg_sl ([.ref g, .int wh])).length) Slot.unset).toArray = ls at hl ⊢
  have hl : lv_has ls 2 [(0, .ref g), (1, .int wh)] := hl
  refine wQ (fun Q hQ => ?_)
  refine lv_iload_n hx hb dX1_fact_0 rfl (lv_at hl 1 rfl) ?_
  by_cases hlo1 : wh.toInt < 0
  · refine lv_tableOut (tgt := 81) hx hb dX1_fact_1 (Or.inl hlo1) (by decide) ?_
    refine lv_aload_n hx hb dX1_fact_81 rfl (lv_at hl 0 rfl) ?_
    refine va_get (D := D) (ci := 0) (v := .int (nI np)) (C := RX1) (T := TX1) (N := 12) hx hb hts iX1 hown hK hP 0 rfl rfl 3 (by decide) k33 (fun _ h9 => h9) rfl dX1_fact_82 ?_
    rw [← hQ]
    exact W.iret (v := nI np) hx hb hr (fun t ht hW => ⟨_, rfl, j_fact_big (by omega), ht⟩) (fun _ h => by cases h) dX1_fact_85
  by_cases hhi1 : 5 < wh.toInt
  · refine lv_tableOut (tgt := 81) hx hb dX1_fact_1 (Or.inr hhi1) (by decide) ?_
    refine lv_aload_n hx hb dX1_fact_81 rfl (lv_at hl 0 rfl) ?_
    refine va_get (D := D) (ci := 0) (v := .int (nI np)) (C := RX1) (T := TX1) (N := 12) hx hb hts iX1 hown hK hP 0 rfl rfl 3 (by decide) k33 (fun _ h9 => h9) rfl dX1_fact_82 ?_
    rw [← hQ]
    exact W.iret (v := nI np) hx hb hr (fun t ht hW => ⟨_, rfl, j_fact_big (by omega), ht⟩) (fun _ h => by cases h) dX1_fact_85
  have hsw1 : wh.toInt = 0 ∨ wh.toInt = 1 ∨ wh.toInt = 2 ∨ wh.toInt = 3 ∨ wh.toInt = 4 ∨ wh.toInt = 5 := by have a1 := hlo1; have a2 := hhi1; omega
  rcases hsw1 with hc1 | hc1 | hc1 | hc1 | hc1 | hc1
  · refine lv_tableIn (off := 39) (tgt := 40) hx hb dX1_fact_1 hlo1 hhi1 (by rw [hc1]; rfl) (by decide) ?_
    refine lv_aload_n hx hb dX1_fact_40 rfl (lv_at hl 0 rfl) ?_
    refine va_get (D := D) (ci := 0) (v := .int tn0) (C := RX1) (T := TX1) (N := 12) hx hb hts iX1 hown hK hP 0 rfl rfl 6 (by decide) k52 (fun _ h9 => h9) rfl dX1_fact_41 ?_
    rw [← hQ]
    exact W.iret (v := tn0) hx hb hr (fun t ht hW => ⟨_, rfl, (by rw [hc1]; rfl), ht⟩) (fun _ h => by cases h) dX1_fact_44
  · refine lv_tableIn (off := 44) (tgt := 45) hx hb dX1_fact_1 hlo1 hhi1 (by rw [hc1]; rfl) (by decide) ?_
    refine lv_bipush (v := 54) hx hb dX1_fact_45 (by decide) ?_
    refine lv_aload_n hx hb dX1_fact_47 rfl (lv_at hl 0 rfl) ?_
    refine va_get (D := D) (ci := 0) (v := .int tp0) (C := RX1) (T := TX1) (N := 12) hx hb hts iX1 hown hK hP 0 rfl rfl 4 (by decide) k37 (fun _ h9 => h9) rfl dX1_fact_48 ?_
    refine lv_isub hx hb dX1_fact_51 ?_
    rw [← hQ]
    exact W.iret (v := 54 - tp0) hx hb hr (fun t ht hW => ⟨_, rfl, (by rw [hc1]; rfl), ht⟩) (fun _ h => by cases h) dX1_fact_52
  · refine lv_tableIn (off := 52) (tgt := 53) hx hb dX1_fact_1 hlo1 hhi1 (by rw [hc1]; rfl) (by decide) ?_
    refine lv_aload_n hx hb dX1_fact_53 rfl (lv_at hl 0 rfl) ?_
    refine va_get (D := D) (ci := 0) (v := .int ov) (C := RX1) (T := TX1) (N := 12) hx hb hts iX1 hown hK hP 0 rfl rfl 10 (by decide) k64 (fun _ h9 => h9) rfl dX1_fact_54 ?_
    refine lv_if_eq (tgt := 64) hx hb dX1_fact_57 (by decide) (fun c_57 => ?_) (fun c_57 => ?_)
    · refine lv_iconst (v := 0) hx hb dX1_fact_64 (by decide) ?_
      rw [← hQ]
      exact W.iret (v := 0) hx hb hr (fun t ht hW => ⟨_, rfl, (by rw [hc1]; show _ = if ov = 0 then _ else _; split <;> first | rfl | contradiction), ht⟩) (fun _ h => by cases h) dX1_fact_65
    · refine lv_iconst (v := 1) hx hb dX1_fact_60 (by decide) ?_
      refine lv_goto (tgt := 65) hx hb dX1_fact_61 (by decide) ?_
      rw [← hQ]
      exact W.iret (v := 1) hx hb hr (fun t ht hW => ⟨_, rfl, (by rw [hc1]; show _ = if ov = 0 then _ else _; split <;> first | rfl | contradiction), ht⟩) (fun _ h => by cases h) dX1_fact_65
  · refine lv_tableIn (off := 65) (tgt := 66) hx hb dX1_fact_1 hlo1 hhi1 (by rw [hc1]; rfl) (by decide) ?_
    refine lv_aload_n hx hb dX1_fact_66 rfl (lv_at hl 0 rfl) ?_
    refine va_get (D := D) (ci := 0) (v := .int win) (C := RX1) (T := TX1) (N := 12) hx hb hts iX1 hown hK hP 0 rfl rfl 11 (by decide) k68 (fun _ h9 => h9) rfl dX1_fact_67 ?_
    rw [← hQ]
    exact W.iret (v := win) hx hb hr (fun t ht hW => ⟨_, rfl, (by rw [hc1]; rfl), ht⟩) (fun _ h => by cases h) dX1_fact_70
  · refine lv_tableIn (off := 70) (tgt := 71) hx hb dX1_fact_1 hlo1 hhi1 (by rw [hc1]; rfl) (by decide) ?_
    refine lv_aload_n hx hb dX1_fact_71 rfl (lv_at hl 0 rfl) ?_
    refine va_get (D := D) (ci := 0) (v := .int te) (C := RX1) (T := TX1) (N := 12) hx hb hts iX1 hown hK hP 0 rfl rfl 7 (by decide) k55 (fun _ h9 => h9) rfl dX1_fact_72 ?_
    rw [← hQ]
    exact W.iret (v := te) hx hb hr (fun t ht hW => ⟨_, rfl, (by rw [hc1]; rfl), ht⟩) (fun _ h => by cases h) dX1_fact_75
  · refine lv_tableIn (off := 75) (tgt := 76) hx hb dX1_fact_1 hlo1 hhi1 (by rw [hc1]; rfl) (by decide) ?_
    refine lv_aload_n hx hb dX1_fact_76 rfl (lv_at hl 0 rfl) ?_
    refine va_get (D := D) (ci := 0) (v := .int lay) (C := RX1) (T := TX1) (N := 12) hx hb hts iX1 hown hK hP 0 rfl rfl 8 (by decide) k58 (fun _ h9 => h9) rfl dX1_fact_77 ?_
    rw [← hQ]
    exact W.iret (v := lay) hx hb hr (fun t ht hW => ⟨_, rfl, (by rw [hc1]; rfl), ht⟩) (fun _ h => by cases h) dX1_fact_80

set_option maxHeartbeats 4000000 in
set_option maxRecDepth 100000 in
theorem k_X1_drawn (l : Launch) (D : va_G) (cI cJ cZ : ClassId) (sz : Nat) (g ha oa pa : Nat) (np tp : Nat) (tn0 te lay idl ov win : Int32) (ly : Int64) (pf : Nat → Int32) (htp : tp ≤ 54) : Met l yX1_drawn wsX1_drawn ({ frames := 0, cells := 0, slots := 0, locals := 0 } : Room) (va_Pc [.ref g] (wM D cI cJ cZ sz [(g, .inr (0, [.ref ha, .ref oa, .ref pa, .int (nI np), .int (nI tp), .long ly, .int tn0, .int te, .int lay, .int idl, .int ov, .int win])), (pa, .inl (cI, 54, .inl pf))])) (va_Qi (fun (r : Int32) (u : (Int32)) => match u with | top2 => (r = if tp < 54 then pf tp else 54) ∧ top2 = (nI (if tp < 54 then tp + 1 else tp))) (fun (u : (Int32)) t => match u with | top2 => wB D (va_A [(g, .inr (0, [.ref ha, .ref oa, .ref pa, .int (nI np), .int (nI tp), .long ly, .int tn0, .int te, .int lay, .int idl, .int ov, .int win])), (pa, .inl (cI, 54, .inl pf))] sz) [(g, .inr (0, [.ref ha, .ref oa, .ref pa, .int (nI np), .int top2, .long ly, .int tn0, .int te, .int lay, .int idl, .int ov, .int win])), (pa, .inl (cI, 54, .inl pf))] t) (va_A [(g, .inr (0, [.ref ha, .ref oa, .ref pa, .int (nI np), .int (nI tp), .long ly, .int tn0, .int te, .int lay, .int idl, .int ov, .int win])), (pa, .inl (cI, 54, .inl pf))] sz)) 0 0 (va_A [(g, .inr (0, [.ref ha, .ref oa, .ref pa, .int (nI np), .int (nI tp), .long ly, .int tn0, .int te, .int lay, .int idl, .int ov, .int win])), (pa, .inl (cI, 54, .inl pf))] sz) := by
  refine Met.ofW (cc := cX1_drawn) (maxL := 2) (ret := (some .int)) (by decide) rfl ?_
  intro p e s m args below meth c s₁ B hml hv
  obtain ⟨hargs, hsz, hP, ⟨hK, hN⟩, hD0⟩ := hv
  have hx := B.exec
  have hb := B.bytes
  have hr := B.returns
  have hlocks := B.notSynchronized
  have hts := atoms_spec (ws := wsX1_drawn) B.pre
  have hown : s.vm.findClass RX1 = some m.cls := findClass_of_methodNamed B.named
  have k37 := hts (.fieldLink RX1 37 "RummyTable$Game" "top" "I") (by decide +kernel)
  have iX1 : ∀ w ∈ wsX10, w ∈ wsX1_drawn := by decide +kernel
  have k19 := hts (.fieldLink RX1 19 "RummyTable$Game" "pack" "[I") (by decide +kernel)
  subst hsz
  have hD := hD0.self (sz := s.heap.size)
  generalize hAe : va_A [(g, .inr (0, [.ref ha, .ref oa, .ref pa, .int (nI np), .int (nI tp), .long ly, .int tn0, .int te, .int lay, .int idl, .int ov, .int win])), (pa, .inl (cI, 54, .inl pf))] s.heap.size = A at hD ⊢
  have hA : ∀ q : Nat, s.heap.size ≤ q → A q := fun q h => by rw [← hAe]; exact Or.inr h
  have hS : va_S A s.heap s.heap [] := va_S.rf
  rw [show entryFrame m args 2 = entryFrame m ([.ref g] : List Value).toArray 2 from by rw [hargs]]
  have hl := lv_entry ([.ref g]) (n := 2) (Nat.le_of_ble_eq_true rfl)
  rw [lg_entry_eq]
  generalize (lg_sl ([.ref g]) ++ List.replicate (2 - (lg_sl ([.ref g])).length) Slot.unset).toArray = ls at hl ⊢
  have hl : lv_has ls 2 [(0, .ref g)] := hl
  refine wQ (fun Q hQ => ?_)
  refine lv_aload_n hx hb dX1_drawn_0 rfl (lv_at hl 0 rfl) ?_
  refine va_get (D := D) (ci := 0) (v := .int (nI tp)) (C := RX1) (T := TX1) (N := 12) hx hb hts iX1 hown hK hP 0 rfl rfl 4 (by decide) k37 (fun _ h9 => h9) rfl dX1_drawn_1 ?_
  refine lv_if_lt (tgt := 16) hx hb dX1_drawn_4 (by decide) (fun c_4 => ?_) (fun c_4 => ?_)
  · exact absurd c_4 (nI_pos (by omega))
  · refine lv_aload_n hx hb dX1_drawn_7 rfl (lv_at hl 0 rfl) ?_
    refine va_get (D := D) (ci := 0) (v := .int (nI tp)) (C := RX1) (T := TX1) (N := 12) hx hb hts iX1 hown hK hP 0 rfl rfl 4 (by decide) k37 (fun _ h9 => h9) rfl dX1_drawn_8 ?_
    refine lv_bipush (v := 54) hx hb dX1_drawn_11 (by decide) ?_
    refine lv_icmp_lt (tgt := 19) hx hb dX1_drawn_13 (by decide) (fun c_13 => ?_) (fun c_13 => ?_)
    · have hlt : tp < 54 := (nI_ltI (by omega) (by decide)).mp c_13
      refine lv_aload_n hx hb dX1_drawn_19 rfl (lv_at hl 0 rfl) ?_
      refine va_get (D := D) (ci := 0) (v := .ref pa) (C := RX1) (T := TX1) (N := 12) hx hb hts iX1 hown hK hP 0 rfl rfl 2 (by decide) k19 (fun _ h9 => h9) rfl dX1_drawn_20 ?_
      refine lv_aload_n hx hb dX1_drawn_23 rfl (lv_at hl 0 rfl) ?_
      refine va_get (D := D) (ci := 0) (v := .int (nI tp)) (C := RX1) (T := TX1) (N := 12) hx hb hts iX1 hown hK hP 0 rfl rfl 4 (by decide) k37 (fun _ h9 => h9) rfl dX1_drawn_24 ?_
      refine va_iald hx hb hK hP 1 0 rfl rfl (vp_in_nI hlt (by decide)) dX1_drawn_27 ?_
      refine lv_topi (fun x28 ex28 => ?_)
      refine lv_istore_n (lv' := [(1, .int x28), (0, .ref g)]) hx hb dX1_drawn_28 rfl hl (by decide) rfl (fun ls hl => ?_)
      refine lv_aload_n hx hb dX1_drawn_29 rfl (lv_at hl 1 rfl) ?_
      refine lv_dup hx hb dX1_drawn_30 rfl ?_
      refine va_get (D := D) (ci := 0) (v := .int (nI tp)) (C := RX1) (T := TX1) (N := 12) hx hb hts iX1 hown hK hP 0 rfl rfl 4 (by decide) k37 (fun _ h9 => h9) rfl dX1_drawn_31 ?_
      refine lv_iconst (v := 1) hx hb dX1_drawn_34 (by decide) ?_
      refine lv_iadd hx hb dX1_drawn_35 ?_
      refine va_put (D := D) (ci := 0) (v := .int ((nI tp) + 1)) (ty := .int) (C := RX1) (T := TX1) (N := 12) hx hb hts iX1 tyX1 tyX1_ok nmX1 hown hK hP hD hS 0 rfl rfl 4 (by decide) k37 (fun _ h9 => h9) rfl (by decide +kernel) rfl rfl (Nat.le_of_ble_eq_true rfl) dX1_drawn_36 (fun H locs hP hD hS => ?_)
      have hP : va_P D vwCl [(g, .inr (0, [.ref ha, .ref oa, .ref pa, .int (nI np), .int ((nI tp) + 1), .long ly, .int tn0, .int te, .int lay, .int idl, .int ov, .int win])), (pa, .inl (cI, 54, .inl pf))] H := hP
      have hD : va_D A [(g, .inr (0, [.ref ha, .ref oa, .ref pa, .int (nI np), .int ((nI tp) + 1), .long ly, .int tn0, .int te, .int lay, .int idl, .int ov, .int win])), (pa, .inl (cI, 54, .inl pf))] := hD
      refine lv_iload_n hx hb dX1_drawn_39 rfl (lv_at hl 0 rfl) ?_
      rw [← hQ]
      have hP9 := hP.sub (ws' := [(g, .inr (0, [.ref ha, .ref oa, .ref pa, .int (nI np), .int ((nI tp) + 1), .long ly, .int tn0, .int te, .int lay, .int idl, .int ov, .int win])), (pa, .inl (cI, 54, .inl pf))]) [0, 1] rfl
      have hD9 := hD.sub (ws' := [(g, .inr (0, [.ref ha, .ref oa, .ref pa, .int (nI np), .int ((nI tp) + 1), .long ly, .int tn0, .int te, .int lay, .int idl, .int ov, .int win])), (pa, .inl (cI, 54, .inl pf))]) [0, 1] (by decide) rfl
      exact W.iret (v := x28) hx hb hr (fun t ht hW => ⟨⟨x28, ((nI tp) + 1), rfl, ⟨(by rw [if_pos hlt, ex28, nI_clamp (by omega)]), (by rw [if_pos hlt]; exact nI_1 tp)⟩, (by show wB D A _ t; exact ⟨by rw [ht]; exact hP9, hD9⟩)⟩, hS.F ht⟩) hS.2.2 dX1_drawn_40
    · have hge : ¬ tp < 54 := fun h => c_13 ((nI_ltI (by omega) (by decide)).mpr h)
      refine lv_bipush (v := 54) hx hb dX1_drawn_16 (by decide) ?_
      rw [← hQ]
      have hP9 := hP.sub (ws' := [(g, .inr (0, [.ref ha, .ref oa, .ref pa, .int (nI np), .int (nI tp), .long ly, .int tn0, .int te, .int lay, .int idl, .int ov, .int win])), (pa, .inl (cI, 54, .inl pf))]) [0, 1] rfl
      have hD9 := hD.sub (ws' := [(g, .inr (0, [.ref ha, .ref oa, .ref pa, .int (nI np), .int (nI tp), .long ly, .int tn0, .int te, .int lay, .int idl, .int ov, .int win])), (pa, .inl (cI, 54, .inl pf))]) [0, 1] (by decide) rfl
      exact W.iret (v := 54) hx hb hr (fun t ht hW => ⟨⟨54, (nI tp), rfl, ⟨(by rw [if_neg hge]), (by rw [if_neg hge])⟩, (by show wB D A _ t; exact ⟨by rw [ht]; exact hP9, hD9⟩)⟩, hS.F ht⟩) hS.2.2 dX1_drawn_18

set_option maxHeartbeats 4000000 in
set_option maxRecDepth 100000 in
theorem k_X1_putDown (l : Launch) (D : va_G) (cI cJ cZ : ClassId) (sz : Nat) (g ha oa pa : Nat) (np tp tn : Nat) (te lay idl ov win : Int32) (ly : Int64) (hf : Nat → Int64) (of : Nat → Int32) (cards : Int64) (hn4 : np ≤ 4) (htn : tn < np) : Met l yX1_putDown wsX1_putDown ({ frames := 1, cells := 0, slots := 0, locals := 21 } : Room) (va_Pc [.ref g, .long cards] (wM D cI cJ cZ sz [(g, .inr (0, [.ref ha, .ref oa, .ref pa, .int (nI np), .int (nI tp), .long ly, .int (nI tn), .int te, .int lay, .int idl, .int ov, .int win])), (ha, .inl (cJ, 4, .inr (.inl hf))), (oa, .inl (cZ, 4, .inl of))])) (va_Qv (fun (u : (Int64) × (Int32) × (Int32) × (Int32) × (Nat → Int64) × (Nat → Int32)) => match u with | (ly2, lay2, ov2, win2, hf2, of2) => (True) ∧ ly2 = (ly ||| cards) ∧ lay2 = (lay + 1) ∧ ov2 = (if hf tn &&& (cards ^^^ (-1)) = 0 then 1 else ov) ∧ win2 = (if hf tn &&& (cards ^^^ (-1)) = 0 then nI tn else win) ∧ hf2 = (vp_updL hf tn (hf tn &&& (cards ^^^ (-1)))) ∧ of2 = (upd of tn 1)) (fun (u : (Int64) × (Int32) × (Int32) × (Int32) × (Nat → Int64) × (Nat → Int32)) t => match u with | (ly2, lay2, ov2, win2, hf2, of2) => wB D (va_A [(g, .inr (0, [.ref ha, .ref oa, .ref pa, .int (nI np), .int (nI tp), .long ly, .int (nI tn), .int te, .int lay, .int idl, .int ov, .int win])), (ha, .inl (cJ, 4, .inr (.inl hf))), (oa, .inl (cZ, 4, .inl of))] sz) [(g, .inr (0, [.ref ha, .ref oa, .ref pa, .int (nI np), .int (nI tp), .long ly2, .int (nI tn), .int te, .int lay2, .int idl, .int ov2, .int win2])), (ha, .inl (cJ, 4, .inr (.inl hf2))), (oa, .inl (cZ, 4, .inl of2))] t) (va_A [(g, .inr (0, [.ref ha, .ref oa, .ref pa, .int (nI np), .int (nI tp), .long ly, .int (nI tn), .int te, .int lay, .int idl, .int ov, .int win])), (ha, .inl (cJ, 4, .inr (.inl hf))), (oa, .inl (cZ, 4, .inl of))] sz)) 0 0 (va_A [(g, .inr (0, [.ref ha, .ref oa, .ref pa, .int (nI np), .int (nI tp), .long ly, .int (nI tn), .int te, .int lay, .int idl, .int ov, .int win])), (ha, .inl (cJ, 4, .inr (.inl hf))), (oa, .inl (cZ, 4, .inl of))] sz) := by
  refine Met.ofW (cc := cX1_putDown) (maxL := 3) (ret := none) (by decide) rfl ?_
  intro p e s m args below meth c s₁ B hml hv
  obtain ⟨hargs, hsz, hP, ⟨hK, hN⟩, hD0⟩ := hv
  have hx := B.exec
  have hb := B.bytes
  have hr := B.returns
  have hlocks := B.notSynchronized
  have hts := atoms_spec (ws := wsX1_putDown) B.pre
  have hown : s.vm.findClass RX1 = some m.cls := findClass_of_methodNamed B.named
  have k52 := hts (.fieldLink RX1 52 "RummyTable$Game" "turn" "I") (by decide +kernel)
  have iX1 : ∀ w ∈ wsX10, w ∈ wsX1_putDown := by decide +kernel
  have k75 := hts (.methodLink RX1 75 yX1_has) (by decide +kernel)
  have k9 := hts (.fieldLink RX1 9 "RummyTable$Game" "hands" "[J") (by decide +kernel)
  have k79 := hts (.constantLong RX1 79 (-1)) (by decide +kernel)
  have k15 := hts (.fieldLink RX1 15 "RummyTable$Game" "opened" "[Z") (by decide +kernel)
  have k48 := hts (.fieldLink RX1 48 "RummyTable$Game" "lying" "J") (by decide +kernel)
  have k58 := hts (.fieldLink RX1 58 "RummyTable$Game" "layings" "I") (by decide +kernel)
  have k64 := hts (.fieldLink RX1 64 "RummyTable$Game" "over" "Z") (by decide +kernel)
  have k68 := hts (.fieldLink RX1 68 "RummyTable$Game" "winner" "I") (by decide +kernel)
  subst hsz
  have hD := hD0.self (sz := s.heap.size)
  generalize hAe : va_A [(g, .inr (0, [.ref ha, .ref oa, .ref pa, .int (nI np), .int (nI tp), .long ly, .int (nI tn), .int te, .int lay, .int idl, .int ov, .int win])), (ha, .inl (cJ, 4, .inr (.inl hf))), (oa, .inl (cZ, 4, .inl of))] s.heap.size = A at hD ⊢
  have hA : ∀ q : Nat, s.heap.size ≤ q → A q := fun q h => by rw [← hAe]; exact Or.inr h
  have hS : va_S A s.heap s.heap [] := va_S.rf
  rw [show entryFrame m args 3 = entryFrame m ([.ref g, .long cards] : List Value).toArray 3 from by rw [hargs]]
  have hl := lv_entry ([.ref g, .long cards]) (n := 3) (Nat.le_of_ble_eq_true rfl)
  rw [lg_entry_eq]
  generalize (lg_sl ([.ref g, .long cards]) ++ List.replicate (3 - (lg_sl ([.ref g, .long cards])).length) Slot.unset).toArray = ls at hl ⊢
  have hl : lv_has ls 3 [(0, .ref g), (1, .long cards)] := hl
  refine wQ (fun Q hQ => ?_)
  have hin4 : vp_in (nI tn) 4 := vp_in_nI (by omega) (by decide)
  have hcl : (nI tn).toNatClampNeg = tn := nI_clamp (by omega)
  refine lv_aload_n hx hb dX1_putDown_0 rfl (lv_at hl 0 rfl) ?_
  refine lv_aload_n hx hb dX1_putDown_1 rfl (lv_at hl 0 rfl) ?_
  refine va_get (D := D) (ci := 0) (v := .int (nI tn)) (C := RX1) (T := TX1) (N := 12) hx hb hts iX1 hown hK hP 0 rfl rfl 6 (by decide) k52 (fun _ h9 => h9) rfl dX1_putDown_2 ?_
  have hPc := hP.sub (ws' := [(g, .inr (0, [.ref ha, .ref oa, .ref pa, .int (nI np), .int (nI tp), .long ly, .int (nI tn), .int te, .int lay, .int idl, .int ov, .int win]))]) [0] rfl
  refine vp_callSi (W.runV (As := [.int (nI tn)]) (rest := []) ⟨hx, hb, hml, hown, hts⟩ (k_X1_has l D cI cJ cZ g ha oa pa np (nI tp) (nI tn) te lay idl ov win ly (nI tn) ) (cwV 1 hts gX1_putDown_X1_has rfl rfl rfl (by decide +kernel) ⟨Nat.le_of_ble_eq_true rfl, Nat.le_of_ble_eq_true rfl⟩) ⟨wR_fb, va_recv hK hPc (ci := 0) (q0 := 0) rfl rfl, wR_pre hPc ⟨hK, hN⟩⟩ rfl rfl hl.1 rfl (lv_room (Nat.le_of_ble_eq_true rfl)) dX1_putDown_5 ⟨Nat.le_of_ble_eq_true rfl, Nat.le_of_ble_eq_true rfl⟩) (fun x5 hx5 => ?_)
  subst hx5
  refine lv_topi (fun y5 ey5 => ?_)
  rw [show j_has np (nI tn) = 1 from j_has_ok htn hn4] at ey5
  refine lv_if_ne (tgt := 12) hx hb dX1_putDown_8 (by decide) (fun c_8 => ?_) (fun c_8 => ?_)
  · refine lv_aload_n hx hb dX1_putDown_12 rfl (lv_at hl 0 rfl) ?_
    refine va_get (D := D) (ci := 0) (v := .ref ha) (C := RX1) (T := TX1) (N := 12) hx hb hts iX1 hown hK hP 0 rfl rfl 0 (by decide) k9 (fun _ h9 => h9) rfl dX1_putDown_13 ?_
    refine lv_aload_n hx hb dX1_putDown_16 rfl (lv_at hl 0 rfl) ?_
    refine va_get (D := D) (ci := 0) (v := .int (nI tn)) (C := RX1) (T := TX1) (N := 12) hx hb hts iX1 hown hK hP 0 rfl rfl 6 (by decide) k52 (fun _ h9 => h9) rfl dX1_putDown_17 ?_
    refine lv_dup2_11 hx hb dX1_putDown_20 rfl rfl ?_
    refine va_lald hx hb hK hP 1 1 rfl rfl (hin4) dX1_putDown_21 ?_
    refine lv_lload_n hx hb dX1_putDown_22 rfl (lv_at hl 1 rfl) ?_
    refine lv_ldc2 hx hb hown k79 dX1_putDown_23 ?_
    refine lv_lxor hx hb dX1_putDown_26 ?_
    refine lv_land hx hb dX1_putDown_27 ?_
    refine va_last hx hb hK hP hD hS 1 1 rfl rfl (hin4) dX1_putDown_28 (fun H locs hP hD hS => ?_)
    have hP : va_P D vwCl [(g, .inr (0, [.ref ha, .ref oa, .ref pa, .int (nI np), .int (nI tp), .long ly, .int (nI tn), .int te, .int lay, .int idl, .int ov, .int win])), (ha, .inl (cJ, 4, .inr (.inl (vp_updL hf (nI tn).toNatClampNeg ((hf (nI tn).toNatClampNeg) &&& (cards ^^^ (-1))))))), (oa, .inl (cZ, 4, .inl of))] H := hP
    have hD : va_D A [(g, .inr (0, [.ref ha, .ref oa, .ref pa, .int (nI np), .int (nI tp), .long ly, .int (nI tn), .int te, .int lay, .int idl, .int ov, .int win])), (ha, .inl (cJ, 4, .inr (.inl (vp_updL hf (nI tn).toNatClampNeg ((hf (nI tn).toNatClampNeg) &&& (cards ^^^ (-1))))))), (oa, .inl (cZ, 4, .inl of))] := hD
    generalize ex28 : vp_updL hf (nI tn).toNatClampNeg ((hf (nI tn).toNatClampNeg) &&& (cards ^^^ (-1))) = x28 at hP hD
    refine lv_aload_n hx hb dX1_putDown_29 rfl (lv_at hl 0 rfl) ?_
    refine va_get (D := D) (ci := 0) (v := .ref oa) (C := RX1) (T := TX1) (N := 12) hx hb hts iX1 hown hK hP 0 rfl rfl 1 (by decide) k15 (fun _ h9 => h9) rfl dX1_putDown_30 ?_
    refine lv_aload_n hx hb dX1_putDown_33 rfl (lv_at hl 0 rfl) ?_
    refine va_get (D := D) (ci := 0) (v := .int (nI tn)) (C := RX1) (T := TX1) (N := 12) hx hb hts iX1 hown hK hP 0 rfl rfl 6 (by decide) k52 (fun _ h9 => h9) rfl dX1_putDown_34 ?_
    refine lv_iconst (v := 1) hx hb dX1_putDown_37 (by decide) ?_
    refine va_zast hx hb hK hP hD hS 2 2 rfl rfl (hin4) dX1_putDown_38 (fun H locs hP hD hS => ?_)
    have hP : va_P D vwCl [(g, .inr (0, [.ref ha, .ref oa, .ref pa, .int (nI np), .int (nI tp), .long ly, .int (nI tn), .int te, .int lay, .int idl, .int ov, .int win])), (ha, .inl (cJ, 4, .inr (.inl x28))), (oa, .inl (cZ, 4, .inl (upd of (nI tn).toNatClampNeg (vp_nar .boolean 1))))] H := hP
    have hD : va_D A [(g, .inr (0, [.ref ha, .ref oa, .ref pa, .int (nI np), .int (nI tp), .long ly, .int (nI tn), .int te, .int lay, .int idl, .int ov, .int win])), (ha, .inl (cJ, 4, .inr (.inl x28))), (oa, .inl (cZ, 4, .inl (upd of (nI tn).toNatClampNeg (vp_nar .boolean 1))))] := hD
    generalize ex38 : upd of (nI tn).toNatClampNeg (vp_nar .boolean 1) = x38 at hP hD
    refine lv_aload_n hx hb dX1_putDown_39 rfl (lv_at hl 0 rfl) ?_
    refine lv_dup hx hb dX1_putDown_40 rfl ?_
    refine va_get (D := D) (ci := 0) (v := .long ly) (C := RX1) (T := TX1) (N := 12) hx hb hts iX1 hown hK hP 0 rfl rfl 5 (by decide) k48 (fun _ h9 => h9) rfl dX1_putDown_41 ?_
    refine lv_lload_n hx hb dX1_putDown_44 rfl (lv_at hl 1 rfl) ?_
    refine lv_lor hx hb dX1_putDown_45 ?_
    refine va_put (D := D) (ci := 0) (v := .long (ly ||| cards)) (ty := .long) (C := RX1) (T := TX1) (N := 12) hx hb hts iX1 tyX1 tyX1_ok nmX1 hown hK hP hD hS 0 rfl rfl 5 (by decide) k48 (fun _ h9 => h9) rfl (by decide +kernel) rfl rfl (Nat.le_of_ble_eq_true rfl) dX1_putDown_46 (fun H locs hP hD hS => ?_)
    have hP : va_P D vwCl [(g, .inr (0, [.ref ha, .ref oa, .ref pa, .int (nI np), .int (nI tp), .long (ly ||| cards), .int (nI tn), .int te, .int lay, .int idl, .int ov, .int win])), (ha, .inl (cJ, 4, .inr (.inl x28))), (oa, .inl (cZ, 4, .inl x38))] H := hP
    have hD : va_D A [(g, .inr (0, [.ref ha, .ref oa, .ref pa, .int (nI np), .int (nI tp), .long (ly ||| cards), .int (nI tn), .int te, .int lay, .int idl, .int ov, .int win])), (ha, .inl (cJ, 4, .inr (.inl x28))), (oa, .inl (cZ, 4, .inl x38))] := hD
    refine lv_aload_n hx hb dX1_putDown_49 rfl (lv_at hl 0 rfl) ?_
    refine lv_dup hx hb dX1_putDown_50 rfl ?_
    refine va_get (D := D) (ci := 0) (v := .int lay) (C := RX1) (T := TX1) (N := 12) hx hb hts iX1 hown hK hP 0 rfl rfl 8 (by decide) k58 (fun _ h9 => h9) rfl dX1_putDown_51 ?_
    refine lv_iconst (v := 1) hx hb dX1_putDown_54 (by decide) ?_
    refine lv_iadd hx hb dX1_putDown_55 ?_
    refine va_put (D := D) (ci := 0) (v := .int (lay + 1)) (ty := .int) (C := RX1) (T := TX1) (N := 12) hx hb hts iX1 tyX1 tyX1_ok nmX1 hown hK hP hD hS 0 rfl rfl 8 (by decide) k58 (fun _ h9 => h9) rfl (by decide +kernel) rfl rfl (Nat.le_of_ble_eq_true rfl) dX1_putDown_56 (fun H locs hP hD hS => ?_)
    have hP : va_P D vwCl [(g, .inr (0, [.ref ha, .ref oa, .ref pa, .int (nI np), .int (nI tp), .long (ly ||| cards), .int (nI tn), .int te, .int (lay + 1), .int idl, .int ov, .int win])), (ha, .inl (cJ, 4, .inr (.inl x28))), (oa, .inl (cZ, 4, .inl x38))] H := hP
    have hD : va_D A [(g, .inr (0, [.ref ha, .ref oa, .ref pa, .int (nI np), .int (nI tp), .long (ly ||| cards), .int (nI tn), .int te, .int (lay + 1), .int idl, .int ov, .int win])), (ha, .inl (cJ, 4, .inr (.inl x28))), (oa, .inl (cZ, 4, .inl x38))] := hD
    refine lv_aload_n hx hb dX1_putDown_59 rfl (lv_at hl 0 rfl) ?_
    refine va_get (D := D) (ci := 0) (v := .ref ha) (C := RX1) (T := TX1) (N := 12) hx hb hts iX1 hown hK hP 0 rfl rfl 0 (by decide) k9 (fun _ h9 => h9) rfl dX1_putDown_60 ?_
    refine lv_aload_n hx hb dX1_putDown_63 rfl (lv_at hl 0 rfl) ?_
    refine va_get (D := D) (ci := 0) (v := .int (nI tn)) (C := RX1) (T := TX1) (N := 12) hx hb hts iX1 hown hK hP 0 rfl rfl 6 (by decide) k52 (fun _ h9 => h9) rfl dX1_putDown_64 ?_
    refine va_lald hx hb hK hP 1 1 rfl rfl (hin4) dX1_putDown_67 ?_
    refine lv_lconst (v := 0) hx hb dX1_putDown_68 (by decide) ?_
    refine W.lcmp hx hb dX1_putDown_69 ?_
    refine lv_if_ne (tgt := 86) hx hb dX1_putDown_70 (by decide) (fun c_70 => ?_) (fun c_70 => ?_)
    · rw [← hQ]
      have hP9 := hP.sub (ws' := [(g, .inr (0, [.ref ha, .ref oa, .ref pa, .int (nI np), .int (nI tp), .long (ly ||| cards), .int (nI tn), .int te, .int (lay + 1), .int idl, .int ov, .int win])), (ha, .inl (cJ, 4, .inr (.inl x28))), (oa, .inl (cZ, 4, .inl x38))]) [0, 1, 2] rfl
      have hD9 := hD.sub (ws' := [(g, .inr (0, [.ref ha, .ref oa, .ref pa, .int (nI np), .int (nI tp), .long (ly ||| cards), .int (nI tn), .int te, .int (lay + 1), .int idl, .int ov, .int win])), (ha, .inl (cJ, 4, .inr (.inl x28))), (oa, .inl (cZ, 4, .inl x38))]) [0, 1, 2] (by decide) rfl
      exact W.vret hx hb hr (fun t ht hW => ⟨⟨(ly ||| cards, lay + 1, ov, win, x28, x38), rfl, ⟨trivial, rfl, rfl, (by first | rw [if_neg (fun q => c_70 (hp_cz (by rw [← ex28, hcl, pk_uLs]; exact q)))] | rw [if_pos (hp_cz2 c_70 (by rw [← ex28, hcl, pk_uLs]))]), (by first | rw [if_neg (fun q => c_70 (hp_cz (by rw [← ex28, hcl, pk_uLs]; exact q)))] | rw [if_pos (hp_cz2 c_70 (by rw [← ex28, hcl, pk_uLs]))]), (by rw [← ex28, hcl]), (by rw [← ex38, hcl]; rfl)⟩, (by show wB D A _ t; exact ⟨by rw [ht]; exact hP9, hD9⟩)⟩, hS.F ht⟩) hS.2.2 dX1_putDown_86
    · refine lv_aload_n hx hb dX1_putDown_73 rfl (lv_at hl 0 rfl) ?_
      refine lv_iconst (v := 1) hx hb dX1_putDown_74 (by decide) ?_
      refine va_put (D := D) (ci := 0) (v := .int 1) (ty := .boolean) (C := RX1) (T := TX1) (N := 12) hx hb hts iX1 tyX1 tyX1_ok nmX1 hown hK hP hD hS 0 rfl rfl 10 (by decide) k64 (fun _ h9 => h9) rfl (by decide +kernel) rfl rfl (Nat.le_of_ble_eq_true rfl) dX1_putDown_75 (fun H locs hP hD hS => ?_)
      have hP : va_P D vwCl [(g, .inr (0, [.ref ha, .ref oa, .ref pa, .int (nI np), .int (nI tp), .long (ly ||| cards), .int (nI tn), .int te, .int (lay + 1), .int idl, .int 1, .int win])), (ha, .inl (cJ, 4, .inr (.inl x28))), (oa, .inl (cZ, 4, .inl x38))] H := hP
      have hD : va_D A [(g, .inr (0, [.ref ha, .ref oa, .ref pa, .int (nI np), .int (nI tp), .long (ly ||| cards), .int (nI tn), .int te, .int (lay + 1), .int idl, .int 1, .int win])), (ha, .inl (cJ, 4, .inr (.inl x28))), (oa, .inl (cZ, 4, .inl x38))] := hD
      refine lv_aload_n hx hb dX1_putDown_78 rfl (lv_at hl 0 rfl) ?_
      refine lv_aload_n hx hb dX1_putDown_79 rfl (lv_at hl 0 rfl) ?_
      refine va_get (D := D) (ci := 0) (v := .int (nI tn)) (C := RX1) (T := TX1) (N := 12) hx hb hts iX1 hown hK hP 0 rfl rfl 6 (by decide) k52 (fun _ h9 => h9) rfl dX1_putDown_80 ?_
      refine va_put (D := D) (ci := 0) (v := .int (nI tn)) (ty := .int) (C := RX1) (T := TX1) (N := 12) hx hb hts iX1 tyX1 tyX1_ok nmX1 hown hK hP hD hS 0 rfl rfl 11 (by decide) k68 (fun _ h9 => h9) rfl (by decide +kernel) rfl rfl (Nat.le_of_ble_eq_true rfl) dX1_putDown_83 (fun H locs hP hD hS => ?_)
      have hP : va_P D vwCl [(g, .inr (0, [.ref ha, .ref oa, .ref pa, .int (nI np), .int (nI tp), .long (ly ||| cards), .int (nI tn), .int te, .int (lay + 1), .int idl, .int 1, .int (nI tn)])), (ha, .inl (cJ, 4, .inr (.inl x28))), (oa, .inl (cZ, 4, .inl x38))] H := hP
      have hD : va_D A [(g, .inr (0, [.ref ha, .ref oa, .ref pa, .int (nI np), .int (nI tp), .long (ly ||| cards), .int (nI tn), .int te, .int (lay + 1), .int idl, .int 1, .int (nI tn)])), (ha, .inl (cJ, 4, .inr (.inl x28))), (oa, .inl (cZ, 4, .inl x38))] := hD
      rw [← hQ]
      have hP9 := hP.sub (ws' := [(g, .inr (0, [.ref ha, .ref oa, .ref pa, .int (nI np), .int (nI tp), .long (ly ||| cards), .int (nI tn), .int te, .int (lay + 1), .int idl, .int 1, .int (nI tn)])), (ha, .inl (cJ, 4, .inr (.inl x28))), (oa, .inl (cZ, 4, .inl x38))]) [0, 1, 2] rfl
      have hD9 := hD.sub (ws' := [(g, .inr (0, [.ref ha, .ref oa, .ref pa, .int (nI np), .int (nI tp), .long (ly ||| cards), .int (nI tn), .int te, .int (lay + 1), .int idl, .int 1, .int (nI tn)])), (ha, .inl (cJ, 4, .inr (.inl x28))), (oa, .inl (cZ, 4, .inl x38))]) [0, 1, 2] (by decide) rfl
      exact W.vret hx hb hr (fun t ht hW => ⟨⟨(ly ||| cards, lay + 1, 1, nI tn, x28, x38), rfl, ⟨trivial, rfl, rfl, (by first | rw [if_neg (fun q => c_70 (hp_cz (by rw [← ex28, hcl, pk_uLs]; exact q)))] | rw [if_pos (hp_cz2 c_70 (by rw [← ex28, hcl, pk_uLs]))]), (by first | rw [if_neg (fun q => c_70 (hp_cz (by rw [← ex28, hcl, pk_uLs]; exact q)))] | rw [if_pos (hp_cz2 c_70 (by rw [← ex28, hcl, pk_uLs]))]), (by rw [← ex28, hcl]), (by rw [← ex38, hcl]; rfl)⟩, (by show wB D A _ t; exact ⟨by rw [ht]; exact hP9, hD9⟩)⟩, hS.F ht⟩) hS.2.2 dX1_putDown_86
  · exact absurd (ey5.symm.trans c_8) (by decide)
