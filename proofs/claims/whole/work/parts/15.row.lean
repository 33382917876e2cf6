def up2 (v : Nat → Nat → Int64) (s u : Nat) (x : Int64) : Nat → Nat → Int64 := fun a b => if a = s ∧ b = u then x else v a b
/-- a row's cells, its listed states, and the values that it holds -/
def RowRep (cf : Nat → Int64) (lf tf : Nat → Int32) (cn : Int32) (v : Nat → Nat → Int64) : Prop :=
  ∃ (n : Nat) (q : Nat → Nat), cn = nI n ∧ n ≤ 256 ∧ (∀ i, i < n → q i < 256 ∧ tf i = nI (q i) ∧ lf (q i) = 1) ∧ (∀ i j, i < n → j < n → q i = q j → i = j) ∧ (∀ s, s < 256 → (∃ i, i < n ∧ q i = s) ∨ (lf s = 0 ∧ ∀ u, u < 3 → v s u = 0)) ∧ (∀ s u, s < 256 → u < 3 → cf (3 * s + u) = v s u)
theorem pigeon : ∀ (k n : Nat) (q : Nat → Nat), (∀ i, i < n → q i < k) → (∀ i j, i < n → j < n → q i = q j → i = j) → n ≤ k
  | 0, n, q, h, _ => by
    rcases Nat.eq_zero_or_pos n with z | z
    · omega
    · exact absurd (h 0 z) (Nat.not_lt_zero _)
  | k + 1, 0, q, _, _ => Nat.zero_le _
  | k + 1, n + 1, q, h, inj => by
    refine Nat.succ_le_succ (pigeon k n (fun i => if q i = k then q n else q i) (fun i hi => ?_) (fun i j hi hj e => ?_))
    · show (if q i = k then q n else q i) < k
      split
      · rename_i hk
        have hn := h n (Nat.lt_succ_self n)
        rcases Nat.lt_succ_iff_lt_or_eq.mp hn with z | z
        · exact z
        · exact absurd (inj i n (by omega) (by omega) (hk.trans z.symm)) (by omega)
      · have := h i (by omega); omega
    · have e2 : (if q i = k then q n else q i) = (if q j = k then q n else q j) := e
      by_cases hi2 : q i = k
      · by_cases hj2 : q j = k
        · exact inj i j (by omega) (by omega) (hi2.trans hj2.symm)
        · rw [if_pos hi2, if_neg hj2] at e2
          exact absurd (inj n j (by omega) (by omega) e2) (by omega)
      · by_cases hj2 : q j = k
        · rw [if_neg hi2, if_pos hj2] at e2
          exact absurd (inj i n (by omega) (by omega) e2) (by omega)
        · rw [if_neg hi2, if_neg hj2] at e2
          exact inj i j (by omega) (by omega) e2
theorem pigeon_out {k n s : Nat} {q : Nat → Nat} (hs : s < k + 1) (h : ∀ i, i < n → q i < k + 1) (inj : ∀ i j, i < n → j < n → q i = q j → i = j) (hn : ∀ i, i < n → q i ≠ s) : n ≤ k := by
  refine pigeon k n (fun i => if q i = k then s else q i) (fun i hi => ?_) (fun i j hi hj e => ?_)
  · show (if q i = k then s else q i) < k
    split
    · rename_i hk
      have := hn i hi
      omega
    · have := h i hi; omega
  · have e2 : (if q i = k then s else q i) = (if q j = k then s else q j) := e
    by_cases hi2 : q i = k
    · by_cases hj2 : q j = k
      · exact inj i j hi hj (hi2.trans hj2.symm)
      · rw [if_pos hi2, if_neg hj2] at e2
        exact absurd e2.symm (hn j hj)
    · by_cases hj2 : q j = k
      · rw [if_neg hi2, if_pos hj2] at e2
        exact absurd e2 (hn i hi)
      · rw [if_neg hi2, if_neg hj2] at e2
        exact inj i j hi hj e2
theorem hp_cell {x y : Int32} {s u : Nat} (hx : x = nI s) (hy : y = nI u) (hs : s < 256) (hu : u < 3) : x * 3 + y = nI (3 * s + u) := by
  subst hx; subst hy
  rw [show (3 : Int32) = nI 3 from rfl, pk_mul, nI_add, Nat.mul_comm]
theorem hp_isCell {x y : Int32} {s u : Nat} (hx : x = nI s) (hy : y = nI u) (hs : s < 256) (hu : u < 3) : j_X3_isCell x y = 1 := by
  subst hx; subst hy
  unfold j_X3_isCell
  rw [if_neg (nI_pos (by omega)), if_neg (show ¬ (256 : Int32) ≤ nI s from nI_ge (b := 256) hs (by decide)), if_neg (nI_pos (by omega)), if_neg (show ¬ (3 : Int32) ≤ nI u from nI_ge (b := 3) hu (by decide))]
theorem hp_isCellIn {x y : Int32} (h : ¬ j_X3_isCell x y = 0) : ∃ s u : Nat, s < 256 ∧ u < 3 ∧ x = nI s ∧ y = nI u := by
  unfold j_X3_isCell at h
  split at h
  · exact absurd rfl h
  · split at h
    · exact absurd rfl h
    · split at h
      · exact absurd rfl h
      · split at h
        · exact absurd rfl h
        · rename_i h1 h2 h3 h4
          obtain ⟨a, ha, rfl⟩ := nI_of h1
          obtain ⟨b, hb, rfl⟩ := nI_of h3
          rw [show (256 : Int32) = nI 256 from rfl, nI_leI (by decide) ha] at h2
          rw [show (3 : Int32) = nI 3 from rfl, nI_leI (by decide) hb] at h4
          exact ⟨a, b, by omega, by omega, rfl, rfl⟩
def j_at (cf : Nat → Int64) (st us : Int32) : Int64 := if j_X3_isCell st us = 0 then 0 else cf (st * 3 + us).toNatClampNeg
theorem j_at_ok {cf : Nat → Int64} {x y : Int32} {s u : Nat} (hx : x = nI s) (hy : y = nI u) (hs : s < 256) (hu : u < 3) : j_at cf x y = cf (3 * s + u) := by
  unfold j_at
  rw [hp_isCell hx hy hs hu, if_neg (by decide), hp_cell hx hy hs hu, nI_clamp (by omega)]
/-- writing zeros keeps zeros -/
theorem z_L {f g : Nat → Int64} {x : Int32} {k : Nat} (e : vp_updL f x.toNatClampNeg 0 = g) (hx : x = nI k) (hk : k < 2 ^ 31) : g k = 0 ∧ ∀ j, f j = 0 → g j = 0 := by
  subst hx
  rw [nI_clamp hk] at e
  subst e
  refine ⟨pk_uLs, fun j h => ?_⟩
  by_cases q : j = k
  · subst q; exact pk_uLs
  · rw [pk_uLn q]; exact h
theorem z_I {f g : Nat → Int32} {x : Int32} {k : Nat} (e : upd f x.toNatClampNeg (vp_nar .boolean 0) = g) (hx : x = nI k) (hk : k < 2 ^ 31) : g k = 0 ∧ ∀ j, f j = 0 → g j = 0 := by
  subst hx
  rw [nI_clamp hk] at e
  subst e
  refine ⟨pk_us, fun j h => ?_⟩
  by_cases q : j = k
  · subst q; exact pk_us
  · rw [pk_un q]; exact h
theorem row_empty {cf cq : Nat → Int64} {lf lq tf : Nat → Int32} {v : Nat → Nat → Int64} {n : Nat} {q : Nat → Nat} (hq : ∀ i, i < n → q i < 256 ∧ tf i = nI (q i) ∧ lf (q i) = 1) (hcov : ∀ s, s < 256 → (∃ i, i < n ∧ q i = s) ∨ (lf s = 0 ∧ ∀ u, u < 3 → v s u = 0)) (hcf : ∀ s u, s < 256 → u < 3 → cf (3 * s + u) = v s u) (hA : ∀ j, cf j = 0 → cq j = 0) (hB : ∀ j, lf j = 0 → lq j = 0) (hC : ∀ j, j < n → lq (q j) = 0 ∧ ∀ u, u < 3 → cq (3 * q j + u) = 0) : RowRep cq lq tf 0 (fun _ _ => 0) := by
  refine ⟨0, q, rfl, by omega, fun i h => absurd h (Nat.not_lt_zero i), fun i _ h => absurd h (Nat.not_lt_zero i), fun s hs => Or.inr ⟨?_, fun _ _ => rfl⟩, fun s u hs hu => ?_⟩
  · rcases hcov s hs with ⟨i, hi, rfl⟩ | ⟨h, _⟩
    · exact (hC i hi).1
    · exact hB s h
  · rcases hcov s hs with ⟨i, hi, rfl⟩ | ⟨_, h⟩
    · exact (hC i hi).2 u hu
    · exact hA _ (by rw [hcf s u hs hu]; exact h u hu)
theorem row_put {cf cq : Nat → Int64} {lf tf : Nat → Int32} {v : Nat → Nat → Int64} {n s u : Nat} {q : Nat → Nat} {cn x y : Int32} {val : Int64} (hcn : cn = nI n) (hn : n ≤ 256) (hq : ∀ i, i < n → q i < 256 ∧ tf i = nI (q i) ∧ lf (q i) = 1) (hinj : ∀ i j, i < n → j < n → q i = q j → i = j) (hcov : ∀ s, s < 256 → (∃ i, i < n ∧ q i = s) ∨ (lf s = 0 ∧ ∀ u, u < 3 → v s u = 0)) (hcf : ∀ s u, s < 256 → u < 3 → cf (3 * s + u) = v s u) (hs : s < 256) (hu : u < 3) (hlist : ¬ lf s = 0) (hx : x = nI s) (hy : y = nI u) (e : vp_updL cf (x * 3 + y).toNatClampNeg val = cq) : RowRep cq lf tf cn (up2 v s u val) := by
  rw [hp_cell hx hy hs hu, nI_clamp (by omega)] at e
  subst e
  refine ⟨n, q, hcn, hn, hq, hinj, fun a ha => ?_, fun a b ha hb => ?_⟩
  · rcases hcov a ha with h | ⟨h, h2⟩
    · exact Or.inl h
    · refine Or.inr ⟨h, fun b hb => ?_⟩
      have hne : ¬ (a = s ∧ b = u) := fun z => hlist (by rw [← z.1]; exact h)
      show (if a = s ∧ b = u then _ else _) = _
      rw [if_neg hne]; exact h2 b hb
  · show _ = (if a = s ∧ b = u then _ else _)
    by_cases z : a = s ∧ b = u
    · rw [if_pos z, z.1, z.2]; exact pk_uLs
    · rw [if_neg z, pk_uLn (fun h => z (by omega))]; exact hcf a b ha hb
theorem row_add {cf : Nat → Int64} {lf tf l2 t2 : Nat → Int32} {v : Nat → Nat → Int64} {n s : Nat} {q : Nat → Nat} {cn x : Int32} (hcn : cn = nI n) (hn : n ≤ 256) (hq : ∀ i, i < n → q i < 256 ∧ tf i = nI (q i) ∧ lf (q i) = 1) (hinj : ∀ i j, i < n → j < n → q i = q j → i = j) (hcov : ∀ s, s < 256 → (∃ i, i < n ∧ q i = s) ∨ (lf s = 0 ∧ ∀ u, u < 3 → v s u = 0)) (hcf : ∀ s u, s < 256 → u < 3 → cf (3 * s + u) = v s u) (hs : s < 256) (hlist : lf s = 0) (hx : x = nI s) (e1 : upd lf x.toNatClampNeg (vp_nar .boolean 1) = l2) (e2 : upd tf cn.toNatClampNeg x = t2) : RowRep cf l2 t2 (cn + 1) v ∧ l2 s = 1 := by
  have hout : ∀ i, i < n → q i ≠ s := fun i hi h => by have := (hq i hi).2.2; rw [h, hlist] at this; exact absurd this (by decide)
  have hn2 : n ≤ 255 := pigeon_out (k := 255) hs (fun i hi => (hq i hi).1) hinj hout
  rw [hx, nI_clamp (by omega)] at e1
  rw [hcn, nI_clamp (by omega), hx] at e2
  subst e1; subst e2
  have hl2 : upd lf s (vp_nar .boolean 1) s = 1 := pk_us
  refine ⟨⟨n + 1, fun i => if i = n then s else q i, by rw [hcn]; exact nI_1 n, by omega, fun i hi => ?_, fun i j hi hj e => ?_, fun a ha => ?_, hcf⟩, hl2⟩
  · by_cases z : i = n
    · subst z
      simp only [if_true]
      exact ⟨hs, pk_us, hl2⟩
    · simp only [if_neg z]
      have := hq i (by omega)
      refine ⟨this.1, by rw [pk_un z]; exact this.2.1, ?_⟩
      rw [pk_un (hout i (by omega))]; exact this.2.2
  · have e3 : (if i = n then s else q i) = (if j = n then s else q j) := e
    by_cases z : i = n
    · by_cases z2 : j = n
      · omega
      · rw [if_pos z, if_neg z2] at e3; exact absurd e3.symm (hout j (by omega))
    · by_cases z2 : j = n
      · rw [if_neg z, if_pos z2] at e3; exact absurd e3 (hout i (by omega))
      · rw [if_neg z, if_neg z2] at e3; exact hinj i j (by omega) (by omega) e3
  · by_cases z : a = s
    · exact Or.inl ⟨n, by omega, by simp only [if_true]; exact z.symm⟩
    · rcases hcov a ha with ⟨i, hi, h⟩ | ⟨h, h2⟩
      · exact Or.inl ⟨i, by omega, by show (if i = n then s else q i) = a; rw [if_neg (by omega)]; exact h⟩
      · exact Or.inr ⟨by rw [pk_un z]; exact h, h2⟩
set_option maxHeartbeats 4000000 in
set_option maxRecDepth 100000 in
theorem k_X3_at (l : Launch) (D : va_G) (cI cJ cZ : ClassId) (ro ca la ta : Nat) (cn : Int32) (cf : Nat → Int64) (sx ux : Int32)  : Met l yX3_at wsX3_at ({ frames := 1, cells := 0, slots := 0, locals := 21 } : Room) (va_Pc [.ref ro, .int sx, .int ux] (wR D cI cJ cZ [(ro, .inr (2, [.ref ca, .ref la, .ref ta, .int cn])), (ca, .inl (cJ, 768, .inr (.inl cf)))])) (vp_Sl (fun r => r = j_at cf sx ux)) 0 0 (fun _ => False) := by
  refine Met.ofW (cc := cX3_at) (maxL := 3) (ret := (some .long)) (by decide) rfl ?_
  intro p e s m args below meth c s₁ B hml hv
  obtain ⟨hargs, hP, hK, hN⟩ := hv
  have hx := B.exec
  have hb := B.bytes
  have hr := B.returns
  have hlocks := B.notSynchronized
  have hts := atoms_spec (ws := wsX3_at) B.pre
  have hown : s.vm.findClass RX3 = some m.cls := findClass_of_methodNamed B.named
  have k27 := hts (.methodLink RX3 27 yX3_isCell) (by decide +kernel)
  have k9 := hts (.fieldLink RX3 9 "RummyTable$Row" "cells" "[J") (by decide +kernel)
  have iX3 : ∀ w ∈ wsX30, w ∈ wsX3_at := by decide +kernel
  rw [show entryFrame m args 3 = entryFrame m ([.ref ro, .int sx, .int ux] : List Value).toArray 3 from by rw [hargs]]
  have hl := lv_entry ([.ref ro, .int sx, .int ux]) (n := 3) (Nat.le_of_ble_eq_true rfl)
  rw [lg_entry_eq]
  generalize (lg_sl ([.ref ro, .int sx, .int ux]) ++ List.replicate (3 - (lg_sl ([.ref ro, .int sx, .int ux])).length) Slot.unset).toArray = ls at hl ⊢
  have hl : lv_has ls 3 [(0, .ref ro), (1, .int sx), (2, .int ux)] := hl
  refine wQ (fun Q hQ => ?_)
  refine lv_iload_n hx hb dX3_at_0 rfl (lv_at hl 1 rfl) ?_
  refine lv_iload_n hx hb dX3_at_1 rfl (lv_at hl 2 rfl) ?_
  refine vp_callSi (W.runS (As := [.int sx, .int ux]) (rest := []) ⟨hx, hb, hml, hown, hts⟩ (k_X3_isCell l sx ux ) (va_cwS 2 hts gX3_at_X3_isCell rfl rfl rfl (by decide +kernel) ⟨Nat.le_of_ble_eq_true rfl, Nat.le_of_ble_eq_true rfl⟩) ⟨pS_fb, pS_pre⟩ rfl rfl hl.1 rfl (lv_room (Nat.le_of_ble_eq_true rfl)) dX3_at_2 ⟨Nat.le_of_ble_eq_true rfl, Nat.le_of_ble_eq_true rfl⟩) (fun x2 hx2 => ?_)
  subst hx2
  refine lv_if_eq (tgt := 21) hx hb dX3_at_5 (by decide) (fun c_5 => ?_) (fun c_5 => ?_)
  · refine lv_lconst (v := 0) hx hb dX3_at_21 (by decide) ?_
    rw [← hQ]
    exact W.lret (v := 0) hx hb hr (fun t ht hW => ⟨_, rfl, (by simp only [j_at]; (repeat' split) <;> first | rfl | contradiction), ht⟩) (fun _ h => by cases h) dX3_at_22
  · obtain ⟨s9, u9, hs9, hu9, hsx, hux⟩ := hp_isCellIn c_5
    refine lv_aload_n hx hb dX3_at_8 rfl (lv_at hl 0 rfl) ?_
    refine va_get (D := D) (ci := 2) (v := .ref ca) (C := RX3) (T := TX3) (N := 4) hx hb hts iX3 hown hK hP 0 rfl rfl 0 (by decide) k9 (fun _ h9 => h9) rfl dX3_at_9 ?_
    refine lv_iload_n hx hb dX3_at_12 rfl (lv_at hl 1 rfl) ?_
    refine lv_iconst (v := 3) hx hb dX3_at_13 (by decide) ?_
    refine lv_imul hx hb dX3_at_14 ?_
    refine lv_iload_n hx hb dX3_at_15 rfl (lv_at hl 2 rfl) ?_
    refine lv_iadd hx hb dX3_at_16 ?_
    refine va_lald hx hb hK hP 1 1 rfl rfl (by rw [hp_cell hsx hux hs9 hu9]; exact vp_in_nI (by omega) (by decide)) dX3_at_17 ?_
    refine lv_goto (tgt := 22) hx hb dX3_at_18 (by decide) ?_
    rw [← hQ]
    exact W.lret (v := cf ((sx * 3) + ux).toNatClampNeg) hx hb hr (fun t ht hW => ⟨_, rfl, (by simp only [j_at]; (repeat' split) <;> first | rfl | contradiction), ht⟩) (fun _ h => by cases h) dX3_at_22

set_option maxHeartbeats 4000000 in
set_option maxRecDepth 100000 in
theorem k_X3_clear (l : Launch) (D : va_G) (cI cJ cZ : ClassId) (sz : Nat) (ro ca la ta : Nat) (cn : Int32) (cf : Nat → Int64) (lf tf : Nat → Int32) (v : Nat → Nat → Int64) (hrow : RowRep cf lf tf cn v) : Met l yX3_clear wsX3_clear ({ frames := 0, cells := 0, slots := 0, locals := 0 } : Room) (va_Pc [.ref ro] (wM D cI cJ cZ sz [(ro, .inr (2, [.ref ca, .ref la, .ref ta, .int cn])), (ca, .inl (cJ, 768, .inr (.inl cf))), (la, .inl (cZ, 256, .inl lf)), (ta, .inl (cI, 256, .inl tf))])) (va_Qv (fun (u : (Nat → Int64) × (Nat → Int32)) => match u with | (cf2, lf2) => (RowRep cf2 lf2 tf 0 (fun _ _ => 0))) (fun (u : (Nat → Int64) × (Nat → Int32)) t => match u with | (cf2, lf2) => wB D (va_A [(ro, .inr (2, [.ref ca, .ref la, .ref ta, .int cn])), (ca, .inl (cJ, 768, .inr (.inl cf))), (la, .inl (cZ, 256, .inl lf)), (ta, .inl (cI, 256, .inl tf))] sz) [(ro, .inr (2, [.ref ca, .ref la, .ref ta, .int 0])), (ca, .inl (cJ, 768, .inr (.inl cf2))), (la, .inl (cZ, 256, .inl lf2)), (ta, .inl (cI, 256, .inl tf))] t) (va_A [(ro, .inr (2, [.ref ca, .ref la, .ref ta, .int cn])), (ca, .inl (cJ, 768, .inr (.inl cf))), (la, .inl (cZ, 256, .inl lf)), (ta, .inl (cI, 256, .inl tf))] sz)) 0 0 (va_A [(ro, .inr (2, [.ref ca, .ref la, .ref ta, .int cn])), (ca, .inl (cJ, 768, .inr (.inl cf))), (la, .inl (cZ, 256, .inl lf)), (ta, .inl (cI, 256, .inl tf))] sz) := by
  refine Met.ofW (cc := cX3_clear) (maxL := 4) (ret := none) (by decide) rfl ?_
  intro p e s m args below meth c s₁ B hml hv
  obtain ⟨hargs, hsz, hP, ⟨hK, hN⟩, hD0⟩ := hv
  have hx := B.exec
  have hb := B.bytes
  have hr := B.returns
  have hlocks := B.notSynchronized
  have hts := atoms_spec (ws := wsX3_clear) B.pre
  have hown : s.vm.findClass RX3 = some m.cls := findClass_of_methodNamed B.named
  have k9 := hts (.fieldLink RX3 9 "RummyTable$Row" "cells" "[J") (by decide +kernel)
  have iX3 : ∀ w ∈ wsX30, w ∈ wsX3_clear := by decide +kernel
  have k23 := hts (.fieldLink RX3 23 "RummyTable$Row" "count" "I") (by decide +kernel)
  have k19 := hts (.fieldLink RX3 19 "RummyTable$Row" "states" "[I") (by decide +kernel)
  have k15 := hts (.fieldLink RX3 15 "RummyTable$Row" "listed" "[Z") (by decide +kernel)
  subst hsz
  have hD := hD0.self (sz := s.heap.size)
  generalize hAe : va_A [(ro, .inr (2, [.ref ca, .ref la, .ref ta, .int cn])), (ca, .inl (cJ, 768, .inr (.inl cf))), (la, .inl (cZ, 256, .inl lf)), (ta, .inl (cI, 256, .inl tf))] s.heap.size = A at hD ⊢
  have hA : ∀ q : Nat, s.heap.size ≤ q → A q := fun q h => by rw [← hAe]; exact Or.inr h
  have hS : va_S A s.heap s.heap [] := va_S.rf
  rw [show entryFrame m args 4 = entryFrame m ([.ref ro] : List Value).toArray 4 from by rw [hargs]]
  have hl := lv_entry ([.ref ro]) (n := 4) (Nat.le_of_ble_eq_true rfl)
  rw [lg_entry_eq]
  generalize (lg_sl ([.ref ro]) ++ List.replicate (4 - (lg_sl ([.ref ro])).length) Slot.unset).toArray = ls at hl ⊢
  have hl : lv_has ls 4 [(0, .ref ro)] := hl
  refine wQ (fun Q hQ => ?_)
  obtain ⟨n, q, hcn, hn, hq, hinj, hcov, hcf⟩ := hrow
  have lab2 : ∀ fuel2 : Nat, ∀ (i : Nat) (x1 : Int32) (cq : Nat → Int64) (lq : Nat → Int32), (h1 : x1 = nI i) → (hi : i ≤ n) → (hA1 : ∀ j, cf j = 0 → cq j = 0) → (hB1 : ∀ j, lf j = 0 → lq j = 0) → (hC1 : ∀ j, j < i → lq (q j) = 0 ∧ ∀ u, u < 3 → cq (3 * q j + u) = 0) → (hfu2 : n - i < fuel2) → ∀ (H : Heap) (locs : List Loc), va_P D vwCl [(ro, .inr (2, [.ref ca, .ref la, .ref ta, .int cn])), (ca, .inl (cJ, 768, .inr (.inl cq))), (la, .inl (cZ, 256, .inl lq)), (ta, .inl (cI, 256, .inl tf))] H → va_D A [(ro, .inr (2, [.ref ca, .ref la, .ref ta, .int cn])), (ca, .inl (cJ, 768, .inr (.inl cq))), (la, .inl (cZ, 256, .inl lq)), (ta, .inl (cI, 256, .inl tf))] → va_S A s.heap H locs → ∀ ls : Array Slot, lv_has ls 4 [(0, .ref ro), (1, .int x1)] → W p l e (headSpec wsX3_clear ({ frames := 0, cells := 0, slots := 0, locals := 0 } : Room)).room s m args below meth c H locs 0 0 Q (F0 m 2 ls []) := by
    intro fuel2
    induction fuel2 with
    | zero =>
      intro i x1 cq lq h1 hi hA1 hB1 hC1 hfu2
      exact absurd hfu2 (Nat.not_lt_zero _)
    | succ fuel2 ih2 =>
      intro i x1 cq lq h1 hi hA1 hB1 hC1 hfu2 H locs hP hD hS ls hl
      have lab26 : ∀ fuel26 : Nat, ∀ (u : Nat) (x2 : Int32) (x3 : Int32) (cr : Nat → Int64) (lr : Nat → Int32), (hlt : i < n) → (h2 : x2 = nI (q i)) → (h3 : x3 = nI u) → (hu : u ≤ 3) → (hA2 : ∀ j, cf j = 0 → cr j = 0) → (hB2 : ∀ j, lf j = 0 → lr j = 0) → (hC3 : ∀ j, j < i → lr (q j) = 0 ∧ ∀ w, w < 3 → cr (3 * q j + w) = 0) → (hL3 : lr (q i) = 0) → (hD3 : ∀ w, w < u → cr (3 * q i + w) = 0) → (hfu26 : 3 - u < fuel26) → ∀ (H : Heap) (locs : List Loc), va_P D vwCl [(ro, .inr (2, [.ref ca, .ref la, .ref ta, .int cn])), (ca, .inl (cJ, 768, .inr (.inl cr))), (la, .inl (cZ, 256, .inl lr)), (ta, .inl (cI, 256, .inl tf))] H → va_D A [(ro, .inr (2, [.ref ca, .ref la, .ref ta, .int cn])), (ca, .inl (cJ, 768, .inr (.inl cr))), (la, .inl (cZ, 256, .inl lr)), (ta, .inl (cI, 256, .inl tf))] → va_S A s.heap H locs → ∀ ls : Array Slot, lv_has ls 4 [(0, .ref ro), (1, .int x1), (2, .int x2), (3, .int x3)] → W p l e (headSpec wsX3_clear ({ frames := 0, cells := 0, slots := 0, locals := 0 } : Room)).room s m args below meth c H locs 0 0 Q (F0 m 26 ls []) := by
        intro fuel26
        induction fuel26 with
        | zero =>
          intro u x2 x3 cr lr hlt h2 h3 hu hA2 hB2 hC3 hL3 hD3 hfu26
          exact absurd hfu26 (Nat.not_lt_zero _)
        | succ fuel26 ih26 =>
          intro u x2 x3 cr lr hlt h2 h3 hu hA2 hB2 hC3 hL3 hD3 hfu26 H locs hP hD hS ls hl
          refine lv_iload_n hx hb dX3_clear_26 rfl (lv_at hl 3 rfl) ?_
          refine lv_iconst (v := 3) hx hb dX3_clear_27 (by decide) ?_
          refine lv_icmp_ge (tgt := 48) hx hb dX3_clear_28 (by decide) (fun c_28 => ?_) (fun c_28 => ?_)
          · have hu3 : u = 3 := hp_ge h3 (by decide : (3 : Int32) = nI 3) hu (by decide) c_28
            have hC2 : ∀ j, j < i + 1 → lr (q j) = 0 ∧ ∀ w, w < 3 → cr (3 * q j + w) = 0 := fun j hj => by rcases Nat.lt_succ_iff_lt_or_eq.mp hj with h | h; exact hC3 j h; subst h; subst hu3; exact ⟨hL3, hD3⟩
            obtain ⟨x48, ex48⟩ : ∃ y : Int32, y = x1 + 1 := ⟨_, rfl⟩
            refine lv_iinc (v := x48) (lv' := [(1, .int x48), (0, .ref ro), (2, .int x2), (3, .int x3)]) hx hb dX3_clear_48 hl (k := 1) rfl (by rw [ex48]; rfl) (by decide) rfl (fun ls hl => ?_)
            refine lv_goto (tgt := 2) hx hb dX3_clear_51 (by decide) ?_
            exact ih2 (i + 1) x48 cr lr (hp_s ex48 h1) (by omega) (hA2) (hB2) (hC2) (by omega) _ _ hP hD hS ls (lv_sub hl [1, 0] rfl)
          · have hul : u < 3 := hp_lt h3 (by decide : (3 : Int32) = nI 3) hu (by decide) c_28
            have hqi := (hq i hlt).1
            refine lv_aload_n hx hb dX3_clear_31 rfl (lv_at hl 0 rfl) ?_
            refine va_get (D := D) (ci := 2) (v := .ref ca) (C := RX3) (T := TX3) (N := 4) hx hb hts iX3 hown hK hP 0 rfl rfl 0 (by decide) k9 (fun _ h9 => h9) rfl dX3_clear_32 ?_
            refine lv_iload_n hx hb dX3_clear_35 rfl (lv_at hl 2 rfl) ?_
            refine lv_iconst (v := 3) hx hb dX3_clear_36 (by decide) ?_
            refine lv_imul hx hb dX3_clear_37 ?_
            refine lv_iload_n hx hb dX3_clear_38 rfl (lv_at hl 3 rfl) ?_
            refine lv_iadd hx hb dX3_clear_39 ?_
            refine lv_lconst (v := 0) hx hb dX3_clear_40 (by decide) ?_
            refine va_last hx hb hK hP hD hS 1 1 rfl rfl (by rw [hp_cell h2 h3 hqi hul]; exact vp_in_nI (by omega) (by decide)) dX3_clear_41 (fun H locs hP hD hS => ?_)
            have hP : va_P D vwCl [(ro, .inr (2, [.ref ca, .ref la, .ref ta, .int cn])), (ca, .inl (cJ, 768, .inr (.inl (vp_updL cr ((x2 * 3) + x3).toNatClampNeg 0)))), (la, .inl (cZ, 256, .inl lr)), (ta, .inl (cI, 256, .inl tf))] H := hP
            have hD : va_D A [(ro, .inr (2, [.ref ca, .ref la, .ref ta, .int cn])), (ca, .inl (cJ, 768, .inr (.inl (vp_updL cr ((x2 * 3) + x3).toNatClampNeg 0)))), (la, .inl (cZ, 256, .inl lr)), (ta, .inl (cI, 256, .inl tf))] := hD
            generalize ex41 : vp_updL cr ((x2 * 3) + x3).toNatClampNeg 0 = x41 at hP hD
            have hz := z_L ex41 (hp_cell h2 h3 hqi hul) (by omega)
            obtain ⟨x42, ex42⟩ : ∃ y : Int32, y = x3 + 1 := ⟨_, rfl⟩
            refine lv_iinc (v := x42) (lv' := [(3, .int x42), (0, .ref ro), (1, .int x1), (2, .int x2)]) hx hb dX3_clear_42 hl (k := 3) rfl (by rw [ex42]; rfl) (by decide) rfl (fun ls hl => ?_)
            refine lv_goto (tgt := 26) hx hb dX3_clear_45 (by decide) ?_
            exact ih26 (u + 1) x2 x42 x41 lr (hlt) (h2) (hp_s ex42 h3) (by omega) (fun j h => hz.2 j (hA2 j h)) (hB2) (fun j hj => ⟨(hC3 j hj).1, fun w hw => hz.2 _ ((hC3 j hj).2 w hw)⟩) (hL3) (fun w hw => by rcases Nat.lt_succ_iff_lt_or_eq.mp hw with h | h; exact hz.2 _ (hD3 w h); subst h; exact hz.1) (by omega) _ _ hP hD hS ls (lv_sub hl [1, 2, 3, 0] rfl)
      refine lv_iload_n hx hb dX3_clear_2 rfl (lv_at hl 1 rfl) ?_
      refine lv_aload_n hx hb dX3_clear_3 rfl (lv_at hl 0 rfl) ?_
      refine va_get (D := D) (ci := 2) (v := .int cn) (C := RX3) (T := TX3) (N := 4) hx hb hts iX3 hown hK hP 0 rfl rfl 3 (by decide) k23 (fun _ h9 => h9) rfl dX3_clear_4 ?_
      refine lv_icmp_ge (tgt := 54) hx hb dX3_clear_7 (by decide) (fun c_7 => ?_) (fun c_7 => ?_)
      · have hin9 : i = n := hp_ge h1 hcn hi (by omega) c_7
        subst hin9
        refine lv_aload_n hx hb dX3_clear_54 rfl (lv_at hl 0 rfl) ?_
        refine lv_iconst (v := 0) hx hb dX3_clear_55 (by decide) ?_
        refine va_put (D := D) (ci := 2) (v := .int 0) (ty := .int) (C := RX3) (T := TX3) (N := 4) hx hb hts iX3 tyX3 tyX3_ok nmX3 hown hK hP hD hS 0 rfl rfl 3 (by decide) k23 (fun _ h9 => h9) rfl (by decide +kernel) rfl rfl (Nat.le_of_ble_eq_true rfl) dX3_clear_56 (fun H locs hP hD hS => ?_)
        have hP : va_P D vwCl [(ro, .inr (2, [.ref ca, .ref la, .ref ta, .int 0])), (ca, .inl (cJ, 768, .inr (.inl cq))), (la, .inl (cZ, 256, .inl lq)), (ta, .inl (cI, 256, .inl tf))] H := hP
        have hD : va_D A [(ro, .inr (2, [.ref ca, .ref la, .ref ta, .int 0])), (ca, .inl (cJ, 768, .inr (.inl cq))), (la, .inl (cZ, 256, .inl lq)), (ta, .inl (cI, 256, .inl tf))] := hD
        rw [← hQ]
        have hP9 := hP.sub (ws' := [(ro, .inr (2, [.ref ca, .ref la, .ref ta, .int 0])), (ca, .inl (cJ, 768, .inr (.inl cq))), (la, .inl (cZ, 256, .inl lq)), (ta, .inl (cI, 256, .inl tf))]) [0, 1, 2, 3] rfl
        have hD9 := hD.sub (ws' := [(ro, .inr (2, [.ref ca, .ref la, .ref ta, .int 0])), (ca, .inl (cJ, 768, .inr (.inl cq))), (la, .inl (cZ, 256, .inl lq)), (ta, .inl (cI, 256, .inl tf))]) [0, 1, 2, 3] (by decide) rfl
        exact W.vret hx hb hr (fun t ht hW => ⟨⟨(cq, lq), rfl, row_empty hq hcov hcf hA1 hB1 hC1, (by show wB D A _ t; exact ⟨by rw [ht]; exact hP9, hD9⟩)⟩, hS.F ht⟩) hS.2.2 dX3_clear_59
      · have hlt : i < n := hp_lt h1 hcn hi (by omega) c_7
        have hqi := (hq i hlt).1
        refine lv_aload_n hx hb dX3_clear_10 rfl (lv_at hl 0 rfl) ?_
        refine va_get (D := D) (ci := 2) (v := .ref ta) (C := RX3) (T := TX3) (N := 4) hx hb hts iX3 hown hK hP 0 rfl rfl 2 (by decide) k19 (fun _ h9 => h9) rfl dX3_clear_11 ?_
        refine lv_iload_n hx hb dX3_clear_14 rfl (lv_at hl 1 rfl) ?_
        refine va_iald hx hb hK hP 3 0 rfl rfl (by rw [h1]; exact vp_in_nI (by omega) (by decide)) dX3_clear_15 ?_
        refine lv_topi (fun x16 ex16 => ?_)
        refine lv_istore_n (lv' := [(2, .int x16), (0, .ref ro), (1, .int x1)]) hx hb dX3_clear_16 rfl hl (by decide) rfl (fun ls hl => ?_)
        have hq16 : x16 = nI (q i) := by rw [ex16, h1, nI_clamp (by omega)]; exact (hq i hlt).2.1
        refine lv_aload_n hx hb dX3_clear_17 rfl (lv_at hl 1 rfl) ?_
        refine va_get (D := D) (ci := 2) (v := .ref la) (C := RX3) (T := TX3) (N := 4) hx hb hts iX3 hown hK hP 0 rfl rfl 1 (by decide) k15 (fun _ h9 => h9) rfl dX3_clear_18 ?_
        refine lv_iload_n hx hb dX3_clear_21 rfl (lv_at hl 0 rfl) ?_
        refine lv_iconst (v := 0) hx hb dX3_clear_22 (by decide) ?_
        refine va_zast hx hb hK hP hD hS 2 2 rfl rfl (by rw [hq16]; exact vp_in_nI hqi (by decide)) dX3_clear_23 (fun H locs hP hD hS => ?_)
        have hP : va_P D vwCl [(ro, .inr (2, [.ref ca, .ref la, .ref ta, .int cn])), (ca, .inl (cJ, 768, .inr (.inl cq))), (la, .inl (cZ, 256, .inl (upd lq x16.toNatClampNeg (vp_nar .boolean 0)))), (ta, .inl (cI, 256, .inl tf))] H := hP
        have hD : va_D A [(ro, .inr (2, [.ref ca, .ref la, .ref ta, .int cn])), (ca, .inl (cJ, 768, .inr (.inl cq))), (la, .inl (cZ, 256, .inl (upd lq x16.toNatClampNeg (vp_nar .boolean 0)))), (ta, .inl (cI, 256, .inl tf))] := hD
        generalize ex23 : upd lq x16.toNatClampNeg (vp_nar .boolean 0) = x23 at hP hD
        refine lv_iconst (v := 0) hx hb dX3_clear_24 (by decide) ?_
        refine lv_istore_n (lv' := [(3, .int 0), (2, .int x16), (0, .ref ro), (1, .int x1)]) hx hb dX3_clear_25 rfl hl (by decide) rfl (fun ls hl => ?_)
        exact lab26 _ 0 x16 0 cq x23 (hlt) (hq16) (nI_0.symm) (by omega) (hA1) (fun j h => (z_I ex23 hq16 (by omega)).2 j (hB1 j h)) (fun j hj => ⟨(z_I ex23 hq16 (by omega)).2 _ (hC1 j hj).1, (hC1 j hj).2⟩) ((z_I ex23 hq16 (by omega)).1) (fun w h => absurd h (Nat.not_lt_zero w)) (Nat.lt_succ_self _) _ _ hP hD hS ls (lv_sub hl [2, 3, 1, 0] rfl)
  refine lv_iconst (v := 0) hx hb dX3_clear_0 (by decide) ?_
  refine lv_istore_n (lv' := [(1, .int 0), (0, .ref ro)]) hx hb dX3_clear_1 rfl hl (by decide) rfl (fun ls hl => ?_)
  exact lab2 _ 0 0 cf lf (nI_0.symm) (by omega) (fun _ h => h) (fun _ h => h) (fun j h => absurd h (Nat.not_lt_zero j)) (Nat.lt_succ_self _) _ _ hP hD hS ls (lv_sub hl [1, 0] rfl)

set_option maxHeartbeats 4000000 in
set_option maxRecDepth 100000 in
theorem k_X3_put (l : Launch) (D : va_G) (cI cJ cZ : ClassId) (sz : Nat) (ro ca la ta : Nat) (cn : Int32) (cf : Nat → Int64) (lf tf : Nat → Int32) (v : Nat → Nat → Int64) (s0 u0 : Nat) (sx ux : Int32) (val : Int64) (hs0 : s0 < 256) (hu0 : u0 < 3) (hsx : sx = nI s0) (hux : ux = nI u0) (hrow : RowRep cf lf tf cn v) : Met l yX3_put wsX3_put ({ frames := 1, cells := 0, slots := 0, locals := 21 } : Room) (va_Pc [.ref ro, .int sx, .int ux, .long val] (wM D cI cJ cZ sz [(ro, .inr (2, [.ref ca, .ref la, .ref ta, .int cn])), (ca, .inl (cJ, 768, .inr (.inl cf))), (la, .inl (cZ, 256, .inl lf)), (ta, .inl (cI, 256, .inl tf))])) (va_Qv (fun (u : (Int32) × (Nat → Int64) × (Nat → Int32) × (Nat → Int32)) => match u with | (cn2, cf2, lf2, tf2) => (RowRep cf2 lf2 tf2 cn2 (up2 v s0 u0 val))) (fun (u : (Int32) × (Nat → Int64) × (Nat → Int32) × (Nat → Int32)) t => match u with | (cn2, cf2, lf2, tf2) => wB D (va_A [(ro, .inr (2, [.ref ca, .ref la, .ref ta, .int cn])), (ca, .inl (cJ, 768, .inr (.inl cf))), (la, .inl (cZ, 256, .inl lf)), (ta, .inl (cI, 256, .inl tf))] sz) [(ro, .inr (2, [.ref ca, .ref la, .ref ta, .int cn2])), (ca, .inl (cJ, 768, .inr (.inl cf2))), (la, .inl (cZ, 256, .inl lf2)), (ta, .inl (cI, 256, .inl tf2))] t) (va_A [(ro, .inr (2, [.ref ca, .ref la, .ref ta, .int cn])), (ca, .inl (cJ, 768, .inr (.inl cf))), (la, .inl (cZ, 256, .inl lf)), (ta, .inl (cI, 256, .inl tf))] sz)) 0 0 (va_A [(ro, .inr (2, [.ref ca, .ref la, .ref ta, .int cn])), (ca, .inl (cJ, 768, .inr (.inl cf))), (la, .inl (cZ, 256, .inl lf)), (ta, .inl (cI, 256, .inl tf))] sz) := by
  refine Met.ofW (cc := cX3_put) (maxL := 5) (ret := none) (by decide) rfl ?_
  intro p e s m args below meth c s₁ B hml hv
  obtain ⟨hargs, hsz, hP, ⟨hK, hN⟩, hD0⟩ := hv
  have hx := B.exec
  have hb := B.bytes
  have hr := B.returns
  have hlocks := B.notSynchronized
  have hts := atoms_spec (ws := wsX3_put) B.pre
  have hown : s.vm.findClass RX3 = some m.cls := findClass_of_methodNamed B.named
  have k27 := hts (.methodLink RX3 27 yX3_isCell) (by decide +kernel)
  have k15 := hts (.fieldLink RX3 15 "RummyTable$Row" "listed" "[Z") (by decide +kernel)
  have iX3 : ∀ w ∈ wsX30, w ∈ wsX3_put := by decide +kernel
  have k9 := hts (.fieldLink RX3 9 "RummyTable$Row" "cells" "[J") (by decide +kernel)
  have k23 := hts (.fieldLink RX3 23 "RummyTable$Row" "count" "I") (by decide +kernel)
  have k19 := hts (.fieldLink RX3 19 "RummyTable$Row" "states" "[I") (by decide +kernel)
  subst hsz
  have hD := hD0.self (sz := s.heap.size)
  generalize hAe : va_A [(ro, .inr (2, [.ref ca, .ref la, .ref ta, .int cn])), (ca, .inl (cJ, 768, .inr (.inl cf))), (la, .inl (cZ, 256, .inl lf)), (ta, .inl (cI, 256, .inl tf))] s.heap.size = A at hD ⊢
  have hA : ∀ q : Nat, s.heap.size ≤ q → A q := fun q h => by rw [← hAe]; exact Or.inr h
  have hS : va_S A s.heap s.heap [] := va_S.rf
  rw [show entryFrame m args 5 = entryFrame m ([.ref ro, .int sx, .int ux, .long val] : List Value).toArray 5 from by rw [hargs]]
  have hl := lv_entry ([.ref ro, .int sx, .int ux, .long val]) (n := 5) (Nat.le_of_ble_eq_true rfl)
  rw [lg_entry_eq]
  generalize (lg_sl ([.ref ro, .int sx, .int ux, .long val]) ++ List.replicate (5 - (lg_sl ([.ref ro, .int sx, .int ux, .long val])).length) Slot.unset).toArray = ls at hl ⊢
  have hl : lv_has ls 5 [(0, .ref ro), (1, .int sx), (2, .int ux), (3, .long val)] := hl
  refine wQ (fun Q hQ => ?_)
  obtain ⟨n, q, hcn, hn, hq, hinj, hcov, hcf⟩ := hrow
  have hcl : sx.toNatClampNeg = s0 := by rw [hsx]; exact nI_clamp (by omega)
  have hin : vp_in sx 256 := by rw [hsx]; exact vp_in_nI hs0 (by decide)
  refine lv_iload_n hx hb dX3_put_0 rfl (lv_at hl 1 rfl) ?_
  refine lv_iload_n hx hb dX3_put_1 rfl (lv_at hl 2 rfl) ?_
  refine vp_callSi (W.runS (As := [.int sx, .int ux]) (rest := []) ⟨hx, hb, hml, hown, hts⟩ (k_X3_isCell l sx ux ) (va_cwS 2 hts gX3_put_X3_isCell rfl rfl rfl (by decide +kernel) ⟨Nat.le_of_ble_eq_true rfl, Nat.le_of_ble_eq_true rfl⟩) ⟨pS_fb, pS_pre⟩ rfl rfl hl.1 rfl (lv_room (Nat.le_of_ble_eq_true rfl)) dX3_put_2 ⟨Nat.le_of_ble_eq_true rfl, Nat.le_of_ble_eq_true rfl⟩) (fun x2 hx2 => ?_)
  subst hx2
  refine lv_topi (fun y2 ey2 => ?_)
  rw [show j_X3_isCell sx ux = 1 from hp_isCell hsx hux hs0 hu0] at ey2
  refine lv_if_ne (tgt := 9) hx hb dX3_put_5 (by decide) (fun c_5 => ?_) (fun c_5 => ?_)
  · refine lv_aload_n hx hb dX3_put_9 rfl (lv_at hl 0 rfl) ?_
    refine va_get (D := D) (ci := 2) (v := .ref la) (C := RX3) (T := TX3) (N := 4) hx hb hts iX3 hown hK hP 0 rfl rfl 1 (by decide) k15 (fun _ h9 => h9) rfl dX3_put_10 ?_
    refine lv_iload_n hx hb dX3_put_13 rfl (lv_at hl 1 rfl) ?_
    refine va_zald hx hb hK hP 2 2 rfl rfl (hin) dX3_put_14 ?_
    refine lv_if_ne (tgt := 55) hx hb dX3_put_15 (by decide) (fun c_15 => ?_) (fun c_15 => ?_)
    · rw [hcl] at c_15
      refine lv_aload_n hx hb dX3_put_55 rfl (lv_at hl 0 rfl) ?_
      refine va_get (D := D) (ci := 2) (v := .ref ca) (C := RX3) (T := TX3) (N := 4) hx hb hts iX3 hown hK hP 0 rfl rfl 0 (by decide) k9 (fun _ h9 => h9) rfl dX3_put_56 ?_
      refine lv_iload_n hx hb dX3_put_59 rfl (lv_at hl 1 rfl) ?_
      refine lv_iconst (v := 3) hx hb dX3_put_60 (by decide) ?_
      refine lv_imul hx hb dX3_put_61 ?_
      refine lv_iload_n hx hb dX3_put_62 rfl (lv_at hl 2 rfl) ?_
      refine lv_iadd hx hb dX3_put_63 ?_
      refine lv_lload_n hx hb dX3_put_64 rfl (lv_at hl 3 rfl) ?_
      refine va_last hx hb hK hP hD hS 1 1 rfl rfl (by rw [hp_cell hsx hux hs0 hu0]; exact vp_in_nI (by omega) (by decide)) dX3_put_65 (fun H locs hP hD hS => ?_)
      have hP : va_P D vwCl [(ro, .inr (2, [.ref ca, .ref la, .ref ta, .int cn])), (ca, .inl (cJ, 768, .inr (.inl (vp_updL cf ((sx * 3) + ux).toNatClampNeg val)))), (la, .inl (cZ, 256, .inl lf)), (ta, .inl (cI, 256, .inl tf))] H := hP
      have hD : va_D A [(ro, .inr (2, [.ref ca, .ref la, .ref ta, .int cn])), (ca, .inl (cJ, 768, .inr (.inl (vp_updL cf ((sx * 3) + ux).toNatClampNeg val)))), (la, .inl (cZ, 256, .inl lf)), (ta, .inl (cI, 256, .inl tf))] := hD
      generalize ex65 : vp_updL cf ((sx * 3) + ux).toNatClampNeg val = x65 at hP hD
      rw [← hQ]
      have hP9 := hP.sub (ws' := [(ro, .inr (2, [.ref ca, .ref la, .ref ta, .int cn])), (ca, .inl (cJ, 768, .inr (.inl x65))), (la, .inl (cZ, 256, .inl lf)), (ta, .inl (cI, 256, .inl tf))]) [0, 1, 2, 3] rfl
      have hD9 := hD.sub (ws' := [(ro, .inr (2, [.ref ca, .ref la, .ref ta, .int cn])), (ca, .inl (cJ, 768, .inr (.inl x65))), (la, .inl (cZ, 256, .inl lf)), (ta, .inl (cI, 256, .inl tf))]) [0, 1, 2, 3] (by decide) rfl
      exact W.vret hx hb hr (fun t ht hW => ⟨⟨(cn, x65, lf, tf), rfl, (by first | exact row_put hcn hn hq hinj hcov hcf hs0 hu0 c_15 hsx hux ex65 | (obtain ⟨⟨n9, q9, g1, g2, g3, g4, g5, g6⟩, g7⟩ := row_add hcn hn hq hinj hcov hcf hs0 c_15 hsx ex34 ex44; exact row_put g1 g2 g3 g4 g5 g6 hs0 hu0 (by rw [g7]; decide) hsx hux ex65)), (by show wB D A _ t; exact ⟨by rw [ht]; exact hP9, hD9⟩)⟩, hS.F ht⟩) hS.2.2 dX3_put_66
    · rw [hcl] at c_15
      refine lv_aload_n hx hb dX3_put_18 rfl (lv_at hl 0 rfl) ?_
      refine va_get (D := D) (ci := 2) (v := .int cn) (C := RX3) (T := TX3) (N := 4) hx hb hts iX3 hown hK hP 0 rfl rfl 3 (by decide) k23 (fun _ h9 => h9) rfl dX3_put_19 ?_
      refine lv_sipush (v := 256) hx hb dX3_put_22 (by decide) ?_
      refine lv_icmp_ge (tgt := 55) hx hb dX3_put_25 (by decide) (fun c_25 => ?_) (fun c_25 => ?_)
      · exact absurd (pigeon_out (k := 255) hs0 (fun i hi => (hq i hi).1) hinj (fun i hi h => by have := (hq i hi).2.2; rw [h, c_15] at this; exact absurd this (by decide))) (by have := hp_ge hcn (by decide : (256 : Int32) = nI 256) hn (by decide) c_25; omega)
      · have hn2 : n < 256 := hp_lt hcn (by decide : (256 : Int32) = nI 256) hn (by decide) c_25
        refine lv_aload_n hx hb dX3_put_28 rfl (lv_at hl 0 rfl) ?_
        refine va_get (D := D) (ci := 2) (v := .ref la) (C := RX3) (T := TX3) (N := 4) hx hb hts iX3 hown hK hP 0 rfl rfl 1 (by decide) k15 (fun _ h9 => h9) rfl dX3_put_29 ?_
        refine lv_iload_n hx hb dX3_put_32 rfl (lv_at hl 1 rfl) ?_
        refine lv_iconst (v := 1) hx hb dX3_put_33 (by decide) ?_
        refine va_zast hx hb hK hP hD hS 2 2 rfl rfl (hin) dX3_put_34 (fun H locs hP hD hS => ?_)
        have hP : va_P D vwCl [(ro, .inr (2, [.ref ca, .ref la, .ref ta, .int cn])), (ca, .inl (cJ, 768, .inr (.inl cf))), (la, .inl (cZ, 256, .inl (upd lf sx.toNatClampNeg (vp_nar .boolean 1)))), (ta, .inl (cI, 256, .inl tf))] H := hP
        have hD : va_D A [(ro, .inr (2, [.ref ca, .ref la, .ref ta, .int cn])), (ca, .inl (cJ, 768, .inr (.inl cf))), (la, .inl (cZ, 256, .inl (upd lf sx.toNatClampNeg (vp_nar .boolean 1)))), (ta, .inl (cI, 256, .inl tf))] := hD
        generalize ex34 : upd lf sx.toNatClampNeg (vp_nar .boolean 1) = x34 at hP hD
        refine lv_aload_n hx hb dX3_put_35 rfl (lv_at hl 0 rfl) ?_
        refine va_get (D := D) (ci := 2) (v := .ref ta) (C := RX3) (T := TX3) (N := 4) hx hb hts iX3 hown hK hP 0 rfl rfl 2 (by decide) k19 (fun _ h9 => h9) rfl dX3_put_36 ?_
        refine lv_aload_n hx hb dX3_put_39 rfl (lv_at hl 0 rfl) ?_
        refine va_get (D := D) (ci := 2) (v := .int cn) (C := RX3) (T := TX3) (N := 4) hx hb hts iX3 hown hK hP 0 rfl rfl 3 (by decide) k23 (fun _ h9 => h9) rfl dX3_put_40 ?_
        refine lv_iload_n hx hb dX3_put_43 rfl (lv_at hl 1 rfl) ?_
        refine va_iast hx hb hK hP hD hS 3 0 rfl rfl (by rw [hcn]; exact vp_in_nI hn2 (by decide)) dX3_put_44 (fun H locs hP hD hS => ?_)
        have hP : va_P D vwCl [(ro, .inr (2, [.ref ca, .ref la, .ref ta, .int cn])), (ca, .inl (cJ, 768, .inr (.inl cf))), (la, .inl (cZ, 256, .inl x34)), (ta, .inl (cI, 256, .inl (upd tf cn.toNatClampNeg sx)))] H := hP
        have hD : va_D A [(ro, .inr (2, [.ref ca, .ref la, .ref ta, .int cn])), (ca, .inl (cJ, 768, .inr (.inl cf))), (la, .inl (cZ, 256, .inl x34)), (ta, .inl (cI, 256, .inl (upd tf cn.toNatClampNeg sx)))] := hD
        generalize ex44 : upd tf cn.toNatClampNeg sx = x44 at hP hD
        refine lv_aload_n hx hb dX3_put_45 rfl (lv_at hl 0 rfl) ?_
        refine lv_dup hx hb dX3_put_46 rfl ?_
        refine va_get (D := D) (ci := 2) (v := .int cn) (C := RX3) (T := TX3) (N := 4) hx hb hts iX3 hown hK hP 0 rfl rfl 3 (by decide) k23 (fun _ h9 => h9) rfl dX3_put_47 ?_
        refine lv_iconst (v := 1) hx hb dX3_put_50 (by decide) ?_
        refine lv_iadd hx hb dX3_put_51 ?_
        refine va_put (D := D) (ci := 2) (v := .int (cn + 1)) (ty := .int) (C := RX3) (T := TX3) (N := 4) hx hb hts iX3 tyX3 tyX3_ok nmX3 hown hK hP hD hS 0 rfl rfl 3 (by decide) k23 (fun _ h9 => h9) rfl (by decide +kernel) rfl rfl (Nat.le_of_ble_eq_true rfl) dX3_put_52 (fun H locs hP hD hS => ?_)
        have hP : va_P D vwCl [(ro, .inr (2, [.ref ca, .ref la, .ref ta, .int (cn + 1)])), (ca, .inl (cJ, 768, .inr (.inl cf))), (la, .inl (cZ, 256, .inl x34)), (ta, .inl (cI, 256, .inl x44))] H := hP
        have hD : va_D A [(ro, .inr (2, [.ref ca, .ref la, .ref ta, .int (cn + 1)])), (ca, .inl (cJ, 768, .inr (.inl cf))), (la, .inl (cZ, 256, .inl x34)), (ta, .inl (cI, 256, .inl x44))] := hD
        refine lv_aload_n hx hb dX3_put_55 rfl (lv_at hl 0 rfl) ?_
        refine va_get (D := D) (ci := 2) (v := .ref ca) (C := RX3) (T := TX3) (N := 4) hx hb hts iX3 hown hK hP 0 rfl rfl 0 (by decide) k9 (fun _ h9 => h9) rfl dX3_put_56 ?_
        refine lv_iload_n hx hb dX3_put_59 rfl (lv_at hl 1 rfl) ?_
        refine lv_iconst (v := 3) hx hb dX3_put_60 (by decide) ?_
        refine lv_imul hx hb dX3_put_61 ?_
        refine lv_iload_n hx hb dX3_put_62 rfl (lv_at hl 2 rfl) ?_
        refine lv_iadd hx hb dX3_put_63 ?_
        refine lv_lload_n hx hb dX3_put_64 rfl (lv_at hl 3 rfl) ?_
        refine va_last hx hb hK hP hD hS 1 1 rfl rfl (by rw [hp_cell hsx hux hs0 hu0]; exact vp_in_nI (by omega) (by decide)) dX3_put_65 (fun H locs hP hD hS => ?_)
        have hP : va_P D vwCl [(ro, .inr (2, [.ref ca, .ref la, .ref ta, .int (cn + 1)])), (ca, .inl (cJ, 768, .inr (.inl (vp_updL cf ((sx * 3) + ux).toNatClampNeg val)))), (la, .inl (cZ, 256, .inl x34)), (ta, .inl (cI, 256, .inl x44))] H := hP
        have hD : va_D A [(ro, .inr (2, [.ref ca, .ref la, .ref ta, .int (cn + 1)])), (ca, .inl (cJ, 768, .inr (.inl (vp_updL cf ((sx * 3) + ux).toNatClampNeg val)))), (la, .inl (cZ, 256, .inl x34)), (ta, .inl (cI, 256, .inl x44))] := hD
        generalize ex65 : vp_updL cf ((sx * 3) + ux).toNatClampNeg val = x65 at hP hD
        rw [← hQ]
        have hP9 := hP.sub (ws' := [(ro, .inr (2, [.ref ca, .ref la, .ref ta, .int (cn + 1)])), (ca, .inl (cJ, 768, .inr (.inl x65))), (la, .inl (cZ, 256, .inl x34)), (ta, .inl (cI, 256, .inl x44))]) [0, 1, 2, 3] rfl
        have hD9 := hD.sub (ws' := [(ro, .inr (2, [.ref ca, .ref la, .ref ta, .int (cn + 1)])), (ca, .inl (cJ, 768, .inr (.inl x65))), (la, .inl (cZ, 256, .inl x34)), (ta, .inl (cI, 256, .inl x44))]) [0, 1, 2, 3] (by decide) rfl
        exact W.vret hx hb hr (fun t ht hW => ⟨⟨(cn + 1, x65, x34, x44), rfl, (by first | exact row_put hcn hn hq hinj hcov hcf hs0 hu0 c_15 hsx hux ex65 | (obtain ⟨⟨n9, q9, g1, g2, g3, g4, g5, g6⟩, g7⟩ := row_add hcn hn hq hinj hcov hcf hs0 c_15 hsx ex34 ex44; exact row_put g1 g2 g3 g4 g5 g6 hs0 hu0 (by rw [g7]; decide) hsx hux ex65)), (by show wB D A _ t; exact ⟨by rw [ht]; exact hP9, hD9⟩)⟩, hS.F ht⟩) hS.2.2 dX3_put_66
  · exact absurd (ey2.symm.trans c_5) (by decide)
