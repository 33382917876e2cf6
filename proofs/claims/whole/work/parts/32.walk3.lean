def goI (ct : Int32) (gf : Nat → Int64) (jk : Nat) (hv : Nat → Int64) (s : Nat) (ft : Nat → Nat) (a : Nat) : Nat → (Nat → Nat → Int64) → (Nat → Nat → Int64)
  | 0, w => w
  | i + 1, w => cyO ct (fun j => gf (3 * (a + i) + j)) jk hv (c_af s (ft (a + i))) (jk + 1) (goI ct gf jk hv s ft a i w)
/-- all steps that a state allows, by the colours that go on -/
def goF (ct : Int32) (gf : Nat → Int64) (jk : Nat) (hv : Nat → Int64) (s : Nat) (ft ffn : Nat → Nat) : Nat → (Nat → Nat → Int64) → (Nat → Nat → Int64)
  | 0, w => w
  | on + 1, w => if c_cc s on = true then goI ct gf jk hv s ft (ffn on) (ffn (on + 1) - ffn on) (goF ct gf jk hv s ft ffn on w) else goF ct gf jk hv s ft ffn on w
theorem goF_y {ct : Int32} {gf : Nat → Int64} {jk : Nat} {hv : Nat → Int64} {s : Nat} {ft ffn : Nat → Nat} {on : Nat} {w : Nat → Nat → Int64} (h : c_cc s on = true) : goF ct gf jk hv s ft ffn (on + 1) w = goI ct gf jk hv s ft (ffn on) (ffn (on + 1) - ffn on) (goF ct gf jk hv s ft ffn on w) := by
  show (if _ then _ else _) = _
  rw [if_pos h]
theorem goF_n {ct : Int32} {gf : Nat → Int64} {jk : Nat} {hv : Nat → Int64} {s : Nat} {ft ffn : Nat → Nat} {on : Nat} {w : Nat → Nat → Int64} (h : c_cc s on = false) : goF ct gf jk hv s ft ffn (on + 1) w = goF ct gf jk hv s ft ffn on w := by
  show (if _ then _ else _) = _
  rw [if_neg (by rw [h]; decide)]
theorem cc_f {s on : Nat} {x y : Int32} (hx : x = nI s) (hy : y = nI on) (hs : s < 256) (ho : on < 16) (c : j_X5_canContinue x y = 0) : c_cc s on = false := by
  rw [hx, hy, jn_cc s hs on ho] at c
  cases h : c_cc s on with
  | false => rfl
  | true => rw [h] at c; exact absurd c (by decide)
theorem cc_t {s on : Nat} {x y : Int32} (hx : x = nI s) (hy : y = nI on) (hs : s < 256) (ho : on < 16) (c : ¬ j_X5_canContinue x y = 0) : c_cc s on = true := by
  rw [hx, hy, jn_cc s hs on ho] at c
  cases h : c_cc s on with
  | true => rfl
  | false => rw [h] at c; exact absurd rfl c
set_option maxHeartbeats 4000000 in
set_option maxRecDepth 100000 in
theorem k_X6_goOnFrom (l : Launch) (D : va_G) (cI cJ cZ : ClassId) (sz : Nat) (wk ws6 fi6 ff6 ga6 ahr atr : Nat) (ft6 ct6 bw6 un6 : Int32) (mu6 my6 : Int64) (hca hla hta tca tla tta : Nat) (hcn tcn : Int32) (jk nF s1 : Nat) (ft ffn : Nat → Nat) (fif fff : Nat → Int32) (gf hcf tcf : Nat → Int64) (tlf ttf : Nat → Int32) (w : Nat → Nat → Int64) (sx : Int32) (hjk : jk ≤ 2) (hnF : nF ≤ 94) (hfit : ∀ i, i < nF → fif i = nI (ft i) ∧ ft i < 65536) (hff : ∀ on, on ≤ 16 → fff on = nI (ffn on) ∧ ffn on ≤ nF) (hs1 : s1 < 256) (hsx : sx = nI s1) (hrow : RowRep tcf tlf ttf tcn w) : Met l yX6_goOnFrom wsX6_goOnFrom ({ frames := 3, cells := 0, slots := 0, locals := 76 } : Room) (va_Pc [.ref wk, .int sx] (wM D cI cJ cZ sz [(wk, .inr (4, [.ref ws6, .ref fi6, .ref ff6, .ref ga6, .int ft6, .ref ahr, .ref atr, .long mu6, .long my6, .int (nI jk), .int ct6, .int bw6, .int un6])), (fi6, .inl (cI, 94, .inl fif)), (ff6, .inl (cI, 17, .inl fff)), (ga6, .inl (cJ, 282, .inr (.inl gf))), (ahr, .inr (2, [.ref hca, .ref hla, .ref hta, .int hcn])), (hca, .inl (cJ, 768, .inr (.inl hcf))), (atr, .inr (2, [.ref tca, .ref tla, .ref tta, .int tcn])), (tca, .inl (cJ, 768, .inr (.inl tcf))), (tla, .inl (cZ, 256, .inl tlf)), (tta, .inl (cI, 256, .inl ttf))])) (va_Qv (fun (u : (Int32) × (Nat → Int64) × (Nat → Int32) × (Nat → Int32)) => match u with | (tcn2, tcf2, tlf2, ttf2) => (RowRep tcf2 tlf2 ttf2 tcn2 (goF ct6 gf jk (fun j => hcf (3 * s1 + j)) s1 ft ffn 16 w))) (fun (u : (Int32) × (Nat → Int64) × (Nat → Int32) × (Nat → Int32)) t => match u with | (tcn2, tcf2, tlf2, ttf2) => wB D (va_A [(wk, .inr (4, [.ref ws6, .ref fi6, .ref ff6, .ref ga6, .int ft6, .ref ahr, .ref atr, .long mu6, .long my6, .int (nI jk), .int ct6, .int bw6, .int un6])), (fi6, .inl (cI, 94, .inl fif)), (ff6, .inl (cI, 17, .inl fff)), (ga6, .inl (cJ, 282, .inr (.inl gf))), (ahr, .inr (2, [.ref hca, .ref hla, .ref hta, .int hcn])), (hca, .inl (cJ, 768, .inr (.inl hcf))), (atr, .inr (2, [.ref tca, .ref tla, .ref tta, .int tcn])), (tca, .inl (cJ, 768, .inr (.inl tcf))), (tla, .inl (cZ, 256, .inl tlf)), (tta, .inl (cI, 256, .inl ttf))] sz) [(wk, .inr (4, [.ref ws6, .ref fi6, .ref ff6, .ref ga6, .int ft6, .ref ahr, .ref atr, .long mu6, .long my6, .int (nI jk), .int ct6, .int bw6, .int un6])), (fi6, .inl (cI, 94, .inl fif)), (ff6, .inl (cI, 17, .inl fff)), (ga6, .inl (cJ, 282, .inr (.inl gf))), (ahr, .inr (2, [.ref hca, .ref hla, .ref hta, .int hcn])), (hca, .inl (cJ, 768, .inr (.inl hcf))), (atr, .inr (2, [.ref tca, .ref tla, .ref tta, .int tcn2])), (tca, .inl (cJ, 768, .inr (.inl tcf2))), (tla, .inl (cZ, 256, .inl tlf2)), (tta, .inl (cI, 256, .inl ttf2))] t) (va_A [(wk, .inr (4, [.ref ws6, .ref fi6, .ref ff6, .ref ga6, .int ft6, .ref ahr, .ref atr, .long mu6, .long my6, .int (nI jk), .int ct6, .int bw6, .int un6])), (fi6, .inl (cI, 94, .inl fif)), (ff6, .inl (cI, 17, .inl fff)), (ga6, .inl (cJ, 282, .inr (.inl gf))), (ahr, .inr (2, [.ref hca, .ref hla, .ref hta, .int hcn])), (hca, .inl (cJ, 768, .inr (.inl hcf))), (atr, .inr (2, [.ref tca, .ref tla, .ref tta, .int tcn])), (tca, .inl (cJ, 768, .inr (.inl tcf))), (tla, .inl (cZ, 256, .inl tlf)), (tta, .inl (cI, 256, .inl ttf))] sz)) 0 0 (va_A [(wk, .inr (4, [.ref ws6, .ref fi6, .ref ff6, .ref ga6, .int ft6, .ref ahr, .ref atr, .long mu6, .long my6, .int (nI jk), .int ct6, .int bw6, .int un6])), (fi6, .inl (cI, 94, .inl fif)), (ff6, .inl (cI, 17, .inl fff)), (ga6, .inl (cJ, 282, .inr (.inl gf))), (ahr, .inr (2, [.ref hca, .ref hla, .ref hta, .int hcn])), (hca, .inl (cJ, 768, .inr (.inl hcf))), (atr, .inr (2, [.ref tca, .ref tla, .ref tta, .int tcn])), (tca, .inl (cJ, 768, .inr (.inl tcf))), (tla, .inl (cZ, 256, .inl tlf)), (tta, .inl (cI, 256, .inl ttf))] sz) := by
  refine Met.ofW (cc := cX6_goOnFrom) (maxL := 4) (ret := none) (by decide) rfl ?_
  intro p e s m args below meth c s₁ B hml hv
  obtain ⟨hargs, hsz, hP, ⟨hK, hN⟩, hD0⟩ := hv
  have hx := B.exec
  have hb := B.bytes
  have hr := B.returns
  have hlocks := B.notSynchronized
  have hts := atoms_spec (ws := wsX6_goOnFrom) B.pre
  have hown : s.vm.findClass RX6 = some m.cls := findClass_of_methodNamed B.named
  have k18 := hts (.fieldLink RX6 18 "RummyTable$Walk" "firstFit" "[I") (by decide +kernel)
  have iX6 : ∀ w ∈ wsX60, w ∈ wsX6_goOnFrom := by decide +kernel
  have k15 := hts (.fieldLink RX6 15 "RummyTable$Walk" "fitting" "[I") (by decide +kernel)
  have k123 := hts (.methodLink RX6 123 yX5_stateAfter) (by decide +kernel)
  have k126 := hts (.methodLink RX6 126 yX6_carry) (by decide +kernel)
  have k119 := hts (.methodLink RX6 119 yX5_canContinue) (by decide +kernel)
  subst hsz
  have hD := hD0.self (sz := s.heap.size)
  generalize hAe : va_A [(wk, .inr (4, [.ref ws6, .ref fi6, .ref ff6, .ref ga6, .int ft6, .ref ahr, .ref atr, .long mu6, .long my6, .int (nI jk), .int ct6, .int bw6, .int un6])), (fi6, .inl (cI, 94, .inl fif)), (ff6, .inl (cI, 17, .inl fff)), (ga6, .inl (cJ, 282, .inr (.inl gf))), (ahr, .inr (2, [.ref hca, .ref hla, .ref hta, .int hcn])), (hca, .inl (cJ, 768, .inr (.inl hcf))), (atr, .inr (2, [.ref tca, .ref tla, .ref tta, .int tcn])), (tca, .inl (cJ, 768, .inr (.inl tcf))), (tla, .inl (cZ, 256, .inl tlf)), (tta, .inl (cI, 256, .inl ttf))] s.heap.size = A at hD ⊢
  have hA : ∀ q : Nat, s.heap.size ≤ q → A q := fun q h => by rw [← hAe]; exact Or.inr h
  have hS : va_S A s.heap s.heap [] := va_S.rf
  rw [show entryFrame m args 4 = entryFrame m ([.ref wk, .int sx] : List Value).toArray 4 from by rw [hargs]]
  have hl := lv_entry ([.ref wk, .int sx]) (n := 4) (Nat.le_of_ble_eq_true rfl)
  rw [lg_entry_eq]
  generalize (lg_sl ([.ref wk, .int sx]) ++ List.replicate (4 - (lg_sl ([.ref wk, .int sx])).length) Slot.unset).toArray = ls at hl ⊢
  have hl : lv_has ls 4 [(0, .ref wk), (1, .int sx)] := hl
  refine wQ (fun Q hQ => ?_)
  have lab2 : ∀ fuel2 : Nat, ∀ (on : Nat) (x2 : Int32) (tq1 : Int32) (c1 : Nat → Int64) (l1 : Nat → Int32) (t1 : Nat → Int32), (h2 : x2 = nI on) → (hon : on ≤ 16) → (hR : RowRep c1 l1 t1 tq1 (goF ct6 gf jk (fun j => hcf (3 * s1 + j)) s1 ft ffn on w)) → (hfu2 : 16 - on < fuel2) → ∀ (H : Heap) (locs : List Loc), va_P D vwCl [(wk, .inr (4, [.ref ws6, .ref fi6, .ref ff6, .ref ga6, .int ft6, .ref ahr, .ref atr, .long mu6, .long my6, .int (nI jk), .int ct6, .int bw6, .int un6])), (fi6, .inl (cI, 94, .inl fif)), (ff6, .inl (cI, 17, .inl fff)), (ga6, .inl (cJ, 282, .inr (.inl gf))), (ahr, .inr (2, [.ref hca, .ref hla, .ref hta, .int hcn])), (hca, .inl (cJ, 768, .inr (.inl hcf))), (atr, .inr (2, [.ref tca, .ref tla, .ref tta, .int tq1])), (tca, .inl (cJ, 768, .inr (.inl c1))), (tla, .inl (cZ, 256, .inl l1)), (tta, .inl (cI, 256, .inl t1))] H → va_D A [(wk, .inr (4, [.ref ws6, .ref fi6, .ref ff6, .ref ga6, .int ft6, .ref ahr, .ref atr, .long mu6, .long my6, .int (nI jk), .int ct6, .int bw6, .int un6])), (fi6, .inl (cI, 94, .inl fif)), (ff6, .inl (cI, 17, .inl fff)), (ga6, .inl (cJ, 282, .inr (.inl gf))), (ahr, .inr (2, [.ref hca, .ref hla, .ref hta, .int hcn])), (hca, .inl (cJ, 768, .inr (.inl hcf))), (atr, .inr (2, [.ref tca, .ref tla, .ref tta, .int tq1])), (tca, .inl (cJ, 768, .inr (.inl c1))), (tla, .inl (cZ, 256, .inl l1)), (tta, .inl (cI, 256, .inl t1))] → va_S A s.heap H locs → ∀ ls : Array Slot, lv_has ls 4 [(0, .ref wk), (1, .int sx), (2, .int x2)] → W p l e (headSpec wsX6_goOnFrom ({ frames := 3, cells := 0, slots := 0, locals := 76 } : Room)).room s m args below meth c H locs 0 0 Q (F0 m 2 ls []) := by
    intro fuel2
    induction fuel2 with
    | zero =>
      intro on x2 tq1 c1 l1 t1 h2 hon hR hfu2
      exact absurd hfu2 (Nat.not_lt_zero _)
    | succ fuel2 ih2 =>
      intro on x2 tq1 c1 l1 t1 h2 hon hR hfu2 H locs hP hD hS ls hl
      have lab23 : ∀ fuel23 : Nat, ∀ (i : Nat) (x3 : Int32) (tq1 : Int32) (c1 : Nat → Int64) (l1 : Nat → Int32) (t1 : Nat → Int32), (hol : on < 16) → (hcc : c_cc s1 on = true) → (h3 : x3 = nI (ffn on + i)) → (hi : i ≤ ffn (on + 1) - ffn on) → (hRi : RowRep c1 l1 t1 tq1 (goI ct6 gf jk (fun j => hcf (3 * s1 + j)) s1 ft (ffn on) i (goF ct6 gf jk (fun j => hcf (3 * s1 + j)) s1 ft ffn on w))) → (hfu23 : ffn (on + 1) - ffn on - i < fuel23) → ∀ (H : Heap) (locs : List Loc), va_P D vwCl [(wk, .inr (4, [.ref ws6, .ref fi6, .ref ff6, .ref ga6, .int ft6, .ref ahr, .ref atr, .long mu6, .long my6, .int (nI jk), .int ct6, .int bw6, .int un6])), (fi6, .inl (cI, 94, .inl fif)), (ff6, .inl (cI, 17, .inl fff)), (ga6, .inl (cJ, 282, .inr (.inl gf))), (ahr, .inr (2, [.ref hca, .ref hla, .ref hta, .int hcn])), (hca, .inl (cJ, 768, .inr (.inl hcf))), (atr, .inr (2, [.ref tca, .ref tla, .ref tta, .int tq1])), (tca, .inl (cJ, 768, .inr (.inl c1))), (tla, .inl (cZ, 256, .inl l1)), (tta, .inl (cI, 256, .inl t1))] H → va_D A [(wk, .inr (4, [.ref ws6, .ref fi6, .ref ff6, .ref ga6, .int ft6, .ref ahr, .ref atr, .long mu6, .long my6, .int (nI jk), .int ct6, .int bw6, .int un6])), (fi6, .inl (cI, 94, .inl fif)), (ff6, .inl (cI, 17, .inl fff)), (ga6, .inl (cJ, 282, .inr (.inl gf))), (ahr, .inr (2, [.ref hca, .ref hla, .ref hta, .int hcn])), (hca, .inl (cJ, 768, .inr (.inl hcf))), (atr, .inr (2, [.ref tca, .ref tla, .ref tta, .int tq1])), (tca, .inl (cJ, 768, .inr (.inl c1))), (tla, .inl (cZ, 256, .inl l1)), (tta, .inl (cI, 256, .inl t1))] → va_S A s.heap H locs → ∀ ls : Array Slot, lv_has ls 4 [(0, .ref wk), (1, .int sx), (2, .int x2), (3, .int x3)] → W p l e (headSpec wsX6_goOnFrom ({ frames := 3, cells := 0, slots := 0, locals := 76 } : Room)).room s m args below meth c H locs 0 0 Q (F0 m 23 ls []) := by
        intro fuel23
        induction fuel23 with
        | zero =>
          intro i x3 tq1 c1 l1 t1 hol hcc h3 hi hRi hfu23
          exact absurd hfu23 (Nat.not_lt_zero _)
        | succ fuel23 ih23 =>
          intro i x3 tq1 c1 l1 t1 hol hcc h3 hi hRi hfu23 H locs hP hD hS ls hl
          have h21 : x2 + 1 = nI (on + 1) := by rw [h2]; exact nI_1 on
          have hf1 := hff on (by omega)
          have hf2 := hff (on + 1) (by omega)
          have hfv : fff (x2 + 1).toNatClampNeg = nI (ffn (on + 1)) := by rw [h21, nI_clamp (by omega)]; exact hf2.1
          refine lv_iload_n hx hb dX6_goOnFrom_23 rfl (lv_at hl 3 rfl) ?_
          refine lv_aload_n hx hb dX6_goOnFrom_24 rfl (lv_at hl 0 rfl) ?_
          refine va_get (D := D) (ci := 4) (v := .ref ff6) (C := RX6) (T := TX6) (N := 13) hx hb hts iX6 hown hK hP 0 rfl rfl 2 (by decide) k18 (fun _ h9 => h9) rfl dX6_goOnFrom_25 ?_
          refine lv_iload_n hx hb dX6_goOnFrom_28 rfl (lv_at hl 2 rfl) ?_
          refine lv_iconst (v := 1) hx hb dX6_goOnFrom_29 (by decide) ?_
          refine lv_iadd hx hb dX6_goOnFrom_30 ?_
          refine va_iald hx hb hK hP 2 0 rfl rfl (by rw [h21]; exact vp_in_nI (by omega) (by decide)) dX6_goOnFrom_31 ?_
          refine lv_icmp_ge (tgt := 57) hx hb dX6_goOnFrom_32 (by decide) (fun c_32 => ?_) (fun c_32 => ?_)
          · have hi9 : i = ffn (on + 1) - ffn on := by rw [hfv, h3, nI_leI (by omega) (by omega)] at c_32; omega
            subst hi9
            have hRn : RowRep c1 l1 t1 tq1 (goF ct6 gf jk (fun j => hcf (3 * s1 + j)) s1 ft ffn (on + 1) w) := by rw [goF_y hcc]; exact hRi
            obtain ⟨x57, ex57⟩ : ∃ y : Int32, y = x2 + 1 := ⟨_, rfl⟩
            refine lv_iinc (v := x57) (lv' := [(2, .int x57), (0, .ref wk), (1, .int sx), (3, .int x3)]) hx hb dX6_goOnFrom_57 hl (k := 2) rfl (by rw [ex57]; rfl) (by decide) rfl (fun ls hl => ?_)
            refine lv_goto (tgt := 2) hx hb dX6_goOnFrom_60 (by decide) ?_
            exact ih2 (on + 1) x57 tq1 c1 l1 t1 (hp_s ex57 h2) (by omega) (hRn) (by omega) _ _ hP hD hS ls (lv_sub hl [1, 2, 0] rfl)
          · have hlt : ffn on + i < ffn (on + 1) := by rw [hfv, h3, nI_leI (by omega) (by omega)] at c_32; omega
            have hft := hfit (ffn on + i) (by omega)
            have hfx : fif x3.toNatClampNeg = nI (ft (ffn on + i)) := by rw [h3, nI_clamp (by omega)]; exact hft.1
            refine lv_aload_n hx hb dX6_goOnFrom_35 rfl (lv_at hl 0 rfl) ?_
            refine lv_iload_n hx hb dX6_goOnFrom_36 rfl (lv_at hl 1 rfl) ?_
            refine lv_iload_n hx hb dX6_goOnFrom_37 rfl (lv_at hl 1 rfl) ?_
            refine lv_aload_n hx hb dX6_goOnFrom_38 rfl (lv_at hl 0 rfl) ?_
            refine va_get (D := D) (ci := 4) (v := .ref fi6) (C := RX6) (T := TX6) (N := 13) hx hb hts iX6 hown hK hP 0 rfl rfl 1 (by decide) k15 (fun _ h9 => h9) rfl dX6_goOnFrom_39 ?_
            refine lv_iload_n hx hb dX6_goOnFrom_42 rfl (lv_at hl 3 rfl) ?_
            refine va_iald hx hb hK hP 1 0 rfl rfl (by rw [h3]; exact vp_in_nI (by omega) (by decide)) dX6_goOnFrom_43 ?_
            refine vp_callSi (W.runS (As := [.int sx, .int (fif x3.toNatClampNeg)]) (rest := [.int sx, .ref wk]) ⟨hx, hb, hml, hown, hts⟩ (k_X5_stateAfter l sx (fif x3.toNatClampNeg) ) (va_cwS 2 hts gX6_goOnFrom_X5_stateAfter rfl rfl rfl (by decide +kernel) ⟨Nat.le_of_ble_eq_true rfl, Nat.le_of_ble_eq_true rfl⟩) ⟨pS_fb, pS_pre⟩ rfl rfl hl.1 rfl (lv_room (Nat.le_of_ble_eq_true rfl)) dX6_goOnFrom_44 ⟨Nat.le_of_ble_eq_true rfl, Nat.le_of_ble_eq_true rfl⟩) (fun x44 hx44 => ?_)
            subst hx44
            refine lv_iload_n hx hb dX6_goOnFrom_47 rfl (lv_at hl 3 rfl) ?_
            have hPc := hP.sub (ws' := [(wk, .inr (4, [.ref ws6, .ref fi6, .ref ff6, .ref ga6, .int ft6, .ref ahr, .ref atr, .long mu6, .long my6, .int (nI jk), .int ct6, .int bw6, .int un6])), (ga6, .inl (cJ, 282, .inr (.inl gf))), (ahr, .inr (2, [.ref hca, .ref hla, .ref hta, .int hcn])), (hca, .inl (cJ, 768, .inr (.inl hcf))), (atr, .inr (2, [.ref tca, .ref tla, .ref tta, .int tq1])), (tca, .inl (cJ, 768, .inr (.inl c1))), (tla, .inl (cZ, 256, .inl l1)), (tta, .inl (cI, 256, .inl t1))]) [0, 3, 4, 5, 6, 7, 8, 9] rfl
            have hDc := hD.sub (ws' := [(wk, .inr (4, [.ref ws6, .ref fi6, .ref ff6, .ref ga6, .int ft6, .ref ahr, .ref atr, .long mu6, .long my6, .int (nI jk), .int ct6, .int bw6, .int un6])), (ga6, .inl (cJ, 282, .inr (.inl gf))), (ahr, .inr (2, [.ref hca, .ref hla, .ref hta, .int hcn])), (hca, .inl (cJ, 768, .inr (.inl hcf))), (atr, .inr (2, [.ref tca, .ref tla, .ref tta, .int tq1])), (tca, .inl (cJ, 768, .inr (.inl c1))), (tla, .inl (cZ, 256, .inl l1)), (tta, .inl (cI, 256, .inl t1))]) [0, 3, 4, 5, 6, 7, 8, 9] (by decide) rfl
            have hFc := va_free (wc := [(wk, .inr (4, [.ref ws6, .ref fi6, .ref ff6, .ref ga6, .int ft6, .ref ahr, .ref atr, .long mu6, .long my6, .int (nI jk), .int ct6, .int bw6, .int un6])), (ga6, .inl (cJ, 282, .inr (.inl gf))), (ahr, .inr (2, [.ref hca, .ref hla, .ref hta, .int hcn])), (hca, .inl (cJ, 768, .inr (.inl hcf))), (atr, .inr (2, [.ref tca, .ref tla, .ref tta, .int tq1])), (tca, .inl (cJ, 768, .inr (.inl c1))), (tla, .inl (cZ, 256, .inl l1)), (tta, .inl (cI, 256, .inl t1))]) hD hS hA [0, 3, 4, 5, 6, 7, 8, 9] rfl
            refine va_callv (va_runV (As := [.int sx, .int (j_X5_stateAfter sx (fif x3.toNatClampNeg)), .int x3]) (rest := []) ⟨hx, hb, hml, hown, hts⟩ (k_X6_carry l D cI cJ cZ H.size wk ws6 fi6 ff6 ga6 ahr atr ft6 ct6 bw6 un6 mu6 my6 hca hla hta tca tla tta hcn tq1 jk (ffn on + i) s1 (c_af s1 (ft (ffn on + i))) gf hcf c1 l1 t1 (goI ct6 gf jk (fun j => hcf (3 * s1 + j)) s1 ft (ffn on) i (goF ct6 gf jk (fun j => hcf (3 * s1 + j)) s1 ft ffn on w)) sx (j_X5_stateAfter sx (fif x3.toNatClampNeg)) x3 (hjk) (by omega) (hs1) (c_af_lt hs1) (hsx) (by rw [hfx, hsx]; exact jn_af hs1 hft.2) (h3) (hRi)) (cwV 3 hts gX6_goOnFrom_X6_carry rfl rfl rfl (by decide +kernel) ⟨Nat.le_of_ble_eq_true rfl, Nat.le_of_ble_eq_true rfl⟩) ⟨wM_fb, va_recv hK hPc (ci := 4) (q0 := 0) rfl rfl, wM_pre hPc ⟨hK, hN⟩ hDc⟩ rfl rfl hl.1 rfl (lv_room (Nat.le_of_ble_eq_true rfl)) dX6_goOnFrom_48 ⟨Nat.le_of_ble_eq_true rfl, Nat.le_of_ble_eq_true rfl⟩) hS (fun q _ h => hFc q h) hFc (fun u t H1 locs ht hvm hcy hB hz1 hk1 hS => ?_)
            obtain ⟨tcn2_cy, tcf2_cy, tlf2_cy, ttf2_cy⟩ := u
            obtain ⟨hP1, hD1⟩ := hB
            rw [ht] at hP1
            obtain ⟨hP, hD⟩ := va_join (wr := [(fi6, .inl (cI, 94, .inl fif)), (ff6, .inl (cI, 17, .inl fff))]) (w1 := [(wk, .inr (4, [.ref ws6, .ref fi6, .ref ff6, .ref ga6, .int ft6, .ref ahr, .ref atr, .long mu6, .long my6, .int (nI jk), .int ct6, .int bw6, .int un6])), (ga6, .inl (cJ, 282, .inr (.inl gf))), (ahr, .inr (2, [.ref hca, .ref hla, .ref hta, .int hcn])), (hca, .inl (cJ, 768, .inr (.inl hcf))), (atr, .inr (2, [.ref tca, .ref tla, .ref tta, .int tcn2_cy])), (tca, .inl (cJ, 768, .inr (.inl tcf2_cy))), (tla, .inl (cZ, 256, .inl tlf2_cy)), (tta, .inl (cI, 256, .inl ttf2_cy))]) hP hD [0, 3, 4, 5, 6, 7, 8, 9] [1, 2] rfl rfl (by decide) (by decide) hk1 hFc hP1 hD1
            generalize H1 = H at hP hS ⊢
            have hP : va_P D vwCl [(fi6, .inl (cI, 94, .inl fif)), (ff6, .inl (cI, 17, .inl fff)), (wk, .inr (4, [.ref ws6, .ref fi6, .ref ff6, .ref ga6, .int ft6, .ref ahr, .ref atr, .long mu6, .long my6, .int (nI jk), .int ct6, .int bw6, .int un6])), (ga6, .inl (cJ, 282, .inr (.inl gf))), (ahr, .inr (2, [.ref hca, .ref hla, .ref hta, .int hcn])), (hca, .inl (cJ, 768, .inr (.inl hcf))), (atr, .inr (2, [.ref tca, .ref tla, .ref tta, .int tcn2_cy])), (tca, .inl (cJ, 768, .inr (.inl tcf2_cy))), (tla, .inl (cZ, 256, .inl tlf2_cy)), (tta, .inl (cI, 256, .inl ttf2_cy))] H := hP
            have hD : va_D A [(fi6, .inl (cI, 94, .inl fif)), (ff6, .inl (cI, 17, .inl fff)), (wk, .inr (4, [.ref ws6, .ref fi6, .ref ff6, .ref ga6, .int ft6, .ref ahr, .ref atr, .long mu6, .long my6, .int (nI jk), .int ct6, .int bw6, .int un6])), (ga6, .inl (cJ, 282, .inr (.inl gf))), (ahr, .inr (2, [.ref hca, .ref hla, .ref hta, .int hcn])), (hca, .inl (cJ, 768, .inr (.inl hcf))), (atr, .inr (2, [.ref tca, .ref tla, .ref tta, .int tcn2_cy])), (tca, .inl (cJ, 768, .inr (.inl tcf2_cy))), (tla, .inl (cZ, 256, .inl tlf2_cy)), (tta, .inl (cI, 256, .inl ttf2_cy))] := hD
            try dsimp only at hcy
            obtain ⟨x51, ex51⟩ : ∃ y : Int32, y = x3 + 1 := ⟨_, rfl⟩
            refine lv_iinc (v := x51) (lv' := [(3, .int x51), (0, .ref wk), (1, .int sx), (2, .int x2)]) hx hb dX6_goOnFrom_51 hl (k := 3) rfl (by rw [ex51]; rfl) (by decide) rfl (fun ls hl => ?_)
            refine lv_goto (tgt := 23) hx hb dX6_goOnFrom_54 (by decide) ?_
            exact ih23 (i + 1) x51 tcn2_cy tcf2_cy tlf2_cy ttf2_cy (hol) (hcc) (by rw [ex51, h3]; exact nI_1 _) (by omega) (hcy) (by omega) _ _ (hP.sub [2, 0, 1, 3, 4, 5, 6, 7, 8, 9] rfl) (hD.sub [2, 0, 1, 3, 4, 5, 6, 7, 8, 9] (by decide) rfl) hS ls (lv_sub hl [1, 2, 3, 0] rfl)
      refine lv_iload_n hx hb dX6_goOnFrom_2 rfl (lv_at hl 2 rfl) ?_
      refine lv_bipush (v := 15) hx hb dX6_goOnFrom_3 (by decide) ?_
      refine lv_icmp_gt (tgt := 63) hx hb dX6_goOnFrom_5 (by decide) (fun c_5 => ?_) (fun c_5 => ?_)
      · have ho9 : on = 16 := by rw [h2, show (15 : Int32) = nI 15 from rfl, nI_ltI (by decide) (by omega)] at c_5; omega
        subst ho9
        rw [← hQ]
        have hP9 := hP.sub (ws' := [(wk, .inr (4, [.ref ws6, .ref fi6, .ref ff6, .ref ga6, .int ft6, .ref ahr, .ref atr, .long mu6, .long my6, .int (nI jk), .int ct6, .int bw6, .int un6])), (fi6, .inl (cI, 94, .inl fif)), (ff6, .inl (cI, 17, .inl fff)), (ga6, .inl (cJ, 282, .inr (.inl gf))), (ahr, .inr (2, [.ref hca, .ref hla, .ref hta, .int hcn])), (hca, .inl (cJ, 768, .inr (.inl hcf))), (atr, .inr (2, [.ref tca, .ref tla, .ref tta, .int tq1])), (tca, .inl (cJ, 768, .inr (.inl c1))), (tla, .inl (cZ, 256, .inl l1)), (tta, .inl (cI, 256, .inl t1))]) [0, 1, 2, 3, 4, 5, 6, 7, 8, 9] rfl
        have hD9 := hD.sub (ws' := [(wk, .inr (4, [.ref ws6, .ref fi6, .ref ff6, .ref ga6, .int ft6, .ref ahr, .ref atr, .long mu6, .long my6, .int (nI jk), .int ct6, .int bw6, .int un6])), (fi6, .inl (cI, 94, .inl fif)), (ff6, .inl (cI, 17, .inl fff)), (ga6, .inl (cJ, 282, .inr (.inl gf))), (ahr, .inr (2, [.ref hca, .ref hla, .ref hta, .int hcn])), (hca, .inl (cJ, 768, .inr (.inl hcf))), (atr, .inr (2, [.ref tca, .ref tla, .ref tta, .int tq1])), (tca, .inl (cJ, 768, .inr (.inl c1))), (tla, .inl (cZ, 256, .inl l1)), (tta, .inl (cI, 256, .inl t1))]) [0, 1, 2, 3, 4, 5, 6, 7, 8, 9] (by decide) rfl
        exact W.vret hx hb hr (fun t ht hW => ⟨⟨(tq1, c1, l1, t1), rfl, hR, (by show wB D A _ t; exact ⟨by rw [ht]; exact hP9, hD9⟩)⟩, hS.F ht⟩) hS.2.2 dX6_goOnFrom_63
      · have hol : on < 16 := by rw [h2, show (15 : Int32) = nI 15 from rfl, nI_ltI (by decide) (by omega)] at c_5; omega
        refine lv_iload_n hx hb dX6_goOnFrom_8 rfl (lv_at hl 1 rfl) ?_
        refine lv_iload_n hx hb dX6_goOnFrom_9 rfl (lv_at hl 2 rfl) ?_
        refine vp_callSi (W.runS (As := [.int sx, .int x2]) (rest := []) ⟨hx, hb, hml, hown, hts⟩ (k_X5_canContinue l sx x2 ) (va_cwS 2 hts gX6_goOnFrom_X5_canContinue rfl rfl rfl (by decide +kernel) ⟨Nat.le_of_ble_eq_true rfl, Nat.le_of_ble_eq_true rfl⟩) ⟨pS_fb, pS_pre⟩ rfl rfl hl.1 rfl (lv_room (Nat.le_of_ble_eq_true rfl)) dX6_goOnFrom_10 ⟨Nat.le_of_ble_eq_true rfl, Nat.le_of_ble_eq_true rfl⟩) (fun x10 hx10 => ?_)
        subst hx10
        refine lv_if_eq (tgt := 57) hx hb dX6_goOnFrom_13 (by decide) (fun c_13 => ?_) (fun c_13 => ?_)
        · have hRn : RowRep c1 l1 t1 tq1 (goF ct6 gf jk (fun j => hcf (3 * s1 + j)) s1 ft ffn (on + 1) w) := by rw [goF_n (cc_f hsx h2 hs1 hol c_13)]; exact hR
          obtain ⟨x57, ex57⟩ : ∃ y : Int32, y = x2 + 1 := ⟨_, rfl⟩
          refine lv_iinc (v := x57) (lv' := [(2, .int x57), (0, .ref wk), (1, .int sx)]) hx hb dX6_goOnFrom_57 hl (k := 2) rfl (by rw [ex57]; rfl) (by decide) rfl (fun ls hl => ?_)
          refine lv_goto (tgt := 2) hx hb dX6_goOnFrom_60 (by decide) ?_
          exact ih2 (on + 1) x57 tq1 c1 l1 t1 (hp_s ex57 h2) (by omega) (hRn) (by omega) _ _ hP hD hS ls (lv_sub hl [1, 2, 0] rfl)
        · have hcc := cc_t hsx h2 hs1 hol c_13
          have hin2 : vp_in x2 17 := by rw [h2]; exact vp_in_nI (by omega) (by decide)
          refine lv_aload_n hx hb dX6_goOnFrom_16 rfl (lv_at hl 0 rfl) ?_
          refine va_get (D := D) (ci := 4) (v := .ref ff6) (C := RX6) (T := TX6) (N := 13) hx hb hts iX6 hown hK hP 0 rfl rfl 2 (by decide) k18 (fun _ h9 => h9) rfl dX6_goOnFrom_17 ?_
          refine lv_iload_n hx hb dX6_goOnFrom_20 rfl (lv_at hl 2 rfl) ?_
          refine va_iald hx hb hK hP 2 0 rfl rfl (hin2) dX6_goOnFrom_21 ?_
          refine lv_topi (fun x22 ex22 => ?_)
          refine lv_istore_n (lv' := [(3, .int x22), (0, .ref wk), (1, .int sx), (2, .int x2)]) hx hb dX6_goOnFrom_22 rfl hl (by decide) rfl (fun ls hl => ?_)
          exact lab23 _ 0 x22 tq1 c1 l1 t1 (hol) (hcc) (by rw [ex22, h2, nI_clamp (by omega)]; exact (hff on (by omega)).1) (by omega) (hR) (Nat.lt_succ_self _) _ _ hP hD hS ls (lv_sub hl [1, 2, 3, 0] rfl)
  refine lv_iconst (v := 0) hx hb dX6_goOnFrom_0 (by decide) ?_
  refine lv_istore_n (lv' := [(2, .int 0), (0, .ref wk), (1, .int sx)]) hx hb dX6_goOnFrom_1 rfl hl (by decide) rfl (fun ls hl => ?_)
  exact lab2 _ 0 0 tcn tcf tlf ttf (nI_0.symm) (by omega) (hrow) (Nat.lt_succ_self _) _ _ hP hD hS ls (lv_sub hl [1, 2, 0] rfl)
