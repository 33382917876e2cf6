def cyV (ct : Int32) (old val g : Int64) : Int64 := if ct = 0 then (if val + g < old then old else val + g) else old + val
/-- one value carried on with 0, 1 .. jokers more -/
def cyI (ct : Int32) (g : Nat → Int64) (u n : Nat) (val : Int64) : Nat → (Nat → Nat → Int64) → (Nat → Nat → Int64)
  | 0, w => w
  | m + 1, w => if g m < 0 then cyI ct g u n val m w else up2 (cyI ct g u n val m w) n (u + m) (cyV ct (cyI ct g u n val m w n (u + m)) val (g m))
/-- all values of a state carried on by one step -/
def cyO (ct : Int32) (g : Nat → Int64) (jk : Nat) (hv : Nat → Int64) (n : Nat) : Nat → (Nat → Nat → Int64) → (Nat → Nat → Int64)
  | 0, w => w
  | u + 1, w => if hv u = 0 then cyO ct g jk hv n u w else cyI ct g u n (hv u) (jk + 1 - u) (cyO ct g jk hv n u w)
theorem row_val {cf : Nat → Int64} {lf tf : Nat → Int32} {cn : Int32} {v : Nat → Nat → Int64} {s u : Nat} (h : RowRep cf lf tf cn v) (hs : s < 256) (hu : u < 3) : cf (3 * s + u) = v s u := by
  obtain ⟨n, q, _, _, _, _, _, h6⟩ := h
  exact h6 s u hs hu
theorem cyO_z {ct : Int32} {g : Nat → Int64} {jk n u : Nat} {hv : Nat → Int64} {w : Nat → Nat → Int64} (h : hv u = 0) : cyO ct g jk hv n (u + 1) w = cyO ct g jk hv n u w := by
  show (if _ then _ else _) = _
  rw [if_pos h]
theorem cyO_n {ct : Int32} {g : Nat → Int64} {jk n u : Nat} {hv : Nat → Int64} {w : Nat → Nat → Int64} (h : ¬ hv u = 0) : cyO ct g jk hv n (u + 1) w = cyI ct g u n (hv u) (jk + 1 - u) (cyO ct g jk hv n u w) := by
  show (if _ then _ else _) = _
  rw [if_neg h]
theorem cyI_z {ct : Int32} {g : Nat → Int64} {u n m : Nat} {val : Int64} {w : Nat → Nat → Int64} (h : g m < 0) : cyI ct g u n val (m + 1) w = cyI ct g u n val m w := by
  show (if _ then _ else _) = _
  rw [if_pos h]
theorem cyI_n {ct : Int32} {g : Nat → Int64} {u n m : Nat} {val : Int64} {w : Nat → Nat → Int64} (h : ¬ g m < 0) : cyI ct g u n val (m + 1) w = up2 (cyI ct g u n val m w) n (u + m) (cyV ct (cyI ct g u n val m w n (u + m)) val (g m)) := by
  show (if _ then _ else _) = _
  rw [if_neg h]
set_option maxHeartbeats 4000000 in
set_option maxRecDepth 100000 in
theorem k_X6_carry (l : Launch) (D : va_G) (cI cJ cZ : ClassId) (sz : Nat) (wk ws6 fi6 ff6 ga6 ahr atr : Nat) (ft6 ct6 bw6 un6 : Int32) (mu6 my6 : Int64) (hca hla hta tca tla tta : Nat) (hcn tcn : Int32) (jk f0 s1 n0 : Nat) (gf hcf tcf : Nat → Int64) (tlf ttf : Nat → Int32) (w : Nat → Nat → Int64) (sx nx fx : Int32) (hjk : jk ≤ 2) (hf0 : f0 < 94) (hs1 : s1 < 256) (hn0 : n0 < 256) (hsx : sx = nI s1) (hnx : nx = nI n0) (hfx : fx = nI f0) (hrow : RowRep tcf tlf ttf tcn w) : Met l yX6_carry wsX6_carry ({ frames := 2, cells := 0, slots := 0, locals := 45 } : Room) (va_Pc [.ref wk, .int sx, .int nx, .int fx] (wM D cI cJ cZ sz [(wk, .inr (4, [.ref ws6, .ref fi6, .ref ff6, .ref ga6, .int ft6, .ref ahr, .ref atr, .long mu6, .long my6, .int (nI jk), .int ct6, .int bw6, .int un6])), (ga6, .inl (cJ, 282, .inr (.inl gf))), (ahr, .inr (2, [.ref hca, .ref hla, .ref hta, .int hcn])), (hca, .inl (cJ, 768, .inr (.inl hcf))), (atr, .inr (2, [.ref tca, .ref tla, .ref tta, .int tcn])), (tca, .inl (cJ, 768, .inr (.inl tcf))), (tla, .inl (cZ, 256, .inl tlf)), (tta, .inl (cI, 256, .inl ttf))])) (va_Qv (fun (u : (Int32) × (Nat → Int64) × (Nat → Int32) × (Nat → Int32)) => match u with | (tcn2, tcf2, tlf2, ttf2) => (RowRep tcf2 tlf2 ttf2 tcn2 (cyO ct6 (fun j => gf (3 * f0 + j)) jk (fun j => hcf (3 * s1 + j)) n0 (jk + 1) w))) (fun (u : (Int32) × (Nat → Int64) × (Nat → Int32) × (Nat → Int32)) t => match u with | (tcn2, tcf2, tlf2, ttf2) => wB D (va_A [(wk, .inr (4, [.ref ws6, .ref fi6, .ref ff6, .ref ga6, .int ft6, .ref ahr, .ref atr, .long mu6, .long my6, .int (nI jk), .int ct6, .int bw6, .int un6])), (ga6, .inl (cJ, 282, .inr (.inl gf))), (ahr, .inr (2, [.ref hca, .ref hla, .ref hta, .int hcn])), (hca, .inl (cJ, 768, .inr (.inl hcf))), (atr, .inr (2, [.ref tca, .ref tla, .ref tta, .int tcn])), (tca, .inl (cJ, 768, .inr (.inl tcf))), (tla, .inl (cZ, 256, .inl tlf)), (tta, .inl (cI, 256, .inl ttf))] sz) [(wk, .inr (4, [.ref ws6, .ref fi6, .ref ff6, .ref ga6, .int ft6, .ref ahr, .ref atr, .long mu6, .long my6, .int (nI jk), .int ct6, .int bw6, .int un6])), (ga6, .inl (cJ, 282, .inr (.inl gf))), (ahr, .inr (2, [.ref hca, .ref hla, .ref hta, .int hcn])), (hca, .inl (cJ, 768, .inr (.inl hcf))), (atr, .inr (2, [.ref tca, .ref tla, .ref tta, .int tcn2])), (tca, .inl (cJ, 768, .inr (.inl tcf2))), (tla, .inl (cZ, 256, .inl tlf2)), (tta, .inl (cI, 256, .inl ttf2))] t) (va_A [(wk, .inr (4, [.ref ws6, .ref fi6, .ref ff6, .ref ga6, .int ft6, .ref ahr, .ref atr, .long mu6, .long my6, .int (nI jk), .int ct6, .int bw6, .int un6])), (ga6, .inl (cJ, 282, .inr (.inl gf))), (ahr, .inr (2, [.ref hca, .ref hla, .ref hta, .int hcn])), (hca, .inl (cJ, 768, .inr (.inl hcf))), (atr, .inr (2, [.ref tca, .ref tla, .ref tta, .int tcn])), (tca, .inl (cJ, 768, .inr (.inl tcf))), (tla, .inl (cZ, 256, .inl tlf)), (tta, .inl (cI, 256, .inl ttf))] sz)) 0 0 (va_A [(wk, .inr (4, [.ref ws6, .ref fi6, .ref ff6, .ref ga6, .int ft6, .ref ahr, .ref atr, .long mu6, .long my6, .int (nI jk), .int ct6, .int bw6, .int un6])), (ga6, .inl (cJ, 282, .inr (.inl gf))), (ahr, .inr (2, [.ref hca, .ref hla, .ref hta, .int hcn])), (hca, .inl (cJ, 768, .inr (.inl hcf))), (atr, .inr (2, [.ref tca, .ref tla, .ref tta, .int tcn])), (tca, .inl (cJ, 768, .inr (.inl tcf))), (tla, .inl (cZ, 256, .inl tlf)), (tta, .inl (cI, 256, .inl ttf))] sz) := by
  refine Met.ofW (cc := cX6_carry) (maxL := 12) (ret := none) (by decide) rfl ?_
  intro p e s m args below meth c s₁ B hml hv
  obtain ⟨hargs, hsz, hP, ⟨hK, hN⟩, hD0⟩ := hv
  have hx := B.exec
  have hb := B.bytes
  have hr := B.returns
  have hlocks := B.notSynchronized
  have hts := atoms_spec (ws := wsX6_carry) B.pre
  have hown : s.vm.findClass RX6 = some m.cls := findClass_of_methodNamed B.named
  have k103 := hts (.fieldLink RX6 103 "RummyTable$Walk" "jokers" "I") (by decide +kernel)
  have iX6 : ∀ w ∈ wsX60, w ∈ wsX6_carry := by decide +kernel
  have k21 := hts (.fieldLink RX6 21 "RummyTable$Walk" "gains" "[J") (by decide +kernel)
  have k32 := hts (.fieldLink RX6 32 "RummyTable$Walk" "there" "LRummyTable$Row;") (by decide +kernel)
  have k73 := hts (.methodLink RX6 73 yX3_at) (by decide +kernel)
  have k48 := hts (.fieldLink RX6 48 "RummyTable$Walk" "counting" "Z") (by decide +kernel)
  have k99 := hts (.methodLink RX6 99 Lib.MathLoose.max_long.x) (by decide +kernel)
  have s_va_mmax_long := hts (.static Lib.MathLoose.max_long.x) (by decide +kernel)
  have i_math := hts (.initialized "java/lang/Math") (by decide +kernel)
  have c_va_mmax_long := hts (.code Lib.MathLoose.max_long.x Lib.MathLoose.max_long.code 4 (some .long)) (by decide +kernel)
  have k109 := hts (.methodLink RX6 109 yX3_put) (by decide +kernel)
  have k28 := hts (.fieldLink RX6 28 "RummyTable$Walk" "here" "LRummyTable$Row;") (by decide +kernel)
  subst hsz
  have hD := hD0.self (sz := s.heap.size)
  generalize hAe : va_A [(wk, .inr (4, [.ref ws6, .ref fi6, .ref ff6, .ref ga6, .int ft6, .ref ahr, .ref atr, .long mu6, .long my6, .int (nI jk), .int ct6, .int bw6, .int un6])), (ga6, .inl (cJ, 282, .inr (.inl gf))), (ahr, .inr (2, [.ref hca, .ref hla, .ref hta, .int hcn])), (hca, .inl (cJ, 768, .inr (.inl hcf))), (atr, .inr (2, [.ref tca, .ref tla, .ref tta, .int tcn])), (tca, .inl (cJ, 768, .inr (.inl tcf))), (tla, .inl (cZ, 256, .inl tlf)), (tta, .inl (cI, 256, .inl ttf))] s.heap.size = A at hD ⊢
  have hA : ∀ q : Nat, s.heap.size ≤ q → A q := fun q h => by rw [← hAe]; exact Or.inr h
  have hS : va_S A s.heap s.heap [] := va_S.rf
  rw [show entryFrame m args 12 = entryFrame m ([.ref wk, .int sx, .int nx, .int fx] : List Value).toArray 12 from by rw [hargs]]
  have hl := lv_entry ([.ref wk, .int sx, .int nx, .int fx]) (n := 12) (Nat.le_of_ble_eq_true rfl)
  rw [lg_entry_eq]
  generalize (lg_sl ([.ref wk, .int sx, .int nx, .int fx]) ++ List.replicate (12 - (lg_sl ([.ref wk, .int sx, .int nx, .int fx])).length) Slot.unset).toArray = ls at hl ⊢
  have hl : lv_has ls 12 [(0, .ref wk), (1, .int sx), (2, .int nx), (3, .int fx)] := hl
  refine wQ (fun Q hQ => ?_)
  have lab3 : ∀ fuel3 : Nat, ∀ (u : Nat) (x4 : Int32) (tq1 : Int32) (c1 : Nat → Int64) (l1 : Nat → Int32) (t1 : Nat → Int32), (h4 : x4 = nI u) → (hu : u ≤ jk + 1) → (hR : RowRep c1 l1 t1 tq1 (cyO ct6 (fun j => gf (3 * f0 + j)) jk (fun j => hcf (3 * s1 + j)) n0 u w)) → (hfu3 : jk + 1 - u < fuel3) → ∀ (H : Heap) (locs : List Loc), va_P D vwCl [(wk, .inr (4, [.ref ws6, .ref fi6, .ref ff6, .ref ga6, .int ft6, .ref ahr, .ref atr, .long mu6, .long my6, .int (nI jk), .int ct6, .int bw6, .int un6])), (ga6, .inl (cJ, 282, .inr (.inl gf))), (ahr, .inr (2, [.ref hca, .ref hla, .ref hta, .int hcn])), (hca, .inl (cJ, 768, .inr (.inl hcf))), (atr, .inr (2, [.ref tca, .ref tla, .ref tta, .int tq1])), (tca, .inl (cJ, 768, .inr (.inl c1))), (tla, .inl (cZ, 256, .inl l1)), (tta, .inl (cI, 256, .inl t1))] H → va_D A [(wk, .inr (4, [.ref ws6, .ref fi6, .ref ff6, .ref ga6, .int ft6, .ref ahr, .ref atr, .long mu6, .long my6, .int (nI jk), .int ct6, .int bw6, .int un6])), (ga6, .inl (cJ, 282, .inr (.inl gf))), (ahr, .inr (2, [.ref hca, .ref hla, .ref hta, .int hcn])), (hca, .inl (cJ, 768, .inr (.inl hcf))), (atr, .inr (2, [.ref tca, .ref tla, .ref tta, .int tq1])), (tca, .inl (cJ, 768, .inr (.inl c1))), (tla, .inl (cZ, 256, .inl l1)), (tta, .inl (cI, 256, .inl t1))] → va_S A s.heap H locs → ∀ ls : Array Slot, lv_has ls 12 [(0, .ref wk), (1, .int sx), (2, .int nx), (3, .int fx), (4, .int x4)] → W p l e (headSpec wsX6_carry ({ frames := 2, cells := 0, slots := 0, locals := 45 } : Room)).room s m args below meth c H locs 0 0 Q (F0 m 3 ls []) := by
    intro fuel3
    induction fuel3 with
    | zero =>
      intro u x4 tq1 c1 l1 t1 h4 hu hR hfu3
      exact absurd hfu3 (Nat.not_lt_zero _)
    | succ fuel3 ih3 =>
      intro u x4 tq1 c1 l1 t1 h4 hu hR hfu3 H locs hP hD hS ls hl
      have lab27 : ∀ fuel27 : Nat, ∀ (m1 : Nat) (va : Int64) (x7 : Int32) (tq1 : Int32) (c1 : Nat → Int64) (l1 : Nat → Int32) (t1 : Nat → Int32), (hul : u ≤ jk) → (hva : va = hcf (3 * s1 + u)) → (h7 : x7 = nI m1) → (hm1 : m1 ≤ jk + 1 - u) → (hmz : 0 < m1 → ¬ va = 0) → (hRi : RowRep c1 l1 t1 tq1 (cyI ct6 (fun j => gf (3 * f0 + j)) u n0 va m1 (cyO ct6 (fun j => gf (3 * f0 + j)) jk (fun j => hcf (3 * s1 + j)) n0 u w))) → (hfu27 : jk + 1 - u - m1 < fuel27) → ∀ (H : Heap) (locs : List Loc), va_P D vwCl [(wk, .inr (4, [.ref ws6, .ref fi6, .ref ff6, .ref ga6, .int ft6, .ref ahr, .ref atr, .long mu6, .long my6, .int (nI jk), .int ct6, .int bw6, .int un6])), (ga6, .inl (cJ, 282, .inr (.inl gf))), (ahr, .inr (2, [.ref hca, .ref hla, .ref hta, .int hcn])), (hca, .inl (cJ, 768, .inr (.inl hcf))), (atr, .inr (2, [.ref tca, .ref tla, .ref tta, .int tq1])), (tca, .inl (cJ, 768, .inr (.inl c1))), (tla, .inl (cZ, 256, .inl l1)), (tta, .inl (cI, 256, .inl t1))] H → va_D A [(wk, .inr (4, [.ref ws6, .ref fi6, .ref ff6, .ref ga6, .int ft6, .ref ahr, .ref atr, .long mu6, .long my6, .int (nI jk), .int ct6, .int bw6, .int un6])), (ga6, .inl (cJ, 282, .inr (.inl gf))), (ahr, .inr (2, [.ref hca, .ref hla, .ref hta, .int hcn])), (hca, .inl (cJ, 768, .inr (.inl hcf))), (atr, .inr (2, [.ref tca, .ref tla, .ref tta, .int tq1])), (tca, .inl (cJ, 768, .inr (.inl c1))), (tla, .inl (cZ, 256, .inl l1)), (tta, .inl (cI, 256, .inl t1))] → va_S A s.heap H locs → ∀ ls : Array Slot, lv_has ls 12 [(0, .ref wk), (1, .int sx), (2, .int nx), (3, .int fx), (4, .int x4), (5, .long va), (7, .int x7)] → W p l e (headSpec wsX6_carry ({ frames := 2, cells := 0, slots := 0, locals := 45 } : Room)).room s m args below meth c H locs 0 0 Q (F0 m 27 ls []) := by
        intro fuel27
        induction fuel27 with
        | zero =>
          intro m1 va x7 tq1 c1 l1 t1 hul hva h7 hm1 hmz hRi hfu27
          exact absurd hfu27 (Nat.not_lt_zero _)
        | succ fuel27 ih27 =>
          intro m1 va x7 tq1 c1 l1 t1 hul hva h7 hm1 hmz hRi hfu27 H locs hP hD hS ls hl
          refine lv_lload hx hb dX6_carry_27 (lv_at hl 5 rfl) ?_
          refine lv_lconst (v := 0) hx hb dX6_carry_29 (by decide) ?_
          refine W.lcmp hx hb dX6_carry_30 ?_
          refine lv_if_eq (tgt := 125) hx hb dX6_carry_31 (by decide) (fun c_31 => ?_) (fun c_31 => ?_)
          · have hv0 : va = 0 := cmp_eq.mp c_31
            have hm0 : m1 = 0 := by rcases Nat.eq_zero_or_pos m1 with z | z; exact z; exact absurd hv0 (hmz z)
            subst hm0
            have hRn : RowRep c1 l1 t1 tq1 (cyO ct6 (fun j => gf (3 * f0 + j)) jk (fun j => hcf (3 * s1 + j)) n0 (u + 1) w) := by rw [cyO_z (hv := fun j => hcf (3 * s1 + j)) (u := u) (show (fun j => hcf (3 * s1 + j)) u = 0 from hva.symm.trans hv0)]; exact hRi
            obtain ⟨x125, ex125⟩ : ∃ y : Int32, y = x4 + 1 := ⟨_, rfl⟩
            refine lv_iinc (v := x125) (lv' := [(4, .int x125), (0, .ref wk), (1, .int sx), (2, .int nx), (3, .int fx), (5, .long va), (7, .int x7)]) hx hb dX6_carry_125 hl (k := 4) rfl (by rw [ex125]; rfl) (by decide) rfl (fun ls hl => ?_)
            refine lv_goto (tgt := 3) hx hb dX6_carry_128 (by decide) ?_
            exact ih3 (u + 1) x125 tq1 c1 l1 t1 (hp_s ex125 h4) (by omega) (hRn) (by omega) _ _ hP hD hS ls (lv_sub hl [1, 2, 3, 4, 0] rfl)
          · have hvz : ¬ va = 0 := fun z => c_31 (cmp_eq.mpr z)
            have h47 : x4 + x7 = nI (u + m1) := by rw [h4, h7, nI_add]
            refine lv_iload hx hb dX6_carry_34 (lv_at hl 4 rfl) ?_
            refine lv_iload hx hb dX6_carry_36 (lv_at hl 6 rfl) ?_
            refine lv_iadd hx hb dX6_carry_38 ?_
            refine lv_aload_n hx hb dX6_carry_39 rfl (lv_at hl 0 rfl) ?_
            refine va_get (D := D) (ci := 4) (v := .int (nI jk)) (C := RX6) (T := TX6) (N := 13) hx hb hts iX6 hown hK hP 0 rfl rfl 9 (by decide) k103 (fun _ h9 => h9) rfl dX6_carry_40 ?_
            refine lv_icmp_gt (tgt := 125) hx hb dX6_carry_43 (by decide) (fun c_43 => ?_) (fun c_43 => ?_)
            · have hm9 : m1 = jk + 1 - u := by rw [h47, nI_ltI (by omega) (by omega)] at c_43; omega
              subst hm9
              have hRn : RowRep c1 l1 t1 tq1 (cyO ct6 (fun j => gf (3 * f0 + j)) jk (fun j => hcf (3 * s1 + j)) n0 (u + 1) w) := by rw [cyO_n (hv := fun j => hcf (3 * s1 + j)) (u := u) (show ¬ (fun j => hcf (3 * s1 + j)) u = 0 from fun z => hvz (hva.trans z))]; rw [hva] at hRi; exact hRi
              obtain ⟨x125, ex125⟩ : ∃ y : Int32, y = x4 + 1 := ⟨_, rfl⟩
              refine lv_iinc (v := x125) (lv' := [(4, .int x125), (0, .ref wk), (1, .int sx), (2, .int nx), (3, .int fx), (5, .long va), (7, .int x7)]) hx hb dX6_carry_125 hl (k := 4) rfl (by rw [ex125]; rfl) (by decide) rfl (fun ls hl => ?_)
              refine lv_goto (tgt := 3) hx hb dX6_carry_128 (by decide) ?_
              exact ih3 (u + 1) x125 tq1 c1 l1 t1 (hp_s ex125 h4) (by omega) (hRn) (by omega) _ _ hP hD hS ls (lv_sub hl [1, 2, 3, 4, 0] rfl)
            · have hml2 : u + m1 ≤ jk := by rw [h47, nI_ltI (by omega) (by omega)] at c_43; omega
              have hgi : fx * 3 + x7 = nI (3 * f0 + m1) := by rw [hfx, h7, show (3 : Int32) = nI 3 from rfl, pk_mul, nI_add, Nat.mul_comm]
              refine lv_aload_n hx hb dX6_carry_46 rfl (lv_at hl 0 rfl) ?_
              refine va_get (D := D) (ci := 4) (v := .ref ga6) (C := RX6) (T := TX6) (N := 13) hx hb hts iX6 hown hK hP 0 rfl rfl 3 (by decide) k21 (fun _ h9 => h9) rfl dX6_carry_47 ?_
              refine lv_iload_n hx hb dX6_carry_50 rfl (lv_at hl 3 rfl) ?_
              refine lv_iconst (v := 3) hx hb dX6_carry_51 (by decide) ?_
              refine lv_imul hx hb dX6_carry_52 ?_
              refine lv_iload hx hb dX6_carry_53 (lv_at hl 6 rfl) ?_
              refine lv_iadd hx hb dX6_carry_55 ?_
              refine va_lald hx hb hK hP 1 1 rfl rfl (by rw [hgi]; exact vp_in_nI (by omega) (by decide)) dX6_carry_56 ?_
              refine lv_topl (fun x57 ex57 => ?_)
              refine lv_lstore (lv' := [(8, .long x57), (0, .ref wk), (1, .int sx), (2, .int nx), (3, .int fx), (4, .int x4), (5, .long va), (7, .int x7)]) hx hb dX6_carry_57 hl (by decide) rfl (fun ls hl => ?_)
              have h57 : x57 = gf (3 * f0 + m1) := by rw [ex57, hgi, nI_clamp (by omega)]
              refine lv_lload hx hb dX6_carry_59 (lv_at hl 0 rfl) ?_
              refine lv_lconst (v := 0) hx hb dX6_carry_61 (by decide) ?_
              refine W.lcmp hx hb dX6_carry_62 ?_
              refine lv_if_lt (tgt := 119) hx hb dX6_carry_63 (by decide) (fun c_63 => ?_) (fun c_63 => ?_)
              · have hRs : RowRep c1 l1 t1 tq1 (cyI ct6 (fun j => gf (3 * f0 + j)) u n0 va (m1 + 1) (cyO ct6 (fun j => gf (3 * f0 + j)) jk (fun j => hcf (3 * s1 + j)) n0 u w)) := by rw [cyI_z (g := fun j => gf (3 * f0 + j)) (m := m1) (show (fun j => gf (3 * f0 + j)) m1 < 0 from by show gf (3 * f0 + m1) < 0; rw [← h57]; exact cmp_lt.mp c_63)]; exact hRi
                obtain ⟨x119, ex119⟩ : ∃ y : Int32, y = x7 + 1 := ⟨_, rfl⟩
                refine lv_iinc (v := x119) (lv' := [(7, .int x119), (8, .long x57), (0, .ref wk), (1, .int sx), (2, .int nx), (3, .int fx), (4, .int x4), (5, .long va)]) hx hb dX6_carry_119 hl (k := 7) rfl (by rw [ex119]; rfl) (by decide) rfl (fun ls hl => ?_)
                refine lv_goto (tgt := 27) hx hb dX6_carry_122 (by decide) ?_
                exact ih27 (m1 + 1) va x119 tq1 c1 l1 t1 (hul) (hva) (hp_s ex119 h7) (by omega) (fun _ => hvz) (hRs) (by omega) _ _ hP hD hS ls (lv_sub hl [2, 3, 4, 5, 6, 7, 0] rfl)
              · have hgn : ¬ (fun j => gf (3 * f0 + j)) m1 < 0 := fun z => c_63 (cmp_lt.mpr (by rw [h57]; exact z))
                refine lv_aload_n hx hb dX6_carry_66 rfl (lv_at hl 1 rfl) ?_
                refine va_get (D := D) (ci := 4) (v := .ref atr) (C := RX6) (T := TX6) (N := 13) hx hb hts iX6 hown hK hP 0 rfl rfl 6 (by decide) k32 (fun _ h9 => h9) rfl dX6_carry_67 ?_
                refine lv_iload_n hx hb dX6_carry_70 rfl (lv_at hl 3 rfl) ?_
                refine lv_iload hx hb dX6_carry_71 (lv_at hl 5 rfl) ?_
                refine lv_iload hx hb dX6_carry_73 (lv_at hl 7 rfl) ?_
                refine lv_iadd hx hb dX6_carry_75 ?_
                have hPc := hP.sub (ws' := [(atr, .inr (2, [.ref tca, .ref tla, .ref tta, .int tq1])), (tca, .inl (cJ, 768, .inr (.inl c1)))]) [4, 5] rfl
                refine vp_callSl (W.runV (As := [.int nx, .int (x4 + x7)]) (rest := []) ⟨hx, hb, hml, hown, hts⟩ (k_X3_at l D cI cJ cZ atr tca tla tta tq1 c1 nx (x4 + x7) ) (cwV 2 hts gX6_carry_X3_at rfl rfl rfl (by decide +kernel) ⟨Nat.le_of_ble_eq_true rfl, Nat.le_of_ble_eq_true rfl⟩) ⟨wR_fb, va_recv hK hPc (ci := 2) (q0 := 0) rfl rfl, wR_pre hPc ⟨hK, hN⟩⟩ rfl rfl hl.1 rfl (lv_room (Nat.le_of_ble_eq_true rfl)) dX6_carry_76 ⟨Nat.le_of_ble_eq_true rfl, Nat.le_of_ble_eq_true rfl⟩) (fun x76 hx76 => ?_)
                subst hx76
                refine lv_topl (fun x79 ex79 => ?_)
                refine lv_lstore (lv' := [(10, .long x79), (8, .long x57), (0, .ref wk), (1, .int sx), (2, .int nx), (3, .int fx), (4, .int x4), (5, .long va), (7, .int x7)]) hx hb dX6_carry_79 hl (by decide) rfl (fun ls hl => ?_)
                have h79 : x79 = (cyI ct6 (fun j => gf (3 * f0 + j)) u n0 va m1 (cyO ct6 (fun j => gf (3 * f0 + j)) jk (fun j => hcf (3 * s1 + j)) n0 u w)) n0 (u + m1) := by rw [ex79, j_at_ok hnx h47 hn0 (by omega)]; exact row_val hRi hn0 (by omega)
                refine lv_aload_n hx hb dX6_carry_81 rfl (lv_at hl 2 rfl) ?_
                refine va_get (D := D) (ci := 4) (v := .ref atr) (C := RX6) (T := TX6) (N := 13) hx hb hts iX6 hown hK hP 0 rfl rfl 6 (by decide) k32 (fun _ h9 => h9) rfl dX6_carry_82 ?_
                refine lv_iload_n hx hb dX6_carry_85 rfl (lv_at hl 4 rfl) ?_
                refine lv_iload hx hb dX6_carry_86 (lv_at hl 6 rfl) ?_
                refine lv_iload hx hb dX6_carry_88 (lv_at hl 8 rfl) ?_
                refine lv_iadd hx hb dX6_carry_90 ?_
                refine lv_aload_n hx hb dX6_carry_91 rfl (lv_at hl 2 rfl) ?_
                refine va_get (D := D) (ci := 4) (v := .int ct6) (C := RX6) (T := TX6) (N := 13) hx hb hts iX6 hown hK hP 0 rfl rfl 10 (by decide) k48 (fun _ h9 => h9) rfl dX6_carry_92 ?_
                refine lv_if_eq (tgt := 106) hx hb dX6_carry_95 (by decide) (fun c_95 => ?_) (fun c_95 => ?_)
                · refine lv_lload hx hb dX6_carry_106 (lv_at hl 0 rfl) ?_
                  refine lv_lload hx hb dX6_carry_108 (lv_at hl 7 rfl) ?_
                  refine lv_lload hx hb dX6_carry_110 (lv_at hl 1 rfl) ?_
                  refine lv_ladd hx hb dX6_carry_112 ?_
                  refine va_mmax_long hx hb (hml.trans hl.1.symm) hown k99 s_va_mmax_long i_math c_va_mmax_long (Nat.le_of_ble_eq_true rfl) (Nat.le_of_ble_eq_true rfl) (Nat.zero_le _) (Nat.zero_le _) dX6_carry_113 ?_
                  have hPc := hP.sub (ws' := [(atr, .inr (2, [.ref tca, .ref tla, .ref tta, .int tq1])), (tca, .inl (cJ, 768, .inr (.inl c1))), (tla, .inl (cZ, 256, .inl l1)), (tta, .inl (cI, 256, .inl t1))]) [4, 5, 6, 7] rfl
                  have hDc := hD.sub (ws' := [(atr, .inr (2, [.ref tca, .ref tla, .ref tta, .int tq1])), (tca, .inl (cJ, 768, .inr (.inl c1))), (tla, .inl (cZ, 256, .inl l1)), (tta, .inl (cI, 256, .inl t1))]) [4, 5, 6, 7] (by decide) rfl
                  have hFc := va_free (wc := [(atr, .inr (2, [.ref tca, .ref tla, .ref tta, .int tq1])), (tca, .inl (cJ, 768, .inr (.inl c1))), (tla, .inl (cZ, 256, .inl l1)), (tta, .inl (cI, 256, .inl t1))]) hD hS hA [4, 5, 6, 7] rfl
                  refine va_callv (va_runV (As := [.int nx, .int (x4 + x7), .long (if (va + x57) < x79 then x79 else (va + x57))]) (rest := []) ⟨hx, hb, hml, hown, hts⟩ (k_X3_put l D cI cJ cZ H.size atr tca tla tta tq1 c1 l1 t1 (cyI ct6 (fun j => gf (3 * f0 + j)) u n0 va m1 (cyO ct6 (fun j => gf (3 * f0 + j)) jk (fun j => hcf (3 * s1 + j)) n0 u w)) n0 (u + m1) nx (x4 + x7) (if (va + x57) < x79 then x79 else (va + x57)) (hn0) (by omega) (hnx) (h47) (hRi)) (cwV 3 hts gX6_carry_X3_put rfl rfl rfl (by decide +kernel) ⟨Nat.le_of_ble_eq_true rfl, Nat.le_of_ble_eq_true rfl⟩) ⟨wM_fb, va_recv hK hPc (ci := 2) (q0 := 0) rfl rfl, wM_pre hPc ⟨hK, hN⟩ hDc⟩ rfl rfl hl.1 rfl (lv_room (Nat.le_of_ble_eq_true rfl)) dX6_carry_116 ⟨Nat.le_of_ble_eq_true rfl, Nat.le_of_ble_eq_true rfl⟩) hS (fun q _ h => hFc q h) hFc (fun u t H1 locs ht hvm hpt hB hz1 hk1 hS => ?_)
                  obtain ⟨cn2_pt, cf2_pt, lf2_pt, tf2_pt⟩ := u
                  obtain ⟨hP1, hD1⟩ := hB
                  rw [ht] at hP1
                  obtain ⟨hP, hD⟩ := va_join (wr := [(wk, .inr (4, [.ref ws6, .ref fi6, .ref ff6, .ref ga6, .int ft6, .ref ahr, .ref atr, .long mu6, .long my6, .int (nI jk), .int ct6, .int bw6, .int un6])), (ga6, .inl (cJ, 282, .inr (.inl gf))), (ahr, .inr (2, [.ref hca, .ref hla, .ref hta, .int hcn])), (hca, .inl (cJ, 768, .inr (.inl hcf)))]) (w1 := [(atr, .inr (2, [.ref tca, .ref tla, .ref tta, .int cn2_pt])), (tca, .inl (cJ, 768, .inr (.inl cf2_pt))), (tla, .inl (cZ, 256, .inl lf2_pt)), (tta, .inl (cI, 256, .inl tf2_pt))]) hP hD [4, 5, 6, 7] [0, 1, 2, 3] rfl rfl (by decide) (by decide) hk1 hFc hP1 hD1
                  generalize H1 = H at hP hS ⊢
                  have hP : va_P D vwCl [(wk, .inr (4, [.ref ws6, .ref fi6, .ref ff6, .ref ga6, .int ft6, .ref ahr, .ref atr, .long mu6, .long my6, .int (nI jk), .int ct6, .int bw6, .int un6])), (ga6, .inl (cJ, 282, .inr (.inl gf))), (ahr, .inr (2, [.ref hca, .ref hla, .ref hta, .int hcn])), (hca, .inl (cJ, 768, .inr (.inl hcf))), (atr, .inr (2, [.ref tca, .ref tla, .ref tta, .int cn2_pt])), (tca, .inl (cJ, 768, .inr (.inl cf2_pt))), (tla, .inl (cZ, 256, .inl lf2_pt)), (tta, .inl (cI, 256, .inl tf2_pt))] H := hP
                  have hD : va_D A [(wk, .inr (4, [.ref ws6, .ref fi6, .ref ff6, .ref ga6, .int ft6, .ref ahr, .ref atr, .long mu6, .long my6, .int (nI jk), .int ct6, .int bw6, .int un6])), (ga6, .inl (cJ, 282, .inr (.inl gf))), (ahr, .inr (2, [.ref hca, .ref hla, .ref hta, .int hcn])), (hca, .inl (cJ, 768, .inr (.inl hcf))), (atr, .inr (2, [.ref tca, .ref tla, .ref tta, .int cn2_pt])), (tca, .inl (cJ, 768, .inr (.inl cf2_pt))), (tla, .inl (cZ, 256, .inl lf2_pt)), (tta, .inl (cI, 256, .inl tf2_pt))] := hD
                  try dsimp only at hpt
                  have hRs : RowRep cf2_pt lf2_pt tf2_pt cn2_pt (cyI ct6 (fun j => gf (3 * f0 + j)) u n0 va (m1 + 1) (cyO ct6 (fun j => gf (3 * f0 + j)) jk (fun j => hcf (3 * s1 + j)) n0 u w)) := by rw [cyI_n (g := fun j => gf (3 * f0 + j)) (m := m1) hgn]; rw [h79] at hpt; (try rw [h57] at hpt); unfold cyV; first | (rw [if_pos c_95]; exact hpt) | (rw [if_neg c_95]; exact hpt)
                  obtain ⟨x119, ex119⟩ : ∃ y : Int32, y = x7 + 1 := ⟨_, rfl⟩
                  refine lv_iinc (v := x119) (lv' := [(7, .int x119), (10, .long x79), (8, .long x57), (0, .ref wk), (1, .int sx), (2, .int nx), (3, .int fx), (4, .int x4), (5, .long va)]) hx hb dX6_carry_119 hl (k := 8) rfl (by rw [ex119]; rfl) (by decide) rfl (fun ls hl => ?_)
                  refine lv_goto (tgt := 27) hx hb dX6_carry_122 (by decide) ?_
                  exact ih27 (m1 + 1) va x119 cn2_pt cf2_pt lf2_pt tf2_pt (hul) (hva) (hp_s ex119 h7) (by omega) (fun _ => hvz) (hRs) (by omega) _ _ hP hD hS ls (lv_sub hl [3, 4, 5, 6, 7, 8, 0] rfl)
                · refine lv_lload hx hb dX6_carry_98 (lv_at hl 0 rfl) ?_
                  refine lv_lload hx hb dX6_carry_100 (lv_at hl 7 rfl) ?_
                  refine lv_ladd hx hb dX6_carry_102 ?_
                  refine lv_goto (tgt := 116) hx hb dX6_carry_103 (by decide) ?_
                  have hPc := hP.sub (ws' := [(atr, .inr (2, [.ref tca, .ref tla, .ref tta, .int tq1])), (tca, .inl (cJ, 768, .inr (.inl c1))), (tla, .inl (cZ, 256, .inl l1)), (tta, .inl (cI, 256, .inl t1))]) [4, 5, 6, 7] rfl
                  have hDc := hD.sub (ws' := [(atr, .inr (2, [.ref tca, .ref tla, .ref tta, .int tq1])), (tca, .inl (cJ, 768, .inr (.inl c1))), (tla, .inl (cZ, 256, .inl l1)), (tta, .inl (cI, 256, .inl t1))]) [4, 5, 6, 7] (by decide) rfl
                  have hFc := va_free (wc := [(atr, .inr (2, [.ref tca, .ref tla, .ref tta, .int tq1])), (tca, .inl (cJ, 768, .inr (.inl c1))), (tla, .inl (cZ, 256, .inl l1)), (tta, .inl (cI, 256, .inl t1))]) hD hS hA [4, 5, 6, 7] rfl
                  refine va_callv (va_runV (As := [.int nx, .int (x4 + x7), .long (x79 + va)]) (rest := []) ⟨hx, hb, hml, hown, hts⟩ (k_X3_put l D cI cJ cZ H.size atr tca tla tta tq1 c1 l1 t1 (cyI ct6 (fun j => gf (3 * f0 + j)) u n0 va m1 (cyO ct6 (fun j => gf (3 * f0 + j)) jk (fun j => hcf (3 * s1 + j)) n0 u w)) n0 (u + m1) nx (x4 + x7) (x79 + va) (hn0) (by omega) (hnx) (h47) (hRi)) (cwV 3 hts gX6_carry_X3_put rfl rfl rfl (by decide +kernel) ⟨Nat.le_of_ble_eq_true rfl, Nat.le_of_ble_eq_true rfl⟩) ⟨wM_fb, va_recv hK hPc (ci := 2) (q0 := 0) rfl rfl, wM_pre hPc ⟨hK, hN⟩ hDc⟩ rfl rfl hl.1 rfl (lv_room (Nat.le_of_ble_eq_true rfl)) dX6_carry_116 ⟨Nat.le_of_ble_eq_true rfl, Nat.le_of_ble_eq_true rfl⟩) hS (fun q _ h => hFc q h) hFc (fun u t H1 locs ht hvm hpt hB hz1 hk1 hS => ?_)
                  obtain ⟨cn2_pt, cf2_pt, lf2_pt, tf2_pt⟩ := u
                  obtain ⟨hP1, hD1⟩ := hB
                  rw [ht] at hP1
                  obtain ⟨hP, hD⟩ := va_join (wr := [(wk, .inr (4, [.ref ws6, .ref fi6, .ref ff6, .ref ga6, .int ft6, .ref ahr, .ref atr, .long mu6, .long my6, .int (nI jk), .int ct6, .int bw6, .int un6])), (ga6, .inl (cJ, 282, .inr (.inl gf))), (ahr, .inr (2, [.ref hca, .ref hla, .ref hta, .int hcn])), (hca, .inl (cJ, 768, .inr (.inl hcf)))]) (w1 := [(atr, .inr (2, [.ref tca, .ref tla, .ref tta, .int cn2_pt])), (tca, .inl (cJ, 768, .inr (.inl cf2_pt))), (tla, .inl (cZ, 256, .inl lf2_pt)), (tta, .inl (cI, 256, .inl tf2_pt))]) hP hD [4, 5, 6, 7] [0, 1, 2, 3] rfl rfl (by decide) (by decide) hk1 hFc hP1 hD1
                  generalize H1 = H at hP hS ⊢
                  have hP : va_P D vwCl [(wk, .inr (4, [.ref ws6, .ref fi6, .ref ff6, .ref ga6, .int ft6, .ref ahr, .ref atr, .long mu6, .long my6, .int (nI jk), .int ct6, .int bw6, .int un6])), (ga6, .inl (cJ, 282, .inr (.inl gf))), (ahr, .inr (2, [.ref hca, .ref hla, .ref hta, .int hcn])), (hca, .inl (cJ, 768, .inr (.inl hcf))), (atr, .inr (2, [.ref tca, .ref tla, .ref tta, .int cn2_pt])), (tca, .inl (cJ, 768, .inr (.inl cf2_pt))), (tla, .inl (cZ, 256, .inl lf2_pt)), (tta, .inl (cI, 256, .inl tf2_pt))] H := hP
                  have hD : va_D A [(wk, .inr (4, [.ref ws6, .ref fi6, .ref ff6, .ref ga6, .int ft6, .ref ahr, .ref atr, .long mu6, .long my6, .int (nI jk), .int ct6, .int bw6, .int un6])), (ga6, .inl (cJ, 282, .inr (.inl gf))), (ahr, .inr (2, [.ref hca, .ref hla, .ref hta, .int hcn])), (hca, .inl (cJ, 768, .inr (.inl hcf))), (atr, .inr (2, [.ref tca, .ref tla, .ref tta, .int cn2_pt])), (tca, .inl (cJ, 768, .inr (.inl cf2_pt))), (tla, .inl (cZ, 256, .inl lf2_pt)), (tta, .inl (cI, 256, .inl tf2_pt))] := hD
                  try dsimp only at hpt
                  have hRs : RowRep cf2_pt lf2_pt tf2_pt cn2_pt (cyI ct6 (fun j => gf (3 * f0 + j)) u n0 va (m1 + 1) (cyO ct6 (fun j => gf (3 * f0 + j)) jk (fun j => hcf (3 * s1 + j)) n0 u w)) := by rw [cyI_n (g := fun j => gf (3 * f0 + j)) (m := m1) hgn]; rw [h79] at hpt; (try rw [h57] at hpt); unfold cyV; first | (rw [if_pos c_95]; exact hpt) | (rw [if_neg c_95]; exact hpt)
                  obtain ⟨x119, ex119⟩ : ∃ y : Int32, y = x7 + 1 := ⟨_, rfl⟩
                  refine lv_iinc (v := x119) (lv' := [(7, .int x119), (10, .long x79), (8, .long x57), (0, .ref wk), (1, .int sx), (2, .int nx), (3, .int fx), (4, .int x4), (5, .long va)]) hx hb dX6_carry_119 hl (k := 8) rfl (by rw [ex119]; rfl) (by decide) rfl (fun ls hl => ?_)
                  refine lv_goto (tgt := 27) hx hb dX6_carry_122 (by decide) ?_
                  exact ih27 (m1 + 1) va x119 cn2_pt cf2_pt lf2_pt tf2_pt (hul) (hva) (hp_s ex119 h7) (by omega) (fun _ => hvz) (hRs) (by omega) _ _ hP hD hS ls (lv_sub hl [3, 4, 5, 6, 7, 8, 0] rfl)
      refine lv_iload hx hb dX6_carry_3 (lv_at hl 4 rfl) ?_
      refine lv_aload_n hx hb dX6_carry_5 rfl (lv_at hl 0 rfl) ?_
      refine va_get (D := D) (ci := 4) (v := .int (nI jk)) (C := RX6) (T := TX6) (N := 13) hx hb hts iX6 hown hK hP 0 rfl rfl 9 (by decide) k103 (fun _ h9 => h9) rfl dX6_carry_6 ?_
      refine lv_icmp_gt (tgt := 131) hx hb dX6_carry_9 (by decide) (fun c_9 => ?_) (fun c_9 => ?_)
      · have hu9 : u = jk + 1 := by rw [h4, nI_ltI (by omega) (by omega)] at c_9; omega
        subst hu9
        rw [← hQ]
        have hP9 := hP.sub (ws' := [(wk, .inr (4, [.ref ws6, .ref fi6, .ref ff6, .ref ga6, .int ft6, .ref ahr, .ref atr, .long mu6, .long my6, .int (nI jk), .int ct6, .int bw6, .int un6])), (ga6, .inl (cJ, 282, .inr (.inl gf))), (ahr, .inr (2, [.ref hca, .ref hla, .ref hta, .int hcn])), (hca, .inl (cJ, 768, .inr (.inl hcf))), (atr, .inr (2, [.ref tca, .ref tla, .ref tta, .int tq1])), (tca, .inl (cJ, 768, .inr (.inl c1))), (tla, .inl (cZ, 256, .inl l1)), (tta, .inl (cI, 256, .inl t1))]) [0, 1, 2, 3, 4, 5, 6, 7] rfl
        have hD9 := hD.sub (ws' := [(wk, .inr (4, [.ref ws6, .ref fi6, .ref ff6, .ref ga6, .int ft6, .ref ahr, .ref atr, .long mu6, .long my6, .int (nI jk), .int ct6, .int bw6, .int un6])), (ga6, .inl (cJ, 282, .inr (.inl gf))), (ahr, .inr (2, [.ref hca, .ref hla, .ref hta, .int hcn])), (hca, .inl (cJ, 768, .inr (.inl hcf))), (atr, .inr (2, [.ref tca, .ref tla, .ref tta, .int tq1])), (tca, .inl (cJ, 768, .inr (.inl c1))), (tla, .inl (cZ, 256, .inl l1)), (tta, .inl (cI, 256, .inl t1))]) [0, 1, 2, 3, 4, 5, 6, 7] (by decide) rfl
        exact W.vret hx hb hr (fun t ht hW => ⟨⟨(tq1, c1, l1, t1), rfl, hR, (by show wB D A _ t; exact ⟨by rw [ht]; exact hP9, hD9⟩)⟩, hS.F ht⟩) hS.2.2 dX6_carry_131
      · have hul : u ≤ jk := by rw [h4, nI_ltI (by omega) (by omega)] at c_9; omega
        refine lv_aload_n hx hb dX6_carry_12 rfl (lv_at hl 0 rfl) ?_
        refine va_get (D := D) (ci := 4) (v := .ref ahr) (C := RX6) (T := TX6) (N := 13) hx hb hts iX6 hown hK hP 0 rfl rfl 5 (by decide) k28 (fun _ h9 => h9) rfl dX6_carry_13 ?_
        refine lv_iload_n hx hb dX6_carry_16 rfl (lv_at hl 1 rfl) ?_
        refine lv_iload hx hb dX6_carry_17 (lv_at hl 4 rfl) ?_
        have hPc := hP.sub (ws' := [(ahr, .inr (2, [.ref hca, .ref hla, .ref hta, .int hcn])), (hca, .inl (cJ, 768, .inr (.inl hcf)))]) [2, 3] rfl
        refine vp_callSl (W.runV (As := [.int sx, .int x4]) (rest := []) ⟨hx, hb, hml, hown, hts⟩ (k_X3_at l D cI cJ cZ ahr hca hla hta hcn hcf sx x4 ) (cwV 2 hts gX6_carry_X3_at rfl rfl rfl (by decide +kernel) ⟨Nat.le_of_ble_eq_true rfl, Nat.le_of_ble_eq_true rfl⟩) ⟨wR_fb, va_recv hK hPc (ci := 2) (q0 := 0) rfl rfl, wR_pre hPc ⟨hK, hN⟩⟩ rfl rfl hl.1 rfl (lv_room (Nat.le_of_ble_eq_true rfl)) dX6_carry_19 ⟨Nat.le_of_ble_eq_true rfl, Nat.le_of_ble_eq_true rfl⟩) (fun x19 hx19 => ?_)
        subst hx19
        refine lv_topl (fun x22 ex22 => ?_)
        refine lv_lstore (lv' := [(5, .long x22), (0, .ref wk), (1, .int sx), (2, .int nx), (3, .int fx), (4, .int x4)]) hx hb dX6_carry_22 hl (by decide) rfl (fun ls hl => ?_)
        have h22 : x22 = hcf (3 * s1 + u) := by rw [ex22]; exact j_at_ok hsx h4 hs1 (by omega)
        refine lv_iconst (v := 0) hx hb dX6_carry_24 (by decide) ?_
        refine lv_istore (lv' := [(7, .int 0), (5, .long x22), (0, .ref wk), (1, .int sx), (2, .int nx), (3, .int fx), (4, .int x4)]) hx hb dX6_carry_25 hl (by decide) rfl (fun ls hl => ?_)
        exact lab27 _ 0 x22 0 tq1 c1 l1 t1 (hul) (h22) (nI_0.symm) (by omega) (fun z => absurd z (Nat.lt_irrefl 0)) (hR) (Nat.lt_succ_self _) _ _ hP hD hS ls (lv_sub hl [2, 3, 4, 5, 6, 1, 0] rfl)
  refine lv_iconst (v := 0) hx hb dX6_carry_0 (by decide) ?_
  refine lv_istore (lv' := [(4, .int 0), (0, .ref wk), (1, .int sx), (2, .int nx), (3, .int fx)]) hx hb dX6_carry_1 hl (by decide) rfl (fun ls hl => ?_)
  exact lab3 _ 0 0 tcn tcf tlf ttf (nI_0.symm) (by omega) (hrow) (Nat.lt_succ_self _) _ _ hP hD hS ls (lv_sub hl [1, 2, 3, 4, 0] rfl)
