def wkL : List Nat := [0, 32896, 16448, 49344, 57358, 8224, 41120, 24672, 57568, 53261, 45067, 28679, 61455, 61575, 61515, 61485, 4112, 37008, 20560, 53456, 61470, 12336, 45232, 28784, 61680, 4352, 37248, 20800, 53696, 61710, 12576, 45472, 29024, 61920, 8704, 41600, 25152, 58048, 61965, 12816, 45712, 29264, 62160, 13056, 45952, 29504, 62400, 17408, 50304, 25632, 58528, 62475, 21520, 54416, 29744, 62640, 21760, 54656, 29984, 62880, 26112, 59008, 30224, 63120, 30464, 63360, 34816, 51264, 43040, 59488, 63495, 38928, 55376, 47152, 63600, 39168, 55616, 47392, 63840, 43520, 59968, 47632, 64080, 47872, 64320, 52224, 60448, 56336, 64560, 56576, 64800, 60928, 65040, 65280]
def wkT (i : Nat) : Nat := wkL.getD i 0
def lbL : List Nat := [0, 25, 34, 43, 47, 56, 60, 64, 66, 75, 79, 83, 85, 89, 91, 93, 94]
def lbT (i : Nat) : Nat := lbL.getD i 0
theorem wk_lt : ∀ i, i < 94 → wkT i < 65536 := by decide +kernel
theorem wk_lb : ∀ i, i < 94 → lbT (t_co (wkT i)) ≤ i ∧ i < lbT (t_co (wkT i) + 1) := by decide +kernel
theorem lb_mono : ∀ a, a < 17 → ∀ b, b < 17 → a ≤ b → lbT a ≤ lbT b := by decide +kernel
theorem lb_94 : ∀ on, on < 16 → lbT on < 94 ∧ lbT (on + 1) ≤ 94 := by decide +kernel
theorem lb_strict : ∀ on, on < 16 → lbT on < lbT (on + 1) := by decide +kernel
theorem lor_lt : ∀ a, a < 16 → ∀ b, b < 16 → a ||| b < 16 := by decide +kernel
def miN (x y : Int64) (n i : Nat) : Nat := popc (t_sh (wkT i) &&& (15 - (nd x n ||| nd y n)))
def opT (y : Int64) (n i : Nat) : Nat := t_sh (wkT i) &&& nd y n
def selB (x y : Int64) (n jk i : Nat) : Bool := (nd x n &&& (15 - t_sh (wkT i)) == 0) && decide (miN x y n i ≤ jk)
def selN (x y : Int64) (n jk : Nat) : Nat → Nat
  | 0 => 0
  | i + 1 => selN x y n jk i + bN (selB x y n jk i)
theorem selN_le (x y : Int64) (n jk : Nat) : ∀ i, selN x y n jk i ≤ i
  | 0 => Nat.le_refl 0
  | i + 1 => by
    have := selN_le x y n jk i
    have := bN_le (selB x y n jk i)
    show _ + _ ≤ _
    omega
theorem selN_y {x y : Int64} {n jk i : Nat} (h : selB x y n jk i = true) : selN x y n jk (i + 1) = selN x y n jk i + 1 := by
  show _ + bN _ = _
  rw [h]; rfl
theorem selN_n {x y : Int64} {n jk i : Nat} (h : selB x y n jk i = false) : selN x y n jk (i + 1) = selN x y n jk i := by
  show _ + bN _ = _
  rw [h]; rfl
theorem selN_mono {x y : Int64} {n jk k : Nat} : ∀ d, selN x y n jk k ≤ selN x y n jk (k + d)
  | 0 => Nat.le_refl _
  | d + 1 => Nat.le_trans (selN_mono d) (Nat.le_add_right _ _)
theorem selN_lt {x y : Int64} {n jk k i : Nat} (h : k < i) (hs : selB x y n jk k = true) : selN x y n jk k < selN x y n jk i := by
  have h1 := selN_mono (x := x) (y := y) (n := n) (jk := jk) (k := k + 1) (i - (k + 1))
  rw [show k + 1 + (i - (k + 1)) = i by omega, selN_y hs] at h1
  omega
/-- the steps that fit, with what each gains, among the first i -/
def GA1 (x y : Int64) (n jk : Nat) (un nx : Int32) (i : Nat) (fq : Nat → Int32) (gq : Nat → Int64) : Prop := ∀ k, k < i → selB x y n jk k = true → fq (selN x y n jk k) = nI (wkT k) ∧ ∀ u, u < 3 → gq (3 * selN x y n jk k + u) = sgV un nx (nI (miN x y n k)) (nI (opT y n k)) u
def GB1 (x y : Int64) (n jk i : Nat) (fr : Nat → Int32) : Prop := ∀ on, on < 16 → lbT on < i → fr (on + 1) = nI (selN x y n jk (if i ≤ lbT (on + 1) then i else lbT (on + 1)))
theorem GA1_n {x y : Int64} {n jk i : Nat} {un nx : Int32} {fq : Nat → Int32} {gq : Nat → Int64} (h : GA1 x y n jk un nx i fq gq) (hs : selB x y n jk i = false) : GA1 x y n jk un nx (i + 1) fq gq := by
  intro k hk hsk
  rcases Nat.lt_succ_iff_lt_or_eq.mp hk with z | z
  · exact h k z hsk
  · subst z; rw [hs] at hsk; exact absurd hsk (by decide)
theorem GA1_y {x y : Int64} {n jk i : Nat} {un nx v mi op : Int32} {fq f2 : Nat → Int32} {gq g2 : Nat → Int64} (hi : i < 94) (h : GA1 x y n jk un nx i fq gq) (hs : selB x y n jk i = true) (e : upd fq (nI (selN x y n jk i)).toNatClampNeg v = f2) (hv : v = nI (wkT i)) (hm : mi = nI (miN x y n i)) (ho : op = nI (opT y n i)) (hSG : SG un nx mi op (selN x y n jk i) 3 gq g2) : GA1 x y n jk un nx (i + 1) f2 g2 := by
  have hle := selN_le x y n jk i
  rw [nI_clamp (by omega)] at e
  subst e; subst hm; subst ho; subst hv
  intro k hk hsk
  rcases Nat.lt_succ_iff_lt_or_eq.mp hk with z | z
  · have hl := selN_lt z hsk
    refine ⟨by rw [pk_un (by omega)]; exact (h k z hsk).1, fun u hu => ?_⟩
    rw [hSG.2 _ (by omega)]; exact (h k z hsk).2 u hu
  · subst z; exact ⟨pk_us, hSG.1⟩
theorem GB1_s {x y : Int64} {n jk i : Nat} {fr f2 : Nat → Int32} {z v : Int32} (hi : i < 94) (h : GB1 x y n jk i fr) (hz : z = nI (t_co (wkT i) + 1)) (hv : v = nI (selN x y n jk (i + 1))) (e : upd fr z.toNatClampNeg v = f2) : GB1 x y n jk (i + 1) f2 ∧ f2 0 = fr 0 := by
  have hc := t_co_lt (wkT i)
  have hb := wk_lb i hi
  subst hz; subst hv
  rw [nI_clamp (by omega)] at e
  subst e
  refine ⟨fun on hon hl => ?_, pk_un (by omega)⟩
  by_cases q : on = t_co (wkT i)
  · rw [q, pk_us, if_pos (by omega)]
  · rw [pk_un (by omega)]
    rcases Nat.lt_or_ge on (t_co (wkT i)) with w | w
    · have hm := lb_mono (on + 1) (by omega) (t_co (wkT i)) (by omega) (by omega)
      have hm2 := lb_mono on (by omega) (on + 1) (by omega) (by omega)
      by_cases q2 : lbT on < i
      · rw [h on hon q2]
        congr 2
        split <;> split <;> omega
      · have : lbT (on + 1) = i := by omega
        have h3 := lb_94 on hon
        have h4 := lb_strict on hon
        omega
    · have hm := lb_mono (t_co (wkT i) + 1) (by omega) on (by omega) (by omega)
      omega
theorem sb_f1 {x y : Int64} {n jk i : Nat} (h : ¬ (nI (nd x n) &&& (nI (t_sh (wkT i)) ^^^ (-1))) = 0) : selB x y n jk i = false := by
  rw [jn_not _ (nd_lt _ _) _ (t_sh_lt _)] at h
  have : (nd x n &&& (15 - t_sh (wkT i)) == 0) = false := by
    rcases Nat.eq_zero_or_pos (nd x n &&& (15 - t_sh (wkT i))) with z | z
    · exact absurd (by rw [z]; rfl) h
    · simp; omega
  simp [selB, this]
theorem sb_f2 {x y : Int64} {n jk i : Nat} (hj : jk ≤ 2) (h : nI jk < nI (miN x y n i)) : selB x y n jk i = false := by
  have hp := popc_le (t_sh (wkT i) &&& (15 - (nd x n ||| nd y n)))
  have hl : miN x y n i ≤ 4 := hp
  rw [nI_ltI (by omega) (by omega)] at h
  have : ¬ miN x y n i ≤ jk := by omega
  simp [selB, this]
theorem sb_t {x y : Int64} {n jk i : Nat} (hj : jk ≤ 2) (h1 : (nI (nd x n) &&& (nI (t_sh (wkT i)) ^^^ (-1))) = 0) (h : ¬ nI jk < nI (miN x y n i)) : selB x y n jk i = true := by
  have hp := popc_le (t_sh (wkT i) &&& (15 - (nd x n ||| nd y n)))
  have hl : miN x y n i ≤ 4 := hp
  rw [nI_ltI (by omega) (by omega)] at h
  rw [jn_not _ (nd_lt _ _) _ (t_sh_lt _)] at h1
  have h2 : nd x n &&& (15 - t_sh (wkT i)) < 16 := land_lt (nd_lt _ _)
  have h3 := (nI_eq (by omega) (by decide)).mp (show nI _ = nI 0 from h1)
  have h4 : miN x y n i ≤ jk := by omega
  simp [selB, h3, h4]
theorem mi_eq {x y : Int64} {n i : Nat} : j_bcI (nI (t_sh (wkT i)) &&& ((nI (nd x n) ||| nI (nd y n)) ^^^ (-1))) = nI (miN x y n i) := by
  rw [fa_or, jn_not _ (t_sh_lt _) _ (lor_lt _ (nd_lt _ _) _ (nd_lt _ _)), jn_bc _ (land_lt (t_sh_lt _))]; rfl
set_option maxHeartbeats 4000000 in
set_option maxRecDepth 100000 in
theorem k_X6_gatherFitting (l : Launch) (D : va_G) (cI cJ cZ : ClassId) (sz : Nat) (wk ws6 fi6 ff6 ga6 ahr atr : Nat) (ft6 ct6 bw6 un6 : Int32) (mu6 my6 : Int64) (jk n0 : Nat) (wsf fif fff : Nat → Int32) (gf : Nat → Int64) (nx : Int32) (hjk : jk ≤ 2) (hn0 : n0 < 13) (hnx : nx = nI n0) (hws : ∀ i, i < 94 → wsf i = nI (wkT i)) : Met l yX6_gatherFitting wsX6_gatherFitting ({ frames := 3, cells := 0, slots := 0, locals := 72 } : Room) (va_Pc [.ref wk, .int nx] (wM D cI cJ cZ sz [(wk, .inr (4, [.ref ws6, .ref fi6, .ref ff6, .ref ga6, .int ft6, .ref ahr, .ref atr, .long mu6, .long my6, .int (nI jk), .int ct6, .int bw6, .int un6])), (ws6, .inl (cI, 94, .inl wsf)), (fi6, .inl (cI, 94, .inl fif)), (ff6, .inl (cI, 17, .inl fff)), (ga6, .inl (cJ, 282, .inr (.inl gf)))])) (va_Qv (fun (u : (Int32) × (Int32) × (Nat → Int32) × (Nat → Int32) × (Nat → Int64)) => match u with | (ft2, un2, fif2, fff2, gf2) => (GA1 mu6 my6 n0 jk (if bw6 = 0 then 1 else j_X0_worthOfNumber nx) nx 94 fif2 gf2 ∧ GB1 mu6 my6 n0 jk 94 fff2 ∧ fff2 0 = fff 0) ∧ ft2 = (nI (selN mu6 my6 n0 jk 94)) ∧ un2 = ((if bw6 = 0 then 1 else j_X0_worthOfNumber nx))) (fun (u : (Int32) × (Int32) × (Nat → Int32) × (Nat → Int32) × (Nat → Int64)) t => match u with | (ft2, un2, fif2, fff2, gf2) => wB D (va_A [(wk, .inr (4, [.ref ws6, .ref fi6, .ref ff6, .ref ga6, .int ft6, .ref ahr, .ref atr, .long mu6, .long my6, .int (nI jk), .int ct6, .int bw6, .int un6])), (ws6, .inl (cI, 94, .inl wsf)), (fi6, .inl (cI, 94, .inl fif)), (ff6, .inl (cI, 17, .inl fff)), (ga6, .inl (cJ, 282, .inr (.inl gf)))] sz) [(wk, .inr (4, [.ref ws6, .ref fi6, .ref ff6, .ref ga6, .int ft2, .ref ahr, .ref atr, .long mu6, .long my6, .int (nI jk), .int ct6, .int bw6, .int un2])), (ws6, .inl (cI, 94, .inl wsf)), (fi6, .inl (cI, 94, .inl fif2)), (ff6, .inl (cI, 17, .inl fff2)), (ga6, .inl (cJ, 282, .inr (.inl gf2)))] t) (va_A [(wk, .inr (4, [.ref ws6, .ref fi6, .ref ff6, .ref ga6, .int ft6, .ref ahr, .ref atr, .long mu6, .long my6, .int (nI jk), .int ct6, .int bw6, .int un6])), (ws6, .inl (cI, 94, .inl wsf)), (fi6, .inl (cI, 94, .inl fif)), (ff6, .inl (cI, 17, .inl fff)), (ga6, .inl (cJ, 282, .inr (.inl gf)))] sz)) 0 0 (va_A [(wk, .inr (4, [.ref ws6, .ref fi6, .ref ff6, .ref ga6, .int ft6, .ref ahr, .ref atr, .long mu6, .long my6, .int (nI jk), .int ct6, .int bw6, .int un6])), (ws6, .inl (cI, 94, .inl wsf)), (fi6, .inl (cI, 94, .inl fif)), (ff6, .inl (cI, 17, .inl fff)), (ga6, .inl (cJ, 282, .inr (.inl gf)))] sz) := by
  refine Met.ofW (cc := cX6_gatherFitting) (maxL := 7) (ret := none) (by decide) rfl ?_
  intro p e s m args below meth c s₁ B hml hv
  obtain ⟨hargs, hsz, hP, ⟨hK, hN⟩, hD0⟩ := hv
  have hx := B.exec
  have hb := B.bytes
  have hr := B.returns
  have hlocks := B.notSynchronized
  have hts := atoms_spec (ws := wsX6_gatherFitting) B.pre
  have hown : s.vm.findClass RX6 = some m.cls := findClass_of_methodNamed B.named
  have k18 := hts (.fieldLink RX6 18 "RummyTable$Walk" "firstFit" "[I") (by decide +kernel)
  have iX6 : ∀ w ∈ wsX60, w ∈ wsX6_gatherFitting := by decide +kernel
  have k9 := hts (.fieldLink RX6 9 "RummyTable$Walk" "steps" "[I") (by decide +kernel)
  have k35 := hts (.methodLink RX6 35 yX5_continued) (by decide +kernel)
  have k140 := hts (.fieldLink RX6 140 "RummyTable$Walk" "fits" "I") (by decide +kernel)
  have k143 := hts (.methodLink RX6 143 yX5_shown) (by decide +kernel)
  have k146 := hts (.methodLink RX6 146 yJ6_bitCount_0f7a4) (by decide +kernel)
  have k103 := hts (.fieldLink RX6 103 "RummyTable$Walk" "jokers" "I") (by decide +kernel)
  have k15 := hts (.fieldLink RX6 15 "RummyTable$Walk" "fitting" "[I") (by decide +kernel)
  have k151 := hts (.methodLink RX6 151 yX6_setGains) (by decide +kernel)
  have k41 := hts (.fieldLink RX6 41 "RummyTable$Walk" "must" "J") (by decide +kernel)
  have k130 := hts (.methodLink RX6 130 yX0_coloursOf) (by decide +kernel)
  have k45 := hts (.fieldLink RX6 45 "RummyTable$Walk" "may" "J") (by decide +kernel)
  have k77 := hts (.fieldLink RX6 77 "RummyTable$Walk" "byWorth" "Z") (by decide +kernel)
  have k137 := hts (.fieldLink RX6 137 "RummyTable$Walk" "unit" "I") (by decide +kernel)
  have k134 := hts (.methodLink RX6 134 yX0_worthOfNumber) (by decide +kernel)
  subst hsz
  have hD := hD0.self (sz := s.heap.size)
  generalize hAe : va_A [(wk, .inr (4, [.ref ws6, .ref fi6, .ref ff6, .ref ga6, .int ft6, .ref ahr, .ref atr, .long mu6, .long my6, .int (nI jk), .int ct6, .int bw6, .int un6])), (ws6, .inl (cI, 94, .inl wsf)), (fi6, .inl (cI, 94, .inl fif)), (ff6, .inl (cI, 17, .inl fff)), (ga6, .inl (cJ, 282, .inr (.inl gf)))] s.heap.size = A at hD ⊢
  have hA : ∀ q : Nat, s.heap.size ≤ q → A q := fun q h => by rw [← hAe]; exact Or.inr h
  have hS : va_S A s.heap s.heap [] := va_S.rf
  rw [show entryFrame m args 7 = entryFrame m ([.ref wk, .int nx] : List Value).toArray 7 from by rw [hargs]]
  have hl := lv_entry ([.ref wk, .int nx]) (n := 7) (Nat.le_of_ble_eq_true rfl)
  rw [lg_entry_eq]
  generalize (lg_sl ([.ref wk, .int nx]) ++ List.replicate (7 - (lg_sl ([.ref wk, .int nx])).length) Slot.unset).toArray = ls at hl ⊢
  have hl : lv_has ls 7 [(0, .ref wk), (1, .int nx)] := hl
  refine wQ (fun Q hQ => ?_)
  have lab45 : ∀ fuel45 : Nat, ∀ (i : Nat) (x2 : Int32) (x3 : Int32) (x4 : Int32) (un1 : Int32) (fq : Nat → Int32) (fr : Nat → Int32) (gq : Nat → Int64), (h2 : x2 = nI (nd mu6 n0)) → (h3 : x3 = nI (nd my6 n0)) → (hun : un1 = (if bw6 = 0 then 1 else j_X0_worthOfNumber nx)) → (h4 : x4 = nI i) → (hi : i ≤ 94) → (hGA : GA1 mu6 my6 n0 jk un1 nx i fq gq) → (hGB : GB1 mu6 my6 n0 jk i fr) → (hf0 : fr 0 = fff 0) → (hfu45 : 94 - i < fuel45) → ∀ (H : Heap) (locs : List Loc), va_P D vwCl [(wk, .inr (4, [.ref ws6, .ref fi6, .ref ff6, .ref ga6, .int (nI (selN mu6 my6 n0 jk i)), .ref ahr, .ref atr, .long mu6, .long my6, .int (nI jk), .int ct6, .int bw6, .int un1])), (ws6, .inl (cI, 94, .inl wsf)), (fi6, .inl (cI, 94, .inl fq)), (ff6, .inl (cI, 17, .inl fr)), (ga6, .inl (cJ, 282, .inr (.inl gq)))] H → va_D A [(wk, .inr (4, [.ref ws6, .ref fi6, .ref ff6, .ref ga6, .int (nI (selN mu6 my6 n0 jk i)), .ref ahr, .ref atr, .long mu6, .long my6, .int (nI jk), .int ct6, .int bw6, .int un1])), (ws6, .inl (cI, 94, .inl wsf)), (fi6, .inl (cI, 94, .inl fq)), (ff6, .inl (cI, 17, .inl fr)), (ga6, .inl (cJ, 282, .inr (.inl gq)))] → va_S A s.heap H locs → ∀ ls : Array Slot, lv_has ls 7 [(0, .ref wk), (1, .int nx), (2, .int x2), (3, .int x3), (4, .int x4)] → W p l e (headSpec wsX6_gatherFitting ({ frames := 3, cells := 0, slots := 0, locals := 72 } : Room)).room s m args below meth c H locs 0 0 Q (F0 m 45 ls []) := by
    intro fuel45
    induction fuel45 with
    | zero =>
      intro i x2 x3 x4 un1 fq fr gq h2 h3 hun h4 hi hGA hGB hf0 hfu45
      exact absurd hfu45 (Nat.not_lt_zero _)
    | succ fuel45 ih45 =>
      intro i x2 x3 x4 un1 fq fr gq h2 h3 hun h4 hi hGA hGB hf0 hfu45 H locs hP hD hS ls hl
      have lab132 : ∀  (fq2 : Nat → Int32) (gq2 : Nat → Int64), (hlt : i < 94) → (hwv : wsf x4.toNatClampNeg = nI (wkT i)) → (hin4 : vp_in x4 94) → (hGA2 : GA1 mu6 my6 n0 jk un1 nx (i + 1) fq2 gq2) → ∀ (H : Heap) (locs : List Loc), va_P D vwCl [(wk, .inr (4, [.ref ws6, .ref fi6, .ref ff6, .ref ga6, .int (nI (selN mu6 my6 n0 jk (i + 1))), .ref ahr, .ref atr, .long mu6, .long my6, .int (nI jk), .int ct6, .int bw6, .int un1])), (ws6, .inl (cI, 94, .inl wsf)), (fi6, .inl (cI, 94, .inl fq2)), (ff6, .inl (cI, 17, .inl fr)), (ga6, .inl (cJ, 282, .inr (.inl gq2)))] H → va_D A [(wk, .inr (4, [.ref ws6, .ref fi6, .ref ff6, .ref ga6, .int (nI (selN mu6 my6 n0 jk (i + 1))), .ref ahr, .ref atr, .long mu6, .long my6, .int (nI jk), .int ct6, .int bw6, .int un1])), (ws6, .inl (cI, 94, .inl wsf)), (fi6, .inl (cI, 94, .inl fq2)), (ff6, .inl (cI, 17, .inl fr)), (ga6, .inl (cJ, 282, .inr (.inl gq2)))] → va_S A s.heap H locs → ∀ ls : Array Slot, lv_has ls 7 [(0, .ref wk), (1, .int nx), (2, .int x2), (3, .int x3), (4, .int x4)] → W p l e (headSpec wsX6_gatherFitting ({ frames := 3, cells := 0, slots := 0, locals := 72 } : Room)).room s m args below meth c H locs 0 0 Q (F0 m 132 ls []) := by
        intro fq2 gq2 hlt hwv hin4 hGA2 H locs hP hD hS ls hl
        refine lv_aload_n hx hb dX6_gatherFitting_132 rfl (lv_at hl 0 rfl) ?_
        refine va_get (D := D) (ci := 4) (v := .ref ff6) (C := RX6) (T := TX6) (N := 13) hx hb hts iX6 hown hK hP 0 rfl rfl 2 (by decide) k18 (fun _ h9 => h9) rfl dX6_gatherFitting_133 ?_
        refine lv_aload_n hx hb dX6_gatherFitting_136 rfl (lv_at hl 0 rfl) ?_
        refine va_get (D := D) (ci := 4) (v := .ref ws6) (C := RX6) (T := TX6) (N := 13) hx hb hts iX6 hown hK hP 0 rfl rfl 0 (by decide) k9 (fun _ h9 => h9) rfl dX6_gatherFitting_137 ?_
        refine lv_iload hx hb dX6_gatherFitting_140 (lv_at hl 4 rfl) ?_
        refine va_iald hx hb hK hP 1 0 rfl rfl (hin4) dX6_gatherFitting_142 ?_
        refine vp_callSi (W.runS (As := [.int (wsf x4.toNatClampNeg)]) (rest := [.ref ff6]) ⟨hx, hb, hml, hown, hts⟩ (k_X5_continued l (wsf x4.toNatClampNeg) ) (va_cwS 1 hts gX6_gatherFitting_X5_continued rfl rfl rfl (by decide +kernel) ⟨Nat.le_of_ble_eq_true rfl, Nat.le_of_ble_eq_true rfl⟩) ⟨pS_fb, pS_pre⟩ rfl rfl hl.1 rfl (lv_room (Nat.le_of_ble_eq_true rfl)) dX6_gatherFitting_143 ⟨Nat.le_of_ble_eq_true rfl, Nat.le_of_ble_eq_true rfl⟩) (fun x143 hx143 => ?_)
        subst hx143
        refine lv_iconst (v := 1) hx hb dX6_gatherFitting_146 (by decide) ?_
        refine lv_iadd hx hb dX6_gatherFitting_147 ?_
        refine lv_aload_n hx hb dX6_gatherFitting_148 rfl (lv_at hl 0 rfl) ?_
        refine va_get (D := D) (ci := 4) (v := .int (nI (selN mu6 my6 n0 jk (i + 1)))) (C := RX6) (T := TX6) (N := 13) hx hb hts iX6 hown hK hP 0 rfl rfl 4 (by decide) k140 (fun _ h9 => h9) rfl dX6_gatherFitting_149 ?_
        refine va_iast hx hb hK hP hD hS 3 0 rfl rfl (by rw [hwv, jn_co (wk_lt i hlt), nI_1]; exact vp_in_nI (by have := t_co_lt (wkT i); omega) (by decide)) dX6_gatherFitting_152 (fun H locs hP hD hS => ?_)
        have hP : va_P D vwCl [(wk, .inr (4, [.ref ws6, .ref fi6, .ref ff6, .ref ga6, .int (nI (selN mu6 my6 n0 jk (i + 1))), .ref ahr, .ref atr, .long mu6, .long my6, .int (nI jk), .int ct6, .int bw6, .int un1])), (ws6, .inl (cI, 94, .inl wsf)), (fi6, .inl (cI, 94, .inl fq2)), (ff6, .inl (cI, 17, .inl (upd fr ((j_X5_continued (wsf x4.toNatClampNeg)) + 1).toNatClampNeg (nI (selN mu6 my6 n0 jk (i + 1)))))), (ga6, .inl (cJ, 282, .inr (.inl gq2)))] H := hP
        have hD : va_D A [(wk, .inr (4, [.ref ws6, .ref fi6, .ref ff6, .ref ga6, .int (nI (selN mu6 my6 n0 jk (i + 1))), .ref ahr, .ref atr, .long mu6, .long my6, .int (nI jk), .int ct6, .int bw6, .int un1])), (ws6, .inl (cI, 94, .inl wsf)), (fi6, .inl (cI, 94, .inl fq2)), (ff6, .inl (cI, 17, .inl (upd fr ((j_X5_continued (wsf x4.toNatClampNeg)) + 1).toNatClampNeg (nI (selN mu6 my6 n0 jk (i + 1)))))), (ga6, .inl (cJ, 282, .inr (.inl gq2)))] := hD
        generalize ex152 : upd fr ((j_X5_continued (wsf x4.toNatClampNeg)) + 1).toNatClampNeg (nI (selN mu6 my6 n0 jk (i + 1))) = x152 at hP hD
        have hgb := GB1_s hlt hGB (by rw [hwv, jn_co (wk_lt i hlt)]; exact nI_1 _) rfl ex152
        obtain ⟨x153, ex153⟩ : ∃ y : Int32, y = x4 + 1 := ⟨_, rfl⟩
        refine lv_iinc (v := x153) (lv' := [(4, .int x153), (0, .ref wk), (1, .int nx), (2, .int x2), (3, .int x3)]) hx hb dX6_gatherFitting_153 hl (k := 4) rfl (by rw [ex153]; rfl) (by decide) rfl (fun ls hl => ?_)
        refine lv_goto (tgt := 45) hx hb dX6_gatherFitting_156 (by decide) ?_
        exact ih45 (i + 1) x2 x3 x153 un1 fq2 x152 gq2 (h2) (h3) (hun) (hp_s ex153 h4) (by omega) (hGA2) (hgb.1) (hgb.2.trans hf0) (by omega) _ _ hP hD hS ls (lv_sub hl [1, 2, 3, 4, 0] rfl)
      refine lv_iload hx hb dX6_gatherFitting_45 (lv_at hl 4 rfl) ?_
      refine lv_bipush (v := 94) hx hb dX6_gatherFitting_47 (by decide) ?_
      refine lv_icmp_ge (tgt := 159) hx hb dX6_gatherFitting_49 (by decide) (fun c_49 => ?_) (fun c_49 => ?_)
      · have hi9 : i = 94 := hp_ge h4 (by decide : (94 : Int32) = nI 94) hi (by decide) c_49
        rw [← hQ]
        have hP9 := hP.sub (ws' := [(wk, .inr (4, [.ref ws6, .ref fi6, .ref ff6, .ref ga6, .int (nI (selN mu6 my6 n0 jk i)), .ref ahr, .ref atr, .long mu6, .long my6, .int (nI jk), .int ct6, .int bw6, .int un1])), (ws6, .inl (cI, 94, .inl wsf)), (fi6, .inl (cI, 94, .inl fq)), (ff6, .inl (cI, 17, .inl fr)), (ga6, .inl (cJ, 282, .inr (.inl gq)))]) [0, 1, 2, 3, 4] rfl
        have hD9 := hD.sub (ws' := [(wk, .inr (4, [.ref ws6, .ref fi6, .ref ff6, .ref ga6, .int (nI (selN mu6 my6 n0 jk i)), .ref ahr, .ref atr, .long mu6, .long my6, .int (nI jk), .int ct6, .int bw6, .int un1])), (ws6, .inl (cI, 94, .inl wsf)), (fi6, .inl (cI, 94, .inl fq)), (ff6, .inl (cI, 17, .inl fr)), (ga6, .inl (cJ, 282, .inr (.inl gq)))]) [0, 1, 2, 3, 4] (by decide) rfl
        exact W.vret hx hb hr (fun t ht hW => ⟨⟨(nI (selN mu6 my6 n0 jk i), un1, fq, fr, gq), rfl, ⟨⟨by rw [← hun, ← hi9]; exact hGA, by rw [← hi9]; exact hGB, hf0⟩, (by rw [hi9]), hun⟩, (by show wB D A _ t; exact ⟨by rw [ht]; exact hP9, hD9⟩)⟩, hS.F ht⟩) hS.2.2 dX6_gatherFitting_159
      · have hlt : i < 94 := hp_lt h4 (by decide : (94 : Int32) = nI 94) hi (by decide) c_49
        have hwv : wsf x4.toNatClampNeg = nI (wkT i) := by rw [h4, nI_clamp (by omega)]; exact hws i hlt
        have hin4 : vp_in x4 94 := by rw [h4]; exact vp_in_nI hlt (by decide)
        have hsl := selN_le mu6 my6 n0 jk i
        refine lv_aload_n hx hb dX6_gatherFitting_52 rfl (lv_at hl 0 rfl) ?_
        refine va_get (D := D) (ci := 4) (v := .ref ws6) (C := RX6) (T := TX6) (N := 13) hx hb hts iX6 hown hK hP 0 rfl rfl 0 (by decide) k9 (fun _ h9 => h9) rfl dX6_gatherFitting_53 ?_
        refine lv_iload hx hb dX6_gatherFitting_56 (lv_at hl 4 rfl) ?_
        refine va_iald hx hb hK hP 1 0 rfl rfl (hin4) dX6_gatherFitting_58 ?_
        refine vp_callSi (W.runS (As := [.int (wsf x4.toNatClampNeg)]) (rest := []) ⟨hx, hb, hml, hown, hts⟩ (k_X5_shown l (wsf x4.toNatClampNeg) ) (va_cwS 1 hts gX6_gatherFitting_X5_shown rfl rfl rfl (by decide +kernel) ⟨Nat.le_of_ble_eq_true rfl, Nat.le_of_ble_eq_true rfl⟩) ⟨pS_fb, pS_pre⟩ rfl rfl hl.1 rfl (lv_room (Nat.le_of_ble_eq_true rfl)) dX6_gatherFitting_59 ⟨Nat.le_of_ble_eq_true rfl, Nat.le_of_ble_eq_true rfl⟩) (fun x59 hx59 => ?_)
        subst hx59
        refine lv_topi (fun x62 ex62 => ?_)
        refine lv_istore (lv' := [(5, .int x62), (0, .ref wk), (1, .int nx), (2, .int x2), (3, .int x3), (4, .int x4)]) hx hb dX6_gatherFitting_62 hl (by decide) rfl (fun ls hl => ?_)
        have h62 : x62 = nI (t_sh (wkT i)) := by rw [ex62, hwv]; exact jn_sh (wk_lt i hlt)
        refine lv_iload hx hb dX6_gatherFitting_64 (lv_at hl 0 rfl) ?_
        refine lv_iload_n hx hb dX6_gatherFitting_66 rfl (lv_at hl 3 rfl) ?_
        refine lv_iload_n hx hb dX6_gatherFitting_67 rfl (lv_at hl 4 rfl) ?_
        refine lv_ior hx hb dX6_gatherFitting_68 ?_
        refine lv_iconst (v := (-1)) hx hb dX6_gatherFitting_69 (by decide) ?_
        refine lv_ixor hx hb dX6_gatherFitting_70 ?_
        refine lv_iand hx hb dX6_gatherFitting_71 ?_
        refine vp_callSi (W.runS (As := [.int (x62 &&& ((x2 ||| x3) ^^^ (-1)))]) (rest := []) ⟨hx, hb, hml, hown, hts⟩ (k_J6_bitCount_0f7a4 l (x62 &&& ((x2 ||| x3) ^^^ (-1))) ) (va_cwS 1 hts gX6_gatherFitting_J6_bitCount_0f7a4 rfl rfl rfl (by decide +kernel) ⟨Nat.le_of_ble_eq_true rfl, Nat.le_of_ble_eq_true rfl⟩) ⟨pS_fb, pS_pre⟩ rfl rfl hl.1 rfl (lv_room (Nat.le_of_ble_eq_true rfl)) dX6_gatherFitting_72 ⟨Nat.le_of_ble_eq_true rfl, Nat.le_of_ble_eq_true rfl⟩) (fun x72 hx72 => ?_)
        subst hx72
        refine lv_topi (fun x75 ex75 => ?_)
        refine lv_istore (lv' := [(6, .int x75), (5, .int x62), (0, .ref wk), (1, .int nx), (2, .int x2), (3, .int x3), (4, .int x4)]) hx hb dX6_gatherFitting_75 hl (by decide) rfl (fun ls hl => ?_)
        have h75 : x75 = nI (miN mu6 my6 n0 i) := by rw [ex75, h62, h2, h3]; exact mi_eq
        refine lv_iload_n hx hb dX6_gatherFitting_77 rfl (lv_at hl 4 rfl) ?_
        refine lv_iload hx hb dX6_gatherFitting_78 (lv_at hl 1 rfl) ?_
        refine lv_iconst (v := (-1)) hx hb dX6_gatherFitting_80 (by decide) ?_
        refine lv_ixor hx hb dX6_gatherFitting_81 ?_
        refine lv_iand hx hb dX6_gatherFitting_82 ?_
        refine lv_if_ne (tgt := 132) hx hb dX6_gatherFitting_83 (by decide) (fun c_83 => ?_) (fun c_83 => ?_)
        · skip
          have hsf : selB mu6 my6 n0 jk i = false := sb_f1 (by rw [← h2, ← h62]; exact c_83)
          have e9 : (nI (selN mu6 my6 n0 jk i) : Int32) = nI (selN mu6 my6 n0 jk (i + 1)) := by rw [selN_n hsf]
          have hP : va_P D vwCl [(wk, .inr (4, [.ref ws6, .ref fi6, .ref ff6, .ref ga6, .int (nI (selN mu6 my6 n0 jk (i + 1))), .ref ahr, .ref atr, .long mu6, .long my6, .int (nI jk), .int ct6, .int bw6, .int un1])), (ws6, .inl (cI, 94, .inl wsf)), (fi6, .inl (cI, 94, .inl fq)), (ff6, .inl (cI, 17, .inl fr)), (ga6, .inl (cJ, 282, .inr (.inl gq)))] H := by rw [← e9]; exact hP
          have hD : va_D A [(wk, .inr (4, [.ref ws6, .ref fi6, .ref ff6, .ref ga6, .int (nI (selN mu6 my6 n0 jk (i + 1))), .ref ahr, .ref atr, .long mu6, .long my6, .int (nI jk), .int ct6, .int bw6, .int un1])), (ws6, .inl (cI, 94, .inl wsf)), (fi6, .inl (cI, 94, .inl fq)), (ff6, .inl (cI, 17, .inl fr)), (ga6, .inl (cJ, 282, .inr (.inl gq)))] := by rw [← e9]; exact hD
          exact lab132 fq gq (hlt) (hwv) (hin4) (GA1_n hGA hsf) _ _ hP hD hS ls (lv_sub hl [2, 3, 4, 5, 6] rfl)
        · refine lv_iload hx hb dX6_gatherFitting_86 (lv_at hl 0 rfl) ?_
          refine lv_aload_n hx hb dX6_gatherFitting_88 rfl (lv_at hl 2 rfl) ?_
          refine va_get (D := D) (ci := 4) (v := .int (nI jk)) (C := RX6) (T := TX6) (N := 13) hx hb hts iX6 hown hK hP 0 rfl rfl 9 (by decide) k103 (fun _ h9 => h9) rfl dX6_gatherFitting_89 ?_
          refine lv_icmp_gt (tgt := 132) hx hb dX6_gatherFitting_92 (by decide) (fun c_92 => ?_) (fun c_92 => ?_)
          · skip
            have hsf : selB mu6 my6 n0 jk i = false := sb_f2 hjk (by rw [← h75]; exact c_92)
            have e9 : (nI (selN mu6 my6 n0 jk i) : Int32) = nI (selN mu6 my6 n0 jk (i + 1)) := by rw [selN_n hsf]
            have hP : va_P D vwCl [(wk, .inr (4, [.ref ws6, .ref fi6, .ref ff6, .ref ga6, .int (nI (selN mu6 my6 n0 jk (i + 1))), .ref ahr, .ref atr, .long mu6, .long my6, .int (nI jk), .int ct6, .int bw6, .int un1])), (ws6, .inl (cI, 94, .inl wsf)), (fi6, .inl (cI, 94, .inl fq)), (ff6, .inl (cI, 17, .inl fr)), (ga6, .inl (cJ, 282, .inr (.inl gq)))] H := by rw [← e9]; exact hP
            have hD : va_D A [(wk, .inr (4, [.ref ws6, .ref fi6, .ref ff6, .ref ga6, .int (nI (selN mu6 my6 n0 jk (i + 1))), .ref ahr, .ref atr, .long mu6, .long my6, .int (nI jk), .int ct6, .int bw6, .int un1])), (ws6, .inl (cI, 94, .inl wsf)), (fi6, .inl (cI, 94, .inl fq)), (ff6, .inl (cI, 17, .inl fr)), (ga6, .inl (cJ, 282, .inr (.inl gq)))] := by rw [← e9]; exact hD
            exact lab132 fq gq (hlt) (hwv) (hin4) (GA1_n hGA hsf) _ _ hP hD hS ls (lv_sub hl [2, 3, 4, 5, 6] rfl)
          · have hst : selB mu6 my6 n0 jk i = true := sb_t hjk (by rw [← h2, ← h62]; exact c_83) (by rw [← h75]; exact c_92)
            have hop : x62 &&& x3 = nI (opT my6 n0 i) := by rw [h62, h3, fa_and]; rfl
            refine lv_aload_n hx hb dX6_gatherFitting_95 rfl (lv_at hl 2 rfl) ?_
            refine va_get (D := D) (ci := 4) (v := .ref fi6) (C := RX6) (T := TX6) (N := 13) hx hb hts iX6 hown hK hP 0 rfl rfl 1 (by decide) k15 (fun _ h9 => h9) rfl dX6_gatherFitting_96 ?_
            refine lv_aload_n hx hb dX6_gatherFitting_99 rfl (lv_at hl 2 rfl) ?_
            refine va_get (D := D) (ci := 4) (v := .int (nI (selN mu6 my6 n0 jk i))) (C := RX6) (T := TX6) (N := 13) hx hb hts iX6 hown hK hP 0 rfl rfl 4 (by decide) k140 (fun _ h9 => h9) rfl dX6_gatherFitting_100 ?_
            refine lv_aload_n hx hb dX6_gatherFitting_103 rfl (lv_at hl 2 rfl) ?_
            refine va_get (D := D) (ci := 4) (v := .ref ws6) (C := RX6) (T := TX6) (N := 13) hx hb hts iX6 hown hK hP 0 rfl rfl 0 (by decide) k9 (fun _ h9 => h9) rfl dX6_gatherFitting_104 ?_
            refine lv_iload hx hb dX6_gatherFitting_107 (lv_at hl 6 rfl) ?_
            refine va_iald hx hb hK hP 1 0 rfl rfl (hin4) dX6_gatherFitting_109 ?_
            refine va_iast hx hb hK hP hD hS 2 0 rfl rfl (vp_in_nI (by omega) (by decide)) dX6_gatherFitting_110 (fun H locs hP hD hS => ?_)
            have hP : va_P D vwCl [(wk, .inr (4, [.ref ws6, .ref fi6, .ref ff6, .ref ga6, .int (nI (selN mu6 my6 n0 jk i)), .ref ahr, .ref atr, .long mu6, .long my6, .int (nI jk), .int ct6, .int bw6, .int un1])), (ws6, .inl (cI, 94, .inl wsf)), (fi6, .inl (cI, 94, .inl (upd fq (nI (selN mu6 my6 n0 jk i)).toNatClampNeg (wsf x4.toNatClampNeg)))), (ff6, .inl (cI, 17, .inl fr)), (ga6, .inl (cJ, 282, .inr (.inl gq)))] H := hP
            have hD : va_D A [(wk, .inr (4, [.ref ws6, .ref fi6, .ref ff6, .ref ga6, .int (nI (selN mu6 my6 n0 jk i)), .ref ahr, .ref atr, .long mu6, .long my6, .int (nI jk), .int ct6, .int bw6, .int un1])), (ws6, .inl (cI, 94, .inl wsf)), (fi6, .inl (cI, 94, .inl (upd fq (nI (selN mu6 my6 n0 jk i)).toNatClampNeg (wsf x4.toNatClampNeg)))), (ff6, .inl (cI, 17, .inl fr)), (ga6, .inl (cJ, 282, .inr (.inl gq)))] := hD
            generalize ex110 : upd fq (nI (selN mu6 my6 n0 jk i)).toNatClampNeg (wsf x4.toNatClampNeg) = x110 at hP hD
            refine lv_aload_n hx hb dX6_gatherFitting_111 rfl (lv_at hl 2 rfl) ?_
            refine lv_iload_n hx hb dX6_gatherFitting_112 rfl (lv_at hl 3 rfl) ?_
            refine lv_iload hx hb dX6_gatherFitting_113 (lv_at hl 0 rfl) ?_
            refine lv_iload hx hb dX6_gatherFitting_115 (lv_at hl 1 rfl) ?_
            refine lv_iload_n hx hb dX6_gatherFitting_117 rfl (lv_at hl 5 rfl) ?_
            refine lv_iand hx hb dX6_gatherFitting_118 ?_
            have hPc := hP.sub (ws' := [(wk, .inr (4, [.ref ws6, .ref fi6, .ref ff6, .ref ga6, .int (nI (selN mu6 my6 n0 jk i)), .ref ahr, .ref atr, .long mu6, .long my6, .int (nI jk), .int ct6, .int bw6, .int un1])), (ga6, .inl (cJ, 282, .inr (.inl gq)))]) [0, 4] rfl
            have hDc := hD.sub (ws' := [(wk, .inr (4, [.ref ws6, .ref fi6, .ref ff6, .ref ga6, .int (nI (selN mu6 my6 n0 jk i)), .ref ahr, .ref atr, .long mu6, .long my6, .int (nI jk), .int ct6, .int bw6, .int un1])), (ga6, .inl (cJ, 282, .inr (.inl gq)))]) [0, 4] (by decide) rfl
            have hFc := va_free (wc := [(wk, .inr (4, [.ref ws6, .ref fi6, .ref ff6, .ref ga6, .int (nI (selN mu6 my6 n0 jk i)), .ref ahr, .ref atr, .long mu6, .long my6, .int (nI jk), .int ct6, .int bw6, .int un1])), (ga6, .inl (cJ, 282, .inr (.inl gq)))]) hD hS hA [0, 4] rfl
            refine va_callv (va_runV (As := [.int nx, .int x75, .int (x62 &&& x3)]) (rest := []) ⟨hx, hb, hml, hown, hts⟩ (k_X6_setGains l D cI cJ cZ H.size wk ws6 fi6 ff6 ga6 ahr atr (nI jk) ct6 bw6 un1 mu6 my6 (selN mu6 my6 n0 jk i) gq nx x75 (x62 &&& x3) (by omega)) (cwV 3 hts gX6_gatherFitting_X6_setGains rfl rfl rfl (by decide +kernel) ⟨Nat.le_of_ble_eq_true rfl, Nat.le_of_ble_eq_true rfl⟩) ⟨wM_fb, va_recv hK hPc (ci := 4) (q0 := 0) rfl rfl, wM_pre hPc ⟨hK, hN⟩ hDc⟩ rfl rfl hl.1 rfl (lv_room (Nat.le_of_ble_eq_true rfl)) dX6_gatherFitting_119 ⟨Nat.le_of_ble_eq_true rfl, Nat.le_of_ble_eq_true rfl⟩) hS (fun q _ h => hFc q h) hFc (fun u t H1 locs ht hvm hx119 hB hz1 hk1 hS => ?_)
            obtain ⟨gf2_x119, rfl⟩ : ∃ z, z = u := ⟨_, rfl⟩
            obtain ⟨hP1, hD1⟩ := hB
            rw [ht] at hP1
            obtain ⟨hP, hD⟩ := va_join (wr := [(ws6, .inl (cI, 94, .inl wsf)), (fi6, .inl (cI, 94, .inl x110)), (ff6, .inl (cI, 17, .inl fr))]) (w1 := [(wk, .inr (4, [.ref ws6, .ref fi6, .ref ff6, .ref ga6, .int (nI (selN mu6 my6 n0 jk i)), .ref ahr, .ref atr, .long mu6, .long my6, .int (nI jk), .int ct6, .int bw6, .int un1])), (ga6, .inl (cJ, 282, .inr (.inl gf2_x119)))]) hP hD [0, 4] [1, 2, 3] rfl rfl (by decide) (by decide) hk1 hFc hP1 hD1
            generalize H1 = H at hP hS ⊢
            have hP : va_P D vwCl [(ws6, .inl (cI, 94, .inl wsf)), (fi6, .inl (cI, 94, .inl x110)), (ff6, .inl (cI, 17, .inl fr)), (wk, .inr (4, [.ref ws6, .ref fi6, .ref ff6, .ref ga6, .int (nI (selN mu6 my6 n0 jk i)), .ref ahr, .ref atr, .long mu6, .long my6, .int (nI jk), .int ct6, .int bw6, .int un1])), (ga6, .inl (cJ, 282, .inr (.inl gf2_x119)))] H := hP
            have hD : va_D A [(ws6, .inl (cI, 94, .inl wsf)), (fi6, .inl (cI, 94, .inl x110)), (ff6, .inl (cI, 17, .inl fr)), (wk, .inr (4, [.ref ws6, .ref fi6, .ref ff6, .ref ga6, .int (nI (selN mu6 my6 n0 jk i)), .ref ahr, .ref atr, .long mu6, .long my6, .int (nI jk), .int ct6, .int bw6, .int un1])), (ga6, .inl (cJ, 282, .inr (.inl gf2_x119)))] := hD
            try dsimp only at hx119
            refine lv_aload_n hx hb dX6_gatherFitting_122 rfl (lv_at hl 2 rfl) ?_
            refine lv_dup hx hb dX6_gatherFitting_123 rfl ?_
            refine va_get (D := D) (ci := 4) (v := .int (nI (selN mu6 my6 n0 jk i))) (C := RX6) (T := TX6) (N := 13) hx hb hts iX6 hown hK hP 3 rfl rfl 4 (by decide) k140 (fun _ h9 => h9) rfl dX6_gatherFitting_124 ?_
            refine lv_iconst (v := 1) hx hb dX6_gatherFitting_127 (by decide) ?_
            refine lv_iadd hx hb dX6_gatherFitting_128 ?_
            refine lv_topi (fun x129 ex129 => ?_)
            rw [show ((nI (selN mu6 my6 n0 jk i)) + 1 : Int32) = nI (selN mu6 my6 n0 jk (i + 1)) from by rw [selN_y hst]; exact nI_1 _] at ex129
            subst ex129
            refine va_put (D := D) (ci := 4) (v := .int (nI (selN mu6 my6 n0 jk (i + 1)))) (ty := .int) (C := RX6) (T := TX6) (N := 13) hx hb hts iX6 tyX6 tyX6_ok nmX6 hown hK hP hD hS 3 rfl rfl 4 (by decide) k140 (fun _ h9 => h9) rfl (by decide +kernel) rfl rfl (Nat.le_of_ble_eq_true rfl) dX6_gatherFitting_129 (fun H locs hP hD hS => ?_)
            have hP : va_P D vwCl [(ws6, .inl (cI, 94, .inl wsf)), (fi6, .inl (cI, 94, .inl x110)), (ff6, .inl (cI, 17, .inl fr)), (wk, .inr (4, [.ref ws6, .ref fi6, .ref ff6, .ref ga6, .int (nI (selN mu6 my6 n0 jk (i + 1))), .ref ahr, .ref atr, .long mu6, .long my6, .int (nI jk), .int ct6, .int bw6, .int un1])), (ga6, .inl (cJ, 282, .inr (.inl gf2_x119)))] H := hP
            have hD : va_D A [(ws6, .inl (cI, 94, .inl wsf)), (fi6, .inl (cI, 94, .inl x110)), (ff6, .inl (cI, 17, .inl fr)), (wk, .inr (4, [.ref ws6, .ref fi6, .ref ff6, .ref ga6, .int (nI (selN mu6 my6 n0 jk (i + 1))), .ref ahr, .ref atr, .long mu6, .long my6, .int (nI jk), .int ct6, .int bw6, .int un1])), (ga6, .inl (cJ, 282, .inr (.inl gf2_x119)))] := hD
            exact lab132 x110 gf2_x119 (hlt) (hwv) (hin4) (GA1_y hlt hGA hst ex110 hwv h75 hop hx119) _ _ (hP.sub [3, 0, 1, 2, 4] rfl) (hD.sub [3, 0, 1, 2, 4] (by decide) rfl) hS ls (lv_sub hl [2, 3, 4, 5, 6] rfl)
  refine lv_aload_n hx hb dX6_gatherFitting_0 rfl (lv_at hl 0 rfl) ?_
  refine va_get (D := D) (ci := 4) (v := .long mu6) (C := RX6) (T := TX6) (N := 13) hx hb hts iX6 hown hK hP 0 rfl rfl 7 (by decide) k41 (fun _ h9 => h9) rfl dX6_gatherFitting_1 ?_
  refine lv_iload_n hx hb dX6_gatherFitting_4 rfl (lv_at hl 1 rfl) ?_
  refine vp_callSi (W.runS (As := [.long mu6, .int nx]) (rest := []) ⟨hx, hb, hml, hown, hts⟩ (k_X0_coloursOf l mu6 nx ) (va_cwS 2 hts gX6_gatherFitting_X0_coloursOf rfl rfl rfl (by decide +kernel) ⟨Nat.le_of_ble_eq_true rfl, Nat.le_of_ble_eq_true rfl⟩) ⟨pS_fb, pS_pre⟩ rfl rfl hl.1 rfl (lv_room (Nat.le_of_ble_eq_true rfl)) dX6_gatherFitting_5 ⟨Nat.le_of_ble_eq_true rfl, Nat.le_of_ble_eq_true rfl⟩) (fun x5 hx5 => ?_)
  subst hx5
  refine lv_topi (fun x8 ex8 => ?_)
  refine lv_istore_n (lv' := [(2, .int x8), (0, .ref wk), (1, .int nx)]) hx hb dX6_gatherFitting_8 rfl hl (by decide) rfl (fun ls hl => ?_)
  have h8 : x8 = nI (nd mu6 n0) := by rw [ex8, hnx]; exact jn_col hn0
  refine lv_aload_n hx hb dX6_gatherFitting_9 rfl (lv_at hl 1 rfl) ?_
  refine va_get (D := D) (ci := 4) (v := .long my6) (C := RX6) (T := TX6) (N := 13) hx hb hts iX6 hown hK hP 0 rfl rfl 8 (by decide) k45 (fun _ h9 => h9) rfl dX6_gatherFitting_10 ?_
  refine lv_iload_n hx hb dX6_gatherFitting_13 rfl (lv_at hl 2 rfl) ?_
  refine vp_callSi (W.runS (As := [.long my6, .int nx]) (rest := []) ⟨hx, hb, hml, hown, hts⟩ (k_X0_coloursOf l my6 nx ) (va_cwS 2 hts gX6_gatherFitting_X0_coloursOf rfl rfl rfl (by decide +kernel) ⟨Nat.le_of_ble_eq_true rfl, Nat.le_of_ble_eq_true rfl⟩) ⟨pS_fb, pS_pre⟩ rfl rfl hl.1 rfl (lv_room (Nat.le_of_ble_eq_true rfl)) dX6_gatherFitting_14 ⟨Nat.le_of_ble_eq_true rfl, Nat.le_of_ble_eq_true rfl⟩) (fun x14 hx14 => ?_)
  subst hx14
  refine lv_topi (fun x17 ex17 => ?_)
  refine lv_istore_n (lv' := [(3, .int x17), (2, .int x8), (0, .ref wk), (1, .int nx)]) hx hb dX6_gatherFitting_17 rfl hl (by decide) rfl (fun ls hl => ?_)
  have h17 : x17 = nI (nd my6 n0) := by rw [ex17, hnx]; exact jn_col hn0
  refine lv_aload_n hx hb dX6_gatherFitting_18 rfl (lv_at hl 2 rfl) ?_
  refine lv_aload_n hx hb dX6_gatherFitting_19 rfl (lv_at hl 2 rfl) ?_
  refine va_get (D := D) (ci := 4) (v := .int bw6) (C := RX6) (T := TX6) (N := 13) hx hb hts iX6 hown hK hP 0 rfl rfl 11 (by decide) k77 (fun _ h9 => h9) rfl dX6_gatherFitting_20 ?_
  refine lv_if_eq (tgt := 33) hx hb dX6_gatherFitting_23 (by decide) (fun c_23 => ?_) (fun c_23 => ?_)
  · refine lv_iconst (v := 1) hx hb dX6_gatherFitting_33 (by decide) ?_
    refine va_put (D := D) (ci := 4) (v := .int 1) (ty := .int) (C := RX6) (T := TX6) (N := 13) hx hb hts iX6 tyX6 tyX6_ok nmX6 hown hK hP hD hS 0 rfl rfl 12 (by decide) k137 (fun _ h9 => h9) rfl (by decide +kernel) rfl rfl (Nat.le_of_ble_eq_true rfl) dX6_gatherFitting_34 (fun H locs hP hD hS => ?_)
    have hP : va_P D vwCl [(wk, .inr (4, [.ref ws6, .ref fi6, .ref ff6, .ref ga6, .int ft6, .ref ahr, .ref atr, .long mu6, .long my6, .int (nI jk), .int ct6, .int bw6, .int 1])), (ws6, .inl (cI, 94, .inl wsf)), (fi6, .inl (cI, 94, .inl fif)), (ff6, .inl (cI, 17, .inl fff)), (ga6, .inl (cJ, 282, .inr (.inl gf)))] H := hP
    have hD : va_D A [(wk, .inr (4, [.ref ws6, .ref fi6, .ref ff6, .ref ga6, .int ft6, .ref ahr, .ref atr, .long mu6, .long my6, .int (nI jk), .int ct6, .int bw6, .int 1])), (ws6, .inl (cI, 94, .inl wsf)), (fi6, .inl (cI, 94, .inl fif)), (ff6, .inl (cI, 17, .inl fff)), (ga6, .inl (cJ, 282, .inr (.inl gf)))] := hD
    have hunn : 1 = (if bw6 = 0 then 1 else j_X0_worthOfNumber nx) := by first | (rw [if_pos c_23]; done) | (rw [if_neg c_23]; done)
    refine lv_aload_n hx hb dX6_gatherFitting_37 rfl (lv_at hl 2 rfl) ?_
    refine lv_iconst (v := 0) hx hb dX6_gatherFitting_38 (by decide) ?_
    refine va_put (D := D) (ci := 4) (v := .int 0) (ty := .int) (C := RX6) (T := TX6) (N := 13) hx hb hts iX6 tyX6 tyX6_ok nmX6 hown hK hP hD hS 0 rfl rfl 4 (by decide) k140 (fun _ h9 => h9) rfl (by decide +kernel) rfl rfl (Nat.le_of_ble_eq_true rfl) dX6_gatherFitting_39 (fun H locs hP hD hS => ?_)
    have hP : va_P D vwCl [(wk, .inr (4, [.ref ws6, .ref fi6, .ref ff6, .ref ga6, .int 0, .ref ahr, .ref atr, .long mu6, .long my6, .int (nI jk), .int ct6, .int bw6, .int 1])), (ws6, .inl (cI, 94, .inl wsf)), (fi6, .inl (cI, 94, .inl fif)), (ff6, .inl (cI, 17, .inl fff)), (ga6, .inl (cJ, 282, .inr (.inl gf)))] H := hP
    have hD : va_D A [(wk, .inr (4, [.ref ws6, .ref fi6, .ref ff6, .ref ga6, .int 0, .ref ahr, .ref atr, .long mu6, .long my6, .int (nI jk), .int ct6, .int bw6, .int 1])), (ws6, .inl (cI, 94, .inl wsf)), (fi6, .inl (cI, 94, .inl fif)), (ff6, .inl (cI, 17, .inl fff)), (ga6, .inl (cJ, 282, .inr (.inl gf)))] := hD
    have e9 : (0 : Int32) = nI (selN mu6 my6 n0 jk 0) := rfl
    have hP : va_P D vwCl [(wk, .inr (4, [.ref ws6, .ref fi6, .ref ff6, .ref ga6, .int (nI (selN mu6 my6 n0 jk 0)), .ref ahr, .ref atr, .long mu6, .long my6, .int (nI jk), .int ct6, .int bw6, .int 1])), (ws6, .inl (cI, 94, .inl wsf)), (fi6, .inl (cI, 94, .inl fif)), (ff6, .inl (cI, 17, .inl fff)), (ga6, .inl (cJ, 282, .inr (.inl gf)))] H := by rw [← e9]; exact hP
    have hD : va_D A [(wk, .inr (4, [.ref ws6, .ref fi6, .ref ff6, .ref ga6, .int (nI (selN mu6 my6 n0 jk 0)), .ref ahr, .ref atr, .long mu6, .long my6, .int (nI jk), .int ct6, .int bw6, .int 1])), (ws6, .inl (cI, 94, .inl wsf)), (fi6, .inl (cI, 94, .inl fif)), (ff6, .inl (cI, 17, .inl fff)), (ga6, .inl (cJ, 282, .inr (.inl gf)))] := by rw [← e9]; exact hD
    refine lv_iconst (v := 0) hx hb dX6_gatherFitting_42 (by decide) ?_
    refine lv_istore (lv' := [(4, .int 0), (3, .int x17), (2, .int x8), (0, .ref wk), (1, .int nx)]) hx hb dX6_gatherFitting_43 hl (by decide) rfl (fun ls hl => ?_)
    exact lab45 _ 0 x8 x17 0 1 fif fff gf (h8) (h17) (hunn) (nI_0.symm) (by omega) (fun k h => absurd h (Nat.not_lt_zero k)) (fun on _ h => absurd h (Nat.not_lt_zero _)) (rfl) (Nat.lt_succ_self _) _ _ hP hD hS ls (lv_sub hl [3, 4, 2, 1, 0] rfl)
  · refine lv_iload_n hx hb dX6_gatherFitting_26 rfl (lv_at hl 3 rfl) ?_
    refine vp_callSi (W.runS (As := [.int nx]) (rest := [.ref wk]) ⟨hx, hb, hml, hown, hts⟩ (k_X0_worthOfNumber l nx ) (va_cwS 1 hts gX6_gatherFitting_X0_worthOfNumber rfl rfl rfl (by decide +kernel) ⟨Nat.le_of_ble_eq_true rfl, Nat.le_of_ble_eq_true rfl⟩) ⟨pS_fb, pS_pre⟩ rfl rfl hl.1 rfl (lv_room (Nat.le_of_ble_eq_true rfl)) dX6_gatherFitting_27 ⟨Nat.le_of_ble_eq_true rfl, Nat.le_of_ble_eq_true rfl⟩) (fun x27 hx27 => ?_)
    subst hx27
    refine lv_goto (tgt := 34) hx hb dX6_gatherFitting_30 (by decide) ?_
    refine va_put (D := D) (ci := 4) (v := .int (j_X0_worthOfNumber nx)) (ty := .int) (C := RX6) (T := TX6) (N := 13) hx hb hts iX6 tyX6 tyX6_ok nmX6 hown hK hP hD hS 0 rfl rfl 12 (by decide) k137 (fun _ h9 => h9) rfl (by decide +kernel) rfl rfl (Nat.le_of_ble_eq_true rfl) dX6_gatherFitting_34 (fun H locs hP hD hS => ?_)
    have hP : va_P D vwCl [(wk, .inr (4, [.ref ws6, .ref fi6, .ref ff6, .ref ga6, .int ft6, .ref ahr, .ref atr, .long mu6, .long my6, .int (nI jk), .int ct6, .int bw6, .int (j_X0_worthOfNumber nx)])), (ws6, .inl (cI, 94, .inl wsf)), (fi6, .inl (cI, 94, .inl fif)), (ff6, .inl (cI, 17, .inl fff)), (ga6, .inl (cJ, 282, .inr (.inl gf)))] H := hP
    have hD : va_D A [(wk, .inr (4, [.ref ws6, .ref fi6, .ref ff6, .ref ga6, .int ft6, .ref ahr, .ref atr, .long mu6, .long my6, .int (nI jk), .int ct6, .int bw6, .int (j_X0_worthOfNumber nx)])), (ws6, .inl (cI, 94, .inl wsf)), (fi6, .inl (cI, 94, .inl fif)), (ff6, .inl (cI, 17, .inl fff)), (ga6, .inl (cJ, 282, .inr (.inl gf)))] := hD
    have hunn : j_X0_worthOfNumber nx = (if bw6 = 0 then 1 else j_X0_worthOfNumber nx) := by first | (rw [if_pos c_23]; done) | (rw [if_neg c_23]; done)
    refine lv_aload_n hx hb dX6_gatherFitting_37 rfl (lv_at hl 2 rfl) ?_
    refine lv_iconst (v := 0) hx hb dX6_gatherFitting_38 (by decide) ?_
    refine va_put (D := D) (ci := 4) (v := .int 0) (ty := .int) (C := RX6) (T := TX6) (N := 13) hx hb hts iX6 tyX6 tyX6_ok nmX6 hown hK hP hD hS 0 rfl rfl 4 (by decide) k140 (fun _ h9 => h9) rfl (by decide +kernel) rfl rfl (Nat.le_of_ble_eq_true rfl) dX6_gatherFitting_39 (fun H locs hP hD hS => ?_)
    have hP : va_P D vwCl [(wk, .inr (4, [.ref ws6, .ref fi6, .ref ff6, .ref ga6, .int 0, .ref ahr, .ref atr, .long mu6, .long my6, .int (nI jk), .int ct6, .int bw6, .int (j_X0_worthOfNumber nx)])), (ws6, .inl (cI, 94, .inl wsf)), (fi6, .inl (cI, 94, .inl fif)), (ff6, .inl (cI, 17, .inl fff)), (ga6, .inl (cJ, 282, .inr (.inl gf)))] H := hP
    have hD : va_D A [(wk, .inr (4, [.ref ws6, .ref fi6, .ref ff6, .ref ga6, .int 0, .ref ahr, .ref atr, .long mu6, .long my6, .int (nI jk), .int ct6, .int bw6, .int (j_X0_worthOfNumber nx)])), (ws6, .inl (cI, 94, .inl wsf)), (fi6, .inl (cI, 94, .inl fif)), (ff6, .inl (cI, 17, .inl fff)), (ga6, .inl (cJ, 282, .inr (.inl gf)))] := hD
    have e9 : (0 : Int32) = nI (selN mu6 my6 n0 jk 0) := rfl
    have hP : va_P D vwCl [(wk, .inr (4, [.ref ws6, .ref fi6, .ref ff6, .ref ga6, .int (nI (selN mu6 my6 n0 jk 0)), .ref ahr, .ref atr, .long mu6, .long my6, .int (nI jk), .int ct6, .int bw6, .int (j_X0_worthOfNumber nx)])), (ws6, .inl (cI, 94, .inl wsf)), (fi6, .inl (cI, 94, .inl fif)), (ff6, .inl (cI, 17, .inl fff)), (ga6, .inl (cJ, 282, .inr (.inl gf)))] H := by rw [← e9]; exact hP
    have hD : va_D A [(wk, .inr (4, [.ref ws6, .ref fi6, .ref ff6, .ref ga6, .int (nI (selN mu6 my6 n0 jk 0)), .ref ahr, .ref atr, .long mu6, .long my6, .int (nI jk), .int ct6, .int bw6, .int (j_X0_worthOfNumber nx)])), (ws6, .inl (cI, 94, .inl wsf)), (fi6, .inl (cI, 94, .inl fif)), (ff6, .inl (cI, 17, .inl fff)), (ga6, .inl (cJ, 282, .inr (.inl gf)))] := by rw [← e9]; exact hD
    refine lv_iconst (v := 0) hx hb dX6_gatherFitting_42 (by decide) ?_
    refine lv_istore (lv' := [(4, .int 0), (3, .int x17), (2, .int x8), (0, .ref wk), (1, .int nx)]) hx hb dX6_gatherFitting_43 hl (by decide) rfl (fun ls hl => ?_)
    exact lab45 _ 0 x8 x17 0 (j_X0_worthOfNumber nx) fif fff gf (h8) (h17) (hunn) (nI_0.symm) (by omega) (fun k h => absurd h (Nat.not_lt_zero k)) (fun on _ h => absurd h (Nat.not_lt_zero _)) (rfl) (Nat.lt_succ_self _) _ _ hP hD hS ls (lv_sub hl [3, 4, 2, 1, 0] rfl)
