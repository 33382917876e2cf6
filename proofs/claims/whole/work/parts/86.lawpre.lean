/-! THE CLAIM OUT OF ONE WALK OF THE LAW'S BODY. Your part is whole_start (and what it stands on); all else here is the same for every law, but numbers. -/
def R_law : String := "RummyTableLaw"
def lw_P (b : Addr) (xs : List Int32) (args : Array Value) (s : State) : Prop := args = #[.ref b] ∧ s.IntsAt b xs ∧ xs.length ≤ 3072 ∧ (Jvm.Cond.and given_1 narrow_1).before args s = true
def lw_Q (_ : Array Value) (s : State) (o : Outcome) (t : State) : Prop := o = .returned (some (.int 1)) ∧ Framed s o t [] 600000 7302250
def lw_Z (below : List Frame) (a : Array Value) (s : State) : State → Prop := fun t => ∃ o, t.status = .running ∧ Ended t below o ∧ lw_Q a s o t
/-- the law's own end, with 1 on the stack, nothing written that was there before, its room as the claim has it -/
theorem lw_ret {p : Program} {l : Launch} {e : Env} {s : State} {m : MethodId} {below : List Frame} {meth : Method} {c : Code} {b : Nat} (hx : p.tables.exec = Jvm.exec) (hb : c.code = code) (hr : meth.sig.returnType = ret) (hlocks : meth.locks = false) {pc : Nat} {H : Heap} {ls : Array Slot} (hdg : decode code pc = .ok (.ireturn, 1)) : W p l e room_1 s m #[Value.ref b] below meth c H [] 600000 7302250 (lw_Z below #[Value.ref b] s) (F0 m pc ls [.int 1]) := by
  intro T hT X
  obtain ⟨fs, hret, hrun, hended, hW, hframe⟩ := X.leave (v := some (.int 1)) (hlocks := hlocks) (fun h => by rw [hr] at h; cases h)
  have hmeth' : T.vm.method? m = some meth := X.method'
  refine ⟨T.setFrames fs, ?_, .returned (some (.int 1)), hrun, hended, rfl, ⟨_, rfl⟩, hW, hframe⟩
  jvm_step X.here [X.here.top, hx, hb, hdg, hmeth', hr, ret, narrow_b1]
  (try refine ⟨rfl, ?_⟩); (try refine ⟨rfl, ?_⟩)
  first | (intro acts; rw [hret _ acts rfl rfl rfl]) | rw [hret _ _ rfl rfl rfl]
  exact Steps.refl _
/-- what holds at the law's entry: the machine, the code, the tables' words (any of lw_tbl by 'hts w (by decide +kernel)'), the script of L ints xs at the cell b, what the Statement gives of the start (any of its parts by flat_of_before) -/
def lw_At (p : Program) (s : State) (m : MethodId) (meth : Method) (c : Code) (b L : Nat) (xs : Nat → Int32) : Prop :=
  p.tables.exec = Jvm.exec ∧ c.code = code ∧ meth.sig.returnType = ret ∧ c.maxLocals = 4 ∧ s.vm.findClass R_law = some m.cls ∧ (∀ w ∈ lw_tbl, w.before #[Value.ref b] s = true) ∧ va_X b L xs s s.heap ∧ b < s.heap.size ∧ meth.locks = false ∧ (Jvm.Cond.and given_1 narrow_1).before #[Value.ref b] s = true
def lwC (D : va_G) (cI cJ cZ : ClassId) (p : Program) (s : State) (m : MethodId) (meth : Method) (c : Code) (b L : Nat) (xs : Nat → Int32) : Prop := p.tables.exec = Jvm.exec ∧ c.code = cL_law ∧ meth.sig.returnType = ret ∧ c.maxLocals = 4 ∧ s.vm.findClass RL = some m.cls ∧ (∀ w ∈ wsL_law, w.before #[Value.ref b] s = true) ∧ va_X b L xs s s.heap ∧ b < s.heap.size ∧ va_K D vwCl (TYS cI cJ cZ) s ∧ nst s
theorem sc_in {x k : Int32} {i j L : Nat} (h : x = nI i) (hk : k = nI j) (hj : j < 6) (h6 : i + 6 ≤ L) (hL : L ≤ 3072) : vp_in (x + k) L := by
  rw [h, hk, nI_add]; exact vp_in_nI (by omega) (by omega)
theorem ways_c {set : Int64} {st7 st8 : Int32} {r7 r8 : Int64} {w w2 : Nat → Int64} {P : Prop} (h7 : (¬ isS set → st7 = 1 ∧ r7 = -1) ∧ (isS set → st7 = 0 ∧ ∀ w, WaysEq set w → r7 = w 0) ∧ P) (h8 : (isS set → st8 = 0 ∧ WaysEq set w2 ∧ r8 = w2 0) ∧ (¬ isS set → st8 = 1 ∧ r8 = -1 ∧ w2 = w)) : r7 = r8 ∧ st7 = st8 := by
  by_cases z : isS set
  · obtain ⟨a1, a2⟩ := h7.2.1 z
    obtain ⟨b1, b2, b3⟩ := h8.1 z
    exact ⟨by rw [a2 _ b2, b3], by rw [a1, b1]⟩
  · obtain ⟨a1, a2⟩ := h7.1 z
    obtain ⟨b1, b2, _⟩ := h8.2 z
    exact ⟨by rw [a2, b2], by rw [a1, b1]⟩
theorem worth_c {set : Int64} {st7 st8 r7 r8 : Int32} (h7 : (isS set → st7 = 0 ∧ r7 = j_X0_worthOfSet set) ∧ (¬ isS set → st7 = 1 ∧ r7 = -1)) (h8 : (isS set → st8 = 0 ∧ r8 = j_X8_worthAll set) ∧ (¬ isS set → st8 = 1 ∧ r8 = -1)) : r7 = r8 ∧ st7 = st8 := by
  by_cases z : isS set
  · obtain ⟨a1, a2⟩ := h7.1 z
    obtain ⟨b1, b2⟩ := h8.1 z
    exact ⟨by rw [a2, b2, worth_S z], by rw [a1, b1]⟩
  · obtain ⟨a1, a2⟩ := h7.2 z
    obtain ⟨b1, b2⟩ := h8.2 z
    exact ⟨by rw [a2, b2], by rw [a1, b1]⟩
theorem open_c {w op st7 st8 r7 r8 o7 o8 : Int32} (h7 : (okOp w → st7 = 0 ∧ o7 = w ∧ r7 = 1) ∧ (¬ okOp w → st7 = 1 ∧ o7 = op ∧ r7 = 0)) (h8 : (okOp w → st8 = 0 ∧ o8 = w ∧ r8 = 1) ∧ (¬ okOp w → st8 = 1 ∧ o8 = op ∧ r8 = 0)) : r7 = r8 ∧ st7 = st8 ∧ o7 = o8 := by
  by_cases z : okOp w
  · obtain ⟨a1, a2, a3⟩ := h7.1 z
    obtain ⟨b1, b2, b3⟩ := h8.1 z
    exact ⟨by rw [a3, b3], by rw [a1, b1], by rw [a2, b2]⟩
  · obtain ⟨a1, a2, a3⟩ := h7.2 z
    obtain ⟨b1, b2, b3⟩ := h8.2 z
    exact ⟨by rw [a3, b3], by rw [a1, b1], by rw [a2, b2]⟩
theorem pair_c {α : Type} {a b : Int32} {r q : α} {v w : Int32 × α} (h1 : (a, r) = v) (h2 : (b, q) = w) (h : v = w) : r = q ∧ a = b := by
  have e := h1.trans (h.trans h2.symm)
  exact ⟨congrArg Prod.snd e, congrArg Prod.fst e⟩
theorem nn_of {x k : Int32} {n : Nat} (hk : k = nI n) (hn : n < 2 ^ 31) (h : ¬ x < k) : ∃ j : Nat, j < 2 ^ 31 ∧ x = nI j ∧ n ≤ j := by
  have h0 : ¬ x < 0 := fun z => h (by
    rw [Int32.lt_iff_toInt_lt] at z ⊢
    rw [hk, nI_toInt hn]
    have h00 : (0 : Int32).toInt = 0 := by decide +kernel
    omega)
  obtain ⟨j, hj, rfl⟩ := nI_of h0
  refine ⟨j, hj, rfl, ?_⟩
  rw [hk, nI_ltI hj hn] at h
  omega
theorem okD_n {p q r : Int32} (h : okD p q r) : ∃ nq mn sd : Nat, p = nI nq ∧ q = nI mn ∧ r = nI sd ∧ 2 ≤ nq ∧ nq ≤ 4 ∧ 1 ≤ mn ∧ mn ≤ 13 ∧ 1 ≤ sd ∧ sd < 2147483647 := by
  obtain ⟨h1, h2, h3, h4, h5, h6⟩ := h
  obtain ⟨a, a1, rfl, a2⟩ := nn_of (n := 2) rfl (by decide) h1
  obtain ⟨b, b1, rfl, b2⟩ := nn_of (n := 1) rfl (by decide) h3
  obtain ⟨c, c1, rfl, c2⟩ := nn_of (n := 1) rfl (by decide) h5
  rw [show (4 : Int32) = nI 4 from rfl, nI_ltI (by decide) a1] at h2
  rw [show (13 : Int32) = nI 13 from rfl, nI_ltI (by decide) b1] at h4
  rw [show (2147483646 : Int32) = nI 2147483646 from rfl, nI_ltI (by decide) c1] at h6
  exact ⟨a, b, c, rfl, rfl, rfl, a2, by omega, b2, by omega, c2, by omega⟩
theorem igd_1 {n : Nat} (h1 : 1 ≤ n) (h2 : n ≤ 4) : igF n = 1 := by
  unfold igF
  rw [if_neg (nI_nle (by omega) (by omega))]
theorem GE_deal {nq mn sd : Nat} {hf hf8 : Nat → Int64} {of of8 : Nat → Int32} (h2 : 2 ≤ nq) (h4 : nq ≤ 4) (a1 : ∀ q, q < 4 → hf q = bgH sd nq mn q) (a2 : ∀ q, q < 4 → of q = 0) (b1 : ∀ q, q < nq → hf8 q = bgH sd nq mn q) (b2 : ∀ q, q < nq → of8 q = 0) : GE nq 0 hf hf8 of of8 := by
  intro q hq
  have hn : q < nq := by rcases hq with w | w <;> omega
  have hn' : q < 4 := by omega
  exact ⟨by rw [a1 q hn', b1 q hn], by rw [a2 q hn', b2 q hn]⟩
theorem le_six {i L : Nat} (hL : L ≤ 3072) (hi : i ≤ L) (h : ¬ nI L - 6 < nI i) : i + 6 ≤ L := by
  rcases Nat.lt_or_ge L 6 with z | z
  · exfalso
    have hl : L = 0 ∨ L = 1 ∨ L = 2 ∨ L = 3 ∨ L = 4 ∨ L = 5 := by omega
    have h0 := nI_pos' (n := i) (by omega)
    apply h
    rw [Int32.lt_iff_toInt_lt]
    rw [Int32.le_iff_toInt_le] at h0
    have h00 : (0 : Int32).toInt = 0 := by decide +kernel
    rcases hl with rfl | rfl | rfl | rfl | rfl | rfl
    · have e : (nI 0 - 6).toInt = -6 := by decide +kernel
      omega
    · have e : (nI 1 - 6).toInt = -5 := by decide +kernel
      omega
    · have e : (nI 2 - 6).toInt = -4 := by decide +kernel
      omega
    · have e : (nI 3 - 6).toInt = -3 := by decide +kernel
      omega
    · have e : (nI 4 - 6).toInt = -2 := by decide +kernel
      omega
    · have e : (nI 5 - 6).toInt = -1 := by decide +kernel
      omega
  · obtain ⟨k, rfl⟩ : ∃ k, L = k + 6 := ⟨L - 6, by omega⟩
    rw [← nI_add, show nI 6 = (6 : Int32) from rfl, Int32.add_sub_cancel, nI_ltI (by omega) (by omega)] at h
    omega
theorem cm_x {x y : Int64} (h : x = y) : lg_cmp x y = 0 := cmp_eq.mpr h
/-- the machine stands at pc of the law with all its cells as the invariant says: it comes to its end -/
def lwAt (p : Program) (l : Launch) (e : Env) (s : State) (m : MethodId) (below : List Frame) (meth : Method) (c : Code) (D : va_G) (cI cJ cZ : ClassId) (b : Nat) (A : Nat → Prop) (ox m8 : Nat) (wsf stp : Nat → Int32) (x3 : Int32) (pc : Nat) : Prop := ∀ (np tp tn : Nat) (wk : Nat) (ws6 : Nat) (fi6 : Nat) (ff6 : Nat) (ga6 : Nat) (ahr : Nat) (hca : Nat) (hla : Nat) (hta : Nat) (atr : Nat) (tca : Nat) (tla : Nat) (tta : Nat) (so : Nat) (sp : Nat) (hp : Nat) (g : Nat) (ha : Nat) (oa : Nat) (pa : Nat) (ko : Nat) (sk : Nat) (tr : Nat) (ta : Nat) (wa : Nat) (pa8 : Nat) (sta : Nat) (mo : Nat) (hea : Nat) (tha : Nat) (hd8 : Nat) (od8 : Nat) (cd8 : Nat) (opa : Nat) (osa : Nat) (op : Int32) (st : Int32) (se : Int64) (hq : Nat → Int64) (own : Int64) (sf : Nat → Int32) (town : Int64) (tf7 : Nat → Int32) (ft6 : Int32) (mu6 : Int64) (my6 : Int64) (jk6 : Int32) (ct6 : Int32) (bw6 : Int32) (un6 : Int32) (fif : Nat → Int32) (fff : Nat → Int32) (gf : Nat → Int64) (hcn : Int32) (hcf : Nat → Int64) (hlf : Nat → Int32) (htf : Nat → Int32) (tcn : Int32) (tcf : Nat → Int64) (tlf : Nat → Int32) (ttf : Nat → Int32) (ly : Int64) (te : Int32) (lay : Int32) (idl : Int32) (ov : Int32) (win : Int32) (hf : Nat → Int64) (of : Nat → Int32) (pf : Nat → Int32) (wf : Nat → Int64) (pf8 : Nat → Int32) (sf8 : Nat → Int32) (mf : Nat → Int32) (hf9 : Nat → Int32) (tf9 : Nat → Int32) (hf8 : Nat → Int64) (of8 : Nat → Int32) (cf8 : Nat → Int32) (opf : Nat → Int32) (osf : Nat → Int32), wOK wsf fff hcf hlf htf hcn tcf tlf ttf tcn → LR own pf8 sf8 sf → GI np tp tn ly idl ov hf pf → GE np tn hf hf8 of of8 → (∀ k, k < 54 → pf k = cf8 k) → ∀ (H : Heap) (locs : List Loc), va_P D vwCl [(ox, .inr (5, [.ref wk, .ref so, .ref g, .ref ko, .ref tr, .int op, .int st])), (so, .inr (3, [.ref sp, .ref hp, .long se])), (sp, .inl (cI, 94, .inl stp)), (hp, .inl (cJ, 156, .inr (.inl hq))), (ko, .inr (1, [.ref sk, .long own])), (sk, .inl (cI, 13, .inl sf)), (tr, .inr (1, [.ref ta, .long town])), (ta, .inl (cI, 13, .inl tf7)), (wk, .inr (4, [.ref ws6, .ref fi6, .ref ff6, .ref ga6, .int ft6, .ref ahr, .ref atr, .long mu6, .long my6, .int jk6, .int ct6, .int bw6, .int un6])), (ws6, .inl (cI, 94, .inl wsf)), (fi6, .inl (cI, 94, .inl fif)), (ff6, .inl (cI, 17, .inl fff)), (ga6, .inl (cJ, 282, .inr (.inl gf))), (ahr, .inr (2, [.ref hca, .ref hla, .ref hta, .int hcn])), (hca, .inl (cJ, 768, .inr (.inl hcf))), (hla, .inl (cZ, 256, .inl hlf)), (hta, .inl (cI, 256, .inl htf)), (atr, .inr (2, [.ref tca, .ref tla, .ref tta, .int tcn])), (tca, .inl (cJ, 768, .inr (.inl tcf))), (tla, .inl (cZ, 256, .inl tlf)), (tta, .inl (cI, 256, .inl ttf)), (g, .inr (0, [.ref ha, .ref oa, .ref pa, .int (nI np), .int (nI tp), .long ly, .int (nI tn), .int te, .int lay, .int idl, .int ov, .int win])), (ha, .inl (cJ, 4, .inr (.inl hf))), (oa, .inl (cZ, 4, .inl of)), (pa, .inl (cI, 54, .inl pf)), (m8, .inr (6, [.int st, .ref wa, .ref pa8, .ref sta, .ref mo, .ref hea, .ref tha, .int (igF np), .int ov, .int op, .int (nI np), .int (nI tn), .int win, .int te, .int lay, .int idl, .ref hd8, .ref od8, .long ly, .ref cd8, .int (nI tp), .ref opa, .ref osa])), (wa, .inl (cJ, 203520, .inr (.inl wf))), (pa8, .inl (cI, 52, .inl pf8)), (sta, .inl (cZ, 52, .inl sf8)), (mo, .inl (cI, 203520, .inl mf)), (hea, .inl (cZ, 3840, .inl hf9)), (tha, .inl (cZ, 3840, .inl tf9)), (hd8, .inl (cJ, 4, .inr (.inl hf8))), (od8, .inl (cZ, 4, .inl of8)), (cd8, .inl (cI, 54, .inl cf8)), (opa, .inl (cI, 52, .inl opf)), (osa, .inl (cZ, 52, .inl osf))] H → va_D A [(ox, .inr (5, [.ref wk, .ref so, .ref g, .ref ko, .ref tr, .int op, .int st])), (so, .inr (3, [.ref sp, .ref hp, .long se])), (sp, .inl (cI, 94, .inl stp)), (hp, .inl (cJ, 156, .inr (.inl hq))), (ko, .inr (1, [.ref sk, .long own])), (sk, .inl (cI, 13, .inl sf)), (tr, .inr (1, [.ref ta, .long town])), (ta, .inl (cI, 13, .inl tf7)), (wk, .inr (4, [.ref ws6, .ref fi6, .ref ff6, .ref ga6, .int ft6, .ref ahr, .ref atr, .long mu6, .long my6, .int jk6, .int ct6, .int bw6, .int un6])), (ws6, .inl (cI, 94, .inl wsf)), (fi6, .inl (cI, 94, .inl fif)), (ff6, .inl (cI, 17, .inl fff)), (ga6, .inl (cJ, 282, .inr (.inl gf))), (ahr, .inr (2, [.ref hca, .ref hla, .ref hta, .int hcn])), (hca, .inl (cJ, 768, .inr (.inl hcf))), (hla, .inl (cZ, 256, .inl hlf)), (hta, .inl (cI, 256, .inl htf)), (atr, .inr (2, [.ref tca, .ref tla, .ref tta, .int tcn])), (tca, .inl (cJ, 768, .inr (.inl tcf))), (tla, .inl (cZ, 256, .inl tlf)), (tta, .inl (cI, 256, .inl ttf)), (g, .inr (0, [.ref ha, .ref oa, .ref pa, .int (nI np), .int (nI tp), .long ly, .int (nI tn), .int te, .int lay, .int idl, .int ov, .int win])), (ha, .inl (cJ, 4, .inr (.inl hf))), (oa, .inl (cZ, 4, .inl of)), (pa, .inl (cI, 54, .inl pf)), (m8, .inr (6, [.int st, .ref wa, .ref pa8, .ref sta, .ref mo, .ref hea, .ref tha, .int (igF np), .int ov, .int op, .int (nI np), .int (nI tn), .int win, .int te, .int lay, .int idl, .ref hd8, .ref od8, .long ly, .ref cd8, .int (nI tp), .ref opa, .ref osa])), (wa, .inl (cJ, 203520, .inr (.inl wf))), (pa8, .inl (cI, 52, .inl pf8)), (sta, .inl (cZ, 52, .inl sf8)), (mo, .inl (cI, 203520, .inl mf)), (hea, .inl (cZ, 3840, .inl hf9)), (tha, .inl (cZ, 3840, .inl tf9)), (hd8, .inl (cJ, 4, .inr (.inl hf8))), (od8, .inl (cZ, 4, .inl of8)), (cd8, .inl (cI, 54, .inl cf8)), (opa, .inl (cI, 52, .inl opf)), (osa, .inl (cZ, 52, .inl osf))] → va_S A s.heap H locs → ∀ ls : Array Slot, lv_has ls 4 [(0, .ref b), (1, .ref ox), (2, .ref m8), (3, .int x3)] → W p l e room_1 s m #[Value.ref b] below meth c H locs 37 418445 (lw_Z below #[Value.ref b] s) (F0 m pc ls [])
theorem lwr_1 : ∀ w ∈ wsL_law_r1, w ∈ wsL_law := by
  intro w h
  unfold wsL_law
  exact (List.mem_append_left _ (List.mem_append_left _ (List.mem_append_left _ (List.mem_append_left _ (List.mem_append_left _ (List.mem_append_left _ (List.mem_append_left _ (List.mem_append_left _ (List.mem_append_left _ h)))))))))
theorem lwr_4 : ∀ w ∈ wsL_law_r4, w ∈ wsL_law := by
  intro w h
  unfold wsL_law
  exact (List.mem_append_left _ (List.mem_append_left _ (List.mem_append_left _ (List.mem_append_left _ (List.mem_append_left _ (List.mem_append_left _ (List.mem_append_left _ (List.mem_append_left _ (List.mem_append_right _ (List.mem_append_right _ (List.mem_append_right _ (List.mem_append_left _ h))))))))))))
theorem lwx_X7 : ∀ w ∈ wsX70, w ∈ wsL_law := by
  intro w h
  unfold wsL_law
  exact (List.mem_append_left _ (List.mem_append_left _ (List.mem_append_left _ (List.mem_append_left _ (List.mem_append_left _ (List.mem_append_left _ (List.mem_append_left _ (List.mem_append_right _ h))))))))
theorem lwx_X8 : ∀ w ∈ wsX80, w ∈ wsL_law := by
  intro w h
  unfold wsL_law
  exact (List.mem_append_left _ (List.mem_append_left _ (List.mem_append_left _ (List.mem_append_left _ (List.mem_append_left _ (List.mem_append_left _ (List.mem_append_right _ h)))))))
