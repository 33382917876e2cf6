theorem hp_hin {x : Int32} {k : Nat} (hx : x = nI k) (hk : k < 9984) : vp_in (x / 64) 156 := by
  subst hx
  rw [show (64 : Int32) = nI 64 from rfl, pk_div (by omega) (by decide) (by decide)]
  exact vp_in_nI (by omega) (by decide)
theorem two_bit {k : Nat} (hk : k < 64) (i : Nat) : ((1 : Int64) <<< ((nI k).toInt64 &&& 63)).toBitVec.getLsbD i = decide (i = k) := by
  rw [show (1 : Int64) = lN 1 from rfl, wb_shl 1 hk, Nat.one_mul, wb_tb, BitVec.getLsbD_ofNat, Nat.testBit_two_pow]
  by_cases h : i = k
  · subst h; simp [hk]
  · simp [h, Ne.symm h, show ¬ k = i from fun z => h z.symm]
theorem hop_set {set : Int64} {hq h2 : Nat → Int64} {x : Int32} {n j s : Nat} (hx : x = nI ((n * 3 + j) * 256 + s)) (hn : n < 13) (hj : j < 3) (hs : s < 256) (e : vp_updL hq (x / 64).toNatClampNeg (hq (x / 64).toNatClampNeg ||| (1 <<< ((x - x / 64 * 64).toInt64 &&& 63))) = h2) (h : HopOk set hq) (hf : feasN set (13 - n) s j = false) : HopOk set h2 := by
  intro n1 hn1 j1 hj1 s1 hs1 hb
  have hk : (n * 3 + j) * 256 + s < 9984 := by omega
  rw [hx, show (64 : Int32) = nI 64 from rfl, pk_div (by omega) (by decide) (by decide), pk_mul, pk_sub (by omega), nI_clamp (by omega), show ((n * 3 + j) * 256 + s) - ((n * 3 + j) * 256 + s) / 64 * 64 = ((n * 3 + j) * 256 + s) % 64 by omega] at e
  generalize hkk : (n * 3 + j) * 256 + s = k at hk e
  by_cases hq1 : (n1 * 3 + j1) * 256 + s1 = k
  · have h1 : n1 = n := by omega
    have h2 : j1 = j := by omega
    have h3 : s1 = s := by omega
    rw [h1, h2, h3]; exact hf
  · refine h n1 hn1 j1 hj1 s1 hs1 ?_
    generalize (n1 * 3 + j1) * 256 + s1 = k1 at hb hq1
    subst e
    unfold hbit at hb ⊢
    by_cases hd : k1 / 64 = k / 64
    · rw [hd, pk_uLs, Int64.toBitVec_or, BitVec.getLsbD_or, two_bit (Nat.mod_lt _ (by decide))] at hb
      rw [hd]
      have hne : ¬ k1 % 64 = k % 64 := by omega
      simpa [hne] using hb
    · rw [pk_uLn hd] at hb; exact hb
theorem fn_no1 {set : Int64} {d s j i : Nat} (h : ¬ (nI (nd set (12 - d)) &&& (nI (t_sh (stT i)) ^^^ (-1))) = 0) : tryN set d s j i = false := by
  rw [jn_not _ (nd_lt _ _) _ (t_sh_lt _)] at h
  have : (nd set (12 - d) &&& (15 - t_sh (stT i)) == 0) = false := by
    rcases Nat.eq_zero_or_pos (nd set (12 - d) &&& (15 - t_sh (stT i))) with z | z
    · exact absurd (by rw [z]; rfl) h
    · simp; omega
  simp [tryN, okN, this]
theorem fn_yes1 {set : Int64} {d i : Nat} (h : (nI (nd set (12 - d)) &&& (nI (t_sh (stT i)) ^^^ (-1))) = 0) : (nd set (12 - d) &&& (15 - t_sh (stT i)) == 0) = true := by
  rw [jn_not _ (nd_lt _ _) _ (t_sh_lt _)] at h
  have hl : nd set (12 - d) &&& (15 - t_sh (stT i)) < 16 := land_lt (nd_lt _ _)
  have := (nI_eq (by omega) (by decide)).mp (show nI _ = nI 0 from h)
  rw [this]; rfl
theorem fn_no2 {set : Int64} {d s j i : Nat} (h : j_X5_canContinue (nI s) (nI (t_co (stT i))) = 0) (hs : s < 256) : tryN set d s j i = false := by
  rw [jn_cc s hs _ (t_co_lt _)] at h
  have : c_cc s (t_co (stT i)) = false := by
    cases hc : c_cc s (t_co (stT i)) with
    | false => rfl
    | true => rw [hc] at h; exact absurd h (by decide)
  simp [tryN, okN, this]
theorem fn_yes2 {s i : Nat} (h : ¬ j_X5_canContinue (nI s) (nI (t_co (stT i))) = 0) (hs : s < 256) : c_cc s (t_co (stT i)) = true := by
  rw [jn_cc s hs _ (t_co_lt _)] at h
  cases hc : c_cc s (t_co (stT i)) with
  | true => rfl
  | false => rw [hc] at h; exact absurd rfl h
theorem fn_left {set : Int64} {d j i : Nat} : nI j - j_bcI (nI (t_sh (stT i)) &&& (nI (nd set (12 - d)) ^^^ (-1))) = nI j - nI (costN (nd set (12 - d)) (stT i)) := by
  rw [jn_not _ (t_sh_lt _) _ (nd_lt _ _), jn_bc _ (land_lt (t_sh_lt _))]; rfl
theorem fn_no3 {set : Int64} {d s j i : Nat} (h : nI j - nI (costN (nd set (12 - d)) (stT i)) < 0) (hj : j ≤ 2) : tryN set d s j i = false := by
  have : ¬ costN (nd set (12 - d)) (stT i) ≤ j := fun z => by
    rw [pk_sub z] at h; exact absurd h (nI_pos (by omega))
  simp [tryN, okN, this]
theorem fn_yes3 {set : Int64} {d j i : Nat} (h : ¬ nI j - nI (costN (nd set (12 - d)) (stT i)) < 0) (hj : j ≤ 2) : costN (nd set (12 - d)) (stT i) ≤ j := by
  rcases Nat.lt_or_ge j (costN (nd set (12 - d)) (stT i)) with z | z
  · exact absurd (pk_sneg (by have := popc_le (t_sh (stT i) &&& (15 - nd set (12 - d))); unfold costN; omega) z) h
  · exact z
theorem try_eq {set : Int64} {d s j i : Nat} (h1 : (nd set (12 - d) &&& (15 - t_sh (stT i)) == 0) = true) (h2 : c_cc s (t_co (stT i)) = true) (h3 : costN (nd set (12 - d)) (stT i) ≤ j) : tryN set d s j i = feasN set d (c_af s (stT i)) (j - costN (nd set (12 - d)) (stT i)) := by
  simp [tryN, okN, h1, h2, h3]
theorem path_here {set : Int64} {d s j i : Nat} (h : tryN set d s j i = true) (hb : ∀ k, k < i → tryN set d s j k = false) (hi : i < 94) : ∀ k, pathN set (d + 1) s j k = if k = 12 - d then stT i else pathN set d (c_af s (stT i)) (j - costN (nd set (12 - d)) (stT i)) k := by
  intro k
  show (if _ then _ else _) = _
  rw [fstI_of h hb hi]
/-- what a call of reachesEnd leaves -/
def RePost (set : Int64) (d s j : Nat) (sf sf2 : Nat → Int32) (h2 : Nat → Int64) (r : Int32) : Prop :=
  r = (if feasN set d s j then 1 else 0) ∧ HopOk set h2 ∧ (∀ k, k < 13 - d → sf2 k = sf k) ∧ (feasN set d s j = false → ∀ k, sf2 k = sf k) ∧ (feasN set d s j = true → ∀ k, 13 - d ≤ k → k < 13 → sf2 k = nI (pathN set d s j k))
theorem re_no {set : Int64} {d s j : Nat} {sf : Nat → Int32} {h2 : Nat → Int64} (hf : feasN set d s j = false) (hh : HopOk set h2) {sf2 : Nat → Int32} (hsf : ∀ k, sf2 k = sf k) : RePost set d s j sf sf2 h2 0 :=
  ⟨by rw [hf]; rfl, hh, fun k _ => hsf k, fun _ => hsf, fun h => by rw [hf] at h; exact absurd h (by decide)⟩
theorem re_yes {set : Int64} {d s j i : Nat} {sf s2 s3 : Nat → Int32} {h2 : Nat → Int64} {r nx tv : Int32} (hd : d < 13) (hi : i < 94) (hn : nx = nI (12 - d)) (htv : tv = nI (stT i)) (hb : ∀ k, k < i → tryN set d s j k = false) (ht : tryN set d s j i = feasN set d (c_af s (stT i)) (j - costN (nd set (12 - d)) (stT i))) (hr : RePost set d (c_af s (stT i)) (j - costN (nd set (12 - d)) (stT i)) sf s2 h2 r) (hr0 : ¬ r = 0) (e : upd s2 nx.toNatClampNeg tv = s3) : RePost set (d + 1) s j sf s3 h2 1 := by
  obtain ⟨a1, a2, a3, a4, a5⟩ := hr
  have hf : feasN set d (c_af s (stT i)) (j - costN (nd set (12 - d)) (stT i)) = true := by
    cases hc : feasN set d (c_af s (stT i)) (j - costN (nd set (12 - d)) (stT i)) with
    | true => rfl
    | false => rw [hc] at a1; exact absurd a1 hr0
  rw [hf] at ht
  have hF : feasN set (d + 1) s j = true := by rw [feasN_s]; exact anyI_of ht hi
  rw [hn, nI_clamp (by omega)] at e
  subst e; subst htv
  refine ⟨by rw [hF]; rfl, a2, fun k hk => ?_, fun h => by rw [hF] at h; exact absurd h (by decide), fun _ k h1 h2 => ?_⟩
  · rw [pk_un (by omega)]; exact a3 k (by omega)
  · rw [path_here ht hb hi]
    by_cases z : k = 12 - d
    · rw [if_pos z, z]; exact pk_us
    · rw [if_neg z, pk_un z]; exact a5 hf k (by omega) h2
theorem re_j {jx : Int32} {j0 : Nat} (h : jx = nI j0) (hj : j0 ≤ 2) (c : ¬ jx = 0) : (j0 == 0) = false := by
  rcases Nat.eq_zero_or_pos j0 with z | z
  · subst z; exact absurd h c
  · simp; omega
theorem re_e {sx : Int32} {s0 : Nat} (h : sx = nI s0) (hs : s0 < 256) (c : j_X5_mayEnd sx = 0) : c_en s0 = false := by
  rw [h, jn_en s0 hs] at c
  cases hc : c_en s0 with
  | false => rfl
  | true => rw [hc] at c; exact absurd c (by decide)
theorem re_ok {set : Int64} {jx sx : Int32} {s0 j0 : Nat} {sf : Nat → Int32} {hq : Nat → Int64} (hj : jx = nI j0) (hs : sx = nI s0) (hj0 : j0 ≤ 2) (hs0 : s0 < 256) (c1 : jx = 0) (c2 : ¬ j_X5_mayEnd sx = 0) (hh : HopOk set hq) : RePost set 0 s0 j0 sf sf hq 1 := by
  have h0 : j0 = 0 := by
    rw [hj] at c1
    exact (nI_eq (by omega) (by decide)).mp (show nI j0 = nI 0 from c1)
  have he : c_en s0 = true := by
    rw [hs, jn_en s0 hs0] at c2
    cases hc : c_en s0 with
    | true => rfl
    | false => rw [hc] at c2; exact absurd rfl c2
  have hF : feasN set 0 s0 j0 = true := by simp only [feasN]; rw [h0, he]; rfl
  exact ⟨by rw [hF]; rfl, hh, fun _ _ => rfl, fun h => by rw [hF] at h; exact absurd h (by decide), fun _ k h1 h2 => by omega⟩
theorem re_r0 {set : Int64} {d s j i : Nat} {sf s2 : Nat → Int32} {h2 : Nat → Int64} {r : Int32} {s1 j1 : Nat} (ht : tryN set d s j i = feasN set d s1 j1) (hr : RePost set d s1 j1 sf s2 h2 r) (h0 : r = 0) : tryN set d s j i = false := by
  rw [ht]
  cases hc : feasN set d s1 j1 with
  | false => rfl
  | true => have := hr.1; rw [hc, h0] at this; exact absurd this (by decide)
theorem re_tr {set : Int64} {d s j : Nat} {sf s1 s2 : Nat → Int32} {h2 : Nat → Int64} {r : Int32} (hr : RePost set d s j s1 s2 h2 r) (h : ∀ k, s1 k = sf k) : RePost set d s j sf s2 h2 r :=
  ⟨hr.1, hr.2.1, fun k hk => (hr.2.2.1 k hk).trans (h k), fun z k => (hr.2.2.2.1 z k).trans (h k), hr.2.2.2.2⟩
theorem hp_fill {f g : Nat → Int64} {x : Int32} {v : Int64} {i : Nat} (e : vp_updL f x.toNatClampNeg v = g) (hx : x = nI i) (hi : i < 2 ^ 31) (h : ∀ k, k < i → f k = v) : ∀ k, k < i + 1 → g k = v := by
  intro k hk
  subst hx
  rw [nI_clamp hi] at e
  subst e
  by_cases z : k = i
  · subst z; exact pk_uLs
  · rw [pk_uLn z]; exact h k (by omega)
theorem hop_zero {set : Int64} {hq : Nat → Int64} (h : ∀ k, k < 156 → hq k = 0) : HopOk set hq := by
  intro n hn j hj s hs hb
  unfold hbit at hb
  rw [h _ (by omega)] at hb
  simp at hb
theorem re_t {set : Int64} {d s j : Nat} {sf s2 : Nat → Int32} {h2 : Nat → Int64} {r : Int32} (hr : RePost set d s j sf s2 h2 r) (h0 : ¬ r = 0) : feasN set d s j = true := by
  cases hc : feasN set d s j with
  | true => rfl
  | false => have := hr.1; rw [hc] at this; exact absurd this h0
theorem re_f {set : Int64} {d s j : Nat} {sf s2 : Nat → Int32} {h2 : Nat → Int64} {r : Int32} (hr : RePost set d s j sf s2 h2 r) (h0 : r = 0) : feasN set d s j = false := by
  cases hc : feasN set d s j with
  | false => rfl
  | true => have := hr.1; rw [hc, h0] at this; exact absurd this (by decide)
set_option maxHeartbeats 4000000 in
set_option maxRecDepth 100000 in
theorem k_X4_re0 (l : Launch) (D : va_G) (cI cJ cZ : ClassId) (sz : Nat) (so sp hp lo sa : Nat) (set own : Int64) (stp sf : Nat → Int32) (hq : Nat → Int64) (nx sx jx : Int32) (s0 j0 : Nat) (hst : ∀ i, i < 94 → stp i = nI (stT i)) (hnx : nx = nI (13 - 0)) (hsx : sx = nI s0) (hjx : jx = nI j0) (hs0 : s0 < 256) (hj0 : j0 ≤ 2) (hhop : HopOk set hq) : Met l yX4_reachesEnd wsX4_reachesEnd ({ frames := 0 + 2, cells := 0, slots := 0, locals := 29 * 0 + 50 } : Room) (va_Pc [.ref so, .int nx, .int sx, .int jx, .ref lo] (wM D cI cJ cZ sz [(so, .inr (3, [.ref sp, .ref hp, .long set])), (sp, .inl (cI, 94, .inl stp)), (hp, .inl (cJ, 156, .inr (.inl hq))), (lo, .inr (1, [.ref sa, .long own])), (sa, .inl (cI, 13, .inl sf))])) (va_Qi (fun (r : Int32) (u : (Nat → Int64) × (Nat → Int32)) => match u with | (hq2, sf2) => (RePost set (0) s0 j0 sf sf2 hq2 r)) (fun (u : (Nat → Int64) × (Nat → Int32)) t => match u with | (hq2, sf2) => wB D (va_A [(so, .inr (3, [.ref sp, .ref hp, .long set])), (sp, .inl (cI, 94, .inl stp)), (hp, .inl (cJ, 156, .inr (.inl hq))), (lo, .inr (1, [.ref sa, .long own])), (sa, .inl (cI, 13, .inl sf))] sz) [(so, .inr (3, [.ref sp, .ref hp, .long set])), (sp, .inl (cI, 94, .inl stp)), (hp, .inl (cJ, 156, .inr (.inl hq2))), (lo, .inr (1, [.ref sa, .long own])), (sa, .inl (cI, 13, .inl sf2))] t) (va_A [(so, .inr (3, [.ref sp, .ref hp, .long set])), (sp, .inl (cI, 94, .inl stp)), (hp, .inl (cJ, 156, .inr (.inl hq))), (lo, .inr (1, [.ref sa, .long own])), (sa, .inl (cI, 13, .inl sf))] sz)) 0 0 (va_A [(so, .inr (3, [.ref sp, .ref hp, .long set])), (sp, .inl (cI, 94, .inl stp)), (hp, .inl (cJ, 156, .inr (.inl hq))), (lo, .inr (1, [.ref sa, .long own])), (sa, .inl (cI, 13, .inl sf))] sz) := by
  refine Met.ofW (cc := cX4_reachesEnd) (maxL := 10) (ret := (some .boolean)) (by decide) rfl ?_
  intro p e s m args below meth c s₁ B hml hv
  obtain ⟨hargs, hsz, hP, ⟨hK, hN⟩, hD0⟩ := hv
  have hx := B.exec
  have hb := B.bytes
  have hr := B.returns
  have hlocks := B.notSynchronized
  have hts := atoms_spec (ws := wsX4_reachesEnd) B.pre
  have hown : s.vm.findClass RX4 = some m.cls := findClass_of_methodNamed B.named
  have k44 := hts (.methodLink RX4 44 yX5_mayEnd) (by decide +kernel)
  subst hsz
  have hD := hD0.self (sz := s.heap.size)
  generalize hAe : va_A [(so, .inr (3, [.ref sp, .ref hp, .long set])), (sp, .inl (cI, 94, .inl stp)), (hp, .inl (cJ, 156, .inr (.inl hq))), (lo, .inr (1, [.ref sa, .long own])), (sa, .inl (cI, 13, .inl sf))] s.heap.size = A at hD ⊢
  have hA : ∀ q : Nat, s.heap.size ≤ q → A q := fun q h => by rw [← hAe]; exact Or.inr h
  have hS : va_S A s.heap s.heap [] := va_S.rf
  rw [show entryFrame m args 10 = entryFrame m ([.ref so, .int nx, .int sx, .int jx, .ref lo] : List Value).toArray 10 from by rw [hargs]]
  have hl := lv_entry ([.ref so, .int nx, .int sx, .int jx, .ref lo]) (n := 10) (Nat.le_of_ble_eq_true rfl)
  rw [lg_entry_eq]
  generalize (lg_sl ([.ref so, .int nx, .int sx, .int jx, .ref lo]) ++ List.replicate (10 - (lg_sl ([.ref so, .int nx, .int sx, .int jx, .ref lo])).length) Slot.unset).toArray = ls at hl ⊢
  have hl : lv_has ls 10 [(0, .ref so), (1, .int nx), (2, .int sx), (3, .int jx), (4, .ref lo)] := hl
  refine wQ (fun Q hQ => ?_)
  refine lv_iload_n hx hb dX4_reachesEnd_0 rfl (lv_at hl 3 rfl) ?_
  refine lv_if_lt (tgt := 20) hx hb dX4_reachesEnd_1 (by decide) (fun c_1 => ?_) (fun c_1 => ?_)
  · exact absurd c_1 (by rw [hjx]; exact nI_pos (by omega))
  · refine lv_iload_n hx hb dX4_reachesEnd_4 rfl (lv_at hl 3 rfl) ?_
    refine lv_iconst (v := 2) hx hb dX4_reachesEnd_5 (by decide) ?_
    refine lv_icmp_gt (tgt := 20) hx hb dX4_reachesEnd_6 (by decide) (fun c_6 => ?_) (fun c_6 => ?_)
    · exact absurd c_6 (by rw [hjx]; exact nI_nlt (a := 2) hj0 (by decide))
    · refine lv_iload_n hx hb dX4_reachesEnd_9 rfl (lv_at hl 2 rfl) ?_
      refine lv_if_lt (tgt := 20) hx hb dX4_reachesEnd_10 (by decide) (fun c_10 => ?_) (fun c_10 => ?_)
      · exact absurd c_10 (by rw [hsx]; exact nI_pos (by omega))
      · refine lv_iload_n hx hb dX4_reachesEnd_13 rfl (lv_at hl 2 rfl) ?_
        refine lv_sipush (v := 256) hx hb dX4_reachesEnd_14 (by decide) ?_
        refine lv_icmp_lt (tgt := 22) hx hb dX4_reachesEnd_17 (by decide) (fun c_17 => ?_) (fun c_17 => ?_)
        · refine lv_iload_n hx hb dX4_reachesEnd_22 rfl (lv_at hl 1 rfl) ?_
          refine lv_if_lt (tgt := 32) hx hb dX4_reachesEnd_23 (by decide) (fun c_23 => ?_) (fun c_23 => ?_)
          · exact absurd c_23 (by rw [hnx]; exact nI_pos (by omega))
          · refine lv_iload_n hx hb dX4_reachesEnd_26 rfl (lv_at hl 1 rfl) ?_
            refine lv_bipush (v := 13) hx hb dX4_reachesEnd_27 (by decide) ?_
            refine lv_icmp_lt (tgt := 55) hx hb dX4_reachesEnd_29 (by decide) (fun c_29 => ?_) (fun c_29 => ?_)
            · exact absurd c_29 (by rw [hnx]; decide)
            · refine lv_iload_n hx hb dX4_reachesEnd_32 rfl (lv_at hl 1 rfl) ?_
              refine lv_bipush (v := 13) hx hb dX4_reachesEnd_33 (by decide) ?_
              refine lv_icmp_ne (tgt := 53) hx hb dX4_reachesEnd_35 (by decide) (fun c_35 => ?_) (fun c_35 => ?_)
              · exact absurd hnx c_35
              · refine lv_iload_n hx hb dX4_reachesEnd_38 rfl (lv_at hl 3 rfl) ?_
                refine lv_if_ne (tgt := 53) hx hb dX4_reachesEnd_39 (by decide) (fun c_39 => ?_) (fun c_39 => ?_)
                · refine lv_iconst (v := 0) hx hb dX4_reachesEnd_53 (by decide) ?_
                  rw [← hQ]
                  have hP9 := hP.sub (ws' := [(so, .inr (3, [.ref sp, .ref hp, .long set])), (sp, .inl (cI, 94, .inl stp)), (hp, .inl (cJ, 156, .inr (.inl hq))), (lo, .inr (1, [.ref sa, .long own])), (sa, .inl (cI, 13, .inl sf))]) [0, 1, 2, 3, 4] rfl
                  have hD9 := hD.sub (ws' := [(so, .inr (3, [.ref sp, .ref hp, .long set])), (sp, .inl (cI, 94, .inl stp)), (hp, .inl (cJ, 156, .inr (.inl hq))), (lo, .inr (1, [.ref sa, .long own])), (sa, .inl (cI, 13, .inl sf))]) [0, 1, 2, 3, 4] (by decide) rfl
                  exact W.zret (v := 0) hx hb hr (by first | decide | rfl | assumption) (fun t ht hW => ⟨⟨0, (hq, sf), rfl, (by first | exact re_no (by simp only [feasN]; rw [show (j0 == 0) = false from re_j hjx hj0 c_39]; rfl) hhop (fun _ => rfl) | exact re_no (by simp only [feasN]; rw [re_e hsx hs0 c_46, Bool.and_false]) hhop (fun _ => rfl) | exact re_ok hjx hsx hj0 hs0 c_39 c_46 hhop), (by show wB D A _ t; exact ⟨by rw [ht]; exact hP9, hD9⟩)⟩, hS.F ht⟩) hS.2.2 dX4_reachesEnd_54
                · refine lv_iload_n hx hb dX4_reachesEnd_42 rfl (lv_at hl 2 rfl) ?_
                  refine vp_callSi (W.runS (As := [.int sx]) (rest := []) ⟨hx, hb, hml, hown, hts⟩ (k_X5_mayEnd l sx ) (va_cwS 1 hts gX4_reachesEnd_X5_mayEnd rfl rfl rfl (by decide +kernel) ⟨(by show 0 + 1 ≤ 0 + 2; omega), (by show 8 + (1 + 11) + (0) ≤ 29 * 0 + 50; omega)⟩) ⟨pS_fb, pS_pre⟩ rfl rfl hl.1 rfl (lv_room (Nat.le_of_ble_eq_true rfl)) dX4_reachesEnd_43 ⟨Nat.le_of_ble_eq_true rfl, Nat.le_of_ble_eq_true rfl⟩) (fun x43 hx43 => ?_)
                  subst hx43
                  refine lv_if_eq (tgt := 53) hx hb dX4_reachesEnd_46 (by decide) (fun c_46 => ?_) (fun c_46 => ?_)
                  · refine lv_iconst (v := 0) hx hb dX4_reachesEnd_53 (by decide) ?_
                    rw [← hQ]
                    have hP9 := hP.sub (ws' := [(so, .inr (3, [.ref sp, .ref hp, .long set])), (sp, .inl (cI, 94, .inl stp)), (hp, .inl (cJ, 156, .inr (.inl hq))), (lo, .inr (1, [.ref sa, .long own])), (sa, .inl (cI, 13, .inl sf))]) [0, 1, 2, 3, 4] rfl
                    have hD9 := hD.sub (ws' := [(so, .inr (3, [.ref sp, .ref hp, .long set])), (sp, .inl (cI, 94, .inl stp)), (hp, .inl (cJ, 156, .inr (.inl hq))), (lo, .inr (1, [.ref sa, .long own])), (sa, .inl (cI, 13, .inl sf))]) [0, 1, 2, 3, 4] (by decide) rfl
                    exact W.zret (v := 0) hx hb hr (by first | decide | rfl | assumption) (fun t ht hW => ⟨⟨0, (hq, sf), rfl, (by first | exact re_no (by simp only [feasN]; rw [show (j0 == 0) = false from re_j hjx hj0 c_39]; rfl) hhop (fun _ => rfl) | exact re_no (by simp only [feasN]; rw [re_e hsx hs0 c_46, Bool.and_false]) hhop (fun _ => rfl) | exact re_ok hjx hsx hj0 hs0 c_39 c_46 hhop), (by show wB D A _ t; exact ⟨by rw [ht]; exact hP9, hD9⟩)⟩, hS.F ht⟩) hS.2.2 dX4_reachesEnd_54
                  · refine lv_iconst (v := 1) hx hb dX4_reachesEnd_49 (by decide) ?_
                    refine lv_goto (tgt := 54) hx hb dX4_reachesEnd_50 (by decide) ?_
                    rw [← hQ]
                    have hP9 := hP.sub (ws' := [(so, .inr (3, [.ref sp, .ref hp, .long set])), (sp, .inl (cI, 94, .inl stp)), (hp, .inl (cJ, 156, .inr (.inl hq))), (lo, .inr (1, [.ref sa, .long own])), (sa, .inl (cI, 13, .inl sf))]) [0, 1, 2, 3, 4] rfl
                    have hD9 := hD.sub (ws' := [(so, .inr (3, [.ref sp, .ref hp, .long set])), (sp, .inl (cI, 94, .inl stp)), (hp, .inl (cJ, 156, .inr (.inl hq))), (lo, .inr (1, [.ref sa, .long own])), (sa, .inl (cI, 13, .inl sf))]) [0, 1, 2, 3, 4] (by decide) rfl
                    exact W.zret (v := 1) hx hb hr (by first | decide | rfl | assumption) (fun t ht hW => ⟨⟨1, (hq, sf), rfl, (by first | exact re_no (by simp only [feasN]; rw [show (j0 == 0) = false from re_j hjx hj0 c_39]; rfl) hhop (fun _ => rfl) | exact re_no (by simp only [feasN]; rw [re_e hsx hs0 c_46, Bool.and_false]) hhop (fun _ => rfl) | exact re_ok hjx hsx hj0 hs0 c_39 c_46 hhop), (by show wB D A _ t; exact ⟨by rw [ht]; exact hP9, hD9⟩)⟩, hS.F ht⟩) hS.2.2 dX4_reachesEnd_54
        · exact absurd (by rw [hsx]; exact nI_lt (b := 256) hs0 (by decide)) c_17

set_option maxHeartbeats 4000000 in
set_option maxRecDepth 100000 in
theorem k_X4_reS (l : Launch) (D : va_G) (cI cJ cZ : ClassId) (d : Nat) (hd : d < 13) (ihd : ∀ (sz : Nat) (so sp hp lo sa : Nat) (set own : Int64) (stp sf : Nat → Int32) (hq : Nat → Int64) (nx sx jx : Int32) (s0 j0 : Nat), (∀ i, i < 94 → stp i = nI (stT i)) → (nx = nI (13 - d)) → (sx = nI s0) → (jx = nI j0) → (s0 < 256) → (j0 ≤ 2) → (HopOk set hq) → Met l yX4_reachesEnd wsX4_reachesEnd ({ frames := d + 2, cells := 0, slots := 0, locals := 29 * d + 50 } : Room) (va_Pc [.ref so, .int nx, .int sx, .int jx, .ref lo] (wM D cI cJ cZ sz [(so, .inr (3, [.ref sp, .ref hp, .long set])), (sp, .inl (cI, 94, .inl stp)), (hp, .inl (cJ, 156, .inr (.inl hq))), (lo, .inr (1, [.ref sa, .long own])), (sa, .inl (cI, 13, .inl sf))])) (va_Qi (fun (r : Int32) (u : (Nat → Int64) × (Nat → Int32)) => match u with | (hq2, sf2) => (RePost set (d) s0 j0 sf sf2 hq2 r)) (fun (u : (Nat → Int64) × (Nat → Int32)) t => match u with | (hq2, sf2) => wB D (va_A [(so, .inr (3, [.ref sp, .ref hp, .long set])), (sp, .inl (cI, 94, .inl stp)), (hp, .inl (cJ, 156, .inr (.inl hq))), (lo, .inr (1, [.ref sa, .long own])), (sa, .inl (cI, 13, .inl sf))] sz) [(so, .inr (3, [.ref sp, .ref hp, .long set])), (sp, .inl (cI, 94, .inl stp)), (hp, .inl (cJ, 156, .inr (.inl hq2))), (lo, .inr (1, [.ref sa, .long own])), (sa, .inl (cI, 13, .inl sf2))] t) (va_A [(so, .inr (3, [.ref sp, .ref hp, .long set])), (sp, .inl (cI, 94, .inl stp)), (hp, .inl (cJ, 156, .inr (.inl hq))), (lo, .inr (1, [.ref sa, .long own])), (sa, .inl (cI, 13, .inl sf))] sz)) 0 0 (va_A [(so, .inr (3, [.ref sp, .ref hp, .long set])), (sp, .inl (cI, 94, .inl stp)), (hp, .inl (cJ, 156, .inr (.inl hq))), (lo, .inr (1, [.ref sa, .long own])), (sa, .inl (cI, 13, .inl sf))] sz)) (sz : Nat) (so sp hp lo sa : Nat) (set own : Int64) (stp sf : Nat → Int32) (hq : Nat → Int64) (nx sx jx : Int32) (s0 j0 : Nat) (hst : ∀ i, i < 94 → stp i = nI (stT i)) (hnx : nx = nI (13 - (d + 1))) (hsx : sx = nI s0) (hjx : jx = nI j0) (hs0 : s0 < 256) (hj0 : j0 ≤ 2) (hhop : HopOk set hq) : Met l yX4_reachesEnd wsX4_reachesEnd ({ frames := (d + 1) + 2, cells := 0, slots := 0, locals := 29 * (d + 1) + 50 } : Room) (va_Pc [.ref so, .int nx, .int sx, .int jx, .ref lo] (wM D cI cJ cZ sz [(so, .inr (3, [.ref sp, .ref hp, .long set])), (sp, .inl (cI, 94, .inl stp)), (hp, .inl (cJ, 156, .inr (.inl hq))), (lo, .inr (1, [.ref sa, .long own])), (sa, .inl (cI, 13, .inl sf))])) (va_Qi (fun (r : Int32) (u : (Nat → Int64) × (Nat → Int32)) => match u with | (hq2, sf2) => (RePost set ((d + 1)) s0 j0 sf sf2 hq2 r)) (fun (u : (Nat → Int64) × (Nat → Int32)) t => match u with | (hq2, sf2) => wB D (va_A [(so, .inr (3, [.ref sp, .ref hp, .long set])), (sp, .inl (cI, 94, .inl stp)), (hp, .inl (cJ, 156, .inr (.inl hq))), (lo, .inr (1, [.ref sa, .long own])), (sa, .inl (cI, 13, .inl sf))] sz) [(so, .inr (3, [.ref sp, .ref hp, .long set])), (sp, .inl (cI, 94, .inl stp)), (hp, .inl (cJ, 156, .inr (.inl hq2))), (lo, .inr (1, [.ref sa, .long own])), (sa, .inl (cI, 13, .inl sf2))] t) (va_A [(so, .inr (3, [.ref sp, .ref hp, .long set])), (sp, .inl (cI, 94, .inl stp)), (hp, .inl (cJ, 156, .inr (.inl hq))), (lo, .inr (1, [.ref sa, .long own])), (sa, .inl (cI, 13, .inl sf))] sz)) 0 0 (va_A [(so, .inr (3, [.ref sp, .ref hp, .long set])), (sp, .inl (cI, 94, .inl stp)), (hp, .inl (cJ, 156, .inr (.inl hq))), (lo, .inr (1, [.ref sa, .long own])), (sa, .inl (cI, 13, .inl sf))] sz) := by
  refine Met.ofW (cc := cX4_reachesEnd) (maxL := 10) (ret := (some .boolean)) (by decide) rfl ?_
  intro p e s m args below meth c s₁ B hml hv
  obtain ⟨hargs, hsz, hP, ⟨hK, hN⟩, hD0⟩ := hv
  have hx := B.exec
  have hb := B.bytes
  have hr := B.returns
  have hlocks := B.notSynchronized
  have hts := atoms_spec (ws := wsX4_reachesEnd) B.pre
  have hown : s.vm.findClass RX4 = some m.cls := findClass_of_methodNamed B.named
  have k15 := hts (.fieldLink RX4 15 "RummyTable$Search" "steps" "[I") (by decide +kernel)
  have iX4 : ∀ w ∈ wsX40, w ∈ wsX4_reachesEnd := by decide +kernel
  have k11 := hts (.fieldLink RX4 11 "RummyTable$Search" "hopeless" "[J") (by decide +kernel)
  have k54 := hts (.methodLink RX4 54 yX5_shown) (by decide +kernel)
  have k58 := hts (.methodLink RX4 58 yX5_continued) (by decide +kernel)
  have k61 := hts (.methodLink RX4 61 yX5_canContinue) (by decide +kernel)
  have k65 := hts (.methodLink RX4 65 yJ6_bitCount_0f7a4) (by decide +kernel)
  have k70 := hts (.methodLink RX4 70 yX5_stateAfter) (by decide +kernel)
  have k35 := hts (.methodLink RX4 35 yX4_reachesEnd) (by decide +kernel)
  have k74 : (Cond.fieldLinkNest RX4 74 "RummyTable$Layout" "steps" "[I" "RummyTable").before args s = true := va_Nw.use rfl hN.2.1
  have iX2 : ∀ w ∈ wsX20, w ∈ wsX4_reachesEnd := by decide +kernel
  have k19 := hts (.fieldLink RX4 19 "RummyTable$Search" "set" "J") (by decide +kernel)
  have k50 := hts (.methodLink RX4 50 yX0_coloursOf) (by decide +kernel)
  subst hsz
  have hD := hD0.self (sz := s.heap.size)
  generalize hAe : va_A [(so, .inr (3, [.ref sp, .ref hp, .long set])), (sp, .inl (cI, 94, .inl stp)), (hp, .inl (cJ, 156, .inr (.inl hq))), (lo, .inr (1, [.ref sa, .long own])), (sa, .inl (cI, 13, .inl sf))] s.heap.size = A at hD ⊢
  have hA : ∀ q : Nat, s.heap.size ≤ q → A q := fun q h => by rw [← hAe]; exact Or.inr h
  have hS : va_S A s.heap s.heap [] := va_S.rf
  rw [show entryFrame m args 10 = entryFrame m ([.ref so, .int nx, .int sx, .int jx, .ref lo] : List Value).toArray 10 from by rw [hargs]]
  have hl := lv_entry ([.ref so, .int nx, .int sx, .int jx, .ref lo]) (n := 10) (Nat.le_of_ble_eq_true rfl)
  rw [lg_entry_eq]
  generalize (lg_sl ([.ref so, .int nx, .int sx, .int jx, .ref lo]) ++ List.replicate (10 - (lg_sl ([.ref so, .int nx, .int sx, .int jx, .ref lo])).length) Slot.unset).toArray = ls at hl ⊢
  have hl : lv_has ls 10 [(0, .ref so), (1, .int nx), (2, .int sx), (3, .int jx), (4, .ref lo)] := hl
  refine wQ (fun Q hQ => ?_)
  have hn : nx = nI (12 - d) := by rw [hnx]; congr 1; omega
  have hm9 : ((12 - d) * 3 + j0) * 256 + s0 < 9984 := by omega
  have hd1 : 13 - (12 - d) = d + 1 := by omega
  have lab106 : ∀ fuel106 : Nat, ∀ (i : Nat) (x5 : Int32) (x6 : Int32) (x7 : Int32) (hr1 : Nat → Int64) (sr : Nat → Int32), (h5 : x5 = nI (((12 - d) * 3 + j0) * 256 + s0)) → (h6 : x6 = nI (nd set (12 - d))) → (h7 : x7 = nI i) → (hi : i ≤ 94) → (hhr : HopOk set hr1) → (hsr : ∀ k, sr k = sf k) → (hno : ∀ k, k < i → tryN set d s0 j0 k = false) → (hfu106 : 94 - i < fuel106) → ∀ (H : Heap) (locs : List Loc), va_P D vwCl [(so, .inr (3, [.ref sp, .ref hp, .long set])), (sp, .inl (cI, 94, .inl stp)), (hp, .inl (cJ, 156, .inr (.inl hr1))), (lo, .inr (1, [.ref sa, .long own])), (sa, .inl (cI, 13, .inl sr))] H → va_D A [(so, .inr (3, [.ref sp, .ref hp, .long set])), (sp, .inl (cI, 94, .inl stp)), (hp, .inl (cJ, 156, .inr (.inl hr1))), (lo, .inr (1, [.ref sa, .long own])), (sa, .inl (cI, 13, .inl sr))] → va_S A s.heap H locs → ∀ ls : Array Slot, lv_has ls 10 [(0, .ref so), (1, .int nx), (2, .int sx), (3, .int jx), (4, .ref lo), (5, .int x5), (6, .int x6), (7, .int x7)] → W p l e (headSpec wsX4_reachesEnd ({ frames := (d + 1) + 2, cells := 0, slots := 0, locals := 29 * (d + 1) + 50 } : Room)).room s m args below meth c H locs 0 0 Q (F0 m 106 ls []) := by
    intro fuel106
    induction fuel106 with
    | zero =>
      intro i x5 x6 x7 hr1 sr h5 h6 h7 hi hhr hsr hno hfu106
      exact absurd hfu106 (Nat.not_lt_zero _)
    | succ fuel106 ih106 =>
      intro i x5 x6 x7 hr1 sr h5 h6 h7 hi hhr hsr hno hfu106 H locs hP hD hS ls hl
      refine lv_iload hx hb dX4_reachesEnd_106 (lv_at hl 7 rfl) ?_
      refine lv_aload_n hx hb dX4_reachesEnd_108 rfl (lv_at hl 0 rfl) ?_
      refine va_get (D := D) (ci := 3) (v := .ref sp) (C := RX4) (T := TX4) (N := 3) hx hb hts iX4 hown hK hP 0 rfl rfl 0 (by decide) k15 (fun _ h9 => h9) rfl dX4_reachesEnd_109 ?_
      refine va_alen hx hb hK hP 1 0 rfl (ty := .int) rfl (v := nI 94) rfl dX4_reachesEnd_112 ?_
      refine lv_icmp_ge (tgt := 221) hx hb dX4_reachesEnd_113 (by decide) (fun c_113 => ?_) (fun c_113 => ?_)
      · have hi94 : i = 94 := hp_ge h7 rfl hi (by decide) c_113
        subst hi94
        have hff : feasN set (d + 1) s0 j0 = false := by rw [feasN_s]; exact anyI_no hno
        refine lv_aload_n hx hb dX4_reachesEnd_221 rfl (lv_at hl 0 rfl) ?_
        refine va_get (D := D) (ci := 3) (v := .ref hp) (C := RX4) (T := TX4) (N := 3) hx hb hts iX4 hown hK hP 0 rfl rfl 1 (by decide) k11 (fun _ h9 => h9) rfl dX4_reachesEnd_222 ?_
        refine lv_iload hx hb dX4_reachesEnd_225 (lv_at hl 5 rfl) ?_
        refine lv_bipush (v := 64) hx hb dX4_reachesEnd_227 (by decide) ?_
        refine lv_idiv hx hb dX4_reachesEnd_229 (by decide) ?_
        refine lv_dup2_11 hx hb dX4_reachesEnd_230 rfl rfl ?_
        refine va_lald hx hb hK hP 2 1 rfl rfl (hp_hin h5 hm9) dX4_reachesEnd_231 ?_
        refine lv_lconst (v := 1) hx hb dX4_reachesEnd_232 (by decide) ?_
        refine lv_iload hx hb dX4_reachesEnd_233 (lv_at hl 5 rfl) ?_
        refine lv_bipush (v := 64) hx hb dX4_reachesEnd_235 (by decide) ?_
        refine lv_irem hx hb dX4_reachesEnd_237 (by decide) ?_
        refine lv_lshl hx hb dX4_reachesEnd_238 rfl ?_
        refine lv_lor hx hb dX4_reachesEnd_239 ?_
        refine va_last hx hb hK hP hD hS 2 1 rfl rfl (hp_hin h5 hm9) dX4_reachesEnd_240 (fun H locs hP hD hS => ?_)
        have hP : va_P D vwCl [(so, .inr (3, [.ref sp, .ref hp, .long set])), (sp, .inl (cI, 94, .inl stp)), (hp, .inl (cJ, 156, .inr (.inl (vp_updL hr1 (x5 / 64).toNatClampNeg ((hr1 (x5 / 64).toNatClampNeg) ||| (1 <<< ((x5 - x5 / 64 * 64).toInt64 &&& 63))))))), (lo, .inr (1, [.ref sa, .long own])), (sa, .inl (cI, 13, .inl sr))] H := hP
        have hD : va_D A [(so, .inr (3, [.ref sp, .ref hp, .long set])), (sp, .inl (cI, 94, .inl stp)), (hp, .inl (cJ, 156, .inr (.inl (vp_updL hr1 (x5 / 64).toNatClampNeg ((hr1 (x5 / 64).toNatClampNeg) ||| (1 <<< ((x5 - x5 / 64 * 64).toInt64 &&& 63))))))), (lo, .inr (1, [.ref sa, .long own])), (sa, .inl (cI, 13, .inl sr))] := hD
        generalize ex240 : vp_updL hr1 (x5 / 64).toNatClampNeg ((hr1 (x5 / 64).toNatClampNeg) ||| (1 <<< ((x5 - x5 / 64 * 64).toInt64 &&& 63))) = x240 at hP hD
        refine lv_iconst (v := 0) hx hb dX4_reachesEnd_241 (by decide) ?_
        rw [← hQ]
        have hP9 := hP.sub (ws' := [(so, .inr (3, [.ref sp, .ref hp, .long set])), (sp, .inl (cI, 94, .inl stp)), (hp, .inl (cJ, 156, .inr (.inl x240))), (lo, .inr (1, [.ref sa, .long own])), (sa, .inl (cI, 13, .inl sr))]) [0, 1, 2, 3, 4] rfl
        have hD9 := hD.sub (ws' := [(so, .inr (3, [.ref sp, .ref hp, .long set])), (sp, .inl (cI, 94, .inl stp)), (hp, .inl (cJ, 156, .inr (.inl x240))), (lo, .inr (1, [.ref sa, .long own])), (sa, .inl (cI, 13, .inl sr))]) [0, 1, 2, 3, 4] (by decide) rfl
        exact W.zret (v := 0) hx hb hr (by first | decide | rfl | assumption) (fun t ht hW => ⟨⟨0, (x240, sr), rfl, re_no hff (hop_set h5 (by omega) (by omega) hs0 ex240 hhr (by rw [hd1]; exact hff)) hsr, (by show wB D A _ t; exact ⟨by rw [ht]; exact hP9, hD9⟩)⟩, hS.F ht⟩) hS.2.2 dX4_reachesEnd_242
      · have hlt : i < 94 := hp_lt h7 rfl hi (by decide) c_113
        have hsv : stp x7.toNatClampNeg = nI (stT i) := by rw [h7, nI_clamp (by omega)]; exact hst i hlt
        have hin7 : vp_in x7 94 := by rw [h7]; exact vp_in_nI hlt (by decide)
        refine lv_aload_n hx hb dX4_reachesEnd_116 rfl (lv_at hl 0 rfl) ?_
        refine va_get (D := D) (ci := 3) (v := .ref sp) (C := RX4) (T := TX4) (N := 3) hx hb hts iX4 hown hK hP 0 rfl rfl 0 (by decide) k15 (fun _ h9 => h9) rfl dX4_reachesEnd_117 ?_
        refine lv_iload hx hb dX4_reachesEnd_120 (lv_at hl 7 rfl) ?_
        refine va_iald hx hb hK hP 1 0 rfl rfl (hin7) dX4_reachesEnd_122 ?_
        refine vp_callSi (W.runS (As := [.int (stp x7.toNatClampNeg)]) (rest := []) ⟨hx, hb, hml, hown, hts⟩ (k_X5_shown l (stp x7.toNatClampNeg) ) (va_cwS 1 hts gX4_reachesEnd_X5_shown rfl rfl rfl (by decide +kernel) ⟨(by show 0 + 1 ≤ (d + 1) + 2; omega), (by show 8 + (1 + 11) + (0) ≤ 29 * (d + 1) + 50; omega)⟩) ⟨pS_fb, pS_pre⟩ rfl rfl hl.1 rfl (lv_room (Nat.le_of_ble_eq_true rfl)) dX4_reachesEnd_123 ⟨Nat.le_of_ble_eq_true rfl, Nat.le_of_ble_eq_true rfl⟩) (fun x123 hx123 => ?_)
        subst hx123
        refine lv_topi (fun x126 ex126 => ?_)
        refine lv_istore (lv' := [(8, .int x126), (0, .ref so), (1, .int nx), (2, .int sx), (3, .int jx), (4, .ref lo), (5, .int x5), (6, .int x6), (7, .int x7)]) hx hb dX4_reachesEnd_126 hl (by decide) rfl (fun ls hl => ?_)
        have h8 : x126 = nI (t_sh (stT i)) := by rw [ex126, hsv]; exact jn_sh (stT_lt i hlt)
        refine lv_iload hx hb dX4_reachesEnd_128 (lv_at hl 7 rfl) ?_
        refine lv_iload hx hb dX4_reachesEnd_130 (lv_at hl 0 rfl) ?_
        refine lv_iconst (v := (-1)) hx hb dX4_reachesEnd_132 (by decide) ?_
        refine lv_ixor hx hb dX4_reachesEnd_133 ?_
        refine lv_iand hx hb dX4_reachesEnd_134 ?_
        refine lv_if_ne (tgt := 215) hx hb dX4_reachesEnd_135 (by decide) (fun c_135 => ?_) (fun c_135 => ?_)
        · have hfail : tryN set d s0 j0 i = false := fn_no1 (by rw [← h6, ← h8]; exact c_135)
          have hhr2 := hhr
          have hsr2 := hsr
          obtain ⟨x215, ex215⟩ : ∃ y : Int32, y = x7 + 1 := ⟨_, rfl⟩
          refine lv_iinc (v := x215) (lv' := [(7, .int x215), (8, .int x126), (0, .ref so), (1, .int nx), (2, .int sx), (3, .int jx), (4, .ref lo), (5, .int x5), (6, .int x6)]) hx hb dX4_reachesEnd_215 hl (k := 8) rfl (by rw [ex215]; rfl) (by decide) rfl (fun ls hl => ?_)
          refine lv_goto (tgt := 106) hx hb dX4_reachesEnd_218 (by decide) ?_
          exact ih106 (i + 1) x5 x6 x215 hr1 sr (h5) (h6) (hp_s ex215 h7) (by omega) (hhr2) (hsr2) (fun k hk => by rcases Nat.lt_succ_iff_lt_or_eq.mp hk with z | z; exact hno k z; subst z; exact hfail) (by omega) _ _ hP hD hS ls (lv_sub hl [2, 3, 4, 5, 6, 7, 8, 0] rfl)
        · have hy1 := fn_yes1 (set := set) (d := d) (i := i) (by rw [← h6, ← h8]; exact c_135)
          refine lv_iload_n hx hb dX4_reachesEnd_138 rfl (lv_at hl 3 rfl) ?_
          refine lv_aload_n hx hb dX4_reachesEnd_139 rfl (lv_at hl 1 rfl) ?_
          refine va_get (D := D) (ci := 3) (v := .ref sp) (C := RX4) (T := TX4) (N := 3) hx hb hts iX4 hown hK hP 0 rfl rfl 0 (by decide) k15 (fun _ h9 => h9) rfl dX4_reachesEnd_140 ?_
          refine lv_iload hx hb dX4_reachesEnd_143 (lv_at hl 8 rfl) ?_
          refine va_iald hx hb hK hP 1 0 rfl rfl (hin7) dX4_reachesEnd_145 ?_
          refine vp_callSi (W.runS (As := [.int (stp x7.toNatClampNeg)]) (rest := [.int sx]) ⟨hx, hb, hml, hown, hts⟩ (k_X5_continued l (stp x7.toNatClampNeg) ) (va_cwS 1 hts gX4_reachesEnd_X5_continued rfl rfl rfl (by decide +kernel) ⟨(by show 0 + 1 ≤ (d + 1) + 2; omega), (by show 8 + (1 + 11) + (0) ≤ 29 * (d + 1) + 50; omega)⟩) ⟨pS_fb, pS_pre⟩ rfl rfl hl.1 rfl (lv_room (Nat.le_of_ble_eq_true rfl)) dX4_reachesEnd_146 ⟨Nat.le_of_ble_eq_true rfl, Nat.le_of_ble_eq_true rfl⟩) (fun x146 hx146 => ?_)
          subst hx146
          refine vp_callSi (W.runS (As := [.int sx, .int (j_X5_continued (stp x7.toNatClampNeg))]) (rest := []) ⟨hx, hb, hml, hown, hts⟩ (k_X5_canContinue l sx (j_X5_continued (stp x7.toNatClampNeg)) ) (va_cwS 2 hts gX4_reachesEnd_X5_canContinue rfl rfl rfl (by decide +kernel) ⟨(by show 0 + 1 ≤ (d + 1) + 2; omega), (by show 8 + (4 + 11) + (0) ≤ 29 * (d + 1) + 50; omega)⟩) ⟨pS_fb, pS_pre⟩ rfl rfl hl.1 rfl (lv_room (Nat.le_of_ble_eq_true rfl)) dX4_reachesEnd_149 ⟨Nat.le_of_ble_eq_true rfl, Nat.le_of_ble_eq_true rfl⟩) (fun x149 hx149 => ?_)
          subst hx149
          refine lv_if_eq (tgt := 215) hx hb dX4_reachesEnd_152 (by decide) (fun c_152 => ?_) (fun c_152 => ?_)
          · rw [hsv, jn_co (stT_lt i hlt), hsx] at c_152
            have hfail : tryN set d s0 j0 i = false := fn_no2 c_152 hs0
            have hhr2 := hhr
            have hsr2 := hsr
            obtain ⟨x215, ex215⟩ : ∃ y : Int32, y = x7 + 1 := ⟨_, rfl⟩
            refine lv_iinc (v := x215) (lv' := [(7, .int x215), (8, .int x126), (0, .ref so), (1, .int nx), (2, .int sx), (3, .int jx), (4, .ref lo), (5, .int x5), (6, .int x6)]) hx hb dX4_reachesEnd_215 hl (k := 8) rfl (by rw [ex215]; rfl) (by decide) rfl (fun ls hl => ?_)
            refine lv_goto (tgt := 106) hx hb dX4_reachesEnd_218 (by decide) ?_
            exact ih106 (i + 1) x5 x6 x215 hr1 sr (h5) (h6) (hp_s ex215 h7) (by omega) (hhr2) (hsr2) (fun k hk => by rcases Nat.lt_succ_iff_lt_or_eq.mp hk with z | z; exact hno k z; subst z; exact hfail) (by omega) _ _ hP hD hS ls (lv_sub hl [2, 3, 4, 5, 6, 7, 8, 0] rfl)
          · rw [hsv, jn_co (stT_lt i hlt), hsx] at c_152
            have hy2 := fn_yes2 c_152 hs0
            refine lv_iload_n hx hb dX4_reachesEnd_155 rfl (lv_at hl 4 rfl) ?_
            refine lv_iload hx hb dX4_reachesEnd_156 (lv_at hl 0 rfl) ?_
            refine lv_iload hx hb dX4_reachesEnd_158 (lv_at hl 7 rfl) ?_
            refine lv_iconst (v := (-1)) hx hb dX4_reachesEnd_160 (by decide) ?_
            refine lv_ixor hx hb dX4_reachesEnd_161 ?_
            refine lv_iand hx hb dX4_reachesEnd_162 ?_
            refine vp_callSi (W.runS (As := [.int (x126 &&& (x6 ^^^ (-1)))]) (rest := [.int jx]) ⟨hx, hb, hml, hown, hts⟩ (k_J6_bitCount_0f7a4 l (x126 &&& (x6 ^^^ (-1))) ) (va_cwS 1 hts gX4_reachesEnd_J6_bitCount_0f7a4 rfl rfl rfl (by decide +kernel) ⟨(by show 0 + 1 ≤ (d + 1) + 2; omega), (by show 8 + (1 + 11) + (0) ≤ 29 * (d + 1) + 50; omega)⟩) ⟨pS_fb, pS_pre⟩ rfl rfl hl.1 rfl (lv_room (Nat.le_of_ble_eq_true rfl)) dX4_reachesEnd_163 ⟨Nat.le_of_ble_eq_true rfl, Nat.le_of_ble_eq_true rfl⟩) (fun x163 hx163 => ?_)
            subst hx163
            refine lv_isub hx hb dX4_reachesEnd_166 ?_
            refine lv_topi (fun x167 ex167 => ?_)
            refine lv_istore (lv' := [(9, .int x167), (8, .int x126), (0, .ref so), (1, .int nx), (2, .int sx), (3, .int jx), (4, .ref lo), (5, .int x5), (6, .int x6), (7, .int x7)]) hx hb dX4_reachesEnd_167 hl (by decide) rfl (fun ls hl => ?_)
            have h9 : x167 = nI j0 - nI (costN (nd set (12 - d)) (stT i)) := by rw [ex167, h8, h6, hjx]; exact fn_left
            refine lv_iload hx hb dX4_reachesEnd_169 (lv_at hl 0 rfl) ?_
            refine lv_if_lt (tgt := 215) hx hb dX4_reachesEnd_171 (by decide) (fun c_171 => ?_) (fun c_171 => ?_)
            · have hfail : tryN set d s0 j0 i = false := fn_no3 (by rw [← h9]; exact c_171) hj0
              have hhr2 := hhr
              have hsr2 := hsr
              obtain ⟨x215, ex215⟩ : ∃ y : Int32, y = x7 + 1 := ⟨_, rfl⟩
              refine lv_iinc (v := x215) (lv' := [(7, .int x215), (9, .int x167), (8, .int x126), (0, .ref so), (1, .int nx), (2, .int sx), (3, .int jx), (4, .ref lo), (5, .int x5), (6, .int x6)]) hx hb dX4_reachesEnd_215 hl (k := 9) rfl (by rw [ex215]; rfl) (by decide) rfl (fun ls hl => ?_)
              refine lv_goto (tgt := 106) hx hb dX4_reachesEnd_218 (by decide) ?_
              exact ih106 (i + 1) x5 x6 x215 hr1 sr (h5) (h6) (hp_s ex215 h7) (by omega) (hhr2) (hsr2) (fun k hk => by rcases Nat.lt_succ_iff_lt_or_eq.mp hk with z | z; exact hno k z; subst z; exact hfail) (by omega) _ _ hP hD hS ls (lv_sub hl [3, 4, 5, 6, 7, 8, 9, 0] rfl)
            · have hy3 := fn_yes3 (set := set) (d := d) (i := i) (by rw [← h9]; exact c_171) hj0
              have htry := try_eq (s := s0) hy1 hy2 hy3
              refine lv_aload_n hx hb dX4_reachesEnd_174 rfl (lv_at hl 2 rfl) ?_
              refine lv_iload_n hx hb dX4_reachesEnd_175 rfl (lv_at hl 3 rfl) ?_
              refine lv_iconst (v := 1) hx hb dX4_reachesEnd_176 (by decide) ?_
              refine lv_iadd hx hb dX4_reachesEnd_177 ?_
              refine lv_iload_n hx hb dX4_reachesEnd_178 rfl (lv_at hl 4 rfl) ?_
              refine lv_aload_n hx hb dX4_reachesEnd_179 rfl (lv_at hl 2 rfl) ?_
              refine va_get (D := D) (ci := 3) (v := .ref sp) (C := RX4) (T := TX4) (N := 3) hx hb hts iX4 hown hK hP 0 rfl rfl 0 (by decide) k15 (fun _ h9 => h9) rfl dX4_reachesEnd_180 ?_
              refine lv_iload hx hb dX4_reachesEnd_183 (lv_at hl 9 rfl) ?_
              refine va_iald hx hb hK hP 1 0 rfl rfl (hin7) dX4_reachesEnd_185 ?_
              refine vp_callSi (W.runS (As := [.int sx, .int (stp x7.toNatClampNeg)]) (rest := [.int (nx + 1), .ref so]) ⟨hx, hb, hml, hown, hts⟩ (k_X5_stateAfter l sx (stp x7.toNatClampNeg) ) (va_cwS 2 hts gX4_reachesEnd_X5_stateAfter rfl rfl rfl (by decide +kernel) ⟨(by show 1 + 1 ≤ (d + 1) + 2; omega), (by show 8 + (3 + 11) + (20) ≤ 29 * (d + 1) + 50; omega)⟩) ⟨pS_fb, pS_pre⟩ rfl rfl hl.1 rfl (lv_room (Nat.le_of_ble_eq_true rfl)) dX4_reachesEnd_186 ⟨Nat.le_of_ble_eq_true rfl, Nat.le_of_ble_eq_true rfl⟩) (fun x186 hx186 => ?_)
              subst hx186
              refine lv_iload hx hb dX4_reachesEnd_189 (lv_at hl 0 rfl) ?_
              refine lv_aload hx hb dX4_reachesEnd_191 (lv_at hl 6 rfl) ?_
              have hPc := hP.sub (ws' := [(so, .inr (3, [.ref sp, .ref hp, .long set])), (sp, .inl (cI, 94, .inl stp)), (hp, .inl (cJ, 156, .inr (.inl hr1))), (lo, .inr (1, [.ref sa, .long own])), (sa, .inl (cI, 13, .inl sr))]) [0, 1, 2, 3, 4] rfl
              have hDc := hD.sub (ws' := [(so, .inr (3, [.ref sp, .ref hp, .long set])), (sp, .inl (cI, 94, .inl stp)), (hp, .inl (cJ, 156, .inr (.inl hr1))), (lo, .inr (1, [.ref sa, .long own])), (sa, .inl (cI, 13, .inl sr))]) [0, 1, 2, 3, 4] (by decide) rfl
              have hFc := va_free (wc := [(so, .inr (3, [.ref sp, .ref hp, .long set])), (sp, .inl (cI, 94, .inl stp)), (hp, .inl (cJ, 156, .inr (.inl hr1))), (lo, .inr (1, [.ref sa, .long own])), (sa, .inl (cI, 13, .inl sr))]) hD hS hA [0, 1, 2, 3, 4] rfl
              refine va_calli (va_runV (As := [.int (nx + 1), .int (j_X5_stateAfter sx (stp x7.toNatClampNeg)), .int x167, .ref lo]) (rest := []) ⟨hx, hb, hml, hown, hts⟩ (ihd  H.size so sp hp lo sa set own stp sr hr1 (nx + 1) (j_X5_stateAfter sx (stp x7.toNatClampNeg)) x167 (c_af s0 (stT i)) (j0 - costN (nd set (12 - d)) (stT i)) (hst) (by rw [hn, nI_1]; congr 1; omega) (by rw [hsv, hsx]; exact jn_af hs0 (stT_lt i hlt)) (by rw [h9]; exact pk_sub hy3) (c_af_lt hs0) (by omega) (hhr)) (cwV 4 hts gX4_reachesEnd_X4_reachesEnd rfl rfl rfl (by decide +kernel) ⟨(by show (d + 2) + 1 ≤ (d + 1) + 2; omega), (by show 8 + (10 + 11) + (29 * d + 50) ≤ 29 * (d + 1) + 50; omega)⟩) ⟨wM_fb, va_recv hK hPc (ci := 3) (q0 := 0) rfl rfl, wM_pre hPc ⟨hK, hN⟩ hDc⟩ rfl rfl hl.1 rfl (lv_room (Nat.le_of_ble_eq_true rfl)) dX4_reachesEnd_193 ⟨Nat.le_of_ble_eq_true rfl, Nat.le_of_ble_eq_true rfl⟩) hS (fun q _ h => hFc q h) hFc (fun x193 u t H1 locs ht hvm hx193 hB hz1 hk1 hS => ?_)
              obtain ⟨hq2_x193, sf2_x193⟩ := u
              obtain ⟨hP1, hD1⟩ := hB
              rw [ht] at hP1
              obtain ⟨hP, hD⟩ := va_join (wr := []) (w1 := [(so, .inr (3, [.ref sp, .ref hp, .long set])), (sp, .inl (cI, 94, .inl stp)), (hp, .inl (cJ, 156, .inr (.inl hq2_x193))), (lo, .inr (1, [.ref sa, .long own])), (sa, .inl (cI, 13, .inl sf2_x193))]) hP hD [0, 1, 2, 3, 4] [] rfl rfl (by decide) (by decide) hk1 hFc hP1 hD1
              generalize H1 = H at hP hS ⊢
              have hP : va_P D vwCl [(so, .inr (3, [.ref sp, .ref hp, .long set])), (sp, .inl (cI, 94, .inl stp)), (hp, .inl (cJ, 156, .inr (.inl hq2_x193))), (lo, .inr (1, [.ref sa, .long own])), (sa, .inl (cI, 13, .inl sf2_x193))] H := hP
              have hD : va_D A [(so, .inr (3, [.ref sp, .ref hp, .long set])), (sp, .inl (cI, 94, .inl stp)), (hp, .inl (cJ, 156, .inr (.inl hq2_x193))), (lo, .inr (1, [.ref sa, .long own])), (sa, .inl (cI, 13, .inl sf2_x193))] := hD
              try dsimp only at hx193
              refine lv_if_eq (tgt := 215) hx hb dX4_reachesEnd_196 (by decide) (fun c_196 => ?_) (fun c_196 => ?_)
              · have hfail : tryN set d s0 j0 i = false := re_r0 htry hx193 c_196
                have hhr2 := hx193.2.1
                have hsr2 : ∀ k, sf2_x193 k = sf k := fun k => (hx193.2.2.2.1 (by rw [← htry]; exact hfail) k).trans (hsr k)
                obtain ⟨x215, ex215⟩ : ∃ y : Int32, y = x7 + 1 := ⟨_, rfl⟩
                refine lv_iinc (v := x215) (lv' := [(7, .int x215), (9, .int x167), (8, .int x126), (0, .ref so), (1, .int nx), (2, .int sx), (3, .int jx), (4, .ref lo), (5, .int x5), (6, .int x6)]) hx hb dX4_reachesEnd_215 hl (k := 9) rfl (by rw [ex215]; rfl) (by decide) rfl (fun ls hl => ?_)
                refine lv_goto (tgt := 106) hx hb dX4_reachesEnd_218 (by decide) ?_
                exact ih106 (i + 1) x5 x6 x215 hq2_x193 sf2_x193 (h5) (h6) (hp_s ex215 h7) (by omega) (hhr2) (hsr2) (fun k hk => by rcases Nat.lt_succ_iff_lt_or_eq.mp hk with z | z; exact hno k z; subst z; exact hfail) (by omega) _ _ hP hD hS ls (lv_sub hl [3, 4, 5, 6, 7, 8, 9, 0] rfl)
              · have hx3 := re_tr hx193 hsr
                refine lv_aload hx hb dX4_reachesEnd_199 (lv_at hl 6 rfl) ?_
                refine va_getN (D := D) (ci := 1) (v := .ref sa) (C := RX2) (T := TX2) (N := 2) hx hb hts iX2 hown hK hP 3 rfl rfl 0 (by decide) k74 (fun _ h9 => h9) rfl dX4_reachesEnd_201 ?_
                refine lv_iload_n hx hb dX4_reachesEnd_204 rfl (lv_at hl 3 rfl) ?_
                refine lv_aload_n hx hb dX4_reachesEnd_205 rfl (lv_at hl 2 rfl) ?_
                refine va_get (D := D) (ci := 3) (v := .ref sp) (C := RX4) (T := TX4) (N := 3) hx hb hts iX4 hown hK hP 0 rfl rfl 0 (by decide) k15 (fun _ h9 => h9) rfl dX4_reachesEnd_206 ?_
                refine lv_iload hx hb dX4_reachesEnd_209 (lv_at hl 9 rfl) ?_
                refine va_iald hx hb hK hP 1 0 rfl rfl (hin7) dX4_reachesEnd_211 ?_
                refine va_iast hx hb hK hP hD hS 4 0 rfl rfl (by rw [hn]; exact vp_in_nI (by omega) (by decide)) dX4_reachesEnd_212 (fun H locs hP hD hS => ?_)
                have hP : va_P D vwCl [(so, .inr (3, [.ref sp, .ref hp, .long set])), (sp, .inl (cI, 94, .inl stp)), (hp, .inl (cJ, 156, .inr (.inl hq2_x193))), (lo, .inr (1, [.ref sa, .long own])), (sa, .inl (cI, 13, .inl (upd sf2_x193 nx.toNatClampNeg (stp x7.toNatClampNeg))))] H := hP
                have hD : va_D A [(so, .inr (3, [.ref sp, .ref hp, .long set])), (sp, .inl (cI, 94, .inl stp)), (hp, .inl (cJ, 156, .inr (.inl hq2_x193))), (lo, .inr (1, [.ref sa, .long own])), (sa, .inl (cI, 13, .inl (upd sf2_x193 nx.toNatClampNeg (stp x7.toNatClampNeg))))] := hD
                generalize ex212 : upd sf2_x193 nx.toNatClampNeg (stp x7.toNatClampNeg) = x212 at hP hD
                refine lv_iconst (v := 1) hx hb dX4_reachesEnd_213 (by decide) ?_
                rw [← hQ]
                have hP9 := hP.sub (ws' := [(so, .inr (3, [.ref sp, .ref hp, .long set])), (sp, .inl (cI, 94, .inl stp)), (hp, .inl (cJ, 156, .inr (.inl hq2_x193))), (lo, .inr (1, [.ref sa, .long own])), (sa, .inl (cI, 13, .inl x212))]) [0, 1, 2, 3, 4] rfl
                have hD9 := hD.sub (ws' := [(so, .inr (3, [.ref sp, .ref hp, .long set])), (sp, .inl (cI, 94, .inl stp)), (hp, .inl (cJ, 156, .inr (.inl hq2_x193))), (lo, .inr (1, [.ref sa, .long own])), (sa, .inl (cI, 13, .inl x212))]) [0, 1, 2, 3, 4] (by decide) rfl
                exact W.zret (v := 1) hx hb hr (by first | decide | rfl | assumption) (fun t ht hW => ⟨⟨1, (hq2_x193, x212), rfl, re_yes hd hlt hn hsv hno htry hx3 c_196 ex212, (by show wB D A _ t; exact ⟨by rw [ht]; exact hP9, hD9⟩)⟩, hS.F ht⟩) hS.2.2 dX4_reachesEnd_214
  refine lv_iload_n hx hb dX4_reachesEnd_0 rfl (lv_at hl 3 rfl) ?_
  refine lv_if_lt (tgt := 20) hx hb dX4_reachesEnd_1 (by decide) (fun c_1 => ?_) (fun c_1 => ?_)
  · exact absurd c_1 (by rw [hjx]; exact nI_pos (by omega))
  · refine lv_iload_n hx hb dX4_reachesEnd_4 rfl (lv_at hl 3 rfl) ?_
    refine lv_iconst (v := 2) hx hb dX4_reachesEnd_5 (by decide) ?_
    refine lv_icmp_gt (tgt := 20) hx hb dX4_reachesEnd_6 (by decide) (fun c_6 => ?_) (fun c_6 => ?_)
    · exact absurd c_6 (by rw [hjx]; exact nI_nlt (a := 2) hj0 (by decide))
    · refine lv_iload_n hx hb dX4_reachesEnd_9 rfl (lv_at hl 2 rfl) ?_
      refine lv_if_lt (tgt := 20) hx hb dX4_reachesEnd_10 (by decide) (fun c_10 => ?_) (fun c_10 => ?_)
      · exact absurd c_10 (by rw [hsx]; exact nI_pos (by omega))
      · refine lv_iload_n hx hb dX4_reachesEnd_13 rfl (lv_at hl 2 rfl) ?_
        refine lv_sipush (v := 256) hx hb dX4_reachesEnd_14 (by decide) ?_
        refine lv_icmp_lt (tgt := 22) hx hb dX4_reachesEnd_17 (by decide) (fun c_17 => ?_) (fun c_17 => ?_)
        · refine lv_iload_n hx hb dX4_reachesEnd_22 rfl (lv_at hl 1 rfl) ?_
          refine lv_if_lt (tgt := 32) hx hb dX4_reachesEnd_23 (by decide) (fun c_23 => ?_) (fun c_23 => ?_)
          · exact absurd c_23 (by rw [hnx]; exact nI_pos (by omega))
          · refine lv_iload_n hx hb dX4_reachesEnd_26 rfl (lv_at hl 1 rfl) ?_
            refine lv_bipush (v := 13) hx hb dX4_reachesEnd_27 (by decide) ?_
            refine lv_icmp_lt (tgt := 55) hx hb dX4_reachesEnd_29 (by decide) (fun c_29 => ?_) (fun c_29 => ?_)
            · refine lv_iload_n hx hb dX4_reachesEnd_55 rfl (lv_at hl 1 rfl) ?_
              refine lv_iconst (v := 3) hx hb dX4_reachesEnd_56 (by decide) ?_
              refine lv_imul hx hb dX4_reachesEnd_57 ?_
              refine lv_iload_n hx hb dX4_reachesEnd_58 rfl (lv_at hl 3 rfl) ?_
              refine lv_iadd hx hb dX4_reachesEnd_59 ?_
              refine lv_sipush (v := 256) hx hb dX4_reachesEnd_60 (by decide) ?_
              refine lv_imul hx hb dX4_reachesEnd_63 ?_
              refine lv_iload_n hx hb dX4_reachesEnd_64 rfl (lv_at hl 2 rfl) ?_
              refine lv_iadd hx hb dX4_reachesEnd_65 ?_
              refine lv_topi (fun x66 ex66 => ?_)
              refine lv_istore (lv' := [(5, .int x66), (0, .ref so), (1, .int nx), (2, .int sx), (3, .int jx), (4, .ref lo)]) hx hb dX4_reachesEnd_66 hl (by decide) rfl (fun ls hl => ?_)
              have hm : x66 = nI (((12 - d) * 3 + j0) * 256 + s0) := by rw [ex66]; exact hp_mark hn hjx hsx
              refine lv_aload_n hx hb dX4_reachesEnd_68 rfl (lv_at hl 1 rfl) ?_
              refine va_get (D := D) (ci := 3) (v := .ref hp) (C := RX4) (T := TX4) (N := 3) hx hb hts iX4 hown hK hP 0 rfl rfl 1 (by decide) k11 (fun _ h9 => h9) rfl dX4_reachesEnd_69 ?_
              refine lv_iload hx hb dX4_reachesEnd_72 (lv_at hl 0 rfl) ?_
              refine lv_bipush (v := 64) hx hb dX4_reachesEnd_74 (by decide) ?_
              refine lv_idiv hx hb dX4_reachesEnd_76 (by decide) ?_
              refine va_lald hx hb hK hP 2 1 rfl rfl (hp_hin hm hm9) dX4_reachesEnd_77 ?_
              refine lv_iload hx hb dX4_reachesEnd_78 (lv_at hl 0 rfl) ?_
              refine lv_bipush (v := 64) hx hb dX4_reachesEnd_80 (by decide) ?_
              refine lv_irem hx hb dX4_reachesEnd_82 (by decide) ?_
              refine lv_lushr hx hb dX4_reachesEnd_83 rfl ?_
              refine lv_lconst (v := 1) hx hb dX4_reachesEnd_84 (by decide) ?_
              refine lv_land hx hb dX4_reachesEnd_85 ?_
              refine lv_lconst (v := 0) hx hb dX4_reachesEnd_86 (by decide) ?_
              refine W.lcmp hx hb dX4_reachesEnd_87 ?_
              refine lv_if_eq (tgt := 93) hx hb dX4_reachesEnd_88 (by decide) (fun c_88 => ?_) (fun c_88 => ?_)
              · refine lv_aload_n hx hb dX4_reachesEnd_93 rfl (lv_at hl 1 rfl) ?_
                refine va_get (D := D) (ci := 3) (v := .long set) (C := RX4) (T := TX4) (N := 3) hx hb hts iX4 hown hK hP 0 rfl rfl 2 (by decide) k19 (fun _ h9 => h9) rfl dX4_reachesEnd_94 ?_
                refine lv_iload_n hx hb dX4_reachesEnd_97 rfl (lv_at hl 2 rfl) ?_
                refine vp_callSi (W.runS (As := [.long set, .int nx]) (rest := []) ⟨hx, hb, hml, hown, hts⟩ (k_X0_coloursOf l set nx ) (va_cwS 2 hts gX4_reachesEnd_X0_coloursOf rfl rfl rfl (by decide +kernel) ⟨(by show 0 + 1 ≤ (d + 1) + 2; omega), (by show 8 + (3 + 11) + (0) ≤ 29 * (d + 1) + 50; omega)⟩) ⟨pS_fb, pS_pre⟩ rfl rfl hl.1 rfl (lv_room (Nat.le_of_ble_eq_true rfl)) dX4_reachesEnd_98 ⟨Nat.le_of_ble_eq_true rfl, Nat.le_of_ble_eq_true rfl⟩) (fun x98 hx98 => ?_)
                subst hx98
                refine lv_topi (fun x101 ex101 => ?_)
                refine lv_istore (lv' := [(6, .int x101), (5, .int x66), (0, .ref so), (1, .int nx), (2, .int sx), (3, .int jx), (4, .ref lo)]) hx hb dX4_reachesEnd_101 hl (by decide) rfl (fun ls hl => ?_)
                have h6 : x101 = nI (nd set (12 - d)) := by rw [ex101, hn]; exact jn_col (by omega)
                refine lv_iconst (v := 0) hx hb dX4_reachesEnd_103 (by decide) ?_
                refine lv_istore (lv' := [(7, .int 0), (6, .int x101), (5, .int x66), (0, .ref so), (1, .int nx), (2, .int sx), (3, .int jx), (4, .ref lo)]) hx hb dX4_reachesEnd_104 hl (by decide) rfl (fun ls hl => ?_)
                exact lab106 _ 0 x66 x101 0 hq sf (hm) (h6) (nI_0.symm) (by omega) (hhop) (fun _ => rfl) (fun k h => absurd h (Nat.not_lt_zero k)) (Nat.lt_succ_self _) _ _ hP hD hS ls (lv_sub hl [3, 4, 5, 6, 7, 2, 1, 0] rfl)
              · have hbt : hbit hq (((12 - d) * 3 + j0) * 256 + s0) = true := ts_nf (fun z => c_88 (cmp_eq.mpr ((hp_hbit hm hm9).mpr z)))
                have hff : feasN set (d + 1) s0 j0 = false := by have := hhop (12 - d) (by omega) j0 (by omega) s0 hs0 hbt; rw [hd1] at this; exact this
                refine lv_iconst (v := 0) hx hb dX4_reachesEnd_91 (by decide) ?_
                rw [← hQ]
                have hP9 := hP.sub (ws' := [(so, .inr (3, [.ref sp, .ref hp, .long set])), (sp, .inl (cI, 94, .inl stp)), (hp, .inl (cJ, 156, .inr (.inl hq))), (lo, .inr (1, [.ref sa, .long own])), (sa, .inl (cI, 13, .inl sf))]) [0, 1, 2, 3, 4] rfl
                have hD9 := hD.sub (ws' := [(so, .inr (3, [.ref sp, .ref hp, .long set])), (sp, .inl (cI, 94, .inl stp)), (hp, .inl (cJ, 156, .inr (.inl hq))), (lo, .inr (1, [.ref sa, .long own])), (sa, .inl (cI, 13, .inl sf))]) [0, 1, 2, 3, 4] (by decide) rfl
                exact W.zret (v := 0) hx hb hr (by first | decide | rfl | assumption) (fun t ht hW => ⟨⟨0, (hq, sf), rfl, re_no hff hhop (fun _ => rfl), (by show wB D A _ t; exact ⟨by rw [ht]; exact hP9, hD9⟩)⟩, hS.F ht⟩) hS.2.2 dX4_reachesEnd_92
            · exact absurd (by rw [hn]; exact nI_lt (b := 13) (by omega) (by decide)) c_29
        · exact absurd (by rw [hsx]; exact nI_lt (b := 256) hs0 (by decide)) c_17

theorem k_X4_reachesEnd (l : Launch) (D : va_G) (cI cJ cZ : ClassId) : ∀ d : Nat, d ≤ 13 → ∀ (sz : Nat) (so sp hp lo sa : Nat) (set own : Int64) (stp sf : Nat → Int32) (hq : Nat → Int64) (nx sx jx : Int32) (s0 j0 : Nat), (∀ i, i < 94 → stp i = nI (stT i)) → (nx = nI (13 - d)) → (sx = nI s0) → (jx = nI j0) → (s0 < 256) → (j0 ≤ 2) → (HopOk set hq) → Met l yX4_reachesEnd wsX4_reachesEnd ({ frames := d + 2, cells := 0, slots := 0, locals := 29 * d + 50 } : Room) (va_Pc [.ref so, .int nx, .int sx, .int jx, .ref lo] (wM D cI cJ cZ sz [(so, .inr (3, [.ref sp, .ref hp, .long set])), (sp, .inl (cI, 94, .inl stp)), (hp, .inl (cJ, 156, .inr (.inl hq))), (lo, .inr (1, [.ref sa, .long own])), (sa, .inl (cI, 13, .inl sf))])) (va_Qi (fun (r : Int32) (u : (Nat → Int64) × (Nat → Int32)) => match u with | (hq2, sf2) => (RePost set (d) s0 j0 sf sf2 hq2 r)) (fun (u : (Nat → Int64) × (Nat → Int32)) t => match u with | (hq2, sf2) => wB D (va_A [(so, .inr (3, [.ref sp, .ref hp, .long set])), (sp, .inl (cI, 94, .inl stp)), (hp, .inl (cJ, 156, .inr (.inl hq))), (lo, .inr (1, [.ref sa, .long own])), (sa, .inl (cI, 13, .inl sf))] sz) [(so, .inr (3, [.ref sp, .ref hp, .long set])), (sp, .inl (cI, 94, .inl stp)), (hp, .inl (cJ, 156, .inr (.inl hq2))), (lo, .inr (1, [.ref sa, .long own])), (sa, .inl (cI, 13, .inl sf2))] t) (va_A [(so, .inr (3, [.ref sp, .ref hp, .long set])), (sp, .inl (cI, 94, .inl stp)), (hp, .inl (cJ, 156, .inr (.inl hq))), (lo, .inr (1, [.ref sa, .long own])), (sa, .inl (cI, 13, .inl sf))] sz)) 0 0 (va_A [(so, .inr (3, [.ref sp, .ref hp, .long set])), (sp, .inl (cI, 94, .inl stp)), (hp, .inl (cJ, 156, .inr (.inl hq))), (lo, .inr (1, [.ref sa, .long own])), (sa, .inl (cI, 13, .inl sf))] sz)
  | 0, _ => fun sz so sp hp lo sa set own stp sf hq nx sx jx s0 j0 hst hnx hsx hjx hs0 hj0 hhop => k_X4_re0 l D cI cJ cZ sz so sp hp lo sa set own stp sf hq nx sx jx s0 j0 hst hnx hsx hjx hs0 hj0 hhop
  | d + 1, h => fun sz so sp hp lo sa set own stp sf hq nx sx jx s0 j0 hst hnx hsx hjx hs0 hj0 hhop => k_X4_reS l D cI cJ cZ d (by omega) (k_X4_reachesEnd l D cI cJ cZ d (by omega)) sz so sp hp lo sa set own stp sf hq nx sx jx s0 j0 hst hnx hsx hjx hs0 hj0 hhop

set_option maxHeartbeats 4000000 in
set_option maxRecDepth 100000 in
theorem k_J7_fill_d0a16 (l : Launch) (D : va_G) (cI cJ cZ : ClassId) (sz : Nat) (hp : Nat) (hq : Nat → Int64) (vv : Int64)  : Met l yJ7_fill_d0a16 wsJ7_fill_d0a16 ({ frames := 0, cells := 0, slots := 0, locals := 0 } : Room) (va_Pc [.ref hp, .long vv] (wM D cI cJ cZ sz [(hp, .inl (cJ, 156, .inr (.inl hq)))])) (va_Qv (fun (u : (Nat → Int64)) => match u with | hq2 => (∀ k, k < 156 → hq2 k = vv)) (fun (u : (Nat → Int64)) t => match u with | hq2 => wB D (va_A [(hp, .inl (cJ, 156, .inr (.inl hq)))] sz) [(hp, .inl (cJ, 156, .inr (.inl hq2)))] t) (va_A [(hp, .inl (cJ, 156, .inr (.inl hq)))] sz)) 0 0 (va_A [(hp, .inl (cJ, 156, .inr (.inl hq)))] sz) := by
  refine Met.ofW (cc := cJ7_fill_d0a16) (maxL := 5) (ret := none) (by decide) rfl ?_
  intro p e s m args below meth c s₁ B hml hv
  obtain ⟨hargs, hsz, hP, ⟨hK, hN⟩, hD0⟩ := hv
  have hx := B.exec
  have hb := B.bytes
  have hr := B.returns
  have hlocks := B.notSynchronized
  have hts := atoms_spec (ws := wsJ7_fill_d0a16) B.pre
  have hown : s.vm.findClass RJ7 = some m.cls := findClass_of_methodNamed B.named
  subst hsz
  have hD := hD0.self (sz := s.heap.size)
  generalize hAe : va_A [(hp, .inl (cJ, 156, .inr (.inl hq)))] s.heap.size = A at hD ⊢
  have hA : ∀ q : Nat, s.heap.size ≤ q → A q := fun q h => by rw [← hAe]; exact Or.inr h
  have hS : va_S A s.heap s.heap [] := va_S.rf
  rw [show entryFrame m args 5 = entryFrame m ([.ref hp, .long vv] : List Value).toArray 5 from by rw [hargs]]
  have hl := lv_entry ([.ref hp, .long vv]) (n := 5) (Nat.le_of_ble_eq_true rfl)
  rw [lg_entry_eq]
  generalize (lg_sl ([.ref hp, .long vv]) ++ List.replicate (5 - (lg_sl ([.ref hp, .long vv])).length) Slot.unset).toArray = ls at hl ⊢
  have hl : lv_has ls 5 [(0, .ref hp), (1, .long vv)] := hl
  refine wQ (fun Q hQ => ?_)
  have lab6 : ∀ fuel6 : Nat, ∀ (i : Nat) (x3 : Int32) (x4 : Int32) (hr1 : Nat → Int64), (h4 : x4 = nI 156) → (h3 : x3 = nI i) → (hi : i ≤ 156) → (hv : ∀ k, k < i → hr1 k = vv) → (hfu6 : 156 - i < fuel6) → ∀ (H : Heap) (locs : List Loc), va_P D vwCl [(hp, .inl (cJ, 156, .inr (.inl hr1)))] H → va_D A [(hp, .inl (cJ, 156, .inr (.inl hr1)))] → va_S A s.heap H locs → ∀ ls : Array Slot, lv_has ls 5 [(0, .ref hp), (1, .long vv), (3, .int x3), (4, .int x4)] → W p l e (headSpec wsJ7_fill_d0a16 ({ frames := 0, cells := 0, slots := 0, locals := 0 } : Room)).room s m args below meth c H locs 0 0 Q (F0 m 6 ls []) := by
    intro fuel6
    induction fuel6 with
    | zero =>
      intro i x3 x4 hr1 h4 h3 hi hv hfu6
      exact absurd hfu6 (Nat.not_lt_zero _)
    | succ fuel6 ih6 =>
      intro i x3 x4 hr1 h4 h3 hi hv hfu6 H locs hP hD hS ls hl
      refine lv_iload_n hx hb dJ7_fill_d0a16_6 rfl (lv_at hl 2 rfl) ?_
      refine lv_iload hx hb dJ7_fill_d0a16_7 (lv_at hl 3 rfl) ?_
      refine lv_icmp_ge (tgt := 22) hx hb dJ7_fill_d0a16_9 (by decide) (fun c_9 => ?_) (fun c_9 => ?_)
      · have hi9 : i = 156 := hp_ge h3 h4 hi (by decide) c_9
        subst hi9
        rw [← hQ]
        have hP9 := hP.sub (ws' := [(hp, .inl (cJ, 156, .inr (.inl hr1)))]) [0] rfl
        have hD9 := hD.sub (ws' := [(hp, .inl (cJ, 156, .inr (.inl hr1)))]) [0] (by decide) rfl
        exact W.vret hx hb hr (fun t ht hW => ⟨⟨hr1, rfl, hv, (by show wB D A _ t; exact ⟨by rw [ht]; exact hP9, hD9⟩)⟩, hS.F ht⟩) hS.2.2 dJ7_fill_d0a16_22
      · have hlt : i < 156 := hp_lt h3 h4 hi (by decide) c_9
        refine lv_aload_n hx hb dJ7_fill_d0a16_12 rfl (lv_at hl 0 rfl) ?_
        refine lv_iload_n hx hb dJ7_fill_d0a16_13 rfl (lv_at hl 2 rfl) ?_
        refine lv_lload_n hx hb dJ7_fill_d0a16_14 rfl (lv_at hl 1 rfl) ?_
        refine va_last hx hb hK hP hD hS 0 1 rfl rfl (by rw [h3]; exact vp_in_nI hlt (by decide)) dJ7_fill_d0a16_15 (fun H locs hP hD hS => ?_)
        have hP : va_P D vwCl [(hp, .inl (cJ, 156, .inr (.inl (vp_updL hr1 x3.toNatClampNeg vv))))] H := hP
        have hD : va_D A [(hp, .inl (cJ, 156, .inr (.inl (vp_updL hr1 x3.toNatClampNeg vv))))] := hD
        generalize ex15 : vp_updL hr1 x3.toNatClampNeg vv = x15 at hP hD
        obtain ⟨x16, ex16⟩ : ∃ y : Int32, y = x3 + 1 := ⟨_, rfl⟩
        refine lv_iinc (v := x16) (lv' := [(3, .int x16), (0, .ref hp), (1, .long vv), (4, .int x4)]) hx hb dJ7_fill_d0a16_16 hl (k := 2) rfl (by rw [ex16]; rfl) (by decide) rfl (fun ls hl => ?_)
        refine lv_goto (tgt := 6) hx hb dJ7_fill_d0a16_19 (by decide) ?_
        exact ih6 (i + 1) x16 x4 x15 (h4) (hp_s ex16 h3) (by omega) (hp_fill ex15 h3 (by omega) hv) (by omega) _ _ hP hD hS ls (lv_sub hl [1, 2, 0, 3] rfl)
  refine lv_iconst (v := 0) hx hb dJ7_fill_d0a16_0 (by decide) ?_
  refine lv_istore_n (lv' := [(3, .int 0), (0, .ref hp), (1, .long vv)]) hx hb dJ7_fill_d0a16_1 rfl hl (by decide) rfl (fun ls hl => ?_)
  refine lv_aload_n hx hb dJ7_fill_d0a16_2 rfl (lv_at hl 1 rfl) ?_
  refine va_alen hx hb hK hP 0 1 rfl (ty := .long) rfl (v := nI 156) rfl dJ7_fill_d0a16_3 ?_
  refine lv_topi (fun x4 ex4 => ?_)
  refine lv_istore (lv' := [(4, .int x4), (3, .int 0), (0, .ref hp), (1, .long vv)]) hx hb dJ7_fill_d0a16_4 hl (by decide) rfl (fun ls hl => ?_)
  exact lab6 _ 0 0 x4 hq (ex4) (nI_0.symm) (by omega) (fun k h => absurd h (Nat.not_lt_zero k)) (Nat.lt_succ_self _) _ _ hP hD hS ls (lv_sub hl [2, 3, 1, 0] rfl)

set_option maxHeartbeats 4000000 in
set_option maxRecDepth 100000 in
theorem k_X4_findFirst (l : Launch) (D : va_G) (cI cJ cZ : ClassId) (sz : Nat) (so sp hp lo sa : Nat) (set own want : Int64) (stp sf : Nat → Int32) (hq : Nat → Int64) (hst : ∀ i, i < 94 → stp i = nI (stT i)) (hwant : isS want) : Met l yX4_findFirst wsX4_findFirst ({ frames := 16, cells := 0, slots := 0, locals := 456 } : Room) (va_Pc [.ref so, .long want, .ref lo] (wM D cI cJ cZ sz [(so, .inr (3, [.ref sp, .ref hp, .long set])), (sp, .inl (cI, 94, .inl stp)), (hp, .inl (cJ, 156, .inr (.inl hq))), (lo, .inr (1, [.ref sa, .long own])), (sa, .inl (cI, 13, .inl sf))])) (va_Qi (fun (r : Int32) (u : (Int64) × (Nat → Int64) × (Nat → Int32)) => match u with | (own2, hq2, sf2) => (r = (if feasN want 13 0 (jkN want) then 1 else 0) ∧ (feasN want 13 0 (jkN want) = false → ∀ k, sf2 k = sf k) ∧ (feasN want 13 0 (jkN want) = true → ∀ k, k < 13 → sf2 k = nI (pathN want 13 0 (jkN want) k))) ∧ own2 = (if feasN want 13 0 (jkN want) then want else own)) (fun (u : (Int64) × (Nat → Int64) × (Nat → Int32)) t => match u with | (own2, hq2, sf2) => wB D (va_A [(so, .inr (3, [.ref sp, .ref hp, .long set])), (sp, .inl (cI, 94, .inl stp)), (hp, .inl (cJ, 156, .inr (.inl hq))), (lo, .inr (1, [.ref sa, .long own])), (sa, .inl (cI, 13, .inl sf))] sz) [(so, .inr (3, [.ref sp, .ref hp, .long want])), (sp, .inl (cI, 94, .inl stp)), (hp, .inl (cJ, 156, .inr (.inl hq2))), (lo, .inr (1, [.ref sa, .long own2])), (sa, .inl (cI, 13, .inl sf2))] t) (va_A [(so, .inr (3, [.ref sp, .ref hp, .long set])), (sp, .inl (cI, 94, .inl stp)), (hp, .inl (cJ, 156, .inr (.inl hq))), (lo, .inr (1, [.ref sa, .long own])), (sa, .inl (cI, 13, .inl sf))] sz)) 0 0 (va_A [(so, .inr (3, [.ref sp, .ref hp, .long set])), (sp, .inl (cI, 94, .inl stp)), (hp, .inl (cJ, 156, .inr (.inl hq))), (lo, .inr (1, [.ref sa, .long own])), (sa, .inl (cI, 13, .inl sf))] sz) := by
  refine Met.ofW (cc := cX4_findFirst) (maxL := 4) (ret := (some .boolean)) (by decide) rfl ?_
  intro p e s m args below meth c s₁ B hml hv
  obtain ⟨hargs, hsz, hP, ⟨hK, hN⟩, hD0⟩ := hv
  have hx := B.exec
  have hb := B.bytes
  have hr := B.returns
  have hlocks := B.notSynchronized
  have hts := atoms_spec (ws := wsX4_findFirst) B.pre
  have hown : s.vm.findClass RX4 = some m.cls := findClass_of_methodNamed B.named
  have k19 := hts (.fieldLink RX4 19 "RummyTable$Search" "set" "J") (by decide +kernel)
  have iX4 : ∀ w ∈ wsX40, w ∈ wsX4_findFirst := by decide +kernel
  have k11 := hts (.fieldLink RX4 11 "RummyTable$Search" "hopeless" "[J") (by decide +kernel)
  have k23 := hts (.methodLink RX4 23 yJ7_fill_d0a16) (by decide +kernel)
  have k29 := hts (.methodLink RX4 29 yX0_jokersIn) (by decide +kernel)
  have k35 := hts (.methodLink RX4 35 yX4_reachesEnd) (by decide +kernel)
  have k39 : (Cond.fieldLinkNest RX4 39 "RummyTable$Layout" "own" "J" "RummyTable").before args s = true := va_Nw.use rfl hN.1
  have iX2 : ∀ w ∈ wsX20, w ∈ wsX4_findFirst := by decide +kernel
  subst hsz
  have hD := hD0.self (sz := s.heap.size)
  generalize hAe : va_A [(so, .inr (3, [.ref sp, .ref hp, .long set])), (sp, .inl (cI, 94, .inl stp)), (hp, .inl (cJ, 156, .inr (.inl hq))), (lo, .inr (1, [.ref sa, .long own])), (sa, .inl (cI, 13, .inl sf))] s.heap.size = A at hD ⊢
  have hA : ∀ q : Nat, s.heap.size ≤ q → A q := fun q h => by rw [← hAe]; exact Or.inr h
  have hS : va_S A s.heap s.heap [] := va_S.rf
  rw [show entryFrame m args 4 = entryFrame m ([.ref so, .long want, .ref lo] : List Value).toArray 4 from by rw [hargs]]
  have hl := lv_entry ([.ref so, .long want, .ref lo]) (n := 4) (Nat.le_of_ble_eq_true rfl)
  rw [lg_entry_eq]
  generalize (lg_sl ([.ref so, .long want, .ref lo]) ++ List.replicate (4 - (lg_sl ([.ref so, .long want, .ref lo])).length) Slot.unset).toArray = ls at hl ⊢
  have hl : lv_has ls 4 [(0, .ref so), (1, .long want), (3, .ref lo)] := hl
  refine wQ (fun Q hQ => ?_)
  refine lv_aload_n hx hb dX4_findFirst_0 rfl (lv_at hl 0 rfl) ?_
  refine lv_lload_n hx hb dX4_findFirst_1 rfl (lv_at hl 1 rfl) ?_
  refine va_put (D := D) (ci := 3) (v := .long want) (ty := .long) (C := RX4) (T := TX4) (N := 3) hx hb hts iX4 tyX4 tyX4_ok nmX4 hown hK hP hD hS 0 rfl rfl 2 (by decide) k19 (fun _ h9 => h9) rfl (by decide +kernel) rfl rfl (Nat.le_of_ble_eq_true rfl) dX4_findFirst_2 (fun H locs hP hD hS => ?_)
  have hP : va_P D vwCl [(so, .inr (3, [.ref sp, .ref hp, .long want])), (sp, .inl (cI, 94, .inl stp)), (hp, .inl (cJ, 156, .inr (.inl hq))), (lo, .inr (1, [.ref sa, .long own])), (sa, .inl (cI, 13, .inl sf))] H := hP
  have hD : va_D A [(so, .inr (3, [.ref sp, .ref hp, .long want])), (sp, .inl (cI, 94, .inl stp)), (hp, .inl (cJ, 156, .inr (.inl hq))), (lo, .inr (1, [.ref sa, .long own])), (sa, .inl (cI, 13, .inl sf))] := hD
  refine lv_aload_n hx hb dX4_findFirst_5 rfl (lv_at hl 0 rfl) ?_
  refine va_get (D := D) (ci := 3) (v := .ref hp) (C := RX4) (T := TX4) (N := 3) hx hb hts iX4 hown hK hP 0 rfl rfl 1 (by decide) k11 (fun _ h9 => h9) rfl dX4_findFirst_6 ?_
  refine lv_lconst (v := 0) hx hb dX4_findFirst_9 (by decide) ?_
  have hPc := hP.sub (ws' := [(hp, .inl (cJ, 156, .inr (.inl hq)))]) [2] rfl
  have hDc := hD.sub (ws' := [(hp, .inl (cJ, 156, .inr (.inl hq)))]) [2] (by decide) rfl
  have hFc := va_free (wc := [(hp, .inl (cJ, 156, .inr (.inl hq)))]) hD hS hA [2] rfl
  refine va_callv (va_runS (As := [.ref hp, .long 0]) (rest := []) ⟨hx, hb, hml, hown, hts⟩ (k_J7_fill_d0a16 l D cI cJ cZ H.size hp hq 0 ) (va_cwS 2 hts gX4_findFirst_J7_fill_d0a16 rfl rfl rfl (by decide +kernel) ⟨Nat.le_of_ble_eq_true rfl, Nat.le_of_ble_eq_true rfl⟩) ⟨wM_fb, wM_pre hPc ⟨hK, hN⟩ hDc⟩ rfl rfl hl.1 rfl (lv_room (Nat.le_of_ble_eq_true rfl)) dX4_findFirst_10 ⟨Nat.le_of_ble_eq_true rfl, Nat.le_of_ble_eq_true rfl⟩) hS (fun q _ h => hFc q h) hFc (fun u t H1 locs ht hvm hx10 hB hz1 hk1 hS => ?_)
  obtain ⟨hq2_x10, rfl⟩ : ∃ z, z = u := ⟨_, rfl⟩
  obtain ⟨hP1, hD1⟩ := hB
  rw [ht] at hP1
  obtain ⟨hP, hD⟩ := va_join (wr := [(so, .inr (3, [.ref sp, .ref hp, .long want])), (sp, .inl (cI, 94, .inl stp)), (lo, .inr (1, [.ref sa, .long own])), (sa, .inl (cI, 13, .inl sf))]) (w1 := [(hp, .inl (cJ, 156, .inr (.inl hq2_x10)))]) hP hD [2] [0, 1, 3, 4] rfl rfl (by decide) (by decide) hk1 hFc hP1 hD1
  generalize H1 = H at hP hS ⊢
  have hP : va_P D vwCl [(so, .inr (3, [.ref sp, .ref hp, .long want])), (sp, .inl (cI, 94, .inl stp)), (lo, .inr (1, [.ref sa, .long own])), (sa, .inl (cI, 13, .inl sf)), (hp, .inl (cJ, 156, .inr (.inl hq2_x10)))] H := hP
  have hD : va_D A [(so, .inr (3, [.ref sp, .ref hp, .long want])), (sp, .inl (cI, 94, .inl stp)), (lo, .inr (1, [.ref sa, .long own])), (sa, .inl (cI, 13, .inl sf)), (hp, .inl (cJ, 156, .inr (.inl hq2_x10)))] := hD
  try dsimp only at hx10
  refine lv_aload_n hx hb dX4_findFirst_13 rfl (lv_at hl 0 rfl) ?_
  refine lv_iconst (v := 0) hx hb dX4_findFirst_14 (by decide) ?_
  refine lv_iconst (v := 0) hx hb dX4_findFirst_15 (by decide) ?_
  refine lv_lload_n hx hb dX4_findFirst_16 rfl (lv_at hl 1 rfl) ?_
  refine vp_callSi (W.runS (As := [.long want]) (rest := [.int 0, .int 0, .ref so]) ⟨hx, hb, hml, hown, hts⟩ (k_X0_jokersIn l want ) (va_cwS 1 hts gX4_findFirst_X0_jokersIn rfl rfl rfl (by decide +kernel) ⟨Nat.le_of_ble_eq_true rfl, Nat.le_of_ble_eq_true rfl⟩) ⟨pS_fb, pS_pre⟩ rfl rfl hl.1 rfl (lv_room (Nat.le_of_ble_eq_true rfl)) dX4_findFirst_17 ⟨Nat.le_of_ble_eq_true rfl, Nat.le_of_ble_eq_true rfl⟩) (fun x17 hx17 => ?_)
  subst hx17
  refine lv_aload_n hx hb dX4_findFirst_20 rfl (lv_at hl 2 rfl) ?_
  have hPc := hP.sub (ws' := [(so, .inr (3, [.ref sp, .ref hp, .long want])), (sp, .inl (cI, 94, .inl stp)), (hp, .inl (cJ, 156, .inr (.inl hq2_x10))), (lo, .inr (1, [.ref sa, .long own])), (sa, .inl (cI, 13, .inl sf))]) [0, 1, 4, 2, 3] rfl
  have hDc := hD.sub (ws' := [(so, .inr (3, [.ref sp, .ref hp, .long want])), (sp, .inl (cI, 94, .inl stp)), (hp, .inl (cJ, 156, .inr (.inl hq2_x10))), (lo, .inr (1, [.ref sa, .long own])), (sa, .inl (cI, 13, .inl sf))]) [0, 1, 4, 2, 3] (by decide) rfl
  have hFc := va_free (wc := [(so, .inr (3, [.ref sp, .ref hp, .long want])), (sp, .inl (cI, 94, .inl stp)), (hp, .inl (cJ, 156, .inr (.inl hq2_x10))), (lo, .inr (1, [.ref sa, .long own])), (sa, .inl (cI, 13, .inl sf))]) hD hS hA [0, 1, 4, 2, 3] rfl
  refine va_calli (va_runV (As := [.int 0, .int 0, .int (j_X0_jokersIn want), .ref lo]) (rest := []) ⟨hx, hb, hml, hown, hts⟩ (k_X4_reachesEnd l D cI cJ cZ 13 (by decide) H.size so sp hp lo sa want own stp sf hq2_x10 0 0 (j_X0_jokersIn want) 0 (jkN want) (hst) (rfl) (rfl) (jn_jk hwant) (by decide) (jkN_le want) (hop_zero hx10)) (cwV 4 hts gX4_findFirst_X4_reachesEnd rfl rfl rfl (by decide +kernel) ⟨Nat.le_of_ble_eq_true rfl, Nat.le_of_ble_eq_true rfl⟩) ⟨wM_fb, va_recv hK hPc (ci := 3) (q0 := 0) rfl rfl, wM_pre hPc ⟨hK, hN⟩ hDc⟩ rfl rfl hl.1 rfl (lv_room (Nat.le_of_ble_eq_true rfl)) dX4_findFirst_21 ⟨Nat.le_of_ble_eq_true rfl, Nat.le_of_ble_eq_true rfl⟩) hS (fun q _ h => hFc q h) hFc (fun x21 u t H1 locs ht hvm hx21 hB hz1 hk1 hS => ?_)
  obtain ⟨hq2_x21, sf2_x21⟩ := u
  obtain ⟨hP1, hD1⟩ := hB
  rw [ht] at hP1
  obtain ⟨hP, hD⟩ := va_join (wr := []) (w1 := [(so, .inr (3, [.ref sp, .ref hp, .long want])), (sp, .inl (cI, 94, .inl stp)), (hp, .inl (cJ, 156, .inr (.inl hq2_x21))), (lo, .inr (1, [.ref sa, .long own])), (sa, .inl (cI, 13, .inl sf2_x21))]) hP hD [0, 1, 4, 2, 3] [] rfl rfl (by decide) (by decide) hk1 hFc hP1 hD1
  generalize H1 = H at hP hS ⊢
  have hP : va_P D vwCl [(so, .inr (3, [.ref sp, .ref hp, .long want])), (sp, .inl (cI, 94, .inl stp)), (hp, .inl (cJ, 156, .inr (.inl hq2_x21))), (lo, .inr (1, [.ref sa, .long own])), (sa, .inl (cI, 13, .inl sf2_x21))] H := hP
  have hD : va_D A [(so, .inr (3, [.ref sp, .ref hp, .long want])), (sp, .inl (cI, 94, .inl stp)), (hp, .inl (cJ, 156, .inr (.inl hq2_x21))), (lo, .inr (1, [.ref sa, .long own])), (sa, .inl (cI, 13, .inl sf2_x21))] := hD
  try dsimp only at hx21
  refine lv_if_ne (tgt := 29) hx hb dX4_findFirst_24 (by decide) (fun c_24 => ?_) (fun c_24 => ?_)
  · have hF : feasN want 13 0 (jkN want) = true := re_t hx21 c_24
    refine lv_aload_n hx hb dX4_findFirst_29 rfl (lv_at hl 2 rfl) ?_
    refine lv_lload_n hx hb dX4_findFirst_30 rfl (lv_at hl 1 rfl) ?_
    refine va_putN (D := D) (ci := 1) (v := .long want) (ty := .long) (C := RX2) (T := TX2) (N := 2) hx hb hts iX2 tyX2 tyX2_ok nmX2 hown hK hP hD hS 3 rfl rfl 1 (by decide) k39 (fun _ h9 => h9) rfl (by decide +kernel) rfl rfl (Nat.le_of_ble_eq_true rfl) dX4_findFirst_31 (fun H locs hP hD hS => ?_)
    have hP : va_P D vwCl [(so, .inr (3, [.ref sp, .ref hp, .long want])), (sp, .inl (cI, 94, .inl stp)), (hp, .inl (cJ, 156, .inr (.inl hq2_x21))), (lo, .inr (1, [.ref sa, .long want])), (sa, .inl (cI, 13, .inl sf2_x21))] H := hP
    have hD : va_D A [(so, .inr (3, [.ref sp, .ref hp, .long want])), (sp, .inl (cI, 94, .inl stp)), (hp, .inl (cJ, 156, .inr (.inl hq2_x21))), (lo, .inr (1, [.ref sa, .long want])), (sa, .inl (cI, 13, .inl sf2_x21))] := hD
    refine lv_iconst (v := 1) hx hb dX4_findFirst_34 (by decide) ?_
    rw [← hQ]
    have hP9 := hP.sub (ws' := [(so, .inr (3, [.ref sp, .ref hp, .long want])), (sp, .inl (cI, 94, .inl stp)), (hp, .inl (cJ, 156, .inr (.inl hq2_x21))), (lo, .inr (1, [.ref sa, .long want])), (sa, .inl (cI, 13, .inl sf2_x21))]) [0, 1, 2, 3, 4] rfl
    have hD9 := hD.sub (ws' := [(so, .inr (3, [.ref sp, .ref hp, .long want])), (sp, .inl (cI, 94, .inl stp)), (hp, .inl (cJ, 156, .inr (.inl hq2_x21))), (lo, .inr (1, [.ref sa, .long want])), (sa, .inl (cI, 13, .inl sf2_x21))]) [0, 1, 2, 3, 4] (by decide) rfl
    exact W.zret (v := 1) hx hb hr (by first | decide | rfl | assumption) (fun t ht hW => ⟨⟨1, (want, hq2_x21, sf2_x21), rfl, ⟨⟨by rw [hF]; rfl, fun h => by rw [hF] at h; exact absurd h (by decide), fun _ k hk => hx21.2.2.2.2 hF k (by omega) hk⟩, (by rw [hF]; rfl)⟩, (by show wB D A _ t; exact ⟨by rw [ht]; exact hP9, hD9⟩)⟩, hS.F ht⟩) hS.2.2 dX4_findFirst_35
  · have hF : feasN want 13 0 (jkN want) = false := re_f hx21 c_24
    refine lv_iconst (v := 0) hx hb dX4_findFirst_27 (by decide) ?_
    rw [← hQ]
    have hP9 := hP.sub (ws' := [(so, .inr (3, [.ref sp, .ref hp, .long want])), (sp, .inl (cI, 94, .inl stp)), (hp, .inl (cJ, 156, .inr (.inl hq2_x21))), (lo, .inr (1, [.ref sa, .long own])), (sa, .inl (cI, 13, .inl sf2_x21))]) [0, 1, 2, 3, 4] rfl
    have hD9 := hD.sub (ws' := [(so, .inr (3, [.ref sp, .ref hp, .long want])), (sp, .inl (cI, 94, .inl stp)), (hp, .inl (cJ, 156, .inr (.inl hq2_x21))), (lo, .inr (1, [.ref sa, .long own])), (sa, .inl (cI, 13, .inl sf2_x21))]) [0, 1, 2, 3, 4] (by decide) rfl
    exact W.zret (v := 0) hx hb hr (by first | decide | rfl | assumption) (fun t ht hW => ⟨⟨0, (own, hq2_x21, sf2_x21), rfl, ⟨⟨by rw [hF]; rfl, fun _ => hx21.2.2.2.1 hF, fun h => by rw [hF] at h; exact absurd h (by decide)⟩, (by rw [hF]; rfl)⟩, (by show wB D A _ t; exact ⟨by rw [ht]; exact hP9, hD9⟩)⟩, hS.F ht⟩) hS.2.2 dX4_findFirst_28
