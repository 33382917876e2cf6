/-- both hold the first layout of the set x -/
def LR (x : Int64) (pf sf stf : Nat → Int32) : Prop := isS x ∧ fe x = true ∧ (∀ n, n < 13 → stf n = lyF x n) ∧ ∀ n, n < 13 → plP x pf sf n
theorem pl_5 : ∀ i, i < 94 → ∀ c, c < 4 → j_X5_placeOf (nI (stT i)) (nI c) = nI (cdP (cdT (stT i)) c) := by decide +kernel
theorem pl_ru : ∀ i, i < 94 → (if nI (cdP (cdT (stT i)) 0) = 2 then (1 : Int32) else 0) + (if nI (cdP (cdT (stT i)) 1) = 2 then 1 else 0) + (if nI (cdP (cdT (stT i)) 2) = 2 then 1 else 0) + (if nI (cdP (cdT (stT i)) 3) = 2 then 1 else 0) = j_bcI (j_X5_begun (nI (stT i))) := by decide +kernel
theorem pl_sh : ∀ i, i < 94 → (if nI (cdP (cdT (stT i)) 0) ≤ 0 then (0 : Int32) else 1) + (if nI (cdP (cdT (stT i)) 1) ≤ 0 then 0 else 1) + (if nI (cdP (cdT (stT i)) 2) ≤ 0 then 0 else 1) + (if nI (cdP (cdT (stT i)) 3) ≤ 0 then 0 else 1) = j_bcI (j_X5_shown (nI (stT i))) := by decide +kernel
theorem pl_gr : ∀ i, i < 94 → (if (0 : Int32) + (if nI (cdP (cdT (stT i)) 0) = 1 then 1 else 0) + (if nI (cdP (cdT (stT i)) 1) = 1 then 1 else 0) + (if nI (cdP (cdT (stT i)) 2) = 1 then 1 else 0) + (if nI (cdP (cdT (stT i)) 3) = 1 then 1 else 0) ≤ 0 then (0 : Int32) else 1) = if j_X5_grouped (nI (stT i)) = 0 then 0 else 1 := by decide +kernel
theorem pl_at {x : Int64} {pf sf : Nat → Int32} {n c : Nat} (h : plP x pf sf n) (hc : c < 4) : ∃ i, i < 94 ∧ lyF x n = nI (stT i) ∧ pf (4 * n + c) = nI (cdP (cdT (stT i)) c) ∧ sf (4 * n + c) = nI (bN (decide (0 < cdP (cdT (stT i)) c) && !hsB x (4 * n + c))) := by
  obtain ⟨⟨i, hi, he⟩, hp⟩ := h
  rw [he] at hp
  exact ⟨i, hi, by unfold lyF; rw [he], hp c hc⟩
theorem card_of {card : Int32} (h0 : ¬ card < 0) (h : card < 52) : ∃ k, k < 52 ∧ card = nI k ∧ (card / 4).toNatClampNeg = k / 4 ∧ card - card / 4 * 4 = nI (k % 4) := by
  obtain ⟨k, hk, rfl⟩ := nI_of h0
  rw [show (52 : Int32) = nI 52 from rfl, nI_ltI hk (by decide)] at h
  refine ⟨k, h, rfl, ?_, ?_⟩
  · rw [show (4 : Int32) = nI 4 from rfl, pk_div (by omega) (by decide) (by decide)]
    exact nI_clamp (by omega)
  · rw [show (4 : Int32) = nI 4 from rfl]
    exact pk_rem (by omega) (by decide) (by decide)
theorem ge_52 {card : Int32} : 52 ≤ card ↔ ¬ card < 52 := Int32.not_lt.symm
theorem lr_place {x : Int64} {pf sf stf : Nat → Int32} (h : LR x pf sf stf) (card : Int32) : j_X2_placeOf stf card = j_X8_place pf card := by
  unfold j_X2_placeOf j_X8_place
  by_cases h0 : card < 0
  · rw [if_pos h0, if_pos h0]
  · rw [if_neg h0, if_neg h0]
    by_cases h1 : card < 52
    · rw [if_pos h1, if_neg (fun z => ge_52.mp z h1)]
      obtain ⟨k, hk, e1, e2, e3⟩ := card_of h0 h1
      obtain ⟨i, hi, l1, l2, _⟩ := pl_at (c := k % 4) (h.2.2.2 (k / 4) (by omega)) (by omega)
      rw [e2, e3, h.2.2.1 (k / 4) (by omega), l1, pl_5 i hi _ (by omega), ← l2, e1, nI_clamp (by omega)]
      congr 1; omega
    · rw [if_neg h1, if_pos (ge_52.mpr h1)]
theorem lr_stands {x : Int64} {pf sf stf : Nat → Int32} (h : LR x pf sf stf) (card : Int32) : j_X2_jokerFor stf x card = j_X8_stands sf card := by
  unfold j_X2_jokerFor
  rw [lr_place h]
  unfold j_X8_stands j_X8_place
  by_cases h0 : card < 0
  · rw [if_pos h0, if_pos h0]
  · rw [if_neg h0, if_neg h0, if_neg h0]
    by_cases h1 : card < 52
    · rw [if_pos h1, if_neg (fun z => ge_52.mp z h1), if_neg (fun z => ge_52.mp z h1)]
      obtain ⟨k, hk, e1, e2, e3⟩ := card_of h0 h1
      obtain ⟨i, hi, l1, l2, l3⟩ := pl_at (c := k % 4) (h.2.2.2 (k / 4) (by omega)) (by omega)
      have ek : 4 * (k / 4) + k % 4 = k := by omega
      rw [ek] at l2 l3
      have hb : lg_cmp ((x.toUInt64 >>> (card.toInt64.toUInt64 &&& Int64.toUInt64 63)).toInt64 &&& 1) 0 = 0 ↔ hsB x k = false := by
        rw [cmp_eq, e1]
        exact ts_bit (by omega) (by rw [wb_cu _ (by omega)]; exact Nat.mod_eq_of_lt (by omega))
      rw [e1, nI_clamp (by omega), l2, l3]
      rw [e1] at hb
      have hpl := cdP_lt (cdT (stT i)) (k % 4)
      generalize cdP (cdT (stT i)) (k % 4) = p at hpl
      by_cases z : p = 0
      · subst z; rw [if_pos (show nI 0 = 0 from rfl)]; rfl
      · rw [if_neg (show ¬ nI p = 0 from fun q => z ((nI_eq (b := 0) (by omega) (by decide)).mp q)), decide_eq_true (by omega : 0 < p), Bool.true_and]
        cases w : hsB x k with
        | false => rw [if_pos (hb.mpr w)]; rfl
        | true => rw [if_neg (fun q => by rw [hb.mp q] at w; exact absurd w (by decide))]; rfl
    · rw [if_neg h1, if_pos (ge_52.mpr h1)]
theorem lr_runs {x : Int64} {pf sf : Nat → Int32} (h : ∀ n, n < 13 → plP x pf sf n) : j_X8_runs pf = j_X2_runs (lyF x) := by
  unfold j_X8_runs j_X2_runs
  rw [show (52 : Nat) = 4 * 13 from rfl, bx_4]
  refine bx_congr 13 (fun n hn => ?_)
  obtain ⟨⟨i, hi, he⟩, hp⟩ := h n hn
  rw [he] at hp
  have p0 := (hp 0 (by decide)).1
  rw [Nat.add_zero] at p0
  rw [p0, (hp 1 (by decide)).1, (hp 2 (by decide)).1, (hp 3 (by decide)).1, pl_ru i hi]
  unfold lyF
  rw [he]
theorem lr_shown {x : Int64} {pf sf : Nat → Int32} (h : ∀ n, n < 13 → plP x pf sf n) : j_X8_shown pf = j_X2_shownCards (lyF x) := by
  unfold j_X8_shown j_X2_shownCards
  rw [show (52 : Nat) = 4 * 13 from rfl, bx_4]
  refine bx_congr 13 (fun n hn => ?_)
  obtain ⟨⟨i, hi, he⟩, hp⟩ := h n hn
  rw [he] at hp
  have p0 := (hp 0 (by decide)).1
  rw [Nat.add_zero] at p0
  rw [p0, (hp 1 (by decide)).1, (hp 2 (by decide)).1, (hp 3 (by decide)).1, pl_sh i hi]
  unfold lyF
  rw [he]
theorem lr_worth {x : Int64} {pf sf : Nat → Int32} (h : ∀ n, n < 13 → plP x pf sf n) : j_X8_worthShown pf = wsh x := by
  unfold j_X8_worthShown wsh j_X2_shownWorth
  rw [show (52 : Nat) = 4 * 13 from rfl, bx_4]
  refine bx_congr 13 (fun n hn => ?_)
  obtain ⟨⟨i, hi, he⟩, hp⟩ := h n hn
  rw [he] at hp
  have p0 := (hp 0 (by decide)).1
  rw [Nat.add_zero] at p0
  have w0 := wo_4 n hn 0 (by decide)
  rw [Nat.add_zero] at w0
  have hd : ∀ p W : Int32, (if p ≤ 0 then (0 : Int32) else W) = W * (if p ≤ 0 then 0 else 1) := by
    intro p W
    split
    · rw [Int32.mul_zero]
    · rw [Int32.mul_one]
  rw [w0, wo_4 n hn 1 (by decide), wo_4 n hn 2 (by decide), wo_4 n hn 3 (by decide), wn_0 n hn, hd, hd (pf (4 * n + 1)), hd (pf (4 * n + 2)), hd (pf (4 * n + 3)), ← Int32.mul_add, ← Int32.mul_add, ← Int32.mul_add, p0, (hp 1 (by decide)).1, (hp 2 (by decide)).1, (hp 3 (by decide)).1, pl_sh i hi]
  unfold lyF
  rw [he]
theorem mlG_0 {pf : Nat → Int32} : ∀ n, mlG pf (4 * n) = 0
  | 0 => rfl
  | n + 1 => by
    show (if (4 * n + 3) % 4 < 3 then _ else (0 : Int32)) = 0
    rw [if_neg (by omega)]
theorem ml_4 {pf : Nat → Int32} (n : Nat) : mlN pf (4 * (n + 1)) = mlN pf (4 * n) + ((if pf (4 * n) = 2 then 1 else 0) + (if pf (4 * n + 1) = 2 then 1 else 0) + (if pf (4 * n + 2) = 2 then 1 else 0) + (if pf (4 * n + 3) = 2 then 1 else 0)) + (if (0 : Int32) + (if pf (4 * n) = 1 then 1 else 0) + (if pf (4 * n + 1) = 1 then 1 else 0) + (if pf (4 * n + 2) = 1 then 1 else 0) + (if pf (4 * n + 3) = 1 then 1 else 0) ≤ 0 then 0 else 1) := by
  have g1 : mlG pf (4 * n + 1) = mlG pf (4 * n) + (if pf (4 * n) = 1 then 1 else 0) := by
    show (if (4 * n) % 4 < 3 then _ else (0 : Int32)) = _
    rw [if_pos (by omega)]
  have g2 : mlG pf (4 * n + 2) = mlG pf (4 * n + 1) + (if pf (4 * n + 1) = 1 then 1 else 0) := by
    show (if (4 * n + 1) % 4 < 3 then _ else (0 : Int32)) = _
    rw [if_pos (by omega)]
  have g3 : mlG pf (4 * n + 3) = mlG pf (4 * n + 2) + (if pf (4 * n + 2) = 1 then 1 else 0) := by
    show (if (4 * n + 2) % 4 < 3 then _ else (0 : Int32)) = _
    rw [if_pos (by omega)]
  have n1 : mlN pf (4 * n + 1) = mlN pf (4 * n) + (if pf (4 * n) = 2 then 1 else 0) := by
    show (if (4 * n) % 4 < 3 then _ else _) = _
    rw [if_pos (by omega)]
  have n2 : mlN pf (4 * n + 2) = mlN pf (4 * n + 1) + (if pf (4 * n + 1) = 2 then 1 else 0) := by
    show (if (4 * n + 1) % 4 < 3 then _ else _) = _
    rw [if_pos (by omega)]
  have n3 : mlN pf (4 * n + 3) = mlN pf (4 * n + 2) + (if pf (4 * n + 2) = 2 then 1 else 0) := by
    show (if (4 * n + 2) % 4 < 3 then _ else _) = _
    rw [if_pos (by omega)]
  show (if (4 * n + 3) % 4 < 3 then _ else mlN pf (4 * n + 3) + (if pf (4 * n + 3) = 2 then 1 else 0) + (if mlG pf (4 * n + 3) + (if pf (4 * n + 3) = 1 then 1 else 0) ≤ 0 then 0 else 1)) = _
  rw [if_neg (by omega), n3, n2, n1, g3, g2, g1, mlG_0]
  rw [← Int32.add_assoc, ← Int32.add_assoc, ← Int32.add_assoc]
theorem i32_swap (a b c d : Int32) : a + b + c + d = (a + d) + (b + c) := by
  rw [Int32.add_assoc a b c, Int32.add_assoc a (b + c) d, Int32.add_comm (b + c) d, ← Int32.add_assoc]
theorem lr_melds {x : Int64} {pf sf : Nat → Int32} (h : ∀ n, n < 13 → plP x pf sf n) : j_X8_melds pf = j_X2_groups (lyF x) + j_X2_runs (lyF x) := by
  have key : ∀ n, n ≤ 13 → mlN pf (4 * n) = bx_sum (fun n => if j_X5_grouped (lyF x n) = 0 then 0 else 1) n + bx_sum (fun n => j_bcI (j_X5_begun (lyF x n))) n := by
    intro n
    induction n with
    | zero => intro _; rfl
    | succ n ih =>
      intro hn
      obtain ⟨⟨i, hi, he⟩, hp⟩ := h n (by omega)
      rw [he] at hp
      have p0 := (hp 0 (by decide)).1
      rw [Nat.add_zero] at p0
      rw [ml_4, ih (by omega), p0, (hp 1 (by decide)).1, (hp 2 (by decide)).1, (hp 3 (by decide)).1, pl_ru i hi, pl_gr i hi]
      show _ = (bx_sum _ n + (if j_X5_grouped (lyF x n) = 0 then 0 else 1)) + (bx_sum _ n + j_bcI (j_X5_begun (lyF x n)))
      have e : lyF x n = nI (stT i) := by unfold lyF; rw [he]
      rw [e]
      exact i32_swap _ _ _ _
  exact key 13 (Nat.le_refl 13)
theorem fstI_sat {q : Nat → Bool} : ∀ {n : Nat}, anyI q n = true → q (fstI q n) = true ∧ fstI q n < n
  | 0, h => Bool.noConfusion h
  | n + 1, h => by
    show q (if anyI q n then fstI q n else n) = true ∧ (if anyI q n then fstI q n else n) < n + 1
    cases z : anyI q n with
    | true =>
      obtain ⟨h1, h2⟩ := fstI_sat z
      exact ⟨h1, by show fstI q n < n + 1; omega⟩
    | false =>
      have h' : (anyI q n || q n) = true := h
      rw [z, Bool.false_or] at h'
      exact ⟨h', Nat.lt_succ_self n⟩
theorem path_sum {x : Int64} : ∀ d, d ≤ 13 → ∀ s j, feasN x d s j = true → sm (fun i => costN (nd x (13 - d + i)) (pathN x d s j (13 - d + i))) d = j
  | 0, _, s, j, h => by
    have h' : ((j == 0) && c_en s) = true := h
    rw [Bool.and_eq_true, beq_iff_eq] at h'
    exact h'.1.symm
  | d + 1, hd, s, j, h => by
    rw [feasN_s] at h
    obtain ⟨h1, h2⟩ := fstI_sat h
    generalize hi0 : fstI (tryN x d s j) 94 = i0 at h1 h2
    unfold tryN at h1
    rw [Bool.and_eq_true] at h1
    obtain ⟨o1, o2⟩ := h1
    have o3 := (okN_and.mp o1).2.2
    have ih := path_sum d (by omega) _ _ o2
    show fd (fun a b : Nat => a + b) 0 _ (d + 1) = j
    rw [show d + 1 = 1 + d by omega, fd_add Mo_add]
    have e0 : 13 - (1 + d) = 12 - d := by omega
    have t0 : fd (fun a b : Nat => a + b) 0 (fun i => costN (nd x (13 - (1 + d) + i)) (pathN x (1 + d) s j (13 - (1 + d) + i))) 1 = costN (nd x (12 - d)) (stT i0) := by
      show 0 + costN (nd x (13 - (1 + d) + 0)) (pathN x (1 + d) s j (13 - (1 + d) + 0)) = _
      rw [Nat.zero_add, Nat.add_zero, e0, Nat.add_comm 1 d]
      show costN _ (if 12 - d = 12 - d then _ else _) = _
      rw [if_pos rfl, hi0]
    have t1 : fd (fun a b : Nat => a + b) 0 (fun i => costN (nd x (13 - (1 + d) + (1 + i))) (pathN x (1 + d) s j (13 - (1 + d) + (1 + i)))) d = j - costN (nd x (12 - d)) (stT i0) := by
      refine Eq.trans (fd_congr (fun i hi => ?_)) ih
      rw [show 13 - (1 + d) + (1 + i) = 13 - d + i by omega, Nat.add_comm 1 d]
      show costN _ (if 13 - d + i = 12 - d then _ else _) = _
      rw [if_neg (by omega), hi0]
    show _ + _ = j
    rw [t0, t1]
    omega
theorem lr_stood {x : Int64} {pf sf : Nat → Int32} (hf : fe x = true) (h : ∀ n, n < 13 → plP x pf sf n) : j_X8_stood sf = nI (jkN x) := by
  unfold j_X8_stood
  rw [show (52 : Nat) = 4 * 13 from rfl, bx_4]
  have hs := path_sum 13 (Nat.le_refl 13) 0 (jkN x) hf
  rw [bx_congr (g := fun n => nI (costN (nd x n) (pathN x 13 0 (jkN x) n))) 13 (fun n hn => ?_), bx_n]
  · refine congrArg nI ?_
    refine Eq.trans (fd_congr (fun i hi => ?_)) hs
    rw [show 13 - 13 + i = i by omega]
  · obtain ⟨⟨i, hi, he⟩, hp⟩ := h n hn
    rw [he] at hp ⊢
    have e0 := hs_bt x n 0 (by decide)
    rw [Nat.add_zero] at e0
    have p0 := (hp 0 (by decide)).2
    rw [Nat.add_zero] at p0
    obtain ⟨c1, c2, c3⟩ := st_cd i hi
    have hc := cost_cd _ (nd_lt x n) _ c1
    rw [c3] at hc
    have hb : ∀ b : Bool, (if nI (bN b) = 0 then (0 : Int32) else 1) = nI (bN b) := by intro b; cases b <;> rfl
    rw [p0, (hp 1 (by decide)).2, (hp 2 (by decide)).2, (hp 3 (by decide)).2, hb, hb, hb, hb, e0, hs_bt x n 1 (by decide), hs_bt x n 2 (by decide), hs_bt x n 3 (by decide), nI_add, nI_add, nI_add, hc]
theorem lrIn_congr {P Q : Nat → Int32} {m0 : Int32} : ∀ n, (∀ i, i < n → P i = Q i) → lrIn P m0 n = lrIn Q m0 n
  | 0, _ => rfl
  | n + 1, h => by
    simp only [lrIn]
    rw [lrIn_congr n (fun i hi => h i (by omega)), h n (by omega)]
theorem lrOut_congr {P Q : Nat → Nat → Int32} : ∀ c, (∀ a, a < c → ∀ n, n < 13 → P a n = Q a n) → lrOut P c = lrOut Q c
  | 0, _ => rfl
  | c + 1, h => by
    show (lrIn (P c) (lrOut P c) 13).2 = (lrIn (Q c) (lrOut Q c) 13).2
    rw [lrOut_congr c (fun a ha => h a (by omega)), lrIn_congr 13 (h c (by omega))]
theorem lr_long {x : Int64} {pf sf : Nat → Int32} (h : ∀ n, n < 13 → plP x pf sf n) : j_X8_longest pf = j_X2_longestRun (lyF x) := by
  unfold j_X8_longest j_X2_longestRun
  refine lrOut_congr 4 (fun c hc n hn => ?_)
  obtain ⟨i, hi, l1, l2, _⟩ := pl_at (h n hn) hc
  rw [l1, l2, pl_5 i hi c hc]
theorem st_congr {stf : Nat → Int32} {x : Int64} (h : ∀ n, n < 13 → stf n = lyF x n) : j_X2_groups stf = j_X2_groups (lyF x) ∧ j_X2_runs stf = j_X2_runs (lyF x) ∧ j_X2_shownCards stf = j_X2_shownCards (lyF x) ∧ j_X2_shownWorth stf = wsh x ∧ j_X2_longestRun stf = j_X2_longestRun (lyF x) := by
  refine ⟨?_, ?_, ?_, ?_, ?_⟩
  · exact bx_congr 13 (fun n hn => by rw [h n hn])
  · exact bx_congr 13 (fun n hn => by rw [h n hn])
  · exact bx_congr 13 (fun n hn => by rw [h n hn])
  · exact bx_congr 13 (fun n hn => by rw [h n hn])
  · exact lrOut_congr 4 (fun c _ n hn => by rw [h n hn])
theorem lr_shows {x : Int64} {pf sf stf : Nat → Int32} (h : LR x pf sf stf) (wh : Int) : j_shows7 stf x wh = j_shows pf sf wh := by
  obtain ⟨s1, s2, s3, s4, s5⟩ := st_congr h.2.2.1
  unfold j_shows7 j_shows
  rw [s1, s2, s3, s4, s5, lr_melds h.2.2.2, lr_runs h.2.2.2, lr_shown h.2.2.2, lr_stood h.2.1 h.2.2.2, lr_worth h.2.2.2, lr_long h.2.2.2, jn_jk h.1, Int32.add_sub_cancel]
theorem pl_keep {x : Int64} {pf sf p2 s2 : Nat → Int32} (h : ∀ n, n < 13 → plP x pf sf n) (e : ∀ k, k < 52 → p2 k = pf k ∧ s2 k = sf k) : ∀ n, n < 13 → plP x p2 s2 n := by
  intro n hn
  obtain ⟨h1, h2⟩ := h n hn
  refine ⟨h1, fun c hc => ?_⟩
  rw [(e (4 * n + c) (by omega)).1, (e (4 * n + c) (by omega)).2]
  exact h2 c hc
theorem ly_0 : ∀ n, n < 13 → pathN 0 13 0 (jkN 0) n = 0 := by decide +kernel
theorem fe_0 : fe 0 = true := by decide +kernel
theorem LR_0 {pf sf stf : Nat → Int32} (h1 : ∀ k, k < 52 → pf k = 0) (h2 : ∀ k, k < 52 → sf k = 0) (h3 : ∀ n, n < 13 → stf n = 0) : LR 0 pf sf stf := by
  refine ⟨by unfold isS; decide, fe_0, fun n hn => ?_, fun n hn => ⟨⟨0, by decide, ly_0 n hn⟩, fun c hc => ?_⟩⟩
  · unfold lyF
    rw [h3 n hn, ly_0 n hn]; rfl
  · rw [h1 _ (by omega), h2 _ (by omega), ly_0 n hn]
    have : ∀ c, c < 4 → cdP (cdT 0) c = 0 := by decide
    rw [this c hc]
    exact ⟨rfl, rfl⟩
