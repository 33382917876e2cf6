theorem sg_w1 : ∀ n, n < 13 → ∀ mi, mi < 5 → ∀ m, m < 3 → (sgV 1 (nI n) (nI mi) (nI 0) m < 0 ↔ ¬ m = mi) := by decide +kernel
theorem sg_w2 : ∀ n, n < 13 → ∀ mi, mi < 5 → ∀ m, m < 3 → (sgV (j_X0_worthOfNumber (nI n)) (nI n) (nI mi) (nI 0) m < 0 ↔ ¬ m = mi) := by decide +kernel
theorem sg_w {bw : Int32} {n mi m : Nat} (hn : n < 13) (hmi : mi < 5) (hm : m < 3) : sgV (unW bw n) (nI n) (nI mi) (nI 0) m < 0 ↔ ¬ m = mi := by
  unfold unW
  split
  · exact sg_w1 n hn mi hmi m hm
  · exact sg_w2 n hn mi hmi m hm
theorem nd_0 (n : Nat) : nd 0 n = 0 := by
  unfold nd
  show (0 : Nat) / 2 ^ (4 * n) % 16 = 0
  rw [Nat.zero_div]
theorem Ph_congr {α : Type} {op mu : α → α → α} {e : α} {tau : Int64 → α} {b b2 : Nat → Nat → α} {v : Nat → Nat → Int64} (h : ∀ s, s < 256 → ∀ u, u < 3 → b s u = b2 s u) : Ph op mu e tau b v = Ph op mu e tau b2 v := by
  unfold Ph
  exact fd_congr (fun s hs => fd_congr (fun u hu => by rw [h s hs u hu]))
theorem Ph_0 {α : Type} {op mu : α → α → α} {e : α} (S : Sr op mu e) {tau : Int64 → α} (h0 : tau 0 = e) {b : Nat → Nat → α} : Ph op mu e tau b (fun _ _ => 0) = e := by
  unfold Ph
  refine fd_e S.1 (fun s _ => fd_e S.1 (fun u _ => ?_))
  rw [h0]; exact S.2.2.2.2.1 _
theorem Ph_1 {α : Type} {op mu : α → α → α} {e one : α} (S : Sr op mu e) {tau : Int64 → α} (h0 : tau 0 = e) (h1 : tau 1 = one) (ho : ∀ a, mu one a = a) {b : Nat → Nat → α} : Ph op mu e tau b (up2 (fun _ _ => 0) 0 0 1) = b 0 0 := by
  rw [Ph_up S (n := 0) (u := 0) (dl := one) (by decide) (by decide) (by rw [h0, h1, S.1.2.2.1]), Ph_0 S h0, S.1.2.2.1, ho]
def wB1 (x : Int64) (n s u : Nat) : Int64 := if jkN x < u then 0 else cL x (4 * (13 - n)) (mkN s u)
theorem cL_over {x : Int64} {d s u : Nat} (hd : d ≤ 13) (hs : s < 256) (hu : u < 3) (h : jkN x < u) : cL x (4 * d) (mkN s u) = 0 := by
  rw [cL_N, cN_over d hd s hs u hu h]; rfl
theorem mi_c {x : Int64} {n k : Nat} : miN x 0 n k = costN (nd x n) (wkT k) := by
  unfold miN costN
  rw [nd_0, Nat.or_zero]
theorem op_0 {n k : Nat} : opT 0 n k = 0 := by
  unfold opT
  rw [nd_0, Nat.and_zero]
theorem bk_w {x : Int64} {bw : Int32} {n s u : Nat} (hn : n < 13) (hs : s < 256) (hu : u < 3) : bkS (fun a b : Int64 => a + b) (fun a b => a * b) 0 (fun _ => 1) x 0 (jkN x) n (unW bw n) (wB1 x (n + 1)) s u = wB1 x n s u := by
  unfold bkS
  show _ = if jkN x < u then 0 else cL x (4 * (13 - n)) (mkN s u)
  have hj := jkN_le x
  by_cases z : jkN x < u
  · rw [if_pos z, if_pos z]
  · rw [if_neg z, if_neg z, show 4 * (13 - n) = 4 * (12 - n) + 4 by omega]
    unfold cL
    rw [num_wk Sr_L (fun a => Int64.one_mul a) (d := 12 - n) (n := n) (by omega) hs hu]
    refine fd_congr (fun k hk => ?_)
    have hmi := popc_le (t_sh (wkT k) &&& (15 - (nd x n ||| nd 0 n)))
    have hmi' : miN x 0 n k ≤ 4 := hmi
    have h1 : fd (fun a b : Int64 => a + b) 0 (fun m => if sgV (unW bw n) (nI n) (nI (miN x 0 n k)) (nI (opT 0 n k)) m < 0 then 0 else (fun _ => (1 : Int64)) (sgV (unW bw n) (nI n) (nI (miN x 0 n k)) (nI (opT 0 n k)) m) * wB1 x (n + 1) (c_af s (wkT k)) (u + m)) (jkN x + 1 - u) = if miN x 0 n k < jkN x + 1 - u then wB1 x (n + 1) (c_af s (wkT k)) (u + miN x 0 n k) else 0 := by
      refine Eq.trans (fd_congr (fun m hm => ?_)) (fd_one Mo_add64 (jkN x + 1 - u))
      rw [op_0]
      have h2 := sg_w (bw := bw) (n := n) (mi := miN x 0 n k) (m := m) hn (by omega) (by omega)
      by_cases y : m = miN x 0 n k
      · rw [if_neg (fun q => h2.mp q y), if_pos y, Int64.one_mul, y]
      · rw [if_pos (h2.mpr y), if_neg y]
    rw [h1]
    clear h1 hmi
    unfold wB1 selB okS
    rw [mi_c] at hmi' ⊢
    rw [show 13 - (n + 1) = 12 - n by omega]
    by_cases y : (c_cc s (t_co (wkT k)) && ((nd x n &&& (15 - t_sh (wkT k)) == 0) && decide (costN (nd x n) (wkT k) ≤ jkN x))) = true
    · have y2 := y
      rw [Bool.and_eq_true, Bool.and_eq_true, decide_eq_true_iff] at y2
      obtain ⟨y3, y4, y5⟩ := y2
      rw [if_pos y, y3, y4]
      by_cases q : costN (nd x n) (wkT k) < jkN x + 1 - u
      · rw [if_pos q, if_neg (by omega), if_pos (by rw [decide_eq_true (show u + costN (nd x n) (wkT k) ≤ 2 by omega)]; rfl)]
        rfl
      · rw [if_neg q]
        by_cases r : u + costN (nd x n) (wkT k) ≤ 2
        · rw [if_pos (by rw [decide_eq_true r]; rfl)]
          exact (cL_over (by omega) (c_af_lt hs) (by omega) (by omega)).symm
        · rw [if_neg (by rw [decide_eq_false r]; decide)]
    · rw [if_neg y]
      by_cases r : ((nd x n &&& (15 - t_sh (wkT k)) == 0) && (c_cc s (t_co (wkT k)) && decide (u + costN (nd x n) (wkT k) ≤ 2))) = true
      · rw [if_pos r]
        rw [Bool.and_eq_true, Bool.and_eq_true, decide_eq_true_iff] at r
        refine (cL_over (by omega) (c_af_lt hs) (by omega) ?_).symm
        by_cases q : costN (nd x n) (wkT k) ≤ jkN x
        · exact absurd (by rw [r.1, r.2.1, decide_eq_true q]; rfl) y
        · omega
      · rw [if_neg r]
theorem Cr_w : Crr (fun a b : Int64 => a + b) (fun a b => a * b) (fun a => a) (fun _ => (1 : Int64)) 1 (fun _ => True) (fun _ => True) (fun _ => True) := by
  intro old val g _ _ _ _ _
  refine ⟨trivial, ?_⟩
  show (if (1 : Int32) = 0 then _ else old + val) = old + val * 1
  rw [if_neg (by decide), Int64.mul_one]
theorem rs_ways {x : Int64} {bw : Int32} {vs : Nat → Nat → Nat → Int64} (h0 : vs 0 = up2 (fun _ _ => 0) 0 0 1) (hs : ∀ n, n < 13 → rowStep 1 bw x 0 (jkN x) n (vs n) (vs (n + 1))) : ∀ n, n ≤ 13 → Ph (fun a b : Int64 => a + b) (fun a b => a * b) 0 (fun a => a) (wB1 x n) (vs n) = cL x 52 0
  | 0, _ => by
    rw [h0, Ph_1 Sr_L rfl rfl (fun a => Int64.one_mul a)]
    show (if jkN x < 0 then 0 else cL x 52 0) = _
    rw [if_neg (by omega)]
  | n + 1, hn => by
    have ih := rs_ways h0 hs n (by omega)
    have h1 := (rowStep_ph (b := wB1 x (n + 1)) Sr_L Cr_w rfl trivial (jkN_le x) (hs n (by omega)) (fun _ _ => trivial) (fun _ _ _ _ _ _ => trivial)).2
    rw [h1, ← ih]
    exact Ph_congr (fun s hs' u hu => bk_w (by omega) hs' hu)
/-- what the class counts is what the reference counts -/
theorem sm_ways {x : Int64} {v : Nat → Nat → Int64} {htf : Nat → Int32} {hcn : Int32} {cL1 : Nat} {q : Nat → Nat} (hr : rowL htf hcn v cL1 q) : smF v (jkN x) q cL1 = Ph (fun a b : Int64 => a + b) (fun a b => a * b) 0 (fun a => a) (wB1 x 13) v := by
  obtain ⟨_, _, hq, hinj, hcov⟩ := hr
  have hj := jkN_le x
  have h1 : ∀ N, smF v (jkN x) q N = fd (fun a b : Int64 => a + b) 0 (fun i => (fun s => if c_en s = true then v s (jkN x) else 0) (q i)) N := by
    intro N
    induction N with
    | zero => rfl
    | succ N ih =>
      show (if c_en (q N) = true then smF v (jkN x) q N + v (q N) (jkN x) else smF v (jkN x) q N) = _ + (if c_en (q N) = true then v (q N) (jkN x) else 0)
      by_cases z : c_en (q N) = true
      · rw [if_pos z, if_pos z, ih]
      · rw [if_neg z, if_neg z, ih, Int64.add_zero]
  rw [h1, fd_list Mo_add64 (N := 256) (f := fun s => if c_en s = true then v s (jkN x) else 0) (fun i hi => (hq i hi).1) hinj (fun s hs => ?_)]
  · unfold Ph
    refine fd_congr (fun s hs => ?_)
    have h2 : ∀ u, u < 3 → v s u * wB1 x 13 s u = if u = jkN x then (if c_en s = true then v s (jkN x) else 0) else 0 := by
      intro u hu
      have e : wB1 x 13 s u = if jkN x < u then 0 else lN (cB x (mkN s u)) := rfl
      rw [e, cB_mk hs hu]
      by_cases z : u = jkN x
      · subst z
        rw [if_neg (by omega), if_pos rfl]
        by_cases y : c_en s = true
        · rw [if_pos ⟨y, rfl⟩, if_pos y]; exact Int64.mul_one _
        · rw [if_neg (fun q => y q.1), if_neg y]; exact Int64.mul_zero
      · rw [if_neg z]
        by_cases y : jkN x < u
        · rw [if_pos y]; exact Int64.mul_zero
        · rw [if_neg y, if_neg (fun q => z q.2)]; exact Int64.mul_zero
    rw [fd_congr (n := 3) h2, fd_one Mo_add64 3, if_pos (show jkN x < 3 by omega)]
  · rcases hcov s hs with z | z
    · exact Or.inl z
    · refine Or.inr ?_
      show (if c_en s = true then v s (jkN x) else 0) = 0
      rw [z _ (by omega)]; split <;> rfl
theorem ways_same {x : Int64} {w : Nat → Int64} {bw : Int32} {vs : Nat → Nat → Nat → Int64} {htf : Nat → Int32} {hcn : Int32} {cL1 : Nat} {q : Nat → Nat} (hx : isS x) (hW : WaysEq x w) (h0 : vs 0 = up2 (fun _ _ => 0) 0 0 1) (hs : ∀ n, n < 13 → rowStep 1 bw x 0 (jkN x) n (vs n) (vs (n + 1))) (hr : rowL htf hcn (vs 13) cL1 q) : smF (vs 13) (jkN x) q cL1 = w 0 := by
  rw [sm_ways hr, rs_ways h0 hs 13 (by decide)]
  exact (W_cL hx hW 52 (by decide) 0 (by decide) (by decide)).symm
