theorem fd_upd {α : Type} {op : α → α → α} {e : α} (M : Mo op e) {f f2 : Nat → α} {dl : α} {j n : Nat} (hj : j < n) (h1 : ∀ i, ¬ i = j → f2 i = f i) (h2 : f2 j = op (f j) dl) : fd op e f2 n = op (fd op e f n) dl := by
  have h : fd op e f2 n = fd op e (fun i => op (f i) (if i = j then dl else e)) n := fd_congr (fun i _ => by
    by_cases z : i = j
    · subst z; rw [if_pos rfl]; exact h2
    · rw [if_neg z, M.2.1]; exact h1 i z)
  rw [h, fd_op M, fd_one M, if_pos hj]
/-- a row weighed by what lies behind it -/
def Ph {α : Type} (op mu : α → α → α) (e : α) (tau : Int64 → α) (b : Nat → Nat → α) (v : Nat → Nat → Int64) : α := fd op e (fun s => fd op e (fun u => mu (tau (v s u)) (b s u)) 3) 256
/-- what one carrying does -/
def Crr {α : Type} (op mu : α → α → α) (tau wg : Int64 → α) (ct : Int32) (Pv Pg Pw : Int64 → Prop) : Prop := ∀ old val g, Pw old → Pv val → ¬ val = 0 → Pg g → ¬ g < 0 → Pw (cyV ct old val g) ∧ tau (cyV ct old val g) = op (tau old) (mu (tau val) (wg g))
theorem Ph_up {α : Type} {op mu : α → α → α} {e : α} (S : Sr op mu e) {tau : Int64 → α} {b : Nat → Nat → α} {w : Nat → Nat → Int64} {n u : Nat} {X : Int64} {dl : α} (hn : n < 256) (hu : u < 3) (h : tau X = op (tau (w n u)) dl) : Ph op mu e tau b (up2 w n u X) = op (Ph op mu e tau b w) (mu dl (b n u)) := by
  unfold Ph
  refine fd_upd S.1 hn (fun i hi => ?_) ?_
  · refine fd_congr (fun v _ => ?_)
    show mu (tau (if i = n ∧ v = u then X else w i v)) _ = _
    rw [if_neg (fun z => hi z.1)]
  · refine fd_upd S.1 hu (fun i hi => ?_) ?_
    · show mu (tau (if n = n ∧ i = u then X else w n i)) _ = _
      rw [if_neg (fun z => hi z.2)]
    · show mu (tau (if n = n ∧ u = u then X else w n u)) _ = _
      rw [if_pos ⟨rfl, rfl⟩, h]
      exact S.2.2.1 _ _ _
def PW (Pw : Int64 → Prop) (w : Nat → Nat → Int64) : Prop := ∀ a c, Pw (w a c)
theorem PW_up {Pw : Int64 → Prop} {w : Nat → Nat → Int64} {n u : Nat} {X : Int64} (h : PW Pw w) (hX : Pw X) : PW Pw (up2 w n u X) := by
  intro a c
  show Pw (if a = n ∧ c = u then X else w a c)
  split
  · exact hX
  · exact h a c
theorem cyI_ph {α : Type} {op mu : α → α → α} {e : α} {tau wg : Int64 → α} {ct : Int32} {Pv Pg Pw : Int64 → Prop} {b : Nat → Nat → α} (S : Sr op mu e) (hC : Crr op mu tau wg ct Pv Pg Pw) {g : Nat → Int64} {u n : Nat} {val : Int64} (hn : n < 256) (hv : Pv val) (hz : ¬ val = 0) : ∀ N, (∀ m, m < N → u + m < 3 ∧ (¬ g m < 0 → Pg (g m))) → ∀ w, PW Pw w → PW Pw (cyI ct g u n val N w) ∧ Ph op mu e tau b (cyI ct g u n val N w) = op (Ph op mu e tau b w) (fd op e (fun m => if g m < 0 then e else mu (mu (tau val) (wg (g m))) (b n (u + m))) N)
  | 0, _, w, hw => ⟨hw, (S.1.2.1 _).symm⟩
  | N + 1, h, w, hw => by
    obtain ⟨i1, i2⟩ := cyI_ph (b := b) S hC hn hv hz N (fun m hm => h m (by omega)) w hw
    have hN := h N (by omega)
    show PW Pw (if g N < 0 then cyI ct g u n val N w else up2 (cyI ct g u n val N w) n (u + N) (cyV ct (cyI ct g u n val N w n (u + N)) val (g N))) ∧ Ph op mu e tau b (if g N < 0 then cyI ct g u n val N w else up2 (cyI ct g u n val N w) n (u + N) (cyV ct (cyI ct g u n val N w n (u + N)) val (g N))) = op (Ph op mu e tau b w) (op (fd op e _ N) (if g N < 0 then e else mu (mu (tau val) (wg (g N))) (b n (u + N))))
    by_cases z : g N < 0
    · rw [if_pos z, if_pos z, S.1.2.1]; exact ⟨i1, i2⟩
    · rw [if_neg z, if_neg z]
      obtain ⟨c1, c2⟩ := hC (cyI ct g u n val N w n (u + N)) val (g N) (i1 _ _) hv hz (hN.2 z) z
      refine ⟨PW_up i1 c1, ?_⟩
      rw [Ph_up S hn hN.1 c2, i2, S.1.1]
/-- what a step gives to all values of a state -/
def tmO {α : Type} (op mu : α → α → α) (e : α) (tau wg : Int64 → α) (jk : Nat) (b : Nat → Nat → α) (g hv : Nat → Int64) (n U : Nat) : α := fd op e (fun u => fd op e (fun m => if g m < 0 then e else mu (mu (tau (hv u)) (wg (g m))) (b n (u + m))) (jk + 1 - u)) U
theorem cyO_ph {α : Type} {op mu : α → α → α} {e : α} {tau wg : Int64 → α} {ct : Int32} {Pv Pg Pw : Int64 → Prop} {b : Nat → Nat → α} (S : Sr op mu e) (hC : Crr op mu tau wg ct Pv Pg Pw) (h0 : tau 0 = e) {g hv : Nat → Int64} {jk n : Nat} (hjk : jk ≤ 2) (hn : n < 256) (hv1 : ∀ u, u ≤ jk → Pv (hv u)) (hg : ∀ m, m < 3 → ¬ g m < 0 → Pg (g m)) : ∀ U, U ≤ jk + 1 → ∀ w, PW Pw w → PW Pw (cyO ct g jk hv n U w) ∧ Ph op mu e tau b (cyO ct g jk hv n U w) = op (Ph op mu e tau b w) (tmO op mu e tau wg jk b g hv n U)
  | 0, _, w, hw => ⟨hw, (S.1.2.1 _).symm⟩
  | U + 1, hU, w, hw => by
    obtain ⟨i1, i2⟩ := cyO_ph (b := b) S hC h0 hjk hn hv1 hg U (by omega) w hw
    show PW Pw (if hv U = 0 then cyO ct g jk hv n U w else cyI ct g U n (hv U) (jk + 1 - U) (cyO ct g jk hv n U w)) ∧ Ph op mu e tau b (if hv U = 0 then cyO ct g jk hv n U w else cyI ct g U n (hv U) (jk + 1 - U) (cyO ct g jk hv n U w)) = op (Ph op mu e tau b w) (op (tmO op mu e tau wg jk b g hv n U) (fd op e (fun m => if g m < 0 then e else mu (mu (tau (hv U)) (wg (g m))) (b n (U + m))) (jk + 1 - U)))
    by_cases z : hv U = 0
    · rw [if_pos z, z, h0, fd_e S.1 (n := jk + 1 - U) (fun m _ => by rw [S.2.2.2.2.1, S.2.2.2.2.1]; split <;> rfl), S.1.2.1]
      exact ⟨i1, i2⟩
    · rw [if_neg z]
      obtain ⟨j1, j2⟩ := cyI_ph (b := b) S hC (g := g) (u := U) hn (hv1 U (by omega)) z (jk + 1 - U) (fun m hm => ⟨by omega, hg m (by omega)⟩) _ i1
      exact ⟨j1, by rw [j2, i2, S.1.1]⟩
def tmK {α : Type} (op mu : α → α → α) (e : α) (tau wg : Int64 → α) (jk : Nat) (b : Nat → Nat → α) (gf hv : Nat → Int64) (s : Nat) (ft : Nat → Nat) (k : Nat) : α := tmO op mu e tau wg jk b (fun j => gf (3 * k + j)) hv (c_af s (ft k)) (jk + 1)
theorem goI_ph {α : Type} {op mu : α → α → α} {e : α} {tau wg : Int64 → α} {ct : Int32} {Pv Pg Pw : Int64 → Prop} {b : Nat → Nat → α} (S : Sr op mu e) (hC : Crr op mu tau wg ct Pv Pg Pw) (h0 : tau 0 = e) {gf hv : Nat → Int64} {jk s a F : Nat} {ft : Nat → Nat} (hjk : jk ≤ 2) (hs : s < 256) (hv1 : ∀ u, u ≤ jk → Pv (hv u)) (hg : ∀ k, k < F → ∀ m, m < 3 → ¬ gf (3 * k + m) < 0 → Pg (gf (3 * k + m))) : ∀ c, a + c ≤ F → ∀ w, PW Pw w → PW Pw (goI ct gf jk hv s ft a c w) ∧ Ph op mu e tau b (goI ct gf jk hv s ft a c w) = op (Ph op mu e tau b w) (fd op e (fun i => tmK op mu e tau wg jk b gf hv s ft (a + i)) c)
  | 0, _, w, hw => ⟨hw, (S.1.2.1 _).symm⟩
  | c + 1, hc, w, hw => by
    obtain ⟨i1, i2⟩ := goI_ph (b := b) (ft := ft) (a := a) S hC h0 hjk hs hv1 hg c (by omega) w hw
    obtain ⟨j1, j2⟩ := cyO_ph (b := b) S hC h0 (g := fun j => gf (3 * (a + c) + j)) (n := c_af s (ft (a + c))) hjk (c_af_lt hs) hv1 (hg (a + c) (by omega)) (jk + 1) (Nat.le_refl _) _ i1
    exact ⟨j1, j2.trans (by rw [i2, S.1.1]; rfl)⟩
theorem goF_ph {α : Type} {op mu : α → α → α} {e : α} {tau wg : Int64 → α} {ct : Int32} {Pv Pg Pw : Int64 → Prop} {b : Nat → Nat → α} (S : Sr op mu e) (hC : Crr op mu tau wg ct Pv Pg Pw) (h0 : tau 0 = e) {gf hv : Nat → Int64} {jk s F : Nat} {ft ffn : Nat → Nat} (hjk : jk ≤ 2) (hs : s < 256) (hv1 : ∀ u, u ≤ jk → Pv (hv u)) (hg : ∀ k, k < F → ∀ m, m < 3 → ¬ gf (3 * k + m) < 0 → Pg (gf (3 * k + m))) : ∀ N, (∀ on, on < N → ffn on + (ffn (on + 1) - ffn on) ≤ F) → ∀ w, PW Pw w → PW Pw (goF ct gf jk hv s ft ffn N w) ∧ Ph op mu e tau b (goF ct gf jk hv s ft ffn N w) = op (Ph op mu e tau b w) (fd op e (fun on => if c_cc s on = true then fd op e (fun i => tmK op mu e tau wg jk b gf hv s ft (ffn on + i)) (ffn (on + 1) - ffn on) else e) N)
  | 0, _, w, hw => ⟨hw, (S.1.2.1 _).symm⟩
  | N + 1, hF, w, hw => by
    obtain ⟨i1, i2⟩ := goF_ph (b := b) (ft := ft) S hC h0 hjk hs hv1 hg N (fun on h => hF on (by omega)) w hw
    cases z : c_cc s N with
    | false =>
      rw [goF_n z]
      refine ⟨i1, i2.trans ?_⟩
      show _ = op _ (op _ (if c_cc s N = true then _ else e))
      rw [if_neg (by rw [z]; decide), S.1.2.1]
    | true =>
      rw [goF_y z]
      obtain ⟨j1, j2⟩ := goI_ph (b := b) (ft := ft) (a := ffn N) S hC h0 hjk hs hv1 hg (ffn (N + 1) - ffn N) (hF N (by omega)) _ i1
      refine ⟨j1, j2.trans ?_⟩
      show _ = op _ (op _ (if c_cc s N = true then _ else e))
      rw [if_pos z, i2, S.1.1]
def tmS {α : Type} (op mu : α → α → α) (e : α) (tau wg : Int64 → α) (jk : Nat) (b : Nat → Nat → α) (gf hv : Nat → Int64) (s : Nat) (ft ffn : Nat → Nat) : α := fd op e (fun on => if c_cc s on = true then fd op e (fun i => tmK op mu e tau wg jk b gf hv s ft (ffn on + i)) (ffn (on + 1) - ffn on) else e) 16
theorem stF_ph {α : Type} {op mu : α → α → α} {e : α} {tau wg : Int64 → α} {ct : Int32} {Pv Pg Pw : Int64 → Prop} {b : Nat → Nat → α} (S : Sr op mu e) (hC : Crr op mu tau wg ct Pv Pg Pw) (h0 : tau 0 = e) (hP0 : Pw 0) {gf hcf : Nat → Int64} {jk F : Nat} {ft ffn q : Nat → Nat} (hjk : jk ≤ 2) (hg : ∀ k, k < F → ∀ m, m < 3 → ¬ gf (3 * k + m) < 0 → Pg (gf (3 * k + m))) (hF : ∀ on, on < 16 → ffn on + (ffn (on + 1) - ffn on) ≤ F) : ∀ N, (∀ i, i < N → q i < 256 ∧ ∀ u, u ≤ jk → Pv (hcf (3 * q i + u))) → PW Pw (stF ct gf jk hcf ft ffn q N) ∧ Ph op mu e tau b (stF ct gf jk hcf ft ffn q N) = fd op e (fun i => tmS op mu e tau wg jk b gf (fun j => hcf (3 * q i + j)) (q i) ft ffn) N
  | 0, _ => ⟨fun _ _ => hP0, by
      show fd op e (fun s => fd op e (fun u => mu (tau 0) (b s u)) 3) 256 = e
      refine fd_e S.1 (fun s _ => fd_e S.1 (fun u _ => ?_))
      rw [h0]; exact S.2.2.2.2.1 _⟩
  | N + 1, h => by
    obtain ⟨i1, i2⟩ := stF_ph (b := b) (ft := ft) S hC h0 hP0 hjk hg hF N (fun i hi => h i (by omega))
    have hN := h N (by omega)
    obtain ⟨j1, j2⟩ := goF_ph (b := b) (ft := ft) (hv := fun j => hcf (3 * q N + j)) S hC h0 hjk hN.1 hN.2 hg 16 hF _ i1
    exact ⟨j1, j2.trans (by rw [i2]; rfl)⟩
/-- a stretch of the steps that fit -/
theorem fd_sel {α : Type} {op : α → α → α} {e : α} (M : Mo op e) {G : Nat → α} {x y : Int64} {n jk a : Nat} : ∀ c, fd op e (fun i => G (selN x y n jk a + i)) (selN x y n jk (a + c) - selN x y n jk a) = fd op e (fun j => if selB x y n jk (a + j) = true then G (selN x y n jk (a + j)) else e) c
  | 0 => by rw [Nat.add_zero, Nat.sub_self]; rfl
  | c + 1 => by
    have ih := fd_sel (G := G) (x := x) (y := y) (n := n) (jk := jk) (a := a) M c
    have hm : selN x y n jk a ≤ selN x y n jk (a + c) := by
      clear ih
      induction c with
      | zero => exact Nat.le_refl _
      | succ c ih => exact Nat.le_trans ih (Nat.le_add_right _ _)
    show fd op e _ (selN x y n jk (a + c) + bN (selB x y n jk (a + c)) - selN x y n jk a) = op _ (if selB x y n jk (a + c) = true then _ else e)
    cases z : selB x y n jk (a + c) with
    | false =>
      show fd op e _ (selN x y n jk (a + c) + 0 - selN x y n jk a) = op _ (if false = true then _ else e)
      rw [Nat.add_zero, ih, if_neg (by decide), M.2.1]
    | true =>
      show fd op e _ (selN x y n jk (a + c) + 1 - selN x y n jk a) = op _ (if true = true then _ else e)
      rw [show selN x y n jk (a + c) + 1 - selN x y n jk a = (selN x y n jk (a + c) - selN x y n jk a) + 1 by omega, if_pos rfl]
      show op _ (G (selN x y n jk a + (selN x y n jk (a + c) - selN x y n jk a))) = _
      rw [ih, show selN x y n jk a + (selN x y n jk (a + c) - selN x y n jk a) = selN x y n jk (a + c) by omega]
theorem fd_lb {α : Type} {op : α → α → α} {e : α} (M : Mo op e) {G : Nat → α} : ∀ N, N ≤ 16 → fd op e (fun on => fd op e (fun j => G (lbT on + j)) (lbT (on + 1) - lbT on)) N = fd op e G (lbT N)
  | 0, _ => rfl
  | N + 1, h => by
    show op _ _ = _
    have hm := lb_mono N (by omega) (N + 1) (by omega) (by omega)
    rw [fd_lb M N (by omega), ← fd_add M, show lbT N + (lbT (N + 1) - lbT N) = lbT (N + 1) by omega]
theorem lb_co : ∀ on, on < 16 → ∀ k, k < 94 → lbT on ≤ k → k < lbT (on + 1) → t_co (wkT k) = on := by decide +kernel
theorem lb_all {α : Type} {op : α → α → α} {e : α} (M : Mo op e) {G : Nat → α} {x y : Int64} {s n jk : Nat} {ffn : Nat → Nat} (hff : ∀ on, on ≤ 16 → ffn on = selN x y n jk (lbT on)) : fd op e (fun on => if c_cc s on = true then fd op e (fun i => G (ffn on + i)) (ffn (on + 1) - ffn on) else e) 16 = fd op e (fun k => if (c_cc s (t_co (wkT k)) && selB x y n jk k) = true then G (selN x y n jk k) else e) 94 := by
  refine Eq.trans (fd_congr (fun on hon => ?_)) (fd_lb (G := fun k => if (c_cc s (t_co (wkT k)) && selB x y n jk k) = true then G (selN x y n jk k) else e) M 16 (Nat.le_refl 16))
  have hm := lb_mono on (by omega) (on + 1) (by omega) (by omega)
  have hl := (lb_94 on hon).2
  rw [hff on (by omega), hff (on + 1) (by omega)]
  have h1 := fd_sel (G := G) (x := x) (y := y) (n := n) (jk := jk) (a := lbT on) M (lbT (on + 1) - lbT on)
  rw [show lbT on + (lbT (on + 1) - lbT on) = lbT (on + 1) by omega] at h1
  rw [h1]
  by_cases z : c_cc s on = true
  · rw [if_pos z]
    refine fd_congr (fun j hj => ?_)
    rw [lb_co on hon (lbT on + j) (by omega) (by omega) (by omega), z, Bool.true_and]
  · rw [if_neg z]
    refine (fd_e M (fun j hj => ?_)).symm
    rw [lb_co on hon (lbT on + j) (by omega) (by omega) (by omega), if_neg (fun y => by rw [Bool.and_eq_true] at y; exact z y.1)]
/-- one number, from behind: what lies behind a state -/
def bkS {α : Type} (op mu : α → α → α) (e : α) (wg : Int64 → α) (x y : Int64) (jk n : Nat) (un : Int32) (b : Nat → Nat → α) (s u : Nat) : α := if jk < u then e else fd op e (fun k => if (c_cc s (t_co (wkT k)) && selB x y n jk k) = true then fd op e (fun m => if sgV un (nI n) (nI (miN x y n k)) (nI (opT y n k)) m < 0 then e else mu (wg (sgV un (nI n) (nI (miN x y n k)) (nI (opT y n k)) m)) (b (c_af s (wkT k)) (u + m))) (jk + 1 - u) else e) 94
theorem fd_cut {α : Type} {op : α → α → α} {e : α} (M : Mo op e) {f : Nat → α} {a n : Nat} (h : a ≤ n) (hz : ∀ i, a ≤ i → i < n → f i = e) : fd op e f n = fd op e f a := by
  have := fd_add (f := f) M a (n - a)
  rw [show a + (n - a) = n by omega] at this
  rw [this, fd_e M (fun i hi => hz (a + i) (by omega) (by omega)), M.2.1]
def unW (bw : Int32) (n : Nat) : Int32 := if bw = 0 then 1 else j_X0_worthOfNumber (nI n)
theorem rowStep_ph {α : Type} {op mu : α → α → α} {e : α} {tau wg : Int64 → α} {ct bw : Int32} {Pv Pg Pw : Int64 → Prop} {b : Nat → Nat → α} {x y : Int64} {jk n : Nat} {v v2 : Nat → Nat → Int64} (S : Sr op mu e) (hC : Crr op mu tau wg ct Pv Pg Pw) (h0 : tau 0 = e) (hP0 : Pw 0) (hjk : jk ≤ 2) (hR : rowStep ct bw x y jk n v v2) (hv : PW Pv v) (hg : ∀ k, k < 94 → selB x y n jk k = true → ∀ m, m < 3 → ¬ sgV (unW bw n) (nI n) (nI (miN x y n k)) (nI (opT y n k)) m < 0 → Pg (sgV (unW bw n) (nI n) (nI (miN x y n k)) (nI (opT y n k)) m)) : PW Pw v2 ∧ Ph op mu e tau b v2 = Ph op mu e tau (bkS op mu e wg x y jk n (unW bw n) b) v := by
  obtain ⟨gf, hcf, fif, fff, hlf, htf, hcn, cL, q, hGA, hGB, hf0, hRR, hcn2, hcL, hq, hinj, hcov, rfl⟩ := hR
  have hff : ∀ on, on ≤ 16 → ftN fff on = selN x y n jk (lbT on) := by
    intro on hon
    unfold ftN
    cases on with
    | zero => rw [hf0]; rfl
    | succ on =>
      have h1 := hGB on (by omega) (lb_94 on (by omega)).1
      have h2 := (lb_94 on (by omega)).2
      have h3 : (if 94 ≤ lbT (on + 1) then 94 else lbT (on + 1)) = lbT (on + 1) := by split <;> omega
      rw [h1, h3]
      exact nI_clamp (by have := selN_le x y n jk (lbT (on + 1)); omega)
  have hsurj := fun i (h : i < selN x y n jk 94) => sel_surj (x := x) (y := y) (n := n) (jk := jk) 94 i h
  have hmono : ∀ c a, selN x y n jk a ≤ selN x y n jk (a + c) := by
    intro c a
    induction c with
    | zero => exact Nat.le_refl _
    | succ c ih => exact Nat.le_trans ih (Nat.le_add_right _ _)
  have hm2 : ∀ a c, a ≤ c → selN x y n jk a ≤ selN x y n jk c := by
    intro a c h
    have := hmono (c - a) a
    rw [show a + (c - a) = c by omega] at this
    exact this
  have hg2 : ∀ k, k < selN x y n jk 94 → ∀ m, m < 3 → ¬ gf (3 * k + m) < 0 → Pg (gf (3 * k + m)) := by
    intro k hk m hm hz
    obtain ⟨i, hi, hs, he⟩ := hsurj k hk
    have h1 := (hGA i hi hs).2 m hm
    rw [he] at h1
    have h1' : gf (3 * k + m) = sgV (unW bw n) (nI n) (nI (miN x y n i)) (nI (opT y n i)) m := h1
    rw [h1'] at hz ⊢
    exact hg i hi hs m hm hz
  have hval : ∀ s, s < 256 → ∀ u, u < 3 → hcf (3 * s + u) = v s u := fun s hs u hu => row_val hRR hs hu
  have hF : ∀ on, on < 16 → ftN fff on + (ftN fff (on + 1) - ftN fff on) ≤ selN x y n jk 94 := by
    intro on hon
    rw [hff on (by omega), hff (on + 1) (by omega)]
    have h1 := hm2 _ _ (lb_mono on (by omega) (on + 1) (by omega) (by omega))
    have h2 := hm2 (lbT (on + 1)) 94 (lb_94 on hon).2
    omega
  obtain ⟨p1, p2⟩ := stF_ph (b := b) (ft := ftN fif) (ffn := ftN fff) (q := q) (hcf := hcf) S hC h0 hP0 hjk hg2 hF cL (fun i hi => ⟨(hq i hi).1, fun u hu => by rw [hval _ (hq i hi).1 u (by omega)]; exact hv _ _⟩)
  refine ⟨p1, p2.trans ?_⟩
  have hS : ∀ s, s < 256 → tmS op mu e tau wg jk b gf (fun j => hcf (3 * s + j)) s (ftN fif) (ftN fff) = fd op e (fun u => mu (tau (v s u)) (bkS op mu e wg x y jk n (unW bw n) b s u)) 3 := by
    intro s hs
    unfold tmS
    rw [lb_all (G := tmK op mu e tau wg jk b gf (fun j => hcf (3 * s + j)) s (ftN fif)) S.1 hff]
    rw [fd_cut (a := jk + 1) (n := 3) (f := fun u => mu (tau (v s u)) (bkS op mu e wg x y jk n (unW bw n) b s u)) S.1 (by omega) (fun u h1 h2 => by
      show mu _ (if jk < u then e else _) = e
      rw [if_pos (by omega)]; exact S.2.2.2.1 _)]
    have hu : fd op e (fun u => mu (tau (v s u)) (bkS op mu e wg x y jk n (unW bw n) b s u)) (jk + 1) = fd op e (fun u => fd op e (fun k => mu (tau (v s u)) (if (c_cc s (t_co (wkT k)) && selB x y n jk k) = true then fd op e (fun m => if sgV (unW bw n) (nI n) (nI (miN x y n k)) (nI (opT y n k)) m < 0 then e else mu (wg (sgV (unW bw n) (nI n) (nI (miN x y n k)) (nI (opT y n k)) m)) (b (c_af s (wkT k)) (u + m))) (jk + 1 - u) else e)) 94) (jk + 1) := by
      refine fd_congr (fun u hu => ?_)
      unfold bkS
      rw [if_neg (by omega)]
      exact fd_hom (h := fun a => mu (tau (v s u)) a) (S.2.2.2.1 _) (S.2.1 _) 94
    rw [hu, fd_swap S.1]
    refine fd_congr (fun k hk => ?_)
    by_cases z : (c_cc s (t_co (wkT k)) && selB x y n jk k) = true
    · rw [if_pos z]
      have z2 := (Bool.and_eq_true _ _).mp z
      obtain ⟨e1, e2⟩ := hGA k hk z2.2
      unfold tmK tmO
      have e3 : ftN fif (selN x y n jk k) = wkT k := by
        unfold ftN
        rw [e1]
        exact nI_clamp (by have := wk_lt k hk; omega)
      rw [e3]
      refine fd_congr (fun u hu => ?_)
      rw [if_pos z]
      rw [fd_hom (h := fun a => mu (tau (v s u)) a) (op2 := op) (e2 := e) (S.2.2.2.1 _) (S.2.1 _)]
      refine fd_congr (fun m hm => ?_)
      have e4 : gf (3 * selN x y n jk k + m) = sgV (unW bw n) (nI n) (nI (miN x y n k)) (nI (opT y n k)) m := e2 m (by omega)
      show (if gf (3 * selN x y n jk k + m) < 0 then e else mu (mu (tau (hcf (3 * s + u))) (wg (gf (3 * selN x y n jk k + m)))) (b (c_af s (wkT k)) (u + m))) = mu (tau (v s u)) (if _ then e else _)
      rw [e4, hval s hs u (by omega)]
      by_cases y1 : sgV (unW bw n) (nI n) (nI (miN x y n k)) (nI (opT y n k)) m < 0
      · rw [if_pos y1, if_pos y1, S.2.2.2.1]
      · rw [if_neg y1, if_neg y1, S.2.2.2.2.2]
    · rw [if_neg z]
      refine (fd_e S.1 (fun u _ => ?_)).symm
      rw [if_neg z]; exact S.2.2.2.1 _
  have h1 : fd op e (fun i => tmS op mu e tau wg jk b gf (fun j => hcf (3 * q i + j)) (q i) (ftN fif) (ftN fff)) cL = fd op e (fun i => (fun s => fd op e (fun u => mu (tau (v s u)) (bkS op mu e wg x y jk n (unW bw n) b s u)) 3) (q i)) cL := fd_congr (fun i hi => hS (q i) (hq i hi).1)
  rw [h1]
  refine fd_list (N := 256) (f := fun s => fd op e (fun u => mu (tau (v s u)) (bkS op mu e wg x y jk n (unW bw n) b s u)) 3) S.1 (fun i hi => (hq i hi).1) hinj (fun s hs => ?_)
  rcases hcov s hs with z | z
  · exact Or.inl z
  · refine Or.inr (fd_e S.1 (fun u hu => ?_))
    rw [z u hu, h0]; exact S.2.2.2.2.1 _
