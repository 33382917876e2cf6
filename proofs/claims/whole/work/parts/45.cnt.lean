/-- what is wanted of two operations: sums, products, nothing -/
def Sr {α : Type} (op mu : α → α → α) (e : α) : Prop := Mo op e ∧ (∀ a b c, mu a (op b c) = op (mu a b) (mu a c)) ∧ (∀ a b c, mu (op a b) c = op (mu a c) (mu b c)) ∧ (∀ a, mu a e = e) ∧ (∀ a, mu e a = e) ∧ (∀ a b c, mu (mu a b) c = mu a (mu b c))
def cO {α : Type} (e : α) (f : Nat → α) (o : Option Nat) : α := match o with
  | none => e
  | some t => f t
/-- card by card from the last back: d cards to go, the mark m; at card k the choices q < Q, each with the place q % 4 -/
def gC {α : Type} (op mu : α → α → α) (e : α) (Q : Nat) (ok jo : Nat → Nat → Bool) (va : Nat → Nat → α) (base : Nat → α) : Nat → Nat → α
  | 0, m => base m
  | d + 1, m => fd op e (fun q => if ok (51 - d) q = true then mu (va (51 - d) q) (cO e (gC op mu e Q ok jo va base d) (bhN m (51 - d) (q % 4) (jo (51 - d) q))) else e) Q
theorem cO_step {α : Type} {op mu : α → α → α} {e : α} {Q : Nat} {ok jo : Nat → Nat → Bool} {va : Nat → Nat → α} {base : Nat → α} (S : Sr op mu e) (d : Nat) (o : Option Nat) : cO e (gC op mu e Q ok jo va base (d + 1)) o = fd op e (fun q => if ok (51 - d) q = true then mu (va (51 - d) q) (cO e (gC op mu e Q ok jo va base d) (o.bind fun m => bhN m (51 - d) (q % 4) (jo (51 - d) q))) else e) Q := by
  cases o with
  | none =>
    refine (fd_e S.1 (fun q _ => ?_)).symm
    show (if _ then mu _ e else e) = e
    rw [S.2.2.2.1]; split <;> rfl
  | some m => rfl
theorem cO_step2 {α : Type} {op mu : α → α → α} {e : α} {Q : Nat} {ok jo : Nat → Nat → Bool} {va : Nat → Nat → α} {base : Nat → α} (S : Sr op mu e) (d k : Nat) (hk : 51 - d = k) (b : Bool) (V : α) (o : Option Nat) : (if b = true then mu V (cO e (gC op mu e Q ok jo va base (d + 1)) o) else e) = fd op e (fun q => if (b && ok k q) = true then mu (mu V (va k q)) (cO e (gC op mu e Q ok jo va base d) (o.bind fun m => bhN m k (q % 4) (jo k q))) else e) Q := by
  subst hk
  cases b with
  | false => exact (fd_e S.1 (fun q _ => rfl)).symm
  | true =>
    rw [if_pos rfl, cO_step S, fd_hom (h := fun a => mu V a) (op2 := op) (e2 := e) (S.2.2.2.1 V) (S.2.1 V)]
    refine fd_congr (fun q _ => ?_)
    show mu V (if _ then _ else _) = if (true && _) = true then _ else _
    rw [Bool.true_and]
    by_cases h : ok (51 - d) q = true
    · rw [if_pos h, if_pos h, S.2.2.2.2.2]
    · rw [if_neg h, if_neg h, S.2.2.2.1]
def ok4 (ok : Nat → Nat → Bool) (n q0 q1 q2 q3 : Nat) : Bool := ok (4 * n) q0 && ok (4 * n + 1) q1 && ok (4 * n + 2) q2 && ok (4 * n + 3) q3
def jo4 (jo : Nat → Nat → Bool) (n q0 q1 q2 q3 : Nat) : Nat := bN (jo (4 * n) q0) + bN (jo (4 * n + 1) q1) + bN (jo (4 * n + 2) q2) + bN (jo (4 * n + 3) q3)
def va4 {α : Type} (mu : α → α → α) (va : Nat → Nat → α) (n q0 q1 q2 q3 : Nat) : α := mu (mu (mu (va (4 * n) q0) (va (4 * n + 1) q1)) (va (4 * n + 2) q2)) (va (4 * n + 3) q3)
/-- the four cards of a number at once -/
theorem gC_4 {α : Type} {op mu : α → α → α} {e : α} {Q : Nat} {ok jo : Nat → Nat → Bool} {va : Nat → Nat → α} {base : Nat → α} (S : Sr op mu e) {d n s u : Nat} (hn : d + n = 12) (hs : s < 256) (hu : u < 3) : gC op mu e Q ok jo va base (4 * d + 4) (mkN s u) = fd op e (fun q0 => fd op e (fun q1 => fd op e (fun q2 => fd op e (fun q3 => if ok4 ok n q0 q1 q2 q3 = true then mu (va4 mu va n q0 q1 q2 q3) (cO e (gC op mu e Q ok jo va base (4 * d)) (chS s u (cdO (q0 % 4) (q1 % 4) (q2 % 4) (q3 % 4)) (jo4 jo n q0 q1 q2 q3))) else e) Q) Q) Q) Q := by
  have k0 : 51 - (4 * d + 3) = 4 * n := by omega
  have k1 : 51 - (4 * d + 2) = 4 * n + 1 := by omega
  have k2 : 51 - (4 * d + 1) = 4 * n + 2 := by omega
  have k3 : 51 - (4 * d) = 4 * n + 3 := by omega
  show cO e (gC op mu e Q ok jo va base (4 * d + 3 + 1)) (some (mkN s u)) = _
  rw [cO_step S, k0]
  refine fd_congr (fun q0 _ => ?_)
  show (if _ then mu _ (cO e (gC op mu e Q ok jo va base (4 * d + 2 + 1)) _) else e) = _
  rw [cO_step2 S (4 * d + 2) (4 * n + 1) k1]
  refine fd_congr (fun q1 _ => ?_)
  show (if _ then mu _ (cO e (gC op mu e Q ok jo va base (4 * d + 1 + 1)) _) else e) = _
  rw [cO_step2 S (4 * d + 1) (4 * n + 2) k2]
  refine fd_congr (fun q2 _ => ?_)
  rw [cO_step2 S (4 * d) (4 * n + 3) k3]
  refine fd_congr (fun q3 _ => ?_)
  have hc := ch4_eq (n := n) (b0 := jo (4 * n) q0) (b1 := jo (4 * n + 1) q1) (b2 := jo (4 * n + 2) q2) (b3 := jo (4 * n + 3) q3) hs hu (Nat.mod_lt q0 (show 0 < 4 by decide)) (Nat.mod_lt q1 (show 0 < 4 by decide)) (Nat.mod_lt q2 (show 0 < 4 by decide)) (Nat.mod_lt q3 (show 0 < 4 by decide))
  have hb : (((Option.bind (some (mkN s u)) fun m => bhN m (4 * n) (q0 % 4) (jo (4 * n) q0)).bind fun m => bhN m (4 * n + 1) (q1 % 4) (jo (4 * n + 1) q1)).bind fun m => bhN m (4 * n + 2) (q2 % 4) (jo (4 * n + 2) q2)).bind (fun m => bhN m (4 * n + 3) (q3 % 4) (jo (4 * n + 3) q3)) = chS s u (cdO (q0 % 4) (q1 % 4) (q2 % 4) (q3 % 4)) (jo4 jo n q0 q1 q2 q3) := by
    unfold jo4
    rw [← hc, Option.bind_assoc, Option.bind_assoc, Option.bind_some]
    rfl
  rw [hb]
  rfl
/-- the code of a step -/
def plT (t c : Nat) : Nat := if bt2 (t_gr t) c = 1 then 1 else if bt2 (t_be t) c = 1 then 2 else if bt2 (t_co t) c = 1 then 3 else 0
def cdT (t : Nat) : Nat := cdO (plT t 0) (plT t 1) (plT t 2) (plT t 3)
theorem st_cd : ∀ i, i < 94 → cdT (stT i) < 256 ∧ gok (cdT (stT i)) = true ∧ stC (cdT (stT i)) = stT i := by decide +kernel
theorem wk_cd : ∀ i, i < 94 → cdT (wkT i) < 256 ∧ gok (cdT (wkT i)) = true ∧ stC (cdT (wkT i)) = wkT i := by decide +kernel
theorem st_inc : ∀ i, i < 93 → cdT (stT i) < cdT (stT (i + 1)) := by decide +kernel
theorem wk_inc : ∀ i, i < 93 → t_co (wkT i) * 256 + t_be (wkT i) * 16 + t_gr (wkT i) ≠ t_co (wkT (i + 1)) * 256 + t_be (wkT (i + 1)) * 16 + t_gr (wkT (i + 1)) := by decide +kernel
def stP (cd : Nat) : Nat := fstI (fun i => cdT (stT i) == cd) 94
def wkP (cd : Nat) : Nat := fstI (fun i => cdT (wkT i) == cd) 94
theorem st_P : ∀ cd, cd < 256 → gok cd = true → stP cd < 94 ∧ cdT (stT (stP cd)) = cd := by decide +kernel
theorem wk_P : ∀ cd, cd < 256 → gok cd = true → wkP cd < 94 ∧ cdT (wkT (wkP cd)) = cd := by decide +kernel
theorem st_P2 : ∀ i, i < 94 → stP (cdT (stT i)) = i := by decide +kernel
theorem wk_P2 : ∀ i, i < 94 → wkP (cdT (wkT i)) = i := by decide +kernel
/-- all codes are the steps in the order of the search, and those in the order of the walk -/
theorem fd_st {α : Type} {op : α → α → α} {e : α} (M : Mo op e) {f : Nat → α} (h : ∀ cd, cd < 256 → gok cd = false → f cd = e) : fd op e f 256 = fd op e (fun i => f (cdT (stT i))) 94 := by
  refine (fd_list M (fun i hi => (st_cd i hi).1) (fun i j hi hj z => ?_) (fun cd hc => ?_)).symm
  · rw [← st_P2 i hi, ← st_P2 j hj, z]
  · cases hg : gok cd with
    | false => exact Or.inr (h cd hc hg)
    | true => exact Or.inl ⟨stP cd, st_P cd hc hg⟩
theorem fd_wk {α : Type} {op : α → α → α} {e : α} (M : Mo op e) {f : Nat → α} (h : ∀ cd, cd < 256 → gok cd = false → f cd = e) : fd op e f 256 = fd op e (fun i => f (cdT (wkT i))) 94 := by
  refine (fd_list M (fun i hi => (wk_cd i hi).1) (fun i j hi hj z => ?_) (fun cd hc => ?_)).symm
  · rw [← wk_P2 i hi, ← wk_P2 j hj, z]
  · cases hg : gok cd with
    | false => exact Or.inr (h cd hc hg)
    | true => exact Or.inl ⟨wkP cd, wk_P cd hc hg⟩
/-- four places, four times: all codes -/
theorem fd_256 {α : Type} {op : α → α → α} {e : α} (M : Mo op e) {f : Nat → Nat → Nat → Nat → α} : fd op e (fun a => fd op e (fun b => fd op e (fun c => fd op e (fun d => f a b c d) 4) 4) 4) 4 = fd op e (fun cd => f (cdP cd 0) (cdP cd 1) (cdP cd 2) (cdP cd 3)) 256 := by
  rw [show (256 : Nat) = 4 * 64 from rfl, fd_4 M, show (64 : Nat) = 4 * 16 from rfl, fd_4 M, show (16 : Nat) = 4 * 4 from rfl, fd_4 M]
  refine fd_congr (fun a ha => fd_congr (fun b hb => fd_congr (fun c hc => fd_congr (fun d hd => ?_))))
  obtain ⟨h0, h1, h2, h3⟩ := cd_P a ha b hb c hc d hd
  have e1 : 4 * (4 * (4 * a + b) + c) + d = cdO a b c d := by unfold cdO; omega
  rw [e1, h0, h1, h2, h3]
