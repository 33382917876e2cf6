/-- a finite fold, from the left -/
def fd {α : Type} (op : α → α → α) (e : α) (f : Nat → α) : Nat → α
  | 0 => e
  | n + 1 => op (fd op e f n) (f n)
def Mo {α : Type} (op : α → α → α) (e : α) : Prop := (∀ a b c, op (op a b) c = op a (op b c)) ∧ (∀ a, op a e = a) ∧ (∀ a, op e a = a) ∧ (∀ a b, op a b = op b a)
theorem fd_congr {α : Type} {op : α → α → α} {e : α} {f g : Nat → α} : ∀ {n : Nat}, (∀ i, i < n → f i = g i) → fd op e f n = fd op e g n
  | 0, _ => rfl
  | n + 1, h => by
    show op _ _ = op _ _
    rw [fd_congr (fun i hi => h i (by omega)), h n (by omega)]
theorem fd_e {α : Type} {op : α → α → α} {e : α} {f : Nat → α} (M : Mo op e) : ∀ {n : Nat}, (∀ i, i < n → f i = e) → fd op e f n = e
  | 0, _ => rfl
  | n + 1, h => by
    show op _ _ = e
    rw [fd_e M (fun i hi => h i (by omega)), h n (by omega)]
    exact M.2.1 e
theorem fd_op {α : Type} {op : α → α → α} {e : α} {f g : Nat → α} (M : Mo op e) : ∀ n : Nat, fd op e (fun i => op (f i) (g i)) n = op (fd op e f n) (fd op e g n)
  | 0 => (M.2.1 e).symm
  | n + 1 => by
    show op _ (op _ _) = op (op _ _) (op _ _)
    rw [fd_op M n, M.1, M.1]
    congr 1
    rw [← M.1, ← M.1, M.2.2.2 (fd op e g n) (f n)]
theorem fd_swap {α : Type} {op : α → α → α} {e : α} {f : Nat → Nat → α} (M : Mo op e) (m : Nat) : ∀ n : Nat, fd op e (fun i => fd op e (fun j => f i j) m) n = fd op e (fun j => fd op e (fun i => f i j) n) m
  | 0 => (fd_e M (fun _ _ => rfl)).symm
  | n + 1 => by
    show op _ _ = fd op e (fun j => op (fd op e (fun i => f i j) n) (f n j)) m
    rw [fd_op M, fd_swap M m n]
theorem fd_add {α : Type} {op : α → α → α} {e : α} {f : Nat → α} (M : Mo op e) (a : Nat) : ∀ b : Nat, fd op e f (a + b) = op (fd op e f a) (fd op e (fun i => f (a + i)) b)
  | 0 => (M.2.1 _).symm
  | b + 1 => by
    show op (fd op e f (a + b)) (f (a + b)) = op _ (op _ (f (a + b)))
    rw [fd_add M a b, M.1]
theorem fd_4 {α : Type} {op : α → α → α} {e : α} {f : Nat → α} (M : Mo op e) : ∀ n : Nat, fd op e f (4 * n) = fd op e (fun q => fd op e (fun r => f (4 * q + r)) 4) n
  | 0 => rfl
  | n + 1 => by
    show _ = op _ _
    rw [← fd_4 M n, show 4 * (n + 1) = 4 * n + 4 by omega, fd_add M]
theorem fd_one {α : Type} {op : α → α → α} {e : α} {a : α} {j : Nat} (M : Mo op e) : ∀ n : Nat, fd op e (fun i => if i = j then a else e) n = if j < n then a else e
  | 0 => (if_neg (Nat.not_lt_zero j)).symm
  | n + 1 => by
    show op _ (if n = j then a else e) = _
    rw [fd_one M n]
    by_cases h : n = j
    · rw [if_pos h, if_neg (by omega), if_pos (by omega)]; exact M.2.2.1 a
    · rw [if_neg h, M.2.1]
      by_cases h2 : j < n
      · rw [if_pos h2, if_pos (by omega)]
      · rw [if_neg h2, if_neg (by omega)]
theorem fd_list {α : Type} {op : α → α → α} {e : α} {f : Nat → α} {q : Nat → Nat} {n N : Nat} (M : Mo op e) (hq : ∀ i, i < n → q i < N) (inj : ∀ i j, i < n → j < n → q i = q j → i = j) (hz : ∀ s, s < N → (∃ i, i < n ∧ q i = s) ∨ f s = e) : fd op e (fun i => f (q i)) n = fd op e f N := by
  have h1 : fd op e (fun i => f (q i)) n = fd op e (fun i => fd op e (fun s => if s = q i then f (q i) else e) N) n := by
    refine fd_congr (fun i hi => ?_)
    rw [fd_one M, if_pos (hq i hi)]
  rw [h1, fd_swap M]
  refine fd_congr (fun s hs => ?_)
  rcases hz s hs with ⟨i, hi, rfl⟩ | h
  · rw [fd_congr (g := fun k => if k = i then f (q i) else e) (fun k hk => ?_), fd_one M, if_pos hi]
    by_cases z : k = i
    · subst z; rw [if_pos rfl, if_pos rfl]
    · rw [if_neg z, if_neg (fun y => z (inj k i hk hi y.symm))]
  · rw [h]
    refine fd_e M (fun i hi => ?_)
    by_cases z : s = q i
    · rw [if_pos z, ← z]; exact h
    · rw [if_neg z]
theorem fd_hom {α β : Type} {op : α → α → α} {e : α} {op2 : β → β → β} {e2 : β} {h : α → β} {f : Nat → α} (h1 : h e = e2) (h2 : ∀ a b, h (op a b) = op2 (h a) (h b)) : ∀ n : Nat, h (fd op e f n) = fd op2 e2 (fun i => h (f i)) n
  | 0 => h1
  | n + 1 => by
    show h (op _ _) = op2 _ _
    rw [h2, fd_hom h1 h2 n]
theorem Mo_add : Mo (fun a b : Nat => a + b) 0 := ⟨Nat.add_assoc, Nat.add_zero, Nat.zero_add, Nat.add_comm⟩
theorem Mo_max : Mo (fun a b : Nat => max a b) 0 := ⟨fun a b c => by show max (max a b) c = max a (max b c); omega, fun a => by show max a 0 = a; omega, fun a => by show max 0 a = a; omega, fun a b => by show max a b = max b a; omega⟩
theorem Mo_add64 : Mo (fun a b : Int64 => a + b) 0 := ⟨Int64.add_assoc, Int64.add_zero, Int64.zero_add, Int64.add_comm⟩
/-- a fold over a stretch -/
def fr {α : Type} (op : α → α → α) (e : α) (f : Nat → α) (a n : Nat) : α := fd op e (fun i => f (a + i)) n
abbrev sm (f : Nat → Nat) (n : Nat) : Nat := fd (fun a b : Nat => a + b) 0 f n
abbrev mxF (f : Nat → Nat) (n : Nat) : Nat := fd (fun a b : Nat => max a b) 0 f n
theorem sm_le {f g : Nat → Nat} : ∀ {n : Nat}, (∀ i, i < n → f i ≤ g i) → sm f n ≤ sm g n
  | 0, _ => Nat.le_refl _
  | n + 1, h => Nat.add_le_add (sm_le (fun i hi => h i (by omega))) (h n (by omega))
theorem sm_mul {f : Nat → Nat} (c : Nat) : ∀ n : Nat, sm (fun i => c * f i) n = c * sm f n
  | 0 => rfl
  | n + 1 => by
    show sm (fun i => c * f i) n + c * f n = c * (sm f n + f n)
    rw [sm_mul c n, Nat.mul_add]
theorem sm_pos {f : Nat → Nat} : ∀ {n : Nat}, ¬ sm f n = 0 → ∃ i, i < n ∧ ¬ f i = 0
  | 0, h => absurd rfl h
  | n + 1, h => by
    by_cases z : f n = 0
    · have h2 : ¬ sm f n = 0 := fun y => h (show sm f n + f n = 0 by omega)
      obtain ⟨i, hi, hf⟩ := sm_pos h2
      exact ⟨i, by omega, hf⟩
    · exact ⟨n, by omega, z⟩
theorem sm_ge {f : Nat → Nat} {i : Nat} : ∀ {n : Nat}, i < n → f i ≤ sm f n
  | 0, h => absurd h (Nat.not_lt_zero i)
  | n + 1, h => by
    show f i ≤ sm f n + f n
    rcases Nat.lt_succ_iff_lt_or_eq.mp h with z | z
    · have := sm_ge (f := f) z; omega
    · subst z; omega
theorem mx_ge {f : Nat → Nat} {i : Nat} : ∀ {n : Nat}, i < n → f i ≤ mxF f n
  | 0, h => absurd h (Nat.not_lt_zero i)
  | n + 1, h => by
    show f i ≤ max (mxF f n) (f n)
    rcases Nat.lt_succ_iff_lt_or_eq.mp h with z | z
    · have := mx_ge (f := f) z; omega
    · subst z; omega
theorem mx_at {f : Nat → Nat} : ∀ {n : Nat}, ¬ mxF f n = 0 → ∃ i, i < n ∧ f i = mxF f n
  | 0, h => absurd rfl h
  | n + 1, h => by
    by_cases z : f n = max (mxF f n) (f n)
    · exact ⟨n, by omega, z⟩
    · have h3 : max (mxF f n) (f n) = mxF f n := by omega
      have h2 : ¬ mxF f n = 0 := fun y => h (show max (mxF f n) (f n) = 0 by omega)
      obtain ⟨i, hi, hf⟩ := mx_at h2
      exact ⟨i, by omega, by show f i = max (mxF f n) (f n); rw [h3]; exact hf⟩
