def ftN (fif : Nat → Int32) : Nat → Nat := fun k => (fif k).toNatClampNeg
/-- all listed states carried on by all steps that fit -/
def stF (ct : Int32) (gf : Nat → Int64) (jk : Nat) (hcf : Nat → Int64) (ft ffn q : Nat → Nat) : Nat → (Nat → Nat → Int64)
  | 0 => fun _ _ => 0
  | i + 1 => goF ct gf jk (fun j => hcf (3 * q i + j)) (q i) ft ffn 16 (stF ct gf jk hcf ft ffn q i)
/-- one number of the walk: from the values v to the values v2 -/
def rowStep (ct bw : Int32) (x y : Int64) (jk n : Nat) (v v2 : Nat → Nat → Int64) : Prop := ∃ (gf hcf : Nat → Int64) (fif fff hlf htf : Nat → Int32) (hcn : Int32) (cL : Nat) (q : Nat → Nat),
  GA1 x y n jk (if bw = 0 then 1 else j_X0_worthOfNumber (nI n)) (nI n) 94 fif gf ∧ GB1 x y n jk 94 fff ∧ fff 0 = 0 ∧ RowRep hcf hlf htf hcn v ∧ hcn = nI cL ∧ cL ≤ 256 ∧ (∀ i, i < cL → q i < 256 ∧ htf i = nI (q i)) ∧ (∀ i j, i < cL → j < cL → q i = q j → i = j) ∧ (∀ s, s < 256 → (∃ i, i < cL ∧ q i = s) ∨ ∀ u, u < 3 → v s u = 0) ∧ v2 = stF ct gf jk hcf (ftN fif) (ftN fff) q cL
theorem sel_surj {x y : Int64} {n jk : Nat} : ∀ (N i : Nat), i < selN x y n jk N → ∃ k, k < N ∧ selB x y n jk k = true ∧ selN x y n jk k = i
  | 0, i, h => absurd h (Nat.not_lt_zero i)
  | N + 1, i, h => by
    cases hs : selB x y n jk N with
    | false =>
      rw [selN_n hs] at h
      obtain ⟨k, h1, h2, h3⟩ := sel_surj N i h
      exact ⟨k, by omega, h2, h3⟩
    | true =>
      rw [selN_y hs] at h
      rcases Nat.lt_succ_iff_lt_or_eq.mp h with z | z
      · obtain ⟨k, h1, h2, h3⟩ := sel_surj N i z
        exact ⟨k, by omega, h2, h3⟩
      · exact ⟨N, by omega, hs, z.symm⟩
theorem fit_ok {x y : Int64} {n jk : Nat} {un nx : Int32} {fif : Nat → Int32} {gf : Nat → Int64} (h : GA1 x y n jk un nx 94 fif gf) : ∀ i, i < selN x y n jk 94 → fif i = nI (ftN fif i) ∧ ftN fif i < 65536 := by
  intro i hi
  obtain ⟨k, h1, h2, h3⟩ := sel_surj 94 i hi
  have h4 := (h k h1 h2).1
  rw [h3] at h4
  have h5 := wk_lt k h1
  unfold ftN
  rw [h4, nI_clamp (by omega)]
  exact ⟨rfl, h5⟩
theorem ff_ok {x y : Int64} {n jk : Nat} {fff : Nat → Int32} (h : GB1 x y n jk 94 fff) (h0 : fff 0 = 0) : ∀ on, on ≤ 16 → fff on = nI (ftN fff on) ∧ ftN fff on ≤ selN x y n jk 94 := by
  intro on hon
  unfold ftN
  rcases Nat.eq_zero_or_pos on with z | z
  · subst z; rw [h0]; exact ⟨rfl, Nat.zero_le _⟩
  · obtain ⟨k, rfl⟩ : ∃ k, on = k + 1 := ⟨on - 1, by omega⟩
    have hl := lb_94 k (by omega)
    have h1 := h k (by omega) hl.1
    generalize hm : (if 94 ≤ lbT (k + 1) then 94 else lbT (k + 1)) = c at h1
    have hc : c ≤ 94 := by rw [← hm]; split <;> omega
    have hs := selN_le x y n jk c
    have hmo := selN_mono (x := x) (y := y) (n := n) (jk := jk) (k := c) (94 - c)
    rw [show c + (94 - c) = 94 by omega] at hmo
    rw [h1, nI_clamp (by omega)]
    exact ⟨rfl, hmo⟩
