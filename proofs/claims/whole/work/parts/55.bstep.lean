theorem need_bt : ∀ a, a < 16 → ∀ b, b < 16 → (a &&& (15 - b) == 0) = true → ∀ c, c < 4 → bt2 a c ≤ bt2 b c := by decide +kernel
theorem bt_need : ∀ a, a < 16 → ∀ b, b < 16 → (bt2 a 0 ≤ bt2 b 0 ∧ bt2 a 1 ≤ bt2 b 1 ∧ bt2 a 2 ≤ bt2 b 2 ∧ bt2 a 3 ≤ bt2 b 3) → (a &&& (15 - b) == 0) = true := by decide +kernel
theorem popc_sub : ∀ a, a < 16 → ∀ b, b < 16 → a &&& b = a → popc a ≤ popc b := by decide +kernel
theorem op_lt (y : Int64) (n k : Nat) : opT y n k < 16 := land_lt (t_sh_lt _)
theorem sh_bt {k c : Nat} (hk : k < 94) (hc : c < 4) : bt2 (t_sh (wkT k)) c = if cdP (cdT (wkT k)) c = 0 then 0 else 1 := by
  have h := cd_sh (cdT (wkT k)) (wk_cd k hk).1 c hc
  rw [(wk_cd k hk).2.2] at h
  exact h
theorem hs_c (x : Int64) {n c : Nat} (hc : c < 4) : bN (hsB x (4 * n + c)) = bt2 (nd x n) c := by
  rw [hs_bt x n c hc]; exact bN_dec (bt2_lt _ _)
theorem op_bit {y : Int64} {n k c : Nat} (hk : k < 94) (hc : c < 4) : bt2 (opT y n k) c = (if cdP (cdT (wkT k)) c = 0 then 0 else 1) * bN (hsB y (4 * n + c)) := by
  unfold opT
  rw [bt_and _ (t_sh_lt _) _ (nd_lt y n) c hc, sh_bt hk hc, hs_c y hc]
theorem or_lt (x y : Int64) (n : Nat) : 15 - (nd x n ||| nd y n) < 16 := by omega
theorem mi_bit {x y : Int64} {n k c : Nat} (hk : k < 94) (hc : c < 4) : bt2 (t_sh (wkT k) &&& (15 - (nd x n ||| nd y n))) c = (if cdP (cdT (wkT k)) c = 0 then 0 else 1) * ((1 - bN (hsB x (4 * n + c))) * (1 - bN (hsB y (4 * n + c)))) := by
  rw [bt_and _ (t_sh_lt _) _ (or_lt x y n) c hc, sh_bt hk hc, bt_nor _ (nd_lt x n) _ (nd_lt y n) c hc, hs_c x hc, hs_c y hc]
theorem col_c {x y : Int64} {n k c q : Nat} (hk : k < 94) (hc : c < 4) (hq : q < 8) (hp : q % 4 = cdP (cdT (wkT k)) c) (hdj : hsB x (4 * n + c) = true → hsB y (4 * n + c) = false) (hok : okB x y (4 * n + c) q = true) : bN (decide (q / 4 = 1) && hsB y (4 * n + c)) + bN (joB (4 * n + c) q) = bt2 (opT y n k) c + bt2 (t_sh (wkT k) &&& (15 - (nd x n ||| nd y n))) c ∧ (bN (decide (q / 4 = 1) && hsB y (4 * n + c)) = 1 → bt2 (opT y n k) c = 1) ∧ bt2 (nd x n) c ≤ bt2 (t_sh (wkT k)) c := by
  have h := col_1 q hq (hsB x (4 * n + c)) (hsB y (4 * n + c)) hdj hok
  rw [hp] at h
  rw [op_bit hk hc, mi_bit hk hc, sh_bt hk hc, ← hs_c x hc]
  unfold joB
  rw [hp]
  exact h
/-- a number's choices: what they take, what they cost -/
theorem num_F {x y : Int64} {n k q0 q1 q2 q3 C : Nat} (hk : k < 94) (hdj : ∀ k, k < 52 → hsB x k = true → hsB y k = false) (hn : n < 13) (l0 : q0 < 8) (l1 : q1 < 8) (l2 : q2 < 8) (l3 : q3 < 8) (p0 : q0 % 4 = cdP (cdT (wkT k)) 0) (p1 : q1 % 4 = cdP (cdT (wkT k)) 1) (p2 : q2 % 4 = cdP (cdT (wkT k)) 2) (p3 : q3 % 4 = cdP (cdT (wkT k)) 3) (o0 : okB x y (4 * n) q0 = true) (o1 : okB x y (4 * n + 1) q1 = true) (o2 : okB x y (4 * n + 2) q2 = true) (o3 : okB x y (4 * n + 3) q3 = true) (hC : C < 16) (c0 : bN (decide (q0 / 4 = 1) && hsB y (4 * n)) = bt2 C 0) (c1 : bN (decide (q1 / 4 = 1) && hsB y (4 * n + 1)) = bt2 C 1) (c2 : bN (decide (q2 / 4 = 1) && hsB y (4 * n + 2)) = bt2 C 2) (c3 : bN (decide (q3 / 4 = 1) && hsB y (4 * n + 3)) = bt2 C 3) : popc C + jo4 joB n q0 q1 q2 q3 = popc (opT y n k) + miN x y n k ∧ C &&& opT y n k = C ∧ (nd x n &&& (15 - t_sh (wkT k)) == 0) = true := by
  have a0 := col_c (x := x) (y := y) (n := n) (c := 0) hk (by decide) l0 p0 (hdj _ (by omega)) o0
  have a1 := col_c (x := x) (y := y) (n := n) (c := 1) hk (by decide) l1 p1 (hdj _ (by omega)) o1
  have a2 := col_c (x := x) (y := y) (n := n) (c := 2) hk (by decide) l2 p2 (hdj _ (by omega)) o2
  have a3 := col_c (x := x) (y := y) (n := n) (c := 3) hk (by decide) l3 p3 (hdj _ (by omega)) o3
  rw [Nat.add_zero, c0] at a0
  rw [c1] at a1
  rw [c2] at a2
  rw [c3] at a3
  refine ⟨?_, sub_bt C hC _ (op_lt y n k) ⟨a0.2.1, a1.2.1, a2.2.1, a3.2.1⟩, bt_need _ (nd_lt x n) _ (t_sh_lt _) ⟨a0.2.2, a1.2.2, a2.2.2, a3.2.2⟩⟩
  unfold jo4 miN
  rw [popc_bt C, popc_bt (opT y n k), popc_bt (t_sh (wkT k) &&& _)]
  have b0 := a0.1
  have b1 := a1.1
  have b2 := a2.1
  have b3 := a3.1
  clear a0 a1 a2 a3
  omega
theorem mj_lt {x y : Int64} {u : Nat} (hu : u < 3) : mjN x y < u ↔ jkN x + jkN y < u := by unfold mjN; split <;> omega
theorem mB_over {x y : Int64} {aim : Int32} : ∀ d, d ≤ 13 → ∀ s, s < 256 → ∀ u, u < 3 → mjN x y < u → mB x y aim (4 * d) (mkN s u) = 0
  | 0, _, s, hs, u, hu, h => by
    show bB x y aim (mkN s u) = 0
    have h2 := (mj_lt hu).mp h
    unfold bB
    rw [jkM_mk hu]
    split
    · rfl
    · split
      · rfl
      · rw [if_pos (by omega)]
  | d + 1, hd, s, hs, u, hu, h => by
    show gC (fun a b : Nat => max a b) muT 0 8 (okB x y) joB (vaB y aim) (bB x y aim) (4 * d + 4) (mkN s u) = 0
    rw [gC_4 Sr_T (n := 12 - d) (by omega) hs hu]
    refine fd_e Mo_max (fun q0 _ => fd_e Mo_max (fun q1 _ => fd_e Mo_max (fun q2 _ => fd_e Mo_max (fun q3 _ => ?_))))
    split
    · cases hc : chS s u (cdO (q0 % 4) (q1 % 4) (q2 % 4) (q3 % 4)) (jo4 joB (12 - d) q0 q1 q2 q3) with
      | none => exact muT_0 _
      | some r =>
        obtain ⟨⟨_, _, h3⟩, h4⟩ := chS_of.mp hc
        show muT _ (mB x y aim (4 * d) r) = 0
        rw [h4, mB_over d (by omega) _ (c_af_lt hs) _ (by omega) (by omega)]
        exact muT_0 _
    · rfl
def mB1 (x y : Int64) (aim : Int32) (n s u : Nat) : Nat := if mjN x y < u then 0 else mB x y aim (4 * (13 - n)) (mkN s u)
def tm4 (x y : Int64) (aim : Int32) (d n s u q0 q1 q2 q3 : Nat) : Nat := if ok4 (okB x y) n q0 q1 q2 q3 = true then muT (va4 muT (vaB y aim) n q0 q1 q2 q3) (cO 0 (mB x y aim (4 * d)) (chS s u (cdO (q0 % 4) (q1 % 4) (q2 % 4) (q3 % 4)) (jo4 joB n q0 q1 q2 q3))) else 0
theorem mB_4 {x y : Int64} {aim : Int32} {d n s u : Nat} (hn : d + n = 12) (hs : s < 256) (hu : u < 3) : mB x y aim (4 * d + 4) (mkN s u) = mxF (fun q0 => mxF (fun q1 => mxF (fun q2 => mxF (fun q3 => tm4 x y aim d n s u q0 q1 q2 q3) 8) 8) 8) 8 := gC_4 Sr_T hn hs hu
theorem okB4 {x y : Int64} {n q0 q1 q2 q3 : Nat} : ok4 (okB x y) n q0 q1 q2 q3 = true ↔ okB x y (4 * n) q0 = true ∧ okB x y (4 * n + 1) q1 = true ∧ okB x y (4 * n + 2) q2 = true ∧ okB x y (4 * n + 3) q3 = true := by
  unfold ok4
  rw [Bool.and_eq_true, Bool.and_eq_true, Bool.and_eq_true]
  exact ⟨fun h => ⟨h.1.1.1, h.1.1.2, h.1.2, h.2⟩, fun h => ⟨⟨⟨h.1, h.2.1⟩, h.2.2.1⟩, h.2.2.2⟩⟩
/-- a class's choice is one of the reference's -/
theorem cl_le {x y : Int64} {aim : Int32} {d n s u k m : Nat} (ha : aim = 0 ∨ aim = 1) (hdj : ∀ k, k < 52 → hsB x k = true → hsB y k = false) (hn : d + n = 12) (hs : s < 256) (hu : u < 3) (hk : k < 94) (hm : u + m ≤ 2) (hcc : c_cc s (t_co (wkT k)) = true) (hsel : (nd x n &&& (15 - t_sh (wkT k)) == 0) = true) (h1 : miN x y n k ≤ m) (h2 : m ≤ popc (opT y n k) + miN x y n k) : muT (1 + g4 aim n (drC (opT y n k) (m - miN x y n k))) (mB x y aim (4 * d) (mkN (c_af s (wkT k)) (u + m))) ≤ mB x y aim (4 * d + 4) (mkN s u) := by
  have ho := op_lt y n k
  obtain ⟨d1, d2⟩ := dr_p _ ho (m - miN x y n k) (by omega)
  have d3 := dr_q _ ho (m - miN x y n k) (by omega) (by omega)
  generalize drC (opT y n k) (m - miN x y n k) = C at d1 d2 d3
  have hcol : ∀ c, c < 4 → qC (cdP (cdT (wkT k)) c) (bN (hsB x (4 * n + c))) (bt2 C c) < 8 ∧ qC (cdP (cdT (wkT k)) c) (bN (hsB x (4 * n + c))) (bt2 C c) % 4 = cdP (cdT (wkT k)) c ∧ okB x y (4 * n + c) (qC (cdP (cdT (wkT k)) c) (bN (hsB x (4 * n + c))) (bt2 C c)) = true ∧ bN (decide (qC (cdP (cdT (wkT k)) c) (bN (hsB x (4 * n + c))) (bt2 C c) / 4 = 1) && hsB y (4 * n + c)) = bt2 C c := by
    intro c hc
    refine qC_1 _ (cdP_lt _ _) (hsB x (4 * n + c)) (hsB y (4 * n + c)) _ (bt2_lt C c) (hdj _ (by omega)) (fun z => ?_) ?_
    · rw [← op_bit hk hc]; exact bt_sub C d1 _ ho d2 c hc z
    · rw [← sh_bt hk hc, hs_c x hc]; exact need_bt _ (nd_lt x n) _ (t_sh_lt _) hsel c hc
  have k0 := hcol 0 (by decide)
  have k1 := hcol 1 (by decide)
  have k2 := hcol 2 (by decide)
  have k3 := hcol 3 (by decide)
  clear hcol
  rw [Nat.add_zero] at k0
  generalize qC (cdP (cdT (wkT k)) 0) (bN (hsB x (4 * n))) (bt2 C 0) = q0 at k0
  generalize qC (cdP (cdT (wkT k)) 1) (bN (hsB x (4 * n + 1))) (bt2 C 1) = q1 at k1
  generalize qC (cdP (cdT (wkT k)) 2) (bN (hsB x (4 * n + 2))) (bt2 C 2) = q2 at k2
  generalize qC (cdP (cdT (wkT k)) 3) (bN (hsB x (4 * n + 3))) (bt2 C 3) = q3 at k3
  obtain ⟨l0, p0, o0, c0⟩ := k0
  obtain ⟨l1, p1, o1, c1⟩ := k1
  obtain ⟨l2, p2, o2, c2⟩ := k2
  obtain ⟨l3, p3, o3, c3⟩ := k3
  obtain ⟨F1, _, _⟩ := num_F (x := x) (y := y) (n := n) hk hdj (by omega) l0 l1 l2 l3 p0 p1 p2 p3 o0 o1 o2 o3 d1 c0 c1 c2 c3
  have hjo : jo4 joB n q0 q1 q2 q3 = m := by omega
  rw [mB_4 hn hs hu]
  refine Nat.le_trans (Nat.le_of_eq ?_) (mx4_ge (f := fun q0 q1 q2 q3 => tm4 x y aim d n s u q0 q1 q2 q3) l0 l1 l2 l3)
  show _ = tm4 x y aim d n s u q0 q1 q2 q3
  unfold tm4
  obtain ⟨w1, w2, w3⟩ := wk_cd k hk
  have hch : chS s u (cdO (q0 % 4) (q1 % 4) (q2 % 4) (q3 % 4)) (jo4 joB n q0 q1 q2 q3) = some (mkN (c_af s (wkT k)) (u + m)) := by
    rw [p0, p1, p2, p3, cd_O _ w1, hjo]
    refine chS_of.mpr ?_
    rw [w3]
    exact ⟨⟨hcc, w2, hm⟩, rfl⟩
  rw [if_pos (okB4.mpr ⟨o0, o1, o2, o3⟩), hch, va4_e (by omega) c0 c1 c2 c3]
  rfl
theorem muT_pos {a b : Nat} (h : ¬ muT a b = 0) : ¬ a = 0 ∧ ¬ b = 0 ∧ muT a b = a + b - 1 := by
  unfold muT at h ⊢
  by_cases z : a = 0
  · rw [if_pos z] at h; exact absurd rfl h
  · rw [if_neg z] at h ⊢
    by_cases z2 : b = 0
    · rw [if_pos z2] at h; exact absurd rfl h
    · rw [if_neg z2]; exact ⟨z, z2, rfl⟩
theorem muT_le {a a2 b : Nat} (h : a ≤ a2) : muT a b ≤ muT a2 b := by
  unfold muT
  by_cases z : a = 0
  · rw [if_pos z]; exact Nat.zero_le _
  · have z2 : ¬ a2 = 0 := by omega
    rw [if_neg z, if_neg z2]
    by_cases z3 : b = 0
    · rw [if_pos z3, if_pos z3]; exact Nat.le_refl _
    · rw [if_neg z3, if_neg z3]; omega
/-- the reference's greatest is reached by one of the class's choices -/
theorem rf_at {x y : Int64} {aim : Int32} {d n s u : Nat} (ha : aim = 0 ∨ aim = 1) (hdj : ∀ k, k < 52 → hsB x k = true → hsB y k = false) (hn : d + n = 12) (hs : s < 256) (hu : u < 3) (hz : ¬ mB x y aim (4 * d + 4) (mkN s u) = 0) : ∃ k m, k < 94 ∧ u + m ≤ mjN x y ∧ c_cc s (t_co (wkT k)) = true ∧ (nd x n &&& (15 - t_sh (wkT k)) == 0) = true ∧ miN x y n k ≤ m ∧ m ≤ popc (opT y n k) + miN x y n k ∧ mB x y aim (4 * d + 4) (mkN s u) ≤ muT (1 + g4 aim n (drC (opT y n k) (m - miN x y n k))) (mB x y aim (4 * d) (mkN (c_af s (wkT k)) (u + m))) := by
  have hz2 := hz
  rw [mB_4 hn hs hu] at hz2
  obtain ⟨q0, q1, q2, q3, l0, l1, l2, l3, hat⟩ := mx4_at hz2
  rw [← mB_4 hn hs hu] at hat
  rw [← hat] at hz ⊢
  clear hz2 hat
  unfold tm4 at hz ⊢
  by_cases z : ok4 (okB x y) n q0 q1 q2 q3 = true
  · rw [if_pos z] at hz ⊢
    obtain ⟨o0, o1, o2, o3⟩ := okB4.mp z
    cases hch : chS s u (cdO (q0 % 4) (q1 % 4) (q2 % 4) (q3 % 4)) (jo4 joB n q0 q1 q2 q3) with
    | none => rw [hch] at hz; exact absurd (muT_0 _) hz
    | some r =>
      rw [hch] at hz
      have hr := (muT_pos hz).2.1
      obtain ⟨⟨e1, e2, e3⟩, e4⟩ := chS_of.mp hch
      have b0 := Nat.mod_lt q0 (show 0 < 4 by decide)
      have b1 := Nat.mod_lt q1 (show 0 < 4 by decide)
      have b2 := Nat.mod_lt q2 (show 0 < 4 by decide)
      have b3 := Nat.mod_lt q3 (show 0 < 4 by decide)
      have hcd := cdO_lt b0 b1 b2 b3
      obtain ⟨P0, P1, P2, P3⟩ := cd_P _ b0 _ b1 _ b2 _ b3
      obtain ⟨hk, hk2⟩ := wk_P _ hcd e2
      have hst := (wk_cd _ hk).2.2
      rw [hk2] at hst
      generalize hK : wkP (cdO (q0 % 4) (q1 % 4) (q2 % 4) (q3 % 4)) = k at hk hk2 hst
      rw [hst] at e1 e4
      have hC := bt_mk (bN (decide (q0 / 4 = 1) && hsB y (4 * n))) (by have := bN_le (decide (q0 / 4 = 1) && hsB y (4 * n)); omega) (bN (decide (q1 / 4 = 1) && hsB y (4 * n + 1))) (by have := bN_le (decide (q1 / 4 = 1) && hsB y (4 * n + 1)); omega) (bN (decide (q2 / 4 = 1) && hsB y (4 * n + 2))) (by have := bN_le (decide (q2 / 4 = 1) && hsB y (4 * n + 2)); omega) (bN (decide (q3 / 4 = 1) && hsB y (4 * n + 3))) (by have := bN_le (decide (q3 / 4 = 1) && hsB y (4 * n + 3)); omega)
      generalize bN (decide (q0 / 4 = 1) && hsB y (4 * n)) + 2 * bN (decide (q1 / 4 = 1) && hsB y (4 * n + 1)) + 4 * bN (decide (q2 / 4 = 1) && hsB y (4 * n + 2)) + 8 * bN (decide (q3 / 4 = 1) && hsB y (4 * n + 3)) = C at hC
      obtain ⟨C1, c0, c1, c2, c3⟩ := hC
      obtain ⟨F1, F2, F3⟩ := num_F (x := x) (y := y) (n := n) (C := C) hk hdj (by omega) l0 l1 l2 l3 (by rw [hk2, P0]) (by rw [hk2, P1]) (by rw [hk2, P2]) (by rw [hk2, P3]) o0 o1 o2 o3 C1 c0.symm c1.symm c2.symm c3.symm
      have hps := popc_sub C C1 _ (op_lt y n k) F2
      have hmj : u + jo4 joB n q0 q1 q2 q3 ≤ mjN x y := by
        by_cases q : u + jo4 joB n q0 q1 q2 q3 ≤ mjN x y
        · exact q
        · refine absurd ?_ hr
          show mB x y aim (4 * d) r = 0
          rw [e4]
          exact mB_over d (by omega) _ (c_af_lt hs) _ (by omega) (by omega)
      refine ⟨k, jo4 joB n q0 q1 q2 q3, hk, hmj, e1, F3, by omega, by omega, ?_⟩
      rw [va4_e (by omega) c0.symm c1.symm c2.symm c3.symm]
      show muT _ (mB x y aim (4 * d) r) ≤ _
      rw [e4]
      refine muT_le ?_
      have hb := dr_best _ (op_lt y n k) C C1 F2 (jo4 joB n q0 q1 q2 q3 - miN x y n k) (by omega) (by omega)
      have hq2 := dr_q _ (op_lt y n k) (jo4 joB n q0 q1 q2 q3 - miN x y n k) (by omega) (by omega)
      have hpe : popc C = popc (drC (opT y n k) (jo4 joB n q0 q1 q2 q3 - miN x y n k)) := by omega
      unfold g4
      rw [hpe]
      have := Nat.mul_le_mul_left (2 ^ (49 - 4 * n)) hb
      generalize 2 ^ (49 - 4 * n) * rev4 C = A at this ⊢
      generalize 2 ^ (49 - 4 * n) * rev4 (drC (opT y n k) (jo4 joB n q0 q1 q2 q3 - miN x y n k)) = B at this ⊢
      omega
  · rw [if_neg z] at hz; exact absurd rfl hz
theorem mxF_term {f : Nat → Nat} {n i K : Nat} (hi : i < n) (h : K ≤ f i) : K ≤ mxF f n := Nat.le_trans h (mx_ge hi)
theorem mi_le (x y : Int64) (n k : Nat) : miN x y n k < 5 := by have := popc_le (t_sh (wkT k) &&& (15 - (nd x n ||| nd y n))); unfold miN; omega
/-- one number of the class's walk from behind is four cards of the reference's table -/
theorem bk_b {x y : Int64} {aim : Int32} {n s u : Nat} (ha : aim = 0 ∨ aim = 1) (hdj : ∀ k, k < 52 → hsB x k = true → hsB y k = false) (hn : n < 13) (hs : s < 256) (hu : u < 3) : bkS (fun a b : Nat => max a b) muT 0 wgT x y (mjN x y) n (unW (bwA aim) n) (mB1 x y aim (n + 1)) s u = mB1 x y aim n s u := by
  unfold bkS
  show _ = if mjN x y < u then 0 else mB x y aim (4 * (13 - n)) (mkN s u)
  have hj := mjN_le x y
  by_cases z : mjN x y < u
  · rw [if_pos z, if_pos z]
  · rw [if_neg z, if_neg z, show 4 * (13 - n) = 4 * (12 - n) + 4 by omega]
    have hb1 : ∀ s2 u2, mB1 x y aim (n + 1) s2 u2 = if mjN x y < u2 then 0 else mB x y aim (4 * (12 - n)) (mkN s2 u2) := fun s2 u2 => by unfold mB1; rw [show 13 - (n + 1) = 12 - n by omega]
    refine Nat.le_antisymm ?_ ?_
    · generalize hK : fd (fun a b : Nat => max a b) 0 _ 94 = K
      by_cases hK0 : K = 0
      · rw [hK0]; exact Nat.zero_le _
      · obtain ⟨k, hk, h1'⟩ := mx_at (fun y => hK0 (hK.symm.trans y))
        have h1 := h1'.trans hK
        clear h1'
        by_cases c1 : (c_cc s (t_co (wkT k)) && selB x y n (mjN x y) k) = true
        · rw [if_pos c1] at h1
          rw [Bool.and_eq_true] at c1
          obtain ⟨c2, c3⟩ := c1
          unfold selB at c3
          rw [Bool.and_eq_true] at c3
          obtain ⟨m, hm, h2'⟩ := mx_at (fun y => hK0 (h1.symm.trans y))
          have h2 := h2'.trans h1
          clear h2'
          rw [← h2] at hK0 ⊢
          by_cases c4 : sgV (unW (bwA aim) n) (nI n) (nI (miN x y n k)) (nI (opT y n k)) m < 0
          · rw [if_pos c4] at hK0; exact absurd rfl hK0
          · have c5 : miN x y n k ≤ m ∧ m ≤ popc (opT y n k) + miN x y n k := by
              by_cases q : miN x y n k ≤ m ∧ m ≤ popc (opT y n k) + miN x y n k
              · exact q
              · exact absurd (sgV_no (mi_le x y n k) (op_lt y n k) (by omega) q) c4
            rw [if_neg c4, sgV_y ha hn (mi_le x y n k) (op_lt y n k) (by omega) c5.1 c5.2, wg_l (g4_lt hn), hb1, if_neg (by omega)]
            exact cl_le ha hdj (by omega) hs hu hk (by omega) c2 c3.1 c5.1 c5.2
        · rw [if_neg c1] at h1
          exact absurd h1.symm hK0
    · by_cases hz : mB x y aim (4 * (12 - n) + 4) (mkN s u) = 0
      · rw [hz]; exact Nat.zero_le _
      · obtain ⟨k, m, hk, hm, c1, c2, c3, c4, hle⟩ := rf_at ha hdj (show 12 - n + n = 12 by omega) hs hu hz
        refine mxF_term hk ?_
        have hsel : selB x y n (mjN x y) k = true := by unfold selB; rw [c2, decide_eq_true (show miN x y n k ≤ mjN x y by omega)]; rfl
        rw [if_pos (by rw [c1, hsel]; rfl)]
        refine mxF_term (i := m) (by omega) ?_
        have hv := sgV_y ha hn (mi_le x y n k) (op_lt y n k) (show m < 3 by omega) c3 c4
        rw [hv, if_neg (lN_nn (g4_lt hn)), wg_l (g4_lt hn), hb1, if_neg (by omega)]
        exact hle
