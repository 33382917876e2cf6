/-! ===== lN to 2^62 under >> and >>> ===== -/
theorem pf_lI {a : Nat} (h : a < 2 ^ 63) : (lN a).toInt = (a : Int) := lg_ofNat_toInt h
theorem pf_shr {a d : Nat} {D : Int64} (hD : (D.toBitVec.smod 64).toNat = d) (h : a < 2 ^ 62) : lN a >>> D = lN (a / 2 ^ d) := by
  have hd : a / 2 ^ d ≤ a := Nat.div_le_self _ _
  apply Int64.toInt_inj.mp
  have e : (lN a >>> D).toInt = (lN a).toInt >>> d := by
    rw [← hD]
    exact BitVec.toInt_sshiftRight ..
  rw [e, Int.shiftRight_eq_div_pow, pf_lI (by omega), pf_lI (by omega)]
  rfl
theorem pf_ushr {a d : Nat} {D : UInt64} (hD : D.toNat % 64 = d) (h : a < 2 ^ 62) : ((lN a).toUInt64 >>> D).toInt64 = lN (a / 2 ^ d) := by
  have hd : a / 2 ^ d ≤ a := Nat.div_le_self _ _
  have e : (lN a).toUInt64 >>> D = UInt64.ofNat (a / 2 ^ d) := UInt64.toNat_inj.mp (by
    rw [UInt64.toNat_shiftRight, hD, Nat.shiftRight_eq_div_pow, UInt64.toNat_ofNat']
    show (UInt64.ofNat a).toNat / 2 ^ d = _
    rw [UInt64.toNat_ofNat', Nat.mod_eq_of_lt (by omega), Nat.mod_eq_of_lt (by omega)])
  rw [e]
  rfl
theorem pf_andw (x : Int64) : ∃ m, m < 2 ^ 32 ∧ x &&& 4294967295 = lN m := ⟨x.toBitVec.toNat % 2 ^ 32, Nat.mod_lt _ (by decide), Int64.toBitVec_inj.mp (BitVec.eq_of_toNat_eq (by
  show (x.toBitVec &&& 4294967295#64).toNat = (BitVec.ofNat 64 (x.toBitVec.toNat % 2 ^ 32)).toNat
  rw [BitVec.toNat_and, show (4294967295#64).toNat = 2 ^ 32 - 1 from by decide, Nat.and_two_pow_sub_one_eq_mod, BitVec.toNat_ofNat]
  omega))⟩
theorem pf_shr' {a k : Nat} (h : a < 2 ^ 62) (hk : k < 54) : lN a >>> ((nI k).toInt64 &&& 63) = lN (a / 2 ^ k) := by
  refine pf_shr (d := k) ?_ h
  rw [wb_c k (by omega), wb_tb, wb_sm k (by omega), BitVec.toNat_ofNat]
  exact Nat.mod_eq_of_lt (by omega)
theorem sh_l : ∀ n, n < 32 → ((nI n &&& 31).toBitVec.smod 32).toNat = n := by decide +kernel
def rnN (m c : Nat) : Nat := m / 15 / 2 ^ (2 * c) % 4
def igN (m : Nat) : Nat := m / 3 % 5
def jkM (m : Nat) : Nat := m % 3
def setR (R c o : Nat) : Nat := R - R / 2 ^ (2 * c) % 4 * 2 ^ (2 * c) + o * 2 ^ (2 * c)
def opN (r p : Nat) : Nat := if p = 3 then (if r = 3 then 3 else r + 1) else if p = 2 then 1 else 0
def beN (m c g u o : Nat) : Nat := (setR (m / 15) c o * 5 + g) * 3 + u
def bgN (m c g u o : Nat) : Option Nat := if c = 3 then (if g = 1 then none else if g = 2 then none else some (beN m c 0 u o)) else some (beN m c g u o)
def bN (b : Bool) : Nat := if b then 1 else 0
/-- the mark behind a card that gets a place, or none -/
def bhN (m k p : Nat) (b : Bool) : Option Nat :=
  if 2 < jkM m + bN b then none
  else if (p = 3 ↔ 0 < rnN m (k % 4)) then bgN m (k % 4) (if p = 1 then igN m + 1 else igN m) (jkM m + bN b) (opN (rnN m (k % 4)) p)
  else if p = 3 then none
  else if 3 ≤ rnN m (k % 4) then bgN m (k % 4) (if p = 1 then igN m + 1 else igN m) (jkM m + bN b) (opN (rnN m (k % 4)) p) else none
def oI (o : Option Nat) : Int32 := match o with
  | none => -1
  | some t => nI t
theorem rnN_lt (m c : Nat) : rnN m c < 4 := Nat.mod_lt _ (by decide)
theorem igN_lt (m : Nat) : igN m < 5 := Nat.mod_lt _ (by decide)
theorem jkM_lt (m : Nat) : jkM m < 3 := Nat.mod_lt _ (by decide)
theorem opN_lt {r p : Nat} (hr : r < 4) : opN r p < 4 := by unfold opN; split <;> (try split) <;> omega
theorem jb_run {m c : Nat} (hm : m < 3840) (hc : c < 4) : j_X8_run (nI m) (nI c) = nI (rnN m c) := by
  unfold j_X8_run rnN
  rw [show (15 : Int32) = nI 15 from rfl, pk_div (by omega) (by decide) (by decide), show (2 : Int32) = nI 2 from rfl, pk_mul, pk_shrN (by omega) _ (2 * c) (sh_l _ (by omega))]
  exact pk_andN (Nat.lt_of_le_of_lt (Nat.div_le_self _ _) (by omega)) 2 (by decide)
theorem jb_ig {m : Nat} (hm : m < 3840) : j_X8_inGroup (nI m) = nI (igN m) := by
  unfold j_X8_inGroup igN
  rw [show (3 : Int32) = nI 3 from rfl, pk_div (by omega) (by decide) (by decide), show (5 : Int32) = nI 5 from rfl]
  exact pk_rem (by omega) (by decide) (by decide)
theorem jb_jk {m : Nat} (hm : m < 3840) : j_X8_jokers (nI m) = nI (jkM m) := by
  unfold j_X8_jokers jkM
  rw [show (3 : Int32) = nI 3 from rfl]
  exact pk_rem (by omega) (by decide) (by decide)
theorem jb_set : ∀ R, R < 256 → ∀ c, c < 4 → ∀ o, o < 4 → ((nI R &&& (((3 : Int32) <<< (2 * nI c &&& 31)) ^^^ (-1))) ||| (nI o <<< (2 * nI c &&& 31))) = nI (setR R c o) := by decide +kernel
theorem setR_lt : ∀ R, R < 256 → ∀ c, c < 4 → ∀ o, o < 4 → setR R c o < 256 := by decide +kernel
theorem jb_end {m c g u o : Nat} (hm : m < 3840) (hc : c < 4) (ho : o < 4) : j_bh_end (nI m) (nI c) (nI g) (nI u) (nI o) = nI (beN m c g u o) := by
  unfold j_bh_end beN
  rw [show (15 : Int32) = nI 15 from rfl, pk_div (by omega) (by decide) (by decide), jb_set (m / 15) (by omega) c hc o ho, show (5 : Int32) = nI 5 from rfl, pk_mul, nI_add, show (3 : Int32) = nI 3 from rfl, pk_mul, nI_add]
theorem beN_lt {m c g u o : Nat} (hm : m < 3840) (hc : c < 4) (ho : o < 4) (hg : g ≤ 5) (hu : u ≤ 2) : beN m c g u o ≤ 3842 ∧ (g = 0 → beN m c g u o < 3840) := by
  unfold beN
  have := setR_lt (m / 15) (by omega) c hc o ho
  omega
theorem nI_eqI {a b : Nat} (ha : a < 2 ^ 31) (hb : b < 2 ^ 31) : (nI a = nI b) = (a = b) := propext (nI_eq ha hb)
theorem nlit {a b : Nat} {y : Int32} (hy : y = nI b) (ha : a < 2 ^ 31) (hb : b < 2 ^ 31) (h : ¬ a = b) : ¬ nI a = y := fun z => h ((nI_eq ha hb).mp (z.trans hy))
theorem jb_grp {m c g u o : Nat} (hm : m < 3840) (hc : c < 4) (ho : o < 4) (hg : g ≤ 5) : j_bh_grp (nI m) (nI c) (nI g) (nI u) (nI o) = oI (bgN m c g u o) := by
  unfold j_bh_grp bgN
  by_cases h3 : c = 3
  · rw [if_pos h3, if_pos (show nI c = 3 by rw [h3]; rfl)]
    by_cases h1 : g = 1
    · rw [if_pos h1, if_pos (show nI g = 1 by rw [h1]; rfl)]; rfl
    · rw [if_neg h1, if_neg (nlit (b := 1) (y := 1) rfl (by omega) (by decide) h1)]
      by_cases h2 : g = 2
      · rw [if_pos h2, if_pos (show nI g = 2 by rw [h2]; rfl)]; rfl
      · rw [if_neg h2, if_neg (nlit (b := 2) (y := 2) rfl (by omega) (by decide) h2)]
        exact jb_end (g := 0) hm hc ho
  · rw [if_neg h3, if_neg (nlit (b := 3) (y := 3) rfl (by omega) (by decide) h3)]
    exact jb_end hm hc ho
theorem jb_open : ∀ r, r < 4 → ∀ p, p < 4 → j_bh_open (nI r) (nI p) = nI (opN r p) := by decide +kernel
theorem jb_cond : ∀ r, r < 4 → ∀ p, p < 4 → (((if nI p = 3 then (1 : Int32) else 0) = (if nI r ≤ 0 then (0 : Int32) else 1)) ↔ (p = 3 ↔ 0 < r)) := by decide +kernel
theorem jb_g : ∀ g, g < 5 → ∀ p, p < 4 → (if nI p = 1 then nI g + 1 else nI g) = nI (if p = 1 then g + 1 else g) := by decide +kernel
theorem jb {m k p : Nat} {b : Bool} {bj : Int32} (hb : bj = nI (bN b)) (hm : m < 3840) (hk : k < 52) (hp : p < 4) : j_X8_behind (nI m) (nI k) (nI p) bj = oI (bhN m k p b) := by
  have hc : k % 4 < 4 := Nat.mod_lt _ (by decide)
  have hbl : bN b ≤ 1 := by unfold bN; split <;> omega
  have hjl := jkM_lt m
  have hrl := rnN_lt m (k % 4)
  have hgl := igN_lt m
  have hbj : (if bj = 0 then (0 : Int32) else 1) = nI (bN b) := by subst hb; cases b <;> rfl
  unfold j_X8_behind j_bh_mid bhN
  rw [show nI k - nI k / 4 * 4 = nI (k % 4) from by rw [show (4 : Int32) = nI 4 from rfl]; exact pk_rem (by omega) (by decide) (by decide), jb_run hm hc, jb_ig hm, jb_jk hm, hbj, nI_add, jb_open _ hrl p hp, jb_g _ hgl p hp]
  have hg5 : (if p = 1 then igN m + 1 else igN m) ≤ 5 := by split <;> omega
  have hG := jb_grp (u := jkM m + bN b) hm hc (opN_lt (p := p) hrl) hg5
  by_cases h1 : 2 < jkM m + bN b
  · rw [if_pos h1, if_pos (show (2 : Int32) < nI _ from nI_lt (a := 2) h1 (by omega))]; rfl
  · rw [if_neg h1, if_neg (show ¬ (2 : Int32) < nI _ from nI_nlt (a := 2) (by omega) (by decide))]
    by_cases h2 : (p = 3 ↔ 0 < rnN m (k % 4))
    · rw [if_pos h2, if_pos ((jb_cond _ hrl p hp).mpr h2)]; exact hG
    · rw [if_neg h2, if_neg (fun z => h2 ((jb_cond _ hrl p hp).mp z))]
      by_cases h3 : p = 3
      · rw [if_pos h3, if_pos (show nI p = 3 by rw [h3]; rfl)]; rfl
      · rw [if_neg h3, if_neg (nlit (b := 3) (y := 3) rfl (by omega) (by decide) h3)]
        by_cases h4 : 3 ≤ rnN m (k % 4)
        · rw [if_pos h4, if_pos (show (3 : Int32) ≤ nI _ from nI_le (a := 3) h4 (by omega))]; exact hG
        · rw [if_neg h4, if_neg (show ¬ (3 : Int32) ≤ nI _ from nI_ge (b := 3) (by omega) (by decide))]; rfl
theorem bgN_rng {m c g u o t : Nat} (hm : m < 3840) (hc : c < 4) (ho : o < 4) (hg : g ≤ 5) (hu : u ≤ 2) (h : bgN m c g u o = some t) : t ≤ 3842 ∧ (c = 3 → t < 3840) := by
  unfold bgN at h
  split at h
  · split at h
    · cases h
    · split at h
      · cases h
      · cases h
        exact ⟨(beN_lt hm hc ho (by omega) hu).1, fun _ => (beN_lt hm hc ho (by omega) hu).2 rfl⟩
  · rename_i h3
    cases h
    exact ⟨(beN_lt hm hc ho hg hu).1, fun z => absurd z h3⟩
theorem bhN_rng {m k p t : Nat} {b : Bool} (hm : m < 3840) (h : bhN m k p b = some t) : t ≤ 3842 ∧ (k % 4 = 3 → t < 3840) := by
  have hc : k % 4 < 4 := Nat.mod_lt _ (by decide)
  have hgl := igN_lt m
  have hg5 : (if p = 1 then igN m + 1 else igN m) ≤ 5 := by split <;> omega
  have ho := opN_lt (p := p) (rnN_lt m (k % 4))
  unfold bhN at h
  split at h
  · cases h
  · rename_i h1
    split at h
    · exact bgN_rng hm hc ho hg5 (by omega) h
    · split at h
      · cases h
      · split at h
        · exact bgN_rng hm hc ho hg5 (by omega) h
        · cases h
/-- the place in the table where the mark behind lies -/
theorem bhN_idx {m k p t : Nat} {b : Bool} (hm : m < 3840) (hk : k < 52) (h : bhN m k p b = some t) : 3840 * (k + 1) + t < 203520 := by
  have := bhN_rng hm h
  by_cases z : k % 4 = 3
  · have := this.2 z; omega
  · omega
theorem oI_none {o : Option Nat} (h : ∀ t, o = some t → t < 2 ^ 31) : oI o = -1 ↔ o = none := by
  cases o with
  | none => exact ⟨fun _ => rfl, fun _ => rfl⟩
  | some t =>
    refine ⟨fun z => ?_, fun z => by cases z⟩
    have q : nI t = -1 := z
    have q2 := congrArg Int32.toInt q
    rw [nI_toInt (h t rfl), show (-1 : Int32).toInt = -1 from by decide] at q2
    omega
def hsB (x : Int64) (k : Nat) : Bool := x.toBitVec.getLsbD k
theorem jb_has {x : Int64} {k : Nat} (hx : isS x) (hk : k < 54) : j_X8_has x (nI k) = nI (bN (hsB x k)) := by
  unfold j_X8_has hsB
  unfold isS at hx
  obtain ⟨w, hw, rfl⟩ := wb_of x
  rw [wb_tn hw] at hx
  rw [pf_shr' (by omega) hk, show (lN (w / 2 ^ k) &&& 1) = lN (w / 2 ^ k % 2) from wb_a1 (Nat.lt_of_le_of_lt (Nat.div_le_self _ _) hw), wb_tb, BitVec.getLsbD_ofNat]
  have ht : w.testBit k = decide (w / 2 ^ k % 2 = 1) := by first | exact Nat.testBit_eq_decide_div_mod_eq | (simp [Nat.testBit, Nat.shiftRight_eq_div_pow, Nat.one_and_eq_mod_two, bne_iff_ne]; omega)
  rw [ht]
  rcases Nat.mod_two_eq_zero_or_one (w / 2 ^ k) with z | z
  · rw [z, if_neg (fun q => absurd (cmp_eq.mp q) (by decide))]
    simp [bN]; rfl
  · rw [z, if_pos (cmp_eq.mpr (show lN 1 = 1 from rfl))]
    simp [bN, show k < 64 by omega]; rfl
