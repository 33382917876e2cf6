section
-- ===== PART A: goes FIRST, ahead of the names: the tables' words, and 'selects' of the private methods out of them =====
/-- a private method of a class that the tables say can be made, by its rows of tables_1 -/
def lw_okq (q : MethodName × Nat) : Prop := (q.1.cls ≠ "java/lang/invoke/MethodHandle" ∧ q.1.cls ≠ "java/lang/invoke/VarHandle") ∧ Cond.instantiable q.1.cls q.2 ∈ tables_1 ∧ Cond.privateMethod q.1 ∈ tables_1 ∧ Cond.instanceMethod q.1 ∈ tables_1
theorem lw_p0 : lw_okq (⟨"RummyTable", "refuse", "(I)I"⟩, 7) := ⟨⟨by decide +kernel, by decide +kernel⟩, List.mem_of_getElem? (i := 15) (by decide +kernel), List.mem_of_getElem? (i := 222) (by decide +kernel), List.mem_of_getElem? (i := 223) (by decide +kernel)⟩
theorem lw_p1 : lw_okq (⟨"RummyTable$Walk", "goThrough", "(I)V"⟩, 13) := ⟨⟨by decide +kernel, by decide +kernel⟩, List.mem_of_getElem? (i := 38) (by decide +kernel), List.mem_of_getElem? (i := 239) (by decide +kernel), List.mem_of_getElem? (i := 240) (by decide +kernel)⟩
theorem lw_p2 : lw_okq (⟨"RummyTable$Walk", "gatherFitting", "(I)V"⟩, 13) := ⟨⟨by decide +kernel, by decide +kernel⟩, List.mem_of_getElem? (i := 38) (by decide +kernel), List.mem_of_getElem? (i := 257) (by decide +kernel), List.mem_of_getElem? (i := 258) (by decide +kernel)⟩
theorem lw_p3 : lw_okq (⟨"RummyTable$Walk", "setGains", "(III)V"⟩, 13) := ⟨⟨by decide +kernel, by decide +kernel⟩, List.mem_of_getElem? (i := 38) (by decide +kernel), List.mem_of_getElem? (i := 272) (by decide +kernel), List.mem_of_getElem? (i := 273) (by decide +kernel)⟩
theorem lw_p4 : lw_okq (⟨"RummyTable$Walk", "gainOf", "(II)J"⟩, 13) := ⟨⟨by decide +kernel, by decide +kernel⟩, List.mem_of_getElem? (i := 38) (by decide +kernel), List.mem_of_getElem? (i := 277) (by decide +kernel), List.mem_of_getElem? (i := 278) (by decide +kernel)⟩
theorem lw_p5 : lw_okq (⟨"RummyTable$Walk", "goOnFrom", "(I)V"⟩, 13) := ⟨⟨by decide +kernel, by decide +kernel⟩, List.mem_of_getElem? (i := 38) (by decide +kernel), List.mem_of_getElem? (i := 284) (by decide +kernel), List.mem_of_getElem? (i := 285) (by decide +kernel)⟩
theorem lw_p6 : lw_okq (⟨"RummyTable$Walk", "carry", "(III)V"⟩, 13) := ⟨⟨by decide +kernel, by decide +kernel⟩, List.mem_of_getElem? (i := 38) (by decide +kernel), List.mem_of_getElem? (i := 298) (by decide +kernel), List.mem_of_getElem? (i := 299) (by decide +kernel)⟩
theorem lw_p7 : lw_okq (⟨"RummyTable$Search", "reachesEnd", "(IIILRummyTable$Layout;)Z"⟩, 3) := ⟨⟨by decide +kernel, by decide +kernel⟩, List.mem_of_getElem? (i := 111) (by decide +kernel), List.mem_of_getElem? (i := 324) (by decide +kernel), List.mem_of_getElem? (i := 325) (by decide +kernel)⟩
theorem lw_p8 : lw_okq (⟨"RummyTable", "keepTrial", "()V"⟩, 7) := ⟨⟨by decide +kernel, by decide +kernel⟩, List.mem_of_getElem? (i := 15) (by decide +kernel), List.mem_of_getElem? (i := 335) (by decide +kernel), List.mem_of_getElem? (i := 336) (by decide +kernel)⟩
theorem lw_p9 : lw_okq (⟨"RummyTable$Walk", "greatestAtEnd", "(I)J"⟩, 13) := ⟨⟨by decide +kernel, by decide +kernel⟩, List.mem_of_getElem? (i := 38) (by decide +kernel), List.mem_of_getElem? (i := 361) (by decide +kernel), List.mem_of_getElem? (i := 362) (by decide +kernel)⟩
theorem lw_p10 : lw_okq (⟨"RummyTable$Walk", "cardsOfKey", "(J)J"⟩, 13) := ⟨⟨by decide +kernel, by decide +kernel⟩, List.mem_of_getElem? (i := 38) (by decide +kernel), List.mem_of_getElem? (i := 365) (by decide +kernel), List.mem_of_getElem? (i := 366) (by decide +kernel)⟩
theorem lw_p11 : lw_okq (⟨"RummyTable$Walk", "firstJokers", "(I)J"⟩, 13) := ⟨⟨by decide +kernel, by decide +kernel⟩, List.mem_of_getElem? (i := 38) (by decide +kernel), List.mem_of_getElem? (i := 369) (by decide +kernel), List.mem_of_getElem? (i := 370) (by decide +kernel)⟩
theorem lw_p12 : lw_okq (⟨"RummyTable$Game", "shuffle", "(I)V"⟩, 12) := ⟨⟨by decide +kernel, by decide +kernel⟩, List.mem_of_getElem? (i := 127) (by decide +kernel), List.mem_of_getElem? (i := 439) (by decide +kernel), List.mem_of_getElem? (i := 440) (by decide +kernel)⟩
theorem lw_p13 : lw_okq (⟨"RummyTable$Game", "drawn", "()I"⟩, 12) := ⟨⟨by decide +kernel, by decide +kernel⟩, List.mem_of_getElem? (i := 127) (by decide +kernel), List.mem_of_getElem? (i := 446) (by decide +kernel), List.mem_of_getElem? (i := 447) (by decide +kernel)⟩
theorem lw_p14 : lw_okq (⟨"RummyTable", "barToPlay", "()I"⟩, 7) := ⟨⟨by decide +kernel, by decide +kernel⟩, List.mem_of_getElem? (i := 15) (by decide +kernel), List.mem_of_getElem? (i := 495) (by decide +kernel), List.mem_of_getElem? (i := 496) (by decide +kernel)⟩
theorem lw_p15 : lw_okq (⟨"RummyTable", "tryLaying", "(J)I"⟩, 7) := ⟨⟨by decide +kernel, by decide +kernel⟩, List.mem_of_getElem? (i := 15) (by decide +kernel), List.mem_of_getElem? (i := 500) (by decide +kernel), List.mem_of_getElem? (i := 501) (by decide +kernel)⟩
def lw_privs_1 : List (MethodName × Nat) := [(⟨"RummyTable", "refuse", "(I)I"⟩, 7), (⟨"RummyTable$Walk", "goThrough", "(I)V"⟩, 13), (⟨"RummyTable$Walk", "gatherFitting", "(I)V"⟩, 13), (⟨"RummyTable$Walk", "setGains", "(III)V"⟩, 13), (⟨"RummyTable$Walk", "gainOf", "(II)J"⟩, 13), (⟨"RummyTable$Walk", "goOnFrom", "(I)V"⟩, 13), (⟨"RummyTable$Walk", "carry", "(III)V"⟩, 13), (⟨"RummyTable$Search", "reachesEnd", "(IIILRummyTable$Layout;)Z"⟩, 3), (⟨"RummyTable", "keepTrial", "()V"⟩, 7), (⟨"RummyTable$Walk", "greatestAtEnd", "(I)J"⟩, 13), (⟨"RummyTable$Walk", "cardsOfKey", "(J)J"⟩, 13), (⟨"RummyTable$Walk", "firstJokers", "(I)J"⟩, 13), (⟨"RummyTable$Game", "shuffle", "(I)V"⟩, 12), (⟨"RummyTable$Game", "drawn", "()I"⟩, 12), (⟨"RummyTable", "barToPlay", "()I"⟩, 7), (⟨"RummyTable", "tryLaying", "(J)I"⟩, 7)]
theorem lw_r1 : ∀ q ∈ lw_privs_1, lw_okq q := List.forall_mem_cons.mpr ⟨lw_p0, List.forall_mem_cons.mpr ⟨lw_p1, List.forall_mem_cons.mpr ⟨lw_p2, List.forall_mem_cons.mpr ⟨lw_p3, List.forall_mem_cons.mpr ⟨lw_p4, List.forall_mem_cons.mpr ⟨lw_p5, List.forall_mem_cons.mpr ⟨lw_p6, List.forall_mem_cons.mpr ⟨lw_p7, List.forall_mem_cons.mpr ⟨lw_p8, List.forall_mem_cons.mpr ⟨lw_p9, List.forall_mem_cons.mpr ⟨lw_p10, List.forall_mem_cons.mpr ⟨lw_p11, List.forall_mem_cons.mpr ⟨lw_p12, List.forall_mem_cons.mpr ⟨lw_p13, List.forall_mem_cons.mpr ⟨lw_p14, List.forall_mem_cons.mpr ⟨lw_p15, fun _ h => absurd h List.not_mem_nil⟩⟩⟩⟩⟩⟩⟩⟩⟩⟩⟩⟩⟩⟩⟩⟩
theorem lw_p16 : lw_okq (⟨"RummyTable", "carryOut", "(J)V"⟩, 7) := ⟨⟨by decide +kernel, by decide +kernel⟩, List.mem_of_getElem? (i := 15) (by decide +kernel), List.mem_of_getElem? (i := 504) (by decide +kernel), List.mem_of_getElem? (i := 505) (by decide +kernel)⟩
theorem lw_p17 : lw_okq (⟨"RummyTable", "layAllBest", "(I)I"⟩, 7) := ⟨⟨by decide +kernel, by decide +kernel⟩, List.mem_of_getElem? (i := 15) (by decide +kernel), List.mem_of_getElem? (i := 525) (by decide +kernel), List.mem_of_getElem? (i := 526) (by decide +kernel)⟩
theorem lw_p18 : lw_okq (⟨"RummyTableModel", "none", "(I)I"⟩, 23) := ⟨⟨by decide +kernel, by decide +kernel⟩, List.mem_of_getElem? (i := 529) (by decide +kernel), List.mem_of_getElem? (i := 618) (by decide +kernel), List.mem_of_getElem? (i := 619) (by decide +kernel)⟩
theorem lw_p19 : lw_okq (⟨"RummyTableModel", "count", "(J)V"⟩, 23) := ⟨⟨by decide +kernel, by decide +kernel⟩, List.mem_of_getElem? (i := 529) (by decide +kernel), List.mem_of_getElem? (i := 622) (by decide +kernel), List.mem_of_getElem? (i := 623) (by decide +kernel)⟩
theorem lw_p20 : lw_okq (⟨"RummyTableModel", "keeps", "(J)Z"⟩, 23) := ⟨⟨by decide +kernel, by decide +kernel⟩, List.mem_of_getElem? (i := 529) (by decide +kernel), List.mem_of_getElem? (i := 652) (by decide +kernel), List.mem_of_getElem? (i := 653) (by decide +kernel)⟩
theorem lw_p21 : lw_okq (⟨"RummyTableModel", "melds", "()I"⟩, 23) := ⟨⟨by decide +kernel, by decide +kernel⟩, List.mem_of_getElem? (i := 529) (by decide +kernel), List.mem_of_getElem? (i := 656) (by decide +kernel), List.mem_of_getElem? (i := 657) (by decide +kernel)⟩
theorem lw_p22 : lw_okq (⟨"RummyTableModel", "runs", "()I"⟩, 23) := ⟨⟨by decide +kernel, by decide +kernel⟩, List.mem_of_getElem? (i := 529) (by decide +kernel), List.mem_of_getElem? (i := 672) (by decide +kernel), List.mem_of_getElem? (i := 673) (by decide +kernel)⟩
theorem lw_p23 : lw_okq (⟨"RummyTableModel", "shown", "()I"⟩, 23) := ⟨⟨by decide +kernel, by decide +kernel⟩, List.mem_of_getElem? (i := 529) (by decide +kernel), List.mem_of_getElem? (i := 676) (by decide +kernel), List.mem_of_getElem? (i := 677) (by decide +kernel)⟩
theorem lw_p24 : lw_okq (⟨"RummyTableModel", "stood", "()I"⟩, 23) := ⟨⟨by decide +kernel, by decide +kernel⟩, List.mem_of_getElem? (i := 529) (by decide +kernel), List.mem_of_getElem? (i := 680) (by decide +kernel), List.mem_of_getElem? (i := 681) (by decide +kernel)⟩
theorem lw_p25 : lw_okq (⟨"RummyTableModel", "worthShown", "()I"⟩, 23) := ⟨⟨by decide +kernel, by decide +kernel⟩, List.mem_of_getElem? (i := 529) (by decide +kernel), List.mem_of_getElem? (i := 684) (by decide +kernel), List.mem_of_getElem? (i := 685) (by decide +kernel)⟩
theorem lw_p26 : lw_okq (⟨"RummyTableModel", "longest", "()I"⟩, 23) := ⟨⟨by decide +kernel, by decide +kernel⟩, List.mem_of_getElem? (i := 529) (by decide +kernel), List.mem_of_getElem? (i := 691) (by decide +kernel), List.mem_of_getElem? (i := 692) (by decide +kernel)⟩
theorem lw_p27 : lw_okq (⟨"RummyTableModel", "bestOf", "(JJI)J"⟩, 23) := ⟨⟨by decide +kernel, by decide +kernel⟩, List.mem_of_getElem? (i := 529) (by decide +kernel), List.mem_of_getElem? (i := 706) (by decide +kernel), List.mem_of_getElem? (i := 707) (by decide +kernel)⟩
theorem lw_p28 : lw_okq (⟨"RummyTableModel", "reckon", "(JJI)V"⟩, 23) := ⟨⟨by decide +kernel, by decide +kernel⟩, List.mem_of_getElem? (i := 529) (by decide +kernel), List.mem_of_getElem? (i := 710) (by decide +kernel), List.mem_of_getElem? (i := 711) (by decide +kernel)⟩
theorem lw_p29 : lw_okq (⟨"RummyTableModel", "after", "(II)I"⟩, 23) := ⟨⟨by decide +kernel, by decide +kernel⟩, List.mem_of_getElem? (i := 529) (by decide +kernel), List.mem_of_getElem? (i := 717) (by decide +kernel), List.mem_of_getElem? (i := 718) (by decide +kernel)⟩
theorem lw_p30 : lw_okq (⟨"RummyTableModel", "goes", "(IZI)Z"⟩, 23) := ⟨⟨by decide +kernel, by decide +kernel⟩, List.mem_of_getElem? (i := 529) (by decide +kernel), List.mem_of_getElem? (i := 723) (by decide +kernel), List.mem_of_getElem? (i := 724) (by decide +kernel)⟩
theorem lw_p31 : lw_okq (⟨"RummyTableModel", "mayLay", "(J)I"⟩, 23) := ⟨⟨by decide +kernel, by decide +kernel⟩, List.mem_of_getElem? (i := 529) (by decide +kernel), List.mem_of_getElem? (i := 761) (by decide +kernel), List.mem_of_getElem? (i := 762) (by decide +kernel)⟩
def lw_privs_2 : List (MethodName × Nat) := [(⟨"RummyTable", "carryOut", "(J)V"⟩, 7), (⟨"RummyTable", "layAllBest", "(I)I"⟩, 7), (⟨"RummyTableModel", "none", "(I)I"⟩, 23), (⟨"RummyTableModel", "count", "(J)V"⟩, 23), (⟨"RummyTableModel", "keeps", "(J)Z"⟩, 23), (⟨"RummyTableModel", "melds", "()I"⟩, 23), (⟨"RummyTableModel", "runs", "()I"⟩, 23), (⟨"RummyTableModel", "shown", "()I"⟩, 23), (⟨"RummyTableModel", "stood", "()I"⟩, 23), (⟨"RummyTableModel", "worthShown", "()I"⟩, 23), (⟨"RummyTableModel", "longest", "()I"⟩, 23), (⟨"RummyTableModel", "bestOf", "(JJI)J"⟩, 23), (⟨"RummyTableModel", "reckon", "(JJI)V"⟩, 23), (⟨"RummyTableModel", "after", "(II)I"⟩, 23), (⟨"RummyTableModel", "goes", "(IZI)Z"⟩, 23), (⟨"RummyTableModel", "mayLay", "(J)I"⟩, 23)]
theorem lw_r2 : ∀ q ∈ lw_privs_2, lw_okq q := List.forall_mem_cons.mpr ⟨lw_p16, List.forall_mem_cons.mpr ⟨lw_p17, List.forall_mem_cons.mpr ⟨lw_p18, List.forall_mem_cons.mpr ⟨lw_p19, List.forall_mem_cons.mpr ⟨lw_p20, List.forall_mem_cons.mpr ⟨lw_p21, List.forall_mem_cons.mpr ⟨lw_p22, List.forall_mem_cons.mpr ⟨lw_p23, List.forall_mem_cons.mpr ⟨lw_p24, List.forall_mem_cons.mpr ⟨lw_p25, List.forall_mem_cons.mpr ⟨lw_p26, List.forall_mem_cons.mpr ⟨lw_p27, List.forall_mem_cons.mpr ⟨lw_p28, List.forall_mem_cons.mpr ⟨lw_p29, List.forall_mem_cons.mpr ⟨lw_p30, List.forall_mem_cons.mpr ⟨lw_p31, fun _ h => absurd h List.not_mem_nil⟩⟩⟩⟩⟩⟩⟩⟩⟩⟩⟩⟩⟩⟩⟩⟩
theorem lw_p32 : lw_okq (⟨"RummyTableModel", "remember", "()V"⟩, 23) := ⟨⟨by decide +kernel, by decide +kernel⟩, List.mem_of_getElem? (i := 529) (by decide +kernel), List.mem_of_getElem? (i := 765) (by decide +kernel), List.mem_of_getElem? (i := 766) (by decide +kernel)⟩
theorem lw_p33 : lw_okq (⟨"RummyTableModel", "recall", "()V"⟩, 23) := ⟨⟨by decide +kernel, by decide +kernel⟩, List.mem_of_getElem? (i := 529) (by decide +kernel), List.mem_of_getElem? (i := 769) (by decide +kernel), List.mem_of_getElem? (i := 770) (by decide +kernel)⟩
theorem lw_p34 : lw_okq (⟨"RummyTableModel", "laid", "(J)V"⟩, 23) := ⟨⟨by decide +kernel, by decide +kernel⟩, List.mem_of_getElem? (i := 529) (by decide +kernel), List.mem_of_getElem? (i := 773) (by decide +kernel), List.mem_of_getElem? (i := 774) (by decide +kernel)⟩
theorem lw_p35 : lw_okq (⟨"RummyTableModel", "ends", "()I"⟩, 23) := ⟨⟨by decide +kernel, by decide +kernel⟩, List.mem_of_getElem? (i := 529) (by decide +kernel), List.mem_of_getElem? (i := 781) (by decide +kernel), List.mem_of_getElem? (i := 782) (by decide +kernel)⟩
def lw_privs_3 : List (MethodName × Nat) := [(⟨"RummyTableModel", "remember", "()V"⟩, 23), (⟨"RummyTableModel", "recall", "()V"⟩, 23), (⟨"RummyTableModel", "laid", "(J)V"⟩, 23), (⟨"RummyTableModel", "ends", "()I"⟩, 23)]
theorem lw_r3 : ∀ q ∈ lw_privs_3, lw_okq q := List.forall_mem_cons.mpr ⟨lw_p32, List.forall_mem_cons.mpr ⟨lw_p33, List.forall_mem_cons.mpr ⟨lw_p34, List.forall_mem_cons.mpr ⟨lw_p35, fun _ h => absurd h List.not_mem_nil⟩⟩⟩⟩
def lw_privs : List (MethodName × Nat) := lw_privs_1 ++ (lw_privs_2 ++ (lw_privs_3))
def lw_tbl : List Cond := k2_sels lw_privs ++ tables_1
theorem lw_privs_ok : ∀ q ∈ lw_privs, lw_okq q := by
  show ∀ q ∈ lw_privs_1 ++ (lw_privs_2 ++ (lw_privs_3)), lw_okq q
  exact List.forall_mem_append.mpr ⟨lw_r1, List.forall_mem_append.mpr ⟨lw_r2, lw_r3⟩⟩
end
section
/-! ===== BEGIN words of one list among another's, by their places ===== -/
theorem goodIn_r {big : List Cond} (ws : List Cond) (ps : List Nat) (hp : ws = ps.filterMap (fun i => big[i]?)) (h : ws.all goodWord = true) : GoodIn big ws := by
  intro w hw
  have h1 := List.all_eq_true.mp h w hw
  rw [hp] at hw
  obtain ⟨i, -, hi⟩ := List.mem_filterMap.mp hw
  have hm : w ∈ big := by first | exact List.mem_of_getElem? hi | exact List.getElem?_mem hi
  exact ⟨hm, good_of_word h1⟩
theorem goodIn_app {big a b : List Cond} (ha : GoodIn big a) (hb : GoodIn big b) : GoodIn big (a ++ b) := fun w h => (List.mem_append.mp h).elim (ha w) (hb w)
theorem goodIn_ca {big a b : List Cond} {c : Cond} (ha : GoodIn big (c :: a)) (hb : GoodIn big b) : GoodIn big (c :: (a ++ b)) := fun w h => (List.mem_cons.mp h).elim (fun e => ha w (List.mem_cons.mpr (Or.inl e))) (fun h => (List.mem_append.mp h).elim (fun h => ha w (List.mem_cons.mpr (Or.inr h))) (hb w))
theorem goodIn_sub {big ws : List Cond} (hm : ∀ w ∈ ws, w ∈ big) (h : ws.all goodWord = true) : GoodIn big ws := fun w hw => ⟨hm w hw, good_of_word (List.all_eq_true.mp h w hw)⟩
/-! ===== END ===== -/

/-! ===== BEGIN printed: names, fields, word lists, decode rows ===== -/
def RX0 : String := "RummyTable$Card"
def TX0 : u_T := fun k => match k with
  | _ => ("", "", "", false)
def tyX0 : Nat → FieldType := fun k => match k with
  | _ => .int
abbrev wsX00 : List Cond := u_ws RX0 TX0 0
theorem nmX0 : ∀ a, a < 0 → ∀ b, b < 0 → a ≠ b → (TX0 a).2.1 ≠ (TX0 b).2.1 := by decide +kernel
theorem tyX0_ok : ∀ k, k < 0 → parseFieldDescriptor (TX0 k).2.2.1 = some (tyX0 k) := by decide +kernel
abbrev cX0_isSet : ByteArray := prog_2_method_2_code
def yX0_isSet : MethodName := ⟨RX0, "isSet", "(J)Z"⟩
abbrev cX0_worthOfNumber : ByteArray := prog_2_method_3_code
def yX0_worthOfNumber : MethodName := ⟨RX0, "worthOfNumber", "(I)I"⟩
abbrev cX0_worthOfSet : ByteArray := prog_2_method_4_code
def yX0_worthOfSet : MethodName := ⟨RX0, "worthOfSet", "(J)I"⟩
abbrev cX0_jokersIn : ByteArray := prog_2_method_5_code
def yX0_jokersIn : MethodName := ⟨RX0, "jokersIn", "(J)I"⟩
abbrev cX0_coloursOf : ByteArray := prog_2_method_6_code
def yX0_coloursOf : MethodName := ⟨RX0, "coloursOf", "(JI)I"⟩
def RX1 : String := "RummyTable$Game"
def TX1 : u_T := fun k => match k with
  | 0 => ("RummyTable$Game", "hands", "[J", true)
  | 1 => ("RummyTable$Game", "opened", "[Z", true)
  | 2 => ("RummyTable$Game", "pack", "[I", true)
  | 3 => ("RummyTable$Game", "players", "I", false)
  | 4 => ("RummyTable$Game", "top", "I", false)
  | 5 => ("RummyTable$Game", "lying", "J", false)
  | 6 => ("RummyTable$Game", "turn", "I", false)
  | 7 => ("RummyTable$Game", "turnsEnded", "I", false)
  | 8 => ("RummyTable$Game", "layings", "I", false)
  | 9 => ("RummyTable$Game", "idleTurns", "I", false)
  | 10 => ("RummyTable$Game", "over", "Z", false)
  | _ => ("RummyTable$Game", "winner", "I", false)
def tyX1 : Nat → FieldType := fun k => match k with
  | 0 => .array .long
  | 1 => .array .boolean
  | 2 => .array .int
  | 3 => .int
  | 4 => .int
  | 5 => .long
  | 6 => .int
  | 7 => .int
  | 8 => .int
  | 9 => .int
  | 10 => .boolean
  | _ => .int
abbrev wsX10 : List Cond := u_ws RX1 TX1 12
theorem nmX1 : ∀ a, a < 12 → ∀ b, b < 12 → a ≠ b → (TX1 a).2.1 ≠ (TX1 b).2.1 := by decide +kernel
theorem tyX1_ok : ∀ k, k < 12 → parseFieldDescriptor (TX1 k).2.2.1 = some (tyX1 k) := by decide +kernel
abbrev cX1_init : ByteArray := prog_3_method_1_code
def yX1_init : MethodName := ⟨RX1, "<init>", "()V"⟩
abbrev cX1_begin : ByteArray := prog_3_method_2_code
def yX1_begin : MethodName := ⟨RX1, "begin", "(III)V"⟩
abbrev cX1_shuffle : ByteArray := prog_3_method_3_code
def yX1_shuffle : MethodName := ⟨RX1, "shuffle", "(I)V"⟩
abbrev cX1_drawn : ByteArray := prog_3_method_4_code
def yX1_drawn : MethodName := ⟨RX1, "drawn", "()I"⟩
abbrev cX1_bitOf : ByteArray := prog_3_method_5_code
def yX1_bitOf : MethodName := ⟨RX1, "bitOf", "(I)J"⟩
abbrev cX1_isDealt : ByteArray := prog_3_method_6_code
def yX1_isDealt : MethodName := ⟨RX1, "isDealt", "()Z"⟩
abbrev cX1_has : ByteArray := prog_3_method_7_code
def yX1_has : MethodName := ⟨RX1, "has", "(I)Z"⟩
abbrev cX1_handOf : ByteArray := prog_3_method_8_code
def yX1_handOf : MethodName := ⟨RX1, "handOf", "(I)J"⟩
abbrev cX1_hasOpened : ByteArray := prog_3_method_9_code
def yX1_hasOpened : MethodName := ⟨RX1, "hasOpened", "(I)Z"⟩
abbrev cX1_fact : ByteArray := prog_3_method_10_code
def yX1_fact : MethodName := ⟨RX1, "fact", "(I)I"⟩
abbrev cX1_putDown : ByteArray := prog_3_method_11_code
def yX1_putDown : MethodName := ⟨RX1, "putDown", "(J)V"⟩
abbrev cX1_endTurn : ByteArray := prog_3_method_12_code
def yX1_endTurn : MethodName := ⟨RX1, "endTurn", "()I"⟩
def RX2 : String := "RummyTable$Layout"
def TX2 : u_T := fun k => match k with
  | 0 => ("RummyTable$Layout", "steps", "[I", true)
  | _ => ("RummyTable$Layout", "own", "J", false)
def tyX2 : Nat → FieldType := fun k => match k with
  | 0 => .array .int
  | _ => .long
abbrev wsX20 : List Cond := u_ws RX2 TX2 2
theorem nmX2 : ∀ a, a < 2 → ∀ b, b < 2 → a ≠ b → (TX2 a).2.1 ≠ (TX2 b).2.1 := by decide +kernel
theorem tyX2_ok : ∀ k, k < 2 → parseFieldDescriptor (TX2 k).2.2.1 = some (tyX2 k) := by decide +kernel
abbrev cX2_init : ByteArray := prog_4_method_1_code
def yX2_init : MethodName := ⟨RX2, "<init>", "()V"⟩
abbrev cX2_placeOf : ByteArray := prog_4_method_2_code
def yX2_placeOf : MethodName := ⟨RX2, "placeOf", "(I)I"⟩
abbrev cX2_jokerFor : ByteArray := prog_4_method_3_code
def yX2_jokerFor : MethodName := ⟨RX2, "jokerFor", "(I)I"⟩
abbrev cX2_groups : ByteArray := prog_4_method_4_code
def yX2_groups : MethodName := ⟨RX2, "groups", "()I"⟩
abbrev cX2_runs : ByteArray := prog_4_method_5_code
def yX2_runs : MethodName := ⟨RX2, "runs", "()I"⟩
abbrev cX2_shownCards : ByteArray := prog_4_method_6_code
def yX2_shownCards : MethodName := ⟨RX2, "shownCards", "()I"⟩
abbrev cX2_shownWorth : ByteArray := prog_4_method_7_code
def yX2_shownWorth : MethodName := ⟨RX2, "shownWorth", "()I"⟩
abbrev cX2_longestRun : ByteArray := prog_4_method_8_code
def yX2_longestRun : MethodName := ⟨RX2, "longestRun", "()I"⟩
def RX3 : String := "RummyTable$Row"
def TX3 : u_T := fun k => match k with
  | 0 => ("RummyTable$Row", "cells", "[J", true)
  | 1 => ("RummyTable$Row", "listed", "[Z", true)
  | 2 => ("RummyTable$Row", "states", "[I", true)
  | _ => ("RummyTable$Row", "count", "I", false)
def tyX3 : Nat → FieldType := fun k => match k with
  | 0 => .array .long
  | 1 => .array .boolean
  | 2 => .array .int
  | _ => .int
abbrev wsX30 : List Cond := u_ws RX3 TX3 4
theorem nmX3 : ∀ a, a < 4 → ∀ b, b < 4 → a ≠ b → (TX3 a).2.1 ≠ (TX3 b).2.1 := by decide +kernel
theorem tyX3_ok : ∀ k, k < 4 → parseFieldDescriptor (TX3 k).2.2.1 = some (tyX3 k) := by decide +kernel
abbrev cX3_init : ByteArray := prog_5_method_1_code
def yX3_init : MethodName := ⟨RX3, "<init>", "()V"⟩
abbrev cX3_clear : ByteArray := prog_5_method_2_code
def yX3_clear : MethodName := ⟨RX3, "clear", "()V"⟩
abbrev cX3_isCell : ByteArray := prog_5_method_3_code
def yX3_isCell : MethodName := ⟨RX3, "isCell", "(II)Z"⟩
abbrev cX3_at : ByteArray := prog_5_method_4_code
def yX3_at : MethodName := ⟨RX3, "at", "(II)J"⟩
abbrev cX3_put : ByteArray := prog_5_method_5_code
def yX3_put : MethodName := ⟨RX3, "put", "(IIJ)V"⟩
def RX4 : String := "RummyTable$Search"
def TX4 : u_T := fun k => match k with
  | 0 => ("RummyTable$Search", "steps", "[I", true)
  | 1 => ("RummyTable$Search", "hopeless", "[J", true)
  | _ => ("RummyTable$Search", "set", "J", false)
def tyX4 : Nat → FieldType := fun k => match k with
  | 0 => .array .int
  | 1 => .array .long
  | _ => .long
abbrev wsX40 : List Cond := u_ws RX4 TX4 3
theorem nmX4 : ∀ a, a < 3 → ∀ b, b < 3 → a ≠ b → (TX4 a).2.1 ≠ (TX4 b).2.1 := by decide +kernel
theorem tyX4_ok : ∀ k, k < 3 → parseFieldDescriptor (TX4 k).2.2.1 = some (tyX4 k) := by decide +kernel
abbrev cX4_init : ByteArray := prog_6_method_1_code
def yX4_init : MethodName := ⟨RX4, "<init>", "([I)V"⟩
abbrev cX4_findFirst : ByteArray := prog_6_method_2_code
def yX4_findFirst : MethodName := ⟨RX4, "findFirst", "(JLRummyTable$Layout;)Z"⟩
abbrev cX4_reachesEnd : ByteArray := prog_6_method_3_code
def yX4_reachesEnd : MethodName := ⟨RX4, "reachesEnd", "(IIILRummyTable$Layout;)Z"⟩
def RX5 : String := "RummyTable$Step"
def TX5 : u_T := fun k => match k with
  | _ => ("", "", "", false)
def tyX5 : Nat → FieldType := fun k => match k with
  | _ => .int
abbrev wsX50 : List Cond := u_ws RX5 TX5 0
theorem nmX5 : ∀ a, a < 0 → ∀ b, b < 0 → a ≠ b → (TX5 a).2.1 ≠ (TX5 b).2.1 := by decide +kernel
theorem tyX5_ok : ∀ k, k < 0 → parseFieldDescriptor (TX5 k).2.2.1 = some (tyX5 k) := by decide +kernel
abbrev cX5_allInOrder : ByteArray := prog_7_method_2_code
def yX5_allInOrder : MethodName := ⟨RX5, "allInOrder", "()[I"⟩
abbrev cX5_fromPlaces : ByteArray := prog_7_method_3_code
def yX5_fromPlaces : MethodName := ⟨RX5, "fromPlaces", "(I)I"⟩
abbrev cX5_grouped : ByteArray := prog_7_method_4_code
def yX5_grouped : MethodName := ⟨RX5, "grouped", "(I)I"⟩
abbrev cX5_begun : ByteArray := prog_7_method_5_code
def yX5_begun : MethodName := ⟨RX5, "begun", "(I)I"⟩
abbrev cX5_continued : ByteArray := prog_7_method_6_code
def yX5_continued : MethodName := ⟨RX5, "continued", "(I)I"⟩
abbrev cX5_shown : ByteArray := prog_7_method_7_code
def yX5_shown : MethodName := ⟨RX5, "shown", "(I)I"⟩
abbrev cX5_placeOf : ByteArray := prog_7_method_8_code
def yX5_placeOf : MethodName := ⟨RX5, "placeOf", "(II)I"⟩
abbrev cX5_canContinue : ByteArray := prog_7_method_9_code
def yX5_canContinue : MethodName := ⟨RX5, "canContinue", "(II)Z"⟩
abbrev cX5_stateAfter : ByteArray := prog_7_method_10_code
def yX5_stateAfter : MethodName := ⟨RX5, "stateAfter", "(II)I"⟩
abbrev cX5_mayEnd : ByteArray := prog_7_method_11_code
def yX5_mayEnd : MethodName := ⟨RX5, "mayEnd", "(I)Z"⟩
def RX6 : String := "RummyTable$Walk"
def TX6 : u_T := fun k => match k with
  | 0 => ("RummyTable$Walk", "steps", "[I", true)
  | 1 => ("RummyTable$Walk", "fitting", "[I", true)
  | 2 => ("RummyTable$Walk", "firstFit", "[I", true)
  | 3 => ("RummyTable$Walk", "gains", "[J", true)
  | 4 => ("RummyTable$Walk", "fits", "I", false)
  | 5 => ("RummyTable$Walk", "here", "LRummyTable$Row;", false)
  | 6 => ("RummyTable$Walk", "there", "LRummyTable$Row;", false)
  | 7 => ("RummyTable$Walk", "must", "J", false)
  | 8 => ("RummyTable$Walk", "may", "J", false)
  | 9 => ("RummyTable$Walk", "jokers", "I", false)
  | 10 => ("RummyTable$Walk", "counting", "Z", false)
  | 11 => ("RummyTable$Walk", "byWorth", "Z", false)
  | _ => ("RummyTable$Walk", "unit", "I", false)
def tyX6 : Nat → FieldType := fun k => match k with
  | 0 => .array .int
  | 1 => .array .int
  | 2 => .array .int
  | 3 => .array .long
  | 4 => .int
  | 5 => .object "RummyTable$Row"
  | 6 => .object "RummyTable$Row"
  | 7 => .long
  | 8 => .long
  | 9 => .int
  | 10 => .boolean
  | 11 => .boolean
  | _ => .int
abbrev wsX60 : List Cond := u_ws RX6 TX6 13
theorem nmX6 : ∀ a, a < 13 → ∀ b, b < 13 → a ≠ b → (TX6 a).2.1 ≠ (TX6 b).2.1 := by decide +kernel
theorem tyX6_ok : ∀ k, k < 13 → parseFieldDescriptor (TX6 k).2.2.1 = some (tyX6 k) := by decide +kernel
abbrev cX6_init : ByteArray := prog_8_method_1_code
def yX6_init : MethodName := ⟨RX6, "<init>", "([I)V"⟩
abbrev cX6_countLayouts : ByteArray := prog_8_method_2_code
def yX6_countLayouts : MethodName := ⟨RX6, "countLayouts", "(J)J"⟩
abbrev cX6_bestPart : ByteArray := prog_8_method_3_code
def yX6_bestPart : MethodName := ⟨RX6, "bestPart", "(JJI)J"⟩
abbrev cX6_greatestAtEnd : ByteArray := prog_8_method_4_code
def yX6_greatestAtEnd : MethodName := ⟨RX6, "greatestAtEnd", "(I)J"⟩
abbrev cX6_cardsOfKey : ByteArray := prog_8_method_5_code
def yX6_cardsOfKey : MethodName := ⟨RX6, "cardsOfKey", "(J)J"⟩
abbrev cX6_firstJokers : ByteArray := prog_8_method_6_code
def yX6_firstJokers : MethodName := ⟨RX6, "firstJokers", "(I)J"⟩
abbrev cX6_goThrough : ByteArray := prog_8_method_7_code
def yX6_goThrough : MethodName := ⟨RX6, "goThrough", "(I)V"⟩
abbrev cX6_goOnFrom : ByteArray := prog_8_method_8_code
def yX6_goOnFrom : MethodName := ⟨RX6, "goOnFrom", "(I)V"⟩
abbrev cX6_carry : ByteArray := prog_8_method_9_code
def yX6_carry : MethodName := ⟨RX6, "carry", "(III)V"⟩
abbrev cX6_gatherFitting : ByteArray := prog_8_method_10_code
def yX6_gatherFitting : MethodName := ⟨RX6, "gatherFitting", "(I)V"⟩
abbrev cX6_setGains : ByteArray := prog_8_method_11_code
def yX6_setGains : MethodName := ⟨RX6, "setGains", "(III)V"⟩
abbrev cX6_gainOf : ByteArray := prog_8_method_12_code
def yX6_gainOf : MethodName := ⟨RX6, "gainOf", "(II)J"⟩
abbrev cX6_withoutLast : ByteArray := prog_8_method_13_code
def yX6_withoutLast : MethodName := ⟨RX6, "withoutLast", "(I)I"⟩
def RX7 : String := "RummyTable"
def TX7 : u_T := fun k => match k with
  | 0 => ("RummyTable", "walk", "LRummyTable$Walk;", true)
  | 1 => ("RummyTable", "search", "LRummyTable$Search;", true)
  | 2 => ("RummyTable", "game", "LRummyTable$Game;", true)
  | 3 => ("RummyTable", "kept", "LRummyTable$Layout;", false)
  | 4 => ("RummyTable", "trial", "LRummyTable$Layout;", false)
  | 5 => ("RummyTable", "opening", "I", false)
  | _ => ("RummyTable", "status", "I", false)
def tyX7 : Nat → FieldType := fun k => match k with
  | 0 => .object "RummyTable$Walk"
  | 1 => .object "RummyTable$Search"
  | 2 => .object "RummyTable$Game"
  | 3 => .object "RummyTable$Layout"
  | 4 => .object "RummyTable$Layout"
  | 5 => .int
  | _ => .int
abbrev wsX70 : List Cond := u_ws RX7 TX7 7
theorem nmX7 : ∀ a, a < 7 → ∀ b, b < 7 → a ≠ b → (TX7 a).2.1 ≠ (TX7 b).2.1 := by decide +kernel
theorem tyX7_ok : ∀ k, k < 7 → parseFieldDescriptor (TX7 k).2.2.1 = some (tyX7 k) := by decide +kernel
abbrev cX7_init : ByteArray := prog_1_method_1_code
def yX7_init : MethodName := ⟨RX7, "<init>", "()V"⟩
abbrev cX7_status : ByteArray := prog_1_method_2_code
def yX7_status : MethodName := ⟨RX7, "status", "()I"⟩
abbrev cX7_ways : ByteArray := prog_1_method_3_code
def yX7_ways : MethodName := ⟨RX7, "ways", "(J)J"⟩
abbrev cX7_layout : ByteArray := prog_1_method_4_code
def yX7_layout : MethodName := ⟨RX7, "layout", "(J)I"⟩
abbrev cX7_best : ByteArray := prog_1_method_5_code
def yX7_best : MethodName := ⟨RX7, "best", "(JJI)J"⟩
abbrev cX7_place : ByteArray := prog_1_method_6_code
def yX7_place : MethodName := ⟨RX7, "place", "(I)I"⟩
abbrev cX7_stands : ByteArray := prog_1_method_7_code
def yX7_stands : MethodName := ⟨RX7, "stands", "(I)I"⟩
abbrev cX7_shows : ByteArray := prog_1_method_8_code
def yX7_shows : MethodName := ⟨RX7, "shows", "(I)I"⟩
abbrev cX7_worth : ByteArray := prog_1_method_9_code
def yX7_worth : MethodName := ⟨RX7, "worth", "(J)I"⟩
abbrev cX7_opening : ByteArray := prog_1_method_10_code
def yX7_opening : MethodName := ⟨RX7, "opening", "(I)Z"⟩
abbrev cX7_deal : ByteArray := prog_1_method_11_code
def yX7_deal : MethodName := ⟨RX7, "deal", "(III)Z"⟩
abbrev cX7_hand : ByteArray := prog_1_method_12_code
def yX7_hand : MethodName := ⟨RX7, "hand", "(I)J"⟩
abbrev cX7_table : ByteArray := prog_1_method_13_code
def yX7_table : MethodName := ⟨RX7, "table", "()J"⟩
abbrev cX7_tell : ByteArray := prog_1_method_14_code
def yX7_tell : MethodName := ⟨RX7, "tell", "(I)I"⟩
abbrev cX7_player : ByteArray := prog_1_method_15_code
def yX7_player : MethodName := ⟨RX7, "player", "(II)I"⟩
abbrev cX7_lay : ByteArray := prog_1_method_16_code
def yX7_lay : MethodName := ⟨RX7, "lay", "(J)I"⟩
abbrev cX7_end : ByteArray := prog_1_method_17_code
def yX7_end : MethodName := ⟨RX7, "end", "()I"⟩
abbrev cX7_robot : ByteArray := prog_1_method_18_code
def yX7_robot : MethodName := ⟨RX7, "robot", "(I)I"⟩
abbrev cX7_refuse : ByteArray := prog_1_method_19_code
def yX7_refuse : MethodName := ⟨RX7, "refuse", "(I)I"⟩
abbrev cX7_isAim : ByteArray := prog_1_method_20_code
def yX7_isAim : MethodName := ⟨RX7, "isAim", "(I)Z"⟩
abbrev cX7_barToPlay : ByteArray := prog_1_method_21_code
def yX7_barToPlay : MethodName := ⟨RX7, "barToPlay", "()I"⟩
abbrev cX7_keepTrial : ByteArray := prog_1_method_22_code
def yX7_keepTrial : MethodName := ⟨RX7, "keepTrial", "()V"⟩
abbrev cX7_tryLaying : ByteArray := prog_1_method_23_code
def yX7_tryLaying : MethodName := ⟨RX7, "tryLaying", "(J)I"⟩
abbrev cX7_carryOut : ByteArray := prog_1_method_24_code
def yX7_carryOut : MethodName := ⟨RX7, "carryOut", "(J)V"⟩
abbrev cX7_layAllBest : ByteArray := prog_1_method_25_code
def yX7_layAllBest : MethodName := ⟨RX7, "layAllBest", "(I)I"⟩
def RX8 : String := "RummyTableModel"
def TX8 : u_T := fun k => match k with
  | 0 => ("RummyTableModel", "status", "I", false)
  | 1 => ("RummyTableModel", "ways", "[J", true)
  | 2 => ("RummyTableModel", "places", "[I", true)
  | 3 => ("RummyTableModel", "stands", "[Z", true)
  | 4 => ("RummyTableModel", "most", "[I", true)
  | 5 => ("RummyTableModel", "here", "[Z", true)
  | 6 => ("RummyTableModel", "there", "[Z", true)
  | 7 => ("RummyTableModel", "isGame", "Z", false)
  | 8 => ("RummyTableModel", "isOver", "Z", false)
  | 9 => ("RummyTableModel", "opening", "I", false)
  | 10 => ("RummyTableModel", "players", "I", false)
  | 11 => ("RummyTableModel", "plays", "I", false)
  | 12 => ("RummyTableModel", "won", "I", false)
  | 13 => ("RummyTableModel", "turns", "I", false)
  | 14 => ("RummyTableModel", "layings", "I", false)
  | 15 => ("RummyTableModel", "passed", "I", false)
  | 16 => ("RummyTableModel", "hands", "[J", true)
  | 17 => ("RummyTableModel", "opened", "[Z", true)
  | 18 => ("RummyTableModel", "table", "J", false)
  | 19 => ("RummyTableModel", "cards", "[I", true)
  | 20 => ("RummyTableModel", "drawn", "I", false)
  | 21 => ("RummyTableModel", "oldPlaces", "[I", true)
  | _ => ("RummyTableModel", "oldStands", "[Z", true)
def tyX8 : Nat → FieldType := fun k => match k with
  | 0 => .int
  | 1 => .array .long
  | 2 => .array .int
  | 3 => .array .boolean
  | 4 => .array .int
  | 5 => .array .boolean
  | 6 => .array .boolean
  | 7 => .boolean
  | 8 => .boolean
  | 9 => .int
  | 10 => .int
  | 11 => .int
  | 12 => .int
  | 13 => .int
  | 14 => .int
  | 15 => .int
  | 16 => .array .long
  | 17 => .array .boolean
  | 18 => .long
  | 19 => .array .int
  | 20 => .int
  | 21 => .array .int
  | _ => .array .boolean
abbrev wsX80 : List Cond := u_ws RX8 TX8 23
theorem nmX8 : ∀ a, a < 23 → ∀ b, b < 23 → a ≠ b → (TX8 a).2.1 ≠ (TX8 b).2.1 := by decide +kernel
theorem tyX8_ok : ∀ k, k < 23 → parseFieldDescriptor (TX8 k).2.2.1 = some (tyX8 k) := by decide +kernel
abbrev cX8_init : ByteArray := prog_10_method_1_code
def yX8_init : MethodName := ⟨RX8, "<init>", "()V"⟩
abbrev cX8_status : ByteArray := prog_10_method_2_code
def yX8_status : MethodName := ⟨RX8, "status", "()I"⟩
abbrev cX8_none : ByteArray := prog_10_method_3_code
def yX8_none : MethodName := ⟨RX8, "none", "(I)I"⟩
abbrev cX8_isSet : ByteArray := prog_10_method_4_code
def yX8_isSet : MethodName := ⟨RX8, "isSet", "(J)Z"⟩
abbrev cX8_has : ByteArray := prog_10_method_5_code
def yX8_has : MethodName := ⟨RX8, "has", "(JI)Z"⟩
abbrev cX8_jokersOf : ByteArray := prog_10_method_6_code
def yX8_jokersOf : MethodName := ⟨RX8, "jokersOf", "(J)I"⟩
abbrev cX8_worthOf : ByteArray := prog_10_method_7_code
def yX8_worthOf : MethodName := ⟨RX8, "worthOf", "(I)I"⟩
abbrev cX8_many : ByteArray := prog_10_method_8_code
def yX8_many : MethodName := ⟨RX8, "many", "(J)I"⟩
abbrev cX8_worthAll : ByteArray := prog_10_method_9_code
def yX8_worthAll : MethodName := ⟨RX8, "worthAll", "(J)I"⟩
abbrev cX8_run : ByteArray := prog_10_method_10_code
def yX8_run : MethodName := ⟨RX8, "run", "(II)I"⟩
abbrev cX8_inGroup : ByteArray := prog_10_method_11_code
def yX8_inGroup : MethodName := ⟨RX8, "inGroup", "(I)I"⟩
abbrev cX8_jokers : ByteArray := prog_10_method_12_code
def yX8_jokers : MethodName := ⟨RX8, "jokers", "(I)I"⟩
abbrev cX8_behind : ByteArray := prog_10_method_13_code
def yX8_behind : MethodName := ⟨RX8, "behind", "(IIIZ)I"⟩
abbrev cX8_isWhole : ByteArray := prog_10_method_14_code
def yX8_isWhole : MethodName := ⟨RX8, "isWhole", "(I)Z"⟩
abbrev cX8_count : ByteArray := prog_10_method_15_code
def yX8_count : MethodName := ⟨RX8, "count", "(J)V"⟩
abbrev cX8_ways : ByteArray := prog_10_method_16_code
def yX8_ways : MethodName := ⟨RX8, "ways", "(J)J"⟩
abbrev cX8_keeps : ByteArray := prog_10_method_17_code
def yX8_keeps : MethodName := ⟨RX8, "keeps", "(J)Z"⟩
abbrev cX8_melds : ByteArray := prog_10_method_18_code
def yX8_melds : MethodName := ⟨RX8, "melds", "()I"⟩
abbrev cX8_layout : ByteArray := prog_10_method_19_code
def yX8_layout : MethodName := ⟨RX8, "layout", "(J)I"⟩
abbrev cX8_place : ByteArray := prog_10_method_20_code
def yX8_place : MethodName := ⟨RX8, "place", "(I)I"⟩
abbrev cX8_stands : ByteArray := prog_10_method_21_code
def yX8_stands : MethodName := ⟨RX8, "stands", "(I)I"⟩
abbrev cX8_runs : ByteArray := prog_10_method_22_code
def yX8_runs : MethodName := ⟨RX8, "runs", "()I"⟩
abbrev cX8_shown : ByteArray := prog_10_method_23_code
def yX8_shown : MethodName := ⟨RX8, "shown", "()I"⟩
abbrev cX8_stood : ByteArray := prog_10_method_24_code
def yX8_stood : MethodName := ⟨RX8, "stood", "()I"⟩
abbrev cX8_worthShown : ByteArray := prog_10_method_25_code
def yX8_worthShown : MethodName := ⟨RX8, "worthShown", "()I"⟩
abbrev cX8_longest : ByteArray := prog_10_method_26_code
def yX8_longest : MethodName := ⟨RX8, "longest", "()I"⟩
abbrev cX8_shows : ByteArray := prog_10_method_27_code
def yX8_shows : MethodName := ⟨RX8, "shows", "(I)I"⟩
abbrev cX8_worth : ByteArray := prog_10_method_28_code
def yX8_worth : MethodName := ⟨RX8, "worth", "(J)I"⟩
abbrev cX8_gain : ByteArray := prog_10_method_29_code
def yX8_gain : MethodName := ⟨RX8, "gain", "(II)I"⟩
abbrev cX8_reckon : ByteArray := prog_10_method_30_code
def yX8_reckon : MethodName := ⟨RX8, "reckon", "(JJI)V"⟩
abbrev cX8_after : ByteArray := prog_10_method_31_code
def yX8_after : MethodName := ⟨RX8, "after", "(II)I"⟩
abbrev cX8_bestOf : ByteArray := prog_10_method_32_code
def yX8_bestOf : MethodName := ⟨RX8, "bestOf", "(JJI)J"⟩
abbrev cX8_goes : ByteArray := prog_10_method_33_code
def yX8_goes : MethodName := ⟨RX8, "goes", "(IZI)Z"⟩
abbrev cX8_best : ByteArray := prog_10_method_34_code
def yX8_best : MethodName := ⟨RX8, "best", "(JJI)J"⟩
abbrev cX8_opening : ByteArray := prog_10_method_35_code
def yX8_opening : MethodName := ⟨RX8, "opening", "(I)Z"⟩
abbrev cX8_deal : ByteArray := prog_10_method_36_code
def yX8_deal : MethodName := ⟨RX8, "deal", "(III)Z"⟩
abbrev cX8_hand : ByteArray := prog_10_method_37_code
def yX8_hand : MethodName := ⟨RX8, "hand", "(I)J"⟩
abbrev cX8_table : ByteArray := prog_10_method_38_code
def yX8_table : MethodName := ⟨RX8, "table", "()J"⟩
abbrev cX8_tell : ByteArray := prog_10_method_39_code
def yX8_tell : MethodName := ⟨RX8, "tell", "(I)I"⟩
abbrev cX8_player : ByteArray := prog_10_method_40_code
def yX8_player : MethodName := ⟨RX8, "player", "(II)I"⟩
abbrev cX8_remember : ByteArray := prog_10_method_41_code
def yX8_remember : MethodName := ⟨RX8, "remember", "()V"⟩
abbrev cX8_recall : ByteArray := prog_10_method_42_code
def yX8_recall : MethodName := ⟨RX8, "recall", "()V"⟩
abbrev cX8_mayLay : ByteArray := prog_10_method_43_code
def yX8_mayLay : MethodName := ⟨RX8, "mayLay", "(J)I"⟩
abbrev cX8_laid : ByteArray := prog_10_method_44_code
def yX8_laid : MethodName := ⟨RX8, "laid", "(J)V"⟩
abbrev cX8_lay : ByteArray := prog_10_method_45_code
def yX8_lay : MethodName := ⟨RX8, "lay", "(J)I"⟩
abbrev cX8_ends : ByteArray := prog_10_method_46_code
def yX8_ends : MethodName := ⟨RX8, "ends", "()I"⟩
abbrev cX8_end : ByteArray := prog_10_method_47_code
def yX8_end : MethodName := ⟨RX8, "end", "()I"⟩
abbrev cX8_robot : ByteArray := prog_10_method_48_code
def yX8_robot : MethodName := ⟨RX8, "robot", "(I)I"⟩
def RJ6 : String := "java/lang/Integer"
def TJ6 : u_T := fun k => match k with
  | _ => ("", "", "", false)
def tyJ6 : Nat → FieldType := fun k => match k with
  | _ => .int
abbrev wsJ60 : List Cond := u_ws RJ6 TJ6 0
theorem nmJ6 : ∀ a, a < 0 → ∀ b, b < 0 → a ≠ b → (TJ6 a).2.1 ≠ (TJ6 b).2.1 := by decide +kernel
theorem tyJ6_ok : ∀ k, k < 0 → parseFieldDescriptor (TJ6 k).2.2.1 = some (tyJ6 k) := by decide +kernel
abbrev cJ6_bitCount_0f7a4 : ByteArray := prog_11_method_49_code
def yJ6_bitCount_0f7a4 : MethodName := ⟨RJ6, "bitCount", "(I)I"⟩
def RJ13 : String := "java/lang/Long"
def TJ13 : u_T := fun k => match k with
  | _ => ("", "", "", false)
def tyJ13 : Nat → FieldType := fun k => match k with
  | _ => .int
abbrev wsJ130 : List Cond := u_ws RJ13 TJ13 0
theorem nmJ13 : ∀ a, a < 0 → ∀ b, b < 0 → a ≠ b → (TJ13 a).2.1 ≠ (TJ13 b).2.1 := by decide +kernel
theorem tyJ13_ok : ∀ k, k < 0 → parseFieldDescriptor (TJ13 k).2.2.1 = some (tyJ13 k) := by decide +kernel
abbrev cJ13_bitCount_95d88 : ByteArray := prog_12_method_50_code
def yJ13_bitCount_95d88 : MethodName := ⟨RJ13, "bitCount", "(J)I"⟩
def RJ9 : String := "java/lang/Math"
def TJ9 : u_T := fun k => match k with
  | _ => ("", "", "", false)
def tyJ9 : Nat → FieldType := fun k => match k with
  | _ => .int
abbrev wsJ90 : List Cond := u_ws RJ9 TJ9 0
theorem nmJ9 : ∀ a, a < 0 → ∀ b, b < 0 → a ≠ b → (TJ9 a).2.1 ≠ (TJ9 b).2.1 := by decide +kernel
theorem tyJ9_ok : ∀ k, k < 0 → parseFieldDescriptor (TJ9 k).2.2.1 = some (tyJ9 k) := by decide +kernel
abbrev cJ9_max_7cf53 : ByteArray := prog_13_method_65_code
def yJ9_max_7cf53 : MethodName := ⟨RJ9, "max", "(II)I"⟩
abbrev cJ9_max_f86c9 : ByteArray := prog_13_method_66_code
def yJ9_max_f86c9 : MethodName := ⟨RJ9, "max", "(JJ)J"⟩
abbrev cJ9_min_7cf53 : ByteArray := prog_13_method_69_code
def yJ9_min_7cf53 : MethodName := ⟨RJ9, "min", "(II)I"⟩
def RJ7 : String := "java/util/Arrays"
def TJ7 : u_T := fun k => match k with
  | _ => ("", "", "", false)
def tyJ7 : Nat → FieldType := fun k => match k with
  | _ => .int
abbrev wsJ70 : List Cond := u_ws RJ7 TJ7 0
theorem nmJ7 : ∀ a, a < 0 → ∀ b, b < 0 → a ≠ b → (TJ7 a).2.1 ≠ (TJ7 b).2.1 := by decide +kernel
theorem tyJ7_ok : ∀ k, k < 0 → parseFieldDescriptor (TJ7 k).2.2.1 = some (tyJ7 k) := by decide +kernel
abbrev cJ7_fill_d0a16 : ByteArray := prog_14_method_101_code
def yJ7_fill_d0a16 : MethodName := ⟨RJ7, "fill", "([JJ)V"⟩
def RL : String := "RummyTableLaw"
abbrev cL_law : ByteArray := code
def yL_law : MethodName := ⟨RL, "law", "([I)Z"⟩
def wsX0_isSet : List Cond := .code yX0_isSet cX0_isSet 2 (some .boolean) :: ([])
def wsX0_worthOfNumber : List Cond := .code yX0_worthOfNumber cX0_worthOfNumber 1 (some .int) :: ([.methodLink RX0 9 Lib.Math.min.name, .static Lib.Math.min.name, .initialized "java/lang/Math", .code Lib.Math.min.name Lib.Math.min.code 2 (some .int)])
def wsJ13_bitCount_95d88 : List Cond := .code yJ13_bitCount_95d88 cJ13_bitCount_95d88 2 (some .int) :: ([.constantLong RJ13 314 (6148914691236517205), .constantLong RJ13 316 (3689348814741910323), .constantLong RJ13 318 (1085102592571150095)])
def wsX0_jokersIn : List Cond := .code yX0_jokersIn cX0_jokersIn 2 (some .int) :: ([.methodLink RX0 34 yJ13_bitCount_95d88, .static yJ13_bitCount_95d88, .initialized RJ13, .code yJ13_bitCount_95d88 cJ13_bitCount_95d88 2 (some .int), .constantLong RJ13 314 (6148914691236517205), .constantLong RJ13 316 (3689348814741910323), .constantLong RJ13 318 (1085102592571150095)])
def wsX0_coloursOf : List Cond := .code yX0_coloursOf cX0_coloursOf 3 (some .int) :: ([])
def wsJ6_bitCount_0f7a4 : List Cond := .code yJ6_bitCount_0f7a4 cJ6_bitCount_0f7a4 1 (some .int) :: ([.constant RJ6 265 (1431655765), .constant RJ6 266 (858993459), .constant RJ6 267 (252645135)])
def wsX0_worthOfSet_r1 : List Cond := [Cond.methodLink RX0 15 yX0_jokersIn, Cond.static yX0_jokersIn, Cond.initialized RX0, Cond.code yX0_jokersIn cX0_jokersIn 2 (some .int), Cond.methodLink RX0 34 yJ13_bitCount_95d88, Cond.static yJ13_bitCount_95d88, Cond.initialized RJ13, Cond.code yJ13_bitCount_95d88 cJ13_bitCount_95d88 2 (some .int), Cond.constantLong RJ13 314 (6148914691236517205), Cond.constantLong RJ13 316 (3689348814741910323), Cond.constantLong RJ13 318 (1085102592571150095), Cond.methodLink RX0 21 yX0_worthOfNumber, Cond.static yX0_worthOfNumber, Cond.code yX0_worthOfNumber cX0_worthOfNumber 1 (some .int), Cond.methodLink RX0 9 Lib.Math.min.name, Cond.static Lib.Math.min.name, Cond.initialized "java/lang/Math", Cond.code Lib.Math.min.name Lib.Math.min.code 2 (some .int), Cond.methodLink RX0 25 yX0_coloursOf, Cond.static yX0_coloursOf, Cond.code yX0_coloursOf cX0_coloursOf 3 (some .int), Cond.methodLink RX0 29 yJ6_bitCount_0f7a4, Cond.static yJ6_bitCount_0f7a4, Cond.initialized RJ6]
def wsX0_worthOfSet_r2 : List Cond := [Cond.code yJ6_bitCount_0f7a4 cJ6_bitCount_0f7a4 1 (some .int), Cond.constant RJ6 265 (1431655765), Cond.constant RJ6 266 (858993459), Cond.constant RJ6 267 (252645135)]
def wsX0_worthOfSet : List Cond := .code yX0_worthOfSet cX0_worthOfSet 4 (some .int) :: ((wsX0_worthOfSet_r1 ++ wsX0_worthOfSet_r2))
def wsX1_init : List Cond := .code yX1_init cX1_init 1 none :: ([.methodLink RX1 3 objectInit, .instanceMethod objectInit, .code objectInit ⟨#[0xb1]⟩ 1 none, .arrayClass .long, .fieldLink RX1 9 "RummyTable$Game" "hands" "[J", .arrayClass .boolean, .fieldLink RX1 15 "RummyTable$Game" "opened" "[Z", .arrayClass .int, .fieldLink RX1 19 "RummyTable$Game" "pack" "[I"] ++ wsX10)
def wsX1_shuffle : List Cond := .code yX1_shuffle cX1_shuffle 7 none :: ([.fieldLink RX1 19 "RummyTable$Game" "pack" "[I", .constantLong RX1 71 (48271), .constantLong RX1 73 (2147483647)] ++ wsX10)
def wsX1_drawn : List Cond := .code yX1_drawn cX1_drawn 2 (some .int) :: ([.fieldLink RX1 37 "RummyTable$Game" "top" "I", .fieldLink RX1 19 "RummyTable$Game" "pack" "[I"] ++ wsX10)
def wsX1_bitOf : List Cond := .code yX1_bitOf cX1_bitOf 1 (some .long) :: ([])
def wsX1_begin_r1 : List Cond := [Cond.methodLink RX1 27 Lib.Math.min.name, Cond.static Lib.Math.min.name, Cond.initialized "java/lang/Math", Cond.code Lib.Math.min.name Lib.Math.min.code 2 (some .int), Cond.fieldLink RX1 33 "RummyTable$Game" "players" "I", Cond.fieldLink RX1 37 "RummyTable$Game" "top" "I", Cond.fieldLink RX1 15 "RummyTable$Game" "opened" "[Z", Cond.fieldLink RX1 9 "RummyTable$Game" "hands" "[J", Cond.fieldLink RX1 48 "RummyTable$Game" "lying" "J", Cond.fieldLink RX1 52 "RummyTable$Game" "turn" "I", Cond.fieldLink RX1 55 "RummyTable$Game" "turnsEnded" "I", Cond.fieldLink RX1 58 "RummyTable$Game" "layings" "I", Cond.fieldLink RX1 61 "RummyTable$Game" "idleTurns" "I", Cond.fieldLink RX1 64 "RummyTable$Game" "over" "Z", Cond.fieldLink RX1 68 "RummyTable$Game" "winner" "I", Cond.methodLink RX1 23 yX1_shuffle, Cond.instanceMethod yX1_shuffle, Cond.selects RX1 yX1_shuffle yX1_shuffle, Cond.initialized RX1, Cond.code yX1_shuffle cX1_shuffle 7 none, Cond.fieldLink RX1 19 "RummyTable$Game" "pack" "[I", Cond.constantLong RX1 71 (48271), Cond.constantLong RX1 73 (2147483647), Cond.methodLink RX1 40 yX1_drawn]
def wsX1_begin_r2 : List Cond := [Cond.instanceMethod yX1_drawn, Cond.selects RX1 yX1_drawn yX1_drawn, Cond.code yX1_drawn cX1_drawn 2 (some .int), Cond.methodLink RX1 44 yX1_bitOf, Cond.static yX1_bitOf, Cond.code yX1_bitOf cX1_bitOf 1 (some .long)]
def wsX1_begin : List Cond := .code yX1_begin cX1_begin 6 none :: ((wsX1_begin_r1 ++ wsX1_begin_r2) ++ wsX10)
def wsX1_isDealt : List Cond := .code yX1_isDealt cX1_isDealt 1 (some .boolean) :: ([.fieldLink RX1 33 "RummyTable$Game" "players" "I"] ++ wsX10)
def wsX1_has : List Cond := .code yX1_has cX1_has 2 (some .boolean) :: ([.fieldLink RX1 33 "RummyTable$Game" "players" "I"] ++ wsX10)
def wsX1_handOf : List Cond := .code yX1_handOf cX1_handOf 2 (some .long) :: ([.fieldLink RX1 9 "RummyTable$Game" "hands" "[J", .methodLink RX1 75 yX1_has, .instanceMethod yX1_has, .selects RX1 yX1_has yX1_has, .initialized RX1, .code yX1_has cX1_has 2 (some .boolean), .fieldLink RX1 33 "RummyTable$Game" "players" "I"] ++ wsX10)
def wsX1_hasOpened : List Cond := .code yX1_hasOpened cX1_hasOpened 2 (some .boolean) :: ([.fieldLink RX1 15 "RummyTable$Game" "opened" "[Z", .methodLink RX1 75 yX1_has, .instanceMethod yX1_has, .selects RX1 yX1_has yX1_has, .initialized RX1, .code yX1_has cX1_has 2 (some .boolean), .fieldLink RX1 33 "RummyTable$Game" "players" "I"] ++ wsX10)
def wsX1_fact : List Cond := .code yX1_fact cX1_fact 2 (some .int) :: ([.fieldLink RX1 52 "RummyTable$Game" "turn" "I", .fieldLink RX1 37 "RummyTable$Game" "top" "I", .fieldLink RX1 64 "RummyTable$Game" "over" "Z", .fieldLink RX1 68 "RummyTable$Game" "winner" "I", .fieldLink RX1 55 "RummyTable$Game" "turnsEnded" "I", .fieldLink RX1 58 "RummyTable$Game" "layings" "I", .fieldLink RX1 33 "RummyTable$Game" "players" "I"] ++ wsX10)
def wsX1_putDown : List Cond := .code yX1_putDown cX1_putDown 3 none :: ([.fieldLink RX1 52 "RummyTable$Game" "turn" "I", .fieldLink RX1 9 "RummyTable$Game" "hands" "[J", .constantLong RX1 79 (-1), .fieldLink RX1 15 "RummyTable$Game" "opened" "[Z", .fieldLink RX1 48 "RummyTable$Game" "lying" "J", .fieldLink RX1 58 "RummyTable$Game" "layings" "I", .fieldLink RX1 64 "RummyTable$Game" "over" "Z", .fieldLink RX1 68 "RummyTable$Game" "winner" "I", .methodLink RX1 75 yX1_has, .instanceMethod yX1_has, .selects RX1 yX1_has yX1_has, .initialized RX1, .code yX1_has cX1_has 2 (some .boolean), .fieldLink RX1 33 "RummyTable$Game" "players" "I"] ++ wsX10)
def wsX1_endTurn : List Cond := .code yX1_endTurn cX1_endTurn 2 (some .int) :: ([.fieldLink RX1 58 "RummyTable$Game" "layings" "I", .fieldLink RX1 52 "RummyTable$Game" "turn" "I", .fieldLink RX1 9 "RummyTable$Game" "hands" "[J", .fieldLink RX1 61 "RummyTable$Game" "idleTurns" "I", .fieldLink RX1 33 "RummyTable$Game" "players" "I", .fieldLink RX1 64 "RummyTable$Game" "over" "Z", .fieldLink RX1 55 "RummyTable$Game" "turnsEnded" "I", .methodLink RX1 40 yX1_drawn, .instanceMethod yX1_drawn, .selects RX1 yX1_drawn yX1_drawn, .initialized RX1, .code yX1_drawn cX1_drawn 2 (some .int), .fieldLink RX1 37 "RummyTable$Game" "top" "I", .fieldLink RX1 19 "RummyTable$Game" "pack" "[I", .methodLink RX1 75 yX1_has, .instanceMethod yX1_has, .selects RX1 yX1_has yX1_has, .code yX1_has cX1_has 2 (some .boolean), .methodLink RX1 44 yX1_bitOf, .static yX1_bitOf, .code yX1_bitOf cX1_bitOf 1 (some .long)] ++ wsX10)
def wsX2_init : List Cond := .code yX2_init cX2_init 1 none :: ([.methodLink RX2 3 objectInit, .instanceMethod objectInit, .code objectInit ⟨#[0xb1]⟩ 1 none, .arrayClass .int, .fieldLink RX2 9 "RummyTable$Layout" "steps" "[I"] ++ wsX20)
def wsX5_grouped : List Cond := .code yX5_grouped cX5_grouped 1 (some .int) :: ([])
def wsX5_begun : List Cond := .code yX5_begun cX5_begun 1 (some .int) :: ([])
def wsX5_continued : List Cond := .code yX5_continued cX5_continued 1 (some .int) :: ([])
def wsX5_placeOf : List Cond := .code yX5_placeOf cX5_placeOf 2 (some .int) :: ([.methodLink RX5 15 yX5_grouped, .static yX5_grouped, .initialized RX5, .code yX5_grouped cX5_grouped 1 (some .int), .methodLink RX5 23 yX5_begun, .static yX5_begun, .code yX5_begun cX5_begun 1 (some .int), .methodLink RX5 26 yX5_continued, .static yX5_continued, .code yX5_continued cX5_continued 1 (some .int)])
def wsX2_placeOf : List Cond := .code yX2_placeOf cX2_placeOf 2 (some .int) :: ([.fieldLink RX2 9 "RummyTable$Layout" "steps" "[I", .methodLink RX2 15 yX5_placeOf, .static yX5_placeOf, .initialized RX5, .code yX5_placeOf cX5_placeOf 2 (some .int), .methodLink RX5 15 yX5_grouped, .static yX5_grouped, .code yX5_grouped cX5_grouped 1 (some .int), .methodLink RX5 23 yX5_begun, .static yX5_begun, .code yX5_begun cX5_begun 1 (some .int), .methodLink RX5 26 yX5_continued, .static yX5_continued, .code yX5_continued cX5_continued 1 (some .int)] ++ wsX20)
def wsX2_jokerFor : List Cond := .code yX2_jokerFor cX2_jokerFor 2 (some .int) :: ([.fieldLink RX2 24 "RummyTable$Layout" "own" "J", .methodLink RX2 21 yX2_placeOf, .instanceMethod yX2_placeOf, .selects RX2 yX2_placeOf yX2_placeOf, .initialized RX2, .code yX2_placeOf cX2_placeOf 2 (some .int), .fieldLink RX2 9 "RummyTable$Layout" "steps" "[I", .methodLink RX2 15 yX5_placeOf, .static yX5_placeOf, .initialized RX5, .code yX5_placeOf cX5_placeOf 2 (some .int), .methodLink RX5 15 yX5_grouped, .static yX5_grouped, .code yX5_grouped cX5_grouped 1 (some .int), .methodLink RX5 23 yX5_begun, .static yX5_begun, .code yX5_begun cX5_begun 1 (some .int), .methodLink RX5 26 yX5_continued, .static yX5_continued, .code yX5_continued cX5_continued 1 (some .int)] ++ wsX20)
def wsX2_groups : List Cond := .code yX2_groups cX2_groups 6 (some .int) :: ([.fieldLink RX2 9 "RummyTable$Layout" "steps" "[I", .methodLink RX2 28 yX5_grouped, .static yX5_grouped, .initialized RX5, .code yX5_grouped cX5_grouped 1 (some .int)] ++ wsX20)
def wsX2_runs : List Cond := .code yX2_runs cX2_runs 6 (some .int) :: ([.fieldLink RX2 9 "RummyTable$Layout" "steps" "[I", .methodLink RX2 31 yX5_begun, .static yX5_begun, .initialized RX5, .code yX5_begun cX5_begun 1 (some .int), .methodLink RX2 34 yJ6_bitCount_0f7a4, .static yJ6_bitCount_0f7a4, .initialized RJ6, .code yJ6_bitCount_0f7a4 cJ6_bitCount_0f7a4 1 (some .int), .constant RJ6 265 (1431655765), .constant RJ6 266 (858993459), .constant RJ6 267 (252645135)] ++ wsX20)
def wsX5_shown : List Cond := .code yX5_shown cX5_shown 1 (some .int) :: ([])
def wsX2_shownCards : List Cond := .code yX2_shownCards cX2_shownCards 6 (some .int) :: ([.fieldLink RX2 9 "RummyTable$Layout" "steps" "[I", .methodLink RX2 39 yX5_shown, .static yX5_shown, .initialized RX5, .code yX5_shown cX5_shown 1 (some .int), .methodLink RX2 34 yJ6_bitCount_0f7a4, .static yJ6_bitCount_0f7a4, .initialized RJ6, .code yJ6_bitCount_0f7a4 cJ6_bitCount_0f7a4 1 (some .int), .constant RJ6 265 (1431655765), .constant RJ6 266 (858993459), .constant RJ6 267 (252645135)] ++ wsX20)
def wsX2_shownWorth : List Cond := .code yX2_shownWorth cX2_shownWorth 3 (some .int) :: ([.fieldLink RX2 9 "RummyTable$Layout" "steps" "[I", .methodLink RX2 42 yX0_worthOfNumber, .static yX0_worthOfNumber, .initialized RX0, .code yX0_worthOfNumber cX0_worthOfNumber 1 (some .int), .methodLink RX0 9 Lib.Math.min.name, .static Lib.Math.min.name, .initialized "java/lang/Math", .code Lib.Math.min.name Lib.Math.min.code 2 (some .int), .methodLink RX2 39 yX5_shown, .static yX5_shown, .initialized RX5, .code yX5_shown cX5_shown 1 (some .int), .methodLink RX2 34 yJ6_bitCount_0f7a4, .static yJ6_bitCount_0f7a4, .initialized RJ6, .code yJ6_bitCount_0f7a4 cJ6_bitCount_0f7a4 1 (some .int), .constant RJ6 265 (1431655765), .constant RJ6 266 (858993459), .constant RJ6 267 (252645135)] ++ wsX20)
def wsX2_longestRun : List Cond := .code yX2_longestRun cX2_longestRun 6 (some .int) :: ([.fieldLink RX2 9 "RummyTable$Layout" "steps" "[I", .methodLink RX2 47 Lib.Math.max.name, .static Lib.Math.max.name, .initialized "java/lang/Math", .code Lib.Math.max.name Lib.Math.max.code 2 (some .int), .methodLink RX2 15 yX5_placeOf, .static yX5_placeOf, .initialized RX5, .code yX5_placeOf cX5_placeOf 2 (some .int), .methodLink RX5 15 yX5_grouped, .static yX5_grouped, .code yX5_grouped cX5_grouped 1 (some .int), .methodLink RX5 23 yX5_begun, .static yX5_begun, .code yX5_begun cX5_begun 1 (some .int), .methodLink RX5 26 yX5_continued, .static yX5_continued, .code yX5_continued cX5_continued 1 (some .int)] ++ wsX20)
def wsX3_init : List Cond := .code yX3_init cX3_init 1 none :: ([.methodLink RX3 3 objectInit, .instanceMethod objectInit, .code objectInit ⟨#[0xb1]⟩ 1 none, .arrayClass .long, .fieldLink RX3 9 "RummyTable$Row" "cells" "[J", .arrayClass .boolean, .fieldLink RX3 15 "RummyTable$Row" "listed" "[Z", .arrayClass .int, .fieldLink RX3 19 "RummyTable$Row" "states" "[I"] ++ wsX30)
def wsX3_clear : List Cond := .code yX3_clear cX3_clear 4 none :: ([.fieldLink RX3 23 "RummyTable$Row" "count" "I", .fieldLink RX3 19 "RummyTable$Row" "states" "[I", .fieldLink RX3 15 "RummyTable$Row" "listed" "[Z", .fieldLink RX3 9 "RummyTable$Row" "cells" "[J"] ++ wsX30)
def wsX3_isCell : List Cond := .code yX3_isCell cX3_isCell 2 (some .boolean) :: ([])
def wsX3_at : List Cond := .code yX3_at cX3_at 3 (some .long) :: ([.fieldLink RX3 9 "RummyTable$Row" "cells" "[J", .methodLink RX3 27 yX3_isCell, .static yX3_isCell, .initialized RX3, .code yX3_isCell cX3_isCell 2 (some .boolean)] ++ wsX30)
def wsX3_put : List Cond := .code yX3_put cX3_put 5 none :: ([.fieldLink RX3 15 "RummyTable$Row" "listed" "[Z", .fieldLink RX3 23 "RummyTable$Row" "count" "I", .fieldLink RX3 19 "RummyTable$Row" "states" "[I", .fieldLink RX3 9 "RummyTable$Row" "cells" "[J", .methodLink RX3 27 yX3_isCell, .static yX3_isCell, .initialized RX3, .code yX3_isCell cX3_isCell 2 (some .boolean)] ++ wsX30)
def wsX4_init : List Cond := .code yX4_init cX4_init 2 none :: ([.methodLink RX4 3 objectInit, .instanceMethod objectInit, .code objectInit ⟨#[0xb1]⟩ 1 none, .arrayClass .long, .fieldLink RX4 11 "RummyTable$Search" "hopeless" "[J", .fieldLink RX4 15 "RummyTable$Search" "steps" "[I"] ++ wsX40)
def wsJ7_fill_d0a16 : List Cond := .code yJ7_fill_d0a16 cJ7_fill_d0a16 5 none :: ([])
def wsX5_mayEnd : List Cond := .code yX5_mayEnd cX5_mayEnd 1 (some .boolean) :: ([])
def wsX5_canContinue : List Cond := .code yX5_canContinue cX5_canContinue 4 (some .boolean) :: ([])
def wsX5_stateAfter : List Cond := .code yX5_stateAfter cX5_stateAfter 3 (some .int) :: ([.methodLink RX5 26 yX5_continued, .static yX5_continued, .initialized RX5, .code yX5_continued cX5_continued 1 (some .int), .methodLink RX5 23 yX5_begun, .static yX5_begun, .code yX5_begun cX5_begun 1 (some .int)])
def wsX4_reachesEnd_r1 : List Cond := [Cond.fieldLink RX4 11 "RummyTable$Search" "hopeless" "[J", Cond.fieldLink RX4 19 "RummyTable$Search" "set" "J", Cond.fieldLink RX4 15 "RummyTable$Search" "steps" "[I", Cond.methodLink RX4 44 yX5_mayEnd, Cond.static yX5_mayEnd, Cond.initialized RX5, Cond.code yX5_mayEnd cX5_mayEnd 1 (some .boolean), Cond.methodLink RX4 50 yX0_coloursOf, Cond.static yX0_coloursOf, Cond.initialized RX0, Cond.code yX0_coloursOf cX0_coloursOf 3 (some .int), Cond.methodLink RX4 54 yX5_shown, Cond.static yX5_shown, Cond.code yX5_shown cX5_shown 1 (some .int), Cond.methodLink RX4 58 yX5_continued, Cond.static yX5_continued, Cond.code yX5_continued cX5_continued 1 (some .int), Cond.methodLink RX4 61 yX5_canContinue, Cond.static yX5_canContinue, Cond.code yX5_canContinue cX5_canContinue 4 (some .boolean), Cond.methodLink RX4 65 yJ6_bitCount_0f7a4, Cond.static yJ6_bitCount_0f7a4, Cond.initialized RJ6, Cond.code yJ6_bitCount_0f7a4 cJ6_bitCount_0f7a4 1 (some .int)]
def wsX4_reachesEnd_r2 : List Cond := [Cond.constant RJ6 265 (1431655765), Cond.constant RJ6 266 (858993459), Cond.constant RJ6 267 (252645135), Cond.methodLink RX4 70 yX5_stateAfter, Cond.static yX5_stateAfter, Cond.code yX5_stateAfter cX5_stateAfter 3 (some .int), Cond.methodLink RX5 26 yX5_continued, Cond.methodLink RX5 23 yX5_begun, Cond.static yX5_begun, Cond.code yX5_begun cX5_begun 1 (some .int), Cond.methodLink RX4 35 yX4_reachesEnd, Cond.instanceMethod yX4_reachesEnd, Cond.selects RX4 yX4_reachesEnd yX4_reachesEnd, Cond.initialized RX4]
def wsX4_reachesEnd : List Cond := .code yX4_reachesEnd cX4_reachesEnd 10 (some .boolean) :: ((wsX4_reachesEnd_r1 ++ wsX4_reachesEnd_r2) ++ wsX40 ++ wsX20)
def wsX4_findFirst_r1 : List Cond := [Cond.fieldLink RX4 19 "RummyTable$Search" "set" "J", Cond.fieldLink RX4 11 "RummyTable$Search" "hopeless" "[J", Cond.methodLink RX4 23 yJ7_fill_d0a16, Cond.static yJ7_fill_d0a16, Cond.initialized RJ7, Cond.code yJ7_fill_d0a16 cJ7_fill_d0a16 5 none, Cond.methodLink RX4 29 yX0_jokersIn, Cond.static yX0_jokersIn, Cond.initialized RX0, Cond.code yX0_jokersIn cX0_jokersIn 2 (some .int), Cond.methodLink RX0 34 yJ13_bitCount_95d88, Cond.static yJ13_bitCount_95d88, Cond.initialized RJ13, Cond.code yJ13_bitCount_95d88 cJ13_bitCount_95d88 2 (some .int), Cond.constantLong RJ13 314 (6148914691236517205), Cond.constantLong RJ13 316 (3689348814741910323), Cond.constantLong RJ13 318 (1085102592571150095), Cond.methodLink RX4 35 yX4_reachesEnd, Cond.instanceMethod yX4_reachesEnd, Cond.selects RX4 yX4_reachesEnd yX4_reachesEnd, Cond.initialized RX4, Cond.code yX4_reachesEnd cX4_reachesEnd 10 (some .boolean), Cond.fieldLink RX4 15 "RummyTable$Search" "steps" "[I", Cond.methodLink RX4 44 yX5_mayEnd]
def wsX4_findFirst_r2 : List Cond := [Cond.static yX5_mayEnd, Cond.initialized RX5, Cond.code yX5_mayEnd cX5_mayEnd 1 (some .boolean), Cond.methodLink RX4 50 yX0_coloursOf, Cond.static yX0_coloursOf, Cond.code yX0_coloursOf cX0_coloursOf 3 (some .int), Cond.methodLink RX4 54 yX5_shown, Cond.static yX5_shown, Cond.code yX5_shown cX5_shown 1 (some .int), Cond.methodLink RX4 58 yX5_continued, Cond.static yX5_continued, Cond.code yX5_continued cX5_continued 1 (some .int), Cond.methodLink RX4 61 yX5_canContinue, Cond.static yX5_canContinue, Cond.code yX5_canContinue cX5_canContinue 4 (some .boolean), Cond.methodLink RX4 65 yJ6_bitCount_0f7a4, Cond.static yJ6_bitCount_0f7a4, Cond.initialized RJ6, Cond.code yJ6_bitCount_0f7a4 cJ6_bitCount_0f7a4 1 (some .int), Cond.constant RJ6 265 (1431655765), Cond.constant RJ6 266 (858993459), Cond.constant RJ6 267 (252645135), Cond.methodLink RX4 70 yX5_stateAfter, Cond.static yX5_stateAfter]
def wsX4_findFirst_r3 : List Cond := [Cond.code yX5_stateAfter cX5_stateAfter 3 (some .int), Cond.methodLink RX5 26 yX5_continued, Cond.methodLink RX5 23 yX5_begun, Cond.static yX5_begun, Cond.code yX5_begun cX5_begun 1 (some .int)]
def wsX4_findFirst : List Cond := .code yX4_findFirst cX4_findFirst 4 (some .boolean) :: ((wsX4_findFirst_r1 ++ (wsX4_findFirst_r2 ++ wsX4_findFirst_r3)) ++ wsX40 ++ wsX20)
def wsX5_fromPlaces : List Cond := .code yX5_fromPlaces cX5_fromPlaces 4 (some .int) :: ([])
def wsX5_allInOrder : List Cond := .code yX5_allInOrder cX5_allInOrder 5 (some (.array .int)) :: ([.arrayClass .int, .methodLink RX5 9 yX5_fromPlaces, .static yX5_fromPlaces, .initialized RX5, .code yX5_fromPlaces cX5_fromPlaces 4 (some .int), .methodLink RX5 15 yX5_grouped, .static yX5_grouped, .code yX5_grouped cX5_grouped 1 (some .int), .methodLink RX5 18 yJ6_bitCount_0f7a4, .static yJ6_bitCount_0f7a4, .initialized RJ6, .code yJ6_bitCount_0f7a4 cJ6_bitCount_0f7a4 1 (some .int), .constant RJ6 265 (1431655765), .constant RJ6 266 (858993459), .constant RJ6 267 (252645135)])
def wsX6_init_r1 : List Cond := [Cond.methodLink RX6 3 objectInit, Cond.instanceMethod objectInit, Cond.code objectInit ⟨#[0xb1]⟩ 1 none, Cond.arrayClass .int, Cond.fieldLink RX6 9 "RummyTable$Walk" "steps" "[I", Cond.fieldLink RX6 15 "RummyTable$Walk" "fitting" "[I", Cond.fieldLink RX6 18 "RummyTable$Walk" "firstFit" "[I", Cond.arrayClass .long, Cond.fieldLink RX6 21 "RummyTable$Walk" "gains" "[J", Cond.classLink RX6 25 RX3, Cond.instantiable RX3 4, Cond.initialized RX3, Cond.fieldLink RX6 28 "RummyTable$Walk" "here" "LRummyTable$Row;", Cond.fieldLink RX6 32 "RummyTable$Walk" "there" "LRummyTable$Row;", Cond.instanceMethod yX3_init, Cond.code yX3_init cX3_init 1 none, Cond.methodLink RX3 3 objectInit, Cond.fieldLink RX3 9 "RummyTable$Row" "cells" "[J", Cond.arrayClass .boolean, Cond.fieldLink RX3 15 "RummyTable$Row" "listed" "[Z", Cond.fieldLink RX3 19 "RummyTable$Row" "states" "[I", Cond.methodLink RX6 35 yX5_continued, Cond.static yX5_continued, Cond.initialized RX5]
def wsX6_init_r2 : List Cond := [Cond.code yX5_continued cX5_continued 1 (some .int)]
def wsX6_init : List Cond := .code yX6_init cX6_init 5 none :: ((wsX6_init_r1 ++ wsX6_init_r2) ++ wsX60 ++ wsX30)
def wsX6_gainOf : List Cond := .code yX6_gainOf cX6_gainOf 6 (some .long) :: ([.fieldLink RX6 137 "RummyTable$Walk" "unit" "I", .methodLink RX6 146 yJ6_bitCount_0f7a4, .static yJ6_bitCount_0f7a4, .initialized RJ6, .code yJ6_bitCount_0f7a4 cJ6_bitCount_0f7a4 1 (some .int), .constant RJ6 265 (1431655765), .constant RJ6 266 (858993459), .constant RJ6 267 (252645135)] ++ wsX60)
def wsX6_withoutLast : List Cond := .code yX6_withoutLast cX6_withoutLast 2 (some .int) :: ([])
def wsX6_setGains : List Cond := .code yX6_setGains cX6_setGains 8 none :: ([.fieldLink RX6 140 "RummyTable$Walk" "fits" "I", .fieldLink RX6 21 "RummyTable$Walk" "gains" "[J", .constantLong RX6 90 (-1), .methodLink RX6 154 yX6_gainOf, .instanceMethod yX6_gainOf, .selects RX6 yX6_gainOf yX6_gainOf, .initialized RX6, .code yX6_gainOf cX6_gainOf 6 (some .long), .fieldLink RX6 137 "RummyTable$Walk" "unit" "I", .methodLink RX6 146 yJ6_bitCount_0f7a4, .static yJ6_bitCount_0f7a4, .initialized RJ6, .code yJ6_bitCount_0f7a4 cJ6_bitCount_0f7a4 1 (some .int), .constant RJ6 265 (1431655765), .constant RJ6 266 (858993459), .constant RJ6 267 (252645135), .methodLink RX6 157 yX6_withoutLast, .static yX6_withoutLast, .code yX6_withoutLast cX6_withoutLast 2 (some .int)] ++ wsX60)
def wsX6_gatherFitting_r1 : List Cond := [Cond.fieldLink RX6 41 "RummyTable$Walk" "must" "J", Cond.fieldLink RX6 45 "RummyTable$Walk" "may" "J", Cond.fieldLink RX6 77 "RummyTable$Walk" "byWorth" "Z", Cond.fieldLink RX6 137 "RummyTable$Walk" "unit" "I", Cond.fieldLink RX6 140 "RummyTable$Walk" "fits" "I", Cond.fieldLink RX6 9 "RummyTable$Walk" "steps" "[I", Cond.fieldLink RX6 103 "RummyTable$Walk" "jokers" "I", Cond.fieldLink RX6 15 "RummyTable$Walk" "fitting" "[I", Cond.fieldLink RX6 18 "RummyTable$Walk" "firstFit" "[I", Cond.methodLink RX6 130 yX0_coloursOf, Cond.static yX0_coloursOf, Cond.initialized RX0, Cond.code yX0_coloursOf cX0_coloursOf 3 (some .int), Cond.methodLink RX6 134 yX0_worthOfNumber, Cond.static yX0_worthOfNumber, Cond.code yX0_worthOfNumber cX0_worthOfNumber 1 (some .int), Cond.methodLink RX0 9 Lib.Math.min.name, Cond.static Lib.Math.min.name, Cond.initialized "java/lang/Math", Cond.code Lib.Math.min.name Lib.Math.min.code 2 (some .int), Cond.methodLink RX6 143 yX5_shown, Cond.static yX5_shown, Cond.initialized RX5, Cond.code yX5_shown cX5_shown 1 (some .int)]
def wsX6_gatherFitting_r2 : List Cond := [Cond.methodLink RX6 146 yJ6_bitCount_0f7a4, Cond.static yJ6_bitCount_0f7a4, Cond.initialized RJ6, Cond.code yJ6_bitCount_0f7a4 cJ6_bitCount_0f7a4 1 (some .int), Cond.constant RJ6 265 (1431655765), Cond.constant RJ6 266 (858993459), Cond.constant RJ6 267 (252645135), Cond.methodLink RX6 151 yX6_setGains, Cond.instanceMethod yX6_setGains, Cond.selects RX6 yX6_setGains yX6_setGains, Cond.initialized RX6, Cond.code yX6_setGains cX6_setGains 8 none, Cond.fieldLink RX6 21 "RummyTable$Walk" "gains" "[J", Cond.constantLong RX6 90 (-1), Cond.methodLink RX6 154 yX6_gainOf, Cond.instanceMethod yX6_gainOf, Cond.selects RX6 yX6_gainOf yX6_gainOf, Cond.code yX6_gainOf cX6_gainOf 6 (some .long), Cond.methodLink RX6 157 yX6_withoutLast, Cond.static yX6_withoutLast, Cond.code yX6_withoutLast cX6_withoutLast 2 (some .int), Cond.methodLink RX6 35 yX5_continued, Cond.static yX5_continued, Cond.code yX5_continued cX5_continued 1 (some .int)]
def wsX6_gatherFitting : List Cond := .code yX6_gatherFitting cX6_gatherFitting 7 none :: ((wsX6_gatherFitting_r1 ++ wsX6_gatherFitting_r2) ++ wsX60)
def wsX6_carry_r1 : List Cond := [Cond.fieldLink RX6 103 "RummyTable$Walk" "jokers" "I", Cond.fieldLink RX6 28 "RummyTable$Walk" "here" "LRummyTable$Row;", Cond.fieldLink RX6 21 "RummyTable$Walk" "gains" "[J", Cond.fieldLink RX6 32 "RummyTable$Walk" "there" "LRummyTable$Row;", Cond.fieldLink RX6 48 "RummyTable$Walk" "counting" "Z", Cond.methodLink RX6 99 Lib.MathLoose.max_long.x, Cond.static Lib.MathLoose.max_long.x, Cond.initialized "java/lang/Math", Cond.code Lib.MathLoose.max_long.x Lib.MathLoose.max_long.code 4 (some .long), Cond.methodLink RX6 73 yX3_at, Cond.instanceMethod yX3_at, Cond.selects RX3 yX3_at yX3_at, Cond.initialized RX3, Cond.code yX3_at cX3_at 3 (some .long), Cond.fieldLink RX3 9 "RummyTable$Row" "cells" "[J", Cond.methodLink RX3 27 yX3_isCell, Cond.static yX3_isCell, Cond.code yX3_isCell cX3_isCell 2 (some .boolean), Cond.methodLink RX6 109 yX3_put, Cond.instanceMethod yX3_put, Cond.selects RX3 yX3_put yX3_put, Cond.code yX3_put cX3_put 5 none, Cond.fieldLink RX3 15 "RummyTable$Row" "listed" "[Z", Cond.fieldLink RX3 23 "RummyTable$Row" "count" "I"]
def wsX6_carry_r2 : List Cond := [Cond.fieldLink RX3 19 "RummyTable$Row" "states" "[I"]
def wsX6_carry : List Cond := .code yX6_carry cX6_carry 12 none :: ((wsX6_carry_r1 ++ wsX6_carry_r2) ++ wsX60 ++ wsX30)
def wsX6_goOnFrom_r1 : List Cond := [Cond.fieldLink RX6 18 "RummyTable$Walk" "firstFit" "[I", Cond.fieldLink RX6 15 "RummyTable$Walk" "fitting" "[I", Cond.methodLink RX6 119 yX5_canContinue, Cond.static yX5_canContinue, Cond.initialized RX5, Cond.code yX5_canContinue cX5_canContinue 4 (some .boolean), Cond.methodLink RX6 123 yX5_stateAfter, Cond.static yX5_stateAfter, Cond.code yX5_stateAfter cX5_stateAfter 3 (some .int), Cond.methodLink RX5 26 yX5_continued, Cond.static yX5_continued, Cond.code yX5_continued cX5_continued 1 (some .int), Cond.methodLink RX5 23 yX5_begun, Cond.static yX5_begun, Cond.code yX5_begun cX5_begun 1 (some .int), Cond.methodLink RX6 126 yX6_carry, Cond.instanceMethod yX6_carry, Cond.selects RX6 yX6_carry yX6_carry, Cond.initialized RX6, Cond.code yX6_carry cX6_carry 12 none, Cond.fieldLink RX6 103 "RummyTable$Walk" "jokers" "I", Cond.fieldLink RX6 28 "RummyTable$Walk" "here" "LRummyTable$Row;", Cond.fieldLink RX6 21 "RummyTable$Walk" "gains" "[J", Cond.fieldLink RX6 32 "RummyTable$Walk" "there" "LRummyTable$Row;"]
def wsX6_goOnFrom_r2 : List Cond := [Cond.fieldLink RX6 48 "RummyTable$Walk" "counting" "Z", Cond.methodLink RX6 99 Lib.MathLoose.max_long.x, Cond.static Lib.MathLoose.max_long.x, Cond.initialized "java/lang/Math", Cond.code Lib.MathLoose.max_long.x Lib.MathLoose.max_long.code 4 (some .long), Cond.methodLink RX6 73 yX3_at, Cond.instanceMethod yX3_at, Cond.selects RX3 yX3_at yX3_at, Cond.initialized RX3, Cond.code yX3_at cX3_at 3 (some .long), Cond.fieldLink RX3 9 "RummyTable$Row" "cells" "[J", Cond.methodLink RX3 27 yX3_isCell, Cond.static yX3_isCell, Cond.code yX3_isCell cX3_isCell 2 (some .boolean), Cond.methodLink RX6 109 yX3_put, Cond.instanceMethod yX3_put, Cond.selects RX3 yX3_put yX3_put, Cond.code yX3_put cX3_put 5 none, Cond.fieldLink RX3 15 "RummyTable$Row" "listed" "[Z", Cond.fieldLink RX3 23 "RummyTable$Row" "count" "I", Cond.fieldLink RX3 19 "RummyTable$Row" "states" "[I"]
def wsX6_goOnFrom : List Cond := .code yX6_goOnFrom cX6_goOnFrom 4 none :: ((wsX6_goOnFrom_r1 ++ wsX6_goOnFrom_r2) ++ wsX60 ++ wsX30)
def wsX6_goThrough_r1 : List Cond := [Cond.methodLink RX6 80 Lib.Math.min.name, Cond.static Lib.Math.min.name, Cond.initialized "java/lang/Math", Cond.code Lib.Math.min.name Lib.Math.min.code 2 (some .int), Cond.fieldLink RX6 103 "RummyTable$Walk" "jokers" "I", Cond.fieldLink RX6 28 "RummyTable$Walk" "here" "LRummyTable$Row;", Cond.fieldLink RX6 32 "RummyTable$Walk" "there" "LRummyTable$Row;", Cond.methodLink RX6 106 yX3_clear, Cond.instanceMethod yX3_clear, Cond.selects RX3 yX3_clear yX3_clear, Cond.initialized RX3, Cond.code yX3_clear cX3_clear 4 none, Cond.fieldLink RX3 23 "RummyTable$Row" "count" "I", Cond.fieldLink RX3 19 "RummyTable$Row" "states" "[I", Cond.fieldLink RX3 15 "RummyTable$Row" "listed" "[Z", Cond.fieldLink RX3 9 "RummyTable$Row" "cells" "[J", Cond.methodLink RX6 109 yX3_put, Cond.instanceMethod yX3_put, Cond.selects RX3 yX3_put yX3_put, Cond.code yX3_put cX3_put 5 none, Cond.methodLink RX3 27 yX3_isCell, Cond.static yX3_isCell, Cond.code yX3_isCell cX3_isCell 2 (some .boolean), Cond.methodLink RX6 113 yX6_gatherFitting]
def wsX6_goThrough_r2 : List Cond := [Cond.instanceMethod yX6_gatherFitting, Cond.selects RX6 yX6_gatherFitting yX6_gatherFitting, Cond.initialized RX6, Cond.code yX6_gatherFitting cX6_gatherFitting 7 none, Cond.fieldLink RX6 41 "RummyTable$Walk" "must" "J", Cond.fieldLink RX6 45 "RummyTable$Walk" "may" "J", Cond.fieldLink RX6 77 "RummyTable$Walk" "byWorth" "Z", Cond.fieldLink RX6 137 "RummyTable$Walk" "unit" "I", Cond.fieldLink RX6 140 "RummyTable$Walk" "fits" "I", Cond.fieldLink RX6 9 "RummyTable$Walk" "steps" "[I", Cond.fieldLink RX6 15 "RummyTable$Walk" "fitting" "[I", Cond.fieldLink RX6 18 "RummyTable$Walk" "firstFit" "[I", Cond.methodLink RX6 130 yX0_coloursOf, Cond.static yX0_coloursOf, Cond.initialized RX0, Cond.code yX0_coloursOf cX0_coloursOf 3 (some .int), Cond.methodLink RX6 134 yX0_worthOfNumber, Cond.static yX0_worthOfNumber, Cond.code yX0_worthOfNumber cX0_worthOfNumber 1 (some .int), Cond.methodLink RX0 9 Lib.Math.min.name, Cond.methodLink RX6 143 yX5_shown, Cond.static yX5_shown, Cond.initialized RX5, Cond.code yX5_shown cX5_shown 1 (some .int)]
def wsX6_goThrough_r3 : List Cond := [Cond.methodLink RX6 146 yJ6_bitCount_0f7a4, Cond.static yJ6_bitCount_0f7a4, Cond.initialized RJ6, Cond.code yJ6_bitCount_0f7a4 cJ6_bitCount_0f7a4 1 (some .int), Cond.constant RJ6 265 (1431655765), Cond.constant RJ6 266 (858993459), Cond.constant RJ6 267 (252645135), Cond.methodLink RX6 151 yX6_setGains, Cond.instanceMethod yX6_setGains, Cond.selects RX6 yX6_setGains yX6_setGains, Cond.code yX6_setGains cX6_setGains 8 none, Cond.fieldLink RX6 21 "RummyTable$Walk" "gains" "[J", Cond.constantLong RX6 90 (-1), Cond.methodLink RX6 154 yX6_gainOf, Cond.instanceMethod yX6_gainOf, Cond.selects RX6 yX6_gainOf yX6_gainOf, Cond.code yX6_gainOf cX6_gainOf 6 (some .long), Cond.methodLink RX6 157 yX6_withoutLast, Cond.static yX6_withoutLast, Cond.code yX6_withoutLast cX6_withoutLast 2 (some .int), Cond.methodLink RX6 35 yX5_continued, Cond.static yX5_continued, Cond.code yX5_continued cX5_continued 1 (some .int), Cond.methodLink RX6 116 yX6_goOnFrom]
def wsX6_goThrough_r4 : List Cond := [Cond.instanceMethod yX6_goOnFrom, Cond.selects RX6 yX6_goOnFrom yX6_goOnFrom, Cond.code yX6_goOnFrom cX6_goOnFrom 4 none, Cond.methodLink RX6 119 yX5_canContinue, Cond.static yX5_canContinue, Cond.code yX5_canContinue cX5_canContinue 4 (some .boolean), Cond.methodLink RX6 123 yX5_stateAfter, Cond.static yX5_stateAfter, Cond.code yX5_stateAfter cX5_stateAfter 3 (some .int), Cond.methodLink RX5 26 yX5_continued, Cond.methodLink RX5 23 yX5_begun, Cond.static yX5_begun, Cond.code yX5_begun cX5_begun 1 (some .int), Cond.methodLink RX6 126 yX6_carry, Cond.instanceMethod yX6_carry, Cond.selects RX6 yX6_carry yX6_carry, Cond.code yX6_carry cX6_carry 12 none, Cond.fieldLink RX6 48 "RummyTable$Walk" "counting" "Z", Cond.methodLink RX6 99 Lib.MathLoose.max_long.x, Cond.static Lib.MathLoose.max_long.x, Cond.code Lib.MathLoose.max_long.x Lib.MathLoose.max_long.code 4 (some .long), Cond.methodLink RX6 73 yX3_at, Cond.instanceMethod yX3_at, Cond.selects RX3 yX3_at yX3_at]
def wsX6_goThrough_r5 : List Cond := [Cond.code yX3_at cX3_at 3 (some .long)]
def wsX6_goThrough : List Cond := .code yX6_goThrough cX6_goThrough 4 none :: ((wsX6_goThrough_r1 ++ (wsX6_goThrough_r2 ++ (wsX6_goThrough_r3 ++ (wsX6_goThrough_r4 ++ wsX6_goThrough_r5)))) ++ wsX60 ++ wsX30)
def wsX6_countLayouts_r1 : List Cond := [Cond.fieldLink RX6 41 "RummyTable$Walk" "must" "J", Cond.fieldLink RX6 45 "RummyTable$Walk" "may" "J", Cond.fieldLink RX6 48 "RummyTable$Walk" "counting" "Z", Cond.fieldLink RX6 28 "RummyTable$Walk" "here" "LRummyTable$Row;", Cond.methodLink RX6 52 yX0_jokersIn, Cond.static yX0_jokersIn, Cond.initialized RX0, Cond.code yX0_jokersIn cX0_jokersIn 2 (some .int), Cond.methodLink RX0 34 yJ13_bitCount_95d88, Cond.static yJ13_bitCount_95d88, Cond.initialized RJ13, Cond.code yJ13_bitCount_95d88 cJ13_bitCount_95d88 2 (some .int), Cond.constantLong RJ13 314 (6148914691236517205), Cond.constantLong RJ13 316 (3689348814741910323), Cond.constantLong RJ13 318 (1085102592571150095), Cond.methodLink RX6 58 yX6_goThrough, Cond.instanceMethod yX6_goThrough, Cond.selects RX6 yX6_goThrough yX6_goThrough, Cond.initialized RX6, Cond.code yX6_goThrough cX6_goThrough 4 none, Cond.methodLink RX6 80 Lib.Math.min.name, Cond.static Lib.Math.min.name, Cond.initialized "java/lang/Math", Cond.code Lib.Math.min.name Lib.Math.min.code 2 (some .int)]
def wsX6_countLayouts_r2 : List Cond := [Cond.fieldLink RX6 103 "RummyTable$Walk" "jokers" "I", Cond.fieldLink RX6 32 "RummyTable$Walk" "there" "LRummyTable$Row;", Cond.methodLink RX6 106 yX3_clear, Cond.instanceMethod yX3_clear, Cond.selects RX3 yX3_clear yX3_clear, Cond.initialized RX3, Cond.code yX3_clear cX3_clear 4 none, Cond.fieldLink RX3 23 "RummyTable$Row" "count" "I", Cond.fieldLink RX3 19 "RummyTable$Row" "states" "[I", Cond.fieldLink RX3 15 "RummyTable$Row" "listed" "[Z", Cond.fieldLink RX3 9 "RummyTable$Row" "cells" "[J", Cond.methodLink RX6 109 yX3_put, Cond.instanceMethod yX3_put, Cond.selects RX3 yX3_put yX3_put, Cond.code yX3_put cX3_put 5 none, Cond.methodLink RX3 27 yX3_isCell, Cond.static yX3_isCell, Cond.code yX3_isCell cX3_isCell 2 (some .boolean), Cond.methodLink RX6 113 yX6_gatherFitting, Cond.instanceMethod yX6_gatherFitting, Cond.selects RX6 yX6_gatherFitting yX6_gatherFitting, Cond.code yX6_gatherFitting cX6_gatherFitting 7 none, Cond.fieldLink RX6 77 "RummyTable$Walk" "byWorth" "Z", Cond.fieldLink RX6 137 "RummyTable$Walk" "unit" "I"]
def wsX6_countLayouts_r3 : List Cond := [Cond.fieldLink RX6 140 "RummyTable$Walk" "fits" "I", Cond.fieldLink RX6 9 "RummyTable$Walk" "steps" "[I", Cond.fieldLink RX6 15 "RummyTable$Walk" "fitting" "[I", Cond.fieldLink RX6 18 "RummyTable$Walk" "firstFit" "[I", Cond.methodLink RX6 130 yX0_coloursOf, Cond.static yX0_coloursOf, Cond.code yX0_coloursOf cX0_coloursOf 3 (some .int), Cond.methodLink RX6 134 yX0_worthOfNumber, Cond.static yX0_worthOfNumber, Cond.code yX0_worthOfNumber cX0_worthOfNumber 1 (some .int), Cond.methodLink RX0 9 Lib.Math.min.name, Cond.methodLink RX6 143 yX5_shown, Cond.static yX5_shown, Cond.initialized RX5, Cond.code yX5_shown cX5_shown 1 (some .int), Cond.methodLink RX6 146 yJ6_bitCount_0f7a4, Cond.static yJ6_bitCount_0f7a4, Cond.initialized RJ6, Cond.code yJ6_bitCount_0f7a4 cJ6_bitCount_0f7a4 1 (some .int), Cond.constant RJ6 265 (1431655765), Cond.constant RJ6 266 (858993459), Cond.constant RJ6 267 (252645135), Cond.methodLink RX6 151 yX6_setGains, Cond.instanceMethod yX6_setGains]
def wsX6_countLayouts_r4 : List Cond := [Cond.selects RX6 yX6_setGains yX6_setGains, Cond.code yX6_setGains cX6_setGains 8 none, Cond.fieldLink RX6 21 "RummyTable$Walk" "gains" "[J", Cond.constantLong RX6 90 (-1), Cond.methodLink RX6 154 yX6_gainOf, Cond.instanceMethod yX6_gainOf, Cond.selects RX6 yX6_gainOf yX6_gainOf, Cond.code yX6_gainOf cX6_gainOf 6 (some .long), Cond.methodLink RX6 157 yX6_withoutLast, Cond.static yX6_withoutLast, Cond.code yX6_withoutLast cX6_withoutLast 2 (some .int), Cond.methodLink RX6 35 yX5_continued, Cond.static yX5_continued, Cond.code yX5_continued cX5_continued 1 (some .int), Cond.methodLink RX6 116 yX6_goOnFrom, Cond.instanceMethod yX6_goOnFrom, Cond.selects RX6 yX6_goOnFrom yX6_goOnFrom, Cond.code yX6_goOnFrom cX6_goOnFrom 4 none, Cond.methodLink RX6 119 yX5_canContinue, Cond.static yX5_canContinue, Cond.code yX5_canContinue cX5_canContinue 4 (some .boolean), Cond.methodLink RX6 123 yX5_stateAfter, Cond.static yX5_stateAfter, Cond.code yX5_stateAfter cX5_stateAfter 3 (some .int)]
def wsX6_countLayouts_r5 : List Cond := [Cond.methodLink RX5 26 yX5_continued, Cond.methodLink RX5 23 yX5_begun, Cond.static yX5_begun, Cond.code yX5_begun cX5_begun 1 (some .int), Cond.methodLink RX6 126 yX6_carry, Cond.instanceMethod yX6_carry, Cond.selects RX6 yX6_carry yX6_carry, Cond.code yX6_carry cX6_carry 12 none, Cond.methodLink RX6 99 Lib.MathLoose.max_long.x, Cond.static Lib.MathLoose.max_long.x, Cond.code Lib.MathLoose.max_long.x Lib.MathLoose.max_long.code 4 (some .long), Cond.methodLink RX6 73 yX3_at, Cond.instanceMethod yX3_at, Cond.selects RX3 yX3_at yX3_at, Cond.code yX3_at cX3_at 3 (some .long), Cond.methodLink RX6 69 yX5_mayEnd, Cond.static yX5_mayEnd, Cond.code yX5_mayEnd cX5_mayEnd 1 (some .boolean)]
def wsX6_countLayouts : List Cond := .code yX6_countLayouts cX6_countLayouts 7 (some .long) :: ((wsX6_countLayouts_r1 ++ (wsX6_countLayouts_r2 ++ (wsX6_countLayouts_r3 ++ (wsX6_countLayouts_r4 ++ wsX6_countLayouts_r5)))) ++ wsX60 ++ wsX30)
def wsX6_greatestAtEnd : List Cond := .code yX6_greatestAtEnd cX6_greatestAtEnd 5 (some .long) :: ([.fieldLink RX6 28 "RummyTable$Walk" "here" "LRummyTable$Row;", .methodLink RX6 99 Lib.MathLoose.max_long.x, .static Lib.MathLoose.max_long.x, .initialized "java/lang/Math", .code Lib.MathLoose.max_long.x Lib.MathLoose.max_long.code 4 (some .long), .methodLink RX6 69 yX5_mayEnd, .static yX5_mayEnd, .initialized RX5, .code yX5_mayEnd cX5_mayEnd 1 (some .boolean), .methodLink RX6 73 yX3_at, .instanceMethod yX3_at, .selects RX3 yX3_at yX3_at, .initialized RX3, .code yX3_at cX3_at 3 (some .long), .fieldLink RX3 9 "RummyTable$Row" "cells" "[J", .methodLink RX3 27 yX3_isCell, .static yX3_isCell, .code yX3_isCell cX3_isCell 2 (some .boolean)] ++ wsX60 ++ wsX30)
def wsX6_cardsOfKey : List Cond := .code yX6_cardsOfKey cX6_cardsOfKey 6 (some .long) :: ([])
def wsX6_firstJokers : List Cond := .code yX6_firstJokers cX6_firstJokers 6 (some .long) :: ([.fieldLink RX6 45 "RummyTable$Walk" "may" "J"] ++ wsX60)
def wsX6_bestPart_r1 : List Cond := [Cond.fieldLink RX6 41 "RummyTable$Walk" "must" "J", Cond.fieldLink RX6 45 "RummyTable$Walk" "may" "J", Cond.fieldLink RX6 48 "RummyTable$Walk" "counting" "Z", Cond.fieldLink RX6 77 "RummyTable$Walk" "byWorth" "Z", Cond.methodLink RX6 80 Lib.Math.min.name, Cond.static Lib.Math.min.name, Cond.initialized "java/lang/Math", Cond.code Lib.Math.min.name Lib.Math.min.code 2 (some .int), Cond.constantLong RX6 90 (-1), Cond.methodLink RX6 52 yX0_jokersIn, Cond.static yX0_jokersIn, Cond.initialized RX0, Cond.code yX0_jokersIn cX0_jokersIn 2 (some .int), Cond.methodLink RX0 34 yJ13_bitCount_95d88, Cond.static yJ13_bitCount_95d88, Cond.initialized RJ13, Cond.code yJ13_bitCount_95d88 cJ13_bitCount_95d88 2 (some .int), Cond.constantLong RJ13 314 (6148914691236517205), Cond.constantLong RJ13 316 (3689348814741910323), Cond.constantLong RJ13 318 (1085102592571150095), Cond.methodLink RX6 58 yX6_goThrough, Cond.instanceMethod yX6_goThrough, Cond.selects RX6 yX6_goThrough yX6_goThrough, Cond.initialized RX6]
def wsX6_bestPart_r2 : List Cond := [Cond.code yX6_goThrough cX6_goThrough 4 none, Cond.fieldLink RX6 103 "RummyTable$Walk" "jokers" "I", Cond.fieldLink RX6 28 "RummyTable$Walk" "here" "LRummyTable$Row;", Cond.fieldLink RX6 32 "RummyTable$Walk" "there" "LRummyTable$Row;", Cond.methodLink RX6 106 yX3_clear, Cond.instanceMethod yX3_clear, Cond.selects RX3 yX3_clear yX3_clear, Cond.initialized RX3, Cond.code yX3_clear cX3_clear 4 none, Cond.fieldLink RX3 23 "RummyTable$Row" "count" "I", Cond.fieldLink RX3 19 "RummyTable$Row" "states" "[I", Cond.fieldLink RX3 15 "RummyTable$Row" "listed" "[Z", Cond.fieldLink RX3 9 "RummyTable$Row" "cells" "[J", Cond.methodLink RX6 109 yX3_put, Cond.instanceMethod yX3_put, Cond.selects RX3 yX3_put yX3_put, Cond.code yX3_put cX3_put 5 none, Cond.methodLink RX3 27 yX3_isCell, Cond.static yX3_isCell, Cond.code yX3_isCell cX3_isCell 2 (some .boolean), Cond.methodLink RX6 113 yX6_gatherFitting, Cond.instanceMethod yX6_gatherFitting, Cond.selects RX6 yX6_gatherFitting yX6_gatherFitting, Cond.code yX6_gatherFitting cX6_gatherFitting 7 none]
def wsX6_bestPart_r3 : List Cond := [Cond.fieldLink RX6 137 "RummyTable$Walk" "unit" "I", Cond.fieldLink RX6 140 "RummyTable$Walk" "fits" "I", Cond.fieldLink RX6 9 "RummyTable$Walk" "steps" "[I", Cond.fieldLink RX6 15 "RummyTable$Walk" "fitting" "[I", Cond.fieldLink RX6 18 "RummyTable$Walk" "firstFit" "[I", Cond.methodLink RX6 130 yX0_coloursOf, Cond.static yX0_coloursOf, Cond.code yX0_coloursOf cX0_coloursOf 3 (some .int), Cond.methodLink RX6 134 yX0_worthOfNumber, Cond.static yX0_worthOfNumber, Cond.code yX0_worthOfNumber cX0_worthOfNumber 1 (some .int), Cond.methodLink RX0 9 Lib.Math.min.name, Cond.methodLink RX6 143 yX5_shown, Cond.static yX5_shown, Cond.initialized RX5, Cond.code yX5_shown cX5_shown 1 (some .int), Cond.methodLink RX6 146 yJ6_bitCount_0f7a4, Cond.static yJ6_bitCount_0f7a4, Cond.initialized RJ6, Cond.code yJ6_bitCount_0f7a4 cJ6_bitCount_0f7a4 1 (some .int), Cond.constant RJ6 265 (1431655765), Cond.constant RJ6 266 (858993459), Cond.constant RJ6 267 (252645135), Cond.methodLink RX6 151 yX6_setGains]
def wsX6_bestPart_r4 : List Cond := [Cond.instanceMethod yX6_setGains, Cond.selects RX6 yX6_setGains yX6_setGains, Cond.code yX6_setGains cX6_setGains 8 none, Cond.fieldLink RX6 21 "RummyTable$Walk" "gains" "[J", Cond.methodLink RX6 154 yX6_gainOf, Cond.instanceMethod yX6_gainOf, Cond.selects RX6 yX6_gainOf yX6_gainOf, Cond.code yX6_gainOf cX6_gainOf 6 (some .long), Cond.methodLink RX6 157 yX6_withoutLast, Cond.static yX6_withoutLast, Cond.code yX6_withoutLast cX6_withoutLast 2 (some .int), Cond.methodLink RX6 35 yX5_continued, Cond.static yX5_continued, Cond.code yX5_continued cX5_continued 1 (some .int), Cond.methodLink RX6 116 yX6_goOnFrom, Cond.instanceMethod yX6_goOnFrom, Cond.selects RX6 yX6_goOnFrom yX6_goOnFrom, Cond.code yX6_goOnFrom cX6_goOnFrom 4 none, Cond.methodLink RX6 119 yX5_canContinue, Cond.static yX5_canContinue, Cond.code yX5_canContinue cX5_canContinue 4 (some .boolean), Cond.methodLink RX6 123 yX5_stateAfter, Cond.static yX5_stateAfter, Cond.code yX5_stateAfter cX5_stateAfter 3 (some .int)]
def wsX6_bestPart_r5 : List Cond := [Cond.methodLink RX5 26 yX5_continued, Cond.methodLink RX5 23 yX5_begun, Cond.static yX5_begun, Cond.code yX5_begun cX5_begun 1 (some .int), Cond.methodLink RX6 126 yX6_carry, Cond.instanceMethod yX6_carry, Cond.selects RX6 yX6_carry yX6_carry, Cond.code yX6_carry cX6_carry 12 none, Cond.methodLink RX6 99 Lib.MathLoose.max_long.x, Cond.static Lib.MathLoose.max_long.x, Cond.code Lib.MathLoose.max_long.x Lib.MathLoose.max_long.code 4 (some .long), Cond.methodLink RX6 73 yX3_at, Cond.instanceMethod yX3_at, Cond.selects RX3 yX3_at yX3_at, Cond.code yX3_at cX3_at 3 (some .long), Cond.methodLink RX6 86 yX6_greatestAtEnd, Cond.instanceMethod yX6_greatestAtEnd, Cond.selects RX6 yX6_greatestAtEnd yX6_greatestAtEnd, Cond.code yX6_greatestAtEnd cX6_greatestAtEnd 5 (some .long), Cond.methodLink RX6 69 yX5_mayEnd, Cond.static yX5_mayEnd, Cond.code yX5_mayEnd cX5_mayEnd 1 (some .boolean), Cond.methodLink RX6 92 yX6_cardsOfKey, Cond.instanceMethod yX6_cardsOfKey]
def wsX6_bestPart_r6 : List Cond := [Cond.selects RX6 yX6_cardsOfKey yX6_cardsOfKey, Cond.code yX6_cardsOfKey cX6_cardsOfKey 6 (some .long), Cond.methodLink RX6 96 yX6_firstJokers, Cond.instanceMethod yX6_firstJokers, Cond.selects RX6 yX6_firstJokers yX6_firstJokers, Cond.code yX6_firstJokers cX6_firstJokers 6 (some .long)]
def wsX6_bestPart : List Cond := .code yX6_bestPart cX6_bestPart 14 (some .long) :: ((wsX6_bestPart_r1 ++ (wsX6_bestPart_r2 ++ (wsX6_bestPart_r3 ++ (wsX6_bestPart_r4 ++ (wsX6_bestPart_r5 ++ wsX6_bestPart_r6))))) ++ wsX60 ++ wsX30)
def wsX7_init_r1 : List Cond := [Cond.methodLink RX7 3 objectInit, Cond.instanceMethod objectInit, Cond.code objectInit ⟨#[0xb1]⟩ 1 none, Cond.classLink RX7 15 RX6, Cond.instantiable RX6 13, Cond.initialized RX6, Cond.fieldLink RX7 20 "RummyTable" "walk" "LRummyTable$Walk;", Cond.classLink RX7 24 RX4, Cond.instantiable RX4 3, Cond.initialized RX4, Cond.fieldLink RX7 27 "RummyTable" "search" "LRummyTable$Search;", Cond.classLink RX7 31 RX1, Cond.instantiable RX1 12, Cond.initialized RX1, Cond.fieldLink RX7 34 "RummyTable" "game" "LRummyTable$Game;", Cond.classLink RX7 38 RX2, Cond.instantiable RX2 2, Cond.initialized RX2, Cond.fieldLink RX7 41 "RummyTable" "kept" "LRummyTable$Layout;", Cond.fieldLink RX7 45 "RummyTable" "trial" "LRummyTable$Layout;", Cond.fieldLink RX7 48 "RummyTable" "opening" "I", Cond.fieldLink RX7 52 "RummyTable" "status" "I", Cond.methodLink RX7 9 yX5_allInOrder, Cond.static yX5_allInOrder]
def wsX7_init_r2 : List Cond := [Cond.initialized RX5, Cond.code yX5_allInOrder cX5_allInOrder 5 (some (.array .int)), Cond.arrayClass .int, Cond.methodLink RX5 9 yX5_fromPlaces, Cond.static yX5_fromPlaces, Cond.code yX5_fromPlaces cX5_fromPlaces 4 (some .int), Cond.methodLink RX5 15 yX5_grouped, Cond.static yX5_grouped, Cond.code yX5_grouped cX5_grouped 1 (some .int), Cond.methodLink RX5 18 yJ6_bitCount_0f7a4, Cond.static yJ6_bitCount_0f7a4, Cond.initialized RJ6, Cond.code yJ6_bitCount_0f7a4 cJ6_bitCount_0f7a4 1 (some .int), Cond.constant RJ6 265 (1431655765), Cond.constant RJ6 266 (858993459), Cond.constant RJ6 267 (252645135), Cond.methodLink RX7 17 yX6_init, Cond.instanceMethod yX6_init, Cond.code yX6_init cX6_init 5 none, Cond.methodLink RX6 3 objectInit, Cond.fieldLink RX6 9 "RummyTable$Walk" "steps" "[I", Cond.fieldLink RX6 15 "RummyTable$Walk" "fitting" "[I", Cond.fieldLink RX6 18 "RummyTable$Walk" "firstFit" "[I", Cond.arrayClass .long]
def wsX7_init_r3 : List Cond := [Cond.fieldLink RX6 21 "RummyTable$Walk" "gains" "[J", Cond.classLink RX6 25 RX3, Cond.instantiable RX3 4, Cond.initialized RX3, Cond.fieldLink RX6 28 "RummyTable$Walk" "here" "LRummyTable$Row;", Cond.fieldLink RX6 32 "RummyTable$Walk" "there" "LRummyTable$Row;", Cond.instanceMethod yX3_init, Cond.code yX3_init cX3_init 1 none, Cond.methodLink RX3 3 objectInit, Cond.fieldLink RX3 9 "RummyTable$Row" "cells" "[J", Cond.arrayClass .boolean, Cond.fieldLink RX3 15 "RummyTable$Row" "listed" "[Z", Cond.fieldLink RX3 19 "RummyTable$Row" "states" "[I", Cond.methodLink RX6 35 yX5_continued, Cond.static yX5_continued, Cond.code yX5_continued cX5_continued 1 (some .int), Cond.methodLink RX7 26 yX4_init, Cond.instanceMethod yX4_init, Cond.code yX4_init cX4_init 2 none, Cond.methodLink RX4 3 objectInit, Cond.fieldLink RX4 11 "RummyTable$Search" "hopeless" "[J", Cond.fieldLink RX4 15 "RummyTable$Search" "steps" "[I", Cond.instanceMethod yX1_init, Cond.code yX1_init cX1_init 1 none]
def wsX7_init_r4 : List Cond := [Cond.methodLink RX1 3 objectInit, Cond.fieldLink RX1 9 "RummyTable$Game" "hands" "[J", Cond.fieldLink RX1 15 "RummyTable$Game" "opened" "[Z", Cond.fieldLink RX1 19 "RummyTable$Game" "pack" "[I", Cond.instanceMethod yX2_init, Cond.code yX2_init cX2_init 1 none, Cond.methodLink RX2 3 objectInit, Cond.fieldLink RX2 9 "RummyTable$Layout" "steps" "[I"]
def wsX7_init : List Cond := .code yX7_init cX7_init 2 none :: ((wsX7_init_r1 ++ (wsX7_init_r2 ++ (wsX7_init_r3 ++ wsX7_init_r4))) ++ wsX60 ++ wsX70 ++ wsX40 ++ wsX10 ++ wsX20 ++ wsX30)
def wsX7_status : List Cond := .code yX7_status cX7_status 1 (some .int) :: ([.fieldLink RX7 52 "RummyTable" "status" "I"] ++ wsX70)
def wsX7_refuse : List Cond := .code yX7_refuse cX7_refuse 2 (some .int) :: ([.fieldLink RX7 52 "RummyTable" "status" "I"] ++ wsX70)
def wsX7_ways_r1 : List Cond := [Cond.fieldLink RX7 52 "RummyTable" "status" "I", Cond.fieldLink RX7 20 "RummyTable" "walk" "LRummyTable$Walk;", Cond.methodLink RX7 55 yX0_isSet, Cond.static yX0_isSet, Cond.initialized RX0, Cond.code yX0_isSet cX0_isSet 2 (some .boolean), Cond.methodLink RX7 61 yX7_refuse, Cond.instanceMethod yX7_refuse, Cond.selects RX7 yX7_refuse yX7_refuse, Cond.initialized RX7, Cond.code yX7_refuse cX7_refuse 2 (some .int), Cond.methodLink RX7 65 yX6_countLayouts, Cond.instanceMethod yX6_countLayouts, Cond.selects RX6 yX6_countLayouts yX6_countLayouts, Cond.initialized RX6, Cond.code yX6_countLayouts cX6_countLayouts 7 (some .long), Cond.fieldLink RX6 41 "RummyTable$Walk" "must" "J", Cond.fieldLink RX6 45 "RummyTable$Walk" "may" "J", Cond.fieldLink RX6 48 "RummyTable$Walk" "counting" "Z", Cond.fieldLink RX6 28 "RummyTable$Walk" "here" "LRummyTable$Row;", Cond.methodLink RX6 52 yX0_jokersIn, Cond.static yX0_jokersIn, Cond.code yX0_jokersIn cX0_jokersIn 2 (some .int), Cond.methodLink RX0 34 yJ13_bitCount_95d88]
def wsX7_ways_r2 : List Cond := [Cond.static yJ13_bitCount_95d88, Cond.initialized RJ13, Cond.code yJ13_bitCount_95d88 cJ13_bitCount_95d88 2 (some .int), Cond.constantLong RJ13 314 (6148914691236517205), Cond.constantLong RJ13 316 (3689348814741910323), Cond.constantLong RJ13 318 (1085102592571150095), Cond.methodLink RX6 58 yX6_goThrough, Cond.instanceMethod yX6_goThrough, Cond.selects RX6 yX6_goThrough yX6_goThrough, Cond.code yX6_goThrough cX6_goThrough 4 none, Cond.methodLink RX6 80 Lib.Math.min.name, Cond.static Lib.Math.min.name, Cond.initialized "java/lang/Math", Cond.code Lib.Math.min.name Lib.Math.min.code 2 (some .int), Cond.fieldLink RX6 103 "RummyTable$Walk" "jokers" "I", Cond.fieldLink RX6 32 "RummyTable$Walk" "there" "LRummyTable$Row;", Cond.methodLink RX6 106 yX3_clear, Cond.instanceMethod yX3_clear, Cond.selects RX3 yX3_clear yX3_clear, Cond.initialized RX3, Cond.code yX3_clear cX3_clear 4 none, Cond.fieldLink RX3 23 "RummyTable$Row" "count" "I", Cond.fieldLink RX3 19 "RummyTable$Row" "states" "[I", Cond.fieldLink RX3 15 "RummyTable$Row" "listed" "[Z"]
def wsX7_ways_r3 : List Cond := [Cond.fieldLink RX3 9 "RummyTable$Row" "cells" "[J", Cond.methodLink RX6 109 yX3_put, Cond.instanceMethod yX3_put, Cond.selects RX3 yX3_put yX3_put, Cond.code yX3_put cX3_put 5 none, Cond.methodLink RX3 27 yX3_isCell, Cond.static yX3_isCell, Cond.code yX3_isCell cX3_isCell 2 (some .boolean), Cond.methodLink RX6 113 yX6_gatherFitting, Cond.instanceMethod yX6_gatherFitting, Cond.selects RX6 yX6_gatherFitting yX6_gatherFitting, Cond.code yX6_gatherFitting cX6_gatherFitting 7 none, Cond.fieldLink RX6 77 "RummyTable$Walk" "byWorth" "Z", Cond.fieldLink RX6 137 "RummyTable$Walk" "unit" "I", Cond.fieldLink RX6 140 "RummyTable$Walk" "fits" "I", Cond.fieldLink RX6 9 "RummyTable$Walk" "steps" "[I", Cond.fieldLink RX6 15 "RummyTable$Walk" "fitting" "[I", Cond.fieldLink RX6 18 "RummyTable$Walk" "firstFit" "[I", Cond.methodLink RX6 130 yX0_coloursOf, Cond.static yX0_coloursOf, Cond.code yX0_coloursOf cX0_coloursOf 3 (some .int), Cond.methodLink RX6 134 yX0_worthOfNumber, Cond.static yX0_worthOfNumber, Cond.code yX0_worthOfNumber cX0_worthOfNumber 1 (some .int)]
def wsX7_ways_r4 : List Cond := [Cond.methodLink RX0 9 Lib.Math.min.name, Cond.methodLink RX6 143 yX5_shown, Cond.static yX5_shown, Cond.initialized RX5, Cond.code yX5_shown cX5_shown 1 (some .int), Cond.methodLink RX6 146 yJ6_bitCount_0f7a4, Cond.static yJ6_bitCount_0f7a4, Cond.initialized RJ6, Cond.code yJ6_bitCount_0f7a4 cJ6_bitCount_0f7a4 1 (some .int), Cond.constant RJ6 265 (1431655765), Cond.constant RJ6 266 (858993459), Cond.constant RJ6 267 (252645135), Cond.methodLink RX6 151 yX6_setGains, Cond.instanceMethod yX6_setGains, Cond.selects RX6 yX6_setGains yX6_setGains, Cond.code yX6_setGains cX6_setGains 8 none, Cond.fieldLink RX6 21 "RummyTable$Walk" "gains" "[J", Cond.constantLong RX6 90 (-1), Cond.methodLink RX6 154 yX6_gainOf, Cond.instanceMethod yX6_gainOf, Cond.selects RX6 yX6_gainOf yX6_gainOf, Cond.code yX6_gainOf cX6_gainOf 6 (some .long), Cond.methodLink RX6 157 yX6_withoutLast, Cond.static yX6_withoutLast]
def wsX7_ways_r5 : List Cond := [Cond.code yX6_withoutLast cX6_withoutLast 2 (some .int), Cond.methodLink RX6 35 yX5_continued, Cond.static yX5_continued, Cond.code yX5_continued cX5_continued 1 (some .int), Cond.methodLink RX6 116 yX6_goOnFrom, Cond.instanceMethod yX6_goOnFrom, Cond.selects RX6 yX6_goOnFrom yX6_goOnFrom, Cond.code yX6_goOnFrom cX6_goOnFrom 4 none, Cond.methodLink RX6 119 yX5_canContinue, Cond.static yX5_canContinue, Cond.code yX5_canContinue cX5_canContinue 4 (some .boolean), Cond.methodLink RX6 123 yX5_stateAfter, Cond.static yX5_stateAfter, Cond.code yX5_stateAfter cX5_stateAfter 3 (some .int), Cond.methodLink RX5 26 yX5_continued, Cond.methodLink RX5 23 yX5_begun, Cond.static yX5_begun, Cond.code yX5_begun cX5_begun 1 (some .int), Cond.methodLink RX6 126 yX6_carry, Cond.instanceMethod yX6_carry, Cond.selects RX6 yX6_carry yX6_carry, Cond.code yX6_carry cX6_carry 12 none, Cond.methodLink RX6 99 Lib.MathLoose.max_long.x, Cond.static Lib.MathLoose.max_long.x]
def wsX7_ways_r6 : List Cond := [Cond.code Lib.MathLoose.max_long.x Lib.MathLoose.max_long.code 4 (some .long), Cond.methodLink RX6 73 yX3_at, Cond.instanceMethod yX3_at, Cond.selects RX3 yX3_at yX3_at, Cond.code yX3_at cX3_at 3 (some .long), Cond.methodLink RX6 69 yX5_mayEnd, Cond.static yX5_mayEnd, Cond.code yX5_mayEnd cX5_mayEnd 1 (some .boolean)]
def wsX7_ways : List Cond := .code yX7_ways cX7_ways 3 (some .long) :: ((wsX7_ways_r1 ++ (wsX7_ways_r2 ++ (wsX7_ways_r3 ++ (wsX7_ways_r4 ++ (wsX7_ways_r5 ++ wsX7_ways_r6))))) ++ wsX70 ++ wsX60 ++ wsX30)
def wsX7_keepTrial : List Cond := .code yX7_keepTrial cX7_keepTrial 2 none :: ([.fieldLink RX7 41 "RummyTable" "kept" "LRummyTable$Layout;", .fieldLink RX7 45 "RummyTable" "trial" "LRummyTable$Layout;"] ++ wsX70)
def wsX7_layout_r1 : List Cond := [Cond.fieldLink RX7 27 "RummyTable" "search" "LRummyTable$Search;", Cond.fieldLink RX7 45 "RummyTable" "trial" "LRummyTable$Layout;", Cond.fieldLink RX7 52 "RummyTable" "status" "I", Cond.fieldLink RX7 41 "RummyTable" "kept" "LRummyTable$Layout;", Cond.methodLink RX7 55 yX0_isSet, Cond.static yX0_isSet, Cond.initialized RX0, Cond.code yX0_isSet cX0_isSet 2 (some .boolean), Cond.methodLink RX7 61 yX7_refuse, Cond.instanceMethod yX7_refuse, Cond.selects RX7 yX7_refuse yX7_refuse, Cond.initialized RX7, Cond.code yX7_refuse cX7_refuse 2 (some .int), Cond.methodLink RX7 69 yX4_findFirst, Cond.instanceMethod yX4_findFirst, Cond.selects RX4 yX4_findFirst yX4_findFirst, Cond.initialized RX4, Cond.code yX4_findFirst cX4_findFirst 4 (some .boolean), Cond.fieldLink RX4 19 "RummyTable$Search" "set" "J", Cond.fieldLink RX4 11 "RummyTable$Search" "hopeless" "[J", Cond.methodLink RX4 23 yJ7_fill_d0a16, Cond.static yJ7_fill_d0a16, Cond.initialized RJ7, Cond.code yJ7_fill_d0a16 cJ7_fill_d0a16 5 none]
def wsX7_layout_r2 : List Cond := [Cond.methodLink RX4 29 yX0_jokersIn, Cond.static yX0_jokersIn, Cond.code yX0_jokersIn cX0_jokersIn 2 (some .int), Cond.methodLink RX0 34 yJ13_bitCount_95d88, Cond.static yJ13_bitCount_95d88, Cond.initialized RJ13, Cond.code yJ13_bitCount_95d88 cJ13_bitCount_95d88 2 (some .int), Cond.constantLong RJ13 314 (6148914691236517205), Cond.constantLong RJ13 316 (3689348814741910323), Cond.constantLong RJ13 318 (1085102592571150095), Cond.methodLink RX4 35 yX4_reachesEnd, Cond.instanceMethod yX4_reachesEnd, Cond.selects RX4 yX4_reachesEnd yX4_reachesEnd, Cond.code yX4_reachesEnd cX4_reachesEnd 10 (some .boolean), Cond.fieldLink RX4 15 "RummyTable$Search" "steps" "[I", Cond.methodLink RX4 44 yX5_mayEnd, Cond.static yX5_mayEnd, Cond.initialized RX5, Cond.code yX5_mayEnd cX5_mayEnd 1 (some .boolean), Cond.methodLink RX4 50 yX0_coloursOf, Cond.static yX0_coloursOf, Cond.code yX0_coloursOf cX0_coloursOf 3 (some .int), Cond.methodLink RX4 54 yX5_shown, Cond.static yX5_shown]
def wsX7_layout_r3 : List Cond := [Cond.code yX5_shown cX5_shown 1 (some .int), Cond.methodLink RX4 58 yX5_continued, Cond.static yX5_continued, Cond.code yX5_continued cX5_continued 1 (some .int), Cond.methodLink RX4 61 yX5_canContinue, Cond.static yX5_canContinue, Cond.code yX5_canContinue cX5_canContinue 4 (some .boolean), Cond.methodLink RX4 65 yJ6_bitCount_0f7a4, Cond.static yJ6_bitCount_0f7a4, Cond.initialized RJ6, Cond.code yJ6_bitCount_0f7a4 cJ6_bitCount_0f7a4 1 (some .int), Cond.constant RJ6 265 (1431655765), Cond.constant RJ6 266 (858993459), Cond.constant RJ6 267 (252645135), Cond.methodLink RX4 70 yX5_stateAfter, Cond.static yX5_stateAfter, Cond.code yX5_stateAfter cX5_stateAfter 3 (some .int), Cond.methodLink RX5 26 yX5_continued, Cond.methodLink RX5 23 yX5_begun, Cond.static yX5_begun, Cond.code yX5_begun cX5_begun 1 (some .int), Cond.methodLink RX7 73 yX7_keepTrial, Cond.instanceMethod yX7_keepTrial, Cond.selects RX7 yX7_keepTrial yX7_keepTrial]
def wsX7_layout_r4 : List Cond := [Cond.code yX7_keepTrial cX7_keepTrial 2 none, Cond.methodLink RX7 76 yX2_groups, Cond.instanceMethod yX2_groups, Cond.selects RX2 yX2_groups yX2_groups, Cond.initialized RX2, Cond.code yX2_groups cX2_groups 6 (some .int), Cond.fieldLink RX2 9 "RummyTable$Layout" "steps" "[I", Cond.methodLink RX2 28 yX5_grouped, Cond.static yX5_grouped, Cond.code yX5_grouped cX5_grouped 1 (some .int), Cond.methodLink RX7 80 yX2_runs, Cond.instanceMethod yX2_runs, Cond.selects RX2 yX2_runs yX2_runs, Cond.code yX2_runs cX2_runs 6 (some .int), Cond.methodLink RX2 31 yX5_begun, Cond.methodLink RX2 34 yJ6_bitCount_0f7a4]
def wsX7_layout : List Cond := .code yX7_layout cX7_layout 3 (some .int) :: ((wsX7_layout_r1 ++ (wsX7_layout_r2 ++ (wsX7_layout_r3 ++ wsX7_layout_r4))) ++ wsX70 ++ wsX40 ++ wsX20)
def wsX7_isAim : List Cond := .code yX7_isAim cX7_isAim 1 (some .boolean) :: ([])
def wsX7_best_r1 : List Cond := [Cond.fieldLink RX7 20 "RummyTable" "walk" "LRummyTable$Walk;", Cond.fieldLink RX7 27 "RummyTable" "search" "LRummyTable$Search;", Cond.fieldLink RX7 45 "RummyTable" "trial" "LRummyTable$Layout;", Cond.fieldLink RX7 52 "RummyTable" "status" "I", Cond.methodLink RX7 55 yX0_isSet, Cond.static yX0_isSet, Cond.initialized RX0, Cond.code yX0_isSet cX0_isSet 2 (some .boolean), Cond.methodLink RX7 83 yX7_isAim, Cond.static yX7_isAim, Cond.initialized RX7, Cond.code yX7_isAim cX7_isAim 1 (some .boolean), Cond.methodLink RX7 61 yX7_refuse, Cond.instanceMethod yX7_refuse, Cond.selects RX7 yX7_refuse yX7_refuse, Cond.code yX7_refuse cX7_refuse 2 (some .int), Cond.methodLink RX7 87 yX6_bestPart, Cond.instanceMethod yX6_bestPart, Cond.selects RX6 yX6_bestPart yX6_bestPart, Cond.initialized RX6, Cond.code yX6_bestPart cX6_bestPart 14 (some .long), Cond.fieldLink RX6 41 "RummyTable$Walk" "must" "J", Cond.fieldLink RX6 45 "RummyTable$Walk" "may" "J", Cond.fieldLink RX6 48 "RummyTable$Walk" "counting" "Z"]
def wsX7_best_r2 : List Cond := [Cond.fieldLink RX6 77 "RummyTable$Walk" "byWorth" "Z", Cond.methodLink RX6 80 Lib.Math.min.name, Cond.static Lib.Math.min.name, Cond.initialized "java/lang/Math", Cond.code Lib.Math.min.name Lib.Math.min.code 2 (some .int), Cond.constantLong RX6 90 (-1), Cond.methodLink RX6 52 yX0_jokersIn, Cond.static yX0_jokersIn, Cond.code yX0_jokersIn cX0_jokersIn 2 (some .int), Cond.methodLink RX0 34 yJ13_bitCount_95d88, Cond.static yJ13_bitCount_95d88, Cond.initialized RJ13, Cond.code yJ13_bitCount_95d88 cJ13_bitCount_95d88 2 (some .int), Cond.constantLong RJ13 314 (6148914691236517205), Cond.constantLong RJ13 316 (3689348814741910323), Cond.constantLong RJ13 318 (1085102592571150095), Cond.methodLink RX6 58 yX6_goThrough, Cond.instanceMethod yX6_goThrough, Cond.selects RX6 yX6_goThrough yX6_goThrough, Cond.code yX6_goThrough cX6_goThrough 4 none, Cond.fieldLink RX6 103 "RummyTable$Walk" "jokers" "I", Cond.fieldLink RX6 28 "RummyTable$Walk" "here" "LRummyTable$Row;", Cond.fieldLink RX6 32 "RummyTable$Walk" "there" "LRummyTable$Row;", Cond.methodLink RX6 106 yX3_clear]
def wsX7_best_r3 : List Cond := [Cond.instanceMethod yX3_clear, Cond.selects RX3 yX3_clear yX3_clear, Cond.initialized RX3, Cond.code yX3_clear cX3_clear 4 none, Cond.fieldLink RX3 23 "RummyTable$Row" "count" "I", Cond.fieldLink RX3 19 "RummyTable$Row" "states" "[I", Cond.fieldLink RX3 15 "RummyTable$Row" "listed" "[Z", Cond.fieldLink RX3 9 "RummyTable$Row" "cells" "[J", Cond.methodLink RX6 109 yX3_put, Cond.instanceMethod yX3_put, Cond.selects RX3 yX3_put yX3_put, Cond.code yX3_put cX3_put 5 none, Cond.methodLink RX3 27 yX3_isCell, Cond.static yX3_isCell, Cond.code yX3_isCell cX3_isCell 2 (some .boolean), Cond.methodLink RX6 113 yX6_gatherFitting, Cond.instanceMethod yX6_gatherFitting, Cond.selects RX6 yX6_gatherFitting yX6_gatherFitting, Cond.code yX6_gatherFitting cX6_gatherFitting 7 none, Cond.fieldLink RX6 137 "RummyTable$Walk" "unit" "I", Cond.fieldLink RX6 140 "RummyTable$Walk" "fits" "I", Cond.fieldLink RX6 9 "RummyTable$Walk" "steps" "[I", Cond.fieldLink RX6 15 "RummyTable$Walk" "fitting" "[I", Cond.fieldLink RX6 18 "RummyTable$Walk" "firstFit" "[I"]
def wsX7_best_r4 : List Cond := [Cond.methodLink RX6 130 yX0_coloursOf, Cond.static yX0_coloursOf, Cond.code yX0_coloursOf cX0_coloursOf 3 (some .int), Cond.methodLink RX6 134 yX0_worthOfNumber, Cond.static yX0_worthOfNumber, Cond.code yX0_worthOfNumber cX0_worthOfNumber 1 (some .int), Cond.methodLink RX0 9 Lib.Math.min.name, Cond.methodLink RX6 143 yX5_shown, Cond.static yX5_shown, Cond.initialized RX5, Cond.code yX5_shown cX5_shown 1 (some .int), Cond.methodLink RX6 146 yJ6_bitCount_0f7a4, Cond.static yJ6_bitCount_0f7a4, Cond.initialized RJ6, Cond.code yJ6_bitCount_0f7a4 cJ6_bitCount_0f7a4 1 (some .int), Cond.constant RJ6 265 (1431655765), Cond.constant RJ6 266 (858993459), Cond.constant RJ6 267 (252645135), Cond.methodLink RX6 151 yX6_setGains, Cond.instanceMethod yX6_setGains, Cond.selects RX6 yX6_setGains yX6_setGains, Cond.code yX6_setGains cX6_setGains 8 none, Cond.fieldLink RX6 21 "RummyTable$Walk" "gains" "[J", Cond.methodLink RX6 154 yX6_gainOf]
def wsX7_best_r5 : List Cond := [Cond.instanceMethod yX6_gainOf, Cond.selects RX6 yX6_gainOf yX6_gainOf, Cond.code yX6_gainOf cX6_gainOf 6 (some .long), Cond.methodLink RX6 157 yX6_withoutLast, Cond.static yX6_withoutLast, Cond.code yX6_withoutLast cX6_withoutLast 2 (some .int), Cond.methodLink RX6 35 yX5_continued, Cond.static yX5_continued, Cond.code yX5_continued cX5_continued 1 (some .int), Cond.methodLink RX6 116 yX6_goOnFrom, Cond.instanceMethod yX6_goOnFrom, Cond.selects RX6 yX6_goOnFrom yX6_goOnFrom, Cond.code yX6_goOnFrom cX6_goOnFrom 4 none, Cond.methodLink RX6 119 yX5_canContinue, Cond.static yX5_canContinue, Cond.code yX5_canContinue cX5_canContinue 4 (some .boolean), Cond.methodLink RX6 123 yX5_stateAfter, Cond.static yX5_stateAfter, Cond.code yX5_stateAfter cX5_stateAfter 3 (some .int), Cond.methodLink RX5 26 yX5_continued, Cond.methodLink RX5 23 yX5_begun, Cond.static yX5_begun, Cond.code yX5_begun cX5_begun 1 (some .int), Cond.methodLink RX6 126 yX6_carry]
def wsX7_best_r6 : List Cond := [Cond.instanceMethod yX6_carry, Cond.selects RX6 yX6_carry yX6_carry, Cond.code yX6_carry cX6_carry 12 none, Cond.methodLink RX6 99 Lib.MathLoose.max_long.x, Cond.static Lib.MathLoose.max_long.x, Cond.code Lib.MathLoose.max_long.x Lib.MathLoose.max_long.code 4 (some .long), Cond.methodLink RX6 73 yX3_at, Cond.instanceMethod yX3_at, Cond.selects RX3 yX3_at yX3_at, Cond.code yX3_at cX3_at 3 (some .long), Cond.methodLink RX6 86 yX6_greatestAtEnd, Cond.instanceMethod yX6_greatestAtEnd, Cond.selects RX6 yX6_greatestAtEnd yX6_greatestAtEnd, Cond.code yX6_greatestAtEnd cX6_greatestAtEnd 5 (some .long), Cond.methodLink RX6 69 yX5_mayEnd, Cond.static yX5_mayEnd, Cond.code yX5_mayEnd cX5_mayEnd 1 (some .boolean), Cond.methodLink RX6 92 yX6_cardsOfKey, Cond.instanceMethod yX6_cardsOfKey, Cond.selects RX6 yX6_cardsOfKey yX6_cardsOfKey, Cond.code yX6_cardsOfKey cX6_cardsOfKey 6 (some .long), Cond.methodLink RX6 96 yX6_firstJokers, Cond.instanceMethod yX6_firstJokers, Cond.selects RX6 yX6_firstJokers yX6_firstJokers]
def wsX7_best_r7 : List Cond := [Cond.code yX6_firstJokers cX6_firstJokers 6 (some .long), Cond.methodLink RX7 69 yX4_findFirst, Cond.instanceMethod yX4_findFirst, Cond.selects RX4 yX4_findFirst yX4_findFirst, Cond.initialized RX4, Cond.code yX4_findFirst cX4_findFirst 4 (some .boolean), Cond.fieldLink RX4 19 "RummyTable$Search" "set" "J", Cond.fieldLink RX4 11 "RummyTable$Search" "hopeless" "[J", Cond.methodLink RX4 23 yJ7_fill_d0a16, Cond.static yJ7_fill_d0a16, Cond.initialized RJ7, Cond.code yJ7_fill_d0a16 cJ7_fill_d0a16 5 none, Cond.methodLink RX4 29 yX0_jokersIn, Cond.methodLink RX4 35 yX4_reachesEnd, Cond.instanceMethod yX4_reachesEnd, Cond.selects RX4 yX4_reachesEnd yX4_reachesEnd, Cond.code yX4_reachesEnd cX4_reachesEnd 10 (some .boolean), Cond.fieldLink RX4 15 "RummyTable$Search" "steps" "[I", Cond.methodLink RX4 44 yX5_mayEnd, Cond.methodLink RX4 50 yX0_coloursOf, Cond.methodLink RX4 54 yX5_shown, Cond.methodLink RX4 58 yX5_continued, Cond.methodLink RX4 61 yX5_canContinue, Cond.methodLink RX4 65 yJ6_bitCount_0f7a4]
def wsX7_best_r8 : List Cond := [Cond.methodLink RX4 70 yX5_stateAfter, Cond.methodLink RX7 73 yX7_keepTrial, Cond.instanceMethod yX7_keepTrial, Cond.selects RX7 yX7_keepTrial yX7_keepTrial, Cond.code yX7_keepTrial cX7_keepTrial 2 none, Cond.fieldLink RX7 41 "RummyTable" "kept" "LRummyTable$Layout;"]
def wsX7_best : List Cond := .code yX7_best cX7_best 8 (some .long) :: ((wsX7_best_r1 ++ (wsX7_best_r2 ++ (wsX7_best_r3 ++ (wsX7_best_r4 ++ (wsX7_best_r5 ++ (wsX7_best_r6 ++ (wsX7_best_r7 ++ wsX7_best_r8))))))) ++ wsX70 ++ wsX60 ++ wsX30 ++ wsX40 ++ wsX20)
def wsX7_place : List Cond := .code yX7_place cX7_place 2 (some .int) :: ([.fieldLink RX7 41 "RummyTable" "kept" "LRummyTable$Layout;", .methodLink RX7 91 yX2_placeOf, .instanceMethod yX2_placeOf, .selects RX2 yX2_placeOf yX2_placeOf, .initialized RX2, .code yX2_placeOf cX2_placeOf 2 (some .int), .fieldLink RX2 9 "RummyTable$Layout" "steps" "[I", .methodLink RX2 15 yX5_placeOf, .static yX5_placeOf, .initialized RX5, .code yX5_placeOf cX5_placeOf 2 (some .int), .methodLink RX5 15 yX5_grouped, .static yX5_grouped, .code yX5_grouped cX5_grouped 1 (some .int), .methodLink RX5 23 yX5_begun, .static yX5_begun, .code yX5_begun cX5_begun 1 (some .int), .methodLink RX5 26 yX5_continued, .static yX5_continued, .code yX5_continued cX5_continued 1 (some .int)] ++ wsX70 ++ wsX20)
def wsX7_stands_r1 : List Cond := [Cond.fieldLink RX7 41 "RummyTable" "kept" "LRummyTable$Layout;", Cond.methodLink RX7 94 yX2_jokerFor, Cond.instanceMethod yX2_jokerFor, Cond.selects RX2 yX2_jokerFor yX2_jokerFor, Cond.initialized RX2, Cond.code yX2_jokerFor cX2_jokerFor 2 (some .int), Cond.fieldLink RX2 24 "RummyTable$Layout" "own" "J", Cond.methodLink RX2 21 yX2_placeOf, Cond.instanceMethod yX2_placeOf, Cond.selects RX2 yX2_placeOf yX2_placeOf, Cond.code yX2_placeOf cX2_placeOf 2 (some .int), Cond.fieldLink RX2 9 "RummyTable$Layout" "steps" "[I", Cond.methodLink RX2 15 yX5_placeOf, Cond.static yX5_placeOf, Cond.initialized RX5, Cond.code yX5_placeOf cX5_placeOf 2 (some .int), Cond.methodLink RX5 15 yX5_grouped, Cond.static yX5_grouped, Cond.code yX5_grouped cX5_grouped 1 (some .int), Cond.methodLink RX5 23 yX5_begun, Cond.static yX5_begun, Cond.code yX5_begun cX5_begun 1 (some .int), Cond.methodLink RX5 26 yX5_continued, Cond.static yX5_continued]
def wsX7_stands_r2 : List Cond := [Cond.code yX5_continued cX5_continued 1 (some .int)]
def wsX7_stands : List Cond := .code yX7_stands cX7_stands 2 (some .int) :: ((wsX7_stands_r1 ++ wsX7_stands_r2) ++ wsX70 ++ wsX20)
def wsX7_shows_r1 : List Cond := [Cond.fieldLink RX7 41 "RummyTable" "kept" "LRummyTable$Layout;", Cond.methodLink RX7 76 yX2_groups, Cond.instanceMethod yX2_groups, Cond.selects RX2 yX2_groups yX2_groups, Cond.initialized RX2, Cond.code yX2_groups cX2_groups 6 (some .int), Cond.fieldLink RX2 9 "RummyTable$Layout" "steps" "[I", Cond.methodLink RX2 28 yX5_grouped, Cond.static yX5_grouped, Cond.initialized RX5, Cond.code yX5_grouped cX5_grouped 1 (some .int), Cond.methodLink RX7 80 yX2_runs, Cond.instanceMethod yX2_runs, Cond.selects RX2 yX2_runs yX2_runs, Cond.code yX2_runs cX2_runs 6 (some .int), Cond.methodLink RX2 31 yX5_begun, Cond.static yX5_begun, Cond.code yX5_begun cX5_begun 1 (some .int), Cond.methodLink RX2 34 yJ6_bitCount_0f7a4, Cond.static yJ6_bitCount_0f7a4, Cond.initialized RJ6, Cond.code yJ6_bitCount_0f7a4 cJ6_bitCount_0f7a4 1 (some .int), Cond.constant RJ6 265 (1431655765), Cond.constant RJ6 266 (858993459)]
def wsX7_shows_r2 : List Cond := [Cond.constant RJ6 267 (252645135), Cond.methodLink RX7 97 yX2_shownCards, Cond.instanceMethod yX2_shownCards, Cond.selects RX2 yX2_shownCards yX2_shownCards, Cond.code yX2_shownCards cX2_shownCards 6 (some .int), Cond.methodLink RX2 39 yX5_shown, Cond.static yX5_shown, Cond.code yX5_shown cX5_shown 1 (some .int), Cond.methodLink RX7 104 yX0_jokersIn, Cond.static yX0_jokersIn, Cond.initialized RX0, Cond.code yX0_jokersIn cX0_jokersIn 2 (some .int), Cond.methodLink RX0 34 yJ13_bitCount_95d88, Cond.static yJ13_bitCount_95d88, Cond.initialized RJ13, Cond.code yJ13_bitCount_95d88 cJ13_bitCount_95d88 2 (some .int), Cond.constantLong RJ13 314 (6148914691236517205), Cond.constantLong RJ13 316 (3689348814741910323), Cond.constantLong RJ13 318 (1085102592571150095), Cond.methodLink RX7 108 yX2_shownWorth, Cond.instanceMethod yX2_shownWorth, Cond.selects RX2 yX2_shownWorth yX2_shownWorth, Cond.code yX2_shownWorth cX2_shownWorth 3 (some .int), Cond.methodLink RX2 42 yX0_worthOfNumber]
def wsX7_shows_r3 : List Cond := [Cond.static yX0_worthOfNumber, Cond.code yX0_worthOfNumber cX0_worthOfNumber 1 (some .int), Cond.methodLink RX0 9 Lib.Math.min.name, Cond.static Lib.Math.min.name, Cond.initialized "java/lang/Math", Cond.code Lib.Math.min.name Lib.Math.min.code 2 (some .int), Cond.methodLink RX7 111 yX2_longestRun, Cond.instanceMethod yX2_longestRun, Cond.selects RX2 yX2_longestRun yX2_longestRun, Cond.code yX2_longestRun cX2_longestRun 6 (some .int), Cond.methodLink RX2 47 Lib.Math.max.name, Cond.static Lib.Math.max.name, Cond.code Lib.Math.max.name Lib.Math.max.code 2 (some .int), Cond.methodLink RX2 15 yX5_placeOf, Cond.static yX5_placeOf, Cond.code yX5_placeOf cX5_placeOf 2 (some .int), Cond.methodLink RX5 15 yX5_grouped, Cond.methodLink RX5 23 yX5_begun, Cond.methodLink RX5 26 yX5_continued, Cond.static yX5_continued, Cond.code yX5_continued cX5_continued 1 (some .int)]
def wsX7_shows : List Cond := .code yX7_shows cX7_shows 2 (some .int) :: ((wsX7_shows_r1 ++ (wsX7_shows_r2 ++ wsX7_shows_r3)) ++ wsX70 ++ wsX20)
def wsX7_worth_r1 : List Cond := [Cond.fieldLink RX7 52 "RummyTable" "status" "I", Cond.methodLink RX7 55 yX0_isSet, Cond.static yX0_isSet, Cond.initialized RX0, Cond.code yX0_isSet cX0_isSet 2 (some .boolean), Cond.methodLink RX7 61 yX7_refuse, Cond.instanceMethod yX7_refuse, Cond.selects RX7 yX7_refuse yX7_refuse, Cond.initialized RX7, Cond.code yX7_refuse cX7_refuse 2 (some .int), Cond.methodLink RX7 114 yX0_worthOfSet, Cond.static yX0_worthOfSet, Cond.code yX0_worthOfSet cX0_worthOfSet 4 (some .int), Cond.methodLink RX0 15 yX0_jokersIn, Cond.static yX0_jokersIn, Cond.code yX0_jokersIn cX0_jokersIn 2 (some .int), Cond.methodLink RX0 34 yJ13_bitCount_95d88, Cond.static yJ13_bitCount_95d88, Cond.initialized RJ13, Cond.code yJ13_bitCount_95d88 cJ13_bitCount_95d88 2 (some .int), Cond.constantLong RJ13 314 (6148914691236517205), Cond.constantLong RJ13 316 (3689348814741910323), Cond.constantLong RJ13 318 (1085102592571150095), Cond.methodLink RX0 21 yX0_worthOfNumber]
def wsX7_worth_r2 : List Cond := [Cond.static yX0_worthOfNumber, Cond.code yX0_worthOfNumber cX0_worthOfNumber 1 (some .int), Cond.methodLink RX0 9 Lib.Math.min.name, Cond.static Lib.Math.min.name, Cond.initialized "java/lang/Math", Cond.code Lib.Math.min.name Lib.Math.min.code 2 (some .int), Cond.methodLink RX0 25 yX0_coloursOf, Cond.static yX0_coloursOf, Cond.code yX0_coloursOf cX0_coloursOf 3 (some .int), Cond.methodLink RX0 29 yJ6_bitCount_0f7a4, Cond.static yJ6_bitCount_0f7a4, Cond.initialized RJ6, Cond.code yJ6_bitCount_0f7a4 cJ6_bitCount_0f7a4 1 (some .int), Cond.constant RJ6 265 (1431655765), Cond.constant RJ6 266 (858993459), Cond.constant RJ6 267 (252645135)]
def wsX7_worth : List Cond := .code yX7_worth cX7_worth 3 (some .int) :: ((wsX7_worth_r1 ++ wsX7_worth_r2) ++ wsX70)
def wsX7_opening : List Cond := .code yX7_opening cX7_opening 2 (some .boolean) :: ([.fieldLink RX7 52 "RummyTable" "status" "I", .fieldLink RX7 48 "RummyTable" "opening" "I"] ++ wsX70)
def wsX7_deal_r1 : List Cond := [Cond.constant RX7 117 (2147483646), Cond.fieldLink RX7 52 "RummyTable" "status" "I", Cond.fieldLink RX7 34 "RummyTable" "game" "LRummyTable$Game;", Cond.methodLink RX7 118 yX1_begin, Cond.instanceMethod yX1_begin, Cond.selects RX1 yX1_begin yX1_begin, Cond.initialized RX1, Cond.code yX1_begin cX1_begin 6 none, Cond.methodLink RX1 27 Lib.Math.min.name, Cond.static Lib.Math.min.name, Cond.initialized "java/lang/Math", Cond.code Lib.Math.min.name Lib.Math.min.code 2 (some .int), Cond.fieldLink RX1 33 "RummyTable$Game" "players" "I", Cond.fieldLink RX1 37 "RummyTable$Game" "top" "I", Cond.fieldLink RX1 15 "RummyTable$Game" "opened" "[Z", Cond.fieldLink RX1 9 "RummyTable$Game" "hands" "[J", Cond.fieldLink RX1 48 "RummyTable$Game" "lying" "J", Cond.fieldLink RX1 52 "RummyTable$Game" "turn" "I", Cond.fieldLink RX1 55 "RummyTable$Game" "turnsEnded" "I", Cond.fieldLink RX1 58 "RummyTable$Game" "layings" "I", Cond.fieldLink RX1 61 "RummyTable$Game" "idleTurns" "I", Cond.fieldLink RX1 64 "RummyTable$Game" "over" "Z", Cond.fieldLink RX1 68 "RummyTable$Game" "winner" "I", Cond.methodLink RX1 23 yX1_shuffle]
def wsX7_deal_r2 : List Cond := [Cond.instanceMethod yX1_shuffle, Cond.selects RX1 yX1_shuffle yX1_shuffle, Cond.code yX1_shuffle cX1_shuffle 7 none, Cond.fieldLink RX1 19 "RummyTable$Game" "pack" "[I", Cond.constantLong RX1 71 (48271), Cond.constantLong RX1 73 (2147483647), Cond.methodLink RX1 40 yX1_drawn, Cond.instanceMethod yX1_drawn, Cond.selects RX1 yX1_drawn yX1_drawn, Cond.code yX1_drawn cX1_drawn 2 (some .int), Cond.methodLink RX1 44 yX1_bitOf, Cond.static yX1_bitOf, Cond.code yX1_bitOf cX1_bitOf 1 (some .long)]
def wsX7_deal : List Cond := .code yX7_deal cX7_deal 5 (some .boolean) :: ((wsX7_deal_r1 ++ wsX7_deal_r2) ++ wsX70 ++ wsX10)
def wsX7_hand : List Cond := .code yX7_hand cX7_hand 2 (some .long) :: ([.fieldLink RX7 34 "RummyTable" "game" "LRummyTable$Game;", .fieldLink RX7 52 "RummyTable" "status" "I", .methodLink RX7 61 yX7_refuse, .instanceMethod yX7_refuse, .selects RX7 yX7_refuse yX7_refuse, .initialized RX7, .code yX7_refuse cX7_refuse 2 (some .int), .methodLink RX7 122 yX1_isDealt, .instanceMethod yX1_isDealt, .selects RX1 yX1_isDealt yX1_isDealt, .initialized RX1, .code yX1_isDealt cX1_isDealt 1 (some .boolean), .fieldLink RX1 33 "RummyTable$Game" "players" "I", .methodLink RX7 126 yX1_has, .instanceMethod yX1_has, .selects RX1 yX1_has yX1_has, .code yX1_has cX1_has 2 (some .boolean), .methodLink RX7 129 yX1_handOf, .instanceMethod yX1_handOf, .selects RX1 yX1_handOf yX1_handOf, .code yX1_handOf cX1_handOf 2 (some .long), .fieldLink RX1 9 "RummyTable$Game" "hands" "[J", .methodLink RX1 75 yX1_has] ++ wsX70 ++ wsX10)
def wsX7_table : List Cond := .code yX7_table cX7_table 1 (some .long) :: ([.fieldLink RX7 34 "RummyTable" "game" "LRummyTable$Game;", .fieldLink RX7 52 "RummyTable" "status" "I", .methodLink RX7 122 yX1_isDealt, .instanceMethod yX1_isDealt, .selects RX1 yX1_isDealt yX1_isDealt, .initialized RX1, .code yX1_isDealt cX1_isDealt 1 (some .boolean), .fieldLink RX1 33 "RummyTable$Game" "players" "I", .methodLink RX7 61 yX7_refuse, .instanceMethod yX7_refuse, .selects RX7 yX7_refuse yX7_refuse, .initialized RX7, .code yX7_refuse cX7_refuse 2 (some .int)] ++ wsX70 ++ wsX10)
def wsX7_tell : List Cond := .code yX7_tell cX7_tell 2 (some .int) :: ([.fieldLink RX7 34 "RummyTable" "game" "LRummyTable$Game;", .fieldLink RX7 52 "RummyTable" "status" "I", .methodLink RX7 61 yX7_refuse, .instanceMethod yX7_refuse, .selects RX7 yX7_refuse yX7_refuse, .initialized RX7, .code yX7_refuse cX7_refuse 2 (some .int), .methodLink RX7 122 yX1_isDealt, .instanceMethod yX1_isDealt, .selects RX1 yX1_isDealt yX1_isDealt, .initialized RX1, .code yX1_isDealt cX1_isDealt 1 (some .boolean), .fieldLink RX1 33 "RummyTable$Game" "players" "I", .methodLink RX7 136 yX1_fact, .instanceMethod yX1_fact, .selects RX1 yX1_fact yX1_fact, .code yX1_fact cX1_fact 2 (some .int), .fieldLink RX1 52 "RummyTable$Game" "turn" "I", .fieldLink RX1 37 "RummyTable$Game" "top" "I", .fieldLink RX1 64 "RummyTable$Game" "over" "Z", .fieldLink RX1 68 "RummyTable$Game" "winner" "I", .fieldLink RX1 55 "RummyTable$Game" "turnsEnded" "I", .fieldLink RX1 58 "RummyTable$Game" "layings" "I"] ++ wsX70 ++ wsX10)
def wsX7_player_r1 : List Cond := [Cond.fieldLink RX7 34 "RummyTable" "game" "LRummyTable$Game;", Cond.fieldLink RX7 52 "RummyTable" "status" "I", Cond.methodLink RX7 61 yX7_refuse, Cond.instanceMethod yX7_refuse, Cond.selects RX7 yX7_refuse yX7_refuse, Cond.initialized RX7, Cond.code yX7_refuse cX7_refuse 2 (some .int), Cond.methodLink RX7 122 yX1_isDealt, Cond.instanceMethod yX1_isDealt, Cond.selects RX1 yX1_isDealt yX1_isDealt, Cond.initialized RX1, Cond.code yX1_isDealt cX1_isDealt 1 (some .boolean), Cond.fieldLink RX1 33 "RummyTable$Game" "players" "I", Cond.methodLink RX7 126 yX1_has, Cond.instanceMethod yX1_has, Cond.selects RX1 yX1_has yX1_has, Cond.code yX1_has cX1_has 2 (some .boolean), Cond.methodLink RX7 139 yX1_hasOpened, Cond.instanceMethod yX1_hasOpened, Cond.selects RX1 yX1_hasOpened yX1_hasOpened, Cond.code yX1_hasOpened cX1_hasOpened 2 (some .boolean), Cond.fieldLink RX1 15 "RummyTable$Game" "opened" "[Z", Cond.methodLink RX1 75 yX1_has, Cond.methodLink RX7 129 yX1_handOf]
def wsX7_player_r2 : List Cond := [Cond.instanceMethod yX1_handOf, Cond.selects RX1 yX1_handOf yX1_handOf, Cond.code yX1_handOf cX1_handOf 2 (some .long), Cond.fieldLink RX1 9 "RummyTable$Game" "hands" "[J", Cond.methodLink RX7 142 yJ13_bitCount_95d88, Cond.static yJ13_bitCount_95d88, Cond.initialized RJ13, Cond.code yJ13_bitCount_95d88 cJ13_bitCount_95d88 2 (some .int), Cond.constantLong RJ13 314 (6148914691236517205), Cond.constantLong RJ13 316 (3689348814741910323), Cond.constantLong RJ13 318 (1085102592571150095), Cond.methodLink RX7 114 yX0_worthOfSet, Cond.static yX0_worthOfSet, Cond.initialized RX0, Cond.code yX0_worthOfSet cX0_worthOfSet 4 (some .int), Cond.methodLink RX0 15 yX0_jokersIn, Cond.static yX0_jokersIn, Cond.code yX0_jokersIn cX0_jokersIn 2 (some .int), Cond.methodLink RX0 34 yJ13_bitCount_95d88, Cond.methodLink RX0 21 yX0_worthOfNumber, Cond.static yX0_worthOfNumber, Cond.code yX0_worthOfNumber cX0_worthOfNumber 1 (some .int), Cond.methodLink RX0 9 Lib.Math.min.name, Cond.static Lib.Math.min.name]
def wsX7_player_r3 : List Cond := [Cond.initialized "java/lang/Math", Cond.code Lib.Math.min.name Lib.Math.min.code 2 (some .int), Cond.methodLink RX0 25 yX0_coloursOf, Cond.static yX0_coloursOf, Cond.code yX0_coloursOf cX0_coloursOf 3 (some .int), Cond.methodLink RX0 29 yJ6_bitCount_0f7a4, Cond.static yJ6_bitCount_0f7a4, Cond.initialized RJ6, Cond.code yJ6_bitCount_0f7a4 cJ6_bitCount_0f7a4 1 (some .int), Cond.constant RJ6 265 (1431655765), Cond.constant RJ6 266 (858993459), Cond.constant RJ6 267 (252645135)]
def wsX7_player : List Cond := .code yX7_player cX7_player 5 (some .int) :: ((wsX7_player_r1 ++ (wsX7_player_r2 ++ wsX7_player_r3)) ++ wsX70 ++ wsX10)
def wsX7_barToPlay : List Cond := .code yX7_barToPlay cX7_barToPlay 1 (some .int) :: ([.fieldLink RX7 34 "RummyTable" "game" "LRummyTable$Game;", .methodLink RX7 122 yX1_isDealt, .instanceMethod yX1_isDealt, .selects RX1 yX1_isDealt yX1_isDealt, .initialized RX1, .code yX1_isDealt cX1_isDealt 1 (some .boolean), .fieldLink RX1 33 "RummyTable$Game" "players" "I"] ++ wsX70 ++ wsX10)
def wsX7_tryLaying_r1 : List Cond := [Cond.fieldLink RX7 34 "RummyTable" "game" "LRummyTable$Game;", Cond.fieldLink RX7 27 "RummyTable" "search" "LRummyTable$Search;", Cond.fieldLink RX7 45 "RummyTable" "trial" "LRummyTable$Layout;", Cond.fieldLink RX7 48 "RummyTable" "opening" "I", Cond.methodLink RX7 139 yX1_hasOpened, Cond.instanceMethod yX1_hasOpened, Cond.selects RX1 yX1_hasOpened yX1_hasOpened, Cond.initialized RX1, Cond.code yX1_hasOpened cX1_hasOpened 2 (some .boolean), Cond.fieldLink RX1 15 "RummyTable$Game" "opened" "[Z", Cond.methodLink RX1 75 yX1_has, Cond.instanceMethod yX1_has, Cond.selects RX1 yX1_has yX1_has, Cond.code yX1_has cX1_has 2 (some .boolean), Cond.fieldLink RX1 33 "RummyTable$Game" "players" "I", Cond.methodLink RX7 69 yX4_findFirst, Cond.instanceMethod yX4_findFirst, Cond.selects RX4 yX4_findFirst yX4_findFirst, Cond.initialized RX4, Cond.code yX4_findFirst cX4_findFirst 4 (some .boolean), Cond.fieldLink RX4 19 "RummyTable$Search" "set" "J", Cond.fieldLink RX4 11 "RummyTable$Search" "hopeless" "[J", Cond.methodLink RX4 23 yJ7_fill_d0a16, Cond.static yJ7_fill_d0a16]
def wsX7_tryLaying_r2 : List Cond := [Cond.initialized RJ7, Cond.code yJ7_fill_d0a16 cJ7_fill_d0a16 5 none, Cond.methodLink RX4 29 yX0_jokersIn, Cond.static yX0_jokersIn, Cond.initialized RX0, Cond.code yX0_jokersIn cX0_jokersIn 2 (some .int), Cond.methodLink RX0 34 yJ13_bitCount_95d88, Cond.static yJ13_bitCount_95d88, Cond.initialized RJ13, Cond.code yJ13_bitCount_95d88 cJ13_bitCount_95d88 2 (some .int), Cond.constantLong RJ13 314 (6148914691236517205), Cond.constantLong RJ13 316 (3689348814741910323), Cond.constantLong RJ13 318 (1085102592571150095), Cond.methodLink RX4 35 yX4_reachesEnd, Cond.instanceMethod yX4_reachesEnd, Cond.selects RX4 yX4_reachesEnd yX4_reachesEnd, Cond.code yX4_reachesEnd cX4_reachesEnd 10 (some .boolean), Cond.fieldLink RX4 15 "RummyTable$Search" "steps" "[I", Cond.methodLink RX4 44 yX5_mayEnd, Cond.static yX5_mayEnd, Cond.initialized RX5, Cond.code yX5_mayEnd cX5_mayEnd 1 (some .boolean), Cond.methodLink RX4 50 yX0_coloursOf, Cond.static yX0_coloursOf]
def wsX7_tryLaying_r3 : List Cond := [Cond.code yX0_coloursOf cX0_coloursOf 3 (some .int), Cond.methodLink RX4 54 yX5_shown, Cond.static yX5_shown, Cond.code yX5_shown cX5_shown 1 (some .int), Cond.methodLink RX4 58 yX5_continued, Cond.static yX5_continued, Cond.code yX5_continued cX5_continued 1 (some .int), Cond.methodLink RX4 61 yX5_canContinue, Cond.static yX5_canContinue, Cond.code yX5_canContinue cX5_canContinue 4 (some .boolean), Cond.methodLink RX4 65 yJ6_bitCount_0f7a4, Cond.static yJ6_bitCount_0f7a4, Cond.initialized RJ6, Cond.code yJ6_bitCount_0f7a4 cJ6_bitCount_0f7a4 1 (some .int), Cond.constant RJ6 265 (1431655765), Cond.constant RJ6 266 (858993459), Cond.constant RJ6 267 (252645135), Cond.methodLink RX4 70 yX5_stateAfter, Cond.static yX5_stateAfter, Cond.code yX5_stateAfter cX5_stateAfter 3 (some .int), Cond.methodLink RX5 26 yX5_continued, Cond.methodLink RX5 23 yX5_begun, Cond.static yX5_begun, Cond.code yX5_begun cX5_begun 1 (some .int)]
def wsX7_tryLaying_r4 : List Cond := [Cond.methodLink RX7 108 yX2_shownWorth, Cond.instanceMethod yX2_shownWorth, Cond.selects RX2 yX2_shownWorth yX2_shownWorth, Cond.initialized RX2, Cond.code yX2_shownWorth cX2_shownWorth 3 (some .int), Cond.fieldLink RX2 9 "RummyTable$Layout" "steps" "[I", Cond.methodLink RX2 42 yX0_worthOfNumber, Cond.static yX0_worthOfNumber, Cond.code yX0_worthOfNumber cX0_worthOfNumber 1 (some .int), Cond.methodLink RX0 9 Lib.Math.min.name, Cond.static Lib.Math.min.name, Cond.initialized "java/lang/Math", Cond.code Lib.Math.min.name Lib.Math.min.code 2 (some .int), Cond.methodLink RX2 39 yX5_shown, Cond.methodLink RX2 34 yJ6_bitCount_0f7a4]
def wsX7_tryLaying : List Cond := .code yX7_tryLaying cX7_tryLaying 3 (some .int) :: ((wsX7_tryLaying_r1 ++ (wsX7_tryLaying_r2 ++ (wsX7_tryLaying_r3 ++ wsX7_tryLaying_r4))) ++ wsX70 ++ wsX10 ++ wsX40 ++ wsX20)
def wsX7_carryOut_r1 : List Cond := [Cond.fieldLink RX7 34 "RummyTable" "game" "LRummyTable$Game;", Cond.methodLink RX7 172 yX1_putDown, Cond.instanceMethod yX1_putDown, Cond.selects RX1 yX1_putDown yX1_putDown, Cond.initialized RX1, Cond.code yX1_putDown cX1_putDown 3 none, Cond.fieldLink RX1 52 "RummyTable$Game" "turn" "I", Cond.fieldLink RX1 9 "RummyTable$Game" "hands" "[J", Cond.constantLong RX1 79 (-1), Cond.fieldLink RX1 15 "RummyTable$Game" "opened" "[Z", Cond.fieldLink RX1 48 "RummyTable$Game" "lying" "J", Cond.fieldLink RX1 58 "RummyTable$Game" "layings" "I", Cond.fieldLink RX1 64 "RummyTable$Game" "over" "Z", Cond.fieldLink RX1 68 "RummyTable$Game" "winner" "I", Cond.methodLink RX1 75 yX1_has, Cond.instanceMethod yX1_has, Cond.selects RX1 yX1_has yX1_has, Cond.code yX1_has cX1_has 2 (some .boolean), Cond.fieldLink RX1 33 "RummyTable$Game" "players" "I", Cond.methodLink RX7 73 yX7_keepTrial, Cond.instanceMethod yX7_keepTrial, Cond.selects RX7 yX7_keepTrial yX7_keepTrial, Cond.initialized RX7, Cond.code yX7_keepTrial cX7_keepTrial 2 none]
def wsX7_carryOut_r2 : List Cond := [Cond.fieldLink RX7 41 "RummyTable" "kept" "LRummyTable$Layout;", Cond.fieldLink RX7 45 "RummyTable" "trial" "LRummyTable$Layout;"]
def wsX7_carryOut : List Cond := .code yX7_carryOut cX7_carryOut 3 none :: ((wsX7_carryOut_r1 ++ wsX7_carryOut_r2) ++ wsX70 ++ wsX10)
def wsX7_lay_r1 : List Cond := [Cond.fieldLink RX7 34 "RummyTable" "game" "LRummyTable$Game;", Cond.constantLong RX7 153 (-1), Cond.fieldLink RX7 52 "RummyTable" "status" "I", Cond.methodLink RX7 55 yX0_isSet, Cond.static yX0_isSet, Cond.initialized RX0, Cond.code yX0_isSet cX0_isSet 2 (some .boolean), Cond.methodLink RX7 61 yX7_refuse, Cond.instanceMethod yX7_refuse, Cond.selects RX7 yX7_refuse yX7_refuse, Cond.initialized RX7, Cond.code yX7_refuse cX7_refuse 2 (some .int), Cond.methodLink RX7 147 yX7_barToPlay, Cond.instanceMethod yX7_barToPlay, Cond.selects RX7 yX7_barToPlay yX7_barToPlay, Cond.code yX7_barToPlay cX7_barToPlay 1 (some .int), Cond.methodLink RX7 122 yX1_isDealt, Cond.instanceMethod yX1_isDealt, Cond.selects RX1 yX1_isDealt yX1_isDealt, Cond.initialized RX1, Cond.code yX1_isDealt cX1_isDealt 1 (some .boolean), Cond.fieldLink RX1 33 "RummyTable$Game" "players" "I", Cond.methodLink RX7 129 yX1_handOf, Cond.instanceMethod yX1_handOf]
def wsX7_lay_r2 : List Cond := [Cond.selects RX1 yX1_handOf yX1_handOf, Cond.code yX1_handOf cX1_handOf 2 (some .long), Cond.fieldLink RX1 9 "RummyTable$Game" "hands" "[J", Cond.methodLink RX1 75 yX1_has, Cond.instanceMethod yX1_has, Cond.selects RX1 yX1_has yX1_has, Cond.code yX1_has cX1_has 2 (some .boolean), Cond.methodLink RX7 155 yX7_tryLaying, Cond.instanceMethod yX7_tryLaying, Cond.selects RX7 yX7_tryLaying yX7_tryLaying, Cond.code yX7_tryLaying cX7_tryLaying 3 (some .int), Cond.fieldLink RX7 27 "RummyTable" "search" "LRummyTable$Search;", Cond.fieldLink RX7 45 "RummyTable" "trial" "LRummyTable$Layout;", Cond.fieldLink RX7 48 "RummyTable" "opening" "I", Cond.methodLink RX7 139 yX1_hasOpened, Cond.instanceMethod yX1_hasOpened, Cond.selects RX1 yX1_hasOpened yX1_hasOpened, Cond.code yX1_hasOpened cX1_hasOpened 2 (some .boolean), Cond.fieldLink RX1 15 "RummyTable$Game" "opened" "[Z", Cond.methodLink RX7 69 yX4_findFirst, Cond.instanceMethod yX4_findFirst, Cond.selects RX4 yX4_findFirst yX4_findFirst, Cond.initialized RX4, Cond.code yX4_findFirst cX4_findFirst 4 (some .boolean)]
def wsX7_lay_r3 : List Cond := [Cond.fieldLink RX4 19 "RummyTable$Search" "set" "J", Cond.fieldLink RX4 11 "RummyTable$Search" "hopeless" "[J", Cond.methodLink RX4 23 yJ7_fill_d0a16, Cond.static yJ7_fill_d0a16, Cond.initialized RJ7, Cond.code yJ7_fill_d0a16 cJ7_fill_d0a16 5 none, Cond.methodLink RX4 29 yX0_jokersIn, Cond.static yX0_jokersIn, Cond.code yX0_jokersIn cX0_jokersIn 2 (some .int), Cond.methodLink RX0 34 yJ13_bitCount_95d88, Cond.static yJ13_bitCount_95d88, Cond.initialized RJ13, Cond.code yJ13_bitCount_95d88 cJ13_bitCount_95d88 2 (some .int), Cond.constantLong RJ13 314 (6148914691236517205), Cond.constantLong RJ13 316 (3689348814741910323), Cond.constantLong RJ13 318 (1085102592571150095), Cond.methodLink RX4 35 yX4_reachesEnd, Cond.instanceMethod yX4_reachesEnd, Cond.selects RX4 yX4_reachesEnd yX4_reachesEnd, Cond.code yX4_reachesEnd cX4_reachesEnd 10 (some .boolean), Cond.fieldLink RX4 15 "RummyTable$Search" "steps" "[I", Cond.methodLink RX4 44 yX5_mayEnd, Cond.static yX5_mayEnd, Cond.initialized RX5]
def wsX7_lay_r4 : List Cond := [Cond.code yX5_mayEnd cX5_mayEnd 1 (some .boolean), Cond.methodLink RX4 50 yX0_coloursOf, Cond.static yX0_coloursOf, Cond.code yX0_coloursOf cX0_coloursOf 3 (some .int), Cond.methodLink RX4 54 yX5_shown, Cond.static yX5_shown, Cond.code yX5_shown cX5_shown 1 (some .int), Cond.methodLink RX4 58 yX5_continued, Cond.static yX5_continued, Cond.code yX5_continued cX5_continued 1 (some .int), Cond.methodLink RX4 61 yX5_canContinue, Cond.static yX5_canContinue, Cond.code yX5_canContinue cX5_canContinue 4 (some .boolean), Cond.methodLink RX4 65 yJ6_bitCount_0f7a4, Cond.static yJ6_bitCount_0f7a4, Cond.initialized RJ6, Cond.code yJ6_bitCount_0f7a4 cJ6_bitCount_0f7a4 1 (some .int), Cond.constant RJ6 265 (1431655765), Cond.constant RJ6 266 (858993459), Cond.constant RJ6 267 (252645135), Cond.methodLink RX4 70 yX5_stateAfter, Cond.static yX5_stateAfter, Cond.code yX5_stateAfter cX5_stateAfter 3 (some .int), Cond.methodLink RX5 26 yX5_continued]
def wsX7_lay_r5 : List Cond := [Cond.methodLink RX5 23 yX5_begun, Cond.static yX5_begun, Cond.code yX5_begun cX5_begun 1 (some .int), Cond.methodLink RX7 108 yX2_shownWorth, Cond.instanceMethod yX2_shownWorth, Cond.selects RX2 yX2_shownWorth yX2_shownWorth, Cond.initialized RX2, Cond.code yX2_shownWorth cX2_shownWorth 3 (some .int), Cond.fieldLink RX2 9 "RummyTable$Layout" "steps" "[I", Cond.methodLink RX2 42 yX0_worthOfNumber, Cond.static yX0_worthOfNumber, Cond.code yX0_worthOfNumber cX0_worthOfNumber 1 (some .int), Cond.methodLink RX0 9 Lib.Math.min.name, Cond.static Lib.Math.min.name, Cond.initialized "java/lang/Math", Cond.code Lib.Math.min.name Lib.Math.min.code 2 (some .int), Cond.methodLink RX2 39 yX5_shown, Cond.methodLink RX2 34 yJ6_bitCount_0f7a4, Cond.methodLink RX7 158 yX7_carryOut, Cond.instanceMethod yX7_carryOut, Cond.selects RX7 yX7_carryOut yX7_carryOut, Cond.code yX7_carryOut cX7_carryOut 3 none, Cond.methodLink RX7 172 yX1_putDown, Cond.instanceMethod yX1_putDown]
def wsX7_lay_r6 : List Cond := [Cond.selects RX1 yX1_putDown yX1_putDown, Cond.code yX1_putDown cX1_putDown 3 none, Cond.fieldLink RX1 52 "RummyTable$Game" "turn" "I", Cond.constantLong RX1 79 (-1), Cond.fieldLink RX1 48 "RummyTable$Game" "lying" "J", Cond.fieldLink RX1 58 "RummyTable$Game" "layings" "I", Cond.fieldLink RX1 64 "RummyTable$Game" "over" "Z", Cond.fieldLink RX1 68 "RummyTable$Game" "winner" "I", Cond.methodLink RX7 73 yX7_keepTrial, Cond.instanceMethod yX7_keepTrial, Cond.selects RX7 yX7_keepTrial yX7_keepTrial, Cond.code yX7_keepTrial cX7_keepTrial 2 none, Cond.fieldLink RX7 41 "RummyTable" "kept" "LRummyTable$Layout;", Cond.methodLink RX7 142 yJ13_bitCount_95d88]
def wsX7_lay : List Cond := .code yX7_lay cX7_lay 5 (some .int) :: ((wsX7_lay_r1 ++ (wsX7_lay_r2 ++ (wsX7_lay_r3 ++ (wsX7_lay_r4 ++ (wsX7_lay_r5 ++ wsX7_lay_r6))))) ++ wsX70 ++ wsX10 ++ wsX40 ++ wsX20)
def wsX7_end_r1 : List Cond := [Cond.fieldLink RX7 52 "RummyTable" "status" "I", Cond.fieldLink RX7 34 "RummyTable" "game" "LRummyTable$Game;", Cond.methodLink RX7 147 yX7_barToPlay, Cond.instanceMethod yX7_barToPlay, Cond.selects RX7 yX7_barToPlay yX7_barToPlay, Cond.initialized RX7, Cond.code yX7_barToPlay cX7_barToPlay 1 (some .int), Cond.methodLink RX7 122 yX1_isDealt, Cond.instanceMethod yX1_isDealt, Cond.selects RX1 yX1_isDealt yX1_isDealt, Cond.initialized RX1, Cond.code yX1_isDealt cX1_isDealt 1 (some .boolean), Cond.fieldLink RX1 33 "RummyTable$Game" "players" "I", Cond.methodLink RX7 61 yX7_refuse, Cond.instanceMethod yX7_refuse, Cond.selects RX7 yX7_refuse yX7_refuse, Cond.code yX7_refuse cX7_refuse 2 (some .int), Cond.methodLink RX7 162 yX1_endTurn, Cond.instanceMethod yX1_endTurn, Cond.selects RX1 yX1_endTurn yX1_endTurn, Cond.code yX1_endTurn cX1_endTurn 2 (some .int), Cond.fieldLink RX1 58 "RummyTable$Game" "layings" "I", Cond.fieldLink RX1 52 "RummyTable$Game" "turn" "I", Cond.fieldLink RX1 9 "RummyTable$Game" "hands" "[J"]
def wsX7_end_r2 : List Cond := [Cond.fieldLink RX1 61 "RummyTable$Game" "idleTurns" "I", Cond.fieldLink RX1 64 "RummyTable$Game" "over" "Z", Cond.fieldLink RX1 55 "RummyTable$Game" "turnsEnded" "I", Cond.methodLink RX1 40 yX1_drawn, Cond.instanceMethod yX1_drawn, Cond.selects RX1 yX1_drawn yX1_drawn, Cond.code yX1_drawn cX1_drawn 2 (some .int), Cond.fieldLink RX1 37 "RummyTable$Game" "top" "I", Cond.fieldLink RX1 19 "RummyTable$Game" "pack" "[I", Cond.methodLink RX1 75 yX1_has, Cond.instanceMethod yX1_has, Cond.selects RX1 yX1_has yX1_has, Cond.code yX1_has cX1_has 2 (some .boolean), Cond.methodLink RX1 44 yX1_bitOf, Cond.static yX1_bitOf, Cond.code yX1_bitOf cX1_bitOf 1 (some .long)]
def wsX7_end : List Cond := .code yX7_end cX7_end 2 (some .int) :: ((wsX7_end_r1 ++ wsX7_end_r2) ++ wsX70 ++ wsX10)
def wsX7_layAllBest_r1 : List Cond := [Cond.fieldLink RX7 34 "RummyTable" "game" "LRummyTable$Game;", Cond.fieldLink RX7 20 "RummyTable" "walk" "LRummyTable$Walk;", Cond.methodLink RX7 139 yX1_hasOpened, Cond.instanceMethod yX1_hasOpened, Cond.selects RX1 yX1_hasOpened yX1_hasOpened, Cond.initialized RX1, Cond.code yX1_hasOpened cX1_hasOpened 2 (some .boolean), Cond.fieldLink RX1 15 "RummyTable$Game" "opened" "[Z", Cond.methodLink RX1 75 yX1_has, Cond.instanceMethod yX1_has, Cond.selects RX1 yX1_has yX1_has, Cond.code yX1_has cX1_has 2 (some .boolean), Cond.fieldLink RX1 33 "RummyTable$Game" "players" "I", Cond.methodLink RX7 129 yX1_handOf, Cond.instanceMethod yX1_handOf, Cond.selects RX1 yX1_handOf yX1_handOf, Cond.code yX1_handOf cX1_handOf 2 (some .long), Cond.fieldLink RX1 9 "RummyTable$Game" "hands" "[J", Cond.methodLink RX7 87 yX6_bestPart, Cond.instanceMethod yX6_bestPart, Cond.selects RX6 yX6_bestPart yX6_bestPart, Cond.initialized RX6, Cond.code yX6_bestPart cX6_bestPart 14 (some .long), Cond.fieldLink RX6 41 "RummyTable$Walk" "must" "J"]
def wsX7_layAllBest_r2 : List Cond := [Cond.fieldLink RX6 45 "RummyTable$Walk" "may" "J", Cond.fieldLink RX6 48 "RummyTable$Walk" "counting" "Z", Cond.fieldLink RX6 77 "RummyTable$Walk" "byWorth" "Z", Cond.methodLink RX6 80 Lib.Math.min.name, Cond.static Lib.Math.min.name, Cond.initialized "java/lang/Math", Cond.code Lib.Math.min.name Lib.Math.min.code 2 (some .int), Cond.constantLong RX6 90 (-1), Cond.methodLink RX6 52 yX0_jokersIn, Cond.static yX0_jokersIn, Cond.initialized RX0, Cond.code yX0_jokersIn cX0_jokersIn 2 (some .int), Cond.methodLink RX0 34 yJ13_bitCount_95d88, Cond.static yJ13_bitCount_95d88, Cond.initialized RJ13, Cond.code yJ13_bitCount_95d88 cJ13_bitCount_95d88 2 (some .int), Cond.constantLong RJ13 314 (6148914691236517205), Cond.constantLong RJ13 316 (3689348814741910323), Cond.constantLong RJ13 318 (1085102592571150095), Cond.methodLink RX6 58 yX6_goThrough, Cond.instanceMethod yX6_goThrough, Cond.selects RX6 yX6_goThrough yX6_goThrough, Cond.code yX6_goThrough cX6_goThrough 4 none, Cond.fieldLink RX6 103 "RummyTable$Walk" "jokers" "I"]
def wsX7_layAllBest_r3 : List Cond := [Cond.fieldLink RX6 28 "RummyTable$Walk" "here" "LRummyTable$Row;", Cond.fieldLink RX6 32 "RummyTable$Walk" "there" "LRummyTable$Row;", Cond.methodLink RX6 106 yX3_clear, Cond.instanceMethod yX3_clear, Cond.selects RX3 yX3_clear yX3_clear, Cond.initialized RX3, Cond.code yX3_clear cX3_clear 4 none, Cond.fieldLink RX3 23 "RummyTable$Row" "count" "I", Cond.fieldLink RX3 19 "RummyTable$Row" "states" "[I", Cond.fieldLink RX3 15 "RummyTable$Row" "listed" "[Z", Cond.fieldLink RX3 9 "RummyTable$Row" "cells" "[J", Cond.methodLink RX6 109 yX3_put, Cond.instanceMethod yX3_put, Cond.selects RX3 yX3_put yX3_put, Cond.code yX3_put cX3_put 5 none, Cond.methodLink RX3 27 yX3_isCell, Cond.static yX3_isCell, Cond.code yX3_isCell cX3_isCell 2 (some .boolean), Cond.methodLink RX6 113 yX6_gatherFitting, Cond.instanceMethod yX6_gatherFitting, Cond.selects RX6 yX6_gatherFitting yX6_gatherFitting, Cond.code yX6_gatherFitting cX6_gatherFitting 7 none, Cond.fieldLink RX6 137 "RummyTable$Walk" "unit" "I", Cond.fieldLink RX6 140 "RummyTable$Walk" "fits" "I"]
def wsX7_layAllBest_r4 : List Cond := [Cond.fieldLink RX6 9 "RummyTable$Walk" "steps" "[I", Cond.fieldLink RX6 15 "RummyTable$Walk" "fitting" "[I", Cond.fieldLink RX6 18 "RummyTable$Walk" "firstFit" "[I", Cond.methodLink RX6 130 yX0_coloursOf, Cond.static yX0_coloursOf, Cond.code yX0_coloursOf cX0_coloursOf 3 (some .int), Cond.methodLink RX6 134 yX0_worthOfNumber, Cond.static yX0_worthOfNumber, Cond.code yX0_worthOfNumber cX0_worthOfNumber 1 (some .int), Cond.methodLink RX0 9 Lib.Math.min.name, Cond.methodLink RX6 143 yX5_shown, Cond.static yX5_shown, Cond.initialized RX5, Cond.code yX5_shown cX5_shown 1 (some .int), Cond.methodLink RX6 146 yJ6_bitCount_0f7a4, Cond.static yJ6_bitCount_0f7a4, Cond.initialized RJ6, Cond.code yJ6_bitCount_0f7a4 cJ6_bitCount_0f7a4 1 (some .int), Cond.constant RJ6 265 (1431655765), Cond.constant RJ6 266 (858993459), Cond.constant RJ6 267 (252645135), Cond.methodLink RX6 151 yX6_setGains, Cond.instanceMethod yX6_setGains, Cond.selects RX6 yX6_setGains yX6_setGains]
def wsX7_layAllBest_r5 : List Cond := [Cond.code yX6_setGains cX6_setGains 8 none, Cond.fieldLink RX6 21 "RummyTable$Walk" "gains" "[J", Cond.methodLink RX6 154 yX6_gainOf, Cond.instanceMethod yX6_gainOf, Cond.selects RX6 yX6_gainOf yX6_gainOf, Cond.code yX6_gainOf cX6_gainOf 6 (some .long), Cond.methodLink RX6 157 yX6_withoutLast, Cond.static yX6_withoutLast, Cond.code yX6_withoutLast cX6_withoutLast 2 (some .int), Cond.methodLink RX6 35 yX5_continued, Cond.static yX5_continued, Cond.code yX5_continued cX5_continued 1 (some .int), Cond.methodLink RX6 116 yX6_goOnFrom, Cond.instanceMethod yX6_goOnFrom, Cond.selects RX6 yX6_goOnFrom yX6_goOnFrom, Cond.code yX6_goOnFrom cX6_goOnFrom 4 none, Cond.methodLink RX6 119 yX5_canContinue, Cond.static yX5_canContinue, Cond.code yX5_canContinue cX5_canContinue 4 (some .boolean), Cond.methodLink RX6 123 yX5_stateAfter, Cond.static yX5_stateAfter, Cond.code yX5_stateAfter cX5_stateAfter 3 (some .int), Cond.methodLink RX5 26 yX5_continued, Cond.methodLink RX5 23 yX5_begun]
def wsX7_layAllBest_r6 : List Cond := [Cond.static yX5_begun, Cond.code yX5_begun cX5_begun 1 (some .int), Cond.methodLink RX6 126 yX6_carry, Cond.instanceMethod yX6_carry, Cond.selects RX6 yX6_carry yX6_carry, Cond.code yX6_carry cX6_carry 12 none, Cond.methodLink RX6 99 Lib.MathLoose.max_long.x, Cond.static Lib.MathLoose.max_long.x, Cond.code Lib.MathLoose.max_long.x Lib.MathLoose.max_long.code 4 (some .long), Cond.methodLink RX6 73 yX3_at, Cond.instanceMethod yX3_at, Cond.selects RX3 yX3_at yX3_at, Cond.code yX3_at cX3_at 3 (some .long), Cond.methodLink RX6 86 yX6_greatestAtEnd, Cond.instanceMethod yX6_greatestAtEnd, Cond.selects RX6 yX6_greatestAtEnd yX6_greatestAtEnd, Cond.code yX6_greatestAtEnd cX6_greatestAtEnd 5 (some .long), Cond.methodLink RX6 69 yX5_mayEnd, Cond.static yX5_mayEnd, Cond.code yX5_mayEnd cX5_mayEnd 1 (some .boolean), Cond.methodLink RX6 92 yX6_cardsOfKey, Cond.instanceMethod yX6_cardsOfKey, Cond.selects RX6 yX6_cardsOfKey yX6_cardsOfKey, Cond.code yX6_cardsOfKey cX6_cardsOfKey 6 (some .long)]
def wsX7_layAllBest_r7 : List Cond := [Cond.methodLink RX6 96 yX6_firstJokers, Cond.instanceMethod yX6_firstJokers, Cond.selects RX6 yX6_firstJokers yX6_firstJokers, Cond.code yX6_firstJokers cX6_firstJokers 6 (some .long), Cond.methodLink RX7 155 yX7_tryLaying, Cond.instanceMethod yX7_tryLaying, Cond.selects RX7 yX7_tryLaying yX7_tryLaying, Cond.initialized RX7, Cond.code yX7_tryLaying cX7_tryLaying 3 (some .int), Cond.fieldLink RX7 27 "RummyTable" "search" "LRummyTable$Search;", Cond.fieldLink RX7 45 "RummyTable" "trial" "LRummyTable$Layout;", Cond.fieldLink RX7 48 "RummyTable" "opening" "I", Cond.methodLink RX7 69 yX4_findFirst, Cond.instanceMethod yX4_findFirst, Cond.selects RX4 yX4_findFirst yX4_findFirst, Cond.initialized RX4, Cond.code yX4_findFirst cX4_findFirst 4 (some .boolean), Cond.fieldLink RX4 19 "RummyTable$Search" "set" "J", Cond.fieldLink RX4 11 "RummyTable$Search" "hopeless" "[J", Cond.methodLink RX4 23 yJ7_fill_d0a16, Cond.static yJ7_fill_d0a16, Cond.initialized RJ7, Cond.code yJ7_fill_d0a16 cJ7_fill_d0a16 5 none, Cond.methodLink RX4 29 yX0_jokersIn]
def wsX7_layAllBest_r8 : List Cond := [Cond.methodLink RX4 35 yX4_reachesEnd, Cond.instanceMethod yX4_reachesEnd, Cond.selects RX4 yX4_reachesEnd yX4_reachesEnd, Cond.code yX4_reachesEnd cX4_reachesEnd 10 (some .boolean), Cond.fieldLink RX4 15 "RummyTable$Search" "steps" "[I", Cond.methodLink RX4 44 yX5_mayEnd, Cond.methodLink RX4 50 yX0_coloursOf, Cond.methodLink RX4 54 yX5_shown, Cond.methodLink RX4 58 yX5_continued, Cond.methodLink RX4 61 yX5_canContinue, Cond.methodLink RX4 65 yJ6_bitCount_0f7a4, Cond.methodLink RX4 70 yX5_stateAfter, Cond.methodLink RX7 108 yX2_shownWorth, Cond.instanceMethod yX2_shownWorth, Cond.selects RX2 yX2_shownWorth yX2_shownWorth, Cond.initialized RX2, Cond.code yX2_shownWorth cX2_shownWorth 3 (some .int), Cond.fieldLink RX2 9 "RummyTable$Layout" "steps" "[I", Cond.methodLink RX2 42 yX0_worthOfNumber, Cond.methodLink RX2 39 yX5_shown, Cond.methodLink RX2 34 yJ6_bitCount_0f7a4, Cond.methodLink RX7 158 yX7_carryOut, Cond.instanceMethod yX7_carryOut, Cond.selects RX7 yX7_carryOut yX7_carryOut]
def wsX7_layAllBest_r9 : List Cond := [Cond.code yX7_carryOut cX7_carryOut 3 none, Cond.methodLink RX7 172 yX1_putDown, Cond.instanceMethod yX1_putDown, Cond.selects RX1 yX1_putDown yX1_putDown, Cond.code yX1_putDown cX1_putDown 3 none, Cond.fieldLink RX1 52 "RummyTable$Game" "turn" "I", Cond.constantLong RX1 79 (-1), Cond.fieldLink RX1 48 "RummyTable$Game" "lying" "J", Cond.fieldLink RX1 58 "RummyTable$Game" "layings" "I", Cond.fieldLink RX1 64 "RummyTable$Game" "over" "Z", Cond.fieldLink RX1 68 "RummyTable$Game" "winner" "I", Cond.methodLink RX7 73 yX7_keepTrial, Cond.instanceMethod yX7_keepTrial, Cond.selects RX7 yX7_keepTrial yX7_keepTrial, Cond.code yX7_keepTrial cX7_keepTrial 2 none, Cond.fieldLink RX7 41 "RummyTable" "kept" "LRummyTable$Layout;", Cond.methodLink RX7 142 yJ13_bitCount_95d88]
def wsX7_layAllBest : List Cond := .code yX7_layAllBest cX7_layAllBest 8 (some .int) :: ((wsX7_layAllBest_r1 ++ (wsX7_layAllBest_r2 ++ (wsX7_layAllBest_r3 ++ (wsX7_layAllBest_r4 ++ (wsX7_layAllBest_r5 ++ (wsX7_layAllBest_r6 ++ (wsX7_layAllBest_r7 ++ (wsX7_layAllBest_r8 ++ wsX7_layAllBest_r9)))))))) ++ wsX70 ++ wsX10 ++ wsX60 ++ wsX30 ++ wsX40 ++ wsX20)
def wsX7_robot_r1 : List Cond := [Cond.fieldLink RX7 34 "RummyTable" "game" "LRummyTable$Game;", Cond.fieldLink RX7 52 "RummyTable" "status" "I", Cond.methodLink RX7 83 yX7_isAim, Cond.static yX7_isAim, Cond.initialized RX7, Cond.code yX7_isAim cX7_isAim 1 (some .boolean), Cond.methodLink RX7 61 yX7_refuse, Cond.instanceMethod yX7_refuse, Cond.selects RX7 yX7_refuse yX7_refuse, Cond.code yX7_refuse cX7_refuse 2 (some .int), Cond.methodLink RX7 147 yX7_barToPlay, Cond.instanceMethod yX7_barToPlay, Cond.selects RX7 yX7_barToPlay yX7_barToPlay, Cond.code yX7_barToPlay cX7_barToPlay 1 (some .int), Cond.methodLink RX7 122 yX1_isDealt, Cond.instanceMethod yX1_isDealt, Cond.selects RX1 yX1_isDealt yX1_isDealt, Cond.initialized RX1, Cond.code yX1_isDealt cX1_isDealt 1 (some .boolean), Cond.fieldLink RX1 33 "RummyTable$Game" "players" "I", Cond.methodLink RX7 165 yX7_layAllBest, Cond.instanceMethod yX7_layAllBest, Cond.selects RX7 yX7_layAllBest yX7_layAllBest, Cond.code yX7_layAllBest cX7_layAllBest 8 (some .int)]
def wsX7_robot_r2 : List Cond := [Cond.fieldLink RX7 20 "RummyTable" "walk" "LRummyTable$Walk;", Cond.methodLink RX7 139 yX1_hasOpened, Cond.instanceMethod yX1_hasOpened, Cond.selects RX1 yX1_hasOpened yX1_hasOpened, Cond.code yX1_hasOpened cX1_hasOpened 2 (some .boolean), Cond.fieldLink RX1 15 "RummyTable$Game" "opened" "[Z", Cond.methodLink RX1 75 yX1_has, Cond.instanceMethod yX1_has, Cond.selects RX1 yX1_has yX1_has, Cond.code yX1_has cX1_has 2 (some .boolean), Cond.methodLink RX7 129 yX1_handOf, Cond.instanceMethod yX1_handOf, Cond.selects RX1 yX1_handOf yX1_handOf, Cond.code yX1_handOf cX1_handOf 2 (some .long), Cond.fieldLink RX1 9 "RummyTable$Game" "hands" "[J", Cond.methodLink RX7 87 yX6_bestPart, Cond.instanceMethod yX6_bestPart, Cond.selects RX6 yX6_bestPart yX6_bestPart, Cond.initialized RX6, Cond.code yX6_bestPart cX6_bestPart 14 (some .long), Cond.fieldLink RX6 41 "RummyTable$Walk" "must" "J", Cond.fieldLink RX6 45 "RummyTable$Walk" "may" "J", Cond.fieldLink RX6 48 "RummyTable$Walk" "counting" "Z", Cond.fieldLink RX6 77 "RummyTable$Walk" "byWorth" "Z"]
def wsX7_robot_r3 : List Cond := [Cond.methodLink RX6 80 Lib.Math.min.name, Cond.static Lib.Math.min.name, Cond.initialized "java/lang/Math", Cond.code Lib.Math.min.name Lib.Math.min.code 2 (some .int), Cond.constantLong RX6 90 (-1), Cond.methodLink RX6 52 yX0_jokersIn, Cond.static yX0_jokersIn, Cond.initialized RX0, Cond.code yX0_jokersIn cX0_jokersIn 2 (some .int), Cond.methodLink RX0 34 yJ13_bitCount_95d88, Cond.static yJ13_bitCount_95d88, Cond.initialized RJ13, Cond.code yJ13_bitCount_95d88 cJ13_bitCount_95d88 2 (some .int), Cond.constantLong RJ13 314 (6148914691236517205), Cond.constantLong RJ13 316 (3689348814741910323), Cond.constantLong RJ13 318 (1085102592571150095), Cond.methodLink RX6 58 yX6_goThrough, Cond.instanceMethod yX6_goThrough, Cond.selects RX6 yX6_goThrough yX6_goThrough, Cond.code yX6_goThrough cX6_goThrough 4 none, Cond.fieldLink RX6 103 "RummyTable$Walk" "jokers" "I", Cond.fieldLink RX6 28 "RummyTable$Walk" "here" "LRummyTable$Row;", Cond.fieldLink RX6 32 "RummyTable$Walk" "there" "LRummyTable$Row;", Cond.methodLink RX6 106 yX3_clear]
def wsX7_robot_r4 : List Cond := [Cond.instanceMethod yX3_clear, Cond.selects RX3 yX3_clear yX3_clear, Cond.initialized RX3, Cond.code yX3_clear cX3_clear 4 none, Cond.fieldLink RX3 23 "RummyTable$Row" "count" "I", Cond.fieldLink RX3 19 "RummyTable$Row" "states" "[I", Cond.fieldLink RX3 15 "RummyTable$Row" "listed" "[Z", Cond.fieldLink RX3 9 "RummyTable$Row" "cells" "[J", Cond.methodLink RX6 109 yX3_put, Cond.instanceMethod yX3_put, Cond.selects RX3 yX3_put yX3_put, Cond.code yX3_put cX3_put 5 none, Cond.methodLink RX3 27 yX3_isCell, Cond.static yX3_isCell, Cond.code yX3_isCell cX3_isCell 2 (some .boolean), Cond.methodLink RX6 113 yX6_gatherFitting, Cond.instanceMethod yX6_gatherFitting, Cond.selects RX6 yX6_gatherFitting yX6_gatherFitting, Cond.code yX6_gatherFitting cX6_gatherFitting 7 none, Cond.fieldLink RX6 137 "RummyTable$Walk" "unit" "I", Cond.fieldLink RX6 140 "RummyTable$Walk" "fits" "I", Cond.fieldLink RX6 9 "RummyTable$Walk" "steps" "[I", Cond.fieldLink RX6 15 "RummyTable$Walk" "fitting" "[I", Cond.fieldLink RX6 18 "RummyTable$Walk" "firstFit" "[I"]
def wsX7_robot_r5 : List Cond := [Cond.methodLink RX6 130 yX0_coloursOf, Cond.static yX0_coloursOf, Cond.code yX0_coloursOf cX0_coloursOf 3 (some .int), Cond.methodLink RX6 134 yX0_worthOfNumber, Cond.static yX0_worthOfNumber, Cond.code yX0_worthOfNumber cX0_worthOfNumber 1 (some .int), Cond.methodLink RX0 9 Lib.Math.min.name, Cond.methodLink RX6 143 yX5_shown, Cond.static yX5_shown, Cond.initialized RX5, Cond.code yX5_shown cX5_shown 1 (some .int), Cond.methodLink RX6 146 yJ6_bitCount_0f7a4, Cond.static yJ6_bitCount_0f7a4, Cond.initialized RJ6, Cond.code yJ6_bitCount_0f7a4 cJ6_bitCount_0f7a4 1 (some .int), Cond.constant RJ6 265 (1431655765), Cond.constant RJ6 266 (858993459), Cond.constant RJ6 267 (252645135), Cond.methodLink RX6 151 yX6_setGains, Cond.instanceMethod yX6_setGains, Cond.selects RX6 yX6_setGains yX6_setGains, Cond.code yX6_setGains cX6_setGains 8 none, Cond.fieldLink RX6 21 "RummyTable$Walk" "gains" "[J", Cond.methodLink RX6 154 yX6_gainOf]
def wsX7_robot_r6 : List Cond := [Cond.instanceMethod yX6_gainOf, Cond.selects RX6 yX6_gainOf yX6_gainOf, Cond.code yX6_gainOf cX6_gainOf 6 (some .long), Cond.methodLink RX6 157 yX6_withoutLast, Cond.static yX6_withoutLast, Cond.code yX6_withoutLast cX6_withoutLast 2 (some .int), Cond.methodLink RX6 35 yX5_continued, Cond.static yX5_continued, Cond.code yX5_continued cX5_continued 1 (some .int), Cond.methodLink RX6 116 yX6_goOnFrom, Cond.instanceMethod yX6_goOnFrom, Cond.selects RX6 yX6_goOnFrom yX6_goOnFrom, Cond.code yX6_goOnFrom cX6_goOnFrom 4 none, Cond.methodLink RX6 119 yX5_canContinue, Cond.static yX5_canContinue, Cond.code yX5_canContinue cX5_canContinue 4 (some .boolean), Cond.methodLink RX6 123 yX5_stateAfter, Cond.static yX5_stateAfter, Cond.code yX5_stateAfter cX5_stateAfter 3 (some .int), Cond.methodLink RX5 26 yX5_continued, Cond.methodLink RX5 23 yX5_begun, Cond.static yX5_begun, Cond.code yX5_begun cX5_begun 1 (some .int), Cond.methodLink RX6 126 yX6_carry]
def wsX7_robot_r7 : List Cond := [Cond.instanceMethod yX6_carry, Cond.selects RX6 yX6_carry yX6_carry, Cond.code yX6_carry cX6_carry 12 none, Cond.methodLink RX6 99 Lib.MathLoose.max_long.x, Cond.static Lib.MathLoose.max_long.x, Cond.code Lib.MathLoose.max_long.x Lib.MathLoose.max_long.code 4 (some .long), Cond.methodLink RX6 73 yX3_at, Cond.instanceMethod yX3_at, Cond.selects RX3 yX3_at yX3_at, Cond.code yX3_at cX3_at 3 (some .long), Cond.methodLink RX6 86 yX6_greatestAtEnd, Cond.instanceMethod yX6_greatestAtEnd, Cond.selects RX6 yX6_greatestAtEnd yX6_greatestAtEnd, Cond.code yX6_greatestAtEnd cX6_greatestAtEnd 5 (some .long), Cond.methodLink RX6 69 yX5_mayEnd, Cond.static yX5_mayEnd, Cond.code yX5_mayEnd cX5_mayEnd 1 (some .boolean), Cond.methodLink RX6 92 yX6_cardsOfKey, Cond.instanceMethod yX6_cardsOfKey, Cond.selects RX6 yX6_cardsOfKey yX6_cardsOfKey, Cond.code yX6_cardsOfKey cX6_cardsOfKey 6 (some .long), Cond.methodLink RX6 96 yX6_firstJokers, Cond.instanceMethod yX6_firstJokers, Cond.selects RX6 yX6_firstJokers yX6_firstJokers]
def wsX7_robot_r8 : List Cond := [Cond.code yX6_firstJokers cX6_firstJokers 6 (some .long), Cond.methodLink RX7 155 yX7_tryLaying, Cond.instanceMethod yX7_tryLaying, Cond.selects RX7 yX7_tryLaying yX7_tryLaying, Cond.code yX7_tryLaying cX7_tryLaying 3 (some .int), Cond.fieldLink RX7 27 "RummyTable" "search" "LRummyTable$Search;", Cond.fieldLink RX7 45 "RummyTable" "trial" "LRummyTable$Layout;", Cond.fieldLink RX7 48 "RummyTable" "opening" "I", Cond.methodLink RX7 69 yX4_findFirst, Cond.instanceMethod yX4_findFirst, Cond.selects RX4 yX4_findFirst yX4_findFirst, Cond.initialized RX4, Cond.code yX4_findFirst cX4_findFirst 4 (some .boolean), Cond.fieldLink RX4 19 "RummyTable$Search" "set" "J", Cond.fieldLink RX4 11 "RummyTable$Search" "hopeless" "[J", Cond.methodLink RX4 23 yJ7_fill_d0a16, Cond.static yJ7_fill_d0a16, Cond.initialized RJ7, Cond.code yJ7_fill_d0a16 cJ7_fill_d0a16 5 none, Cond.methodLink RX4 29 yX0_jokersIn, Cond.methodLink RX4 35 yX4_reachesEnd, Cond.instanceMethod yX4_reachesEnd, Cond.selects RX4 yX4_reachesEnd yX4_reachesEnd, Cond.code yX4_reachesEnd cX4_reachesEnd 10 (some .boolean)]
def wsX7_robot_r9 : List Cond := [Cond.fieldLink RX4 15 "RummyTable$Search" "steps" "[I", Cond.methodLink RX4 44 yX5_mayEnd, Cond.methodLink RX4 50 yX0_coloursOf, Cond.methodLink RX4 54 yX5_shown, Cond.methodLink RX4 58 yX5_continued, Cond.methodLink RX4 61 yX5_canContinue, Cond.methodLink RX4 65 yJ6_bitCount_0f7a4, Cond.methodLink RX4 70 yX5_stateAfter, Cond.methodLink RX7 108 yX2_shownWorth, Cond.instanceMethod yX2_shownWorth, Cond.selects RX2 yX2_shownWorth yX2_shownWorth, Cond.initialized RX2, Cond.code yX2_shownWorth cX2_shownWorth 3 (some .int), Cond.fieldLink RX2 9 "RummyTable$Layout" "steps" "[I", Cond.methodLink RX2 42 yX0_worthOfNumber, Cond.methodLink RX2 39 yX5_shown, Cond.methodLink RX2 34 yJ6_bitCount_0f7a4, Cond.methodLink RX7 158 yX7_carryOut, Cond.instanceMethod yX7_carryOut, Cond.selects RX7 yX7_carryOut yX7_carryOut, Cond.code yX7_carryOut cX7_carryOut 3 none, Cond.methodLink RX7 172 yX1_putDown, Cond.instanceMethod yX1_putDown, Cond.selects RX1 yX1_putDown yX1_putDown]
def wsX7_robot_r10 : List Cond := [Cond.code yX1_putDown cX1_putDown 3 none, Cond.fieldLink RX1 52 "RummyTable$Game" "turn" "I", Cond.constantLong RX1 79 (-1), Cond.fieldLink RX1 48 "RummyTable$Game" "lying" "J", Cond.fieldLink RX1 58 "RummyTable$Game" "layings" "I", Cond.fieldLink RX1 64 "RummyTable$Game" "over" "Z", Cond.fieldLink RX1 68 "RummyTable$Game" "winner" "I", Cond.methodLink RX7 73 yX7_keepTrial, Cond.instanceMethod yX7_keepTrial, Cond.selects RX7 yX7_keepTrial yX7_keepTrial, Cond.code yX7_keepTrial cX7_keepTrial 2 none, Cond.fieldLink RX7 41 "RummyTable" "kept" "LRummyTable$Layout;", Cond.methodLink RX7 142 yJ13_bitCount_95d88, Cond.methodLink RX7 162 yX1_endTurn, Cond.instanceMethod yX1_endTurn, Cond.selects RX1 yX1_endTurn yX1_endTurn, Cond.code yX1_endTurn cX1_endTurn 2 (some .int), Cond.fieldLink RX1 61 "RummyTable$Game" "idleTurns" "I", Cond.fieldLink RX1 55 "RummyTable$Game" "turnsEnded" "I", Cond.methodLink RX1 40 yX1_drawn, Cond.instanceMethod yX1_drawn, Cond.selects RX1 yX1_drawn yX1_drawn, Cond.code yX1_drawn cX1_drawn 2 (some .int), Cond.fieldLink RX1 37 "RummyTable$Game" "top" "I"]
def wsX7_robot_r11 : List Cond := [Cond.fieldLink RX1 19 "RummyTable$Game" "pack" "[I", Cond.methodLink RX1 44 yX1_bitOf, Cond.static yX1_bitOf, Cond.code yX1_bitOf cX1_bitOf 1 (some .long)]
def wsX7_robot : List Cond := .code yX7_robot cX7_robot 4 (some .int) :: ((wsX7_robot_r1 ++ (wsX7_robot_r2 ++ (wsX7_robot_r3 ++ (wsX7_robot_r4 ++ (wsX7_robot_r5 ++ (wsX7_robot_r6 ++ (wsX7_robot_r7 ++ (wsX7_robot_r8 ++ (wsX7_robot_r9 ++ (wsX7_robot_r10 ++ wsX7_robot_r11)))))))))) ++ wsX70 ++ wsX10 ++ wsX60 ++ wsX30 ++ wsX40 ++ wsX20)
def wsX8_init : List Cond := .code yX8_init cX8_init 1 none :: ([.methodLink RX8 1 objectInit, .instanceMethod objectInit, .code objectInit ⟨#[0xb1]⟩ 1 none, .constant RX8 7 (203520), .arrayClass .long, .fieldLink RX8 8 "RummyTableModel" "ways" "[J", .arrayClass .int, .fieldLink RX8 14 "RummyTableModel" "places" "[I", .arrayClass .boolean, .fieldLink RX8 18 "RummyTableModel" "stands" "[Z", .fieldLink RX8 22 "RummyTableModel" "most" "[I", .fieldLink RX8 25 "RummyTableModel" "here" "[Z", .fieldLink RX8 28 "RummyTableModel" "there" "[Z", .fieldLink RX8 31 "RummyTableModel" "opening" "I", .fieldLink RX8 35 "RummyTableModel" "hands" "[J", .fieldLink RX8 38 "RummyTableModel" "opened" "[Z", .fieldLink RX8 41 "RummyTableModel" "cards" "[I", .fieldLink RX8 44 "RummyTableModel" "oldPlaces" "[I", .fieldLink RX8 47 "RummyTableModel" "oldStands" "[Z"] ++ wsX80)
def wsX8_status : List Cond := .code yX8_status cX8_status 1 (some .int) :: ([.fieldLink RX8 50 "RummyTableModel" "status" "I"] ++ wsX80)
def wsX8_none : List Cond := .code yX8_none cX8_none 2 (some .int) :: ([.fieldLink RX8 50 "RummyTableModel" "status" "I"] ++ wsX80)
def wsX8_isSet : List Cond := .code yX8_isSet cX8_isSet 2 (some .boolean) :: ([.constantLong RX8 53 (18014398509481983)])
def wsX8_has : List Cond := .code yX8_has cX8_has 3 (some .boolean) :: ([])
def wsX8_jokersOf : List Cond := .code yX8_jokersOf cX8_jokersOf 2 (some .int) :: ([])
def wsX8_worthOf : List Cond := .code yX8_worthOf cX8_worthOf 1 (some .int) :: ([])
def wsX8_many : List Cond := .code yX8_many cX8_many 4 (some .int) :: ([.methodLink RX8 55 yX8_has, .static yX8_has, .initialized RX8, .code yX8_has cX8_has 3 (some .boolean)])
def wsX8_worthAll : List Cond := .code yX8_worthAll cX8_worthAll 4 (some .int) :: ([.methodLink RX8 55 yX8_has, .static yX8_has, .initialized RX8, .code yX8_has cX8_has 3 (some .boolean), .methodLink RX8 59 yX8_worthOf, .static yX8_worthOf, .code yX8_worthOf cX8_worthOf 1 (some .int)])
def wsX8_run : List Cond := .code yX8_run cX8_run 2 (some .int) :: ([])
def wsX8_inGroup : List Cond := .code yX8_inGroup cX8_inGroup 1 (some .int) :: ([])
def wsX8_jokers : List Cond := .code yX8_jokers cX8_jokers 1 (some .int) :: ([])
def wsX8_behind : List Cond := .code yX8_behind cX8_behind 10 (some .int) :: ([.methodLink RX8 63 yX8_run, .static yX8_run, .initialized RX8, .code yX8_run cX8_run 2 (some .int), .methodLink RX8 67 yX8_inGroup, .static yX8_inGroup, .code yX8_inGroup cX8_inGroup 1 (some .int), .methodLink RX8 70 yX8_jokers, .static yX8_jokers, .code yX8_jokers cX8_jokers 1 (some .int)])
def wsX8_isWhole : List Cond := .code yX8_isWhole cX8_isWhole 2 (some .boolean) :: ([.methodLink RX8 63 yX8_run, .static yX8_run, .initialized RX8, .code yX8_run cX8_run 2 (some .int), .methodLink RX8 67 yX8_inGroup, .static yX8_inGroup, .code yX8_inGroup cX8_inGroup 1 (some .int)])
def wsX8_count : List Cond := .code yX8_count cX8_count 10 none :: ([.fieldLink RX8 8 "RummyTableModel" "ways" "[J", .constant RX8 73 (199680), .methodLink RX8 74 yX8_isWhole, .static yX8_isWhole, .initialized RX8, .code yX8_isWhole cX8_isWhole 2 (some .boolean), .methodLink RX8 63 yX8_run, .static yX8_run, .code yX8_run cX8_run 2 (some .int), .methodLink RX8 67 yX8_inGroup, .static yX8_inGroup, .code yX8_inGroup cX8_inGroup 1 (some .int), .methodLink RX8 70 yX8_jokers, .static yX8_jokers, .code yX8_jokers cX8_jokers 1 (some .int), .methodLink RX8 78 yX8_jokersOf, .static yX8_jokersOf, .code yX8_jokersOf cX8_jokersOf 2 (some .int), .methodLink RX8 55 yX8_has, .static yX8_has, .code yX8_has cX8_has 3 (some .boolean), .methodLink RX8 82 yX8_behind, .static yX8_behind, .code yX8_behind cX8_behind 10 (some .int)] ++ wsX80)
def wsX8_ways_r1 : List Cond := [Cond.fieldLink RX8 50 "RummyTableModel" "status" "I", Cond.fieldLink RX8 8 "RummyTableModel" "ways" "[J", Cond.methodLink RX8 86 yX8_isSet, Cond.static yX8_isSet, Cond.initialized RX8, Cond.code yX8_isSet cX8_isSet 2 (some .boolean), Cond.constantLong RX8 53 (18014398509481983), Cond.methodLink RX8 90 yX8_none, Cond.instanceMethod yX8_none, Cond.selects RX8 yX8_none yX8_none, Cond.code yX8_none cX8_none 2 (some .int), Cond.methodLink RX8 93 yX8_count, Cond.instanceMethod yX8_count, Cond.selects RX8 yX8_count yX8_count, Cond.code yX8_count cX8_count 10 none, Cond.constant RX8 73 (199680), Cond.methodLink RX8 74 yX8_isWhole, Cond.static yX8_isWhole, Cond.code yX8_isWhole cX8_isWhole 2 (some .boolean), Cond.methodLink RX8 63 yX8_run, Cond.static yX8_run, Cond.code yX8_run cX8_run 2 (some .int), Cond.methodLink RX8 67 yX8_inGroup, Cond.static yX8_inGroup]
def wsX8_ways_r2 : List Cond := [Cond.code yX8_inGroup cX8_inGroup 1 (some .int), Cond.methodLink RX8 70 yX8_jokers, Cond.static yX8_jokers, Cond.code yX8_jokers cX8_jokers 1 (some .int), Cond.methodLink RX8 78 yX8_jokersOf, Cond.static yX8_jokersOf, Cond.code yX8_jokersOf cX8_jokersOf 2 (some .int), Cond.methodLink RX8 55 yX8_has, Cond.static yX8_has, Cond.code yX8_has cX8_has 3 (some .boolean), Cond.methodLink RX8 82 yX8_behind, Cond.static yX8_behind, Cond.code yX8_behind cX8_behind 10 (some .int)]
def wsX8_ways : List Cond := .code yX8_ways cX8_ways 3 (some .long) :: ((wsX8_ways_r1 ++ wsX8_ways_r2) ++ wsX80)
def wsX8_keeps_r1 : List Cond := [Cond.fieldLink RX8 8 "RummyTableModel" "ways" "[J", Cond.fieldLink RX8 14 "RummyTableModel" "places" "[I", Cond.fieldLink RX8 18 "RummyTableModel" "stands" "[Z", Cond.methodLink RX8 93 yX8_count, Cond.instanceMethod yX8_count, Cond.selects RX8 yX8_count yX8_count, Cond.initialized RX8, Cond.code yX8_count cX8_count 10 none, Cond.constant RX8 73 (199680), Cond.methodLink RX8 74 yX8_isWhole, Cond.static yX8_isWhole, Cond.code yX8_isWhole cX8_isWhole 2 (some .boolean), Cond.methodLink RX8 63 yX8_run, Cond.static yX8_run, Cond.code yX8_run cX8_run 2 (some .int), Cond.methodLink RX8 67 yX8_inGroup, Cond.static yX8_inGroup, Cond.code yX8_inGroup cX8_inGroup 1 (some .int), Cond.methodLink RX8 70 yX8_jokers, Cond.static yX8_jokers, Cond.code yX8_jokers cX8_jokers 1 (some .int), Cond.methodLink RX8 78 yX8_jokersOf, Cond.static yX8_jokersOf, Cond.code yX8_jokersOf cX8_jokersOf 2 (some .int)]
def wsX8_keeps_r2 : List Cond := [Cond.methodLink RX8 55 yX8_has, Cond.static yX8_has, Cond.code yX8_has cX8_has 3 (some .boolean), Cond.methodLink RX8 82 yX8_behind, Cond.static yX8_behind, Cond.code yX8_behind cX8_behind 10 (some .int)]
def wsX8_keeps : List Cond := .code yX8_keeps cX8_keeps 8 (some .boolean) :: ((wsX8_keeps_r1 ++ wsX8_keeps_r2) ++ wsX80)
def wsX8_melds : List Cond := .code yX8_melds cX8_melds 4 (some .int) :: ([.fieldLink RX8 14 "RummyTableModel" "places" "[I"] ++ wsX80)
def wsX8_layout_r1 : List Cond := [Cond.fieldLink RX8 50 "RummyTableModel" "status" "I", Cond.methodLink RX8 86 yX8_isSet, Cond.static yX8_isSet, Cond.initialized RX8, Cond.code yX8_isSet cX8_isSet 2 (some .boolean), Cond.constantLong RX8 53 (18014398509481983), Cond.methodLink RX8 90 yX8_none, Cond.instanceMethod yX8_none, Cond.selects RX8 yX8_none yX8_none, Cond.code yX8_none cX8_none 2 (some .int), Cond.methodLink RX8 97 yX8_keeps, Cond.instanceMethod yX8_keeps, Cond.selects RX8 yX8_keeps yX8_keeps, Cond.code yX8_keeps cX8_keeps 8 (some .boolean), Cond.fieldLink RX8 8 "RummyTableModel" "ways" "[J", Cond.fieldLink RX8 14 "RummyTableModel" "places" "[I", Cond.fieldLink RX8 18 "RummyTableModel" "stands" "[Z", Cond.methodLink RX8 93 yX8_count, Cond.instanceMethod yX8_count, Cond.selects RX8 yX8_count yX8_count, Cond.code yX8_count cX8_count 10 none, Cond.constant RX8 73 (199680), Cond.methodLink RX8 74 yX8_isWhole, Cond.static yX8_isWhole]
def wsX8_layout_r2 : List Cond := [Cond.code yX8_isWhole cX8_isWhole 2 (some .boolean), Cond.methodLink RX8 63 yX8_run, Cond.static yX8_run, Cond.code yX8_run cX8_run 2 (some .int), Cond.methodLink RX8 67 yX8_inGroup, Cond.static yX8_inGroup, Cond.code yX8_inGroup cX8_inGroup 1 (some .int), Cond.methodLink RX8 70 yX8_jokers, Cond.static yX8_jokers, Cond.code yX8_jokers cX8_jokers 1 (some .int), Cond.methodLink RX8 78 yX8_jokersOf, Cond.static yX8_jokersOf, Cond.code yX8_jokersOf cX8_jokersOf 2 (some .int), Cond.methodLink RX8 55 yX8_has, Cond.static yX8_has, Cond.code yX8_has cX8_has 3 (some .boolean), Cond.methodLink RX8 82 yX8_behind, Cond.static yX8_behind, Cond.code yX8_behind cX8_behind 10 (some .int), Cond.methodLink RX8 100 yX8_melds, Cond.instanceMethod yX8_melds, Cond.selects RX8 yX8_melds yX8_melds, Cond.code yX8_melds cX8_melds 4 (some .int)]
def wsX8_layout : List Cond := .code yX8_layout cX8_layout 3 (some .int) :: ((wsX8_layout_r1 ++ wsX8_layout_r2) ++ wsX80)
def wsX8_place : List Cond := .code yX8_place cX8_place 2 (some .int) :: ([.fieldLink RX8 14 "RummyTableModel" "places" "[I"] ++ wsX80)
def wsX8_stands : List Cond := .code yX8_stands cX8_stands 2 (some .int) :: ([.fieldLink RX8 18 "RummyTableModel" "stands" "[Z"] ++ wsX80)
def wsX8_runs : List Cond := .code yX8_runs cX8_runs 3 (some .int) :: ([.fieldLink RX8 14 "RummyTableModel" "places" "[I"] ++ wsX80)
def wsX8_shown : List Cond := .code yX8_shown cX8_shown 3 (some .int) :: ([.fieldLink RX8 14 "RummyTableModel" "places" "[I"] ++ wsX80)
def wsX8_stood : List Cond := .code yX8_stood cX8_stood 3 (some .int) :: ([.fieldLink RX8 18 "RummyTableModel" "stands" "[Z"] ++ wsX80)
def wsX8_worthShown : List Cond := .code yX8_worthShown cX8_worthShown 3 (some .int) :: ([.fieldLink RX8 14 "RummyTableModel" "places" "[I", .methodLink RX8 59 yX8_worthOf, .static yX8_worthOf, .initialized RX8, .code yX8_worthOf cX8_worthOf 1 (some .int)] ++ wsX80)
def wsX8_longest : List Cond := .code yX8_longest cX8_longest 5 (some .int) :: ([.fieldLink RX8 14 "RummyTableModel" "places" "[I"] ++ wsX80)
def wsX8_shows_r1 : List Cond := [Cond.methodLink RX8 100 yX8_melds, Cond.instanceMethod yX8_melds, Cond.selects RX8 yX8_melds yX8_melds, Cond.initialized RX8, Cond.code yX8_melds cX8_melds 4 (some .int), Cond.fieldLink RX8 14 "RummyTableModel" "places" "[I", Cond.methodLink RX8 104 yX8_runs, Cond.instanceMethod yX8_runs, Cond.selects RX8 yX8_runs yX8_runs, Cond.code yX8_runs cX8_runs 3 (some .int), Cond.methodLink RX8 107 yX8_shown, Cond.instanceMethod yX8_shown, Cond.selects RX8 yX8_shown yX8_shown, Cond.code yX8_shown cX8_shown 3 (some .int), Cond.methodLink RX8 110 yX8_stood, Cond.instanceMethod yX8_stood, Cond.selects RX8 yX8_stood yX8_stood, Cond.code yX8_stood cX8_stood 3 (some .int), Cond.fieldLink RX8 18 "RummyTableModel" "stands" "[Z", Cond.methodLink RX8 113 yX8_worthShown, Cond.instanceMethod yX8_worthShown, Cond.selects RX8 yX8_worthShown yX8_worthShown, Cond.code yX8_worthShown cX8_worthShown 3 (some .int), Cond.methodLink RX8 59 yX8_worthOf]
def wsX8_shows_r2 : List Cond := [Cond.static yX8_worthOf, Cond.code yX8_worthOf cX8_worthOf 1 (some .int), Cond.methodLink RX8 116 yX8_longest, Cond.instanceMethod yX8_longest, Cond.selects RX8 yX8_longest yX8_longest, Cond.code yX8_longest cX8_longest 5 (some .int)]
def wsX8_shows : List Cond := .code yX8_shows cX8_shows 2 (some .int) :: ((wsX8_shows_r1 ++ wsX8_shows_r2) ++ wsX80)
def wsX8_worth : List Cond := .code yX8_worth cX8_worth 3 (some .int) :: ([.fieldLink RX8 50 "RummyTableModel" "status" "I", .methodLink RX8 86 yX8_isSet, .static yX8_isSet, .initialized RX8, .code yX8_isSet cX8_isSet 2 (some .boolean), .constantLong RX8 53 (18014398509481983), .methodLink RX8 90 yX8_none, .instanceMethod yX8_none, .selects RX8 yX8_none yX8_none, .code yX8_none cX8_none 2 (some .int), .methodLink RX8 119 yX8_worthAll, .static yX8_worthAll, .code yX8_worthAll cX8_worthAll 4 (some .int), .methodLink RX8 55 yX8_has, .static yX8_has, .code yX8_has cX8_has 3 (some .boolean), .methodLink RX8 59 yX8_worthOf, .static yX8_worthOf, .code yX8_worthOf cX8_worthOf 1 (some .int)] ++ wsX80)
def wsX8_gain : List Cond := .code yX8_gain cX8_gain 2 (some .int) :: ([.methodLink RX8 59 yX8_worthOf, .static yX8_worthOf, .initialized RX8, .code yX8_worthOf cX8_worthOf 1 (some .int)])
def wsX8_after : List Cond := .code yX8_after cX8_after 3 (some .int) :: ([.fieldLink RX8 22 "RummyTableModel" "most" "[I"] ++ wsX80)
def wsX8_reckon_r1 : List Cond := [Cond.fieldLink RX8 22 "RummyTableModel" "most" "[I", Cond.constant RX8 73 (199680), Cond.methodLink RX8 128 Lib.Math.max.name, Cond.static Lib.Math.max.name, Cond.initialized "java/lang/Math", Cond.code Lib.Math.max.name Lib.Math.max.code 2 (some .int), Cond.methodLink RX8 70 yX8_jokers, Cond.static yX8_jokers, Cond.initialized RX8, Cond.code yX8_jokers cX8_jokers 1 (some .int), Cond.methodLink RX8 78 yX8_jokersOf, Cond.static yX8_jokersOf, Cond.code yX8_jokersOf cX8_jokersOf 2 (some .int), Cond.methodLink RX8 74 yX8_isWhole, Cond.static yX8_isWhole, Cond.code yX8_isWhole cX8_isWhole 2 (some .boolean), Cond.methodLink RX8 63 yX8_run, Cond.static yX8_run, Cond.code yX8_run cX8_run 2 (some .int), Cond.methodLink RX8 67 yX8_inGroup, Cond.static yX8_inGroup, Cond.code yX8_inGroup cX8_inGroup 1 (some .int), Cond.methodLink RX8 122 yX8_gain, Cond.static yX8_gain]
def wsX8_reckon_r2 : List Cond := [Cond.code yX8_gain cX8_gain 2 (some .int), Cond.methodLink RX8 59 yX8_worthOf, Cond.static yX8_worthOf, Cond.code yX8_worthOf cX8_worthOf 1 (some .int), Cond.methodLink RX8 55 yX8_has, Cond.static yX8_has, Cond.code yX8_has cX8_has 3 (some .boolean), Cond.methodLink RX8 82 yX8_behind, Cond.static yX8_behind, Cond.code yX8_behind cX8_behind 10 (some .int), Cond.methodLink RX8 125 yX8_after, Cond.instanceMethod yX8_after, Cond.selects RX8 yX8_after yX8_after, Cond.code yX8_after cX8_after 3 (some .int)]
def wsX8_reckon : List Cond := .code yX8_reckon cX8_reckon 12 none :: ((wsX8_reckon_r1 ++ wsX8_reckon_r2) ++ wsX80)
def wsX8_goes : List Cond := .code yX8_goes cX8_goes 8 (some .boolean) :: ([.fieldLink RX8 28 "RummyTableModel" "there" "[Z", .fieldLink RX8 25 "RummyTableModel" "here" "[Z", .fieldLink RX8 22 "RummyTableModel" "most" "[I", .methodLink RX8 82 yX8_behind, .static yX8_behind, .initialized RX8, .code yX8_behind cX8_behind 10 (some .int), .methodLink RX8 63 yX8_run, .static yX8_run, .code yX8_run cX8_run 2 (some .int), .methodLink RX8 67 yX8_inGroup, .static yX8_inGroup, .code yX8_inGroup cX8_inGroup 1 (some .int), .methodLink RX8 70 yX8_jokers, .static yX8_jokers, .code yX8_jokers cX8_jokers 1 (some .int)] ++ wsX80)
def wsX8_bestOf_r1 : List Cond := [Cond.fieldLink RX8 22 "RummyTableModel" "most" "[I", Cond.constantLong RX8 137 (-1), Cond.fieldLink RX8 25 "RummyTableModel" "here" "[Z", Cond.fieldLink RX8 28 "RummyTableModel" "there" "[Z", Cond.methodLink RX8 133 yX8_reckon, Cond.instanceMethod yX8_reckon, Cond.selects RX8 yX8_reckon yX8_reckon, Cond.initialized RX8, Cond.code yX8_reckon cX8_reckon 12 none, Cond.constant RX8 73 (199680), Cond.methodLink RX8 128 Lib.Math.max.name, Cond.static Lib.Math.max.name, Cond.initialized "java/lang/Math", Cond.code Lib.Math.max.name Lib.Math.max.code 2 (some .int), Cond.methodLink RX8 70 yX8_jokers, Cond.static yX8_jokers, Cond.code yX8_jokers cX8_jokers 1 (some .int), Cond.methodLink RX8 78 yX8_jokersOf, Cond.static yX8_jokersOf, Cond.code yX8_jokersOf cX8_jokersOf 2 (some .int), Cond.methodLink RX8 74 yX8_isWhole, Cond.static yX8_isWhole, Cond.code yX8_isWhole cX8_isWhole 2 (some .boolean), Cond.methodLink RX8 63 yX8_run]
def wsX8_bestOf_r2 : List Cond := [Cond.static yX8_run, Cond.code yX8_run cX8_run 2 (some .int), Cond.methodLink RX8 67 yX8_inGroup, Cond.static yX8_inGroup, Cond.code yX8_inGroup cX8_inGroup 1 (some .int), Cond.methodLink RX8 122 yX8_gain, Cond.static yX8_gain, Cond.code yX8_gain cX8_gain 2 (some .int), Cond.methodLink RX8 59 yX8_worthOf, Cond.static yX8_worthOf, Cond.code yX8_worthOf cX8_worthOf 1 (some .int), Cond.methodLink RX8 55 yX8_has, Cond.static yX8_has, Cond.code yX8_has cX8_has 3 (some .boolean), Cond.methodLink RX8 82 yX8_behind, Cond.static yX8_behind, Cond.code yX8_behind cX8_behind 10 (some .int), Cond.methodLink RX8 125 yX8_after, Cond.instanceMethod yX8_after, Cond.selects RX8 yX8_after yX8_after, Cond.code yX8_after cX8_after 3 (some .int), Cond.methodLink RX8 139 yX8_goes, Cond.instanceMethod yX8_goes, Cond.selects RX8 yX8_goes yX8_goes]
def wsX8_bestOf_r3 : List Cond := [Cond.code yX8_goes cX8_goes 8 (some .boolean)]
def wsX8_bestOf : List Cond := .code yX8_bestOf cX8_bestOf 12 (some .long) :: ((wsX8_bestOf_r1 ++ (wsX8_bestOf_r2 ++ wsX8_bestOf_r3)) ++ wsX80)
def wsX8_best_r1 : List Cond := [Cond.fieldLink RX8 50 "RummyTableModel" "status" "I", Cond.methodLink RX8 86 yX8_isSet, Cond.static yX8_isSet, Cond.initialized RX8, Cond.code yX8_isSet cX8_isSet 2 (some .boolean), Cond.constantLong RX8 53 (18014398509481983), Cond.methodLink RX8 90 yX8_none, Cond.instanceMethod yX8_none, Cond.selects RX8 yX8_none yX8_none, Cond.code yX8_none cX8_none 2 (some .int), Cond.methodLink RX8 143 yX8_bestOf, Cond.instanceMethod yX8_bestOf, Cond.selects RX8 yX8_bestOf yX8_bestOf, Cond.code yX8_bestOf cX8_bestOf 12 (some .long), Cond.fieldLink RX8 22 "RummyTableModel" "most" "[I", Cond.constantLong RX8 137 (-1), Cond.fieldLink RX8 25 "RummyTableModel" "here" "[Z", Cond.fieldLink RX8 28 "RummyTableModel" "there" "[Z", Cond.methodLink RX8 133 yX8_reckon, Cond.instanceMethod yX8_reckon, Cond.selects RX8 yX8_reckon yX8_reckon, Cond.code yX8_reckon cX8_reckon 12 none, Cond.constant RX8 73 (199680), Cond.methodLink RX8 128 Lib.Math.max.name]
def wsX8_best_r2 : List Cond := [Cond.static Lib.Math.max.name, Cond.initialized "java/lang/Math", Cond.code Lib.Math.max.name Lib.Math.max.code 2 (some .int), Cond.methodLink RX8 70 yX8_jokers, Cond.static yX8_jokers, Cond.code yX8_jokers cX8_jokers 1 (some .int), Cond.methodLink RX8 78 yX8_jokersOf, Cond.static yX8_jokersOf, Cond.code yX8_jokersOf cX8_jokersOf 2 (some .int), Cond.methodLink RX8 74 yX8_isWhole, Cond.static yX8_isWhole, Cond.code yX8_isWhole cX8_isWhole 2 (some .boolean), Cond.methodLink RX8 63 yX8_run, Cond.static yX8_run, Cond.code yX8_run cX8_run 2 (some .int), Cond.methodLink RX8 67 yX8_inGroup, Cond.static yX8_inGroup, Cond.code yX8_inGroup cX8_inGroup 1 (some .int), Cond.methodLink RX8 122 yX8_gain, Cond.static yX8_gain, Cond.code yX8_gain cX8_gain 2 (some .int), Cond.methodLink RX8 59 yX8_worthOf, Cond.static yX8_worthOf, Cond.code yX8_worthOf cX8_worthOf 1 (some .int)]
def wsX8_best_r3 : List Cond := [Cond.methodLink RX8 55 yX8_has, Cond.static yX8_has, Cond.code yX8_has cX8_has 3 (some .boolean), Cond.methodLink RX8 82 yX8_behind, Cond.static yX8_behind, Cond.code yX8_behind cX8_behind 10 (some .int), Cond.methodLink RX8 125 yX8_after, Cond.instanceMethod yX8_after, Cond.selects RX8 yX8_after yX8_after, Cond.code yX8_after cX8_after 3 (some .int), Cond.methodLink RX8 139 yX8_goes, Cond.instanceMethod yX8_goes, Cond.selects RX8 yX8_goes yX8_goes, Cond.code yX8_goes cX8_goes 8 (some .boolean), Cond.methodLink RX8 97 yX8_keeps, Cond.instanceMethod yX8_keeps, Cond.selects RX8 yX8_keeps yX8_keeps, Cond.code yX8_keeps cX8_keeps 8 (some .boolean), Cond.fieldLink RX8 8 "RummyTableModel" "ways" "[J", Cond.fieldLink RX8 14 "RummyTableModel" "places" "[I", Cond.fieldLink RX8 18 "RummyTableModel" "stands" "[Z", Cond.methodLink RX8 93 yX8_count, Cond.instanceMethod yX8_count, Cond.selects RX8 yX8_count yX8_count]
def wsX8_best_r4 : List Cond := [Cond.code yX8_count cX8_count 10 none]
def wsX8_best : List Cond := .code yX8_best cX8_best 9 (some .long) :: ((wsX8_best_r1 ++ (wsX8_best_r2 ++ (wsX8_best_r3 ++ wsX8_best_r4))) ++ wsX80)
def wsX8_opening : List Cond := .code yX8_opening cX8_opening 2 (some .boolean) :: ([.fieldLink RX8 50 "RummyTableModel" "status" "I", .fieldLink RX8 31 "RummyTableModel" "opening" "I"] ++ wsX80)
def wsX8_deal : List Cond := .code yX8_deal cX8_deal 9 (some .boolean) :: ([.constant RX8 147 (2147483646), .fieldLink RX8 50 "RummyTableModel" "status" "I", .fieldLink RX8 41 "RummyTableModel" "cards" "[I", .constantLong RX8 148 (48271), .constantLong RX8 150 (2147483647), .fieldLink RX8 152 "RummyTableModel" "drawn" "I", .fieldLink RX8 35 "RummyTableModel" "hands" "[J", .fieldLink RX8 38 "RummyTableModel" "opened" "[Z", .fieldLink RX8 155 "RummyTableModel" "players" "I", .fieldLink RX8 158 "RummyTableModel" "isGame" "Z", .fieldLink RX8 162 "RummyTableModel" "isOver" "Z", .fieldLink RX8 165 "RummyTableModel" "plays" "I", .fieldLink RX8 168 "RummyTableModel" "won" "I", .fieldLink RX8 171 "RummyTableModel" "turns" "I", .fieldLink RX8 174 "RummyTableModel" "layings" "I", .fieldLink RX8 177 "RummyTableModel" "passed" "I", .fieldLink RX8 180 "RummyTableModel" "table" "J"] ++ wsX80)
def wsX8_hand : List Cond := .code yX8_hand cX8_hand 2 (some .long) :: ([.fieldLink RX8 158 "RummyTableModel" "isGame" "Z", .fieldLink RX8 155 "RummyTableModel" "players" "I", .fieldLink RX8 50 "RummyTableModel" "status" "I", .fieldLink RX8 35 "RummyTableModel" "hands" "[J", .methodLink RX8 90 yX8_none, .instanceMethod yX8_none, .selects RX8 yX8_none yX8_none, .initialized RX8, .code yX8_none cX8_none 2 (some .int)] ++ wsX80)
def wsX8_table : List Cond := .code yX8_table cX8_table 1 (some .long) :: ([.fieldLink RX8 158 "RummyTableModel" "isGame" "Z", .fieldLink RX8 50 "RummyTableModel" "status" "I", .fieldLink RX8 180 "RummyTableModel" "table" "J", .methodLink RX8 90 yX8_none, .instanceMethod yX8_none, .selects RX8 yX8_none yX8_none, .initialized RX8, .code yX8_none cX8_none 2 (some .int)] ++ wsX80)
def wsX8_tell : List Cond := .code yX8_tell cX8_tell 2 (some .int) :: ([.fieldLink RX8 158 "RummyTableModel" "isGame" "Z", .fieldLink RX8 50 "RummyTableModel" "status" "I", .fieldLink RX8 165 "RummyTableModel" "plays" "I", .fieldLink RX8 152 "RummyTableModel" "drawn" "I", .fieldLink RX8 162 "RummyTableModel" "isOver" "Z", .fieldLink RX8 168 "RummyTableModel" "won" "I", .fieldLink RX8 171 "RummyTableModel" "turns" "I", .fieldLink RX8 174 "RummyTableModel" "layings" "I", .fieldLink RX8 155 "RummyTableModel" "players" "I", .methodLink RX8 90 yX8_none, .instanceMethod yX8_none, .selects RX8 yX8_none yX8_none, .initialized RX8, .code yX8_none cX8_none 2 (some .int)] ++ wsX80)
def wsX8_player : List Cond := .code yX8_player cX8_player 3 (some .int) :: ([.fieldLink RX8 158 "RummyTableModel" "isGame" "Z", .fieldLink RX8 155 "RummyTableModel" "players" "I", .fieldLink RX8 50 "RummyTableModel" "status" "I", .fieldLink RX8 38 "RummyTableModel" "opened" "[Z", .fieldLink RX8 35 "RummyTableModel" "hands" "[J", .methodLink RX8 90 yX8_none, .instanceMethod yX8_none, .selects RX8 yX8_none yX8_none, .initialized RX8, .code yX8_none cX8_none 2 (some .int), .methodLink RX8 184 yX8_many, .static yX8_many, .code yX8_many cX8_many 4 (some .int), .methodLink RX8 55 yX8_has, .static yX8_has, .code yX8_has cX8_has 3 (some .boolean), .methodLink RX8 119 yX8_worthAll, .static yX8_worthAll, .code yX8_worthAll cX8_worthAll 4 (some .int), .methodLink RX8 59 yX8_worthOf, .static yX8_worthOf, .code yX8_worthOf cX8_worthOf 1 (some .int)] ++ wsX80)
def wsX8_remember : List Cond := .code yX8_remember cX8_remember 2 none :: ([.fieldLink RX8 44 "RummyTableModel" "oldPlaces" "[I", .fieldLink RX8 14 "RummyTableModel" "places" "[I", .fieldLink RX8 47 "RummyTableModel" "oldStands" "[Z", .fieldLink RX8 18 "RummyTableModel" "stands" "[Z"] ++ wsX80)
def wsX8_recall : List Cond := .code yX8_recall cX8_recall 2 none :: ([.fieldLink RX8 14 "RummyTableModel" "places" "[I", .fieldLink RX8 44 "RummyTableModel" "oldPlaces" "[I", .fieldLink RX8 18 "RummyTableModel" "stands" "[Z", .fieldLink RX8 47 "RummyTableModel" "oldStands" "[Z"] ++ wsX80)
def wsX8_mayLay_r1 : List Cond := [Cond.fieldLink RX8 38 "RummyTableModel" "opened" "[Z", Cond.fieldLink RX8 165 "RummyTableModel" "plays" "I", Cond.fieldLink RX8 31 "RummyTableModel" "opening" "I", Cond.fieldLink RX8 180 "RummyTableModel" "table" "J", Cond.methodLink RX8 187 yX8_remember, Cond.instanceMethod yX8_remember, Cond.selects RX8 yX8_remember yX8_remember, Cond.initialized RX8, Cond.code yX8_remember cX8_remember 2 none, Cond.fieldLink RX8 44 "RummyTableModel" "oldPlaces" "[I", Cond.fieldLink RX8 14 "RummyTableModel" "places" "[I", Cond.fieldLink RX8 47 "RummyTableModel" "oldStands" "[Z", Cond.fieldLink RX8 18 "RummyTableModel" "stands" "[Z", Cond.methodLink RX8 97 yX8_keeps, Cond.instanceMethod yX8_keeps, Cond.selects RX8 yX8_keeps yX8_keeps, Cond.code yX8_keeps cX8_keeps 8 (some .boolean), Cond.fieldLink RX8 8 "RummyTableModel" "ways" "[J", Cond.methodLink RX8 93 yX8_count, Cond.instanceMethod yX8_count, Cond.selects RX8 yX8_count yX8_count, Cond.code yX8_count cX8_count 10 none, Cond.constant RX8 73 (199680), Cond.methodLink RX8 74 yX8_isWhole]
def wsX8_mayLay_r2 : List Cond := [Cond.static yX8_isWhole, Cond.code yX8_isWhole cX8_isWhole 2 (some .boolean), Cond.methodLink RX8 63 yX8_run, Cond.static yX8_run, Cond.code yX8_run cX8_run 2 (some .int), Cond.methodLink RX8 67 yX8_inGroup, Cond.static yX8_inGroup, Cond.code yX8_inGroup cX8_inGroup 1 (some .int), Cond.methodLink RX8 70 yX8_jokers, Cond.static yX8_jokers, Cond.code yX8_jokers cX8_jokers 1 (some .int), Cond.methodLink RX8 78 yX8_jokersOf, Cond.static yX8_jokersOf, Cond.code yX8_jokersOf cX8_jokersOf 2 (some .int), Cond.methodLink RX8 55 yX8_has, Cond.static yX8_has, Cond.code yX8_has cX8_has 3 (some .boolean), Cond.methodLink RX8 82 yX8_behind, Cond.static yX8_behind, Cond.code yX8_behind cX8_behind 10 (some .int), Cond.methodLink RX8 113 yX8_worthShown, Cond.instanceMethod yX8_worthShown, Cond.selects RX8 yX8_worthShown yX8_worthShown, Cond.code yX8_worthShown cX8_worthShown 3 (some .int)]
def wsX8_mayLay_r3 : List Cond := [Cond.methodLink RX8 59 yX8_worthOf, Cond.static yX8_worthOf, Cond.code yX8_worthOf cX8_worthOf 1 (some .int), Cond.methodLink RX8 190 yX8_recall, Cond.instanceMethod yX8_recall, Cond.selects RX8 yX8_recall yX8_recall, Cond.code yX8_recall cX8_recall 2 none]
def wsX8_mayLay : List Cond := .code yX8_mayLay cX8_mayLay 4 (some .int) :: ((wsX8_mayLay_r1 ++ (wsX8_mayLay_r2 ++ wsX8_mayLay_r3)) ++ wsX80)
def wsX8_laid : List Cond := .code yX8_laid cX8_laid 3 none :: ([.fieldLink RX8 180 "RummyTableModel" "table" "J", .fieldLink RX8 35 "RummyTableModel" "hands" "[J", .fieldLink RX8 165 "RummyTableModel" "plays" "I", .constantLong RX8 137 (-1), .fieldLink RX8 38 "RummyTableModel" "opened" "[Z", .fieldLink RX8 174 "RummyTableModel" "layings" "I", .fieldLink RX8 162 "RummyTableModel" "isOver" "Z", .fieldLink RX8 168 "RummyTableModel" "won" "I"] ++ wsX80)
def wsX8_lay_r1 : List Cond := [Cond.fieldLink RX8 158 "RummyTableModel" "isGame" "Z", Cond.fieldLink RX8 162 "RummyTableModel" "isOver" "Z", Cond.fieldLink RX8 35 "RummyTableModel" "hands" "[J", Cond.fieldLink RX8 165 "RummyTableModel" "plays" "I", Cond.constantLong RX8 137 (-1), Cond.fieldLink RX8 50 "RummyTableModel" "status" "I", Cond.fieldLink RX8 180 "RummyTableModel" "table" "J", Cond.methodLink RX8 86 yX8_isSet, Cond.static yX8_isSet, Cond.initialized RX8, Cond.code yX8_isSet cX8_isSet 2 (some .boolean), Cond.constantLong RX8 53 (18014398509481983), Cond.methodLink RX8 90 yX8_none, Cond.instanceMethod yX8_none, Cond.selects RX8 yX8_none yX8_none, Cond.code yX8_none cX8_none 2 (some .int), Cond.methodLink RX8 193 yX8_mayLay, Cond.instanceMethod yX8_mayLay, Cond.selects RX8 yX8_mayLay yX8_mayLay, Cond.code yX8_mayLay cX8_mayLay 4 (some .int), Cond.fieldLink RX8 38 "RummyTableModel" "opened" "[Z", Cond.fieldLink RX8 31 "RummyTableModel" "opening" "I", Cond.methodLink RX8 187 yX8_remember, Cond.instanceMethod yX8_remember]
def wsX8_lay_r2 : List Cond := [Cond.selects RX8 yX8_remember yX8_remember, Cond.code yX8_remember cX8_remember 2 none, Cond.fieldLink RX8 44 "RummyTableModel" "oldPlaces" "[I", Cond.fieldLink RX8 14 "RummyTableModel" "places" "[I", Cond.fieldLink RX8 47 "RummyTableModel" "oldStands" "[Z", Cond.fieldLink RX8 18 "RummyTableModel" "stands" "[Z", Cond.methodLink RX8 97 yX8_keeps, Cond.instanceMethod yX8_keeps, Cond.selects RX8 yX8_keeps yX8_keeps, Cond.code yX8_keeps cX8_keeps 8 (some .boolean), Cond.fieldLink RX8 8 "RummyTableModel" "ways" "[J", Cond.methodLink RX8 93 yX8_count, Cond.instanceMethod yX8_count, Cond.selects RX8 yX8_count yX8_count, Cond.code yX8_count cX8_count 10 none, Cond.constant RX8 73 (199680), Cond.methodLink RX8 74 yX8_isWhole, Cond.static yX8_isWhole, Cond.code yX8_isWhole cX8_isWhole 2 (some .boolean), Cond.methodLink RX8 63 yX8_run, Cond.static yX8_run, Cond.code yX8_run cX8_run 2 (some .int), Cond.methodLink RX8 67 yX8_inGroup, Cond.static yX8_inGroup]
def wsX8_lay_r3 : List Cond := [Cond.code yX8_inGroup cX8_inGroup 1 (some .int), Cond.methodLink RX8 70 yX8_jokers, Cond.static yX8_jokers, Cond.code yX8_jokers cX8_jokers 1 (some .int), Cond.methodLink RX8 78 yX8_jokersOf, Cond.static yX8_jokersOf, Cond.code yX8_jokersOf cX8_jokersOf 2 (some .int), Cond.methodLink RX8 55 yX8_has, Cond.static yX8_has, Cond.code yX8_has cX8_has 3 (some .boolean), Cond.methodLink RX8 82 yX8_behind, Cond.static yX8_behind, Cond.code yX8_behind cX8_behind 10 (some .int), Cond.methodLink RX8 113 yX8_worthShown, Cond.instanceMethod yX8_worthShown, Cond.selects RX8 yX8_worthShown yX8_worthShown, Cond.code yX8_worthShown cX8_worthShown 3 (some .int), Cond.methodLink RX8 59 yX8_worthOf, Cond.static yX8_worthOf, Cond.code yX8_worthOf cX8_worthOf 1 (some .int), Cond.methodLink RX8 190 yX8_recall, Cond.instanceMethod yX8_recall, Cond.selects RX8 yX8_recall yX8_recall, Cond.code yX8_recall cX8_recall 2 none]
def wsX8_lay_r4 : List Cond := [Cond.methodLink RX8 196 yX8_laid, Cond.instanceMethod yX8_laid, Cond.selects RX8 yX8_laid yX8_laid, Cond.code yX8_laid cX8_laid 3 none, Cond.fieldLink RX8 174 "RummyTableModel" "layings" "I", Cond.fieldLink RX8 168 "RummyTableModel" "won" "I", Cond.methodLink RX8 184 yX8_many, Cond.static yX8_many, Cond.code yX8_many cX8_many 4 (some .int)]
def wsX8_lay : List Cond := .code yX8_lay cX8_lay 4 (some .int) :: ((wsX8_lay_r1 ++ (wsX8_lay_r2 ++ (wsX8_lay_r3 ++ wsX8_lay_r4))) ++ wsX80)
def wsX8_ends : List Cond := .code yX8_ends cX8_ends 2 (some .int) :: ([.fieldLink RX8 174 "RummyTableModel" "layings" "I", .fieldLink RX8 152 "RummyTableModel" "drawn" "I", .fieldLink RX8 41 "RummyTableModel" "cards" "[I", .fieldLink RX8 35 "RummyTableModel" "hands" "[J", .fieldLink RX8 165 "RummyTableModel" "plays" "I", .fieldLink RX8 177 "RummyTableModel" "passed" "I", .fieldLink RX8 155 "RummyTableModel" "players" "I", .fieldLink RX8 162 "RummyTableModel" "isOver" "Z", .fieldLink RX8 171 "RummyTableModel" "turns" "I"] ++ wsX80)
def wsX8_end : List Cond := .code yX8_end cX8_end 1 (some .int) :: ([.fieldLink RX8 158 "RummyTableModel" "isGame" "Z", .fieldLink RX8 162 "RummyTableModel" "isOver" "Z", .fieldLink RX8 50 "RummyTableModel" "status" "I", .methodLink RX8 90 yX8_none, .instanceMethod yX8_none, .selects RX8 yX8_none yX8_none, .initialized RX8, .code yX8_none cX8_none 2 (some .int), .methodLink RX8 199 yX8_ends, .instanceMethod yX8_ends, .selects RX8 yX8_ends yX8_ends, .code yX8_ends cX8_ends 2 (some .int), .fieldLink RX8 174 "RummyTableModel" "layings" "I", .fieldLink RX8 152 "RummyTableModel" "drawn" "I", .fieldLink RX8 41 "RummyTableModel" "cards" "[I", .fieldLink RX8 35 "RummyTableModel" "hands" "[J", .fieldLink RX8 165 "RummyTableModel" "plays" "I", .fieldLink RX8 177 "RummyTableModel" "passed" "I", .fieldLink RX8 155 "RummyTableModel" "players" "I", .fieldLink RX8 171 "RummyTableModel" "turns" "I"] ++ wsX80)
def wsX8_robot_r1 : List Cond := [Cond.fieldLink RX8 158 "RummyTableModel" "isGame" "Z", Cond.fieldLink RX8 162 "RummyTableModel" "isOver" "Z", Cond.fieldLink RX8 50 "RummyTableModel" "status" "I", Cond.fieldLink RX8 38 "RummyTableModel" "opened" "[Z", Cond.fieldLink RX8 165 "RummyTableModel" "plays" "I", Cond.fieldLink RX8 180 "RummyTableModel" "table" "J", Cond.fieldLink RX8 35 "RummyTableModel" "hands" "[J", Cond.methodLink RX8 90 yX8_none, Cond.instanceMethod yX8_none, Cond.selects RX8 yX8_none yX8_none, Cond.initialized RX8, Cond.code yX8_none cX8_none 2 (some .int), Cond.methodLink RX8 143 yX8_bestOf, Cond.instanceMethod yX8_bestOf, Cond.selects RX8 yX8_bestOf yX8_bestOf, Cond.code yX8_bestOf cX8_bestOf 12 (some .long), Cond.fieldLink RX8 22 "RummyTableModel" "most" "[I", Cond.constantLong RX8 137 (-1), Cond.fieldLink RX8 25 "RummyTableModel" "here" "[Z", Cond.fieldLink RX8 28 "RummyTableModel" "there" "[Z", Cond.methodLink RX8 133 yX8_reckon, Cond.instanceMethod yX8_reckon, Cond.selects RX8 yX8_reckon yX8_reckon, Cond.code yX8_reckon cX8_reckon 12 none]
def wsX8_robot_r2 : List Cond := [Cond.constant RX8 73 (199680), Cond.methodLink RX8 128 Lib.Math.max.name, Cond.static Lib.Math.max.name, Cond.initialized "java/lang/Math", Cond.code Lib.Math.max.name Lib.Math.max.code 2 (some .int), Cond.methodLink RX8 70 yX8_jokers, Cond.static yX8_jokers, Cond.code yX8_jokers cX8_jokers 1 (some .int), Cond.methodLink RX8 78 yX8_jokersOf, Cond.static yX8_jokersOf, Cond.code yX8_jokersOf cX8_jokersOf 2 (some .int), Cond.methodLink RX8 74 yX8_isWhole, Cond.static yX8_isWhole, Cond.code yX8_isWhole cX8_isWhole 2 (some .boolean), Cond.methodLink RX8 63 yX8_run, Cond.static yX8_run, Cond.code yX8_run cX8_run 2 (some .int), Cond.methodLink RX8 67 yX8_inGroup, Cond.static yX8_inGroup, Cond.code yX8_inGroup cX8_inGroup 1 (some .int), Cond.methodLink RX8 122 yX8_gain, Cond.static yX8_gain, Cond.code yX8_gain cX8_gain 2 (some .int), Cond.methodLink RX8 59 yX8_worthOf]
def wsX8_robot_r3 : List Cond := [Cond.static yX8_worthOf, Cond.code yX8_worthOf cX8_worthOf 1 (some .int), Cond.methodLink RX8 55 yX8_has, Cond.static yX8_has, Cond.code yX8_has cX8_has 3 (some .boolean), Cond.methodLink RX8 82 yX8_behind, Cond.static yX8_behind, Cond.code yX8_behind cX8_behind 10 (some .int), Cond.methodLink RX8 125 yX8_after, Cond.instanceMethod yX8_after, Cond.selects RX8 yX8_after yX8_after, Cond.code yX8_after cX8_after 3 (some .int), Cond.methodLink RX8 139 yX8_goes, Cond.instanceMethod yX8_goes, Cond.selects RX8 yX8_goes yX8_goes, Cond.code yX8_goes cX8_goes 8 (some .boolean), Cond.methodLink RX8 193 yX8_mayLay, Cond.instanceMethod yX8_mayLay, Cond.selects RX8 yX8_mayLay yX8_mayLay, Cond.code yX8_mayLay cX8_mayLay 4 (some .int), Cond.fieldLink RX8 31 "RummyTableModel" "opening" "I", Cond.methodLink RX8 187 yX8_remember, Cond.instanceMethod yX8_remember, Cond.selects RX8 yX8_remember yX8_remember]
def wsX8_robot_r4 : List Cond := [Cond.code yX8_remember cX8_remember 2 none, Cond.fieldLink RX8 44 "RummyTableModel" "oldPlaces" "[I", Cond.fieldLink RX8 14 "RummyTableModel" "places" "[I", Cond.fieldLink RX8 47 "RummyTableModel" "oldStands" "[Z", Cond.fieldLink RX8 18 "RummyTableModel" "stands" "[Z", Cond.methodLink RX8 97 yX8_keeps, Cond.instanceMethod yX8_keeps, Cond.selects RX8 yX8_keeps yX8_keeps, Cond.code yX8_keeps cX8_keeps 8 (some .boolean), Cond.fieldLink RX8 8 "RummyTableModel" "ways" "[J", Cond.methodLink RX8 93 yX8_count, Cond.instanceMethod yX8_count, Cond.selects RX8 yX8_count yX8_count, Cond.code yX8_count cX8_count 10 none, Cond.methodLink RX8 113 yX8_worthShown, Cond.instanceMethod yX8_worthShown, Cond.selects RX8 yX8_worthShown yX8_worthShown, Cond.code yX8_worthShown cX8_worthShown 3 (some .int), Cond.methodLink RX8 190 yX8_recall, Cond.instanceMethod yX8_recall, Cond.selects RX8 yX8_recall yX8_recall, Cond.code yX8_recall cX8_recall 2 none, Cond.methodLink RX8 184 yX8_many, Cond.static yX8_many]
def wsX8_robot_r5 : List Cond := [Cond.code yX8_many cX8_many 4 (some .int), Cond.methodLink RX8 196 yX8_laid, Cond.instanceMethod yX8_laid, Cond.selects RX8 yX8_laid yX8_laid, Cond.code yX8_laid cX8_laid 3 none, Cond.fieldLink RX8 174 "RummyTableModel" "layings" "I", Cond.fieldLink RX8 168 "RummyTableModel" "won" "I", Cond.methodLink RX8 199 yX8_ends, Cond.instanceMethod yX8_ends, Cond.selects RX8 yX8_ends yX8_ends, Cond.code yX8_ends cX8_ends 2 (some .int), Cond.fieldLink RX8 152 "RummyTableModel" "drawn" "I", Cond.fieldLink RX8 41 "RummyTableModel" "cards" "[I", Cond.fieldLink RX8 177 "RummyTableModel" "passed" "I", Cond.fieldLink RX8 155 "RummyTableModel" "players" "I", Cond.fieldLink RX8 171 "RummyTableModel" "turns" "I"]
def wsX8_robot : List Cond := .code yX8_robot cX8_robot 6 (some .int) :: ((wsX8_robot_r1 ++ (wsX8_robot_r2 ++ (wsX8_robot_r3 ++ (wsX8_robot_r4 ++ wsX8_robot_r5)))) ++ wsX80)
def wsJ9_max_7cf53 : List Cond := .code yJ9_max_7cf53 cJ9_max_7cf53 2 (some .int) :: ([])
def wsJ9_max_f86c9 : List Cond := .code yJ9_max_f86c9 cJ9_max_f86c9 4 (some .long) :: ([])
def wsJ9_min_7cf53 : List Cond := .code yJ9_min_7cf53 cJ9_min_7cf53 2 (some .int) :: ([])
abbrev vwCl : List vw_C := [(RX1, TX1, 12), (RX2, TX2, 2), (RX3, TX3, 4), (RX4, TX4, 3), (RX6, TX6, 13), (RX7, TX7, 7), (RX8, TX8, 23)]
end
section
theorem dX0_isSet_0 : decode cX0_isSet 0 = .ok (.lload_n 0, 1) := by decide +kernel
theorem dX0_isSet_1 : decode cX0_isSet 1 = .ok (.bipush 54, 2) := by decide +kernel
theorem dX0_isSet_3 : decode cX0_isSet 3 = .ok (.lushr, 1) := by decide +kernel
theorem dX0_isSet_4 : decode cX0_isSet 4 = .ok (.lconst 0, 1) := by decide +kernel
theorem dX0_isSet_5 : decode cX0_isSet 5 = .ok (.lcmp, 1) := by decide +kernel
theorem dX0_isSet_6 : decode cX0_isSet 6 = .ok (.ifCond .ne 7, 3) := by decide +kernel
theorem dX0_isSet_9 : decode cX0_isSet 9 = .ok (.iconst 1, 1) := by decide +kernel
theorem dX0_isSet_10 : decode cX0_isSet 10 = .ok (.goto 4, 3) := by decide +kernel
theorem dX0_isSet_13 : decode cX0_isSet 13 = .ok (.iconst 0, 1) := by decide +kernel
theorem dX0_isSet_14 : decode cX0_isSet 14 = .ok (.ireturn, 1) := by decide +kernel
theorem dX0_worthOfNumber_0 : decode cX0_worthOfNumber 0 = .ok (.iload_n 0, 1) := by decide +kernel
theorem dX0_worthOfNumber_1 : decode cX0_worthOfNumber 1 = .ok (.iconst 1, 1) := by decide +kernel
theorem dX0_worthOfNumber_2 : decode cX0_worthOfNumber 2 = .ok (.iadd, 1) := by decide +kernel
theorem dX0_worthOfNumber_3 : decode cX0_worthOfNumber 3 = .ok (.bipush 10, 2) := by decide +kernel
theorem dX0_worthOfNumber_5 : decode cX0_worthOfNumber 5 = .ok (.invokestatic 9, 3) := by decide +kernel
theorem dX0_worthOfNumber_8 : decode cX0_worthOfNumber 8 = .ok (.ireturn, 1) := by decide +kernel
set_option maxRecDepth 20000 in
theorem ggX0_worthOfSet_X0_jokersIn : GoodIn wsX0_worthOfSet wsX0_jokersIn := goodIn_r _ [4, 5, 6, 7, 8, 9, 10, 11] (by decide +kernel) (by decide +kernel)
set_option maxRecDepth 20000 in
theorem gX0_worthOfSet_X0_jokersIn : GoodIn wsX0_worthOfSet (va_wsS RX0 15 yX0_jokersIn wsX0_jokersIn) := goodIn_app (goodIn_of _ (by decide +kernel)) ggX0_worthOfSet_X0_jokersIn
set_option maxRecDepth 20000 in
theorem ggX0_worthOfSet_X0_worthOfNumber : GoodIn wsX0_worthOfSet wsX0_worthOfNumber := goodIn_r _ [14, 15, 16, 17, 18] (by decide +kernel) (by decide +kernel)
set_option maxRecDepth 20000 in
theorem gX0_worthOfSet_X0_worthOfNumber : GoodIn wsX0_worthOfSet (va_wsS RX0 21 yX0_worthOfNumber wsX0_worthOfNumber) := goodIn_app (goodIn_of _ (by decide +kernel)) ggX0_worthOfSet_X0_worthOfNumber
set_option maxRecDepth 20000 in
theorem ggX0_worthOfSet_X0_coloursOf : GoodIn wsX0_worthOfSet wsX0_coloursOf := goodIn_r _ [21] (by decide +kernel) (by decide +kernel)
set_option maxRecDepth 20000 in
theorem gX0_worthOfSet_X0_coloursOf : GoodIn wsX0_worthOfSet (va_wsS RX0 25 yX0_coloursOf wsX0_coloursOf) := goodIn_app (goodIn_of _ (by decide +kernel)) ggX0_worthOfSet_X0_coloursOf
set_option maxRecDepth 20000 in
theorem ggX0_worthOfSet_J6_bitCount_0f7a4 : GoodIn wsX0_worthOfSet wsJ6_bitCount_0f7a4 := goodIn_r _ [25, 26, 27, 28] (by decide +kernel) (by decide +kernel)
set_option maxRecDepth 20000 in
theorem gX0_worthOfSet_J6_bitCount_0f7a4 : GoodIn wsX0_worthOfSet (va_wsS RX0 29 yJ6_bitCount_0f7a4 wsJ6_bitCount_0f7a4) := goodIn_app (goodIn_of _ (by decide +kernel)) ggX0_worthOfSet_J6_bitCount_0f7a4
theorem dX0_worthOfSet_0 : decode cX0_worthOfSet 0 = .ok (.bipush 20, 2) := by decide +kernel
theorem dX0_worthOfSet_2 : decode cX0_worthOfSet 2 = .ok (.lload_n 0, 1) := by decide +kernel
theorem dX0_worthOfSet_3 : decode cX0_worthOfSet 3 = .ok (.invokestatic 15, 3) := by decide +kernel
theorem dX0_worthOfSet_6 : decode cX0_worthOfSet 6 = .ok (.imul, 1) := by decide +kernel
theorem dX0_worthOfSet_7 : decode cX0_worthOfSet 7 = .ok (.istore_n 2, 1) := by decide +kernel
theorem dX0_worthOfSet_8 : decode cX0_worthOfSet 8 = .ok (.iconst 0, 1) := by decide +kernel
theorem dX0_worthOfSet_9 : decode cX0_worthOfSet 9 = .ok (.istore_n 3, 1) := by decide +kernel
theorem dX0_worthOfSet_10 : decode cX0_worthOfSet 10 = .ok (.iload_n 3, 1) := by decide +kernel
theorem dX0_worthOfSet_11 : decode cX0_worthOfSet 11 = .ok (.bipush 13, 2) := by decide +kernel
theorem dX0_worthOfSet_13 : decode cX0_worthOfSet 13 = .ok (.if_icmp .ge 25, 3) := by decide +kernel
theorem dX0_worthOfSet_16 : decode cX0_worthOfSet 16 = .ok (.iload_n 2, 1) := by decide +kernel
theorem dX0_worthOfSet_17 : decode cX0_worthOfSet 17 = .ok (.iload_n 3, 1) := by decide +kernel
theorem dX0_worthOfSet_18 : decode cX0_worthOfSet 18 = .ok (.invokestatic 21, 3) := by decide +kernel
theorem dX0_worthOfSet_21 : decode cX0_worthOfSet 21 = .ok (.lload_n 0, 1) := by decide +kernel
theorem dX0_worthOfSet_22 : decode cX0_worthOfSet 22 = .ok (.iload_n 3, 1) := by decide +kernel
theorem dX0_worthOfSet_23 : decode cX0_worthOfSet 23 = .ok (.invokestatic 25, 3) := by decide +kernel
theorem dX0_worthOfSet_26 : decode cX0_worthOfSet 26 = .ok (.invokestatic 29, 3) := by decide +kernel
theorem dX0_worthOfSet_29 : decode cX0_worthOfSet 29 = .ok (.imul, 1) := by decide +kernel
theorem dX0_worthOfSet_30 : decode cX0_worthOfSet 30 = .ok (.iadd, 1) := by decide +kernel
theorem dX0_worthOfSet_31 : decode cX0_worthOfSet 31 = .ok (.istore_n 2, 1) := by decide +kernel
theorem dX0_worthOfSet_32 : decode cX0_worthOfSet 32 = .ok (.iinc 3 1, 3) := by decide +kernel
theorem dX0_worthOfSet_35 : decode cX0_worthOfSet 35 = .ok (.goto (-25), 3) := by decide +kernel
theorem dX0_worthOfSet_38 : decode cX0_worthOfSet 38 = .ok (.iload_n 2, 1) := by decide +kernel
theorem dX0_worthOfSet_39 : decode cX0_worthOfSet 39 = .ok (.ireturn, 1) := by decide +kernel
set_option maxRecDepth 20000 in
theorem ggX0_jokersIn_J13_bitCount_95d88 : GoodIn wsX0_jokersIn wsJ13_bitCount_95d88 := goodIn_r _ [4, 5, 6, 7] (by decide +kernel) (by decide +kernel)
set_option maxRecDepth 20000 in
theorem gX0_jokersIn_J13_bitCount_95d88 : GoodIn wsX0_jokersIn (va_wsS RX0 34 yJ13_bitCount_95d88 wsJ13_bitCount_95d88) := goodIn_app (goodIn_of _ (by decide +kernel)) ggX0_jokersIn_J13_bitCount_95d88
theorem dX0_jokersIn_0 : decode cX0_jokersIn 0 = .ok (.lload_n 0, 1) := by decide +kernel
theorem dX0_jokersIn_1 : decode cX0_jokersIn 1 = .ok (.bipush 52, 2) := by decide +kernel
theorem dX0_jokersIn_3 : decode cX0_jokersIn 3 = .ok (.lushr, 1) := by decide +kernel
theorem dX0_jokersIn_4 : decode cX0_jokersIn 4 = .ok (.invokestatic 34, 3) := by decide +kernel
theorem dX0_jokersIn_7 : decode cX0_jokersIn 7 = .ok (.ireturn, 1) := by decide +kernel
theorem dX0_coloursOf_0 : decode cX0_coloursOf 0 = .ok (.lload_n 0, 1) := by decide +kernel
theorem dX0_coloursOf_1 : decode cX0_coloursOf 1 = .ok (.iconst 4, 1) := by decide +kernel
theorem dX0_coloursOf_2 : decode cX0_coloursOf 2 = .ok (.iload_n 2, 1) := by decide +kernel
theorem dX0_coloursOf_3 : decode cX0_coloursOf 3 = .ok (.imul, 1) := by decide +kernel
theorem dX0_coloursOf_4 : decode cX0_coloursOf 4 = .ok (.lushr, 1) := by decide +kernel
theorem dX0_coloursOf_5 : decode cX0_coloursOf 5 = .ok (.l2i, 1) := by decide +kernel
theorem dX0_coloursOf_6 : decode cX0_coloursOf 6 = .ok (.bipush 15, 2) := by decide +kernel
theorem dX0_coloursOf_8 : decode cX0_coloursOf 8 = .ok (.iand, 1) := by decide +kernel
theorem dX0_coloursOf_9 : decode cX0_coloursOf 9 = .ok (.ireturn, 1) := by decide +kernel
theorem dX1_init_0 : decode cX1_init 0 = .ok (.aload_n 0, 1) := by decide +kernel
theorem dX1_init_1 : decode cX1_init 1 = .ok (.invokespecial 3, 3) := by decide +kernel
theorem dX1_init_4 : decode cX1_init 4 = .ok (.aload_n 0, 1) := by decide +kernel
theorem dX1_init_5 : decode cX1_init 5 = .ok (.iconst 4, 1) := by decide +kernel
theorem dX1_init_6 : decode cX1_init 6 = .ok (.newarray .long, 2) := by decide +kernel
theorem dX1_init_8 : decode cX1_init 8 = .ok (.putfield 9, 3) := by decide +kernel
theorem dX1_init_11 : decode cX1_init 11 = .ok (.aload_n 0, 1) := by decide +kernel
theorem dX1_init_12 : decode cX1_init 12 = .ok (.iconst 4, 1) := by decide +kernel
theorem dX1_init_13 : decode cX1_init 13 = .ok (.newarray .boolean, 2) := by decide +kernel
theorem dX1_init_15 : decode cX1_init 15 = .ok (.putfield 15, 3) := by decide +kernel
theorem dX1_init_18 : decode cX1_init 18 = .ok (.aload_n 0, 1) := by decide +kernel
theorem dX1_init_19 : decode cX1_init 19 = .ok (.bipush 54, 2) := by decide +kernel
theorem dX1_init_21 : decode cX1_init 21 = .ok (.newarray .int, 2) := by decide +kernel
theorem dX1_init_23 : decode cX1_init 23 = .ok (.putfield 19, 3) := by decide +kernel
theorem dX1_init_26 : decode cX1_init 26 = .ok (.return_, 1) := by decide +kernel
set_option maxRecDepth 20000 in
theorem ggX1_begin_X1_shuffle : GoodIn wsX1_begin wsX1_shuffle := goodIn_r _ [20, 21, 22, 23, 31, 32, 33, 34, 35, 36, 37, 38, 39, 40, 41, 42] (by decide +kernel) (by decide +kernel)
set_option maxRecDepth 20000 in
theorem gX1_begin_X1_shuffle : GoodIn wsX1_begin (wsV RX1 23 RX1 yX1_shuffle wsX1_shuffle) := goodIn_app (goodIn_of _ (by decide +kernel)) ggX1_begin_X1_shuffle
set_option maxRecDepth 20000 in
theorem ggX1_begin_X1_drawn : GoodIn wsX1_begin wsX1_drawn := goodIn_r _ [27, 6, 21, 31, 32, 33, 34, 35, 36, 37, 38, 39, 40, 41, 42] (by decide +kernel) (by decide +kernel)
set_option maxRecDepth 20000 in
theorem gX1_begin_X1_drawn : GoodIn wsX1_begin (wsV RX1 40 RX1 yX1_drawn wsX1_drawn) := goodIn_app (goodIn_of _ (by decide +kernel)) ggX1_begin_X1_drawn
set_option maxRecDepth 20000 in
theorem ggX1_begin_X1_bitOf : GoodIn wsX1_begin wsX1_bitOf := goodIn_r _ [30] (by decide +kernel) (by decide +kernel)
set_option maxRecDepth 20000 in
theorem gX1_begin_X1_bitOf : GoodIn wsX1_begin (va_wsS RX1 44 yX1_bitOf wsX1_bitOf) := goodIn_app (goodIn_of _ (by decide +kernel)) ggX1_begin_X1_bitOf
theorem dX1_begin_0 : decode cX1_begin 0 = .ok (.aload_n 0, 1) := by decide +kernel
theorem dX1_begin_1 : decode cX1_begin 1 = .ok (.iload_n 3, 1) := by decide +kernel
theorem dX1_begin_2 : decode cX1_begin 2 = .ok (.invokevirtual 23, 3) := by decide +kernel
theorem dX1_begin_5 : decode cX1_begin 5 = .ok (.aload_n 0, 1) := by decide +kernel
theorem dX1_begin_6 : decode cX1_begin 6 = .ok (.iload_n 1, 1) := by decide +kernel
theorem dX1_begin_7 : decode cX1_begin 7 = .ok (.iconst 4, 1) := by decide +kernel
theorem dX1_begin_8 : decode cX1_begin 8 = .ok (.invokestatic 27, 3) := by decide +kernel
theorem dX1_begin_11 : decode cX1_begin 11 = .ok (.putfield 33, 3) := by decide +kernel
theorem dX1_begin_14 : decode cX1_begin 14 = .ok (.aload_n 0, 1) := by decide +kernel
theorem dX1_begin_15 : decode cX1_begin 15 = .ok (.iconst 0, 1) := by decide +kernel
theorem dX1_begin_16 : decode cX1_begin 16 = .ok (.putfield 37, 3) := by decide +kernel
theorem dX1_begin_19 : decode cX1_begin 19 = .ok (.iconst 0, 1) := by decide +kernel
theorem dX1_begin_20 : decode cX1_begin 20 = .ok (.istore 4, 2) := by decide +kernel
theorem dX1_begin_22 : decode cX1_begin 22 = .ok (.iload 4, 2) := by decide +kernel
theorem dX1_begin_24 : decode cX1_begin 24 = .ok (.iconst 4, 1) := by decide +kernel
theorem dX1_begin_25 : decode cX1_begin 25 = .ok (.if_icmp .ge 66, 3) := by decide +kernel
theorem dX1_begin_28 : decode cX1_begin 28 = .ok (.aload_n 0, 1) := by decide +kernel
theorem dX1_begin_29 : decode cX1_begin 29 = .ok (.getfield 15, 3) := by decide +kernel
theorem dX1_begin_32 : decode cX1_begin 32 = .ok (.iload 4, 2) := by decide +kernel
theorem dX1_begin_34 : decode cX1_begin 34 = .ok (.iconst 0, 1) := by decide +kernel
theorem dX1_begin_35 : decode cX1_begin 35 = .ok (.bastore, 1) := by decide +kernel
theorem dX1_begin_36 : decode cX1_begin 36 = .ok (.aload_n 0, 1) := by decide +kernel
theorem dX1_begin_37 : decode cX1_begin 37 = .ok (.getfield 9, 3) := by decide +kernel
theorem dX1_begin_40 : decode cX1_begin 40 = .ok (.iload 4, 2) := by decide +kernel
theorem dX1_begin_42 : decode cX1_begin 42 = .ok (.lconst 0, 1) := by decide +kernel
theorem dX1_begin_43 : decode cX1_begin 43 = .ok (.lastore, 1) := by decide +kernel
theorem dX1_begin_44 : decode cX1_begin 44 = .ok (.iconst 0, 1) := by decide +kernel
theorem dX1_begin_45 : decode cX1_begin 45 = .ok (.istore 5, 2) := by decide +kernel
theorem dX1_begin_47 : decode cX1_begin 47 = .ok (.iload 5, 2) := by decide +kernel
theorem dX1_begin_49 : decode cX1_begin 49 = .ok (.iload_n 2, 1) := by decide +kernel
theorem dX1_begin_50 : decode cX1_begin 50 = .ok (.if_icmp .ge 35, 3) := by decide +kernel
theorem dX1_begin_53 : decode cX1_begin 53 = .ok (.iload 4, 2) := by decide +kernel
theorem dX1_begin_55 : decode cX1_begin 55 = .ok (.aload_n 0, 1) := by decide +kernel
theorem dX1_begin_56 : decode cX1_begin 56 = .ok (.getfield 33, 3) := by decide +kernel
theorem dX1_begin_59 : decode cX1_begin 59 = .ok (.if_icmp .ge 26, 3) := by decide +kernel
theorem dX1_begin_62 : decode cX1_begin 62 = .ok (.aload_n 0, 1) := by decide +kernel
theorem dX1_begin_63 : decode cX1_begin 63 = .ok (.getfield 9, 3) := by decide +kernel
theorem dX1_begin_66 : decode cX1_begin 66 = .ok (.iload 4, 2) := by decide +kernel
theorem dX1_begin_68 : decode cX1_begin 68 = .ok (.dup2, 1) := by decide +kernel
theorem dX1_begin_69 : decode cX1_begin 69 = .ok (.laload, 1) := by decide +kernel
theorem dX1_begin_70 : decode cX1_begin 70 = .ok (.aload_n 0, 1) := by decide +kernel
theorem dX1_begin_71 : decode cX1_begin 71 = .ok (.invokevirtual 40, 3) := by decide +kernel
theorem dX1_begin_74 : decode cX1_begin 74 = .ok (.invokestatic 44, 3) := by decide +kernel
theorem dX1_begin_77 : decode cX1_begin 77 = .ok (.lor, 1) := by decide +kernel
theorem dX1_begin_78 : decode cX1_begin 78 = .ok (.lastore, 1) := by decide +kernel
theorem dX1_begin_79 : decode cX1_begin 79 = .ok (.iinc 5 1, 3) := by decide +kernel
theorem dX1_begin_82 : decode cX1_begin 82 = .ok (.goto (-35), 3) := by decide +kernel
theorem dX1_begin_85 : decode cX1_begin 85 = .ok (.iinc 4 1, 3) := by decide +kernel
theorem dX1_begin_88 : decode cX1_begin 88 = .ok (.goto (-66), 3) := by decide +kernel
theorem dX1_begin_91 : decode cX1_begin 91 = .ok (.aload_n 0, 1) := by decide +kernel
theorem dX1_begin_92 : decode cX1_begin 92 = .ok (.lconst 0, 1) := by decide +kernel
theorem dX1_begin_93 : decode cX1_begin 93 = .ok (.putfield 48, 3) := by decide +kernel
theorem dX1_begin_96 : decode cX1_begin 96 = .ok (.aload_n 0, 1) := by decide +kernel
theorem dX1_begin_97 : decode cX1_begin 97 = .ok (.iconst 0, 1) := by decide +kernel
theorem dX1_begin_98 : decode cX1_begin 98 = .ok (.putfield 52, 3) := by decide +kernel
theorem dX1_begin_101 : decode cX1_begin 101 = .ok (.aload_n 0, 1) := by decide +kernel
theorem dX1_begin_102 : decode cX1_begin 102 = .ok (.iconst 0, 1) := by decide +kernel
theorem dX1_begin_103 : decode cX1_begin 103 = .ok (.putfield 55, 3) := by decide +kernel
theorem dX1_begin_106 : decode cX1_begin 106 = .ok (.aload_n 0, 1) := by decide +kernel
theorem dX1_begin_107 : decode cX1_begin 107 = .ok (.iconst 0, 1) := by decide +kernel
theorem dX1_begin_108 : decode cX1_begin 108 = .ok (.putfield 58, 3) := by decide +kernel
theorem dX1_begin_111 : decode cX1_begin 111 = .ok (.aload_n 0, 1) := by decide +kernel
theorem dX1_begin_112 : decode cX1_begin 112 = .ok (.iconst 0, 1) := by decide +kernel
theorem dX1_begin_113 : decode cX1_begin 113 = .ok (.putfield 61, 3) := by decide +kernel
theorem dX1_begin_116 : decode cX1_begin 116 = .ok (.aload_n 0, 1) := by decide +kernel
theorem dX1_begin_117 : decode cX1_begin 117 = .ok (.iconst 0, 1) := by decide +kernel
theorem dX1_begin_118 : decode cX1_begin 118 = .ok (.putfield 64, 3) := by decide +kernel
theorem dX1_begin_121 : decode cX1_begin 121 = .ok (.aload_n 0, 1) := by decide +kernel
theorem dX1_begin_122 : decode cX1_begin 122 = .ok (.iconst (-1), 1) := by decide +kernel
theorem dX1_begin_123 : decode cX1_begin 123 = .ok (.putfield 68, 3) := by decide +kernel
theorem dX1_begin_126 : decode cX1_begin 126 = .ok (.return_, 1) := by decide +kernel
theorem dX1_shuffle_0 : decode cX1_shuffle 0 = .ok (.iconst 0, 1) := by decide +kernel
theorem dX1_shuffle_1 : decode cX1_shuffle 1 = .ok (.istore_n 2, 1) := by decide +kernel
theorem dX1_shuffle_2 : decode cX1_shuffle 2 = .ok (.iload_n 2, 1) := by decide +kernel
theorem dX1_shuffle_3 : decode cX1_shuffle 3 = .ok (.bipush 54, 2) := by decide +kernel
theorem dX1_shuffle_5 : decode cX1_shuffle 5 = .ok (.if_icmp .ge 16, 3) := by decide +kernel
theorem dX1_shuffle_8 : decode cX1_shuffle 8 = .ok (.aload_n 0, 1) := by decide +kernel
theorem dX1_shuffle_9 : decode cX1_shuffle 9 = .ok (.getfield 19, 3) := by decide +kernel
theorem dX1_shuffle_12 : decode cX1_shuffle 12 = .ok (.iload_n 2, 1) := by decide +kernel
theorem dX1_shuffle_13 : decode cX1_shuffle 13 = .ok (.iload_n 2, 1) := by decide +kernel
theorem dX1_shuffle_14 : decode cX1_shuffle 14 = .ok (.iastore, 1) := by decide +kernel
theorem dX1_shuffle_15 : decode cX1_shuffle 15 = .ok (.iinc 2 1, 3) := by decide +kernel
theorem dX1_shuffle_18 : decode cX1_shuffle 18 = .ok (.goto (-16), 3) := by decide +kernel
theorem dX1_shuffle_21 : decode cX1_shuffle 21 = .ok (.iload_n 1, 1) := by decide +kernel
theorem dX1_shuffle_22 : decode cX1_shuffle 22 = .ok (.i2l, 1) := by decide +kernel
theorem dX1_shuffle_23 : decode cX1_shuffle 23 = .ok (.lstore_n 2, 1) := by decide +kernel
theorem dX1_shuffle_24 : decode cX1_shuffle 24 = .ok (.bipush 53, 2) := by decide +kernel
theorem dX1_shuffle_26 : decode cX1_shuffle 26 = .ok (.istore 4, 2) := by decide +kernel
theorem dX1_shuffle_28 : decode cX1_shuffle 28 = .ok (.iload 4, 2) := by decide +kernel
theorem dX1_shuffle_30 : decode cX1_shuffle 30 = .ok (.iconst 1, 1) := by decide +kernel
theorem dX1_shuffle_31 : decode cX1_shuffle 31 = .ok (.if_icmp .lt 61, 3) := by decide +kernel
theorem dX1_shuffle_34 : decode cX1_shuffle 34 = .ok (.ldc2_w 71, 3) := by decide +kernel
theorem dX1_shuffle_37 : decode cX1_shuffle 37 = .ok (.lload_n 2, 1) := by decide +kernel
theorem dX1_shuffle_38 : decode cX1_shuffle 38 = .ok (.lmul, 1) := by decide +kernel
theorem dX1_shuffle_39 : decode cX1_shuffle 39 = .ok (.ldc2_w 73, 3) := by decide +kernel
theorem dX1_shuffle_42 : decode cX1_shuffle 42 = .ok (.lrem, 1) := by decide +kernel
theorem dX1_shuffle_43 : decode cX1_shuffle 43 = .ok (.lstore_n 2, 1) := by decide +kernel
theorem dX1_shuffle_44 : decode cX1_shuffle 44 = .ok (.lload_n 2, 1) := by decide +kernel
theorem dX1_shuffle_45 : decode cX1_shuffle 45 = .ok (.iload 4, 2) := by decide +kernel
theorem dX1_shuffle_47 : decode cX1_shuffle 47 = .ok (.iconst 1, 1) := by decide +kernel
theorem dX1_shuffle_48 : decode cX1_shuffle 48 = .ok (.iadd, 1) := by decide +kernel
theorem dX1_shuffle_49 : decode cX1_shuffle 49 = .ok (.i2l, 1) := by decide +kernel
theorem dX1_shuffle_50 : decode cX1_shuffle 50 = .ok (.lrem, 1) := by decide +kernel
theorem dX1_shuffle_51 : decode cX1_shuffle 51 = .ok (.l2i, 1) := by decide +kernel
theorem dX1_shuffle_52 : decode cX1_shuffle 52 = .ok (.istore 5, 2) := by decide +kernel
theorem dX1_shuffle_54 : decode cX1_shuffle 54 = .ok (.aload_n 0, 1) := by decide +kernel
theorem dX1_shuffle_55 : decode cX1_shuffle 55 = .ok (.getfield 19, 3) := by decide +kernel
theorem dX1_shuffle_58 : decode cX1_shuffle 58 = .ok (.iload 4, 2) := by decide +kernel
theorem dX1_shuffle_60 : decode cX1_shuffle 60 = .ok (.iaload, 1) := by decide +kernel
theorem dX1_shuffle_61 : decode cX1_shuffle 61 = .ok (.istore 6, 2) := by decide +kernel
theorem dX1_shuffle_63 : decode cX1_shuffle 63 = .ok (.aload_n 0, 1) := by decide +kernel
theorem dX1_shuffle_64 : decode cX1_shuffle 64 = .ok (.getfield 19, 3) := by decide +kernel
theorem dX1_shuffle_67 : decode cX1_shuffle 67 = .ok (.iload 4, 2) := by decide +kernel
theorem dX1_shuffle_69 : decode cX1_shuffle 69 = .ok (.aload_n 0, 1) := by decide +kernel
theorem dX1_shuffle_70 : decode cX1_shuffle 70 = .ok (.getfield 19, 3) := by decide +kernel
theorem dX1_shuffle_73 : decode cX1_shuffle 73 = .ok (.iload 5, 2) := by decide +kernel
theorem dX1_shuffle_75 : decode cX1_shuffle 75 = .ok (.iaload, 1) := by decide +kernel
theorem dX1_shuffle_76 : decode cX1_shuffle 76 = .ok (.iastore, 1) := by decide +kernel
theorem dX1_shuffle_77 : decode cX1_shuffle 77 = .ok (.aload_n 0, 1) := by decide +kernel
theorem dX1_shuffle_78 : decode cX1_shuffle 78 = .ok (.getfield 19, 3) := by decide +kernel
theorem dX1_shuffle_81 : decode cX1_shuffle 81 = .ok (.iload 5, 2) := by decide +kernel
theorem dX1_shuffle_83 : decode cX1_shuffle 83 = .ok (.iload 6, 2) := by decide +kernel
theorem dX1_shuffle_85 : decode cX1_shuffle 85 = .ok (.iastore, 1) := by decide +kernel
theorem dX1_shuffle_86 : decode cX1_shuffle 86 = .ok (.iinc 4 (-1), 3) := by decide +kernel
theorem dX1_shuffle_89 : decode cX1_shuffle 89 = .ok (.goto (-61), 3) := by decide +kernel
theorem dX1_shuffle_92 : decode cX1_shuffle 92 = .ok (.return_, 1) := by decide +kernel
theorem dX1_drawn_0 : decode cX1_drawn 0 = .ok (.aload_n 0, 1) := by decide +kernel
theorem dX1_drawn_1 : decode cX1_drawn 1 = .ok (.getfield 37, 3) := by decide +kernel
theorem dX1_drawn_4 : decode cX1_drawn 4 = .ok (.ifCond .lt 12, 3) := by decide +kernel
theorem dX1_drawn_7 : decode cX1_drawn 7 = .ok (.aload_n 0, 1) := by decide +kernel
theorem dX1_drawn_8 : decode cX1_drawn 8 = .ok (.getfield 37, 3) := by decide +kernel
theorem dX1_drawn_11 : decode cX1_drawn 11 = .ok (.bipush 54, 2) := by decide +kernel
theorem dX1_drawn_13 : decode cX1_drawn 13 = .ok (.if_icmp .lt 6, 3) := by decide +kernel
theorem dX1_drawn_16 : decode cX1_drawn 16 = .ok (.bipush 54, 2) := by decide +kernel
theorem dX1_drawn_18 : decode cX1_drawn 18 = .ok (.ireturn, 1) := by decide +kernel
theorem dX1_drawn_19 : decode cX1_drawn 19 = .ok (.aload_n 0, 1) := by decide +kernel
theorem dX1_drawn_20 : decode cX1_drawn 20 = .ok (.getfield 19, 3) := by decide +kernel
theorem dX1_drawn_23 : decode cX1_drawn 23 = .ok (.aload_n 0, 1) := by decide +kernel
theorem dX1_drawn_24 : decode cX1_drawn 24 = .ok (.getfield 37, 3) := by decide +kernel
theorem dX1_drawn_27 : decode cX1_drawn 27 = .ok (.iaload, 1) := by decide +kernel
theorem dX1_drawn_28 : decode cX1_drawn 28 = .ok (.istore_n 1, 1) := by decide +kernel
theorem dX1_drawn_29 : decode cX1_drawn 29 = .ok (.aload_n 0, 1) := by decide +kernel
theorem dX1_drawn_30 : decode cX1_drawn 30 = .ok (.dup, 1) := by decide +kernel
theorem dX1_drawn_31 : decode cX1_drawn 31 = .ok (.getfield 37, 3) := by decide +kernel
theorem dX1_drawn_34 : decode cX1_drawn 34 = .ok (.iconst 1, 1) := by decide +kernel
theorem dX1_drawn_35 : decode cX1_drawn 35 = .ok (.iadd, 1) := by decide +kernel
theorem dX1_drawn_36 : decode cX1_drawn 36 = .ok (.putfield 37, 3) := by decide +kernel
theorem dX1_drawn_39 : decode cX1_drawn 39 = .ok (.iload_n 1, 1) := by decide +kernel
theorem dX1_drawn_40 : decode cX1_drawn 40 = .ok (.ireturn, 1) := by decide +kernel
theorem dX1_bitOf_0 : decode cX1_bitOf 0 = .ok (.iload_n 0, 1) := by decide +kernel
theorem dX1_bitOf_1 : decode cX1_bitOf 1 = .ok (.ifCond .lt 15, 3) := by decide +kernel
theorem dX1_bitOf_4 : decode cX1_bitOf 4 = .ok (.iload_n 0, 1) := by decide +kernel
theorem dX1_bitOf_5 : decode cX1_bitOf 5 = .ok (.bipush 54, 2) := by decide +kernel
theorem dX1_bitOf_7 : decode cX1_bitOf 7 = .ok (.if_icmp .ge 9, 3) := by decide +kernel
theorem dX1_bitOf_10 : decode cX1_bitOf 10 = .ok (.lconst 1, 1) := by decide +kernel
theorem dX1_bitOf_11 : decode cX1_bitOf 11 = .ok (.iload_n 0, 1) := by decide +kernel
theorem dX1_bitOf_12 : decode cX1_bitOf 12 = .ok (.lshl, 1) := by decide +kernel
theorem dX1_bitOf_13 : decode cX1_bitOf 13 = .ok (.goto 4, 3) := by decide +kernel
theorem dX1_bitOf_16 : decode cX1_bitOf 16 = .ok (.lconst 0, 1) := by decide +kernel
theorem dX1_bitOf_17 : decode cX1_bitOf 17 = .ok (.lreturn, 1) := by decide +kernel
theorem dX1_isDealt_0 : decode cX1_isDealt 0 = .ok (.aload_n 0, 1) := by decide +kernel
theorem dX1_isDealt_1 : decode cX1_isDealt 1 = .ok (.getfield 33, 3) := by decide +kernel
theorem dX1_isDealt_4 : decode cX1_isDealt 4 = .ok (.ifCond .le 7, 3) := by decide +kernel
theorem dX1_isDealt_7 : decode cX1_isDealt 7 = .ok (.iconst 1, 1) := by decide +kernel
theorem dX1_isDealt_8 : decode cX1_isDealt 8 = .ok (.goto 4, 3) := by decide +kernel
theorem dX1_isDealt_11 : decode cX1_isDealt 11 = .ok (.iconst 0, 1) := by decide +kernel
theorem dX1_isDealt_12 : decode cX1_isDealt 12 = .ok (.ireturn, 1) := by decide +kernel
theorem dX1_has_0 : decode cX1_has 0 = .ok (.iload_n 1, 1) := by decide +kernel
theorem dX1_has_1 : decode cX1_has 1 = .ok (.ifCond .lt 20, 3) := by decide +kernel
theorem dX1_has_4 : decode cX1_has 4 = .ok (.iload_n 1, 1) := by decide +kernel
theorem dX1_has_5 : decode cX1_has 5 = .ok (.aload_n 0, 1) := by decide +kernel
theorem dX1_has_6 : decode cX1_has 6 = .ok (.getfield 33, 3) := by decide +kernel
theorem dX1_has_9 : decode cX1_has 9 = .ok (.if_icmp .ge 12, 3) := by decide +kernel
theorem dX1_has_12 : decode cX1_has 12 = .ok (.iload_n 1, 1) := by decide +kernel
theorem dX1_has_13 : decode cX1_has 13 = .ok (.iconst 4, 1) := by decide +kernel
theorem dX1_has_14 : decode cX1_has 14 = .ok (.if_icmp .ge 7, 3) := by decide +kernel
theorem dX1_has_17 : decode cX1_has 17 = .ok (.iconst 1, 1) := by decide +kernel
theorem dX1_has_18 : decode cX1_has 18 = .ok (.goto 4, 3) := by decide +kernel
theorem dX1_has_21 : decode cX1_has 21 = .ok (.iconst 0, 1) := by decide +kernel
theorem dX1_has_22 : decode cX1_has 22 = .ok (.ireturn, 1) := by decide +kernel
set_option maxRecDepth 20000 in
theorem ggX1_handOf_X1_has : GoodIn wsX1_handOf wsX1_has := goodIn_r _ [6, 7, 8, 9, 10, 11, 12, 13, 14, 15, 16, 17, 18, 19] (by decide +kernel) (by decide +kernel)
set_option maxRecDepth 20000 in
theorem gX1_handOf_X1_has : GoodIn wsX1_handOf (wsV RX1 75 RX1 yX1_has wsX1_has) := goodIn_app (goodIn_of _ (by decide +kernel)) ggX1_handOf_X1_has
theorem dX1_handOf_0 : decode cX1_handOf 0 = .ok (.aload_n 0, 1) := by decide +kernel
theorem dX1_handOf_1 : decode cX1_handOf 1 = .ok (.iload_n 1, 1) := by decide +kernel
theorem dX1_handOf_2 : decode cX1_handOf 2 = .ok (.invokevirtual 75, 3) := by decide +kernel
theorem dX1_handOf_5 : decode cX1_handOf 5 = .ok (.ifCond .eq 12, 3) := by decide +kernel
theorem dX1_handOf_8 : decode cX1_handOf 8 = .ok (.aload_n 0, 1) := by decide +kernel
theorem dX1_handOf_9 : decode cX1_handOf 9 = .ok (.getfield 9, 3) := by decide +kernel
theorem dX1_handOf_12 : decode cX1_handOf 12 = .ok (.iload_n 1, 1) := by decide +kernel
theorem dX1_handOf_13 : decode cX1_handOf 13 = .ok (.laload, 1) := by decide +kernel
theorem dX1_handOf_14 : decode cX1_handOf 14 = .ok (.goto 4, 3) := by decide +kernel
theorem dX1_handOf_17 : decode cX1_handOf 17 = .ok (.lconst 0, 1) := by decide +kernel
theorem dX1_handOf_18 : decode cX1_handOf 18 = .ok (.lreturn, 1) := by decide +kernel
set_option maxRecDepth 20000 in
theorem ggX1_hasOpened_X1_has : GoodIn wsX1_hasOpened wsX1_has := goodIn_r _ [6, 7, 8, 9, 10, 11, 12, 13, 14, 15, 16, 17, 18, 19] (by decide +kernel) (by decide +kernel)
set_option maxRecDepth 20000 in
theorem gX1_hasOpened_X1_has : GoodIn wsX1_hasOpened (wsV RX1 75 RX1 yX1_has wsX1_has) := goodIn_app (goodIn_of _ (by decide +kernel)) ggX1_hasOpened_X1_has
theorem dX1_hasOpened_0 : decode cX1_hasOpened 0 = .ok (.aload_n 0, 1) := by decide +kernel
theorem dX1_hasOpened_1 : decode cX1_hasOpened 1 = .ok (.iload_n 1, 1) := by decide +kernel
theorem dX1_hasOpened_2 : decode cX1_hasOpened 2 = .ok (.invokevirtual 75, 3) := by decide +kernel
theorem dX1_hasOpened_5 : decode cX1_hasOpened 5 = .ok (.ifCond .eq 16, 3) := by decide +kernel
theorem dX1_hasOpened_8 : decode cX1_hasOpened 8 = .ok (.aload_n 0, 1) := by decide +kernel
theorem dX1_hasOpened_9 : decode cX1_hasOpened 9 = .ok (.getfield 15, 3) := by decide +kernel
theorem dX1_hasOpened_12 : decode cX1_hasOpened 12 = .ok (.iload_n 1, 1) := by decide +kernel
theorem dX1_hasOpened_13 : decode cX1_hasOpened 13 = .ok (.baload, 1) := by decide +kernel
theorem dX1_hasOpened_14 : decode cX1_hasOpened 14 = .ok (.ifCond .eq 7, 3) := by decide +kernel
theorem dX1_hasOpened_17 : decode cX1_hasOpened 17 = .ok (.iconst 1, 1) := by decide +kernel
theorem dX1_hasOpened_18 : decode cX1_hasOpened 18 = .ok (.goto 4, 3) := by decide +kernel
theorem dX1_hasOpened_21 : decode cX1_hasOpened 21 = .ok (.iconst 0, 1) := by decide +kernel
theorem dX1_hasOpened_22 : decode cX1_hasOpened 22 = .ok (.ireturn, 1) := by decide +kernel
theorem dX1_fact_0 : decode cX1_fact 0 = .ok (.iload_n 1, 1) := by decide +kernel
theorem dX1_fact_1 : decode cX1_fact 1 = .ok (.tableswitch 80 0 5 #[39, 44, 52, 65, 70, 75], 39) := by decide +kernel
theorem dX1_fact_40 : decode cX1_fact 40 = .ok (.aload_n 0, 1) := by decide +kernel
theorem dX1_fact_41 : decode cX1_fact 41 = .ok (.getfield 52, 3) := by decide +kernel
theorem dX1_fact_44 : decode cX1_fact 44 = .ok (.ireturn, 1) := by decide +kernel
theorem dX1_fact_45 : decode cX1_fact 45 = .ok (.bipush 54, 2) := by decide +kernel
theorem dX1_fact_47 : decode cX1_fact 47 = .ok (.aload_n 0, 1) := by decide +kernel
theorem dX1_fact_48 : decode cX1_fact 48 = .ok (.getfield 37, 3) := by decide +kernel
theorem dX1_fact_51 : decode cX1_fact 51 = .ok (.isub, 1) := by decide +kernel
theorem dX1_fact_52 : decode cX1_fact 52 = .ok (.ireturn, 1) := by decide +kernel
theorem dX1_fact_53 : decode cX1_fact 53 = .ok (.aload_n 0, 1) := by decide +kernel
theorem dX1_fact_54 : decode cX1_fact 54 = .ok (.getfield 64, 3) := by decide +kernel
theorem dX1_fact_57 : decode cX1_fact 57 = .ok (.ifCond .eq 7, 3) := by decide +kernel
theorem dX1_fact_60 : decode cX1_fact 60 = .ok (.iconst 1, 1) := by decide +kernel
theorem dX1_fact_61 : decode cX1_fact 61 = .ok (.goto 4, 3) := by decide +kernel
theorem dX1_fact_64 : decode cX1_fact 64 = .ok (.iconst 0, 1) := by decide +kernel
theorem dX1_fact_65 : decode cX1_fact 65 = .ok (.ireturn, 1) := by decide +kernel
theorem dX1_fact_66 : decode cX1_fact 66 = .ok (.aload_n 0, 1) := by decide +kernel
theorem dX1_fact_67 : decode cX1_fact 67 = .ok (.getfield 68, 3) := by decide +kernel
theorem dX1_fact_70 : decode cX1_fact 70 = .ok (.ireturn, 1) := by decide +kernel
theorem dX1_fact_71 : decode cX1_fact 71 = .ok (.aload_n 0, 1) := by decide +kernel
theorem dX1_fact_72 : decode cX1_fact 72 = .ok (.getfield 55, 3) := by decide +kernel
theorem dX1_fact_75 : decode cX1_fact 75 = .ok (.ireturn, 1) := by decide +kernel
theorem dX1_fact_76 : decode cX1_fact 76 = .ok (.aload_n 0, 1) := by decide +kernel
theorem dX1_fact_77 : decode cX1_fact 77 = .ok (.getfield 58, 3) := by decide +kernel
theorem dX1_fact_80 : decode cX1_fact 80 = .ok (.ireturn, 1) := by decide +kernel
theorem dX1_fact_81 : decode cX1_fact 81 = .ok (.aload_n 0, 1) := by decide +kernel
theorem dX1_fact_82 : decode cX1_fact 82 = .ok (.getfield 33, 3) := by decide +kernel
theorem dX1_fact_85 : decode cX1_fact 85 = .ok (.ireturn, 1) := by decide +kernel
set_option maxRecDepth 20000 in
theorem ggX1_putDown_X1_has : GoodIn wsX1_putDown wsX1_has := goodIn_r _ [13, 14, 15, 16, 17, 18, 19, 20, 21, 22, 23, 24, 25, 26] (by decide +kernel) (by decide +kernel)
set_option maxRecDepth 20000 in
theorem gX1_putDown_X1_has : GoodIn wsX1_putDown (wsV RX1 75 RX1 yX1_has wsX1_has) := goodIn_app (goodIn_of _ (by decide +kernel)) ggX1_putDown_X1_has
theorem dX1_putDown_0 : decode cX1_putDown 0 = .ok (.aload_n 0, 1) := by decide +kernel
theorem dX1_putDown_1 : decode cX1_putDown 1 = .ok (.aload_n 0, 1) := by decide +kernel
theorem dX1_putDown_2 : decode cX1_putDown 2 = .ok (.getfield 52, 3) := by decide +kernel
theorem dX1_putDown_5 : decode cX1_putDown 5 = .ok (.invokevirtual 75, 3) := by decide +kernel
theorem dX1_putDown_8 : decode cX1_putDown 8 = .ok (.ifCond .ne 4, 3) := by decide +kernel
theorem dX1_putDown_11 : decode cX1_putDown 11 = .ok (.return_, 1) := by decide +kernel
theorem dX1_putDown_12 : decode cX1_putDown 12 = .ok (.aload_n 0, 1) := by decide +kernel
theorem dX1_putDown_13 : decode cX1_putDown 13 = .ok (.getfield 9, 3) := by decide +kernel
theorem dX1_putDown_16 : decode cX1_putDown 16 = .ok (.aload_n 0, 1) := by decide +kernel
theorem dX1_putDown_17 : decode cX1_putDown 17 = .ok (.getfield 52, 3) := by decide +kernel
theorem dX1_putDown_20 : decode cX1_putDown 20 = .ok (.dup2, 1) := by decide +kernel
theorem dX1_putDown_21 : decode cX1_putDown 21 = .ok (.laload, 1) := by decide +kernel
theorem dX1_putDown_22 : decode cX1_putDown 22 = .ok (.lload_n 1, 1) := by decide +kernel
theorem dX1_putDown_23 : decode cX1_putDown 23 = .ok (.ldc2_w 79, 3) := by decide +kernel
theorem dX1_putDown_26 : decode cX1_putDown 26 = .ok (.lxor, 1) := by decide +kernel
theorem dX1_putDown_27 : decode cX1_putDown 27 = .ok (.land, 1) := by decide +kernel
theorem dX1_putDown_28 : decode cX1_putDown 28 = .ok (.lastore, 1) := by decide +kernel
theorem dX1_putDown_29 : decode cX1_putDown 29 = .ok (.aload_n 0, 1) := by decide +kernel
theorem dX1_putDown_30 : decode cX1_putDown 30 = .ok (.getfield 15, 3) := by decide +kernel
theorem dX1_putDown_33 : decode cX1_putDown 33 = .ok (.aload_n 0, 1) := by decide +kernel
theorem dX1_putDown_34 : decode cX1_putDown 34 = .ok (.getfield 52, 3) := by decide +kernel
theorem dX1_putDown_37 : decode cX1_putDown 37 = .ok (.iconst 1, 1) := by decide +kernel
theorem dX1_putDown_38 : decode cX1_putDown 38 = .ok (.bastore, 1) := by decide +kernel
theorem dX1_putDown_39 : decode cX1_putDown 39 = .ok (.aload_n 0, 1) := by decide +kernel
theorem dX1_putDown_40 : decode cX1_putDown 40 = .ok (.dup, 1) := by decide +kernel
theorem dX1_putDown_41 : decode cX1_putDown 41 = .ok (.getfield 48, 3) := by decide +kernel
theorem dX1_putDown_44 : decode cX1_putDown 44 = .ok (.lload_n 1, 1) := by decide +kernel
theorem dX1_putDown_45 : decode cX1_putDown 45 = .ok (.lor, 1) := by decide +kernel
theorem dX1_putDown_46 : decode cX1_putDown 46 = .ok (.putfield 48, 3) := by decide +kernel
theorem dX1_putDown_49 : decode cX1_putDown 49 = .ok (.aload_n 0, 1) := by decide +kernel
theorem dX1_putDown_50 : decode cX1_putDown 50 = .ok (.dup, 1) := by decide +kernel
theorem dX1_putDown_51 : decode cX1_putDown 51 = .ok (.getfield 58, 3) := by decide +kernel
theorem dX1_putDown_54 : decode cX1_putDown 54 = .ok (.iconst 1, 1) := by decide +kernel
theorem dX1_putDown_55 : decode cX1_putDown 55 = .ok (.iadd, 1) := by decide +kernel
theorem dX1_putDown_56 : decode cX1_putDown 56 = .ok (.putfield 58, 3) := by decide +kernel
theorem dX1_putDown_59 : decode cX1_putDown 59 = .ok (.aload_n 0, 1) := by decide +kernel
theorem dX1_putDown_60 : decode cX1_putDown 60 = .ok (.getfield 9, 3) := by decide +kernel
theorem dX1_putDown_63 : decode cX1_putDown 63 = .ok (.aload_n 0, 1) := by decide +kernel
theorem dX1_putDown_64 : decode cX1_putDown 64 = .ok (.getfield 52, 3) := by decide +kernel
theorem dX1_putDown_67 : decode cX1_putDown 67 = .ok (.laload, 1) := by decide +kernel
theorem dX1_putDown_68 : decode cX1_putDown 68 = .ok (.lconst 0, 1) := by decide +kernel
theorem dX1_putDown_69 : decode cX1_putDown 69 = .ok (.lcmp, 1) := by decide +kernel
theorem dX1_putDown_70 : decode cX1_putDown 70 = .ok (.ifCond .ne 16, 3) := by decide +kernel
theorem dX1_putDown_73 : decode cX1_putDown 73 = .ok (.aload_n 0, 1) := by decide +kernel
theorem dX1_putDown_74 : decode cX1_putDown 74 = .ok (.iconst 1, 1) := by decide +kernel
theorem dX1_putDown_75 : decode cX1_putDown 75 = .ok (.putfield 64, 3) := by decide +kernel
theorem dX1_putDown_78 : decode cX1_putDown 78 = .ok (.aload_n 0, 1) := by decide +kernel
theorem dX1_putDown_79 : decode cX1_putDown 79 = .ok (.aload_n 0, 1) := by decide +kernel
theorem dX1_putDown_80 : decode cX1_putDown 80 = .ok (.getfield 52, 3) := by decide +kernel
theorem dX1_putDown_83 : decode cX1_putDown 83 = .ok (.putfield 68, 3) := by decide +kernel
theorem dX1_putDown_86 : decode cX1_putDown 86 = .ok (.return_, 1) := by decide +kernel
set_option maxRecDepth 20000 in
theorem ggX1_endTurn_X1_drawn : GoodIn wsX1_endTurn wsX1_drawn := goodIn_r _ [12, 13, 14, 22, 23, 24, 25, 26, 27, 28, 29, 30, 31, 32, 33] (by decide +kernel) (by decide +kernel)
set_option maxRecDepth 20000 in
theorem gX1_endTurn_X1_drawn : GoodIn wsX1_endTurn (wsV RX1 40 RX1 yX1_drawn wsX1_drawn) := goodIn_app (goodIn_of _ (by decide +kernel)) ggX1_endTurn_X1_drawn
set_option maxRecDepth 20000 in
theorem ggX1_endTurn_X1_has : GoodIn wsX1_endTurn wsX1_has := goodIn_r _ [18, 5, 22, 23, 24, 25, 26, 27, 28, 29, 30, 31, 32, 33] (by decide +kernel) (by decide +kernel)
set_option maxRecDepth 20000 in
theorem gX1_endTurn_X1_has : GoodIn wsX1_endTurn (wsV RX1 75 RX1 yX1_has wsX1_has) := goodIn_app (goodIn_of _ (by decide +kernel)) ggX1_endTurn_X1_has
set_option maxRecDepth 20000 in
theorem ggX1_endTurn_X1_bitOf : GoodIn wsX1_endTurn wsX1_bitOf := goodIn_r _ [21] (by decide +kernel) (by decide +kernel)
set_option maxRecDepth 20000 in
theorem gX1_endTurn_X1_bitOf : GoodIn wsX1_endTurn (va_wsS RX1 44 yX1_bitOf wsX1_bitOf) := goodIn_app (goodIn_of _ (by decide +kernel)) ggX1_endTurn_X1_bitOf
end
section
theorem dX1_endTurn_0 : decode cX1_endTurn 0 = .ok (.aload_n 0, 1) := by decide +kernel
theorem dX1_endTurn_1 : decode cX1_endTurn 1 = .ok (.getfield 58, 3) := by decide +kernel
theorem dX1_endTurn_4 : decode cX1_endTurn 4 = .ok (.ifCond .ne 10, 3) := by decide +kernel
theorem dX1_endTurn_7 : decode cX1_endTurn 7 = .ok (.aload_n 0, 1) := by decide +kernel
theorem dX1_endTurn_8 : decode cX1_endTurn 8 = .ok (.invokevirtual 40, 3) := by decide +kernel
theorem dX1_endTurn_11 : decode cX1_endTurn 11 = .ok (.goto 5, 3) := by decide +kernel
theorem dX1_endTurn_14 : decode cX1_endTurn 14 = .ok (.bipush 54, 2) := by decide +kernel
theorem dX1_endTurn_16 : decode cX1_endTurn 16 = .ok (.istore_n 1, 1) := by decide +kernel
theorem dX1_endTurn_17 : decode cX1_endTurn 17 = .ok (.aload_n 0, 1) := by decide +kernel
theorem dX1_endTurn_18 : decode cX1_endTurn 18 = .ok (.aload_n 0, 1) := by decide +kernel
theorem dX1_endTurn_19 : decode cX1_endTurn 19 = .ok (.getfield 52, 3) := by decide +kernel
theorem dX1_endTurn_22 : decode cX1_endTurn 22 = .ok (.invokevirtual 75, 3) := by decide +kernel
theorem dX1_endTurn_25 : decode cX1_endTurn 25 = .ok (.ifCond .eq 19, 3) := by decide +kernel
theorem dX1_endTurn_28 : decode cX1_endTurn 28 = .ok (.aload_n 0, 1) := by decide +kernel
theorem dX1_endTurn_29 : decode cX1_endTurn 29 = .ok (.getfield 9, 3) := by decide +kernel
theorem dX1_endTurn_32 : decode cX1_endTurn 32 = .ok (.aload_n 0, 1) := by decide +kernel
theorem dX1_endTurn_33 : decode cX1_endTurn 33 = .ok (.getfield 52, 3) := by decide +kernel
theorem dX1_endTurn_36 : decode cX1_endTurn 36 = .ok (.dup2, 1) := by decide +kernel
theorem dX1_endTurn_37 : decode cX1_endTurn 37 = .ok (.laload, 1) := by decide +kernel
theorem dX1_endTurn_38 : decode cX1_endTurn 38 = .ok (.iload_n 1, 1) := by decide +kernel
theorem dX1_endTurn_39 : decode cX1_endTurn 39 = .ok (.invokestatic 44, 3) := by decide +kernel
theorem dX1_endTurn_42 : decode cX1_endTurn 42 = .ok (.lor, 1) := by decide +kernel
theorem dX1_endTurn_43 : decode cX1_endTurn 43 = .ok (.lastore, 1) := by decide +kernel
theorem dX1_endTurn_44 : decode cX1_endTurn 44 = .ok (.aload_n 0, 1) := by decide +kernel
theorem dX1_endTurn_45 : decode cX1_endTurn 45 = .ok (.aload_n 0, 1) := by decide +kernel
theorem dX1_endTurn_46 : decode cX1_endTurn 46 = .ok (.getfield 58, 3) := by decide +kernel
theorem dX1_endTurn_49 : decode cX1_endTurn 49 = .ok (.ifCond .ne 18, 3) := by decide +kernel
theorem dX1_endTurn_52 : decode cX1_endTurn 52 = .ok (.iload_n 1, 1) := by decide +kernel
theorem dX1_endTurn_53 : decode cX1_endTurn 53 = .ok (.bipush 54, 2) := by decide +kernel
theorem dX1_endTurn_55 : decode cX1_endTurn 55 = .ok (.if_icmp .ne 12, 3) := by decide +kernel
theorem dX1_endTurn_58 : decode cX1_endTurn 58 = .ok (.aload_n 0, 1) := by decide +kernel
theorem dX1_endTurn_59 : decode cX1_endTurn 59 = .ok (.getfield 61, 3) := by decide +kernel
theorem dX1_endTurn_62 : decode cX1_endTurn 62 = .ok (.iconst 1, 1) := by decide +kernel
theorem dX1_endTurn_63 : decode cX1_endTurn 63 = .ok (.iadd, 1) := by decide +kernel
theorem dX1_endTurn_64 : decode cX1_endTurn 64 = .ok (.goto 4, 3) := by decide +kernel
theorem dX1_endTurn_67 : decode cX1_endTurn 67 = .ok (.iconst 0, 1) := by decide +kernel
theorem dX1_endTurn_68 : decode cX1_endTurn 68 = .ok (.putfield 61, 3) := by decide +kernel
theorem dX1_endTurn_71 : decode cX1_endTurn 71 = .ok (.aload_n 0, 1) := by decide +kernel
theorem dX1_endTurn_72 : decode cX1_endTurn 72 = .ok (.aload_n 0, 1) := by decide +kernel
theorem dX1_endTurn_73 : decode cX1_endTurn 73 = .ok (.getfield 61, 3) := by decide +kernel
theorem dX1_endTurn_76 : decode cX1_endTurn 76 = .ok (.aload_n 0, 1) := by decide +kernel
theorem dX1_endTurn_77 : decode cX1_endTurn 77 = .ok (.getfield 33, 3) := by decide +kernel
theorem dX1_endTurn_80 : decode cX1_endTurn 80 = .ok (.if_icmp .lt 7, 3) := by decide +kernel
theorem dX1_endTurn_83 : decode cX1_endTurn 83 = .ok (.iconst 1, 1) := by decide +kernel
theorem dX1_endTurn_84 : decode cX1_endTurn 84 = .ok (.goto 4, 3) := by decide +kernel
theorem dX1_endTurn_87 : decode cX1_endTurn 87 = .ok (.iconst 0, 1) := by decide +kernel
theorem dX1_endTurn_88 : decode cX1_endTurn 88 = .ok (.putfield 64, 3) := by decide +kernel
theorem dX1_endTurn_91 : decode cX1_endTurn 91 = .ok (.aload_n 0, 1) := by decide +kernel
theorem dX1_endTurn_92 : decode cX1_endTurn 92 = .ok (.dup, 1) := by decide +kernel
theorem dX1_endTurn_93 : decode cX1_endTurn 93 = .ok (.getfield 55, 3) := by decide +kernel
theorem dX1_endTurn_96 : decode cX1_endTurn 96 = .ok (.iconst 1, 1) := by decide +kernel
theorem dX1_endTurn_97 : decode cX1_endTurn 97 = .ok (.iadd, 1) := by decide +kernel
theorem dX1_endTurn_98 : decode cX1_endTurn 98 = .ok (.putfield 55, 3) := by decide +kernel
theorem dX1_endTurn_101 : decode cX1_endTurn 101 = .ok (.aload_n 0, 1) := by decide +kernel
theorem dX1_endTurn_102 : decode cX1_endTurn 102 = .ok (.iconst 0, 1) := by decide +kernel
theorem dX1_endTurn_103 : decode cX1_endTurn 103 = .ok (.putfield 58, 3) := by decide +kernel
theorem dX1_endTurn_106 : decode cX1_endTurn 106 = .ok (.aload_n 0, 1) := by decide +kernel
theorem dX1_endTurn_107 : decode cX1_endTurn 107 = .ok (.aload_n 0, 1) := by decide +kernel
theorem dX1_endTurn_108 : decode cX1_endTurn 108 = .ok (.getfield 52, 3) := by decide +kernel
theorem dX1_endTurn_111 : decode cX1_endTurn 111 = .ok (.iconst 1, 1) := by decide +kernel
theorem dX1_endTurn_112 : decode cX1_endTurn 112 = .ok (.iadd, 1) := by decide +kernel
theorem dX1_endTurn_113 : decode cX1_endTurn 113 = .ok (.aload_n 0, 1) := by decide +kernel
theorem dX1_endTurn_114 : decode cX1_endTurn 114 = .ok (.getfield 33, 3) := by decide +kernel
theorem dX1_endTurn_117 : decode cX1_endTurn 117 = .ok (.if_icmp .ge 12, 3) := by decide +kernel
theorem dX1_endTurn_120 : decode cX1_endTurn 120 = .ok (.aload_n 0, 1) := by decide +kernel
theorem dX1_endTurn_121 : decode cX1_endTurn 121 = .ok (.getfield 52, 3) := by decide +kernel
theorem dX1_endTurn_124 : decode cX1_endTurn 124 = .ok (.iconst 1, 1) := by decide +kernel
theorem dX1_endTurn_125 : decode cX1_endTurn 125 = .ok (.iadd, 1) := by decide +kernel
theorem dX1_endTurn_126 : decode cX1_endTurn 126 = .ok (.goto 4, 3) := by decide +kernel
theorem dX1_endTurn_129 : decode cX1_endTurn 129 = .ok (.iconst 0, 1) := by decide +kernel
theorem dX1_endTurn_130 : decode cX1_endTurn 130 = .ok (.putfield 52, 3) := by decide +kernel
theorem dX1_endTurn_133 : decode cX1_endTurn 133 = .ok (.iload_n 1, 1) := by decide +kernel
theorem dX1_endTurn_134 : decode cX1_endTurn 134 = .ok (.ireturn, 1) := by decide +kernel
theorem dX2_init_0 : decode cX2_init 0 = .ok (.aload_n 0, 1) := by decide +kernel
theorem dX2_init_1 : decode cX2_init 1 = .ok (.invokespecial 3, 3) := by decide +kernel
theorem dX2_init_4 : decode cX2_init 4 = .ok (.aload_n 0, 1) := by decide +kernel
theorem dX2_init_5 : decode cX2_init 5 = .ok (.bipush 13, 2) := by decide +kernel
theorem dX2_init_7 : decode cX2_init 7 = .ok (.newarray .int, 2) := by decide +kernel
theorem dX2_init_9 : decode cX2_init 9 = .ok (.putfield 9, 3) := by decide +kernel
theorem dX2_init_12 : decode cX2_init 12 = .ok (.return_, 1) := by decide +kernel
set_option maxRecDepth 20000 in
theorem ggX2_placeOf_X5_placeOf : GoodIn wsX2_placeOf wsX5_placeOf := goodIn_r _ [5, 6, 7, 4, 8, 9, 10, 11, 12, 13, 14] (by decide +kernel) (by decide +kernel)
set_option maxRecDepth 20000 in
theorem gX2_placeOf_X5_placeOf : GoodIn wsX2_placeOf (va_wsS RX2 15 yX5_placeOf wsX5_placeOf) := goodIn_app (goodIn_of _ (by decide +kernel)) ggX2_placeOf_X5_placeOf
theorem dX2_placeOf_0 : decode cX2_placeOf 0 = .ok (.iload_n 1, 1) := by decide +kernel
theorem dX2_placeOf_1 : decode cX2_placeOf 1 = .ok (.ifCond .lt 9, 3) := by decide +kernel
theorem dX2_placeOf_4 : decode cX2_placeOf 4 = .ok (.iload_n 1, 1) := by decide +kernel
theorem dX2_placeOf_5 : decode cX2_placeOf 5 = .ok (.bipush 52, 2) := by decide +kernel
theorem dX2_placeOf_7 : decode cX2_placeOf 7 = .ok (.if_icmp .lt 5, 3) := by decide +kernel
theorem dX2_placeOf_10 : decode cX2_placeOf 10 = .ok (.iconst (-1), 1) := by decide +kernel
theorem dX2_placeOf_11 : decode cX2_placeOf 11 = .ok (.ireturn, 1) := by decide +kernel
theorem dX2_placeOf_12 : decode cX2_placeOf 12 = .ok (.aload_n 0, 1) := by decide +kernel
theorem dX2_placeOf_13 : decode cX2_placeOf 13 = .ok (.getfield 9, 3) := by decide +kernel
theorem dX2_placeOf_16 : decode cX2_placeOf 16 = .ok (.iload_n 1, 1) := by decide +kernel
theorem dX2_placeOf_17 : decode cX2_placeOf 17 = .ok (.iconst 4, 1) := by decide +kernel
theorem dX2_placeOf_18 : decode cX2_placeOf 18 = .ok (.idiv, 1) := by decide +kernel
theorem dX2_placeOf_19 : decode cX2_placeOf 19 = .ok (.iaload, 1) := by decide +kernel
theorem dX2_placeOf_20 : decode cX2_placeOf 20 = .ok (.iload_n 1, 1) := by decide +kernel
theorem dX2_placeOf_21 : decode cX2_placeOf 21 = .ok (.iconst 4, 1) := by decide +kernel
theorem dX2_placeOf_22 : decode cX2_placeOf 22 = .ok (.irem, 1) := by decide +kernel
theorem dX2_placeOf_23 : decode cX2_placeOf 23 = .ok (.invokestatic 15, 3) := by decide +kernel
theorem dX2_placeOf_26 : decode cX2_placeOf 26 = .ok (.ireturn, 1) := by decide +kernel
set_option maxRecDepth 20000 in
theorem ggX2_jokerFor_X2_placeOf : GoodIn wsX2_jokerFor wsX2_placeOf := goodIn_r _ [6, 7, 8, 9, 10, 11, 12, 13, 14, 15, 16, 17, 18, 19, 20, 21, 22] (by decide +kernel) (by decide +kernel)
set_option maxRecDepth 20000 in
theorem gX2_jokerFor_X2_placeOf : GoodIn wsX2_jokerFor (wsV RX2 21 RX2 yX2_placeOf wsX2_placeOf) := goodIn_app (goodIn_of _ (by decide +kernel)) ggX2_jokerFor_X2_placeOf
theorem dX2_jokerFor_0 : decode cX2_jokerFor 0 = .ok (.iload_n 1, 1) := by decide +kernel
theorem dX2_jokerFor_1 : decode cX2_jokerFor 1 = .ok (.ifCond .lt 9, 3) := by decide +kernel
theorem dX2_jokerFor_4 : decode cX2_jokerFor 4 = .ok (.iload_n 1, 1) := by decide +kernel
theorem dX2_jokerFor_5 : decode cX2_jokerFor 5 = .ok (.bipush 52, 2) := by decide +kernel
theorem dX2_jokerFor_7 : decode cX2_jokerFor 7 = .ok (.if_icmp .lt 5, 3) := by decide +kernel
theorem dX2_jokerFor_10 : decode cX2_jokerFor 10 = .ok (.iconst (-1), 1) := by decide +kernel
theorem dX2_jokerFor_11 : decode cX2_jokerFor 11 = .ok (.ireturn, 1) := by decide +kernel
theorem dX2_jokerFor_12 : decode cX2_jokerFor 12 = .ok (.aload_n 0, 1) := by decide +kernel
theorem dX2_jokerFor_13 : decode cX2_jokerFor 13 = .ok (.iload_n 1, 1) := by decide +kernel
theorem dX2_jokerFor_14 : decode cX2_jokerFor 14 = .ok (.invokevirtual 21, 3) := by decide +kernel
theorem dX2_jokerFor_17 : decode cX2_jokerFor 17 = .ok (.ifCond .eq 20, 3) := by decide +kernel
theorem dX2_jokerFor_20 : decode cX2_jokerFor 20 = .ok (.aload_n 0, 1) := by decide +kernel
theorem dX2_jokerFor_21 : decode cX2_jokerFor 21 = .ok (.getfield 24, 3) := by decide +kernel
theorem dX2_jokerFor_24 : decode cX2_jokerFor 24 = .ok (.iload_n 1, 1) := by decide +kernel
theorem dX2_jokerFor_25 : decode cX2_jokerFor 25 = .ok (.lushr, 1) := by decide +kernel
theorem dX2_jokerFor_26 : decode cX2_jokerFor 26 = .ok (.lconst 1, 1) := by decide +kernel
theorem dX2_jokerFor_27 : decode cX2_jokerFor 27 = .ok (.land, 1) := by decide +kernel
theorem dX2_jokerFor_28 : decode cX2_jokerFor 28 = .ok (.lconst 0, 1) := by decide +kernel
theorem dX2_jokerFor_29 : decode cX2_jokerFor 29 = .ok (.lcmp, 1) := by decide +kernel
theorem dX2_jokerFor_30 : decode cX2_jokerFor 30 = .ok (.ifCond .ne 7, 3) := by decide +kernel
theorem dX2_jokerFor_33 : decode cX2_jokerFor 33 = .ok (.iconst 1, 1) := by decide +kernel
theorem dX2_jokerFor_34 : decode cX2_jokerFor 34 = .ok (.goto 4, 3) := by decide +kernel
theorem dX2_jokerFor_37 : decode cX2_jokerFor 37 = .ok (.iconst 0, 1) := by decide +kernel
theorem dX2_jokerFor_38 : decode cX2_jokerFor 38 = .ok (.ireturn, 1) := by decide +kernel
set_option maxRecDepth 20000 in
theorem ggX2_groups_X5_grouped : GoodIn wsX2_groups wsX5_grouped := goodIn_r _ [5] (by decide +kernel) (by decide +kernel)
set_option maxRecDepth 20000 in
theorem gX2_groups_X5_grouped : GoodIn wsX2_groups (va_wsS RX2 28 yX5_grouped wsX5_grouped) := goodIn_app (goodIn_of _ (by decide +kernel)) ggX2_groups_X5_grouped
theorem dX2_groups_0 : decode cX2_groups 0 = .ok (.iconst 0, 1) := by decide +kernel
theorem dX2_groups_1 : decode cX2_groups 1 = .ok (.istore_n 1, 1) := by decide +kernel
theorem dX2_groups_2 : decode cX2_groups 2 = .ok (.aload_n 0, 1) := by decide +kernel
theorem dX2_groups_3 : decode cX2_groups 3 = .ok (.getfield 9, 3) := by decide +kernel
theorem dX2_groups_6 : decode cX2_groups 6 = .ok (.astore_n 2, 1) := by decide +kernel
theorem dX2_groups_7 : decode cX2_groups 7 = .ok (.aload_n 2, 1) := by decide +kernel
theorem dX2_groups_8 : decode cX2_groups 8 = .ok (.arraylength, 1) := by decide +kernel
theorem dX2_groups_9 : decode cX2_groups 9 = .ok (.istore_n 3, 1) := by decide +kernel
theorem dX2_groups_10 : decode cX2_groups 10 = .ok (.iconst 0, 1) := by decide +kernel
theorem dX2_groups_11 : decode cX2_groups 11 = .ok (.istore 4, 2) := by decide +kernel
theorem dX2_groups_13 : decode cX2_groups 13 = .ok (.iload 4, 2) := by decide +kernel
theorem dX2_groups_15 : decode cX2_groups 15 = .ok (.iload_n 3, 1) := by decide +kernel
theorem dX2_groups_16 : decode cX2_groups 16 = .ok (.if_icmp .ge 26, 3) := by decide +kernel
theorem dX2_groups_19 : decode cX2_groups 19 = .ok (.aload_n 2, 1) := by decide +kernel
theorem dX2_groups_20 : decode cX2_groups 20 = .ok (.iload 4, 2) := by decide +kernel
theorem dX2_groups_22 : decode cX2_groups 22 = .ok (.iaload, 1) := by decide +kernel
theorem dX2_groups_23 : decode cX2_groups 23 = .ok (.istore 5, 2) := by decide +kernel
theorem dX2_groups_25 : decode cX2_groups 25 = .ok (.iload 5, 2) := by decide +kernel
theorem dX2_groups_27 : decode cX2_groups 27 = .ok (.invokestatic 28, 3) := by decide +kernel
theorem dX2_groups_30 : decode cX2_groups 30 = .ok (.ifCond .eq 6, 3) := by decide +kernel
theorem dX2_groups_33 : decode cX2_groups 33 = .ok (.iinc 1 1, 3) := by decide +kernel
theorem dX2_groups_36 : decode cX2_groups 36 = .ok (.iinc 4 1, 3) := by decide +kernel
theorem dX2_groups_39 : decode cX2_groups 39 = .ok (.goto (-26), 3) := by decide +kernel
theorem dX2_groups_42 : decode cX2_groups 42 = .ok (.iload_n 1, 1) := by decide +kernel
theorem dX2_groups_43 : decode cX2_groups 43 = .ok (.ireturn, 1) := by decide +kernel
set_option maxRecDepth 20000 in
theorem ggX2_runs_X5_begun : GoodIn wsX2_runs wsX5_begun := goodIn_r _ [5] (by decide +kernel) (by decide +kernel)
set_option maxRecDepth 20000 in
theorem gX2_runs_X5_begun : GoodIn wsX2_runs (va_wsS RX2 31 yX5_begun wsX5_begun) := goodIn_app (goodIn_of _ (by decide +kernel)) ggX2_runs_X5_begun
set_option maxRecDepth 20000 in
theorem ggX2_runs_J6_bitCount_0f7a4 : GoodIn wsX2_runs wsJ6_bitCount_0f7a4 := goodIn_r _ [9, 10, 11, 12] (by decide +kernel) (by decide +kernel)
set_option maxRecDepth 20000 in
theorem gX2_runs_J6_bitCount_0f7a4 : GoodIn wsX2_runs (va_wsS RX2 34 yJ6_bitCount_0f7a4 wsJ6_bitCount_0f7a4) := goodIn_app (goodIn_of _ (by decide +kernel)) ggX2_runs_J6_bitCount_0f7a4
theorem dX2_runs_0 : decode cX2_runs 0 = .ok (.iconst 0, 1) := by decide +kernel
theorem dX2_runs_1 : decode cX2_runs 1 = .ok (.istore_n 1, 1) := by decide +kernel
theorem dX2_runs_2 : decode cX2_runs 2 = .ok (.aload_n 0, 1) := by decide +kernel
theorem dX2_runs_3 : decode cX2_runs 3 = .ok (.getfield 9, 3) := by decide +kernel
theorem dX2_runs_6 : decode cX2_runs 6 = .ok (.astore_n 2, 1) := by decide +kernel
theorem dX2_runs_7 : decode cX2_runs 7 = .ok (.aload_n 2, 1) := by decide +kernel
theorem dX2_runs_8 : decode cX2_runs 8 = .ok (.arraylength, 1) := by decide +kernel
theorem dX2_runs_9 : decode cX2_runs 9 = .ok (.istore_n 3, 1) := by decide +kernel
theorem dX2_runs_10 : decode cX2_runs 10 = .ok (.iconst 0, 1) := by decide +kernel
theorem dX2_runs_11 : decode cX2_runs 11 = .ok (.istore 4, 2) := by decide +kernel
theorem dX2_runs_13 : decode cX2_runs 13 = .ok (.iload 4, 2) := by decide +kernel
theorem dX2_runs_15 : decode cX2_runs 15 = .ok (.iload_n 3, 1) := by decide +kernel
theorem dX2_runs_16 : decode cX2_runs 16 = .ok (.if_icmp .ge 26, 3) := by decide +kernel
theorem dX2_runs_19 : decode cX2_runs 19 = .ok (.aload_n 2, 1) := by decide +kernel
theorem dX2_runs_20 : decode cX2_runs 20 = .ok (.iload 4, 2) := by decide +kernel
theorem dX2_runs_22 : decode cX2_runs 22 = .ok (.iaload, 1) := by decide +kernel
theorem dX2_runs_23 : decode cX2_runs 23 = .ok (.istore 5, 2) := by decide +kernel
theorem dX2_runs_25 : decode cX2_runs 25 = .ok (.iload_n 1, 1) := by decide +kernel
theorem dX2_runs_26 : decode cX2_runs 26 = .ok (.iload 5, 2) := by decide +kernel
theorem dX2_runs_28 : decode cX2_runs 28 = .ok (.invokestatic 31, 3) := by decide +kernel
theorem dX2_runs_31 : decode cX2_runs 31 = .ok (.invokestatic 34, 3) := by decide +kernel
theorem dX2_runs_34 : decode cX2_runs 34 = .ok (.iadd, 1) := by decide +kernel
theorem dX2_runs_35 : decode cX2_runs 35 = .ok (.istore_n 1, 1) := by decide +kernel
theorem dX2_runs_36 : decode cX2_runs 36 = .ok (.iinc 4 1, 3) := by decide +kernel
theorem dX2_runs_39 : decode cX2_runs 39 = .ok (.goto (-26), 3) := by decide +kernel
theorem dX2_runs_42 : decode cX2_runs 42 = .ok (.iload_n 1, 1) := by decide +kernel
theorem dX2_runs_43 : decode cX2_runs 43 = .ok (.ireturn, 1) := by decide +kernel
set_option maxRecDepth 20000 in
theorem ggX2_shownCards_X5_shown : GoodIn wsX2_shownCards wsX5_shown := goodIn_r _ [5] (by decide +kernel) (by decide +kernel)
set_option maxRecDepth 20000 in
theorem gX2_shownCards_X5_shown : GoodIn wsX2_shownCards (va_wsS RX2 39 yX5_shown wsX5_shown) := goodIn_app (goodIn_of _ (by decide +kernel)) ggX2_shownCards_X5_shown
set_option maxRecDepth 20000 in
theorem ggX2_shownCards_J6_bitCount_0f7a4 : GoodIn wsX2_shownCards wsJ6_bitCount_0f7a4 := goodIn_r _ [9, 10, 11, 12] (by decide +kernel) (by decide +kernel)
set_option maxRecDepth 20000 in
theorem gX2_shownCards_J6_bitCount_0f7a4 : GoodIn wsX2_shownCards (va_wsS RX2 34 yJ6_bitCount_0f7a4 wsJ6_bitCount_0f7a4) := goodIn_app (goodIn_of _ (by decide +kernel)) ggX2_shownCards_J6_bitCount_0f7a4
theorem dX2_shownCards_0 : decode cX2_shownCards 0 = .ok (.iconst 0, 1) := by decide +kernel
theorem dX2_shownCards_1 : decode cX2_shownCards 1 = .ok (.istore_n 1, 1) := by decide +kernel
theorem dX2_shownCards_2 : decode cX2_shownCards 2 = .ok (.aload_n 0, 1) := by decide +kernel
theorem dX2_shownCards_3 : decode cX2_shownCards 3 = .ok (.getfield 9, 3) := by decide +kernel
theorem dX2_shownCards_6 : decode cX2_shownCards 6 = .ok (.astore_n 2, 1) := by decide +kernel
theorem dX2_shownCards_7 : decode cX2_shownCards 7 = .ok (.aload_n 2, 1) := by decide +kernel
theorem dX2_shownCards_8 : decode cX2_shownCards 8 = .ok (.arraylength, 1) := by decide +kernel
theorem dX2_shownCards_9 : decode cX2_shownCards 9 = .ok (.istore_n 3, 1) := by decide +kernel
theorem dX2_shownCards_10 : decode cX2_shownCards 10 = .ok (.iconst 0, 1) := by decide +kernel
theorem dX2_shownCards_11 : decode cX2_shownCards 11 = .ok (.istore 4, 2) := by decide +kernel
theorem dX2_shownCards_13 : decode cX2_shownCards 13 = .ok (.iload 4, 2) := by decide +kernel
theorem dX2_shownCards_15 : decode cX2_shownCards 15 = .ok (.iload_n 3, 1) := by decide +kernel
theorem dX2_shownCards_16 : decode cX2_shownCards 16 = .ok (.if_icmp .ge 26, 3) := by decide +kernel
theorem dX2_shownCards_19 : decode cX2_shownCards 19 = .ok (.aload_n 2, 1) := by decide +kernel
theorem dX2_shownCards_20 : decode cX2_shownCards 20 = .ok (.iload 4, 2) := by decide +kernel
theorem dX2_shownCards_22 : decode cX2_shownCards 22 = .ok (.iaload, 1) := by decide +kernel
theorem dX2_shownCards_23 : decode cX2_shownCards 23 = .ok (.istore 5, 2) := by decide +kernel
theorem dX2_shownCards_25 : decode cX2_shownCards 25 = .ok (.iload_n 1, 1) := by decide +kernel
theorem dX2_shownCards_26 : decode cX2_shownCards 26 = .ok (.iload 5, 2) := by decide +kernel
theorem dX2_shownCards_28 : decode cX2_shownCards 28 = .ok (.invokestatic 39, 3) := by decide +kernel
theorem dX2_shownCards_31 : decode cX2_shownCards 31 = .ok (.invokestatic 34, 3) := by decide +kernel
theorem dX2_shownCards_34 : decode cX2_shownCards 34 = .ok (.iadd, 1) := by decide +kernel
theorem dX2_shownCards_35 : decode cX2_shownCards 35 = .ok (.istore_n 1, 1) := by decide +kernel
theorem dX2_shownCards_36 : decode cX2_shownCards 36 = .ok (.iinc 4 1, 3) := by decide +kernel
theorem dX2_shownCards_39 : decode cX2_shownCards 39 = .ok (.goto (-26), 3) := by decide +kernel
theorem dX2_shownCards_42 : decode cX2_shownCards 42 = .ok (.iload_n 1, 1) := by decide +kernel
theorem dX2_shownCards_43 : decode cX2_shownCards 43 = .ok (.ireturn, 1) := by decide +kernel
set_option maxRecDepth 20000 in
theorem ggX2_shownWorth_X0_worthOfNumber : GoodIn wsX2_shownWorth wsX0_worthOfNumber := goodIn_r _ [5, 6, 7, 8, 9] (by decide +kernel) (by decide +kernel)
set_option maxRecDepth 20000 in
theorem gX2_shownWorth_X0_worthOfNumber : GoodIn wsX2_shownWorth (va_wsS RX2 42 yX0_worthOfNumber wsX0_worthOfNumber) := goodIn_app (goodIn_of _ (by decide +kernel)) ggX2_shownWorth_X0_worthOfNumber
set_option maxRecDepth 20000 in
theorem ggX2_shownWorth_X5_shown : GoodIn wsX2_shownWorth wsX5_shown := goodIn_r _ [13] (by decide +kernel) (by decide +kernel)
set_option maxRecDepth 20000 in
theorem gX2_shownWorth_X5_shown : GoodIn wsX2_shownWorth (va_wsS RX2 39 yX5_shown wsX5_shown) := goodIn_app (goodIn_of _ (by decide +kernel)) ggX2_shownWorth_X5_shown
set_option maxRecDepth 20000 in
theorem ggX2_shownWorth_J6_bitCount_0f7a4 : GoodIn wsX2_shownWorth wsJ6_bitCount_0f7a4 := goodIn_r _ [17, 18, 19, 20] (by decide +kernel) (by decide +kernel)
set_option maxRecDepth 20000 in
theorem gX2_shownWorth_J6_bitCount_0f7a4 : GoodIn wsX2_shownWorth (va_wsS RX2 34 yJ6_bitCount_0f7a4 wsJ6_bitCount_0f7a4) := goodIn_app (goodIn_of _ (by decide +kernel)) ggX2_shownWorth_J6_bitCount_0f7a4
theorem dX2_shownWorth_0 : decode cX2_shownWorth 0 = .ok (.iconst 0, 1) := by decide +kernel
theorem dX2_shownWorth_1 : decode cX2_shownWorth 1 = .ok (.istore_n 1, 1) := by decide +kernel
theorem dX2_shownWorth_2 : decode cX2_shownWorth 2 = .ok (.iconst 0, 1) := by decide +kernel
theorem dX2_shownWorth_3 : decode cX2_shownWorth 3 = .ok (.istore_n 2, 1) := by decide +kernel
theorem dX2_shownWorth_4 : decode cX2_shownWorth 4 = .ok (.iload_n 2, 1) := by decide +kernel
theorem dX2_shownWorth_5 : decode cX2_shownWorth 5 = .ok (.bipush 13, 2) := by decide +kernel
theorem dX2_shownWorth_7 : decode cX2_shownWorth 7 = .ok (.if_icmp .ge 29, 3) := by decide +kernel
theorem dX2_shownWorth_10 : decode cX2_shownWorth 10 = .ok (.iload_n 1, 1) := by decide +kernel
theorem dX2_shownWorth_11 : decode cX2_shownWorth 11 = .ok (.iload_n 2, 1) := by decide +kernel
theorem dX2_shownWorth_12 : decode cX2_shownWorth 12 = .ok (.invokestatic 42, 3) := by decide +kernel
theorem dX2_shownWorth_15 : decode cX2_shownWorth 15 = .ok (.aload_n 0, 1) := by decide +kernel
theorem dX2_shownWorth_16 : decode cX2_shownWorth 16 = .ok (.getfield 9, 3) := by decide +kernel
theorem dX2_shownWorth_19 : decode cX2_shownWorth 19 = .ok (.iload_n 2, 1) := by decide +kernel
theorem dX2_shownWorth_20 : decode cX2_shownWorth 20 = .ok (.iaload, 1) := by decide +kernel
theorem dX2_shownWorth_21 : decode cX2_shownWorth 21 = .ok (.invokestatic 39, 3) := by decide +kernel
theorem dX2_shownWorth_24 : decode cX2_shownWorth 24 = .ok (.invokestatic 34, 3) := by decide +kernel
theorem dX2_shownWorth_27 : decode cX2_shownWorth 27 = .ok (.imul, 1) := by decide +kernel
theorem dX2_shownWorth_28 : decode cX2_shownWorth 28 = .ok (.iadd, 1) := by decide +kernel
theorem dX2_shownWorth_29 : decode cX2_shownWorth 29 = .ok (.istore_n 1, 1) := by decide +kernel
theorem dX2_shownWorth_30 : decode cX2_shownWorth 30 = .ok (.iinc 2 1, 3) := by decide +kernel
theorem dX2_shownWorth_33 : decode cX2_shownWorth 33 = .ok (.goto (-29), 3) := by decide +kernel
theorem dX2_shownWorth_36 : decode cX2_shownWorth 36 = .ok (.iload_n 1, 1) := by decide +kernel
theorem dX2_shownWorth_37 : decode cX2_shownWorth 37 = .ok (.ireturn, 1) := by decide +kernel
set_option maxRecDepth 20000 in
theorem ggX2_longestRun_X5_placeOf : GoodIn wsX2_longestRun wsX5_placeOf := goodIn_r _ [9, 10, 11, 8, 12, 13, 14, 15, 16, 17, 18] (by decide +kernel) (by decide +kernel)
set_option maxRecDepth 20000 in
theorem gX2_longestRun_X5_placeOf : GoodIn wsX2_longestRun (va_wsS RX2 15 yX5_placeOf wsX5_placeOf) := goodIn_app (goodIn_of _ (by decide +kernel)) ggX2_longestRun_X5_placeOf
theorem dX2_longestRun_0 : decode cX2_longestRun 0 = .ok (.iconst 0, 1) := by decide +kernel
theorem dX2_longestRun_1 : decode cX2_longestRun 1 = .ok (.istore_n 1, 1) := by decide +kernel
theorem dX2_longestRun_2 : decode cX2_longestRun 2 = .ok (.iconst 0, 1) := by decide +kernel
theorem dX2_longestRun_3 : decode cX2_longestRun 3 = .ok (.istore_n 2, 1) := by decide +kernel
theorem dX2_longestRun_4 : decode cX2_longestRun 4 = .ok (.iload_n 2, 1) := by decide +kernel
theorem dX2_longestRun_5 : decode cX2_longestRun 5 = .ok (.iconst 4, 1) := by decide +kernel
theorem dX2_longestRun_6 : decode cX2_longestRun 6 = .ok (.if_icmp .ge 70, 3) := by decide +kernel
theorem dX2_longestRun_9 : decode cX2_longestRun 9 = .ok (.iconst 0, 1) := by decide +kernel
theorem dX2_longestRun_10 : decode cX2_longestRun 10 = .ok (.istore_n 3, 1) := by decide +kernel
theorem dX2_longestRun_11 : decode cX2_longestRun 11 = .ok (.iconst 0, 1) := by decide +kernel
theorem dX2_longestRun_12 : decode cX2_longestRun 12 = .ok (.istore 4, 2) := by decide +kernel
theorem dX2_longestRun_14 : decode cX2_longestRun 14 = .ok (.iload 4, 2) := by decide +kernel
theorem dX2_longestRun_16 : decode cX2_longestRun 16 = .ok (.bipush 13, 2) := by decide +kernel
theorem dX2_longestRun_18 : decode cX2_longestRun 18 = .ok (.if_icmp .ge 52, 3) := by decide +kernel
theorem dX2_longestRun_21 : decode cX2_longestRun 21 = .ok (.aload_n 0, 1) := by decide +kernel
theorem dX2_longestRun_22 : decode cX2_longestRun 22 = .ok (.getfield 9, 3) := by decide +kernel
theorem dX2_longestRun_25 : decode cX2_longestRun 25 = .ok (.iload 4, 2) := by decide +kernel
theorem dX2_longestRun_27 : decode cX2_longestRun 27 = .ok (.iaload, 1) := by decide +kernel
theorem dX2_longestRun_28 : decode cX2_longestRun 28 = .ok (.iload_n 2, 1) := by decide +kernel
theorem dX2_longestRun_29 : decode cX2_longestRun 29 = .ok (.invokestatic 15, 3) := by decide +kernel
theorem dX2_longestRun_32 : decode cX2_longestRun 32 = .ok (.istore 5, 2) := by decide +kernel
theorem dX2_longestRun_34 : decode cX2_longestRun 34 = .ok (.iload 5, 2) := by decide +kernel
theorem dX2_longestRun_36 : decode cX2_longestRun 36 = .ok (.iconst 3, 1) := by decide +kernel
theorem dX2_longestRun_37 : decode cX2_longestRun 37 = .ok (.if_icmp .ne 9, 3) := by decide +kernel
theorem dX2_longestRun_40 : decode cX2_longestRun 40 = .ok (.iload_n 3, 1) := by decide +kernel
theorem dX2_longestRun_41 : decode cX2_longestRun 41 = .ok (.iconst 1, 1) := by decide +kernel
theorem dX2_longestRun_42 : decode cX2_longestRun 42 = .ok (.iadd, 1) := by decide +kernel
theorem dX2_longestRun_43 : decode cX2_longestRun 43 = .ok (.goto 14, 3) := by decide +kernel
theorem dX2_longestRun_46 : decode cX2_longestRun 46 = .ok (.iload 5, 2) := by decide +kernel
theorem dX2_longestRun_48 : decode cX2_longestRun 48 = .ok (.iconst 2, 1) := by decide +kernel
theorem dX2_longestRun_49 : decode cX2_longestRun 49 = .ok (.if_icmp .ne 7, 3) := by decide +kernel
theorem dX2_longestRun_52 : decode cX2_longestRun 52 = .ok (.iconst 1, 1) := by decide +kernel
theorem dX2_longestRun_53 : decode cX2_longestRun 53 = .ok (.goto 4, 3) := by decide +kernel
theorem dX2_longestRun_56 : decode cX2_longestRun 56 = .ok (.iconst 0, 1) := by decide +kernel
theorem dX2_longestRun_57 : decode cX2_longestRun 57 = .ok (.istore_n 3, 1) := by decide +kernel
theorem dX2_longestRun_58 : decode cX2_longestRun 58 = .ok (.iload_n 1, 1) := by decide +kernel
theorem dX2_longestRun_59 : decode cX2_longestRun 59 = .ok (.iload_n 3, 1) := by decide +kernel
theorem dX2_longestRun_60 : decode cX2_longestRun 60 = .ok (.invokestatic 47, 3) := by decide +kernel
theorem dX2_longestRun_63 : decode cX2_longestRun 63 = .ok (.istore_n 1, 1) := by decide +kernel
theorem dX2_longestRun_64 : decode cX2_longestRun 64 = .ok (.iinc 4 1, 3) := by decide +kernel
theorem dX2_longestRun_67 : decode cX2_longestRun 67 = .ok (.goto (-53), 3) := by decide +kernel
theorem dX2_longestRun_70 : decode cX2_longestRun 70 = .ok (.iinc 2 1, 3) := by decide +kernel
theorem dX2_longestRun_73 : decode cX2_longestRun 73 = .ok (.goto (-69), 3) := by decide +kernel
theorem dX2_longestRun_76 : decode cX2_longestRun 76 = .ok (.iload_n 1, 1) := by decide +kernel
theorem dX2_longestRun_77 : decode cX2_longestRun 77 = .ok (.ireturn, 1) := by decide +kernel
theorem dX3_init_0 : decode cX3_init 0 = .ok (.aload_n 0, 1) := by decide +kernel
theorem dX3_init_1 : decode cX3_init 1 = .ok (.invokespecial 3, 3) := by decide +kernel
theorem dX3_init_4 : decode cX3_init 4 = .ok (.aload_n 0, 1) := by decide +kernel
theorem dX3_init_5 : decode cX3_init 5 = .ok (.sipush 768, 3) := by decide +kernel
theorem dX3_init_8 : decode cX3_init 8 = .ok (.newarray .long, 2) := by decide +kernel
theorem dX3_init_10 : decode cX3_init 10 = .ok (.putfield 9, 3) := by decide +kernel
theorem dX3_init_13 : decode cX3_init 13 = .ok (.aload_n 0, 1) := by decide +kernel
theorem dX3_init_14 : decode cX3_init 14 = .ok (.sipush 256, 3) := by decide +kernel
theorem dX3_init_17 : decode cX3_init 17 = .ok (.newarray .boolean, 2) := by decide +kernel
theorem dX3_init_19 : decode cX3_init 19 = .ok (.putfield 15, 3) := by decide +kernel
theorem dX3_init_22 : decode cX3_init 22 = .ok (.aload_n 0, 1) := by decide +kernel
theorem dX3_init_23 : decode cX3_init 23 = .ok (.sipush 256, 3) := by decide +kernel
theorem dX3_init_26 : decode cX3_init 26 = .ok (.newarray .int, 2) := by decide +kernel
theorem dX3_init_28 : decode cX3_init 28 = .ok (.putfield 19, 3) := by decide +kernel
theorem dX3_init_31 : decode cX3_init 31 = .ok (.return_, 1) := by decide +kernel
theorem dX3_clear_0 : decode cX3_clear 0 = .ok (.iconst 0, 1) := by decide +kernel
theorem dX3_clear_1 : decode cX3_clear 1 = .ok (.istore_n 1, 1) := by decide +kernel
theorem dX3_clear_2 : decode cX3_clear 2 = .ok (.iload_n 1, 1) := by decide +kernel
theorem dX3_clear_3 : decode cX3_clear 3 = .ok (.aload_n 0, 1) := by decide +kernel
theorem dX3_clear_4 : decode cX3_clear 4 = .ok (.getfield 23, 3) := by decide +kernel
theorem dX3_clear_7 : decode cX3_clear 7 = .ok (.if_icmp .ge 47, 3) := by decide +kernel
theorem dX3_clear_10 : decode cX3_clear 10 = .ok (.aload_n 0, 1) := by decide +kernel
theorem dX3_clear_11 : decode cX3_clear 11 = .ok (.getfield 19, 3) := by decide +kernel
theorem dX3_clear_14 : decode cX3_clear 14 = .ok (.iload_n 1, 1) := by decide +kernel
theorem dX3_clear_15 : decode cX3_clear 15 = .ok (.iaload, 1) := by decide +kernel
theorem dX3_clear_16 : decode cX3_clear 16 = .ok (.istore_n 2, 1) := by decide +kernel
theorem dX3_clear_17 : decode cX3_clear 17 = .ok (.aload_n 0, 1) := by decide +kernel
theorem dX3_clear_18 : decode cX3_clear 18 = .ok (.getfield 15, 3) := by decide +kernel
theorem dX3_clear_21 : decode cX3_clear 21 = .ok (.iload_n 2, 1) := by decide +kernel
theorem dX3_clear_22 : decode cX3_clear 22 = .ok (.iconst 0, 1) := by decide +kernel
theorem dX3_clear_23 : decode cX3_clear 23 = .ok (.bastore, 1) := by decide +kernel
theorem dX3_clear_24 : decode cX3_clear 24 = .ok (.iconst 0, 1) := by decide +kernel
theorem dX3_clear_25 : decode cX3_clear 25 = .ok (.istore_n 3, 1) := by decide +kernel
theorem dX3_clear_26 : decode cX3_clear 26 = .ok (.iload_n 3, 1) := by decide +kernel
theorem dX3_clear_27 : decode cX3_clear 27 = .ok (.iconst 3, 1) := by decide +kernel
theorem dX3_clear_28 : decode cX3_clear 28 = .ok (.if_icmp .ge 20, 3) := by decide +kernel
theorem dX3_clear_31 : decode cX3_clear 31 = .ok (.aload_n 0, 1) := by decide +kernel
theorem dX3_clear_32 : decode cX3_clear 32 = .ok (.getfield 9, 3) := by decide +kernel
theorem dX3_clear_35 : decode cX3_clear 35 = .ok (.iload_n 2, 1) := by decide +kernel
theorem dX3_clear_36 : decode cX3_clear 36 = .ok (.iconst 3, 1) := by decide +kernel
theorem dX3_clear_37 : decode cX3_clear 37 = .ok (.imul, 1) := by decide +kernel
theorem dX3_clear_38 : decode cX3_clear 38 = .ok (.iload_n 3, 1) := by decide +kernel
theorem dX3_clear_39 : decode cX3_clear 39 = .ok (.iadd, 1) := by decide +kernel
theorem dX3_clear_40 : decode cX3_clear 40 = .ok (.lconst 0, 1) := by decide +kernel
theorem dX3_clear_41 : decode cX3_clear 41 = .ok (.lastore, 1) := by decide +kernel
theorem dX3_clear_42 : decode cX3_clear 42 = .ok (.iinc 3 1, 3) := by decide +kernel
theorem dX3_clear_45 : decode cX3_clear 45 = .ok (.goto (-19), 3) := by decide +kernel
theorem dX3_clear_48 : decode cX3_clear 48 = .ok (.iinc 1 1, 3) := by decide +kernel
theorem dX3_clear_51 : decode cX3_clear 51 = .ok (.goto (-49), 3) := by decide +kernel
theorem dX3_clear_54 : decode cX3_clear 54 = .ok (.aload_n 0, 1) := by decide +kernel
theorem dX3_clear_55 : decode cX3_clear 55 = .ok (.iconst 0, 1) := by decide +kernel
theorem dX3_clear_56 : decode cX3_clear 56 = .ok (.putfield 23, 3) := by decide +kernel
theorem dX3_clear_59 : decode cX3_clear 59 = .ok (.return_, 1) := by decide +kernel
theorem dX3_isCell_0 : decode cX3_isCell 0 = .ok (.iload_n 0, 1) := by decide +kernel
theorem dX3_isCell_1 : decode cX3_isCell 1 = .ok (.ifCond .lt 23, 3) := by decide +kernel
theorem dX3_isCell_4 : decode cX3_isCell 4 = .ok (.iload_n 0, 1) := by decide +kernel
theorem dX3_isCell_5 : decode cX3_isCell 5 = .ok (.sipush 256, 3) := by decide +kernel
theorem dX3_isCell_8 : decode cX3_isCell 8 = .ok (.if_icmp .ge 16, 3) := by decide +kernel
theorem dX3_isCell_11 : decode cX3_isCell 11 = .ok (.iload_n 1, 1) := by decide +kernel
theorem dX3_isCell_12 : decode cX3_isCell 12 = .ok (.ifCond .lt 12, 3) := by decide +kernel
theorem dX3_isCell_15 : decode cX3_isCell 15 = .ok (.iload_n 1, 1) := by decide +kernel
theorem dX3_isCell_16 : decode cX3_isCell 16 = .ok (.iconst 3, 1) := by decide +kernel
theorem dX3_isCell_17 : decode cX3_isCell 17 = .ok (.if_icmp .ge 7, 3) := by decide +kernel
theorem dX3_isCell_20 : decode cX3_isCell 20 = .ok (.iconst 1, 1) := by decide +kernel
theorem dX3_isCell_21 : decode cX3_isCell 21 = .ok (.goto 4, 3) := by decide +kernel
theorem dX3_isCell_24 : decode cX3_isCell 24 = .ok (.iconst 0, 1) := by decide +kernel
theorem dX3_isCell_25 : decode cX3_isCell 25 = .ok (.ireturn, 1) := by decide +kernel
set_option maxRecDepth 20000 in
theorem ggX3_at_X3_isCell : GoodIn wsX3_at wsX3_isCell := goodIn_r _ [5] (by decide +kernel) (by decide +kernel)
set_option maxRecDepth 20000 in
theorem gX3_at_X3_isCell : GoodIn wsX3_at (va_wsS RX3 27 yX3_isCell wsX3_isCell) := goodIn_app (goodIn_of _ (by decide +kernel)) ggX3_at_X3_isCell
theorem dX3_at_0 : decode cX3_at 0 = .ok (.iload_n 1, 1) := by decide +kernel
theorem dX3_at_1 : decode cX3_at 1 = .ok (.iload_n 2, 1) := by decide +kernel
theorem dX3_at_2 : decode cX3_at 2 = .ok (.invokestatic 27, 3) := by decide +kernel
theorem dX3_at_5 : decode cX3_at 5 = .ok (.ifCond .eq 16, 3) := by decide +kernel
theorem dX3_at_8 : decode cX3_at 8 = .ok (.aload_n 0, 1) := by decide +kernel
theorem dX3_at_9 : decode cX3_at 9 = .ok (.getfield 9, 3) := by decide +kernel
theorem dX3_at_12 : decode cX3_at 12 = .ok (.iload_n 1, 1) := by decide +kernel
theorem dX3_at_13 : decode cX3_at 13 = .ok (.iconst 3, 1) := by decide +kernel
theorem dX3_at_14 : decode cX3_at 14 = .ok (.imul, 1) := by decide +kernel
theorem dX3_at_15 : decode cX3_at 15 = .ok (.iload_n 2, 1) := by decide +kernel
theorem dX3_at_16 : decode cX3_at 16 = .ok (.iadd, 1) := by decide +kernel
theorem dX3_at_17 : decode cX3_at 17 = .ok (.laload, 1) := by decide +kernel
theorem dX3_at_18 : decode cX3_at 18 = .ok (.goto 4, 3) := by decide +kernel
theorem dX3_at_21 : decode cX3_at 21 = .ok (.lconst 0, 1) := by decide +kernel
theorem dX3_at_22 : decode cX3_at 22 = .ok (.lreturn, 1) := by decide +kernel
set_option maxRecDepth 20000 in
theorem ggX3_put_X3_isCell : GoodIn wsX3_put wsX3_isCell := goodIn_r _ [8] (by decide +kernel) (by decide +kernel)
set_option maxRecDepth 20000 in
theorem gX3_put_X3_isCell : GoodIn wsX3_put (va_wsS RX3 27 yX3_isCell wsX3_isCell) := goodIn_app (goodIn_of _ (by decide +kernel)) ggX3_put_X3_isCell
end
section
theorem dX3_put_0 : decode cX3_put 0 = .ok (.iload_n 1, 1) := by decide +kernel
theorem dX3_put_1 : decode cX3_put 1 = .ok (.iload_n 2, 1) := by decide +kernel
theorem dX3_put_2 : decode cX3_put 2 = .ok (.invokestatic 27, 3) := by decide +kernel
theorem dX3_put_5 : decode cX3_put 5 = .ok (.ifCond .ne 4, 3) := by decide +kernel
theorem dX3_put_8 : decode cX3_put 8 = .ok (.return_, 1) := by decide +kernel
theorem dX3_put_9 : decode cX3_put 9 = .ok (.aload_n 0, 1) := by decide +kernel
theorem dX3_put_10 : decode cX3_put 10 = .ok (.getfield 15, 3) := by decide +kernel
theorem dX3_put_13 : decode cX3_put 13 = .ok (.iload_n 1, 1) := by decide +kernel
theorem dX3_put_14 : decode cX3_put 14 = .ok (.baload, 1) := by decide +kernel
theorem dX3_put_15 : decode cX3_put 15 = .ok (.ifCond .ne 40, 3) := by decide +kernel
theorem dX3_put_18 : decode cX3_put 18 = .ok (.aload_n 0, 1) := by decide +kernel
theorem dX3_put_19 : decode cX3_put 19 = .ok (.getfield 23, 3) := by decide +kernel
theorem dX3_put_22 : decode cX3_put 22 = .ok (.sipush 256, 3) := by decide +kernel
theorem dX3_put_25 : decode cX3_put 25 = .ok (.if_icmp .ge 30, 3) := by decide +kernel
theorem dX3_put_28 : decode cX3_put 28 = .ok (.aload_n 0, 1) := by decide +kernel
theorem dX3_put_29 : decode cX3_put 29 = .ok (.getfield 15, 3) := by decide +kernel
theorem dX3_put_32 : decode cX3_put 32 = .ok (.iload_n 1, 1) := by decide +kernel
theorem dX3_put_33 : decode cX3_put 33 = .ok (.iconst 1, 1) := by decide +kernel
theorem dX3_put_34 : decode cX3_put 34 = .ok (.bastore, 1) := by decide +kernel
theorem dX3_put_35 : decode cX3_put 35 = .ok (.aload_n 0, 1) := by decide +kernel
theorem dX3_put_36 : decode cX3_put 36 = .ok (.getfield 19, 3) := by decide +kernel
theorem dX3_put_39 : decode cX3_put 39 = .ok (.aload_n 0, 1) := by decide +kernel
theorem dX3_put_40 : decode cX3_put 40 = .ok (.getfield 23, 3) := by decide +kernel
theorem dX3_put_43 : decode cX3_put 43 = .ok (.iload_n 1, 1) := by decide +kernel
theorem dX3_put_44 : decode cX3_put 44 = .ok (.iastore, 1) := by decide +kernel
theorem dX3_put_45 : decode cX3_put 45 = .ok (.aload_n 0, 1) := by decide +kernel
theorem dX3_put_46 : decode cX3_put 46 = .ok (.dup, 1) := by decide +kernel
theorem dX3_put_47 : decode cX3_put 47 = .ok (.getfield 23, 3) := by decide +kernel
theorem dX3_put_50 : decode cX3_put 50 = .ok (.iconst 1, 1) := by decide +kernel
theorem dX3_put_51 : decode cX3_put 51 = .ok (.iadd, 1) := by decide +kernel
theorem dX3_put_52 : decode cX3_put 52 = .ok (.putfield 23, 3) := by decide +kernel
theorem dX3_put_55 : decode cX3_put 55 = .ok (.aload_n 0, 1) := by decide +kernel
theorem dX3_put_56 : decode cX3_put 56 = .ok (.getfield 9, 3) := by decide +kernel
theorem dX3_put_59 : decode cX3_put 59 = .ok (.iload_n 1, 1) := by decide +kernel
theorem dX3_put_60 : decode cX3_put 60 = .ok (.iconst 3, 1) := by decide +kernel
theorem dX3_put_61 : decode cX3_put 61 = .ok (.imul, 1) := by decide +kernel
theorem dX3_put_62 : decode cX3_put 62 = .ok (.iload_n 2, 1) := by decide +kernel
theorem dX3_put_63 : decode cX3_put 63 = .ok (.iadd, 1) := by decide +kernel
theorem dX3_put_64 : decode cX3_put 64 = .ok (.lload_n 3, 1) := by decide +kernel
theorem dX3_put_65 : decode cX3_put 65 = .ok (.lastore, 1) := by decide +kernel
theorem dX3_put_66 : decode cX3_put 66 = .ok (.return_, 1) := by decide +kernel
theorem dX4_init_0 : decode cX4_init 0 = .ok (.aload_n 0, 1) := by decide +kernel
theorem dX4_init_1 : decode cX4_init 1 = .ok (.invokespecial 3, 3) := by decide +kernel
theorem dX4_init_4 : decode cX4_init 4 = .ok (.aload_n 0, 1) := by decide +kernel
theorem dX4_init_5 : decode cX4_init 5 = .ok (.sipush 156, 3) := by decide +kernel
theorem dX4_init_8 : decode cX4_init 8 = .ok (.newarray .long, 2) := by decide +kernel
theorem dX4_init_10 : decode cX4_init 10 = .ok (.putfield 11, 3) := by decide +kernel
theorem dX4_init_13 : decode cX4_init 13 = .ok (.aload_n 0, 1) := by decide +kernel
theorem dX4_init_14 : decode cX4_init 14 = .ok (.aload_n 1, 1) := by decide +kernel
theorem dX4_init_15 : decode cX4_init 15 = .ok (.putfield 15, 3) := by decide +kernel
theorem dX4_init_18 : decode cX4_init 18 = .ok (.return_, 1) := by decide +kernel
set_option maxRecDepth 20000 in
theorem ggX4_findFirst_J7_fill_d0a16 : GoodIn wsX4_findFirst wsJ7_fill_d0a16 := goodIn_r _ [6] (by decide +kernel) (by decide +kernel)
set_option maxRecDepth 20000 in
theorem gX4_findFirst_J7_fill_d0a16 : GoodIn wsX4_findFirst (va_wsS RX4 23 yJ7_fill_d0a16 wsJ7_fill_d0a16) := goodIn_app (goodIn_of _ (by decide +kernel)) ggX4_findFirst_J7_fill_d0a16
set_option maxRecDepth 20000 in
theorem ggX4_findFirst_X0_jokersIn : GoodIn wsX4_findFirst wsX0_jokersIn := goodIn_r _ [10, 11, 12, 13, 14, 15, 16, 17] (by decide +kernel) (by decide +kernel)
set_option maxRecDepth 20000 in
theorem gX4_findFirst_X0_jokersIn : GoodIn wsX4_findFirst (va_wsS RX4 29 yX0_jokersIn wsX0_jokersIn) := goodIn_app (goodIn_of _ (by decide +kernel)) ggX4_findFirst_X0_jokersIn
set_option maxRecDepth 20000 in
theorem ggX4_findFirst_X4_reachesEnd : GoodIn wsX4_findFirst wsX4_reachesEnd := goodIn_r _ [22, 2, 1, 23, 24, 25, 26, 27, 28, 29, 9, 30, 31, 32, 33, 34, 35, 36, 37, 38, 39, 40, 41, 42, 43, 44, 45, 46, 47, 48, 49, 50, 51, 52, 53, 18, 19, 20, 21, 54, 55, 56, 57, 58] (by decide +kernel) (by decide +kernel)
set_option maxRecDepth 20000 in
theorem gX4_findFirst_X4_reachesEnd : GoodIn wsX4_findFirst (wsV RX4 35 RX4 yX4_reachesEnd wsX4_reachesEnd) := goodIn_app (goodIn_of _ (by decide +kernel)) ggX4_findFirst_X4_reachesEnd
theorem dX4_findFirst_0 : decode cX4_findFirst 0 = .ok (.aload_n 0, 1) := by decide +kernel
theorem dX4_findFirst_1 : decode cX4_findFirst 1 = .ok (.lload_n 1, 1) := by decide +kernel
theorem dX4_findFirst_2 : decode cX4_findFirst 2 = .ok (.putfield 19, 3) := by decide +kernel
theorem dX4_findFirst_5 : decode cX4_findFirst 5 = .ok (.aload_n 0, 1) := by decide +kernel
theorem dX4_findFirst_6 : decode cX4_findFirst 6 = .ok (.getfield 11, 3) := by decide +kernel
theorem dX4_findFirst_9 : decode cX4_findFirst 9 = .ok (.lconst 0, 1) := by decide +kernel
theorem dX4_findFirst_10 : decode cX4_findFirst 10 = .ok (.invokestatic 23, 3) := by decide +kernel
theorem dX4_findFirst_13 : decode cX4_findFirst 13 = .ok (.aload_n 0, 1) := by decide +kernel
theorem dX4_findFirst_14 : decode cX4_findFirst 14 = .ok (.iconst 0, 1) := by decide +kernel
theorem dX4_findFirst_15 : decode cX4_findFirst 15 = .ok (.iconst 0, 1) := by decide +kernel
theorem dX4_findFirst_16 : decode cX4_findFirst 16 = .ok (.lload_n 1, 1) := by decide +kernel
theorem dX4_findFirst_17 : decode cX4_findFirst 17 = .ok (.invokestatic 29, 3) := by decide +kernel
theorem dX4_findFirst_20 : decode cX4_findFirst 20 = .ok (.aload_n 3, 1) := by decide +kernel
theorem dX4_findFirst_21 : decode cX4_findFirst 21 = .ok (.invokevirtual 35, 3) := by decide +kernel
theorem dX4_findFirst_24 : decode cX4_findFirst 24 = .ok (.ifCond .ne 5, 3) := by decide +kernel
theorem dX4_findFirst_27 : decode cX4_findFirst 27 = .ok (.iconst 0, 1) := by decide +kernel
theorem dX4_findFirst_28 : decode cX4_findFirst 28 = .ok (.ireturn, 1) := by decide +kernel
theorem dX4_findFirst_29 : decode cX4_findFirst 29 = .ok (.aload_n 3, 1) := by decide +kernel
theorem dX4_findFirst_30 : decode cX4_findFirst 30 = .ok (.lload_n 1, 1) := by decide +kernel
theorem dX4_findFirst_31 : decode cX4_findFirst 31 = .ok (.putfield 39, 3) := by decide +kernel
theorem dX4_findFirst_34 : decode cX4_findFirst 34 = .ok (.iconst 1, 1) := by decide +kernel
theorem dX4_findFirst_35 : decode cX4_findFirst 35 = .ok (.ireturn, 1) := by decide +kernel
set_option maxRecDepth 20000 in
theorem ggX4_reachesEnd_X5_mayEnd : GoodIn wsX4_reachesEnd wsX5_mayEnd := goodIn_r _ [7] (by decide +kernel) (by decide +kernel)
set_option maxRecDepth 20000 in
theorem gX4_reachesEnd_X5_mayEnd : GoodIn wsX4_reachesEnd (va_wsS RX4 44 yX5_mayEnd wsX5_mayEnd) := goodIn_app (goodIn_of _ (by decide +kernel)) ggX4_reachesEnd_X5_mayEnd
set_option maxRecDepth 20000 in
theorem ggX4_reachesEnd_X0_coloursOf : GoodIn wsX4_reachesEnd wsX0_coloursOf := goodIn_r _ [11] (by decide +kernel) (by decide +kernel)
set_option maxRecDepth 20000 in
theorem gX4_reachesEnd_X0_coloursOf : GoodIn wsX4_reachesEnd (va_wsS RX4 50 yX0_coloursOf wsX0_coloursOf) := goodIn_app (goodIn_of _ (by decide +kernel)) ggX4_reachesEnd_X0_coloursOf
set_option maxRecDepth 20000 in
theorem ggX4_reachesEnd_X5_shown : GoodIn wsX4_reachesEnd wsX5_shown := goodIn_r _ [14] (by decide +kernel) (by decide +kernel)
set_option maxRecDepth 20000 in
theorem gX4_reachesEnd_X5_shown : GoodIn wsX4_reachesEnd (va_wsS RX4 54 yX5_shown wsX5_shown) := goodIn_app (goodIn_of _ (by decide +kernel)) ggX4_reachesEnd_X5_shown
set_option maxRecDepth 20000 in
theorem ggX4_reachesEnd_X5_continued : GoodIn wsX4_reachesEnd wsX5_continued := goodIn_r _ [17] (by decide +kernel) (by decide +kernel)
set_option maxRecDepth 20000 in
theorem gX4_reachesEnd_X5_continued : GoodIn wsX4_reachesEnd (va_wsS RX4 58 yX5_continued wsX5_continued) := goodIn_app (goodIn_of _ (by decide +kernel)) ggX4_reachesEnd_X5_continued
set_option maxRecDepth 20000 in
theorem ggX4_reachesEnd_X5_canContinue : GoodIn wsX4_reachesEnd wsX5_canContinue := goodIn_r _ [20] (by decide +kernel) (by decide +kernel)
set_option maxRecDepth 20000 in
theorem gX4_reachesEnd_X5_canContinue : GoodIn wsX4_reachesEnd (va_wsS RX4 61 yX5_canContinue wsX5_canContinue) := goodIn_app (goodIn_of _ (by decide +kernel)) ggX4_reachesEnd_X5_canContinue
set_option maxRecDepth 20000 in
theorem ggX4_reachesEnd_J6_bitCount_0f7a4 : GoodIn wsX4_reachesEnd wsJ6_bitCount_0f7a4 := goodIn_r _ [24, 25, 26, 27] (by decide +kernel) (by decide +kernel)
set_option maxRecDepth 20000 in
theorem gX4_reachesEnd_J6_bitCount_0f7a4 : GoodIn wsX4_reachesEnd (va_wsS RX4 65 yJ6_bitCount_0f7a4 wsJ6_bitCount_0f7a4) := goodIn_app (goodIn_of _ (by decide +kernel)) ggX4_reachesEnd_J6_bitCount_0f7a4
set_option maxRecDepth 20000 in
theorem ggX4_reachesEnd_X5_stateAfter : GoodIn wsX4_reachesEnd wsX5_stateAfter := goodIn_r _ [30, 31, 16, 6, 17, 32, 33, 34] (by decide +kernel) (by decide +kernel)
set_option maxRecDepth 20000 in
theorem gX4_reachesEnd_X5_stateAfter : GoodIn wsX4_reachesEnd (va_wsS RX4 70 yX5_stateAfter wsX5_stateAfter) := goodIn_app (goodIn_of _ (by decide +kernel)) ggX4_reachesEnd_X5_stateAfter
set_option maxRecDepth 20000 in
theorem ggX4_reachesEnd_X4_reachesEnd : GoodIn wsX4_reachesEnd wsX4_reachesEnd := goodIn_r _ [0, 1, 2, 3, 4, 5, 6, 7, 8, 9, 10, 11, 12, 13, 14, 15, 16, 17, 18, 19, 20, 21, 22, 23, 24, 25, 26, 27, 28, 29, 30, 31, 32, 33, 34, 35, 36, 37, 38, 39, 40, 41, 42, 43] (by decide +kernel) (by decide +kernel)
set_option maxRecDepth 20000 in
theorem gX4_reachesEnd_X4_reachesEnd : GoodIn wsX4_reachesEnd (wsV RX4 35 RX4 yX4_reachesEnd wsX4_reachesEnd) := goodIn_app (goodIn_of _ (by decide +kernel)) ggX4_reachesEnd_X4_reachesEnd
theorem dX4_reachesEnd_0 : decode cX4_reachesEnd 0 = .ok (.iload_n 3, 1) := by decide +kernel
theorem dX4_reachesEnd_1 : decode cX4_reachesEnd 1 = .ok (.ifCond .lt 19, 3) := by decide +kernel
theorem dX4_reachesEnd_4 : decode cX4_reachesEnd 4 = .ok (.iload_n 3, 1) := by decide +kernel
theorem dX4_reachesEnd_5 : decode cX4_reachesEnd 5 = .ok (.iconst 2, 1) := by decide +kernel
theorem dX4_reachesEnd_6 : decode cX4_reachesEnd 6 = .ok (.if_icmp .gt 14, 3) := by decide +kernel
theorem dX4_reachesEnd_9 : decode cX4_reachesEnd 9 = .ok (.iload_n 2, 1) := by decide +kernel
theorem dX4_reachesEnd_10 : decode cX4_reachesEnd 10 = .ok (.ifCond .lt 10, 3) := by decide +kernel
theorem dX4_reachesEnd_13 : decode cX4_reachesEnd 13 = .ok (.iload_n 2, 1) := by decide +kernel
theorem dX4_reachesEnd_14 : decode cX4_reachesEnd 14 = .ok (.sipush 256, 3) := by decide +kernel
theorem dX4_reachesEnd_17 : decode cX4_reachesEnd 17 = .ok (.if_icmp .lt 5, 3) := by decide +kernel
theorem dX4_reachesEnd_20 : decode cX4_reachesEnd 20 = .ok (.iconst 0, 1) := by decide +kernel
theorem dX4_reachesEnd_21 : decode cX4_reachesEnd 21 = .ok (.ireturn, 1) := by decide +kernel
theorem dX4_reachesEnd_22 : decode cX4_reachesEnd 22 = .ok (.iload_n 1, 1) := by decide +kernel
theorem dX4_reachesEnd_23 : decode cX4_reachesEnd 23 = .ok (.ifCond .lt 9, 3) := by decide +kernel
theorem dX4_reachesEnd_26 : decode cX4_reachesEnd 26 = .ok (.iload_n 1, 1) := by decide +kernel
theorem dX4_reachesEnd_27 : decode cX4_reachesEnd 27 = .ok (.bipush 13, 2) := by decide +kernel
theorem dX4_reachesEnd_29 : decode cX4_reachesEnd 29 = .ok (.if_icmp .lt 26, 3) := by decide +kernel
theorem dX4_reachesEnd_32 : decode cX4_reachesEnd 32 = .ok (.iload_n 1, 1) := by decide +kernel
theorem dX4_reachesEnd_33 : decode cX4_reachesEnd 33 = .ok (.bipush 13, 2) := by decide +kernel
theorem dX4_reachesEnd_35 : decode cX4_reachesEnd 35 = .ok (.if_icmp .ne 18, 3) := by decide +kernel
theorem dX4_reachesEnd_38 : decode cX4_reachesEnd 38 = .ok (.iload_n 3, 1) := by decide +kernel
theorem dX4_reachesEnd_39 : decode cX4_reachesEnd 39 = .ok (.ifCond .ne 14, 3) := by decide +kernel
theorem dX4_reachesEnd_42 : decode cX4_reachesEnd 42 = .ok (.iload_n 2, 1) := by decide +kernel
theorem dX4_reachesEnd_43 : decode cX4_reachesEnd 43 = .ok (.invokestatic 44, 3) := by decide +kernel
theorem dX4_reachesEnd_46 : decode cX4_reachesEnd 46 = .ok (.ifCond .eq 7, 3) := by decide +kernel
theorem dX4_reachesEnd_49 : decode cX4_reachesEnd 49 = .ok (.iconst 1, 1) := by decide +kernel
theorem dX4_reachesEnd_50 : decode cX4_reachesEnd 50 = .ok (.goto 4, 3) := by decide +kernel
theorem dX4_reachesEnd_53 : decode cX4_reachesEnd 53 = .ok (.iconst 0, 1) := by decide +kernel
theorem dX4_reachesEnd_54 : decode cX4_reachesEnd 54 = .ok (.ireturn, 1) := by decide +kernel
theorem dX4_reachesEnd_55 : decode cX4_reachesEnd 55 = .ok (.iload_n 1, 1) := by decide +kernel
theorem dX4_reachesEnd_56 : decode cX4_reachesEnd 56 = .ok (.iconst 3, 1) := by decide +kernel
theorem dX4_reachesEnd_57 : decode cX4_reachesEnd 57 = .ok (.imul, 1) := by decide +kernel
theorem dX4_reachesEnd_58 : decode cX4_reachesEnd 58 = .ok (.iload_n 3, 1) := by decide +kernel
theorem dX4_reachesEnd_59 : decode cX4_reachesEnd 59 = .ok (.iadd, 1) := by decide +kernel
theorem dX4_reachesEnd_60 : decode cX4_reachesEnd 60 = .ok (.sipush 256, 3) := by decide +kernel
theorem dX4_reachesEnd_63 : decode cX4_reachesEnd 63 = .ok (.imul, 1) := by decide +kernel
theorem dX4_reachesEnd_64 : decode cX4_reachesEnd 64 = .ok (.iload_n 2, 1) := by decide +kernel
theorem dX4_reachesEnd_65 : decode cX4_reachesEnd 65 = .ok (.iadd, 1) := by decide +kernel
theorem dX4_reachesEnd_66 : decode cX4_reachesEnd 66 = .ok (.istore 5, 2) := by decide +kernel
theorem dX4_reachesEnd_68 : decode cX4_reachesEnd 68 = .ok (.aload_n 0, 1) := by decide +kernel
theorem dX4_reachesEnd_69 : decode cX4_reachesEnd 69 = .ok (.getfield 11, 3) := by decide +kernel
theorem dX4_reachesEnd_72 : decode cX4_reachesEnd 72 = .ok (.iload 5, 2) := by decide +kernel
theorem dX4_reachesEnd_74 : decode cX4_reachesEnd 74 = .ok (.bipush 64, 2) := by decide +kernel
theorem dX4_reachesEnd_76 : decode cX4_reachesEnd 76 = .ok (.idiv, 1) := by decide +kernel
theorem dX4_reachesEnd_77 : decode cX4_reachesEnd 77 = .ok (.laload, 1) := by decide +kernel
theorem dX4_reachesEnd_78 : decode cX4_reachesEnd 78 = .ok (.iload 5, 2) := by decide +kernel
theorem dX4_reachesEnd_80 : decode cX4_reachesEnd 80 = .ok (.bipush 64, 2) := by decide +kernel
theorem dX4_reachesEnd_82 : decode cX4_reachesEnd 82 = .ok (.irem, 1) := by decide +kernel
theorem dX4_reachesEnd_83 : decode cX4_reachesEnd 83 = .ok (.lushr, 1) := by decide +kernel
theorem dX4_reachesEnd_84 : decode cX4_reachesEnd 84 = .ok (.lconst 1, 1) := by decide +kernel
theorem dX4_reachesEnd_85 : decode cX4_reachesEnd 85 = .ok (.land, 1) := by decide +kernel
theorem dX4_reachesEnd_86 : decode cX4_reachesEnd 86 = .ok (.lconst 0, 1) := by decide +kernel
theorem dX4_reachesEnd_87 : decode cX4_reachesEnd 87 = .ok (.lcmp, 1) := by decide +kernel
theorem dX4_reachesEnd_88 : decode cX4_reachesEnd 88 = .ok (.ifCond .eq 5, 3) := by decide +kernel
theorem dX4_reachesEnd_91 : decode cX4_reachesEnd 91 = .ok (.iconst 0, 1) := by decide +kernel
theorem dX4_reachesEnd_92 : decode cX4_reachesEnd 92 = .ok (.ireturn, 1) := by decide +kernel
theorem dX4_reachesEnd_93 : decode cX4_reachesEnd 93 = .ok (.aload_n 0, 1) := by decide +kernel
theorem dX4_reachesEnd_94 : decode cX4_reachesEnd 94 = .ok (.getfield 19, 3) := by decide +kernel
theorem dX4_reachesEnd_97 : decode cX4_reachesEnd 97 = .ok (.iload_n 1, 1) := by decide +kernel
theorem dX4_reachesEnd_98 : decode cX4_reachesEnd 98 = .ok (.invokestatic 50, 3) := by decide +kernel
theorem dX4_reachesEnd_101 : decode cX4_reachesEnd 101 = .ok (.istore 6, 2) := by decide +kernel
theorem dX4_reachesEnd_103 : decode cX4_reachesEnd 103 = .ok (.iconst 0, 1) := by decide +kernel
theorem dX4_reachesEnd_104 : decode cX4_reachesEnd 104 = .ok (.istore 7, 2) := by decide +kernel
theorem dX4_reachesEnd_106 : decode cX4_reachesEnd 106 = .ok (.iload 7, 2) := by decide +kernel
theorem dX4_reachesEnd_108 : decode cX4_reachesEnd 108 = .ok (.aload_n 0, 1) := by decide +kernel
theorem dX4_reachesEnd_109 : decode cX4_reachesEnd 109 = .ok (.getfield 15, 3) := by decide +kernel
theorem dX4_reachesEnd_112 : decode cX4_reachesEnd 112 = .ok (.arraylength, 1) := by decide +kernel
theorem dX4_reachesEnd_113 : decode cX4_reachesEnd 113 = .ok (.if_icmp .ge 108, 3) := by decide +kernel
theorem dX4_reachesEnd_116 : decode cX4_reachesEnd 116 = .ok (.aload_n 0, 1) := by decide +kernel
theorem dX4_reachesEnd_117 : decode cX4_reachesEnd 117 = .ok (.getfield 15, 3) := by decide +kernel
theorem dX4_reachesEnd_120 : decode cX4_reachesEnd 120 = .ok (.iload 7, 2) := by decide +kernel
theorem dX4_reachesEnd_122 : decode cX4_reachesEnd 122 = .ok (.iaload, 1) := by decide +kernel
theorem dX4_reachesEnd_123 : decode cX4_reachesEnd 123 = .ok (.invokestatic 54, 3) := by decide +kernel
theorem dX4_reachesEnd_126 : decode cX4_reachesEnd 126 = .ok (.istore 8, 2) := by decide +kernel
theorem dX4_reachesEnd_128 : decode cX4_reachesEnd 128 = .ok (.iload 6, 2) := by decide +kernel
theorem dX4_reachesEnd_130 : decode cX4_reachesEnd 130 = .ok (.iload 8, 2) := by decide +kernel
theorem dX4_reachesEnd_132 : decode cX4_reachesEnd 132 = .ok (.iconst (-1), 1) := by decide +kernel
theorem dX4_reachesEnd_133 : decode cX4_reachesEnd 133 = .ok (.ixor, 1) := by decide +kernel
theorem dX4_reachesEnd_134 : decode cX4_reachesEnd 134 = .ok (.iand, 1) := by decide +kernel
theorem dX4_reachesEnd_135 : decode cX4_reachesEnd 135 = .ok (.ifCond .ne 80, 3) := by decide +kernel
theorem dX4_reachesEnd_138 : decode cX4_reachesEnd 138 = .ok (.iload_n 2, 1) := by decide +kernel
theorem dX4_reachesEnd_139 : decode cX4_reachesEnd 139 = .ok (.aload_n 0, 1) := by decide +kernel
theorem dX4_reachesEnd_140 : decode cX4_reachesEnd 140 = .ok (.getfield 15, 3) := by decide +kernel
theorem dX4_reachesEnd_143 : decode cX4_reachesEnd 143 = .ok (.iload 7, 2) := by decide +kernel
theorem dX4_reachesEnd_145 : decode cX4_reachesEnd 145 = .ok (.iaload, 1) := by decide +kernel
theorem dX4_reachesEnd_146 : decode cX4_reachesEnd 146 = .ok (.invokestatic 58, 3) := by decide +kernel
theorem dX4_reachesEnd_149 : decode cX4_reachesEnd 149 = .ok (.invokestatic 61, 3) := by decide +kernel
theorem dX4_reachesEnd_152 : decode cX4_reachesEnd 152 = .ok (.ifCond .eq 63, 3) := by decide +kernel
theorem dX4_reachesEnd_155 : decode cX4_reachesEnd 155 = .ok (.iload_n 3, 1) := by decide +kernel
theorem dX4_reachesEnd_156 : decode cX4_reachesEnd 156 = .ok (.iload 8, 2) := by decide +kernel
theorem dX4_reachesEnd_158 : decode cX4_reachesEnd 158 = .ok (.iload 6, 2) := by decide +kernel
theorem dX4_reachesEnd_160 : decode cX4_reachesEnd 160 = .ok (.iconst (-1), 1) := by decide +kernel
theorem dX4_reachesEnd_161 : decode cX4_reachesEnd 161 = .ok (.ixor, 1) := by decide +kernel
theorem dX4_reachesEnd_162 : decode cX4_reachesEnd 162 = .ok (.iand, 1) := by decide +kernel
theorem dX4_reachesEnd_163 : decode cX4_reachesEnd 163 = .ok (.invokestatic 65, 3) := by decide +kernel
theorem dX4_reachesEnd_166 : decode cX4_reachesEnd 166 = .ok (.isub, 1) := by decide +kernel
theorem dX4_reachesEnd_167 : decode cX4_reachesEnd 167 = .ok (.istore 9, 2) := by decide +kernel
theorem dX4_reachesEnd_169 : decode cX4_reachesEnd 169 = .ok (.iload 9, 2) := by decide +kernel
theorem dX4_reachesEnd_171 : decode cX4_reachesEnd 171 = .ok (.ifCond .lt 44, 3) := by decide +kernel
theorem dX4_reachesEnd_174 : decode cX4_reachesEnd 174 = .ok (.aload_n 0, 1) := by decide +kernel
theorem dX4_reachesEnd_175 : decode cX4_reachesEnd 175 = .ok (.iload_n 1, 1) := by decide +kernel
theorem dX4_reachesEnd_176 : decode cX4_reachesEnd 176 = .ok (.iconst 1, 1) := by decide +kernel
theorem dX4_reachesEnd_177 : decode cX4_reachesEnd 177 = .ok (.iadd, 1) := by decide +kernel
theorem dX4_reachesEnd_178 : decode cX4_reachesEnd 178 = .ok (.iload_n 2, 1) := by decide +kernel
theorem dX4_reachesEnd_179 : decode cX4_reachesEnd 179 = .ok (.aload_n 0, 1) := by decide +kernel
theorem dX4_reachesEnd_180 : decode cX4_reachesEnd 180 = .ok (.getfield 15, 3) := by decide +kernel
theorem dX4_reachesEnd_183 : decode cX4_reachesEnd 183 = .ok (.iload 7, 2) := by decide +kernel
theorem dX4_reachesEnd_185 : decode cX4_reachesEnd 185 = .ok (.iaload, 1) := by decide +kernel
theorem dX4_reachesEnd_186 : decode cX4_reachesEnd 186 = .ok (.invokestatic 70, 3) := by decide +kernel
theorem dX4_reachesEnd_189 : decode cX4_reachesEnd 189 = .ok (.iload 9, 2) := by decide +kernel
theorem dX4_reachesEnd_191 : decode cX4_reachesEnd 191 = .ok (.aload 4, 2) := by decide +kernel
theorem dX4_reachesEnd_193 : decode cX4_reachesEnd 193 = .ok (.invokevirtual 35, 3) := by decide +kernel
theorem dX4_reachesEnd_196 : decode cX4_reachesEnd 196 = .ok (.ifCond .eq 19, 3) := by decide +kernel
theorem dX4_reachesEnd_199 : decode cX4_reachesEnd 199 = .ok (.aload 4, 2) := by decide +kernel
theorem dX4_reachesEnd_201 : decode cX4_reachesEnd 201 = .ok (.getfield 74, 3) := by decide +kernel
theorem dX4_reachesEnd_204 : decode cX4_reachesEnd 204 = .ok (.iload_n 1, 1) := by decide +kernel
theorem dX4_reachesEnd_205 : decode cX4_reachesEnd 205 = .ok (.aload_n 0, 1) := by decide +kernel
theorem dX4_reachesEnd_206 : decode cX4_reachesEnd 206 = .ok (.getfield 15, 3) := by decide +kernel
theorem dX4_reachesEnd_209 : decode cX4_reachesEnd 209 = .ok (.iload 7, 2) := by decide +kernel
theorem dX4_reachesEnd_211 : decode cX4_reachesEnd 211 = .ok (.iaload, 1) := by decide +kernel
theorem dX4_reachesEnd_212 : decode cX4_reachesEnd 212 = .ok (.iastore, 1) := by decide +kernel
theorem dX4_reachesEnd_213 : decode cX4_reachesEnd 213 = .ok (.iconst 1, 1) := by decide +kernel
theorem dX4_reachesEnd_214 : decode cX4_reachesEnd 214 = .ok (.ireturn, 1) := by decide +kernel
theorem dX4_reachesEnd_215 : decode cX4_reachesEnd 215 = .ok (.iinc 7 1, 3) := by decide +kernel
theorem dX4_reachesEnd_218 : decode cX4_reachesEnd 218 = .ok (.goto (-112), 3) := by decide +kernel
theorem dX4_reachesEnd_221 : decode cX4_reachesEnd 221 = .ok (.aload_n 0, 1) := by decide +kernel
theorem dX4_reachesEnd_222 : decode cX4_reachesEnd 222 = .ok (.getfield 11, 3) := by decide +kernel
theorem dX4_reachesEnd_225 : decode cX4_reachesEnd 225 = .ok (.iload 5, 2) := by decide +kernel
theorem dX4_reachesEnd_227 : decode cX4_reachesEnd 227 = .ok (.bipush 64, 2) := by decide +kernel
theorem dX4_reachesEnd_229 : decode cX4_reachesEnd 229 = .ok (.idiv, 1) := by decide +kernel
theorem dX4_reachesEnd_230 : decode cX4_reachesEnd 230 = .ok (.dup2, 1) := by decide +kernel
theorem dX4_reachesEnd_231 : decode cX4_reachesEnd 231 = .ok (.laload, 1) := by decide +kernel
theorem dX4_reachesEnd_232 : decode cX4_reachesEnd 232 = .ok (.lconst 1, 1) := by decide +kernel
theorem dX4_reachesEnd_233 : decode cX4_reachesEnd 233 = .ok (.iload 5, 2) := by decide +kernel
theorem dX4_reachesEnd_235 : decode cX4_reachesEnd 235 = .ok (.bipush 64, 2) := by decide +kernel
theorem dX4_reachesEnd_237 : decode cX4_reachesEnd 237 = .ok (.irem, 1) := by decide +kernel
theorem dX4_reachesEnd_238 : decode cX4_reachesEnd 238 = .ok (.lshl, 1) := by decide +kernel
theorem dX4_reachesEnd_239 : decode cX4_reachesEnd 239 = .ok (.lor, 1) := by decide +kernel
theorem dX4_reachesEnd_240 : decode cX4_reachesEnd 240 = .ok (.lastore, 1) := by decide +kernel
theorem dX4_reachesEnd_241 : decode cX4_reachesEnd 241 = .ok (.iconst 0, 1) := by decide +kernel
theorem dX4_reachesEnd_242 : decode cX4_reachesEnd 242 = .ok (.ireturn, 1) := by decide +kernel
set_option maxRecDepth 20000 in
theorem ggX5_allInOrder_X5_fromPlaces : GoodIn wsX5_allInOrder wsX5_fromPlaces := goodIn_r _ [5] (by decide +kernel) (by decide +kernel)
set_option maxRecDepth 20000 in
theorem gX5_allInOrder_X5_fromPlaces : GoodIn wsX5_allInOrder (va_wsS RX5 9 yX5_fromPlaces wsX5_fromPlaces) := goodIn_app (goodIn_of _ (by decide +kernel)) ggX5_allInOrder_X5_fromPlaces
set_option maxRecDepth 20000 in
theorem ggX5_allInOrder_X5_grouped : GoodIn wsX5_allInOrder wsX5_grouped := goodIn_r _ [8] (by decide +kernel) (by decide +kernel)
set_option maxRecDepth 20000 in
theorem gX5_allInOrder_X5_grouped : GoodIn wsX5_allInOrder (va_wsS RX5 15 yX5_grouped wsX5_grouped) := goodIn_app (goodIn_of _ (by decide +kernel)) ggX5_allInOrder_X5_grouped
set_option maxRecDepth 20000 in
theorem ggX5_allInOrder_J6_bitCount_0f7a4 : GoodIn wsX5_allInOrder wsJ6_bitCount_0f7a4 := goodIn_r _ [12, 13, 14, 15] (by decide +kernel) (by decide +kernel)
set_option maxRecDepth 20000 in
theorem gX5_allInOrder_J6_bitCount_0f7a4 : GoodIn wsX5_allInOrder (va_wsS RX5 18 yJ6_bitCount_0f7a4 wsJ6_bitCount_0f7a4) := goodIn_app (goodIn_of _ (by decide +kernel)) ggX5_allInOrder_J6_bitCount_0f7a4
theorem dX5_allInOrder_0 : decode cX5_allInOrder 0 = .ok (.bipush 94, 2) := by decide +kernel
theorem dX5_allInOrder_2 : decode cX5_allInOrder 2 = .ok (.newarray .int, 2) := by decide +kernel
theorem dX5_allInOrder_4 : decode cX5_allInOrder 4 = .ok (.astore_n 0, 1) := by decide +kernel
theorem dX5_allInOrder_5 : decode cX5_allInOrder 5 = .ok (.iconst 0, 1) := by decide +kernel
theorem dX5_allInOrder_6 : decode cX5_allInOrder 6 = .ok (.istore_n 1, 1) := by decide +kernel
theorem dX5_allInOrder_7 : decode cX5_allInOrder 7 = .ok (.iconst 0, 1) := by decide +kernel
theorem dX5_allInOrder_8 : decode cX5_allInOrder 8 = .ok (.istore_n 2, 1) := by decide +kernel
theorem dX5_allInOrder_9 : decode cX5_allInOrder 9 = .ok (.iload_n 2, 1) := by decide +kernel
theorem dX5_allInOrder_10 : decode cX5_allInOrder 10 = .ok (.sipush 256, 3) := by decide +kernel
theorem dX5_allInOrder_13 : decode cX5_allInOrder 13 = .ok (.if_icmp .ge 47, 3) := by decide +kernel
theorem dX5_allInOrder_16 : decode cX5_allInOrder 16 = .ok (.iload_n 2, 1) := by decide +kernel
theorem dX5_allInOrder_17 : decode cX5_allInOrder 17 = .ok (.invokestatic 9, 3) := by decide +kernel
theorem dX5_allInOrder_20 : decode cX5_allInOrder 20 = .ok (.istore_n 3, 1) := by decide +kernel
theorem dX5_allInOrder_21 : decode cX5_allInOrder 21 = .ok (.iload_n 3, 1) := by decide +kernel
theorem dX5_allInOrder_22 : decode cX5_allInOrder 22 = .ok (.invokestatic 15, 3) := by decide +kernel
theorem dX5_allInOrder_25 : decode cX5_allInOrder 25 = .ok (.invokestatic 18, 3) := by decide +kernel
theorem dX5_allInOrder_28 : decode cX5_allInOrder 28 = .ok (.istore 4, 2) := by decide +kernel
theorem dX5_allInOrder_30 : decode cX5_allInOrder 30 = .ok (.iload 4, 2) := by decide +kernel
theorem dX5_allInOrder_32 : decode cX5_allInOrder 32 = .ok (.ifCond .eq 9, 3) := by decide +kernel
theorem dX5_allInOrder_35 : decode cX5_allInOrder 35 = .ok (.iload 4, 2) := by decide +kernel
theorem dX5_allInOrder_37 : decode cX5_allInOrder 37 = .ok (.iconst 3, 1) := by decide +kernel
theorem dX5_allInOrder_38 : decode cX5_allInOrder 38 = .ok (.if_icmp .lt 16, 3) := by decide +kernel
theorem dX5_allInOrder_41 : decode cX5_allInOrder 41 = .ok (.iload_n 1, 1) := by decide +kernel
theorem dX5_allInOrder_42 : decode cX5_allInOrder 42 = .ok (.bipush 94, 2) := by decide +kernel
theorem dX5_allInOrder_44 : decode cX5_allInOrder 44 = .ok (.if_icmp .ge 10, 3) := by decide +kernel
theorem dX5_allInOrder_47 : decode cX5_allInOrder 47 = .ok (.aload_n 0, 1) := by decide +kernel
theorem dX5_allInOrder_48 : decode cX5_allInOrder 48 = .ok (.iload_n 1, 1) := by decide +kernel
theorem dX5_allInOrder_49 : decode cX5_allInOrder 49 = .ok (.iload_n 3, 1) := by decide +kernel
theorem dX5_allInOrder_50 : decode cX5_allInOrder 50 = .ok (.iastore, 1) := by decide +kernel
theorem dX5_allInOrder_51 : decode cX5_allInOrder 51 = .ok (.iinc 1 1, 3) := by decide +kernel
theorem dX5_allInOrder_54 : decode cX5_allInOrder 54 = .ok (.iinc 2 1, 3) := by decide +kernel
theorem dX5_allInOrder_57 : decode cX5_allInOrder 57 = .ok (.goto (-48), 3) := by decide +kernel
theorem dX5_allInOrder_60 : decode cX5_allInOrder 60 = .ok (.aload_n 0, 1) := by decide +kernel
theorem dX5_allInOrder_61 : decode cX5_allInOrder 61 = .ok (.areturn, 1) := by decide +kernel
theorem dX5_fromPlaces_0 : decode cX5_fromPlaces 0 = .ok (.iconst 0, 1) := by decide +kernel
theorem dX5_fromPlaces_1 : decode cX5_fromPlaces 1 = .ok (.istore_n 1, 1) := by decide +kernel
theorem dX5_fromPlaces_2 : decode cX5_fromPlaces 2 = .ok (.iconst 0, 1) := by decide +kernel
theorem dX5_fromPlaces_3 : decode cX5_fromPlaces 3 = .ok (.istore_n 2, 1) := by decide +kernel
theorem dX5_fromPlaces_4 : decode cX5_fromPlaces 4 = .ok (.iload_n 2, 1) := by decide +kernel
theorem dX5_fromPlaces_5 : decode cX5_fromPlaces 5 = .ok (.iconst 4, 1) := by decide +kernel
theorem dX5_fromPlaces_6 : decode cX5_fromPlaces 6 = .ok (.if_icmp .ge 42, 3) := by decide +kernel
theorem dX5_fromPlaces_9 : decode cX5_fromPlaces 9 = .ok (.iload_n 0, 1) := by decide +kernel
theorem dX5_fromPlaces_10 : decode cX5_fromPlaces 10 = .ok (.iconst 2, 1) := by decide +kernel
theorem dX5_fromPlaces_11 : decode cX5_fromPlaces 11 = .ok (.iconst 3, 1) := by decide +kernel
theorem dX5_fromPlaces_12 : decode cX5_fromPlaces 12 = .ok (.iload_n 2, 1) := by decide +kernel
theorem dX5_fromPlaces_13 : decode cX5_fromPlaces 13 = .ok (.isub, 1) := by decide +kernel
theorem dX5_fromPlaces_14 : decode cX5_fromPlaces 14 = .ok (.imul, 1) := by decide +kernel
theorem dX5_fromPlaces_15 : decode cX5_fromPlaces 15 = .ok (.ishr, 1) := by decide +kernel
theorem dX5_fromPlaces_16 : decode cX5_fromPlaces 16 = .ok (.iconst 3, 1) := by decide +kernel
theorem dX5_fromPlaces_17 : decode cX5_fromPlaces 17 = .ok (.iand, 1) := by decide +kernel
theorem dX5_fromPlaces_18 : decode cX5_fromPlaces 18 = .ok (.istore_n 3, 1) := by decide +kernel
theorem dX5_fromPlaces_19 : decode cX5_fromPlaces 19 = .ok (.iload_n 3, 1) := by decide +kernel
theorem dX5_fromPlaces_20 : decode cX5_fromPlaces 20 = .ok (.ifCond .eq 22, 3) := by decide +kernel
theorem dX5_fromPlaces_23 : decode cX5_fromPlaces 23 = .ok (.iload_n 1, 1) := by decide +kernel
theorem dX5_fromPlaces_24 : decode cX5_fromPlaces 24 = .ok (.iconst 1, 1) := by decide +kernel
theorem dX5_fromPlaces_25 : decode cX5_fromPlaces 25 = .ok (.iconst 4, 1) := by decide +kernel
theorem dX5_fromPlaces_26 : decode cX5_fromPlaces 26 = .ok (.iload_n 3, 1) := by decide +kernel
theorem dX5_fromPlaces_27 : decode cX5_fromPlaces 27 = .ok (.iconst 1, 1) := by decide +kernel
theorem dX5_fromPlaces_28 : decode cX5_fromPlaces 28 = .ok (.isub, 1) := by decide +kernel
theorem dX5_fromPlaces_29 : decode cX5_fromPlaces 29 = .ok (.imul, 1) := by decide +kernel
theorem dX5_fromPlaces_30 : decode cX5_fromPlaces 30 = .ok (.iload_n 2, 1) := by decide +kernel
theorem dX5_fromPlaces_31 : decode cX5_fromPlaces 31 = .ok (.iadd, 1) := by decide +kernel
theorem dX5_fromPlaces_32 : decode cX5_fromPlaces 32 = .ok (.ishl, 1) := by decide +kernel
theorem dX5_fromPlaces_33 : decode cX5_fromPlaces 33 = .ok (.iconst 1, 1) := by decide +kernel
theorem dX5_fromPlaces_34 : decode cX5_fromPlaces 34 = .ok (.bipush 12, 2) := by decide +kernel
theorem dX5_fromPlaces_36 : decode cX5_fromPlaces 36 = .ok (.iload_n 2, 1) := by decide +kernel
theorem dX5_fromPlaces_37 : decode cX5_fromPlaces 37 = .ok (.iadd, 1) := by decide +kernel
theorem dX5_fromPlaces_38 : decode cX5_fromPlaces 38 = .ok (.ishl, 1) := by decide +kernel
theorem dX5_fromPlaces_39 : decode cX5_fromPlaces 39 = .ok (.ior, 1) := by decide +kernel
theorem dX5_fromPlaces_40 : decode cX5_fromPlaces 40 = .ok (.ior, 1) := by decide +kernel
theorem dX5_fromPlaces_41 : decode cX5_fromPlaces 41 = .ok (.istore_n 1, 1) := by decide +kernel
theorem dX5_fromPlaces_42 : decode cX5_fromPlaces 42 = .ok (.iinc 2 1, 3) := by decide +kernel
theorem dX5_fromPlaces_45 : decode cX5_fromPlaces 45 = .ok (.goto (-41), 3) := by decide +kernel
theorem dX5_fromPlaces_48 : decode cX5_fromPlaces 48 = .ok (.iload_n 1, 1) := by decide +kernel
theorem dX5_fromPlaces_49 : decode cX5_fromPlaces 49 = .ok (.ireturn, 1) := by decide +kernel
theorem dX5_grouped_0 : decode cX5_grouped 0 = .ok (.iload_n 0, 1) := by decide +kernel
theorem dX5_grouped_1 : decode cX5_grouped 1 = .ok (.bipush 15, 2) := by decide +kernel
theorem dX5_grouped_3 : decode cX5_grouped 3 = .ok (.iand, 1) := by decide +kernel
theorem dX5_grouped_4 : decode cX5_grouped 4 = .ok (.ireturn, 1) := by decide +kernel
theorem dX5_begun_0 : decode cX5_begun 0 = .ok (.iload_n 0, 1) := by decide +kernel
theorem dX5_begun_1 : decode cX5_begun 1 = .ok (.iconst 4, 1) := by decide +kernel
theorem dX5_begun_2 : decode cX5_begun 2 = .ok (.ishr, 1) := by decide +kernel
theorem dX5_begun_3 : decode cX5_begun 3 = .ok (.bipush 15, 2) := by decide +kernel
theorem dX5_begun_5 : decode cX5_begun 5 = .ok (.iand, 1) := by decide +kernel
theorem dX5_begun_6 : decode cX5_begun 6 = .ok (.ireturn, 1) := by decide +kernel
theorem dX5_continued_0 : decode cX5_continued 0 = .ok (.iload_n 0, 1) := by decide +kernel
theorem dX5_continued_1 : decode cX5_continued 1 = .ok (.bipush 8, 2) := by decide +kernel
theorem dX5_continued_3 : decode cX5_continued 3 = .ok (.ishr, 1) := by decide +kernel
theorem dX5_continued_4 : decode cX5_continued 4 = .ok (.bipush 15, 2) := by decide +kernel
theorem dX5_continued_6 : decode cX5_continued 6 = .ok (.iand, 1) := by decide +kernel
theorem dX5_continued_7 : decode cX5_continued 7 = .ok (.ireturn, 1) := by decide +kernel
theorem dX5_shown_0 : decode cX5_shown 0 = .ok (.iload_n 0, 1) := by decide +kernel
theorem dX5_shown_1 : decode cX5_shown 1 = .ok (.bipush 12, 2) := by decide +kernel
theorem dX5_shown_3 : decode cX5_shown 3 = .ok (.ishr, 1) := by decide +kernel
theorem dX5_shown_4 : decode cX5_shown 4 = .ok (.bipush 15, 2) := by decide +kernel
theorem dX5_shown_6 : decode cX5_shown 6 = .ok (.iand, 1) := by decide +kernel
theorem dX5_shown_7 : decode cX5_shown 7 = .ok (.ireturn, 1) := by decide +kernel
set_option maxRecDepth 20000 in
theorem ggX5_placeOf_X5_grouped : GoodIn wsX5_placeOf wsX5_grouped := goodIn_r _ [4] (by decide +kernel) (by decide +kernel)
set_option maxRecDepth 20000 in
theorem gX5_placeOf_X5_grouped : GoodIn wsX5_placeOf (va_wsS RX5 15 yX5_grouped wsX5_grouped) := goodIn_app (goodIn_of _ (by decide +kernel)) ggX5_placeOf_X5_grouped
set_option maxRecDepth 20000 in
theorem ggX5_placeOf_X5_begun : GoodIn wsX5_placeOf wsX5_begun := goodIn_r _ [7] (by decide +kernel) (by decide +kernel)
set_option maxRecDepth 20000 in
theorem gX5_placeOf_X5_begun : GoodIn wsX5_placeOf (va_wsS RX5 23 yX5_begun wsX5_begun) := goodIn_app (goodIn_of _ (by decide +kernel)) ggX5_placeOf_X5_begun
set_option maxRecDepth 20000 in
theorem ggX5_placeOf_X5_continued : GoodIn wsX5_placeOf wsX5_continued := goodIn_r _ [10] (by decide +kernel) (by decide +kernel)
set_option maxRecDepth 20000 in
theorem gX5_placeOf_X5_continued : GoodIn wsX5_placeOf (va_wsS RX5 26 yX5_continued wsX5_continued) := goodIn_app (goodIn_of _ (by decide +kernel)) ggX5_placeOf_X5_continued
theorem dX5_placeOf_0 : decode cX5_placeOf 0 = .ok (.iload_n 0, 1) := by decide +kernel
theorem dX5_placeOf_1 : decode cX5_placeOf 1 = .ok (.invokestatic 15, 3) := by decide +kernel
theorem dX5_placeOf_4 : decode cX5_placeOf 4 = .ok (.iload_n 1, 1) := by decide +kernel
theorem dX5_placeOf_5 : decode cX5_placeOf 5 = .ok (.ishr, 1) := by decide +kernel
theorem dX5_placeOf_6 : decode cX5_placeOf 6 = .ok (.iconst 1, 1) := by decide +kernel
theorem dX5_placeOf_7 : decode cX5_placeOf 7 = .ok (.iand, 1) := by decide +kernel
theorem dX5_placeOf_8 : decode cX5_placeOf 8 = .ok (.ifCond .eq 5, 3) := by decide +kernel
theorem dX5_placeOf_11 : decode cX5_placeOf 11 = .ok (.iconst 1, 1) := by decide +kernel
theorem dX5_placeOf_12 : decode cX5_placeOf 12 = .ok (.ireturn, 1) := by decide +kernel
theorem dX5_placeOf_13 : decode cX5_placeOf 13 = .ok (.iload_n 0, 1) := by decide +kernel
theorem dX5_placeOf_14 : decode cX5_placeOf 14 = .ok (.invokestatic 23, 3) := by decide +kernel
theorem dX5_placeOf_17 : decode cX5_placeOf 17 = .ok (.iload_n 1, 1) := by decide +kernel
theorem dX5_placeOf_18 : decode cX5_placeOf 18 = .ok (.ishr, 1) := by decide +kernel
theorem dX5_placeOf_19 : decode cX5_placeOf 19 = .ok (.iconst 1, 1) := by decide +kernel
theorem dX5_placeOf_20 : decode cX5_placeOf 20 = .ok (.iand, 1) := by decide +kernel
theorem dX5_placeOf_21 : decode cX5_placeOf 21 = .ok (.ifCond .eq 5, 3) := by decide +kernel
theorem dX5_placeOf_24 : decode cX5_placeOf 24 = .ok (.iconst 2, 1) := by decide +kernel
theorem dX5_placeOf_25 : decode cX5_placeOf 25 = .ok (.ireturn, 1) := by decide +kernel
theorem dX5_placeOf_26 : decode cX5_placeOf 26 = .ok (.iload_n 0, 1) := by decide +kernel
theorem dX5_placeOf_27 : decode cX5_placeOf 27 = .ok (.invokestatic 26, 3) := by decide +kernel
theorem dX5_placeOf_30 : decode cX5_placeOf 30 = .ok (.iload_n 1, 1) := by decide +kernel
theorem dX5_placeOf_31 : decode cX5_placeOf 31 = .ok (.ishr, 1) := by decide +kernel
theorem dX5_placeOf_32 : decode cX5_placeOf 32 = .ok (.iconst 1, 1) := by decide +kernel
theorem dX5_placeOf_33 : decode cX5_placeOf 33 = .ok (.iand, 1) := by decide +kernel
theorem dX5_placeOf_34 : decode cX5_placeOf 34 = .ok (.ifCond .eq 7, 3) := by decide +kernel
theorem dX5_placeOf_37 : decode cX5_placeOf 37 = .ok (.iconst 3, 1) := by decide +kernel
theorem dX5_placeOf_38 : decode cX5_placeOf 38 = .ok (.goto 4, 3) := by decide +kernel
theorem dX5_placeOf_41 : decode cX5_placeOf 41 = .ok (.iconst 0, 1) := by decide +kernel
theorem dX5_placeOf_42 : decode cX5_placeOf 42 = .ok (.ireturn, 1) := by decide +kernel
end
section
theorem dX5_canContinue_0 : decode cX5_canContinue 0 = .ok (.iload_n 0, 1) := by decide +kernel
theorem dX5_canContinue_1 : decode cX5_canContinue 1 = .ok (.bipush 15, 2) := by decide +kernel
theorem dX5_canContinue_3 : decode cX5_canContinue 3 = .ok (.iand, 1) := by decide +kernel
theorem dX5_canContinue_4 : decode cX5_canContinue 4 = .ok (.istore_n 2, 1) := by decide +kernel
theorem dX5_canContinue_5 : decode cX5_canContinue 5 = .ok (.iload_n 0, 1) := by decide +kernel
theorem dX5_canContinue_6 : decode cX5_canContinue 6 = .ok (.iconst 4, 1) := by decide +kernel
theorem dX5_canContinue_7 : decode cX5_canContinue 7 = .ok (.ishr, 1) := by decide +kernel
theorem dX5_canContinue_8 : decode cX5_canContinue 8 = .ok (.bipush 15, 2) := by decide +kernel
theorem dX5_canContinue_10 : decode cX5_canContinue 10 = .ok (.iand, 1) := by decide +kernel
theorem dX5_canContinue_11 : decode cX5_canContinue 11 = .ok (.istore_n 3, 1) := by decide +kernel
theorem dX5_canContinue_12 : decode cX5_canContinue 12 = .ok (.iload_n 2, 1) := by decide +kernel
theorem dX5_canContinue_13 : decode cX5_canContinue 13 = .ok (.iload_n 3, 1) := by decide +kernel
theorem dX5_canContinue_14 : decode cX5_canContinue 14 = .ok (.ixor, 1) := by decide +kernel
theorem dX5_canContinue_15 : decode cX5_canContinue 15 = .ok (.iload_n 1, 1) := by decide +kernel
theorem dX5_canContinue_16 : decode cX5_canContinue 16 = .ok (.iconst (-1), 1) := by decide +kernel
theorem dX5_canContinue_17 : decode cX5_canContinue 17 = .ok (.ixor, 1) := by decide +kernel
theorem dX5_canContinue_18 : decode cX5_canContinue 18 = .ok (.iand, 1) := by decide +kernel
theorem dX5_canContinue_19 : decode cX5_canContinue 19 = .ok (.ifCond .ne 17, 3) := by decide +kernel
theorem dX5_canContinue_22 : decode cX5_canContinue 22 = .ok (.iload_n 1, 1) := by decide +kernel
theorem dX5_canContinue_23 : decode cX5_canContinue 23 = .ok (.iload_n 2, 1) := by decide +kernel
theorem dX5_canContinue_24 : decode cX5_canContinue 24 = .ok (.iload_n 3, 1) := by decide +kernel
theorem dX5_canContinue_25 : decode cX5_canContinue 25 = .ok (.ior, 1) := by decide +kernel
theorem dX5_canContinue_26 : decode cX5_canContinue 26 = .ok (.iconst (-1), 1) := by decide +kernel
theorem dX5_canContinue_27 : decode cX5_canContinue 27 = .ok (.ixor, 1) := by decide +kernel
theorem dX5_canContinue_28 : decode cX5_canContinue 28 = .ok (.iand, 1) := by decide +kernel
theorem dX5_canContinue_29 : decode cX5_canContinue 29 = .ok (.ifCond .ne 7, 3) := by decide +kernel
theorem dX5_canContinue_32 : decode cX5_canContinue 32 = .ok (.iconst 1, 1) := by decide +kernel
theorem dX5_canContinue_33 : decode cX5_canContinue 33 = .ok (.goto 4, 3) := by decide +kernel
theorem dX5_canContinue_36 : decode cX5_canContinue 36 = .ok (.iconst 0, 1) := by decide +kernel
theorem dX5_canContinue_37 : decode cX5_canContinue 37 = .ok (.ireturn, 1) := by decide +kernel
set_option maxRecDepth 20000 in
theorem ggX5_stateAfter_X5_continued : GoodIn wsX5_stateAfter wsX5_continued := goodIn_r _ [4] (by decide +kernel) (by decide +kernel)
set_option maxRecDepth 20000 in
theorem gX5_stateAfter_X5_continued : GoodIn wsX5_stateAfter (va_wsS RX5 26 yX5_continued wsX5_continued) := goodIn_app (goodIn_of _ (by decide +kernel)) ggX5_stateAfter_X5_continued
set_option maxRecDepth 20000 in
theorem ggX5_stateAfter_X5_begun : GoodIn wsX5_stateAfter wsX5_begun := goodIn_r _ [7] (by decide +kernel) (by decide +kernel)
set_option maxRecDepth 20000 in
theorem gX5_stateAfter_X5_begun : GoodIn wsX5_stateAfter (va_wsS RX5 23 yX5_begun wsX5_begun) := goodIn_app (goodIn_of _ (by decide +kernel)) ggX5_stateAfter_X5_begun
theorem dX5_stateAfter_0 : decode cX5_stateAfter 0 = .ok (.iload_n 1, 1) := by decide +kernel
theorem dX5_stateAfter_1 : decode cX5_stateAfter 1 = .ok (.invokestatic 26, 3) := by decide +kernel
theorem dX5_stateAfter_4 : decode cX5_stateAfter 4 = .ok (.istore_n 2, 1) := by decide +kernel
theorem dX5_stateAfter_5 : decode cX5_stateAfter 5 = .ok (.iload_n 1, 1) := by decide +kernel
theorem dX5_stateAfter_6 : decode cX5_stateAfter 6 = .ok (.invokestatic 23, 3) := by decide +kernel
theorem dX5_stateAfter_9 : decode cX5_stateAfter 9 = .ok (.iload_n 2, 1) := by decide +kernel
theorem dX5_stateAfter_10 : decode cX5_stateAfter 10 = .ok (.iload_n 0, 1) := by decide +kernel
theorem dX5_stateAfter_11 : decode cX5_stateAfter 11 = .ok (.iconst 4, 1) := by decide +kernel
theorem dX5_stateAfter_12 : decode cX5_stateAfter 12 = .ok (.ishr, 1) := by decide +kernel
theorem dX5_stateAfter_13 : decode cX5_stateAfter 13 = .ok (.iand, 1) := by decide +kernel
theorem dX5_stateAfter_14 : decode cX5_stateAfter 14 = .ok (.ior, 1) := by decide +kernel
theorem dX5_stateAfter_15 : decode cX5_stateAfter 15 = .ok (.iload_n 2, 1) := by decide +kernel
theorem dX5_stateAfter_16 : decode cX5_stateAfter 16 = .ok (.iconst 4, 1) := by decide +kernel
theorem dX5_stateAfter_17 : decode cX5_stateAfter 17 = .ok (.ishl, 1) := by decide +kernel
theorem dX5_stateAfter_18 : decode cX5_stateAfter 18 = .ok (.ior, 1) := by decide +kernel
theorem dX5_stateAfter_19 : decode cX5_stateAfter 19 = .ok (.ireturn, 1) := by decide +kernel
theorem dX5_mayEnd_0 : decode cX5_mayEnd 0 = .ok (.iload_n 0, 1) := by decide +kernel
theorem dX5_mayEnd_1 : decode cX5_mayEnd 1 = .ok (.bipush 15, 2) := by decide +kernel
theorem dX5_mayEnd_3 : decode cX5_mayEnd 3 = .ok (.iand, 1) := by decide +kernel
theorem dX5_mayEnd_4 : decode cX5_mayEnd 4 = .ok (.iload_n 0, 1) := by decide +kernel
theorem dX5_mayEnd_5 : decode cX5_mayEnd 5 = .ok (.iconst 4, 1) := by decide +kernel
theorem dX5_mayEnd_6 : decode cX5_mayEnd 6 = .ok (.ishr, 1) := by decide +kernel
theorem dX5_mayEnd_7 : decode cX5_mayEnd 7 = .ok (.bipush 15, 2) := by decide +kernel
theorem dX5_mayEnd_9 : decode cX5_mayEnd 9 = .ok (.iand, 1) := by decide +kernel
theorem dX5_mayEnd_10 : decode cX5_mayEnd 10 = .ok (.if_icmp .ne 7, 3) := by decide +kernel
theorem dX5_mayEnd_13 : decode cX5_mayEnd 13 = .ok (.iconst 1, 1) := by decide +kernel
theorem dX5_mayEnd_14 : decode cX5_mayEnd 14 = .ok (.goto 4, 3) := by decide +kernel
theorem dX5_mayEnd_17 : decode cX5_mayEnd 17 = .ok (.iconst 0, 1) := by decide +kernel
theorem dX5_mayEnd_18 : decode cX5_mayEnd 18 = .ok (.ireturn, 1) := by decide +kernel
set_option maxRecDepth 20000 in
theorem ggX6_init_X3_init : GoodIn wsX6_init wsX3_init := goodIn_r _ [16, 17, 2, 3, 8, 18, 19, 20, 4, 21, 39, 40, 41, 42] (by decide +kernel) (by decide +kernel)
set_option maxRecDepth 20000 in
theorem gX6_init_X3_init_n27 : GoodIn wsX6_init (wsX3_init) := ggX6_init_X3_init
set_option maxRecDepth 20000 in
theorem ggX6_init_X5_continued : GoodIn wsX6_init wsX5_continued := goodIn_r _ [25] (by decide +kernel) (by decide +kernel)
set_option maxRecDepth 20000 in
theorem gX6_init_X5_continued : GoodIn wsX6_init (va_wsS RX6 35 yX5_continued wsX5_continued) := goodIn_app (goodIn_of _ (by decide +kernel)) ggX6_init_X5_continued
theorem dX6_init_0 : decode cX6_init 0 = .ok (.aload_n 0, 1) := by decide +kernel
theorem dX6_init_1 : decode cX6_init 1 = .ok (.invokespecial 3, 3) := by decide +kernel
theorem dX6_init_4 : decode cX6_init 4 = .ok (.aload_n 0, 1) := by decide +kernel
theorem dX6_init_5 : decode cX6_init 5 = .ok (.bipush 94, 2) := by decide +kernel
theorem dX6_init_7 : decode cX6_init 7 = .ok (.newarray .int, 2) := by decide +kernel
theorem dX6_init_9 : decode cX6_init 9 = .ok (.putfield 9, 3) := by decide +kernel
theorem dX6_init_12 : decode cX6_init 12 = .ok (.aload_n 0, 1) := by decide +kernel
theorem dX6_init_13 : decode cX6_init 13 = .ok (.bipush 94, 2) := by decide +kernel
theorem dX6_init_15 : decode cX6_init 15 = .ok (.newarray .int, 2) := by decide +kernel
theorem dX6_init_17 : decode cX6_init 17 = .ok (.putfield 15, 3) := by decide +kernel
theorem dX6_init_20 : decode cX6_init 20 = .ok (.aload_n 0, 1) := by decide +kernel
theorem dX6_init_21 : decode cX6_init 21 = .ok (.bipush 17, 2) := by decide +kernel
theorem dX6_init_23 : decode cX6_init 23 = .ok (.newarray .int, 2) := by decide +kernel
theorem dX6_init_25 : decode cX6_init 25 = .ok (.putfield 18, 3) := by decide +kernel
theorem dX6_init_28 : decode cX6_init 28 = .ok (.aload_n 0, 1) := by decide +kernel
theorem dX6_init_29 : decode cX6_init 29 = .ok (.sipush 282, 3) := by decide +kernel
theorem dX6_init_32 : decode cX6_init 32 = .ok (.newarray .long, 2) := by decide +kernel
theorem dX6_init_34 : decode cX6_init 34 = .ok (.putfield 21, 3) := by decide +kernel
theorem dX6_init_37 : decode cX6_init 37 = .ok (.aload_n 0, 1) := by decide +kernel
theorem dX6_init_38 : decode cX6_init 38 = .ok (.new 25, 3) := by decide +kernel
theorem dX6_init_41 : decode cX6_init 41 = .ok (.dup, 1) := by decide +kernel
theorem dX6_init_42 : decode cX6_init 42 = .ok (.invokespecial 27, 3) := by decide +kernel
theorem dX6_init_45 : decode cX6_init 45 = .ok (.putfield 28, 3) := by decide +kernel
theorem dX6_init_48 : decode cX6_init 48 = .ok (.aload_n 0, 1) := by decide +kernel
theorem dX6_init_49 : decode cX6_init 49 = .ok (.new 25, 3) := by decide +kernel
theorem dX6_init_52 : decode cX6_init 52 = .ok (.dup, 1) := by decide +kernel
theorem dX6_init_53 : decode cX6_init 53 = .ok (.invokespecial 27, 3) := by decide +kernel
theorem dX6_init_56 : decode cX6_init 56 = .ok (.putfield 32, 3) := by decide +kernel
theorem dX6_init_59 : decode cX6_init 59 = .ok (.iconst 0, 1) := by decide +kernel
theorem dX6_init_60 : decode cX6_init 60 = .ok (.istore_n 2, 1) := by decide +kernel
theorem dX6_init_61 : decode cX6_init 61 = .ok (.iconst 0, 1) := by decide +kernel
theorem dX6_init_62 : decode cX6_init 62 = .ok (.istore_n 3, 1) := by decide +kernel
theorem dX6_init_63 : decode cX6_init 63 = .ok (.iload_n 3, 1) := by decide +kernel
theorem dX6_init_64 : decode cX6_init 64 = .ok (.bipush 15, 2) := by decide +kernel
theorem dX6_init_66 : decode cX6_init 66 = .ok (.if_icmp .gt 55, 3) := by decide +kernel
theorem dX6_init_69 : decode cX6_init 69 = .ok (.iconst 0, 1) := by decide +kernel
theorem dX6_init_70 : decode cX6_init 70 = .ok (.istore 4, 2) := by decide +kernel
theorem dX6_init_72 : decode cX6_init 72 = .ok (.iload 4, 2) := by decide +kernel
theorem dX6_init_74 : decode cX6_init 74 = .ok (.aload_n 1, 1) := by decide +kernel
theorem dX6_init_75 : decode cX6_init 75 = .ok (.arraylength, 1) := by decide +kernel
theorem dX6_init_76 : decode cX6_init 76 = .ok (.if_icmp .ge 39, 3) := by decide +kernel
theorem dX6_init_79 : decode cX6_init 79 = .ok (.iload_n 2, 1) := by decide +kernel
theorem dX6_init_80 : decode cX6_init 80 = .ok (.bipush 94, 2) := by decide +kernel
theorem dX6_init_82 : decode cX6_init 82 = .ok (.if_icmp .ge 33, 3) := by decide +kernel
theorem dX6_init_85 : decode cX6_init 85 = .ok (.aload_n 1, 1) := by decide +kernel
theorem dX6_init_86 : decode cX6_init 86 = .ok (.iload 4, 2) := by decide +kernel
theorem dX6_init_88 : decode cX6_init 88 = .ok (.iaload, 1) := by decide +kernel
theorem dX6_init_89 : decode cX6_init 89 = .ok (.invokestatic 35, 3) := by decide +kernel
theorem dX6_init_92 : decode cX6_init 92 = .ok (.iload_n 3, 1) := by decide +kernel
theorem dX6_init_93 : decode cX6_init 93 = .ok (.if_icmp .ne 16, 3) := by decide +kernel
theorem dX6_init_96 : decode cX6_init 96 = .ok (.aload_n 0, 1) := by decide +kernel
theorem dX6_init_97 : decode cX6_init 97 = .ok (.getfield 9, 3) := by decide +kernel
theorem dX6_init_100 : decode cX6_init 100 = .ok (.iload_n 2, 1) := by decide +kernel
theorem dX6_init_101 : decode cX6_init 101 = .ok (.aload_n 1, 1) := by decide +kernel
theorem dX6_init_102 : decode cX6_init 102 = .ok (.iload 4, 2) := by decide +kernel
theorem dX6_init_104 : decode cX6_init 104 = .ok (.iaload, 1) := by decide +kernel
theorem dX6_init_105 : decode cX6_init 105 = .ok (.iastore, 1) := by decide +kernel
theorem dX6_init_106 : decode cX6_init 106 = .ok (.iinc 2 1, 3) := by decide +kernel
theorem dX6_init_109 : decode cX6_init 109 = .ok (.iinc 4 1, 3) := by decide +kernel
theorem dX6_init_112 : decode cX6_init 112 = .ok (.goto (-40), 3) := by decide +kernel
theorem dX6_init_115 : decode cX6_init 115 = .ok (.iinc 3 1, 3) := by decide +kernel
theorem dX6_init_118 : decode cX6_init 118 = .ok (.goto (-55), 3) := by decide +kernel
theorem dX6_init_121 : decode cX6_init 121 = .ok (.return_, 1) := by decide +kernel
set_option maxRecDepth 20000 in
theorem ggX6_countLayouts_X0_jokersIn : GoodIn wsX6_countLayouts wsX0_jokersIn := goodIn_r _ [8, 9, 10, 11, 12, 13, 14, 15] (by decide +kernel) (by decide +kernel)
set_option maxRecDepth 20000 in
theorem gX6_countLayouts_X0_jokersIn : GoodIn wsX6_countLayouts (va_wsS RX6 52 yX0_jokersIn wsX0_jokersIn) := goodIn_app (goodIn_of _ (by decide +kernel)) ggX6_countLayouts_X0_jokersIn
set_option maxRecDepth 20000 in
theorem ggX6_countLayouts_X6_goThrough : GoodIn wsX6_countLayouts wsX6_goThrough := goodIn_r _ [20, 21, 22, 23, 24, 25, 4, 26, 27, 28, 29, 30, 31, 32, 33, 34, 35, 36, 37, 38, 39, 40, 41, 42, 43, 44, 45, 19, 46, 1, 2, 47, 48, 49, 50, 51, 52, 53, 54, 7, 55, 56, 57, 58, 59, 60, 61, 62, 63, 64, 65, 66, 67, 68, 69, 70, 71, 72, 73, 74, 75, 76, 77, 78, 79, 80, 81, 82, 83, 84, 85, 86, 87, 88, 89, 90, 91, 92, 93, 94, 95, 96, 97, 98, 99, 100, 101, 102, 103, 104, 3, 105, 106, 107, 108, 109, 110, 111, 115, 116, 117, 118, 119, 120, 121, 122, 123, 124, 125, 126, 127, 128, 129, 130, 131] (by decide +kernel) (by decide +kernel)
set_option maxRecDepth 20000 in
theorem gX6_countLayouts_X6_goThrough : GoodIn wsX6_countLayouts (wsV RX6 58 RX6 yX6_goThrough wsX6_goThrough) := goodIn_app (goodIn_of _ (by decide +kernel)) ggX6_countLayouts_X6_goThrough
set_option maxRecDepth 20000 in
theorem ggX6_countLayouts_X5_mayEnd : GoodIn wsX6_countLayouts wsX5_mayEnd := goodIn_r _ [114] (by decide +kernel) (by decide +kernel)
set_option maxRecDepth 20000 in
theorem gX6_countLayouts_X5_mayEnd : GoodIn wsX6_countLayouts (va_wsS RX6 69 yX5_mayEnd wsX5_mayEnd) := goodIn_app (goodIn_of _ (by decide +kernel)) ggX6_countLayouts_X5_mayEnd
set_option maxRecDepth 20000 in
theorem ggX6_countLayouts_X3_at : GoodIn wsX6_countLayouts wsX3_at := goodIn_r _ [111, 35, 40, 41, 30, 42, 128, 129, 130, 131] (by decide +kernel) (by decide +kernel)
set_option maxRecDepth 20000 in
theorem gX6_countLayouts_X3_at : GoodIn wsX6_countLayouts (wsV RX6 73 RX3 yX3_at wsX3_at) := goodIn_app (goodIn_of _ (by decide +kernel)) ggX6_countLayouts_X3_at
theorem dX6_countLayouts_0 : decode cX6_countLayouts 0 = .ok (.aload_n 0, 1) := by decide +kernel
theorem dX6_countLayouts_1 : decode cX6_countLayouts 1 = .ok (.lload_n 1, 1) := by decide +kernel
theorem dX6_countLayouts_2 : decode cX6_countLayouts 2 = .ok (.putfield 41, 3) := by decide +kernel
theorem dX6_countLayouts_5 : decode cX6_countLayouts 5 = .ok (.aload_n 0, 1) := by decide +kernel
theorem dX6_countLayouts_6 : decode cX6_countLayouts 6 = .ok (.lconst 0, 1) := by decide +kernel
theorem dX6_countLayouts_7 : decode cX6_countLayouts 7 = .ok (.putfield 45, 3) := by decide +kernel
theorem dX6_countLayouts_10 : decode cX6_countLayouts 10 = .ok (.aload_n 0, 1) := by decide +kernel
theorem dX6_countLayouts_11 : decode cX6_countLayouts 11 = .ok (.iconst 1, 1) := by decide +kernel
theorem dX6_countLayouts_12 : decode cX6_countLayouts 12 = .ok (.putfield 48, 3) := by decide +kernel
theorem dX6_countLayouts_15 : decode cX6_countLayouts 15 = .ok (.lload_n 1, 1) := by decide +kernel
theorem dX6_countLayouts_16 : decode cX6_countLayouts 16 = .ok (.invokestatic 52, 3) := by decide +kernel
theorem dX6_countLayouts_19 : decode cX6_countLayouts 19 = .ok (.istore_n 3, 1) := by decide +kernel
theorem dX6_countLayouts_20 : decode cX6_countLayouts 20 = .ok (.aload_n 0, 1) := by decide +kernel
theorem dX6_countLayouts_21 : decode cX6_countLayouts 21 = .ok (.iload_n 3, 1) := by decide +kernel
theorem dX6_countLayouts_22 : decode cX6_countLayouts 22 = .ok (.invokevirtual 58, 3) := by decide +kernel
theorem dX6_countLayouts_25 : decode cX6_countLayouts 25 = .ok (.lconst 0, 1) := by decide +kernel
theorem dX6_countLayouts_26 : decode cX6_countLayouts 26 = .ok (.lstore 4, 2) := by decide +kernel
theorem dX6_countLayouts_28 : decode cX6_countLayouts 28 = .ok (.iconst 0, 1) := by decide +kernel
theorem dX6_countLayouts_29 : decode cX6_countLayouts 29 = .ok (.istore 6, 2) := by decide +kernel
theorem dX6_countLayouts_31 : decode cX6_countLayouts 31 = .ok (.iload 6, 2) := by decide +kernel
theorem dX6_countLayouts_33 : decode cX6_countLayouts 33 = .ok (.aload_n 0, 1) := by decide +kernel
theorem dX6_countLayouts_34 : decode cX6_countLayouts 34 = .ok (.getfield 28, 3) := by decide +kernel
theorem dX6_countLayouts_37 : decode cX6_countLayouts 37 = .ok (.getfield 62, 3) := by decide +kernel
theorem dX6_countLayouts_40 : decode cX6_countLayouts 40 = .ok (.if_icmp .ge 48, 3) := by decide +kernel
theorem dX6_countLayouts_43 : decode cX6_countLayouts 43 = .ok (.aload_n 0, 1) := by decide +kernel
theorem dX6_countLayouts_44 : decode cX6_countLayouts 44 = .ok (.getfield 28, 3) := by decide +kernel
theorem dX6_countLayouts_47 : decode cX6_countLayouts 47 = .ok (.getfield 66, 3) := by decide +kernel
theorem dX6_countLayouts_50 : decode cX6_countLayouts 50 = .ok (.iload 6, 2) := by decide +kernel
theorem dX6_countLayouts_52 : decode cX6_countLayouts 52 = .ok (.iaload, 1) := by decide +kernel
theorem dX6_countLayouts_53 : decode cX6_countLayouts 53 = .ok (.invokestatic 69, 3) := by decide +kernel
theorem dX6_countLayouts_56 : decode cX6_countLayouts 56 = .ok (.ifCond .eq 26, 3) := by decide +kernel
theorem dX6_countLayouts_59 : decode cX6_countLayouts 59 = .ok (.lload 4, 2) := by decide +kernel
theorem dX6_countLayouts_61 : decode cX6_countLayouts 61 = .ok (.aload_n 0, 1) := by decide +kernel
theorem dX6_countLayouts_62 : decode cX6_countLayouts 62 = .ok (.getfield 28, 3) := by decide +kernel
theorem dX6_countLayouts_65 : decode cX6_countLayouts 65 = .ok (.aload_n 0, 1) := by decide +kernel
theorem dX6_countLayouts_66 : decode cX6_countLayouts 66 = .ok (.getfield 28, 3) := by decide +kernel
theorem dX6_countLayouts_69 : decode cX6_countLayouts 69 = .ok (.getfield 66, 3) := by decide +kernel
theorem dX6_countLayouts_72 : decode cX6_countLayouts 72 = .ok (.iload 6, 2) := by decide +kernel
theorem dX6_countLayouts_74 : decode cX6_countLayouts 74 = .ok (.iaload, 1) := by decide +kernel
theorem dX6_countLayouts_75 : decode cX6_countLayouts 75 = .ok (.iload_n 3, 1) := by decide +kernel
theorem dX6_countLayouts_76 : decode cX6_countLayouts 76 = .ok (.invokevirtual 73, 3) := by decide +kernel
theorem dX6_countLayouts_79 : decode cX6_countLayouts 79 = .ok (.ladd, 1) := by decide +kernel
theorem dX6_countLayouts_80 : decode cX6_countLayouts 80 = .ok (.lstore 4, 2) := by decide +kernel
theorem dX6_countLayouts_82 : decode cX6_countLayouts 82 = .ok (.iinc 6 1, 3) := by decide +kernel
theorem dX6_countLayouts_85 : decode cX6_countLayouts 85 = .ok (.goto (-54), 3) := by decide +kernel
theorem dX6_countLayouts_88 : decode cX6_countLayouts 88 = .ok (.lload 4, 2) := by decide +kernel
theorem dX6_countLayouts_90 : decode cX6_countLayouts 90 = .ok (.lreturn, 1) := by decide +kernel
set_option maxRecDepth 20000 in
theorem ggX6_bestPart_X0_jokersIn : GoodIn wsX6_bestPart wsX0_jokersIn := goodIn_r _ [13, 14, 15, 16, 17, 18, 19, 20] (by decide +kernel) (by decide +kernel)
set_option maxRecDepth 20000 in
theorem gX6_bestPart_X0_jokersIn : GoodIn wsX6_bestPart (va_wsS RX6 52 yX0_jokersIn wsX0_jokersIn) := goodIn_app (goodIn_of _ (by decide +kernel)) ggX6_bestPart_X0_jokersIn
set_option maxRecDepth 20000 in
theorem ggX6_bestPart_X6_goThrough : GoodIn wsX6_bestPart wsX6_goThrough := goodIn_r _ [25, 5, 6, 7, 8, 26, 27, 28, 29, 30, 31, 32, 33, 34, 35, 36, 37, 38, 39, 40, 41, 42, 43, 44, 45, 46, 47, 24, 48, 1, 2, 4, 49, 50, 51, 52, 53, 54, 55, 12, 56, 57, 58, 59, 60, 61, 62, 63, 64, 65, 66, 67, 68, 69, 70, 71, 72, 73, 74, 75, 76, 9, 77, 78, 79, 80, 81, 82, 83, 84, 85, 86, 87, 88, 89, 90, 91, 92, 93, 94, 95, 96, 97, 98, 99, 100, 101, 102, 103, 104, 3, 105, 106, 107, 108, 109, 110, 111, 127, 128, 129, 130, 131, 132, 133, 134, 135, 136, 137, 138, 139, 140, 141, 142, 143] (by decide +kernel) (by decide +kernel)
set_option maxRecDepth 20000 in
theorem gX6_bestPart_X6_goThrough : GoodIn wsX6_bestPart (wsV RX6 58 RX6 yX6_goThrough wsX6_goThrough) := goodIn_app (goodIn_of _ (by decide +kernel)) ggX6_bestPart_X6_goThrough
set_option maxRecDepth 20000 in
theorem ggX6_bestPart_X6_greatestAtEnd : GoodIn wsX6_bestPart wsX6_greatestAtEnd := goodIn_r _ [115, 27, 105, 106, 7, 107, 116, 117, 63, 118, 108, 109, 110, 32, 111, 37, 42, 43, 44, 127, 128, 129, 130, 131, 132, 133, 134, 135, 136, 137, 138, 139, 140, 141, 142, 143] (by decide +kernel) (by decide +kernel)
set_option maxRecDepth 20000 in
theorem gX6_bestPart_X6_greatestAtEnd : GoodIn wsX6_bestPart (wsV RX6 86 RX6 yX6_greatestAtEnd wsX6_greatestAtEnd) := goodIn_app (goodIn_of _ (by decide +kernel)) ggX6_bestPart_X6_greatestAtEnd
set_option maxRecDepth 20000 in
theorem ggX6_bestPart_X6_cardsOfKey : GoodIn wsX6_bestPart wsX6_cardsOfKey := goodIn_r _ [122] (by decide +kernel) (by decide +kernel)
set_option maxRecDepth 20000 in
theorem gX6_bestPart_X6_cardsOfKey : GoodIn wsX6_bestPart (wsV RX6 92 RX6 yX6_cardsOfKey wsX6_cardsOfKey) := goodIn_app (goodIn_of _ (by decide +kernel)) ggX6_bestPart_X6_cardsOfKey
set_option maxRecDepth 20000 in
theorem ggX6_bestPart_X6_firstJokers : GoodIn wsX6_bestPart wsX6_firstJokers := goodIn_r _ [126, 2, 127, 128, 129, 130, 131, 132, 133, 134, 135, 136, 137, 138, 139] (by decide +kernel) (by decide +kernel)
set_option maxRecDepth 20000 in
theorem gX6_bestPart_X6_firstJokers : GoodIn wsX6_bestPart (wsV RX6 96 RX6 yX6_firstJokers wsX6_firstJokers) := goodIn_app (goodIn_of _ (by decide +kernel)) ggX6_bestPart_X6_firstJokers
theorem dX6_bestPart_0 : decode cX6_bestPart 0 = .ok (.aload_n 0, 1) := by decide +kernel
theorem dX6_bestPart_1 : decode cX6_bestPart 1 = .ok (.lload_n 1, 1) := by decide +kernel
theorem dX6_bestPart_2 : decode cX6_bestPart 2 = .ok (.putfield 41, 3) := by decide +kernel
theorem dX6_bestPart_5 : decode cX6_bestPart 5 = .ok (.aload_n 0, 1) := by decide +kernel
theorem dX6_bestPart_6 : decode cX6_bestPart 6 = .ok (.lload_n 3, 1) := by decide +kernel
theorem dX6_bestPart_7 : decode cX6_bestPart 7 = .ok (.putfield 45, 3) := by decide +kernel
theorem dX6_bestPart_10 : decode cX6_bestPart 10 = .ok (.aload_n 0, 1) := by decide +kernel
theorem dX6_bestPart_11 : decode cX6_bestPart 11 = .ok (.iconst 0, 1) := by decide +kernel
theorem dX6_bestPart_12 : decode cX6_bestPart 12 = .ok (.putfield 48, 3) := by decide +kernel
theorem dX6_bestPart_15 : decode cX6_bestPart 15 = .ok (.aload_n 0, 1) := by decide +kernel
theorem dX6_bestPart_16 : decode cX6_bestPart 16 = .ok (.iload 5, 2) := by decide +kernel
theorem dX6_bestPart_18 : decode cX6_bestPart 18 = .ok (.iconst 1, 1) := by decide +kernel
theorem dX6_bestPart_19 : decode cX6_bestPart 19 = .ok (.if_icmp .ne 7, 3) := by decide +kernel
theorem dX6_bestPart_22 : decode cX6_bestPart 22 = .ok (.iconst 1, 1) := by decide +kernel
theorem dX6_bestPart_23 : decode cX6_bestPart 23 = .ok (.goto 4, 3) := by decide +kernel
theorem dX6_bestPart_26 : decode cX6_bestPart 26 = .ok (.iconst 0, 1) := by decide +kernel
theorem dX6_bestPart_27 : decode cX6_bestPart 27 = .ok (.putfield 77, 3) := by decide +kernel
theorem dX6_bestPart_30 : decode cX6_bestPart 30 = .ok (.aload_n 0, 1) := by decide +kernel
theorem dX6_bestPart_31 : decode cX6_bestPart 31 = .ok (.getfield 41, 3) := by decide +kernel
theorem dX6_bestPart_34 : decode cX6_bestPart 34 = .ok (.invokestatic 52, 3) := by decide +kernel
theorem dX6_bestPart_37 : decode cX6_bestPart 37 = .ok (.istore 6, 2) := by decide +kernel
theorem dX6_bestPart_39 : decode cX6_bestPart 39 = .ok (.iload 6, 2) := by decide +kernel
theorem dX6_bestPart_41 : decode cX6_bestPart 41 = .ok (.aload_n 0, 1) := by decide +kernel
theorem dX6_bestPart_42 : decode cX6_bestPart 42 = .ok (.getfield 45, 3) := by decide +kernel
theorem dX6_bestPart_45 : decode cX6_bestPart 45 = .ok (.invokestatic 52, 3) := by decide +kernel
theorem dX6_bestPart_48 : decode cX6_bestPart 48 = .ok (.iadd, 1) := by decide +kernel
theorem dX6_bestPart_49 : decode cX6_bestPart 49 = .ok (.iconst 2, 1) := by decide +kernel
theorem dX6_bestPart_50 : decode cX6_bestPart 50 = .ok (.invokestatic 80, 3) := by decide +kernel
theorem dX6_bestPart_53 : decode cX6_bestPart 53 = .ok (.istore 7, 2) := by decide +kernel
theorem dX6_bestPart_55 : decode cX6_bestPart 55 = .ok (.aload_n 0, 1) := by decide +kernel
theorem dX6_bestPart_56 : decode cX6_bestPart 56 = .ok (.iload 7, 2) := by decide +kernel
theorem dX6_bestPart_58 : decode cX6_bestPart 58 = .ok (.invokevirtual 58, 3) := by decide +kernel
theorem dX6_bestPart_61 : decode cX6_bestPart 61 = .ok (.lconst 0, 1) := by decide +kernel
theorem dX6_bestPart_62 : decode cX6_bestPart 62 = .ok (.lstore 8, 2) := by decide +kernel
theorem dX6_bestPart_64 : decode cX6_bestPart 64 = .ok (.iconst 0, 1) := by decide +kernel
theorem dX6_bestPart_65 : decode cX6_bestPart 65 = .ok (.istore 10, 2) := by decide +kernel
theorem dX6_bestPart_67 : decode cX6_bestPart 67 = .ok (.iload 6, 2) := by decide +kernel
theorem dX6_bestPart_69 : decode cX6_bestPart 69 = .ok (.istore 11, 2) := by decide +kernel
theorem dX6_bestPart_71 : decode cX6_bestPart 71 = .ok (.iload 11, 2) := by decide +kernel
theorem dX6_bestPart_73 : decode cX6_bestPart 73 = .ok (.iload 7, 2) := by decide +kernel
theorem dX6_bestPart_75 : decode cX6_bestPart 75 = .ok (.if_icmp .gt 72, 3) := by decide +kernel
theorem dX6_bestPart_78 : decode cX6_bestPart 78 = .ok (.aload_n 0, 1) := by decide +kernel
theorem dX6_bestPart_79 : decode cX6_bestPart 79 = .ok (.iload 11, 2) := by decide +kernel
theorem dX6_bestPart_81 : decode cX6_bestPart 81 = .ok (.invokevirtual 86, 3) := by decide +kernel
theorem dX6_bestPart_84 : decode cX6_bestPart 84 = .ok (.lstore 12, 2) := by decide +kernel
theorem dX6_bestPart_86 : decode cX6_bestPart 86 = .ok (.lload 12, 2) := by decide +kernel
theorem dX6_bestPart_88 : decode cX6_bestPart 88 = .ok (.lconst 0, 1) := by decide +kernel
theorem dX6_bestPart_89 : decode cX6_bestPart 89 = .ok (.lcmp, 1) := by decide +kernel
theorem dX6_bestPart_90 : decode cX6_bestPart 90 = .ok (.ifCond .eq 51, 3) := by decide +kernel
theorem dX6_bestPart_93 : decode cX6_bestPart 93 = .ok (.lload 12, 2) := by decide +kernel
theorem dX6_bestPart_95 : decode cX6_bestPart 95 = .ok (.iload 11, 2) := by decide +kernel
theorem dX6_bestPart_97 : decode cX6_bestPart 97 = .ok (.iload 6, 2) := by decide +kernel
theorem dX6_bestPart_99 : decode cX6_bestPart 99 = .ok (.isub, 1) := by decide +kernel
theorem dX6_bestPart_100 : decode cX6_bestPart 100 = .ok (.i2l, 1) := by decide +kernel
theorem dX6_bestPart_101 : decode cX6_bestPart 101 = .ok (.aload_n 0, 1) := by decide +kernel
theorem dX6_bestPart_102 : decode cX6_bestPart 102 = .ok (.getfield 77, 3) := by decide +kernel
theorem dX6_bestPart_105 : decode cX6_bestPart 105 = .ok (.ifCond .eq 8, 3) := by decide +kernel
theorem dX6_bestPart_108 : decode cX6_bestPart 108 = .ok (.bipush 20, 2) := by decide +kernel
theorem dX6_bestPart_110 : decode cX6_bestPart 110 = .ok (.goto 4, 3) := by decide +kernel
theorem dX6_bestPart_113 : decode cX6_bestPart 113 = .ok (.iconst 1, 1) := by decide +kernel
theorem dX6_bestPart_114 : decode cX6_bestPart 114 = .ok (.i2l, 1) := by decide +kernel
theorem dX6_bestPart_115 : decode cX6_bestPart 115 = .ok (.lmul, 1) := by decide +kernel
theorem dX6_bestPart_116 : decode cX6_bestPart 116 = .ok (.bipush 53, 2) := by decide +kernel
theorem dX6_bestPart_118 : decode cX6_bestPart 118 = .ok (.lshl, 1) := by decide +kernel
theorem dX6_bestPart_119 : decode cX6_bestPart 119 = .ok (.ladd, 1) := by decide +kernel
theorem dX6_bestPart_120 : decode cX6_bestPart 120 = .ok (.lstore 12, 2) := by decide +kernel
theorem dX6_bestPart_122 : decode cX6_bestPart 122 = .ok (.lload 12, 2) := by decide +kernel
theorem dX6_bestPart_124 : decode cX6_bestPart 124 = .ok (.lload 8, 2) := by decide +kernel
theorem dX6_bestPart_126 : decode cX6_bestPart 126 = .ok (.lcmp, 1) := by decide +kernel
theorem dX6_bestPart_127 : decode cX6_bestPart 127 = .ok (.ifCond .le 14, 3) := by decide +kernel
theorem dX6_bestPart_130 : decode cX6_bestPart 130 = .ok (.lload 12, 2) := by decide +kernel
theorem dX6_bestPart_132 : decode cX6_bestPart 132 = .ok (.lstore 8, 2) := by decide +kernel
theorem dX6_bestPart_134 : decode cX6_bestPart 134 = .ok (.iload 11, 2) := by decide +kernel
theorem dX6_bestPart_136 : decode cX6_bestPart 136 = .ok (.iload 6, 2) := by decide +kernel
theorem dX6_bestPart_138 : decode cX6_bestPart 138 = .ok (.isub, 1) := by decide +kernel
theorem dX6_bestPart_139 : decode cX6_bestPart 139 = .ok (.istore 10, 2) := by decide +kernel
theorem dX6_bestPart_141 : decode cX6_bestPart 141 = .ok (.iinc 11 1, 3) := by decide +kernel
theorem dX6_bestPart_144 : decode cX6_bestPart 144 = .ok (.goto (-73), 3) := by decide +kernel
theorem dX6_bestPart_147 : decode cX6_bestPart 147 = .ok (.lload 8, 2) := by decide +kernel
theorem dX6_bestPart_149 : decode cX6_bestPart 149 = .ok (.lconst 0, 1) := by decide +kernel
theorem dX6_bestPart_150 : decode cX6_bestPart 150 = .ok (.lcmp, 1) := by decide +kernel
theorem dX6_bestPart_151 : decode cX6_bestPart 151 = .ok (.ifCond .ne 9, 3) := by decide +kernel
theorem dX6_bestPart_154 : decode cX6_bestPart 154 = .ok (.ldc2_w 90, 3) := by decide +kernel
theorem dX6_bestPart_157 : decode cX6_bestPart 157 = .ok (.goto 16, 3) := by decide +kernel
theorem dX6_bestPart_160 : decode cX6_bestPart 160 = .ok (.aload_n 0, 1) := by decide +kernel
theorem dX6_bestPart_161 : decode cX6_bestPart 161 = .ok (.lload 8, 2) := by decide +kernel
theorem dX6_bestPart_163 : decode cX6_bestPart 163 = .ok (.invokevirtual 92, 3) := by decide +kernel
theorem dX6_bestPart_166 : decode cX6_bestPart 166 = .ok (.aload_n 0, 1) := by decide +kernel
theorem dX6_bestPart_167 : decode cX6_bestPart 167 = .ok (.iload 10, 2) := by decide +kernel
theorem dX6_bestPart_169 : decode cX6_bestPart 169 = .ok (.invokevirtual 96, 3) := by decide +kernel
theorem dX6_bestPart_172 : decode cX6_bestPart 172 = .ok (.lor, 1) := by decide +kernel
theorem dX6_bestPart_173 : decode cX6_bestPart 173 = .ok (.lreturn, 1) := by decide +kernel
set_option maxRecDepth 20000 in
theorem ggX6_greatestAtEnd_X5_mayEnd : GoodIn wsX6_greatestAtEnd wsX5_mayEnd := goodIn_r _ [9] (by decide +kernel) (by decide +kernel)
set_option maxRecDepth 20000 in
theorem gX6_greatestAtEnd_X5_mayEnd : GoodIn wsX6_greatestAtEnd (va_wsS RX6 69 yX5_mayEnd wsX5_mayEnd) := goodIn_app (goodIn_of _ (by decide +kernel)) ggX6_greatestAtEnd_X5_mayEnd
set_option maxRecDepth 20000 in
theorem ggX6_greatestAtEnd_X3_at : GoodIn wsX6_greatestAtEnd wsX3_at := goodIn_r _ [14, 15, 16, 17, 13, 18, 32, 33, 34, 35] (by decide +kernel) (by decide +kernel)
set_option maxRecDepth 20000 in
theorem gX6_greatestAtEnd_X3_at : GoodIn wsX6_greatestAtEnd (wsV RX6 73 RX3 yX3_at wsX3_at) := goodIn_app (goodIn_of _ (by decide +kernel)) ggX6_greatestAtEnd_X3_at
theorem dX6_greatestAtEnd_0 : decode cX6_greatestAtEnd 0 = .ok (.lconst 0, 1) := by decide +kernel
theorem dX6_greatestAtEnd_1 : decode cX6_greatestAtEnd 1 = .ok (.lstore_n 2, 1) := by decide +kernel
theorem dX6_greatestAtEnd_2 : decode cX6_greatestAtEnd 2 = .ok (.iconst 0, 1) := by decide +kernel
theorem dX6_greatestAtEnd_3 : decode cX6_greatestAtEnd 3 = .ok (.istore 4, 2) := by decide +kernel
theorem dX6_greatestAtEnd_5 : decode cX6_greatestAtEnd 5 = .ok (.iload 4, 2) := by decide +kernel
theorem dX6_greatestAtEnd_7 : decode cX6_greatestAtEnd 7 = .ok (.aload_n 0, 1) := by decide +kernel
theorem dX6_greatestAtEnd_8 : decode cX6_greatestAtEnd 8 = .ok (.getfield 28, 3) := by decide +kernel
theorem dX6_greatestAtEnd_11 : decode cX6_greatestAtEnd 11 = .ok (.getfield 62, 3) := by decide +kernel
theorem dX6_greatestAtEnd_14 : decode cX6_greatestAtEnd 14 = .ok (.if_icmp .ge 48, 3) := by decide +kernel
theorem dX6_greatestAtEnd_17 : decode cX6_greatestAtEnd 17 = .ok (.aload_n 0, 1) := by decide +kernel
theorem dX6_greatestAtEnd_18 : decode cX6_greatestAtEnd 18 = .ok (.getfield 28, 3) := by decide +kernel
theorem dX6_greatestAtEnd_21 : decode cX6_greatestAtEnd 21 = .ok (.getfield 66, 3) := by decide +kernel
theorem dX6_greatestAtEnd_24 : decode cX6_greatestAtEnd 24 = .ok (.iload 4, 2) := by decide +kernel
theorem dX6_greatestAtEnd_26 : decode cX6_greatestAtEnd 26 = .ok (.iaload, 1) := by decide +kernel
theorem dX6_greatestAtEnd_27 : decode cX6_greatestAtEnd 27 = .ok (.invokestatic 69, 3) := by decide +kernel
theorem dX6_greatestAtEnd_30 : decode cX6_greatestAtEnd 30 = .ok (.ifCond .eq 26, 3) := by decide +kernel
theorem dX6_greatestAtEnd_33 : decode cX6_greatestAtEnd 33 = .ok (.lload_n 2, 1) := by decide +kernel
theorem dX6_greatestAtEnd_34 : decode cX6_greatestAtEnd 34 = .ok (.aload_n 0, 1) := by decide +kernel
theorem dX6_greatestAtEnd_35 : decode cX6_greatestAtEnd 35 = .ok (.getfield 28, 3) := by decide +kernel
theorem dX6_greatestAtEnd_38 : decode cX6_greatestAtEnd 38 = .ok (.aload_n 0, 1) := by decide +kernel
theorem dX6_greatestAtEnd_39 : decode cX6_greatestAtEnd 39 = .ok (.getfield 28, 3) := by decide +kernel
theorem dX6_greatestAtEnd_42 : decode cX6_greatestAtEnd 42 = .ok (.getfield 66, 3) := by decide +kernel
theorem dX6_greatestAtEnd_45 : decode cX6_greatestAtEnd 45 = .ok (.iload 4, 2) := by decide +kernel
theorem dX6_greatestAtEnd_47 : decode cX6_greatestAtEnd 47 = .ok (.iaload, 1) := by decide +kernel
theorem dX6_greatestAtEnd_48 : decode cX6_greatestAtEnd 48 = .ok (.iload_n 1, 1) := by decide +kernel
theorem dX6_greatestAtEnd_49 : decode cX6_greatestAtEnd 49 = .ok (.invokevirtual 73, 3) := by decide +kernel
theorem dX6_greatestAtEnd_52 : decode cX6_greatestAtEnd 52 = .ok (.invokestatic 99, 3) := by decide +kernel
theorem dX6_greatestAtEnd_55 : decode cX6_greatestAtEnd 55 = .ok (.lstore_n 2, 1) := by decide +kernel
theorem dX6_greatestAtEnd_56 : decode cX6_greatestAtEnd 56 = .ok (.iinc 4 1, 3) := by decide +kernel
theorem dX6_greatestAtEnd_59 : decode cX6_greatestAtEnd 59 = .ok (.goto (-54), 3) := by decide +kernel
theorem dX6_greatestAtEnd_62 : decode cX6_greatestAtEnd 62 = .ok (.lload_n 2, 1) := by decide +kernel
theorem dX6_greatestAtEnd_63 : decode cX6_greatestAtEnd 63 = .ok (.lreturn, 1) := by decide +kernel
theorem dX6_cardsOfKey_0 : decode cX6_cardsOfKey 0 = .ok (.lconst 0, 1) := by decide +kernel
theorem dX6_cardsOfKey_1 : decode cX6_cardsOfKey 1 = .ok (.lstore_n 3, 1) := by decide +kernel
theorem dX6_cardsOfKey_2 : decode cX6_cardsOfKey 2 = .ok (.iconst 0, 1) := by decide +kernel
theorem dX6_cardsOfKey_3 : decode cX6_cardsOfKey 3 = .ok (.istore 5, 2) := by decide +kernel
theorem dX6_cardsOfKey_5 : decode cX6_cardsOfKey 5 = .ok (.iload 5, 2) := by decide +kernel
theorem dX6_cardsOfKey_7 : decode cX6_cardsOfKey 7 = .ok (.bipush 52, 2) := by decide +kernel
theorem dX6_cardsOfKey_9 : decode cX6_cardsOfKey 9 = .ok (.if_icmp .ge 24, 3) := by decide +kernel
theorem dX6_cardsOfKey_12 : decode cX6_cardsOfKey 12 = .ok (.lload_n 3, 1) := by decide +kernel
theorem dX6_cardsOfKey_13 : decode cX6_cardsOfKey 13 = .ok (.lload_n 1, 1) := by decide +kernel
theorem dX6_cardsOfKey_14 : decode cX6_cardsOfKey 14 = .ok (.bipush 52, 2) := by decide +kernel
theorem dX6_cardsOfKey_16 : decode cX6_cardsOfKey 16 = .ok (.iload 5, 2) := by decide +kernel
theorem dX6_cardsOfKey_18 : decode cX6_cardsOfKey 18 = .ok (.isub, 1) := by decide +kernel
theorem dX6_cardsOfKey_19 : decode cX6_cardsOfKey 19 = .ok (.lushr, 1) := by decide +kernel
theorem dX6_cardsOfKey_20 : decode cX6_cardsOfKey 20 = .ok (.lconst 1, 1) := by decide +kernel
theorem dX6_cardsOfKey_21 : decode cX6_cardsOfKey 21 = .ok (.land, 1) := by decide +kernel
theorem dX6_cardsOfKey_22 : decode cX6_cardsOfKey 22 = .ok (.iload 5, 2) := by decide +kernel
theorem dX6_cardsOfKey_24 : decode cX6_cardsOfKey 24 = .ok (.lshl, 1) := by decide +kernel
theorem dX6_cardsOfKey_25 : decode cX6_cardsOfKey 25 = .ok (.lor, 1) := by decide +kernel
theorem dX6_cardsOfKey_26 : decode cX6_cardsOfKey 26 = .ok (.lstore_n 3, 1) := by decide +kernel
theorem dX6_cardsOfKey_27 : decode cX6_cardsOfKey 27 = .ok (.iinc 5 1, 3) := by decide +kernel
theorem dX6_cardsOfKey_30 : decode cX6_cardsOfKey 30 = .ok (.goto (-25), 3) := by decide +kernel
theorem dX6_cardsOfKey_33 : decode cX6_cardsOfKey 33 = .ok (.lload_n 3, 1) := by decide +kernel
theorem dX6_cardsOfKey_34 : decode cX6_cardsOfKey 34 = .ok (.lreturn, 1) := by decide +kernel
end
section
theorem dX6_firstJokers_0 : decode cX6_firstJokers 0 = .ok (.lconst 0, 1) := by decide +kernel
theorem dX6_firstJokers_1 : decode cX6_firstJokers 1 = .ok (.lstore_n 2, 1) := by decide +kernel
theorem dX6_firstJokers_2 : decode cX6_firstJokers 2 = .ok (.iload_n 1, 1) := by decide +kernel
theorem dX6_firstJokers_3 : decode cX6_firstJokers 3 = .ok (.istore 4, 2) := by decide +kernel
theorem dX6_firstJokers_5 : decode cX6_firstJokers 5 = .ok (.bipush 52, 2) := by decide +kernel
theorem dX6_firstJokers_7 : decode cX6_firstJokers 7 = .ok (.istore 5, 2) := by decide +kernel
theorem dX6_firstJokers_9 : decode cX6_firstJokers 9 = .ok (.iload 5, 2) := by decide +kernel
theorem dX6_firstJokers_11 : decode cX6_firstJokers 11 = .ok (.bipush 54, 2) := by decide +kernel
theorem dX6_firstJokers_13 : decode cX6_firstJokers 13 = .ok (.if_icmp .ge 38, 3) := by decide +kernel
theorem dX6_firstJokers_16 : decode cX6_firstJokers 16 = .ok (.iload 4, 2) := by decide +kernel
theorem dX6_firstJokers_18 : decode cX6_firstJokers 18 = .ok (.ifCond .le 33, 3) := by decide +kernel
theorem dX6_firstJokers_21 : decode cX6_firstJokers 21 = .ok (.aload_n 0, 1) := by decide +kernel
theorem dX6_firstJokers_22 : decode cX6_firstJokers 22 = .ok (.getfield 45, 3) := by decide +kernel
theorem dX6_firstJokers_25 : decode cX6_firstJokers 25 = .ok (.iload 5, 2) := by decide +kernel
theorem dX6_firstJokers_27 : decode cX6_firstJokers 27 = .ok (.lushr, 1) := by decide +kernel
theorem dX6_firstJokers_28 : decode cX6_firstJokers 28 = .ok (.lconst 1, 1) := by decide +kernel
theorem dX6_firstJokers_29 : decode cX6_firstJokers 29 = .ok (.land, 1) := by decide +kernel
theorem dX6_firstJokers_30 : decode cX6_firstJokers 30 = .ok (.lconst 0, 1) := by decide +kernel
theorem dX6_firstJokers_31 : decode cX6_firstJokers 31 = .ok (.lcmp, 1) := by decide +kernel
theorem dX6_firstJokers_32 : decode cX6_firstJokers 32 = .ok (.ifCond .eq 13, 3) := by decide +kernel
theorem dX6_firstJokers_35 : decode cX6_firstJokers 35 = .ok (.lload_n 2, 1) := by decide +kernel
theorem dX6_firstJokers_36 : decode cX6_firstJokers 36 = .ok (.lconst 1, 1) := by decide +kernel
theorem dX6_firstJokers_37 : decode cX6_firstJokers 37 = .ok (.iload 5, 2) := by decide +kernel
theorem dX6_firstJokers_39 : decode cX6_firstJokers 39 = .ok (.lshl, 1) := by decide +kernel
theorem dX6_firstJokers_40 : decode cX6_firstJokers 40 = .ok (.lor, 1) := by decide +kernel
theorem dX6_firstJokers_41 : decode cX6_firstJokers 41 = .ok (.lstore_n 2, 1) := by decide +kernel
theorem dX6_firstJokers_42 : decode cX6_firstJokers 42 = .ok (.iinc 4 (-1), 3) := by decide +kernel
theorem dX6_firstJokers_45 : decode cX6_firstJokers 45 = .ok (.iinc 5 1, 3) := by decide +kernel
theorem dX6_firstJokers_48 : decode cX6_firstJokers 48 = .ok (.goto (-39), 3) := by decide +kernel
theorem dX6_firstJokers_51 : decode cX6_firstJokers 51 = .ok (.lload_n 2, 1) := by decide +kernel
theorem dX6_firstJokers_52 : decode cX6_firstJokers 52 = .ok (.lreturn, 1) := by decide +kernel
set_option maxRecDepth 20000 in
theorem ggX6_goThrough_X3_clear : GoodIn wsX6_goThrough wsX3_clear := goodIn_r _ [12, 13, 14, 15, 16, 111, 112, 113, 114] (by decide +kernel) (by decide +kernel)
set_option maxRecDepth 20000 in
theorem gX6_goThrough_X3_clear : GoodIn wsX6_goThrough (wsV RX6 106 RX3 yX3_clear wsX3_clear) := goodIn_app (goodIn_of _ (by decide +kernel)) ggX6_goThrough_X3_clear
set_option maxRecDepth 20000 in
theorem ggX6_goThrough_X3_put : GoodIn wsX6_goThrough wsX3_put := goodIn_r _ [20, 15, 13, 14, 16, 21, 22, 11, 23, 111, 112, 113, 114] (by decide +kernel) (by decide +kernel)
set_option maxRecDepth 20000 in
theorem gX6_goThrough_X3_put : GoodIn wsX6_goThrough (wsV RX6 109 RX3 yX3_put wsX3_put) := goodIn_app (goodIn_of _ (by decide +kernel)) ggX6_goThrough_X3_put
set_option maxRecDepth 20000 in
theorem ggX6_goThrough_X6_gatherFitting : GoodIn wsX6_goThrough wsX6_gatherFitting := goodIn_r _ [28, 29, 30, 31, 32, 33, 34, 5, 35, 36, 37, 38, 39, 40, 41, 42, 43, 44, 2, 3, 4, 45, 46, 47, 48, 49, 50, 51, 52, 53, 54, 55, 56, 57, 58, 27, 59, 60, 61, 62, 63, 64, 65, 66, 67, 68, 69, 70, 71, 98, 99, 100, 101, 102, 103, 104, 105, 106, 107, 108, 109, 110] (by decide +kernel) (by decide +kernel)
set_option maxRecDepth 20000 in
theorem gX6_goThrough_X6_gatherFitting : GoodIn wsX6_goThrough (wsV RX6 113 RX6 yX6_gatherFitting wsX6_gatherFitting) := goodIn_app (goodIn_of _ (by decide +kernel)) ggX6_goThrough_X6_gatherFitting
set_option maxRecDepth 20000 in
theorem ggX6_goThrough_X6_goOnFrom : GoodIn wsX6_goThrough wsX6_goOnFrom := goodIn_r _ [75, 36, 35, 76, 77, 47, 78, 79, 80, 81, 82, 70, 71, 83, 84, 85, 86, 87, 88, 27, 89, 5, 6, 60, 7, 90, 91, 92, 3, 93, 94, 95, 96, 11, 97, 16, 21, 22, 23, 17, 18, 19, 20, 15, 13, 14, 98, 99, 100, 101, 102, 103, 104, 105, 106, 107, 108, 109, 110, 111, 112, 113, 114] (by decide +kernel) (by decide +kernel)
set_option maxRecDepth 20000 in
theorem gX6_goThrough_X6_goOnFrom : GoodIn wsX6_goThrough (wsV RX6 116 RX6 yX6_goOnFrom wsX6_goOnFrom) := goodIn_app (goodIn_of _ (by decide +kernel)) ggX6_goThrough_X6_goOnFrom
theorem dX6_goThrough_0 : decode cX6_goThrough 0 = .ok (.aload_n 0, 1) := by decide +kernel
theorem dX6_goThrough_1 : decode cX6_goThrough 1 = .ok (.iload_n 1, 1) := by decide +kernel
theorem dX6_goThrough_2 : decode cX6_goThrough 2 = .ok (.iconst 2, 1) := by decide +kernel
theorem dX6_goThrough_3 : decode cX6_goThrough 3 = .ok (.invokestatic 80, 3) := by decide +kernel
theorem dX6_goThrough_6 : decode cX6_goThrough 6 = .ok (.putfield 103, 3) := by decide +kernel
theorem dX6_goThrough_9 : decode cX6_goThrough 9 = .ok (.aload_n 0, 1) := by decide +kernel
theorem dX6_goThrough_10 : decode cX6_goThrough 10 = .ok (.getfield 28, 3) := by decide +kernel
theorem dX6_goThrough_13 : decode cX6_goThrough 13 = .ok (.invokevirtual 106, 3) := by decide +kernel
theorem dX6_goThrough_16 : decode cX6_goThrough 16 = .ok (.aload_n 0, 1) := by decide +kernel
theorem dX6_goThrough_17 : decode cX6_goThrough 17 = .ok (.getfield 28, 3) := by decide +kernel
theorem dX6_goThrough_20 : decode cX6_goThrough 20 = .ok (.iconst 0, 1) := by decide +kernel
theorem dX6_goThrough_21 : decode cX6_goThrough 21 = .ok (.iconst 0, 1) := by decide +kernel
theorem dX6_goThrough_22 : decode cX6_goThrough 22 = .ok (.lconst 1, 1) := by decide +kernel
theorem dX6_goThrough_23 : decode cX6_goThrough 23 = .ok (.invokevirtual 109, 3) := by decide +kernel
theorem dX6_goThrough_26 : decode cX6_goThrough 26 = .ok (.iconst 0, 1) := by decide +kernel
theorem dX6_goThrough_27 : decode cX6_goThrough 27 = .ok (.istore_n 2, 1) := by decide +kernel
theorem dX6_goThrough_28 : decode cX6_goThrough 28 = .ok (.iload_n 2, 1) := by decide +kernel
theorem dX6_goThrough_29 : decode cX6_goThrough 29 = .ok (.bipush 13, 2) := by decide +kernel
theorem dX6_goThrough_31 : decode cX6_goThrough 31 = .ok (.if_icmp .ge 71, 3) := by decide +kernel
theorem dX6_goThrough_34 : decode cX6_goThrough 34 = .ok (.aload_n 0, 1) := by decide +kernel
theorem dX6_goThrough_35 : decode cX6_goThrough 35 = .ok (.iload_n 2, 1) := by decide +kernel
theorem dX6_goThrough_36 : decode cX6_goThrough 36 = .ok (.invokevirtual 113, 3) := by decide +kernel
theorem dX6_goThrough_39 : decode cX6_goThrough 39 = .ok (.aload_n 0, 1) := by decide +kernel
theorem dX6_goThrough_40 : decode cX6_goThrough 40 = .ok (.getfield 32, 3) := by decide +kernel
theorem dX6_goThrough_43 : decode cX6_goThrough 43 = .ok (.invokevirtual 106, 3) := by decide +kernel
theorem dX6_goThrough_46 : decode cX6_goThrough 46 = .ok (.iconst 0, 1) := by decide +kernel
theorem dX6_goThrough_47 : decode cX6_goThrough 47 = .ok (.istore_n 3, 1) := by decide +kernel
theorem dX6_goThrough_48 : decode cX6_goThrough 48 = .ok (.iload_n 3, 1) := by decide +kernel
theorem dX6_goThrough_49 : decode cX6_goThrough 49 = .ok (.aload_n 0, 1) := by decide +kernel
theorem dX6_goThrough_50 : decode cX6_goThrough 50 = .ok (.getfield 28, 3) := by decide +kernel
theorem dX6_goThrough_53 : decode cX6_goThrough 53 = .ok (.getfield 62, 3) := by decide +kernel
theorem dX6_goThrough_56 : decode cX6_goThrough 56 = .ok (.if_icmp .ge 22, 3) := by decide +kernel
theorem dX6_goThrough_59 : decode cX6_goThrough 59 = .ok (.aload_n 0, 1) := by decide +kernel
theorem dX6_goThrough_60 : decode cX6_goThrough 60 = .ok (.aload_n 0, 1) := by decide +kernel
theorem dX6_goThrough_61 : decode cX6_goThrough 61 = .ok (.getfield 28, 3) := by decide +kernel
theorem dX6_goThrough_64 : decode cX6_goThrough 64 = .ok (.getfield 66, 3) := by decide +kernel
theorem dX6_goThrough_67 : decode cX6_goThrough 67 = .ok (.iload_n 3, 1) := by decide +kernel
theorem dX6_goThrough_68 : decode cX6_goThrough 68 = .ok (.iaload, 1) := by decide +kernel
theorem dX6_goThrough_69 : decode cX6_goThrough 69 = .ok (.invokevirtual 116, 3) := by decide +kernel
theorem dX6_goThrough_72 : decode cX6_goThrough 72 = .ok (.iinc 3 1, 3) := by decide +kernel
theorem dX6_goThrough_75 : decode cX6_goThrough 75 = .ok (.goto (-27), 3) := by decide +kernel
theorem dX6_goThrough_78 : decode cX6_goThrough 78 = .ok (.aload_n 0, 1) := by decide +kernel
theorem dX6_goThrough_79 : decode cX6_goThrough 79 = .ok (.getfield 28, 3) := by decide +kernel
theorem dX6_goThrough_82 : decode cX6_goThrough 82 = .ok (.astore_n 3, 1) := by decide +kernel
theorem dX6_goThrough_83 : decode cX6_goThrough 83 = .ok (.aload_n 0, 1) := by decide +kernel
theorem dX6_goThrough_84 : decode cX6_goThrough 84 = .ok (.aload_n 0, 1) := by decide +kernel
theorem dX6_goThrough_85 : decode cX6_goThrough 85 = .ok (.getfield 32, 3) := by decide +kernel
theorem dX6_goThrough_88 : decode cX6_goThrough 88 = .ok (.putfield 28, 3) := by decide +kernel
theorem dX6_goThrough_91 : decode cX6_goThrough 91 = .ok (.aload_n 0, 1) := by decide +kernel
theorem dX6_goThrough_92 : decode cX6_goThrough 92 = .ok (.aload_n 3, 1) := by decide +kernel
theorem dX6_goThrough_93 : decode cX6_goThrough 93 = .ok (.putfield 32, 3) := by decide +kernel
theorem dX6_goThrough_96 : decode cX6_goThrough 96 = .ok (.iinc 2 1, 3) := by decide +kernel
theorem dX6_goThrough_99 : decode cX6_goThrough 99 = .ok (.goto (-71), 3) := by decide +kernel
theorem dX6_goThrough_102 : decode cX6_goThrough 102 = .ok (.return_, 1) := by decide +kernel
set_option maxRecDepth 20000 in
theorem ggX6_goOnFrom_X5_canContinue : GoodIn wsX6_goOnFrom wsX5_canContinue := goodIn_r _ [6] (by decide +kernel) (by decide +kernel)
set_option maxRecDepth 20000 in
theorem gX6_goOnFrom_X5_canContinue : GoodIn wsX6_goOnFrom (va_wsS RX6 119 yX5_canContinue wsX5_canContinue) := goodIn_app (goodIn_of _ (by decide +kernel)) ggX6_goOnFrom_X5_canContinue
set_option maxRecDepth 20000 in
theorem ggX6_goOnFrom_X5_stateAfter : GoodIn wsX6_goOnFrom wsX5_stateAfter := goodIn_r _ [9, 10, 11, 5, 12, 13, 14, 15] (by decide +kernel) (by decide +kernel)
set_option maxRecDepth 20000 in
theorem gX6_goOnFrom_X5_stateAfter : GoodIn wsX6_goOnFrom (va_wsS RX6 123 yX5_stateAfter wsX5_stateAfter) := goodIn_app (goodIn_of _ (by decide +kernel)) ggX6_goOnFrom_X5_stateAfter
set_option maxRecDepth 20000 in
theorem ggX6_goOnFrom_X6_carry : GoodIn wsX6_goOnFrom wsX6_carry := goodIn_r _ [20, 21, 22, 23, 24, 25, 26, 27, 28, 29, 30, 31, 32, 33, 34, 35, 36, 37, 38, 39, 40, 41, 42, 43, 44, 45, 46, 47, 48, 49, 50, 51, 52, 53, 54, 55, 56, 57, 58, 59, 60, 61, 62] (by decide +kernel) (by decide +kernel)
set_option maxRecDepth 20000 in
theorem gX6_goOnFrom_X6_carry : GoodIn wsX6_goOnFrom (wsV RX6 126 RX6 yX6_carry wsX6_carry) := goodIn_app (goodIn_of _ (by decide +kernel)) ggX6_goOnFrom_X6_carry
theorem dX6_goOnFrom_0 : decode cX6_goOnFrom 0 = .ok (.iconst 0, 1) := by decide +kernel
theorem dX6_goOnFrom_1 : decode cX6_goOnFrom 1 = .ok (.istore_n 2, 1) := by decide +kernel
theorem dX6_goOnFrom_2 : decode cX6_goOnFrom 2 = .ok (.iload_n 2, 1) := by decide +kernel
theorem dX6_goOnFrom_3 : decode cX6_goOnFrom 3 = .ok (.bipush 15, 2) := by decide +kernel
theorem dX6_goOnFrom_5 : decode cX6_goOnFrom 5 = .ok (.if_icmp .gt 58, 3) := by decide +kernel
theorem dX6_goOnFrom_8 : decode cX6_goOnFrom 8 = .ok (.iload_n 1, 1) := by decide +kernel
theorem dX6_goOnFrom_9 : decode cX6_goOnFrom 9 = .ok (.iload_n 2, 1) := by decide +kernel
theorem dX6_goOnFrom_10 : decode cX6_goOnFrom 10 = .ok (.invokestatic 119, 3) := by decide +kernel
theorem dX6_goOnFrom_13 : decode cX6_goOnFrom 13 = .ok (.ifCond .eq 44, 3) := by decide +kernel
theorem dX6_goOnFrom_16 : decode cX6_goOnFrom 16 = .ok (.aload_n 0, 1) := by decide +kernel
theorem dX6_goOnFrom_17 : decode cX6_goOnFrom 17 = .ok (.getfield 18, 3) := by decide +kernel
theorem dX6_goOnFrom_20 : decode cX6_goOnFrom 20 = .ok (.iload_n 2, 1) := by decide +kernel
theorem dX6_goOnFrom_21 : decode cX6_goOnFrom 21 = .ok (.iaload, 1) := by decide +kernel
theorem dX6_goOnFrom_22 : decode cX6_goOnFrom 22 = .ok (.istore_n 3, 1) := by decide +kernel
theorem dX6_goOnFrom_23 : decode cX6_goOnFrom 23 = .ok (.iload_n 3, 1) := by decide +kernel
theorem dX6_goOnFrom_24 : decode cX6_goOnFrom 24 = .ok (.aload_n 0, 1) := by decide +kernel
theorem dX6_goOnFrom_25 : decode cX6_goOnFrom 25 = .ok (.getfield 18, 3) := by decide +kernel
theorem dX6_goOnFrom_28 : decode cX6_goOnFrom 28 = .ok (.iload_n 2, 1) := by decide +kernel
theorem dX6_goOnFrom_29 : decode cX6_goOnFrom 29 = .ok (.iconst 1, 1) := by decide +kernel
theorem dX6_goOnFrom_30 : decode cX6_goOnFrom 30 = .ok (.iadd, 1) := by decide +kernel
theorem dX6_goOnFrom_31 : decode cX6_goOnFrom 31 = .ok (.iaload, 1) := by decide +kernel
theorem dX6_goOnFrom_32 : decode cX6_goOnFrom 32 = .ok (.if_icmp .ge 25, 3) := by decide +kernel
theorem dX6_goOnFrom_35 : decode cX6_goOnFrom 35 = .ok (.aload_n 0, 1) := by decide +kernel
theorem dX6_goOnFrom_36 : decode cX6_goOnFrom 36 = .ok (.iload_n 1, 1) := by decide +kernel
theorem dX6_goOnFrom_37 : decode cX6_goOnFrom 37 = .ok (.iload_n 1, 1) := by decide +kernel
theorem dX6_goOnFrom_38 : decode cX6_goOnFrom 38 = .ok (.aload_n 0, 1) := by decide +kernel
theorem dX6_goOnFrom_39 : decode cX6_goOnFrom 39 = .ok (.getfield 15, 3) := by decide +kernel
theorem dX6_goOnFrom_42 : decode cX6_goOnFrom 42 = .ok (.iload_n 3, 1) := by decide +kernel
theorem dX6_goOnFrom_43 : decode cX6_goOnFrom 43 = .ok (.iaload, 1) := by decide +kernel
theorem dX6_goOnFrom_44 : decode cX6_goOnFrom 44 = .ok (.invokestatic 123, 3) := by decide +kernel
theorem dX6_goOnFrom_47 : decode cX6_goOnFrom 47 = .ok (.iload_n 3, 1) := by decide +kernel
theorem dX6_goOnFrom_48 : decode cX6_goOnFrom 48 = .ok (.invokevirtual 126, 3) := by decide +kernel
theorem dX6_goOnFrom_51 : decode cX6_goOnFrom 51 = .ok (.iinc 3 1, 3) := by decide +kernel
theorem dX6_goOnFrom_54 : decode cX6_goOnFrom 54 = .ok (.goto (-31), 3) := by decide +kernel
theorem dX6_goOnFrom_57 : decode cX6_goOnFrom 57 = .ok (.iinc 2 1, 3) := by decide +kernel
theorem dX6_goOnFrom_60 : decode cX6_goOnFrom 60 = .ok (.goto (-58), 3) := by decide +kernel
theorem dX6_goOnFrom_63 : decode cX6_goOnFrom 63 = .ok (.return_, 1) := by decide +kernel
set_option maxRecDepth 20000 in
theorem ggX6_carry_X3_at : GoodIn wsX6_carry wsX3_at := goodIn_r _ [14, 15, 16, 17, 13, 18, 39, 40, 41, 42] (by decide +kernel) (by decide +kernel)
set_option maxRecDepth 20000 in
theorem gX6_carry_X3_at : GoodIn wsX6_carry (wsV RX6 73 RX3 yX3_at wsX3_at) := goodIn_app (goodIn_of _ (by decide +kernel)) ggX6_carry_X3_at
set_option maxRecDepth 20000 in
theorem ggX6_carry_X3_put : GoodIn wsX6_carry wsX3_put := goodIn_r _ [22, 23, 24, 25, 15, 16, 17, 13, 18, 39, 40, 41, 42] (by decide +kernel) (by decide +kernel)
set_option maxRecDepth 20000 in
theorem gX6_carry_X3_put : GoodIn wsX6_carry (wsV RX6 109 RX3 yX3_put wsX3_put) := goodIn_app (goodIn_of _ (by decide +kernel)) ggX6_carry_X3_put
theorem dX6_carry_0 : decode cX6_carry 0 = .ok (.iconst 0, 1) := by decide +kernel
theorem dX6_carry_1 : decode cX6_carry 1 = .ok (.istore 4, 2) := by decide +kernel
theorem dX6_carry_3 : decode cX6_carry 3 = .ok (.iload 4, 2) := by decide +kernel
theorem dX6_carry_5 : decode cX6_carry 5 = .ok (.aload_n 0, 1) := by decide +kernel
theorem dX6_carry_6 : decode cX6_carry 6 = .ok (.getfield 103, 3) := by decide +kernel
theorem dX6_carry_9 : decode cX6_carry 9 = .ok (.if_icmp .gt 122, 3) := by decide +kernel
theorem dX6_carry_12 : decode cX6_carry 12 = .ok (.aload_n 0, 1) := by decide +kernel
theorem dX6_carry_13 : decode cX6_carry 13 = .ok (.getfield 28, 3) := by decide +kernel
theorem dX6_carry_16 : decode cX6_carry 16 = .ok (.iload_n 1, 1) := by decide +kernel
theorem dX6_carry_17 : decode cX6_carry 17 = .ok (.iload 4, 2) := by decide +kernel
theorem dX6_carry_19 : decode cX6_carry 19 = .ok (.invokevirtual 73, 3) := by decide +kernel
theorem dX6_carry_22 : decode cX6_carry 22 = .ok (.lstore 5, 2) := by decide +kernel
theorem dX6_carry_24 : decode cX6_carry 24 = .ok (.iconst 0, 1) := by decide +kernel
theorem dX6_carry_25 : decode cX6_carry 25 = .ok (.istore 7, 2) := by decide +kernel
theorem dX6_carry_27 : decode cX6_carry 27 = .ok (.lload 5, 2) := by decide +kernel
theorem dX6_carry_29 : decode cX6_carry 29 = .ok (.lconst 0, 1) := by decide +kernel
theorem dX6_carry_30 : decode cX6_carry 30 = .ok (.lcmp, 1) := by decide +kernel
theorem dX6_carry_31 : decode cX6_carry 31 = .ok (.ifCond .eq 94, 3) := by decide +kernel
theorem dX6_carry_34 : decode cX6_carry 34 = .ok (.iload 4, 2) := by decide +kernel
theorem dX6_carry_36 : decode cX6_carry 36 = .ok (.iload 7, 2) := by decide +kernel
theorem dX6_carry_38 : decode cX6_carry 38 = .ok (.iadd, 1) := by decide +kernel
theorem dX6_carry_39 : decode cX6_carry 39 = .ok (.aload_n 0, 1) := by decide +kernel
theorem dX6_carry_40 : decode cX6_carry 40 = .ok (.getfield 103, 3) := by decide +kernel
theorem dX6_carry_43 : decode cX6_carry 43 = .ok (.if_icmp .gt 82, 3) := by decide +kernel
theorem dX6_carry_46 : decode cX6_carry 46 = .ok (.aload_n 0, 1) := by decide +kernel
theorem dX6_carry_47 : decode cX6_carry 47 = .ok (.getfield 21, 3) := by decide +kernel
theorem dX6_carry_50 : decode cX6_carry 50 = .ok (.iload_n 3, 1) := by decide +kernel
theorem dX6_carry_51 : decode cX6_carry 51 = .ok (.iconst 3, 1) := by decide +kernel
theorem dX6_carry_52 : decode cX6_carry 52 = .ok (.imul, 1) := by decide +kernel
theorem dX6_carry_53 : decode cX6_carry 53 = .ok (.iload 7, 2) := by decide +kernel
theorem dX6_carry_55 : decode cX6_carry 55 = .ok (.iadd, 1) := by decide +kernel
theorem dX6_carry_56 : decode cX6_carry 56 = .ok (.laload, 1) := by decide +kernel
theorem dX6_carry_57 : decode cX6_carry 57 = .ok (.lstore 8, 2) := by decide +kernel
theorem dX6_carry_59 : decode cX6_carry 59 = .ok (.lload 8, 2) := by decide +kernel
theorem dX6_carry_61 : decode cX6_carry 61 = .ok (.lconst 0, 1) := by decide +kernel
theorem dX6_carry_62 : decode cX6_carry 62 = .ok (.lcmp, 1) := by decide +kernel
theorem dX6_carry_63 : decode cX6_carry 63 = .ok (.ifCond .lt 56, 3) := by decide +kernel
theorem dX6_carry_66 : decode cX6_carry 66 = .ok (.aload_n 0, 1) := by decide +kernel
theorem dX6_carry_67 : decode cX6_carry 67 = .ok (.getfield 32, 3) := by decide +kernel
theorem dX6_carry_70 : decode cX6_carry 70 = .ok (.iload_n 2, 1) := by decide +kernel
theorem dX6_carry_71 : decode cX6_carry 71 = .ok (.iload 4, 2) := by decide +kernel
theorem dX6_carry_73 : decode cX6_carry 73 = .ok (.iload 7, 2) := by decide +kernel
theorem dX6_carry_75 : decode cX6_carry 75 = .ok (.iadd, 1) := by decide +kernel
theorem dX6_carry_76 : decode cX6_carry 76 = .ok (.invokevirtual 73, 3) := by decide +kernel
theorem dX6_carry_79 : decode cX6_carry 79 = .ok (.lstore 10, 2) := by decide +kernel
theorem dX6_carry_81 : decode cX6_carry 81 = .ok (.aload_n 0, 1) := by decide +kernel
theorem dX6_carry_82 : decode cX6_carry 82 = .ok (.getfield 32, 3) := by decide +kernel
theorem dX6_carry_85 : decode cX6_carry 85 = .ok (.iload_n 2, 1) := by decide +kernel
theorem dX6_carry_86 : decode cX6_carry 86 = .ok (.iload 4, 2) := by decide +kernel
theorem dX6_carry_88 : decode cX6_carry 88 = .ok (.iload 7, 2) := by decide +kernel
theorem dX6_carry_90 : decode cX6_carry 90 = .ok (.iadd, 1) := by decide +kernel
theorem dX6_carry_91 : decode cX6_carry 91 = .ok (.aload_n 0, 1) := by decide +kernel
theorem dX6_carry_92 : decode cX6_carry 92 = .ok (.getfield 48, 3) := by decide +kernel
theorem dX6_carry_95 : decode cX6_carry 95 = .ok (.ifCond .eq 11, 3) := by decide +kernel
theorem dX6_carry_98 : decode cX6_carry 98 = .ok (.lload 10, 2) := by decide +kernel
theorem dX6_carry_100 : decode cX6_carry 100 = .ok (.lload 5, 2) := by decide +kernel
theorem dX6_carry_102 : decode cX6_carry 102 = .ok (.ladd, 1) := by decide +kernel
theorem dX6_carry_103 : decode cX6_carry 103 = .ok (.goto 13, 3) := by decide +kernel
theorem dX6_carry_106 : decode cX6_carry 106 = .ok (.lload 10, 2) := by decide +kernel
theorem dX6_carry_108 : decode cX6_carry 108 = .ok (.lload 5, 2) := by decide +kernel
theorem dX6_carry_110 : decode cX6_carry 110 = .ok (.lload 8, 2) := by decide +kernel
theorem dX6_carry_112 : decode cX6_carry 112 = .ok (.ladd, 1) := by decide +kernel
theorem dX6_carry_113 : decode cX6_carry 113 = .ok (.invokestatic 99, 3) := by decide +kernel
theorem dX6_carry_116 : decode cX6_carry 116 = .ok (.invokevirtual 109, 3) := by decide +kernel
theorem dX6_carry_119 : decode cX6_carry 119 = .ok (.iinc 7 1, 3) := by decide +kernel
theorem dX6_carry_122 : decode cX6_carry 122 = .ok (.goto (-95), 3) := by decide +kernel
theorem dX6_carry_125 : decode cX6_carry 125 = .ok (.iinc 4 1, 3) := by decide +kernel
theorem dX6_carry_128 : decode cX6_carry 128 = .ok (.goto (-125), 3) := by decide +kernel
theorem dX6_carry_131 : decode cX6_carry 131 = .ok (.return_, 1) := by decide +kernel
set_option maxRecDepth 20000 in
theorem ggX6_gatherFitting_X0_coloursOf : GoodIn wsX6_gatherFitting wsX0_coloursOf := goodIn_r _ [13] (by decide +kernel) (by decide +kernel)
set_option maxRecDepth 20000 in
theorem gX6_gatherFitting_X0_coloursOf : GoodIn wsX6_gatherFitting (va_wsS RX6 130 yX0_coloursOf wsX0_coloursOf) := goodIn_app (goodIn_of _ (by decide +kernel)) ggX6_gatherFitting_X0_coloursOf
set_option maxRecDepth 20000 in
theorem ggX6_gatherFitting_X0_worthOfNumber : GoodIn wsX6_gatherFitting wsX0_worthOfNumber := goodIn_r _ [16, 17, 18, 19, 20] (by decide +kernel) (by decide +kernel)
set_option maxRecDepth 20000 in
theorem gX6_gatherFitting_X0_worthOfNumber : GoodIn wsX6_gatherFitting (va_wsS RX6 134 yX0_worthOfNumber wsX0_worthOfNumber) := goodIn_app (goodIn_of _ (by decide +kernel)) ggX6_gatherFitting_X0_worthOfNumber
set_option maxRecDepth 20000 in
theorem ggX6_gatherFitting_X5_shown : GoodIn wsX6_gatherFitting wsX5_shown := goodIn_r _ [24] (by decide +kernel) (by decide +kernel)
set_option maxRecDepth 20000 in
theorem gX6_gatherFitting_X5_shown : GoodIn wsX6_gatherFitting (va_wsS RX6 143 yX5_shown wsX5_shown) := goodIn_app (goodIn_of _ (by decide +kernel)) ggX6_gatherFitting_X5_shown
set_option maxRecDepth 20000 in
theorem ggX6_gatherFitting_J6_bitCount_0f7a4 : GoodIn wsX6_gatherFitting wsJ6_bitCount_0f7a4 := goodIn_r _ [28, 29, 30, 31] (by decide +kernel) (by decide +kernel)
set_option maxRecDepth 20000 in
theorem gX6_gatherFitting_J6_bitCount_0f7a4 : GoodIn wsX6_gatherFitting (va_wsS RX6 146 yJ6_bitCount_0f7a4 wsJ6_bitCount_0f7a4) := goodIn_app (goodIn_of _ (by decide +kernel)) ggX6_gatherFitting_J6_bitCount_0f7a4
set_option maxRecDepth 20000 in
theorem ggX6_gatherFitting_X6_setGains : GoodIn wsX6_gatherFitting wsX6_setGains := goodIn_r _ [36, 5, 37, 38, 39, 40, 41, 35, 42, 4, 25, 26, 27, 28, 29, 30, 31, 43, 44, 45, 49, 50, 51, 52, 53, 54, 55, 56, 57, 58, 59, 60, 61] (by decide +kernel) (by decide +kernel)
set_option maxRecDepth 20000 in
theorem gX6_gatherFitting_X6_setGains : GoodIn wsX6_gatherFitting (wsV RX6 151 RX6 yX6_setGains wsX6_setGains) := goodIn_app (goodIn_of _ (by decide +kernel)) ggX6_gatherFitting_X6_setGains
set_option maxRecDepth 20000 in
theorem ggX6_gatherFitting_X5_continued : GoodIn wsX6_gatherFitting wsX5_continued := goodIn_r _ [48] (by decide +kernel) (by decide +kernel)
set_option maxRecDepth 20000 in
theorem gX6_gatherFitting_X5_continued : GoodIn wsX6_gatherFitting (va_wsS RX6 35 yX5_continued wsX5_continued) := goodIn_app (goodIn_of _ (by decide +kernel)) ggX6_gatherFitting_X5_continued
theorem dX6_gatherFitting_0 : decode cX6_gatherFitting 0 = .ok (.aload_n 0, 1) := by decide +kernel
theorem dX6_gatherFitting_1 : decode cX6_gatherFitting 1 = .ok (.getfield 41, 3) := by decide +kernel
theorem dX6_gatherFitting_4 : decode cX6_gatherFitting 4 = .ok (.iload_n 1, 1) := by decide +kernel
theorem dX6_gatherFitting_5 : decode cX6_gatherFitting 5 = .ok (.invokestatic 130, 3) := by decide +kernel
theorem dX6_gatherFitting_8 : decode cX6_gatherFitting 8 = .ok (.istore_n 2, 1) := by decide +kernel
theorem dX6_gatherFitting_9 : decode cX6_gatherFitting 9 = .ok (.aload_n 0, 1) := by decide +kernel
theorem dX6_gatherFitting_10 : decode cX6_gatherFitting 10 = .ok (.getfield 45, 3) := by decide +kernel
theorem dX6_gatherFitting_13 : decode cX6_gatherFitting 13 = .ok (.iload_n 1, 1) := by decide +kernel
theorem dX6_gatherFitting_14 : decode cX6_gatherFitting 14 = .ok (.invokestatic 130, 3) := by decide +kernel
theorem dX6_gatherFitting_17 : decode cX6_gatherFitting 17 = .ok (.istore_n 3, 1) := by decide +kernel
theorem dX6_gatherFitting_18 : decode cX6_gatherFitting 18 = .ok (.aload_n 0, 1) := by decide +kernel
theorem dX6_gatherFitting_19 : decode cX6_gatherFitting 19 = .ok (.aload_n 0, 1) := by decide +kernel
theorem dX6_gatherFitting_20 : decode cX6_gatherFitting 20 = .ok (.getfield 77, 3) := by decide +kernel
theorem dX6_gatherFitting_23 : decode cX6_gatherFitting 23 = .ok (.ifCond .eq 10, 3) := by decide +kernel
theorem dX6_gatherFitting_26 : decode cX6_gatherFitting 26 = .ok (.iload_n 1, 1) := by decide +kernel
theorem dX6_gatherFitting_27 : decode cX6_gatherFitting 27 = .ok (.invokestatic 134, 3) := by decide +kernel
theorem dX6_gatherFitting_30 : decode cX6_gatherFitting 30 = .ok (.goto 4, 3) := by decide +kernel
theorem dX6_gatherFitting_33 : decode cX6_gatherFitting 33 = .ok (.iconst 1, 1) := by decide +kernel
theorem dX6_gatherFitting_34 : decode cX6_gatherFitting 34 = .ok (.putfield 137, 3) := by decide +kernel
theorem dX6_gatherFitting_37 : decode cX6_gatherFitting 37 = .ok (.aload_n 0, 1) := by decide +kernel
theorem dX6_gatherFitting_38 : decode cX6_gatherFitting 38 = .ok (.iconst 0, 1) := by decide +kernel
theorem dX6_gatherFitting_39 : decode cX6_gatherFitting 39 = .ok (.putfield 140, 3) := by decide +kernel
theorem dX6_gatherFitting_42 : decode cX6_gatherFitting 42 = .ok (.iconst 0, 1) := by decide +kernel
theorem dX6_gatherFitting_43 : decode cX6_gatherFitting 43 = .ok (.istore 4, 2) := by decide +kernel
theorem dX6_gatherFitting_45 : decode cX6_gatherFitting 45 = .ok (.iload 4, 2) := by decide +kernel
theorem dX6_gatherFitting_47 : decode cX6_gatherFitting 47 = .ok (.bipush 94, 2) := by decide +kernel
theorem dX6_gatherFitting_49 : decode cX6_gatherFitting 49 = .ok (.if_icmp .ge 110, 3) := by decide +kernel
theorem dX6_gatherFitting_52 : decode cX6_gatherFitting 52 = .ok (.aload_n 0, 1) := by decide +kernel
theorem dX6_gatherFitting_53 : decode cX6_gatherFitting 53 = .ok (.getfield 9, 3) := by decide +kernel
theorem dX6_gatherFitting_56 : decode cX6_gatherFitting 56 = .ok (.iload 4, 2) := by decide +kernel
theorem dX6_gatherFitting_58 : decode cX6_gatherFitting 58 = .ok (.iaload, 1) := by decide +kernel
theorem dX6_gatherFitting_59 : decode cX6_gatherFitting 59 = .ok (.invokestatic 143, 3) := by decide +kernel
theorem dX6_gatherFitting_62 : decode cX6_gatherFitting 62 = .ok (.istore 5, 2) := by decide +kernel
theorem dX6_gatherFitting_64 : decode cX6_gatherFitting 64 = .ok (.iload 5, 2) := by decide +kernel
theorem dX6_gatherFitting_66 : decode cX6_gatherFitting 66 = .ok (.iload_n 2, 1) := by decide +kernel
theorem dX6_gatherFitting_67 : decode cX6_gatherFitting 67 = .ok (.iload_n 3, 1) := by decide +kernel
theorem dX6_gatherFitting_68 : decode cX6_gatherFitting 68 = .ok (.ior, 1) := by decide +kernel
theorem dX6_gatherFitting_69 : decode cX6_gatherFitting 69 = .ok (.iconst (-1), 1) := by decide +kernel
theorem dX6_gatherFitting_70 : decode cX6_gatherFitting 70 = .ok (.ixor, 1) := by decide +kernel
theorem dX6_gatherFitting_71 : decode cX6_gatherFitting 71 = .ok (.iand, 1) := by decide +kernel
theorem dX6_gatherFitting_72 : decode cX6_gatherFitting 72 = .ok (.invokestatic 146, 3) := by decide +kernel
theorem dX6_gatherFitting_75 : decode cX6_gatherFitting 75 = .ok (.istore 6, 2) := by decide +kernel
theorem dX6_gatherFitting_77 : decode cX6_gatherFitting 77 = .ok (.iload_n 2, 1) := by decide +kernel
theorem dX6_gatherFitting_78 : decode cX6_gatherFitting 78 = .ok (.iload 5, 2) := by decide +kernel
theorem dX6_gatherFitting_80 : decode cX6_gatherFitting 80 = .ok (.iconst (-1), 1) := by decide +kernel
theorem dX6_gatherFitting_81 : decode cX6_gatherFitting 81 = .ok (.ixor, 1) := by decide +kernel
theorem dX6_gatherFitting_82 : decode cX6_gatherFitting 82 = .ok (.iand, 1) := by decide +kernel
theorem dX6_gatherFitting_83 : decode cX6_gatherFitting 83 = .ok (.ifCond .ne 49, 3) := by decide +kernel
theorem dX6_gatherFitting_86 : decode cX6_gatherFitting 86 = .ok (.iload 6, 2) := by decide +kernel
theorem dX6_gatherFitting_88 : decode cX6_gatherFitting 88 = .ok (.aload_n 0, 1) := by decide +kernel
theorem dX6_gatherFitting_89 : decode cX6_gatherFitting 89 = .ok (.getfield 103, 3) := by decide +kernel
theorem dX6_gatherFitting_92 : decode cX6_gatherFitting 92 = .ok (.if_icmp .gt 40, 3) := by decide +kernel
theorem dX6_gatherFitting_95 : decode cX6_gatherFitting 95 = .ok (.aload_n 0, 1) := by decide +kernel
theorem dX6_gatherFitting_96 : decode cX6_gatherFitting 96 = .ok (.getfield 15, 3) := by decide +kernel
theorem dX6_gatherFitting_99 : decode cX6_gatherFitting 99 = .ok (.aload_n 0, 1) := by decide +kernel
theorem dX6_gatherFitting_100 : decode cX6_gatherFitting 100 = .ok (.getfield 140, 3) := by decide +kernel
theorem dX6_gatherFitting_103 : decode cX6_gatherFitting 103 = .ok (.aload_n 0, 1) := by decide +kernel
theorem dX6_gatherFitting_104 : decode cX6_gatherFitting 104 = .ok (.getfield 9, 3) := by decide +kernel
theorem dX6_gatherFitting_107 : decode cX6_gatherFitting 107 = .ok (.iload 4, 2) := by decide +kernel
theorem dX6_gatherFitting_109 : decode cX6_gatherFitting 109 = .ok (.iaload, 1) := by decide +kernel
theorem dX6_gatherFitting_110 : decode cX6_gatherFitting 110 = .ok (.iastore, 1) := by decide +kernel
theorem dX6_gatherFitting_111 : decode cX6_gatherFitting 111 = .ok (.aload_n 0, 1) := by decide +kernel
theorem dX6_gatherFitting_112 : decode cX6_gatherFitting 112 = .ok (.iload_n 1, 1) := by decide +kernel
theorem dX6_gatherFitting_113 : decode cX6_gatherFitting 113 = .ok (.iload 6, 2) := by decide +kernel
theorem dX6_gatherFitting_115 : decode cX6_gatherFitting 115 = .ok (.iload 5, 2) := by decide +kernel
theorem dX6_gatherFitting_117 : decode cX6_gatherFitting 117 = .ok (.iload_n 3, 1) := by decide +kernel
theorem dX6_gatherFitting_118 : decode cX6_gatherFitting 118 = .ok (.iand, 1) := by decide +kernel
theorem dX6_gatherFitting_119 : decode cX6_gatherFitting 119 = .ok (.invokevirtual 151, 3) := by decide +kernel
theorem dX6_gatherFitting_122 : decode cX6_gatherFitting 122 = .ok (.aload_n 0, 1) := by decide +kernel
theorem dX6_gatherFitting_123 : decode cX6_gatherFitting 123 = .ok (.dup, 1) := by decide +kernel
theorem dX6_gatherFitting_124 : decode cX6_gatherFitting 124 = .ok (.getfield 140, 3) := by decide +kernel
theorem dX6_gatherFitting_127 : decode cX6_gatherFitting 127 = .ok (.iconst 1, 1) := by decide +kernel
theorem dX6_gatherFitting_128 : decode cX6_gatherFitting 128 = .ok (.iadd, 1) := by decide +kernel
theorem dX6_gatherFitting_129 : decode cX6_gatherFitting 129 = .ok (.putfield 140, 3) := by decide +kernel
theorem dX6_gatherFitting_132 : decode cX6_gatherFitting 132 = .ok (.aload_n 0, 1) := by decide +kernel
theorem dX6_gatherFitting_133 : decode cX6_gatherFitting 133 = .ok (.getfield 18, 3) := by decide +kernel
theorem dX6_gatherFitting_136 : decode cX6_gatherFitting 136 = .ok (.aload_n 0, 1) := by decide +kernel
theorem dX6_gatherFitting_137 : decode cX6_gatherFitting 137 = .ok (.getfield 9, 3) := by decide +kernel
theorem dX6_gatherFitting_140 : decode cX6_gatherFitting 140 = .ok (.iload 4, 2) := by decide +kernel
theorem dX6_gatherFitting_142 : decode cX6_gatherFitting 142 = .ok (.iaload, 1) := by decide +kernel
theorem dX6_gatherFitting_143 : decode cX6_gatherFitting 143 = .ok (.invokestatic 35, 3) := by decide +kernel
theorem dX6_gatherFitting_146 : decode cX6_gatherFitting 146 = .ok (.iconst 1, 1) := by decide +kernel
theorem dX6_gatherFitting_147 : decode cX6_gatherFitting 147 = .ok (.iadd, 1) := by decide +kernel
theorem dX6_gatherFitting_148 : decode cX6_gatherFitting 148 = .ok (.aload_n 0, 1) := by decide +kernel
theorem dX6_gatherFitting_149 : decode cX6_gatherFitting 149 = .ok (.getfield 140, 3) := by decide +kernel
theorem dX6_gatherFitting_152 : decode cX6_gatherFitting 152 = .ok (.iastore, 1) := by decide +kernel
theorem dX6_gatherFitting_153 : decode cX6_gatherFitting 153 = .ok (.iinc 4 1, 3) := by decide +kernel
theorem dX6_gatherFitting_156 : decode cX6_gatherFitting 156 = .ok (.goto (-111), 3) := by decide +kernel
theorem dX6_gatherFitting_159 : decode cX6_gatherFitting 159 = .ok (.return_, 1) := by decide +kernel
set_option maxRecDepth 20000 in
theorem ggX6_setGains_X6_gainOf : GoodIn wsX6_setGains wsX6_gainOf := goodIn_r _ [8, 9, 10, 11, 12, 13, 14, 15, 16, 20, 21, 22, 23, 24, 25, 26, 27, 28, 29, 30, 31, 32] (by decide +kernel) (by decide +kernel)
set_option maxRecDepth 20000 in
theorem gX6_setGains_X6_gainOf : GoodIn wsX6_setGains (wsV RX6 154 RX6 yX6_gainOf wsX6_gainOf) := goodIn_app (goodIn_of _ (by decide +kernel)) ggX6_setGains_X6_gainOf
set_option maxRecDepth 20000 in
theorem ggX6_setGains_X6_withoutLast : GoodIn wsX6_setGains wsX6_withoutLast := goodIn_r _ [19] (by decide +kernel) (by decide +kernel)
set_option maxRecDepth 20000 in
theorem gX6_setGains_X6_withoutLast : GoodIn wsX6_setGains (va_wsS RX6 157 yX6_withoutLast wsX6_withoutLast) := goodIn_app (goodIn_of _ (by decide +kernel)) ggX6_setGains_X6_withoutLast
theorem dX6_setGains_0 : decode cX6_setGains 0 = .ok (.iload_n 3, 1) := by decide +kernel
theorem dX6_setGains_1 : decode cX6_setGains 1 = .ok (.istore 4, 2) := by decide +kernel
theorem dX6_setGains_3 : decode cX6_setGains 3 = .ok (.iconst 1, 1) := by decide +kernel
theorem dX6_setGains_4 : decode cX6_setGains 4 = .ok (.istore 5, 2) := by decide +kernel
theorem dX6_setGains_6 : decode cX6_setGains 6 = .ok (.iconst 0, 1) := by decide +kernel
theorem dX6_setGains_7 : decode cX6_setGains 7 = .ok (.istore 6, 2) := by decide +kernel
theorem dX6_setGains_9 : decode cX6_setGains 9 = .ok (.iload 6, 2) := by decide +kernel
theorem dX6_setGains_11 : decode cX6_setGains 11 = .ok (.iconst 3, 1) := by decide +kernel
theorem dX6_setGains_12 : decode cX6_setGains 12 = .ok (.if_icmp .ge 77, 3) := by decide +kernel
theorem dX6_setGains_15 : decode cX6_setGains 15 = .ok (.aload_n 0, 1) := by decide +kernel
theorem dX6_setGains_16 : decode cX6_setGains 16 = .ok (.getfield 140, 3) := by decide +kernel
theorem dX6_setGains_19 : decode cX6_setGains 19 = .ok (.iconst 3, 1) := by decide +kernel
theorem dX6_setGains_20 : decode cX6_setGains 20 = .ok (.imul, 1) := by decide +kernel
theorem dX6_setGains_21 : decode cX6_setGains 21 = .ok (.iload 6, 2) := by decide +kernel
theorem dX6_setGains_23 : decode cX6_setGains 23 = .ok (.iadd, 1) := by decide +kernel
theorem dX6_setGains_24 : decode cX6_setGains 24 = .ok (.istore 7, 2) := by decide +kernel
theorem dX6_setGains_26 : decode cX6_setGains 26 = .ok (.iload 6, 2) := by decide +kernel
theorem dX6_setGains_28 : decode cX6_setGains 28 = .ok (.iload_n 2, 1) := by decide +kernel
theorem dX6_setGains_29 : decode cX6_setGains 29 = .ok (.if_icmp .lt 8, 3) := by decide +kernel
theorem dX6_setGains_32 : decode cX6_setGains 32 = .ok (.iload 5, 2) := by decide +kernel
theorem dX6_setGains_34 : decode cX6_setGains 34 = .ok (.ifCond .ne 16, 3) := by decide +kernel
theorem dX6_setGains_37 : decode cX6_setGains 37 = .ok (.aload_n 0, 1) := by decide +kernel
theorem dX6_setGains_38 : decode cX6_setGains 38 = .ok (.getfield 21, 3) := by decide +kernel
theorem dX6_setGains_41 : decode cX6_setGains 41 = .ok (.iload 7, 2) := by decide +kernel
theorem dX6_setGains_43 : decode cX6_setGains 43 = .ok (.ldc2_w 90, 3) := by decide +kernel
theorem dX6_setGains_46 : decode cX6_setGains 46 = .ok (.lastore, 1) := by decide +kernel
theorem dX6_setGains_47 : decode cX6_setGains 47 = .ok (.goto 36, 3) := by decide +kernel
theorem dX6_setGains_50 : decode cX6_setGains 50 = .ok (.aload_n 0, 1) := by decide +kernel
theorem dX6_setGains_51 : decode cX6_setGains 51 = .ok (.getfield 21, 3) := by decide +kernel
theorem dX6_setGains_54 : decode cX6_setGains 54 = .ok (.iload 7, 2) := by decide +kernel
theorem dX6_setGains_56 : decode cX6_setGains 56 = .ok (.aload_n 0, 1) := by decide +kernel
theorem dX6_setGains_57 : decode cX6_setGains 57 = .ok (.iload_n 1, 1) := by decide +kernel
theorem dX6_setGains_58 : decode cX6_setGains 58 = .ok (.iload 4, 2) := by decide +kernel
theorem dX6_setGains_60 : decode cX6_setGains 60 = .ok (.invokevirtual 154, 3) := by decide +kernel
theorem dX6_setGains_63 : decode cX6_setGains 63 = .ok (.lastore, 1) := by decide +kernel
theorem dX6_setGains_64 : decode cX6_setGains 64 = .ok (.iload 4, 2) := by decide +kernel
theorem dX6_setGains_66 : decode cX6_setGains 66 = .ok (.ifCond .eq 7, 3) := by decide +kernel
theorem dX6_setGains_69 : decode cX6_setGains 69 = .ok (.iconst 1, 1) := by decide +kernel
theorem dX6_setGains_70 : decode cX6_setGains 70 = .ok (.goto 4, 3) := by decide +kernel
theorem dX6_setGains_73 : decode cX6_setGains 73 = .ok (.iconst 0, 1) := by decide +kernel
theorem dX6_setGains_74 : decode cX6_setGains 74 = .ok (.istore 5, 2) := by decide +kernel
theorem dX6_setGains_76 : decode cX6_setGains 76 = .ok (.iload 4, 2) := by decide +kernel
theorem dX6_setGains_78 : decode cX6_setGains 78 = .ok (.invokestatic 157, 3) := by decide +kernel
theorem dX6_setGains_81 : decode cX6_setGains 81 = .ok (.istore 4, 2) := by decide +kernel
theorem dX6_setGains_83 : decode cX6_setGains 83 = .ok (.iinc 6 1, 3) := by decide +kernel
theorem dX6_setGains_86 : decode cX6_setGains 86 = .ok (.goto (-77), 3) := by decide +kernel
theorem dX6_setGains_89 : decode cX6_setGains 89 = .ok (.return_, 1) := by decide +kernel
set_option maxRecDepth 20000 in
theorem ggX6_gainOf_J6_bitCount_0f7a4 : GoodIn wsX6_gainOf wsJ6_bitCount_0f7a4 := goodIn_r _ [5, 6, 7, 8] (by decide +kernel) (by decide +kernel)
set_option maxRecDepth 20000 in
theorem gX6_gainOf_J6_bitCount_0f7a4 : GoodIn wsX6_gainOf (va_wsS RX6 146 yJ6_bitCount_0f7a4 wsJ6_bitCount_0f7a4) := goodIn_app (goodIn_of _ (by decide +kernel)) ggX6_gainOf_J6_bitCount_0f7a4
end
section
theorem dX6_gainOf_0 : decode cX6_gainOf 0 = .ok (.aload_n 0, 1) := by decide +kernel
theorem dX6_gainOf_1 : decode cX6_gainOf 1 = .ok (.getfield 137, 3) := by decide +kernel
theorem dX6_gainOf_4 : decode cX6_gainOf 4 = .ok (.i2l, 1) := by decide +kernel
theorem dX6_gainOf_5 : decode cX6_gainOf 5 = .ok (.iload_n 2, 1) := by decide +kernel
theorem dX6_gainOf_6 : decode cX6_gainOf 6 = .ok (.invokestatic 146, 3) := by decide +kernel
theorem dX6_gainOf_9 : decode cX6_gainOf 9 = .ok (.i2l, 1) := by decide +kernel
theorem dX6_gainOf_10 : decode cX6_gainOf 10 = .ok (.lmul, 1) := by decide +kernel
theorem dX6_gainOf_11 : decode cX6_gainOf 11 = .ok (.bipush 53, 2) := by decide +kernel
theorem dX6_gainOf_13 : decode cX6_gainOf 13 = .ok (.lshl, 1) := by decide +kernel
theorem dX6_gainOf_14 : decode cX6_gainOf 14 = .ok (.lstore_n 3, 1) := by decide +kernel
theorem dX6_gainOf_15 : decode cX6_gainOf 15 = .ok (.iconst 0, 1) := by decide +kernel
theorem dX6_gainOf_16 : decode cX6_gainOf 16 = .ok (.istore 5, 2) := by decide +kernel
theorem dX6_gainOf_18 : decode cX6_gainOf 18 = .ok (.iload 5, 2) := by decide +kernel
theorem dX6_gainOf_20 : decode cX6_gainOf 20 = .ok (.iconst 4, 1) := by decide +kernel
theorem dX6_gainOf_21 : decode cX6_gainOf 21 = .ok (.if_icmp .ge 32, 3) := by decide +kernel
theorem dX6_gainOf_24 : decode cX6_gainOf 24 = .ok (.iload_n 2, 1) := by decide +kernel
theorem dX6_gainOf_25 : decode cX6_gainOf 25 = .ok (.iload 5, 2) := by decide +kernel
theorem dX6_gainOf_27 : decode cX6_gainOf 27 = .ok (.ishr, 1) := by decide +kernel
theorem dX6_gainOf_28 : decode cX6_gainOf 28 = .ok (.iconst 1, 1) := by decide +kernel
theorem dX6_gainOf_29 : decode cX6_gainOf 29 = .ok (.iand, 1) := by decide +kernel
theorem dX6_gainOf_30 : decode cX6_gainOf 30 = .ok (.ifCond .eq 17, 3) := by decide +kernel
theorem dX6_gainOf_33 : decode cX6_gainOf 33 = .ok (.lload_n 3, 1) := by decide +kernel
theorem dX6_gainOf_34 : decode cX6_gainOf 34 = .ok (.lconst 1, 1) := by decide +kernel
theorem dX6_gainOf_35 : decode cX6_gainOf 35 = .ok (.bipush 52, 2) := by decide +kernel
theorem dX6_gainOf_37 : decode cX6_gainOf 37 = .ok (.iconst 4, 1) := by decide +kernel
theorem dX6_gainOf_38 : decode cX6_gainOf 38 = .ok (.iload_n 1, 1) := by decide +kernel
theorem dX6_gainOf_39 : decode cX6_gainOf 39 = .ok (.imul, 1) := by decide +kernel
theorem dX6_gainOf_40 : decode cX6_gainOf 40 = .ok (.isub, 1) := by decide +kernel
theorem dX6_gainOf_41 : decode cX6_gainOf 41 = .ok (.iload 5, 2) := by decide +kernel
theorem dX6_gainOf_43 : decode cX6_gainOf 43 = .ok (.isub, 1) := by decide +kernel
theorem dX6_gainOf_44 : decode cX6_gainOf 44 = .ok (.lshl, 1) := by decide +kernel
theorem dX6_gainOf_45 : decode cX6_gainOf 45 = .ok (.lor, 1) := by decide +kernel
theorem dX6_gainOf_46 : decode cX6_gainOf 46 = .ok (.lstore_n 3, 1) := by decide +kernel
theorem dX6_gainOf_47 : decode cX6_gainOf 47 = .ok (.iinc 5 1, 3) := by decide +kernel
theorem dX6_gainOf_50 : decode cX6_gainOf 50 = .ok (.goto (-32), 3) := by decide +kernel
theorem dX6_gainOf_53 : decode cX6_gainOf 53 = .ok (.lload_n 3, 1) := by decide +kernel
theorem dX6_gainOf_54 : decode cX6_gainOf 54 = .ok (.lreturn, 1) := by decide +kernel
theorem dX6_withoutLast_0 : decode cX6_withoutLast 0 = .ok (.iconst 3, 1) := by decide +kernel
theorem dX6_withoutLast_1 : decode cX6_withoutLast 1 = .ok (.istore_n 1, 1) := by decide +kernel
theorem dX6_withoutLast_2 : decode cX6_withoutLast 2 = .ok (.iload_n 1, 1) := by decide +kernel
theorem dX6_withoutLast_3 : decode cX6_withoutLast 3 = .ok (.ifCond .lt 25, 3) := by decide +kernel
theorem dX6_withoutLast_6 : decode cX6_withoutLast 6 = .ok (.iload_n 0, 1) := by decide +kernel
theorem dX6_withoutLast_7 : decode cX6_withoutLast 7 = .ok (.iload_n 1, 1) := by decide +kernel
theorem dX6_withoutLast_8 : decode cX6_withoutLast 8 = .ok (.ishr, 1) := by decide +kernel
theorem dX6_withoutLast_9 : decode cX6_withoutLast 9 = .ok (.iconst 1, 1) := by decide +kernel
theorem dX6_withoutLast_10 : decode cX6_withoutLast 10 = .ok (.iand, 1) := by decide +kernel
theorem dX6_withoutLast_11 : decode cX6_withoutLast 11 = .ok (.ifCond .eq 11, 3) := by decide +kernel
theorem dX6_withoutLast_14 : decode cX6_withoutLast 14 = .ok (.iload_n 0, 1) := by decide +kernel
theorem dX6_withoutLast_15 : decode cX6_withoutLast 15 = .ok (.iconst 1, 1) := by decide +kernel
theorem dX6_withoutLast_16 : decode cX6_withoutLast 16 = .ok (.iload_n 1, 1) := by decide +kernel
theorem dX6_withoutLast_17 : decode cX6_withoutLast 17 = .ok (.ishl, 1) := by decide +kernel
theorem dX6_withoutLast_18 : decode cX6_withoutLast 18 = .ok (.iconst (-1), 1) := by decide +kernel
theorem dX6_withoutLast_19 : decode cX6_withoutLast 19 = .ok (.ixor, 1) := by decide +kernel
theorem dX6_withoutLast_20 : decode cX6_withoutLast 20 = .ok (.iand, 1) := by decide +kernel
theorem dX6_withoutLast_21 : decode cX6_withoutLast 21 = .ok (.ireturn, 1) := by decide +kernel
theorem dX6_withoutLast_22 : decode cX6_withoutLast 22 = .ok (.iinc 1 (-1), 3) := by decide +kernel
theorem dX6_withoutLast_25 : decode cX6_withoutLast 25 = .ok (.goto (-23), 3) := by decide +kernel
theorem dX6_withoutLast_28 : decode cX6_withoutLast 28 = .ok (.iconst 0, 1) := by decide +kernel
theorem dX6_withoutLast_29 : decode cX6_withoutLast 29 = .ok (.ireturn, 1) := by decide +kernel
set_option maxRecDepth 20000 in
theorem ggX7_init_X5_allInOrder : GoodIn wsX7_init wsX5_allInOrder := goodIn_r _ [26, 27, 28, 29, 25, 30, 31, 32, 33, 34, 35, 36, 37, 38, 39, 40] (by decide +kernel) (by decide +kernel)
set_option maxRecDepth 20000 in
theorem gX7_init_X5_allInOrder : GoodIn wsX7_init (va_wsS RX7 9 yX5_allInOrder wsX5_allInOrder) := goodIn_app (goodIn_of _ (by decide +kernel)) ggX7_init_X5_allInOrder
set_option maxRecDepth 20000 in
theorem ggX7_init_X6_init : GoodIn wsX7_init wsX6_init := goodIn_r _ [43, 44, 2, 3, 27, 45, 46, 47, 48, 49, 50, 51, 52, 53, 54, 55, 56, 57, 58, 59, 60, 61, 62, 63, 25, 64, 81, 82, 83, 84, 85, 86, 87, 88, 89, 90, 91, 92, 93, 118, 119, 120, 121] (by decide +kernel) (by decide +kernel)
set_option maxRecDepth 20000 in
theorem gX7_init_X6_init : GoodIn wsX7_init (wsX6_init) := ggX7_init_X6_init
set_option maxRecDepth 20000 in
theorem ggX7_init_X4_init : GoodIn wsX7_init wsX4_init := goodIn_r _ [67, 68, 2, 3, 48, 69, 70, 101, 102, 103] (by decide +kernel) (by decide +kernel)
set_option maxRecDepth 20000 in
theorem gX7_init_X4_init : GoodIn wsX7_init (wsX4_init) := ggX7_init_X4_init
set_option maxRecDepth 20000 in
theorem ggX7_init_X1_init : GoodIn wsX7_init wsX1_init := goodIn_r _ [72, 73, 2, 3, 48, 74, 59, 75, 27, 76, 104, 105, 106, 107, 108, 109, 110, 111, 112, 113, 114, 115] (by decide +kernel) (by decide +kernel)
set_option maxRecDepth 20000 in
theorem gX7_init_X1_init_n33 : GoodIn wsX7_init (wsX1_init) := ggX7_init_X1_init
set_option maxRecDepth 20000 in
theorem ggX7_init_X2_init : GoodIn wsX7_init wsX2_init := goodIn_r _ [78, 79, 2, 3, 27, 80, 116, 117] (by decide +kernel) (by decide +kernel)
set_option maxRecDepth 20000 in
theorem gX7_init_X2_init_n40 : GoodIn wsX7_init (wsX2_init) := ggX7_init_X2_init
theorem dX7_init_0 : decode cX7_init 0 = .ok (.aload_n 0, 1) := by decide +kernel
theorem dX7_init_1 : decode cX7_init 1 = .ok (.invokespecial 3, 3) := by decide +kernel
theorem dX7_init_4 : decode cX7_init 4 = .ok (.invokestatic 9, 3) := by decide +kernel
theorem dX7_init_7 : decode cX7_init 7 = .ok (.astore_n 1, 1) := by decide +kernel
theorem dX7_init_8 : decode cX7_init 8 = .ok (.aload_n 0, 1) := by decide +kernel
theorem dX7_init_9 : decode cX7_init 9 = .ok (.new 15, 3) := by decide +kernel
theorem dX7_init_12 : decode cX7_init 12 = .ok (.dup, 1) := by decide +kernel
theorem dX7_init_13 : decode cX7_init 13 = .ok (.aload_n 1, 1) := by decide +kernel
theorem dX7_init_14 : decode cX7_init 14 = .ok (.invokespecial 17, 3) := by decide +kernel
theorem dX7_init_17 : decode cX7_init 17 = .ok (.putfield 20, 3) := by decide +kernel
theorem dX7_init_20 : decode cX7_init 20 = .ok (.aload_n 0, 1) := by decide +kernel
theorem dX7_init_21 : decode cX7_init 21 = .ok (.new 24, 3) := by decide +kernel
theorem dX7_init_24 : decode cX7_init 24 = .ok (.dup, 1) := by decide +kernel
theorem dX7_init_25 : decode cX7_init 25 = .ok (.aload_n 1, 1) := by decide +kernel
theorem dX7_init_26 : decode cX7_init 26 = .ok (.invokespecial 26, 3) := by decide +kernel
theorem dX7_init_29 : decode cX7_init 29 = .ok (.putfield 27, 3) := by decide +kernel
theorem dX7_init_32 : decode cX7_init 32 = .ok (.aload_n 0, 1) := by decide +kernel
theorem dX7_init_33 : decode cX7_init 33 = .ok (.new 31, 3) := by decide +kernel
theorem dX7_init_36 : decode cX7_init 36 = .ok (.dup, 1) := by decide +kernel
theorem dX7_init_37 : decode cX7_init 37 = .ok (.invokespecial 33, 3) := by decide +kernel
theorem dX7_init_40 : decode cX7_init 40 = .ok (.putfield 34, 3) := by decide +kernel
theorem dX7_init_43 : decode cX7_init 43 = .ok (.aload_n 0, 1) := by decide +kernel
theorem dX7_init_44 : decode cX7_init 44 = .ok (.new 38, 3) := by decide +kernel
theorem dX7_init_47 : decode cX7_init 47 = .ok (.dup, 1) := by decide +kernel
theorem dX7_init_48 : decode cX7_init 48 = .ok (.invokespecial 40, 3) := by decide +kernel
theorem dX7_init_51 : decode cX7_init 51 = .ok (.putfield 41, 3) := by decide +kernel
theorem dX7_init_54 : decode cX7_init 54 = .ok (.aload_n 0, 1) := by decide +kernel
theorem dX7_init_55 : decode cX7_init 55 = .ok (.new 38, 3) := by decide +kernel
theorem dX7_init_58 : decode cX7_init 58 = .ok (.dup, 1) := by decide +kernel
theorem dX7_init_59 : decode cX7_init 59 = .ok (.invokespecial 40, 3) := by decide +kernel
theorem dX7_init_62 : decode cX7_init 62 = .ok (.putfield 45, 3) := by decide +kernel
theorem dX7_init_65 : decode cX7_init 65 = .ok (.aload_n 0, 1) := by decide +kernel
theorem dX7_init_66 : decode cX7_init 66 = .ok (.bipush 30, 2) := by decide +kernel
theorem dX7_init_68 : decode cX7_init 68 = .ok (.putfield 48, 3) := by decide +kernel
theorem dX7_init_71 : decode cX7_init 71 = .ok (.aload_n 0, 1) := by decide +kernel
theorem dX7_init_72 : decode cX7_init 72 = .ok (.iconst 0, 1) := by decide +kernel
theorem dX7_init_73 : decode cX7_init 73 = .ok (.putfield 52, 3) := by decide +kernel
theorem dX7_init_76 : decode cX7_init 76 = .ok (.return_, 1) := by decide +kernel
theorem dX7_status_0 : decode cX7_status 0 = .ok (.aload_n 0, 1) := by decide +kernel
theorem dX7_status_1 : decode cX7_status 1 = .ok (.getfield 52, 3) := by decide +kernel
theorem dX7_status_4 : decode cX7_status 4 = .ok (.ireturn, 1) := by decide +kernel
set_option maxRecDepth 20000 in
theorem ggX7_ways_X0_isSet : GoodIn wsX7_ways wsX0_isSet := goodIn_r _ [6] (by decide +kernel) (by decide +kernel)
set_option maxRecDepth 20000 in
theorem gX7_ways_X0_isSet : GoodIn wsX7_ways (va_wsS RX7 55 yX0_isSet wsX0_isSet) := goodIn_app (goodIn_of _ (by decide +kernel)) ggX7_ways_X0_isSet
set_option maxRecDepth 20000 in
theorem ggX7_ways_X7_refuse : GoodIn wsX7_ways wsX7_refuse := goodIn_r _ [11, 1, 129, 130, 131, 132, 133, 134, 135] (by decide +kernel) (by decide +kernel)
set_option maxRecDepth 20000 in
theorem gX7_ways_X7_refuse : GoodIn wsX7_ways (wsV RX7 61 RX7 yX7_refuse wsX7_refuse) := goodIn_app (goodIn_of _ (by decide +kernel)) ggX7_ways_X7_refuse
set_option maxRecDepth 20000 in
theorem ggX7_ways_X6_countLayouts : GoodIn wsX7_ways wsX6_countLayouts := goodIn_r _ [16, 17, 18, 19, 20, 21, 22, 5, 23, 24, 25, 26, 27, 28, 29, 30, 31, 32, 33, 15, 34, 35, 36, 37, 38, 39, 40, 41, 42, 43, 44, 45, 46, 47, 48, 49, 50, 51, 52, 53, 54, 55, 56, 57, 58, 59, 60, 61, 62, 63, 64, 65, 66, 67, 68, 69, 70, 71, 72, 73, 74, 75, 76, 77, 78, 79, 80, 81, 82, 83, 84, 85, 86, 87, 88, 89, 90, 91, 92, 93, 94, 95, 96, 97, 98, 99, 100, 101, 102, 103, 104, 105, 106, 107, 108, 109, 110, 111, 112, 113, 114, 115, 116, 117, 118, 119, 120, 121, 122, 123, 124, 125, 126, 127, 128, 136, 137, 138, 139, 140, 141, 142, 143, 144, 145, 146, 147, 148, 149, 150, 151, 152] (by decide +kernel) (by decide +kernel)
set_option maxRecDepth 20000 in
theorem gX7_ways_X6_countLayouts : GoodIn wsX7_ways (wsV RX7 65 RX6 yX6_countLayouts wsX6_countLayouts) := goodIn_app (goodIn_of _ (by decide +kernel)) ggX7_ways_X6_countLayouts
theorem dX7_ways_0 : decode cX7_ways 0 = .ok (.lload_n 1, 1) := by decide +kernel
theorem dX7_ways_1 : decode cX7_ways 1 = .ok (.invokestatic 55, 3) := by decide +kernel
theorem dX7_ways_4 : decode cX7_ways 4 = .ok (.ifCond .ne 10, 3) := by decide +kernel
theorem dX7_ways_7 : decode cX7_ways 7 = .ok (.aload_n 0, 1) := by decide +kernel
theorem dX7_ways_8 : decode cX7_ways 8 = .ok (.iconst 1, 1) := by decide +kernel
theorem dX7_ways_9 : decode cX7_ways 9 = .ok (.invokevirtual 61, 3) := by decide +kernel
theorem dX7_ways_12 : decode cX7_ways 12 = .ok (.i2l, 1) := by decide +kernel
theorem dX7_ways_13 : decode cX7_ways 13 = .ok (.lreturn, 1) := by decide +kernel
theorem dX7_ways_14 : decode cX7_ways 14 = .ok (.aload_n 0, 1) := by decide +kernel
theorem dX7_ways_15 : decode cX7_ways 15 = .ok (.iconst 0, 1) := by decide +kernel
theorem dX7_ways_16 : decode cX7_ways 16 = .ok (.putfield 52, 3) := by decide +kernel
theorem dX7_ways_19 : decode cX7_ways 19 = .ok (.aload_n 0, 1) := by decide +kernel
theorem dX7_ways_20 : decode cX7_ways 20 = .ok (.getfield 20, 3) := by decide +kernel
theorem dX7_ways_23 : decode cX7_ways 23 = .ok (.lload_n 1, 1) := by decide +kernel
theorem dX7_ways_24 : decode cX7_ways 24 = .ok (.invokevirtual 65, 3) := by decide +kernel
theorem dX7_ways_27 : decode cX7_ways 27 = .ok (.lreturn, 1) := by decide +kernel
set_option maxRecDepth 20000 in
theorem ggX7_layout_X0_isSet : GoodIn wsX7_layout wsX0_isSet := goodIn_r _ [8] (by decide +kernel) (by decide +kernel)
set_option maxRecDepth 20000 in
theorem gX7_layout_X0_isSet : GoodIn wsX7_layout (va_wsS RX7 55 yX0_isSet wsX0_isSet) := goodIn_app (goodIn_of _ (by decide +kernel)) ggX7_layout_X0_isSet
set_option maxRecDepth 20000 in
theorem ggX7_layout_X7_refuse : GoodIn wsX7_layout wsX7_refuse := goodIn_r _ [13, 3, 89, 90, 91, 92, 93, 94, 95] (by decide +kernel) (by decide +kernel)
set_option maxRecDepth 20000 in
theorem gX7_layout_X7_refuse : GoodIn wsX7_layout (wsV RX7 61 RX7 yX7_refuse wsX7_refuse) := goodIn_app (goodIn_of _ (by decide +kernel)) ggX7_layout_X7_refuse
set_option maxRecDepth 20000 in
theorem ggX7_layout_X4_findFirst : GoodIn wsX7_layout wsX4_findFirst := goodIn_r _ [18, 19, 20, 21, 22, 23, 24, 25, 26, 7, 27, 28, 29, 30, 31, 32, 33, 34, 35, 36, 37, 17, 38, 39, 40, 41, 42, 43, 44, 45, 46, 47, 48, 49, 50, 51, 52, 53, 54, 55, 56, 57, 58, 59, 60, 61, 62, 63, 64, 65, 66, 67, 68, 69, 96, 97, 98, 99, 100] (by decide +kernel) (by decide +kernel)
set_option maxRecDepth 20000 in
theorem gX7_layout_X4_findFirst : GoodIn wsX7_layout (wsV RX7 69 RX4 yX4_findFirst wsX4_findFirst) := goodIn_app (goodIn_of _ (by decide +kernel)) ggX7_layout_X4_findFirst
set_option maxRecDepth 20000 in
theorem ggX7_layout_X7_keepTrial : GoodIn wsX7_layout wsX7_keepTrial := goodIn_r _ [73, 4, 2, 89, 90, 91, 92, 93, 94, 95] (by decide +kernel) (by decide +kernel)
set_option maxRecDepth 20000 in
theorem gX7_layout_X7_keepTrial : GoodIn wsX7_layout (wsV RX7 73 RX7 yX7_keepTrial wsX7_keepTrial) := goodIn_app (goodIn_of _ (by decide +kernel)) ggX7_layout_X7_keepTrial
set_option maxRecDepth 20000 in
theorem ggX7_layout_X2_groups : GoodIn wsX7_layout wsX2_groups := goodIn_r _ [78, 79, 80, 81, 42, 82, 99, 100] (by decide +kernel) (by decide +kernel)
set_option maxRecDepth 20000 in
theorem gX7_layout_X2_groups : GoodIn wsX7_layout (wsV RX7 76 RX2 yX2_groups wsX2_groups) := goodIn_app (goodIn_of _ (by decide +kernel)) ggX7_layout_X2_groups
set_option maxRecDepth 20000 in
theorem ggX7_layout_X2_runs : GoodIn wsX7_layout wsX2_runs := goodIn_r _ [86, 79, 87, 68, 42, 69, 88, 57, 58, 59, 60, 61, 62, 99, 100] (by decide +kernel) (by decide +kernel)
set_option maxRecDepth 20000 in
theorem gX7_layout_X2_runs : GoodIn wsX7_layout (wsV RX7 80 RX2 yX2_runs wsX2_runs) := goodIn_app (goodIn_of _ (by decide +kernel)) ggX7_layout_X2_runs
theorem dX7_layout_0 : decode cX7_layout 0 = .ok (.lload_n 1, 1) := by decide +kernel
theorem dX7_layout_1 : decode cX7_layout 1 = .ok (.invokestatic 55, 3) := by decide +kernel
theorem dX7_layout_4 : decode cX7_layout 4 = .ok (.ifCond .ne 9, 3) := by decide +kernel
theorem dX7_layout_7 : decode cX7_layout 7 = .ok (.aload_n 0, 1) := by decide +kernel
theorem dX7_layout_8 : decode cX7_layout 8 = .ok (.iconst 1, 1) := by decide +kernel
theorem dX7_layout_9 : decode cX7_layout 9 = .ok (.invokevirtual 61, 3) := by decide +kernel
theorem dX7_layout_12 : decode cX7_layout 12 = .ok (.ireturn, 1) := by decide +kernel
theorem dX7_layout_13 : decode cX7_layout 13 = .ok (.aload_n 0, 1) := by decide +kernel
theorem dX7_layout_14 : decode cX7_layout 14 = .ok (.getfield 27, 3) := by decide +kernel
theorem dX7_layout_17 : decode cX7_layout 17 = .ok (.lload_n 1, 1) := by decide +kernel
theorem dX7_layout_18 : decode cX7_layout 18 = .ok (.aload_n 0, 1) := by decide +kernel
theorem dX7_layout_19 : decode cX7_layout 19 = .ok (.getfield 45, 3) := by decide +kernel
theorem dX7_layout_22 : decode cX7_layout 22 = .ok (.invokevirtual 69, 3) := by decide +kernel
theorem dX7_layout_25 : decode cX7_layout 25 = .ok (.ifCond .ne 9, 3) := by decide +kernel
theorem dX7_layout_28 : decode cX7_layout 28 = .ok (.aload_n 0, 1) := by decide +kernel
theorem dX7_layout_29 : decode cX7_layout 29 = .ok (.iconst 3, 1) := by decide +kernel
theorem dX7_layout_30 : decode cX7_layout 30 = .ok (.invokevirtual 61, 3) := by decide +kernel
theorem dX7_layout_33 : decode cX7_layout 33 = .ok (.ireturn, 1) := by decide +kernel
theorem dX7_layout_34 : decode cX7_layout 34 = .ok (.aload_n 0, 1) := by decide +kernel
theorem dX7_layout_35 : decode cX7_layout 35 = .ok (.invokevirtual 73, 3) := by decide +kernel
theorem dX7_layout_38 : decode cX7_layout 38 = .ok (.aload_n 0, 1) := by decide +kernel
theorem dX7_layout_39 : decode cX7_layout 39 = .ok (.iconst 0, 1) := by decide +kernel
theorem dX7_layout_40 : decode cX7_layout 40 = .ok (.putfield 52, 3) := by decide +kernel
theorem dX7_layout_43 : decode cX7_layout 43 = .ok (.aload_n 0, 1) := by decide +kernel
theorem dX7_layout_44 : decode cX7_layout 44 = .ok (.getfield 41, 3) := by decide +kernel
theorem dX7_layout_47 : decode cX7_layout 47 = .ok (.invokevirtual 76, 3) := by decide +kernel
theorem dX7_layout_50 : decode cX7_layout 50 = .ok (.aload_n 0, 1) := by decide +kernel
theorem dX7_layout_51 : decode cX7_layout 51 = .ok (.getfield 41, 3) := by decide +kernel
theorem dX7_layout_54 : decode cX7_layout 54 = .ok (.invokevirtual 80, 3) := by decide +kernel
theorem dX7_layout_57 : decode cX7_layout 57 = .ok (.iadd, 1) := by decide +kernel
theorem dX7_layout_58 : decode cX7_layout 58 = .ok (.ireturn, 1) := by decide +kernel
set_option maxRecDepth 20000 in
theorem ggX7_best_X0_isSet : GoodIn wsX7_best wsX0_isSet := goodIn_r _ [8] (by decide +kernel) (by decide +kernel)
set_option maxRecDepth 20000 in
theorem gX7_best_X0_isSet : GoodIn wsX7_best (va_wsS RX7 55 yX0_isSet wsX0_isSet) := goodIn_app (goodIn_of _ (by decide +kernel)) ggX7_best_X0_isSet
set_option maxRecDepth 20000 in
theorem ggX7_best_X7_isAim : GoodIn wsX7_best wsX7_isAim := goodIn_r _ [12] (by decide +kernel) (by decide +kernel)
set_option maxRecDepth 20000 in
theorem gX7_best_X7_isAim : GoodIn wsX7_best (va_wsS RX7 83 yX7_isAim wsX7_isAim) := goodIn_app (goodIn_of _ (by decide +kernel)) ggX7_best_X7_isAim
set_option maxRecDepth 20000 in
theorem ggX7_best_X7_refuse : GoodIn wsX7_best wsX7_refuse := goodIn_r _ [16, 4, 175, 176, 177, 178, 179, 180, 181] (by decide +kernel) (by decide +kernel)
set_option maxRecDepth 20000 in
theorem gX7_best_X7_refuse : GoodIn wsX7_best (wsV RX7 61 RX7 yX7_refuse wsX7_refuse) := goodIn_app (goodIn_of _ (by decide +kernel)) ggX7_best_X7_refuse
set_option maxRecDepth 20000 in
theorem ggX7_best_X6_bestPart : GoodIn wsX7_best wsX6_bestPart := goodIn_r _ [21, 22, 23, 24, 25, 26, 27, 28, 29, 30, 31, 32, 7, 33, 34, 35, 36, 37, 38, 39, 40, 41, 42, 43, 20, 44, 45, 46, 47, 48, 49, 50, 51, 52, 53, 54, 55, 56, 57, 58, 59, 60, 61, 62, 63, 64, 65, 66, 67, 68, 69, 70, 71, 72, 73, 74, 75, 76, 77, 78, 79, 80, 81, 82, 83, 84, 85, 86, 87, 88, 89, 90, 91, 92, 93, 94, 95, 96, 97, 98, 99, 100, 101, 102, 103, 104, 105, 106, 107, 108, 109, 110, 111, 112, 113, 114, 115, 116, 117, 118, 119, 120, 121, 122, 123, 124, 125, 126, 127, 128, 129, 130, 131, 132, 133, 134, 135, 136, 137, 138, 139, 140, 141, 142, 143, 144, 145, 182, 183, 184, 185, 186, 187, 188, 189, 190, 191, 192, 193, 194, 195, 196, 197, 198] (by decide +kernel) (by decide +kernel)
set_option maxRecDepth 20000 in
theorem gX7_best_X6_bestPart : GoodIn wsX7_best (wsV RX7 87 RX6 yX6_bestPart wsX6_bestPart) := goodIn_app (goodIn_of _ (by decide +kernel)) ggX7_best_X6_bestPart
set_option maxRecDepth 20000 in
theorem ggX7_best_X4_findFirst : GoodIn wsX7_best wsX4_findFirst := goodIn_r _ [150, 151, 152, 153, 154, 155, 156, 157, 32, 7, 33, 34, 35, 36, 37, 38, 39, 40, 158, 159, 160, 149, 161, 162, 163, 136, 82, 137, 164, 74, 75, 165, 81, 83, 166, 104, 105, 167, 111, 112, 168, 85, 86, 87, 88, 89, 90, 169, 114, 115, 116, 117, 118, 119, 199, 200, 201, 202, 203] (by decide +kernel) (by decide +kernel)
set_option maxRecDepth 20000 in
theorem gX7_best_X4_findFirst : GoodIn wsX7_best (wsV RX7 69 RX4 yX4_findFirst wsX4_findFirst) := goodIn_app (goodIn_of _ (by decide +kernel)) ggX7_best_X4_findFirst
set_option maxRecDepth 20000 in
theorem ggX7_best_X7_keepTrial : GoodIn wsX7_best wsX7_keepTrial := goodIn_r _ [173, 174, 3, 175, 176, 177, 178, 179, 180, 181] (by decide +kernel) (by decide +kernel)
set_option maxRecDepth 20000 in
theorem gX7_best_X7_keepTrial : GoodIn wsX7_best (wsV RX7 73 RX7 yX7_keepTrial wsX7_keepTrial) := goodIn_app (goodIn_of _ (by decide +kernel)) ggX7_best_X7_keepTrial
theorem dX7_best_0 : decode cX7_best 0 = .ok (.lload_n 1, 1) := by decide +kernel
theorem dX7_best_1 : decode cX7_best 1 = .ok (.invokestatic 55, 3) := by decide +kernel
theorem dX7_best_4 : decode cX7_best 4 = .ok (.ifCond .eq 18, 3) := by decide +kernel
theorem dX7_best_7 : decode cX7_best 7 = .ok (.lload_n 3, 1) := by decide +kernel
theorem dX7_best_8 : decode cX7_best 8 = .ok (.invokestatic 55, 3) := by decide +kernel
theorem dX7_best_11 : decode cX7_best 11 = .ok (.ifCond .eq 11, 3) := by decide +kernel
theorem dX7_best_14 : decode cX7_best 14 = .ok (.iload 5, 2) := by decide +kernel
theorem dX7_best_16 : decode cX7_best 16 = .ok (.invokestatic 83, 3) := by decide +kernel
theorem dX7_best_19 : decode cX7_best 19 = .ok (.ifCond .ne 10, 3) := by decide +kernel
theorem dX7_best_22 : decode cX7_best 22 = .ok (.aload_n 0, 1) := by decide +kernel
theorem dX7_best_23 : decode cX7_best 23 = .ok (.iconst 1, 1) := by decide +kernel
theorem dX7_best_24 : decode cX7_best 24 = .ok (.invokevirtual 61, 3) := by decide +kernel
theorem dX7_best_27 : decode cX7_best 27 = .ok (.i2l, 1) := by decide +kernel
theorem dX7_best_28 : decode cX7_best 28 = .ok (.lreturn, 1) := by decide +kernel
theorem dX7_best_29 : decode cX7_best 29 = .ok (.lload_n 1, 1) := by decide +kernel
theorem dX7_best_30 : decode cX7_best 30 = .ok (.lload_n 3, 1) := by decide +kernel
theorem dX7_best_31 : decode cX7_best 31 = .ok (.land, 1) := by decide +kernel
theorem dX7_best_32 : decode cX7_best 32 = .ok (.lconst 0, 1) := by decide +kernel
theorem dX7_best_33 : decode cX7_best 33 = .ok (.lcmp, 1) := by decide +kernel
theorem dX7_best_34 : decode cX7_best 34 = .ok (.ifCond .eq 10, 3) := by decide +kernel
theorem dX7_best_37 : decode cX7_best 37 = .ok (.aload_n 0, 1) := by decide +kernel
theorem dX7_best_38 : decode cX7_best 38 = .ok (.iconst 2, 1) := by decide +kernel
theorem dX7_best_39 : decode cX7_best 39 = .ok (.invokevirtual 61, 3) := by decide +kernel
theorem dX7_best_42 : decode cX7_best 42 = .ok (.i2l, 1) := by decide +kernel
theorem dX7_best_43 : decode cX7_best 43 = .ok (.lreturn, 1) := by decide +kernel
theorem dX7_best_44 : decode cX7_best 44 = .ok (.aload_n 0, 1) := by decide +kernel
theorem dX7_best_45 : decode cX7_best 45 = .ok (.getfield 20, 3) := by decide +kernel
theorem dX7_best_48 : decode cX7_best 48 = .ok (.lload_n 1, 1) := by decide +kernel
theorem dX7_best_49 : decode cX7_best 49 = .ok (.lload_n 3, 1) := by decide +kernel
theorem dX7_best_50 : decode cX7_best 50 = .ok (.iload 5, 2) := by decide +kernel
theorem dX7_best_52 : decode cX7_best 52 = .ok (.invokevirtual 87, 3) := by decide +kernel
theorem dX7_best_55 : decode cX7_best 55 = .ok (.lstore 6, 2) := by decide +kernel
theorem dX7_best_57 : decode cX7_best 57 = .ok (.lload 6, 2) := by decide +kernel
theorem dX7_best_59 : decode cX7_best 59 = .ok (.lconst 0, 1) := by decide +kernel
theorem dX7_best_60 : decode cX7_best 60 = .ok (.lcmp, 1) := by decide +kernel
theorem dX7_best_61 : decode cX7_best 61 = .ok (.ifCond .lt 21, 3) := by decide +kernel
theorem dX7_best_64 : decode cX7_best 64 = .ok (.aload_n 0, 1) := by decide +kernel
theorem dX7_best_65 : decode cX7_best 65 = .ok (.getfield 27, 3) := by decide +kernel
theorem dX7_best_68 : decode cX7_best 68 = .ok (.lload_n 1, 1) := by decide +kernel
theorem dX7_best_69 : decode cX7_best 69 = .ok (.lload 6, 2) := by decide +kernel
theorem dX7_best_71 : decode cX7_best 71 = .ok (.lor, 1) := by decide +kernel
theorem dX7_best_72 : decode cX7_best 72 = .ok (.aload_n 0, 1) := by decide +kernel
theorem dX7_best_73 : decode cX7_best 73 = .ok (.getfield 45, 3) := by decide +kernel
theorem dX7_best_76 : decode cX7_best 76 = .ok (.invokevirtual 69, 3) := by decide +kernel
theorem dX7_best_79 : decode cX7_best 79 = .ok (.ifCond .ne 10, 3) := by decide +kernel
theorem dX7_best_82 : decode cX7_best 82 = .ok (.aload_n 0, 1) := by decide +kernel
theorem dX7_best_83 : decode cX7_best 83 = .ok (.iconst 3, 1) := by decide +kernel
theorem dX7_best_84 : decode cX7_best 84 = .ok (.invokevirtual 61, 3) := by decide +kernel
theorem dX7_best_87 : decode cX7_best 87 = .ok (.i2l, 1) := by decide +kernel
theorem dX7_best_88 : decode cX7_best 88 = .ok (.lreturn, 1) := by decide +kernel
theorem dX7_best_89 : decode cX7_best 89 = .ok (.aload_n 0, 1) := by decide +kernel
theorem dX7_best_90 : decode cX7_best 90 = .ok (.invokevirtual 73, 3) := by decide +kernel
theorem dX7_best_93 : decode cX7_best 93 = .ok (.aload_n 0, 1) := by decide +kernel
theorem dX7_best_94 : decode cX7_best 94 = .ok (.iconst 0, 1) := by decide +kernel
theorem dX7_best_95 : decode cX7_best 95 = .ok (.putfield 52, 3) := by decide +kernel
theorem dX7_best_98 : decode cX7_best 98 = .ok (.lload 6, 2) := by decide +kernel
theorem dX7_best_100 : decode cX7_best 100 = .ok (.lreturn, 1) := by decide +kernel
set_option maxRecDepth 20000 in
theorem ggX7_place_X2_placeOf : GoodIn wsX7_place wsX2_placeOf := goodIn_r _ [6, 7, 8, 9, 10, 11, 12, 13, 14, 15, 16, 17, 18, 19, 20, 28, 29] (by decide +kernel) (by decide +kernel)
set_option maxRecDepth 20000 in
theorem gX7_place_X2_placeOf : GoodIn wsX7_place (wsV RX7 91 RX2 yX2_placeOf wsX2_placeOf) := goodIn_app (goodIn_of _ (by decide +kernel)) ggX7_place_X2_placeOf
theorem dX7_place_0 : decode cX7_place 0 = .ok (.aload_n 0, 1) := by decide +kernel
theorem dX7_place_1 : decode cX7_place 1 = .ok (.getfield 41, 3) := by decide +kernel
theorem dX7_place_4 : decode cX7_place 4 = .ok (.iload_n 1, 1) := by decide +kernel
theorem dX7_place_5 : decode cX7_place 5 = .ok (.invokevirtual 91, 3) := by decide +kernel
theorem dX7_place_8 : decode cX7_place 8 = .ok (.ireturn, 1) := by decide +kernel
set_option maxRecDepth 20000 in
theorem ggX7_stands_X2_jokerFor : GoodIn wsX7_stands wsX2_jokerFor := goodIn_r _ [6, 7, 8, 9, 10, 5, 11, 12, 13, 14, 15, 16, 17, 18, 19, 20, 21, 22, 23, 24, 25, 33, 34] (by decide +kernel) (by decide +kernel)
set_option maxRecDepth 20000 in
theorem gX7_stands_X2_jokerFor : GoodIn wsX7_stands (wsV RX7 94 RX2 yX2_jokerFor wsX2_jokerFor) := goodIn_app (goodIn_of _ (by decide +kernel)) ggX7_stands_X2_jokerFor
theorem dX7_stands_0 : decode cX7_stands 0 = .ok (.aload_n 0, 1) := by decide +kernel
theorem dX7_stands_1 : decode cX7_stands 1 = .ok (.getfield 41, 3) := by decide +kernel
theorem dX7_stands_4 : decode cX7_stands 4 = .ok (.iload_n 1, 1) := by decide +kernel
theorem dX7_stands_5 : decode cX7_stands 5 = .ok (.invokevirtual 94, 3) := by decide +kernel
theorem dX7_stands_8 : decode cX7_stands 8 = .ok (.ireturn, 1) := by decide +kernel
set_option maxRecDepth 20000 in
theorem ggX7_shows_X2_groups : GoodIn wsX7_shows wsX2_groups := goodIn_r _ [6, 7, 8, 9, 10, 11, 77, 78] (by decide +kernel) (by decide +kernel)
set_option maxRecDepth 20000 in
theorem gX7_shows_X2_groups : GoodIn wsX7_shows (wsV RX7 76 RX2 yX2_groups wsX2_groups) := goodIn_app (goodIn_of _ (by decide +kernel)) ggX7_shows_X2_groups
set_option maxRecDepth 20000 in
theorem ggX7_shows_X2_runs : GoodIn wsX7_shows wsX2_runs := goodIn_r _ [15, 7, 16, 17, 10, 18, 19, 20, 21, 22, 23, 24, 25, 77, 78] (by decide +kernel) (by decide +kernel)
set_option maxRecDepth 20000 in
theorem gX7_shows_X2_runs : GoodIn wsX7_shows (wsV RX7 80 RX2 yX2_runs wsX2_runs) := goodIn_app (goodIn_of _ (by decide +kernel)) ggX7_shows_X2_runs
set_option maxRecDepth 20000 in
theorem ggX7_shows_X2_shownCards : GoodIn wsX7_shows wsX2_shownCards := goodIn_r _ [29, 7, 30, 31, 10, 32, 19, 20, 21, 22, 23, 24, 25, 77, 78] (by decide +kernel) (by decide +kernel)
set_option maxRecDepth 20000 in
theorem gX7_shows_X2_shownCards : GoodIn wsX7_shows (wsV RX7 97 RX2 yX2_shownCards wsX2_shownCards) := goodIn_app (goodIn_of _ (by decide +kernel)) ggX7_shows_X2_shownCards
set_option maxRecDepth 20000 in
theorem ggX7_shows_X0_jokersIn : GoodIn wsX7_shows wsX0_jokersIn := goodIn_r _ [36, 37, 38, 39, 40, 41, 42, 43] (by decide +kernel) (by decide +kernel)
set_option maxRecDepth 20000 in
theorem gX7_shows_X0_jokersIn : GoodIn wsX7_shows (va_wsS RX7 104 yX0_jokersIn wsX0_jokersIn) := goodIn_app (goodIn_of _ (by decide +kernel)) ggX7_shows_X0_jokersIn
set_option maxRecDepth 20000 in
theorem ggX7_shows_X2_shownWorth : GoodIn wsX7_shows wsX2_shownWorth := goodIn_r _ [47, 7, 48, 49, 35, 50, 51, 52, 53, 54, 30, 31, 10, 32, 19, 20, 21, 22, 23, 24, 25, 77, 78] (by decide +kernel) (by decide +kernel)
set_option maxRecDepth 20000 in
theorem gX7_shows_X2_shownWorth : GoodIn wsX7_shows (wsV RX7 108 RX2 yX2_shownWorth wsX2_shownWorth) := goodIn_app (goodIn_of _ (by decide +kernel)) ggX7_shows_X2_shownWorth
set_option maxRecDepth 20000 in
theorem ggX7_shows_X2_longestRun : GoodIn wsX7_shows wsX2_longestRun := goodIn_r _ [58, 7, 59, 60, 53, 61, 62, 63, 10, 64, 65, 9, 11, 66, 17, 18, 67, 68, 69, 77, 78] (by decide +kernel) (by decide +kernel)
set_option maxRecDepth 20000 in
theorem gX7_shows_X2_longestRun : GoodIn wsX7_shows (wsV RX7 111 RX2 yX2_longestRun wsX2_longestRun) := goodIn_app (goodIn_of _ (by decide +kernel)) ggX7_shows_X2_longestRun
theorem dX7_shows_0 : decode cX7_shows 0 = .ok (.iload_n 1, 1) := by decide +kernel
theorem dX7_shows_1 : decode cX7_shows 1 = .ok (.tableswitch 90 0 5 #[39, 47, 55, 63, 74, 82], 39) := by decide +kernel
theorem dX7_shows_40 : decode cX7_shows 40 = .ok (.aload_n 0, 1) := by decide +kernel
theorem dX7_shows_41 : decode cX7_shows 41 = .ok (.getfield 41, 3) := by decide +kernel
theorem dX7_shows_44 : decode cX7_shows 44 = .ok (.invokevirtual 76, 3) := by decide +kernel
theorem dX7_shows_47 : decode cX7_shows 47 = .ok (.ireturn, 1) := by decide +kernel
theorem dX7_shows_48 : decode cX7_shows 48 = .ok (.aload_n 0, 1) := by decide +kernel
theorem dX7_shows_49 : decode cX7_shows 49 = .ok (.getfield 41, 3) := by decide +kernel
theorem dX7_shows_52 : decode cX7_shows 52 = .ok (.invokevirtual 80, 3) := by decide +kernel
theorem dX7_shows_55 : decode cX7_shows 55 = .ok (.ireturn, 1) := by decide +kernel
theorem dX7_shows_56 : decode cX7_shows 56 = .ok (.aload_n 0, 1) := by decide +kernel
theorem dX7_shows_57 : decode cX7_shows 57 = .ok (.getfield 41, 3) := by decide +kernel
theorem dX7_shows_60 : decode cX7_shows 60 = .ok (.invokevirtual 97, 3) := by decide +kernel
theorem dX7_shows_63 : decode cX7_shows 63 = .ok (.ireturn, 1) := by decide +kernel
theorem dX7_shows_64 : decode cX7_shows 64 = .ok (.aload_n 0, 1) := by decide +kernel
theorem dX7_shows_65 : decode cX7_shows 65 = .ok (.getfield 41, 3) := by decide +kernel
theorem dX7_shows_68 : decode cX7_shows 68 = .ok (.getfield 100, 3) := by decide +kernel
theorem dX7_shows_71 : decode cX7_shows 71 = .ok (.invokestatic 104, 3) := by decide +kernel
theorem dX7_shows_74 : decode cX7_shows 74 = .ok (.ireturn, 1) := by decide +kernel
theorem dX7_shows_75 : decode cX7_shows 75 = .ok (.aload_n 0, 1) := by decide +kernel
theorem dX7_shows_76 : decode cX7_shows 76 = .ok (.getfield 41, 3) := by decide +kernel
theorem dX7_shows_79 : decode cX7_shows 79 = .ok (.invokevirtual 108, 3) := by decide +kernel
theorem dX7_shows_82 : decode cX7_shows 82 = .ok (.ireturn, 1) := by decide +kernel
theorem dX7_shows_83 : decode cX7_shows 83 = .ok (.aload_n 0, 1) := by decide +kernel
theorem dX7_shows_84 : decode cX7_shows 84 = .ok (.getfield 41, 3) := by decide +kernel
theorem dX7_shows_87 : decode cX7_shows 87 = .ok (.invokevirtual 111, 3) := by decide +kernel
theorem dX7_shows_90 : decode cX7_shows 90 = .ok (.ireturn, 1) := by decide +kernel
theorem dX7_shows_91 : decode cX7_shows 91 = .ok (.iconst (-1), 1) := by decide +kernel
theorem dX7_shows_92 : decode cX7_shows 92 = .ok (.ireturn, 1) := by decide +kernel
set_option maxRecDepth 20000 in
theorem ggX7_worth_X0_isSet : GoodIn wsX7_worth wsX0_isSet := goodIn_r _ [5] (by decide +kernel) (by decide +kernel)
set_option maxRecDepth 20000 in
theorem gX7_worth_X0_isSet : GoodIn wsX7_worth (va_wsS RX7 55 yX0_isSet wsX0_isSet) := goodIn_app (goodIn_of _ (by decide +kernel)) ggX7_worth_X0_isSet
set_option maxRecDepth 20000 in
theorem ggX7_worth_X7_refuse : GoodIn wsX7_worth wsX7_refuse := goodIn_r _ [10, 1, 41, 42, 43, 44, 45, 46, 47] (by decide +kernel) (by decide +kernel)
set_option maxRecDepth 20000 in
theorem gX7_worth_X7_refuse : GoodIn wsX7_worth (wsV RX7 61 RX7 yX7_refuse wsX7_refuse) := goodIn_app (goodIn_of _ (by decide +kernel)) ggX7_worth_X7_refuse
set_option maxRecDepth 20000 in
theorem ggX7_worth_X0_worthOfSet : GoodIn wsX7_worth wsX0_worthOfSet := goodIn_r _ [13, 14, 15, 4, 16, 17, 18, 19, 20, 21, 22, 23, 24, 25, 26, 27, 28, 29, 30, 31, 32, 33, 34, 35, 36, 37, 38, 39, 40] (by decide +kernel) (by decide +kernel)
set_option maxRecDepth 20000 in
theorem gX7_worth_X0_worthOfSet : GoodIn wsX7_worth (va_wsS RX7 114 yX0_worthOfSet wsX0_worthOfSet) := goodIn_app (goodIn_of _ (by decide +kernel)) ggX7_worth_X0_worthOfSet
theorem dX7_worth_0 : decode cX7_worth 0 = .ok (.lload_n 1, 1) := by decide +kernel
theorem dX7_worth_1 : decode cX7_worth 1 = .ok (.invokestatic 55, 3) := by decide +kernel
theorem dX7_worth_4 : decode cX7_worth 4 = .ok (.ifCond .ne 9, 3) := by decide +kernel
theorem dX7_worth_7 : decode cX7_worth 7 = .ok (.aload_n 0, 1) := by decide +kernel
theorem dX7_worth_8 : decode cX7_worth 8 = .ok (.iconst 1, 1) := by decide +kernel
theorem dX7_worth_9 : decode cX7_worth 9 = .ok (.invokevirtual 61, 3) := by decide +kernel
theorem dX7_worth_12 : decode cX7_worth 12 = .ok (.ireturn, 1) := by decide +kernel
theorem dX7_worth_13 : decode cX7_worth 13 = .ok (.aload_n 0, 1) := by decide +kernel
theorem dX7_worth_14 : decode cX7_worth 14 = .ok (.iconst 0, 1) := by decide +kernel
theorem dX7_worth_15 : decode cX7_worth 15 = .ok (.putfield 52, 3) := by decide +kernel
theorem dX7_worth_18 : decode cX7_worth 18 = .ok (.lload_n 1, 1) := by decide +kernel
theorem dX7_worth_19 : decode cX7_worth 19 = .ok (.invokestatic 114, 3) := by decide +kernel
theorem dX7_worth_22 : decode cX7_worth 22 = .ok (.ireturn, 1) := by decide +kernel
theorem dX7_opening_0 : decode cX7_opening 0 = .ok (.iload_n 1, 1) := by decide +kernel
theorem dX7_opening_1 : decode cX7_opening 1 = .ok (.ifCond .lt 10, 3) := by decide +kernel
theorem dX7_opening_4 : decode cX7_opening 4 = .ok (.iload_n 1, 1) := by decide +kernel
theorem dX7_opening_5 : decode cX7_opening 5 = .ok (.sipush 200, 3) := by decide +kernel
theorem dX7_opening_8 : decode cX7_opening 8 = .ok (.if_icmp .le 10, 3) := by decide +kernel
theorem dX7_opening_11 : decode cX7_opening 11 = .ok (.aload_n 0, 1) := by decide +kernel
theorem dX7_opening_12 : decode cX7_opening 12 = .ok (.iconst 1, 1) := by decide +kernel
theorem dX7_opening_13 : decode cX7_opening 13 = .ok (.putfield 52, 3) := by decide +kernel
theorem dX7_opening_16 : decode cX7_opening 16 = .ok (.iconst 0, 1) := by decide +kernel
theorem dX7_opening_17 : decode cX7_opening 17 = .ok (.ireturn, 1) := by decide +kernel
theorem dX7_opening_18 : decode cX7_opening 18 = .ok (.aload_n 0, 1) := by decide +kernel
theorem dX7_opening_19 : decode cX7_opening 19 = .ok (.iload_n 1, 1) := by decide +kernel
theorem dX7_opening_20 : decode cX7_opening 20 = .ok (.putfield 48, 3) := by decide +kernel
theorem dX7_opening_23 : decode cX7_opening 23 = .ok (.aload_n 0, 1) := by decide +kernel
theorem dX7_opening_24 : decode cX7_opening 24 = .ok (.iconst 0, 1) := by decide +kernel
theorem dX7_opening_25 : decode cX7_opening 25 = .ok (.putfield 52, 3) := by decide +kernel
theorem dX7_opening_28 : decode cX7_opening 28 = .ok (.iconst 1, 1) := by decide +kernel
theorem dX7_opening_29 : decode cX7_opening 29 = .ok (.ireturn, 1) := by decide +kernel
set_option maxRecDepth 20000 in
theorem ggX7_deal_X1_begin : GoodIn wsX7_deal wsX1_begin := goodIn_r _ [8, 9, 10, 11, 12, 13, 14, 15, 16, 17, 18, 19, 20, 21, 22, 23, 24, 25, 26, 7, 27, 28, 29, 30, 31, 32, 33, 34, 35, 36, 37, 45, 46, 47, 48, 49, 50, 51, 52, 53, 54, 55, 56] (by decide +kernel) (by decide +kernel)
set_option maxRecDepth 20000 in
theorem gX7_deal_X1_begin : GoodIn wsX7_deal (wsV RX7 118 RX1 yX1_begin wsX1_begin) := goodIn_app (goodIn_of _ (by decide +kernel)) ggX7_deal_X1_begin
end
section
theorem dX7_deal_0 : decode cX7_deal 0 = .ok (.iload_n 1, 1) := by decide +kernel
theorem dX7_deal_1 : decode cX7_deal 1 = .ok (.iconst 2, 1) := by decide +kernel
theorem dX7_deal_2 : decode cX7_deal 2 = .ok (.if_icmp .lt 34, 3) := by decide +kernel
theorem dX7_deal_5 : decode cX7_deal 5 = .ok (.iload_n 1, 1) := by decide +kernel
theorem dX7_deal_6 : decode cX7_deal 6 = .ok (.iconst 4, 1) := by decide +kernel
theorem dX7_deal_7 : decode cX7_deal 7 = .ok (.if_icmp .gt 29, 3) := by decide +kernel
theorem dX7_deal_10 : decode cX7_deal 10 = .ok (.iload_n 2, 1) := by decide +kernel
theorem dX7_deal_11 : decode cX7_deal 11 = .ok (.iconst 1, 1) := by decide +kernel
theorem dX7_deal_12 : decode cX7_deal 12 = .ok (.if_icmp .lt 24, 3) := by decide +kernel
theorem dX7_deal_15 : decode cX7_deal 15 = .ok (.iload_n 2, 1) := by decide +kernel
theorem dX7_deal_16 : decode cX7_deal 16 = .ok (.bipush 13, 2) := by decide +kernel
theorem dX7_deal_18 : decode cX7_deal 18 = .ok (.if_icmp .gt 18, 3) := by decide +kernel
theorem dX7_deal_21 : decode cX7_deal 21 = .ok (.iload_n 3, 1) := by decide +kernel
theorem dX7_deal_22 : decode cX7_deal 22 = .ok (.iconst 1, 1) := by decide +kernel
theorem dX7_deal_23 : decode cX7_deal 23 = .ok (.if_icmp .lt 13, 3) := by decide +kernel
theorem dX7_deal_26 : decode cX7_deal 26 = .ok (.iload_n 3, 1) := by decide +kernel
theorem dX7_deal_27 : decode cX7_deal 27 = .ok (.ldc 117, 2) := by decide +kernel
theorem dX7_deal_29 : decode cX7_deal 29 = .ok (.if_icmp .gt 7, 3) := by decide +kernel
theorem dX7_deal_32 : decode cX7_deal 32 = .ok (.iconst 1, 1) := by decide +kernel
theorem dX7_deal_33 : decode cX7_deal 33 = .ok (.goto 4, 3) := by decide +kernel
theorem dX7_deal_36 : decode cX7_deal 36 = .ok (.iconst 0, 1) := by decide +kernel
theorem dX7_deal_37 : decode cX7_deal 37 = .ok (.istore 4, 2) := by decide +kernel
theorem dX7_deal_39 : decode cX7_deal 39 = .ok (.iload 4, 2) := by decide +kernel
theorem dX7_deal_41 : decode cX7_deal 41 = .ok (.ifCond .ne 10, 3) := by decide +kernel
theorem dX7_deal_44 : decode cX7_deal 44 = .ok (.aload_n 0, 1) := by decide +kernel
theorem dX7_deal_45 : decode cX7_deal 45 = .ok (.iconst 1, 1) := by decide +kernel
theorem dX7_deal_46 : decode cX7_deal 46 = .ok (.putfield 52, 3) := by decide +kernel
theorem dX7_deal_49 : decode cX7_deal 49 = .ok (.iconst 0, 1) := by decide +kernel
theorem dX7_deal_50 : decode cX7_deal 50 = .ok (.ireturn, 1) := by decide +kernel
theorem dX7_deal_51 : decode cX7_deal 51 = .ok (.aload_n 0, 1) := by decide +kernel
theorem dX7_deal_52 : decode cX7_deal 52 = .ok (.getfield 34, 3) := by decide +kernel
theorem dX7_deal_55 : decode cX7_deal 55 = .ok (.iload_n 1, 1) := by decide +kernel
theorem dX7_deal_56 : decode cX7_deal 56 = .ok (.iload_n 2, 1) := by decide +kernel
theorem dX7_deal_57 : decode cX7_deal 57 = .ok (.iload_n 3, 1) := by decide +kernel
theorem dX7_deal_58 : decode cX7_deal 58 = .ok (.invokevirtual 118, 3) := by decide +kernel
theorem dX7_deal_61 : decode cX7_deal 61 = .ok (.aload_n 0, 1) := by decide +kernel
theorem dX7_deal_62 : decode cX7_deal 62 = .ok (.iconst 0, 1) := by decide +kernel
theorem dX7_deal_63 : decode cX7_deal 63 = .ok (.putfield 52, 3) := by decide +kernel
theorem dX7_deal_66 : decode cX7_deal 66 = .ok (.iconst 1, 1) := by decide +kernel
theorem dX7_deal_67 : decode cX7_deal 67 = .ok (.ireturn, 1) := by decide +kernel
set_option maxRecDepth 20000 in
theorem ggX7_hand_X7_refuse : GoodIn wsX7_hand wsX7_refuse := goodIn_r _ [7, 2, 24, 25, 26, 27, 28, 29, 30] (by decide +kernel) (by decide +kernel)
set_option maxRecDepth 20000 in
theorem gX7_hand_X7_refuse : GoodIn wsX7_hand (wsV RX7 61 RX7 yX7_refuse wsX7_refuse) := goodIn_app (goodIn_of _ (by decide +kernel)) ggX7_hand_X7_refuse
set_option maxRecDepth 20000 in
theorem ggX7_hand_X1_isDealt : GoodIn wsX7_hand wsX1_isDealt := goodIn_r _ [12, 13, 31, 32, 33, 34, 35, 36, 37, 38, 39, 40, 41, 42] (by decide +kernel) (by decide +kernel)
set_option maxRecDepth 20000 in
theorem gX7_hand_X1_isDealt : GoodIn wsX7_hand (wsV RX7 122 RX1 yX1_isDealt wsX1_isDealt) := goodIn_app (goodIn_of _ (by decide +kernel)) ggX7_hand_X1_isDealt
set_option maxRecDepth 20000 in
theorem ggX7_hand_X1_has : GoodIn wsX7_hand wsX1_has := goodIn_r _ [17, 13, 31, 32, 33, 34, 35, 36, 37, 38, 39, 40, 41, 42] (by decide +kernel) (by decide +kernel)
set_option maxRecDepth 20000 in
theorem gX7_hand_X1_has : GoodIn wsX7_hand (wsV RX7 126 RX1 yX1_has wsX1_has) := goodIn_app (goodIn_of _ (by decide +kernel)) ggX7_hand_X1_has
set_option maxRecDepth 20000 in
theorem ggX7_hand_X1_handOf : GoodIn wsX7_hand wsX1_handOf := goodIn_r _ [21, 22, 23, 15, 16, 11, 17, 13, 31, 32, 33, 34, 35, 36, 37, 38, 39, 40, 41, 42] (by decide +kernel) (by decide +kernel)
set_option maxRecDepth 20000 in
theorem gX7_hand_X1_handOf : GoodIn wsX7_hand (wsV RX7 129 RX1 yX1_handOf wsX1_handOf) := goodIn_app (goodIn_of _ (by decide +kernel)) ggX7_hand_X1_handOf
theorem dX7_hand_0 : decode cX7_hand 0 = .ok (.iload_n 1, 1) := by decide +kernel
theorem dX7_hand_1 : decode cX7_hand 1 = .ok (.ifCond .lt 8, 3) := by decide +kernel
theorem dX7_hand_4 : decode cX7_hand 4 = .ok (.iload_n 1, 1) := by decide +kernel
theorem dX7_hand_5 : decode cX7_hand 5 = .ok (.iconst 4, 1) := by decide +kernel
theorem dX7_hand_6 : decode cX7_hand 6 = .ok (.if_icmp .lt 10, 3) := by decide +kernel
theorem dX7_hand_9 : decode cX7_hand 9 = .ok (.aload_n 0, 1) := by decide +kernel
theorem dX7_hand_10 : decode cX7_hand 10 = .ok (.iconst 1, 1) := by decide +kernel
theorem dX7_hand_11 : decode cX7_hand 11 = .ok (.invokevirtual 61, 3) := by decide +kernel
theorem dX7_hand_14 : decode cX7_hand 14 = .ok (.i2l, 1) := by decide +kernel
theorem dX7_hand_15 : decode cX7_hand 15 = .ok (.lreturn, 1) := by decide +kernel
theorem dX7_hand_16 : decode cX7_hand 16 = .ok (.aload_n 0, 1) := by decide +kernel
theorem dX7_hand_17 : decode cX7_hand 17 = .ok (.getfield 34, 3) := by decide +kernel
theorem dX7_hand_20 : decode cX7_hand 20 = .ok (.invokevirtual 122, 3) := by decide +kernel
theorem dX7_hand_23 : decode cX7_hand 23 = .ok (.ifCond .ne 10, 3) := by decide +kernel
theorem dX7_hand_26 : decode cX7_hand 26 = .ok (.aload_n 0, 1) := by decide +kernel
theorem dX7_hand_27 : decode cX7_hand 27 = .ok (.iconst 4, 1) := by decide +kernel
theorem dX7_hand_28 : decode cX7_hand 28 = .ok (.invokevirtual 61, 3) := by decide +kernel
theorem dX7_hand_31 : decode cX7_hand 31 = .ok (.i2l, 1) := by decide +kernel
theorem dX7_hand_32 : decode cX7_hand 32 = .ok (.lreturn, 1) := by decide +kernel
theorem dX7_hand_33 : decode cX7_hand 33 = .ok (.aload_n 0, 1) := by decide +kernel
theorem dX7_hand_34 : decode cX7_hand 34 = .ok (.getfield 34, 3) := by decide +kernel
theorem dX7_hand_37 : decode cX7_hand 37 = .ok (.iload_n 1, 1) := by decide +kernel
theorem dX7_hand_38 : decode cX7_hand 38 = .ok (.invokevirtual 126, 3) := by decide +kernel
theorem dX7_hand_41 : decode cX7_hand 41 = .ok (.ifCond .ne 10, 3) := by decide +kernel
theorem dX7_hand_44 : decode cX7_hand 44 = .ok (.aload_n 0, 1) := by decide +kernel
theorem dX7_hand_45 : decode cX7_hand 45 = .ok (.iconst 1, 1) := by decide +kernel
theorem dX7_hand_46 : decode cX7_hand 46 = .ok (.invokevirtual 61, 3) := by decide +kernel
theorem dX7_hand_49 : decode cX7_hand 49 = .ok (.i2l, 1) := by decide +kernel
theorem dX7_hand_50 : decode cX7_hand 50 = .ok (.lreturn, 1) := by decide +kernel
theorem dX7_hand_51 : decode cX7_hand 51 = .ok (.aload_n 0, 1) := by decide +kernel
theorem dX7_hand_52 : decode cX7_hand 52 = .ok (.iconst 0, 1) := by decide +kernel
theorem dX7_hand_53 : decode cX7_hand 53 = .ok (.putfield 52, 3) := by decide +kernel
theorem dX7_hand_56 : decode cX7_hand 56 = .ok (.aload_n 0, 1) := by decide +kernel
theorem dX7_hand_57 : decode cX7_hand 57 = .ok (.getfield 34, 3) := by decide +kernel
theorem dX7_hand_60 : decode cX7_hand 60 = .ok (.iload_n 1, 1) := by decide +kernel
theorem dX7_hand_61 : decode cX7_hand 61 = .ok (.invokevirtual 129, 3) := by decide +kernel
theorem dX7_hand_64 : decode cX7_hand 64 = .ok (.lreturn, 1) := by decide +kernel
set_option maxRecDepth 20000 in
theorem ggX7_table_X1_isDealt : GoodIn wsX7_table wsX1_isDealt := goodIn_r _ [7, 8, 21, 22, 23, 24, 25, 26, 27, 28, 29, 30, 31, 32] (by decide +kernel) (by decide +kernel)
set_option maxRecDepth 20000 in
theorem gX7_table_X1_isDealt : GoodIn wsX7_table (wsV RX7 122 RX1 yX1_isDealt wsX1_isDealt) := goodIn_app (goodIn_of _ (by decide +kernel)) ggX7_table_X1_isDealt
set_option maxRecDepth 20000 in
theorem ggX7_table_X7_refuse : GoodIn wsX7_table wsX7_refuse := goodIn_r _ [13, 2, 14, 15, 16, 17, 18, 19, 20] (by decide +kernel) (by decide +kernel)
set_option maxRecDepth 20000 in
theorem gX7_table_X7_refuse : GoodIn wsX7_table (wsV RX7 61 RX7 yX7_refuse wsX7_refuse) := goodIn_app (goodIn_of _ (by decide +kernel)) ggX7_table_X7_refuse
theorem dX7_table_0 : decode cX7_table 0 = .ok (.aload_n 0, 1) := by decide +kernel
theorem dX7_table_1 : decode cX7_table 1 = .ok (.getfield 34, 3) := by decide +kernel
theorem dX7_table_4 : decode cX7_table 4 = .ok (.invokevirtual 122, 3) := by decide +kernel
theorem dX7_table_7 : decode cX7_table 7 = .ok (.ifCond .ne 10, 3) := by decide +kernel
theorem dX7_table_10 : decode cX7_table 10 = .ok (.aload_n 0, 1) := by decide +kernel
theorem dX7_table_11 : decode cX7_table 11 = .ok (.iconst 4, 1) := by decide +kernel
theorem dX7_table_12 : decode cX7_table 12 = .ok (.invokevirtual 61, 3) := by decide +kernel
theorem dX7_table_15 : decode cX7_table 15 = .ok (.i2l, 1) := by decide +kernel
theorem dX7_table_16 : decode cX7_table 16 = .ok (.lreturn, 1) := by decide +kernel
theorem dX7_table_17 : decode cX7_table 17 = .ok (.aload_n 0, 1) := by decide +kernel
theorem dX7_table_18 : decode cX7_table 18 = .ok (.iconst 0, 1) := by decide +kernel
theorem dX7_table_19 : decode cX7_table 19 = .ok (.putfield 52, 3) := by decide +kernel
theorem dX7_table_22 : decode cX7_table 22 = .ok (.aload_n 0, 1) := by decide +kernel
theorem dX7_table_23 : decode cX7_table 23 = .ok (.getfield 34, 3) := by decide +kernel
theorem dX7_table_26 : decode cX7_table 26 = .ok (.getfield 133, 3) := by decide +kernel
theorem dX7_table_29 : decode cX7_table 29 = .ok (.lreturn, 1) := by decide +kernel
set_option maxRecDepth 20000 in
theorem ggX7_tell_X7_refuse : GoodIn wsX7_tell wsX7_refuse := goodIn_r _ [7, 2, 24, 25, 26, 27, 28, 29, 30] (by decide +kernel) (by decide +kernel)
set_option maxRecDepth 20000 in
theorem gX7_tell_X7_refuse : GoodIn wsX7_tell (wsV RX7 61 RX7 yX7_refuse wsX7_refuse) := goodIn_app (goodIn_of _ (by decide +kernel)) ggX7_tell_X7_refuse
set_option maxRecDepth 20000 in
theorem ggX7_tell_X1_isDealt : GoodIn wsX7_tell wsX1_isDealt := goodIn_r _ [12, 13, 31, 32, 33, 34, 35, 36, 37, 38, 39, 40, 41, 42] (by decide +kernel) (by decide +kernel)
set_option maxRecDepth 20000 in
theorem gX7_tell_X1_isDealt : GoodIn wsX7_tell (wsV RX7 122 RX1 yX1_isDealt wsX1_isDealt) := goodIn_app (goodIn_of _ (by decide +kernel)) ggX7_tell_X1_isDealt
set_option maxRecDepth 20000 in
theorem ggX7_tell_X1_fact : GoodIn wsX7_tell wsX1_fact := goodIn_r _ [17, 18, 19, 20, 21, 22, 23, 13, 31, 32, 33, 34, 35, 36, 37, 38, 39, 40, 41, 42] (by decide +kernel) (by decide +kernel)
set_option maxRecDepth 20000 in
theorem gX7_tell_X1_fact : GoodIn wsX7_tell (wsV RX7 136 RX1 yX1_fact wsX1_fact) := goodIn_app (goodIn_of _ (by decide +kernel)) ggX7_tell_X1_fact
theorem dX7_tell_0 : decode cX7_tell 0 = .ok (.iload_n 1, 1) := by decide +kernel
theorem dX7_tell_1 : decode cX7_tell 1 = .ok (.ifCond .lt 9, 3) := by decide +kernel
theorem dX7_tell_4 : decode cX7_tell 4 = .ok (.iload_n 1, 1) := by decide +kernel
theorem dX7_tell_5 : decode cX7_tell 5 = .ok (.bipush 6, 2) := by decide +kernel
theorem dX7_tell_7 : decode cX7_tell 7 = .ok (.if_icmp .le 9, 3) := by decide +kernel
theorem dX7_tell_10 : decode cX7_tell 10 = .ok (.aload_n 0, 1) := by decide +kernel
theorem dX7_tell_11 : decode cX7_tell 11 = .ok (.iconst 1, 1) := by decide +kernel
theorem dX7_tell_12 : decode cX7_tell 12 = .ok (.invokevirtual 61, 3) := by decide +kernel
theorem dX7_tell_15 : decode cX7_tell 15 = .ok (.ireturn, 1) := by decide +kernel
theorem dX7_tell_16 : decode cX7_tell 16 = .ok (.aload_n 0, 1) := by decide +kernel
theorem dX7_tell_17 : decode cX7_tell 17 = .ok (.getfield 34, 3) := by decide +kernel
theorem dX7_tell_20 : decode cX7_tell 20 = .ok (.invokevirtual 122, 3) := by decide +kernel
theorem dX7_tell_23 : decode cX7_tell 23 = .ok (.ifCond .ne 9, 3) := by decide +kernel
theorem dX7_tell_26 : decode cX7_tell 26 = .ok (.aload_n 0, 1) := by decide +kernel
theorem dX7_tell_27 : decode cX7_tell 27 = .ok (.iconst 4, 1) := by decide +kernel
theorem dX7_tell_28 : decode cX7_tell 28 = .ok (.invokevirtual 61, 3) := by decide +kernel
theorem dX7_tell_31 : decode cX7_tell 31 = .ok (.ireturn, 1) := by decide +kernel
theorem dX7_tell_32 : decode cX7_tell 32 = .ok (.aload_n 0, 1) := by decide +kernel
theorem dX7_tell_33 : decode cX7_tell 33 = .ok (.iconst 0, 1) := by decide +kernel
theorem dX7_tell_34 : decode cX7_tell 34 = .ok (.putfield 52, 3) := by decide +kernel
theorem dX7_tell_37 : decode cX7_tell 37 = .ok (.aload_n 0, 1) := by decide +kernel
theorem dX7_tell_38 : decode cX7_tell 38 = .ok (.getfield 34, 3) := by decide +kernel
theorem dX7_tell_41 : decode cX7_tell 41 = .ok (.iload_n 1, 1) := by decide +kernel
theorem dX7_tell_42 : decode cX7_tell 42 = .ok (.invokevirtual 136, 3) := by decide +kernel
theorem dX7_tell_45 : decode cX7_tell 45 = .ok (.ireturn, 1) := by decide +kernel
set_option maxRecDepth 20000 in
theorem ggX7_player_X7_refuse : GoodIn wsX7_player wsX7_refuse := goodIn_r _ [7, 2, 61, 62, 63, 64, 65, 66, 67] (by decide +kernel) (by decide +kernel)
set_option maxRecDepth 20000 in
theorem gX7_player_X7_refuse : GoodIn wsX7_player (wsV RX7 61 RX7 yX7_refuse wsX7_refuse) := goodIn_app (goodIn_of _ (by decide +kernel)) ggX7_player_X7_refuse
set_option maxRecDepth 20000 in
theorem ggX7_player_X1_isDealt : GoodIn wsX7_player wsX1_isDealt := goodIn_r _ [12, 13, 68, 69, 70, 71, 72, 73, 74, 75, 76, 77, 78, 79] (by decide +kernel) (by decide +kernel)
set_option maxRecDepth 20000 in
theorem gX7_player_X1_isDealt : GoodIn wsX7_player (wsV RX7 122 RX1 yX1_isDealt wsX1_isDealt) := goodIn_app (goodIn_of _ (by decide +kernel)) ggX7_player_X1_isDealt
set_option maxRecDepth 20000 in
theorem ggX7_player_X1_has : GoodIn wsX7_player wsX1_has := goodIn_r _ [17, 13, 68, 69, 70, 71, 72, 73, 74, 75, 76, 77, 78, 79] (by decide +kernel) (by decide +kernel)
set_option maxRecDepth 20000 in
theorem gX7_player_X1_has : GoodIn wsX7_player (wsV RX7 126 RX1 yX1_has wsX1_has) := goodIn_app (goodIn_of _ (by decide +kernel)) ggX7_player_X1_has
set_option maxRecDepth 20000 in
theorem ggX7_player_X1_hasOpened : GoodIn wsX7_player wsX1_hasOpened := goodIn_r _ [21, 22, 23, 15, 16, 11, 17, 13, 68, 69, 70, 71, 72, 73, 74, 75, 76, 77, 78, 79] (by decide +kernel) (by decide +kernel)
set_option maxRecDepth 20000 in
theorem gX7_player_X1_hasOpened : GoodIn wsX7_player (wsV RX7 139 RX1 yX1_hasOpened wsX1_hasOpened) := goodIn_app (goodIn_of _ (by decide +kernel)) ggX7_player_X1_hasOpened
set_option maxRecDepth 20000 in
theorem ggX7_player_X1_handOf : GoodIn wsX7_player wsX1_handOf := goodIn_r _ [27, 28, 23, 15, 16, 11, 17, 13, 68, 69, 70, 71, 72, 73, 74, 75, 76, 77, 78, 79] (by decide +kernel) (by decide +kernel)
set_option maxRecDepth 20000 in
theorem gX7_player_X1_handOf : GoodIn wsX7_player (wsV RX7 129 RX1 yX1_handOf wsX1_handOf) := goodIn_app (goodIn_of _ (by decide +kernel)) ggX7_player_X1_handOf
set_option maxRecDepth 20000 in
theorem ggX7_player_J13_bitCount_95d88 : GoodIn wsX7_player wsJ13_bitCount_95d88 := goodIn_r _ [32, 33, 34, 35] (by decide +kernel) (by decide +kernel)
set_option maxRecDepth 20000 in
theorem gX7_player_J13_bitCount_95d88 : GoodIn wsX7_player (va_wsS RX7 142 yJ13_bitCount_95d88 wsJ13_bitCount_95d88) := goodIn_app (goodIn_of _ (by decide +kernel)) ggX7_player_J13_bitCount_95d88
set_option maxRecDepth 20000 in
theorem ggX7_player_X0_worthOfSet : GoodIn wsX7_player wsX0_worthOfSet := goodIn_r _ [39, 40, 41, 38, 42, 43, 30, 31, 32, 33, 34, 35, 44, 45, 46, 47, 48, 49, 50, 51, 52, 53, 54, 55, 56, 57, 58, 59, 60] (by decide +kernel) (by decide +kernel)
set_option maxRecDepth 20000 in
theorem gX7_player_X0_worthOfSet : GoodIn wsX7_player (va_wsS RX7 114 yX0_worthOfSet wsX0_worthOfSet) := goodIn_app (goodIn_of _ (by decide +kernel)) ggX7_player_X0_worthOfSet
theorem dX7_player_0 : decode cX7_player 0 = .ok (.iload_n 2, 1) := by decide +kernel
theorem dX7_player_1 : decode cX7_player 1 = .ok (.ifCond .lt 8, 3) := by decide +kernel
theorem dX7_player_4 : decode cX7_player 4 = .ok (.iload_n 2, 1) := by decide +kernel
theorem dX7_player_5 : decode cX7_player 5 = .ok (.iconst 2, 1) := by decide +kernel
theorem dX7_player_6 : decode cX7_player 6 = .ok (.if_icmp .le 9, 3) := by decide +kernel
theorem dX7_player_9 : decode cX7_player 9 = .ok (.aload_n 0, 1) := by decide +kernel
theorem dX7_player_10 : decode cX7_player 10 = .ok (.iconst 1, 1) := by decide +kernel
theorem dX7_player_11 : decode cX7_player 11 = .ok (.invokevirtual 61, 3) := by decide +kernel
theorem dX7_player_14 : decode cX7_player 14 = .ok (.ireturn, 1) := by decide +kernel
theorem dX7_player_15 : decode cX7_player 15 = .ok (.aload_n 0, 1) := by decide +kernel
theorem dX7_player_16 : decode cX7_player 16 = .ok (.getfield 34, 3) := by decide +kernel
theorem dX7_player_19 : decode cX7_player 19 = .ok (.invokevirtual 122, 3) := by decide +kernel
theorem dX7_player_22 : decode cX7_player 22 = .ok (.ifCond .ne 9, 3) := by decide +kernel
theorem dX7_player_25 : decode cX7_player 25 = .ok (.aload_n 0, 1) := by decide +kernel
theorem dX7_player_26 : decode cX7_player 26 = .ok (.iconst 4, 1) := by decide +kernel
theorem dX7_player_27 : decode cX7_player 27 = .ok (.invokevirtual 61, 3) := by decide +kernel
theorem dX7_player_30 : decode cX7_player 30 = .ok (.ireturn, 1) := by decide +kernel
theorem dX7_player_31 : decode cX7_player 31 = .ok (.aload_n 0, 1) := by decide +kernel
theorem dX7_player_32 : decode cX7_player 32 = .ok (.getfield 34, 3) := by decide +kernel
theorem dX7_player_35 : decode cX7_player 35 = .ok (.iload_n 1, 1) := by decide +kernel
theorem dX7_player_36 : decode cX7_player 36 = .ok (.invokevirtual 126, 3) := by decide +kernel
theorem dX7_player_39 : decode cX7_player 39 = .ok (.ifCond .ne 9, 3) := by decide +kernel
theorem dX7_player_42 : decode cX7_player 42 = .ok (.aload_n 0, 1) := by decide +kernel
theorem dX7_player_43 : decode cX7_player 43 = .ok (.iconst 1, 1) := by decide +kernel
theorem dX7_player_44 : decode cX7_player 44 = .ok (.invokevirtual 61, 3) := by decide +kernel
theorem dX7_player_47 : decode cX7_player 47 = .ok (.ireturn, 1) := by decide +kernel
theorem dX7_player_48 : decode cX7_player 48 = .ok (.aload_n 0, 1) := by decide +kernel
theorem dX7_player_49 : decode cX7_player 49 = .ok (.iconst 0, 1) := by decide +kernel
theorem dX7_player_50 : decode cX7_player 50 = .ok (.putfield 52, 3) := by decide +kernel
theorem dX7_player_53 : decode cX7_player 53 = .ok (.iload_n 2, 1) := by decide +kernel
theorem dX7_player_54 : decode cX7_player 54 = .ok (.ifCond .ne 20, 3) := by decide +kernel
theorem dX7_player_57 : decode cX7_player 57 = .ok (.aload_n 0, 1) := by decide +kernel
theorem dX7_player_58 : decode cX7_player 58 = .ok (.getfield 34, 3) := by decide +kernel
theorem dX7_player_61 : decode cX7_player 61 = .ok (.iload_n 1, 1) := by decide +kernel
theorem dX7_player_62 : decode cX7_player 62 = .ok (.invokevirtual 139, 3) := by decide +kernel
theorem dX7_player_65 : decode cX7_player 65 = .ok (.ifCond .eq 7, 3) := by decide +kernel
theorem dX7_player_68 : decode cX7_player 68 = .ok (.iconst 1, 1) := by decide +kernel
theorem dX7_player_69 : decode cX7_player 69 = .ok (.goto 4, 3) := by decide +kernel
theorem dX7_player_72 : decode cX7_player 72 = .ok (.iconst 0, 1) := by decide +kernel
theorem dX7_player_73 : decode cX7_player 73 = .ok (.ireturn, 1) := by decide +kernel
theorem dX7_player_74 : decode cX7_player 74 = .ok (.aload_n 0, 1) := by decide +kernel
theorem dX7_player_75 : decode cX7_player 75 = .ok (.getfield 34, 3) := by decide +kernel
theorem dX7_player_78 : decode cX7_player 78 = .ok (.iload_n 1, 1) := by decide +kernel
theorem dX7_player_79 : decode cX7_player 79 = .ok (.invokevirtual 129, 3) := by decide +kernel
theorem dX7_player_82 : decode cX7_player 82 = .ok (.lstore_n 3, 1) := by decide +kernel
theorem dX7_player_83 : decode cX7_player 83 = .ok (.iload_n 2, 1) := by decide +kernel
theorem dX7_player_84 : decode cX7_player 84 = .ok (.iconst 1, 1) := by decide +kernel
theorem dX7_player_85 : decode cX7_player 85 = .ok (.if_icmp .ne 10, 3) := by decide +kernel
theorem dX7_player_88 : decode cX7_player 88 = .ok (.lload_n 3, 1) := by decide +kernel
theorem dX7_player_89 : decode cX7_player 89 = .ok (.invokestatic 142, 3) := by decide +kernel
theorem dX7_player_92 : decode cX7_player 92 = .ok (.goto 7, 3) := by decide +kernel
theorem dX7_player_95 : decode cX7_player 95 = .ok (.lload_n 3, 1) := by decide +kernel
theorem dX7_player_96 : decode cX7_player 96 = .ok (.invokestatic 114, 3) := by decide +kernel
theorem dX7_player_99 : decode cX7_player 99 = .ok (.ireturn, 1) := by decide +kernel
set_option maxRecDepth 20000 in
theorem ggX7_lay_X0_isSet : GoodIn wsX7_lay wsX0_isSet := goodIn_r _ [7] (by decide +kernel) (by decide +kernel)
set_option maxRecDepth 20000 in
theorem gX7_lay_X0_isSet : GoodIn wsX7_lay (va_wsS RX7 55 yX0_isSet wsX0_isSet) := goodIn_app (goodIn_of _ (by decide +kernel)) ggX7_lay_X0_isSet
set_option maxRecDepth 20000 in
theorem ggX7_lay_X7_refuse : GoodIn wsX7_lay wsX7_refuse := goodIn_r _ [12, 3, 135, 136, 137, 138, 139, 140, 141] (by decide +kernel) (by decide +kernel)
set_option maxRecDepth 20000 in
theorem gX7_lay_X7_refuse : GoodIn wsX7_lay (wsV RX7 61 RX7 yX7_refuse wsX7_refuse) := goodIn_app (goodIn_of _ (by decide +kernel)) ggX7_lay_X7_refuse
set_option maxRecDepth 20000 in
theorem ggX7_lay_X7_barToPlay : GoodIn wsX7_lay wsX7_barToPlay := goodIn_r _ [16, 1, 17, 18, 19, 20, 21, 22, 135, 136, 137, 138, 139, 140, 141, 142, 143, 144, 145, 146, 147, 148, 149, 150, 151, 152, 153] (by decide +kernel) (by decide +kernel)
set_option maxRecDepth 20000 in
theorem gX7_lay_X7_barToPlay : GoodIn wsX7_lay (wsV RX7 147 RX7 yX7_barToPlay wsX7_barToPlay) := goodIn_app (goodIn_of _ (by decide +kernel)) ggX7_lay_X7_barToPlay
set_option maxRecDepth 20000 in
theorem ggX7_lay_X1_handOf : GoodIn wsX7_lay wsX1_handOf := goodIn_r _ [26, 27, 28, 29, 30, 20, 31, 22, 142, 143, 144, 145, 146, 147, 148, 149, 150, 151, 152, 153] (by decide +kernel) (by decide +kernel)
set_option maxRecDepth 20000 in
theorem gX7_lay_X1_handOf : GoodIn wsX7_lay (wsV RX7 129 RX1 yX1_handOf wsX1_handOf) := goodIn_app (goodIn_of _ (by decide +kernel)) ggX7_lay_X1_handOf
set_option maxRecDepth 20000 in
theorem ggX7_lay_X7_tryLaying : GoodIn wsX7_lay wsX7_tryLaying := goodIn_r _ [35, 1, 36, 37, 38, 39, 40, 41, 20, 42, 43, 28, 29, 30, 31, 22, 44, 45, 46, 47, 48, 49, 50, 51, 52, 53, 54, 55, 56, 6, 57, 58, 59, 60, 61, 62, 63, 64, 65, 66, 67, 68, 69, 70, 71, 72, 73, 74, 75, 76, 77, 78, 79, 80, 81, 82, 83, 84, 85, 86, 87, 88, 89, 90, 91, 92, 93, 94, 95, 96, 97, 98, 99, 100, 101, 102, 103, 104, 105, 106, 107, 108, 109, 110, 111, 112, 113, 114, 135, 136, 137, 138, 139, 140, 141, 142, 143, 144, 145, 146, 147, 148, 149, 150, 151, 152, 153, 154, 155, 156, 157, 158] (by decide +kernel) (by decide +kernel)
set_option maxRecDepth 20000 in
theorem gX7_lay_X7_tryLaying : GoodIn wsX7_lay (wsV RX7 155 RX7 yX7_tryLaying wsX7_tryLaying) := goodIn_app (goodIn_of _ (by decide +kernel)) ggX7_lay_X7_tryLaying
set_option maxRecDepth 20000 in
theorem ggX7_lay_X7_carryOut : GoodIn wsX7_lay wsX7_carryOut := goodIn_r _ [118, 1, 119, 120, 121, 20, 122, 123, 27, 124, 43, 125, 126, 127, 128, 28, 29, 30, 31, 22, 129, 130, 131, 11, 132, 133, 37, 135, 136, 137, 138, 139, 140, 141, 142, 143, 144, 145, 146, 147, 148, 149, 150, 151, 152, 153] (by decide +kernel) (by decide +kernel)
set_option maxRecDepth 20000 in
theorem gX7_lay_X7_carryOut : GoodIn wsX7_lay (wsV RX7 158 RX7 yX7_carryOut wsX7_carryOut) := goodIn_app (goodIn_of _ (by decide +kernel)) ggX7_lay_X7_carryOut
set_option maxRecDepth 20000 in
theorem ggX7_lay_J13_bitCount_95d88 : GoodIn wsX7_lay wsJ13_bitCount_95d88 := goodIn_r _ [61, 62, 63, 64] (by decide +kernel) (by decide +kernel)
set_option maxRecDepth 20000 in
theorem gX7_lay_J13_bitCount_95d88 : GoodIn wsX7_lay (va_wsS RX7 142 yJ13_bitCount_95d88 wsJ13_bitCount_95d88) := goodIn_app (goodIn_of _ (by decide +kernel)) ggX7_lay_J13_bitCount_95d88
theorem dX7_lay_0 : decode cX7_lay 0 = .ok (.lload_n 1, 1) := by decide +kernel
theorem dX7_lay_1 : decode cX7_lay 1 = .ok (.invokestatic 55, 3) := by decide +kernel
theorem dX7_lay_4 : decode cX7_lay 4 = .ok (.ifCond .eq 9, 3) := by decide +kernel
theorem dX7_lay_7 : decode cX7_lay 7 = .ok (.lload_n 1, 1) := by decide +kernel
theorem dX7_lay_8 : decode cX7_lay 8 = .ok (.lconst 0, 1) := by decide +kernel
theorem dX7_lay_9 : decode cX7_lay 9 = .ok (.lcmp, 1) := by decide +kernel
theorem dX7_lay_10 : decode cX7_lay 10 = .ok (.ifCond .ne 9, 3) := by decide +kernel
theorem dX7_lay_13 : decode cX7_lay 13 = .ok (.aload_n 0, 1) := by decide +kernel
theorem dX7_lay_14 : decode cX7_lay 14 = .ok (.iconst 1, 1) := by decide +kernel
theorem dX7_lay_15 : decode cX7_lay 15 = .ok (.invokevirtual 61, 3) := by decide +kernel
theorem dX7_lay_18 : decode cX7_lay 18 = .ok (.ireturn, 1) := by decide +kernel
theorem dX7_lay_19 : decode cX7_lay 19 = .ok (.aload_n 0, 1) := by decide +kernel
theorem dX7_lay_20 : decode cX7_lay 20 = .ok (.invokevirtual 147, 3) := by decide +kernel
theorem dX7_lay_23 : decode cX7_lay 23 = .ok (.istore_n 3, 1) := by decide +kernel
theorem dX7_lay_24 : decode cX7_lay 24 = .ok (.iload_n 3, 1) := by decide +kernel
theorem dX7_lay_25 : decode cX7_lay 25 = .ok (.ifCond .eq 9, 3) := by decide +kernel
theorem dX7_lay_28 : decode cX7_lay 28 = .ok (.aload_n 0, 1) := by decide +kernel
theorem dX7_lay_29 : decode cX7_lay 29 = .ok (.iload_n 3, 1) := by decide +kernel
theorem dX7_lay_30 : decode cX7_lay 30 = .ok (.invokevirtual 61, 3) := by decide +kernel
theorem dX7_lay_33 : decode cX7_lay 33 = .ok (.ireturn, 1) := by decide +kernel
theorem dX7_lay_34 : decode cX7_lay 34 = .ok (.lload_n 1, 1) := by decide +kernel
theorem dX7_lay_35 : decode cX7_lay 35 = .ok (.aload_n 0, 1) := by decide +kernel
theorem dX7_lay_36 : decode cX7_lay 36 = .ok (.getfield 34, 3) := by decide +kernel
theorem dX7_lay_39 : decode cX7_lay 39 = .ok (.aload_n 0, 1) := by decide +kernel
theorem dX7_lay_40 : decode cX7_lay 40 = .ok (.getfield 34, 3) := by decide +kernel
theorem dX7_lay_43 : decode cX7_lay 43 = .ok (.getfield 150, 3) := by decide +kernel
theorem dX7_lay_46 : decode cX7_lay 46 = .ok (.invokevirtual 129, 3) := by decide +kernel
theorem dX7_lay_49 : decode cX7_lay 49 = .ok (.ldc2_w 153, 3) := by decide +kernel
theorem dX7_lay_52 : decode cX7_lay 52 = .ok (.lxor, 1) := by decide +kernel
theorem dX7_lay_53 : decode cX7_lay 53 = .ok (.land, 1) := by decide +kernel
theorem dX7_lay_54 : decode cX7_lay 54 = .ok (.lconst 0, 1) := by decide +kernel
theorem dX7_lay_55 : decode cX7_lay 55 = .ok (.lcmp, 1) := by decide +kernel
theorem dX7_lay_56 : decode cX7_lay 56 = .ok (.ifCond .eq 10, 3) := by decide +kernel
theorem dX7_lay_59 : decode cX7_lay 59 = .ok (.aload_n 0, 1) := by decide +kernel
theorem dX7_lay_60 : decode cX7_lay 60 = .ok (.bipush 6, 2) := by decide +kernel
theorem dX7_lay_62 : decode cX7_lay 62 = .ok (.invokevirtual 61, 3) := by decide +kernel
theorem dX7_lay_65 : decode cX7_lay 65 = .ok (.ireturn, 1) := by decide +kernel
theorem dX7_lay_66 : decode cX7_lay 66 = .ok (.aload_n 0, 1) := by decide +kernel
theorem dX7_lay_67 : decode cX7_lay 67 = .ok (.lload_n 1, 1) := by decide +kernel
theorem dX7_lay_68 : decode cX7_lay 68 = .ok (.invokevirtual 155, 3) := by decide +kernel
theorem dX7_lay_71 : decode cX7_lay 71 = .ok (.istore 4, 2) := by decide +kernel
theorem dX7_lay_73 : decode cX7_lay 73 = .ok (.iload 4, 2) := by decide +kernel
theorem dX7_lay_75 : decode cX7_lay 75 = .ok (.ifCond .eq 10, 3) := by decide +kernel
theorem dX7_lay_78 : decode cX7_lay 78 = .ok (.aload_n 0, 1) := by decide +kernel
theorem dX7_lay_79 : decode cX7_lay 79 = .ok (.iload 4, 2) := by decide +kernel
theorem dX7_lay_81 : decode cX7_lay 81 = .ok (.invokevirtual 61, 3) := by decide +kernel
theorem dX7_lay_84 : decode cX7_lay 84 = .ok (.ireturn, 1) := by decide +kernel
theorem dX7_lay_85 : decode cX7_lay 85 = .ok (.aload_n 0, 1) := by decide +kernel
theorem dX7_lay_86 : decode cX7_lay 86 = .ok (.lload_n 1, 1) := by decide +kernel
theorem dX7_lay_87 : decode cX7_lay 87 = .ok (.invokevirtual 158, 3) := by decide +kernel
theorem dX7_lay_90 : decode cX7_lay 90 = .ok (.aload_n 0, 1) := by decide +kernel
theorem dX7_lay_91 : decode cX7_lay 91 = .ok (.iconst 0, 1) := by decide +kernel
theorem dX7_lay_92 : decode cX7_lay 92 = .ok (.putfield 52, 3) := by decide +kernel
theorem dX7_lay_95 : decode cX7_lay 95 = .ok (.aload_n 0, 1) := by decide +kernel
theorem dX7_lay_96 : decode cX7_lay 96 = .ok (.getfield 34, 3) := by decide +kernel
theorem dX7_lay_99 : decode cX7_lay 99 = .ok (.getfield 133, 3) := by decide +kernel
theorem dX7_lay_102 : decode cX7_lay 102 = .ok (.invokestatic 142, 3) := by decide +kernel
theorem dX7_lay_105 : decode cX7_lay 105 = .ok (.ireturn, 1) := by decide +kernel
set_option maxRecDepth 20000 in
theorem ggX7_end_X7_barToPlay : GoodIn wsX7_end wsX7_barToPlay := goodIn_r _ [7, 2, 8, 9, 10, 11, 12, 13, 41, 42, 43, 44, 45, 46, 47, 48, 49, 50, 51, 52, 53, 54, 55, 56, 57, 58, 59] (by decide +kernel) (by decide +kernel)
set_option maxRecDepth 20000 in
theorem gX7_end_X7_barToPlay : GoodIn wsX7_end (wsV RX7 147 RX7 yX7_barToPlay wsX7_barToPlay) := goodIn_app (goodIn_of _ (by decide +kernel)) ggX7_end_X7_barToPlay
set_option maxRecDepth 20000 in
theorem ggX7_end_X7_refuse : GoodIn wsX7_end wsX7_refuse := goodIn_r _ [17, 1, 41, 42, 43, 44, 45, 46, 47] (by decide +kernel) (by decide +kernel)
set_option maxRecDepth 20000 in
theorem gX7_end_X7_refuse : GoodIn wsX7_end (wsV RX7 61 RX7 yX7_refuse wsX7_refuse) := goodIn_app (goodIn_of _ (by decide +kernel)) ggX7_end_X7_refuse
set_option maxRecDepth 20000 in
theorem ggX7_end_X1_endTurn : GoodIn wsX7_end wsX1_endTurn := goodIn_r _ [21, 22, 23, 24, 25, 13, 26, 27, 28, 29, 30, 11, 31, 32, 33, 34, 35, 36, 37, 38, 39, 40, 48, 49, 50, 51, 52, 53, 54, 55, 56, 57, 58, 59] (by decide +kernel) (by decide +kernel)
set_option maxRecDepth 20000 in
theorem gX7_end_X1_endTurn : GoodIn wsX7_end (wsV RX7 162 RX1 yX1_endTurn wsX1_endTurn) := goodIn_app (goodIn_of _ (by decide +kernel)) ggX7_end_X1_endTurn
theorem dX7_end_0 : decode cX7_end 0 = .ok (.aload_n 0, 1) := by decide +kernel
theorem dX7_end_1 : decode cX7_end 1 = .ok (.invokevirtual 147, 3) := by decide +kernel
theorem dX7_end_4 : decode cX7_end 4 = .ok (.istore_n 1, 1) := by decide +kernel
theorem dX7_end_5 : decode cX7_end 5 = .ok (.iload_n 1, 1) := by decide +kernel
theorem dX7_end_6 : decode cX7_end 6 = .ok (.ifCond .eq 9, 3) := by decide +kernel
theorem dX7_end_9 : decode cX7_end 9 = .ok (.aload_n 0, 1) := by decide +kernel
theorem dX7_end_10 : decode cX7_end 10 = .ok (.iload_n 1, 1) := by decide +kernel
theorem dX7_end_11 : decode cX7_end 11 = .ok (.invokevirtual 61, 3) := by decide +kernel
theorem dX7_end_14 : decode cX7_end 14 = .ok (.ireturn, 1) := by decide +kernel
theorem dX7_end_15 : decode cX7_end 15 = .ok (.aload_n 0, 1) := by decide +kernel
theorem dX7_end_16 : decode cX7_end 16 = .ok (.iconst 0, 1) := by decide +kernel
theorem dX7_end_17 : decode cX7_end 17 = .ok (.putfield 52, 3) := by decide +kernel
theorem dX7_end_20 : decode cX7_end 20 = .ok (.aload_n 0, 1) := by decide +kernel
theorem dX7_end_21 : decode cX7_end 21 = .ok (.getfield 34, 3) := by decide +kernel
theorem dX7_end_24 : decode cX7_end 24 = .ok (.invokevirtual 162, 3) := by decide +kernel
theorem dX7_end_27 : decode cX7_end 27 = .ok (.ireturn, 1) := by decide +kernel
set_option maxRecDepth 20000 in
theorem ggX7_robot_X7_isAim : GoodIn wsX7_robot wsX7_isAim := goodIn_r _ [6] (by decide +kernel) (by decide +kernel)
set_option maxRecDepth 20000 in
theorem gX7_robot_X7_isAim : GoodIn wsX7_robot (va_wsS RX7 83 yX7_isAim wsX7_isAim) := goodIn_app (goodIn_of _ (by decide +kernel)) ggX7_robot_X7_isAim
set_option maxRecDepth 20000 in
theorem ggX7_robot_X7_refuse : GoodIn wsX7_robot wsX7_refuse := goodIn_r _ [10, 2, 245, 246, 247, 248, 249, 250, 251] (by decide +kernel) (by decide +kernel)
set_option maxRecDepth 20000 in
theorem gX7_robot_X7_refuse : GoodIn wsX7_robot (wsV RX7 61 RX7 yX7_refuse wsX7_refuse) := goodIn_app (goodIn_of _ (by decide +kernel)) ggX7_robot_X7_refuse
set_option maxRecDepth 20000 in
theorem ggX7_robot_X7_barToPlay : GoodIn wsX7_robot wsX7_barToPlay := goodIn_r _ [14, 1, 15, 16, 17, 18, 19, 20, 245, 246, 247, 248, 249, 250, 251, 252, 253, 254, 255, 256, 257, 258, 259, 260, 261, 262, 263] (by decide +kernel) (by decide +kernel)
set_option maxRecDepth 20000 in
theorem gX7_robot_X7_barToPlay : GoodIn wsX7_robot (wsV RX7 147 RX7 yX7_barToPlay wsX7_barToPlay) := goodIn_app (goodIn_of _ (by decide +kernel)) ggX7_robot_X7_barToPlay
set_option maxRecDepth 20000 in
theorem ggX7_robot_X7_layAllBest : GoodIn wsX7_robot wsX7_layAllBest := goodIn_r _ [24, 1, 25, 26, 27, 28, 18, 29, 30, 31, 32, 33, 34, 20, 35, 36, 37, 38, 39, 40, 41, 42, 43, 44, 45, 46, 47, 48, 49, 50, 51, 52, 53, 54, 55, 56, 57, 58, 59, 60, 61, 62, 63, 64, 65, 66, 67, 68, 69, 70, 71, 72, 73, 74, 75, 76, 77, 78, 79, 80, 81, 82, 83, 84, 85, 86, 87, 88, 89, 90, 91, 92, 93, 94, 95, 96, 97, 98, 99, 100, 101, 102, 103, 104, 105, 106, 107, 108, 109, 110, 111, 112, 113, 114, 115, 116, 117, 118, 119, 120, 121, 122, 123, 124, 125, 126, 127, 128, 129, 130, 131, 132, 133, 134, 135, 136, 137, 138, 139, 140, 141, 142, 143, 144, 145, 146, 147, 148, 149, 150, 151, 152, 153, 154, 155, 156, 157, 158, 159, 160, 161, 162, 163, 164, 165, 166, 167, 168, 169, 170, 171, 172, 5, 173, 174, 175, 176, 177, 178, 179, 180, 181, 182, 183, 184, 185, 186, 187, 188, 189, 190, 191, 192, 193, 194, 195, 196, 197, 198, 199, 200, 201, 202, 203, 204, 205, 206, 207, 208, 209, 210, 211, 212, 213, 214, 215, 216, 217, 218, 219, 220, 221, 222, 223, 224, 225, 226, 227, 228, 229, 245, 246, 247, 248, 249, 250, 251, 252, 253, 254, 255, 256, 257, 258, 259, 260, 261, 262, 263, 264, 265, 266, 267, 268, 269, 270, 271, 272, 273, 274, 275, 276, 277, 278, 279, 280, 281, 282, 283, 284, 285] (by decide +kernel) (by decide +kernel)
set_option maxRecDepth 20000 in
theorem gX7_robot_X7_layAllBest : GoodIn wsX7_robot (wsV RX7 165 RX7 yX7_layAllBest wsX7_layAllBest) := goodIn_app (goodIn_of _ (by decide +kernel)) ggX7_robot_X7_layAllBest
set_option maxRecDepth 20000 in
theorem ggX7_robot_X1_endTurn : GoodIn wsX7_robot wsX1_endTurn := goodIn_r _ [233, 221, 218, 39, 234, 20, 222, 235, 236, 237, 238, 18, 239, 240, 241, 31, 32, 33, 34, 242, 243, 244, 252, 253, 254, 255, 256, 257, 258, 259, 260, 261, 262, 263] (by decide +kernel) (by decide +kernel)
set_option maxRecDepth 20000 in
theorem gX7_robot_X1_endTurn : GoodIn wsX7_robot (wsV RX7 162 RX1 yX1_endTurn wsX1_endTurn) := goodIn_app (goodIn_of _ (by decide +kernel)) ggX7_robot_X1_endTurn
theorem dX7_robot_0 : decode cX7_robot 0 = .ok (.iload_n 1, 1) := by decide +kernel
theorem dX7_robot_1 : decode cX7_robot 1 = .ok (.invokestatic 83, 3) := by decide +kernel
theorem dX7_robot_4 : decode cX7_robot 4 = .ok (.ifCond .ne 9, 3) := by decide +kernel
theorem dX7_robot_7 : decode cX7_robot 7 = .ok (.aload_n 0, 1) := by decide +kernel
theorem dX7_robot_8 : decode cX7_robot 8 = .ok (.iconst 1, 1) := by decide +kernel
theorem dX7_robot_9 : decode cX7_robot 9 = .ok (.invokevirtual 61, 3) := by decide +kernel
theorem dX7_robot_12 : decode cX7_robot 12 = .ok (.ireturn, 1) := by decide +kernel
theorem dX7_robot_13 : decode cX7_robot 13 = .ok (.aload_n 0, 1) := by decide +kernel
theorem dX7_robot_14 : decode cX7_robot 14 = .ok (.invokevirtual 147, 3) := by decide +kernel
theorem dX7_robot_17 : decode cX7_robot 17 = .ok (.istore_n 2, 1) := by decide +kernel
theorem dX7_robot_18 : decode cX7_robot 18 = .ok (.iload_n 2, 1) := by decide +kernel
theorem dX7_robot_19 : decode cX7_robot 19 = .ok (.ifCond .eq 9, 3) := by decide +kernel
theorem dX7_robot_22 : decode cX7_robot 22 = .ok (.aload_n 0, 1) := by decide +kernel
theorem dX7_robot_23 : decode cX7_robot 23 = .ok (.iload_n 2, 1) := by decide +kernel
theorem dX7_robot_24 : decode cX7_robot 24 = .ok (.invokevirtual 61, 3) := by decide +kernel
theorem dX7_robot_27 : decode cX7_robot 27 = .ok (.ireturn, 1) := by decide +kernel
theorem dX7_robot_28 : decode cX7_robot 28 = .ok (.aload_n 0, 1) := by decide +kernel
theorem dX7_robot_29 : decode cX7_robot 29 = .ok (.iload_n 1, 1) := by decide +kernel
theorem dX7_robot_30 : decode cX7_robot 30 = .ok (.invokevirtual 165, 3) := by decide +kernel
theorem dX7_robot_33 : decode cX7_robot 33 = .ok (.istore_n 3, 1) := by decide +kernel
theorem dX7_robot_34 : decode cX7_robot 34 = .ok (.aload_n 0, 1) := by decide +kernel
theorem dX7_robot_35 : decode cX7_robot 35 = .ok (.getfield 34, 3) := by decide +kernel
theorem dX7_robot_38 : decode cX7_robot 38 = .ok (.getfield 168, 3) := by decide +kernel
theorem dX7_robot_41 : decode cX7_robot 41 = .ok (.ifCond .ne 11, 3) := by decide +kernel
theorem dX7_robot_44 : decode cX7_robot 44 = .ok (.aload_n 0, 1) := by decide +kernel
theorem dX7_robot_45 : decode cX7_robot 45 = .ok (.getfield 34, 3) := by decide +kernel
theorem dX7_robot_48 : decode cX7_robot 48 = .ok (.invokevirtual 162, 3) := by decide +kernel
theorem dX7_robot_51 : decode cX7_robot 51 = .ok (.pop, 1) := by decide +kernel
theorem dX7_robot_52 : decode cX7_robot 52 = .ok (.aload_n 0, 1) := by decide +kernel
theorem dX7_robot_53 : decode cX7_robot 53 = .ok (.iconst 0, 1) := by decide +kernel
theorem dX7_robot_54 : decode cX7_robot 54 = .ok (.putfield 52, 3) := by decide +kernel
theorem dX7_robot_57 : decode cX7_robot 57 = .ok (.iload_n 3, 1) := by decide +kernel
theorem dX7_robot_58 : decode cX7_robot 58 = .ok (.ireturn, 1) := by decide +kernel
theorem dX7_refuse_0 : decode cX7_refuse 0 = .ok (.aload_n 0, 1) := by decide +kernel
theorem dX7_refuse_1 : decode cX7_refuse 1 = .ok (.iload_n 1, 1) := by decide +kernel
theorem dX7_refuse_2 : decode cX7_refuse 2 = .ok (.putfield 52, 3) := by decide +kernel
theorem dX7_refuse_5 : decode cX7_refuse 5 = .ok (.iconst (-1), 1) := by decide +kernel
theorem dX7_refuse_6 : decode cX7_refuse 6 = .ok (.ireturn, 1) := by decide +kernel
end
section
theorem dX7_isAim_0 : decode cX7_isAim 0 = .ok (.iload_n 0, 1) := by decide +kernel
theorem dX7_isAim_1 : decode cX7_isAim 1 = .ok (.ifCond .eq 8, 3) := by decide +kernel
theorem dX7_isAim_4 : decode cX7_isAim 4 = .ok (.iload_n 0, 1) := by decide +kernel
theorem dX7_isAim_5 : decode cX7_isAim 5 = .ok (.iconst 1, 1) := by decide +kernel
theorem dX7_isAim_6 : decode cX7_isAim 6 = .ok (.if_icmp .ne 7, 3) := by decide +kernel
theorem dX7_isAim_9 : decode cX7_isAim 9 = .ok (.iconst 1, 1) := by decide +kernel
theorem dX7_isAim_10 : decode cX7_isAim 10 = .ok (.goto 4, 3) := by decide +kernel
theorem dX7_isAim_13 : decode cX7_isAim 13 = .ok (.iconst 0, 1) := by decide +kernel
theorem dX7_isAim_14 : decode cX7_isAim 14 = .ok (.ireturn, 1) := by decide +kernel
set_option maxRecDepth 20000 in
theorem ggX7_barToPlay_X1_isDealt : GoodIn wsX7_barToPlay wsX1_isDealt := goodIn_r _ [6, 7, 15, 16, 17, 18, 19, 20, 21, 22, 23, 24, 25, 26] (by decide +kernel) (by decide +kernel)
set_option maxRecDepth 20000 in
theorem gX7_barToPlay_X1_isDealt : GoodIn wsX7_barToPlay (wsV RX7 122 RX1 yX1_isDealt wsX1_isDealt) := goodIn_app (goodIn_of _ (by decide +kernel)) ggX7_barToPlay_X1_isDealt
theorem dX7_barToPlay_0 : decode cX7_barToPlay 0 = .ok (.aload_n 0, 1) := by decide +kernel
theorem dX7_barToPlay_1 : decode cX7_barToPlay 1 = .ok (.getfield 34, 3) := by decide +kernel
theorem dX7_barToPlay_4 : decode cX7_barToPlay 4 = .ok (.invokevirtual 122, 3) := by decide +kernel
theorem dX7_barToPlay_7 : decode cX7_barToPlay 7 = .ok (.ifCond .ne 5, 3) := by decide +kernel
theorem dX7_barToPlay_10 : decode cX7_barToPlay 10 = .ok (.iconst 4, 1) := by decide +kernel
theorem dX7_barToPlay_11 : decode cX7_barToPlay 11 = .ok (.ireturn, 1) := by decide +kernel
theorem dX7_barToPlay_12 : decode cX7_barToPlay 12 = .ok (.aload_n 0, 1) := by decide +kernel
theorem dX7_barToPlay_13 : decode cX7_barToPlay 13 = .ok (.getfield 34, 3) := by decide +kernel
theorem dX7_barToPlay_16 : decode cX7_barToPlay 16 = .ok (.getfield 168, 3) := by decide +kernel
theorem dX7_barToPlay_19 : decode cX7_barToPlay 19 = .ok (.ifCond .eq 7, 3) := by decide +kernel
theorem dX7_barToPlay_22 : decode cX7_barToPlay 22 = .ok (.iconst 5, 1) := by decide +kernel
theorem dX7_barToPlay_23 : decode cX7_barToPlay 23 = .ok (.goto 4, 3) := by decide +kernel
theorem dX7_barToPlay_26 : decode cX7_barToPlay 26 = .ok (.iconst 0, 1) := by decide +kernel
theorem dX7_barToPlay_27 : decode cX7_barToPlay 27 = .ok (.ireturn, 1) := by decide +kernel
theorem dX7_keepTrial_0 : decode cX7_keepTrial 0 = .ok (.aload_n 0, 1) := by decide +kernel
theorem dX7_keepTrial_1 : decode cX7_keepTrial 1 = .ok (.getfield 41, 3) := by decide +kernel
theorem dX7_keepTrial_4 : decode cX7_keepTrial 4 = .ok (.astore_n 1, 1) := by decide +kernel
theorem dX7_keepTrial_5 : decode cX7_keepTrial 5 = .ok (.aload_n 0, 1) := by decide +kernel
theorem dX7_keepTrial_6 : decode cX7_keepTrial 6 = .ok (.aload_n 0, 1) := by decide +kernel
theorem dX7_keepTrial_7 : decode cX7_keepTrial 7 = .ok (.getfield 45, 3) := by decide +kernel
theorem dX7_keepTrial_10 : decode cX7_keepTrial 10 = .ok (.putfield 41, 3) := by decide +kernel
theorem dX7_keepTrial_13 : decode cX7_keepTrial 13 = .ok (.aload_n 0, 1) := by decide +kernel
theorem dX7_keepTrial_14 : decode cX7_keepTrial 14 = .ok (.aload_n 1, 1) := by decide +kernel
theorem dX7_keepTrial_15 : decode cX7_keepTrial 15 = .ok (.putfield 45, 3) := by decide +kernel
theorem dX7_keepTrial_18 : decode cX7_keepTrial 18 = .ok (.return_, 1) := by decide +kernel
set_option maxRecDepth 20000 in
theorem ggX7_tryLaying_X1_hasOpened : GoodIn wsX7_tryLaying wsX1_hasOpened := goodIn_r _ [9, 10, 11, 12, 13, 8, 14, 15, 95, 96, 97, 98, 99, 100, 101, 102, 103, 104, 105, 106] (by decide +kernel) (by decide +kernel)
set_option maxRecDepth 20000 in
theorem gX7_tryLaying_X1_hasOpened : GoodIn wsX7_tryLaying (wsV RX7 139 RX1 yX1_hasOpened wsX1_hasOpened) := goodIn_app (goodIn_of _ (by decide +kernel)) ggX7_tryLaying_X1_hasOpened
set_option maxRecDepth 20000 in
theorem ggX7_tryLaying_X4_findFirst : GoodIn wsX7_tryLaying wsX4_findFirst := goodIn_r _ [20, 21, 22, 23, 24, 25, 26, 27, 28, 29, 30, 31, 32, 33, 34, 35, 36, 37, 38, 39, 40, 19, 41, 42, 43, 44, 45, 46, 47, 48, 49, 50, 51, 52, 53, 54, 55, 56, 57, 58, 59, 60, 61, 62, 63, 64, 65, 66, 67, 68, 69, 70, 71, 72, 107, 108, 109, 110, 111] (by decide +kernel) (by decide +kernel)
set_option maxRecDepth 20000 in
theorem gX7_tryLaying_X4_findFirst : GoodIn wsX7_tryLaying (wsV RX7 69 RX4 yX4_findFirst wsX4_findFirst) := goodIn_app (goodIn_of _ (by decide +kernel)) ggX7_tryLaying_X4_findFirst
set_option maxRecDepth 20000 in
theorem ggX7_tryLaying_X2_shownWorth : GoodIn wsX7_tryLaying wsX2_shownWorth := goodIn_r _ [77, 78, 79, 80, 29, 81, 82, 83, 84, 85, 86, 51, 45, 52, 87, 60, 61, 62, 63, 64, 65, 110, 111] (by decide +kernel) (by decide +kernel)
set_option maxRecDepth 20000 in
theorem gX7_tryLaying_X2_shownWorth : GoodIn wsX7_tryLaying (wsV RX7 108 RX2 yX2_shownWorth wsX2_shownWorth) := goodIn_app (goodIn_of _ (by decide +kernel)) ggX7_tryLaying_X2_shownWorth
theorem dX7_tryLaying_0 : decode cX7_tryLaying 0 = .ok (.aload_n 0, 1) := by decide +kernel
theorem dX7_tryLaying_1 : decode cX7_tryLaying 1 = .ok (.getfield 34, 3) := by decide +kernel
theorem dX7_tryLaying_4 : decode cX7_tryLaying 4 = .ok (.aload_n 0, 1) := by decide +kernel
theorem dX7_tryLaying_5 : decode cX7_tryLaying 5 = .ok (.getfield 34, 3) := by decide +kernel
theorem dX7_tryLaying_8 : decode cX7_tryLaying 8 = .ok (.getfield 150, 3) := by decide +kernel
theorem dX7_tryLaying_11 : decode cX7_tryLaying 11 = .ok (.invokevirtual 139, 3) := by decide +kernel
theorem dX7_tryLaying_14 : decode cX7_tryLaying 14 = .ok (.ifCond .ne 35, 3) := by decide +kernel
theorem dX7_tryLaying_17 : decode cX7_tryLaying 17 = .ok (.aload_n 0, 1) := by decide +kernel
theorem dX7_tryLaying_18 : decode cX7_tryLaying 18 = .ok (.getfield 27, 3) := by decide +kernel
theorem dX7_tryLaying_21 : decode cX7_tryLaying 21 = .ok (.lload_n 1, 1) := by decide +kernel
theorem dX7_tryLaying_22 : decode cX7_tryLaying 22 = .ok (.aload_n 0, 1) := by decide +kernel
theorem dX7_tryLaying_23 : decode cX7_tryLaying 23 = .ok (.getfield 45, 3) := by decide +kernel
theorem dX7_tryLaying_26 : decode cX7_tryLaying 26 = .ok (.invokevirtual 69, 3) := by decide +kernel
theorem dX7_tryLaying_29 : decode cX7_tryLaying 29 = .ok (.ifCond .eq 17, 3) := by decide +kernel
theorem dX7_tryLaying_32 : decode cX7_tryLaying 32 = .ok (.aload_n 0, 1) := by decide +kernel
theorem dX7_tryLaying_33 : decode cX7_tryLaying 33 = .ok (.getfield 45, 3) := by decide +kernel
theorem dX7_tryLaying_36 : decode cX7_tryLaying 36 = .ok (.invokevirtual 108, 3) := by decide +kernel
theorem dX7_tryLaying_39 : decode cX7_tryLaying 39 = .ok (.aload_n 0, 1) := by decide +kernel
theorem dX7_tryLaying_40 : decode cX7_tryLaying 40 = .ok (.getfield 48, 3) := by decide +kernel
theorem dX7_tryLaying_43 : decode cX7_tryLaying 43 = .ok (.if_icmp .ge 6, 3) := by decide +kernel
theorem dX7_tryLaying_46 : decode cX7_tryLaying 46 = .ok (.bipush 7, 2) := by decide +kernel
theorem dX7_tryLaying_48 : decode cX7_tryLaying 48 = .ok (.ireturn, 1) := by decide +kernel
theorem dX7_tryLaying_49 : decode cX7_tryLaying 49 = .ok (.aload_n 0, 1) := by decide +kernel
theorem dX7_tryLaying_50 : decode cX7_tryLaying 50 = .ok (.getfield 27, 3) := by decide +kernel
theorem dX7_tryLaying_53 : decode cX7_tryLaying 53 = .ok (.aload_n 0, 1) := by decide +kernel
theorem dX7_tryLaying_54 : decode cX7_tryLaying 54 = .ok (.getfield 34, 3) := by decide +kernel
theorem dX7_tryLaying_57 : decode cX7_tryLaying 57 = .ok (.getfield 133, 3) := by decide +kernel
theorem dX7_tryLaying_60 : decode cX7_tryLaying 60 = .ok (.lload_n 1, 1) := by decide +kernel
theorem dX7_tryLaying_61 : decode cX7_tryLaying 61 = .ok (.lor, 1) := by decide +kernel
theorem dX7_tryLaying_62 : decode cX7_tryLaying 62 = .ok (.aload_n 0, 1) := by decide +kernel
theorem dX7_tryLaying_63 : decode cX7_tryLaying 63 = .ok (.getfield 45, 3) := by decide +kernel
theorem dX7_tryLaying_66 : decode cX7_tryLaying 66 = .ok (.invokevirtual 69, 3) := by decide +kernel
theorem dX7_tryLaying_69 : decode cX7_tryLaying 69 = .ok (.ifCond .eq 7, 3) := by decide +kernel
theorem dX7_tryLaying_72 : decode cX7_tryLaying 72 = .ok (.iconst 0, 1) := by decide +kernel
theorem dX7_tryLaying_73 : decode cX7_tryLaying 73 = .ok (.goto 4, 3) := by decide +kernel
theorem dX7_tryLaying_76 : decode cX7_tryLaying 76 = .ok (.iconst 3, 1) := by decide +kernel
theorem dX7_tryLaying_77 : decode cX7_tryLaying 77 = .ok (.ireturn, 1) := by decide +kernel
set_option maxRecDepth 20000 in
theorem ggX7_carryOut_X1_putDown : GoodIn wsX7_carryOut wsX1_putDown := goodIn_r _ [6, 7, 8, 9, 10, 11, 12, 13, 14, 15, 16, 17, 5, 18, 19, 34, 35, 36, 37, 38, 39, 40, 41, 42, 43, 44, 45] (by decide +kernel) (by decide +kernel)
set_option maxRecDepth 20000 in
theorem gX7_carryOut_X1_putDown : GoodIn wsX7_carryOut (wsV RX7 172 RX1 yX1_putDown wsX1_putDown) := goodIn_app (goodIn_of _ (by decide +kernel)) ggX7_carryOut_X1_putDown
set_option maxRecDepth 20000 in
theorem ggX7_carryOut_X7_keepTrial : GoodIn wsX7_carryOut wsX7_keepTrial := goodIn_r _ [24, 25, 26, 27, 28, 29, 30, 31, 32, 33] (by decide +kernel) (by decide +kernel)
set_option maxRecDepth 20000 in
theorem gX7_carryOut_X7_keepTrial : GoodIn wsX7_carryOut (wsV RX7 73 RX7 yX7_keepTrial wsX7_keepTrial) := goodIn_app (goodIn_of _ (by decide +kernel)) ggX7_carryOut_X7_keepTrial
theorem dX7_carryOut_0 : decode cX7_carryOut 0 = .ok (.aload_n 0, 1) := by decide +kernel
theorem dX7_carryOut_1 : decode cX7_carryOut 1 = .ok (.getfield 34, 3) := by decide +kernel
theorem dX7_carryOut_4 : decode cX7_carryOut 4 = .ok (.lload_n 1, 1) := by decide +kernel
theorem dX7_carryOut_5 : decode cX7_carryOut 5 = .ok (.invokevirtual 172, 3) := by decide +kernel
theorem dX7_carryOut_8 : decode cX7_carryOut 8 = .ok (.aload_n 0, 1) := by decide +kernel
theorem dX7_carryOut_9 : decode cX7_carryOut 9 = .ok (.invokevirtual 73, 3) := by decide +kernel
theorem dX7_carryOut_12 : decode cX7_carryOut 12 = .ok (.return_, 1) := by decide +kernel
set_option maxRecDepth 20000 in
theorem ggX7_layAllBest_X1_hasOpened : GoodIn wsX7_layAllBest wsX1_hasOpened := goodIn_r _ [7, 8, 9, 10, 11, 6, 12, 13, 217, 218, 219, 220, 221, 222, 223, 224, 225, 226, 227, 228] (by decide +kernel) (by decide +kernel)
set_option maxRecDepth 20000 in
theorem gX7_layAllBest_X1_hasOpened : GoodIn wsX7_layAllBest (wsV RX7 139 RX1 yX1_hasOpened wsX1_hasOpened) := goodIn_app (goodIn_of _ (by decide +kernel)) ggX7_layAllBest_X1_hasOpened
set_option maxRecDepth 20000 in
theorem ggX7_layAllBest_X1_handOf : GoodIn wsX7_layAllBest wsX1_handOf := goodIn_r _ [17, 18, 9, 10, 11, 6, 12, 13, 217, 218, 219, 220, 221, 222, 223, 224, 225, 226, 227, 228] (by decide +kernel) (by decide +kernel)
set_option maxRecDepth 20000 in
theorem gX7_layAllBest_X1_handOf : GoodIn wsX7_layAllBest (wsV RX7 129 RX1 yX1_handOf wsX1_handOf) := goodIn_app (goodIn_of _ (by decide +kernel)) ggX7_layAllBest_X1_handOf
set_option maxRecDepth 20000 in
theorem ggX7_layAllBest_X6_bestPart : GoodIn wsX7_layAllBest wsX6_bestPart := goodIn_r _ [23, 24, 25, 26, 27, 28, 29, 30, 31, 32, 33, 34, 35, 36, 37, 38, 39, 40, 41, 42, 43, 44, 45, 46, 22, 47, 48, 49, 50, 51, 52, 53, 54, 55, 56, 57, 58, 59, 60, 61, 62, 63, 64, 65, 66, 67, 68, 69, 70, 71, 72, 73, 74, 75, 76, 77, 78, 79, 80, 81, 82, 83, 84, 85, 86, 87, 88, 89, 90, 91, 92, 93, 94, 95, 96, 97, 98, 99, 100, 101, 102, 103, 104, 105, 106, 107, 108, 109, 110, 111, 112, 113, 114, 115, 116, 117, 118, 119, 120, 121, 122, 123, 124, 125, 126, 127, 128, 129, 130, 131, 132, 133, 134, 135, 136, 137, 138, 139, 140, 141, 142, 143, 144, 145, 146, 147, 148, 229, 230, 231, 232, 233, 234, 235, 236, 237, 238, 239, 240, 241, 242, 243, 244, 245] (by decide +kernel) (by decide +kernel)
set_option maxRecDepth 20000 in
theorem gX7_layAllBest_X6_bestPart : GoodIn wsX7_layAllBest (wsV RX7 87 RX6 yX6_bestPart wsX6_bestPart) := goodIn_app (goodIn_of _ (by decide +kernel)) ggX7_layAllBest_X6_bestPart
set_option maxRecDepth 20000 in
theorem ggX7_layAllBest_X7_tryLaying : GoodIn wsX7_layAllBest wsX7_tryLaying := goodIn_r _ [153, 1, 154, 155, 156, 3, 4, 5, 6, 7, 8, 9, 10, 11, 12, 13, 157, 158, 159, 160, 161, 162, 163, 164, 165, 166, 167, 168, 34, 35, 36, 37, 38, 39, 40, 41, 42, 43, 169, 170, 171, 172, 173, 174, 139, 85, 140, 175, 77, 78, 176, 84, 86, 177, 107, 108, 178, 114, 115, 179, 88, 89, 90, 91, 92, 93, 180, 117, 118, 119, 120, 121, 122, 181, 182, 183, 184, 185, 186, 187, 80, 81, 82, 29, 30, 31, 188, 189, 210, 211, 212, 213, 214, 215, 216, 217, 218, 219, 220, 221, 222, 223, 224, 225, 226, 227, 228, 246, 247, 248, 249, 250] (by decide +kernel) (by decide +kernel)
set_option maxRecDepth 20000 in
theorem gX7_layAllBest_X7_tryLaying : GoodIn wsX7_layAllBest (wsV RX7 155 RX7 yX7_tryLaying wsX7_tryLaying) := goodIn_app (goodIn_of _ (by decide +kernel)) ggX7_layAllBest_X7_tryLaying
set_option maxRecDepth 20000 in
theorem ggX7_layAllBest_X7_carryOut : GoodIn wsX7_layAllBest wsX7_carryOut := goodIn_r _ [193, 1, 194, 195, 196, 6, 197, 198, 18, 199, 8, 200, 201, 202, 203, 9, 10, 11, 12, 13, 204, 205, 206, 152, 207, 208, 155, 210, 211, 212, 213, 214, 215, 216, 217, 218, 219, 220, 221, 222, 223, 224, 225, 226, 227, 228] (by decide +kernel) (by decide +kernel)
set_option maxRecDepth 20000 in
theorem gX7_layAllBest_X7_carryOut : GoodIn wsX7_layAllBest (wsV RX7 158 RX7 yX7_carryOut wsX7_carryOut) := goodIn_app (goodIn_of _ (by decide +kernel)) ggX7_layAllBest_X7_carryOut
set_option maxRecDepth 20000 in
theorem ggX7_layAllBest_J13_bitCount_95d88 : GoodIn wsX7_layAllBest wsJ13_bitCount_95d88 := goodIn_r _ [40, 41, 42, 43] (by decide +kernel) (by decide +kernel)
set_option maxRecDepth 20000 in
theorem gX7_layAllBest_J13_bitCount_95d88 : GoodIn wsX7_layAllBest (va_wsS RX7 142 yJ13_bitCount_95d88 wsJ13_bitCount_95d88) := goodIn_app (goodIn_of _ (by decide +kernel)) ggX7_layAllBest_J13_bitCount_95d88
theorem dX7_layAllBest_0 : decode cX7_layAllBest 0 = .ok (.iconst 0, 1) := by decide +kernel
theorem dX7_layAllBest_1 : decode cX7_layAllBest 1 = .ok (.istore_n 2, 1) := by decide +kernel
theorem dX7_layAllBest_2 : decode cX7_layAllBest 2 = .ok (.iconst 0, 1) := by decide +kernel
theorem dX7_layAllBest_3 : decode cX7_layAllBest 3 = .ok (.istore_n 3, 1) := by decide +kernel
theorem dX7_layAllBest_4 : decode cX7_layAllBest 4 = .ok (.iload_n 3, 1) := by decide +kernel
theorem dX7_layAllBest_5 : decode cX7_layAllBest 5 = .ok (.bipush 54, 2) := by decide +kernel
theorem dX7_layAllBest_7 : decode cX7_layAllBest 7 = .ok (.if_icmp .ge 108, 3) := by decide +kernel
theorem dX7_layAllBest_10 : decode cX7_layAllBest 10 = .ok (.aload_n 0, 1) := by decide +kernel
theorem dX7_layAllBest_11 : decode cX7_layAllBest 11 = .ok (.getfield 34, 3) := by decide +kernel
theorem dX7_layAllBest_14 : decode cX7_layAllBest 14 = .ok (.getfield 168, 3) := by decide +kernel
theorem dX7_layAllBest_17 : decode cX7_layAllBest 17 = .ok (.ifCond .ne 98, 3) := by decide +kernel
theorem dX7_layAllBest_20 : decode cX7_layAllBest 20 = .ok (.aload_n 0, 1) := by decide +kernel
theorem dX7_layAllBest_21 : decode cX7_layAllBest 21 = .ok (.getfield 34, 3) := by decide +kernel
theorem dX7_layAllBest_24 : decode cX7_layAllBest 24 = .ok (.aload_n 0, 1) := by decide +kernel
theorem dX7_layAllBest_25 : decode cX7_layAllBest 25 = .ok (.getfield 34, 3) := by decide +kernel
theorem dX7_layAllBest_28 : decode cX7_layAllBest 28 = .ok (.getfield 150, 3) := by decide +kernel
theorem dX7_layAllBest_31 : decode cX7_layAllBest 31 = .ok (.invokevirtual 139, 3) := by decide +kernel
theorem dX7_layAllBest_34 : decode cX7_layAllBest 34 = .ok (.ifCond .eq 13, 3) := by decide +kernel
theorem dX7_layAllBest_37 : decode cX7_layAllBest 37 = .ok (.aload_n 0, 1) := by decide +kernel
theorem dX7_layAllBest_38 : decode cX7_layAllBest 38 = .ok (.getfield 34, 3) := by decide +kernel
theorem dX7_layAllBest_41 : decode cX7_layAllBest 41 = .ok (.getfield 133, 3) := by decide +kernel
theorem dX7_layAllBest_44 : decode cX7_layAllBest 44 = .ok (.goto 4, 3) := by decide +kernel
theorem dX7_layAllBest_47 : decode cX7_layAllBest 47 = .ok (.lconst 0, 1) := by decide +kernel
theorem dX7_layAllBest_48 : decode cX7_layAllBest 48 = .ok (.lstore 4, 2) := by decide +kernel
theorem dX7_layAllBest_50 : decode cX7_layAllBest 50 = .ok (.aload_n 0, 1) := by decide +kernel
theorem dX7_layAllBest_51 : decode cX7_layAllBest 51 = .ok (.getfield 20, 3) := by decide +kernel
theorem dX7_layAllBest_54 : decode cX7_layAllBest 54 = .ok (.lload 4, 2) := by decide +kernel
theorem dX7_layAllBest_56 : decode cX7_layAllBest 56 = .ok (.aload_n 0, 1) := by decide +kernel
theorem dX7_layAllBest_57 : decode cX7_layAllBest 57 = .ok (.getfield 34, 3) := by decide +kernel
theorem dX7_layAllBest_60 : decode cX7_layAllBest 60 = .ok (.aload_n 0, 1) := by decide +kernel
theorem dX7_layAllBest_61 : decode cX7_layAllBest 61 = .ok (.getfield 34, 3) := by decide +kernel
theorem dX7_layAllBest_64 : decode cX7_layAllBest 64 = .ok (.getfield 150, 3) := by decide +kernel
theorem dX7_layAllBest_67 : decode cX7_layAllBest 67 = .ok (.invokevirtual 129, 3) := by decide +kernel
theorem dX7_layAllBest_70 : decode cX7_layAllBest 70 = .ok (.iload_n 1, 1) := by decide +kernel
theorem dX7_layAllBest_71 : decode cX7_layAllBest 71 = .ok (.invokevirtual 87, 3) := by decide +kernel
theorem dX7_layAllBest_74 : decode cX7_layAllBest 74 = .ok (.lstore 6, 2) := by decide +kernel
theorem dX7_layAllBest_76 : decode cX7_layAllBest 76 = .ok (.lload 6, 2) := by decide +kernel
theorem dX7_layAllBest_78 : decode cX7_layAllBest 78 = .ok (.lconst 0, 1) := by decide +kernel
theorem dX7_layAllBest_79 : decode cX7_layAllBest 79 = .ok (.lcmp, 1) := by decide +kernel
theorem dX7_layAllBest_80 : decode cX7_layAllBest 80 = .ok (.ifCond .le 35, 3) := by decide +kernel
theorem dX7_layAllBest_83 : decode cX7_layAllBest 83 = .ok (.aload_n 0, 1) := by decide +kernel
theorem dX7_layAllBest_84 : decode cX7_layAllBest 84 = .ok (.lload 6, 2) := by decide +kernel
theorem dX7_layAllBest_86 : decode cX7_layAllBest 86 = .ok (.invokevirtual 155, 3) := by decide +kernel
theorem dX7_layAllBest_89 : decode cX7_layAllBest 89 = .ok (.ifCond .eq 6, 3) := by decide +kernel
theorem dX7_layAllBest_92 : decode cX7_layAllBest 92 = .ok (.goto 23, 3) := by decide +kernel
theorem dX7_layAllBest_95 : decode cX7_layAllBest 95 = .ok (.aload_n 0, 1) := by decide +kernel
theorem dX7_layAllBest_96 : decode cX7_layAllBest 96 = .ok (.lload 6, 2) := by decide +kernel
theorem dX7_layAllBest_98 : decode cX7_layAllBest 98 = .ok (.invokevirtual 158, 3) := by decide +kernel
theorem dX7_layAllBest_101 : decode cX7_layAllBest 101 = .ok (.iload_n 2, 1) := by decide +kernel
theorem dX7_layAllBest_102 : decode cX7_layAllBest 102 = .ok (.lload 6, 2) := by decide +kernel
theorem dX7_layAllBest_104 : decode cX7_layAllBest 104 = .ok (.invokestatic 142, 3) := by decide +kernel
theorem dX7_layAllBest_107 : decode cX7_layAllBest 107 = .ok (.iadd, 1) := by decide +kernel
theorem dX7_layAllBest_108 : decode cX7_layAllBest 108 = .ok (.istore_n 2, 1) := by decide +kernel
theorem dX7_layAllBest_109 : decode cX7_layAllBest 109 = .ok (.iinc 3 1, 3) := by decide +kernel
theorem dX7_layAllBest_112 : decode cX7_layAllBest 112 = .ok (.goto (-108), 3) := by decide +kernel
theorem dX7_layAllBest_115 : decode cX7_layAllBest 115 = .ok (.iload_n 2, 1) := by decide +kernel
theorem dX7_layAllBest_116 : decode cX7_layAllBest 116 = .ok (.ireturn, 1) := by decide +kernel
theorem dX8_init_0 : decode cX8_init 0 = .ok (.aload_n 0, 1) := by decide +kernel
theorem dX8_init_1 : decode cX8_init 1 = .ok (.invokespecial 1, 3) := by decide +kernel
theorem dX8_init_4 : decode cX8_init 4 = .ok (.aload_n 0, 1) := by decide +kernel
theorem dX8_init_5 : decode cX8_init 5 = .ok (.ldc 7, 2) := by decide +kernel
theorem dX8_init_7 : decode cX8_init 7 = .ok (.newarray .long, 2) := by decide +kernel
theorem dX8_init_9 : decode cX8_init 9 = .ok (.putfield 8, 3) := by decide +kernel
theorem dX8_init_12 : decode cX8_init 12 = .ok (.aload_n 0, 1) := by decide +kernel
theorem dX8_init_13 : decode cX8_init 13 = .ok (.bipush 52, 2) := by decide +kernel
theorem dX8_init_15 : decode cX8_init 15 = .ok (.newarray .int, 2) := by decide +kernel
theorem dX8_init_17 : decode cX8_init 17 = .ok (.putfield 14, 3) := by decide +kernel
theorem dX8_init_20 : decode cX8_init 20 = .ok (.aload_n 0, 1) := by decide +kernel
theorem dX8_init_21 : decode cX8_init 21 = .ok (.bipush 52, 2) := by decide +kernel
theorem dX8_init_23 : decode cX8_init 23 = .ok (.newarray .boolean, 2) := by decide +kernel
theorem dX8_init_25 : decode cX8_init 25 = .ok (.putfield 18, 3) := by decide +kernel
theorem dX8_init_28 : decode cX8_init 28 = .ok (.aload_n 0, 1) := by decide +kernel
theorem dX8_init_29 : decode cX8_init 29 = .ok (.ldc 7, 2) := by decide +kernel
theorem dX8_init_31 : decode cX8_init 31 = .ok (.newarray .int, 2) := by decide +kernel
theorem dX8_init_33 : decode cX8_init 33 = .ok (.putfield 22, 3) := by decide +kernel
theorem dX8_init_36 : decode cX8_init 36 = .ok (.aload_n 0, 1) := by decide +kernel
theorem dX8_init_37 : decode cX8_init 37 = .ok (.sipush 3840, 3) := by decide +kernel
theorem dX8_init_40 : decode cX8_init 40 = .ok (.newarray .boolean, 2) := by decide +kernel
theorem dX8_init_42 : decode cX8_init 42 = .ok (.putfield 25, 3) := by decide +kernel
theorem dX8_init_45 : decode cX8_init 45 = .ok (.aload_n 0, 1) := by decide +kernel
theorem dX8_init_46 : decode cX8_init 46 = .ok (.sipush 3840, 3) := by decide +kernel
theorem dX8_init_49 : decode cX8_init 49 = .ok (.newarray .boolean, 2) := by decide +kernel
theorem dX8_init_51 : decode cX8_init 51 = .ok (.putfield 28, 3) := by decide +kernel
theorem dX8_init_54 : decode cX8_init 54 = .ok (.aload_n 0, 1) := by decide +kernel
theorem dX8_init_55 : decode cX8_init 55 = .ok (.bipush 30, 2) := by decide +kernel
theorem dX8_init_57 : decode cX8_init 57 = .ok (.putfield 31, 3) := by decide +kernel
theorem dX8_init_60 : decode cX8_init 60 = .ok (.aload_n 0, 1) := by decide +kernel
theorem dX8_init_61 : decode cX8_init 61 = .ok (.iconst 4, 1) := by decide +kernel
theorem dX8_init_62 : decode cX8_init 62 = .ok (.newarray .long, 2) := by decide +kernel
theorem dX8_init_64 : decode cX8_init 64 = .ok (.putfield 35, 3) := by decide +kernel
theorem dX8_init_67 : decode cX8_init 67 = .ok (.aload_n 0, 1) := by decide +kernel
theorem dX8_init_68 : decode cX8_init 68 = .ok (.iconst 4, 1) := by decide +kernel
theorem dX8_init_69 : decode cX8_init 69 = .ok (.newarray .boolean, 2) := by decide +kernel
theorem dX8_init_71 : decode cX8_init 71 = .ok (.putfield 38, 3) := by decide +kernel
theorem dX8_init_74 : decode cX8_init 74 = .ok (.aload_n 0, 1) := by decide +kernel
theorem dX8_init_75 : decode cX8_init 75 = .ok (.bipush 54, 2) := by decide +kernel
theorem dX8_init_77 : decode cX8_init 77 = .ok (.newarray .int, 2) := by decide +kernel
theorem dX8_init_79 : decode cX8_init 79 = .ok (.putfield 41, 3) := by decide +kernel
theorem dX8_init_82 : decode cX8_init 82 = .ok (.aload_n 0, 1) := by decide +kernel
theorem dX8_init_83 : decode cX8_init 83 = .ok (.bipush 52, 2) := by decide +kernel
theorem dX8_init_85 : decode cX8_init 85 = .ok (.newarray .int, 2) := by decide +kernel
theorem dX8_init_87 : decode cX8_init 87 = .ok (.putfield 44, 3) := by decide +kernel
theorem dX8_init_90 : decode cX8_init 90 = .ok (.aload_n 0, 1) := by decide +kernel
theorem dX8_init_91 : decode cX8_init 91 = .ok (.bipush 52, 2) := by decide +kernel
theorem dX8_init_93 : decode cX8_init 93 = .ok (.newarray .boolean, 2) := by decide +kernel
theorem dX8_init_95 : decode cX8_init 95 = .ok (.putfield 47, 3) := by decide +kernel
theorem dX8_init_98 : decode cX8_init 98 = .ok (.return_, 1) := by decide +kernel
theorem dX8_status_0 : decode cX8_status 0 = .ok (.aload_n 0, 1) := by decide +kernel
theorem dX8_status_1 : decode cX8_status 1 = .ok (.getfield 50, 3) := by decide +kernel
theorem dX8_status_4 : decode cX8_status 4 = .ok (.ireturn, 1) := by decide +kernel
theorem dX8_none_0 : decode cX8_none 0 = .ok (.aload_n 0, 1) := by decide +kernel
theorem dX8_none_1 : decode cX8_none 1 = .ok (.iload_n 1, 1) := by decide +kernel
theorem dX8_none_2 : decode cX8_none 2 = .ok (.putfield 50, 3) := by decide +kernel
theorem dX8_none_5 : decode cX8_none 5 = .ok (.iconst (-1), 1) := by decide +kernel
theorem dX8_none_6 : decode cX8_none 6 = .ok (.ireturn, 1) := by decide +kernel
theorem dX8_isSet_0 : decode cX8_isSet 0 = .ok (.lload_n 0, 1) := by decide +kernel
theorem dX8_isSet_1 : decode cX8_isSet 1 = .ok (.lconst 0, 1) := by decide +kernel
theorem dX8_isSet_2 : decode cX8_isSet 2 = .ok (.lcmp, 1) := by decide +kernel
theorem dX8_isSet_3 : decode cX8_isSet 3 = .ok (.ifCond .lt 15, 3) := by decide +kernel
theorem dX8_isSet_6 : decode cX8_isSet 6 = .ok (.lload_n 0, 1) := by decide +kernel
theorem dX8_isSet_7 : decode cX8_isSet 7 = .ok (.ldc2_w 53, 3) := by decide +kernel
theorem dX8_isSet_10 : decode cX8_isSet 10 = .ok (.lcmp, 1) := by decide +kernel
theorem dX8_isSet_11 : decode cX8_isSet 11 = .ok (.ifCond .gt 7, 3) := by decide +kernel
theorem dX8_isSet_14 : decode cX8_isSet 14 = .ok (.iconst 1, 1) := by decide +kernel
theorem dX8_isSet_15 : decode cX8_isSet 15 = .ok (.goto 4, 3) := by decide +kernel
theorem dX8_isSet_18 : decode cX8_isSet 18 = .ok (.iconst 0, 1) := by decide +kernel
theorem dX8_isSet_19 : decode cX8_isSet 19 = .ok (.ireturn, 1) := by decide +kernel
theorem dX8_has_0 : decode cX8_has 0 = .ok (.lload_n 0, 1) := by decide +kernel
theorem dX8_has_1 : decode cX8_has 1 = .ok (.iload_n 2, 1) := by decide +kernel
theorem dX8_has_2 : decode cX8_has 2 = .ok (.lshr, 1) := by decide +kernel
theorem dX8_has_3 : decode cX8_has 3 = .ok (.lconst 1, 1) := by decide +kernel
theorem dX8_has_4 : decode cX8_has 4 = .ok (.land, 1) := by decide +kernel
theorem dX8_has_5 : decode cX8_has 5 = .ok (.lconst 1, 1) := by decide +kernel
theorem dX8_has_6 : decode cX8_has 6 = .ok (.lcmp, 1) := by decide +kernel
theorem dX8_has_7 : decode cX8_has 7 = .ok (.ifCond .ne 7, 3) := by decide +kernel
theorem dX8_has_10 : decode cX8_has 10 = .ok (.iconst 1, 1) := by decide +kernel
theorem dX8_has_11 : decode cX8_has 11 = .ok (.goto 4, 3) := by decide +kernel
theorem dX8_has_14 : decode cX8_has 14 = .ok (.iconst 0, 1) := by decide +kernel
theorem dX8_has_15 : decode cX8_has 15 = .ok (.ireturn, 1) := by decide +kernel
theorem dX8_jokersOf_0 : decode cX8_jokersOf 0 = .ok (.lload_n 0, 1) := by decide +kernel
theorem dX8_jokersOf_1 : decode cX8_jokersOf 1 = .ok (.bipush 52, 2) := by decide +kernel
theorem dX8_jokersOf_3 : decode cX8_jokersOf 3 = .ok (.lshr, 1) := by decide +kernel
theorem dX8_jokersOf_4 : decode cX8_jokersOf 4 = .ok (.lconst 1, 1) := by decide +kernel
theorem dX8_jokersOf_5 : decode cX8_jokersOf 5 = .ok (.land, 1) := by decide +kernel
theorem dX8_jokersOf_6 : decode cX8_jokersOf 6 = .ok (.l2i, 1) := by decide +kernel
theorem dX8_jokersOf_7 : decode cX8_jokersOf 7 = .ok (.lload_n 0, 1) := by decide +kernel
theorem dX8_jokersOf_8 : decode cX8_jokersOf 8 = .ok (.bipush 53, 2) := by decide +kernel
theorem dX8_jokersOf_10 : decode cX8_jokersOf 10 = .ok (.lshr, 1) := by decide +kernel
theorem dX8_jokersOf_11 : decode cX8_jokersOf 11 = .ok (.lconst 1, 1) := by decide +kernel
theorem dX8_jokersOf_12 : decode cX8_jokersOf 12 = .ok (.land, 1) := by decide +kernel
theorem dX8_jokersOf_13 : decode cX8_jokersOf 13 = .ok (.l2i, 1) := by decide +kernel
theorem dX8_jokersOf_14 : decode cX8_jokersOf 14 = .ok (.iadd, 1) := by decide +kernel
theorem dX8_jokersOf_15 : decode cX8_jokersOf 15 = .ok (.ireturn, 1) := by decide +kernel
theorem dX8_worthOf_0 : decode cX8_worthOf 0 = .ok (.iload_n 0, 1) := by decide +kernel
theorem dX8_worthOf_1 : decode cX8_worthOf 1 = .ok (.bipush 51, 2) := by decide +kernel
theorem dX8_worthOf_3 : decode cX8_worthOf 3 = .ok (.if_icmp .le 8, 3) := by decide +kernel
theorem dX8_worthOf_6 : decode cX8_worthOf 6 = .ok (.bipush 20, 2) := by decide +kernel
theorem dX8_worthOf_8 : decode cX8_worthOf 8 = .ok (.goto 21, 3) := by decide +kernel
theorem dX8_worthOf_11 : decode cX8_worthOf 11 = .ok (.iload_n 0, 1) := by decide +kernel
theorem dX8_worthOf_12 : decode cX8_worthOf 12 = .ok (.iconst 4, 1) := by decide +kernel
theorem dX8_worthOf_13 : decode cX8_worthOf 13 = .ok (.idiv, 1) := by decide +kernel
theorem dX8_worthOf_14 : decode cX8_worthOf 14 = .ok (.bipush 8, 2) := by decide +kernel
theorem dX8_worthOf_16 : decode cX8_worthOf 16 = .ok (.if_icmp .le 8, 3) := by decide +kernel
theorem dX8_worthOf_19 : decode cX8_worthOf 19 = .ok (.bipush 10, 2) := by decide +kernel
theorem dX8_worthOf_21 : decode cX8_worthOf 21 = .ok (.goto 8, 3) := by decide +kernel
theorem dX8_worthOf_24 : decode cX8_worthOf 24 = .ok (.iload_n 0, 1) := by decide +kernel
theorem dX8_worthOf_25 : decode cX8_worthOf 25 = .ok (.iconst 4, 1) := by decide +kernel
theorem dX8_worthOf_26 : decode cX8_worthOf 26 = .ok (.idiv, 1) := by decide +kernel
theorem dX8_worthOf_27 : decode cX8_worthOf 27 = .ok (.iconst 1, 1) := by decide +kernel
theorem dX8_worthOf_28 : decode cX8_worthOf 28 = .ok (.iadd, 1) := by decide +kernel
theorem dX8_worthOf_29 : decode cX8_worthOf 29 = .ok (.ireturn, 1) := by decide +kernel
set_option maxRecDepth 20000 in
theorem ggX8_many_X8_has : GoodIn wsX8_many wsX8_has := goodIn_r _ [4] (by decide +kernel) (by decide +kernel)
set_option maxRecDepth 20000 in
theorem gX8_many_X8_has : GoodIn wsX8_many (va_wsS RX8 55 yX8_has wsX8_has) := goodIn_app (goodIn_of _ (by decide +kernel)) ggX8_many_X8_has
theorem dX8_many_0 : decode cX8_many 0 = .ok (.iconst 0, 1) := by decide +kernel
theorem dX8_many_1 : decode cX8_many 1 = .ok (.istore_n 2, 1) := by decide +kernel
theorem dX8_many_2 : decode cX8_many 2 = .ok (.iconst 0, 1) := by decide +kernel
theorem dX8_many_3 : decode cX8_many 3 = .ok (.istore_n 3, 1) := by decide +kernel
theorem dX8_many_4 : decode cX8_many 4 = .ok (.iload_n 3, 1) := by decide +kernel
theorem dX8_many_5 : decode cX8_many 5 = .ok (.bipush 54, 2) := by decide +kernel
theorem dX8_many_7 : decode cX8_many 7 = .ok (.if_icmp .ge 25, 3) := by decide +kernel
theorem dX8_many_10 : decode cX8_many 10 = .ok (.iload_n 2, 1) := by decide +kernel
theorem dX8_many_11 : decode cX8_many 11 = .ok (.lload_n 0, 1) := by decide +kernel
theorem dX8_many_12 : decode cX8_many 12 = .ok (.iload_n 3, 1) := by decide +kernel
theorem dX8_many_13 : decode cX8_many 13 = .ok (.invokestatic 55, 3) := by decide +kernel
theorem dX8_many_16 : decode cX8_many 16 = .ok (.ifCond .eq 7, 3) := by decide +kernel
theorem dX8_many_19 : decode cX8_many 19 = .ok (.iconst 1, 1) := by decide +kernel
theorem dX8_many_20 : decode cX8_many 20 = .ok (.goto 4, 3) := by decide +kernel
theorem dX8_many_23 : decode cX8_many 23 = .ok (.iconst 0, 1) := by decide +kernel
theorem dX8_many_24 : decode cX8_many 24 = .ok (.iadd, 1) := by decide +kernel
theorem dX8_many_25 : decode cX8_many 25 = .ok (.istore_n 2, 1) := by decide +kernel
theorem dX8_many_26 : decode cX8_many 26 = .ok (.iinc 3 1, 3) := by decide +kernel
theorem dX8_many_29 : decode cX8_many 29 = .ok (.goto (-25), 3) := by decide +kernel
theorem dX8_many_32 : decode cX8_many 32 = .ok (.iload_n 2, 1) := by decide +kernel
theorem dX8_many_33 : decode cX8_many 33 = .ok (.ireturn, 1) := by decide +kernel
set_option maxRecDepth 20000 in
theorem ggX8_worthAll_X8_has : GoodIn wsX8_worthAll wsX8_has := goodIn_r _ [4] (by decide +kernel) (by decide +kernel)
set_option maxRecDepth 20000 in
theorem gX8_worthAll_X8_has : GoodIn wsX8_worthAll (va_wsS RX8 55 yX8_has wsX8_has) := goodIn_app (goodIn_of _ (by decide +kernel)) ggX8_worthAll_X8_has
set_option maxRecDepth 20000 in
theorem ggX8_worthAll_X8_worthOf : GoodIn wsX8_worthAll wsX8_worthOf := goodIn_r _ [7] (by decide +kernel) (by decide +kernel)
set_option maxRecDepth 20000 in
theorem gX8_worthAll_X8_worthOf : GoodIn wsX8_worthAll (va_wsS RX8 59 yX8_worthOf wsX8_worthOf) := goodIn_app (goodIn_of _ (by decide +kernel)) ggX8_worthAll_X8_worthOf
theorem dX8_worthAll_0 : decode cX8_worthAll 0 = .ok (.iconst 0, 1) := by decide +kernel
theorem dX8_worthAll_1 : decode cX8_worthAll 1 = .ok (.istore_n 2, 1) := by decide +kernel
theorem dX8_worthAll_2 : decode cX8_worthAll 2 = .ok (.iconst 0, 1) := by decide +kernel
theorem dX8_worthAll_3 : decode cX8_worthAll 3 = .ok (.istore_n 3, 1) := by decide +kernel
theorem dX8_worthAll_4 : decode cX8_worthAll 4 = .ok (.iload_n 3, 1) := by decide +kernel
theorem dX8_worthAll_5 : decode cX8_worthAll 5 = .ok (.bipush 54, 2) := by decide +kernel
theorem dX8_worthAll_7 : decode cX8_worthAll 7 = .ok (.if_icmp .ge 28, 3) := by decide +kernel
theorem dX8_worthAll_10 : decode cX8_worthAll 10 = .ok (.iload_n 2, 1) := by decide +kernel
theorem dX8_worthAll_11 : decode cX8_worthAll 11 = .ok (.lload_n 0, 1) := by decide +kernel
theorem dX8_worthAll_12 : decode cX8_worthAll 12 = .ok (.iload_n 3, 1) := by decide +kernel
theorem dX8_worthAll_13 : decode cX8_worthAll 13 = .ok (.invokestatic 55, 3) := by decide +kernel
theorem dX8_worthAll_16 : decode cX8_worthAll 16 = .ok (.ifCond .eq 10, 3) := by decide +kernel
theorem dX8_worthAll_19 : decode cX8_worthAll 19 = .ok (.iload_n 3, 1) := by decide +kernel
theorem dX8_worthAll_20 : decode cX8_worthAll 20 = .ok (.invokestatic 59, 3) := by decide +kernel
theorem dX8_worthAll_23 : decode cX8_worthAll 23 = .ok (.goto 4, 3) := by decide +kernel
theorem dX8_worthAll_26 : decode cX8_worthAll 26 = .ok (.iconst 0, 1) := by decide +kernel
theorem dX8_worthAll_27 : decode cX8_worthAll 27 = .ok (.iadd, 1) := by decide +kernel
theorem dX8_worthAll_28 : decode cX8_worthAll 28 = .ok (.istore_n 2, 1) := by decide +kernel
theorem dX8_worthAll_29 : decode cX8_worthAll 29 = .ok (.iinc 3 1, 3) := by decide +kernel
theorem dX8_worthAll_32 : decode cX8_worthAll 32 = .ok (.goto (-28), 3) := by decide +kernel
theorem dX8_worthAll_35 : decode cX8_worthAll 35 = .ok (.iload_n 2, 1) := by decide +kernel
theorem dX8_worthAll_36 : decode cX8_worthAll 36 = .ok (.ireturn, 1) := by decide +kernel
theorem dX8_run_0 : decode cX8_run 0 = .ok (.iload_n 0, 1) := by decide +kernel
theorem dX8_run_1 : decode cX8_run 1 = .ok (.bipush 15, 2) := by decide +kernel
theorem dX8_run_3 : decode cX8_run 3 = .ok (.idiv, 1) := by decide +kernel
theorem dX8_run_4 : decode cX8_run 4 = .ok (.iconst 2, 1) := by decide +kernel
theorem dX8_run_5 : decode cX8_run 5 = .ok (.iload_n 1, 1) := by decide +kernel
theorem dX8_run_6 : decode cX8_run 6 = .ok (.imul, 1) := by decide +kernel
theorem dX8_run_7 : decode cX8_run 7 = .ok (.ishr, 1) := by decide +kernel
theorem dX8_run_8 : decode cX8_run 8 = .ok (.iconst 3, 1) := by decide +kernel
theorem dX8_run_9 : decode cX8_run 9 = .ok (.iand, 1) := by decide +kernel
theorem dX8_run_10 : decode cX8_run 10 = .ok (.ireturn, 1) := by decide +kernel
theorem dX8_inGroup_0 : decode cX8_inGroup 0 = .ok (.iload_n 0, 1) := by decide +kernel
theorem dX8_inGroup_1 : decode cX8_inGroup 1 = .ok (.iconst 3, 1) := by decide +kernel
theorem dX8_inGroup_2 : decode cX8_inGroup 2 = .ok (.idiv, 1) := by decide +kernel
theorem dX8_inGroup_3 : decode cX8_inGroup 3 = .ok (.iconst 5, 1) := by decide +kernel
theorem dX8_inGroup_4 : decode cX8_inGroup 4 = .ok (.irem, 1) := by decide +kernel
theorem dX8_inGroup_5 : decode cX8_inGroup 5 = .ok (.ireturn, 1) := by decide +kernel
theorem dX8_jokers_0 : decode cX8_jokers 0 = .ok (.iload_n 0, 1) := by decide +kernel
theorem dX8_jokers_1 : decode cX8_jokers 1 = .ok (.iconst 3, 1) := by decide +kernel
theorem dX8_jokers_2 : decode cX8_jokers 2 = .ok (.irem, 1) := by decide +kernel
theorem dX8_jokers_3 : decode cX8_jokers 3 = .ok (.ireturn, 1) := by decide +kernel
set_option maxRecDepth 20000 in
theorem ggX8_behind_X8_run : GoodIn wsX8_behind wsX8_run := goodIn_r _ [4] (by decide +kernel) (by decide +kernel)
set_option maxRecDepth 20000 in
theorem gX8_behind_X8_run : GoodIn wsX8_behind (va_wsS RX8 63 yX8_run wsX8_run) := goodIn_app (goodIn_of _ (by decide +kernel)) ggX8_behind_X8_run
set_option maxRecDepth 20000 in
theorem ggX8_behind_X8_inGroup : GoodIn wsX8_behind wsX8_inGroup := goodIn_r _ [7] (by decide +kernel) (by decide +kernel)
set_option maxRecDepth 20000 in
theorem gX8_behind_X8_inGroup : GoodIn wsX8_behind (va_wsS RX8 67 yX8_inGroup wsX8_inGroup) := goodIn_app (goodIn_of _ (by decide +kernel)) ggX8_behind_X8_inGroup
set_option maxRecDepth 20000 in
theorem ggX8_behind_X8_jokers : GoodIn wsX8_behind wsX8_jokers := goodIn_r _ [10] (by decide +kernel) (by decide +kernel)
set_option maxRecDepth 20000 in
theorem gX8_behind_X8_jokers : GoodIn wsX8_behind (va_wsS RX8 70 yX8_jokers wsX8_jokers) := goodIn_app (goodIn_of _ (by decide +kernel)) ggX8_behind_X8_jokers
end
section
theorem dX8_behind_0 : decode cX8_behind 0 = .ok (.iload_n 1, 1) := by decide +kernel
theorem dX8_behind_1 : decode cX8_behind 1 = .ok (.iconst 4, 1) := by decide +kernel
theorem dX8_behind_2 : decode cX8_behind 2 = .ok (.irem, 1) := by decide +kernel
theorem dX8_behind_3 : decode cX8_behind 3 = .ok (.istore 4, 2) := by decide +kernel
theorem dX8_behind_5 : decode cX8_behind 5 = .ok (.iload_n 0, 1) := by decide +kernel
theorem dX8_behind_6 : decode cX8_behind 6 = .ok (.iload 4, 2) := by decide +kernel
theorem dX8_behind_8 : decode cX8_behind 8 = .ok (.invokestatic 63, 3) := by decide +kernel
theorem dX8_behind_11 : decode cX8_behind 11 = .ok (.istore 5, 2) := by decide +kernel
theorem dX8_behind_13 : decode cX8_behind 13 = .ok (.iload_n 0, 1) := by decide +kernel
theorem dX8_behind_14 : decode cX8_behind 14 = .ok (.invokestatic 67, 3) := by decide +kernel
theorem dX8_behind_17 : decode cX8_behind 17 = .ok (.istore 6, 2) := by decide +kernel
theorem dX8_behind_19 : decode cX8_behind 19 = .ok (.iload_n 0, 1) := by decide +kernel
theorem dX8_behind_20 : decode cX8_behind 20 = .ok (.invokestatic 70, 3) := by decide +kernel
theorem dX8_behind_23 : decode cX8_behind 23 = .ok (.iload_n 3, 1) := by decide +kernel
theorem dX8_behind_24 : decode cX8_behind 24 = .ok (.ifCond .eq 7, 3) := by decide +kernel
theorem dX8_behind_27 : decode cX8_behind 27 = .ok (.iconst 1, 1) := by decide +kernel
theorem dX8_behind_28 : decode cX8_behind 28 = .ok (.goto 4, 3) := by decide +kernel
theorem dX8_behind_31 : decode cX8_behind 31 = .ok (.iconst 0, 1) := by decide +kernel
theorem dX8_behind_32 : decode cX8_behind 32 = .ok (.iadd, 1) := by decide +kernel
theorem dX8_behind_33 : decode cX8_behind 33 = .ok (.istore 7, 2) := by decide +kernel
theorem dX8_behind_35 : decode cX8_behind 35 = .ok (.iload 7, 2) := by decide +kernel
theorem dX8_behind_37 : decode cX8_behind 37 = .ok (.iconst 2, 1) := by decide +kernel
theorem dX8_behind_38 : decode cX8_behind 38 = .ok (.if_icmp .gt 37, 3) := by decide +kernel
theorem dX8_behind_41 : decode cX8_behind 41 = .ok (.iload_n 2, 1) := by decide +kernel
theorem dX8_behind_42 : decode cX8_behind 42 = .ok (.iconst 3, 1) := by decide +kernel
theorem dX8_behind_43 : decode cX8_behind 43 = .ok (.if_icmp .ne 7, 3) := by decide +kernel
theorem dX8_behind_46 : decode cX8_behind 46 = .ok (.iconst 1, 1) := by decide +kernel
theorem dX8_behind_47 : decode cX8_behind 47 = .ok (.goto 4, 3) := by decide +kernel
theorem dX8_behind_50 : decode cX8_behind 50 = .ok (.iconst 0, 1) := by decide +kernel
theorem dX8_behind_51 : decode cX8_behind 51 = .ok (.iload 5, 2) := by decide +kernel
theorem dX8_behind_53 : decode cX8_behind 53 = .ok (.ifCond .le 7, 3) := by decide +kernel
theorem dX8_behind_56 : decode cX8_behind 56 = .ok (.iconst 1, 1) := by decide +kernel
theorem dX8_behind_57 : decode cX8_behind 57 = .ok (.goto 4, 3) := by decide +kernel
theorem dX8_behind_60 : decode cX8_behind 60 = .ok (.iconst 0, 1) := by decide +kernel
theorem dX8_behind_61 : decode cX8_behind 61 = .ok (.if_icmp .eq 16, 3) := by decide +kernel
theorem dX8_behind_64 : decode cX8_behind 64 = .ok (.iload_n 2, 1) := by decide +kernel
theorem dX8_behind_65 : decode cX8_behind 65 = .ok (.iconst 3, 1) := by decide +kernel
theorem dX8_behind_66 : decode cX8_behind 66 = .ok (.if_icmp .eq 9, 3) := by decide +kernel
theorem dX8_behind_69 : decode cX8_behind 69 = .ok (.iload 5, 2) := by decide +kernel
theorem dX8_behind_71 : decode cX8_behind 71 = .ok (.iconst 3, 1) := by decide +kernel
theorem dX8_behind_72 : decode cX8_behind 72 = .ok (.if_icmp .ge 5, 3) := by decide +kernel
theorem dX8_behind_75 : decode cX8_behind 75 = .ok (.iconst (-1), 1) := by decide +kernel
theorem dX8_behind_76 : decode cX8_behind 76 = .ok (.ireturn, 1) := by decide +kernel
theorem dX8_behind_77 : decode cX8_behind 77 = .ok (.iload_n 2, 1) := by decide +kernel
theorem dX8_behind_78 : decode cX8_behind 78 = .ok (.iconst 3, 1) := by decide +kernel
theorem dX8_behind_79 : decode cX8_behind 79 = .ok (.if_icmp .ne 20, 3) := by decide +kernel
theorem dX8_behind_82 : decode cX8_behind 82 = .ok (.iload 5, 2) := by decide +kernel
theorem dX8_behind_84 : decode cX8_behind 84 = .ok (.iconst 3, 1) := by decide +kernel
theorem dX8_behind_85 : decode cX8_behind 85 = .ok (.if_icmp .ne 7, 3) := by decide +kernel
theorem dX8_behind_88 : decode cX8_behind 88 = .ok (.iconst 3, 1) := by decide +kernel
theorem dX8_behind_89 : decode cX8_behind 89 = .ok (.goto 20, 3) := by decide +kernel
theorem dX8_behind_92 : decode cX8_behind 92 = .ok (.iload 5, 2) := by decide +kernel
theorem dX8_behind_94 : decode cX8_behind 94 = .ok (.iconst 1, 1) := by decide +kernel
theorem dX8_behind_95 : decode cX8_behind 95 = .ok (.iadd, 1) := by decide +kernel
theorem dX8_behind_96 : decode cX8_behind 96 = .ok (.goto 13, 3) := by decide +kernel
theorem dX8_behind_99 : decode cX8_behind 99 = .ok (.iload_n 2, 1) := by decide +kernel
theorem dX8_behind_100 : decode cX8_behind 100 = .ok (.iconst 2, 1) := by decide +kernel
theorem dX8_behind_101 : decode cX8_behind 101 = .ok (.if_icmp .ne 7, 3) := by decide +kernel
theorem dX8_behind_104 : decode cX8_behind 104 = .ok (.iconst 1, 1) := by decide +kernel
theorem dX8_behind_105 : decode cX8_behind 105 = .ok (.goto 4, 3) := by decide +kernel
theorem dX8_behind_108 : decode cX8_behind 108 = .ok (.iconst 0, 1) := by decide +kernel
theorem dX8_behind_109 : decode cX8_behind 109 = .ok (.istore 8, 2) := by decide +kernel
theorem dX8_behind_111 : decode cX8_behind 111 = .ok (.iload_n 2, 1) := by decide +kernel
theorem dX8_behind_112 : decode cX8_behind 112 = .ok (.iconst 1, 1) := by decide +kernel
theorem dX8_behind_113 : decode cX8_behind 113 = .ok (.if_icmp .ne 6, 3) := by decide +kernel
theorem dX8_behind_116 : decode cX8_behind 116 = .ok (.iinc 6 1, 3) := by decide +kernel
theorem dX8_behind_119 : decode cX8_behind 119 = .ok (.iload 4, 2) := by decide +kernel
theorem dX8_behind_121 : decode cX8_behind 121 = .ok (.iconst 3, 1) := by decide +kernel
theorem dX8_behind_122 : decode cX8_behind 122 = .ok (.if_icmp .ne 20, 3) := by decide +kernel
theorem dX8_behind_125 : decode cX8_behind 125 = .ok (.iload 6, 2) := by decide +kernel
theorem dX8_behind_127 : decode cX8_behind 127 = .ok (.iconst 1, 1) := by decide +kernel
theorem dX8_behind_128 : decode cX8_behind 128 = .ok (.if_icmp .eq 9, 3) := by decide +kernel
theorem dX8_behind_131 : decode cX8_behind 131 = .ok (.iload 6, 2) := by decide +kernel
theorem dX8_behind_133 : decode cX8_behind 133 = .ok (.iconst 2, 1) := by decide +kernel
theorem dX8_behind_134 : decode cX8_behind 134 = .ok (.if_icmp .ne 5, 3) := by decide +kernel
theorem dX8_behind_137 : decode cX8_behind 137 = .ok (.iconst (-1), 1) := by decide +kernel
theorem dX8_behind_138 : decode cX8_behind 138 = .ok (.ireturn, 1) := by decide +kernel
theorem dX8_behind_139 : decode cX8_behind 139 = .ok (.iconst 0, 1) := by decide +kernel
theorem dX8_behind_140 : decode cX8_behind 140 = .ok (.istore 6, 2) := by decide +kernel
theorem dX8_behind_142 : decode cX8_behind 142 = .ok (.iload_n 0, 1) := by decide +kernel
theorem dX8_behind_143 : decode cX8_behind 143 = .ok (.bipush 15, 2) := by decide +kernel
theorem dX8_behind_145 : decode cX8_behind 145 = .ok (.idiv, 1) := by decide +kernel
theorem dX8_behind_146 : decode cX8_behind 146 = .ok (.iconst 3, 1) := by decide +kernel
theorem dX8_behind_147 : decode cX8_behind 147 = .ok (.iconst 2, 1) := by decide +kernel
theorem dX8_behind_148 : decode cX8_behind 148 = .ok (.iload 4, 2) := by decide +kernel
theorem dX8_behind_150 : decode cX8_behind 150 = .ok (.imul, 1) := by decide +kernel
theorem dX8_behind_151 : decode cX8_behind 151 = .ok (.ishl, 1) := by decide +kernel
theorem dX8_behind_152 : decode cX8_behind 152 = .ok (.iconst (-1), 1) := by decide +kernel
theorem dX8_behind_153 : decode cX8_behind 153 = .ok (.ixor, 1) := by decide +kernel
theorem dX8_behind_154 : decode cX8_behind 154 = .ok (.iand, 1) := by decide +kernel
theorem dX8_behind_155 : decode cX8_behind 155 = .ok (.iload 8, 2) := by decide +kernel
theorem dX8_behind_157 : decode cX8_behind 157 = .ok (.iconst 2, 1) := by decide +kernel
theorem dX8_behind_158 : decode cX8_behind 158 = .ok (.iload 4, 2) := by decide +kernel
theorem dX8_behind_160 : decode cX8_behind 160 = .ok (.imul, 1) := by decide +kernel
theorem dX8_behind_161 : decode cX8_behind 161 = .ok (.ishl, 1) := by decide +kernel
theorem dX8_behind_162 : decode cX8_behind 162 = .ok (.ior, 1) := by decide +kernel
theorem dX8_behind_163 : decode cX8_behind 163 = .ok (.istore 9, 2) := by decide +kernel
theorem dX8_behind_165 : decode cX8_behind 165 = .ok (.iload 9, 2) := by decide +kernel
theorem dX8_behind_167 : decode cX8_behind 167 = .ok (.iconst 5, 1) := by decide +kernel
theorem dX8_behind_168 : decode cX8_behind 168 = .ok (.imul, 1) := by decide +kernel
theorem dX8_behind_169 : decode cX8_behind 169 = .ok (.iload 6, 2) := by decide +kernel
theorem dX8_behind_171 : decode cX8_behind 171 = .ok (.iadd, 1) := by decide +kernel
theorem dX8_behind_172 : decode cX8_behind 172 = .ok (.iconst 3, 1) := by decide +kernel
theorem dX8_behind_173 : decode cX8_behind 173 = .ok (.imul, 1) := by decide +kernel
theorem dX8_behind_174 : decode cX8_behind 174 = .ok (.iload 7, 2) := by decide +kernel
theorem dX8_behind_176 : decode cX8_behind 176 = .ok (.iadd, 1) := by decide +kernel
theorem dX8_behind_177 : decode cX8_behind 177 = .ok (.ireturn, 1) := by decide +kernel
set_option maxRecDepth 20000 in
theorem ggX8_isWhole_X8_run : GoodIn wsX8_isWhole wsX8_run := goodIn_r _ [4] (by decide +kernel) (by decide +kernel)
set_option maxRecDepth 20000 in
theorem gX8_isWhole_X8_run : GoodIn wsX8_isWhole (va_wsS RX8 63 yX8_run wsX8_run) := goodIn_app (goodIn_of _ (by decide +kernel)) ggX8_isWhole_X8_run
set_option maxRecDepth 20000 in
theorem ggX8_isWhole_X8_inGroup : GoodIn wsX8_isWhole wsX8_inGroup := goodIn_r _ [7] (by decide +kernel) (by decide +kernel)
set_option maxRecDepth 20000 in
theorem gX8_isWhole_X8_inGroup : GoodIn wsX8_isWhole (va_wsS RX8 67 yX8_inGroup wsX8_inGroup) := goodIn_app (goodIn_of _ (by decide +kernel)) ggX8_isWhole_X8_inGroup
theorem dX8_isWhole_0 : decode cX8_isWhole 0 = .ok (.iconst 0, 1) := by decide +kernel
theorem dX8_isWhole_1 : decode cX8_isWhole 1 = .ok (.istore_n 1, 1) := by decide +kernel
theorem dX8_isWhole_2 : decode cX8_isWhole 2 = .ok (.iload_n 1, 1) := by decide +kernel
theorem dX8_isWhole_3 : decode cX8_isWhole 3 = .ok (.iconst 4, 1) := by decide +kernel
theorem dX8_isWhole_4 : decode cX8_isWhole 4 = .ok (.if_icmp .ge 29, 3) := by decide +kernel
theorem dX8_isWhole_7 : decode cX8_isWhole 7 = .ok (.iload_n 0, 1) := by decide +kernel
theorem dX8_isWhole_8 : decode cX8_isWhole 8 = .ok (.iload_n 1, 1) := by decide +kernel
theorem dX8_isWhole_9 : decode cX8_isWhole 9 = .ok (.invokestatic 63, 3) := by decide +kernel
theorem dX8_isWhole_12 : decode cX8_isWhole 12 = .ok (.iconst 1, 1) := by decide +kernel
theorem dX8_isWhole_13 : decode cX8_isWhole 13 = .ok (.if_icmp .eq 12, 3) := by decide +kernel
theorem dX8_isWhole_16 : decode cX8_isWhole 16 = .ok (.iload_n 0, 1) := by decide +kernel
theorem dX8_isWhole_17 : decode cX8_isWhole 17 = .ok (.iload_n 1, 1) := by decide +kernel
theorem dX8_isWhole_18 : decode cX8_isWhole 18 = .ok (.invokestatic 63, 3) := by decide +kernel
theorem dX8_isWhole_21 : decode cX8_isWhole 21 = .ok (.iconst 2, 1) := by decide +kernel
theorem dX8_isWhole_22 : decode cX8_isWhole 22 = .ok (.if_icmp .ne 5, 3) := by decide +kernel
theorem dX8_isWhole_25 : decode cX8_isWhole 25 = .ok (.iconst 0, 1) := by decide +kernel
theorem dX8_isWhole_26 : decode cX8_isWhole 26 = .ok (.ireturn, 1) := by decide +kernel
theorem dX8_isWhole_27 : decode cX8_isWhole 27 = .ok (.iinc 1 1, 3) := by decide +kernel
theorem dX8_isWhole_30 : decode cX8_isWhole 30 = .ok (.goto (-28), 3) := by decide +kernel
theorem dX8_isWhole_33 : decode cX8_isWhole 33 = .ok (.iload_n 0, 1) := by decide +kernel
theorem dX8_isWhole_34 : decode cX8_isWhole 34 = .ok (.invokestatic 67, 3) := by decide +kernel
theorem dX8_isWhole_37 : decode cX8_isWhole 37 = .ok (.ifCond .ne 7, 3) := by decide +kernel
theorem dX8_isWhole_40 : decode cX8_isWhole 40 = .ok (.iconst 1, 1) := by decide +kernel
theorem dX8_isWhole_41 : decode cX8_isWhole 41 = .ok (.goto 4, 3) := by decide +kernel
theorem dX8_isWhole_44 : decode cX8_isWhole 44 = .ok (.iconst 0, 1) := by decide +kernel
theorem dX8_isWhole_45 : decode cX8_isWhole 45 = .ok (.ireturn, 1) := by decide +kernel
set_option maxRecDepth 20000 in
theorem ggX8_count_X8_isWhole : GoodIn wsX8_count wsX8_isWhole := goodIn_r _ [6, 7, 8, 5, 9, 10, 11, 12] (by decide +kernel) (by decide +kernel)
set_option maxRecDepth 20000 in
theorem gX8_count_X8_isWhole : GoodIn wsX8_count (va_wsS RX8 74 yX8_isWhole wsX8_isWhole) := goodIn_app (goodIn_of _ (by decide +kernel)) ggX8_count_X8_isWhole
set_option maxRecDepth 20000 in
theorem ggX8_count_X8_jokers : GoodIn wsX8_count wsX8_jokers := goodIn_r _ [15] (by decide +kernel) (by decide +kernel)
set_option maxRecDepth 20000 in
theorem gX8_count_X8_jokers : GoodIn wsX8_count (va_wsS RX8 70 yX8_jokers wsX8_jokers) := goodIn_app (goodIn_of _ (by decide +kernel)) ggX8_count_X8_jokers
set_option maxRecDepth 20000 in
theorem ggX8_count_X8_jokersOf : GoodIn wsX8_count wsX8_jokersOf := goodIn_r _ [18] (by decide +kernel) (by decide +kernel)
set_option maxRecDepth 20000 in
theorem gX8_count_X8_jokersOf : GoodIn wsX8_count (va_wsS RX8 78 yX8_jokersOf wsX8_jokersOf) := goodIn_app (goodIn_of _ (by decide +kernel)) ggX8_count_X8_jokersOf
set_option maxRecDepth 20000 in
theorem ggX8_count_X8_has : GoodIn wsX8_count wsX8_has := goodIn_r _ [21] (by decide +kernel) (by decide +kernel)
set_option maxRecDepth 20000 in
theorem gX8_count_X8_has : GoodIn wsX8_count (va_wsS RX8 55 yX8_has wsX8_has) := goodIn_app (goodIn_of _ (by decide +kernel)) ggX8_count_X8_has
set_option maxRecDepth 20000 in
theorem ggX8_count_X8_behind : GoodIn wsX8_count wsX8_behind := goodIn_r _ [24, 7, 8, 5, 9, 10, 11, 12, 13, 14, 15] (by decide +kernel) (by decide +kernel)
set_option maxRecDepth 20000 in
theorem gX8_count_X8_behind : GoodIn wsX8_count (va_wsS RX8 82 yX8_behind wsX8_behind) := goodIn_app (goodIn_of _ (by decide +kernel)) ggX8_count_X8_behind
theorem dX8_count_0 : decode cX8_count 0 = .ok (.iconst 0, 1) := by decide +kernel
theorem dX8_count_1 : decode cX8_count 1 = .ok (.istore_n 3, 1) := by decide +kernel
theorem dX8_count_2 : decode cX8_count 2 = .ok (.iload_n 3, 1) := by decide +kernel
theorem dX8_count_3 : decode cX8_count 3 = .ok (.sipush 3840, 3) := by decide +kernel
theorem dX8_count_6 : decode cX8_count 6 = .ok (.if_icmp .ge 41, 3) := by decide +kernel
theorem dX8_count_9 : decode cX8_count 9 = .ok (.aload_n 0, 1) := by decide +kernel
theorem dX8_count_10 : decode cX8_count 10 = .ok (.getfield 8, 3) := by decide +kernel
theorem dX8_count_13 : decode cX8_count 13 = .ok (.ldc 73, 2) := by decide +kernel
theorem dX8_count_15 : decode cX8_count 15 = .ok (.iload_n 3, 1) := by decide +kernel
theorem dX8_count_16 : decode cX8_count 16 = .ok (.iadd, 1) := by decide +kernel
theorem dX8_count_17 : decode cX8_count 17 = .ok (.iload_n 3, 1) := by decide +kernel
theorem dX8_count_18 : decode cX8_count 18 = .ok (.invokestatic 74, 3) := by decide +kernel
theorem dX8_count_21 : decode cX8_count 21 = .ok (.ifCond .eq 18, 3) := by decide +kernel
theorem dX8_count_24 : decode cX8_count 24 = .ok (.iload_n 3, 1) := by decide +kernel
theorem dX8_count_25 : decode cX8_count 25 = .ok (.invokestatic 70, 3) := by decide +kernel
theorem dX8_count_28 : decode cX8_count 28 = .ok (.lload_n 1, 1) := by decide +kernel
theorem dX8_count_29 : decode cX8_count 29 = .ok (.invokestatic 78, 3) := by decide +kernel
theorem dX8_count_32 : decode cX8_count 32 = .ok (.if_icmp .ne 7, 3) := by decide +kernel
theorem dX8_count_35 : decode cX8_count 35 = .ok (.lconst 1, 1) := by decide +kernel
theorem dX8_count_36 : decode cX8_count 36 = .ok (.goto 4, 3) := by decide +kernel
theorem dX8_count_39 : decode cX8_count 39 = .ok (.lconst 0, 1) := by decide +kernel
theorem dX8_count_40 : decode cX8_count 40 = .ok (.lastore, 1) := by decide +kernel
theorem dX8_count_41 : decode cX8_count 41 = .ok (.iinc 3 1, 3) := by decide +kernel
theorem dX8_count_44 : decode cX8_count 44 = .ok (.goto (-42), 3) := by decide +kernel
theorem dX8_count_47 : decode cX8_count 47 = .ok (.bipush 51, 2) := by decide +kernel
theorem dX8_count_49 : decode cX8_count 49 = .ok (.istore_n 3, 1) := by decide +kernel
theorem dX8_count_50 : decode cX8_count 50 = .ok (.iload_n 3, 1) := by decide +kernel
theorem dX8_count_51 : decode cX8_count 51 = .ok (.ifCond .lt 126, 3) := by decide +kernel
theorem dX8_count_54 : decode cX8_count 54 = .ok (.lload_n 1, 1) := by decide +kernel
theorem dX8_count_55 : decode cX8_count 55 = .ok (.iload_n 3, 1) := by decide +kernel
theorem dX8_count_56 : decode cX8_count 56 = .ok (.invokestatic 55, 3) := by decide +kernel
theorem dX8_count_59 : decode cX8_count 59 = .ok (.istore 4, 2) := by decide +kernel
theorem dX8_count_61 : decode cX8_count 61 = .ok (.iconst 0, 1) := by decide +kernel
theorem dX8_count_62 : decode cX8_count 62 = .ok (.istore 5, 2) := by decide +kernel
theorem dX8_count_64 : decode cX8_count 64 = .ok (.iload 5, 2) := by decide +kernel
theorem dX8_count_66 : decode cX8_count 66 = .ok (.sipush 3840, 3) := by decide +kernel
theorem dX8_count_69 : decode cX8_count 69 = .ok (.if_icmp .ge 102, 3) := by decide +kernel
theorem dX8_count_72 : decode cX8_count 72 = .ok (.lconst 0, 1) := by decide +kernel
theorem dX8_count_73 : decode cX8_count 73 = .ok (.lstore 6, 2) := by decide +kernel
theorem dX8_count_75 : decode cX8_count 75 = .ok (.iload 4, 2) := by decide +kernel
theorem dX8_count_77 : decode cX8_count 77 = .ok (.ifCond .eq 7, 3) := by decide +kernel
theorem dX8_count_80 : decode cX8_count 80 = .ok (.iconst 1, 1) := by decide +kernel
theorem dX8_count_81 : decode cX8_count 81 = .ok (.goto 4, 3) := by decide +kernel
theorem dX8_count_84 : decode cX8_count 84 = .ok (.iconst 0, 1) := by decide +kernel
theorem dX8_count_85 : decode cX8_count 85 = .ok (.istore 8, 2) := by decide +kernel
theorem dX8_count_87 : decode cX8_count 87 = .ok (.iload 8, 2) := by decide +kernel
theorem dX8_count_89 : decode cX8_count 89 = .ok (.iconst 3, 1) := by decide +kernel
theorem dX8_count_90 : decode cX8_count 90 = .ok (.if_icmp .gt 60, 3) := by decide +kernel
theorem dX8_count_93 : decode cX8_count 93 = .ok (.iload 5, 2) := by decide +kernel
theorem dX8_count_95 : decode cX8_count 95 = .ok (.iload_n 3, 1) := by decide +kernel
theorem dX8_count_96 : decode cX8_count 96 = .ok (.iload 8, 2) := by decide +kernel
theorem dX8_count_98 : decode cX8_count 98 = .ok (.iload 8, 2) := by decide +kernel
theorem dX8_count_100 : decode cX8_count 100 = .ok (.ifCond .le 12, 3) := by decide +kernel
theorem dX8_count_103 : decode cX8_count 103 = .ok (.iload 4, 2) := by decide +kernel
theorem dX8_count_105 : decode cX8_count 105 = .ok (.ifCond .ne 7, 3) := by decide +kernel
theorem dX8_count_108 : decode cX8_count 108 = .ok (.iconst 1, 1) := by decide +kernel
theorem dX8_count_109 : decode cX8_count 109 = .ok (.goto 4, 3) := by decide +kernel
theorem dX8_count_112 : decode cX8_count 112 = .ok (.iconst 0, 1) := by decide +kernel
theorem dX8_count_113 : decode cX8_count 113 = .ok (.invokestatic 82, 3) := by decide +kernel
theorem dX8_count_116 : decode cX8_count 116 = .ok (.istore 9, 2) := by decide +kernel
theorem dX8_count_118 : decode cX8_count 118 = .ok (.iload 9, 2) := by decide +kernel
theorem dX8_count_120 : decode cX8_count 120 = .ok (.iconst (-1), 1) := by decide +kernel
theorem dX8_count_121 : decode cX8_count 121 = .ok (.if_icmp .eq 23, 3) := by decide +kernel
theorem dX8_count_124 : decode cX8_count 124 = .ok (.lload 6, 2) := by decide +kernel
theorem dX8_count_126 : decode cX8_count 126 = .ok (.aload_n 0, 1) := by decide +kernel
theorem dX8_count_127 : decode cX8_count 127 = .ok (.getfield 8, 3) := by decide +kernel
theorem dX8_count_130 : decode cX8_count 130 = .ok (.sipush 3840, 3) := by decide +kernel
theorem dX8_count_133 : decode cX8_count 133 = .ok (.iload_n 3, 1) := by decide +kernel
theorem dX8_count_134 : decode cX8_count 134 = .ok (.iconst 1, 1) := by decide +kernel
theorem dX8_count_135 : decode cX8_count 135 = .ok (.iadd, 1) := by decide +kernel
theorem dX8_count_136 : decode cX8_count 136 = .ok (.imul, 1) := by decide +kernel
theorem dX8_count_137 : decode cX8_count 137 = .ok (.iload 9, 2) := by decide +kernel
theorem dX8_count_139 : decode cX8_count 139 = .ok (.iadd, 1) := by decide +kernel
theorem dX8_count_140 : decode cX8_count 140 = .ok (.laload, 1) := by decide +kernel
theorem dX8_count_141 : decode cX8_count 141 = .ok (.ladd, 1) := by decide +kernel
theorem dX8_count_142 : decode cX8_count 142 = .ok (.lstore 6, 2) := by decide +kernel
theorem dX8_count_144 : decode cX8_count 144 = .ok (.iinc 8 1, 3) := by decide +kernel
theorem dX8_count_147 : decode cX8_count 147 = .ok (.goto (-60), 3) := by decide +kernel
theorem dX8_count_150 : decode cX8_count 150 = .ok (.aload_n 0, 1) := by decide +kernel
theorem dX8_count_151 : decode cX8_count 151 = .ok (.getfield 8, 3) := by decide +kernel
theorem dX8_count_154 : decode cX8_count 154 = .ok (.sipush 3840, 3) := by decide +kernel
theorem dX8_count_157 : decode cX8_count 157 = .ok (.iload_n 3, 1) := by decide +kernel
theorem dX8_count_158 : decode cX8_count 158 = .ok (.imul, 1) := by decide +kernel
theorem dX8_count_159 : decode cX8_count 159 = .ok (.iload 5, 2) := by decide +kernel
theorem dX8_count_161 : decode cX8_count 161 = .ok (.iadd, 1) := by decide +kernel
theorem dX8_count_162 : decode cX8_count 162 = .ok (.lload 6, 2) := by decide +kernel
theorem dX8_count_164 : decode cX8_count 164 = .ok (.lastore, 1) := by decide +kernel
theorem dX8_count_165 : decode cX8_count 165 = .ok (.iinc 5 1, 3) := by decide +kernel
theorem dX8_count_168 : decode cX8_count 168 = .ok (.goto (-104), 3) := by decide +kernel
theorem dX8_count_171 : decode cX8_count 171 = .ok (.iinc 3 (-1), 3) := by decide +kernel
theorem dX8_count_174 : decode cX8_count 174 = .ok (.goto (-124), 3) := by decide +kernel
theorem dX8_count_177 : decode cX8_count 177 = .ok (.return_, 1) := by decide +kernel
set_option maxRecDepth 20000 in
theorem ggX8_ways_X8_isSet : GoodIn wsX8_ways wsX8_isSet := goodIn_r _ [6, 7] (by decide +kernel) (by decide +kernel)
set_option maxRecDepth 20000 in
theorem gX8_ways_X8_isSet : GoodIn wsX8_ways (va_wsS RX8 86 yX8_isSet wsX8_isSet) := goodIn_app (goodIn_of _ (by decide +kernel)) ggX8_ways_X8_isSet
set_option maxRecDepth 20000 in
theorem ggX8_ways_X8_none : GoodIn wsX8_ways wsX8_none := goodIn_r _ [11, 1, 38, 39, 40, 41, 42, 43, 44, 45, 46, 47, 48, 49, 50, 51, 52, 53, 54, 55, 56, 57, 58, 59, 60] (by decide +kernel) (by decide +kernel)
set_option maxRecDepth 20000 in
theorem gX8_ways_X8_none : GoodIn wsX8_ways (wsV RX8 90 RX8 yX8_none wsX8_none) := goodIn_app (goodIn_of _ (by decide +kernel)) ggX8_ways_X8_none
set_option maxRecDepth 20000 in
theorem ggX8_ways_X8_count : GoodIn wsX8_ways wsX8_count := goodIn_r _ [15, 2, 16, 17, 18, 5, 19, 20, 21, 22, 23, 24, 25, 26, 27, 28, 29, 30, 31, 32, 33, 34, 35, 36, 37, 38, 39, 40, 41, 42, 43, 44, 45, 46, 47, 48, 49, 50, 51, 52, 53, 54, 55, 56, 57, 58, 59, 60] (by decide +kernel) (by decide +kernel)
set_option maxRecDepth 20000 in
theorem gX8_ways_X8_count : GoodIn wsX8_ways (wsV RX8 93 RX8 yX8_count wsX8_count) := goodIn_app (goodIn_of _ (by decide +kernel)) ggX8_ways_X8_count
theorem dX8_ways_0 : decode cX8_ways 0 = .ok (.lload_n 1, 1) := by decide +kernel
theorem dX8_ways_1 : decode cX8_ways 1 = .ok (.invokestatic 86, 3) := by decide +kernel
theorem dX8_ways_4 : decode cX8_ways 4 = .ok (.ifCond .ne 10, 3) := by decide +kernel
theorem dX8_ways_7 : decode cX8_ways 7 = .ok (.aload_n 0, 1) := by decide +kernel
theorem dX8_ways_8 : decode cX8_ways 8 = .ok (.iconst 1, 1) := by decide +kernel
theorem dX8_ways_9 : decode cX8_ways 9 = .ok (.invokevirtual 90, 3) := by decide +kernel
theorem dX8_ways_12 : decode cX8_ways 12 = .ok (.i2l, 1) := by decide +kernel
theorem dX8_ways_13 : decode cX8_ways 13 = .ok (.lreturn, 1) := by decide +kernel
theorem dX8_ways_14 : decode cX8_ways 14 = .ok (.aload_n 0, 1) := by decide +kernel
theorem dX8_ways_15 : decode cX8_ways 15 = .ok (.iconst 0, 1) := by decide +kernel
theorem dX8_ways_16 : decode cX8_ways 16 = .ok (.putfield 50, 3) := by decide +kernel
theorem dX8_ways_19 : decode cX8_ways 19 = .ok (.aload_n 0, 1) := by decide +kernel
theorem dX8_ways_20 : decode cX8_ways 20 = .ok (.lload_n 1, 1) := by decide +kernel
theorem dX8_ways_21 : decode cX8_ways 21 = .ok (.invokevirtual 93, 3) := by decide +kernel
theorem dX8_ways_24 : decode cX8_ways 24 = .ok (.aload_n 0, 1) := by decide +kernel
theorem dX8_ways_25 : decode cX8_ways 25 = .ok (.getfield 8, 3) := by decide +kernel
theorem dX8_ways_28 : decode cX8_ways 28 = .ok (.iconst 0, 1) := by decide +kernel
theorem dX8_ways_29 : decode cX8_ways 29 = .ok (.laload, 1) := by decide +kernel
theorem dX8_ways_30 : decode cX8_ways 30 = .ok (.lreturn, 1) := by decide +kernel
set_option maxRecDepth 20000 in
theorem ggX8_keeps_X8_count : GoodIn wsX8_keeps wsX8_count := goodIn_r _ [8, 1, 9, 10, 11, 7, 12, 13, 14, 15, 16, 17, 18, 19, 20, 21, 22, 23, 24, 25, 26, 27, 28, 29, 30, 31, 32, 33, 34, 35, 36, 37, 38, 39, 40, 41, 42, 43, 44, 45, 46, 47, 48, 49, 50, 51, 52, 53] (by decide +kernel) (by decide +kernel)
set_option maxRecDepth 20000 in
theorem gX8_keeps_X8_count : GoodIn wsX8_keeps (wsV RX8 93 RX8 yX8_count wsX8_count) := goodIn_app (goodIn_of _ (by decide +kernel)) ggX8_keeps_X8_count
set_option maxRecDepth 20000 in
theorem ggX8_keeps_X8_has : GoodIn wsX8_keeps wsX8_has := goodIn_r _ [27] (by decide +kernel) (by decide +kernel)
set_option maxRecDepth 20000 in
theorem gX8_keeps_X8_has : GoodIn wsX8_keeps (va_wsS RX8 55 yX8_has wsX8_has) := goodIn_app (goodIn_of _ (by decide +kernel)) ggX8_keeps_X8_has
set_option maxRecDepth 20000 in
theorem ggX8_keeps_X8_behind : GoodIn wsX8_keeps wsX8_behind := goodIn_r _ [30, 13, 14, 7, 15, 16, 17, 18, 19, 20, 21] (by decide +kernel) (by decide +kernel)
set_option maxRecDepth 20000 in
theorem gX8_keeps_X8_behind : GoodIn wsX8_keeps (va_wsS RX8 82 yX8_behind wsX8_behind) := goodIn_app (goodIn_of _ (by decide +kernel)) ggX8_keeps_X8_behind
theorem dX8_keeps_0 : decode cX8_keeps 0 = .ok (.aload_n 0, 1) := by decide +kernel
theorem dX8_keeps_1 : decode cX8_keeps 1 = .ok (.lload_n 1, 1) := by decide +kernel
theorem dX8_keeps_2 : decode cX8_keeps 2 = .ok (.invokevirtual 93, 3) := by decide +kernel
theorem dX8_keeps_5 : decode cX8_keeps 5 = .ok (.aload_n 0, 1) := by decide +kernel
theorem dX8_keeps_6 : decode cX8_keeps 6 = .ok (.getfield 8, 3) := by decide +kernel
theorem dX8_keeps_9 : decode cX8_keeps 9 = .ok (.iconst 0, 1) := by decide +kernel
theorem dX8_keeps_10 : decode cX8_keeps 10 = .ok (.laload, 1) := by decide +kernel
theorem dX8_keeps_11 : decode cX8_keeps 11 = .ok (.lconst 0, 1) := by decide +kernel
theorem dX8_keeps_12 : decode cX8_keeps 12 = .ok (.lcmp, 1) := by decide +kernel
theorem dX8_keeps_13 : decode cX8_keeps 13 = .ok (.ifCond .ne 5, 3) := by decide +kernel
theorem dX8_keeps_16 : decode cX8_keeps 16 = .ok (.iconst 0, 1) := by decide +kernel
theorem dX8_keeps_17 : decode cX8_keeps 17 = .ok (.ireturn, 1) := by decide +kernel
theorem dX8_keeps_18 : decode cX8_keeps 18 = .ok (.iconst 0, 1) := by decide +kernel
theorem dX8_keeps_19 : decode cX8_keeps 19 = .ok (.istore_n 3, 1) := by decide +kernel
theorem dX8_keeps_20 : decode cX8_keeps 20 = .ok (.iconst 0, 1) := by decide +kernel
theorem dX8_keeps_21 : decode cX8_keeps 21 = .ok (.istore 4, 2) := by decide +kernel
theorem dX8_keeps_23 : decode cX8_keeps 23 = .ok (.iload 4, 2) := by decide +kernel
theorem dX8_keeps_25 : decode cX8_keeps 25 = .ok (.bipush 52, 2) := by decide +kernel
theorem dX8_keeps_27 : decode cX8_keeps 27 = .ok (.if_icmp .ge 141, 3) := by decide +kernel
theorem dX8_keeps_30 : decode cX8_keeps 30 = .ok (.lload_n 1, 1) := by decide +kernel
theorem dX8_keeps_31 : decode cX8_keeps 31 = .ok (.iload 4, 2) := by decide +kernel
theorem dX8_keeps_33 : decode cX8_keeps 33 = .ok (.invokestatic 55, 3) := by decide +kernel
theorem dX8_keeps_36 : decode cX8_keeps 36 = .ok (.istore 5, 2) := by decide +kernel
theorem dX8_keeps_38 : decode cX8_keeps 38 = .ok (.iload 5, 2) := by decide +kernel
theorem dX8_keeps_40 : decode cX8_keeps 40 = .ok (.ifCond .eq 7, 3) := by decide +kernel
theorem dX8_keeps_43 : decode cX8_keeps 43 = .ok (.iconst 1, 1) := by decide +kernel
theorem dX8_keeps_44 : decode cX8_keeps 44 = .ok (.goto 4, 3) := by decide +kernel
theorem dX8_keeps_47 : decode cX8_keeps 47 = .ok (.iconst 0, 1) := by decide +kernel
theorem dX8_keeps_48 : decode cX8_keeps 48 = .ok (.istore 6, 2) := by decide +kernel
theorem dX8_keeps_50 : decode cX8_keeps 50 = .ok (.iload_n 3, 1) := by decide +kernel
theorem dX8_keeps_51 : decode cX8_keeps 51 = .ok (.iload 4, 2) := by decide +kernel
theorem dX8_keeps_53 : decode cX8_keeps 53 = .ok (.iload 6, 2) := by decide +kernel
theorem dX8_keeps_55 : decode cX8_keeps 55 = .ok (.iload 6, 2) := by decide +kernel
theorem dX8_keeps_57 : decode cX8_keeps 57 = .ok (.ifCond .le 12, 3) := by decide +kernel
theorem dX8_keeps_60 : decode cX8_keeps 60 = .ok (.iload 5, 2) := by decide +kernel
theorem dX8_keeps_62 : decode cX8_keeps 62 = .ok (.ifCond .ne 7, 3) := by decide +kernel
theorem dX8_keeps_65 : decode cX8_keeps 65 = .ok (.iconst 1, 1) := by decide +kernel
theorem dX8_keeps_66 : decode cX8_keeps 66 = .ok (.goto 4, 3) := by decide +kernel
theorem dX8_keeps_69 : decode cX8_keeps 69 = .ok (.iconst 0, 1) := by decide +kernel
theorem dX8_keeps_70 : decode cX8_keeps 70 = .ok (.invokestatic 82, 3) := by decide +kernel
theorem dX8_keeps_73 : decode cX8_keeps 73 = .ok (.istore 7, 2) := by decide +kernel
theorem dX8_keeps_75 : decode cX8_keeps 75 = .ok (.iload 7, 2) := by decide +kernel
theorem dX8_keeps_77 : decode cX8_keeps 77 = .ok (.iconst (-1), 1) := by decide +kernel
theorem dX8_keeps_78 : decode cX8_keeps 78 = .ok (.if_icmp .eq 24, 3) := by decide +kernel
theorem dX8_keeps_81 : decode cX8_keeps 81 = .ok (.aload_n 0, 1) := by decide +kernel
theorem dX8_keeps_82 : decode cX8_keeps 82 = .ok (.getfield 8, 3) := by decide +kernel
theorem dX8_keeps_85 : decode cX8_keeps 85 = .ok (.sipush 3840, 3) := by decide +kernel
theorem dX8_keeps_88 : decode cX8_keeps 88 = .ok (.iload 4, 2) := by decide +kernel
theorem dX8_keeps_90 : decode cX8_keeps 90 = .ok (.iconst 1, 1) := by decide +kernel
theorem dX8_keeps_91 : decode cX8_keeps 91 = .ok (.iadd, 1) := by decide +kernel
theorem dX8_keeps_92 : decode cX8_keeps 92 = .ok (.imul, 1) := by decide +kernel
theorem dX8_keeps_93 : decode cX8_keeps 93 = .ok (.iload 7, 2) := by decide +kernel
theorem dX8_keeps_95 : decode cX8_keeps 95 = .ok (.iadd, 1) := by decide +kernel
theorem dX8_keeps_96 : decode cX8_keeps 96 = .ok (.laload, 1) := by decide +kernel
theorem dX8_keeps_97 : decode cX8_keeps 97 = .ok (.lconst 0, 1) := by decide +kernel
theorem dX8_keeps_98 : decode cX8_keeps 98 = .ok (.lcmp, 1) := by decide +kernel
theorem dX8_keeps_99 : decode cX8_keeps 99 = .ok (.ifCond .ne 29, 3) := by decide +kernel
theorem dX8_keeps_102 : decode cX8_keeps 102 = .ok (.iinc 6 1, 3) := by decide +kernel
theorem dX8_keeps_105 : decode cX8_keeps 105 = .ok (.iload_n 3, 1) := by decide +kernel
theorem dX8_keeps_106 : decode cX8_keeps 106 = .ok (.iload 4, 2) := by decide +kernel
theorem dX8_keeps_108 : decode cX8_keeps 108 = .ok (.iload 6, 2) := by decide +kernel
theorem dX8_keeps_110 : decode cX8_keeps 110 = .ok (.iload 5, 2) := by decide +kernel
theorem dX8_keeps_112 : decode cX8_keeps 112 = .ok (.ifCond .ne 7, 3) := by decide +kernel
theorem dX8_keeps_115 : decode cX8_keeps 115 = .ok (.iconst 1, 1) := by decide +kernel
theorem dX8_keeps_116 : decode cX8_keeps 116 = .ok (.goto 4, 3) := by decide +kernel
theorem dX8_keeps_119 : decode cX8_keeps 119 = .ok (.iconst 0, 1) := by decide +kernel
theorem dX8_keeps_120 : decode cX8_keeps 120 = .ok (.invokestatic 82, 3) := by decide +kernel
theorem dX8_keeps_123 : decode cX8_keeps 123 = .ok (.istore 7, 2) := by decide +kernel
theorem dX8_keeps_125 : decode cX8_keeps 125 = .ok (.goto (-50), 3) := by decide +kernel
theorem dX8_keeps_128 : decode cX8_keeps 128 = .ok (.aload_n 0, 1) := by decide +kernel
theorem dX8_keeps_129 : decode cX8_keeps 129 = .ok (.getfield 14, 3) := by decide +kernel
theorem dX8_keeps_132 : decode cX8_keeps 132 = .ok (.iload 4, 2) := by decide +kernel
theorem dX8_keeps_134 : decode cX8_keeps 134 = .ok (.iload 6, 2) := by decide +kernel
theorem dX8_keeps_136 : decode cX8_keeps 136 = .ok (.iastore, 1) := by decide +kernel
theorem dX8_keeps_137 : decode cX8_keeps 137 = .ok (.aload_n 0, 1) := by decide +kernel
theorem dX8_keeps_138 : decode cX8_keeps 138 = .ok (.getfield 18, 3) := by decide +kernel
theorem dX8_keeps_141 : decode cX8_keeps 141 = .ok (.iload 4, 2) := by decide +kernel
theorem dX8_keeps_143 : decode cX8_keeps 143 = .ok (.iload 6, 2) := by decide +kernel
theorem dX8_keeps_145 : decode cX8_keeps 145 = .ok (.ifCond .le 12, 3) := by decide +kernel
theorem dX8_keeps_148 : decode cX8_keeps 148 = .ok (.iload 5, 2) := by decide +kernel
theorem dX8_keeps_150 : decode cX8_keeps 150 = .ok (.ifCond .ne 7, 3) := by decide +kernel
theorem dX8_keeps_153 : decode cX8_keeps 153 = .ok (.iconst 1, 1) := by decide +kernel
theorem dX8_keeps_154 : decode cX8_keeps 154 = .ok (.goto 4, 3) := by decide +kernel
theorem dX8_keeps_157 : decode cX8_keeps 157 = .ok (.iconst 0, 1) := by decide +kernel
theorem dX8_keeps_158 : decode cX8_keeps 158 = .ok (.bastore, 1) := by decide +kernel
theorem dX8_keeps_159 : decode cX8_keeps 159 = .ok (.iload 7, 2) := by decide +kernel
theorem dX8_keeps_161 : decode cX8_keeps 161 = .ok (.istore_n 3, 1) := by decide +kernel
theorem dX8_keeps_162 : decode cX8_keeps 162 = .ok (.iinc 4 1, 3) := by decide +kernel
theorem dX8_keeps_165 : decode cX8_keeps 165 = .ok (.goto (-142), 3) := by decide +kernel
theorem dX8_keeps_168 : decode cX8_keeps 168 = .ok (.iconst 1, 1) := by decide +kernel
theorem dX8_keeps_169 : decode cX8_keeps 169 = .ok (.ireturn, 1) := by decide +kernel
end
section
theorem dX8_melds_0 : decode cX8_melds 0 = .ok (.iconst 0, 1) := by decide +kernel
theorem dX8_melds_1 : decode cX8_melds 1 = .ok (.istore_n 1, 1) := by decide +kernel
theorem dX8_melds_2 : decode cX8_melds 2 = .ok (.iconst 0, 1) := by decide +kernel
theorem dX8_melds_3 : decode cX8_melds 3 = .ok (.istore_n 2, 1) := by decide +kernel
theorem dX8_melds_4 : decode cX8_melds 4 = .ok (.iconst 0, 1) := by decide +kernel
theorem dX8_melds_5 : decode cX8_melds 5 = .ok (.istore_n 3, 1) := by decide +kernel
theorem dX8_melds_6 : decode cX8_melds 6 = .ok (.iload_n 3, 1) := by decide +kernel
theorem dX8_melds_7 : decode cX8_melds 7 = .ok (.bipush 52, 2) := by decide +kernel
theorem dX8_melds_9 : decode cX8_melds 9 = .ok (.if_icmp .ge 69, 3) := by decide +kernel
theorem dX8_melds_12 : decode cX8_melds 12 = .ok (.iload_n 1, 1) := by decide +kernel
theorem dX8_melds_13 : decode cX8_melds 13 = .ok (.aload_n 0, 1) := by decide +kernel
theorem dX8_melds_14 : decode cX8_melds 14 = .ok (.getfield 14, 3) := by decide +kernel
theorem dX8_melds_17 : decode cX8_melds 17 = .ok (.iload_n 3, 1) := by decide +kernel
theorem dX8_melds_18 : decode cX8_melds 18 = .ok (.iaload, 1) := by decide +kernel
theorem dX8_melds_19 : decode cX8_melds 19 = .ok (.iconst 2, 1) := by decide +kernel
theorem dX8_melds_20 : decode cX8_melds 20 = .ok (.if_icmp .ne 7, 3) := by decide +kernel
theorem dX8_melds_23 : decode cX8_melds 23 = .ok (.iconst 1, 1) := by decide +kernel
theorem dX8_melds_24 : decode cX8_melds 24 = .ok (.goto 4, 3) := by decide +kernel
theorem dX8_melds_27 : decode cX8_melds 27 = .ok (.iconst 0, 1) := by decide +kernel
theorem dX8_melds_28 : decode cX8_melds 28 = .ok (.iadd, 1) := by decide +kernel
theorem dX8_melds_29 : decode cX8_melds 29 = .ok (.istore_n 1, 1) := by decide +kernel
theorem dX8_melds_30 : decode cX8_melds 30 = .ok (.iload_n 2, 1) := by decide +kernel
theorem dX8_melds_31 : decode cX8_melds 31 = .ok (.aload_n 0, 1) := by decide +kernel
theorem dX8_melds_32 : decode cX8_melds 32 = .ok (.getfield 14, 3) := by decide +kernel
theorem dX8_melds_35 : decode cX8_melds 35 = .ok (.iload_n 3, 1) := by decide +kernel
theorem dX8_melds_36 : decode cX8_melds 36 = .ok (.iaload, 1) := by decide +kernel
theorem dX8_melds_37 : decode cX8_melds 37 = .ok (.iconst 1, 1) := by decide +kernel
theorem dX8_melds_38 : decode cX8_melds 38 = .ok (.if_icmp .ne 7, 3) := by decide +kernel
theorem dX8_melds_41 : decode cX8_melds 41 = .ok (.iconst 1, 1) := by decide +kernel
theorem dX8_melds_42 : decode cX8_melds 42 = .ok (.goto 4, 3) := by decide +kernel
theorem dX8_melds_45 : decode cX8_melds 45 = .ok (.iconst 0, 1) := by decide +kernel
theorem dX8_melds_46 : decode cX8_melds 46 = .ok (.iadd, 1) := by decide +kernel
theorem dX8_melds_47 : decode cX8_melds 47 = .ok (.istore_n 2, 1) := by decide +kernel
theorem dX8_melds_48 : decode cX8_melds 48 = .ok (.iload_n 3, 1) := by decide +kernel
theorem dX8_melds_49 : decode cX8_melds 49 = .ok (.iconst 4, 1) := by decide +kernel
theorem dX8_melds_50 : decode cX8_melds 50 = .ok (.irem, 1) := by decide +kernel
theorem dX8_melds_51 : decode cX8_melds 51 = .ok (.iconst 3, 1) := by decide +kernel
theorem dX8_melds_52 : decode cX8_melds 52 = .ok (.if_icmp .ge 6, 3) := by decide +kernel
theorem dX8_melds_55 : decode cX8_melds 55 = .ok (.goto 17, 3) := by decide +kernel
theorem dX8_melds_58 : decode cX8_melds 58 = .ok (.iload_n 1, 1) := by decide +kernel
theorem dX8_melds_59 : decode cX8_melds 59 = .ok (.iload_n 2, 1) := by decide +kernel
theorem dX8_melds_60 : decode cX8_melds 60 = .ok (.ifCond .le 7, 3) := by decide +kernel
theorem dX8_melds_63 : decode cX8_melds 63 = .ok (.iconst 1, 1) := by decide +kernel
theorem dX8_melds_64 : decode cX8_melds 64 = .ok (.goto 4, 3) := by decide +kernel
theorem dX8_melds_67 : decode cX8_melds 67 = .ok (.iconst 0, 1) := by decide +kernel
theorem dX8_melds_68 : decode cX8_melds 68 = .ok (.iadd, 1) := by decide +kernel
theorem dX8_melds_69 : decode cX8_melds 69 = .ok (.istore_n 1, 1) := by decide +kernel
theorem dX8_melds_70 : decode cX8_melds 70 = .ok (.iconst 0, 1) := by decide +kernel
theorem dX8_melds_71 : decode cX8_melds 71 = .ok (.istore_n 2, 1) := by decide +kernel
theorem dX8_melds_72 : decode cX8_melds 72 = .ok (.iinc 3 1, 3) := by decide +kernel
theorem dX8_melds_75 : decode cX8_melds 75 = .ok (.goto (-69), 3) := by decide +kernel
theorem dX8_melds_78 : decode cX8_melds 78 = .ok (.iload_n 1, 1) := by decide +kernel
theorem dX8_melds_79 : decode cX8_melds 79 = .ok (.ireturn, 1) := by decide +kernel
set_option maxRecDepth 20000 in
theorem ggX8_layout_X8_isSet : GoodIn wsX8_layout wsX8_isSet := goodIn_r _ [5, 6] (by decide +kernel) (by decide +kernel)
set_option maxRecDepth 20000 in
theorem gX8_layout_X8_isSet : GoodIn wsX8_layout (va_wsS RX8 86 yX8_isSet wsX8_isSet) := goodIn_app (goodIn_of _ (by decide +kernel)) ggX8_layout_X8_isSet
set_option maxRecDepth 20000 in
theorem ggX8_layout_X8_none : GoodIn wsX8_layout wsX8_none := goodIn_r _ [10, 1, 48, 49, 50, 51, 52, 53, 54, 55, 56, 57, 58, 59, 60, 61, 62, 63, 64, 65, 66, 67, 68, 69, 70] (by decide +kernel) (by decide +kernel)
set_option maxRecDepth 20000 in
theorem gX8_layout_X8_none : GoodIn wsX8_layout (wsV RX8 90 RX8 yX8_none wsX8_none) := goodIn_app (goodIn_of _ (by decide +kernel)) ggX8_layout_X8_none
set_option maxRecDepth 20000 in
theorem ggX8_layout_X8_keeps : GoodIn wsX8_layout wsX8_keeps := goodIn_r _ [14, 15, 16, 17, 18, 19, 20, 4, 21, 22, 23, 24, 25, 26, 27, 28, 29, 30, 31, 32, 33, 34, 35, 36, 37, 38, 39, 40, 41, 42, 43, 48, 49, 50, 51, 52, 53, 54, 55, 56, 57, 58, 59, 60, 61, 62, 63, 64, 65, 66, 67, 68, 69, 70] (by decide +kernel) (by decide +kernel)
set_option maxRecDepth 20000 in
theorem gX8_layout_X8_keeps : GoodIn wsX8_layout (wsV RX8 97 RX8 yX8_keeps wsX8_keeps) := goodIn_app (goodIn_of _ (by decide +kernel)) ggX8_layout_X8_keeps
set_option maxRecDepth 20000 in
theorem ggX8_layout_X8_melds : GoodIn wsX8_layout wsX8_melds := goodIn_r _ [47, 16, 48, 49, 50, 51, 52, 53, 54, 55, 56, 57, 58, 59, 60, 61, 62, 63, 64, 65, 66, 67, 68, 69, 70] (by decide +kernel) (by decide +kernel)
set_option maxRecDepth 20000 in
theorem gX8_layout_X8_melds : GoodIn wsX8_layout (wsV RX8 100 RX8 yX8_melds wsX8_melds) := goodIn_app (goodIn_of _ (by decide +kernel)) ggX8_layout_X8_melds
theorem dX8_layout_0 : decode cX8_layout 0 = .ok (.lload_n 1, 1) := by decide +kernel
theorem dX8_layout_1 : decode cX8_layout 1 = .ok (.invokestatic 86, 3) := by decide +kernel
theorem dX8_layout_4 : decode cX8_layout 4 = .ok (.ifCond .ne 9, 3) := by decide +kernel
theorem dX8_layout_7 : decode cX8_layout 7 = .ok (.aload_n 0, 1) := by decide +kernel
theorem dX8_layout_8 : decode cX8_layout 8 = .ok (.iconst 1, 1) := by decide +kernel
theorem dX8_layout_9 : decode cX8_layout 9 = .ok (.invokevirtual 90, 3) := by decide +kernel
theorem dX8_layout_12 : decode cX8_layout 12 = .ok (.ireturn, 1) := by decide +kernel
theorem dX8_layout_13 : decode cX8_layout 13 = .ok (.aload_n 0, 1) := by decide +kernel
theorem dX8_layout_14 : decode cX8_layout 14 = .ok (.lload_n 1, 1) := by decide +kernel
theorem dX8_layout_15 : decode cX8_layout 15 = .ok (.invokevirtual 97, 3) := by decide +kernel
theorem dX8_layout_18 : decode cX8_layout 18 = .ok (.ifCond .ne 9, 3) := by decide +kernel
theorem dX8_layout_21 : decode cX8_layout 21 = .ok (.aload_n 0, 1) := by decide +kernel
theorem dX8_layout_22 : decode cX8_layout 22 = .ok (.iconst 3, 1) := by decide +kernel
theorem dX8_layout_23 : decode cX8_layout 23 = .ok (.invokevirtual 90, 3) := by decide +kernel
theorem dX8_layout_26 : decode cX8_layout 26 = .ok (.ireturn, 1) := by decide +kernel
theorem dX8_layout_27 : decode cX8_layout 27 = .ok (.aload_n 0, 1) := by decide +kernel
theorem dX8_layout_28 : decode cX8_layout 28 = .ok (.iconst 0, 1) := by decide +kernel
theorem dX8_layout_29 : decode cX8_layout 29 = .ok (.putfield 50, 3) := by decide +kernel
theorem dX8_layout_32 : decode cX8_layout 32 = .ok (.aload_n 0, 1) := by decide +kernel
theorem dX8_layout_33 : decode cX8_layout 33 = .ok (.invokevirtual 100, 3) := by decide +kernel
theorem dX8_layout_36 : decode cX8_layout 36 = .ok (.ireturn, 1) := by decide +kernel
theorem dX8_place_0 : decode cX8_place 0 = .ok (.iload_n 1, 1) := by decide +kernel
theorem dX8_place_1 : decode cX8_place 1 = .ok (.ifCond .lt 18, 3) := by decide +kernel
theorem dX8_place_4 : decode cX8_place 4 = .ok (.iload_n 1, 1) := by decide +kernel
theorem dX8_place_5 : decode cX8_place 5 = .ok (.bipush 52, 2) := by decide +kernel
theorem dX8_place_7 : decode cX8_place 7 = .ok (.if_icmp .ge 12, 3) := by decide +kernel
theorem dX8_place_10 : decode cX8_place 10 = .ok (.aload_n 0, 1) := by decide +kernel
theorem dX8_place_11 : decode cX8_place 11 = .ok (.getfield 14, 3) := by decide +kernel
theorem dX8_place_14 : decode cX8_place 14 = .ok (.iload_n 1, 1) := by decide +kernel
theorem dX8_place_15 : decode cX8_place 15 = .ok (.iaload, 1) := by decide +kernel
theorem dX8_place_16 : decode cX8_place 16 = .ok (.goto 4, 3) := by decide +kernel
theorem dX8_place_19 : decode cX8_place 19 = .ok (.iconst (-1), 1) := by decide +kernel
theorem dX8_place_20 : decode cX8_place 20 = .ok (.ireturn, 1) := by decide +kernel
theorem dX8_stands_0 : decode cX8_stands 0 = .ok (.iload_n 1, 1) := by decide +kernel
theorem dX8_stands_1 : decode cX8_stands 1 = .ok (.ifCond .lt 26, 3) := by decide +kernel
theorem dX8_stands_4 : decode cX8_stands 4 = .ok (.iload_n 1, 1) := by decide +kernel
theorem dX8_stands_5 : decode cX8_stands 5 = .ok (.bipush 52, 2) := by decide +kernel
theorem dX8_stands_7 : decode cX8_stands 7 = .ok (.if_icmp .ge 20, 3) := by decide +kernel
theorem dX8_stands_10 : decode cX8_stands 10 = .ok (.aload_n 0, 1) := by decide +kernel
theorem dX8_stands_11 : decode cX8_stands 11 = .ok (.getfield 18, 3) := by decide +kernel
theorem dX8_stands_14 : decode cX8_stands 14 = .ok (.iload_n 1, 1) := by decide +kernel
theorem dX8_stands_15 : decode cX8_stands 15 = .ok (.baload, 1) := by decide +kernel
theorem dX8_stands_16 : decode cX8_stands 16 = .ok (.ifCond .eq 7, 3) := by decide +kernel
theorem dX8_stands_19 : decode cX8_stands 19 = .ok (.iconst 1, 1) := by decide +kernel
theorem dX8_stands_20 : decode cX8_stands 20 = .ok (.goto 8, 3) := by decide +kernel
theorem dX8_stands_23 : decode cX8_stands 23 = .ok (.iconst 0, 1) := by decide +kernel
theorem dX8_stands_24 : decode cX8_stands 24 = .ok (.goto 4, 3) := by decide +kernel
theorem dX8_stands_27 : decode cX8_stands 27 = .ok (.iconst (-1), 1) := by decide +kernel
theorem dX8_stands_28 : decode cX8_stands 28 = .ok (.ireturn, 1) := by decide +kernel
theorem dX8_runs_0 : decode cX8_runs 0 = .ok (.iconst 0, 1) := by decide +kernel
theorem dX8_runs_1 : decode cX8_runs 1 = .ok (.istore_n 1, 1) := by decide +kernel
theorem dX8_runs_2 : decode cX8_runs 2 = .ok (.iconst 0, 1) := by decide +kernel
theorem dX8_runs_3 : decode cX8_runs 3 = .ok (.istore_n 2, 1) := by decide +kernel
theorem dX8_runs_4 : decode cX8_runs 4 = .ok (.iload_n 2, 1) := by decide +kernel
theorem dX8_runs_5 : decode cX8_runs 5 = .ok (.bipush 52, 2) := by decide +kernel
theorem dX8_runs_7 : decode cX8_runs 7 = .ok (.if_icmp .ge 27, 3) := by decide +kernel
theorem dX8_runs_10 : decode cX8_runs 10 = .ok (.iload_n 1, 1) := by decide +kernel
theorem dX8_runs_11 : decode cX8_runs 11 = .ok (.aload_n 0, 1) := by decide +kernel
theorem dX8_runs_12 : decode cX8_runs 12 = .ok (.getfield 14, 3) := by decide +kernel
theorem dX8_runs_15 : decode cX8_runs 15 = .ok (.iload_n 2, 1) := by decide +kernel
theorem dX8_runs_16 : decode cX8_runs 16 = .ok (.iaload, 1) := by decide +kernel
theorem dX8_runs_17 : decode cX8_runs 17 = .ok (.iconst 2, 1) := by decide +kernel
theorem dX8_runs_18 : decode cX8_runs 18 = .ok (.if_icmp .ne 7, 3) := by decide +kernel
theorem dX8_runs_21 : decode cX8_runs 21 = .ok (.iconst 1, 1) := by decide +kernel
theorem dX8_runs_22 : decode cX8_runs 22 = .ok (.goto 4, 3) := by decide +kernel
theorem dX8_runs_25 : decode cX8_runs 25 = .ok (.iconst 0, 1) := by decide +kernel
theorem dX8_runs_26 : decode cX8_runs 26 = .ok (.iadd, 1) := by decide +kernel
theorem dX8_runs_27 : decode cX8_runs 27 = .ok (.istore_n 1, 1) := by decide +kernel
theorem dX8_runs_28 : decode cX8_runs 28 = .ok (.iinc 2 1, 3) := by decide +kernel
theorem dX8_runs_31 : decode cX8_runs 31 = .ok (.goto (-27), 3) := by decide +kernel
theorem dX8_runs_34 : decode cX8_runs 34 = .ok (.iload_n 1, 1) := by decide +kernel
theorem dX8_runs_35 : decode cX8_runs 35 = .ok (.ireturn, 1) := by decide +kernel
theorem dX8_shown_0 : decode cX8_shown 0 = .ok (.iconst 0, 1) := by decide +kernel
theorem dX8_shown_1 : decode cX8_shown 1 = .ok (.istore_n 1, 1) := by decide +kernel
theorem dX8_shown_2 : decode cX8_shown 2 = .ok (.iconst 0, 1) := by decide +kernel
theorem dX8_shown_3 : decode cX8_shown 3 = .ok (.istore_n 2, 1) := by decide +kernel
theorem dX8_shown_4 : decode cX8_shown 4 = .ok (.iload_n 2, 1) := by decide +kernel
theorem dX8_shown_5 : decode cX8_shown 5 = .ok (.bipush 52, 2) := by decide +kernel
theorem dX8_shown_7 : decode cX8_shown 7 = .ok (.if_icmp .ge 26, 3) := by decide +kernel
theorem dX8_shown_10 : decode cX8_shown 10 = .ok (.iload_n 1, 1) := by decide +kernel
theorem dX8_shown_11 : decode cX8_shown 11 = .ok (.aload_n 0, 1) := by decide +kernel
theorem dX8_shown_12 : decode cX8_shown 12 = .ok (.getfield 14, 3) := by decide +kernel
theorem dX8_shown_15 : decode cX8_shown 15 = .ok (.iload_n 2, 1) := by decide +kernel
theorem dX8_shown_16 : decode cX8_shown 16 = .ok (.iaload, 1) := by decide +kernel
theorem dX8_shown_17 : decode cX8_shown 17 = .ok (.ifCond .le 7, 3) := by decide +kernel
theorem dX8_shown_20 : decode cX8_shown 20 = .ok (.iconst 1, 1) := by decide +kernel
theorem dX8_shown_21 : decode cX8_shown 21 = .ok (.goto 4, 3) := by decide +kernel
theorem dX8_shown_24 : decode cX8_shown 24 = .ok (.iconst 0, 1) := by decide +kernel
theorem dX8_shown_25 : decode cX8_shown 25 = .ok (.iadd, 1) := by decide +kernel
theorem dX8_shown_26 : decode cX8_shown 26 = .ok (.istore_n 1, 1) := by decide +kernel
theorem dX8_shown_27 : decode cX8_shown 27 = .ok (.iinc 2 1, 3) := by decide +kernel
theorem dX8_shown_30 : decode cX8_shown 30 = .ok (.goto (-26), 3) := by decide +kernel
theorem dX8_shown_33 : decode cX8_shown 33 = .ok (.iload_n 1, 1) := by decide +kernel
theorem dX8_shown_34 : decode cX8_shown 34 = .ok (.ireturn, 1) := by decide +kernel
theorem dX8_stood_0 : decode cX8_stood 0 = .ok (.iconst 0, 1) := by decide +kernel
theorem dX8_stood_1 : decode cX8_stood 1 = .ok (.istore_n 1, 1) := by decide +kernel
theorem dX8_stood_2 : decode cX8_stood 2 = .ok (.iconst 0, 1) := by decide +kernel
theorem dX8_stood_3 : decode cX8_stood 3 = .ok (.istore_n 2, 1) := by decide +kernel
theorem dX8_stood_4 : decode cX8_stood 4 = .ok (.iload_n 2, 1) := by decide +kernel
theorem dX8_stood_5 : decode cX8_stood 5 = .ok (.bipush 52, 2) := by decide +kernel
theorem dX8_stood_7 : decode cX8_stood 7 = .ok (.if_icmp .ge 26, 3) := by decide +kernel
theorem dX8_stood_10 : decode cX8_stood 10 = .ok (.iload_n 1, 1) := by decide +kernel
theorem dX8_stood_11 : decode cX8_stood 11 = .ok (.aload_n 0, 1) := by decide +kernel
theorem dX8_stood_12 : decode cX8_stood 12 = .ok (.getfield 18, 3) := by decide +kernel
theorem dX8_stood_15 : decode cX8_stood 15 = .ok (.iload_n 2, 1) := by decide +kernel
theorem dX8_stood_16 : decode cX8_stood 16 = .ok (.baload, 1) := by decide +kernel
theorem dX8_stood_17 : decode cX8_stood 17 = .ok (.ifCond .eq 7, 3) := by decide +kernel
theorem dX8_stood_20 : decode cX8_stood 20 = .ok (.iconst 1, 1) := by decide +kernel
theorem dX8_stood_21 : decode cX8_stood 21 = .ok (.goto 4, 3) := by decide +kernel
theorem dX8_stood_24 : decode cX8_stood 24 = .ok (.iconst 0, 1) := by decide +kernel
theorem dX8_stood_25 : decode cX8_stood 25 = .ok (.iadd, 1) := by decide +kernel
theorem dX8_stood_26 : decode cX8_stood 26 = .ok (.istore_n 1, 1) := by decide +kernel
theorem dX8_stood_27 : decode cX8_stood 27 = .ok (.iinc 2 1, 3) := by decide +kernel
theorem dX8_stood_30 : decode cX8_stood 30 = .ok (.goto (-26), 3) := by decide +kernel
theorem dX8_stood_33 : decode cX8_stood 33 = .ok (.iload_n 1, 1) := by decide +kernel
theorem dX8_stood_34 : decode cX8_stood 34 = .ok (.ireturn, 1) := by decide +kernel
set_option maxRecDepth 20000 in
theorem ggX8_worthShown_X8_worthOf : GoodIn wsX8_worthShown wsX8_worthOf := goodIn_r _ [5] (by decide +kernel) (by decide +kernel)
set_option maxRecDepth 20000 in
theorem gX8_worthShown_X8_worthOf : GoodIn wsX8_worthShown (va_wsS RX8 59 yX8_worthOf wsX8_worthOf) := goodIn_app (goodIn_of _ (by decide +kernel)) ggX8_worthShown_X8_worthOf
theorem dX8_worthShown_0 : decode cX8_worthShown 0 = .ok (.iconst 0, 1) := by decide +kernel
theorem dX8_worthShown_1 : decode cX8_worthShown 1 = .ok (.istore_n 1, 1) := by decide +kernel
theorem dX8_worthShown_2 : decode cX8_worthShown 2 = .ok (.iconst 0, 1) := by decide +kernel
theorem dX8_worthShown_3 : decode cX8_worthShown 3 = .ok (.istore_n 2, 1) := by decide +kernel
theorem dX8_worthShown_4 : decode cX8_worthShown 4 = .ok (.iload_n 2, 1) := by decide +kernel
theorem dX8_worthShown_5 : decode cX8_worthShown 5 = .ok (.bipush 52, 2) := by decide +kernel
theorem dX8_worthShown_7 : decode cX8_worthShown 7 = .ok (.if_icmp .ge 29, 3) := by decide +kernel
theorem dX8_worthShown_10 : decode cX8_worthShown 10 = .ok (.iload_n 1, 1) := by decide +kernel
theorem dX8_worthShown_11 : decode cX8_worthShown 11 = .ok (.aload_n 0, 1) := by decide +kernel
theorem dX8_worthShown_12 : decode cX8_worthShown 12 = .ok (.getfield 14, 3) := by decide +kernel
theorem dX8_worthShown_15 : decode cX8_worthShown 15 = .ok (.iload_n 2, 1) := by decide +kernel
theorem dX8_worthShown_16 : decode cX8_worthShown 16 = .ok (.iaload, 1) := by decide +kernel
theorem dX8_worthShown_17 : decode cX8_worthShown 17 = .ok (.ifCond .le 10, 3) := by decide +kernel
theorem dX8_worthShown_20 : decode cX8_worthShown 20 = .ok (.iload_n 2, 1) := by decide +kernel
theorem dX8_worthShown_21 : decode cX8_worthShown 21 = .ok (.invokestatic 59, 3) := by decide +kernel
theorem dX8_worthShown_24 : decode cX8_worthShown 24 = .ok (.goto 4, 3) := by decide +kernel
theorem dX8_worthShown_27 : decode cX8_worthShown 27 = .ok (.iconst 0, 1) := by decide +kernel
theorem dX8_worthShown_28 : decode cX8_worthShown 28 = .ok (.iadd, 1) := by decide +kernel
theorem dX8_worthShown_29 : decode cX8_worthShown 29 = .ok (.istore_n 1, 1) := by decide +kernel
theorem dX8_worthShown_30 : decode cX8_worthShown 30 = .ok (.iinc 2 1, 3) := by decide +kernel
theorem dX8_worthShown_33 : decode cX8_worthShown 33 = .ok (.goto (-29), 3) := by decide +kernel
theorem dX8_worthShown_36 : decode cX8_worthShown 36 = .ok (.iload_n 1, 1) := by decide +kernel
theorem dX8_worthShown_37 : decode cX8_worthShown 37 = .ok (.ireturn, 1) := by decide +kernel
theorem dX8_longest_0 : decode cX8_longest 0 = .ok (.iconst 0, 1) := by decide +kernel
theorem dX8_longest_1 : decode cX8_longest 1 = .ok (.istore_n 1, 1) := by decide +kernel
theorem dX8_longest_2 : decode cX8_longest 2 = .ok (.iconst 0, 1) := by decide +kernel
theorem dX8_longest_3 : decode cX8_longest 3 = .ok (.istore_n 2, 1) := by decide +kernel
theorem dX8_longest_4 : decode cX8_longest 4 = .ok (.iload_n 2, 1) := by decide +kernel
theorem dX8_longest_5 : decode cX8_longest 5 = .ok (.iconst 4, 1) := by decide +kernel
theorem dX8_longest_6 : decode cX8_longest 6 = .ok (.if_icmp .ge 68, 3) := by decide +kernel
theorem dX8_longest_9 : decode cX8_longest 9 = .ok (.iconst 0, 1) := by decide +kernel
theorem dX8_longest_10 : decode cX8_longest 10 = .ok (.istore_n 3, 1) := by decide +kernel
theorem dX8_longest_11 : decode cX8_longest 11 = .ok (.iload_n 2, 1) := by decide +kernel
theorem dX8_longest_12 : decode cX8_longest 12 = .ok (.istore 4, 2) := by decide +kernel
theorem dX8_longest_14 : decode cX8_longest 14 = .ok (.iload 4, 2) := by decide +kernel
theorem dX8_longest_16 : decode cX8_longest 16 = .ok (.bipush 52, 2) := by decide +kernel
theorem dX8_longest_18 : decode cX8_longest 18 = .ok (.if_icmp .ge 50, 3) := by decide +kernel
theorem dX8_longest_21 : decode cX8_longest 21 = .ok (.aload_n 0, 1) := by decide +kernel
theorem dX8_longest_22 : decode cX8_longest 22 = .ok (.getfield 14, 3) := by decide +kernel
theorem dX8_longest_25 : decode cX8_longest 25 = .ok (.iload 4, 2) := by decide +kernel
theorem dX8_longest_27 : decode cX8_longest 27 = .ok (.iaload, 1) := by decide +kernel
theorem dX8_longest_28 : decode cX8_longest 28 = .ok (.iconst 3, 1) := by decide +kernel
theorem dX8_longest_29 : decode cX8_longest 29 = .ok (.if_icmp .ne 9, 3) := by decide +kernel
theorem dX8_longest_32 : decode cX8_longest 32 = .ok (.iload_n 3, 1) := by decide +kernel
theorem dX8_longest_33 : decode cX8_longest 33 = .ok (.iconst 1, 1) := by decide +kernel
theorem dX8_longest_34 : decode cX8_longest 34 = .ok (.iadd, 1) := by decide +kernel
theorem dX8_longest_35 : decode cX8_longest 35 = .ok (.goto 19, 3) := by decide +kernel
theorem dX8_longest_38 : decode cX8_longest 38 = .ok (.aload_n 0, 1) := by decide +kernel
theorem dX8_longest_39 : decode cX8_longest 39 = .ok (.getfield 14, 3) := by decide +kernel
theorem dX8_longest_42 : decode cX8_longest 42 = .ok (.iload 4, 2) := by decide +kernel
theorem dX8_longest_44 : decode cX8_longest 44 = .ok (.iaload, 1) := by decide +kernel
theorem dX8_longest_45 : decode cX8_longest 45 = .ok (.iconst 2, 1) := by decide +kernel
theorem dX8_longest_46 : decode cX8_longest 46 = .ok (.if_icmp .ne 7, 3) := by decide +kernel
theorem dX8_longest_49 : decode cX8_longest 49 = .ok (.iconst 1, 1) := by decide +kernel
theorem dX8_longest_50 : decode cX8_longest 50 = .ok (.goto 4, 3) := by decide +kernel
theorem dX8_longest_53 : decode cX8_longest 53 = .ok (.iconst 0, 1) := by decide +kernel
theorem dX8_longest_54 : decode cX8_longest 54 = .ok (.istore_n 3, 1) := by decide +kernel
theorem dX8_longest_55 : decode cX8_longest 55 = .ok (.iload_n 3, 1) := by decide +kernel
theorem dX8_longest_56 : decode cX8_longest 56 = .ok (.iload_n 1, 1) := by decide +kernel
theorem dX8_longest_57 : decode cX8_longest 57 = .ok (.if_icmp .le 5, 3) := by decide +kernel
theorem dX8_longest_60 : decode cX8_longest 60 = .ok (.iload_n 3, 1) := by decide +kernel
theorem dX8_longest_61 : decode cX8_longest 61 = .ok (.istore_n 1, 1) := by decide +kernel
theorem dX8_longest_62 : decode cX8_longest 62 = .ok (.iinc 4 4, 3) := by decide +kernel
theorem dX8_longest_65 : decode cX8_longest 65 = .ok (.goto (-51), 3) := by decide +kernel
theorem dX8_longest_68 : decode cX8_longest 68 = .ok (.iinc 2 1, 3) := by decide +kernel
theorem dX8_longest_71 : decode cX8_longest 71 = .ok (.goto (-67), 3) := by decide +kernel
theorem dX8_longest_74 : decode cX8_longest 74 = .ok (.iload_n 1, 1) := by decide +kernel
theorem dX8_longest_75 : decode cX8_longest 75 = .ok (.ireturn, 1) := by decide +kernel
set_option maxRecDepth 20000 in
theorem ggX8_shows_X8_melds : GoodIn wsX8_shows wsX8_melds := goodIn_r _ [5, 6, 31, 32, 33, 34, 35, 36, 37, 38, 39, 40, 41, 42, 43, 44, 45, 46, 47, 48, 49, 50, 51, 52, 53] (by decide +kernel) (by decide +kernel)
set_option maxRecDepth 20000 in
theorem gX8_shows_X8_melds : GoodIn wsX8_shows (wsV RX8 100 RX8 yX8_melds wsX8_melds) := goodIn_app (goodIn_of _ (by decide +kernel)) ggX8_shows_X8_melds
set_option maxRecDepth 20000 in
theorem ggX8_shows_X8_runs : GoodIn wsX8_shows wsX8_runs := goodIn_r _ [10, 6, 31, 32, 33, 34, 35, 36, 37, 38, 39, 40, 41, 42, 43, 44, 45, 46, 47, 48, 49, 50, 51, 52, 53] (by decide +kernel) (by decide +kernel)
set_option maxRecDepth 20000 in
theorem gX8_shows_X8_runs : GoodIn wsX8_shows (wsV RX8 104 RX8 yX8_runs wsX8_runs) := goodIn_app (goodIn_of _ (by decide +kernel)) ggX8_shows_X8_runs
set_option maxRecDepth 20000 in
theorem ggX8_shows_X8_shown : GoodIn wsX8_shows wsX8_shown := goodIn_r _ [14, 6, 31, 32, 33, 34, 35, 36, 37, 38, 39, 40, 41, 42, 43, 44, 45, 46, 47, 48, 49, 50, 51, 52, 53] (by decide +kernel) (by decide +kernel)
set_option maxRecDepth 20000 in
theorem gX8_shows_X8_shown : GoodIn wsX8_shows (wsV RX8 107 RX8 yX8_shown wsX8_shown) := goodIn_app (goodIn_of _ (by decide +kernel)) ggX8_shows_X8_shown
set_option maxRecDepth 20000 in
theorem ggX8_shows_X8_stood : GoodIn wsX8_shows wsX8_stood := goodIn_r _ [18, 19, 31, 32, 33, 34, 35, 36, 37, 38, 39, 40, 41, 42, 43, 44, 45, 46, 47, 48, 49, 50, 51, 52, 53] (by decide +kernel) (by decide +kernel)
set_option maxRecDepth 20000 in
theorem gX8_shows_X8_stood : GoodIn wsX8_shows (wsV RX8 110 RX8 yX8_stood wsX8_stood) := goodIn_app (goodIn_of _ (by decide +kernel)) ggX8_shows_X8_stood
set_option maxRecDepth 20000 in
theorem ggX8_shows_X8_worthShown : GoodIn wsX8_shows wsX8_worthShown := goodIn_r _ [23, 6, 24, 25, 4, 26, 31, 32, 33, 34, 35, 36, 37, 38, 39, 40, 41, 42, 43, 44, 45, 46, 47, 48, 49, 50, 51, 52, 53] (by decide +kernel) (by decide +kernel)
set_option maxRecDepth 20000 in
theorem gX8_shows_X8_worthShown : GoodIn wsX8_shows (wsV RX8 113 RX8 yX8_worthShown wsX8_worthShown) := goodIn_app (goodIn_of _ (by decide +kernel)) ggX8_shows_X8_worthShown
set_option maxRecDepth 20000 in
theorem ggX8_shows_X8_longest : GoodIn wsX8_shows wsX8_longest := goodIn_r _ [30, 6, 31, 32, 33, 34, 35, 36, 37, 38, 39, 40, 41, 42, 43, 44, 45, 46, 47, 48, 49, 50, 51, 52, 53] (by decide +kernel) (by decide +kernel)
set_option maxRecDepth 20000 in
theorem gX8_shows_X8_longest : GoodIn wsX8_shows (wsV RX8 116 RX8 yX8_longest wsX8_longest) := goodIn_app (goodIn_of _ (by decide +kernel)) ggX8_shows_X8_longest
theorem dX8_shows_0 : decode cX8_shows 0 = .ok (.iload_n 1, 1) := by decide +kernel
theorem dX8_shows_1 : decode cX8_shows 1 = .ok (.tableswitch 74 0 5 #[39, 49, 54, 59, 64, 69], 39) := by decide +kernel
theorem dX8_shows_40 : decode cX8_shows 40 = .ok (.aload_n 0, 1) := by decide +kernel
theorem dX8_shows_41 : decode cX8_shows 41 = .ok (.invokevirtual 100, 3) := by decide +kernel
theorem dX8_shows_44 : decode cX8_shows 44 = .ok (.aload_n 0, 1) := by decide +kernel
theorem dX8_shows_45 : decode cX8_shows 45 = .ok (.invokevirtual 104, 3) := by decide +kernel
theorem dX8_shows_48 : decode cX8_shows 48 = .ok (.isub, 1) := by decide +kernel
theorem dX8_shows_49 : decode cX8_shows 49 = .ok (.ireturn, 1) := by decide +kernel
theorem dX8_shows_50 : decode cX8_shows 50 = .ok (.aload_n 0, 1) := by decide +kernel
theorem dX8_shows_51 : decode cX8_shows 51 = .ok (.invokevirtual 104, 3) := by decide +kernel
theorem dX8_shows_54 : decode cX8_shows 54 = .ok (.ireturn, 1) := by decide +kernel
theorem dX8_shows_55 : decode cX8_shows 55 = .ok (.aload_n 0, 1) := by decide +kernel
theorem dX8_shows_56 : decode cX8_shows 56 = .ok (.invokevirtual 107, 3) := by decide +kernel
theorem dX8_shows_59 : decode cX8_shows 59 = .ok (.ireturn, 1) := by decide +kernel
theorem dX8_shows_60 : decode cX8_shows 60 = .ok (.aload_n 0, 1) := by decide +kernel
theorem dX8_shows_61 : decode cX8_shows 61 = .ok (.invokevirtual 110, 3) := by decide +kernel
theorem dX8_shows_64 : decode cX8_shows 64 = .ok (.ireturn, 1) := by decide +kernel
theorem dX8_shows_65 : decode cX8_shows 65 = .ok (.aload_n 0, 1) := by decide +kernel
theorem dX8_shows_66 : decode cX8_shows 66 = .ok (.invokevirtual 113, 3) := by decide +kernel
theorem dX8_shows_69 : decode cX8_shows 69 = .ok (.ireturn, 1) := by decide +kernel
theorem dX8_shows_70 : decode cX8_shows 70 = .ok (.aload_n 0, 1) := by decide +kernel
theorem dX8_shows_71 : decode cX8_shows 71 = .ok (.invokevirtual 116, 3) := by decide +kernel
theorem dX8_shows_74 : decode cX8_shows 74 = .ok (.ireturn, 1) := by decide +kernel
theorem dX8_shows_75 : decode cX8_shows 75 = .ok (.iconst (-1), 1) := by decide +kernel
theorem dX8_shows_76 : decode cX8_shows 76 = .ok (.ireturn, 1) := by decide +kernel
set_option maxRecDepth 20000 in
theorem ggX8_worth_X8_isSet : GoodIn wsX8_worth wsX8_isSet := goodIn_r _ [5, 6] (by decide +kernel) (by decide +kernel)
set_option maxRecDepth 20000 in
theorem gX8_worth_X8_isSet : GoodIn wsX8_worth (va_wsS RX8 86 yX8_isSet wsX8_isSet) := goodIn_app (goodIn_of _ (by decide +kernel)) ggX8_worth_X8_isSet
set_option maxRecDepth 20000 in
theorem ggX8_worth_X8_none : GoodIn wsX8_worth wsX8_none := goodIn_r _ [10, 1, 20, 21, 22, 23, 24, 25, 26, 27, 28, 29, 30, 31, 32, 33, 34, 35, 36, 37, 38, 39, 40, 41, 42] (by decide +kernel) (by decide +kernel)
set_option maxRecDepth 20000 in
theorem gX8_worth_X8_none : GoodIn wsX8_worth (wsV RX8 90 RX8 yX8_none wsX8_none) := goodIn_app (goodIn_of _ (by decide +kernel)) ggX8_worth_X8_none
set_option maxRecDepth 20000 in
theorem ggX8_worth_X8_worthAll : GoodIn wsX8_worth wsX8_worthAll := goodIn_r _ [13, 14, 15, 4, 16, 17, 18, 19] (by decide +kernel) (by decide +kernel)
set_option maxRecDepth 20000 in
theorem gX8_worth_X8_worthAll : GoodIn wsX8_worth (va_wsS RX8 119 yX8_worthAll wsX8_worthAll) := goodIn_app (goodIn_of _ (by decide +kernel)) ggX8_worth_X8_worthAll
theorem dX8_worth_0 : decode cX8_worth 0 = .ok (.lload_n 1, 1) := by decide +kernel
theorem dX8_worth_1 : decode cX8_worth 1 = .ok (.invokestatic 86, 3) := by decide +kernel
theorem dX8_worth_4 : decode cX8_worth 4 = .ok (.ifCond .ne 9, 3) := by decide +kernel
theorem dX8_worth_7 : decode cX8_worth 7 = .ok (.aload_n 0, 1) := by decide +kernel
theorem dX8_worth_8 : decode cX8_worth 8 = .ok (.iconst 1, 1) := by decide +kernel
theorem dX8_worth_9 : decode cX8_worth 9 = .ok (.invokevirtual 90, 3) := by decide +kernel
theorem dX8_worth_12 : decode cX8_worth 12 = .ok (.ireturn, 1) := by decide +kernel
theorem dX8_worth_13 : decode cX8_worth 13 = .ok (.aload_n 0, 1) := by decide +kernel
theorem dX8_worth_14 : decode cX8_worth 14 = .ok (.iconst 0, 1) := by decide +kernel
theorem dX8_worth_15 : decode cX8_worth 15 = .ok (.putfield 50, 3) := by decide +kernel
theorem dX8_worth_18 : decode cX8_worth 18 = .ok (.lload_n 1, 1) := by decide +kernel
theorem dX8_worth_19 : decode cX8_worth 19 = .ok (.invokestatic 119, 3) := by decide +kernel
theorem dX8_worth_22 : decode cX8_worth 22 = .ok (.ireturn, 1) := by decide +kernel
set_option maxRecDepth 20000 in
theorem ggX8_gain_X8_worthOf : GoodIn wsX8_gain wsX8_worthOf := goodIn_r _ [4] (by decide +kernel) (by decide +kernel)
set_option maxRecDepth 20000 in
theorem gX8_gain_X8_worthOf : GoodIn wsX8_gain (va_wsS RX8 59 yX8_worthOf wsX8_worthOf) := goodIn_app (goodIn_of _ (by decide +kernel)) ggX8_gain_X8_worthOf
theorem dX8_gain_0 : decode cX8_gain 0 = .ok (.iload_n 1, 1) := by decide +kernel
theorem dX8_gain_1 : decode cX8_gain 1 = .ok (.ifCond .ne 7, 3) := by decide +kernel
theorem dX8_gain_4 : decode cX8_gain 4 = .ok (.iconst 1, 1) := by decide +kernel
theorem dX8_gain_5 : decode cX8_gain 5 = .ok (.goto 7, 3) := by decide +kernel
theorem dX8_gain_8 : decode cX8_gain 8 = .ok (.iload_n 0, 1) := by decide +kernel
theorem dX8_gain_9 : decode cX8_gain 9 = .ok (.invokestatic 59, 3) := by decide +kernel
theorem dX8_gain_12 : decode cX8_gain 12 = .ok (.ireturn, 1) := by decide +kernel
set_option maxRecDepth 20000 in
theorem ggX8_reckon_X8_jokers : GoodIn wsX8_reckon wsX8_jokers := goodIn_r _ [10] (by decide +kernel) (by decide +kernel)
set_option maxRecDepth 20000 in
theorem gX8_reckon_X8_jokers : GoodIn wsX8_reckon (va_wsS RX8 70 yX8_jokers wsX8_jokers) := goodIn_app (goodIn_of _ (by decide +kernel)) ggX8_reckon_X8_jokers
set_option maxRecDepth 20000 in
theorem ggX8_reckon_X8_jokersOf : GoodIn wsX8_reckon wsX8_jokersOf := goodIn_r _ [13] (by decide +kernel) (by decide +kernel)
set_option maxRecDepth 20000 in
theorem gX8_reckon_X8_jokersOf : GoodIn wsX8_reckon (va_wsS RX8 78 yX8_jokersOf wsX8_jokersOf) := goodIn_app (goodIn_of _ (by decide +kernel)) ggX8_reckon_X8_jokersOf
set_option maxRecDepth 20000 in
theorem ggX8_reckon_X8_isWhole : GoodIn wsX8_reckon wsX8_isWhole := goodIn_r _ [16, 17, 18, 9, 19, 20, 21, 22] (by decide +kernel) (by decide +kernel)
set_option maxRecDepth 20000 in
theorem gX8_reckon_X8_isWhole : GoodIn wsX8_reckon (va_wsS RX8 74 yX8_isWhole wsX8_isWhole) := goodIn_app (goodIn_of _ (by decide +kernel)) ggX8_reckon_X8_isWhole
set_option maxRecDepth 20000 in
theorem ggX8_reckon_X8_gain : GoodIn wsX8_reckon wsX8_gain := goodIn_r _ [25, 26, 27, 9, 28] (by decide +kernel) (by decide +kernel)
set_option maxRecDepth 20000 in
theorem gX8_reckon_X8_gain : GoodIn wsX8_reckon (va_wsS RX8 122 yX8_gain wsX8_gain) := goodIn_app (goodIn_of _ (by decide +kernel)) ggX8_reckon_X8_gain
set_option maxRecDepth 20000 in
theorem ggX8_reckon_X8_has : GoodIn wsX8_reckon wsX8_has := goodIn_r _ [31] (by decide +kernel) (by decide +kernel)
set_option maxRecDepth 20000 in
theorem gX8_reckon_X8_has : GoodIn wsX8_reckon (va_wsS RX8 55 yX8_has wsX8_has) := goodIn_app (goodIn_of _ (by decide +kernel)) ggX8_reckon_X8_has
set_option maxRecDepth 20000 in
theorem ggX8_reckon_X8_behind : GoodIn wsX8_reckon wsX8_behind := goodIn_r _ [34, 17, 18, 9, 19, 20, 21, 22, 7, 8, 10] (by decide +kernel) (by decide +kernel)
set_option maxRecDepth 20000 in
theorem gX8_reckon_X8_behind : GoodIn wsX8_reckon (va_wsS RX8 82 yX8_behind wsX8_behind) := goodIn_app (goodIn_of _ (by decide +kernel)) ggX8_reckon_X8_behind
set_option maxRecDepth 20000 in
theorem ggX8_reckon_X8_after : GoodIn wsX8_reckon wsX8_after := goodIn_r _ [38, 1, 39, 40, 41, 42, 43, 44, 45, 46, 47, 48, 49, 50, 51, 52, 53, 54, 55, 56, 57, 58, 59, 60, 61] (by decide +kernel) (by decide +kernel)
set_option maxRecDepth 20000 in
theorem gX8_reckon_X8_after : GoodIn wsX8_reckon (wsV RX8 125 RX8 yX8_after wsX8_after) := goodIn_app (goodIn_of _ (by decide +kernel)) ggX8_reckon_X8_after
end
section
theorem dX8_reckon_0 : decode cX8_reckon 0 = .ok (.iconst 0, 1) := by decide +kernel
theorem dX8_reckon_1 : decode cX8_reckon 1 = .ok (.istore 6, 2) := by decide +kernel
theorem dX8_reckon_3 : decode cX8_reckon 3 = .ok (.iload 6, 2) := by decide +kernel
theorem dX8_reckon_5 : decode cX8_reckon 5 = .ok (.sipush 3840, 3) := by decide +kernel
theorem dX8_reckon_8 : decode cX8_reckon 8 = .ok (.if_icmp .ge 67, 3) := by decide +kernel
theorem dX8_reckon_11 : decode cX8_reckon 11 = .ok (.iload 6, 2) := by decide +kernel
theorem dX8_reckon_13 : decode cX8_reckon 13 = .ok (.invokestatic 70, 3) := by decide +kernel
theorem dX8_reckon_16 : decode cX8_reckon 16 = .ok (.lload_n 1, 1) := by decide +kernel
theorem dX8_reckon_17 : decode cX8_reckon 17 = .ok (.invokestatic 78, 3) := by decide +kernel
theorem dX8_reckon_20 : decode cX8_reckon 20 = .ok (.isub, 1) := by decide +kernel
theorem dX8_reckon_21 : decode cX8_reckon 21 = .ok (.istore 7, 2) := by decide +kernel
theorem dX8_reckon_23 : decode cX8_reckon 23 = .ok (.aload_n 0, 1) := by decide +kernel
theorem dX8_reckon_24 : decode cX8_reckon 24 = .ok (.getfield 22, 3) := by decide +kernel
theorem dX8_reckon_27 : decode cX8_reckon 27 = .ok (.ldc 73, 2) := by decide +kernel
theorem dX8_reckon_29 : decode cX8_reckon 29 = .ok (.iload 6, 2) := by decide +kernel
theorem dX8_reckon_31 : decode cX8_reckon 31 = .ok (.iadd, 1) := by decide +kernel
theorem dX8_reckon_32 : decode cX8_reckon 32 = .ok (.iload 6, 2) := by decide +kernel
theorem dX8_reckon_34 : decode cX8_reckon 34 = .ok (.invokestatic 74, 3) := by decide +kernel
theorem dX8_reckon_37 : decode cX8_reckon 37 = .ok (.ifCond .eq 30, 3) := by decide +kernel
theorem dX8_reckon_40 : decode cX8_reckon 40 = .ok (.iload 7, 2) := by decide +kernel
theorem dX8_reckon_42 : decode cX8_reckon 42 = .ok (.ifCond .lt 25, 3) := by decide +kernel
theorem dX8_reckon_45 : decode cX8_reckon 45 = .ok (.iload 7, 2) := by decide +kernel
theorem dX8_reckon_47 : decode cX8_reckon 47 = .ok (.lload_n 3, 1) := by decide +kernel
theorem dX8_reckon_48 : decode cX8_reckon 48 = .ok (.invokestatic 78, 3) := by decide +kernel
theorem dX8_reckon_51 : decode cX8_reckon 51 = .ok (.if_icmp .gt 16, 3) := by decide +kernel
theorem dX8_reckon_54 : decode cX8_reckon 54 = .ok (.iload 7, 2) := by decide +kernel
theorem dX8_reckon_56 : decode cX8_reckon 56 = .ok (.bipush 52, 2) := by decide +kernel
theorem dX8_reckon_58 : decode cX8_reckon 58 = .ok (.iload 5, 2) := by decide +kernel
theorem dX8_reckon_60 : decode cX8_reckon 60 = .ok (.invokestatic 122, 3) := by decide +kernel
theorem dX8_reckon_63 : decode cX8_reckon 63 = .ok (.imul, 1) := by decide +kernel
theorem dX8_reckon_64 : decode cX8_reckon 64 = .ok (.goto 4, 3) := by decide +kernel
theorem dX8_reckon_67 : decode cX8_reckon 67 = .ok (.iconst (-1), 1) := by decide +kernel
theorem dX8_reckon_68 : decode cX8_reckon 68 = .ok (.iastore, 1) := by decide +kernel
theorem dX8_reckon_69 : decode cX8_reckon 69 = .ok (.iinc 6 1, 3) := by decide +kernel
theorem dX8_reckon_72 : decode cX8_reckon 72 = .ok (.goto (-69), 3) := by decide +kernel
theorem dX8_reckon_75 : decode cX8_reckon 75 = .ok (.bipush 51, 2) := by decide +kernel
theorem dX8_reckon_77 : decode cX8_reckon 77 = .ok (.istore 6, 2) := by decide +kernel
theorem dX8_reckon_79 : decode cX8_reckon 79 = .ok (.iload 6, 2) := by decide +kernel
theorem dX8_reckon_81 : decode cX8_reckon 81 = .ok (.ifCond .lt 186, 3) := by decide +kernel
theorem dX8_reckon_84 : decode cX8_reckon 84 = .ok (.iconst 0, 1) := by decide +kernel
theorem dX8_reckon_85 : decode cX8_reckon 85 = .ok (.istore 7, 2) := by decide +kernel
theorem dX8_reckon_87 : decode cX8_reckon 87 = .ok (.iload 7, 2) := by decide +kernel
theorem dX8_reckon_89 : decode cX8_reckon 89 = .ok (.sipush 3840, 3) := by decide +kernel
theorem dX8_reckon_92 : decode cX8_reckon 92 = .ok (.if_icmp .ge 169, 3) := by decide +kernel
theorem dX8_reckon_95 : decode cX8_reckon 95 = .ok (.iconst (-1), 1) := by decide +kernel
theorem dX8_reckon_96 : decode cX8_reckon 96 = .ok (.istore 8, 2) := by decide +kernel
theorem dX8_reckon_98 : decode cX8_reckon 98 = .ok (.iconst 0, 1) := by decide +kernel
theorem dX8_reckon_99 : decode cX8_reckon 99 = .ok (.istore 9, 2) := by decide +kernel
theorem dX8_reckon_101 : decode cX8_reckon 101 = .ok (.iload 9, 2) := by decide +kernel
theorem dX8_reckon_103 : decode cX8_reckon 103 = .ok (.iconst 3, 1) := by decide +kernel
theorem dX8_reckon_104 : decode cX8_reckon 104 = .ok (.if_icmp .gt 135, 3) := by decide +kernel
theorem dX8_reckon_107 : decode cX8_reckon 107 = .ok (.iload 9, 2) := by decide +kernel
theorem dX8_reckon_109 : decode cX8_reckon 109 = .ok (.ifCond .le 40, 3) := by decide +kernel
theorem dX8_reckon_112 : decode cX8_reckon 112 = .ok (.lload_n 1, 1) := by decide +kernel
theorem dX8_reckon_113 : decode cX8_reckon 113 = .ok (.iload 6, 2) := by decide +kernel
theorem dX8_reckon_115 : decode cX8_reckon 115 = .ok (.invokestatic 55, 3) := by decide +kernel
theorem dX8_reckon_118 : decode cX8_reckon 118 = .ok (.ifCond .ne 12, 3) := by decide +kernel
theorem dX8_reckon_121 : decode cX8_reckon 121 = .ok (.lload_n 3, 1) := by decide +kernel
theorem dX8_reckon_122 : decode cX8_reckon 122 = .ok (.iload 6, 2) := by decide +kernel
theorem dX8_reckon_124 : decode cX8_reckon 124 = .ok (.invokestatic 55, 3) := by decide +kernel
theorem dX8_reckon_127 : decode cX8_reckon 127 = .ok (.ifCond .eq 22, 3) := by decide +kernel
theorem dX8_reckon_130 : decode cX8_reckon 130 = .ok (.aload_n 0, 1) := by decide +kernel
theorem dX8_reckon_131 : decode cX8_reckon 131 = .ok (.iload 6, 2) := by decide +kernel
theorem dX8_reckon_133 : decode cX8_reckon 133 = .ok (.iload 7, 2) := by decide +kernel
theorem dX8_reckon_135 : decode cX8_reckon 135 = .ok (.iload 6, 2) := by decide +kernel
theorem dX8_reckon_137 : decode cX8_reckon 137 = .ok (.iload 9, 2) := by decide +kernel
theorem dX8_reckon_139 : decode cX8_reckon 139 = .ok (.iconst 0, 1) := by decide +kernel
theorem dX8_reckon_140 : decode cX8_reckon 140 = .ok (.invokestatic 82, 3) := by decide +kernel
theorem dX8_reckon_143 : decode cX8_reckon 143 = .ok (.invokevirtual 125, 3) := by decide +kernel
theorem dX8_reckon_146 : decode cX8_reckon 146 = .ok (.goto 4, 3) := by decide +kernel
theorem dX8_reckon_149 : decode cX8_reckon 149 = .ok (.iconst (-1), 1) := by decide +kernel
theorem dX8_reckon_150 : decode cX8_reckon 150 = .ok (.istore 10, 2) := by decide +kernel
theorem dX8_reckon_152 : decode cX8_reckon 152 = .ok (.iload 10, 2) := by decide +kernel
theorem dX8_reckon_154 : decode cX8_reckon 154 = .ok (.iconst (-1), 1) := by decide +kernel
theorem dX8_reckon_155 : decode cX8_reckon 155 = .ok (.if_icmp .eq 24, 3) := by decide +kernel
theorem dX8_reckon_158 : decode cX8_reckon 158 = .ok (.lload_n 3, 1) := by decide +kernel
theorem dX8_reckon_159 : decode cX8_reckon 159 = .ok (.iload 6, 2) := by decide +kernel
theorem dX8_reckon_161 : decode cX8_reckon 161 = .ok (.invokestatic 55, 3) := by decide +kernel
theorem dX8_reckon_164 : decode cX8_reckon 164 = .ok (.ifCond .eq 15, 3) := by decide +kernel
theorem dX8_reckon_167 : decode cX8_reckon 167 = .ok (.iload 10, 2) := by decide +kernel
theorem dX8_reckon_169 : decode cX8_reckon 169 = .ok (.iload 6, 2) := by decide +kernel
theorem dX8_reckon_171 : decode cX8_reckon 171 = .ok (.iload 5, 2) := by decide +kernel
theorem dX8_reckon_173 : decode cX8_reckon 173 = .ok (.invokestatic 122, 3) := by decide +kernel
theorem dX8_reckon_176 : decode cX8_reckon 176 = .ok (.iadd, 1) := by decide +kernel
theorem dX8_reckon_177 : decode cX8_reckon 177 = .ok (.istore 10, 2) := by decide +kernel
theorem dX8_reckon_179 : decode cX8_reckon 179 = .ok (.lload_n 1, 1) := by decide +kernel
theorem dX8_reckon_180 : decode cX8_reckon 180 = .ok (.iload 6, 2) := by decide +kernel
theorem dX8_reckon_182 : decode cX8_reckon 182 = .ok (.invokestatic 55, 3) := by decide +kernel
theorem dX8_reckon_185 : decode cX8_reckon 185 = .ok (.ifCond .eq 7, 3) := by decide +kernel
theorem dX8_reckon_188 : decode cX8_reckon 188 = .ok (.iconst (-1), 1) := by decide +kernel
theorem dX8_reckon_189 : decode cX8_reckon 189 = .ok (.goto 28, 3) := by decide +kernel
theorem dX8_reckon_192 : decode cX8_reckon 192 = .ok (.aload_n 0, 1) := by decide +kernel
theorem dX8_reckon_193 : decode cX8_reckon 193 = .ok (.iload 6, 2) := by decide +kernel
theorem dX8_reckon_195 : decode cX8_reckon 195 = .ok (.iload 7, 2) := by decide +kernel
theorem dX8_reckon_197 : decode cX8_reckon 197 = .ok (.iload 6, 2) := by decide +kernel
theorem dX8_reckon_199 : decode cX8_reckon 199 = .ok (.iload 9, 2) := by decide +kernel
theorem dX8_reckon_201 : decode cX8_reckon 201 = .ok (.iload 9, 2) := by decide +kernel
theorem dX8_reckon_203 : decode cX8_reckon 203 = .ok (.ifCond .le 7, 3) := by decide +kernel
theorem dX8_reckon_206 : decode cX8_reckon 206 = .ok (.iconst 1, 1) := by decide +kernel
theorem dX8_reckon_207 : decode cX8_reckon 207 = .ok (.goto 4, 3) := by decide +kernel
theorem dX8_reckon_210 : decode cX8_reckon 210 = .ok (.iconst 0, 1) := by decide +kernel
theorem dX8_reckon_211 : decode cX8_reckon 211 = .ok (.invokestatic 82, 3) := by decide +kernel
theorem dX8_reckon_214 : decode cX8_reckon 214 = .ok (.invokevirtual 125, 3) := by decide +kernel
theorem dX8_reckon_217 : decode cX8_reckon 217 = .ok (.istore 11, 2) := by decide +kernel
theorem dX8_reckon_219 : decode cX8_reckon 219 = .ok (.iload 8, 2) := by decide +kernel
theorem dX8_reckon_221 : decode cX8_reckon 221 = .ok (.iload 10, 2) := by decide +kernel
theorem dX8_reckon_223 : decode cX8_reckon 223 = .ok (.iload 11, 2) := by decide +kernel
theorem dX8_reckon_225 : decode cX8_reckon 225 = .ok (.invokestatic 128, 3) := by decide +kernel
theorem dX8_reckon_228 : decode cX8_reckon 228 = .ok (.invokestatic 128, 3) := by decide +kernel
theorem dX8_reckon_231 : decode cX8_reckon 231 = .ok (.istore 8, 2) := by decide +kernel
theorem dX8_reckon_233 : decode cX8_reckon 233 = .ok (.iinc 9 1, 3) := by decide +kernel
theorem dX8_reckon_236 : decode cX8_reckon 236 = .ok (.goto (-135), 3) := by decide +kernel
theorem dX8_reckon_239 : decode cX8_reckon 239 = .ok (.aload_n 0, 1) := by decide +kernel
theorem dX8_reckon_240 : decode cX8_reckon 240 = .ok (.getfield 22, 3) := by decide +kernel
theorem dX8_reckon_243 : decode cX8_reckon 243 = .ok (.sipush 3840, 3) := by decide +kernel
theorem dX8_reckon_246 : decode cX8_reckon 246 = .ok (.iload 6, 2) := by decide +kernel
theorem dX8_reckon_248 : decode cX8_reckon 248 = .ok (.imul, 1) := by decide +kernel
theorem dX8_reckon_249 : decode cX8_reckon 249 = .ok (.iload 7, 2) := by decide +kernel
theorem dX8_reckon_251 : decode cX8_reckon 251 = .ok (.iadd, 1) := by decide +kernel
theorem dX8_reckon_252 : decode cX8_reckon 252 = .ok (.iload 8, 2) := by decide +kernel
theorem dX8_reckon_254 : decode cX8_reckon 254 = .ok (.iastore, 1) := by decide +kernel
theorem dX8_reckon_255 : decode cX8_reckon 255 = .ok (.iinc 7 1, 3) := by decide +kernel
theorem dX8_reckon_258 : decode cX8_reckon 258 = .ok (.goto (-171), 3) := by decide +kernel
theorem dX8_reckon_261 : decode cX8_reckon 261 = .ok (.iinc 6 (-1), 3) := by decide +kernel
theorem dX8_reckon_264 : decode cX8_reckon 264 = .ok (.goto (-185), 3) := by decide +kernel
theorem dX8_reckon_267 : decode cX8_reckon 267 = .ok (.return_, 1) := by decide +kernel
theorem dX8_after_0 : decode cX8_after 0 = .ok (.iload_n 2, 1) := by decide +kernel
theorem dX8_after_1 : decode cX8_after 1 = .ok (.iconst (-1), 1) := by decide +kernel
theorem dX8_after_2 : decode cX8_after 2 = .ok (.if_icmp .ne 7, 3) := by decide +kernel
theorem dX8_after_5 : decode cX8_after 5 = .ok (.iconst (-1), 1) := by decide +kernel
theorem dX8_after_6 : decode cX8_after 6 = .ok (.goto 17, 3) := by decide +kernel
theorem dX8_after_9 : decode cX8_after 9 = .ok (.aload_n 0, 1) := by decide +kernel
theorem dX8_after_10 : decode cX8_after 10 = .ok (.getfield 22, 3) := by decide +kernel
theorem dX8_after_13 : decode cX8_after 13 = .ok (.sipush 3840, 3) := by decide +kernel
theorem dX8_after_16 : decode cX8_after 16 = .ok (.iload_n 1, 1) := by decide +kernel
theorem dX8_after_17 : decode cX8_after 17 = .ok (.iconst 1, 1) := by decide +kernel
theorem dX8_after_18 : decode cX8_after 18 = .ok (.iadd, 1) := by decide +kernel
theorem dX8_after_19 : decode cX8_after 19 = .ok (.imul, 1) := by decide +kernel
theorem dX8_after_20 : decode cX8_after 20 = .ok (.iload_n 2, 1) := by decide +kernel
theorem dX8_after_21 : decode cX8_after 21 = .ok (.iadd, 1) := by decide +kernel
theorem dX8_after_22 : decode cX8_after 22 = .ok (.iaload, 1) := by decide +kernel
theorem dX8_after_23 : decode cX8_after 23 = .ok (.ireturn, 1) := by decide +kernel
set_option maxRecDepth 20000 in
theorem ggX8_bestOf_X8_reckon : GoodIn wsX8_bestOf wsX8_reckon := goodIn_r _ [9, 1, 10, 11, 12, 13, 14, 15, 16, 8, 17, 18, 19, 20, 21, 22, 23, 24, 25, 26, 27, 28, 29, 30, 31, 32, 33, 34, 35, 36, 37, 38, 39, 40, 41, 42, 43, 44, 45, 50, 51, 52, 53, 54, 55, 56, 57, 58, 59, 60, 61, 62, 63, 64, 65, 66, 67, 68, 69, 70, 71, 72] (by decide +kernel) (by decide +kernel)
set_option maxRecDepth 20000 in
theorem gX8_bestOf_X8_reckon : GoodIn wsX8_bestOf (wsV RX8 133 RX8 yX8_reckon wsX8_reckon) := goodIn_app (goodIn_of _ (by decide +kernel)) ggX8_bestOf_X8_reckon
set_option maxRecDepth 20000 in
theorem ggX8_bestOf_X8_has : GoodIn wsX8_bestOf wsX8_has := goodIn_r _ [38] (by decide +kernel) (by decide +kernel)
set_option maxRecDepth 20000 in
theorem gX8_bestOf_X8_has : GoodIn wsX8_bestOf (va_wsS RX8 55 yX8_has wsX8_has) := goodIn_app (goodIn_of _ (by decide +kernel)) ggX8_bestOf_X8_has
set_option maxRecDepth 20000 in
theorem ggX8_bestOf_X8_gain : GoodIn wsX8_bestOf wsX8_gain := goodIn_r _ [32, 33, 34, 8, 35] (by decide +kernel) (by decide +kernel)
set_option maxRecDepth 20000 in
theorem gX8_bestOf_X8_gain : GoodIn wsX8_bestOf (va_wsS RX8 122 yX8_gain wsX8_gain) := goodIn_app (goodIn_of _ (by decide +kernel)) ggX8_bestOf_X8_gain
set_option maxRecDepth 20000 in
theorem ggX8_bestOf_X8_goes : GoodIn wsX8_bestOf wsX8_goes := goodIn_r _ [49, 4, 3, 1, 39, 40, 8, 41, 24, 25, 26, 27, 28, 29, 15, 16, 17, 50, 51, 52, 53, 54, 55, 56, 57, 58, 59, 60, 61, 62, 63, 64, 65, 66, 67, 68, 69, 70, 71, 72] (by decide +kernel) (by decide +kernel)
set_option maxRecDepth 20000 in
theorem gX8_bestOf_X8_goes : GoodIn wsX8_bestOf (wsV RX8 139 RX8 yX8_goes wsX8_goes) := goodIn_app (goodIn_of _ (by decide +kernel)) ggX8_bestOf_X8_goes
set_option maxRecDepth 20000 in
theorem ggX8_bestOf_X8_jokers : GoodIn wsX8_bestOf wsX8_jokers := goodIn_r _ [17] (by decide +kernel) (by decide +kernel)
set_option maxRecDepth 20000 in
theorem gX8_bestOf_X8_jokers : GoodIn wsX8_bestOf (va_wsS RX8 70 yX8_jokers wsX8_jokers) := goodIn_app (goodIn_of _ (by decide +kernel)) ggX8_bestOf_X8_jokers
set_option maxRecDepth 20000 in
theorem ggX8_bestOf_X8_jokersOf : GoodIn wsX8_bestOf wsX8_jokersOf := goodIn_r _ [20] (by decide +kernel) (by decide +kernel)
set_option maxRecDepth 20000 in
theorem gX8_bestOf_X8_jokersOf : GoodIn wsX8_bestOf (va_wsS RX8 78 yX8_jokersOf wsX8_jokersOf) := goodIn_app (goodIn_of _ (by decide +kernel)) ggX8_bestOf_X8_jokersOf
theorem dX8_bestOf_0 : decode cX8_bestOf 0 = .ok (.aload_n 0, 1) := by decide +kernel
theorem dX8_bestOf_1 : decode cX8_bestOf 1 = .ok (.lload_n 1, 1) := by decide +kernel
theorem dX8_bestOf_2 : decode cX8_bestOf 2 = .ok (.lload_n 3, 1) := by decide +kernel
theorem dX8_bestOf_3 : decode cX8_bestOf 3 = .ok (.iload 5, 2) := by decide +kernel
theorem dX8_bestOf_5 : decode cX8_bestOf 5 = .ok (.invokevirtual 133, 3) := by decide +kernel
theorem dX8_bestOf_8 : decode cX8_bestOf 8 = .ok (.aload_n 0, 1) := by decide +kernel
theorem dX8_bestOf_9 : decode cX8_bestOf 9 = .ok (.getfield 22, 3) := by decide +kernel
theorem dX8_bestOf_12 : decode cX8_bestOf 12 = .ok (.iconst 0, 1) := by decide +kernel
theorem dX8_bestOf_13 : decode cX8_bestOf 13 = .ok (.iaload, 1) := by decide +kernel
theorem dX8_bestOf_14 : decode cX8_bestOf 14 = .ok (.istore 6, 2) := by decide +kernel
theorem dX8_bestOf_16 : decode cX8_bestOf 16 = .ok (.iload 6, 2) := by decide +kernel
theorem dX8_bestOf_18 : decode cX8_bestOf 18 = .ok (.iconst (-1), 1) := by decide +kernel
theorem dX8_bestOf_19 : decode cX8_bestOf 19 = .ok (.if_icmp .ne 7, 3) := by decide +kernel
theorem dX8_bestOf_22 : decode cX8_bestOf 22 = .ok (.ldc2_w 137, 3) := by decide +kernel
theorem dX8_bestOf_25 : decode cX8_bestOf 25 = .ok (.lreturn, 1) := by decide +kernel
theorem dX8_bestOf_26 : decode cX8_bestOf 26 = .ok (.lconst 0, 1) := by decide +kernel
theorem dX8_bestOf_27 : decode cX8_bestOf 27 = .ok (.lstore 7, 2) := by decide +kernel
theorem dX8_bestOf_29 : decode cX8_bestOf 29 = .ok (.iconst 0, 1) := by decide +kernel
theorem dX8_bestOf_30 : decode cX8_bestOf 30 = .ok (.istore 9, 2) := by decide +kernel
theorem dX8_bestOf_32 : decode cX8_bestOf 32 = .ok (.iload 9, 2) := by decide +kernel
theorem dX8_bestOf_34 : decode cX8_bestOf 34 = .ok (.sipush 3840, 3) := by decide +kernel
theorem dX8_bestOf_37 : decode cX8_bestOf 37 = .ok (.if_icmp .ge 26, 3) := by decide +kernel
theorem dX8_bestOf_40 : decode cX8_bestOf 40 = .ok (.aload_n 0, 1) := by decide +kernel
theorem dX8_bestOf_41 : decode cX8_bestOf 41 = .ok (.getfield 25, 3) := by decide +kernel
theorem dX8_bestOf_44 : decode cX8_bestOf 44 = .ok (.iload 9, 2) := by decide +kernel
theorem dX8_bestOf_46 : decode cX8_bestOf 46 = .ok (.iload 9, 2) := by decide +kernel
theorem dX8_bestOf_48 : decode cX8_bestOf 48 = .ok (.ifCond .ne 7, 3) := by decide +kernel
theorem dX8_bestOf_51 : decode cX8_bestOf 51 = .ok (.iconst 1, 1) := by decide +kernel
theorem dX8_bestOf_52 : decode cX8_bestOf 52 = .ok (.goto 4, 3) := by decide +kernel
theorem dX8_bestOf_55 : decode cX8_bestOf 55 = .ok (.iconst 0, 1) := by decide +kernel
theorem dX8_bestOf_56 : decode cX8_bestOf 56 = .ok (.bastore, 1) := by decide +kernel
theorem dX8_bestOf_57 : decode cX8_bestOf 57 = .ok (.iinc 9 1, 3) := by decide +kernel
theorem dX8_bestOf_60 : decode cX8_bestOf 60 = .ok (.goto (-28), 3) := by decide +kernel
theorem dX8_bestOf_63 : decode cX8_bestOf 63 = .ok (.iconst 0, 1) := by decide +kernel
theorem dX8_bestOf_64 : decode cX8_bestOf 64 = .ok (.istore 9, 2) := by decide +kernel
theorem dX8_bestOf_66 : decode cX8_bestOf 66 = .ok (.iload 9, 2) := by decide +kernel
theorem dX8_bestOf_68 : decode cX8_bestOf 68 = .ok (.bipush 52, 2) := by decide +kernel
theorem dX8_bestOf_70 : decode cX8_bestOf 70 = .ok (.if_icmp .ge 133, 3) := by decide +kernel
theorem dX8_bestOf_73 : decode cX8_bestOf 73 = .ok (.lload_n 3, 1) := by decide +kernel
theorem dX8_bestOf_74 : decode cX8_bestOf 74 = .ok (.iload 9, 2) := by decide +kernel
theorem dX8_bestOf_76 : decode cX8_bestOf 76 = .ok (.invokestatic 55, 3) := by decide +kernel
theorem dX8_bestOf_79 : decode cX8_bestOf 79 = .ok (.ifCond .eq 39, 3) := by decide +kernel
theorem dX8_bestOf_82 : decode cX8_bestOf 82 = .ok (.iload 6, 2) := by decide +kernel
theorem dX8_bestOf_84 : decode cX8_bestOf 84 = .ok (.iload 9, 2) := by decide +kernel
theorem dX8_bestOf_86 : decode cX8_bestOf 86 = .ok (.iload 5, 2) := by decide +kernel
theorem dX8_bestOf_88 : decode cX8_bestOf 88 = .ok (.invokestatic 122, 3) := by decide +kernel
theorem dX8_bestOf_91 : decode cX8_bestOf 91 = .ok (.if_icmp .lt 27, 3) := by decide +kernel
theorem dX8_bestOf_94 : decode cX8_bestOf 94 = .ok (.aload_n 0, 1) := by decide +kernel
theorem dX8_bestOf_95 : decode cX8_bestOf 95 = .ok (.iload 9, 2) := by decide +kernel
theorem dX8_bestOf_97 : decode cX8_bestOf 97 = .ok (.iconst 1, 1) := by decide +kernel
theorem dX8_bestOf_98 : decode cX8_bestOf 98 = .ok (.iload 6, 2) := by decide +kernel
theorem dX8_bestOf_100 : decode cX8_bestOf 100 = .ok (.iload 9, 2) := by decide +kernel
theorem dX8_bestOf_102 : decode cX8_bestOf 102 = .ok (.iload 5, 2) := by decide +kernel
theorem dX8_bestOf_104 : decode cX8_bestOf 104 = .ok (.invokestatic 122, 3) := by decide +kernel
theorem dX8_bestOf_107 : decode cX8_bestOf 107 = .ok (.isub, 1) := by decide +kernel
theorem dX8_bestOf_108 : decode cX8_bestOf 108 = .ok (.invokevirtual 139, 3) := by decide +kernel
theorem dX8_bestOf_111 : decode cX8_bestOf 111 = .ok (.ifCond .eq 7, 3) := by decide +kernel
theorem dX8_bestOf_114 : decode cX8_bestOf 114 = .ok (.iconst 1, 1) := by decide +kernel
theorem dX8_bestOf_115 : decode cX8_bestOf 115 = .ok (.goto 4, 3) := by decide +kernel
theorem dX8_bestOf_118 : decode cX8_bestOf 118 = .ok (.iconst 0, 1) := by decide +kernel
theorem dX8_bestOf_119 : decode cX8_bestOf 119 = .ok (.istore 10, 2) := by decide +kernel
theorem dX8_bestOf_121 : decode cX8_bestOf 121 = .ok (.iload 10, 2) := by decide +kernel
theorem dX8_bestOf_123 : decode cX8_bestOf 123 = .ok (.ifCond .eq 27, 3) := by decide +kernel
theorem dX8_bestOf_126 : decode cX8_bestOf 126 = .ok (.iload 6, 2) := by decide +kernel
theorem dX8_bestOf_128 : decode cX8_bestOf 128 = .ok (.iload 9, 2) := by decide +kernel
theorem dX8_bestOf_130 : decode cX8_bestOf 130 = .ok (.iload 5, 2) := by decide +kernel
theorem dX8_bestOf_132 : decode cX8_bestOf 132 = .ok (.invokestatic 122, 3) := by decide +kernel
theorem dX8_bestOf_135 : decode cX8_bestOf 135 = .ok (.isub, 1) := by decide +kernel
theorem dX8_bestOf_136 : decode cX8_bestOf 136 = .ok (.istore 6, 2) := by decide +kernel
theorem dX8_bestOf_138 : decode cX8_bestOf 138 = .ok (.lload 7, 2) := by decide +kernel
theorem dX8_bestOf_140 : decode cX8_bestOf 140 = .ok (.lconst 1, 1) := by decide +kernel
theorem dX8_bestOf_141 : decode cX8_bestOf 141 = .ok (.iload 9, 2) := by decide +kernel
theorem dX8_bestOf_143 : decode cX8_bestOf 143 = .ok (.lshl, 1) := by decide +kernel
theorem dX8_bestOf_144 : decode cX8_bestOf 144 = .ok (.lor, 1) := by decide +kernel
theorem dX8_bestOf_145 : decode cX8_bestOf 145 = .ok (.lstore 7, 2) := by decide +kernel
theorem dX8_bestOf_147 : decode cX8_bestOf 147 = .ok (.goto 19, 3) := by decide +kernel
theorem dX8_bestOf_150 : decode cX8_bestOf 150 = .ok (.aload_n 0, 1) := by decide +kernel
theorem dX8_bestOf_151 : decode cX8_bestOf 151 = .ok (.iload 9, 2) := by decide +kernel
theorem dX8_bestOf_153 : decode cX8_bestOf 153 = .ok (.lload_n 1, 1) := by decide +kernel
theorem dX8_bestOf_154 : decode cX8_bestOf 154 = .ok (.iload 9, 2) := by decide +kernel
theorem dX8_bestOf_156 : decode cX8_bestOf 156 = .ok (.invokestatic 55, 3) := by decide +kernel
theorem dX8_bestOf_159 : decode cX8_bestOf 159 = .ok (.iload 6, 2) := by decide +kernel
theorem dX8_bestOf_161 : decode cX8_bestOf 161 = .ok (.invokevirtual 139, 3) := by decide +kernel
theorem dX8_bestOf_164 : decode cX8_bestOf 164 = .ok (.istore 11, 2) := by decide +kernel
theorem dX8_bestOf_166 : decode cX8_bestOf 166 = .ok (.iconst 0, 1) := by decide +kernel
theorem dX8_bestOf_167 : decode cX8_bestOf 167 = .ok (.istore 11, 2) := by decide +kernel
theorem dX8_bestOf_169 : decode cX8_bestOf 169 = .ok (.iload 11, 2) := by decide +kernel
theorem dX8_bestOf_171 : decode cX8_bestOf 171 = .ok (.sipush 3840, 3) := by decide +kernel
theorem dX8_bestOf_174 : decode cX8_bestOf 174 = .ok (.if_icmp .ge 23, 3) := by decide +kernel
theorem dX8_bestOf_177 : decode cX8_bestOf 177 = .ok (.aload_n 0, 1) := by decide +kernel
theorem dX8_bestOf_178 : decode cX8_bestOf 178 = .ok (.getfield 25, 3) := by decide +kernel
theorem dX8_bestOf_181 : decode cX8_bestOf 181 = .ok (.iload 11, 2) := by decide +kernel
theorem dX8_bestOf_183 : decode cX8_bestOf 183 = .ok (.aload_n 0, 1) := by decide +kernel
theorem dX8_bestOf_184 : decode cX8_bestOf 184 = .ok (.getfield 28, 3) := by decide +kernel
theorem dX8_bestOf_187 : decode cX8_bestOf 187 = .ok (.iload 11, 2) := by decide +kernel
theorem dX8_bestOf_189 : decode cX8_bestOf 189 = .ok (.baload, 1) := by decide +kernel
theorem dX8_bestOf_190 : decode cX8_bestOf 190 = .ok (.bastore, 1) := by decide +kernel
theorem dX8_bestOf_191 : decode cX8_bestOf 191 = .ok (.iinc 11 1, 3) := by decide +kernel
theorem dX8_bestOf_194 : decode cX8_bestOf 194 = .ok (.goto (-25), 3) := by decide +kernel
theorem dX8_bestOf_197 : decode cX8_bestOf 197 = .ok (.iinc 9 1, 3) := by decide +kernel
theorem dX8_bestOf_200 : decode cX8_bestOf 200 = .ok (.goto (-134), 3) := by decide +kernel
theorem dX8_bestOf_203 : decode cX8_bestOf 203 = .ok (.iconst 0, 1) := by decide +kernel
theorem dX8_bestOf_204 : decode cX8_bestOf 204 = .ok (.istore 9, 2) := by decide +kernel
theorem dX8_bestOf_206 : decode cX8_bestOf 206 = .ok (.iconst 0, 1) := by decide +kernel
theorem dX8_bestOf_207 : decode cX8_bestOf 207 = .ok (.istore 10, 2) := by decide +kernel
theorem dX8_bestOf_209 : decode cX8_bestOf 209 = .ok (.iload 10, 2) := by decide +kernel
theorem dX8_bestOf_211 : decode cX8_bestOf 211 = .ok (.sipush 3840, 3) := by decide +kernel
theorem dX8_bestOf_214 : decode cX8_bestOf 214 = .ok (.if_icmp .ge 31, 3) := by decide +kernel
theorem dX8_bestOf_217 : decode cX8_bestOf 217 = .ok (.aload_n 0, 1) := by decide +kernel
theorem dX8_bestOf_218 : decode cX8_bestOf 218 = .ok (.getfield 25, 3) := by decide +kernel
theorem dX8_bestOf_221 : decode cX8_bestOf 221 = .ok (.iload 10, 2) := by decide +kernel
theorem dX8_bestOf_223 : decode cX8_bestOf 223 = .ok (.baload, 1) := by decide +kernel
theorem dX8_bestOf_224 : decode cX8_bestOf 224 = .ok (.ifCond .eq 15, 3) := by decide +kernel
theorem dX8_bestOf_227 : decode cX8_bestOf 227 = .ok (.iload 10, 2) := by decide +kernel
theorem dX8_bestOf_229 : decode cX8_bestOf 229 = .ok (.invokestatic 70, 3) := by decide +kernel
theorem dX8_bestOf_232 : decode cX8_bestOf 232 = .ok (.lload_n 1, 1) := by decide +kernel
theorem dX8_bestOf_233 : decode cX8_bestOf 233 = .ok (.invokestatic 78, 3) := by decide +kernel
theorem dX8_bestOf_236 : decode cX8_bestOf 236 = .ok (.isub, 1) := by decide +kernel
theorem dX8_bestOf_237 : decode cX8_bestOf 237 = .ok (.istore 9, 2) := by decide +kernel
theorem dX8_bestOf_239 : decode cX8_bestOf 239 = .ok (.iinc 10 1, 3) := by decide +kernel
theorem dX8_bestOf_242 : decode cX8_bestOf 242 = .ok (.goto (-33), 3) := by decide +kernel
theorem dX8_bestOf_245 : decode cX8_bestOf 245 = .ok (.bipush 52, 2) := by decide +kernel
theorem dX8_bestOf_247 : decode cX8_bestOf 247 = .ok (.istore 10, 2) := by decide +kernel
theorem dX8_bestOf_249 : decode cX8_bestOf 249 = .ok (.iload 10, 2) := by decide +kernel
theorem dX8_bestOf_251 : decode cX8_bestOf 251 = .ok (.bipush 54, 2) := by decide +kernel
theorem dX8_bestOf_253 : decode cX8_bestOf 253 = .ok (.if_icmp .ge 38, 3) := by decide +kernel
theorem dX8_bestOf_256 : decode cX8_bestOf 256 = .ok (.iload 9, 2) := by decide +kernel
theorem dX8_bestOf_258 : decode cX8_bestOf 258 = .ok (.ifCond .le 33, 3) := by decide +kernel
theorem dX8_bestOf_261 : decode cX8_bestOf 261 = .ok (.lload_n 3, 1) := by decide +kernel
theorem dX8_bestOf_262 : decode cX8_bestOf 262 = .ok (.iload 10, 2) := by decide +kernel
theorem dX8_bestOf_264 : decode cX8_bestOf 264 = .ok (.invokestatic 55, 3) := by decide +kernel
theorem dX8_bestOf_267 : decode cX8_bestOf 267 = .ok (.ifCond .ne 6, 3) := by decide +kernel
theorem dX8_bestOf_270 : decode cX8_bestOf 270 = .ok (.goto 15, 3) := by decide +kernel
theorem dX8_bestOf_273 : decode cX8_bestOf 273 = .ok (.lload 7, 2) := by decide +kernel
theorem dX8_bestOf_275 : decode cX8_bestOf 275 = .ok (.lconst 1, 1) := by decide +kernel
theorem dX8_bestOf_276 : decode cX8_bestOf 276 = .ok (.iload 10, 2) := by decide +kernel
theorem dX8_bestOf_278 : decode cX8_bestOf 278 = .ok (.lshl, 1) := by decide +kernel
theorem dX8_bestOf_279 : decode cX8_bestOf 279 = .ok (.lor, 1) := by decide +kernel
theorem dX8_bestOf_280 : decode cX8_bestOf 280 = .ok (.lstore 7, 2) := by decide +kernel
theorem dX8_bestOf_282 : decode cX8_bestOf 282 = .ok (.iinc 9 (-1), 3) := by decide +kernel
theorem dX8_bestOf_285 : decode cX8_bestOf 285 = .ok (.iinc 10 1, 3) := by decide +kernel
theorem dX8_bestOf_288 : decode cX8_bestOf 288 = .ok (.goto (-39), 3) := by decide +kernel
theorem dX8_bestOf_291 : decode cX8_bestOf 291 = .ok (.lload 7, 2) := by decide +kernel
theorem dX8_bestOf_293 : decode cX8_bestOf 293 = .ok (.lreturn, 1) := by decide +kernel
set_option maxRecDepth 20000 in
theorem ggX8_goes_X8_behind : GoodIn wsX8_goes wsX8_behind := goodIn_r _ [7, 8, 9, 6, 10, 11, 12, 13, 14, 15, 16] (by decide +kernel) (by decide +kernel)
set_option maxRecDepth 20000 in
theorem gX8_goes_X8_behind : GoodIn wsX8_goes (va_wsS RX8 82 yX8_behind wsX8_behind) := goodIn_app (goodIn_of _ (by decide +kernel)) ggX8_goes_X8_behind
theorem dX8_goes_0 : decode cX8_goes 0 = .ok (.iconst 0, 1) := by decide +kernel
theorem dX8_goes_1 : decode cX8_goes 1 = .ok (.istore 4, 2) := by decide +kernel
theorem dX8_goes_3 : decode cX8_goes 3 = .ok (.iconst 0, 1) := by decide +kernel
theorem dX8_goes_4 : decode cX8_goes 4 = .ok (.istore 5, 2) := by decide +kernel
theorem dX8_goes_6 : decode cX8_goes 6 = .ok (.iload 5, 2) := by decide +kernel
theorem dX8_goes_8 : decode cX8_goes 8 = .ok (.sipush 3840, 3) := by decide +kernel
theorem dX8_goes_11 : decode cX8_goes 11 = .ok (.if_icmp .ge 17, 3) := by decide +kernel
theorem dX8_goes_14 : decode cX8_goes 14 = .ok (.aload_n 0, 1) := by decide +kernel
theorem dX8_goes_15 : decode cX8_goes 15 = .ok (.getfield 28, 3) := by decide +kernel
theorem dX8_goes_18 : decode cX8_goes 18 = .ok (.iload 5, 2) := by decide +kernel
theorem dX8_goes_20 : decode cX8_goes 20 = .ok (.iconst 0, 1) := by decide +kernel
theorem dX8_goes_21 : decode cX8_goes 21 = .ok (.bastore, 1) := by decide +kernel
theorem dX8_goes_22 : decode cX8_goes 22 = .ok (.iinc 5 1, 3) := by decide +kernel
theorem dX8_goes_25 : decode cX8_goes 25 = .ok (.goto (-19), 3) := by decide +kernel
theorem dX8_goes_28 : decode cX8_goes 28 = .ok (.iconst 0, 1) := by decide +kernel
theorem dX8_goes_29 : decode cX8_goes 29 = .ok (.istore 5, 2) := by decide +kernel
theorem dX8_goes_31 : decode cX8_goes 31 = .ok (.iload 5, 2) := by decide +kernel
theorem dX8_goes_33 : decode cX8_goes 33 = .ok (.sipush 3840, 3) := by decide +kernel
theorem dX8_goes_36 : decode cX8_goes 36 = .ok (.if_icmp .ge 108, 3) := by decide +kernel
theorem dX8_goes_39 : decode cX8_goes 39 = .ok (.aload_n 0, 1) := by decide +kernel
theorem dX8_goes_40 : decode cX8_goes 40 = .ok (.getfield 25, 3) := by decide +kernel
theorem dX8_goes_43 : decode cX8_goes 43 = .ok (.iload 5, 2) := by decide +kernel
theorem dX8_goes_45 : decode cX8_goes 45 = .ok (.baload, 1) := by decide +kernel
theorem dX8_goes_46 : decode cX8_goes 46 = .ok (.ifCond .ne 6, 3) := by decide +kernel
theorem dX8_goes_49 : decode cX8_goes 49 = .ok (.goto 89, 3) := by decide +kernel
theorem dX8_goes_52 : decode cX8_goes 52 = .ok (.iload_n 2, 1) := by decide +kernel
theorem dX8_goes_53 : decode cX8_goes 53 = .ok (.ifCond .eq 7, 3) := by decide +kernel
theorem dX8_goes_56 : decode cX8_goes 56 = .ok (.iconst 1, 1) := by decide +kernel
theorem dX8_goes_57 : decode cX8_goes 57 = .ok (.goto 4, 3) := by decide +kernel
theorem dX8_goes_60 : decode cX8_goes 60 = .ok (.iconst 0, 1) := by decide +kernel
theorem dX8_goes_61 : decode cX8_goes 61 = .ok (.istore 6, 2) := by decide +kernel
theorem dX8_goes_63 : decode cX8_goes 63 = .ok (.iload 6, 2) := by decide +kernel
theorem dX8_goes_65 : decode cX8_goes 65 = .ok (.iconst 3, 1) := by decide +kernel
theorem dX8_goes_66 : decode cX8_goes 66 = .ok (.if_icmp .gt 72, 3) := by decide +kernel
theorem dX8_goes_69 : decode cX8_goes 69 = .ok (.iload 5, 2) := by decide +kernel
theorem dX8_goes_71 : decode cX8_goes 71 = .ok (.iload_n 1, 1) := by decide +kernel
theorem dX8_goes_72 : decode cX8_goes 72 = .ok (.iload 6, 2) := by decide +kernel
theorem dX8_goes_74 : decode cX8_goes 74 = .ok (.iload 6, 2) := by decide +kernel
theorem dX8_goes_76 : decode cX8_goes 76 = .ok (.ifCond .le 11, 3) := by decide +kernel
theorem dX8_goes_79 : decode cX8_goes 79 = .ok (.iload_n 2, 1) := by decide +kernel
theorem dX8_goes_80 : decode cX8_goes 80 = .ok (.ifCond .ne 7, 3) := by decide +kernel
theorem dX8_goes_83 : decode cX8_goes 83 = .ok (.iconst 1, 1) := by decide +kernel
theorem dX8_goes_84 : decode cX8_goes 84 = .ok (.goto 4, 3) := by decide +kernel
theorem dX8_goes_87 : decode cX8_goes 87 = .ok (.iconst 0, 1) := by decide +kernel
theorem dX8_goes_88 : decode cX8_goes 88 = .ok (.invokestatic 82, 3) := by decide +kernel
theorem dX8_goes_91 : decode cX8_goes 91 = .ok (.istore 7, 2) := by decide +kernel
theorem dX8_goes_93 : decode cX8_goes 93 = .ok (.iload 7, 2) := by decide +kernel
theorem dX8_goes_95 : decode cX8_goes 95 = .ok (.iconst (-1), 1) := by decide +kernel
theorem dX8_goes_96 : decode cX8_goes 96 = .ok (.if_icmp .eq 36, 3) := by decide +kernel
theorem dX8_goes_99 : decode cX8_goes 99 = .ok (.aload_n 0, 1) := by decide +kernel
theorem dX8_goes_100 : decode cX8_goes 100 = .ok (.getfield 22, 3) := by decide +kernel
theorem dX8_goes_103 : decode cX8_goes 103 = .ok (.sipush 3840, 3) := by decide +kernel
theorem dX8_goes_106 : decode cX8_goes 106 = .ok (.iload_n 1, 1) := by decide +kernel
theorem dX8_goes_107 : decode cX8_goes 107 = .ok (.iconst 1, 1) := by decide +kernel
theorem dX8_goes_108 : decode cX8_goes 108 = .ok (.iadd, 1) := by decide +kernel
theorem dX8_goes_109 : decode cX8_goes 109 = .ok (.imul, 1) := by decide +kernel
theorem dX8_goes_110 : decode cX8_goes 110 = .ok (.iload 7, 2) := by decide +kernel
theorem dX8_goes_112 : decode cX8_goes 112 = .ok (.iadd, 1) := by decide +kernel
theorem dX8_goes_113 : decode cX8_goes 113 = .ok (.iaload, 1) := by decide +kernel
theorem dX8_goes_114 : decode cX8_goes 114 = .ok (.iload_n 3, 1) := by decide +kernel
theorem dX8_goes_115 : decode cX8_goes 115 = .ok (.if_icmp .eq 6, 3) := by decide +kernel
theorem dX8_goes_118 : decode cX8_goes 118 = .ok (.goto 14, 3) := by decide +kernel
theorem dX8_goes_121 : decode cX8_goes 121 = .ok (.aload_n 0, 1) := by decide +kernel
theorem dX8_goes_122 : decode cX8_goes 122 = .ok (.getfield 28, 3) := by decide +kernel
theorem dX8_goes_125 : decode cX8_goes 125 = .ok (.iload 7, 2) := by decide +kernel
theorem dX8_goes_127 : decode cX8_goes 127 = .ok (.iconst 1, 1) := by decide +kernel
theorem dX8_goes_128 : decode cX8_goes 128 = .ok (.bastore, 1) := by decide +kernel
theorem dX8_goes_129 : decode cX8_goes 129 = .ok (.iconst 1, 1) := by decide +kernel
theorem dX8_goes_130 : decode cX8_goes 130 = .ok (.istore 4, 2) := by decide +kernel
theorem dX8_goes_132 : decode cX8_goes 132 = .ok (.iinc 6 1, 3) := by decide +kernel
theorem dX8_goes_135 : decode cX8_goes 135 = .ok (.goto (-72), 3) := by decide +kernel
theorem dX8_goes_138 : decode cX8_goes 138 = .ok (.iinc 5 1, 3) := by decide +kernel
theorem dX8_goes_141 : decode cX8_goes 141 = .ok (.goto (-110), 3) := by decide +kernel
theorem dX8_goes_144 : decode cX8_goes 144 = .ok (.iload 4, 2) := by decide +kernel
theorem dX8_goes_146 : decode cX8_goes 146 = .ok (.ireturn, 1) := by decide +kernel
set_option maxRecDepth 20000 in
theorem ggX8_best_X8_isSet : GoodIn wsX8_best wsX8_isSet := goodIn_r _ [5, 6] (by decide +kernel) (by decide +kernel)
set_option maxRecDepth 20000 in
theorem gX8_best_X8_isSet : GoodIn wsX8_best (va_wsS RX8 86 yX8_isSet wsX8_isSet) := goodIn_app (goodIn_of _ (by decide +kernel)) ggX8_best_X8_isSet
set_option maxRecDepth 20000 in
theorem ggX8_best_X8_none : GoodIn wsX8_best wsX8_none := goodIn_r _ [10, 1, 74, 75, 76, 77, 78, 79, 80, 81, 82, 83, 84, 85, 86, 87, 88, 89, 90, 91, 92, 93, 94, 95, 96] (by decide +kernel) (by decide +kernel)
set_option maxRecDepth 20000 in
theorem gX8_best_X8_none : GoodIn wsX8_best (wsV RX8 90 RX8 yX8_none wsX8_none) := goodIn_app (goodIn_of _ (by decide +kernel)) ggX8_best_X8_none
set_option maxRecDepth 20000 in
theorem ggX8_best_X8_bestOf : GoodIn wsX8_best wsX8_bestOf := goodIn_r _ [14, 15, 16, 17, 18, 19, 20, 21, 4, 22, 23, 24, 25, 26, 27, 28, 29, 30, 31, 32, 33, 34, 35, 36, 37, 38, 39, 40, 41, 42, 43, 44, 45, 46, 47, 48, 49, 50, 51, 52, 53, 54, 55, 56, 57, 58, 59, 60, 61, 62, 74, 75, 76, 77, 78, 79, 80, 81, 82, 83, 84, 85, 86, 87, 88, 89, 90, 91, 92, 93, 94, 95, 96] (by decide +kernel) (by decide +kernel)
set_option maxRecDepth 20000 in
theorem gX8_best_X8_bestOf : GoodIn wsX8_best (wsV RX8 143 RX8 yX8_bestOf wsX8_bestOf) := goodIn_app (goodIn_of _ (by decide +kernel)) ggX8_best_X8_bestOf
set_option maxRecDepth 20000 in
theorem ggX8_best_X8_keeps : GoodIn wsX8_best wsX8_keeps := goodIn_r _ [66, 67, 68, 69, 70, 71, 72, 4, 73, 23, 34, 35, 36, 37, 38, 39, 40, 41, 42, 28, 29, 30, 31, 32, 33, 49, 50, 51, 52, 53, 54, 74, 75, 76, 77, 78, 79, 80, 81, 82, 83, 84, 85, 86, 87, 88, 89, 90, 91, 92, 93, 94, 95, 96] (by decide +kernel) (by decide +kernel)
set_option maxRecDepth 20000 in
theorem gX8_best_X8_keeps : GoodIn wsX8_best (wsV RX8 97 RX8 yX8_keeps wsX8_keeps) := goodIn_app (goodIn_of _ (by decide +kernel)) ggX8_best_X8_keeps
end
section
theorem dX8_best_0 : decode cX8_best 0 = .ok (.lload_n 1, 1) := by decide +kernel
theorem dX8_best_1 : decode cX8_best 1 = .ok (.invokestatic 86, 3) := by decide +kernel
theorem dX8_best_4 : decode cX8_best 4 = .ok (.ifCond .eq 21, 3) := by decide +kernel
theorem dX8_best_7 : decode cX8_best 7 = .ok (.lload_n 3, 1) := by decide +kernel
theorem dX8_best_8 : decode cX8_best 8 = .ok (.invokestatic 86, 3) := by decide +kernel
theorem dX8_best_11 : decode cX8_best 11 = .ok (.ifCond .eq 14, 3) := by decide +kernel
theorem dX8_best_14 : decode cX8_best 14 = .ok (.iload 5, 2) := by decide +kernel
theorem dX8_best_16 : decode cX8_best 16 = .ok (.ifCond .lt 9, 3) := by decide +kernel
theorem dX8_best_19 : decode cX8_best 19 = .ok (.iload 5, 2) := by decide +kernel
theorem dX8_best_21 : decode cX8_best 21 = .ok (.iconst 1, 1) := by decide +kernel
theorem dX8_best_22 : decode cX8_best 22 = .ok (.if_icmp .le 10, 3) := by decide +kernel
theorem dX8_best_25 : decode cX8_best 25 = .ok (.aload_n 0, 1) := by decide +kernel
theorem dX8_best_26 : decode cX8_best 26 = .ok (.iconst 1, 1) := by decide +kernel
theorem dX8_best_27 : decode cX8_best 27 = .ok (.invokevirtual 90, 3) := by decide +kernel
theorem dX8_best_30 : decode cX8_best 30 = .ok (.i2l, 1) := by decide +kernel
theorem dX8_best_31 : decode cX8_best 31 = .ok (.lreturn, 1) := by decide +kernel
theorem dX8_best_32 : decode cX8_best 32 = .ok (.lload_n 1, 1) := by decide +kernel
theorem dX8_best_33 : decode cX8_best 33 = .ok (.lload_n 3, 1) := by decide +kernel
theorem dX8_best_34 : decode cX8_best 34 = .ok (.land, 1) := by decide +kernel
theorem dX8_best_35 : decode cX8_best 35 = .ok (.lconst 0, 1) := by decide +kernel
theorem dX8_best_36 : decode cX8_best 36 = .ok (.lcmp, 1) := by decide +kernel
theorem dX8_best_37 : decode cX8_best 37 = .ok (.ifCond .eq 10, 3) := by decide +kernel
theorem dX8_best_40 : decode cX8_best 40 = .ok (.aload_n 0, 1) := by decide +kernel
theorem dX8_best_41 : decode cX8_best 41 = .ok (.iconst 2, 1) := by decide +kernel
theorem dX8_best_42 : decode cX8_best 42 = .ok (.invokevirtual 90, 3) := by decide +kernel
theorem dX8_best_45 : decode cX8_best 45 = .ok (.i2l, 1) := by decide +kernel
theorem dX8_best_46 : decode cX8_best 46 = .ok (.lreturn, 1) := by decide +kernel
theorem dX8_best_47 : decode cX8_best 47 = .ok (.aload_n 0, 1) := by decide +kernel
theorem dX8_best_48 : decode cX8_best 48 = .ok (.lload_n 1, 1) := by decide +kernel
theorem dX8_best_49 : decode cX8_best 49 = .ok (.lload_n 3, 1) := by decide +kernel
theorem dX8_best_50 : decode cX8_best 50 = .ok (.iload 5, 2) := by decide +kernel
theorem dX8_best_52 : decode cX8_best 52 = .ok (.invokevirtual 143, 3) := by decide +kernel
theorem dX8_best_55 : decode cX8_best 55 = .ok (.lstore 6, 2) := by decide +kernel
theorem dX8_best_57 : decode cX8_best 57 = .ok (.lload 6, 2) := by decide +kernel
theorem dX8_best_59 : decode cX8_best 59 = .ok (.lconst 0, 1) := by decide +kernel
theorem dX8_best_60 : decode cX8_best 60 = .ok (.lcmp, 1) := by decide +kernel
theorem dX8_best_61 : decode cX8_best 61 = .ok (.ifCond .ge 10, 3) := by decide +kernel
theorem dX8_best_64 : decode cX8_best 64 = .ok (.aload_n 0, 1) := by decide +kernel
theorem dX8_best_65 : decode cX8_best 65 = .ok (.iconst 3, 1) := by decide +kernel
theorem dX8_best_66 : decode cX8_best 66 = .ok (.invokevirtual 90, 3) := by decide +kernel
theorem dX8_best_69 : decode cX8_best 69 = .ok (.i2l, 1) := by decide +kernel
theorem dX8_best_70 : decode cX8_best 70 = .ok (.lreturn, 1) := by decide +kernel
theorem dX8_best_71 : decode cX8_best 71 = .ok (.aload_n 0, 1) := by decide +kernel
theorem dX8_best_72 : decode cX8_best 72 = .ok (.lload_n 1, 1) := by decide +kernel
theorem dX8_best_73 : decode cX8_best 73 = .ok (.lload 6, 2) := by decide +kernel
theorem dX8_best_75 : decode cX8_best 75 = .ok (.lor, 1) := by decide +kernel
theorem dX8_best_76 : decode cX8_best 76 = .ok (.invokevirtual 97, 3) := by decide +kernel
theorem dX8_best_79 : decode cX8_best 79 = .ok (.istore 8, 2) := by decide +kernel
theorem dX8_best_81 : decode cX8_best 81 = .ok (.aload_n 0, 1) := by decide +kernel
theorem dX8_best_82 : decode cX8_best 82 = .ok (.iconst 0, 1) := by decide +kernel
theorem dX8_best_83 : decode cX8_best 83 = .ok (.putfield 50, 3) := by decide +kernel
theorem dX8_best_86 : decode cX8_best 86 = .ok (.lload 6, 2) := by decide +kernel
theorem dX8_best_88 : decode cX8_best 88 = .ok (.lreturn, 1) := by decide +kernel
theorem dX8_opening_0 : decode cX8_opening 0 = .ok (.aload_n 0, 1) := by decide +kernel
theorem dX8_opening_1 : decode cX8_opening 1 = .ok (.iload_n 1, 1) := by decide +kernel
theorem dX8_opening_2 : decode cX8_opening 2 = .ok (.ifCond .lt 10, 3) := by decide +kernel
theorem dX8_opening_5 : decode cX8_opening 5 = .ok (.iload_n 1, 1) := by decide +kernel
theorem dX8_opening_6 : decode cX8_opening 6 = .ok (.sipush 200, 3) := by decide +kernel
theorem dX8_opening_9 : decode cX8_opening 9 = .ok (.if_icmp .le 7, 3) := by decide +kernel
theorem dX8_opening_12 : decode cX8_opening 12 = .ok (.iconst 1, 1) := by decide +kernel
theorem dX8_opening_13 : decode cX8_opening 13 = .ok (.goto 4, 3) := by decide +kernel
theorem dX8_opening_16 : decode cX8_opening 16 = .ok (.iconst 0, 1) := by decide +kernel
theorem dX8_opening_17 : decode cX8_opening 17 = .ok (.putfield 50, 3) := by decide +kernel
theorem dX8_opening_20 : decode cX8_opening 20 = .ok (.aload_n 0, 1) := by decide +kernel
theorem dX8_opening_21 : decode cX8_opening 21 = .ok (.getfield 50, 3) := by decide +kernel
theorem dX8_opening_24 : decode cX8_opening 24 = .ok (.ifCond .ne 8, 3) := by decide +kernel
theorem dX8_opening_27 : decode cX8_opening 27 = .ok (.aload_n 0, 1) := by decide +kernel
theorem dX8_opening_28 : decode cX8_opening 28 = .ok (.iload_n 1, 1) := by decide +kernel
theorem dX8_opening_29 : decode cX8_opening 29 = .ok (.putfield 31, 3) := by decide +kernel
theorem dX8_opening_32 : decode cX8_opening 32 = .ok (.aload_n 0, 1) := by decide +kernel
theorem dX8_opening_33 : decode cX8_opening 33 = .ok (.getfield 50, 3) := by decide +kernel
theorem dX8_opening_36 : decode cX8_opening 36 = .ok (.ifCond .ne 7, 3) := by decide +kernel
theorem dX8_opening_39 : decode cX8_opening 39 = .ok (.iconst 1, 1) := by decide +kernel
theorem dX8_opening_40 : decode cX8_opening 40 = .ok (.goto 4, 3) := by decide +kernel
theorem dX8_opening_43 : decode cX8_opening 43 = .ok (.iconst 0, 1) := by decide +kernel
theorem dX8_opening_44 : decode cX8_opening 44 = .ok (.ireturn, 1) := by decide +kernel
theorem dX8_deal_0 : decode cX8_deal 0 = .ok (.aload_n 0, 1) := by decide +kernel
theorem dX8_deal_1 : decode cX8_deal 1 = .ok (.iload_n 1, 1) := by decide +kernel
theorem dX8_deal_2 : decode cX8_deal 2 = .ok (.iconst 2, 1) := by decide +kernel
theorem dX8_deal_3 : decode cX8_deal 3 = .ok (.if_icmp .lt 30, 3) := by decide +kernel
theorem dX8_deal_6 : decode cX8_deal 6 = .ok (.iload_n 1, 1) := by decide +kernel
theorem dX8_deal_7 : decode cX8_deal 7 = .ok (.iconst 4, 1) := by decide +kernel
theorem dX8_deal_8 : decode cX8_deal 8 = .ok (.if_icmp .gt 25, 3) := by decide +kernel
theorem dX8_deal_11 : decode cX8_deal 11 = .ok (.iload_n 2, 1) := by decide +kernel
theorem dX8_deal_12 : decode cX8_deal 12 = .ok (.iconst 1, 1) := by decide +kernel
theorem dX8_deal_13 : decode cX8_deal 13 = .ok (.if_icmp .lt 20, 3) := by decide +kernel
theorem dX8_deal_16 : decode cX8_deal 16 = .ok (.iload_n 2, 1) := by decide +kernel
theorem dX8_deal_17 : decode cX8_deal 17 = .ok (.bipush 13, 2) := by decide +kernel
theorem dX8_deal_19 : decode cX8_deal 19 = .ok (.if_icmp .gt 14, 3) := by decide +kernel
theorem dX8_deal_22 : decode cX8_deal 22 = .ok (.iload_n 3, 1) := by decide +kernel
theorem dX8_deal_23 : decode cX8_deal 23 = .ok (.iconst 1, 1) := by decide +kernel
theorem dX8_deal_24 : decode cX8_deal 24 = .ok (.if_icmp .lt 9, 3) := by decide +kernel
theorem dX8_deal_27 : decode cX8_deal 27 = .ok (.iload_n 3, 1) := by decide +kernel
theorem dX8_deal_28 : decode cX8_deal 28 = .ok (.ldc 147, 2) := by decide +kernel
theorem dX8_deal_30 : decode cX8_deal 30 = .ok (.if_icmp .le 7, 3) := by decide +kernel
theorem dX8_deal_33 : decode cX8_deal 33 = .ok (.iconst 1, 1) := by decide +kernel
theorem dX8_deal_34 : decode cX8_deal 34 = .ok (.goto 4, 3) := by decide +kernel
theorem dX8_deal_37 : decode cX8_deal 37 = .ok (.iconst 0, 1) := by decide +kernel
theorem dX8_deal_38 : decode cX8_deal 38 = .ok (.putfield 50, 3) := by decide +kernel
theorem dX8_deal_41 : decode cX8_deal 41 = .ok (.aload_n 0, 1) := by decide +kernel
theorem dX8_deal_42 : decode cX8_deal 42 = .ok (.getfield 50, 3) := by decide +kernel
theorem dX8_deal_45 : decode cX8_deal 45 = .ok (.ifCond .le 5, 3) := by decide +kernel
theorem dX8_deal_48 : decode cX8_deal 48 = .ok (.iconst 0, 1) := by decide +kernel
theorem dX8_deal_49 : decode cX8_deal 49 = .ok (.ireturn, 1) := by decide +kernel
theorem dX8_deal_50 : decode cX8_deal 50 = .ok (.iconst 0, 1) := by decide +kernel
theorem dX8_deal_51 : decode cX8_deal 51 = .ok (.istore 4, 2) := by decide +kernel
theorem dX8_deal_53 : decode cX8_deal 53 = .ok (.iload 4, 2) := by decide +kernel
theorem dX8_deal_55 : decode cX8_deal 55 = .ok (.bipush 54, 2) := by decide +kernel
theorem dX8_deal_57 : decode cX8_deal 57 = .ok (.if_icmp .ge 18, 3) := by decide +kernel
theorem dX8_deal_60 : decode cX8_deal 60 = .ok (.aload_n 0, 1) := by decide +kernel
theorem dX8_deal_61 : decode cX8_deal 61 = .ok (.getfield 41, 3) := by decide +kernel
theorem dX8_deal_64 : decode cX8_deal 64 = .ok (.iload 4, 2) := by decide +kernel
theorem dX8_deal_66 : decode cX8_deal 66 = .ok (.iload 4, 2) := by decide +kernel
theorem dX8_deal_68 : decode cX8_deal 68 = .ok (.iastore, 1) := by decide +kernel
theorem dX8_deal_69 : decode cX8_deal 69 = .ok (.iinc 4 1, 3) := by decide +kernel
theorem dX8_deal_72 : decode cX8_deal 72 = .ok (.goto (-19), 3) := by decide +kernel
theorem dX8_deal_75 : decode cX8_deal 75 = .ok (.iload_n 3, 1) := by decide +kernel
theorem dX8_deal_76 : decode cX8_deal 76 = .ok (.i2l, 1) := by decide +kernel
theorem dX8_deal_77 : decode cX8_deal 77 = .ok (.lstore 4, 2) := by decide +kernel
theorem dX8_deal_79 : decode cX8_deal 79 = .ok (.bipush 53, 2) := by decide +kernel
theorem dX8_deal_81 : decode cX8_deal 81 = .ok (.istore 6, 2) := by decide +kernel
theorem dX8_deal_83 : decode cX8_deal 83 = .ok (.iload 6, 2) := by decide +kernel
theorem dX8_deal_85 : decode cX8_deal 85 = .ok (.ifCond .le 64, 3) := by decide +kernel
theorem dX8_deal_88 : decode cX8_deal 88 = .ok (.ldc2_w 148, 3) := by decide +kernel
theorem dX8_deal_91 : decode cX8_deal 91 = .ok (.lload 4, 2) := by decide +kernel
theorem dX8_deal_93 : decode cX8_deal 93 = .ok (.lmul, 1) := by decide +kernel
theorem dX8_deal_94 : decode cX8_deal 94 = .ok (.ldc2_w 150, 3) := by decide +kernel
theorem dX8_deal_97 : decode cX8_deal 97 = .ok (.lrem, 1) := by decide +kernel
theorem dX8_deal_98 : decode cX8_deal 98 = .ok (.lstore 4, 2) := by decide +kernel
theorem dX8_deal_100 : decode cX8_deal 100 = .ok (.lload 4, 2) := by decide +kernel
theorem dX8_deal_102 : decode cX8_deal 102 = .ok (.iload 6, 2) := by decide +kernel
theorem dX8_deal_104 : decode cX8_deal 104 = .ok (.iconst 1, 1) := by decide +kernel
theorem dX8_deal_105 : decode cX8_deal 105 = .ok (.iadd, 1) := by decide +kernel
theorem dX8_deal_106 : decode cX8_deal 106 = .ok (.i2l, 1) := by decide +kernel
theorem dX8_deal_107 : decode cX8_deal 107 = .ok (.lrem, 1) := by decide +kernel
theorem dX8_deal_108 : decode cX8_deal 108 = .ok (.l2i, 1) := by decide +kernel
theorem dX8_deal_109 : decode cX8_deal 109 = .ok (.istore 7, 2) := by decide +kernel
theorem dX8_deal_111 : decode cX8_deal 111 = .ok (.aload_n 0, 1) := by decide +kernel
theorem dX8_deal_112 : decode cX8_deal 112 = .ok (.getfield 41, 3) := by decide +kernel
theorem dX8_deal_115 : decode cX8_deal 115 = .ok (.iload 6, 2) := by decide +kernel
theorem dX8_deal_117 : decode cX8_deal 117 = .ok (.iaload, 1) := by decide +kernel
theorem dX8_deal_118 : decode cX8_deal 118 = .ok (.istore 8, 2) := by decide +kernel
theorem dX8_deal_120 : decode cX8_deal 120 = .ok (.aload_n 0, 1) := by decide +kernel
theorem dX8_deal_121 : decode cX8_deal 121 = .ok (.getfield 41, 3) := by decide +kernel
theorem dX8_deal_124 : decode cX8_deal 124 = .ok (.iload 6, 2) := by decide +kernel
theorem dX8_deal_126 : decode cX8_deal 126 = .ok (.aload_n 0, 1) := by decide +kernel
theorem dX8_deal_127 : decode cX8_deal 127 = .ok (.getfield 41, 3) := by decide +kernel
theorem dX8_deal_130 : decode cX8_deal 130 = .ok (.iload 7, 2) := by decide +kernel
theorem dX8_deal_132 : decode cX8_deal 132 = .ok (.iaload, 1) := by decide +kernel
theorem dX8_deal_133 : decode cX8_deal 133 = .ok (.iastore, 1) := by decide +kernel
theorem dX8_deal_134 : decode cX8_deal 134 = .ok (.aload_n 0, 1) := by decide +kernel
theorem dX8_deal_135 : decode cX8_deal 135 = .ok (.getfield 41, 3) := by decide +kernel
theorem dX8_deal_138 : decode cX8_deal 138 = .ok (.iload 7, 2) := by decide +kernel
theorem dX8_deal_140 : decode cX8_deal 140 = .ok (.iload 8, 2) := by decide +kernel
theorem dX8_deal_142 : decode cX8_deal 142 = .ok (.iastore, 1) := by decide +kernel
theorem dX8_deal_143 : decode cX8_deal 143 = .ok (.iinc 6 (-1), 3) := by decide +kernel
theorem dX8_deal_146 : decode cX8_deal 146 = .ok (.goto (-63), 3) := by decide +kernel
theorem dX8_deal_149 : decode cX8_deal 149 = .ok (.aload_n 0, 1) := by decide +kernel
theorem dX8_deal_150 : decode cX8_deal 150 = .ok (.iconst 0, 1) := by decide +kernel
theorem dX8_deal_151 : decode cX8_deal 151 = .ok (.putfield 152, 3) := by decide +kernel
theorem dX8_deal_154 : decode cX8_deal 154 = .ok (.iconst 0, 1) := by decide +kernel
theorem dX8_deal_155 : decode cX8_deal 155 = .ok (.istore 6, 2) := by decide +kernel
theorem dX8_deal_157 : decode cX8_deal 157 = .ok (.iload 6, 2) := by decide +kernel
theorem dX8_deal_159 : decode cX8_deal 159 = .ok (.iload_n 1, 1) := by decide +kernel
theorem dX8_deal_160 : decode cX8_deal 160 = .ok (.if_icmp .ge 71, 3) := by decide +kernel
theorem dX8_deal_163 : decode cX8_deal 163 = .ok (.aload_n 0, 1) := by decide +kernel
theorem dX8_deal_164 : decode cX8_deal 164 = .ok (.getfield 35, 3) := by decide +kernel
theorem dX8_deal_167 : decode cX8_deal 167 = .ok (.iload 6, 2) := by decide +kernel
theorem dX8_deal_169 : decode cX8_deal 169 = .ok (.lconst 0, 1) := by decide +kernel
theorem dX8_deal_170 : decode cX8_deal 170 = .ok (.lastore, 1) := by decide +kernel
theorem dX8_deal_171 : decode cX8_deal 171 = .ok (.aload_n 0, 1) := by decide +kernel
theorem dX8_deal_172 : decode cX8_deal 172 = .ok (.getfield 38, 3) := by decide +kernel
theorem dX8_deal_175 : decode cX8_deal 175 = .ok (.iload 6, 2) := by decide +kernel
theorem dX8_deal_177 : decode cX8_deal 177 = .ok (.iconst 0, 1) := by decide +kernel
theorem dX8_deal_178 : decode cX8_deal 178 = .ok (.bastore, 1) := by decide +kernel
theorem dX8_deal_179 : decode cX8_deal 179 = .ok (.iconst 0, 1) := by decide +kernel
theorem dX8_deal_180 : decode cX8_deal 180 = .ok (.istore 7, 2) := by decide +kernel
theorem dX8_deal_182 : decode cX8_deal 182 = .ok (.iload 7, 2) := by decide +kernel
theorem dX8_deal_184 : decode cX8_deal 184 = .ok (.iload_n 2, 1) := by decide +kernel
theorem dX8_deal_185 : decode cX8_deal 185 = .ok (.if_icmp .ge 40, 3) := by decide +kernel
theorem dX8_deal_188 : decode cX8_deal 188 = .ok (.aload_n 0, 1) := by decide +kernel
theorem dX8_deal_189 : decode cX8_deal 189 = .ok (.getfield 35, 3) := by decide +kernel
theorem dX8_deal_192 : decode cX8_deal 192 = .ok (.iload 6, 2) := by decide +kernel
theorem dX8_deal_194 : decode cX8_deal 194 = .ok (.dup2, 1) := by decide +kernel
theorem dX8_deal_195 : decode cX8_deal 195 = .ok (.laload, 1) := by decide +kernel
theorem dX8_deal_196 : decode cX8_deal 196 = .ok (.lconst 1, 1) := by decide +kernel
theorem dX8_deal_197 : decode cX8_deal 197 = .ok (.aload_n 0, 1) := by decide +kernel
theorem dX8_deal_198 : decode cX8_deal 198 = .ok (.getfield 41, 3) := by decide +kernel
theorem dX8_deal_201 : decode cX8_deal 201 = .ok (.aload_n 0, 1) := by decide +kernel
theorem dX8_deal_202 : decode cX8_deal 202 = .ok (.getfield 152, 3) := by decide +kernel
theorem dX8_deal_205 : decode cX8_deal 205 = .ok (.iaload, 1) := by decide +kernel
theorem dX8_deal_206 : decode cX8_deal 206 = .ok (.lshl, 1) := by decide +kernel
theorem dX8_deal_207 : decode cX8_deal 207 = .ok (.lor, 1) := by decide +kernel
theorem dX8_deal_208 : decode cX8_deal 208 = .ok (.lastore, 1) := by decide +kernel
theorem dX8_deal_209 : decode cX8_deal 209 = .ok (.aload_n 0, 1) := by decide +kernel
theorem dX8_deal_210 : decode cX8_deal 210 = .ok (.dup, 1) := by decide +kernel
theorem dX8_deal_211 : decode cX8_deal 211 = .ok (.getfield 152, 3) := by decide +kernel
theorem dX8_deal_214 : decode cX8_deal 214 = .ok (.iconst 1, 1) := by decide +kernel
theorem dX8_deal_215 : decode cX8_deal 215 = .ok (.iadd, 1) := by decide +kernel
theorem dX8_deal_216 : decode cX8_deal 216 = .ok (.putfield 152, 3) := by decide +kernel
theorem dX8_deal_219 : decode cX8_deal 219 = .ok (.iinc 7 1, 3) := by decide +kernel
theorem dX8_deal_222 : decode cX8_deal 222 = .ok (.goto (-40), 3) := by decide +kernel
theorem dX8_deal_225 : decode cX8_deal 225 = .ok (.iinc 6 1, 3) := by decide +kernel
theorem dX8_deal_228 : decode cX8_deal 228 = .ok (.goto (-71), 3) := by decide +kernel
theorem dX8_deal_231 : decode cX8_deal 231 = .ok (.aload_n 0, 1) := by decide +kernel
theorem dX8_deal_232 : decode cX8_deal 232 = .ok (.iload_n 1, 1) := by decide +kernel
theorem dX8_deal_233 : decode cX8_deal 233 = .ok (.putfield 155, 3) := by decide +kernel
theorem dX8_deal_236 : decode cX8_deal 236 = .ok (.aload_n 0, 1) := by decide +kernel
theorem dX8_deal_237 : decode cX8_deal 237 = .ok (.iconst 1, 1) := by decide +kernel
theorem dX8_deal_238 : decode cX8_deal 238 = .ok (.putfield 158, 3) := by decide +kernel
theorem dX8_deal_241 : decode cX8_deal 241 = .ok (.aload_n 0, 1) := by decide +kernel
theorem dX8_deal_242 : decode cX8_deal 242 = .ok (.iconst 0, 1) := by decide +kernel
theorem dX8_deal_243 : decode cX8_deal 243 = .ok (.putfield 162, 3) := by decide +kernel
theorem dX8_deal_246 : decode cX8_deal 246 = .ok (.aload_n 0, 1) := by decide +kernel
theorem dX8_deal_247 : decode cX8_deal 247 = .ok (.iconst 0, 1) := by decide +kernel
theorem dX8_deal_248 : decode cX8_deal 248 = .ok (.putfield 165, 3) := by decide +kernel
theorem dX8_deal_251 : decode cX8_deal 251 = .ok (.aload_n 0, 1) := by decide +kernel
theorem dX8_deal_252 : decode cX8_deal 252 = .ok (.iconst (-1), 1) := by decide +kernel
theorem dX8_deal_253 : decode cX8_deal 253 = .ok (.putfield 168, 3) := by decide +kernel
theorem dX8_deal_256 : decode cX8_deal 256 = .ok (.aload_n 0, 1) := by decide +kernel
theorem dX8_deal_257 : decode cX8_deal 257 = .ok (.iconst 0, 1) := by decide +kernel
theorem dX8_deal_258 : decode cX8_deal 258 = .ok (.putfield 171, 3) := by decide +kernel
theorem dX8_deal_261 : decode cX8_deal 261 = .ok (.aload_n 0, 1) := by decide +kernel
theorem dX8_deal_262 : decode cX8_deal 262 = .ok (.iconst 0, 1) := by decide +kernel
theorem dX8_deal_263 : decode cX8_deal 263 = .ok (.putfield 174, 3) := by decide +kernel
theorem dX8_deal_266 : decode cX8_deal 266 = .ok (.aload_n 0, 1) := by decide +kernel
theorem dX8_deal_267 : decode cX8_deal 267 = .ok (.iconst 0, 1) := by decide +kernel
theorem dX8_deal_268 : decode cX8_deal 268 = .ok (.putfield 177, 3) := by decide +kernel
theorem dX8_deal_271 : decode cX8_deal 271 = .ok (.aload_n 0, 1) := by decide +kernel
theorem dX8_deal_272 : decode cX8_deal 272 = .ok (.lconst 0, 1) := by decide +kernel
theorem dX8_deal_273 : decode cX8_deal 273 = .ok (.putfield 180, 3) := by decide +kernel
theorem dX8_deal_276 : decode cX8_deal 276 = .ok (.iconst 1, 1) := by decide +kernel
theorem dX8_deal_277 : decode cX8_deal 277 = .ok (.ireturn, 1) := by decide +kernel
set_option maxRecDepth 20000 in
theorem ggX8_hand_X8_none : GoodIn wsX8_hand wsX8_none := goodIn_r _ [9, 3, 10, 11, 12, 13, 14, 15, 16, 17, 18, 19, 20, 21, 22, 23, 24, 25, 26, 27, 28, 29, 30, 31, 32] (by decide +kernel) (by decide +kernel)
set_option maxRecDepth 20000 in
theorem gX8_hand_X8_none : GoodIn wsX8_hand (wsV RX8 90 RX8 yX8_none wsX8_none) := goodIn_app (goodIn_of _ (by decide +kernel)) ggX8_hand_X8_none
theorem dX8_hand_0 : decode cX8_hand 0 = .ok (.iload_n 1, 1) := by decide +kernel
theorem dX8_hand_1 : decode cX8_hand 1 = .ok (.ifCond .lt 8, 3) := by decide +kernel
theorem dX8_hand_4 : decode cX8_hand 4 = .ok (.iload_n 1, 1) := by decide +kernel
theorem dX8_hand_5 : decode cX8_hand 5 = .ok (.iconst 3, 1) := by decide +kernel
theorem dX8_hand_6 : decode cX8_hand 6 = .ok (.if_icmp .le 10, 3) := by decide +kernel
theorem dX8_hand_9 : decode cX8_hand 9 = .ok (.aload_n 0, 1) := by decide +kernel
theorem dX8_hand_10 : decode cX8_hand 10 = .ok (.iconst 1, 1) := by decide +kernel
theorem dX8_hand_11 : decode cX8_hand 11 = .ok (.invokevirtual 90, 3) := by decide +kernel
theorem dX8_hand_14 : decode cX8_hand 14 = .ok (.i2l, 1) := by decide +kernel
theorem dX8_hand_15 : decode cX8_hand 15 = .ok (.lreturn, 1) := by decide +kernel
theorem dX8_hand_16 : decode cX8_hand 16 = .ok (.aload_n 0, 1) := by decide +kernel
theorem dX8_hand_17 : decode cX8_hand 17 = .ok (.getfield 158, 3) := by decide +kernel
theorem dX8_hand_20 : decode cX8_hand 20 = .ok (.ifCond .ne 10, 3) := by decide +kernel
theorem dX8_hand_23 : decode cX8_hand 23 = .ok (.aload_n 0, 1) := by decide +kernel
theorem dX8_hand_24 : decode cX8_hand 24 = .ok (.iconst 4, 1) := by decide +kernel
theorem dX8_hand_25 : decode cX8_hand 25 = .ok (.invokevirtual 90, 3) := by decide +kernel
theorem dX8_hand_28 : decode cX8_hand 28 = .ok (.i2l, 1) := by decide +kernel
theorem dX8_hand_29 : decode cX8_hand 29 = .ok (.lreturn, 1) := by decide +kernel
theorem dX8_hand_30 : decode cX8_hand 30 = .ok (.iload_n 1, 1) := by decide +kernel
theorem dX8_hand_31 : decode cX8_hand 31 = .ok (.aload_n 0, 1) := by decide +kernel
theorem dX8_hand_32 : decode cX8_hand 32 = .ok (.getfield 155, 3) := by decide +kernel
theorem dX8_hand_35 : decode cX8_hand 35 = .ok (.if_icmp .lt 10, 3) := by decide +kernel
theorem dX8_hand_38 : decode cX8_hand 38 = .ok (.aload_n 0, 1) := by decide +kernel
theorem dX8_hand_39 : decode cX8_hand 39 = .ok (.iconst 1, 1) := by decide +kernel
theorem dX8_hand_40 : decode cX8_hand 40 = .ok (.invokevirtual 90, 3) := by decide +kernel
theorem dX8_hand_43 : decode cX8_hand 43 = .ok (.i2l, 1) := by decide +kernel
theorem dX8_hand_44 : decode cX8_hand 44 = .ok (.lreturn, 1) := by decide +kernel
theorem dX8_hand_45 : decode cX8_hand 45 = .ok (.aload_n 0, 1) := by decide +kernel
theorem dX8_hand_46 : decode cX8_hand 46 = .ok (.iconst 0, 1) := by decide +kernel
theorem dX8_hand_47 : decode cX8_hand 47 = .ok (.putfield 50, 3) := by decide +kernel
theorem dX8_hand_50 : decode cX8_hand 50 = .ok (.aload_n 0, 1) := by decide +kernel
theorem dX8_hand_51 : decode cX8_hand 51 = .ok (.getfield 35, 3) := by decide +kernel
theorem dX8_hand_54 : decode cX8_hand 54 = .ok (.iload_n 1, 1) := by decide +kernel
theorem dX8_hand_55 : decode cX8_hand 55 = .ok (.laload, 1) := by decide +kernel
theorem dX8_hand_56 : decode cX8_hand 56 = .ok (.lreturn, 1) := by decide +kernel
set_option maxRecDepth 20000 in
theorem ggX8_table_X8_none : GoodIn wsX8_table wsX8_none := goodIn_r _ [8, 2, 9, 10, 11, 12, 13, 14, 15, 16, 17, 18, 19, 20, 21, 22, 23, 24, 25, 26, 27, 28, 29, 30, 31] (by decide +kernel) (by decide +kernel)
set_option maxRecDepth 20000 in
theorem gX8_table_X8_none : GoodIn wsX8_table (wsV RX8 90 RX8 yX8_none wsX8_none) := goodIn_app (goodIn_of _ (by decide +kernel)) ggX8_table_X8_none
theorem dX8_table_0 : decode cX8_table 0 = .ok (.aload_n 0, 1) := by decide +kernel
theorem dX8_table_1 : decode cX8_table 1 = .ok (.getfield 158, 3) := by decide +kernel
theorem dX8_table_4 : decode cX8_table 4 = .ok (.ifCond .ne 10, 3) := by decide +kernel
theorem dX8_table_7 : decode cX8_table 7 = .ok (.aload_n 0, 1) := by decide +kernel
theorem dX8_table_8 : decode cX8_table 8 = .ok (.iconst 4, 1) := by decide +kernel
theorem dX8_table_9 : decode cX8_table 9 = .ok (.invokevirtual 90, 3) := by decide +kernel
theorem dX8_table_12 : decode cX8_table 12 = .ok (.i2l, 1) := by decide +kernel
theorem dX8_table_13 : decode cX8_table 13 = .ok (.lreturn, 1) := by decide +kernel
theorem dX8_table_14 : decode cX8_table 14 = .ok (.aload_n 0, 1) := by decide +kernel
theorem dX8_table_15 : decode cX8_table 15 = .ok (.iconst 0, 1) := by decide +kernel
theorem dX8_table_16 : decode cX8_table 16 = .ok (.putfield 50, 3) := by decide +kernel
theorem dX8_table_19 : decode cX8_table 19 = .ok (.aload_n 0, 1) := by decide +kernel
theorem dX8_table_20 : decode cX8_table 20 = .ok (.getfield 180, 3) := by decide +kernel
theorem dX8_table_23 : decode cX8_table 23 = .ok (.lreturn, 1) := by decide +kernel
set_option maxRecDepth 20000 in
theorem ggX8_tell_X8_none : GoodIn wsX8_tell wsX8_none := goodIn_r _ [14, 2, 15, 16, 17, 18, 19, 20, 21, 22, 23, 24, 25, 26, 27, 28, 29, 30, 31, 32, 33, 34, 35, 36, 37] (by decide +kernel) (by decide +kernel)
set_option maxRecDepth 20000 in
theorem gX8_tell_X8_none : GoodIn wsX8_tell (wsV RX8 90 RX8 yX8_none wsX8_none) := goodIn_app (goodIn_of _ (by decide +kernel)) ggX8_tell_X8_none
theorem dX8_tell_0 : decode cX8_tell 0 = .ok (.iload_n 1, 1) := by decide +kernel
theorem dX8_tell_1 : decode cX8_tell 1 = .ok (.ifCond .lt 9, 3) := by decide +kernel
theorem dX8_tell_4 : decode cX8_tell 4 = .ok (.iload_n 1, 1) := by decide +kernel
theorem dX8_tell_5 : decode cX8_tell 5 = .ok (.bipush 6, 2) := by decide +kernel
theorem dX8_tell_7 : decode cX8_tell 7 = .ok (.if_icmp .le 9, 3) := by decide +kernel
theorem dX8_tell_10 : decode cX8_tell 10 = .ok (.aload_n 0, 1) := by decide +kernel
theorem dX8_tell_11 : decode cX8_tell 11 = .ok (.iconst 1, 1) := by decide +kernel
theorem dX8_tell_12 : decode cX8_tell 12 = .ok (.invokevirtual 90, 3) := by decide +kernel
theorem dX8_tell_15 : decode cX8_tell 15 = .ok (.ireturn, 1) := by decide +kernel
theorem dX8_tell_16 : decode cX8_tell 16 = .ok (.aload_n 0, 1) := by decide +kernel
theorem dX8_tell_17 : decode cX8_tell 17 = .ok (.getfield 158, 3) := by decide +kernel
theorem dX8_tell_20 : decode cX8_tell 20 = .ok (.ifCond .ne 9, 3) := by decide +kernel
theorem dX8_tell_23 : decode cX8_tell 23 = .ok (.aload_n 0, 1) := by decide +kernel
theorem dX8_tell_24 : decode cX8_tell 24 = .ok (.iconst 4, 1) := by decide +kernel
theorem dX8_tell_25 : decode cX8_tell 25 = .ok (.invokevirtual 90, 3) := by decide +kernel
theorem dX8_tell_28 : decode cX8_tell 28 = .ok (.ireturn, 1) := by decide +kernel
theorem dX8_tell_29 : decode cX8_tell 29 = .ok (.aload_n 0, 1) := by decide +kernel
theorem dX8_tell_30 : decode cX8_tell 30 = .ok (.iconst 0, 1) := by decide +kernel
theorem dX8_tell_31 : decode cX8_tell 31 = .ok (.putfield 50, 3) := by decide +kernel
theorem dX8_tell_34 : decode cX8_tell 34 = .ok (.iload_n 1, 1) := by decide +kernel
theorem dX8_tell_35 : decode cX8_tell 35 = .ok (.tableswitch 78 0 5 #[37, 42, 50, 63, 68, 73], 37) := by decide +kernel
theorem dX8_tell_72 : decode cX8_tell 72 = .ok (.aload_n 0, 1) := by decide +kernel
theorem dX8_tell_73 : decode cX8_tell 73 = .ok (.getfield 165, 3) := by decide +kernel
theorem dX8_tell_76 : decode cX8_tell 76 = .ok (.ireturn, 1) := by decide +kernel
theorem dX8_tell_77 : decode cX8_tell 77 = .ok (.bipush 54, 2) := by decide +kernel
theorem dX8_tell_79 : decode cX8_tell 79 = .ok (.aload_n 0, 1) := by decide +kernel
theorem dX8_tell_80 : decode cX8_tell 80 = .ok (.getfield 152, 3) := by decide +kernel
theorem dX8_tell_83 : decode cX8_tell 83 = .ok (.isub, 1) := by decide +kernel
theorem dX8_tell_84 : decode cX8_tell 84 = .ok (.ireturn, 1) := by decide +kernel
theorem dX8_tell_85 : decode cX8_tell 85 = .ok (.aload_n 0, 1) := by decide +kernel
theorem dX8_tell_86 : decode cX8_tell 86 = .ok (.getfield 162, 3) := by decide +kernel
theorem dX8_tell_89 : decode cX8_tell 89 = .ok (.ifCond .eq 7, 3) := by decide +kernel
theorem dX8_tell_92 : decode cX8_tell 92 = .ok (.iconst 1, 1) := by decide +kernel
theorem dX8_tell_93 : decode cX8_tell 93 = .ok (.goto 4, 3) := by decide +kernel
theorem dX8_tell_96 : decode cX8_tell 96 = .ok (.iconst 0, 1) := by decide +kernel
theorem dX8_tell_97 : decode cX8_tell 97 = .ok (.ireturn, 1) := by decide +kernel
theorem dX8_tell_98 : decode cX8_tell 98 = .ok (.aload_n 0, 1) := by decide +kernel
theorem dX8_tell_99 : decode cX8_tell 99 = .ok (.getfield 168, 3) := by decide +kernel
theorem dX8_tell_102 : decode cX8_tell 102 = .ok (.ireturn, 1) := by decide +kernel
theorem dX8_tell_103 : decode cX8_tell 103 = .ok (.aload_n 0, 1) := by decide +kernel
theorem dX8_tell_104 : decode cX8_tell 104 = .ok (.getfield 171, 3) := by decide +kernel
theorem dX8_tell_107 : decode cX8_tell 107 = .ok (.ireturn, 1) := by decide +kernel
theorem dX8_tell_108 : decode cX8_tell 108 = .ok (.aload_n 0, 1) := by decide +kernel
theorem dX8_tell_109 : decode cX8_tell 109 = .ok (.getfield 174, 3) := by decide +kernel
theorem dX8_tell_112 : decode cX8_tell 112 = .ok (.ireturn, 1) := by decide +kernel
theorem dX8_tell_113 : decode cX8_tell 113 = .ok (.aload_n 0, 1) := by decide +kernel
theorem dX8_tell_114 : decode cX8_tell 114 = .ok (.getfield 155, 3) := by decide +kernel
theorem dX8_tell_117 : decode cX8_tell 117 = .ok (.ireturn, 1) := by decide +kernel
set_option maxRecDepth 20000 in
theorem ggX8_player_X8_none : GoodIn wsX8_player wsX8_none := goodIn_r _ [10, 3, 23, 24, 25, 26, 27, 28, 29, 30, 31, 32, 33, 34, 35, 36, 37, 38, 39, 40, 41, 42, 43, 44, 45] (by decide +kernel) (by decide +kernel)
set_option maxRecDepth 20000 in
theorem gX8_player_X8_none : GoodIn wsX8_player (wsV RX8 90 RX8 yX8_none wsX8_none) := goodIn_app (goodIn_of _ (by decide +kernel)) ggX8_player_X8_none
set_option maxRecDepth 20000 in
theorem ggX8_player_X8_many : GoodIn wsX8_player wsX8_many := goodIn_r _ [13, 14, 15, 9, 16] (by decide +kernel) (by decide +kernel)
set_option maxRecDepth 20000 in
theorem gX8_player_X8_many : GoodIn wsX8_player (va_wsS RX8 184 yX8_many wsX8_many) := goodIn_app (goodIn_of _ (by decide +kernel)) ggX8_player_X8_many
set_option maxRecDepth 20000 in
theorem ggX8_player_X8_worthAll : GoodIn wsX8_player wsX8_worthAll := goodIn_r _ [19, 14, 15, 9, 16, 20, 21, 22] (by decide +kernel) (by decide +kernel)
set_option maxRecDepth 20000 in
theorem gX8_player_X8_worthAll : GoodIn wsX8_player (va_wsS RX8 119 yX8_worthAll wsX8_worthAll) := goodIn_app (goodIn_of _ (by decide +kernel)) ggX8_player_X8_worthAll
theorem dX8_player_0 : decode cX8_player 0 = .ok (.iload_n 2, 1) := by decide +kernel
theorem dX8_player_1 : decode cX8_player 1 = .ok (.ifCond .lt 8, 3) := by decide +kernel
theorem dX8_player_4 : decode cX8_player 4 = .ok (.iload_n 2, 1) := by decide +kernel
theorem dX8_player_5 : decode cX8_player 5 = .ok (.iconst 2, 1) := by decide +kernel
theorem dX8_player_6 : decode cX8_player 6 = .ok (.if_icmp .le 9, 3) := by decide +kernel
theorem dX8_player_9 : decode cX8_player 9 = .ok (.aload_n 0, 1) := by decide +kernel
theorem dX8_player_10 : decode cX8_player 10 = .ok (.iconst 1, 1) := by decide +kernel
theorem dX8_player_11 : decode cX8_player 11 = .ok (.invokevirtual 90, 3) := by decide +kernel
theorem dX8_player_14 : decode cX8_player 14 = .ok (.ireturn, 1) := by decide +kernel
theorem dX8_player_15 : decode cX8_player 15 = .ok (.aload_n 0, 1) := by decide +kernel
theorem dX8_player_16 : decode cX8_player 16 = .ok (.getfield 158, 3) := by decide +kernel
theorem dX8_player_19 : decode cX8_player 19 = .ok (.ifCond .ne 9, 3) := by decide +kernel
theorem dX8_player_22 : decode cX8_player 22 = .ok (.aload_n 0, 1) := by decide +kernel
theorem dX8_player_23 : decode cX8_player 23 = .ok (.iconst 4, 1) := by decide +kernel
theorem dX8_player_24 : decode cX8_player 24 = .ok (.invokevirtual 90, 3) := by decide +kernel
theorem dX8_player_27 : decode cX8_player 27 = .ok (.ireturn, 1) := by decide +kernel
theorem dX8_player_28 : decode cX8_player 28 = .ok (.iload_n 1, 1) := by decide +kernel
theorem dX8_player_29 : decode cX8_player 29 = .ok (.ifCond .lt 11, 3) := by decide +kernel
theorem dX8_player_32 : decode cX8_player 32 = .ok (.iload_n 1, 1) := by decide +kernel
theorem dX8_player_33 : decode cX8_player 33 = .ok (.aload_n 0, 1) := by decide +kernel
theorem dX8_player_34 : decode cX8_player 34 = .ok (.getfield 155, 3) := by decide +kernel
theorem dX8_player_37 : decode cX8_player 37 = .ok (.if_icmp .lt 9, 3) := by decide +kernel
theorem dX8_player_40 : decode cX8_player 40 = .ok (.aload_n 0, 1) := by decide +kernel
theorem dX8_player_41 : decode cX8_player 41 = .ok (.iconst 1, 1) := by decide +kernel
theorem dX8_player_42 : decode cX8_player 42 = .ok (.invokevirtual 90, 3) := by decide +kernel
theorem dX8_player_45 : decode cX8_player 45 = .ok (.ireturn, 1) := by decide +kernel
theorem dX8_player_46 : decode cX8_player 46 = .ok (.aload_n 0, 1) := by decide +kernel
theorem dX8_player_47 : decode cX8_player 47 = .ok (.iconst 0, 1) := by decide +kernel
theorem dX8_player_48 : decode cX8_player 48 = .ok (.putfield 50, 3) := by decide +kernel
theorem dX8_player_51 : decode cX8_player 51 = .ok (.iload_n 2, 1) := by decide +kernel
theorem dX8_player_52 : decode cX8_player 52 = .ok (.ifCond .ne 20, 3) := by decide +kernel
theorem dX8_player_55 : decode cX8_player 55 = .ok (.aload_n 0, 1) := by decide +kernel
theorem dX8_player_56 : decode cX8_player 56 = .ok (.getfield 38, 3) := by decide +kernel
theorem dX8_player_59 : decode cX8_player 59 = .ok (.iload_n 1, 1) := by decide +kernel
theorem dX8_player_60 : decode cX8_player 60 = .ok (.baload, 1) := by decide +kernel
theorem dX8_player_61 : decode cX8_player 61 = .ok (.ifCond .eq 7, 3) := by decide +kernel
theorem dX8_player_64 : decode cX8_player 64 = .ok (.iconst 1, 1) := by decide +kernel
theorem dX8_player_65 : decode cX8_player 65 = .ok (.goto 33, 3) := by decide +kernel
theorem dX8_player_68 : decode cX8_player 68 = .ok (.iconst 0, 1) := by decide +kernel
theorem dX8_player_69 : decode cX8_player 69 = .ok (.goto 29, 3) := by decide +kernel
theorem dX8_player_72 : decode cX8_player 72 = .ok (.iload_n 2, 1) := by decide +kernel
theorem dX8_player_73 : decode cX8_player 73 = .ok (.iconst 1, 1) := by decide +kernel
theorem dX8_player_74 : decode cX8_player 74 = .ok (.if_icmp .ne 15, 3) := by decide +kernel
theorem dX8_player_77 : decode cX8_player 77 = .ok (.aload_n 0, 1) := by decide +kernel
theorem dX8_player_78 : decode cX8_player 78 = .ok (.getfield 35, 3) := by decide +kernel
theorem dX8_player_81 : decode cX8_player 81 = .ok (.iload_n 1, 1) := by decide +kernel
theorem dX8_player_82 : decode cX8_player 82 = .ok (.laload, 1) := by decide +kernel
theorem dX8_player_83 : decode cX8_player 83 = .ok (.invokestatic 184, 3) := by decide +kernel
theorem dX8_player_86 : decode cX8_player 86 = .ok (.goto 12, 3) := by decide +kernel
theorem dX8_player_89 : decode cX8_player 89 = .ok (.aload_n 0, 1) := by decide +kernel
theorem dX8_player_90 : decode cX8_player 90 = .ok (.getfield 35, 3) := by decide +kernel
theorem dX8_player_93 : decode cX8_player 93 = .ok (.iload_n 1, 1) := by decide +kernel
theorem dX8_player_94 : decode cX8_player 94 = .ok (.laload, 1) := by decide +kernel
theorem dX8_player_95 : decode cX8_player 95 = .ok (.invokestatic 119, 3) := by decide +kernel
theorem dX8_player_98 : decode cX8_player 98 = .ok (.ireturn, 1) := by decide +kernel
end
section
theorem dX8_remember_0 : decode cX8_remember 0 = .ok (.iconst 0, 1) := by decide +kernel
theorem dX8_remember_1 : decode cX8_remember 1 = .ok (.istore_n 1, 1) := by decide +kernel
theorem dX8_remember_2 : decode cX8_remember 2 = .ok (.iload_n 1, 1) := by decide +kernel
theorem dX8_remember_3 : decode cX8_remember 3 = .ok (.bipush 52, 2) := by decide +kernel
theorem dX8_remember_5 : decode cX8_remember 5 = .ok (.if_icmp .ge 33, 3) := by decide +kernel
theorem dX8_remember_8 : decode cX8_remember 8 = .ok (.aload_n 0, 1) := by decide +kernel
theorem dX8_remember_9 : decode cX8_remember 9 = .ok (.getfield 44, 3) := by decide +kernel
theorem dX8_remember_12 : decode cX8_remember 12 = .ok (.iload_n 1, 1) := by decide +kernel
theorem dX8_remember_13 : decode cX8_remember 13 = .ok (.aload_n 0, 1) := by decide +kernel
theorem dX8_remember_14 : decode cX8_remember 14 = .ok (.getfield 14, 3) := by decide +kernel
theorem dX8_remember_17 : decode cX8_remember 17 = .ok (.iload_n 1, 1) := by decide +kernel
theorem dX8_remember_18 : decode cX8_remember 18 = .ok (.iaload, 1) := by decide +kernel
theorem dX8_remember_19 : decode cX8_remember 19 = .ok (.iastore, 1) := by decide +kernel
theorem dX8_remember_20 : decode cX8_remember 20 = .ok (.aload_n 0, 1) := by decide +kernel
theorem dX8_remember_21 : decode cX8_remember 21 = .ok (.getfield 47, 3) := by decide +kernel
theorem dX8_remember_24 : decode cX8_remember 24 = .ok (.iload_n 1, 1) := by decide +kernel
theorem dX8_remember_25 : decode cX8_remember 25 = .ok (.aload_n 0, 1) := by decide +kernel
theorem dX8_remember_26 : decode cX8_remember 26 = .ok (.getfield 18, 3) := by decide +kernel
theorem dX8_remember_29 : decode cX8_remember 29 = .ok (.iload_n 1, 1) := by decide +kernel
theorem dX8_remember_30 : decode cX8_remember 30 = .ok (.baload, 1) := by decide +kernel
theorem dX8_remember_31 : decode cX8_remember 31 = .ok (.bastore, 1) := by decide +kernel
theorem dX8_remember_32 : decode cX8_remember 32 = .ok (.iinc 1 1, 3) := by decide +kernel
theorem dX8_remember_35 : decode cX8_remember 35 = .ok (.goto (-33), 3) := by decide +kernel
theorem dX8_remember_38 : decode cX8_remember 38 = .ok (.return_, 1) := by decide +kernel
theorem dX8_recall_0 : decode cX8_recall 0 = .ok (.iconst 0, 1) := by decide +kernel
theorem dX8_recall_1 : decode cX8_recall 1 = .ok (.istore_n 1, 1) := by decide +kernel
theorem dX8_recall_2 : decode cX8_recall 2 = .ok (.iload_n 1, 1) := by decide +kernel
theorem dX8_recall_3 : decode cX8_recall 3 = .ok (.bipush 52, 2) := by decide +kernel
theorem dX8_recall_5 : decode cX8_recall 5 = .ok (.if_icmp .ge 33, 3) := by decide +kernel
theorem dX8_recall_8 : decode cX8_recall 8 = .ok (.aload_n 0, 1) := by decide +kernel
theorem dX8_recall_9 : decode cX8_recall 9 = .ok (.getfield 14, 3) := by decide +kernel
theorem dX8_recall_12 : decode cX8_recall 12 = .ok (.iload_n 1, 1) := by decide +kernel
theorem dX8_recall_13 : decode cX8_recall 13 = .ok (.aload_n 0, 1) := by decide +kernel
theorem dX8_recall_14 : decode cX8_recall 14 = .ok (.getfield 44, 3) := by decide +kernel
theorem dX8_recall_17 : decode cX8_recall 17 = .ok (.iload_n 1, 1) := by decide +kernel
theorem dX8_recall_18 : decode cX8_recall 18 = .ok (.iaload, 1) := by decide +kernel
theorem dX8_recall_19 : decode cX8_recall 19 = .ok (.iastore, 1) := by decide +kernel
theorem dX8_recall_20 : decode cX8_recall 20 = .ok (.aload_n 0, 1) := by decide +kernel
theorem dX8_recall_21 : decode cX8_recall 21 = .ok (.getfield 18, 3) := by decide +kernel
theorem dX8_recall_24 : decode cX8_recall 24 = .ok (.iload_n 1, 1) := by decide +kernel
theorem dX8_recall_25 : decode cX8_recall 25 = .ok (.aload_n 0, 1) := by decide +kernel
theorem dX8_recall_26 : decode cX8_recall 26 = .ok (.getfield 47, 3) := by decide +kernel
theorem dX8_recall_29 : decode cX8_recall 29 = .ok (.iload_n 1, 1) := by decide +kernel
theorem dX8_recall_30 : decode cX8_recall 30 = .ok (.baload, 1) := by decide +kernel
theorem dX8_recall_31 : decode cX8_recall 31 = .ok (.bastore, 1) := by decide +kernel
theorem dX8_recall_32 : decode cX8_recall 32 = .ok (.iinc 1 1, 3) := by decide +kernel
theorem dX8_recall_35 : decode cX8_recall 35 = .ok (.goto (-33), 3) := by decide +kernel
theorem dX8_recall_38 : decode cX8_recall 38 = .ok (.return_, 1) := by decide +kernel
set_option maxRecDepth 20000 in
theorem ggX8_mayLay_X8_remember : GoodIn wsX8_mayLay wsX8_remember := goodIn_r _ [9, 10, 11, 12, 13, 56, 57, 58, 59, 60, 61, 62, 63, 64, 65, 66, 67, 68, 69, 70, 71, 72, 73, 74, 75, 76, 77, 78] (by decide +kernel) (by decide +kernel)
set_option maxRecDepth 20000 in
theorem gX8_mayLay_X8_remember : GoodIn wsX8_mayLay (wsV RX8 187 RX8 yX8_remember wsX8_remember) := goodIn_app (goodIn_of _ (by decide +kernel)) ggX8_mayLay_X8_remember
set_option maxRecDepth 20000 in
theorem ggX8_mayLay_X8_keeps : GoodIn wsX8_mayLay wsX8_keeps := goodIn_r _ [17, 18, 11, 13, 19, 20, 21, 8, 22, 23, 24, 25, 26, 27, 28, 29, 30, 31, 32, 33, 34, 35, 36, 37, 38, 39, 40, 41, 42, 43, 44, 56, 57, 58, 59, 60, 61, 62, 63, 64, 65, 66, 67, 68, 69, 70, 71, 72, 73, 74, 75, 76, 77, 78] (by decide +kernel) (by decide +kernel)
set_option maxRecDepth 20000 in
theorem gX8_mayLay_X8_keeps : GoodIn wsX8_mayLay (wsV RX8 97 RX8 yX8_keeps wsX8_keeps) := goodIn_app (goodIn_of _ (by decide +kernel)) ggX8_mayLay_X8_keeps
set_option maxRecDepth 20000 in
theorem ggX8_mayLay_X8_worthShown : GoodIn wsX8_mayLay wsX8_worthShown := goodIn_r _ [48, 11, 49, 50, 8, 51, 56, 57, 58, 59, 60, 61, 62, 63, 64, 65, 66, 67, 68, 69, 70, 71, 72, 73, 74, 75, 76, 77, 78] (by decide +kernel) (by decide +kernel)
set_option maxRecDepth 20000 in
theorem gX8_mayLay_X8_worthShown : GoodIn wsX8_mayLay (wsV RX8 113 RX8 yX8_worthShown wsX8_worthShown) := goodIn_app (goodIn_of _ (by decide +kernel)) ggX8_mayLay_X8_worthShown
set_option maxRecDepth 20000 in
theorem ggX8_mayLay_X8_recall : GoodIn wsX8_mayLay wsX8_recall := goodIn_r _ [55, 11, 10, 13, 12, 56, 57, 58, 59, 60, 61, 62, 63, 64, 65, 66, 67, 68, 69, 70, 71, 72, 73, 74, 75, 76, 77, 78] (by decide +kernel) (by decide +kernel)
set_option maxRecDepth 20000 in
theorem gX8_mayLay_X8_recall : GoodIn wsX8_mayLay (wsV RX8 190 RX8 yX8_recall wsX8_recall) := goodIn_app (goodIn_of _ (by decide +kernel)) ggX8_mayLay_X8_recall
theorem dX8_mayLay_0 : decode cX8_mayLay 0 = .ok (.aload_n 0, 1) := by decide +kernel
theorem dX8_mayLay_1 : decode cX8_mayLay 1 = .ok (.invokevirtual 187, 3) := by decide +kernel
theorem dX8_mayLay_4 : decode cX8_mayLay 4 = .ok (.iconst 0, 1) := by decide +kernel
theorem dX8_mayLay_5 : decode cX8_mayLay 5 = .ok (.istore_n 3, 1) := by decide +kernel
theorem dX8_mayLay_6 : decode cX8_mayLay 6 = .ok (.aload_n 0, 1) := by decide +kernel
theorem dX8_mayLay_7 : decode cX8_mayLay 7 = .ok (.getfield 38, 3) := by decide +kernel
theorem dX8_mayLay_10 : decode cX8_mayLay 10 = .ok (.aload_n 0, 1) := by decide +kernel
theorem dX8_mayLay_11 : decode cX8_mayLay 11 = .ok (.getfield 165, 3) := by decide +kernel
theorem dX8_mayLay_14 : decode cX8_mayLay 14 = .ok (.baload, 1) := by decide +kernel
theorem dX8_mayLay_15 : decode cX8_mayLay 15 = .ok (.ifCond .ne 25, 3) := by decide +kernel
theorem dX8_mayLay_18 : decode cX8_mayLay 18 = .ok (.aload_n 0, 1) := by decide +kernel
theorem dX8_mayLay_19 : decode cX8_mayLay 19 = .ok (.lload_n 1, 1) := by decide +kernel
theorem dX8_mayLay_20 : decode cX8_mayLay 20 = .ok (.invokevirtual 97, 3) := by decide +kernel
theorem dX8_mayLay_23 : decode cX8_mayLay 23 = .ok (.ifCond .eq 14, 3) := by decide +kernel
theorem dX8_mayLay_26 : decode cX8_mayLay 26 = .ok (.aload_n 0, 1) := by decide +kernel
theorem dX8_mayLay_27 : decode cX8_mayLay 27 = .ok (.invokevirtual 113, 3) := by decide +kernel
theorem dX8_mayLay_30 : decode cX8_mayLay 30 = .ok (.aload_n 0, 1) := by decide +kernel
theorem dX8_mayLay_31 : decode cX8_mayLay 31 = .ok (.getfield 31, 3) := by decide +kernel
theorem dX8_mayLay_34 : decode cX8_mayLay 34 = .ok (.if_icmp .ge 6, 3) := by decide +kernel
theorem dX8_mayLay_37 : decode cX8_mayLay 37 = .ok (.bipush 7, 2) := by decide +kernel
theorem dX8_mayLay_39 : decode cX8_mayLay 39 = .ok (.istore_n 3, 1) := by decide +kernel
theorem dX8_mayLay_40 : decode cX8_mayLay 40 = .ok (.iload_n 3, 1) := by decide +kernel
theorem dX8_mayLay_41 : decode cX8_mayLay 41 = .ok (.ifCond .ne 18, 3) := by decide +kernel
theorem dX8_mayLay_44 : decode cX8_mayLay 44 = .ok (.aload_n 0, 1) := by decide +kernel
theorem dX8_mayLay_45 : decode cX8_mayLay 45 = .ok (.aload_n 0, 1) := by decide +kernel
theorem dX8_mayLay_46 : decode cX8_mayLay 46 = .ok (.getfield 180, 3) := by decide +kernel
theorem dX8_mayLay_49 : decode cX8_mayLay 49 = .ok (.lload_n 1, 1) := by decide +kernel
theorem dX8_mayLay_50 : decode cX8_mayLay 50 = .ok (.lor, 1) := by decide +kernel
theorem dX8_mayLay_51 : decode cX8_mayLay 51 = .ok (.invokevirtual 97, 3) := by decide +kernel
theorem dX8_mayLay_54 : decode cX8_mayLay 54 = .ok (.ifCond .ne 5, 3) := by decide +kernel
theorem dX8_mayLay_57 : decode cX8_mayLay 57 = .ok (.iconst 3, 1) := by decide +kernel
theorem dX8_mayLay_58 : decode cX8_mayLay 58 = .ok (.istore_n 3, 1) := by decide +kernel
theorem dX8_mayLay_59 : decode cX8_mayLay 59 = .ok (.iload_n 3, 1) := by decide +kernel
theorem dX8_mayLay_60 : decode cX8_mayLay 60 = .ok (.ifCond .le 7, 3) := by decide +kernel
theorem dX8_mayLay_63 : decode cX8_mayLay 63 = .ok (.aload_n 0, 1) := by decide +kernel
theorem dX8_mayLay_64 : decode cX8_mayLay 64 = .ok (.invokevirtual 190, 3) := by decide +kernel
theorem dX8_mayLay_67 : decode cX8_mayLay 67 = .ok (.iload_n 3, 1) := by decide +kernel
theorem dX8_mayLay_68 : decode cX8_mayLay 68 = .ok (.ireturn, 1) := by decide +kernel
theorem dX8_laid_0 : decode cX8_laid 0 = .ok (.aload_n 0, 1) := by decide +kernel
theorem dX8_laid_1 : decode cX8_laid 1 = .ok (.dup, 1) := by decide +kernel
theorem dX8_laid_2 : decode cX8_laid 2 = .ok (.getfield 180, 3) := by decide +kernel
theorem dX8_laid_5 : decode cX8_laid 5 = .ok (.lload_n 1, 1) := by decide +kernel
theorem dX8_laid_6 : decode cX8_laid 6 = .ok (.lor, 1) := by decide +kernel
theorem dX8_laid_7 : decode cX8_laid 7 = .ok (.putfield 180, 3) := by decide +kernel
theorem dX8_laid_10 : decode cX8_laid 10 = .ok (.aload_n 0, 1) := by decide +kernel
theorem dX8_laid_11 : decode cX8_laid 11 = .ok (.getfield 35, 3) := by decide +kernel
theorem dX8_laid_14 : decode cX8_laid 14 = .ok (.aload_n 0, 1) := by decide +kernel
theorem dX8_laid_15 : decode cX8_laid 15 = .ok (.getfield 165, 3) := by decide +kernel
theorem dX8_laid_18 : decode cX8_laid 18 = .ok (.dup2, 1) := by decide +kernel
theorem dX8_laid_19 : decode cX8_laid 19 = .ok (.laload, 1) := by decide +kernel
theorem dX8_laid_20 : decode cX8_laid 20 = .ok (.lload_n 1, 1) := by decide +kernel
theorem dX8_laid_21 : decode cX8_laid 21 = .ok (.ldc2_w 137, 3) := by decide +kernel
theorem dX8_laid_24 : decode cX8_laid 24 = .ok (.lxor, 1) := by decide +kernel
theorem dX8_laid_25 : decode cX8_laid 25 = .ok (.land, 1) := by decide +kernel
theorem dX8_laid_26 : decode cX8_laid 26 = .ok (.lastore, 1) := by decide +kernel
theorem dX8_laid_27 : decode cX8_laid 27 = .ok (.aload_n 0, 1) := by decide +kernel
theorem dX8_laid_28 : decode cX8_laid 28 = .ok (.getfield 38, 3) := by decide +kernel
theorem dX8_laid_31 : decode cX8_laid 31 = .ok (.aload_n 0, 1) := by decide +kernel
theorem dX8_laid_32 : decode cX8_laid 32 = .ok (.getfield 165, 3) := by decide +kernel
theorem dX8_laid_35 : decode cX8_laid 35 = .ok (.iconst 1, 1) := by decide +kernel
theorem dX8_laid_36 : decode cX8_laid 36 = .ok (.bastore, 1) := by decide +kernel
theorem dX8_laid_37 : decode cX8_laid 37 = .ok (.aload_n 0, 1) := by decide +kernel
theorem dX8_laid_38 : decode cX8_laid 38 = .ok (.dup, 1) := by decide +kernel
theorem dX8_laid_39 : decode cX8_laid 39 = .ok (.getfield 174, 3) := by decide +kernel
theorem dX8_laid_42 : decode cX8_laid 42 = .ok (.iconst 1, 1) := by decide +kernel
theorem dX8_laid_43 : decode cX8_laid 43 = .ok (.iadd, 1) := by decide +kernel
theorem dX8_laid_44 : decode cX8_laid 44 = .ok (.putfield 174, 3) := by decide +kernel
theorem dX8_laid_47 : decode cX8_laid 47 = .ok (.aload_n 0, 1) := by decide +kernel
theorem dX8_laid_48 : decode cX8_laid 48 = .ok (.getfield 35, 3) := by decide +kernel
theorem dX8_laid_51 : decode cX8_laid 51 = .ok (.aload_n 0, 1) := by decide +kernel
theorem dX8_laid_52 : decode cX8_laid 52 = .ok (.getfield 165, 3) := by decide +kernel
theorem dX8_laid_55 : decode cX8_laid 55 = .ok (.laload, 1) := by decide +kernel
theorem dX8_laid_56 : decode cX8_laid 56 = .ok (.lconst 0, 1) := by decide +kernel
theorem dX8_laid_57 : decode cX8_laid 57 = .ok (.lcmp, 1) := by decide +kernel
theorem dX8_laid_58 : decode cX8_laid 58 = .ok (.ifCond .eq 4, 3) := by decide +kernel
theorem dX8_laid_61 : decode cX8_laid 61 = .ok (.return_, 1) := by decide +kernel
theorem dX8_laid_62 : decode cX8_laid 62 = .ok (.aload_n 0, 1) := by decide +kernel
theorem dX8_laid_63 : decode cX8_laid 63 = .ok (.iconst 1, 1) := by decide +kernel
theorem dX8_laid_64 : decode cX8_laid 64 = .ok (.putfield 162, 3) := by decide +kernel
theorem dX8_laid_67 : decode cX8_laid 67 = .ok (.aload_n 0, 1) := by decide +kernel
theorem dX8_laid_68 : decode cX8_laid 68 = .ok (.aload_n 0, 1) := by decide +kernel
theorem dX8_laid_69 : decode cX8_laid 69 = .ok (.getfield 165, 3) := by decide +kernel
theorem dX8_laid_72 : decode cX8_laid 72 = .ok (.putfield 168, 3) := by decide +kernel
theorem dX8_laid_75 : decode cX8_laid 75 = .ok (.return_, 1) := by decide +kernel
set_option maxRecDepth 20000 in
theorem ggX8_lay_X8_isSet : GoodIn wsX8_lay wsX8_isSet := goodIn_r _ [11, 12] (by decide +kernel) (by decide +kernel)
set_option maxRecDepth 20000 in
theorem gX8_lay_X8_isSet : GoodIn wsX8_lay (va_wsS RX8 86 yX8_isSet wsX8_isSet) := goodIn_app (goodIn_of _ (by decide +kernel)) ggX8_lay_X8_isSet
set_option maxRecDepth 20000 in
theorem ggX8_lay_X8_none : GoodIn wsX8_lay wsX8_none := goodIn_r _ [16, 6, 82, 83, 84, 85, 86, 87, 88, 89, 90, 91, 92, 93, 94, 95, 96, 97, 98, 99, 100, 101, 102, 103, 104] (by decide +kernel) (by decide +kernel)
set_option maxRecDepth 20000 in
theorem gX8_lay_X8_none : GoodIn wsX8_lay (wsV RX8 90 RX8 yX8_none wsX8_none) := goodIn_app (goodIn_of _ (by decide +kernel)) ggX8_lay_X8_none
set_option maxRecDepth 20000 in
theorem ggX8_lay_X8_mayLay : GoodIn wsX8_lay wsX8_mayLay := goodIn_r _ [20, 21, 4, 22, 7, 23, 24, 25, 10, 26, 27, 28, 29, 30, 31, 32, 33, 34, 35, 36, 37, 38, 39, 40, 41, 42, 43, 44, 45, 46, 47, 48, 49, 50, 51, 52, 53, 54, 55, 56, 57, 58, 59, 60, 61, 62, 63, 64, 65, 66, 67, 68, 69, 70, 71, 72, 82, 83, 84, 85, 86, 87, 88, 89, 90, 91, 92, 93, 94, 95, 96, 97, 98, 99, 100, 101, 102, 103, 104] (by decide +kernel) (by decide +kernel)
set_option maxRecDepth 20000 in
theorem gX8_lay_X8_mayLay : GoodIn wsX8_lay (wsV RX8 193 RX8 yX8_mayLay wsX8_mayLay) := goodIn_app (goodIn_of _ (by decide +kernel)) ggX8_lay_X8_mayLay
set_option maxRecDepth 20000 in
theorem ggX8_lay_X8_laid : GoodIn wsX8_lay wsX8_laid := goodIn_r _ [76, 7, 3, 4, 5, 21, 77, 2, 78, 82, 83, 84, 85, 86, 87, 88, 89, 90, 91, 92, 93, 94, 95, 96, 97, 98, 99, 100, 101, 102, 103, 104] (by decide +kernel) (by decide +kernel)
set_option maxRecDepth 20000 in
theorem gX8_lay_X8_laid : GoodIn wsX8_lay (wsV RX8 196 RX8 yX8_laid wsX8_laid) := goodIn_app (goodIn_of _ (by decide +kernel)) ggX8_lay_X8_laid
set_option maxRecDepth 20000 in
theorem ggX8_lay_X8_many : GoodIn wsX8_lay wsX8_many := goodIn_r _ [81, 56, 57, 10, 58] (by decide +kernel) (by decide +kernel)
set_option maxRecDepth 20000 in
theorem gX8_lay_X8_many : GoodIn wsX8_lay (va_wsS RX8 184 yX8_many wsX8_many) := goodIn_app (goodIn_of _ (by decide +kernel)) ggX8_lay_X8_many
theorem dX8_lay_0 : decode cX8_lay 0 = .ok (.lload_n 1, 1) := by decide +kernel
theorem dX8_lay_1 : decode cX8_lay 1 = .ok (.invokestatic 86, 3) := by decide +kernel
theorem dX8_lay_4 : decode cX8_lay 4 = .ok (.ifCond .eq 9, 3) := by decide +kernel
theorem dX8_lay_7 : decode cX8_lay 7 = .ok (.lload_n 1, 1) := by decide +kernel
theorem dX8_lay_8 : decode cX8_lay 8 = .ok (.lconst 0, 1) := by decide +kernel
theorem dX8_lay_9 : decode cX8_lay 9 = .ok (.lcmp, 1) := by decide +kernel
theorem dX8_lay_10 : decode cX8_lay 10 = .ok (.ifCond .ne 9, 3) := by decide +kernel
theorem dX8_lay_13 : decode cX8_lay 13 = .ok (.aload_n 0, 1) := by decide +kernel
theorem dX8_lay_14 : decode cX8_lay 14 = .ok (.iconst 1, 1) := by decide +kernel
theorem dX8_lay_15 : decode cX8_lay 15 = .ok (.invokevirtual 90, 3) := by decide +kernel
theorem dX8_lay_18 : decode cX8_lay 18 = .ok (.ireturn, 1) := by decide +kernel
theorem dX8_lay_19 : decode cX8_lay 19 = .ok (.aload_n 0, 1) := by decide +kernel
theorem dX8_lay_20 : decode cX8_lay 20 = .ok (.getfield 158, 3) := by decide +kernel
theorem dX8_lay_23 : decode cX8_lay 23 = .ok (.ifCond .ne 9, 3) := by decide +kernel
theorem dX8_lay_26 : decode cX8_lay 26 = .ok (.aload_n 0, 1) := by decide +kernel
theorem dX8_lay_27 : decode cX8_lay 27 = .ok (.iconst 4, 1) := by decide +kernel
theorem dX8_lay_28 : decode cX8_lay 28 = .ok (.invokevirtual 90, 3) := by decide +kernel
theorem dX8_lay_31 : decode cX8_lay 31 = .ok (.ireturn, 1) := by decide +kernel
theorem dX8_lay_32 : decode cX8_lay 32 = .ok (.aload_n 0, 1) := by decide +kernel
theorem dX8_lay_33 : decode cX8_lay 33 = .ok (.getfield 162, 3) := by decide +kernel
theorem dX8_lay_36 : decode cX8_lay 36 = .ok (.ifCond .eq 9, 3) := by decide +kernel
theorem dX8_lay_39 : decode cX8_lay 39 = .ok (.aload_n 0, 1) := by decide +kernel
theorem dX8_lay_40 : decode cX8_lay 40 = .ok (.iconst 5, 1) := by decide +kernel
theorem dX8_lay_41 : decode cX8_lay 41 = .ok (.invokevirtual 90, 3) := by decide +kernel
theorem dX8_lay_44 : decode cX8_lay 44 = .ok (.ireturn, 1) := by decide +kernel
theorem dX8_lay_45 : decode cX8_lay 45 = .ok (.lload_n 1, 1) := by decide +kernel
theorem dX8_lay_46 : decode cX8_lay 46 = .ok (.aload_n 0, 1) := by decide +kernel
theorem dX8_lay_47 : decode cX8_lay 47 = .ok (.getfield 35, 3) := by decide +kernel
theorem dX8_lay_50 : decode cX8_lay 50 = .ok (.aload_n 0, 1) := by decide +kernel
theorem dX8_lay_51 : decode cX8_lay 51 = .ok (.getfield 165, 3) := by decide +kernel
theorem dX8_lay_54 : decode cX8_lay 54 = .ok (.laload, 1) := by decide +kernel
theorem dX8_lay_55 : decode cX8_lay 55 = .ok (.ldc2_w 137, 3) := by decide +kernel
theorem dX8_lay_58 : decode cX8_lay 58 = .ok (.lxor, 1) := by decide +kernel
theorem dX8_lay_59 : decode cX8_lay 59 = .ok (.land, 1) := by decide +kernel
theorem dX8_lay_60 : decode cX8_lay 60 = .ok (.lconst 0, 1) := by decide +kernel
theorem dX8_lay_61 : decode cX8_lay 61 = .ok (.lcmp, 1) := by decide +kernel
theorem dX8_lay_62 : decode cX8_lay 62 = .ok (.ifCond .eq 10, 3) := by decide +kernel
theorem dX8_lay_65 : decode cX8_lay 65 = .ok (.aload_n 0, 1) := by decide +kernel
theorem dX8_lay_66 : decode cX8_lay 66 = .ok (.bipush 6, 2) := by decide +kernel
theorem dX8_lay_68 : decode cX8_lay 68 = .ok (.invokevirtual 90, 3) := by decide +kernel
theorem dX8_lay_71 : decode cX8_lay 71 = .ok (.ireturn, 1) := by decide +kernel
theorem dX8_lay_72 : decode cX8_lay 72 = .ok (.aload_n 0, 1) := by decide +kernel
theorem dX8_lay_73 : decode cX8_lay 73 = .ok (.lload_n 1, 1) := by decide +kernel
theorem dX8_lay_74 : decode cX8_lay 74 = .ok (.invokevirtual 193, 3) := by decide +kernel
theorem dX8_lay_77 : decode cX8_lay 77 = .ok (.istore_n 3, 1) := by decide +kernel
theorem dX8_lay_78 : decode cX8_lay 78 = .ok (.iload_n 3, 1) := by decide +kernel
theorem dX8_lay_79 : decode cX8_lay 79 = .ok (.ifCond .le 9, 3) := by decide +kernel
theorem dX8_lay_82 : decode cX8_lay 82 = .ok (.aload_n 0, 1) := by decide +kernel
theorem dX8_lay_83 : decode cX8_lay 83 = .ok (.iload_n 3, 1) := by decide +kernel
theorem dX8_lay_84 : decode cX8_lay 84 = .ok (.invokevirtual 90, 3) := by decide +kernel
theorem dX8_lay_87 : decode cX8_lay 87 = .ok (.ireturn, 1) := by decide +kernel
theorem dX8_lay_88 : decode cX8_lay 88 = .ok (.aload_n 0, 1) := by decide +kernel
theorem dX8_lay_89 : decode cX8_lay 89 = .ok (.lload_n 1, 1) := by decide +kernel
theorem dX8_lay_90 : decode cX8_lay 90 = .ok (.invokevirtual 196, 3) := by decide +kernel
theorem dX8_lay_93 : decode cX8_lay 93 = .ok (.aload_n 0, 1) := by decide +kernel
theorem dX8_lay_94 : decode cX8_lay 94 = .ok (.iconst 0, 1) := by decide +kernel
theorem dX8_lay_95 : decode cX8_lay 95 = .ok (.putfield 50, 3) := by decide +kernel
theorem dX8_lay_98 : decode cX8_lay 98 = .ok (.aload_n 0, 1) := by decide +kernel
theorem dX8_lay_99 : decode cX8_lay 99 = .ok (.getfield 180, 3) := by decide +kernel
theorem dX8_lay_102 : decode cX8_lay 102 = .ok (.invokestatic 184, 3) := by decide +kernel
theorem dX8_lay_105 : decode cX8_lay 105 = .ok (.ireturn, 1) := by decide +kernel
theorem dX8_ends_0 : decode cX8_ends 0 = .ok (.bipush 54, 2) := by decide +kernel
theorem dX8_ends_2 : decode cX8_ends 2 = .ok (.istore_n 1, 1) := by decide +kernel
theorem dX8_ends_3 : decode cX8_ends 3 = .ok (.aload_n 0, 1) := by decide +kernel
theorem dX8_ends_4 : decode cX8_ends 4 = .ok (.getfield 174, 3) := by decide +kernel
theorem dX8_ends_7 : decode cX8_ends 7 = .ok (.ifCond .ne 47, 3) := by decide +kernel
theorem dX8_ends_10 : decode cX8_ends 10 = .ok (.aload_n 0, 1) := by decide +kernel
theorem dX8_ends_11 : decode cX8_ends 11 = .ok (.getfield 152, 3) := by decide +kernel
theorem dX8_ends_14 : decode cX8_ends 14 = .ok (.bipush 54, 2) := by decide +kernel
theorem dX8_ends_16 : decode cX8_ends 16 = .ok (.if_icmp .ge 38, 3) := by decide +kernel
theorem dX8_ends_19 : decode cX8_ends 19 = .ok (.aload_n 0, 1) := by decide +kernel
theorem dX8_ends_20 : decode cX8_ends 20 = .ok (.getfield 41, 3) := by decide +kernel
theorem dX8_ends_23 : decode cX8_ends 23 = .ok (.aload_n 0, 1) := by decide +kernel
theorem dX8_ends_24 : decode cX8_ends 24 = .ok (.getfield 152, 3) := by decide +kernel
theorem dX8_ends_27 : decode cX8_ends 27 = .ok (.iaload, 1) := by decide +kernel
theorem dX8_ends_28 : decode cX8_ends 28 = .ok (.istore_n 1, 1) := by decide +kernel
theorem dX8_ends_29 : decode cX8_ends 29 = .ok (.aload_n 0, 1) := by decide +kernel
theorem dX8_ends_30 : decode cX8_ends 30 = .ok (.dup, 1) := by decide +kernel
theorem dX8_ends_31 : decode cX8_ends 31 = .ok (.getfield 152, 3) := by decide +kernel
theorem dX8_ends_34 : decode cX8_ends 34 = .ok (.iconst 1, 1) := by decide +kernel
theorem dX8_ends_35 : decode cX8_ends 35 = .ok (.iadd, 1) := by decide +kernel
theorem dX8_ends_36 : decode cX8_ends 36 = .ok (.putfield 152, 3) := by decide +kernel
theorem dX8_ends_39 : decode cX8_ends 39 = .ok (.aload_n 0, 1) := by decide +kernel
theorem dX8_ends_40 : decode cX8_ends 40 = .ok (.getfield 35, 3) := by decide +kernel
theorem dX8_ends_43 : decode cX8_ends 43 = .ok (.aload_n 0, 1) := by decide +kernel
theorem dX8_ends_44 : decode cX8_ends 44 = .ok (.getfield 165, 3) := by decide +kernel
theorem dX8_ends_47 : decode cX8_ends 47 = .ok (.dup2, 1) := by decide +kernel
theorem dX8_ends_48 : decode cX8_ends 48 = .ok (.laload, 1) := by decide +kernel
theorem dX8_ends_49 : decode cX8_ends 49 = .ok (.lconst 1, 1) := by decide +kernel
theorem dX8_ends_50 : decode cX8_ends 50 = .ok (.iload_n 1, 1) := by decide +kernel
theorem dX8_ends_51 : decode cX8_ends 51 = .ok (.lshl, 1) := by decide +kernel
theorem dX8_ends_52 : decode cX8_ends 52 = .ok (.lor, 1) := by decide +kernel
theorem dX8_ends_53 : decode cX8_ends 53 = .ok (.lastore, 1) := by decide +kernel
theorem dX8_ends_54 : decode cX8_ends 54 = .ok (.aload_n 0, 1) := by decide +kernel
theorem dX8_ends_55 : decode cX8_ends 55 = .ok (.aload_n 0, 1) := by decide +kernel
theorem dX8_ends_56 : decode cX8_ends 56 = .ok (.getfield 174, 3) := by decide +kernel
theorem dX8_ends_59 : decode cX8_ends 59 = .ok (.ifCond .ne 18, 3) := by decide +kernel
theorem dX8_ends_62 : decode cX8_ends 62 = .ok (.iload_n 1, 1) := by decide +kernel
theorem dX8_ends_63 : decode cX8_ends 63 = .ok (.bipush 54, 2) := by decide +kernel
theorem dX8_ends_65 : decode cX8_ends 65 = .ok (.if_icmp .ne 12, 3) := by decide +kernel
theorem dX8_ends_68 : decode cX8_ends 68 = .ok (.aload_n 0, 1) := by decide +kernel
theorem dX8_ends_69 : decode cX8_ends 69 = .ok (.getfield 177, 3) := by decide +kernel
theorem dX8_ends_72 : decode cX8_ends 72 = .ok (.iconst 1, 1) := by decide +kernel
theorem dX8_ends_73 : decode cX8_ends 73 = .ok (.iadd, 1) := by decide +kernel
theorem dX8_ends_74 : decode cX8_ends 74 = .ok (.goto 4, 3) := by decide +kernel
theorem dX8_ends_77 : decode cX8_ends 77 = .ok (.iconst 0, 1) := by decide +kernel
theorem dX8_ends_78 : decode cX8_ends 78 = .ok (.putfield 177, 3) := by decide +kernel
theorem dX8_ends_81 : decode cX8_ends 81 = .ok (.aload_n 0, 1) := by decide +kernel
theorem dX8_ends_82 : decode cX8_ends 82 = .ok (.aload_n 0, 1) := by decide +kernel
theorem dX8_ends_83 : decode cX8_ends 83 = .ok (.getfield 177, 3) := by decide +kernel
theorem dX8_ends_86 : decode cX8_ends 86 = .ok (.aload_n 0, 1) := by decide +kernel
theorem dX8_ends_87 : decode cX8_ends 87 = .ok (.getfield 155, 3) := by decide +kernel
theorem dX8_ends_90 : decode cX8_ends 90 = .ok (.if_icmp .ne 7, 3) := by decide +kernel
theorem dX8_ends_93 : decode cX8_ends 93 = .ok (.iconst 1, 1) := by decide +kernel
theorem dX8_ends_94 : decode cX8_ends 94 = .ok (.goto 4, 3) := by decide +kernel
theorem dX8_ends_97 : decode cX8_ends 97 = .ok (.iconst 0, 1) := by decide +kernel
theorem dX8_ends_98 : decode cX8_ends 98 = .ok (.putfield 162, 3) := by decide +kernel
theorem dX8_ends_101 : decode cX8_ends 101 = .ok (.aload_n 0, 1) := by decide +kernel
theorem dX8_ends_102 : decode cX8_ends 102 = .ok (.iconst 0, 1) := by decide +kernel
theorem dX8_ends_103 : decode cX8_ends 103 = .ok (.putfield 174, 3) := by decide +kernel
theorem dX8_ends_106 : decode cX8_ends 106 = .ok (.aload_n 0, 1) := by decide +kernel
theorem dX8_ends_107 : decode cX8_ends 107 = .ok (.dup, 1) := by decide +kernel
theorem dX8_ends_108 : decode cX8_ends 108 = .ok (.getfield 171, 3) := by decide +kernel
theorem dX8_ends_111 : decode cX8_ends 111 = .ok (.iconst 1, 1) := by decide +kernel
theorem dX8_ends_112 : decode cX8_ends 112 = .ok (.iadd, 1) := by decide +kernel
theorem dX8_ends_113 : decode cX8_ends 113 = .ok (.putfield 171, 3) := by decide +kernel
theorem dX8_ends_116 : decode cX8_ends 116 = .ok (.aload_n 0, 1) := by decide +kernel
theorem dX8_ends_117 : decode cX8_ends 117 = .ok (.aload_n 0, 1) := by decide +kernel
theorem dX8_ends_118 : decode cX8_ends 118 = .ok (.getfield 165, 3) := by decide +kernel
theorem dX8_ends_121 : decode cX8_ends 121 = .ok (.iconst 1, 1) := by decide +kernel
theorem dX8_ends_122 : decode cX8_ends 122 = .ok (.iadd, 1) := by decide +kernel
theorem dX8_ends_123 : decode cX8_ends 123 = .ok (.aload_n 0, 1) := by decide +kernel
theorem dX8_ends_124 : decode cX8_ends 124 = .ok (.getfield 155, 3) := by decide +kernel
theorem dX8_ends_127 : decode cX8_ends 127 = .ok (.irem, 1) := by decide +kernel
theorem dX8_ends_128 : decode cX8_ends 128 = .ok (.putfield 165, 3) := by decide +kernel
theorem dX8_ends_131 : decode cX8_ends 131 = .ok (.iload_n 1, 1) := by decide +kernel
theorem dX8_ends_132 : decode cX8_ends 132 = .ok (.ireturn, 1) := by decide +kernel
set_option maxRecDepth 20000 in
theorem ggX8_end_X8_none : GoodIn wsX8_end wsX8_none := goodIn_r _ [8, 3, 21, 22, 23, 24, 25, 26, 27, 28, 29, 30, 31, 32, 33, 34, 35, 36, 37, 38, 39, 40, 41, 42, 43] (by decide +kernel) (by decide +kernel)
set_option maxRecDepth 20000 in
theorem gX8_end_X8_none : GoodIn wsX8_end (wsV RX8 90 RX8 yX8_none wsX8_none) := goodIn_app (goodIn_of _ (by decide +kernel)) ggX8_end_X8_none
set_option maxRecDepth 20000 in
theorem ggX8_end_X8_ends : GoodIn wsX8_end wsX8_ends := goodIn_r _ [12, 13, 14, 15, 16, 17, 18, 19, 2, 20, 21, 22, 23, 24, 25, 26, 27, 28, 29, 30, 31, 32, 33, 34, 35, 36, 37, 38, 39, 40, 41, 42, 43] (by decide +kernel) (by decide +kernel)
set_option maxRecDepth 20000 in
theorem gX8_end_X8_ends : GoodIn wsX8_end (wsV RX8 199 RX8 yX8_ends wsX8_ends) := goodIn_app (goodIn_of _ (by decide +kernel)) ggX8_end_X8_ends
theorem dX8_end_0 : decode cX8_end 0 = .ok (.aload_n 0, 1) := by decide +kernel
theorem dX8_end_1 : decode cX8_end 1 = .ok (.getfield 158, 3) := by decide +kernel
theorem dX8_end_4 : decode cX8_end 4 = .ok (.ifCond .ne 9, 3) := by decide +kernel
theorem dX8_end_7 : decode cX8_end 7 = .ok (.aload_n 0, 1) := by decide +kernel
theorem dX8_end_8 : decode cX8_end 8 = .ok (.iconst 4, 1) := by decide +kernel
theorem dX8_end_9 : decode cX8_end 9 = .ok (.invokevirtual 90, 3) := by decide +kernel
theorem dX8_end_12 : decode cX8_end 12 = .ok (.ireturn, 1) := by decide +kernel
theorem dX8_end_13 : decode cX8_end 13 = .ok (.aload_n 0, 1) := by decide +kernel
theorem dX8_end_14 : decode cX8_end 14 = .ok (.getfield 162, 3) := by decide +kernel
theorem dX8_end_17 : decode cX8_end 17 = .ok (.ifCond .eq 9, 3) := by decide +kernel
theorem dX8_end_20 : decode cX8_end 20 = .ok (.aload_n 0, 1) := by decide +kernel
theorem dX8_end_21 : decode cX8_end 21 = .ok (.iconst 5, 1) := by decide +kernel
theorem dX8_end_22 : decode cX8_end 22 = .ok (.invokevirtual 90, 3) := by decide +kernel
theorem dX8_end_25 : decode cX8_end 25 = .ok (.ireturn, 1) := by decide +kernel
theorem dX8_end_26 : decode cX8_end 26 = .ok (.aload_n 0, 1) := by decide +kernel
theorem dX8_end_27 : decode cX8_end 27 = .ok (.iconst 0, 1) := by decide +kernel
theorem dX8_end_28 : decode cX8_end 28 = .ok (.putfield 50, 3) := by decide +kernel
theorem dX8_end_31 : decode cX8_end 31 = .ok (.aload_n 0, 1) := by decide +kernel
theorem dX8_end_32 : decode cX8_end 32 = .ok (.invokevirtual 199, 3) := by decide +kernel
theorem dX8_end_35 : decode cX8_end 35 = .ok (.ireturn, 1) := by decide +kernel
set_option maxRecDepth 20000 in
theorem ggX8_robot_X8_none : GoodIn wsX8_robot wsX8_none := goodIn_r _ [12, 3, 113, 114, 115, 116, 117, 118, 119, 120, 121, 122, 123, 124, 125, 126, 127, 128, 129, 130, 131, 132, 133, 134, 135] (by decide +kernel) (by decide +kernel)
set_option maxRecDepth 20000 in
theorem gX8_robot_X8_none : GoodIn wsX8_robot (wsV RX8 90 RX8 yX8_none wsX8_none) := goodIn_app (goodIn_of _ (by decide +kernel)) ggX8_robot_X8_none
set_option maxRecDepth 20000 in
theorem ggX8_robot_X8_bestOf : GoodIn wsX8_robot wsX8_bestOf := goodIn_r _ [16, 17, 18, 19, 20, 21, 22, 23, 11, 24, 25, 26, 27, 28, 29, 30, 31, 32, 33, 34, 35, 36, 37, 38, 39, 40, 41, 42, 43, 44, 45, 46, 47, 48, 49, 50, 51, 52, 53, 54, 55, 56, 57, 58, 59, 60, 61, 62, 63, 64, 113, 114, 115, 116, 117, 118, 119, 120, 121, 122, 123, 124, 125, 126, 127, 128, 129, 130, 131, 132, 133, 134, 135] (by decide +kernel) (by decide +kernel)
set_option maxRecDepth 20000 in
theorem gX8_robot_X8_bestOf : GoodIn wsX8_robot (wsV RX8 143 RX8 yX8_bestOf wsX8_bestOf) := goodIn_app (goodIn_of _ (by decide +kernel)) ggX8_robot_X8_bestOf
set_option maxRecDepth 20000 in
theorem ggX8_robot_X8_mayLay : GoodIn wsX8_robot wsX8_mayLay := goodIn_r _ [68, 4, 5, 69, 6, 70, 71, 72, 11, 73, 74, 75, 76, 77, 78, 79, 80, 81, 82, 83, 84, 85, 86, 25, 36, 37, 38, 39, 40, 41, 42, 43, 44, 30, 31, 32, 33, 34, 35, 51, 52, 53, 54, 55, 56, 87, 88, 89, 90, 48, 49, 50, 91, 92, 93, 94, 113, 114, 115, 116, 117, 118, 119, 120, 121, 122, 123, 124, 125, 126, 127, 128, 129, 130, 131, 132, 133, 134, 135] (by decide +kernel) (by decide +kernel)
set_option maxRecDepth 20000 in
theorem gX8_robot_X8_mayLay : GoodIn wsX8_robot (wsV RX8 193 RX8 yX8_mayLay wsX8_mayLay) := goodIn_app (goodIn_of _ (by decide +kernel)) ggX8_robot_X8_mayLay
set_option maxRecDepth 20000 in
theorem ggX8_robot_X8_many : GoodIn wsX8_robot wsX8_many := goodIn_r _ [97, 51, 52, 11, 53] (by decide +kernel) (by decide +kernel)
set_option maxRecDepth 20000 in
theorem gX8_robot_X8_many : GoodIn wsX8_robot (va_wsS RX8 184 yX8_many wsX8_many) := goodIn_app (goodIn_of _ (by decide +kernel)) ggX8_robot_X8_many
set_option maxRecDepth 20000 in
theorem ggX8_robot_X8_laid : GoodIn wsX8_robot wsX8_laid := goodIn_r _ [101, 6, 7, 5, 18, 4, 102, 2, 103, 113, 114, 115, 116, 117, 118, 119, 120, 121, 122, 123, 124, 125, 126, 127, 128, 129, 130, 131, 132, 133, 134, 135] (by decide +kernel) (by decide +kernel)
set_option maxRecDepth 20000 in
theorem gX8_robot_X8_laid : GoodIn wsX8_robot (wsV RX8 196 RX8 yX8_laid wsX8_laid) := goodIn_app (goodIn_of _ (by decide +kernel)) ggX8_robot_X8_laid
set_option maxRecDepth 20000 in
theorem ggX8_robot_X8_ends : GoodIn wsX8_robot wsX8_ends := goodIn_r _ [107, 102, 108, 109, 7, 5, 110, 111, 2, 112, 113, 114, 115, 116, 117, 118, 119, 120, 121, 122, 123, 124, 125, 126, 127, 128, 129, 130, 131, 132, 133, 134, 135] (by decide +kernel) (by decide +kernel)
set_option maxRecDepth 20000 in
theorem gX8_robot_X8_ends : GoodIn wsX8_robot (wsV RX8 199 RX8 yX8_ends wsX8_ends) := goodIn_app (goodIn_of _ (by decide +kernel)) ggX8_robot_X8_ends
end
section
theorem dX8_robot_0 : decode cX8_robot 0 = .ok (.iload_n 1, 1) := by decide +kernel
theorem dX8_robot_1 : decode cX8_robot 1 = .ok (.ifCond .lt 8, 3) := by decide +kernel
theorem dX8_robot_4 : decode cX8_robot 4 = .ok (.iload_n 1, 1) := by decide +kernel
theorem dX8_robot_5 : decode cX8_robot 5 = .ok (.iconst 1, 1) := by decide +kernel
theorem dX8_robot_6 : decode cX8_robot 6 = .ok (.if_icmp .le 9, 3) := by decide +kernel
theorem dX8_robot_9 : decode cX8_robot 9 = .ok (.aload_n 0, 1) := by decide +kernel
theorem dX8_robot_10 : decode cX8_robot 10 = .ok (.iconst 1, 1) := by decide +kernel
theorem dX8_robot_11 : decode cX8_robot 11 = .ok (.invokevirtual 90, 3) := by decide +kernel
theorem dX8_robot_14 : decode cX8_robot 14 = .ok (.ireturn, 1) := by decide +kernel
theorem dX8_robot_15 : decode cX8_robot 15 = .ok (.aload_n 0, 1) := by decide +kernel
theorem dX8_robot_16 : decode cX8_robot 16 = .ok (.getfield 158, 3) := by decide +kernel
theorem dX8_robot_19 : decode cX8_robot 19 = .ok (.ifCond .ne 9, 3) := by decide +kernel
theorem dX8_robot_22 : decode cX8_robot 22 = .ok (.aload_n 0, 1) := by decide +kernel
theorem dX8_robot_23 : decode cX8_robot 23 = .ok (.iconst 4, 1) := by decide +kernel
theorem dX8_robot_24 : decode cX8_robot 24 = .ok (.invokevirtual 90, 3) := by decide +kernel
theorem dX8_robot_27 : decode cX8_robot 27 = .ok (.ireturn, 1) := by decide +kernel
theorem dX8_robot_28 : decode cX8_robot 28 = .ok (.aload_n 0, 1) := by decide +kernel
theorem dX8_robot_29 : decode cX8_robot 29 = .ok (.getfield 162, 3) := by decide +kernel
theorem dX8_robot_32 : decode cX8_robot 32 = .ok (.ifCond .eq 9, 3) := by decide +kernel
theorem dX8_robot_35 : decode cX8_robot 35 = .ok (.aload_n 0, 1) := by decide +kernel
theorem dX8_robot_36 : decode cX8_robot 36 = .ok (.iconst 5, 1) := by decide +kernel
theorem dX8_robot_37 : decode cX8_robot 37 = .ok (.invokevirtual 90, 3) := by decide +kernel
theorem dX8_robot_40 : decode cX8_robot 40 = .ok (.ireturn, 1) := by decide +kernel
theorem dX8_robot_41 : decode cX8_robot 41 = .ok (.aload_n 0, 1) := by decide +kernel
theorem dX8_robot_42 : decode cX8_robot 42 = .ok (.iconst 0, 1) := by decide +kernel
theorem dX8_robot_43 : decode cX8_robot 43 = .ok (.putfield 50, 3) := by decide +kernel
theorem dX8_robot_46 : decode cX8_robot 46 = .ok (.iconst 0, 1) := by decide +kernel
theorem dX8_robot_47 : decode cX8_robot 47 = .ok (.istore_n 2, 1) := by decide +kernel
theorem dX8_robot_48 : decode cX8_robot 48 = .ok (.iconst 1, 1) := by decide +kernel
theorem dX8_robot_49 : decode cX8_robot 49 = .ok (.istore_n 3, 1) := by decide +kernel
theorem dX8_robot_50 : decode cX8_robot 50 = .ok (.iload_n 3, 1) := by decide +kernel
theorem dX8_robot_51 : decode cX8_robot 51 = .ok (.ifCond .eq 89, 3) := by decide +kernel
theorem dX8_robot_54 : decode cX8_robot 54 = .ok (.aload_n 0, 1) := by decide +kernel
theorem dX8_robot_55 : decode cX8_robot 55 = .ok (.getfield 162, 3) := by decide +kernel
theorem dX8_robot_58 : decode cX8_robot 58 = .ok (.ifCond .ne 82, 3) := by decide +kernel
theorem dX8_robot_61 : decode cX8_robot 61 = .ok (.aload_n 0, 1) := by decide +kernel
theorem dX8_robot_62 : decode cX8_robot 62 = .ok (.aload_n 0, 1) := by decide +kernel
theorem dX8_robot_63 : decode cX8_robot 63 = .ok (.getfield 38, 3) := by decide +kernel
theorem dX8_robot_66 : decode cX8_robot 66 = .ok (.aload_n 0, 1) := by decide +kernel
theorem dX8_robot_67 : decode cX8_robot 67 = .ok (.getfield 165, 3) := by decide +kernel
theorem dX8_robot_70 : decode cX8_robot 70 = .ok (.baload, 1) := by decide +kernel
theorem dX8_robot_71 : decode cX8_robot 71 = .ok (.ifCond .eq 10, 3) := by decide +kernel
theorem dX8_robot_74 : decode cX8_robot 74 = .ok (.aload_n 0, 1) := by decide +kernel
theorem dX8_robot_75 : decode cX8_robot 75 = .ok (.getfield 180, 3) := by decide +kernel
theorem dX8_robot_78 : decode cX8_robot 78 = .ok (.goto 4, 3) := by decide +kernel
theorem dX8_robot_81 : decode cX8_robot 81 = .ok (.lconst 0, 1) := by decide +kernel
theorem dX8_robot_82 : decode cX8_robot 82 = .ok (.aload_n 0, 1) := by decide +kernel
theorem dX8_robot_83 : decode cX8_robot 83 = .ok (.getfield 35, 3) := by decide +kernel
theorem dX8_robot_86 : decode cX8_robot 86 = .ok (.aload_n 0, 1) := by decide +kernel
theorem dX8_robot_87 : decode cX8_robot 87 = .ok (.getfield 165, 3) := by decide +kernel
theorem dX8_robot_90 : decode cX8_robot 90 = .ok (.laload, 1) := by decide +kernel
theorem dX8_robot_91 : decode cX8_robot 91 = .ok (.iload_n 1, 1) := by decide +kernel
theorem dX8_robot_92 : decode cX8_robot 92 = .ok (.invokevirtual 143, 3) := by decide +kernel
theorem dX8_robot_95 : decode cX8_robot 95 = .ok (.lstore 4, 2) := by decide +kernel
theorem dX8_robot_97 : decode cX8_robot 97 = .ok (.lload 4, 2) := by decide +kernel
theorem dX8_robot_99 : decode cX8_robot 99 = .ok (.lconst 0, 1) := by decide +kernel
theorem dX8_robot_100 : decode cX8_robot 100 = .ok (.lcmp, 1) := by decide +kernel
theorem dX8_robot_101 : decode cX8_robot 101 = .ok (.ifCond .le 16, 3) := by decide +kernel
theorem dX8_robot_104 : decode cX8_robot 104 = .ok (.aload_n 0, 1) := by decide +kernel
theorem dX8_robot_105 : decode cX8_robot 105 = .ok (.lload 4, 2) := by decide +kernel
theorem dX8_robot_107 : decode cX8_robot 107 = .ok (.invokevirtual 193, 3) := by decide +kernel
theorem dX8_robot_110 : decode cX8_robot 110 = .ok (.ifCond .ne 7, 3) := by decide +kernel
theorem dX8_robot_113 : decode cX8_robot 113 = .ok (.iconst 1, 1) := by decide +kernel
theorem dX8_robot_114 : decode cX8_robot 114 = .ok (.goto 4, 3) := by decide +kernel
theorem dX8_robot_117 : decode cX8_robot 117 = .ok (.iconst 0, 1) := by decide +kernel
theorem dX8_robot_118 : decode cX8_robot 118 = .ok (.istore_n 3, 1) := by decide +kernel
theorem dX8_robot_119 : decode cX8_robot 119 = .ok (.iload_n 3, 1) := by decide +kernel
theorem dX8_robot_120 : decode cX8_robot 120 = .ok (.ifCond .eq 17, 3) := by decide +kernel
theorem dX8_robot_123 : decode cX8_robot 123 = .ok (.iload_n 2, 1) := by decide +kernel
theorem dX8_robot_124 : decode cX8_robot 124 = .ok (.lload 4, 2) := by decide +kernel
theorem dX8_robot_126 : decode cX8_robot 126 = .ok (.invokestatic 184, 3) := by decide +kernel
theorem dX8_robot_129 : decode cX8_robot 129 = .ok (.iadd, 1) := by decide +kernel
theorem dX8_robot_130 : decode cX8_robot 130 = .ok (.istore_n 2, 1) := by decide +kernel
theorem dX8_robot_131 : decode cX8_robot 131 = .ok (.aload_n 0, 1) := by decide +kernel
theorem dX8_robot_132 : decode cX8_robot 132 = .ok (.lload 4, 2) := by decide +kernel
theorem dX8_robot_134 : decode cX8_robot 134 = .ok (.invokevirtual 196, 3) := by decide +kernel
theorem dX8_robot_137 : decode cX8_robot 137 = .ok (.goto (-87), 3) := by decide +kernel
theorem dX8_robot_140 : decode cX8_robot 140 = .ok (.aload_n 0, 1) := by decide +kernel
theorem dX8_robot_141 : decode cX8_robot 141 = .ok (.getfield 162, 3) := by decide +kernel
theorem dX8_robot_144 : decode cX8_robot 144 = .ok (.ifCond .ne 9, 3) := by decide +kernel
theorem dX8_robot_147 : decode cX8_robot 147 = .ok (.aload_n 0, 1) := by decide +kernel
theorem dX8_robot_148 : decode cX8_robot 148 = .ok (.invokevirtual 199, 3) := by decide +kernel
theorem dX8_robot_151 : decode cX8_robot 151 = .ok (.istore 4, 2) := by decide +kernel
theorem dX8_robot_153 : decode cX8_robot 153 = .ok (.iload_n 2, 1) := by decide +kernel
theorem dX8_robot_154 : decode cX8_robot 154 = .ok (.ireturn, 1) := by decide +kernel
theorem dJ6_bitCount_0f7a4_0 : decode cJ6_bitCount_0f7a4 0 = .ok (.iload_n 0, 1) := by decide +kernel
theorem dJ6_bitCount_0f7a4_1 : decode cJ6_bitCount_0f7a4 1 = .ok (.iload_n 0, 1) := by decide +kernel
theorem dJ6_bitCount_0f7a4_2 : decode cJ6_bitCount_0f7a4 2 = .ok (.iconst 1, 1) := by decide +kernel
theorem dJ6_bitCount_0f7a4_3 : decode cJ6_bitCount_0f7a4 3 = .ok (.iushr, 1) := by decide +kernel
theorem dJ6_bitCount_0f7a4_4 : decode cJ6_bitCount_0f7a4 4 = .ok (.ldc_w 265, 3) := by decide +kernel
theorem dJ6_bitCount_0f7a4_7 : decode cJ6_bitCount_0f7a4 7 = .ok (.iand, 1) := by decide +kernel
theorem dJ6_bitCount_0f7a4_8 : decode cJ6_bitCount_0f7a4 8 = .ok (.isub, 1) := by decide +kernel
theorem dJ6_bitCount_0f7a4_9 : decode cJ6_bitCount_0f7a4 9 = .ok (.istore_n 0, 1) := by decide +kernel
theorem dJ6_bitCount_0f7a4_10 : decode cJ6_bitCount_0f7a4 10 = .ok (.iload_n 0, 1) := by decide +kernel
theorem dJ6_bitCount_0f7a4_11 : decode cJ6_bitCount_0f7a4 11 = .ok (.ldc_w 266, 3) := by decide +kernel
theorem dJ6_bitCount_0f7a4_14 : decode cJ6_bitCount_0f7a4 14 = .ok (.iand, 1) := by decide +kernel
theorem dJ6_bitCount_0f7a4_15 : decode cJ6_bitCount_0f7a4 15 = .ok (.iload_n 0, 1) := by decide +kernel
theorem dJ6_bitCount_0f7a4_16 : decode cJ6_bitCount_0f7a4 16 = .ok (.iconst 2, 1) := by decide +kernel
theorem dJ6_bitCount_0f7a4_17 : decode cJ6_bitCount_0f7a4 17 = .ok (.iushr, 1) := by decide +kernel
theorem dJ6_bitCount_0f7a4_18 : decode cJ6_bitCount_0f7a4 18 = .ok (.ldc_w 266, 3) := by decide +kernel
theorem dJ6_bitCount_0f7a4_21 : decode cJ6_bitCount_0f7a4 21 = .ok (.iand, 1) := by decide +kernel
theorem dJ6_bitCount_0f7a4_22 : decode cJ6_bitCount_0f7a4 22 = .ok (.iadd, 1) := by decide +kernel
theorem dJ6_bitCount_0f7a4_23 : decode cJ6_bitCount_0f7a4 23 = .ok (.istore_n 0, 1) := by decide +kernel
theorem dJ6_bitCount_0f7a4_24 : decode cJ6_bitCount_0f7a4 24 = .ok (.iload_n 0, 1) := by decide +kernel
theorem dJ6_bitCount_0f7a4_25 : decode cJ6_bitCount_0f7a4 25 = .ok (.iload_n 0, 1) := by decide +kernel
theorem dJ6_bitCount_0f7a4_26 : decode cJ6_bitCount_0f7a4 26 = .ok (.iconst 4, 1) := by decide +kernel
theorem dJ6_bitCount_0f7a4_27 : decode cJ6_bitCount_0f7a4 27 = .ok (.iushr, 1) := by decide +kernel
theorem dJ6_bitCount_0f7a4_28 : decode cJ6_bitCount_0f7a4 28 = .ok (.iadd, 1) := by decide +kernel
theorem dJ6_bitCount_0f7a4_29 : decode cJ6_bitCount_0f7a4 29 = .ok (.ldc_w 267, 3) := by decide +kernel
theorem dJ6_bitCount_0f7a4_32 : decode cJ6_bitCount_0f7a4 32 = .ok (.iand, 1) := by decide +kernel
theorem dJ6_bitCount_0f7a4_33 : decode cJ6_bitCount_0f7a4 33 = .ok (.istore_n 0, 1) := by decide +kernel
theorem dJ6_bitCount_0f7a4_34 : decode cJ6_bitCount_0f7a4 34 = .ok (.iload_n 0, 1) := by decide +kernel
theorem dJ6_bitCount_0f7a4_35 : decode cJ6_bitCount_0f7a4 35 = .ok (.iload_n 0, 1) := by decide +kernel
theorem dJ6_bitCount_0f7a4_36 : decode cJ6_bitCount_0f7a4 36 = .ok (.bipush 8, 2) := by decide +kernel
theorem dJ6_bitCount_0f7a4_38 : decode cJ6_bitCount_0f7a4 38 = .ok (.iushr, 1) := by decide +kernel
theorem dJ6_bitCount_0f7a4_39 : decode cJ6_bitCount_0f7a4 39 = .ok (.iadd, 1) := by decide +kernel
theorem dJ6_bitCount_0f7a4_40 : decode cJ6_bitCount_0f7a4 40 = .ok (.istore_n 0, 1) := by decide +kernel
theorem dJ6_bitCount_0f7a4_41 : decode cJ6_bitCount_0f7a4 41 = .ok (.iload_n 0, 1) := by decide +kernel
theorem dJ6_bitCount_0f7a4_42 : decode cJ6_bitCount_0f7a4 42 = .ok (.iload_n 0, 1) := by decide +kernel
theorem dJ6_bitCount_0f7a4_43 : decode cJ6_bitCount_0f7a4 43 = .ok (.bipush 16, 2) := by decide +kernel
theorem dJ6_bitCount_0f7a4_45 : decode cJ6_bitCount_0f7a4 45 = .ok (.iushr, 1) := by decide +kernel
theorem dJ6_bitCount_0f7a4_46 : decode cJ6_bitCount_0f7a4 46 = .ok (.iadd, 1) := by decide +kernel
theorem dJ6_bitCount_0f7a4_47 : decode cJ6_bitCount_0f7a4 47 = .ok (.istore_n 0, 1) := by decide +kernel
theorem dJ6_bitCount_0f7a4_48 : decode cJ6_bitCount_0f7a4 48 = .ok (.iload_n 0, 1) := by decide +kernel
theorem dJ6_bitCount_0f7a4_49 : decode cJ6_bitCount_0f7a4 49 = .ok (.bipush 63, 2) := by decide +kernel
theorem dJ6_bitCount_0f7a4_51 : decode cJ6_bitCount_0f7a4 51 = .ok (.iand, 1) := by decide +kernel
theorem dJ6_bitCount_0f7a4_52 : decode cJ6_bitCount_0f7a4 52 = .ok (.ireturn, 1) := by decide +kernel
theorem dJ13_bitCount_95d88_0 : decode cJ13_bitCount_95d88 0 = .ok (.lload_n 0, 1) := by decide +kernel
theorem dJ13_bitCount_95d88_1 : decode cJ13_bitCount_95d88 1 = .ok (.lload_n 0, 1) := by decide +kernel
theorem dJ13_bitCount_95d88_2 : decode cJ13_bitCount_95d88 2 = .ok (.iconst 1, 1) := by decide +kernel
theorem dJ13_bitCount_95d88_3 : decode cJ13_bitCount_95d88 3 = .ok (.lushr, 1) := by decide +kernel
theorem dJ13_bitCount_95d88_4 : decode cJ13_bitCount_95d88 4 = .ok (.ldc2_w 314, 3) := by decide +kernel
theorem dJ13_bitCount_95d88_7 : decode cJ13_bitCount_95d88 7 = .ok (.land, 1) := by decide +kernel
theorem dJ13_bitCount_95d88_8 : decode cJ13_bitCount_95d88 8 = .ok (.lsub, 1) := by decide +kernel
theorem dJ13_bitCount_95d88_9 : decode cJ13_bitCount_95d88 9 = .ok (.lstore_n 0, 1) := by decide +kernel
theorem dJ13_bitCount_95d88_10 : decode cJ13_bitCount_95d88 10 = .ok (.lload_n 0, 1) := by decide +kernel
theorem dJ13_bitCount_95d88_11 : decode cJ13_bitCount_95d88 11 = .ok (.ldc2_w 316, 3) := by decide +kernel
theorem dJ13_bitCount_95d88_14 : decode cJ13_bitCount_95d88 14 = .ok (.land, 1) := by decide +kernel
theorem dJ13_bitCount_95d88_15 : decode cJ13_bitCount_95d88 15 = .ok (.lload_n 0, 1) := by decide +kernel
theorem dJ13_bitCount_95d88_16 : decode cJ13_bitCount_95d88 16 = .ok (.iconst 2, 1) := by decide +kernel
theorem dJ13_bitCount_95d88_17 : decode cJ13_bitCount_95d88 17 = .ok (.lushr, 1) := by decide +kernel
theorem dJ13_bitCount_95d88_18 : decode cJ13_bitCount_95d88 18 = .ok (.ldc2_w 316, 3) := by decide +kernel
theorem dJ13_bitCount_95d88_21 : decode cJ13_bitCount_95d88 21 = .ok (.land, 1) := by decide +kernel
theorem dJ13_bitCount_95d88_22 : decode cJ13_bitCount_95d88 22 = .ok (.ladd, 1) := by decide +kernel
theorem dJ13_bitCount_95d88_23 : decode cJ13_bitCount_95d88 23 = .ok (.lstore_n 0, 1) := by decide +kernel
theorem dJ13_bitCount_95d88_24 : decode cJ13_bitCount_95d88 24 = .ok (.lload_n 0, 1) := by decide +kernel
theorem dJ13_bitCount_95d88_25 : decode cJ13_bitCount_95d88 25 = .ok (.lload_n 0, 1) := by decide +kernel
theorem dJ13_bitCount_95d88_26 : decode cJ13_bitCount_95d88 26 = .ok (.iconst 4, 1) := by decide +kernel
theorem dJ13_bitCount_95d88_27 : decode cJ13_bitCount_95d88 27 = .ok (.lushr, 1) := by decide +kernel
theorem dJ13_bitCount_95d88_28 : decode cJ13_bitCount_95d88 28 = .ok (.ladd, 1) := by decide +kernel
theorem dJ13_bitCount_95d88_29 : decode cJ13_bitCount_95d88 29 = .ok (.ldc2_w 318, 3) := by decide +kernel
theorem dJ13_bitCount_95d88_32 : decode cJ13_bitCount_95d88 32 = .ok (.land, 1) := by decide +kernel
theorem dJ13_bitCount_95d88_33 : decode cJ13_bitCount_95d88 33 = .ok (.lstore_n 0, 1) := by decide +kernel
theorem dJ13_bitCount_95d88_34 : decode cJ13_bitCount_95d88 34 = .ok (.lload_n 0, 1) := by decide +kernel
theorem dJ13_bitCount_95d88_35 : decode cJ13_bitCount_95d88 35 = .ok (.lload_n 0, 1) := by decide +kernel
theorem dJ13_bitCount_95d88_36 : decode cJ13_bitCount_95d88 36 = .ok (.bipush 8, 2) := by decide +kernel
theorem dJ13_bitCount_95d88_38 : decode cJ13_bitCount_95d88 38 = .ok (.lushr, 1) := by decide +kernel
theorem dJ13_bitCount_95d88_39 : decode cJ13_bitCount_95d88 39 = .ok (.ladd, 1) := by decide +kernel
theorem dJ13_bitCount_95d88_40 : decode cJ13_bitCount_95d88 40 = .ok (.lstore_n 0, 1) := by decide +kernel
theorem dJ13_bitCount_95d88_41 : decode cJ13_bitCount_95d88 41 = .ok (.lload_n 0, 1) := by decide +kernel
theorem dJ13_bitCount_95d88_42 : decode cJ13_bitCount_95d88 42 = .ok (.lload_n 0, 1) := by decide +kernel
theorem dJ13_bitCount_95d88_43 : decode cJ13_bitCount_95d88 43 = .ok (.bipush 16, 2) := by decide +kernel
theorem dJ13_bitCount_95d88_45 : decode cJ13_bitCount_95d88 45 = .ok (.lushr, 1) := by decide +kernel
theorem dJ13_bitCount_95d88_46 : decode cJ13_bitCount_95d88 46 = .ok (.ladd, 1) := by decide +kernel
theorem dJ13_bitCount_95d88_47 : decode cJ13_bitCount_95d88 47 = .ok (.lstore_n 0, 1) := by decide +kernel
theorem dJ13_bitCount_95d88_48 : decode cJ13_bitCount_95d88 48 = .ok (.lload_n 0, 1) := by decide +kernel
theorem dJ13_bitCount_95d88_49 : decode cJ13_bitCount_95d88 49 = .ok (.lload_n 0, 1) := by decide +kernel
theorem dJ13_bitCount_95d88_50 : decode cJ13_bitCount_95d88 50 = .ok (.bipush 32, 2) := by decide +kernel
theorem dJ13_bitCount_95d88_52 : decode cJ13_bitCount_95d88 52 = .ok (.lushr, 1) := by decide +kernel
theorem dJ13_bitCount_95d88_53 : decode cJ13_bitCount_95d88 53 = .ok (.ladd, 1) := by decide +kernel
theorem dJ13_bitCount_95d88_54 : decode cJ13_bitCount_95d88 54 = .ok (.lstore_n 0, 1) := by decide +kernel
theorem dJ13_bitCount_95d88_55 : decode cJ13_bitCount_95d88 55 = .ok (.lload_n 0, 1) := by decide +kernel
theorem dJ13_bitCount_95d88_56 : decode cJ13_bitCount_95d88 56 = .ok (.l2i, 1) := by decide +kernel
theorem dJ13_bitCount_95d88_57 : decode cJ13_bitCount_95d88 57 = .ok (.bipush 127, 2) := by decide +kernel
theorem dJ13_bitCount_95d88_59 : decode cJ13_bitCount_95d88 59 = .ok (.iand, 1) := by decide +kernel
theorem dJ13_bitCount_95d88_60 : decode cJ13_bitCount_95d88 60 = .ok (.ireturn, 1) := by decide +kernel
theorem dJ9_max_7cf53_0 : decode cJ9_max_7cf53 0 = .ok (.iload_n 0, 1) := by decide +kernel
theorem dJ9_max_7cf53_1 : decode cJ9_max_7cf53 1 = .ok (.iload_n 1, 1) := by decide +kernel
theorem dJ9_max_7cf53_2 : decode cJ9_max_7cf53 2 = .ok (.if_icmp .lt 7, 3) := by decide +kernel
theorem dJ9_max_7cf53_5 : decode cJ9_max_7cf53 5 = .ok (.iload_n 0, 1) := by decide +kernel
theorem dJ9_max_7cf53_6 : decode cJ9_max_7cf53 6 = .ok (.goto 4, 3) := by decide +kernel
theorem dJ9_max_7cf53_9 : decode cJ9_max_7cf53 9 = .ok (.iload_n 1, 1) := by decide +kernel
theorem dJ9_max_7cf53_10 : decode cJ9_max_7cf53 10 = .ok (.ireturn, 1) := by decide +kernel
theorem dJ9_max_f86c9_0 : decode cJ9_max_f86c9 0 = .ok (.lload_n 0, 1) := by decide +kernel
theorem dJ9_max_f86c9_1 : decode cJ9_max_f86c9 1 = .ok (.lload_n 2, 1) := by decide +kernel
theorem dJ9_max_f86c9_2 : decode cJ9_max_f86c9 2 = .ok (.lcmp, 1) := by decide +kernel
theorem dJ9_max_f86c9_3 : decode cJ9_max_f86c9 3 = .ok (.ifCond .lt 7, 3) := by decide +kernel
theorem dJ9_max_f86c9_6 : decode cJ9_max_f86c9 6 = .ok (.lload_n 0, 1) := by decide +kernel
theorem dJ9_max_f86c9_7 : decode cJ9_max_f86c9 7 = .ok (.goto 4, 3) := by decide +kernel
theorem dJ9_max_f86c9_10 : decode cJ9_max_f86c9 10 = .ok (.lload_n 2, 1) := by decide +kernel
theorem dJ9_max_f86c9_11 : decode cJ9_max_f86c9 11 = .ok (.lreturn, 1) := by decide +kernel
theorem dJ9_min_7cf53_0 : decode cJ9_min_7cf53 0 = .ok (.iload_n 0, 1) := by decide +kernel
theorem dJ9_min_7cf53_1 : decode cJ9_min_7cf53 1 = .ok (.iload_n 1, 1) := by decide +kernel
theorem dJ9_min_7cf53_2 : decode cJ9_min_7cf53 2 = .ok (.if_icmp .gt 7, 3) := by decide +kernel
theorem dJ9_min_7cf53_5 : decode cJ9_min_7cf53 5 = .ok (.iload_n 0, 1) := by decide +kernel
theorem dJ9_min_7cf53_6 : decode cJ9_min_7cf53 6 = .ok (.goto 4, 3) := by decide +kernel
theorem dJ9_min_7cf53_9 : decode cJ9_min_7cf53 9 = .ok (.iload_n 1, 1) := by decide +kernel
theorem dJ9_min_7cf53_10 : decode cJ9_min_7cf53 10 = .ok (.ireturn, 1) := by decide +kernel
theorem dJ7_fill_d0a16_0 : decode cJ7_fill_d0a16 0 = .ok (.iconst 0, 1) := by decide +kernel
theorem dJ7_fill_d0a16_1 : decode cJ7_fill_d0a16 1 = .ok (.istore_n 3, 1) := by decide +kernel
theorem dJ7_fill_d0a16_2 : decode cJ7_fill_d0a16 2 = .ok (.aload_n 0, 1) := by decide +kernel
theorem dJ7_fill_d0a16_3 : decode cJ7_fill_d0a16 3 = .ok (.arraylength, 1) := by decide +kernel
theorem dJ7_fill_d0a16_4 : decode cJ7_fill_d0a16 4 = .ok (.istore 4, 2) := by decide +kernel
theorem dJ7_fill_d0a16_6 : decode cJ7_fill_d0a16 6 = .ok (.iload_n 3, 1) := by decide +kernel
theorem dJ7_fill_d0a16_7 : decode cJ7_fill_d0a16 7 = .ok (.iload 4, 2) := by decide +kernel
theorem dJ7_fill_d0a16_9 : decode cJ7_fill_d0a16 9 = .ok (.if_icmp .ge 13, 3) := by decide +kernel
theorem dJ7_fill_d0a16_12 : decode cJ7_fill_d0a16 12 = .ok (.aload_n 0, 1) := by decide +kernel
theorem dJ7_fill_d0a16_13 : decode cJ7_fill_d0a16 13 = .ok (.iload_n 3, 1) := by decide +kernel
theorem dJ7_fill_d0a16_14 : decode cJ7_fill_d0a16 14 = .ok (.lload_n 1, 1) := by decide +kernel
theorem dJ7_fill_d0a16_15 : decode cJ7_fill_d0a16 15 = .ok (.lastore, 1) := by decide +kernel
theorem dJ7_fill_d0a16_16 : decode cJ7_fill_d0a16 16 = .ok (.iinc 3 1, 3) := by decide +kernel
theorem dJ7_fill_d0a16_19 : decode cJ7_fill_d0a16 19 = .ok (.goto (-13), 3) := by decide +kernel
theorem dJ7_fill_d0a16_22 : decode cJ7_fill_d0a16 22 = .ok (.return_, 1) := by decide +kernel
end
section
/-- the words on nest mates, which no list of words can carry -/
def nst (U : State) : Prop := va_Nw (.fieldLinkNest RX4 39 "RummyTable$Layout" "own" "J" "RummyTable") U ∧ va_Nw (.fieldLinkNest RX4 74 "RummyTable$Layout" "steps" "[I" "RummyTable") U ∧ va_Nw (.fieldLinkNest RX6 62 "RummyTable$Row" "count" "I" "RummyTable") U ∧ va_Nw (.fieldLinkNest RX6 66 "RummyTable$Row" "states" "[I" "RummyTable") U ∧ va_Nw (.fieldLinkNest RX7 100 "RummyTable$Layout" "own" "J" "RummyTable") U ∧ va_Nw (.fieldLinkNest RX7 133 "RummyTable$Game" "lying" "J" "RummyTable") U ∧ va_Nw (.fieldLinkNest RX7 150 "RummyTable$Game" "turn" "I" "RummyTable") U ∧ va_Nw (.fieldLinkNest RX7 168 "RummyTable$Game" "over" "Z" "RummyTable") U ∧ va_Nw (.methodLinkNest RX6 27 yX3_init "RummyTable") U ∧ va_Nw (.methodLinkNest RX7 33 yX1_init "RummyTable") U ∧ va_Nw (.methodLinkNest RX7 40 yX2_init "RummyTable") U
theorem nst.warm {s U : State} (hW : s.WarmedH U.vm) (h : nst s) : nst U := ⟨va_Nw.warmF hW h.1, va_Nw.warmF hW h.2.1, va_Nw.warmF hW h.2.2.1, va_Nw.warmF hW h.2.2.2.1, va_Nw.warmF hW h.2.2.2.2.1, va_Nw.warmF hW h.2.2.2.2.2.1, va_Nw.warmF hW h.2.2.2.2.2.2.1, va_Nw.warmF hW h.2.2.2.2.2.2.2.1, va_Nw.warmM hW h.2.2.2.2.2.2.2.2.1, va_Nw.warmM hW h.2.2.2.2.2.2.2.2.2.1, va_Nw.warmM hW h.2.2.2.2.2.2.2.2.2.2⟩
theorem nst.call {U : State} {g : JFrame} {mk : MethodId} {a : Array Value} (h : nst U) : nst (U.calling g mk a) := ⟨va_Nw.same rfl (rfl : U.vm = (U.calling g mk a).vm) h.1, va_Nw.same rfl (rfl : U.vm = (U.calling g mk a).vm) h.2.1, va_Nw.same rfl (rfl : U.vm = (U.calling g mk a).vm) h.2.2.1, va_Nw.same rfl (rfl : U.vm = (U.calling g mk a).vm) h.2.2.2.1, va_Nw.same rfl (rfl : U.vm = (U.calling g mk a).vm) h.2.2.2.2.1, va_Nw.same rfl (rfl : U.vm = (U.calling g mk a).vm) h.2.2.2.2.2.1, va_Nw.same rfl (rfl : U.vm = (U.calling g mk a).vm) h.2.2.2.2.2.2.1, va_Nw.same rfl (rfl : U.vm = (U.calling g mk a).vm) h.2.2.2.2.2.2.2.1, va_Nw.same rfl (rfl : U.vm = (U.calling g mk a).vm) h.2.2.2.2.2.2.2.2.1, va_Nw.same rfl (rfl : U.vm = (U.calling g mk a).vm) h.2.2.2.2.2.2.2.2.2.1, va_Nw.same rfl (rfl : U.vm = (U.calling g mk a).vm) h.2.2.2.2.2.2.2.2.2.2⟩
abbrev TYS (cI cJ cZ : ClassId) : List (ClassId × FieldType) := [(cI, .int), (cJ, .long), (cZ, .boolean)]
def kkw (D : va_G) (cI cJ cZ : ClassId) (U : State) : Prop := va_K D vwCl (TYS cI cJ cZ) U ∧ nst U
theorem kkw.warm {D : va_G} {cI cJ cZ : ClassId} {s U : State} (hW : s.WarmedH U.vm) (h : kkw D cI cJ cZ s) : kkw D cI cJ cZ U := ⟨va_K.moved hW.alike h.1, h.2.warm hW⟩
theorem kkw.call {D : va_G} {cI cJ cZ : ClassId} {U : State} {g : JFrame} {mk : MethodId} {a : Array Value} (h : kkw D cI cJ cZ U) : kkw D cI cJ cZ (U.calling g mk a) := ⟨va_K.moved (u := U) (U := U.calling g mk a) (Vm.Alike.refl U.vm) h.1, h.2.call⟩
/-- a method that only reads these cells -/
def wR (D : va_G) (cI cJ cZ : ClassId) (WS : va_W) (U : State) : Prop := va_P D vwCl WS U.heap ∧ kkw D cI cJ cZ U
/-- a method that may write these cells -/
def wM (D : va_G) (cI cJ cZ : ClassId) (sz : Nat) (WS : va_W) (U : State) : Prop := U.heap.size = sz ∧ va_P D vwCl WS U.heap ∧ kkw D cI cJ cZ U ∧ va_D (fun _ => True) WS
/-- the cells behind a method -/
def wB (D : va_G) (A : Nat → Prop) (WS : va_W) (t : State) : Prop := va_P D vwCl WS t.heap ∧ va_D A WS
theorem pS_fb {av : List Value} : FrameBlind (va_Pc av (fun _ => True)) := fun _ _ _ _ q => ⟨q.1, trivial⟩
theorem pS_pre {av : List Value} {s : State} {H : Heap} : ∀ U : State, U.heap = H → s.WarmedH U.vm → va_Pc av (fun _ => True) av.toArray U := fun _ _ _ => ⟨rfl, trivial⟩
theorem wR_fb {av : List Value} {D : va_G} {cI cJ cZ : ClassId} {WS : va_W} : FrameBlind (va_Pc av (wR D cI cJ cZ WS)) := fun _ _ _ _ q => ⟨q.1, q.2.1, q.2.2.call⟩
theorem wR_pre {av : List Value} {D : va_G} {cI cJ cZ : ClassId} {WS : va_W} {s : State} {H : Heap} (hP : va_P D vwCl WS H) (hK : kkw D cI cJ cZ s) : ∀ U : State, U.heap = H → s.WarmedH U.vm → va_Pc av (wR D cI cJ cZ WS) av.toArray U := fun _ hU hW => ⟨rfl, by rw [hU]; exact hP, hK.warm hW⟩
theorem wM_fb {av : List Value} {D : va_G} {cI cJ cZ : ClassId} {sz : Nat} {WS : va_W} : FrameBlind (va_Pc av (wM D cI cJ cZ sz WS)) := fun _ _ _ _ q => ⟨q.1, q.2.1, q.2.2.1, q.2.2.2.1.call, q.2.2.2.2⟩
theorem wM_pre {av : List Value} {D : va_G} {cI cJ cZ : ClassId} {WS : va_W} {s : State} {H : Heap} {A : Nat → Prop} (hP : va_P D vwCl WS H) (hK : kkw D cI cJ cZ s) (hD : va_D A WS) : ∀ U : State, U.heap = H → s.WarmedH U.vm → va_Pc av (wM D cI cJ cZ H.size WS) av.toArray U := fun _ hU hW => ⟨rfl, by rw [hU], by rw [hU]; exact hP, hK.warm hW, hD.weaken (fun _ _ _ _ => trivial)⟩
end
section
theorem wQ {p : Program} {l : Launch} {e : Env} {R : Room} {s : State} {m : MethodId} {args : Array Value} {below : List Frame} {meth : Method} {c : Code} {H : Heap} {locs : List Loc} {cells slots : Nat} {Q0 : State → Prop} {g : JFrame} (h : ∀ Q : State → Prop, Q0 = Q → W p l e R s m args below meth c H locs cells slots Q g) : W p l e R s m args below meth c H locs cells slots Q0 g := h Q0 rfl
theorem hp_lt {x y : Int32} {i N : Nat} (hx : x = nI i) (hy : y = nI N) (hi : i ≤ N) (hN : N < 2 ^ 31) (h : ¬ y ≤ x) : i < N := by
  rw [hx, hy, nI_leI hN (by omega)] at h; omega
theorem hp_ge {x y : Int32} {i N : Nat} (hx : x = nI i) (hy : y = nI N) (hi : i ≤ N) (hN : N < 2 ^ 31) (h : y ≤ x) : i = N := by
  rw [hx, hy, nI_leI hN (by omega)] at h; omega
theorem hp_s {x z : Int32} {i : Nat} (hz : z = x + 1) (hx : x = nI i) : z = nI (i + 1) := by rw [hz, hx]; exact nI_1 i
theorem hp_pm {i : Nat} (h : 0 < i) : nI i - 1 = nI (i - 1) := by
  obtain ⟨k, rfl⟩ : ∃ k, i = k + 1 := ⟨i - 1, by omega⟩
  exact nI_pred k
theorem hp_m1 {x : Int32} {i : Nat} (hx : x = nI i - 1) (hi : i ≤ 4) (h : x < 0) : i = 0 := by
  rcases Nat.eq_zero_or_pos i with q | q
  · exact q
  · rw [hx, hp_pm q] at h; exact absurd h (nI_pos (by omega))
theorem hp_m1p {x : Int32} {i : Nat} (hx : x = nI i - 1) (hi : i ≤ 4) (h : ¬ x < 0) : 0 < i := by
  rcases Nat.eq_zero_or_pos i with q | q
  · subst q; subst hx; exact absurd (by decide) h
  · exact q
theorem hp_wl {i : Nat} (h : 0 < i) : nI i - 1 + (-1) = nI (i - 1) - 1 := by
  rw [hp_pm h, Int32.sub_eq_add_neg]
def j_X0_isSet (s : Int64) : Int32 := if lg_cmp (s.toUInt64 >>> ((54 : Int32).toInt64.toUInt64 &&& Int64.toUInt64 63)).toInt64 0 = 0 then 1 else 0
def j_X0_worthOfNumber (n : Int32) : Int32 := if 10 < n + 1 then 10 else n + 1
def j_bcL (i : Int64) : Int32 :=
  let a := i - ((i.toUInt64 >>> ((1 : Int32).toInt64.toUInt64 &&& Int64.toUInt64 63)).toInt64 &&& 6148914691236517205)
  let b := (a &&& 3689348814741910323) + ((a.toUInt64 >>> ((2 : Int32).toInt64.toUInt64 &&& Int64.toUInt64 63)).toInt64 &&& 3689348814741910323)
  let c := (b + (b.toUInt64 >>> ((4 : Int32).toInt64.toUInt64 &&& Int64.toUInt64 63)).toInt64) &&& 1085102592571150095
  let d := c + (c.toUInt64 >>> ((8 : Int32).toInt64.toUInt64 &&& Int64.toUInt64 63)).toInt64
  let e := d + (d.toUInt64 >>> ((16 : Int32).toInt64.toUInt64 &&& Int64.toUInt64 63)).toInt64
  let f := e + (e.toUInt64 >>> ((32 : Int32).toInt64.toUInt64 &&& Int64.toUInt64 63)).toInt64
  f.toInt32 &&& 127
def j_bcI (i : Int32) : Int32 :=
  let a := i - ((i.toUInt32 >>> ((1 : Int32).toUInt32 &&& Int32.toUInt32 31)).toInt32 &&& 1431655765)
  let b := (a &&& 858993459) + ((a.toUInt32 >>> ((2 : Int32).toUInt32 &&& Int32.toUInt32 31)).toInt32 &&& 858993459)
  let c := (b + (b.toUInt32 >>> ((4 : Int32).toUInt32 &&& Int32.toUInt32 31)).toInt32) &&& 252645135
  let d := c + (c.toUInt32 >>> ((8 : Int32).toUInt32 &&& Int32.toUInt32 31)).toInt32
  let e := d + (d.toUInt32 >>> ((16 : Int32).toUInt32 &&& Int32.toUInt32 31)).toInt32
  e &&& 63
def j_X0_jokersIn (s : Int64) : Int32 := j_bcL (s.toUInt64 >>> ((52 : Int32).toInt64.toUInt64 &&& Int64.toUInt64 63)).toInt64
def j_X0_coloursOf (s : Int64) (n : Int32) : Int32 := (s.toUInt64 >>> ((4 * n).toInt64.toUInt64 &&& Int64.toUInt64 63)).toInt64.toInt32 &&& 15
def j_X0_worthOfSet (s : Int64) : Int32 := 20 * j_X0_jokersIn s + bx_sum (fun n => j_X0_worthOfNumber (nI n) * j_bcI (j_X0_coloursOf s (nI n))) 13
def j_X5_grouped (t : Int32) : Int32 := t &&& 15
def j_X5_begun (t : Int32) : Int32 := (t >>> ((4 : Int32) &&& 31)) &&& 15
def j_X5_continued (t : Int32) : Int32 := (t >>> ((8 : Int32) &&& 31)) &&& 15
def j_X5_shown (t : Int32) : Int32 := (t >>> ((12 : Int32) &&& 31)) &&& 15
def j_X5_placeOf (t c : Int32) : Int32 := if (j_X5_grouped t >>> (c &&& 31)) &&& 1 = 0 then (if (j_X5_begun t >>> (c &&& 31)) &&& 1 = 0 then (if (j_X5_continued t >>> (c &&& 31)) &&& 1 = 0 then 0 else 3) else 2) else 1
def j_X5_canContinue (s on : Int32) : Int32 := if ((s &&& 15) ^^^ ((s >>> ((4 : Int32) &&& 31)) &&& 15)) &&& (on ^^^ (-1)) = 0 then (if on &&& (((s &&& 15) ||| ((s >>> ((4 : Int32) &&& 31)) &&& 15)) ^^^ (-1)) = 0 then 1 else 0) else 0
def j_X5_stateAfter (s t : Int32) : Int32 := (j_X5_begun t ||| (j_X5_continued t &&& (s >>> ((4 : Int32) &&& 31)))) ||| (j_X5_continued t <<< ((4 : Int32) &&& 31))
def j_X5_mayEnd (s : Int32) : Int32 := if s &&& 15 = (s >>> ((4 : Int32) &&& 31)) &&& 15 then 1 else 0
def j_X7_isAim (a : Int32) : Int32 := if a = 0 then 1 else if a = 1 then 1 else 0
def j_X3_isCell (s u : Int32) : Int32 := if s < 0 then 0 else if 256 ≤ s then 0 else if u < 0 then 0 else if 3 ≤ u then 0 else 1
def j_X1_bitOf (c : Int32) : Int64 := if c < 0 then 0 else if 54 ≤ c then 0 else 1 <<< (c.toInt64 &&& 63)
def j_fp (code : Int32) : Nat → Int32
  | 0 => 0
  | n + 1 => if (code >>> (2 * (3 - nI n) &&& 31)) &&& 3 = 0 then j_fp code n else j_fp code n ||| ((1 <<< (4 * (((code >>> (2 * (3 - nI n) &&& 31)) &&& 3) - 1) + nI n &&& 31)) ||| (1 <<< (12 + nI n &&& 31)))
def j_X5_fromPlaces (code : Int32) : Int32 := j_fp code 4
def j_wl (c : Int32) : Nat → Int32
  | 0 => 0
  | n + 1 => if (c >>> (nI n &&& 31)) &&& 1 = 0 then j_wl c n else c &&& ((1 <<< (nI n &&& 31)) ^^^ (-1))
def j_X6_withoutLast (c : Int32) : Int32 := j_wl c 4
def j_X8_isSet (s : Int64) : Int32 := if lg_cmp s 0 < 0 then 0 else if 0 < lg_cmp s 18014398509481983 then 0 else 1
def j_X8_has (s : Int64) (c : Int32) : Int32 := if lg_cmp ((s >>> (c.toInt64 &&& 63)) &&& 1) 1 = 0 then 1 else 0
def j_X8_jokersOf (s : Int64) : Int32 := ((s >>> ((52 : Int32).toInt64 &&& 63)) &&& 1).toInt32 + ((s >>> ((53 : Int32).toInt64 &&& 63)) &&& 1).toInt32
def j_X8_worthOf (c : Int32) : Int32 := if c ≤ 51 then (if c / 4 ≤ 8 then c / 4 + 1 else 10) else 20
def j_X8_many (s : Int64) : Int32 := bx_sum (fun k => if j_X8_has s (nI k) = 0 then 0 else 1) 54
def j_X8_worthAll (s : Int64) : Int32 := bx_sum (fun k => if j_X8_has s (nI k) = 0 then 0 else j_X8_worthOf (nI k)) 54
def j_X8_run (m c : Int32) : Int32 := ((m / 15) >>> (2 * c &&& 31)) &&& 3
def j_X8_inGroup (m : Int32) : Int32 := m / 3 - m / 3 / 5 * 5
def j_X8_jokers (m : Int32) : Int32 := m - m / 3 * 3
def j_X8_gain (c a : Int32) : Int32 := if a = 0 then 1 else j_X8_worthOf c
def j_wh (m : Int32) : Nat → Int32
  | 0 => 1
  | n + 1 => if j_X8_run m (nI n) = 1 then 0 else if j_X8_run m (nI n) = 2 then 0 else j_wh m n
def j_X8_isWhole (m : Int32) : Int32 := if j_wh m 4 = 0 then 0 else if j_X8_inGroup m = 0 then 1 else 0
def j_bh_open (r p : Int32) : Int32 := if p = 3 then (if r = 3 then 3 else r + 1) else if p = 2 then 1 else 0
def j_bh_no (u r p : Int32) : Prop := 2 < u ∨ (¬ ((p = 3) ↔ (0 < r)) ∧ (p = 3 ∨ r < 3))
def j_bh_end (m col g u op : Int32) : Int32 := ((((m / 15 : Int32) &&& (((3 : Int32) <<< (2 * col &&& 31)) ^^^ (-1))) ||| (op <<< (2 * col &&& 31))) * 5 + g) * 3 + u
def j_bh_grp (m col g u op : Int32) : Int32 := if col = 3 then (if g = 1 then -1 else if g = 2 then -1 else j_bh_end m col 0 u op) else j_bh_end m col g u op
def j_bh_mid (m col r g u p : Int32) : Int32 := if 2 < u then -1 else
  if (if p = 3 then (1 : Int32) else 0) = (if r ≤ 0 then (0 : Int32) else 1) then j_bh_grp m col (if p = 1 then g + 1 else g) u (j_bh_open r p)
  else if p = 3 then -1 else if 3 ≤ r then j_bh_grp m col (if p = 1 then g + 1 else g) u (j_bh_open r p) else -1
def j_X8_behind (m c p b : Int32) : Int32 := j_bh_mid m (c - c / 4 * 4) (j_X8_run m (c - c / 4 * 4)) (j_X8_inGroup m) (j_X8_jokers m + (if b = 0 then 0 else 1)) p
theorem hp_wl2 {col x : Int32} {i : Nat} (h : 0 < i) (hx : x = nI i - 1) (hc : (col >>> (x &&& 31)) &&& 1 = 0) : j_wl col i = j_wl col (i - 1) := by
  obtain ⟨k, rfl⟩ : ∃ k, i = k + 1 := ⟨i - 1, by omega⟩
  rw [nI_pred] at hx; subst hx
  show (if _ then _ else _) = _
  rw [if_pos hc]; rfl
theorem hp_wl3 {col x : Int32} {i : Nat} (h : 0 < i) (hx : x = nI i - 1) (hc : ¬ (col >>> (x &&& 31)) &&& 1 = 0) : col &&& ((1 <<< (x &&& 31)) ^^^ (-1)) = j_wl col i := by
  obtain ⟨k, rfl⟩ : ∃ k, i = k + 1 := ⟨i - 1, by omega⟩
  rw [nI_pred] at hx; subst hx
  show _ = (if _ then _ else _)
  rw [if_neg hc]
theorem hp_wh {mk : Int32} : ∀ {n : Nat}, (∀ j, j < n → ¬ j_X8_run mk (nI j) = 1 ∧ ¬ j_X8_run mk (nI j) = 2) → j_wh mk n = 1
  | 0, _ => rfl
  | n + 1, h => by
    show (if _ then _ else if _ then _ else _) = _
    rw [if_neg (h n (Nat.lt_succ_self n)).1, if_neg (h n (Nat.lt_succ_self n)).2]
    exact hp_wh (fun j hj => h j (Nat.lt_succ_of_lt hj))
theorem hp_whz {mk : Int32} {i : Nat} (hr : j_X8_run mk (nI i) = 1 ∨ j_X8_run mk (nI i) = 2) : ∀ {n : Nat}, i < n → j_wh mk n = 0
  | 0, h => absurd h (Nat.not_lt_zero i)
  | n + 1, h => by
    show (if _ then _ else if _ then _ else _) = _
    rcases Nat.lt_succ_iff_lt_or_eq.mp h with q | q
    · rw [hp_whz hr q]; split
      · rfl
      · split <;> rfl
    · subst q
      rcases hr with q | q
      · rw [if_pos q]
      · rw [if_pos q]; split <;> rfl
theorem hp_wh0 {mk : Int32} {i : Nat} (hi : i < 4) (hr : j_X8_run mk (nI i) = 1 ∨ j_X8_run mk (nI i) = 2) : (0 : Int32) = j_X8_isWhole mk := by
  simp only [j_X8_isWhole]; rw [if_pos (hp_whz hr hi)]
set_option maxHeartbeats 4000000 in
set_option maxRecDepth 100000 in
theorem k_X0_isSet (l : Launch) (x : Int64)  : Met l yX0_isSet wsX0_isSet ({ frames := 0, cells := 0, slots := 0, locals := 0 } : Room) (va_Pc [.long x] (fun _ => True)) (vp_Si (fun r => r = j_X0_isSet x)) 0 0 (fun _ => False) := by
  refine Met.ofW (cc := cX0_isSet) (maxL := 2) (ret := (some .boolean)) (by decide) rfl ?_
  intro p e s m args below meth c s₁ B hml hv
  obtain ⟨hargs, -⟩ := hv
  have hx := B.exec
  have hb := B.bytes
  have hr := B.returns
  have hlocks := B.notSynchronized
  have hts := atoms_spec (ws := wsX0_isSet) B.pre
  have hown : s.vm.findClass RX0 = some m.cls := findClass_of_methodNamed B.named
  rw [show entryFrame m args 2 = entryFrame m ([.long x] : List Value).toArray 2 from by rw [hargs]]
  have hl := lv_entry ([.long x]) (n := 2) (Nat.le_of_ble_eq_true rfl)
  rw [lg_entry_eq]
  generalize (lg_sl ([.long x]) ++ List.replicate (2 - (lg_sl ([.long x])).length) Slot.unset).toArray = ls at hl ⊢
  have hl : lv_has ls 2 [(0, .long x)] := hl
  refine wQ (fun Q hQ => ?_)
  refine lv_lload_n hx hb dX0_isSet_0 rfl (lv_at hl 0 rfl) ?_
  refine lv_bipush (v := 54) hx hb dX0_isSet_1 (by decide) ?_
  refine lv_lushr hx hb dX0_isSet_3 rfl ?_
  refine lv_lconst (v := 0) hx hb dX0_isSet_4 (by decide) ?_
  refine W.lcmp hx hb dX0_isSet_5 ?_
  refine lv_if_ne (tgt := 13) hx hb dX0_isSet_6 (by decide) (fun c_6 => ?_) (fun c_6 => ?_)
  · refine lv_iconst (v := 0) hx hb dX0_isSet_13 (by decide) ?_
    rw [← hQ]
    exact W.zret (v := 0) hx hb hr (by first | decide | rfl | assumption) (fun t ht hW => ⟨_, rfl, (by simp only [j_X0_isSet]; (repeat' split) <;> first | rfl | contradiction), ht⟩) (fun _ h => by cases h) dX0_isSet_14
  · refine lv_iconst (v := 1) hx hb dX0_isSet_9 (by decide) ?_
    refine lv_goto (tgt := 14) hx hb dX0_isSet_10 (by decide) ?_
    rw [← hQ]
    exact W.zret (v := 1) hx hb hr (by first | decide | rfl | assumption) (fun t ht hW => ⟨_, rfl, (by simp only [j_X0_isSet]; (repeat' split) <;> first | rfl | contradiction), ht⟩) (fun _ h => by cases h) dX0_isSet_14

set_option maxHeartbeats 4000000 in
set_option maxRecDepth 100000 in
theorem k_X0_worthOfNumber (l : Launch) (n : Int32)  : Met l yX0_worthOfNumber wsX0_worthOfNumber ({ frames := 1, cells := 0, slots := 0, locals := 40 } : Room) (va_Pc [.int n] (fun _ => True)) (vp_Si (fun r => r = j_X0_worthOfNumber n)) 0 0 (fun _ => False) := by
  refine Met.ofW (cc := cX0_worthOfNumber) (maxL := 1) (ret := (some .int)) (by decide) rfl ?_
  intro p e s m args below meth c s₁ B hml hv
  obtain ⟨hargs, -⟩ := hv
  have hx := B.exec
  have hb := B.bytes
  have hr := B.returns
  have hlocks := B.notSynchronized
  have hts := atoms_spec (ws := wsX0_worthOfNumber) B.pre
  have hown : s.vm.findClass RX0 = some m.cls := findClass_of_methodNamed B.named
  have k9 := hts (.methodLink RX0 9 Lib.Math.min.name) (by decide +kernel)
  have s_va_mmin := hts (.static Lib.Math.min.name) (by decide +kernel)
  have i_math := hts (.initialized "java/lang/Math") (by decide +kernel)
  have c_va_mmin := hts (.code Lib.Math.min.name Lib.Math.min.code 2 (some .int)) (by decide +kernel)
  rw [show entryFrame m args 1 = entryFrame m ([.int n] : List Value).toArray 1 from by rw [hargs]]
  have hl := lv_entry ([.int n]) (n := 1) (Nat.le_of_ble_eq_true rfl)
  rw [lg_entry_eq]
  generalize (lg_sl ([.int n]) ++ List.replicate (1 - (lg_sl ([.int n])).length) Slot.unset).toArray = ls at hl ⊢
  have hl : lv_has ls 1 [(0, .int n)] := hl
  refine wQ (fun Q hQ => ?_)
  refine lv_iload_n hx hb dX0_worthOfNumber_0 rfl (lv_at hl 0 rfl) ?_
  refine lv_iconst (v := 1) hx hb dX0_worthOfNumber_1 (by decide) ?_
  refine lv_iadd hx hb dX0_worthOfNumber_2 ?_
  refine lv_bipush (v := 10) hx hb dX0_worthOfNumber_3 (by decide) ?_
  refine va_mmin hx hb (hml.trans hl.1.symm) hown k9 s_va_mmin i_math c_va_mmin (Nat.le_of_ble_eq_true rfl) (Nat.le_of_ble_eq_true rfl) (Nat.zero_le _) (Nat.zero_le _) dX0_worthOfNumber_5 ?_
  rw [← hQ]
  exact W.iret (v := if 10 < (n + 1) then 10 else (n + 1)) hx hb hr (fun t ht hW => ⟨_, rfl, rfl, ht⟩) (fun _ h => by cases h) dX0_worthOfNumber_8

set_option maxHeartbeats 4000000 in
set_option maxRecDepth 100000 in
theorem k_J13_bitCount_95d88 (l : Launch) (i : Int64)  : Met l yJ13_bitCount_95d88 wsJ13_bitCount_95d88 ({ frames := 0, cells := 0, slots := 0, locals := 0 } : Room) (va_Pc [.long i] (fun _ => True)) (vp_Si (fun r => r = j_bcL i)) 0 0 (fun _ => False) := by
  refine Met.ofW (cc := cJ13_bitCount_95d88) (maxL := 2) (ret := (some .int)) (by decide) rfl ?_
  intro p e s m args below meth c s₁ B hml hv
  obtain ⟨hargs, -⟩ := hv
  have hx := B.exec
  have hb := B.bytes
  have hr := B.returns
  have hlocks := B.notSynchronized
  have hts := atoms_spec (ws := wsJ13_bitCount_95d88) B.pre
  have hown : s.vm.findClass RJ13 = some m.cls := findClass_of_methodNamed B.named
  have k314 := hts (.constantLong RJ13 314 (6148914691236517205)) (by decide +kernel)
  have k316 := hts (.constantLong RJ13 316 (3689348814741910323)) (by decide +kernel)
  have k318 := hts (.constantLong RJ13 318 (1085102592571150095)) (by decide +kernel)
  rw [show entryFrame m args 2 = entryFrame m ([.long i] : List Value).toArray 2 from by rw [hargs]]
  have hl := lv_entry ([.long i]) (n := 2) (Nat.le_of_ble_eq_true rfl)
  rw [lg_entry_eq]
  generalize (lg_sl ([.long i]) ++ List.replicate (2 - (lg_sl ([.long i])).length) Slot.unset).toArray = ls at hl ⊢
  have hl : lv_has ls 2 [(0, .long i)] := hl
  refine wQ (fun Q hQ => ?_)
  refine lv_lload_n hx hb dJ13_bitCount_95d88_0 rfl (lv_at hl 0 rfl) ?_
  refine lv_lload_n hx hb dJ13_bitCount_95d88_1 rfl (lv_at hl 0 rfl) ?_
  refine lv_iconst (v := 1) hx hb dJ13_bitCount_95d88_2 (by decide) ?_
  refine lv_lushr hx hb dJ13_bitCount_95d88_3 rfl ?_
  refine lv_ldc2 hx hb hown k314 dJ13_bitCount_95d88_4 ?_
  refine lv_land hx hb dJ13_bitCount_95d88_7 ?_
  refine lv_lsub hx hb dJ13_bitCount_95d88_8 ?_
  refine lv_topl (fun x9 ex9 => ?_)
  refine lv_lstore_n (lv' := [(0, .long x9)]) hx hb dJ13_bitCount_95d88_9 rfl hl (by decide) rfl (fun ls hl => ?_)
  refine lv_lload_n hx hb dJ13_bitCount_95d88_10 rfl (lv_at hl 0 rfl) ?_
  refine lv_ldc2 hx hb hown k316 dJ13_bitCount_95d88_11 ?_
  refine lv_land hx hb dJ13_bitCount_95d88_14 ?_
  refine lv_lload_n hx hb dJ13_bitCount_95d88_15 rfl (lv_at hl 0 rfl) ?_
  refine lv_iconst (v := 2) hx hb dJ13_bitCount_95d88_16 (by decide) ?_
  refine lv_lushr hx hb dJ13_bitCount_95d88_17 rfl ?_
  refine lv_ldc2 hx hb hown k316 dJ13_bitCount_95d88_18 ?_
  refine lv_land hx hb dJ13_bitCount_95d88_21 ?_
  refine lv_ladd hx hb dJ13_bitCount_95d88_22 ?_
  refine lv_topl (fun x23 ex23 => ?_)
  refine lv_lstore_n (lv' := [(0, .long x23)]) hx hb dJ13_bitCount_95d88_23 rfl hl (by decide) rfl (fun ls hl => ?_)
  refine lv_lload_n hx hb dJ13_bitCount_95d88_24 rfl (lv_at hl 0 rfl) ?_
  refine lv_lload_n hx hb dJ13_bitCount_95d88_25 rfl (lv_at hl 0 rfl) ?_
  refine lv_iconst (v := 4) hx hb dJ13_bitCount_95d88_26 (by decide) ?_
  refine lv_lushr hx hb dJ13_bitCount_95d88_27 rfl ?_
  refine lv_ladd hx hb dJ13_bitCount_95d88_28 ?_
  refine lv_ldc2 hx hb hown k318 dJ13_bitCount_95d88_29 ?_
  refine lv_land hx hb dJ13_bitCount_95d88_32 ?_
  refine lv_topl (fun x33 ex33 => ?_)
  refine lv_lstore_n (lv' := [(0, .long x33)]) hx hb dJ13_bitCount_95d88_33 rfl hl (by decide) rfl (fun ls hl => ?_)
  refine lv_lload_n hx hb dJ13_bitCount_95d88_34 rfl (lv_at hl 0 rfl) ?_
  refine lv_lload_n hx hb dJ13_bitCount_95d88_35 rfl (lv_at hl 0 rfl) ?_
  refine lv_bipush (v := 8) hx hb dJ13_bitCount_95d88_36 (by decide) ?_
  refine lv_lushr hx hb dJ13_bitCount_95d88_38 rfl ?_
  refine lv_ladd hx hb dJ13_bitCount_95d88_39 ?_
  refine lv_topl (fun x40 ex40 => ?_)
  refine lv_lstore_n (lv' := [(0, .long x40)]) hx hb dJ13_bitCount_95d88_40 rfl hl (by decide) rfl (fun ls hl => ?_)
  refine lv_lload_n hx hb dJ13_bitCount_95d88_41 rfl (lv_at hl 0 rfl) ?_
  refine lv_lload_n hx hb dJ13_bitCount_95d88_42 rfl (lv_at hl 0 rfl) ?_
  refine lv_bipush (v := 16) hx hb dJ13_bitCount_95d88_43 (by decide) ?_
  refine lv_lushr hx hb dJ13_bitCount_95d88_45 rfl ?_
  refine lv_ladd hx hb dJ13_bitCount_95d88_46 ?_
  refine lv_topl (fun x47 ex47 => ?_)
  refine lv_lstore_n (lv' := [(0, .long x47)]) hx hb dJ13_bitCount_95d88_47 rfl hl (by decide) rfl (fun ls hl => ?_)
  refine lv_lload_n hx hb dJ13_bitCount_95d88_48 rfl (lv_at hl 0 rfl) ?_
  refine lv_lload_n hx hb dJ13_bitCount_95d88_49 rfl (lv_at hl 0 rfl) ?_
  refine lv_bipush (v := 32) hx hb dJ13_bitCount_95d88_50 (by decide) ?_
  refine lv_lushr hx hb dJ13_bitCount_95d88_52 rfl ?_
  refine lv_ladd hx hb dJ13_bitCount_95d88_53 ?_
  refine lv_topl (fun x54 ex54 => ?_)
  refine lv_lstore_n (lv' := [(0, .long x54)]) hx hb dJ13_bitCount_95d88_54 rfl hl (by decide) rfl (fun ls hl => ?_)
  refine lv_lload_n hx hb dJ13_bitCount_95d88_55 rfl (lv_at hl 0 rfl) ?_
  refine lv_l2i hx hb dJ13_bitCount_95d88_56 rfl ?_
  refine lv_bipush (v := 127) hx hb dJ13_bitCount_95d88_57 (by decide) ?_
  refine lv_iand hx hb dJ13_bitCount_95d88_59 ?_
  rw [← hQ]
  exact W.iret (v := x54.toInt32 &&& 127) hx hb hr (fun t ht hW => ⟨_, rfl, (by subst_vars; rfl), ht⟩) (fun _ h => by cases h) dJ13_bitCount_95d88_60

set_option maxHeartbeats 4000000 in
set_option maxRecDepth 100000 in
theorem k_J6_bitCount_0f7a4 (l : Launch) (i : Int32)  : Met l yJ6_bitCount_0f7a4 wsJ6_bitCount_0f7a4 ({ frames := 0, cells := 0, slots := 0, locals := 0 } : Room) (va_Pc [.int i] (fun _ => True)) (vp_Si (fun r => r = j_bcI i)) 0 0 (fun _ => False) := by
  refine Met.ofW (cc := cJ6_bitCount_0f7a4) (maxL := 1) (ret := (some .int)) (by decide) rfl ?_
  intro p e s m args below meth c s₁ B hml hv
  obtain ⟨hargs, -⟩ := hv
  have hx := B.exec
  have hb := B.bytes
  have hr := B.returns
  have hlocks := B.notSynchronized
  have hts := atoms_spec (ws := wsJ6_bitCount_0f7a4) B.pre
  have hown : s.vm.findClass RJ6 = some m.cls := findClass_of_methodNamed B.named
  have k265 := hts (.constant RJ6 265 (1431655765)) (by decide +kernel)
  have k266 := hts (.constant RJ6 266 (858993459)) (by decide +kernel)
  have k267 := hts (.constant RJ6 267 (252645135)) (by decide +kernel)
  rw [show entryFrame m args 1 = entryFrame m ([.int i] : List Value).toArray 1 from by rw [hargs]]
  have hl := lv_entry ([.int i]) (n := 1) (Nat.le_of_ble_eq_true rfl)
  rw [lg_entry_eq]
  generalize (lg_sl ([.int i]) ++ List.replicate (1 - (lg_sl ([.int i])).length) Slot.unset).toArray = ls at hl ⊢
  have hl : lv_has ls 1 [(0, .int i)] := hl
  refine wQ (fun Q hQ => ?_)
  refine lv_iload_n hx hb dJ6_bitCount_0f7a4_0 rfl (lv_at hl 0 rfl) ?_
  refine lv_iload_n hx hb dJ6_bitCount_0f7a4_1 rfl (lv_at hl 0 rfl) ?_
  refine lv_iconst (v := 1) hx hb dJ6_bitCount_0f7a4_2 (by decide) ?_
  refine lv_iushr hx hb dJ6_bitCount_0f7a4_3 rfl ?_
  refine lv_ldcw hx hb hown k265 dJ6_bitCount_0f7a4_4 ?_
  refine lv_iand hx hb dJ6_bitCount_0f7a4_7 ?_
  refine lv_isub hx hb dJ6_bitCount_0f7a4_8 ?_
  refine lv_topi (fun x9 ex9 => ?_)
  refine lv_istore_n (lv' := [(0, .int x9)]) hx hb dJ6_bitCount_0f7a4_9 rfl hl (by decide) rfl (fun ls hl => ?_)
  refine lv_iload_n hx hb dJ6_bitCount_0f7a4_10 rfl (lv_at hl 0 rfl) ?_
  refine lv_ldcw hx hb hown k266 dJ6_bitCount_0f7a4_11 ?_
  refine lv_iand hx hb dJ6_bitCount_0f7a4_14 ?_
  refine lv_iload_n hx hb dJ6_bitCount_0f7a4_15 rfl (lv_at hl 0 rfl) ?_
  refine lv_iconst (v := 2) hx hb dJ6_bitCount_0f7a4_16 (by decide) ?_
  refine lv_iushr hx hb dJ6_bitCount_0f7a4_17 rfl ?_
  refine lv_ldcw hx hb hown k266 dJ6_bitCount_0f7a4_18 ?_
  refine lv_iand hx hb dJ6_bitCount_0f7a4_21 ?_
  refine lv_iadd hx hb dJ6_bitCount_0f7a4_22 ?_
  refine lv_topi (fun x23 ex23 => ?_)
  refine lv_istore_n (lv' := [(0, .int x23)]) hx hb dJ6_bitCount_0f7a4_23 rfl hl (by decide) rfl (fun ls hl => ?_)
  refine lv_iload_n hx hb dJ6_bitCount_0f7a4_24 rfl (lv_at hl 0 rfl) ?_
  refine lv_iload_n hx hb dJ6_bitCount_0f7a4_25 rfl (lv_at hl 0 rfl) ?_
  refine lv_iconst (v := 4) hx hb dJ6_bitCount_0f7a4_26 (by decide) ?_
  refine lv_iushr hx hb dJ6_bitCount_0f7a4_27 rfl ?_
  refine lv_iadd hx hb dJ6_bitCount_0f7a4_28 ?_
  refine lv_ldcw hx hb hown k267 dJ6_bitCount_0f7a4_29 ?_
  refine lv_iand hx hb dJ6_bitCount_0f7a4_32 ?_
  refine lv_topi (fun x33 ex33 => ?_)
  refine lv_istore_n (lv' := [(0, .int x33)]) hx hb dJ6_bitCount_0f7a4_33 rfl hl (by decide) rfl (fun ls hl => ?_)
  refine lv_iload_n hx hb dJ6_bitCount_0f7a4_34 rfl (lv_at hl 0 rfl) ?_
  refine lv_iload_n hx hb dJ6_bitCount_0f7a4_35 rfl (lv_at hl 0 rfl) ?_
  refine lv_bipush (v := 8) hx hb dJ6_bitCount_0f7a4_36 (by decide) ?_
  refine lv_iushr hx hb dJ6_bitCount_0f7a4_38 rfl ?_
  refine lv_iadd hx hb dJ6_bitCount_0f7a4_39 ?_
  refine lv_topi (fun x40 ex40 => ?_)
  refine lv_istore_n (lv' := [(0, .int x40)]) hx hb dJ6_bitCount_0f7a4_40 rfl hl (by decide) rfl (fun ls hl => ?_)
  refine lv_iload_n hx hb dJ6_bitCount_0f7a4_41 rfl (lv_at hl 0 rfl) ?_
  refine lv_iload_n hx hb dJ6_bitCount_0f7a4_42 rfl (lv_at hl 0 rfl) ?_
  refine lv_bipush (v := 16) hx hb dJ6_bitCount_0f7a4_43 (by decide) ?_
  refine lv_iushr hx hb dJ6_bitCount_0f7a4_45 rfl ?_
  refine lv_iadd hx hb dJ6_bitCount_0f7a4_46 ?_
  refine lv_topi (fun x47 ex47 => ?_)
  refine lv_istore_n (lv' := [(0, .int x47)]) hx hb dJ6_bitCount_0f7a4_47 rfl hl (by decide) rfl (fun ls hl => ?_)
  refine lv_iload_n hx hb dJ6_bitCount_0f7a4_48 rfl (lv_at hl 0 rfl) ?_
  refine lv_bipush (v := 63) hx hb dJ6_bitCount_0f7a4_49 (by decide) ?_
  refine lv_iand hx hb dJ6_bitCount_0f7a4_51 ?_
  rw [← hQ]
  exact W.iret (v := x47 &&& 63) hx hb hr (fun t ht hW => ⟨_, rfl, (by subst_vars; rfl), ht⟩) (fun _ h => by cases h) dJ6_bitCount_0f7a4_52

set_option maxHeartbeats 4000000 in
set_option maxRecDepth 100000 in
theorem k_X0_jokersIn (l : Launch) (x : Int64)  : Met l yX0_jokersIn wsX0_jokersIn ({ frames := 1, cells := 0, slots := 0, locals := 21 } : Room) (va_Pc [.long x] (fun _ => True)) (vp_Si (fun r => r = j_X0_jokersIn x)) 0 0 (fun _ => False) := by
  refine Met.ofW (cc := cX0_jokersIn) (maxL := 2) (ret := (some .int)) (by decide) rfl ?_
  intro p e s m args below meth c s₁ B hml hv
  obtain ⟨hargs, -⟩ := hv
  have hx := B.exec
  have hb := B.bytes
  have hr := B.returns
  have hlocks := B.notSynchronized
  have hts := atoms_spec (ws := wsX0_jokersIn) B.pre
  have hown : s.vm.findClass RX0 = some m.cls := findClass_of_methodNamed B.named
  have k34 := hts (.methodLink RX0 34 yJ13_bitCount_95d88) (by decide +kernel)
  rw [show entryFrame m args 2 = entryFrame m ([.long x] : List Value).toArray 2 from by rw [hargs]]
  have hl := lv_entry ([.long x]) (n := 2) (Nat.le_of_ble_eq_true rfl)
  rw [lg_entry_eq]
  generalize (lg_sl ([.long x]) ++ List.replicate (2 - (lg_sl ([.long x])).length) Slot.unset).toArray = ls at hl ⊢
  have hl : lv_has ls 2 [(0, .long x)] := hl
  refine wQ (fun Q hQ => ?_)
  refine lv_lload_n hx hb dX0_jokersIn_0 rfl (lv_at hl 0 rfl) ?_
  refine lv_bipush (v := 52) hx hb dX0_jokersIn_1 (by decide) ?_
  refine lv_lushr hx hb dX0_jokersIn_3 rfl ?_
  refine vp_callSi (W.runS (As := [.long ((x.toUInt64 >>> ((52 : Int32).toInt64.toUInt64 &&& Int64.toUInt64 63)).toInt64)]) (rest := []) ⟨hx, hb, hml, hown, hts⟩ (k_J13_bitCount_95d88 l ((x.toUInt64 >>> ((52 : Int32).toInt64.toUInt64 &&& Int64.toUInt64 63)).toInt64) ) (va_cwS 1 hts gX0_jokersIn_J13_bitCount_95d88 rfl rfl rfl (by decide +kernel) ⟨Nat.le_of_ble_eq_true rfl, Nat.le_of_ble_eq_true rfl⟩) ⟨pS_fb, pS_pre⟩ rfl rfl hl.1 rfl (lv_room (Nat.le_of_ble_eq_true rfl)) dX0_jokersIn_4 ⟨Nat.le_of_ble_eq_true rfl, Nat.le_of_ble_eq_true rfl⟩) (fun x4 hx4 => ?_)
  subst hx4
  rw [← hQ]
  exact W.iret (v := j_bcL ((x.toUInt64 >>> ((52 : Int32).toInt64.toUInt64 &&& Int64.toUInt64 63)).toInt64)) hx hb hr (fun t ht hW => ⟨_, rfl, rfl, ht⟩) (fun _ h => by cases h) dX0_jokersIn_7

set_option maxHeartbeats 4000000 in
set_option maxRecDepth 100000 in
theorem k_X0_coloursOf (l : Launch) (x : Int64) (n : Int32)  : Met l yX0_coloursOf wsX0_coloursOf ({ frames := 0, cells := 0, slots := 0, locals := 0 } : Room) (va_Pc [.long x, .int n] (fun _ => True)) (vp_Si (fun r => r = j_X0_coloursOf x n)) 0 0 (fun _ => False) := by
  refine Met.ofW (cc := cX0_coloursOf) (maxL := 3) (ret := (some .int)) (by decide) rfl ?_
  intro p e s m args below meth c s₁ B hml hv
  obtain ⟨hargs, -⟩ := hv
  have hx := B.exec
  have hb := B.bytes
  have hr := B.returns
  have hlocks := B.notSynchronized
  have hts := atoms_spec (ws := wsX0_coloursOf) B.pre
  have hown : s.vm.findClass RX0 = some m.cls := findClass_of_methodNamed B.named
  rw [show entryFrame m args 3 = entryFrame m ([.long x, .int n] : List Value).toArray 3 from by rw [hargs]]
  have hl := lv_entry ([.long x, .int n]) (n := 3) (Nat.le_of_ble_eq_true rfl)
  rw [lg_entry_eq]
  generalize (lg_sl ([.long x, .int n]) ++ List.replicate (3 - (lg_sl ([.long x, .int n])).length) Slot.unset).toArray = ls at hl ⊢
  have hl : lv_has ls 3 [(0, .long x), (2, .int n)] := hl
  refine wQ (fun Q hQ => ?_)
  refine lv_lload_n hx hb dX0_coloursOf_0 rfl (lv_at hl 0 rfl) ?_
  refine lv_iconst (v := 4) hx hb dX0_coloursOf_1 (by decide) ?_
  refine lv_iload_n hx hb dX0_coloursOf_2 rfl (lv_at hl 1 rfl) ?_
  refine lv_imul hx hb dX0_coloursOf_3 ?_
  refine lv_lushr hx hb dX0_coloursOf_4 rfl ?_
  refine lv_l2i hx hb dX0_coloursOf_5 rfl ?_
  refine lv_bipush (v := 15) hx hb dX0_coloursOf_6 (by decide) ?_
  refine lv_iand hx hb dX0_coloursOf_8 ?_
  rw [← hQ]
  exact W.iret (v := (((x.toUInt64 >>> ((4 * n).toInt64.toUInt64 &&& Int64.toUInt64 63)).toInt64).toInt32) &&& 15) hx hb hr (fun t ht hW => ⟨_, rfl, rfl, ht⟩) (fun _ h => by cases h) dX0_coloursOf_9

set_option maxHeartbeats 4000000 in
set_option maxRecDepth 100000 in
theorem k_X0_worthOfSet (l : Launch) (x : Int64)  : Met l yX0_worthOfSet wsX0_worthOfSet ({ frames := 2, cells := 0, slots := 0, locals := 60 } : Room) (va_Pc [.long x] (fun _ => True)) (vp_Si (fun r => r = j_X0_worthOfSet x)) 0 0 (fun _ => False) := by
  refine Met.ofW (cc := cX0_worthOfSet) (maxL := 4) (ret := (some .int)) (by decide) rfl ?_
  intro p e s m args below meth c s₁ B hml hv
  obtain ⟨hargs, -⟩ := hv
  have hx := B.exec
  have hb := B.bytes
  have hr := B.returns
  have hlocks := B.notSynchronized
  have hts := atoms_spec (ws := wsX0_worthOfSet) B.pre
  have hown : s.vm.findClass RX0 = some m.cls := findClass_of_methodNamed B.named
  have k21 := hts (.methodLink RX0 21 yX0_worthOfNumber) (by decide +kernel)
  have k25 := hts (.methodLink RX0 25 yX0_coloursOf) (by decide +kernel)
  have k29 := hts (.methodLink RX0 29 yJ6_bitCount_0f7a4) (by decide +kernel)
  have k15 := hts (.methodLink RX0 15 yX0_jokersIn) (by decide +kernel)
  rw [show entryFrame m args 4 = entryFrame m ([.long x] : List Value).toArray 4 from by rw [hargs]]
  have hl := lv_entry ([.long x]) (n := 4) (Nat.le_of_ble_eq_true rfl)
  rw [lg_entry_eq]
  generalize (lg_sl ([.long x]) ++ List.replicate (4 - (lg_sl ([.long x])).length) Slot.unset).toArray = ls at hl ⊢
  have hl : lv_has ls 4 [(0, .long x)] := hl
  refine wQ (fun Q hQ => ?_)
  have lab10 : ∀ fuel10 : Nat, ∀ (i : Nat) (a : Int32) (x3 : Int32), (h3 : x3 = nI i) → (hi : i ≤ 13) → (ha : a = 20 * j_X0_jokersIn x + bx_sum (fun n => j_X0_worthOfNumber (nI n) * j_bcI (j_X0_coloursOf x (nI n))) i) → (hfu10 : 13 - i < fuel10) → ∀ ls : Array Slot, lv_has ls 4 [(0, .long x), (2, .int a), (3, .int x3)] → W p l e (headSpec wsX0_worthOfSet ({ frames := 2, cells := 0, slots := 0, locals := 60 } : Room)).room s m args below meth c s.heap [] 0 0 Q (F0 m 10 ls []) := by
    intro fuel10
    induction fuel10 with
    | zero =>
      intro i a x3 h3 hi ha hfu10
      exact absurd hfu10 (Nat.not_lt_zero _)
    | succ fuel10 ih10 =>
      intro i a x3 h3 hi ha hfu10 ls hl
      refine lv_iload_n hx hb dX0_worthOfSet_10 rfl (lv_at hl 2 rfl) ?_
      refine lv_bipush (v := 13) hx hb dX0_worthOfSet_11 (by decide) ?_
      refine lv_icmp_ge (tgt := 38) hx hb dX0_worthOfSet_13 (by decide) (fun c_13 => ?_) (fun c_13 => ?_)
      · have hi13 := hp_ge h3 (by decide : (13 : Int32) = nI 13) hi (by decide) c_13
        refine lv_iload_n hx hb dX0_worthOfSet_38 rfl (lv_at hl 1 rfl) ?_
        rw [← hQ]
        exact W.iret (v := a) hx hb hr (fun t ht hW => ⟨_, rfl, (by subst hi13; exact ha), ht⟩) (fun _ h => by cases h) dX0_worthOfSet_39
      · have hlt := hp_lt h3 (by decide : (13 : Int32) = nI 13) hi (by decide) c_13
        refine lv_iload_n hx hb dX0_worthOfSet_16 rfl (lv_at hl 1 rfl) ?_
        refine lv_iload_n hx hb dX0_worthOfSet_17 rfl (lv_at hl 2 rfl) ?_
        refine vp_callSi (W.runS (As := [.int x3]) (rest := [.int a]) ⟨hx, hb, hml, hown, hts⟩ (k_X0_worthOfNumber l x3 ) (va_cwS 1 hts gX0_worthOfSet_X0_worthOfNumber rfl rfl rfl (by decide +kernel) ⟨Nat.le_of_ble_eq_true rfl, Nat.le_of_ble_eq_true rfl⟩) ⟨pS_fb, pS_pre⟩ rfl rfl hl.1 rfl (lv_room (Nat.le_of_ble_eq_true rfl)) dX0_worthOfSet_18 ⟨Nat.le_of_ble_eq_true rfl, Nat.le_of_ble_eq_true rfl⟩) (fun x18 hx18 => ?_)
        subst hx18
        refine lv_lload_n hx hb dX0_worthOfSet_21 rfl (lv_at hl 0 rfl) ?_
        refine lv_iload_n hx hb dX0_worthOfSet_22 rfl (lv_at hl 2 rfl) ?_
        refine vp_callSi (W.runS (As := [.long x, .int x3]) (rest := [.int (j_X0_worthOfNumber x3), .int a]) ⟨hx, hb, hml, hown, hts⟩ (k_X0_coloursOf l x x3 ) (va_cwS 2 hts gX0_worthOfSet_X0_coloursOf rfl rfl rfl (by decide +kernel) ⟨Nat.le_of_ble_eq_true rfl, Nat.le_of_ble_eq_true rfl⟩) ⟨pS_fb, pS_pre⟩ rfl rfl hl.1 rfl (lv_room (Nat.le_of_ble_eq_true rfl)) dX0_worthOfSet_23 ⟨Nat.le_of_ble_eq_true rfl, Nat.le_of_ble_eq_true rfl⟩) (fun x23 hx23 => ?_)
        subst hx23
        refine vp_callSi (W.runS (As := [.int (j_X0_coloursOf x x3)]) (rest := [.int (j_X0_worthOfNumber x3), .int a]) ⟨hx, hb, hml, hown, hts⟩ (k_J6_bitCount_0f7a4 l (j_X0_coloursOf x x3) ) (va_cwS 1 hts gX0_worthOfSet_J6_bitCount_0f7a4 rfl rfl rfl (by decide +kernel) ⟨Nat.le_of_ble_eq_true rfl, Nat.le_of_ble_eq_true rfl⟩) ⟨pS_fb, pS_pre⟩ rfl rfl hl.1 rfl (lv_room (Nat.le_of_ble_eq_true rfl)) dX0_worthOfSet_26 ⟨Nat.le_of_ble_eq_true rfl, Nat.le_of_ble_eq_true rfl⟩) (fun x26 hx26 => ?_)
        subst hx26
        refine lv_imul hx hb dX0_worthOfSet_29 ?_
        refine lv_iadd hx hb dX0_worthOfSet_30 ?_
        refine lv_topi (fun x31 ex31 => ?_)
        refine lv_istore_n (lv' := [(2, .int x31), (0, .long x), (3, .int x3)]) hx hb dX0_worthOfSet_31 rfl hl (by decide) rfl (fun ls hl => ?_)
        obtain ⟨x32, ex32⟩ : ∃ y : Int32, y = x3 + 1 := ⟨_, rfl⟩
        refine lv_iinc (v := x32) (lv' := [(3, .int x32), (2, .int x31), (0, .long x)]) hx hb dX0_worthOfSet_32 hl (k := 2) rfl (by rw [ex32]; rfl) (by decide) rfl (fun ls hl => ?_)
        refine lv_goto (tgt := 10) hx hb dX0_worthOfSet_35 (by decide) ?_
        exact ih10 (i + 1) x31 x32 (hp_s (by assumption) h3) (by omega) (by subst_vars; simp only [bx_sum]; ac_rfl) (by omega) ls (lv_sub hl [2, 1, 0] rfl)
  refine lv_bipush (v := 20) hx hb dX0_worthOfSet_0 (by decide) ?_
  refine lv_lload_n hx hb dX0_worthOfSet_2 rfl (lv_at hl 0 rfl) ?_
  refine vp_callSi (W.runS (As := [.long x]) (rest := [.int 20]) ⟨hx, hb, hml, hown, hts⟩ (k_X0_jokersIn l x ) (va_cwS 1 hts gX0_worthOfSet_X0_jokersIn rfl rfl rfl (by decide +kernel) ⟨Nat.le_of_ble_eq_true rfl, Nat.le_of_ble_eq_true rfl⟩) ⟨pS_fb, pS_pre⟩ rfl rfl hl.1 rfl (lv_room (Nat.le_of_ble_eq_true rfl)) dX0_worthOfSet_3 ⟨Nat.le_of_ble_eq_true rfl, Nat.le_of_ble_eq_true rfl⟩) (fun x3 hx3 => ?_)
  subst hx3
  refine lv_imul hx hb dX0_worthOfSet_6 ?_
  refine lv_topi (fun x7 ex7 => ?_)
  refine lv_istore_n (lv' := [(2, .int x7), (0, .long x)]) hx hb dX0_worthOfSet_7 rfl hl (by decide) rfl (fun ls hl => ?_)
  refine lv_iconst (v := 0) hx hb dX0_worthOfSet_8 (by decide) ?_
  refine lv_istore_n (lv' := [(3, .int 0), (2, .int x7), (0, .long x)]) hx hb dX0_worthOfSet_9 rfl hl (by decide) rfl (fun ls hl => ?_)
  exact lab10 _ 0 x7 0 (nI_0.symm) (by omega) (by subst_vars; simp [bx_sum]) (Nat.lt_succ_self _) ls (lv_sub hl [2, 1, 0] rfl)

set_option maxHeartbeats 4000000 in
set_option maxRecDepth 100000 in
theorem k_X5_grouped (l : Launch) (t : Int32)  : Met l yX5_grouped wsX5_grouped ({ frames := 0, cells := 0, slots := 0, locals := 0 } : Room) (va_Pc [.int t] (fun _ => True)) (vp_Si (fun r => r = j_X5_grouped t)) 0 0 (fun _ => False) := by
  refine Met.ofW (cc := cX5_grouped) (maxL := 1) (ret := (some .int)) (by decide) rfl ?_
  intro p e s m args below meth c s₁ B hml hv
  obtain ⟨hargs, -⟩ := hv
  have hx := B.exec
  have hb := B.bytes
  have hr := B.returns
  have hlocks := B.notSynchronized
  have hts := atoms_spec (ws := wsX5_grouped) B.pre
  have hown : s.vm.findClass RX5 = some m.cls := findClass_of_methodNamed B.named
  rw [show entryFrame m args 1 = entryFrame m ([.int t] : List Value).toArray 1 from by rw [hargs]]
  have hl := lv_entry ([.int t]) (n := 1) (Nat.le_of_ble_eq_true rfl)
  rw [lg_entry_eq]
  generalize (lg_sl ([.int t]) ++ List.replicate (1 - (lg_sl ([.int t])).length) Slot.unset).toArray = ls at hl ⊢
  have hl : lv_has ls 1 [(0, .int t)] := hl
  refine wQ (fun Q hQ => ?_)
  refine lv_iload_n hx hb dX5_grouped_0 rfl (lv_at hl 0 rfl) ?_
  refine lv_bipush (v := 15) hx hb dX5_grouped_1 (by decide) ?_
  refine lv_iand hx hb dX5_grouped_3 ?_
  rw [← hQ]
  exact W.iret (v := t &&& 15) hx hb hr (fun t ht hW => ⟨_, rfl, rfl, ht⟩) (fun _ h => by cases h) dX5_grouped_4

set_option maxHeartbeats 4000000 in
set_option maxRecDepth 100000 in
theorem k_X5_begun (l : Launch) (t : Int32)  : Met l yX5_begun wsX5_begun ({ frames := 0, cells := 0, slots := 0, locals := 0 } : Room) (va_Pc [.int t] (fun _ => True)) (vp_Si (fun r => r = j_X5_begun t)) 0 0 (fun _ => False) := by
  refine Met.ofW (cc := cX5_begun) (maxL := 1) (ret := (some .int)) (by decide) rfl ?_
  intro p e s m args below meth c s₁ B hml hv
  obtain ⟨hargs, -⟩ := hv
  have hx := B.exec
  have hb := B.bytes
  have hr := B.returns
  have hlocks := B.notSynchronized
  have hts := atoms_spec (ws := wsX5_begun) B.pre
  have hown : s.vm.findClass RX5 = some m.cls := findClass_of_methodNamed B.named
  rw [show entryFrame m args 1 = entryFrame m ([.int t] : List Value).toArray 1 from by rw [hargs]]
  have hl := lv_entry ([.int t]) (n := 1) (Nat.le_of_ble_eq_true rfl)
  rw [lg_entry_eq]
  generalize (lg_sl ([.int t]) ++ List.replicate (1 - (lg_sl ([.int t])).length) Slot.unset).toArray = ls at hl ⊢
  have hl : lv_has ls 1 [(0, .int t)] := hl
  refine wQ (fun Q hQ => ?_)
  refine lv_iload_n hx hb dX5_begun_0 rfl (lv_at hl 0 rfl) ?_
  refine lv_iconst (v := 4) hx hb dX5_begun_1 (by decide) ?_
  refine lv_ishr hx hb dX5_begun_2 ?_
  refine lv_bipush (v := 15) hx hb dX5_begun_3 (by decide) ?_
  refine lv_iand hx hb dX5_begun_5 ?_
  rw [← hQ]
  exact W.iret (v := (t >>> (4 &&& 31)) &&& 15) hx hb hr (fun t ht hW => ⟨_, rfl, rfl, ht⟩) (fun _ h => by cases h) dX5_begun_6

set_option maxHeartbeats 4000000 in
set_option maxRecDepth 100000 in
theorem k_X5_continued (l : Launch) (t : Int32)  : Met l yX5_continued wsX5_continued ({ frames := 0, cells := 0, slots := 0, locals := 0 } : Room) (va_Pc [.int t] (fun _ => True)) (vp_Si (fun r => r = j_X5_continued t)) 0 0 (fun _ => False) := by
  refine Met.ofW (cc := cX5_continued) (maxL := 1) (ret := (some .int)) (by decide) rfl ?_
  intro p e s m args below meth c s₁ B hml hv
  obtain ⟨hargs, -⟩ := hv
  have hx := B.exec
  have hb := B.bytes
  have hr := B.returns
  have hlocks := B.notSynchronized
  have hts := atoms_spec (ws := wsX5_continued) B.pre
  have hown : s.vm.findClass RX5 = some m.cls := findClass_of_methodNamed B.named
  rw [show entryFrame m args 1 = entryFrame m ([.int t] : List Value).toArray 1 from by rw [hargs]]
  have hl := lv_entry ([.int t]) (n := 1) (Nat.le_of_ble_eq_true rfl)
  rw [lg_entry_eq]
  generalize (lg_sl ([.int t]) ++ List.replicate (1 - (lg_sl ([.int t])).length) Slot.unset).toArray = ls at hl ⊢
  have hl : lv_has ls 1 [(0, .int t)] := hl
  refine wQ (fun Q hQ => ?_)
  refine lv_iload_n hx hb dX5_continued_0 rfl (lv_at hl 0 rfl) ?_
  refine lv_bipush (v := 8) hx hb dX5_continued_1 (by decide) ?_
  refine lv_ishr hx hb dX5_continued_3 ?_
  refine lv_bipush (v := 15) hx hb dX5_continued_4 (by decide) ?_
  refine lv_iand hx hb dX5_continued_6 ?_
  rw [← hQ]
  exact W.iret (v := (t >>> (8 &&& 31)) &&& 15) hx hb hr (fun t ht hW => ⟨_, rfl, rfl, ht⟩) (fun _ h => by cases h) dX5_continued_7

set_option maxHeartbeats 4000000 in
set_option maxRecDepth 100000 in
theorem k_X5_shown (l : Launch) (t : Int32)  : Met l yX5_shown wsX5_shown ({ frames := 0, cells := 0, slots := 0, locals := 0 } : Room) (va_Pc [.int t] (fun _ => True)) (vp_Si (fun r => r = j_X5_shown t)) 0 0 (fun _ => False) := by
  refine Met.ofW (cc := cX5_shown) (maxL := 1) (ret := (some .int)) (by decide) rfl ?_
  intro p e s m args below meth c s₁ B hml hv
  obtain ⟨hargs, -⟩ := hv
  have hx := B.exec
  have hb := B.bytes
  have hr := B.returns
  have hlocks := B.notSynchronized
  have hts := atoms_spec (ws := wsX5_shown) B.pre
  have hown : s.vm.findClass RX5 = some m.cls := findClass_of_methodNamed B.named
  rw [show entryFrame m args 1 = entryFrame m ([.int t] : List Value).toArray 1 from by rw [hargs]]
  have hl := lv_entry ([.int t]) (n := 1) (Nat.le_of_ble_eq_true rfl)
  rw [lg_entry_eq]
  generalize (lg_sl ([.int t]) ++ List.replicate (1 - (lg_sl ([.int t])).length) Slot.unset).toArray = ls at hl ⊢
  have hl : lv_has ls 1 [(0, .int t)] := hl
  refine wQ (fun Q hQ => ?_)
  refine lv_iload_n hx hb dX5_shown_0 rfl (lv_at hl 0 rfl) ?_
  refine lv_bipush (v := 12) hx hb dX5_shown_1 (by decide) ?_
  refine lv_ishr hx hb dX5_shown_3 ?_
  refine lv_bipush (v := 15) hx hb dX5_shown_4 (by decide) ?_
  refine lv_iand hx hb dX5_shown_6 ?_
  rw [← hQ]
  exact W.iret (v := (t >>> (12 &&& 31)) &&& 15) hx hb hr (fun t ht hW => ⟨_, rfl, rfl, ht⟩) (fun _ h => by cases h) dX5_shown_7

set_option maxHeartbeats 4000000 in
set_option maxRecDepth 100000 in
theorem k_X5_placeOf (l : Launch) (t col : Int32)  : Met l yX5_placeOf wsX5_placeOf ({ frames := 1, cells := 0, slots := 0, locals := 20 } : Room) (va_Pc [.int t, .int col] (fun _ => True)) (vp_Si (fun r => r = j_X5_placeOf t col)) 0 0 (fun _ => False) := by
  refine Met.ofW (cc := cX5_placeOf) (maxL := 2) (ret := (some .int)) (by decide) rfl ?_
  intro p e s m args below meth c s₁ B hml hv
  obtain ⟨hargs, -⟩ := hv
  have hx := B.exec
  have hb := B.bytes
  have hr := B.returns
  have hlocks := B.notSynchronized
  have hts := atoms_spec (ws := wsX5_placeOf) B.pre
  have hown : s.vm.findClass RX5 = some m.cls := findClass_of_methodNamed B.named
  have k15 := hts (.methodLink RX5 15 yX5_grouped) (by decide +kernel)
  have k23 := hts (.methodLink RX5 23 yX5_begun) (by decide +kernel)
  have k26 := hts (.methodLink RX5 26 yX5_continued) (by decide +kernel)
  rw [show entryFrame m args 2 = entryFrame m ([.int t, .int col] : List Value).toArray 2 from by rw [hargs]]
  have hl := lv_entry ([.int t, .int col]) (n := 2) (Nat.le_of_ble_eq_true rfl)
  rw [lg_entry_eq]
  generalize (lg_sl ([.int t, .int col]) ++ List.replicate (2 - (lg_sl ([.int t, .int col])).length) Slot.unset).toArray = ls at hl ⊢
  have hl : lv_has ls 2 [(0, .int t), (1, .int col)] := hl
  refine wQ (fun Q hQ => ?_)
  refine lv_iload_n hx hb dX5_placeOf_0 rfl (lv_at hl 0 rfl) ?_
  refine vp_callSi (W.runS (As := [.int t]) (rest := []) ⟨hx, hb, hml, hown, hts⟩ (k_X5_grouped l t ) (va_cwS 1 hts gX5_placeOf_X5_grouped rfl rfl rfl (by decide +kernel) ⟨Nat.le_of_ble_eq_true rfl, Nat.le_of_ble_eq_true rfl⟩) ⟨pS_fb, pS_pre⟩ rfl rfl hl.1 rfl (lv_room (Nat.le_of_ble_eq_true rfl)) dX5_placeOf_1 ⟨Nat.le_of_ble_eq_true rfl, Nat.le_of_ble_eq_true rfl⟩) (fun x1 hx1 => ?_)
  subst hx1
  refine lv_iload_n hx hb dX5_placeOf_4 rfl (lv_at hl 1 rfl) ?_
  refine lv_ishr hx hb dX5_placeOf_5 ?_
  refine lv_iconst (v := 1) hx hb dX5_placeOf_6 (by decide) ?_
  refine lv_iand hx hb dX5_placeOf_7 ?_
  refine lv_if_eq (tgt := 13) hx hb dX5_placeOf_8 (by decide) (fun c_8 => ?_) (fun c_8 => ?_)
  · refine lv_iload_n hx hb dX5_placeOf_13 rfl (lv_at hl 0 rfl) ?_
    refine vp_callSi (W.runS (As := [.int t]) (rest := []) ⟨hx, hb, hml, hown, hts⟩ (k_X5_begun l t ) (va_cwS 1 hts gX5_placeOf_X5_begun rfl rfl rfl (by decide +kernel) ⟨Nat.le_of_ble_eq_true rfl, Nat.le_of_ble_eq_true rfl⟩) ⟨pS_fb, pS_pre⟩ rfl rfl hl.1 rfl (lv_room (Nat.le_of_ble_eq_true rfl)) dX5_placeOf_14 ⟨Nat.le_of_ble_eq_true rfl, Nat.le_of_ble_eq_true rfl⟩) (fun x14 hx14 => ?_)
    subst hx14
    refine lv_iload_n hx hb dX5_placeOf_17 rfl (lv_at hl 1 rfl) ?_
    refine lv_ishr hx hb dX5_placeOf_18 ?_
    refine lv_iconst (v := 1) hx hb dX5_placeOf_19 (by decide) ?_
    refine lv_iand hx hb dX5_placeOf_20 ?_
    refine lv_if_eq (tgt := 26) hx hb dX5_placeOf_21 (by decide) (fun c_21 => ?_) (fun c_21 => ?_)
    · refine lv_iload_n hx hb dX5_placeOf_26 rfl (lv_at hl 0 rfl) ?_
      refine vp_callSi (W.runS (As := [.int t]) (rest := []) ⟨hx, hb, hml, hown, hts⟩ (k_X5_continued l t ) (va_cwS 1 hts gX5_placeOf_X5_continued rfl rfl rfl (by decide +kernel) ⟨Nat.le_of_ble_eq_true rfl, Nat.le_of_ble_eq_true rfl⟩) ⟨pS_fb, pS_pre⟩ rfl rfl hl.1 rfl (lv_room (Nat.le_of_ble_eq_true rfl)) dX5_placeOf_27 ⟨Nat.le_of_ble_eq_true rfl, Nat.le_of_ble_eq_true rfl⟩) (fun x27 hx27 => ?_)
      subst hx27
      refine lv_iload_n hx hb dX5_placeOf_30 rfl (lv_at hl 1 rfl) ?_
      refine lv_ishr hx hb dX5_placeOf_31 ?_
      refine lv_iconst (v := 1) hx hb dX5_placeOf_32 (by decide) ?_
      refine lv_iand hx hb dX5_placeOf_33 ?_
      refine lv_if_eq (tgt := 41) hx hb dX5_placeOf_34 (by decide) (fun c_34 => ?_) (fun c_34 => ?_)
      · refine lv_iconst (v := 0) hx hb dX5_placeOf_41 (by decide) ?_
        rw [← hQ]
        exact W.iret (v := 0) hx hb hr (fun t ht hW => ⟨_, rfl, (by simp only [j_X5_placeOf]; (repeat' split) <;> first | rfl | contradiction), ht⟩) (fun _ h => by cases h) dX5_placeOf_42
      · refine lv_iconst (v := 3) hx hb dX5_placeOf_37 (by decide) ?_
        refine lv_goto (tgt := 42) hx hb dX5_placeOf_38 (by decide) ?_
        rw [← hQ]
        exact W.iret (v := 3) hx hb hr (fun t ht hW => ⟨_, rfl, (by simp only [j_X5_placeOf]; (repeat' split) <;> first | rfl | contradiction), ht⟩) (fun _ h => by cases h) dX5_placeOf_42
    · refine lv_iconst (v := 2) hx hb dX5_placeOf_24 (by decide) ?_
      rw [← hQ]
      exact W.iret (v := 2) hx hb hr (fun t ht hW => ⟨_, rfl, (by simp only [j_X5_placeOf]; (repeat' split) <;> first | rfl | contradiction), ht⟩) (fun _ h => by cases h) dX5_placeOf_25
  · refine lv_iconst (v := 1) hx hb dX5_placeOf_11 (by decide) ?_
    rw [← hQ]
    exact W.iret (v := 1) hx hb hr (fun t ht hW => ⟨_, rfl, (by simp only [j_X5_placeOf]; (repeat' split) <;> first | rfl | contradiction), ht⟩) (fun _ h => by cases h) dX5_placeOf_12

set_option maxHeartbeats 4000000 in
set_option maxRecDepth 100000 in
theorem k_X5_canContinue (l : Launch) (st on : Int32)  : Met l yX5_canContinue wsX5_canContinue ({ frames := 0, cells := 0, slots := 0, locals := 0 } : Room) (va_Pc [.int st, .int on] (fun _ => True)) (vp_Si (fun r => r = j_X5_canContinue st on)) 0 0 (fun _ => False) := by
  refine Met.ofW (cc := cX5_canContinue) (maxL := 4) (ret := (some .boolean)) (by decide) rfl ?_
  intro p e s m args below meth c s₁ B hml hv
  obtain ⟨hargs, -⟩ := hv
  have hx := B.exec
  have hb := B.bytes
  have hr := B.returns
  have hlocks := B.notSynchronized
  have hts := atoms_spec (ws := wsX5_canContinue) B.pre
  have hown : s.vm.findClass RX5 = some m.cls := findClass_of_methodNamed B.named
  rw [show entryFrame m args 4 = entryFrame m ([.int st, .int on] : List Value).toArray 4 from by rw [hargs]]
  have hl := lv_entry ([.int st, .int on]) (n := 4) (Nat.le_of_ble_eq_true rfl)
  rw [lg_entry_eq]
  generalize (lg_sl ([.int st, .int on]) ++ List.replicate (4 - (lg_sl ([.int st, .int on])).length) Slot.unset).toArray = ls at hl ⊢
  have hl : lv_has ls 4 [(0, .int st), (1, .int on)] := hl
  refine wQ (fun Q hQ => ?_)
  refine lv_iload_n hx hb dX5_canContinue_0 rfl (lv_at hl 0 rfl) ?_
  refine lv_bipush (v := 15) hx hb dX5_canContinue_1 (by decide) ?_
  refine lv_iand hx hb dX5_canContinue_3 ?_
  refine lv_topi (fun x4 ex4 => ?_)
  refine lv_istore_n (lv' := [(2, .int x4), (0, .int st), (1, .int on)]) hx hb dX5_canContinue_4 rfl hl (by decide) rfl (fun ls hl => ?_)
  refine lv_iload_n hx hb dX5_canContinue_5 rfl (lv_at hl 1 rfl) ?_
  refine lv_iconst (v := 4) hx hb dX5_canContinue_6 (by decide) ?_
  refine lv_ishr hx hb dX5_canContinue_7 ?_
  refine lv_bipush (v := 15) hx hb dX5_canContinue_8 (by decide) ?_
  refine lv_iand hx hb dX5_canContinue_10 ?_
  refine lv_topi (fun x11 ex11 => ?_)
  refine lv_istore_n (lv' := [(3, .int x11), (2, .int x4), (0, .int st), (1, .int on)]) hx hb dX5_canContinue_11 rfl hl (by decide) rfl (fun ls hl => ?_)
  refine lv_iload_n hx hb dX5_canContinue_12 rfl (lv_at hl 1 rfl) ?_
  refine lv_iload_n hx hb dX5_canContinue_13 rfl (lv_at hl 0 rfl) ?_
  refine lv_ixor hx hb dX5_canContinue_14 ?_
  refine lv_iload_n hx hb dX5_canContinue_15 rfl (lv_at hl 3 rfl) ?_
  refine lv_iconst (v := (-1)) hx hb dX5_canContinue_16 (by decide) ?_
  refine lv_ixor hx hb dX5_canContinue_17 ?_
  refine lv_iand hx hb dX5_canContinue_18 ?_
  refine lv_if_ne (tgt := 36) hx hb dX5_canContinue_19 (by decide) (fun c_19 => ?_) (fun c_19 => ?_)
  · refine lv_iconst (v := 0) hx hb dX5_canContinue_36 (by decide) ?_
    rw [← hQ]
    exact W.zret (v := 0) hx hb hr (by first | decide | rfl | assumption) (fun t ht hW => ⟨_, rfl, (by subst_vars; simp only [j_X5_canContinue]; (repeat' split) <;> first | rfl | contradiction), ht⟩) (fun _ h => by cases h) dX5_canContinue_37
  · refine lv_iload_n hx hb dX5_canContinue_22 rfl (lv_at hl 3 rfl) ?_
    refine lv_iload_n hx hb dX5_canContinue_23 rfl (lv_at hl 1 rfl) ?_
    refine lv_iload_n hx hb dX5_canContinue_24 rfl (lv_at hl 0 rfl) ?_
    refine lv_ior hx hb dX5_canContinue_25 ?_
    refine lv_iconst (v := (-1)) hx hb dX5_canContinue_26 (by decide) ?_
    refine lv_ixor hx hb dX5_canContinue_27 ?_
    refine lv_iand hx hb dX5_canContinue_28 ?_
    refine lv_if_ne (tgt := 36) hx hb dX5_canContinue_29 (by decide) (fun c_29 => ?_) (fun c_29 => ?_)
    · refine lv_iconst (v := 0) hx hb dX5_canContinue_36 (by decide) ?_
      rw [← hQ]
      exact W.zret (v := 0) hx hb hr (by first | decide | rfl | assumption) (fun t ht hW => ⟨_, rfl, (by subst_vars; simp only [j_X5_canContinue]; (repeat' split) <;> first | rfl | contradiction), ht⟩) (fun _ h => by cases h) dX5_canContinue_37
    · refine lv_iconst (v := 1) hx hb dX5_canContinue_32 (by decide) ?_
      refine lv_goto (tgt := 37) hx hb dX5_canContinue_33 (by decide) ?_
      rw [← hQ]
      exact W.zret (v := 1) hx hb hr (by first | decide | rfl | assumption) (fun t ht hW => ⟨_, rfl, (by subst_vars; simp only [j_X5_canContinue]; (repeat' split) <;> first | rfl | contradiction), ht⟩) (fun _ h => by cases h) dX5_canContinue_37

set_option maxHeartbeats 4000000 in
set_option maxRecDepth 100000 in
theorem k_X5_stateAfter (l : Launch) (st t : Int32)  : Met l yX5_stateAfter wsX5_stateAfter ({ frames := 1, cells := 0, slots := 0, locals := 20 } : Room) (va_Pc [.int st, .int t] (fun _ => True)) (vp_Si (fun r => r = j_X5_stateAfter st t)) 0 0 (fun _ => False) := by
  refine Met.ofW (cc := cX5_stateAfter) (maxL := 3) (ret := (some .int)) (by decide) rfl ?_
  intro p e s m args below meth c s₁ B hml hv
  obtain ⟨hargs, -⟩ := hv
  have hx := B.exec
  have hb := B.bytes
  have hr := B.returns
  have hlocks := B.notSynchronized
  have hts := atoms_spec (ws := wsX5_stateAfter) B.pre
  have hown : s.vm.findClass RX5 = some m.cls := findClass_of_methodNamed B.named
  have k26 := hts (.methodLink RX5 26 yX5_continued) (by decide +kernel)
  have k23 := hts (.methodLink RX5 23 yX5_begun) (by decide +kernel)
  rw [show entryFrame m args 3 = entryFrame m ([.int st, .int t] : List Value).toArray 3 from by rw [hargs]]
  have hl := lv_entry ([.int st, .int t]) (n := 3) (Nat.le_of_ble_eq_true rfl)
  rw [lg_entry_eq]
  generalize (lg_sl ([.int st, .int t]) ++ List.replicate (3 - (lg_sl ([.int st, .int t])).length) Slot.unset).toArray = ls at hl ⊢
  have hl : lv_has ls 3 [(0, .int st), (1, .int t)] := hl
  refine wQ (fun Q hQ => ?_)
  refine lv_iload_n hx hb dX5_stateAfter_0 rfl (lv_at hl 1 rfl) ?_
  refine vp_callSi (W.runS (As := [.int t]) (rest := []) ⟨hx, hb, hml, hown, hts⟩ (k_X5_continued l t ) (va_cwS 1 hts gX5_stateAfter_X5_continued rfl rfl rfl (by decide +kernel) ⟨Nat.le_of_ble_eq_true rfl, Nat.le_of_ble_eq_true rfl⟩) ⟨pS_fb, pS_pre⟩ rfl rfl hl.1 rfl (lv_room (Nat.le_of_ble_eq_true rfl)) dX5_stateAfter_1 ⟨Nat.le_of_ble_eq_true rfl, Nat.le_of_ble_eq_true rfl⟩) (fun x1 hx1 => ?_)
  subst hx1
  refine lv_topi (fun x4 ex4 => ?_)
  refine lv_istore_n (lv' := [(2, .int x4), (0, .int st), (1, .int t)]) hx hb dX5_stateAfter_4 rfl hl (by decide) rfl (fun ls hl => ?_)
  refine lv_iload_n hx hb dX5_stateAfter_5 rfl (lv_at hl 2 rfl) ?_
  refine vp_callSi (W.runS (As := [.int t]) (rest := []) ⟨hx, hb, hml, hown, hts⟩ (k_X5_begun l t ) (va_cwS 1 hts gX5_stateAfter_X5_begun rfl rfl rfl (by decide +kernel) ⟨Nat.le_of_ble_eq_true rfl, Nat.le_of_ble_eq_true rfl⟩) ⟨pS_fb, pS_pre⟩ rfl rfl hl.1 rfl (lv_room (Nat.le_of_ble_eq_true rfl)) dX5_stateAfter_6 ⟨Nat.le_of_ble_eq_true rfl, Nat.le_of_ble_eq_true rfl⟩) (fun x6 hx6 => ?_)
  subst hx6
  refine lv_iload_n hx hb dX5_stateAfter_9 rfl (lv_at hl 0 rfl) ?_
  refine lv_iload_n hx hb dX5_stateAfter_10 rfl (lv_at hl 1 rfl) ?_
  refine lv_iconst (v := 4) hx hb dX5_stateAfter_11 (by decide) ?_
  refine lv_ishr hx hb dX5_stateAfter_12 ?_
  refine lv_iand hx hb dX5_stateAfter_13 ?_
  refine lv_ior hx hb dX5_stateAfter_14 ?_
  refine lv_iload_n hx hb dX5_stateAfter_15 rfl (lv_at hl 0 rfl) ?_
  refine lv_iconst (v := 4) hx hb dX5_stateAfter_16 (by decide) ?_
  refine lv_ishl hx hb dX5_stateAfter_17 ?_
  refine lv_ior hx hb dX5_stateAfter_18 ?_
  rw [← hQ]
  exact W.iret (v := ((j_X5_begun t) ||| (x4 &&& (st >>> (4 &&& 31)))) ||| (x4 <<< (4 &&& 31))) hx hb hr (fun t ht hW => ⟨_, rfl, (by subst_vars; rfl), ht⟩) (fun _ h => by cases h) dX5_stateAfter_19

set_option maxHeartbeats 4000000 in
set_option maxRecDepth 100000 in
theorem k_X5_mayEnd (l : Launch) (st : Int32)  : Met l yX5_mayEnd wsX5_mayEnd ({ frames := 0, cells := 0, slots := 0, locals := 0 } : Room) (va_Pc [.int st] (fun _ => True)) (vp_Si (fun r => r = j_X5_mayEnd st)) 0 0 (fun _ => False) := by
  refine Met.ofW (cc := cX5_mayEnd) (maxL := 1) (ret := (some .boolean)) (by decide) rfl ?_
  intro p e s m args below meth c s₁ B hml hv
  obtain ⟨hargs, -⟩ := hv
  have hx := B.exec
  have hb := B.bytes
  have hr := B.returns
  have hlocks := B.notSynchronized
  have hts := atoms_spec (ws := wsX5_mayEnd) B.pre
  have hown : s.vm.findClass RX5 = some m.cls := findClass_of_methodNamed B.named
  rw [show entryFrame m args 1 = entryFrame m ([.int st] : List Value).toArray 1 from by rw [hargs]]
  have hl := lv_entry ([.int st]) (n := 1) (Nat.le_of_ble_eq_true rfl)
  rw [lg_entry_eq]
  generalize (lg_sl ([.int st]) ++ List.replicate (1 - (lg_sl ([.int st])).length) Slot.unset).toArray = ls at hl ⊢
  have hl : lv_has ls 1 [(0, .int st)] := hl
  refine wQ (fun Q hQ => ?_)
  refine lv_iload_n hx hb dX5_mayEnd_0 rfl (lv_at hl 0 rfl) ?_
  refine lv_bipush (v := 15) hx hb dX5_mayEnd_1 (by decide) ?_
  refine lv_iand hx hb dX5_mayEnd_3 ?_
  refine lv_iload_n hx hb dX5_mayEnd_4 rfl (lv_at hl 0 rfl) ?_
  refine lv_iconst (v := 4) hx hb dX5_mayEnd_5 (by decide) ?_
  refine lv_ishr hx hb dX5_mayEnd_6 ?_
  refine lv_bipush (v := 15) hx hb dX5_mayEnd_7 (by decide) ?_
  refine lv_iand hx hb dX5_mayEnd_9 ?_
  refine lv_icmp_ne (tgt := 17) hx hb dX5_mayEnd_10 (by decide) (fun c_10 => ?_) (fun c_10 => ?_)
  · refine lv_iconst (v := 0) hx hb dX5_mayEnd_17 (by decide) ?_
    rw [← hQ]
    exact W.zret (v := 0) hx hb hr (by first | decide | rfl | assumption) (fun t ht hW => ⟨_, rfl, (by simp only [j_X5_mayEnd]; (repeat' split) <;> first | rfl | contradiction), ht⟩) (fun _ h => by cases h) dX5_mayEnd_18
  · refine lv_iconst (v := 1) hx hb dX5_mayEnd_13 (by decide) ?_
    refine lv_goto (tgt := 18) hx hb dX5_mayEnd_14 (by decide) ?_
    rw [← hQ]
    exact W.zret (v := 1) hx hb hr (by first | decide | rfl | assumption) (fun t ht hW => ⟨_, rfl, (by simp only [j_X5_mayEnd]; (repeat' split) <;> first | rfl | contradiction), ht⟩) (fun _ h => by cases h) dX5_mayEnd_18

set_option maxHeartbeats 4000000 in
set_option maxRecDepth 100000 in
theorem k_X7_isAim (l : Launch) (aim : Int32)  : Met l yX7_isAim wsX7_isAim ({ frames := 0, cells := 0, slots := 0, locals := 0 } : Room) (va_Pc [.int aim] (fun _ => True)) (vp_Si (fun r => r = j_X7_isAim aim)) 0 0 (fun _ => False) := by
  refine Met.ofW (cc := cX7_isAim) (maxL := 1) (ret := (some .boolean)) (by decide) rfl ?_
  intro p e s m args below meth c s₁ B hml hv
  obtain ⟨hargs, -⟩ := hv
  have hx := B.exec
  have hb := B.bytes
  have hr := B.returns
  have hlocks := B.notSynchronized
  have hts := atoms_spec (ws := wsX7_isAim) B.pre
  have hown : s.vm.findClass RX7 = some m.cls := findClass_of_methodNamed B.named
  rw [show entryFrame m args 1 = entryFrame m ([.int aim] : List Value).toArray 1 from by rw [hargs]]
  have hl := lv_entry ([.int aim]) (n := 1) (Nat.le_of_ble_eq_true rfl)
  rw [lg_entry_eq]
  generalize (lg_sl ([.int aim]) ++ List.replicate (1 - (lg_sl ([.int aim])).length) Slot.unset).toArray = ls at hl ⊢
  have hl : lv_has ls 1 [(0, .int aim)] := hl
  refine wQ (fun Q hQ => ?_)
  refine lv_iload_n hx hb dX7_isAim_0 rfl (lv_at hl 0 rfl) ?_
  refine lv_if_eq (tgt := 9) hx hb dX7_isAim_1 (by decide) (fun c_1 => ?_) (fun c_1 => ?_)
  · refine lv_iconst (v := 1) hx hb dX7_isAim_9 (by decide) ?_
    refine lv_goto (tgt := 14) hx hb dX7_isAim_10 (by decide) ?_
    rw [← hQ]
    exact W.zret (v := 1) hx hb hr (by first | decide | rfl | assumption) (fun t ht hW => ⟨_, rfl, (by simp only [j_X7_isAim]; (repeat' split) <;> first | rfl | contradiction), ht⟩) (fun _ h => by cases h) dX7_isAim_14
  · refine lv_iload_n hx hb dX7_isAim_4 rfl (lv_at hl 0 rfl) ?_
    refine lv_iconst (v := 1) hx hb dX7_isAim_5 (by decide) ?_
    refine lv_icmp_ne (tgt := 13) hx hb dX7_isAim_6 (by decide) (fun c_6 => ?_) (fun c_6 => ?_)
    · refine lv_iconst (v := 0) hx hb dX7_isAim_13 (by decide) ?_
      rw [← hQ]
      exact W.zret (v := 0) hx hb hr (by first | decide | rfl | assumption) (fun t ht hW => ⟨_, rfl, (by simp only [j_X7_isAim]; (repeat' split) <;> first | rfl | contradiction), ht⟩) (fun _ h => by cases h) dX7_isAim_14
    · refine lv_iconst (v := 1) hx hb dX7_isAim_9 (by decide) ?_
      refine lv_goto (tgt := 14) hx hb dX7_isAim_10 (by decide) ?_
      rw [← hQ]
      exact W.zret (v := 1) hx hb hr (by first | decide | rfl | assumption) (fun t ht hW => ⟨_, rfl, (by simp only [j_X7_isAim]; (repeat' split) <;> first | rfl | contradiction), ht⟩) (fun _ h => by cases h) dX7_isAim_14

set_option maxHeartbeats 4000000 in
set_option maxRecDepth 100000 in
theorem k_X3_isCell (l : Launch) (st us : Int32)  : Met l yX3_isCell wsX3_isCell ({ frames := 0, cells := 0, slots := 0, locals := 0 } : Room) (va_Pc [.int st, .int us] (fun _ => True)) (vp_Si (fun r => r = j_X3_isCell st us)) 0 0 (fun _ => False) := by
  refine Met.ofW (cc := cX3_isCell) (maxL := 2) (ret := (some .boolean)) (by decide) rfl ?_
  intro p e s m args below meth c s₁ B hml hv
  obtain ⟨hargs, -⟩ := hv
  have hx := B.exec
  have hb := B.bytes
  have hr := B.returns
  have hlocks := B.notSynchronized
  have hts := atoms_spec (ws := wsX3_isCell) B.pre
  have hown : s.vm.findClass RX3 = some m.cls := findClass_of_methodNamed B.named
  rw [show entryFrame m args 2 = entryFrame m ([.int st, .int us] : List Value).toArray 2 from by rw [hargs]]
  have hl := lv_entry ([.int st, .int us]) (n := 2) (Nat.le_of_ble_eq_true rfl)
  rw [lg_entry_eq]
  generalize (lg_sl ([.int st, .int us]) ++ List.replicate (2 - (lg_sl ([.int st, .int us])).length) Slot.unset).toArray = ls at hl ⊢
  have hl : lv_has ls 2 [(0, .int st), (1, .int us)] := hl
  refine wQ (fun Q hQ => ?_)
  refine lv_iload_n hx hb dX3_isCell_0 rfl (lv_at hl 0 rfl) ?_
  refine lv_if_lt (tgt := 24) hx hb dX3_isCell_1 (by decide) (fun c_1 => ?_) (fun c_1 => ?_)
  · refine lv_iconst (v := 0) hx hb dX3_isCell_24 (by decide) ?_
    rw [← hQ]
    exact W.zret (v := 0) hx hb hr (by first | decide | rfl | assumption) (fun t ht hW => ⟨_, rfl, (by simp only [j_X3_isCell]; (repeat' split) <;> first | rfl | contradiction), ht⟩) (fun _ h => by cases h) dX3_isCell_25
  · refine lv_iload_n hx hb dX3_isCell_4 rfl (lv_at hl 0 rfl) ?_
    refine lv_sipush (v := 256) hx hb dX3_isCell_5 (by decide) ?_
    refine lv_icmp_ge (tgt := 24) hx hb dX3_isCell_8 (by decide) (fun c_8 => ?_) (fun c_8 => ?_)
    · refine lv_iconst (v := 0) hx hb dX3_isCell_24 (by decide) ?_
      rw [← hQ]
      exact W.zret (v := 0) hx hb hr (by first | decide | rfl | assumption) (fun t ht hW => ⟨_, rfl, (by simp only [j_X3_isCell]; (repeat' split) <;> first | rfl | contradiction), ht⟩) (fun _ h => by cases h) dX3_isCell_25
    · refine lv_iload_n hx hb dX3_isCell_11 rfl (lv_at hl 1 rfl) ?_
      refine lv_if_lt (tgt := 24) hx hb dX3_isCell_12 (by decide) (fun c_12 => ?_) (fun c_12 => ?_)
      · refine lv_iconst (v := 0) hx hb dX3_isCell_24 (by decide) ?_
        rw [← hQ]
        exact W.zret (v := 0) hx hb hr (by first | decide | rfl | assumption) (fun t ht hW => ⟨_, rfl, (by simp only [j_X3_isCell]; (repeat' split) <;> first | rfl | contradiction), ht⟩) (fun _ h => by cases h) dX3_isCell_25
      · refine lv_iload_n hx hb dX3_isCell_15 rfl (lv_at hl 1 rfl) ?_
        refine lv_iconst (v := 3) hx hb dX3_isCell_16 (by decide) ?_
        refine lv_icmp_ge (tgt := 24) hx hb dX3_isCell_17 (by decide) (fun c_17 => ?_) (fun c_17 => ?_)
        · refine lv_iconst (v := 0) hx hb dX3_isCell_24 (by decide) ?_
          rw [← hQ]
          exact W.zret (v := 0) hx hb hr (by first | decide | rfl | assumption) (fun t ht hW => ⟨_, rfl, (by simp only [j_X3_isCell]; (repeat' split) <;> first | rfl | contradiction), ht⟩) (fun _ h => by cases h) dX3_isCell_25
        · refine lv_iconst (v := 1) hx hb dX3_isCell_20 (by decide) ?_
          refine lv_goto (tgt := 25) hx hb dX3_isCell_21 (by decide) ?_
          rw [← hQ]
          exact W.zret (v := 1) hx hb hr (by first | decide | rfl | assumption) (fun t ht hW => ⟨_, rfl, (by simp only [j_X3_isCell]; (repeat' split) <;> first | rfl | contradiction), ht⟩) (fun _ h => by cases h) dX3_isCell_25

set_option maxHeartbeats 4000000 in
set_option maxRecDepth 100000 in
theorem k_X1_bitOf (l : Launch) (card : Int32)  : Met l yX1_bitOf wsX1_bitOf ({ frames := 0, cells := 0, slots := 0, locals := 0 } : Room) (va_Pc [.int card] (fun _ => True)) (vp_Sl (fun r => r = j_X1_bitOf card)) 0 0 (fun _ => False) := by
  refine Met.ofW (cc := cX1_bitOf) (maxL := 1) (ret := (some .long)) (by decide) rfl ?_
  intro p e s m args below meth c s₁ B hml hv
  obtain ⟨hargs, -⟩ := hv
  have hx := B.exec
  have hb := B.bytes
  have hr := B.returns
  have hlocks := B.notSynchronized
  have hts := atoms_spec (ws := wsX1_bitOf) B.pre
  have hown : s.vm.findClass RX1 = some m.cls := findClass_of_methodNamed B.named
  rw [show entryFrame m args 1 = entryFrame m ([.int card] : List Value).toArray 1 from by rw [hargs]]
  have hl := lv_entry ([.int card]) (n := 1) (Nat.le_of_ble_eq_true rfl)
  rw [lg_entry_eq]
  generalize (lg_sl ([.int card]) ++ List.replicate (1 - (lg_sl ([.int card])).length) Slot.unset).toArray = ls at hl ⊢
  have hl : lv_has ls 1 [(0, .int card)] := hl
  refine wQ (fun Q hQ => ?_)
  refine lv_iload_n hx hb dX1_bitOf_0 rfl (lv_at hl 0 rfl) ?_
  refine lv_if_lt (tgt := 16) hx hb dX1_bitOf_1 (by decide) (fun c_1 => ?_) (fun c_1 => ?_)
  · refine lv_lconst (v := 0) hx hb dX1_bitOf_16 (by decide) ?_
    rw [← hQ]
    exact W.lret (v := 0) hx hb hr (fun t ht hW => ⟨_, rfl, (by simp only [j_X1_bitOf]; (repeat' split) <;> first | rfl | contradiction), ht⟩) (fun _ h => by cases h) dX1_bitOf_17
  · refine lv_iload_n hx hb dX1_bitOf_4 rfl (lv_at hl 0 rfl) ?_
    refine lv_bipush (v := 54) hx hb dX1_bitOf_5 (by decide) ?_
    refine lv_icmp_ge (tgt := 16) hx hb dX1_bitOf_7 (by decide) (fun c_7 => ?_) (fun c_7 => ?_)
    · refine lv_lconst (v := 0) hx hb dX1_bitOf_16 (by decide) ?_
      rw [← hQ]
      exact W.lret (v := 0) hx hb hr (fun t ht hW => ⟨_, rfl, (by simp only [j_X1_bitOf]; (repeat' split) <;> first | rfl | contradiction), ht⟩) (fun _ h => by cases h) dX1_bitOf_17
    · refine lv_lconst (v := 1) hx hb dX1_bitOf_10 (by decide) ?_
      refine lv_iload_n hx hb dX1_bitOf_11 rfl (lv_at hl 0 rfl) ?_
      refine lv_lshl hx hb dX1_bitOf_12 rfl ?_
      refine lv_goto (tgt := 17) hx hb dX1_bitOf_13 (by decide) ?_
      rw [← hQ]
      exact W.lret (v := 1 <<< (card.toInt64 &&& 63)) hx hb hr (fun t ht hW => ⟨_, rfl, (by simp only [j_X1_bitOf]; (repeat' split) <;> first | rfl | contradiction), ht⟩) (fun _ h => by cases h) dX1_bitOf_17

set_option maxHeartbeats 4000000 in
set_option maxRecDepth 100000 in
theorem k_X5_fromPlaces (l : Launch) (code : Int32)  : Met l yX5_fromPlaces wsX5_fromPlaces ({ frames := 0, cells := 0, slots := 0, locals := 0 } : Room) (va_Pc [.int code] (fun _ => True)) (vp_Si (fun r => r = j_X5_fromPlaces code)) 0 0 (fun _ => False) := by
  refine Met.ofW (cc := cX5_fromPlaces) (maxL := 4) (ret := (some .int)) (by decide) rfl ?_
  intro p e s m args below meth c s₁ B hml hv
  obtain ⟨hargs, -⟩ := hv
  have hx := B.exec
  have hb := B.bytes
  have hr := B.returns
  have hlocks := B.notSynchronized
  have hts := atoms_spec (ws := wsX5_fromPlaces) B.pre
  have hown : s.vm.findClass RX5 = some m.cls := findClass_of_methodNamed B.named
  rw [show entryFrame m args 4 = entryFrame m ([.int code] : List Value).toArray 4 from by rw [hargs]]
  have hl := lv_entry ([.int code]) (n := 4) (Nat.le_of_ble_eq_true rfl)
  rw [lg_entry_eq]
  generalize (lg_sl ([.int code]) ++ List.replicate (4 - (lg_sl ([.int code])).length) Slot.unset).toArray = ls at hl ⊢
  have hl : lv_has ls 4 [(0, .int code)] := hl
  refine wQ (fun Q hQ => ?_)
  have lab4 : ∀ fuel4 : Nat, ∀ (i : Nat) (a : Int32) (x2 : Int32), (h2 : x2 = nI i) → (hi : i ≤ 4) → (ha : a = j_fp code i) → (hfu4 : 4 - i < fuel4) → ∀ ls : Array Slot, lv_has ls 4 [(0, .int code), (1, .int a), (2, .int x2)] → W p l e (headSpec wsX5_fromPlaces ({ frames := 0, cells := 0, slots := 0, locals := 0 } : Room)).room s m args below meth c s.heap [] 0 0 Q (F0 m 4 ls []) := by
    intro fuel4
    induction fuel4 with
    | zero =>
      intro i a x2 h2 hi ha hfu4
      exact absurd hfu4 (Nat.not_lt_zero _)
    | succ fuel4 ih4 =>
      intro i a x2 h2 hi ha hfu4 ls hl
      refine lv_iload_n hx hb dX5_fromPlaces_4 rfl (lv_at hl 2 rfl) ?_
      refine lv_iconst (v := 4) hx hb dX5_fromPlaces_5 (by decide) ?_
      refine lv_icmp_ge (tgt := 48) hx hb dX5_fromPlaces_6 (by decide) (fun c_6 => ?_) (fun c_6 => ?_)
      · have hi4 := hp_ge h2 (by decide : (4 : Int32) = nI 4) hi (by decide) c_6
        refine lv_iload_n hx hb dX5_fromPlaces_48 rfl (lv_at hl 1 rfl) ?_
        rw [← hQ]
        exact W.iret (v := a) hx hb hr (fun t ht hW => ⟨_, rfl, (by subst hi4; exact ha), ht⟩) (fun _ h => by cases h) dX5_fromPlaces_49
      · have hlt := hp_lt h2 (by decide : (4 : Int32) = nI 4) hi (by decide) c_6
        refine lv_iload_n hx hb dX5_fromPlaces_9 rfl (lv_at hl 0 rfl) ?_
        refine lv_iconst (v := 2) hx hb dX5_fromPlaces_10 (by decide) ?_
        refine lv_iconst (v := 3) hx hb dX5_fromPlaces_11 (by decide) ?_
        refine lv_iload_n hx hb dX5_fromPlaces_12 rfl (lv_at hl 2 rfl) ?_
        refine lv_isub hx hb dX5_fromPlaces_13 ?_
        refine lv_imul hx hb dX5_fromPlaces_14 ?_
        refine lv_ishr hx hb dX5_fromPlaces_15 ?_
        refine lv_iconst (v := 3) hx hb dX5_fromPlaces_16 (by decide) ?_
        refine lv_iand hx hb dX5_fromPlaces_17 ?_
        refine lv_topi (fun x18 ex18 => ?_)
        refine lv_istore_n (lv' := [(3, .int x18), (0, .int code), (1, .int a), (2, .int x2)]) hx hb dX5_fromPlaces_18 rfl hl (by decide) rfl (fun ls hl => ?_)
        refine lv_iload_n hx hb dX5_fromPlaces_19 rfl (lv_at hl 0 rfl) ?_
        refine lv_if_eq (tgt := 42) hx hb dX5_fromPlaces_20 (by decide) (fun c_20 => ?_) (fun c_20 => ?_)
        · obtain ⟨x42, ex42⟩ : ∃ y : Int32, y = x2 + 1 := ⟨_, rfl⟩
          refine lv_iinc (v := x42) (lv' := [(2, .int x42), (3, .int x18), (0, .int code), (1, .int a)]) hx hb dX5_fromPlaces_42 hl (k := 3) rfl (by rw [ex42]; rfl) (by decide) rfl (fun ls hl => ?_)
          refine lv_goto (tgt := 4) hx hb dX5_fromPlaces_45 (by decide) ?_
          exact ih4 (i + 1) a x42 (hp_s (by assumption) h2) (by omega) (by subst ex18; subst ha; subst h2; (try subst ex41); simp only [j_fp]; split <;> first | rfl | contradiction) (by omega) ls (lv_sub hl [2, 3, 0] rfl)
        · refine lv_iload_n hx hb dX5_fromPlaces_23 rfl (lv_at hl 2 rfl) ?_
          refine lv_iconst (v := 1) hx hb dX5_fromPlaces_24 (by decide) ?_
          refine lv_iconst (v := 4) hx hb dX5_fromPlaces_25 (by decide) ?_
          refine lv_iload_n hx hb dX5_fromPlaces_26 rfl (lv_at hl 0 rfl) ?_
          refine lv_iconst (v := 1) hx hb dX5_fromPlaces_27 (by decide) ?_
          refine lv_isub hx hb dX5_fromPlaces_28 ?_
          refine lv_imul hx hb dX5_fromPlaces_29 ?_
          refine lv_iload_n hx hb dX5_fromPlaces_30 rfl (lv_at hl 3 rfl) ?_
          refine lv_iadd hx hb dX5_fromPlaces_31 ?_
          refine lv_ishl hx hb dX5_fromPlaces_32 ?_
          refine lv_iconst (v := 1) hx hb dX5_fromPlaces_33 (by decide) ?_
          refine lv_bipush (v := 12) hx hb dX5_fromPlaces_34 (by decide) ?_
          refine lv_iload_n hx hb dX5_fromPlaces_36 rfl (lv_at hl 3 rfl) ?_
          refine lv_iadd hx hb dX5_fromPlaces_37 ?_
          refine lv_ishl hx hb dX5_fromPlaces_38 ?_
          refine lv_ior hx hb dX5_fromPlaces_39 ?_
          refine lv_ior hx hb dX5_fromPlaces_40 ?_
          refine lv_topi (fun x41 ex41 => ?_)
          refine lv_istore_n (lv' := [(1, .int x41), (3, .int x18), (0, .int code), (2, .int x2)]) hx hb dX5_fromPlaces_41 rfl hl (by decide) rfl (fun ls hl => ?_)
          obtain ⟨x42, ex42⟩ : ∃ y : Int32, y = x2 + 1 := ⟨_, rfl⟩
          refine lv_iinc (v := x42) (lv' := [(2, .int x42), (1, .int x41), (3, .int x18), (0, .int code)]) hx hb dX5_fromPlaces_42 hl (k := 3) rfl (by rw [ex42]; rfl) (by decide) rfl (fun ls hl => ?_)
          refine lv_goto (tgt := 4) hx hb dX5_fromPlaces_45 (by decide) ?_
          exact ih4 (i + 1) x41 x42 (hp_s (by assumption) h2) (by omega) (by subst ex18; subst ha; subst h2; (try subst ex41); simp only [j_fp]; split <;> first | rfl | contradiction) (by omega) ls (lv_sub hl [3, 1, 0] rfl)
  refine lv_iconst (v := 0) hx hb dX5_fromPlaces_0 (by decide) ?_
  refine lv_istore_n (lv' := [(1, .int 0), (0, .int code)]) hx hb dX5_fromPlaces_1 rfl hl (by decide) rfl (fun ls hl => ?_)
  refine lv_iconst (v := 0) hx hb dX5_fromPlaces_2 (by decide) ?_
  refine lv_istore_n (lv' := [(2, .int 0), (1, .int 0), (0, .int code)]) hx hb dX5_fromPlaces_3 rfl hl (by decide) rfl (fun ls hl => ?_)
  exact lab4 _ 0 0 0 (nI_0.symm) (by omega) (rfl) (Nat.lt_succ_self _) ls (lv_sub hl [2, 1, 0] rfl)

set_option maxHeartbeats 4000000 in
set_option maxRecDepth 100000 in
theorem k_X6_withoutLast (l : Launch) (col : Int32)  : Met l yX6_withoutLast wsX6_withoutLast ({ frames := 0, cells := 0, slots := 0, locals := 0 } : Room) (va_Pc [.int col] (fun _ => True)) (vp_Si (fun r => r = j_X6_withoutLast col)) 0 0 (fun _ => False) := by
  refine Met.ofW (cc := cX6_withoutLast) (maxL := 2) (ret := (some .int)) (by decide) rfl ?_
  intro p e s m args below meth c s₁ B hml hv
  obtain ⟨hargs, -⟩ := hv
  have hx := B.exec
  have hb := B.bytes
  have hr := B.returns
  have hlocks := B.notSynchronized
  have hts := atoms_spec (ws := wsX6_withoutLast) B.pre
  have hown : s.vm.findClass RX6 = some m.cls := findClass_of_methodNamed B.named
  rw [show entryFrame m args 2 = entryFrame m ([.int col] : List Value).toArray 2 from by rw [hargs]]
  have hl := lv_entry ([.int col]) (n := 2) (Nat.le_of_ble_eq_true rfl)
  rw [lg_entry_eq]
  generalize (lg_sl ([.int col]) ++ List.replicate (2 - (lg_sl ([.int col])).length) Slot.unset).toArray = ls at hl ⊢
  have hl : lv_has ls 2 [(0, .int col)] := hl
  refine wQ (fun Q hQ => ?_)
  have lab2 : ∀ fuel2 : Nat, ∀ (i : Nat) (x1 : Int32), (h1 : x1 = nI i - 1) → (hi : i ≤ 4) → (ha : j_X6_withoutLast col = j_wl col i) → (hfu2 : i < fuel2) → ∀ ls : Array Slot, lv_has ls 2 [(0, .int col), (1, .int x1)] → W p l e (headSpec wsX6_withoutLast ({ frames := 0, cells := 0, slots := 0, locals := 0 } : Room)).room s m args below meth c s.heap [] 0 0 Q (F0 m 2 ls []) := by
    intro fuel2
    induction fuel2 with
    | zero =>
      intro i x1 h1 hi ha hfu2
      exact absurd hfu2 (Nat.not_lt_zero _)
    | succ fuel2 ih2 =>
      intro i x1 h1 hi ha hfu2 ls hl
      refine lv_iload_n hx hb dX6_withoutLast_2 rfl (lv_at hl 1 rfl) ?_
      refine lv_if_lt (tgt := 28) hx hb dX6_withoutLast_3 (by decide) (fun c_3 => ?_) (fun c_3 => ?_)
      · have hi0 : i = 0 := hp_m1 h1 hi c_3
        refine lv_iconst (v := 0) hx hb dX6_withoutLast_28 (by decide) ?_
        rw [← hQ]
        exact W.iret (v := 0) hx hb hr (fun t ht hW => ⟨_, rfl, (by subst hi0; exact ha.symm), ht⟩) (fun _ h => by cases h) dX6_withoutLast_29
      · have hi0 : 0 < i := hp_m1p h1 hi c_3
        refine lv_iload_n hx hb dX6_withoutLast_6 rfl (lv_at hl 0 rfl) ?_
        refine lv_iload_n hx hb dX6_withoutLast_7 rfl (lv_at hl 1 rfl) ?_
        refine lv_ishr hx hb dX6_withoutLast_8 ?_
        refine lv_iconst (v := 1) hx hb dX6_withoutLast_9 (by decide) ?_
        refine lv_iand hx hb dX6_withoutLast_10 ?_
        refine lv_if_eq (tgt := 22) hx hb dX6_withoutLast_11 (by decide) (fun c_11 => ?_) (fun c_11 => ?_)
        · obtain ⟨x22, ex22⟩ : ∃ y : Int32, y = x1 + (-1) := ⟨_, rfl⟩
          refine lv_iinc (v := x22) (lv' := [(1, .int x22), (0, .int col)]) hx hb dX6_withoutLast_22 hl (k := 1) rfl (by rw [ex22]; rfl) (by decide) rfl (fun ls hl => ?_)
          refine lv_goto (tgt := 2) hx hb dX6_withoutLast_25 (by decide) ?_
          exact ih2 (i - 1) x22 (by subst_vars; exact hp_wl hi0) (by omega) (by rw [ha]; exact hp_wl2 hi0 h1 c_11) (by omega) ls (lv_sub hl [1, 0] rfl)
        · refine lv_iload_n hx hb dX6_withoutLast_14 rfl (lv_at hl 0 rfl) ?_
          refine lv_iconst (v := 1) hx hb dX6_withoutLast_15 (by decide) ?_
          refine lv_iload_n hx hb dX6_withoutLast_16 rfl (lv_at hl 1 rfl) ?_
          refine lv_ishl hx hb dX6_withoutLast_17 ?_
          refine lv_iconst (v := (-1)) hx hb dX6_withoutLast_18 (by decide) ?_
          refine lv_ixor hx hb dX6_withoutLast_19 ?_
          refine lv_iand hx hb dX6_withoutLast_20 ?_
          rw [← hQ]
          exact W.iret (v := col &&& ((1 <<< (x1 &&& 31)) ^^^ (-1))) hx hb hr (fun t ht hW => ⟨_, rfl, (by rw [ha]; exact hp_wl3 hi0 h1 c_11), ht⟩) (fun _ h => by cases h) dX6_withoutLast_21
  refine lv_iconst (v := 3) hx hb dX6_withoutLast_0 (by decide) ?_
  refine lv_istore_n (lv' := [(1, .int 3), (0, .int col)]) hx hb dX6_withoutLast_1 rfl hl (by decide) rfl (fun ls hl => ?_)
  exact lab2 _ 4 3 (by decide) (by omega) (rfl) (Nat.lt_succ_self _) ls (lv_sub hl [1, 0] rfl)

set_option maxHeartbeats 4000000 in
set_option maxRecDepth 100000 in
theorem k_X8_isSet (l : Launch) (x : Int64)  : Met l yX8_isSet wsX8_isSet ({ frames := 0, cells := 0, slots := 0, locals := 0 } : Room) (va_Pc [.long x] (fun _ => True)) (vp_Si (fun r => r = j_X8_isSet x)) 0 0 (fun _ => False) := by
  refine Met.ofW (cc := cX8_isSet) (maxL := 2) (ret := (some .boolean)) (by decide) rfl ?_
  intro p e s m args below meth c s₁ B hml hv
  obtain ⟨hargs, -⟩ := hv
  have hx := B.exec
  have hb := B.bytes
  have hr := B.returns
  have hlocks := B.notSynchronized
  have hts := atoms_spec (ws := wsX8_isSet) B.pre
  have hown : s.vm.findClass RX8 = some m.cls := findClass_of_methodNamed B.named
  have k53 := hts (.constantLong RX8 53 (18014398509481983)) (by decide +kernel)
  rw [show entryFrame m args 2 = entryFrame m ([.long x] : List Value).toArray 2 from by rw [hargs]]
  have hl := lv_entry ([.long x]) (n := 2) (Nat.le_of_ble_eq_true rfl)
  rw [lg_entry_eq]
  generalize (lg_sl ([.long x]) ++ List.replicate (2 - (lg_sl ([.long x])).length) Slot.unset).toArray = ls at hl ⊢
  have hl : lv_has ls 2 [(0, .long x)] := hl
  refine wQ (fun Q hQ => ?_)
  refine lv_lload_n hx hb dX8_isSet_0 rfl (lv_at hl 0 rfl) ?_
  refine lv_lconst (v := 0) hx hb dX8_isSet_1 (by decide) ?_
  refine W.lcmp hx hb dX8_isSet_2 ?_
  refine lv_if_lt (tgt := 18) hx hb dX8_isSet_3 (by decide) (fun c_3 => ?_) (fun c_3 => ?_)
  · refine lv_iconst (v := 0) hx hb dX8_isSet_18 (by decide) ?_
    rw [← hQ]
    exact W.zret (v := 0) hx hb hr (by first | decide | rfl | assumption) (fun t ht hW => ⟨_, rfl, (by simp only [j_X8_isSet]; (repeat' split) <;> first | rfl | contradiction), ht⟩) (fun _ h => by cases h) dX8_isSet_19
  · refine lv_lload_n hx hb dX8_isSet_6 rfl (lv_at hl 0 rfl) ?_
    refine lv_ldc2 hx hb hown k53 dX8_isSet_7 ?_
    refine W.lcmp hx hb dX8_isSet_10 ?_
    refine lv_if_gt (tgt := 18) hx hb dX8_isSet_11 (by decide) (fun c_11 => ?_) (fun c_11 => ?_)
    · refine lv_iconst (v := 0) hx hb dX8_isSet_18 (by decide) ?_
      rw [← hQ]
      exact W.zret (v := 0) hx hb hr (by first | decide | rfl | assumption) (fun t ht hW => ⟨_, rfl, (by simp only [j_X8_isSet]; (repeat' split) <;> first | rfl | contradiction), ht⟩) (fun _ h => by cases h) dX8_isSet_19
    · refine lv_iconst (v := 1) hx hb dX8_isSet_14 (by decide) ?_
      refine lv_goto (tgt := 19) hx hb dX8_isSet_15 (by decide) ?_
      rw [← hQ]
      exact W.zret (v := 1) hx hb hr (by first | decide | rfl | assumption) (fun t ht hW => ⟨_, rfl, (by simp only [j_X8_isSet]; (repeat' split) <;> first | rfl | contradiction), ht⟩) (fun _ h => by cases h) dX8_isSet_19

set_option maxHeartbeats 4000000 in
set_option maxRecDepth 100000 in
theorem k_X8_has (l : Launch) (x : Int64) (card : Int32)  : Met l yX8_has wsX8_has ({ frames := 0, cells := 0, slots := 0, locals := 0 } : Room) (va_Pc [.long x, .int card] (fun _ => True)) (vp_Si (fun r => r = j_X8_has x card)) 0 0 (fun _ => False) := by
  refine Met.ofW (cc := cX8_has) (maxL := 3) (ret := (some .boolean)) (by decide) rfl ?_
  intro p e s m args below meth c s₁ B hml hv
  obtain ⟨hargs, -⟩ := hv
  have hx := B.exec
  have hb := B.bytes
  have hr := B.returns
  have hlocks := B.notSynchronized
  have hts := atoms_spec (ws := wsX8_has) B.pre
  have hown : s.vm.findClass RX8 = some m.cls := findClass_of_methodNamed B.named
  rw [show entryFrame m args 3 = entryFrame m ([.long x, .int card] : List Value).toArray 3 from by rw [hargs]]
  have hl := lv_entry ([.long x, .int card]) (n := 3) (Nat.le_of_ble_eq_true rfl)
  rw [lg_entry_eq]
  generalize (lg_sl ([.long x, .int card]) ++ List.replicate (3 - (lg_sl ([.long x, .int card])).length) Slot.unset).toArray = ls at hl ⊢
  have hl : lv_has ls 3 [(0, .long x), (2, .int card)] := hl
  refine wQ (fun Q hQ => ?_)
  refine lv_lload_n hx hb dX8_has_0 rfl (lv_at hl 0 rfl) ?_
  refine lv_iload_n hx hb dX8_has_1 rfl (lv_at hl 1 rfl) ?_
  refine lv_lshr hx hb dX8_has_2 rfl ?_
  refine lv_lconst (v := 1) hx hb dX8_has_3 (by decide) ?_
  refine lv_land hx hb dX8_has_4 ?_
  refine lv_lconst (v := 1) hx hb dX8_has_5 (by decide) ?_
  refine W.lcmp hx hb dX8_has_6 ?_
  refine lv_if_ne (tgt := 14) hx hb dX8_has_7 (by decide) (fun c_7 => ?_) (fun c_7 => ?_)
  · refine lv_iconst (v := 0) hx hb dX8_has_14 (by decide) ?_
    rw [← hQ]
    exact W.zret (v := 0) hx hb hr (by first | decide | rfl | assumption) (fun t ht hW => ⟨_, rfl, (by simp only [j_X8_has]; (repeat' split) <;> first | rfl | contradiction), ht⟩) (fun _ h => by cases h) dX8_has_15
  · refine lv_iconst (v := 1) hx hb dX8_has_10 (by decide) ?_
    refine lv_goto (tgt := 15) hx hb dX8_has_11 (by decide) ?_
    rw [← hQ]
    exact W.zret (v := 1) hx hb hr (by first | decide | rfl | assumption) (fun t ht hW => ⟨_, rfl, (by simp only [j_X8_has]; (repeat' split) <;> first | rfl | contradiction), ht⟩) (fun _ h => by cases h) dX8_has_15

set_option maxHeartbeats 4000000 in
set_option maxRecDepth 100000 in
theorem k_X8_jokersOf (l : Launch) (x : Int64)  : Met l yX8_jokersOf wsX8_jokersOf ({ frames := 0, cells := 0, slots := 0, locals := 0 } : Room) (va_Pc [.long x] (fun _ => True)) (vp_Si (fun r => r = j_X8_jokersOf x)) 0 0 (fun _ => False) := by
  refine Met.ofW (cc := cX8_jokersOf) (maxL := 2) (ret := (some .int)) (by decide) rfl ?_
  intro p e s m args below meth c s₁ B hml hv
  obtain ⟨hargs, -⟩ := hv
  have hx := B.exec
  have hb := B.bytes
  have hr := B.returns
  have hlocks := B.notSynchronized
  have hts := atoms_spec (ws := wsX8_jokersOf) B.pre
  have hown : s.vm.findClass RX8 = some m.cls := findClass_of_methodNamed B.named
  rw [show entryFrame m args 2 = entryFrame m ([.long x] : List Value).toArray 2 from by rw [hargs]]
  have hl := lv_entry ([.long x]) (n := 2) (Nat.le_of_ble_eq_true rfl)
  rw [lg_entry_eq]
  generalize (lg_sl ([.long x]) ++ List.replicate (2 - (lg_sl ([.long x])).length) Slot.unset).toArray = ls at hl ⊢
  have hl : lv_has ls 2 [(0, .long x)] := hl
  refine wQ (fun Q hQ => ?_)
  refine lv_lload_n hx hb dX8_jokersOf_0 rfl (lv_at hl 0 rfl) ?_
  refine lv_bipush (v := 52) hx hb dX8_jokersOf_1 (by decide) ?_
  refine lv_lshr hx hb dX8_jokersOf_3 rfl ?_
  refine lv_lconst (v := 1) hx hb dX8_jokersOf_4 (by decide) ?_
  refine lv_land hx hb dX8_jokersOf_5 ?_
  refine lv_l2i hx hb dX8_jokersOf_6 rfl ?_
  refine lv_lload_n hx hb dX8_jokersOf_7 rfl (lv_at hl 0 rfl) ?_
  refine lv_bipush (v := 53) hx hb dX8_jokersOf_8 (by decide) ?_
  refine lv_lshr hx hb dX8_jokersOf_10 rfl ?_
  refine lv_lconst (v := 1) hx hb dX8_jokersOf_11 (by decide) ?_
  refine lv_land hx hb dX8_jokersOf_12 ?_
  refine lv_l2i hx hb dX8_jokersOf_13 rfl ?_
  refine lv_iadd hx hb dX8_jokersOf_14 ?_
  rw [← hQ]
  exact W.iret (v := (((x >>> ((52 : Int32).toInt64 &&& 63)) &&& 1).toInt32) + (((x >>> ((53 : Int32).toInt64 &&& 63)) &&& 1).toInt32)) hx hb hr (fun t ht hW => ⟨_, rfl, rfl, ht⟩) (fun _ h => by cases h) dX8_jokersOf_15

set_option maxHeartbeats 4000000 in
set_option maxRecDepth 100000 in
theorem k_X8_worthOf (l : Launch) (card : Int32)  : Met l yX8_worthOf wsX8_worthOf ({ frames := 0, cells := 0, slots := 0, locals := 0 } : Room) (va_Pc [.int card] (fun _ => True)) (vp_Si (fun r => r = j_X8_worthOf card)) 0 0 (fun _ => False) := by
  refine Met.ofW (cc := cX8_worthOf) (maxL := 1) (ret := (some .int)) (by decide) rfl ?_
  intro p e s m args below meth c s₁ B hml hv
  obtain ⟨hargs, -⟩ := hv
  have hx := B.exec
  have hb := B.bytes
  have hr := B.returns
  have hlocks := B.notSynchronized
  have hts := atoms_spec (ws := wsX8_worthOf) B.pre
  have hown : s.vm.findClass RX8 = some m.cls := findClass_of_methodNamed B.named
  rw [show entryFrame m args 1 = entryFrame m ([.int card] : List Value).toArray 1 from by rw [hargs]]
  have hl := lv_entry ([.int card]) (n := 1) (Nat.le_of_ble_eq_true rfl)
  rw [lg_entry_eq]
  generalize (lg_sl ([.int card]) ++ List.replicate (1 - (lg_sl ([.int card])).length) Slot.unset).toArray = ls at hl ⊢
  have hl : lv_has ls 1 [(0, .int card)] := hl
  refine wQ (fun Q hQ => ?_)
  refine lv_iload_n hx hb dX8_worthOf_0 rfl (lv_at hl 0 rfl) ?_
  refine lv_bipush (v := 51) hx hb dX8_worthOf_1 (by decide) ?_
  refine lv_icmp_le (tgt := 11) hx hb dX8_worthOf_3 (by decide) (fun c_3 => ?_) (fun c_3 => ?_)
  · refine lv_iload_n hx hb dX8_worthOf_11 rfl (lv_at hl 0 rfl) ?_
    refine lv_iconst (v := 4) hx hb dX8_worthOf_12 (by decide) ?_
    refine lv_idiv hx hb dX8_worthOf_13 (by decide) ?_
    refine lv_bipush (v := 8) hx hb dX8_worthOf_14 (by decide) ?_
    refine lv_icmp_le (tgt := 24) hx hb dX8_worthOf_16 (by decide) (fun c_16 => ?_) (fun c_16 => ?_)
    · refine lv_iload_n hx hb dX8_worthOf_24 rfl (lv_at hl 0 rfl) ?_
      refine lv_iconst (v := 4) hx hb dX8_worthOf_25 (by decide) ?_
      refine lv_idiv hx hb dX8_worthOf_26 (by decide) ?_
      refine lv_iconst (v := 1) hx hb dX8_worthOf_27 (by decide) ?_
      refine lv_iadd hx hb dX8_worthOf_28 ?_
      rw [← hQ]
      exact W.iret (v := (card / 4) + 1) hx hb hr (fun t ht hW => ⟨_, rfl, (by simp only [j_X8_worthOf]; (repeat' split) <;> first | rfl | contradiction), ht⟩) (fun _ h => by cases h) dX8_worthOf_29
    · refine lv_bipush (v := 10) hx hb dX8_worthOf_19 (by decide) ?_
      refine lv_goto (tgt := 29) hx hb dX8_worthOf_21 (by decide) ?_
      rw [← hQ]
      exact W.iret (v := 10) hx hb hr (fun t ht hW => ⟨_, rfl, (by simp only [j_X8_worthOf]; (repeat' split) <;> first | rfl | contradiction), ht⟩) (fun _ h => by cases h) dX8_worthOf_29
  · refine lv_bipush (v := 20) hx hb dX8_worthOf_6 (by decide) ?_
    refine lv_goto (tgt := 29) hx hb dX8_worthOf_8 (by decide) ?_
    rw [← hQ]
    exact W.iret (v := 20) hx hb hr (fun t ht hW => ⟨_, rfl, (by simp only [j_X8_worthOf]; (repeat' split) <;> first | rfl | contradiction), ht⟩) (fun _ h => by cases h) dX8_worthOf_29

set_option maxHeartbeats 4000000 in
set_option maxRecDepth 100000 in
theorem k_X8_run (l : Launch) (mk col : Int32)  : Met l yX8_run wsX8_run ({ frames := 0, cells := 0, slots := 0, locals := 0 } : Room) (va_Pc [.int mk, .int col] (fun _ => True)) (vp_Si (fun r => r = j_X8_run mk col)) 0 0 (fun _ => False) := by
  refine Met.ofW (cc := cX8_run) (maxL := 2) (ret := (some .int)) (by decide) rfl ?_
  intro p e s m args below meth c s₁ B hml hv
  obtain ⟨hargs, -⟩ := hv
  have hx := B.exec
  have hb := B.bytes
  have hr := B.returns
  have hlocks := B.notSynchronized
  have hts := atoms_spec (ws := wsX8_run) B.pre
  have hown : s.vm.findClass RX8 = some m.cls := findClass_of_methodNamed B.named
  rw [show entryFrame m args 2 = entryFrame m ([.int mk, .int col] : List Value).toArray 2 from by rw [hargs]]
  have hl := lv_entry ([.int mk, .int col]) (n := 2) (Nat.le_of_ble_eq_true rfl)
  rw [lg_entry_eq]
  generalize (lg_sl ([.int mk, .int col]) ++ List.replicate (2 - (lg_sl ([.int mk, .int col])).length) Slot.unset).toArray = ls at hl ⊢
  have hl : lv_has ls 2 [(0, .int mk), (1, .int col)] := hl
  refine wQ (fun Q hQ => ?_)
  refine lv_iload_n hx hb dX8_run_0 rfl (lv_at hl 0 rfl) ?_
  refine lv_bipush (v := 15) hx hb dX8_run_1 (by decide) ?_
  refine lv_idiv hx hb dX8_run_3 (by decide) ?_
  refine lv_iconst (v := 2) hx hb dX8_run_4 (by decide) ?_
  refine lv_iload_n hx hb dX8_run_5 rfl (lv_at hl 1 rfl) ?_
  refine lv_imul hx hb dX8_run_6 ?_
  refine lv_ishr hx hb dX8_run_7 ?_
  refine lv_iconst (v := 3) hx hb dX8_run_8 (by decide) ?_
  refine lv_iand hx hb dX8_run_9 ?_
  rw [← hQ]
  exact W.iret (v := ((mk / 15) >>> ((2 * col) &&& 31)) &&& 3) hx hb hr (fun t ht hW => ⟨_, rfl, rfl, ht⟩) (fun _ h => by cases h) dX8_run_10

set_option maxHeartbeats 4000000 in
set_option maxRecDepth 100000 in
theorem k_X8_inGroup (l : Launch) (mk : Int32)  : Met l yX8_inGroup wsX8_inGroup ({ frames := 0, cells := 0, slots := 0, locals := 0 } : Room) (va_Pc [.int mk] (fun _ => True)) (vp_Si (fun r => r = j_X8_inGroup mk)) 0 0 (fun _ => False) := by
  refine Met.ofW (cc := cX8_inGroup) (maxL := 1) (ret := (some .int)) (by decide) rfl ?_
  intro p e s m args below meth c s₁ B hml hv
  obtain ⟨hargs, -⟩ := hv
  have hx := B.exec
  have hb := B.bytes
  have hr := B.returns
  have hlocks := B.notSynchronized
  have hts := atoms_spec (ws := wsX8_inGroup) B.pre
  have hown : s.vm.findClass RX8 = some m.cls := findClass_of_methodNamed B.named
  rw [show entryFrame m args 1 = entryFrame m ([.int mk] : List Value).toArray 1 from by rw [hargs]]
  have hl := lv_entry ([.int mk]) (n := 1) (Nat.le_of_ble_eq_true rfl)
  rw [lg_entry_eq]
  generalize (lg_sl ([.int mk]) ++ List.replicate (1 - (lg_sl ([.int mk])).length) Slot.unset).toArray = ls at hl ⊢
  have hl : lv_has ls 1 [(0, .int mk)] := hl
  refine wQ (fun Q hQ => ?_)
  refine lv_iload_n hx hb dX8_inGroup_0 rfl (lv_at hl 0 rfl) ?_
  refine lv_iconst (v := 3) hx hb dX8_inGroup_1 (by decide) ?_
  refine lv_idiv hx hb dX8_inGroup_2 (by decide) ?_
  refine lv_iconst (v := 5) hx hb dX8_inGroup_3 (by decide) ?_
  refine lv_irem hx hb dX8_inGroup_4 (by decide) ?_
  rw [← hQ]
  exact W.iret (v := (mk / 3) - (mk / 3) / 5 * 5) hx hb hr (fun t ht hW => ⟨_, rfl, rfl, ht⟩) (fun _ h => by cases h) dX8_inGroup_5

set_option maxHeartbeats 4000000 in
set_option maxRecDepth 100000 in
theorem k_X8_jokers (l : Launch) (mk : Int32)  : Met l yX8_jokers wsX8_jokers ({ frames := 0, cells := 0, slots := 0, locals := 0 } : Room) (va_Pc [.int mk] (fun _ => True)) (vp_Si (fun r => r = j_X8_jokers mk)) 0 0 (fun _ => False) := by
  refine Met.ofW (cc := cX8_jokers) (maxL := 1) (ret := (some .int)) (by decide) rfl ?_
  intro p e s m args below meth c s₁ B hml hv
  obtain ⟨hargs, -⟩ := hv
  have hx := B.exec
  have hb := B.bytes
  have hr := B.returns
  have hlocks := B.notSynchronized
  have hts := atoms_spec (ws := wsX8_jokers) B.pre
  have hown : s.vm.findClass RX8 = some m.cls := findClass_of_methodNamed B.named
  rw [show entryFrame m args 1 = entryFrame m ([.int mk] : List Value).toArray 1 from by rw [hargs]]
  have hl := lv_entry ([.int mk]) (n := 1) (Nat.le_of_ble_eq_true rfl)
  rw [lg_entry_eq]
  generalize (lg_sl ([.int mk]) ++ List.replicate (1 - (lg_sl ([.int mk])).length) Slot.unset).toArray = ls at hl ⊢
  have hl : lv_has ls 1 [(0, .int mk)] := hl
  refine wQ (fun Q hQ => ?_)
  refine lv_iload_n hx hb dX8_jokers_0 rfl (lv_at hl 0 rfl) ?_
  refine lv_iconst (v := 3) hx hb dX8_jokers_1 (by decide) ?_
  refine lv_irem hx hb dX8_jokers_2 (by decide) ?_
  rw [← hQ]
  exact W.iret (v := mk - mk / 3 * 3) hx hb hr (fun t ht hW => ⟨_, rfl, rfl, ht⟩) (fun _ h => by cases h) dX8_jokers_3

set_option maxHeartbeats 4000000 in
set_option maxRecDepth 100000 in
theorem k_X8_gain (l : Launch) (card aim : Int32)  : Met l yX8_gain wsX8_gain ({ frames := 1, cells := 0, slots := 0, locals := 20 } : Room) (va_Pc [.int card, .int aim] (fun _ => True)) (vp_Si (fun r => r = j_X8_gain card aim)) 0 0 (fun _ => False) := by
  refine Met.ofW (cc := cX8_gain) (maxL := 2) (ret := (some .int)) (by decide) rfl ?_
  intro p e s m args below meth c s₁ B hml hv
  obtain ⟨hargs, -⟩ := hv
  have hx := B.exec
  have hb := B.bytes
  have hr := B.returns
  have hlocks := B.notSynchronized
  have hts := atoms_spec (ws := wsX8_gain) B.pre
  have hown : s.vm.findClass RX8 = some m.cls := findClass_of_methodNamed B.named
  have k59 := hts (.methodLink RX8 59 yX8_worthOf) (by decide +kernel)
  rw [show entryFrame m args 2 = entryFrame m ([.int card, .int aim] : List Value).toArray 2 from by rw [hargs]]
  have hl := lv_entry ([.int card, .int aim]) (n := 2) (Nat.le_of_ble_eq_true rfl)
  rw [lg_entry_eq]
  generalize (lg_sl ([.int card, .int aim]) ++ List.replicate (2 - (lg_sl ([.int card, .int aim])).length) Slot.unset).toArray = ls at hl ⊢
  have hl : lv_has ls 2 [(0, .int card), (1, .int aim)] := hl
  refine wQ (fun Q hQ => ?_)
  refine lv_iload_n hx hb dX8_gain_0 rfl (lv_at hl 1 rfl) ?_
  refine lv_if_ne (tgt := 8) hx hb dX8_gain_1 (by decide) (fun c_1 => ?_) (fun c_1 => ?_)
  · refine lv_iload_n hx hb dX8_gain_8 rfl (lv_at hl 0 rfl) ?_
    refine vp_callSi (W.runS (As := [.int card]) (rest := []) ⟨hx, hb, hml, hown, hts⟩ (k_X8_worthOf l card ) (va_cwS 1 hts gX8_gain_X8_worthOf rfl rfl rfl (by decide +kernel) ⟨Nat.le_of_ble_eq_true rfl, Nat.le_of_ble_eq_true rfl⟩) ⟨pS_fb, pS_pre⟩ rfl rfl hl.1 rfl (lv_room (Nat.le_of_ble_eq_true rfl)) dX8_gain_9 ⟨Nat.le_of_ble_eq_true rfl, Nat.le_of_ble_eq_true rfl⟩) (fun x9 hx9 => ?_)
    subst hx9
    rw [← hQ]
    exact W.iret (v := j_X8_worthOf card) hx hb hr (fun t ht hW => ⟨_, rfl, (by subst_vars; simp only [j_X8_gain]; (repeat' split) <;> first | rfl | contradiction), ht⟩) (fun _ h => by cases h) dX8_gain_12
  · refine lv_iconst (v := 1) hx hb dX8_gain_4 (by decide) ?_
    refine lv_goto (tgt := 12) hx hb dX8_gain_5 (by decide) ?_
    rw [← hQ]
    exact W.iret (v := 1) hx hb hr (fun t ht hW => ⟨_, rfl, (by subst_vars; simp only [j_X8_gain]; (repeat' split) <;> first | rfl | contradiction), ht⟩) (fun _ h => by cases h) dX8_gain_12

set_option maxHeartbeats 4000000 in
set_option maxRecDepth 100000 in
theorem k_X8_many (l : Launch) (x : Int64)  : Met l yX8_many wsX8_many ({ frames := 1, cells := 0, slots := 0, locals := 22 } : Room) (va_Pc [.long x] (fun _ => True)) (vp_Si (fun r => r = j_X8_many x)) 0 0 (fun _ => False) := by
  refine Met.ofW (cc := cX8_many) (maxL := 4) (ret := (some .int)) (by decide) rfl ?_
  intro p e s m args below meth c s₁ B hml hv
  obtain ⟨hargs, -⟩ := hv
  have hx := B.exec
  have hb := B.bytes
  have hr := B.returns
  have hlocks := B.notSynchronized
  have hts := atoms_spec (ws := wsX8_many) B.pre
  have hown : s.vm.findClass RX8 = some m.cls := findClass_of_methodNamed B.named
  have k55 := hts (.methodLink RX8 55 yX8_has) (by decide +kernel)
  rw [show entryFrame m args 4 = entryFrame m ([.long x] : List Value).toArray 4 from by rw [hargs]]
  have hl := lv_entry ([.long x]) (n := 4) (Nat.le_of_ble_eq_true rfl)
  rw [lg_entry_eq]
  generalize (lg_sl ([.long x]) ++ List.replicate (4 - (lg_sl ([.long x])).length) Slot.unset).toArray = ls at hl ⊢
  have hl : lv_has ls 4 [(0, .long x)] := hl
  refine wQ (fun Q hQ => ?_)
  have lab4 : ∀ fuel4 : Nat, ∀ (i : Nat) (a : Int32) (x3 : Int32), (h3 : x3 = nI i) → (hi : i ≤ 54) → (ha : a = bx_sum (fun k => if j_X8_has x (nI k) = 0 then 0 else 1) i) → (hfu4 : 54 - i < fuel4) → ∀ ls : Array Slot, lv_has ls 4 [(0, .long x), (2, .int a), (3, .int x3)] → W p l e (headSpec wsX8_many ({ frames := 1, cells := 0, slots := 0, locals := 22 } : Room)).room s m args below meth c s.heap [] 0 0 Q (F0 m 4 ls []) := by
    intro fuel4
    induction fuel4 with
    | zero =>
      intro i a x3 h3 hi ha hfu4
      exact absurd hfu4 (Nat.not_lt_zero _)
    | succ fuel4 ih4 =>
      intro i a x3 h3 hi ha hfu4 ls hl
      refine lv_iload_n hx hb dX8_many_4 rfl (lv_at hl 2 rfl) ?_
      refine lv_bipush (v := 54) hx hb dX8_many_5 (by decide) ?_
      refine lv_icmp_ge (tgt := 32) hx hb dX8_many_7 (by decide) (fun c_7 => ?_) (fun c_7 => ?_)
      · have hi9 := hp_ge h3 (by decide : (54 : Int32) = nI 54) hi (by decide) c_7
        refine lv_iload_n hx hb dX8_many_32 rfl (lv_at hl 1 rfl) ?_
        rw [← hQ]
        exact W.iret (v := a) hx hb hr (fun t ht hW => ⟨_, rfl, (by subst hi9; exact ha), ht⟩) (fun _ h => by cases h) dX8_many_33
      · have hlt := hp_lt h3 (by decide : (54 : Int32) = nI 54) hi (by decide) c_7
        refine lv_iload_n hx hb dX8_many_10 rfl (lv_at hl 1 rfl) ?_
        refine lv_lload_n hx hb dX8_many_11 rfl (lv_at hl 0 rfl) ?_
        refine lv_iload_n hx hb dX8_many_12 rfl (lv_at hl 2 rfl) ?_
        refine vp_callSi (W.runS (As := [.long x, .int x3]) (rest := [.int a]) ⟨hx, hb, hml, hown, hts⟩ (k_X8_has l x x3 ) (va_cwS 2 hts gX8_many_X8_has rfl rfl rfl (by decide +kernel) ⟨Nat.le_of_ble_eq_true rfl, Nat.le_of_ble_eq_true rfl⟩) ⟨pS_fb, pS_pre⟩ rfl rfl hl.1 rfl (lv_room (Nat.le_of_ble_eq_true rfl)) dX8_many_13 ⟨Nat.le_of_ble_eq_true rfl, Nat.le_of_ble_eq_true rfl⟩) (fun x13 hx13 => ?_)
        subst hx13
        refine lv_if_eq (tgt := 23) hx hb dX8_many_16 (by decide) (fun c_16 => ?_) (fun c_16 => ?_)
        · refine lv_iconst (v := 0) hx hb dX8_many_23 (by decide) ?_
          refine lv_iadd hx hb dX8_many_24 ?_
          refine lv_topi (fun x25 ex25 => ?_)
          refine lv_istore_n (lv' := [(2, .int x25), (0, .long x), (3, .int x3)]) hx hb dX8_many_25 rfl hl (by decide) rfl (fun ls hl => ?_)
          obtain ⟨x26, ex26⟩ : ∃ y : Int32, y = x3 + 1 := ⟨_, rfl⟩
          refine lv_iinc (v := x26) (lv' := [(3, .int x26), (2, .int x25), (0, .long x)]) hx hb dX8_many_26 hl (k := 2) rfl (by rw [ex26]; rfl) (by decide) rfl (fun ls hl => ?_)
          refine lv_goto (tgt := 4) hx hb dX8_many_29 (by decide) ?_
          exact ih4 (i + 1) x25 x26 (hp_s (by assumption) h3) (by omega) (by subst h3; subst ha; (try subst ex25); (try subst ex28); simp only [bx_sum]; split <;> first | rfl | contradiction) (by omega) ls (lv_sub hl [2, 1, 0] rfl)
        · refine lv_iconst (v := 1) hx hb dX8_many_19 (by decide) ?_
          refine lv_goto (tgt := 24) hx hb dX8_many_20 (by decide) ?_
          refine lv_iadd hx hb dX8_many_24 ?_
          refine lv_topi (fun x25 ex25 => ?_)
          refine lv_istore_n (lv' := [(2, .int x25), (0, .long x), (3, .int x3)]) hx hb dX8_many_25 rfl hl (by decide) rfl (fun ls hl => ?_)
          obtain ⟨x26, ex26⟩ : ∃ y : Int32, y = x3 + 1 := ⟨_, rfl⟩
          refine lv_iinc (v := x26) (lv' := [(3, .int x26), (2, .int x25), (0, .long x)]) hx hb dX8_many_26 hl (k := 2) rfl (by rw [ex26]; rfl) (by decide) rfl (fun ls hl => ?_)
          refine lv_goto (tgt := 4) hx hb dX8_many_29 (by decide) ?_
          exact ih4 (i + 1) x25 x26 (hp_s (by assumption) h3) (by omega) (by subst h3; subst ha; (try subst ex25); (try subst ex28); simp only [bx_sum]; split <;> first | rfl | contradiction) (by omega) ls (lv_sub hl [2, 1, 0] rfl)
  refine lv_iconst (v := 0) hx hb dX8_many_0 (by decide) ?_
  refine lv_istore_n (lv' := [(2, .int 0), (0, .long x)]) hx hb dX8_many_1 rfl hl (by decide) rfl (fun ls hl => ?_)
  refine lv_iconst (v := 0) hx hb dX8_many_2 (by decide) ?_
  refine lv_istore_n (lv' := [(3, .int 0), (2, .int 0), (0, .long x)]) hx hb dX8_many_3 rfl hl (by decide) rfl (fun ls hl => ?_)
  exact lab4 _ 0 0 0 (nI_0.symm) (by omega) (rfl) (Nat.lt_succ_self _) ls (lv_sub hl [2, 1, 0] rfl)

set_option maxHeartbeats 4000000 in
set_option maxRecDepth 100000 in
theorem k_X8_worthAll (l : Launch) (x : Int64)  : Met l yX8_worthAll wsX8_worthAll ({ frames := 1, cells := 0, slots := 0, locals := 22 } : Room) (va_Pc [.long x] (fun _ => True)) (vp_Si (fun r => r = j_X8_worthAll x)) 0 0 (fun _ => False) := by
  refine Met.ofW (cc := cX8_worthAll) (maxL := 4) (ret := (some .int)) (by decide) rfl ?_
  intro p e s m args below meth c s₁ B hml hv
  obtain ⟨hargs, -⟩ := hv
  have hx := B.exec
  have hb := B.bytes
  have hr := B.returns
  have hlocks := B.notSynchronized
  have hts := atoms_spec (ws := wsX8_worthAll) B.pre
  have hown : s.vm.findClass RX8 = some m.cls := findClass_of_methodNamed B.named
  have k55 := hts (.methodLink RX8 55 yX8_has) (by decide +kernel)
  have k59 := hts (.methodLink RX8 59 yX8_worthOf) (by decide +kernel)
  rw [show entryFrame m args 4 = entryFrame m ([.long x] : List Value).toArray 4 from by rw [hargs]]
  have hl := lv_entry ([.long x]) (n := 4) (Nat.le_of_ble_eq_true rfl)
  rw [lg_entry_eq]
  generalize (lg_sl ([.long x]) ++ List.replicate (4 - (lg_sl ([.long x])).length) Slot.unset).toArray = ls at hl ⊢
  have hl : lv_has ls 4 [(0, .long x)] := hl
  refine wQ (fun Q hQ => ?_)
  have lab4 : ∀ fuel4 : Nat, ∀ (i : Nat) (a : Int32) (x3 : Int32), (h3 : x3 = nI i) → (hi : i ≤ 54) → (ha : a = bx_sum (fun k => if j_X8_has x (nI k) = 0 then 0 else j_X8_worthOf (nI k)) i) → (hfu4 : 54 - i < fuel4) → ∀ ls : Array Slot, lv_has ls 4 [(0, .long x), (2, .int a), (3, .int x3)] → W p l e (headSpec wsX8_worthAll ({ frames := 1, cells := 0, slots := 0, locals := 22 } : Room)).room s m args below meth c s.heap [] 0 0 Q (F0 m 4 ls []) := by
    intro fuel4
    induction fuel4 with
    | zero =>
      intro i a x3 h3 hi ha hfu4
      exact absurd hfu4 (Nat.not_lt_zero _)
    | succ fuel4 ih4 =>
      intro i a x3 h3 hi ha hfu4 ls hl
      refine lv_iload_n hx hb dX8_worthAll_4 rfl (lv_at hl 2 rfl) ?_
      refine lv_bipush (v := 54) hx hb dX8_worthAll_5 (by decide) ?_
      refine lv_icmp_ge (tgt := 35) hx hb dX8_worthAll_7 (by decide) (fun c_7 => ?_) (fun c_7 => ?_)
      · have hi9 := hp_ge h3 (by decide : (54 : Int32) = nI 54) hi (by decide) c_7
        refine lv_iload_n hx hb dX8_worthAll_35 rfl (lv_at hl 1 rfl) ?_
        rw [← hQ]
        exact W.iret (v := a) hx hb hr (fun t ht hW => ⟨_, rfl, (by subst hi9; exact ha), ht⟩) (fun _ h => by cases h) dX8_worthAll_36
      · have hlt := hp_lt h3 (by decide : (54 : Int32) = nI 54) hi (by decide) c_7
        refine lv_iload_n hx hb dX8_worthAll_10 rfl (lv_at hl 1 rfl) ?_
        refine lv_lload_n hx hb dX8_worthAll_11 rfl (lv_at hl 0 rfl) ?_
        refine lv_iload_n hx hb dX8_worthAll_12 rfl (lv_at hl 2 rfl) ?_
        refine vp_callSi (W.runS (As := [.long x, .int x3]) (rest := [.int a]) ⟨hx, hb, hml, hown, hts⟩ (k_X8_has l x x3 ) (va_cwS 2 hts gX8_worthAll_X8_has rfl rfl rfl (by decide +kernel) ⟨Nat.le_of_ble_eq_true rfl, Nat.le_of_ble_eq_true rfl⟩) ⟨pS_fb, pS_pre⟩ rfl rfl hl.1 rfl (lv_room (Nat.le_of_ble_eq_true rfl)) dX8_worthAll_13 ⟨Nat.le_of_ble_eq_true rfl, Nat.le_of_ble_eq_true rfl⟩) (fun x13 hx13 => ?_)
        subst hx13
        refine lv_if_eq (tgt := 26) hx hb dX8_worthAll_16 (by decide) (fun c_16 => ?_) (fun c_16 => ?_)
        · refine lv_iconst (v := 0) hx hb dX8_worthAll_26 (by decide) ?_
          refine lv_iadd hx hb dX8_worthAll_27 ?_
          refine lv_topi (fun x28 ex28 => ?_)
          refine lv_istore_n (lv' := [(2, .int x28), (0, .long x), (3, .int x3)]) hx hb dX8_worthAll_28 rfl hl (by decide) rfl (fun ls hl => ?_)
          obtain ⟨x29, ex29⟩ : ∃ y : Int32, y = x3 + 1 := ⟨_, rfl⟩
          refine lv_iinc (v := x29) (lv' := [(3, .int x29), (2, .int x28), (0, .long x)]) hx hb dX8_worthAll_29 hl (k := 2) rfl (by rw [ex29]; rfl) (by decide) rfl (fun ls hl => ?_)
          refine lv_goto (tgt := 4) hx hb dX8_worthAll_32 (by decide) ?_
          exact ih4 (i + 1) x28 x29 (hp_s (by assumption) h3) (by omega) (by subst h3; subst ha; (try subst ex25); (try subst ex28); simp only [bx_sum]; split <;> first | rfl | contradiction) (by omega) ls (lv_sub hl [2, 1, 0] rfl)
        · refine lv_iload_n hx hb dX8_worthAll_19 rfl (lv_at hl 2 rfl) ?_
          refine vp_callSi (W.runS (As := [.int x3]) (rest := [.int a]) ⟨hx, hb, hml, hown, hts⟩ (k_X8_worthOf l x3 ) (va_cwS 1 hts gX8_worthAll_X8_worthOf rfl rfl rfl (by decide +kernel) ⟨Nat.le_of_ble_eq_true rfl, Nat.le_of_ble_eq_true rfl⟩) ⟨pS_fb, pS_pre⟩ rfl rfl hl.1 rfl (lv_room (Nat.le_of_ble_eq_true rfl)) dX8_worthAll_20 ⟨Nat.le_of_ble_eq_true rfl, Nat.le_of_ble_eq_true rfl⟩) (fun x20 hx20 => ?_)
          subst hx20
          refine lv_goto (tgt := 27) hx hb dX8_worthAll_23 (by decide) ?_
          refine lv_iadd hx hb dX8_worthAll_27 ?_
          refine lv_topi (fun x28 ex28 => ?_)
          refine lv_istore_n (lv' := [(2, .int x28), (0, .long x), (3, .int x3)]) hx hb dX8_worthAll_28 rfl hl (by decide) rfl (fun ls hl => ?_)
          obtain ⟨x29, ex29⟩ : ∃ y : Int32, y = x3 + 1 := ⟨_, rfl⟩
          refine lv_iinc (v := x29) (lv' := [(3, .int x29), (2, .int x28), (0, .long x)]) hx hb dX8_worthAll_29 hl (k := 2) rfl (by rw [ex29]; rfl) (by decide) rfl (fun ls hl => ?_)
          refine lv_goto (tgt := 4) hx hb dX8_worthAll_32 (by decide) ?_
          exact ih4 (i + 1) x28 x29 (hp_s (by assumption) h3) (by omega) (by subst h3; subst ha; (try subst ex25); (try subst ex28); simp only [bx_sum]; split <;> first | rfl | contradiction) (by omega) ls (lv_sub hl [2, 1, 0] rfl)
  refine lv_iconst (v := 0) hx hb dX8_worthAll_0 (by decide) ?_
  refine lv_istore_n (lv' := [(2, .int 0), (0, .long x)]) hx hb dX8_worthAll_1 rfl hl (by decide) rfl (fun ls hl => ?_)
  refine lv_iconst (v := 0) hx hb dX8_worthAll_2 (by decide) ?_
  refine lv_istore_n (lv' := [(3, .int 0), (2, .int 0), (0, .long x)]) hx hb dX8_worthAll_3 rfl hl (by decide) rfl (fun ls hl => ?_)
  exact lab4 _ 0 0 0 (nI_0.symm) (by omega) (rfl) (Nat.lt_succ_self _) ls (lv_sub hl [2, 1, 0] rfl)

set_option maxHeartbeats 4000000 in
set_option maxRecDepth 100000 in
theorem k_X8_isWhole (l : Launch) (mk : Int32)  : Met l yX8_isWhole wsX8_isWhole ({ frames := 1, cells := 0, slots := 0, locals := 21 } : Room) (va_Pc [.int mk] (fun _ => True)) (vp_Si (fun r => r = j_X8_isWhole mk)) 0 0 (fun _ => False) := by
  refine Met.ofW (cc := cX8_isWhole) (maxL := 2) (ret := (some .boolean)) (by decide) rfl ?_
  intro p e s m args below meth c s₁ B hml hv
  obtain ⟨hargs, -⟩ := hv
  have hx := B.exec
  have hb := B.bytes
  have hr := B.returns
  have hlocks := B.notSynchronized
  have hts := atoms_spec (ws := wsX8_isWhole) B.pre
  have hown : s.vm.findClass RX8 = some m.cls := findClass_of_methodNamed B.named
  have k67 := hts (.methodLink RX8 67 yX8_inGroup) (by decide +kernel)
  have k63 := hts (.methodLink RX8 63 yX8_run) (by decide +kernel)
  rw [show entryFrame m args 2 = entryFrame m ([.int mk] : List Value).toArray 2 from by rw [hargs]]
  have hl := lv_entry ([.int mk]) (n := 2) (Nat.le_of_ble_eq_true rfl)
  rw [lg_entry_eq]
  generalize (lg_sl ([.int mk]) ++ List.replicate (2 - (lg_sl ([.int mk])).length) Slot.unset).toArray = ls at hl ⊢
  have hl : lv_has ls 2 [(0, .int mk)] := hl
  refine wQ (fun Q hQ => ?_)
  have lab2 : ∀ fuel2 : Nat, ∀ (i : Nat) (x1 : Int32), (h1 : x1 = nI i) → (hi : i ≤ 4) → (ha : ∀ j, j < i → ¬ j_X8_run mk (nI j) = 1 ∧ ¬ j_X8_run mk (nI j) = 2) → (hfu2 : 4 - i < fuel2) → ∀ ls : Array Slot, lv_has ls 2 [(0, .int mk), (1, .int x1)] → W p l e (headSpec wsX8_isWhole ({ frames := 1, cells := 0, slots := 0, locals := 21 } : Room)).room s m args below meth c s.heap [] 0 0 Q (F0 m 2 ls []) := by
    intro fuel2
    induction fuel2 with
    | zero =>
      intro i x1 h1 hi ha hfu2
      exact absurd hfu2 (Nat.not_lt_zero _)
    | succ fuel2 ih2 =>
      intro i x1 h1 hi ha hfu2 ls hl
      refine lv_iload_n hx hb dX8_isWhole_2 rfl (lv_at hl 1 rfl) ?_
      refine lv_iconst (v := 4) hx hb dX8_isWhole_3 (by decide) ?_
      refine lv_icmp_ge (tgt := 33) hx hb dX8_isWhole_4 (by decide) (fun c_4 => ?_) (fun c_4 => ?_)
      · have hi4 := hp_ge h1 (by decide : (4 : Int32) = nI 4) hi (by decide) c_4
        subst hi4
        have hw : j_wh mk 4 = 1 := hp_wh ha
        refine lv_iload_n hx hb dX8_isWhole_33 rfl (lv_at hl 0 rfl) ?_
        refine vp_callSi (W.runS (As := [.int mk]) (rest := []) ⟨hx, hb, hml, hown, hts⟩ (k_X8_inGroup l mk ) (va_cwS 1 hts gX8_isWhole_X8_inGroup rfl rfl rfl (by decide +kernel) ⟨Nat.le_of_ble_eq_true rfl, Nat.le_of_ble_eq_true rfl⟩) ⟨pS_fb, pS_pre⟩ rfl rfl hl.1 rfl (lv_room (Nat.le_of_ble_eq_true rfl)) dX8_isWhole_34 ⟨Nat.le_of_ble_eq_true rfl, Nat.le_of_ble_eq_true rfl⟩) (fun x34 hx34 => ?_)
        subst hx34
        refine lv_if_ne (tgt := 44) hx hb dX8_isWhole_37 (by decide) (fun c_37 => ?_) (fun c_37 => ?_)
        · refine lv_iconst (v := 0) hx hb dX8_isWhole_44 (by decide) ?_
          rw [← hQ]
          exact W.zret (v := 0) hx hb hr (by first | decide | rfl | assumption) (fun t ht hW => ⟨_, rfl, (by simp only [j_X8_isWhole, hw]; rw [if_neg (by decide)]; split <;> first | rfl | contradiction), ht⟩) (fun _ h => by cases h) dX8_isWhole_45
        · refine lv_iconst (v := 1) hx hb dX8_isWhole_40 (by decide) ?_
          refine lv_goto (tgt := 45) hx hb dX8_isWhole_41 (by decide) ?_
          rw [← hQ]
          exact W.zret (v := 1) hx hb hr (by first | decide | rfl | assumption) (fun t ht hW => ⟨_, rfl, (by simp only [j_X8_isWhole, hw]; rw [if_neg (by decide)]; split <;> first | rfl | contradiction), ht⟩) (fun _ h => by cases h) dX8_isWhole_45
      · have hlt := hp_lt h1 (by decide : (4 : Int32) = nI 4) hi (by decide) c_4
        refine lv_iload_n hx hb dX8_isWhole_7 rfl (lv_at hl 0 rfl) ?_
        refine lv_iload_n hx hb dX8_isWhole_8 rfl (lv_at hl 1 rfl) ?_
        refine vp_callSi (W.runS (As := [.int mk, .int x1]) (rest := []) ⟨hx, hb, hml, hown, hts⟩ (k_X8_run l mk x1 ) (va_cwS 2 hts gX8_isWhole_X8_run rfl rfl rfl (by decide +kernel) ⟨Nat.le_of_ble_eq_true rfl, Nat.le_of_ble_eq_true rfl⟩) ⟨pS_fb, pS_pre⟩ rfl rfl hl.1 rfl (lv_room (Nat.le_of_ble_eq_true rfl)) dX8_isWhole_9 ⟨Nat.le_of_ble_eq_true rfl, Nat.le_of_ble_eq_true rfl⟩) (fun x9 hx9 => ?_)
        subst hx9
        refine lv_iconst (v := 1) hx hb dX8_isWhole_12 (by decide) ?_
        refine lv_icmp_eq (tgt := 25) hx hb dX8_isWhole_13 (by decide) (fun c_13 => ?_) (fun c_13 => ?_)
        · refine lv_iconst (v := 0) hx hb dX8_isWhole_25 (by decide) ?_
          rw [← hQ]
          exact W.zret (v := 0) hx hb hr (by first | decide | rfl | assumption) (fun t ht hW => ⟨_, rfl, (by subst h1; exact hp_wh0 hlt (by first | exact Or.inl c_13 | exact Or.inr c_22)), ht⟩) (fun _ h => by cases h) dX8_isWhole_26
        · refine lv_iload_n hx hb dX8_isWhole_16 rfl (lv_at hl 0 rfl) ?_
          refine lv_iload_n hx hb dX8_isWhole_17 rfl (lv_at hl 1 rfl) ?_
          refine vp_callSi (W.runS (As := [.int mk, .int x1]) (rest := []) ⟨hx, hb, hml, hown, hts⟩ (k_X8_run l mk x1 ) (va_cwS 2 hts gX8_isWhole_X8_run rfl rfl rfl (by decide +kernel) ⟨Nat.le_of_ble_eq_true rfl, Nat.le_of_ble_eq_true rfl⟩) ⟨pS_fb, pS_pre⟩ rfl rfl hl.1 rfl (lv_room (Nat.le_of_ble_eq_true rfl)) dX8_isWhole_18 ⟨Nat.le_of_ble_eq_true rfl, Nat.le_of_ble_eq_true rfl⟩) (fun x18 hx18 => ?_)
          subst hx18
          refine lv_iconst (v := 2) hx hb dX8_isWhole_21 (by decide) ?_
          refine lv_icmp_ne (tgt := 27) hx hb dX8_isWhole_22 (by decide) (fun c_22 => ?_) (fun c_22 => ?_)
          · obtain ⟨x27, ex27⟩ : ∃ y : Int32, y = x1 + 1 := ⟨_, rfl⟩
            refine lv_iinc (v := x27) (lv' := [(1, .int x27), (0, .int mk)]) hx hb dX8_isWhole_27 hl (k := 1) rfl (by rw [ex27]; rfl) (by decide) rfl (fun ls hl => ?_)
            refine lv_goto (tgt := 2) hx hb dX8_isWhole_30 (by decide) ?_
            exact ih2 (i + 1) x27 (hp_s (by assumption) h1) (by omega) (by subst h1; intro j hj; rcases Nat.lt_succ_iff_lt_or_eq.mp hj with q | q; exact ha j q; subst q; exact ⟨c_13, fun q => c_22 q⟩) (by omega) ls (lv_sub hl [1, 0] rfl)
          · refine lv_iconst (v := 0) hx hb dX8_isWhole_25 (by decide) ?_
            rw [← hQ]
            exact W.zret (v := 0) hx hb hr (by first | decide | rfl | assumption) (fun t ht hW => ⟨_, rfl, (by subst h1; exact hp_wh0 hlt (by first | exact Or.inl c_13 | exact Or.inr c_22)), ht⟩) (fun _ h => by cases h) dX8_isWhole_26
  refine lv_iconst (v := 0) hx hb dX8_isWhole_0 (by decide) ?_
  refine lv_istore_n (lv' := [(1, .int 0), (0, .int mk)]) hx hb dX8_isWhole_1 rfl hl (by decide) rfl (fun ls hl => ?_)
  exact lab2 _ 0 0 (nI_0.symm) (by omega) (fun j h => absurd h (Nat.not_lt_zero j)) (Nat.lt_succ_self _) ls (lv_sub hl [1, 0] rfl)

set_option maxHeartbeats 4000000 in
set_option maxRecDepth 100000 in
theorem k_X8_behind (l : Launch) (mk card pl bj : Int32)  : Met l yX8_behind wsX8_behind ({ frames := 1, cells := 0, slots := 0, locals := 21 } : Room) (va_Pc [.int mk, .int card, .int pl, .int bj] (fun _ => True)) (vp_Si (fun r => r = j_X8_behind mk card pl bj)) 0 0 (fun _ => False) := by
  refine Met.ofW (cc := cX8_behind) (maxL := 10) (ret := (some .int)) (by decide) rfl ?_
  intro p e s m args below meth c s₁ B hml hv
  obtain ⟨hargs, -⟩ := hv
  have hx := B.exec
  have hb := B.bytes
  have hr := B.returns
  have hlocks := B.notSynchronized
  have hts := atoms_spec (ws := wsX8_behind) B.pre
  have hown : s.vm.findClass RX8 = some m.cls := findClass_of_methodNamed B.named
  have k63 := hts (.methodLink RX8 63 yX8_run) (by decide +kernel)
  have k67 := hts (.methodLink RX8 67 yX8_inGroup) (by decide +kernel)
  have k70 := hts (.methodLink RX8 70 yX8_jokers) (by decide +kernel)
  rw [show entryFrame m args 10 = entryFrame m ([.int mk, .int card, .int pl, .int bj] : List Value).toArray 10 from by rw [hargs]]
  have hl := lv_entry ([.int mk, .int card, .int pl, .int bj]) (n := 10) (Nat.le_of_ble_eq_true rfl)
  rw [lg_entry_eq]
  generalize (lg_sl ([.int mk, .int card, .int pl, .int bj]) ++ List.replicate (10 - (lg_sl ([.int mk, .int card, .int pl, .int bj])).length) Slot.unset).toArray = ls at hl ⊢
  have hl : lv_has ls 10 [(0, .int mk), (1, .int card), (2, .int pl), (3, .int bj)] := hl
  refine wQ (fun Q hQ => ?_)
  have lab142 : ∀  (col : Int32) (g : Int32) (u : Int32) (op : Int32), (hg : j_X8_behind mk card pl bj = j_bh_end mk col g u op) → ∀ ls : Array Slot, lv_has ls 10 [(0, .int mk), (4, .int col), (6, .int g), (7, .int u), (8, .int op)] → W p l e (headSpec wsX8_behind ({ frames := 1, cells := 0, slots := 0, locals := 21 } : Room)).room s m args below meth c s.heap [] 0 0 Q (F0 m 142 ls []) := by
    intro col g u op hg ls hl
    refine lv_iload_n hx hb dX8_behind_142 rfl (lv_at hl 0 rfl) ?_
    refine lv_bipush (v := 15) hx hb dX8_behind_143 (by decide) ?_
    refine lv_idiv hx hb dX8_behind_145 (by decide) ?_
    refine lv_iconst (v := 3) hx hb dX8_behind_146 (by decide) ?_
    refine lv_iconst (v := 2) hx hb dX8_behind_147 (by decide) ?_
    refine lv_iload hx hb dX8_behind_148 (lv_at hl 1 rfl) ?_
    refine lv_imul hx hb dX8_behind_150 ?_
    refine lv_ishl hx hb dX8_behind_151 ?_
    refine lv_iconst (v := (-1)) hx hb dX8_behind_152 (by decide) ?_
    refine lv_ixor hx hb dX8_behind_153 ?_
    refine lv_iand hx hb dX8_behind_154 ?_
    refine lv_iload hx hb dX8_behind_155 (lv_at hl 4 rfl) ?_
    refine lv_iconst (v := 2) hx hb dX8_behind_157 (by decide) ?_
    refine lv_iload hx hb dX8_behind_158 (lv_at hl 1 rfl) ?_
    refine lv_imul hx hb dX8_behind_160 ?_
    refine lv_ishl hx hb dX8_behind_161 ?_
    refine lv_ior hx hb dX8_behind_162 ?_
    refine lv_topi (fun x163 ex163 => ?_)
    refine lv_istore (lv' := [(9, .int x163), (0, .int mk), (4, .int col), (6, .int g), (7, .int u), (8, .int op)]) hx hb dX8_behind_163 hl (by decide) rfl (fun ls hl => ?_)
    refine lv_iload hx hb dX8_behind_165 (lv_at hl 0 rfl) ?_
    refine lv_iconst (v := 5) hx hb dX8_behind_167 (by decide) ?_
    refine lv_imul hx hb dX8_behind_168 ?_
    refine lv_iload hx hb dX8_behind_169 (lv_at hl 3 rfl) ?_
    refine lv_iadd hx hb dX8_behind_171 ?_
    refine lv_iconst (v := 3) hx hb dX8_behind_172 (by decide) ?_
    refine lv_imul hx hb dX8_behind_173 ?_
    refine lv_iload hx hb dX8_behind_174 (lv_at hl 4 rfl) ?_
    refine lv_iadd hx hb dX8_behind_176 ?_
    rw [← hQ]
    exact W.iret (v := (((x163 * 5) + g) * 3) + u) hx hb hr (fun t ht hW => ⟨_, rfl, (by rw [hg]; subst_vars; rfl), ht⟩) (fun _ h => by cases h) dX8_behind_177
  have lab119 : ∀  (col : Int32) (g : Int32) (u : Int32) (op : Int32), (hgr : j_X8_behind mk card pl bj = j_bh_grp mk col g u op) → ∀ ls : Array Slot, lv_has ls 10 [(0, .int mk), (4, .int col), (6, .int g), (7, .int u), (8, .int op)] → W p l e (headSpec wsX8_behind ({ frames := 1, cells := 0, slots := 0, locals := 21 } : Room)).room s m args below meth c s.heap [] 0 0 Q (F0 m 119 ls []) := by
    intro col g u op hgr ls hl
    refine lv_iload hx hb dX8_behind_119 (lv_at hl 1 rfl) ?_
    refine lv_iconst (v := 3) hx hb dX8_behind_121 (by decide) ?_
    refine lv_icmp_ne (tgt := 142) hx hb dX8_behind_122 (by decide) (fun c_122 => ?_) (fun c_122 => ?_)
    · exact lab142 col g u op (by rw [hgr]; simp only [j_bh_grp]; rw [if_neg c_122]) ls (lv_sub hl [0, 1, 2, 3, 4] rfl)
    · refine lv_iload hx hb dX8_behind_125 (lv_at hl 2 rfl) ?_
      refine lv_iconst (v := 1) hx hb dX8_behind_127 (by decide) ?_
      refine lv_icmp_eq (tgt := 137) hx hb dX8_behind_128 (by decide) (fun c_128 => ?_) (fun c_128 => ?_)
      · refine lv_iconst (v := (-1)) hx hb dX8_behind_137 (by decide) ?_
        rw [← hQ]
        exact W.iret (v := (-1)) hx hb hr (fun t ht hW => ⟨_, rfl, (by rw [hgr]; simp only [j_bh_grp]; (repeat' split) <;> first | rfl | contradiction), ht⟩) (fun _ h => by cases h) dX8_behind_138
      · refine lv_iload hx hb dX8_behind_131 (lv_at hl 2 rfl) ?_
        refine lv_iconst (v := 2) hx hb dX8_behind_133 (by decide) ?_
        refine lv_icmp_ne (tgt := 139) hx hb dX8_behind_134 (by decide) (fun c_134 => ?_) (fun c_134 => ?_)
        · refine lv_iconst (v := 0) hx hb dX8_behind_139 (by decide) ?_
          refine lv_istore (lv' := [(6, .int 0), (0, .int mk), (4, .int col), (7, .int u), (8, .int op)]) hx hb dX8_behind_140 hl (by decide) rfl (fun ls hl => ?_)
          exact lab142 col 0 u op (by rw [hgr]; simp only [j_bh_grp]; rw [if_pos c_122, if_neg c_128, if_neg c_134]) ls (lv_sub hl [1, 2, 0, 3, 4] rfl)
        · refine lv_iconst (v := (-1)) hx hb dX8_behind_137 (by decide) ?_
          rw [← hQ]
          exact W.iret (v := (-1)) hx hb hr (fun t ht hW => ⟨_, rfl, (by rw [hgr]; simp only [j_bh_grp]; (repeat' split) <;> first | rfl | contradiction), ht⟩) (fun _ h => by cases h) dX8_behind_138
  have lab109 : ∀  (col : Int32) (g : Int32) (u : Int32) (op : Int32), (h109 : j_X8_behind mk card pl bj = j_bh_grp mk col (if pl = 1 then g + 1 else g) u op) → ∀ ls : Array Slot, lv_has ls 10 [(0, .int mk), (2, .int pl), (4, .int col), (6, .int g), (7, .int u)] → W p l e (headSpec wsX8_behind ({ frames := 1, cells := 0, slots := 0, locals := 21 } : Room)).room s m args below meth c s.heap [] 0 0 Q (F0 m 109 ls [.int op]) := by
    intro col g u op h109 ls hl
    refine lv_istore (lv' := [(8, .int op), (0, .int mk), (2, .int pl), (4, .int col), (6, .int g), (7, .int u)]) hx hb dX8_behind_109 hl (by decide) rfl (fun ls hl => ?_)
    refine lv_iload_n hx hb dX8_behind_111 rfl (lv_at hl 2 rfl) ?_
    refine lv_iconst (v := 1) hx hb dX8_behind_112 (by decide) ?_
    refine lv_icmp_ne (tgt := 119) hx hb dX8_behind_113 (by decide) (fun c_113 => ?_) (fun c_113 => ?_)
    · exact lab119 col g u op (by rw [h109, if_neg c_113]) ls (lv_sub hl [1, 3, 4, 5, 0] rfl)
    · obtain ⟨x116, ex116⟩ : ∃ y : Int32, y = g + 1 := ⟨_, rfl⟩
      refine lv_iinc (v := x116) (lv' := [(6, .int x116), (8, .int op), (0, .int mk), (2, .int pl), (4, .int col), (7, .int u)]) hx hb dX8_behind_116 hl (k := 4) rfl (by rw [ex116]; rfl) (by decide) rfl (fun ls hl => ?_)
      exact lab119 col x116 u op (by rw [h109, if_pos c_113]; subst_vars; rfl) ls (lv_sub hl [2, 4, 0, 5, 1] rfl)
  have lab77 : ∀  (col : Int32) (r : Int32) (g : Int32) (u : Int32), (h77 : j_X8_behind mk card pl bj = j_bh_grp mk col (if pl = 1 then g + 1 else g) u (j_bh_open r pl)) → ∀ ls : Array Slot, lv_has ls 10 [(0, .int mk), (2, .int pl), (4, .int col), (5, .int r), (6, .int g), (7, .int u)] → W p l e (headSpec wsX8_behind ({ frames := 1, cells := 0, slots := 0, locals := 21 } : Room)).room s m args below meth c s.heap [] 0 0 Q (F0 m 77 ls []) := by
    intro col r g u h77 ls hl
    refine lv_iload_n hx hb dX8_behind_77 rfl (lv_at hl 1 rfl) ?_
    refine lv_iconst (v := 3) hx hb dX8_behind_78 (by decide) ?_
    refine lv_icmp_ne (tgt := 99) hx hb dX8_behind_79 (by decide) (fun c_79 => ?_) (fun c_79 => ?_)
    · refine lv_iload_n hx hb dX8_behind_99 rfl (lv_at hl 1 rfl) ?_
      refine lv_iconst (v := 2) hx hb dX8_behind_100 (by decide) ?_
      refine lv_icmp_ne (tgt := 108) hx hb dX8_behind_101 (by decide) (fun c_101 => ?_) (fun c_101 => ?_)
      · refine lv_iconst (v := 0) hx hb dX8_behind_108 (by decide) ?_
        exact lab109 col g u 0 (by rw [h77]; congr 1; simp only [j_bh_open]; (repeat' split) <;> first | rfl | contradiction) ls (lv_sub hl [0, 1, 2, 4, 5] rfl)
      · refine lv_iconst (v := 1) hx hb dX8_behind_104 (by decide) ?_
        refine lv_goto (tgt := 109) hx hb dX8_behind_105 (by decide) ?_
        exact lab109 col g u 1 (by rw [h77]; congr 1; simp only [j_bh_open]; (repeat' split) <;> first | rfl | contradiction) ls (lv_sub hl [0, 1, 2, 4, 5] rfl)
    · refine lv_iload hx hb dX8_behind_82 (lv_at hl 3 rfl) ?_
      refine lv_iconst (v := 3) hx hb dX8_behind_84 (by decide) ?_
      refine lv_icmp_ne (tgt := 92) hx hb dX8_behind_85 (by decide) (fun c_85 => ?_) (fun c_85 => ?_)
      · refine lv_iload hx hb dX8_behind_92 (lv_at hl 3 rfl) ?_
        refine lv_iconst (v := 1) hx hb dX8_behind_94 (by decide) ?_
        refine lv_iadd hx hb dX8_behind_95 ?_
        refine lv_goto (tgt := 109) hx hb dX8_behind_96 (by decide) ?_
        exact lab109 col g u (r + 1) (by rw [h77]; congr 1; simp only [j_bh_open]; (repeat' split) <;> first | rfl | contradiction) ls (lv_sub hl [0, 1, 2, 4, 5] rfl)
      · refine lv_iconst (v := 3) hx hb dX8_behind_88 (by decide) ?_
        refine lv_goto (tgt := 109) hx hb dX8_behind_89 (by decide) ?_
        exact lab109 col g u 3 (by rw [h77]; congr 1; simp only [j_bh_open]; (repeat' split) <;> first | rfl | contradiction) ls (lv_sub hl [0, 1, 2, 4, 5] rfl)
  have lab35 : ∀  (col : Int32) (r : Int32) (g : Int32) (u : Int32), (h35 : j_X8_behind mk card pl bj = j_bh_mid mk col r g u pl) → ∀ ls : Array Slot, lv_has ls 10 [(0, .int mk), (2, .int pl), (4, .int col), (5, .int r), (6, .int g), (7, .int u)] → W p l e (headSpec wsX8_behind ({ frames := 1, cells := 0, slots := 0, locals := 21 } : Room)).room s m args below meth c s.heap [] 0 0 Q (F0 m 35 ls []) := by
    intro col r g u h35 ls hl
    refine lv_iload hx hb dX8_behind_35 (lv_at hl 5 rfl) ?_
    refine lv_iconst (v := 2) hx hb dX8_behind_37 (by decide) ?_
    refine lv_icmp_gt (tgt := 75) hx hb dX8_behind_38 (by decide) (fun c_38 => ?_) (fun c_38 => ?_)
    · refine lv_iconst (v := (-1)) hx hb dX8_behind_75 (by decide) ?_
      rw [← hQ]
      exact W.iret (v := (-1)) hx hb hr (fun t ht hW => ⟨_, rfl, (by rw [h35]; simp only [j_bh_mid]; (repeat' split) <;> first | rfl | contradiction), ht⟩) (fun _ h => by cases h) dX8_behind_76
    · refine lv_iload_n hx hb dX8_behind_41 rfl (lv_at hl 1 rfl) ?_
      refine lv_iconst (v := 3) hx hb dX8_behind_42 (by decide) ?_
      refine lv_icmp_ne (tgt := 50) hx hb dX8_behind_43 (by decide) (fun c_43 => ?_) (fun c_43 => ?_)
      · refine lv_iconst (v := 0) hx hb dX8_behind_50 (by decide) ?_
        refine lv_iload hx hb dX8_behind_51 (lv_at hl 3 rfl) ?_
        refine lv_if_le (tgt := 60) hx hb dX8_behind_53 (by decide) (fun c_53 => ?_) (fun c_53 => ?_)
        · refine lv_iconst (v := 0) hx hb dX8_behind_60 (by decide) ?_
          refine lv_icmp_eq (tgt := 77) hx hb dX8_behind_61 (by decide) (fun c_61 => ?_) (fun c_61 => ?_)
          · exact lab77 col r g u (by rw [h35]; simp only [j_bh_mid]; (repeat' split) <;> first | rfl | contradiction) ls (lv_sub hl [0, 1, 2, 3, 4, 5] rfl)
          · refine lv_iload_n hx hb dX8_behind_64 rfl (lv_at hl 1 rfl) ?_
            refine lv_iconst (v := 3) hx hb dX8_behind_65 (by decide) ?_
            refine lv_icmp_eq (tgt := 75) hx hb dX8_behind_66 (by decide) (fun c_66 => ?_) (fun c_66 => ?_)
            · refine lv_iconst (v := (-1)) hx hb dX8_behind_75 (by decide) ?_
              rw [← hQ]
              exact W.iret (v := (-1)) hx hb hr (fun t ht hW => ⟨_, rfl, (by rw [h35]; simp only [j_bh_mid]; (repeat' split) <;> first | rfl | contradiction), ht⟩) (fun _ h => by cases h) dX8_behind_76
            · refine lv_iload hx hb dX8_behind_69 (lv_at hl 3 rfl) ?_
              refine lv_iconst (v := 3) hx hb dX8_behind_71 (by decide) ?_
              refine lv_icmp_ge (tgt := 77) hx hb dX8_behind_72 (by decide) (fun c_72 => ?_) (fun c_72 => ?_)
              · exact lab77 col r g u (by rw [h35]; simp only [j_bh_mid]; (repeat' split) <;> first | rfl | contradiction) ls (lv_sub hl [0, 1, 2, 3, 4, 5] rfl)
              · refine lv_iconst (v := (-1)) hx hb dX8_behind_75 (by decide) ?_
                rw [← hQ]
                exact W.iret (v := (-1)) hx hb hr (fun t ht hW => ⟨_, rfl, (by rw [h35]; simp only [j_bh_mid]; (repeat' split) <;> first | rfl | contradiction), ht⟩) (fun _ h => by cases h) dX8_behind_76
        · refine lv_iconst (v := 1) hx hb dX8_behind_56 (by decide) ?_
          refine lv_goto (tgt := 61) hx hb dX8_behind_57 (by decide) ?_
          refine lv_icmp_eq (tgt := 77) hx hb dX8_behind_61 (by decide) (fun c_61 => ?_) (fun c_61 => ?_)
          · exact lab77 col r g u (by rw [h35]; simp only [j_bh_mid]; (repeat' split) <;> first | rfl | contradiction) ls (lv_sub hl [0, 1, 2, 3, 4, 5] rfl)
          · refine lv_iload_n hx hb dX8_behind_64 rfl (lv_at hl 1 rfl) ?_
            refine lv_iconst (v := 3) hx hb dX8_behind_65 (by decide) ?_
            refine lv_icmp_eq (tgt := 75) hx hb dX8_behind_66 (by decide) (fun c_66 => ?_) (fun c_66 => ?_)
            · refine lv_iconst (v := (-1)) hx hb dX8_behind_75 (by decide) ?_
              rw [← hQ]
              exact W.iret (v := (-1)) hx hb hr (fun t ht hW => ⟨_, rfl, (by rw [h35]; simp only [j_bh_mid]; (repeat' split) <;> first | rfl | contradiction), ht⟩) (fun _ h => by cases h) dX8_behind_76
            · refine lv_iload hx hb dX8_behind_69 (lv_at hl 3 rfl) ?_
              refine lv_iconst (v := 3) hx hb dX8_behind_71 (by decide) ?_
              refine lv_icmp_ge (tgt := 77) hx hb dX8_behind_72 (by decide) (fun c_72 => ?_) (fun c_72 => ?_)
              · exact lab77 col r g u (by rw [h35]; simp only [j_bh_mid]; (repeat' split) <;> first | rfl | contradiction) ls (lv_sub hl [0, 1, 2, 3, 4, 5] rfl)
              · refine lv_iconst (v := (-1)) hx hb dX8_behind_75 (by decide) ?_
                rw [← hQ]
                exact W.iret (v := (-1)) hx hb hr (fun t ht hW => ⟨_, rfl, (by rw [h35]; simp only [j_bh_mid]; (repeat' split) <;> first | rfl | contradiction), ht⟩) (fun _ h => by cases h) dX8_behind_76
      · refine lv_iconst (v := 1) hx hb dX8_behind_46 (by decide) ?_
        refine lv_goto (tgt := 51) hx hb dX8_behind_47 (by decide) ?_
        refine lv_iload hx hb dX8_behind_51 (lv_at hl 3 rfl) ?_
        refine lv_if_le (tgt := 60) hx hb dX8_behind_53 (by decide) (fun c_53 => ?_) (fun c_53 => ?_)
        · refine lv_iconst (v := 0) hx hb dX8_behind_60 (by decide) ?_
          refine lv_icmp_eq (tgt := 77) hx hb dX8_behind_61 (by decide) (fun c_61 => ?_) (fun c_61 => ?_)
          · exact lab77 col r g u (by rw [h35]; simp only [j_bh_mid]; (repeat' split) <;> first | rfl | contradiction) ls (lv_sub hl [0, 1, 2, 3, 4, 5] rfl)
          · refine lv_iload_n hx hb dX8_behind_64 rfl (lv_at hl 1 rfl) ?_
            refine lv_iconst (v := 3) hx hb dX8_behind_65 (by decide) ?_
            refine lv_icmp_eq (tgt := 75) hx hb dX8_behind_66 (by decide) (fun c_66 => ?_) (fun c_66 => ?_)
            · refine lv_iconst (v := (-1)) hx hb dX8_behind_75 (by decide) ?_
              rw [← hQ]
              exact W.iret (v := (-1)) hx hb hr (fun t ht hW => ⟨_, rfl, (by rw [h35]; simp only [j_bh_mid]; (repeat' split) <;> first | rfl | contradiction), ht⟩) (fun _ h => by cases h) dX8_behind_76
            · refine lv_iload hx hb dX8_behind_69 (lv_at hl 3 rfl) ?_
              refine lv_iconst (v := 3) hx hb dX8_behind_71 (by decide) ?_
              refine lv_icmp_ge (tgt := 77) hx hb dX8_behind_72 (by decide) (fun c_72 => ?_) (fun c_72 => ?_)
              · exact lab77 col r g u (by rw [h35]; simp only [j_bh_mid]; (repeat' split) <;> first | rfl | contradiction) ls (lv_sub hl [0, 1, 2, 3, 4, 5] rfl)
              · refine lv_iconst (v := (-1)) hx hb dX8_behind_75 (by decide) ?_
                rw [← hQ]
                exact W.iret (v := (-1)) hx hb hr (fun t ht hW => ⟨_, rfl, (by rw [h35]; simp only [j_bh_mid]; (repeat' split) <;> first | rfl | contradiction), ht⟩) (fun _ h => by cases h) dX8_behind_76
        · refine lv_iconst (v := 1) hx hb dX8_behind_56 (by decide) ?_
          refine lv_goto (tgt := 61) hx hb dX8_behind_57 (by decide) ?_
          refine lv_icmp_eq (tgt := 77) hx hb dX8_behind_61 (by decide) (fun c_61 => ?_) (fun c_61 => ?_)
          · exact lab77 col r g u (by rw [h35]; simp only [j_bh_mid]; (repeat' split) <;> first | rfl | contradiction) ls (lv_sub hl [0, 1, 2, 3, 4, 5] rfl)
          · refine lv_iload_n hx hb dX8_behind_64 rfl (lv_at hl 1 rfl) ?_
            refine lv_iconst (v := 3) hx hb dX8_behind_65 (by decide) ?_
            refine lv_icmp_eq (tgt := 75) hx hb dX8_behind_66 (by decide) (fun c_66 => ?_) (fun c_66 => ?_)
            · refine lv_iconst (v := (-1)) hx hb dX8_behind_75 (by decide) ?_
              rw [← hQ]
              exact W.iret (v := (-1)) hx hb hr (fun t ht hW => ⟨_, rfl, (by rw [h35]; simp only [j_bh_mid]; (repeat' split) <;> first | rfl | contradiction), ht⟩) (fun _ h => by cases h) dX8_behind_76
            · refine lv_iload hx hb dX8_behind_69 (lv_at hl 3 rfl) ?_
              refine lv_iconst (v := 3) hx hb dX8_behind_71 (by decide) ?_
              refine lv_icmp_ge (tgt := 77) hx hb dX8_behind_72 (by decide) (fun c_72 => ?_) (fun c_72 => ?_)
              · exact lab77 col r g u (by rw [h35]; simp only [j_bh_mid]; (repeat' split) <;> first | rfl | contradiction) ls (lv_sub hl [0, 1, 2, 3, 4, 5] rfl)
              · refine lv_iconst (v := (-1)) hx hb dX8_behind_75 (by decide) ?_
                rw [← hQ]
                exact W.iret (v := (-1)) hx hb hr (fun t ht hW => ⟨_, rfl, (by rw [h35]; simp only [j_bh_mid]; (repeat' split) <;> first | rfl | contradiction), ht⟩) (fun _ h => by cases h) dX8_behind_76
  refine lv_iload_n hx hb dX8_behind_0 rfl (lv_at hl 1 rfl) ?_
  refine lv_iconst (v := 4) hx hb dX8_behind_1 (by decide) ?_
  refine lv_irem hx hb dX8_behind_2 (by decide) ?_
  refine lv_topi (fun x3 ex3 => ?_)
  refine lv_istore (lv' := [(4, .int x3), (0, .int mk), (1, .int card), (2, .int pl), (3, .int bj)]) hx hb dX8_behind_3 hl (by decide) rfl (fun ls hl => ?_)
  refine lv_iload_n hx hb dX8_behind_5 rfl (lv_at hl 1 rfl) ?_
  refine lv_iload hx hb dX8_behind_6 (lv_at hl 0 rfl) ?_
  refine vp_callSi (W.runS (As := [.int mk, .int x3]) (rest := []) ⟨hx, hb, hml, hown, hts⟩ (k_X8_run l mk x3 ) (va_cwS 2 hts gX8_behind_X8_run rfl rfl rfl (by decide +kernel) ⟨Nat.le_of_ble_eq_true rfl, Nat.le_of_ble_eq_true rfl⟩) ⟨pS_fb, pS_pre⟩ rfl rfl hl.1 rfl (lv_room (Nat.le_of_ble_eq_true rfl)) dX8_behind_8 ⟨Nat.le_of_ble_eq_true rfl, Nat.le_of_ble_eq_true rfl⟩) (fun x8 hx8 => ?_)
  subst hx8
  refine lv_topi (fun x11 ex11 => ?_)
  refine lv_istore (lv' := [(5, .int x11), (4, .int x3), (0, .int mk), (1, .int card), (2, .int pl), (3, .int bj)]) hx hb dX8_behind_11 hl (by decide) rfl (fun ls hl => ?_)
  refine lv_iload_n hx hb dX8_behind_13 rfl (lv_at hl 2 rfl) ?_
  refine vp_callSi (W.runS (As := [.int mk]) (rest := []) ⟨hx, hb, hml, hown, hts⟩ (k_X8_inGroup l mk ) (va_cwS 1 hts gX8_behind_X8_inGroup rfl rfl rfl (by decide +kernel) ⟨Nat.le_of_ble_eq_true rfl, Nat.le_of_ble_eq_true rfl⟩) ⟨pS_fb, pS_pre⟩ rfl rfl hl.1 rfl (lv_room (Nat.le_of_ble_eq_true rfl)) dX8_behind_14 ⟨Nat.le_of_ble_eq_true rfl, Nat.le_of_ble_eq_true rfl⟩) (fun x14 hx14 => ?_)
  subst hx14
  refine lv_topi (fun x17 ex17 => ?_)
  refine lv_istore (lv' := [(6, .int x17), (5, .int x11), (4, .int x3), (0, .int mk), (1, .int card), (2, .int pl), (3, .int bj)]) hx hb dX8_behind_17 hl (by decide) rfl (fun ls hl => ?_)
  refine lv_iload_n hx hb dX8_behind_19 rfl (lv_at hl 3 rfl) ?_
  refine vp_callSi (W.runS (As := [.int mk]) (rest := []) ⟨hx, hb, hml, hown, hts⟩ (k_X8_jokers l mk ) (va_cwS 1 hts gX8_behind_X8_jokers rfl rfl rfl (by decide +kernel) ⟨Nat.le_of_ble_eq_true rfl, Nat.le_of_ble_eq_true rfl⟩) ⟨pS_fb, pS_pre⟩ rfl rfl hl.1 rfl (lv_room (Nat.le_of_ble_eq_true rfl)) dX8_behind_20 ⟨Nat.le_of_ble_eq_true rfl, Nat.le_of_ble_eq_true rfl⟩) (fun x20 hx20 => ?_)
  subst hx20
  refine lv_iload_n hx hb dX8_behind_23 rfl (lv_at hl 6 rfl) ?_
  refine lv_if_eq (tgt := 31) hx hb dX8_behind_24 (by decide) (fun c_24 => ?_) (fun c_24 => ?_)
  · refine lv_iconst (v := 0) hx hb dX8_behind_31 (by decide) ?_
    refine lv_iadd hx hb dX8_behind_32 ?_
    refine lv_topi (fun x33 ex33 => ?_)
    refine lv_istore (lv' := [(7, .int x33), (6, .int x17), (5, .int x11), (4, .int x3), (0, .int mk), (1, .int card), (2, .int pl), (3, .int bj)]) hx hb dX8_behind_33 hl (by decide) rfl (fun ls hl => ?_)
    exact lab35 x3 x11 x17 x33 (by subst_vars; simp only [j_X8_behind]; (repeat' split) <;> first | rfl | contradiction) ls (lv_sub hl [4, 6, 3, 2, 1, 0] rfl)
  · refine lv_iconst (v := 1) hx hb dX8_behind_27 (by decide) ?_
    refine lv_goto (tgt := 32) hx hb dX8_behind_28 (by decide) ?_
    refine lv_iadd hx hb dX8_behind_32 ?_
    refine lv_topi (fun x33 ex33 => ?_)
    refine lv_istore (lv' := [(7, .int x33), (6, .int x17), (5, .int x11), (4, .int x3), (0, .int mk), (1, .int card), (2, .int pl), (3, .int bj)]) hx hb dX8_behind_33 hl (by decide) rfl (fun ls hl => ?_)
    exact lab35 x3 x11 x17 x33 (by subst_vars; simp only [j_X8_behind]; (repeat' split) <;> first | rfl | contradiction) ls (lv_sub hl [4, 6, 3, 2, 1, 0] rfl)
end
section
/-- the shuffle: what s is and which card lies where, behind n steps -/
def shN (seed : Nat) : Nat → Nat × (Nat → Nat)
  | 0 => (seed, fun k => k)
  | n + 1 => (48271 * (shN seed n).1 % 2147483647, fun k => if k = 48271 * (shN seed n).1 % 2147483647 % (53 - n + 1) then (shN seed n).2 (53 - n) else if k = 53 - n then (shN seed n).2 (48271 * (shN seed n).1 % 2147483647 % (53 - n + 1)) else (shN seed n).2 k)
theorem shN_lt {sd : Nat} (h : sd < 2147483647) : ∀ n, (shN sd n).1 < 2147483647
  | 0 => h
  | n + 1 => Nat.mod_lt _ (by decide)
theorem shN_card {sd : Nat} : ∀ n, n ≤ 53 → ∀ k, k < 54 → (shN sd n).2 k < 54
  | 0, _, k, h => h
  | n + 1, hn, k, h => by
    show (if _ then _ else if _ then _ else _) < 54
    have hm : 48271 * (shN sd n).1 % 2147483647 % (53 - n + 1) < 54 := Nat.lt_of_lt_of_le (Nat.mod_lt _ (Nat.succ_pos _)) (by omega)
    split
    · exact shN_card n (by omega) _ (by omega)
    · split
      · exact shN_card n (by omega) _ hm
      · exact shN_card n (by omega) k h
theorem hp_id {f g : Nat → Int32} {x : Int32} {i : Nat} (e : upd f x.toNatClampNeg x = g) (hx : x = nI i) (hi : i < 2 ^ 31) (h : ∀ k, k < i → f k = nI k) : ∀ k, k < i + 1 → g k = nI k := by
  intro k hk
  subst e; subst hx
  rw [nI_clamp hi]
  by_cases q : k = i
  · subst q; exact pk_us
  · rw [pk_un q]; exact h k (by omega)
theorem lN_lit (n : Nat) : (OfNat.ofNat n : Int64) = lN n := rfl
theorem hp_lcg {a : Nat} (h : a < 2147483647) : (48271 : Int64) * lN a - (48271 : Int64) * lN a / 2147483647 * 2147483647 = lN (48271 * a % 2147483647) := by
  rw [show (48271 : Int64) = lN 48271 from rfl, show (2147483647 : Int64) = lN 2147483647 from rfl, lN_mul]
  exact pk_lRem (by omega) (by decide) (by decide)
theorem hp_mod {a i : Nat} {x : Int32} (hx : x = nI i) (h : a < 2147483647) (hi : i < 100) : (lN a - lN a / (x + 1).toInt64 * (x + 1).toInt64).toInt32 = nI (a % (i + 1)) := by
  subst hx
  rw [nI_1, nI_l (by omega), pk_lRem (by omega) (by omega) (by omega), lN_i]
theorem hp_nz {i : Nat} {x : Int32} (hx : x = nI i) (hi : i < 100) : ¬ (x + 1).toInt64 = 0 := by
  subst hx
  rw [nI_1, nI_l (by omega)]
  intro h
  have := (lN_eq (a := i + 1) (b := 0) (by omega) (by decide)).mp h
  omega
theorem hp_down {x z : Int32} {n : Nat} (hz : z = x + (-1)) (hx : x = nI (53 - n)) (hn : n < 53) : z = nI (53 - (n + 1)) := by
  rw [hz, hx, show 53 - n = (53 - (n + 1)) + 1 by omega]
  exact pk_m1 _
theorem hp_lt1 {x : Int32} {n : Nat} (hx : x = nI (53 - n)) (hn : n ≤ 53) (h : x < 1) : n = 53 := by
  rw [hx, show (1 : Int32) = nI 1 from rfl, nI_ltI (by omega) (by decide)] at h; omega
theorem hp_nlt1 {x : Int32} {n : Nat} (hx : x = nI (53 - n)) (hn : n ≤ 53) (h : ¬ x < 1) : n < 53 := by
  rw [hx, show (1 : Int32) = nI 1 from rfl, nI_ltI (by omega) (by decide)] at h; omega
theorem hp_swap {f g h : Nat → Int32} {sd n : Nat} {x y c : Int32} (hx : x = nI (53 - n)) (hy : y = nI (48271 * (shN sd n).1 % 2147483647 % (53 - n + 1))) (hc : c = f x.toNatClampNeg) (e1 : upd f x.toNatClampNeg (f y.toNatClampNeg) = g) (e2 : upd g y.toNatClampNeg c = h) (hn : n < 53) (hf : ∀ k, k < 54 → f k = nI ((shN sd n).2 k)) : ∀ k, k < 54 → h k = nI ((shN sd (n + 1)).2 k) := by
  intro k hk
  have hm : 48271 * (shN sd n).1 % 2147483647 % (53 - n + 1) < 54 := Nat.lt_of_lt_of_le (Nat.mod_lt _ (Nat.succ_pos _)) (by omega)
  subst e1; subst e2; subst hc; subst hx; subst hy
  rw [nI_clamp (by omega), nI_clamp (by omega)]
  show _ = nI (if _ then _ else if _ then _ else _)
  by_cases q : k = 48271 * (shN sd n).1 % 2147483647 % (53 - n + 1)
  · rw [if_pos q, q, pk_us]; exact hf _ (by omega)
  · rw [if_neg q, pk_un q]
    by_cases q2 : k = 53 - n
    · rw [if_pos q2, q2, pk_us]; exact hf _ hm
    · rw [if_neg q2, pk_un q2]; exact hf k hk
def j_has (np : Nat) (pl : Int32) : Int32 := if pl < 0 then 0 else if nI np ≤ pl then 0 else if 4 ≤ pl then 0 else 1
theorem j_has_in {np : Nat} {pl : Int32} (h : ¬ j_has np pl = 0) : vp_in pl 4 := by
  simp only [j_has] at h
  split at h
  · exact absurd rfl h
  · split at h
    · exact absurd rfl h
    · split at h
      · exact absurd rfl h
      · rename_i h1 _ h3
        rw [vp_in_iff]
        rw [Int32.lt_iff_toInt_lt] at h1
        rw [Int32.le_iff_toInt_le] at h3
        have e0 : (0 : Int32).toInt = 0 := by decide
        have e4 : (4 : Int32).toInt = 4 := by decide
        omega
theorem j_has_ok {np k : Nat} (h : k < np) (hn : np ≤ 4) : j_has np (nI k) = 1 := by
  simp only [j_has]
  rw [if_neg (nI_pos (by omega)), if_neg (nI_ge h (by omega)), if_neg (show ¬ (4 : Int32) ≤ nI k from nI_ge (b := 4) (by omega) (by decide))]
/-- the hand of n cards from place t on -/
def hdL (f : Nat → Nat) (t : Nat) : Nat → Int64
  | 0 => 0
  | n + 1 => hdL f t n ||| j_X1_bitOf (nI (f (t + n)))
def j_fact (np : Nat) (tp tn te lay ov win : Int32) (wh : Int) : Int32 := if wh = 0 then tn else if wh = 1 then 54 - tp else if wh = 2 then (if ov = 0 then 0 else 1) else if wh = 3 then win else if wh = 4 then te else if wh = 5 then lay else nI np
theorem j_fact_big {np : Nat} {tp tn te lay ov win : Int32} {wh : Int} (h : wh < 0 ∨ 5 < wh) : nI np = j_fact np tp tn te lay ov win wh := by
  simp only [j_fact]
  rw [if_neg (by omega), if_neg (by omega), if_neg (by omega), if_neg (by omega), if_neg (by omega), if_neg (by omega)]
theorem cmp_eq {x y : Int64} : lg_cmp x y = 0 ↔ x = y := by
  unfold lg_cmp
  constructor
  · intro h
    split at h
    · exact absurd h (by decide)
    · split at h
      · assumption
      · exact absurd h (by decide)
  · intro h; subst h
    rw [if_neg (Int64.lt_irrefl), if_pos rfl]
theorem hp_cz {x : Int64} (h : x = 0) : lg_cmp x 0 = 0 := cmp_eq.mpr h
theorem hp_cz2 {x y : Int64} (h : lg_cmp x 0 = 0) (e : x = y) : y = 0 := by rw [← e]; exact cmp_eq.mp h
set_option maxHeartbeats 4000000 in
set_option maxRecDepth 100000 in
theorem k_X1_shuffle (l : Launch) (D : va_G) (cI cJ cZ : ClassId) (sz : Nat) (g ha oa pa : Nat) (pl0 tp0 tn0 te lay idl ov win : Int32) (ly : Int64) (sd : Nat) (pf : Nat → Int32) (hs1 : 1 ≤ sd) (hs2 : sd < 2147483647) : Met l yX1_shuffle wsX1_shuffle ({ frames := 0, cells := 0, slots := 0, locals := 0 } : Room) (va_Pc [.ref g, .int (nI sd)] (wM D cI cJ cZ sz [(g, .inr (0, [.ref ha, .ref oa, .ref pa, .int pl0, .int tp0, .long ly, .int tn0, .int te, .int lay, .int idl, .int ov, .int win])), (pa, .inl (cI, 54, .inl pf))])) (va_Qv (fun (u : (Nat → Int32)) => match u with | pf2 => (∀ k, k < 54 → pf2 k = nI ((shN sd 53).2 k))) (fun (u : (Nat → Int32)) t => match u with | pf2 => wB D (va_A [(g, .inr (0, [.ref ha, .ref oa, .ref pa, .int pl0, .int tp0, .long ly, .int tn0, .int te, .int lay, .int idl, .int ov, .int win])), (pa, .inl (cI, 54, .inl pf))] sz) [(g, .inr (0, [.ref ha, .ref oa, .ref pa, .int pl0, .int tp0, .long ly, .int tn0, .int te, .int lay, .int idl, .int ov, .int win])), (pa, .inl (cI, 54, .inl pf2))] t) (va_A [(g, .inr (0, [.ref ha, .ref oa, .ref pa, .int pl0, .int tp0, .long ly, .int tn0, .int te, .int lay, .int idl, .int ov, .int win])), (pa, .inl (cI, 54, .inl pf))] sz)) 0 0 (va_A [(g, .inr (0, [.ref ha, .ref oa, .ref pa, .int pl0, .int tp0, .long ly, .int tn0, .int te, .int lay, .int idl, .int ov, .int win])), (pa, .inl (cI, 54, .inl pf))] sz) := by
  refine Met.ofW (cc := cX1_shuffle) (maxL := 7) (ret := none) (by decide) rfl ?_
  intro p e s m args below meth c s₁ B hml hv
  obtain ⟨hargs, hsz, hP, ⟨hK, hN⟩, hD0⟩ := hv
  have hx := B.exec
  have hb := B.bytes
  have hr := B.returns
  have hlocks := B.notSynchronized
  have hts := atoms_spec (ws := wsX1_shuffle) B.pre
  have hown : s.vm.findClass RX1 = some m.cls := findClass_of_methodNamed B.named
  have k71 := hts (.constantLong RX1 71 (48271)) (by decide +kernel)
  have k73 := hts (.constantLong RX1 73 (2147483647)) (by decide +kernel)
  have k19 := hts (.fieldLink RX1 19 "RummyTable$Game" "pack" "[I") (by decide +kernel)
  have iX1 : ∀ w ∈ wsX10, w ∈ wsX1_shuffle := by decide +kernel
  subst hsz
  have hD := hD0.self (sz := s.heap.size)
  generalize hAe : va_A [(g, .inr (0, [.ref ha, .ref oa, .ref pa, .int pl0, .int tp0, .long ly, .int tn0, .int te, .int lay, .int idl, .int ov, .int win])), (pa, .inl (cI, 54, .inl pf))] s.heap.size = A at hD ⊢
  have hA : ∀ q : Nat, s.heap.size ≤ q → A q := fun q h => by rw [← hAe]; exact Or.inr h
  have hS : va_S A s.heap s.heap [] := va_S.rf
  rw [show entryFrame m args 7 = entryFrame m ([.ref g, .int (nI sd)] : List Value).toArray 7 from by rw [hargs]]
  have hl := lv_entry ([.ref g, .int (nI sd)]) (n := 7) (Nat.le_of_ble_eq_true rfl)
  rw [lg_entry_eq]
  generalize (lg_sl ([.ref g, .int (nI sd)]) ++ List.replicate (7 - (lg_sl ([.ref g, .int (nI sd)])).length) Slot.unset).toArray = ls at hl ⊢
  have hl : lv_has ls 7 [(0, .ref g), (1, .int (nI sd))] := hl
  refine wQ (fun Q hQ => ?_)
  have lab28 : ∀ fuel28 : Nat, ∀ (n : Nat) (sv : Int64) (x4 : Int32) (pq : Nat → Int32), (h4 : x4 = nI (53 - n)) → (hn : n ≤ 53) → (hsv : sv = lN (shN sd n).1) → (hq : ∀ k, k < 54 → pq k = nI ((shN sd n).2 k)) → (hfu28 : 53 - n < fuel28) → ∀ (H : Heap) (locs : List Loc), va_P D vwCl [(g, .inr (0, [.ref ha, .ref oa, .ref pa, .int pl0, .int tp0, .long ly, .int tn0, .int te, .int lay, .int idl, .int ov, .int win])), (pa, .inl (cI, 54, .inl pq))] H → va_D A [(g, .inr (0, [.ref ha, .ref oa, .ref pa, .int pl0, .int tp0, .long ly, .int tn0, .int te, .int lay, .int idl, .int ov, .int win])), (pa, .inl (cI, 54, .inl pq))] → va_S A s.heap H locs → ∀ ls : Array Slot, lv_has ls 7 [(0, .ref g), (1, .int (nI sd)), (2, .long sv), (4, .int x4)] → W p l e (headSpec wsX1_shuffle ({ frames := 0, cells := 0, slots := 0, locals := 0 } : Room)).room s m args below meth c H locs 0 0 Q (F0 m 28 ls []) := by
    intro fuel28
    induction fuel28 with
    | zero =>
      intro n sv x4 pq h4 hn hsv hq hfu28
      exact absurd hfu28 (Nat.not_lt_zero _)
    | succ fuel28 ih28 =>
      intro n sv x4 pq h4 hn hsv hq hfu28 H locs hP hD hS ls hl
      refine lv_iload hx hb dX1_shuffle_28 (lv_at hl 3 rfl) ?_
      refine lv_iconst (v := 1) hx hb dX1_shuffle_30 (by decide) ?_
      refine lv_icmp_lt (tgt := 92) hx hb dX1_shuffle_31 (by decide) (fun c_31 => ?_) (fun c_31 => ?_)
      · have hn53 := hp_lt1 h4 hn c_31
        subst hn53
        rw [← hQ]
        have hP9 := hP.sub (ws' := [(g, .inr (0, [.ref ha, .ref oa, .ref pa, .int pl0, .int tp0, .long ly, .int tn0, .int te, .int lay, .int idl, .int ov, .int win])), (pa, .inl (cI, 54, .inl pq))]) [0, 1] rfl
        have hD9 := hD.sub (ws' := [(g, .inr (0, [.ref ha, .ref oa, .ref pa, .int pl0, .int tp0, .long ly, .int tn0, .int te, .int lay, .int idl, .int ov, .int win])), (pa, .inl (cI, 54, .inl pq))]) [0, 1] (by decide) rfl
        exact W.vret hx hb hr (fun t ht hW => ⟨⟨pq, rfl, hq, (by show wB D A _ t; exact ⟨by rw [ht]; exact hP9, hD9⟩)⟩, hS.F ht⟩) hS.2.2 dX1_shuffle_92
      · have hlt := hp_nlt1 h4 hn c_31
        have hab := shN_lt hs2 n
        refine lv_ldc2 hx hb hown k71 dX1_shuffle_34 ?_
        refine lv_lload_n hx hb dX1_shuffle_37 rfl (lv_at hl 2 rfl) ?_
        refine lv_lmul hx hb dX1_shuffle_38 ?_
        refine lv_ldc2 hx hb hown k73 dX1_shuffle_39 ?_
        refine lv_lrem hx hb dX1_shuffle_42 (by decide) ?_
        refine lv_topl (fun x43 ex43 => ?_)
        refine lv_lstore_n (lv' := [(2, .long x43), (0, .ref g), (1, .int (nI sd)), (4, .int x4)]) hx hb dX1_shuffle_43 rfl hl (by decide) rfl (fun ls hl => ?_)
        have hs43 : x43 = lN (shN sd (n + 1)).1 := by rw [ex43, hsv]; exact hp_lcg hab
        refine lv_lload_n hx hb dX1_shuffle_44 rfl (lv_at hl 0 rfl) ?_
        refine lv_iload hx hb dX1_shuffle_45 (lv_at hl 3 rfl) ?_
        refine lv_iconst (v := 1) hx hb dX1_shuffle_47 (by decide) ?_
        refine lv_iadd hx hb dX1_shuffle_48 ?_
        refine lv_i2l hx hb dX1_shuffle_49 rfl ?_
        refine lv_lrem hx hb dX1_shuffle_50 (hp_nz h4 (by omega)) ?_
        refine lv_l2i hx hb dX1_shuffle_51 rfl ?_
        refine lv_topi (fun x52 ex52 => ?_)
        refine lv_istore (lv' := [(5, .int x52), (2, .long x43), (0, .ref g), (1, .int (nI sd)), (4, .int x4)]) hx hb dX1_shuffle_52 hl (by decide) rfl (fun ls hl => ?_)
        have hj : x52 = nI (48271 * (shN sd n).1 % 2147483647 % (53 - n + 1)) := by rw [ex52, hs43]; exact hp_mod h4 (shN_lt hs2 (n + 1)) (by omega)
        have hmm : 48271 * (shN sd n).1 % 2147483647 % (53 - n + 1) < 54 := Nat.lt_of_lt_of_le (Nat.mod_lt _ (Nat.succ_pos _)) (by omega)
        refine lv_aload_n hx hb dX1_shuffle_54 rfl (lv_at hl 2 rfl) ?_
        refine va_get (D := D) (ci := 0) (v := .ref pa) (C := RX1) (T := TX1) (N := 12) hx hb hts iX1 hown hK hP 0 rfl rfl 2 (by decide) k19 (fun _ h9 => h9) rfl dX1_shuffle_55 ?_
        refine lv_iload hx hb dX1_shuffle_58 (lv_at hl 4 rfl) ?_
        refine va_iald hx hb hK hP 1 0 rfl rfl (by rw [h4]; exact vp_in_nI (by omega) (by decide)) dX1_shuffle_60 ?_
        refine lv_topi (fun x61 ex61 => ?_)
        refine lv_istore (lv' := [(6, .int x61), (5, .int x52), (2, .long x43), (0, .ref g), (1, .int (nI sd)), (4, .int x4)]) hx hb dX1_shuffle_61 hl (by decide) rfl (fun ls hl => ?_)
        refine lv_aload_n hx hb dX1_shuffle_63 rfl (lv_at hl 3 rfl) ?_
        refine va_get (D := D) (ci := 0) (v := .ref pa) (C := RX1) (T := TX1) (N := 12) hx hb hts iX1 hown hK hP 0 rfl rfl 2 (by decide) k19 (fun _ h9 => h9) rfl dX1_shuffle_64 ?_
        refine lv_iload hx hb dX1_shuffle_67 (lv_at hl 5 rfl) ?_
        refine lv_aload_n hx hb dX1_shuffle_69 rfl (lv_at hl 3 rfl) ?_
        refine va_get (D := D) (ci := 0) (v := .ref pa) (C := RX1) (T := TX1) (N := 12) hx hb hts iX1 hown hK hP 0 rfl rfl 2 (by decide) k19 (fun _ h9 => h9) rfl dX1_shuffle_70 ?_
        refine lv_iload hx hb dX1_shuffle_73 (lv_at hl 1 rfl) ?_
        refine va_iald hx hb hK hP 1 0 rfl rfl (by rw [hj]; exact vp_in_nI hmm (by decide)) dX1_shuffle_75 ?_
        refine va_iast hx hb hK hP hD hS 1 0 rfl rfl (by rw [h4]; exact vp_in_nI (by omega) (by decide)) dX1_shuffle_76 (fun H locs hP hD hS => ?_)
        have hP : va_P D vwCl [(g, .inr (0, [.ref ha, .ref oa, .ref pa, .int pl0, .int tp0, .long ly, .int tn0, .int te, .int lay, .int idl, .int ov, .int win])), (pa, .inl (cI, 54, .inl (upd pq x4.toNatClampNeg (pq x52.toNatClampNeg))))] H := hP
        have hD : va_D A [(g, .inr (0, [.ref ha, .ref oa, .ref pa, .int pl0, .int tp0, .long ly, .int tn0, .int te, .int lay, .int idl, .int ov, .int win])), (pa, .inl (cI, 54, .inl (upd pq x4.toNatClampNeg (pq x52.toNatClampNeg))))] := hD
        generalize ex76 : upd pq x4.toNatClampNeg (pq x52.toNatClampNeg) = x76 at hP hD
        refine lv_aload_n hx hb dX1_shuffle_77 rfl (lv_at hl 3 rfl) ?_
        refine va_get (D := D) (ci := 0) (v := .ref pa) (C := RX1) (T := TX1) (N := 12) hx hb hts iX1 hown hK hP 0 rfl rfl 2 (by decide) k19 (fun _ h9 => h9) rfl dX1_shuffle_78 ?_
        refine lv_iload hx hb dX1_shuffle_81 (lv_at hl 1 rfl) ?_
        refine lv_iload hx hb dX1_shuffle_83 (lv_at hl 0 rfl) ?_
        refine va_iast hx hb hK hP hD hS 1 0 rfl rfl (by rw [hj]; exact vp_in_nI hmm (by decide)) dX1_shuffle_85 (fun H locs hP hD hS => ?_)
        have hP : va_P D vwCl [(g, .inr (0, [.ref ha, .ref oa, .ref pa, .int pl0, .int tp0, .long ly, .int tn0, .int te, .int lay, .int idl, .int ov, .int win])), (pa, .inl (cI, 54, .inl (upd x76 x52.toNatClampNeg x61)))] H := hP
        have hD : va_D A [(g, .inr (0, [.ref ha, .ref oa, .ref pa, .int pl0, .int tp0, .long ly, .int tn0, .int te, .int lay, .int idl, .int ov, .int win])), (pa, .inl (cI, 54, .inl (upd x76 x52.toNatClampNeg x61)))] := hD
        generalize ex85 : upd x76 x52.toNatClampNeg x61 = x85 at hP hD
        obtain ⟨x86, ex86⟩ : ∃ y : Int32, y = x4 + (-1) := ⟨_, rfl⟩
        refine lv_iinc (v := x86) (lv' := [(4, .int x86), (6, .int x61), (5, .int x52), (2, .long x43), (0, .ref g), (1, .int (nI sd))]) hx hb dX1_shuffle_86 hl (k := 5) rfl (by rw [ex86]; rfl) (by decide) rfl (fun ls hl => ?_)
        refine lv_goto (tgt := 28) hx hb dX1_shuffle_89 (by decide) ?_
        exact ih28 (n + 1) x43 x86 x85 (hp_down ex86 h4 hlt) (by omega) (hs43) (hp_swap h4 hj ex61 ex76 ex85 hlt hq) (by omega) _ _ hP hD hS ls (lv_sub hl [4, 5, 3, 0] rfl)
  have lab2 : ∀ fuel2 : Nat, ∀ (i : Nat) (x2 : Int32) (pq : Nat → Int32), (h2 : x2 = nI i) → (hi : i ≤ 54) → (hf : ∀ k, k < i → pq k = nI k) → (hfu2 : 54 - i < fuel2) → ∀ (H : Heap) (locs : List Loc), va_P D vwCl [(g, .inr (0, [.ref ha, .ref oa, .ref pa, .int pl0, .int tp0, .long ly, .int tn0, .int te, .int lay, .int idl, .int ov, .int win])), (pa, .inl (cI, 54, .inl pq))] H → va_D A [(g, .inr (0, [.ref ha, .ref oa, .ref pa, .int pl0, .int tp0, .long ly, .int tn0, .int te, .int lay, .int idl, .int ov, .int win])), (pa, .inl (cI, 54, .inl pq))] → va_S A s.heap H locs → ∀ ls : Array Slot, lv_has ls 7 [(0, .ref g), (1, .int (nI sd)), (2, .int x2)] → W p l e (headSpec wsX1_shuffle ({ frames := 0, cells := 0, slots := 0, locals := 0 } : Room)).room s m args below meth c H locs 0 0 Q (F0 m 2 ls []) := by
    intro fuel2
    induction fuel2 with
    | zero =>
      intro i x2 pq h2 hi hf hfu2
      exact absurd hfu2 (Nat.not_lt_zero _)
    | succ fuel2 ih2 =>
      intro i x2 pq h2 hi hf hfu2 H locs hP hD hS ls hl
      refine lv_iload_n hx hb dX1_shuffle_2 rfl (lv_at hl 2 rfl) ?_
      refine lv_bipush (v := 54) hx hb dX1_shuffle_3 (by decide) ?_
      refine lv_icmp_ge (tgt := 21) hx hb dX1_shuffle_5 (by decide) (fun c_5 => ?_) (fun c_5 => ?_)
      · have hi54 := hp_ge h2 (by decide : (54 : Int32) = nI 54) hi (by decide) c_5
        subst hi54
        refine lv_iload_n hx hb dX1_shuffle_21 rfl (lv_at hl 1 rfl) ?_
        refine lv_i2l hx hb dX1_shuffle_22 rfl ?_
        refine lv_topl (fun x23 ex23 => ?_)
        refine lv_lstore_n (lv' := [(2, .long x23), (0, .ref g), (1, .int (nI sd))]) hx hb dX1_shuffle_23 rfl hl (by decide) rfl (fun ls hl => ?_)
        refine lv_bipush (v := 53) hx hb dX1_shuffle_24 (by decide) ?_
        refine lv_istore (lv' := [(4, .int 53), (2, .long x23), (0, .ref g), (1, .int (nI sd))]) hx hb dX1_shuffle_26 hl (by decide) rfl (fun ls hl => ?_)
        exact lab28 _ 0 x23 53 pq (rfl) (by omega) (by rw [ex23]; exact nI_l (by omega)) (fun k hk => hf k hk) (Nat.lt_succ_self _) _ _ hP hD hS ls (lv_sub hl [2, 3, 1, 0] rfl)
      · have hlt := hp_lt h2 (by decide : (54 : Int32) = nI 54) hi (by decide) c_5
        refine lv_aload_n hx hb dX1_shuffle_8 rfl (lv_at hl 0 rfl) ?_
        refine va_get (D := D) (ci := 0) (v := .ref pa) (C := RX1) (T := TX1) (N := 12) hx hb hts iX1 hown hK hP 0 rfl rfl 2 (by decide) k19 (fun _ h9 => h9) rfl dX1_shuffle_9 ?_
        refine lv_iload_n hx hb dX1_shuffle_12 rfl (lv_at hl 2 rfl) ?_
        refine lv_iload_n hx hb dX1_shuffle_13 rfl (lv_at hl 2 rfl) ?_
        refine va_iast hx hb hK hP hD hS 1 0 rfl rfl (by rw [h2]; exact vp_in_nI hlt (by decide)) dX1_shuffle_14 (fun H locs hP hD hS => ?_)
        have hP : va_P D vwCl [(g, .inr (0, [.ref ha, .ref oa, .ref pa, .int pl0, .int tp0, .long ly, .int tn0, .int te, .int lay, .int idl, .int ov, .int win])), (pa, .inl (cI, 54, .inl (upd pq x2.toNatClampNeg x2)))] H := hP
        have hD : va_D A [(g, .inr (0, [.ref ha, .ref oa, .ref pa, .int pl0, .int tp0, .long ly, .int tn0, .int te, .int lay, .int idl, .int ov, .int win])), (pa, .inl (cI, 54, .inl (upd pq x2.toNatClampNeg x2)))] := hD
        generalize ex14 : upd pq x2.toNatClampNeg x2 = x14 at hP hD
        obtain ⟨x15, ex15⟩ : ∃ y : Int32, y = x2 + 1 := ⟨_, rfl⟩
        refine lv_iinc (v := x15) (lv' := [(2, .int x15), (0, .ref g), (1, .int (nI sd))]) hx hb dX1_shuffle_15 hl (k := 2) rfl (by rw [ex15]; rfl) (by decide) rfl (fun ls hl => ?_)
        refine lv_goto (tgt := 2) hx hb dX1_shuffle_18 (by decide) ?_
        exact ih2 (i + 1) x15 x14 (hp_s ex15 h2) (by omega) (hp_id ex14 h2 (by omega) hf) (by omega) _ _ hP hD hS ls (lv_sub hl [1, 2, 0] rfl)
  refine lv_iconst (v := 0) hx hb dX1_shuffle_0 (by decide) ?_
  refine lv_istore_n (lv' := [(2, .int 0), (0, .ref g), (1, .int (nI sd))]) hx hb dX1_shuffle_1 rfl hl (by decide) rfl (fun ls hl => ?_)
  exact lab2 _ 0 0 pf (nI_0.symm) (by omega) (fun k h => absurd h (Nat.not_lt_zero k)) (Nat.lt_succ_self _) _ _ hP hD hS ls (lv_sub hl [1, 2, 0] rfl)

set_option maxHeartbeats 4000000 in
set_option maxRecDepth 100000 in
theorem k_X1_has (l : Launch) (D : va_G) (cI cJ cZ : ClassId) (g ha oa pa : Nat) (np : Nat) (tp0 tn0 te lay idl ov win : Int32) (ly : Int64) (plr : Int32)  : Met l yX1_has wsX1_has ({ frames := 0, cells := 0, slots := 0, locals := 0 } : Room) (va_Pc [.ref g, .int plr] (wR D cI cJ cZ [(g, .inr (0, [.ref ha, .ref oa, .ref pa, .int (nI np), .int tp0, .long ly, .int tn0, .int te, .int lay, .int idl, .int ov, .int win]))])) (vp_Si (fun r => r = j_has np plr)) 0 0 (fun _ => False) := by
  refine Met.ofW (cc := cX1_has) (maxL := 2) (ret := (some .boolean)) (by decide) rfl ?_
  intro p e s m args below meth c s₁ B hml hv
  obtain ⟨hargs, hP, hK, hN⟩ := hv
  have hx := B.exec
  have hb := B.bytes
  have hr := B.returns
  have hlocks := B.notSynchronized
  have hts := atoms_spec (ws := wsX1_has) B.pre
  have hown : s.vm.findClass RX1 = some m.cls := findClass_of_methodNamed B.named
  have k33 := hts (.fieldLink RX1 33 "RummyTable$Game" "players" "I") (by decide +kernel)
  have iX1 : ∀ w ∈ wsX10, w ∈ wsX1_has := by decide +kernel
  rw [show entryFrame m args 2 = entryFrame m ([.ref g, .int plr] : List Value).toArray 2 from by rw [hargs]]
  have hl := lv_entry ([.ref g, .int plr]) (n := 2) (Nat.le_of_ble_eq_true rfl)
  rw [lg_entry_eq]
  generalize (lg_sl ([.ref g, .int plr]) ++ List.replicate (2 - (lg_sl ([.ref g, .int plr])).length) Slot.unset).toArray = ls at hl ⊢
  have hl : lv_has ls 2 [(0, .ref g), (1, .int plr)] := hl
  refine wQ (fun Q hQ => ?_)
  refine lv_iload_n hx hb dX1_has_0 rfl (lv_at hl 1 rfl) ?_
  refine lv_if_lt (tgt := 21) hx hb dX1_has_1 (by decide) (fun c_1 => ?_) (fun c_1 => ?_)
  · refine lv_iconst (v := 0) hx hb dX1_has_21 (by decide) ?_
    rw [← hQ]
    exact W.zret (v := 0) hx hb hr (by first | decide | rfl | assumption) (fun t ht hW => ⟨_, rfl, (by simp only [j_has]; (repeat' split) <;> first | rfl | contradiction), ht⟩) (fun _ h => by cases h) dX1_has_22
  · refine lv_iload_n hx hb dX1_has_4 rfl (lv_at hl 1 rfl) ?_
    refine lv_aload_n hx hb dX1_has_5 rfl (lv_at hl 0 rfl) ?_
    refine va_get (D := D) (ci := 0) (v := .int (nI np)) (C := RX1) (T := TX1) (N := 12) hx hb hts iX1 hown hK hP 0 rfl rfl 3 (by decide) k33 (fun _ h9 => h9) rfl dX1_has_6 ?_
    refine lv_icmp_ge (tgt := 21) hx hb dX1_has_9 (by decide) (fun c_9 => ?_) (fun c_9 => ?_)
    · refine lv_iconst (v := 0) hx hb dX1_has_21 (by decide) ?_
      rw [← hQ]
      exact W.zret (v := 0) hx hb hr (by first | decide | rfl | assumption) (fun t ht hW => ⟨_, rfl, (by simp only [j_has]; (repeat' split) <;> first | rfl | contradiction), ht⟩) (fun _ h => by cases h) dX1_has_22
    · refine lv_iload_n hx hb dX1_has_12 rfl (lv_at hl 1 rfl) ?_
      refine lv_iconst (v := 4) hx hb dX1_has_13 (by decide) ?_
      refine lv_icmp_ge (tgt := 21) hx hb dX1_has_14 (by decide) (fun c_14 => ?_) (fun c_14 => ?_)
      · refine lv_iconst (v := 0) hx hb dX1_has_21 (by decide) ?_
        rw [← hQ]
        exact W.zret (v := 0) hx hb hr (by first | decide | rfl | assumption) (fun t ht hW => ⟨_, rfl, (by simp only [j_has]; (repeat' split) <;> first | rfl | contradiction), ht⟩) (fun _ h => by cases h) dX1_has_22
      · refine lv_iconst (v := 1) hx hb dX1_has_17 (by decide) ?_
        refine lv_goto (tgt := 22) hx hb dX1_has_18 (by decide) ?_
        rw [← hQ]
        exact W.zret (v := 1) hx hb hr (by first | decide | rfl | assumption) (fun t ht hW => ⟨_, rfl, (by simp only [j_has]; (repeat' split) <;> first | rfl | contradiction), ht⟩) (fun _ h => by cases h) dX1_has_22

set_option maxHeartbeats 4000000 in
set_option maxRecDepth 100000 in
theorem k_X1_isDealt (l : Launch) (D : va_G) (cI cJ cZ : ClassId) (g ha oa pa : Nat) (np : Nat) (tp0 tn0 te lay idl ov win : Int32) (ly : Int64)   : Met l yX1_isDealt wsX1_isDealt ({ frames := 0, cells := 0, slots := 0, locals := 0 } : Room) (va_Pc [.ref g] (wR D cI cJ cZ [(g, .inr (0, [.ref ha, .ref oa, .ref pa, .int (nI np), .int tp0, .long ly, .int tn0, .int te, .int lay, .int idl, .int ov, .int win]))])) (vp_Si (fun r => r = if nI np ≤ 0 then 0 else 1)) 0 0 (fun _ => False) := by
  refine Met.ofW (cc := cX1_isDealt) (maxL := 1) (ret := (some .boolean)) (by decide) rfl ?_
  intro p e s m args below meth c s₁ B hml hv
  obtain ⟨hargs, hP, hK, hN⟩ := hv
  have hx := B.exec
  have hb := B.bytes
  have hr := B.returns
  have hlocks := B.notSynchronized
  have hts := atoms_spec (ws := wsX1_isDealt) B.pre
  have hown : s.vm.findClass RX1 = some m.cls := findClass_of_methodNamed B.named
  have k33 := hts (.fieldLink RX1 33 "RummyTable$Game" "players" "I") (by decide +kernel)
  have iX1 : ∀ w ∈ wsX10, w ∈ wsX1_isDealt := by decide +kernel
  rw [show entryFrame m args 1 = entryFrame m ([.ref g] : List Value).toArray 1 from by rw [hargs]]
  have hl := lv_entry ([.ref g]) (n := 1) (Nat.le_of_ble_eq_true rfl)
  rw [lg_entry_eq]
  generalize (lg_sl ([.ref g]) ++ List.replicate (1 - (lg_sl ([.ref g])).length) Slot.unset).toArray = ls at hl ⊢
  have hl : lv_has ls 1 [(0, .ref g)] := hl
  refine wQ (fun Q hQ => ?_)
  refine lv_aload_n hx hb dX1_isDealt_0 rfl (lv_at hl 0 rfl) ?_
  refine va_get (D := D) (ci := 0) (v := .int (nI np)) (C := RX1) (T := TX1) (N := 12) hx hb hts iX1 hown hK hP 0 rfl rfl 3 (by decide) k33 (fun _ h9 => h9) rfl dX1_isDealt_1 ?_
  refine lv_if_le (tgt := 11) hx hb dX1_isDealt_4 (by decide) (fun c_4 => ?_) (fun c_4 => ?_)
  · refine lv_iconst (v := 0) hx hb dX1_isDealt_11 (by decide) ?_
    rw [← hQ]
    exact W.zret (v := 0) hx hb hr (by first | decide | rfl | assumption) (fun t ht hW => ⟨_, rfl, (by (repeat' split) <;> first | rfl | contradiction), ht⟩) (fun _ h => by cases h) dX1_isDealt_12
  · refine lv_iconst (v := 1) hx hb dX1_isDealt_7 (by decide) ?_
    refine lv_goto (tgt := 12) hx hb dX1_isDealt_8 (by decide) ?_
    rw [← hQ]
    exact W.zret (v := 1) hx hb hr (by first | decide | rfl | assumption) (fun t ht hW => ⟨_, rfl, (by (repeat' split) <;> first | rfl | contradiction), ht⟩) (fun _ h => by cases h) dX1_isDealt_12

set_option maxHeartbeats 4000000 in
set_option maxRecDepth 100000 in
theorem k_X1_handOf (l : Launch) (D : va_G) (cI cJ cZ : ClassId) (g ha oa pa : Nat) (np : Nat) (tp0 tn0 te lay idl ov win : Int32) (ly : Int64) (hf : Nat → Int64) (plr : Int32)  : Met l yX1_handOf wsX1_handOf ({ frames := 1, cells := 0, slots := 0, locals := 21 } : Room) (va_Pc [.ref g, .int plr] (wR D cI cJ cZ [(g, .inr (0, [.ref ha, .ref oa, .ref pa, .int (nI np), .int tp0, .long ly, .int tn0, .int te, .int lay, .int idl, .int ov, .int win])), (ha, .inl (cJ, 4, .inr (.inl hf)))])) (vp_Sl (fun r => r = if j_has np plr = 0 then 0 else hf plr.toNatClampNeg)) 0 0 (fun _ => False) := by
  refine Met.ofW (cc := cX1_handOf) (maxL := 2) (ret := (some .long)) (by decide) rfl ?_
  intro p e s m args below meth c s₁ B hml hv
  obtain ⟨hargs, hP, hK, hN⟩ := hv
  have hx := B.exec
  have hb := B.bytes
  have hr := B.returns
  have hlocks := B.notSynchronized
  have hts := atoms_spec (ws := wsX1_handOf) B.pre
  have hown : s.vm.findClass RX1 = some m.cls := findClass_of_methodNamed B.named
  have k75 := hts (.methodLink RX1 75 yX1_has) (by decide +kernel)
  have k9 := hts (.fieldLink RX1 9 "RummyTable$Game" "hands" "[J") (by decide +kernel)
  have iX1 : ∀ w ∈ wsX10, w ∈ wsX1_handOf := by decide +kernel
  rw [show entryFrame m args 2 = entryFrame m ([.ref g, .int plr] : List Value).toArray 2 from by rw [hargs]]
  have hl := lv_entry ([.ref g, .int plr]) (n := 2) (Nat.le_of_ble_eq_true rfl)
  rw [lg_entry_eq]
  generalize (lg_sl ([.ref g, .int plr]) ++ List.replicate (2 - (lg_sl ([.ref g, .int plr])).length) Slot.unset).toArray = ls at hl ⊢
  have hl : lv_has ls 2 [(0, .ref g), (1, .int plr)] := hl
  refine wQ (fun Q hQ => ?_)
  refine lv_aload_n hx hb dX1_handOf_0 rfl (lv_at hl 0 rfl) ?_
  refine lv_iload_n hx hb dX1_handOf_1 rfl (lv_at hl 1 rfl) ?_
  have hPc := hP.sub (ws' := [(g, .inr (0, [.ref ha, .ref oa, .ref pa, .int (nI np), .int tp0, .long ly, .int tn0, .int te, .int lay, .int idl, .int ov, .int win]))]) [0] rfl
  refine vp_callSi (W.runV (As := [.int plr]) (rest := []) ⟨hx, hb, hml, hown, hts⟩ (k_X1_has l D cI cJ cZ g ha oa pa np tp0 tn0 te lay idl ov win ly plr ) (cwV 1 hts gX1_handOf_X1_has rfl rfl rfl (by decide +kernel) ⟨Nat.le_of_ble_eq_true rfl, Nat.le_of_ble_eq_true rfl⟩) ⟨wR_fb, va_recv hK hPc (ci := 0) (q0 := 0) rfl rfl, wR_pre hPc ⟨hK, hN⟩⟩ rfl rfl hl.1 rfl (lv_room (Nat.le_of_ble_eq_true rfl)) dX1_handOf_2 ⟨Nat.le_of_ble_eq_true rfl, Nat.le_of_ble_eq_true rfl⟩) (fun x2 hx2 => ?_)
  subst hx2
  refine lv_if_eq (tgt := 17) hx hb dX1_handOf_5 (by decide) (fun c_5 => ?_) (fun c_5 => ?_)
  · refine lv_lconst (v := 0) hx hb dX1_handOf_17 (by decide) ?_
    rw [← hQ]
    exact W.lret (v := 0) hx hb hr (fun t ht hW => ⟨_, rfl, (by (repeat' split) <;> first | rfl | contradiction), ht⟩) (fun _ h => by cases h) dX1_handOf_18
  · refine lv_aload_n hx hb dX1_handOf_8 rfl (lv_at hl 0 rfl) ?_
    refine va_get (D := D) (ci := 0) (v := .ref ha) (C := RX1) (T := TX1) (N := 12) hx hb hts iX1 hown hK hP 0 rfl rfl 0 (by decide) k9 (fun _ h9 => h9) rfl dX1_handOf_9 ?_
    refine lv_iload_n hx hb dX1_handOf_12 rfl (lv_at hl 1 rfl) ?_
    refine va_lald hx hb hK hP 1 1 rfl rfl (j_has_in c_5) dX1_handOf_13 ?_
    refine lv_goto (tgt := 18) hx hb dX1_handOf_14 (by decide) ?_
    rw [← hQ]
    exact W.lret (v := hf plr.toNatClampNeg) hx hb hr (fun t ht hW => ⟨_, rfl, (by (repeat' split) <;> first | rfl | contradiction), ht⟩) (fun _ h => by cases h) dX1_handOf_18

set_option maxHeartbeats 4000000 in
set_option maxRecDepth 100000 in
theorem k_X1_hasOpened (l : Launch) (D : va_G) (cI cJ cZ : ClassId) (g ha oa pa : Nat) (np : Nat) (tp0 tn0 te lay idl ov win : Int32) (ly : Int64) (of : Nat → Int32) (plr : Int32)  : Met l yX1_hasOpened wsX1_hasOpened ({ frames := 1, cells := 0, slots := 0, locals := 21 } : Room) (va_Pc [.ref g, .int plr] (wR D cI cJ cZ [(g, .inr (0, [.ref ha, .ref oa, .ref pa, .int (nI np), .int tp0, .long ly, .int tn0, .int te, .int lay, .int idl, .int ov, .int win])), (oa, .inl (cZ, 4, .inl of))])) (vp_Si (fun r => r = if j_has np plr = 0 then 0 else if of plr.toNatClampNeg = 0 then 0 else 1)) 0 0 (fun _ => False) := by
  refine Met.ofW (cc := cX1_hasOpened) (maxL := 2) (ret := (some .boolean)) (by decide) rfl ?_
  intro p e s m args below meth c s₁ B hml hv
  obtain ⟨hargs, hP, hK, hN⟩ := hv
  have hx := B.exec
  have hb := B.bytes
  have hr := B.returns
  have hlocks := B.notSynchronized
  have hts := atoms_spec (ws := wsX1_hasOpened) B.pre
  have hown : s.vm.findClass RX1 = some m.cls := findClass_of_methodNamed B.named
  have k75 := hts (.methodLink RX1 75 yX1_has) (by decide +kernel)
  have k15 := hts (.fieldLink RX1 15 "RummyTable$Game" "opened" "[Z") (by decide +kernel)
  have iX1 : ∀ w ∈ wsX10, w ∈ wsX1_hasOpened := by decide +kernel
  rw [show entryFrame m args 2 = entryFrame m ([.ref g, .int plr] : List Value).toArray 2 from by rw [hargs]]
  have hl := lv_entry ([.ref g, .int plr]) (n := 2) (Nat.le_of_ble_eq_true rfl)
  rw [lg_entry_eq]
  generalize (lg_sl ([.ref g, .int plr]) ++ List.replicate (2 - (lg_sl ([.ref g, .int plr])).length) Slot.unset).toArray = ls at hl ⊢
  have hl : lv_has ls 2 [(0, .ref g), (1, .int plr)] := hl
  refine wQ (fun Q hQ => ?_)
  refine lv_aload_n hx hb dX1_hasOpened_0 rfl (lv_at hl 0 rfl) ?_
  refine lv_iload_n hx hb dX1_hasOpened_1 rfl (lv_at hl 1 rfl) ?_
  have hPc := hP.sub (ws' := [(g, .inr (0, [.ref ha, .ref oa, .ref pa, .int (nI np), .int tp0, .long ly, .int tn0, .int te, .int lay, .int idl, .int ov, .int win]))]) [0] rfl
  refine vp_callSi (W.runV (As := [.int plr]) (rest := []) ⟨hx, hb, hml, hown, hts⟩ (k_X1_has l D cI cJ cZ g ha oa pa np tp0 tn0 te lay idl ov win ly plr ) (cwV 1 hts gX1_hasOpened_X1_has rfl rfl rfl (by decide +kernel) ⟨Nat.le_of_ble_eq_true rfl, Nat.le_of_ble_eq_true rfl⟩) ⟨wR_fb, va_recv hK hPc (ci := 0) (q0 := 0) rfl rfl, wR_pre hPc ⟨hK, hN⟩⟩ rfl rfl hl.1 rfl (lv_room (Nat.le_of_ble_eq_true rfl)) dX1_hasOpened_2 ⟨Nat.le_of_ble_eq_true rfl, Nat.le_of_ble_eq_true rfl⟩) (fun x2 hx2 => ?_)
  subst hx2
  refine lv_if_eq (tgt := 21) hx hb dX1_hasOpened_5 (by decide) (fun c_5 => ?_) (fun c_5 => ?_)
  · refine lv_iconst (v := 0) hx hb dX1_hasOpened_21 (by decide) ?_
    rw [← hQ]
    exact W.zret (v := 0) hx hb hr (by first | decide | rfl | assumption) (fun t ht hW => ⟨_, rfl, (by (repeat' split) <;> first | rfl | contradiction), ht⟩) (fun _ h => by cases h) dX1_hasOpened_22
  · refine lv_aload_n hx hb dX1_hasOpened_8 rfl (lv_at hl 0 rfl) ?_
    refine va_get (D := D) (ci := 0) (v := .ref oa) (C := RX1) (T := TX1) (N := 12) hx hb hts iX1 hown hK hP 0 rfl rfl 1 (by decide) k15 (fun _ h9 => h9) rfl dX1_hasOpened_9 ?_
    refine lv_iload_n hx hb dX1_hasOpened_12 rfl (lv_at hl 1 rfl) ?_
    refine va_zald hx hb hK hP 1 2 rfl rfl (j_has_in c_5) dX1_hasOpened_13 ?_
    refine lv_if_eq (tgt := 21) hx hb dX1_hasOpened_14 (by decide) (fun c_14 => ?_) (fun c_14 => ?_)
    · refine lv_iconst (v := 0) hx hb dX1_hasOpened_21 (by decide) ?_
      rw [← hQ]
      exact W.zret (v := 0) hx hb hr (by first | decide | rfl | assumption) (fun t ht hW => ⟨_, rfl, (by (repeat' split) <;> first | rfl | contradiction), ht⟩) (fun _ h => by cases h) dX1_hasOpened_22
    · refine lv_iconst (v := 1) hx hb dX1_hasOpened_17 (by decide) ?_
      refine lv_goto (tgt := 22) hx hb dX1_hasOpened_18 (by decide) ?_
      rw [← hQ]
      exact W.zret (v := 1) hx hb hr (by first | decide | rfl | assumption) (fun t ht hW => ⟨_, rfl, (by (repeat' split) <;> first | rfl | contradiction), ht⟩) (fun _ h => by cases h) dX1_hasOpened_22

set_option maxHeartbeats 4000000 in
set_option maxRecDepth 100000 in
theorem k_X1_fact (l : Launch) (D : va_G) (cI cJ cZ : ClassId) (g ha oa pa : Nat) (np : Nat) (tp0 tn0 te lay idl ov win : Int32) (ly : Int64) (wh : Int32)  : Met l yX1_fact wsX1_fact ({ frames := 0, cells := 0, slots := 0, locals := 0 } : Room) (va_Pc [.ref g, .int wh] (wR D cI cJ cZ [(g, .inr (0, [.ref ha, .ref oa, .ref pa, .int (nI np), .int tp0, .long ly, .int tn0, .int te, .int lay, .int idl, .int ov, .int win]))])) (vp_Si (fun r => r = j_fact np tp0 tn0 te lay ov win wh.toInt)) 0 0 (fun _ => False) := by
  refine Met.ofW (cc := cX1_fact) (maxL := 2) (ret := (some .int)) (by decide) rfl ?_
  intro p e s m args below meth c s₁ B hml hv
  obtain ⟨hargs, hP, hK, hN⟩ := hv
  have hx := B.exec
  have hb := B.bytes
  have hr := B.returns
  have hlocks := B.notSynchronized
  have hts := atoms_spec (ws := wsX1_fact) B.pre
  have hown : s.vm.findClass RX1 = some m.cls := findClass_of_methodNamed B.named
  have k33 := hts (.fieldLink RX1 33 "RummyTable$Game" "players" "I") (by decide +kernel)
  have iX1 : ∀ w ∈ wsX10, w ∈ wsX1_fact := by decide +kernel
  have k52 := hts (.fieldLink RX1 52 "RummyTable$Game" "turn" "I") (by decide +kernel)
  have k37 := hts (.fieldLink RX1 37 "RummyTable$Game" "top" "I") (by decide +kernel)
  have k64 := hts (.fieldLink RX1 64 "RummyTable$Game" "over" "Z") (by decide +kernel)
  have k68 := hts (.fieldLink RX1 68 "RummyTable$Game" "winner" "I") (by decide +kernel)
  have k55 := hts (.fieldLink RX1 55 "RummyTable$Game" "turnsEnded" "I") (by decide +kernel)
  have k58 := hts (.fieldLink RX1 58 "RummyTable$Game" "layings" "I") (by decide +kernel)
  rw [show entryFrame m args 2 = entryFrame m ([.ref g, .int wh] : List Value).toArray 2 from by rw [hargs]]
  have hl := lv_entry ([.ref g, .int wh]) (n := 2) (Nat.le_of_ble_eq_true rfl)
  rw [lg_entry_eq]
  generalize (lg_sl ([.ref g, .int wh]) ++ List.replicate (2 - (lg_sl ([.ref g, .int wh])).length) Slot.unset).toArray = ls at hl ⊢
  have hl : lv_has ls 2 [(0, .ref g), (1, .int wh)] := hl
  refine wQ (fun Q hQ => ?_)
  refine lv_iload_n hx hb dX1_fact_0 rfl (lv_at hl 1 rfl) ?_
  by_cases hlo1 : wh.toInt < 0
  · refine lv_tableOut (tgt := 81) hx hb dX1_fact_1 (Or.inl hlo1) (by decide) ?_
    refine lv_aload_n hx hb dX1_fact_81 rfl (lv_at hl 0 rfl) ?_
    refine va_get (D := D) (ci := 0) (v := .int (nI np)) (C := RX1) (T := TX1) (N := 12) hx hb hts iX1 hown hK hP 0 rfl rfl 3 (by decide) k33 (fun _ h9 => h9) rfl dX1_fact_82 ?_
    rw [← hQ]
    exact W.iret (v := nI np) hx hb hr (fun t ht hW => ⟨_, rfl, j_fact_big (by omega), ht⟩) (fun _ h => by cases h) dX1_fact_85
  by_cases hhi1 : 5 < wh.toInt
  · refine lv_tableOut (tgt := 81) hx hb dX1_fact_1 (Or.inr hhi1) (by decide) ?_
    refine lv_aload_n hx hb dX1_fact_81 rfl (lv_at hl 0 rfl) ?_
    refine va_get (D := D) (ci := 0) (v := .int (nI np)) (C := RX1) (T := TX1) (N := 12) hx hb hts iX1 hown hK hP 0 rfl rfl 3 (by decide) k33 (fun _ h9 => h9) rfl dX1_fact_82 ?_
    rw [← hQ]
    exact W.iret (v := nI np) hx hb hr (fun t ht hW => ⟨_, rfl, j_fact_big (by omega), ht⟩) (fun _ h => by cases h) dX1_fact_85
  have hsw1 : wh.toInt = 0 ∨ wh.toInt = 1 ∨ wh.toInt = 2 ∨ wh.toInt = 3 ∨ wh.toInt = 4 ∨ wh.toInt = 5 := by have a1 := hlo1; have a2 := hhi1; omega
  rcases hsw1 with hc1 | hc1 | hc1 | hc1 | hc1 | hc1
  · refine lv_tableIn (off := 39) (tgt := 40) hx hb dX1_fact_1 hlo1 hhi1 (by rw [hc1]; rfl) (by decide) ?_
    refine lv_aload_n hx hb dX1_fact_40 rfl (lv_at hl 0 rfl) ?_
    refine va_get (D := D) (ci := 0) (v := .int tn0) (C := RX1) (T := TX1) (N := 12) hx hb hts iX1 hown hK hP 0 rfl rfl 6 (by decide) k52 (fun _ h9 => h9) rfl dX1_fact_41 ?_
    rw [← hQ]
    exact W.iret (v := tn0) hx hb hr (fun t ht hW => ⟨_, rfl, (by rw [hc1]; rfl), ht⟩) (fun _ h => by cases h) dX1_fact_44
  · refine lv_tableIn (off := 44) (tgt := 45) hx hb dX1_fact_1 hlo1 hhi1 (by rw [hc1]; rfl) (by decide) ?_
    refine lv_bipush (v := 54) hx hb dX1_fact_45 (by decide) ?_
    refine lv_aload_n hx hb dX1_fact_47 rfl (lv_at hl 0 rfl) ?_
    refine va_get (D := D) (ci := 0) (v := .int tp0) (C := RX1) (T := TX1) (N := 12) hx hb hts iX1 hown hK hP 0 rfl rfl 4 (by decide) k37 (fun _ h9 => h9) rfl dX1_fact_48 ?_
    refine lv_isub hx hb dX1_fact_51 ?_
    rw [← hQ]
    exact W.iret (v := 54 - tp0) hx hb hr (fun t ht hW => ⟨_, rfl, (by rw [hc1]; rfl), ht⟩) (fun _ h => by cases h) dX1_fact_52
  · refine lv_tableIn (off := 52) (tgt := 53) hx hb dX1_fact_1 hlo1 hhi1 (by rw [hc1]; rfl) (by decide) ?_
    refine lv_aload_n hx hb dX1_fact_53 rfl (lv_at hl 0 rfl) ?_
    refine va_get (D := D) (ci := 0) (v := .int ov) (C := RX1) (T := TX1) (N := 12) hx hb hts iX1 hown hK hP 0 rfl rfl 10 (by decide) k64 (fun _ h9 => h9) rfl dX1_fact_54 ?_
    refine lv_if_eq (tgt := 64) hx hb dX1_fact_57 (by decide) (fun c_57 => ?_) (fun c_57 => ?_)
    · refine lv_iconst (v := 0) hx hb dX1_fact_64 (by decide) ?_
      rw [← hQ]
      exact W.iret (v := 0) hx hb hr (fun t ht hW => ⟨_, rfl, (by rw [hc1]; show _ = if ov = 0 then _ else _; split <;> first | rfl | contradiction), ht⟩) (fun _ h => by cases h) dX1_fact_65
    · refine lv_iconst (v := 1) hx hb dX1_fact_60 (by decide) ?_
      refine lv_goto (tgt := 65) hx hb dX1_fact_61 (by decide) ?_
      rw [← hQ]
      exact W.iret (v := 1) hx hb hr (fun t ht hW => ⟨_, rfl, (by rw [hc1]; show _ = if ov = 0 then _ else _; split <;> first | rfl | contradiction), ht⟩) (fun _ h => by cases h) dX1_fact_65
  · refine lv_tableIn (off := 65) (tgt := 66) hx hb dX1_fact_1 hlo1 hhi1 (by rw [hc1]; rfl) (by decide) ?_
    refine lv_aload_n hx hb dX1_fact_66 rfl (lv_at hl 0 rfl) ?_
    refine va_get (D := D) (ci := 0) (v := .int win) (C := RX1) (T := TX1) (N := 12) hx hb hts iX1 hown hK hP 0 rfl rfl 11 (by decide) k68 (fun _ h9 => h9) rfl dX1_fact_67 ?_
    rw [← hQ]
    exact W.iret (v := win) hx hb hr (fun t ht hW => ⟨_, rfl, (by rw [hc1]; rfl), ht⟩) (fun _ h => by cases h) dX1_fact_70
  · refine lv_tableIn (off := 70) (tgt := 71) hx hb dX1_fact_1 hlo1 hhi1 (by rw [hc1]; rfl) (by decide) ?_
    refine lv_aload_n hx hb dX1_fact_71 rfl (lv_at hl 0 rfl) ?_
    refine va_get (D := D) (ci := 0) (v := .int te) (C := RX1) (T := TX1) (N := 12) hx hb hts iX1 hown hK hP 0 rfl rfl 7 (by decide) k55 (fun _ h9 => h9) rfl dX1_fact_72 ?_
    rw [← hQ]
    exact W.iret (v := te) hx hb hr (fun t ht hW => ⟨_, rfl, (by rw [hc1]; rfl), ht⟩) (fun _ h => by cases h) dX1_fact_75
  · refine lv_tableIn (off := 75) (tgt := 76) hx hb dX1_fact_1 hlo1 hhi1 (by rw [hc1]; rfl) (by decide) ?_
    refine lv_aload_n hx hb dX1_fact_76 rfl (lv_at hl 0 rfl) ?_
    refine va_get (D := D) (ci := 0) (v := .int lay) (C := RX1) (T := TX1) (N := 12) hx hb hts iX1 hown hK hP 0 rfl rfl 8 (by decide) k58 (fun _ h9 => h9) rfl dX1_fact_77 ?_
    rw [← hQ]
    exact W.iret (v := lay) hx hb hr (fun t ht hW => ⟨_, rfl, (by rw [hc1]; rfl), ht⟩) (fun _ h => by cases h) dX1_fact_80

set_option maxHeartbeats 4000000 in
set_option maxRecDepth 100000 in
theorem k_X1_drawn (l : Launch) (D : va_G) (cI cJ cZ : ClassId) (sz : Nat) (g ha oa pa : Nat) (np tp tn : Nat) (te lay idl ov win : Int32) (ly : Int64) (pf : Nat → Int32) (htp : tp ≤ 54) : Met l yX1_drawn wsX1_drawn ({ frames := 0, cells := 0, slots := 0, locals := 0 } : Room) (va_Pc [.ref g] (wM D cI cJ cZ sz [(g, .inr (0, [.ref ha, .ref oa, .ref pa, .int (nI np), .int (nI tp), .long ly, .int (nI tn), .int te, .int lay, .int idl, .int ov, .int win])), (pa, .inl (cI, 54, .inl pf))])) (va_Qi (fun (r : Int32) (u : (Int32)) => match u with | top2 => (r = if tp < 54 then pf tp else 54) ∧ top2 = (nI (if tp < 54 then tp + 1 else tp))) (fun (u : (Int32)) t => match u with | top2 => wB D (va_A [(g, .inr (0, [.ref ha, .ref oa, .ref pa, .int (nI np), .int (nI tp), .long ly, .int (nI tn), .int te, .int lay, .int idl, .int ov, .int win])), (pa, .inl (cI, 54, .inl pf))] sz) [(g, .inr (0, [.ref ha, .ref oa, .ref pa, .int (nI np), .int top2, .long ly, .int (nI tn), .int te, .int lay, .int idl, .int ov, .int win])), (pa, .inl (cI, 54, .inl pf))] t) (va_A [(g, .inr (0, [.ref ha, .ref oa, .ref pa, .int (nI np), .int (nI tp), .long ly, .int (nI tn), .int te, .int lay, .int idl, .int ov, .int win])), (pa, .inl (cI, 54, .inl pf))] sz)) 0 0 (va_A [(g, .inr (0, [.ref ha, .ref oa, .ref pa, .int (nI np), .int (nI tp), .long ly, .int (nI tn), .int te, .int lay, .int idl, .int ov, .int win])), (pa, .inl (cI, 54, .inl pf))] sz) := by
  refine Met.ofW (cc := cX1_drawn) (maxL := 2) (ret := (some .int)) (by decide) rfl ?_
  intro p e s m args below meth c s₁ B hml hv
  obtain ⟨hargs, hsz, hP, ⟨hK, hN⟩, hD0⟩ := hv
  have hx := B.exec
  have hb := B.bytes
  have hr := B.returns
  have hlocks := B.notSynchronized
  have hts := atoms_spec (ws := wsX1_drawn) B.pre
  have hown : s.vm.findClass RX1 = some m.cls := findClass_of_methodNamed B.named
  have k37 := hts (.fieldLink RX1 37 "RummyTable$Game" "top" "I") (by decide +kernel)
  have iX1 : ∀ w ∈ wsX10, w ∈ wsX1_drawn := by decide +kernel
  have k19 := hts (.fieldLink RX1 19 "RummyTable$Game" "pack" "[I") (by decide +kernel)
  subst hsz
  have hD := hD0.self (sz := s.heap.size)
  generalize hAe : va_A [(g, .inr (0, [.ref ha, .ref oa, .ref pa, .int (nI np), .int (nI tp), .long ly, .int (nI tn), .int te, .int lay, .int idl, .int ov, .int win])), (pa, .inl (cI, 54, .inl pf))] s.heap.size = A at hD ⊢
  have hA : ∀ q : Nat, s.heap.size ≤ q → A q := fun q h => by rw [← hAe]; exact Or.inr h
  have hS : va_S A s.heap s.heap [] := va_S.rf
  rw [show entryFrame m args 2 = entryFrame m ([.ref g] : List Value).toArray 2 from by rw [hargs]]
  have hl := lv_entry ([.ref g]) (n := 2) (Nat.le_of_ble_eq_true rfl)
  rw [lg_entry_eq]
  generalize (lg_sl ([.ref g]) ++ List.replicate (2 - (lg_sl ([.ref g])).length) Slot.unset).toArray = ls at hl ⊢
  have hl : lv_has ls 2 [(0, .ref g)] := hl
  refine wQ (fun Q hQ => ?_)
  refine lv_aload_n hx hb dX1_drawn_0 rfl (lv_at hl 0 rfl) ?_
  refine va_get (D := D) (ci := 0) (v := .int (nI tp)) (C := RX1) (T := TX1) (N := 12) hx hb hts iX1 hown hK hP 0 rfl rfl 4 (by decide) k37 (fun _ h9 => h9) rfl dX1_drawn_1 ?_
  refine lv_if_lt (tgt := 16) hx hb dX1_drawn_4 (by decide) (fun c_4 => ?_) (fun c_4 => ?_)
  · exact absurd c_4 (nI_pos (by omega))
  · refine lv_aload_n hx hb dX1_drawn_7 rfl (lv_at hl 0 rfl) ?_
    refine va_get (D := D) (ci := 0) (v := .int (nI tp)) (C := RX1) (T := TX1) (N := 12) hx hb hts iX1 hown hK hP 0 rfl rfl 4 (by decide) k37 (fun _ h9 => h9) rfl dX1_drawn_8 ?_
    refine lv_bipush (v := 54) hx hb dX1_drawn_11 (by decide) ?_
    refine lv_icmp_lt (tgt := 19) hx hb dX1_drawn_13 (by decide) (fun c_13 => ?_) (fun c_13 => ?_)
    · have hlt : tp < 54 := (nI_ltI (by omega) (by decide)).mp c_13
      refine lv_aload_n hx hb dX1_drawn_19 rfl (lv_at hl 0 rfl) ?_
      refine va_get (D := D) (ci := 0) (v := .ref pa) (C := RX1) (T := TX1) (N := 12) hx hb hts iX1 hown hK hP 0 rfl rfl 2 (by decide) k19 (fun _ h9 => h9) rfl dX1_drawn_20 ?_
      refine lv_aload_n hx hb dX1_drawn_23 rfl (lv_at hl 0 rfl) ?_
      refine va_get (D := D) (ci := 0) (v := .int (nI tp)) (C := RX1) (T := TX1) (N := 12) hx hb hts iX1 hown hK hP 0 rfl rfl 4 (by decide) k37 (fun _ h9 => h9) rfl dX1_drawn_24 ?_
      refine va_iald hx hb hK hP 1 0 rfl rfl (vp_in_nI hlt (by decide)) dX1_drawn_27 ?_
      refine lv_topi (fun x28 ex28 => ?_)
      refine lv_istore_n (lv' := [(1, .int x28), (0, .ref g)]) hx hb dX1_drawn_28 rfl hl (by decide) rfl (fun ls hl => ?_)
      refine lv_aload_n hx hb dX1_drawn_29 rfl (lv_at hl 1 rfl) ?_
      refine lv_dup hx hb dX1_drawn_30 rfl ?_
      refine va_get (D := D) (ci := 0) (v := .int (nI tp)) (C := RX1) (T := TX1) (N := 12) hx hb hts iX1 hown hK hP 0 rfl rfl 4 (by decide) k37 (fun _ h9 => h9) rfl dX1_drawn_31 ?_
      refine lv_iconst (v := 1) hx hb dX1_drawn_34 (by decide) ?_
      refine lv_iadd hx hb dX1_drawn_35 ?_
      refine va_put (D := D) (ci := 0) (v := .int ((nI tp) + 1)) (ty := .int) (C := RX1) (T := TX1) (N := 12) hx hb hts iX1 tyX1 tyX1_ok nmX1 hown hK hP hD hS 0 rfl rfl 4 (by decide) k37 (fun _ h9 => h9) rfl (by decide +kernel) rfl rfl (Nat.le_of_ble_eq_true rfl) dX1_drawn_36 (fun H locs hP hD hS => ?_)
      have hP : va_P D vwCl [(g, .inr (0, [.ref ha, .ref oa, .ref pa, .int (nI np), .int ((nI tp) + 1), .long ly, .int (nI tn), .int te, .int lay, .int idl, .int ov, .int win])), (pa, .inl (cI, 54, .inl pf))] H := hP
      have hD : va_D A [(g, .inr (0, [.ref ha, .ref oa, .ref pa, .int (nI np), .int ((nI tp) + 1), .long ly, .int (nI tn), .int te, .int lay, .int idl, .int ov, .int win])), (pa, .inl (cI, 54, .inl pf))] := hD
      refine lv_iload_n hx hb dX1_drawn_39 rfl (lv_at hl 0 rfl) ?_
      rw [← hQ]
      have hP9 := hP.sub (ws' := [(g, .inr (0, [.ref ha, .ref oa, .ref pa, .int (nI np), .int ((nI tp) + 1), .long ly, .int (nI tn), .int te, .int lay, .int idl, .int ov, .int win])), (pa, .inl (cI, 54, .inl pf))]) [0, 1] rfl
      have hD9 := hD.sub (ws' := [(g, .inr (0, [.ref ha, .ref oa, .ref pa, .int (nI np), .int ((nI tp) + 1), .long ly, .int (nI tn), .int te, .int lay, .int idl, .int ov, .int win])), (pa, .inl (cI, 54, .inl pf))]) [0, 1] (by decide) rfl
      exact W.iret (v := x28) hx hb hr (fun t ht hW => ⟨⟨x28, ((nI tp) + 1), rfl, ⟨(by rw [if_pos hlt, ex28, nI_clamp (by omega)]), (by rw [if_pos hlt]; exact nI_1 tp)⟩, (by show wB D A _ t; exact ⟨by rw [ht]; exact hP9, hD9⟩)⟩, hS.F ht⟩) hS.2.2 dX1_drawn_40
    · have hge : ¬ tp < 54 := fun h => c_13 ((nI_ltI (by omega) (by decide)).mpr h)
      refine lv_bipush (v := 54) hx hb dX1_drawn_16 (by decide) ?_
      rw [← hQ]
      have hP9 := hP.sub (ws' := [(g, .inr (0, [.ref ha, .ref oa, .ref pa, .int (nI np), .int (nI tp), .long ly, .int (nI tn), .int te, .int lay, .int idl, .int ov, .int win])), (pa, .inl (cI, 54, .inl pf))]) [0, 1] rfl
      have hD9 := hD.sub (ws' := [(g, .inr (0, [.ref ha, .ref oa, .ref pa, .int (nI np), .int (nI tp), .long ly, .int (nI tn), .int te, .int lay, .int idl, .int ov, .int win])), (pa, .inl (cI, 54, .inl pf))]) [0, 1] (by decide) rfl
      exact W.iret (v := 54) hx hb hr (fun t ht hW => ⟨⟨54, (nI tp), rfl, ⟨(by rw [if_neg hge]), (by rw [if_neg hge])⟩, (by show wB D A _ t; exact ⟨by rw [ht]; exact hP9, hD9⟩)⟩, hS.F ht⟩) hS.2.2 dX1_drawn_18

set_option maxHeartbeats 4000000 in
set_option maxRecDepth 100000 in
theorem k_X1_putDown (l : Launch) (D : va_G) (cI cJ cZ : ClassId) (sz : Nat) (g ha oa pa : Nat) (np tp tn : Nat) (te lay idl ov win : Int32) (ly : Int64) (hf : Nat → Int64) (of : Nat → Int32) (cards : Int64) (hn4 : np ≤ 4) (htn : tn < np) : Met l yX1_putDown wsX1_putDown ({ frames := 1, cells := 0, slots := 0, locals := 21 } : Room) (va_Pc [.ref g, .long cards] (wM D cI cJ cZ sz [(g, .inr (0, [.ref ha, .ref oa, .ref pa, .int (nI np), .int (nI tp), .long ly, .int (nI tn), .int te, .int lay, .int idl, .int ov, .int win])), (ha, .inl (cJ, 4, .inr (.inl hf))), (oa, .inl (cZ, 4, .inl of))])) (va_Qv (fun (u : (Int64) × (Int32) × (Int32) × (Int32) × (Nat → Int64) × (Nat → Int32)) => match u with | (ly2, lay2, ov2, win2, hf2, of2) => (True) ∧ ly2 = (ly ||| cards) ∧ lay2 = (lay + 1) ∧ ov2 = (if hf tn &&& (cards ^^^ (-1)) = 0 then 1 else ov) ∧ win2 = (if hf tn &&& (cards ^^^ (-1)) = 0 then nI tn else win) ∧ hf2 = (vp_updL hf tn (hf tn &&& (cards ^^^ (-1)))) ∧ of2 = (upd of tn 1)) (fun (u : (Int64) × (Int32) × (Int32) × (Int32) × (Nat → Int64) × (Nat → Int32)) t => match u with | (ly2, lay2, ov2, win2, hf2, of2) => wB D (va_A [(g, .inr (0, [.ref ha, .ref oa, .ref pa, .int (nI np), .int (nI tp), .long ly, .int (nI tn), .int te, .int lay, .int idl, .int ov, .int win])), (ha, .inl (cJ, 4, .inr (.inl hf))), (oa, .inl (cZ, 4, .inl of))] sz) [(g, .inr (0, [.ref ha, .ref oa, .ref pa, .int (nI np), .int (nI tp), .long ly2, .int (nI tn), .int te, .int lay2, .int idl, .int ov2, .int win2])), (ha, .inl (cJ, 4, .inr (.inl hf2))), (oa, .inl (cZ, 4, .inl of2))] t) (va_A [(g, .inr (0, [.ref ha, .ref oa, .ref pa, .int (nI np), .int (nI tp), .long ly, .int (nI tn), .int te, .int lay, .int idl, .int ov, .int win])), (ha, .inl (cJ, 4, .inr (.inl hf))), (oa, .inl (cZ, 4, .inl of))] sz)) 0 0 (va_A [(g, .inr (0, [.ref ha, .ref oa, .ref pa, .int (nI np), .int (nI tp), .long ly, .int (nI tn), .int te, .int lay, .int idl, .int ov, .int win])), (ha, .inl (cJ, 4, .inr (.inl hf))), (oa, .inl (cZ, 4, .inl of))] sz) := by
  refine Met.ofW (cc := cX1_putDown) (maxL := 3) (ret := none) (by decide) rfl ?_
  intro p e s m args below meth c s₁ B hml hv
  obtain ⟨hargs, hsz, hP, ⟨hK, hN⟩, hD0⟩ := hv
  have hx := B.exec
  have hb := B.bytes
  have hr := B.returns
  have hlocks := B.notSynchronized
  have hts := atoms_spec (ws := wsX1_putDown) B.pre
  have hown : s.vm.findClass RX1 = some m.cls := findClass_of_methodNamed B.named
  have k52 := hts (.fieldLink RX1 52 "RummyTable$Game" "turn" "I") (by decide +kernel)
  have iX1 : ∀ w ∈ wsX10, w ∈ wsX1_putDown := by decide +kernel
  have k75 := hts (.methodLink RX1 75 yX1_has) (by decide +kernel)
  have k9 := hts (.fieldLink RX1 9 "RummyTable$Game" "hands" "[J") (by decide +kernel)
  have k79 := hts (.constantLong RX1 79 (-1)) (by decide +kernel)
  have k15 := hts (.fieldLink RX1 15 "RummyTable$Game" "opened" "[Z") (by decide +kernel)
  have k48 := hts (.fieldLink RX1 48 "RummyTable$Game" "lying" "J") (by decide +kernel)
  have k58 := hts (.fieldLink RX1 58 "RummyTable$Game" "layings" "I") (by decide +kernel)
  have k64 := hts (.fieldLink RX1 64 "RummyTable$Game" "over" "Z") (by decide +kernel)
  have k68 := hts (.fieldLink RX1 68 "RummyTable$Game" "winner" "I") (by decide +kernel)
  subst hsz
  have hD := hD0.self (sz := s.heap.size)
  generalize hAe : va_A [(g, .inr (0, [.ref ha, .ref oa, .ref pa, .int (nI np), .int (nI tp), .long ly, .int (nI tn), .int te, .int lay, .int idl, .int ov, .int win])), (ha, .inl (cJ, 4, .inr (.inl hf))), (oa, .inl (cZ, 4, .inl of))] s.heap.size = A at hD ⊢
  have hA : ∀ q : Nat, s.heap.size ≤ q → A q := fun q h => by rw [← hAe]; exact Or.inr h
  have hS : va_S A s.heap s.heap [] := va_S.rf
  rw [show entryFrame m args 3 = entryFrame m ([.ref g, .long cards] : List Value).toArray 3 from by rw [hargs]]
  have hl := lv_entry ([.ref g, .long cards]) (n := 3) (Nat.le_of_ble_eq_true rfl)
  rw [lg_entry_eq]
  generalize (lg_sl ([.ref g, .long cards]) ++ List.replicate (3 - (lg_sl ([.ref g, .long cards])).length) Slot.unset).toArray = ls at hl ⊢
  have hl : lv_has ls 3 [(0, .ref g), (1, .long cards)] := hl
  refine wQ (fun Q hQ => ?_)
  have hin4 : vp_in (nI tn) 4 := vp_in_nI (by omega) (by decide)
  have hcl : (nI tn).toNatClampNeg = tn := nI_clamp (by omega)
  refine lv_aload_n hx hb dX1_putDown_0 rfl (lv_at hl 0 rfl) ?_
  refine lv_aload_n hx hb dX1_putDown_1 rfl (lv_at hl 0 rfl) ?_
  refine va_get (D := D) (ci := 0) (v := .int (nI tn)) (C := RX1) (T := TX1) (N := 12) hx hb hts iX1 hown hK hP 0 rfl rfl 6 (by decide) k52 (fun _ h9 => h9) rfl dX1_putDown_2 ?_
  have hPc := hP.sub (ws' := [(g, .inr (0, [.ref ha, .ref oa, .ref pa, .int (nI np), .int (nI tp), .long ly, .int (nI tn), .int te, .int lay, .int idl, .int ov, .int win]))]) [0] rfl
  refine vp_callSi (W.runV (As := [.int (nI tn)]) (rest := []) ⟨hx, hb, hml, hown, hts⟩ (k_X1_has l D cI cJ cZ g ha oa pa np (nI tp) (nI tn) te lay idl ov win ly (nI tn) ) (cwV 1 hts gX1_putDown_X1_has rfl rfl rfl (by decide +kernel) ⟨Nat.le_of_ble_eq_true rfl, Nat.le_of_ble_eq_true rfl⟩) ⟨wR_fb, va_recv hK hPc (ci := 0) (q0 := 0) rfl rfl, wR_pre hPc ⟨hK, hN⟩⟩ rfl rfl hl.1 rfl (lv_room (Nat.le_of_ble_eq_true rfl)) dX1_putDown_5 ⟨Nat.le_of_ble_eq_true rfl, Nat.le_of_ble_eq_true rfl⟩) (fun x5 hx5 => ?_)
  subst hx5
  refine lv_topi (fun y5 ey5 => ?_)
  rw [show j_has np (nI tn) = 1 from j_has_ok htn hn4] at ey5
  refine lv_if_ne (tgt := 12) hx hb dX1_putDown_8 (by decide) (fun c_8 => ?_) (fun c_8 => ?_)
  · refine lv_aload_n hx hb dX1_putDown_12 rfl (lv_at hl 0 rfl) ?_
    refine va_get (D := D) (ci := 0) (v := .ref ha) (C := RX1) (T := TX1) (N := 12) hx hb hts iX1 hown hK hP 0 rfl rfl 0 (by decide) k9 (fun _ h9 => h9) rfl dX1_putDown_13 ?_
    refine lv_aload_n hx hb dX1_putDown_16 rfl (lv_at hl 0 rfl) ?_
    refine va_get (D := D) (ci := 0) (v := .int (nI tn)) (C := RX1) (T := TX1) (N := 12) hx hb hts iX1 hown hK hP 0 rfl rfl 6 (by decide) k52 (fun _ h9 => h9) rfl dX1_putDown_17 ?_
    refine lv_dup2_11 hx hb dX1_putDown_20 rfl rfl ?_
    refine va_lald hx hb hK hP 1 1 rfl rfl (hin4) dX1_putDown_21 ?_
    refine lv_lload_n hx hb dX1_putDown_22 rfl (lv_at hl 1 rfl) ?_
    refine lv_ldc2 hx hb hown k79 dX1_putDown_23 ?_
    refine lv_lxor hx hb dX1_putDown_26 ?_
    refine lv_land hx hb dX1_putDown_27 ?_
    refine va_last hx hb hK hP hD hS 1 1 rfl rfl (hin4) dX1_putDown_28 (fun H locs hP hD hS => ?_)
    have hP : va_P D vwCl [(g, .inr (0, [.ref ha, .ref oa, .ref pa, .int (nI np), .int (nI tp), .long ly, .int (nI tn), .int te, .int lay, .int idl, .int ov, .int win])), (ha, .inl (cJ, 4, .inr (.inl (vp_updL hf (nI tn).toNatClampNeg ((hf (nI tn).toNatClampNeg) &&& (cards ^^^ (-1))))))), (oa, .inl (cZ, 4, .inl of))] H := hP
    have hD : va_D A [(g, .inr (0, [.ref ha, .ref oa, .ref pa, .int (nI np), .int (nI tp), .long ly, .int (nI tn), .int te, .int lay, .int idl, .int ov, .int win])), (ha, .inl (cJ, 4, .inr (.inl (vp_updL hf (nI tn).toNatClampNeg ((hf (nI tn).toNatClampNeg) &&& (cards ^^^ (-1))))))), (oa, .inl (cZ, 4, .inl of))] := hD
    generalize ex28 : vp_updL hf (nI tn).toNatClampNeg ((hf (nI tn).toNatClampNeg) &&& (cards ^^^ (-1))) = x28 at hP hD
    refine lv_aload_n hx hb dX1_putDown_29 rfl (lv_at hl 0 rfl) ?_
    refine va_get (D := D) (ci := 0) (v := .ref oa) (C := RX1) (T := TX1) (N := 12) hx hb hts iX1 hown hK hP 0 rfl rfl 1 (by decide) k15 (fun _ h9 => h9) rfl dX1_putDown_30 ?_
    refine lv_aload_n hx hb dX1_putDown_33 rfl (lv_at hl 0 rfl) ?_
    refine va_get (D := D) (ci := 0) (v := .int (nI tn)) (C := RX1) (T := TX1) (N := 12) hx hb hts iX1 hown hK hP 0 rfl rfl 6 (by decide) k52 (fun _ h9 => h9) rfl dX1_putDown_34 ?_
    refine lv_iconst (v := 1) hx hb dX1_putDown_37 (by decide) ?_
    refine va_zast hx hb hK hP hD hS 2 2 rfl rfl (hin4) dX1_putDown_38 (fun H locs hP hD hS => ?_)
    have hP : va_P D vwCl [(g, .inr (0, [.ref ha, .ref oa, .ref pa, .int (nI np), .int (nI tp), .long ly, .int (nI tn), .int te, .int lay, .int idl, .int ov, .int win])), (ha, .inl (cJ, 4, .inr (.inl x28))), (oa, .inl (cZ, 4, .inl (upd of (nI tn).toNatClampNeg (vp_nar .boolean 1))))] H := hP
    have hD : va_D A [(g, .inr (0, [.ref ha, .ref oa, .ref pa, .int (nI np), .int (nI tp), .long ly, .int (nI tn), .int te, .int lay, .int idl, .int ov, .int win])), (ha, .inl (cJ, 4, .inr (.inl x28))), (oa, .inl (cZ, 4, .inl (upd of (nI tn).toNatClampNeg (vp_nar .boolean 1))))] := hD
    generalize ex38 : upd of (nI tn).toNatClampNeg (vp_nar .boolean 1) = x38 at hP hD
    refine lv_aload_n hx hb dX1_putDown_39 rfl (lv_at hl 0 rfl) ?_
    refine lv_dup hx hb dX1_putDown_40 rfl ?_
    refine va_get (D := D) (ci := 0) (v := .long ly) (C := RX1) (T := TX1) (N := 12) hx hb hts iX1 hown hK hP 0 rfl rfl 5 (by decide) k48 (fun _ h9 => h9) rfl dX1_putDown_41 ?_
    refine lv_lload_n hx hb dX1_putDown_44 rfl (lv_at hl 1 rfl) ?_
    refine lv_lor hx hb dX1_putDown_45 ?_
    refine va_put (D := D) (ci := 0) (v := .long (ly ||| cards)) (ty := .long) (C := RX1) (T := TX1) (N := 12) hx hb hts iX1 tyX1 tyX1_ok nmX1 hown hK hP hD hS 0 rfl rfl 5 (by decide) k48 (fun _ h9 => h9) rfl (by decide +kernel) rfl rfl (Nat.le_of_ble_eq_true rfl) dX1_putDown_46 (fun H locs hP hD hS => ?_)
    have hP : va_P D vwCl [(g, .inr (0, [.ref ha, .ref oa, .ref pa, .int (nI np), .int (nI tp), .long (ly ||| cards), .int (nI tn), .int te, .int lay, .int idl, .int ov, .int win])), (ha, .inl (cJ, 4, .inr (.inl x28))), (oa, .inl (cZ, 4, .inl x38))] H := hP
    have hD : va_D A [(g, .inr (0, [.ref ha, .ref oa, .ref pa, .int (nI np), .int (nI tp), .long (ly ||| cards), .int (nI tn), .int te, .int lay, .int idl, .int ov, .int win])), (ha, .inl (cJ, 4, .inr (.inl x28))), (oa, .inl (cZ, 4, .inl x38))] := hD
    refine lv_aload_n hx hb dX1_putDown_49 rfl (lv_at hl 0 rfl) ?_
    refine lv_dup hx hb dX1_putDown_50 rfl ?_
    refine va_get (D := D) (ci := 0) (v := .int lay) (C := RX1) (T := TX1) (N := 12) hx hb hts iX1 hown hK hP 0 rfl rfl 8 (by decide) k58 (fun _ h9 => h9) rfl dX1_putDown_51 ?_
    refine lv_iconst (v := 1) hx hb dX1_putDown_54 (by decide) ?_
    refine lv_iadd hx hb dX1_putDown_55 ?_
    refine va_put (D := D) (ci := 0) (v := .int (lay + 1)) (ty := .int) (C := RX1) (T := TX1) (N := 12) hx hb hts iX1 tyX1 tyX1_ok nmX1 hown hK hP hD hS 0 rfl rfl 8 (by decide) k58 (fun _ h9 => h9) rfl (by decide +kernel) rfl rfl (Nat.le_of_ble_eq_true rfl) dX1_putDown_56 (fun H locs hP hD hS => ?_)
    have hP : va_P D vwCl [(g, .inr (0, [.ref ha, .ref oa, .ref pa, .int (nI np), .int (nI tp), .long (ly ||| cards), .int (nI tn), .int te, .int (lay + 1), .int idl, .int ov, .int win])), (ha, .inl (cJ, 4, .inr (.inl x28))), (oa, .inl (cZ, 4, .inl x38))] H := hP
    have hD : va_D A [(g, .inr (0, [.ref ha, .ref oa, .ref pa, .int (nI np), .int (nI tp), .long (ly ||| cards), .int (nI tn), .int te, .int (lay + 1), .int idl, .int ov, .int win])), (ha, .inl (cJ, 4, .inr (.inl x28))), (oa, .inl (cZ, 4, .inl x38))] := hD
    refine lv_aload_n hx hb dX1_putDown_59 rfl (lv_at hl 0 rfl) ?_
    refine va_get (D := D) (ci := 0) (v := .ref ha) (C := RX1) (T := TX1) (N := 12) hx hb hts iX1 hown hK hP 0 rfl rfl 0 (by decide) k9 (fun _ h9 => h9) rfl dX1_putDown_60 ?_
    refine lv_aload_n hx hb dX1_putDown_63 rfl (lv_at hl 0 rfl) ?_
    refine va_get (D := D) (ci := 0) (v := .int (nI tn)) (C := RX1) (T := TX1) (N := 12) hx hb hts iX1 hown hK hP 0 rfl rfl 6 (by decide) k52 (fun _ h9 => h9) rfl dX1_putDown_64 ?_
    refine va_lald hx hb hK hP 1 1 rfl rfl (hin4) dX1_putDown_67 ?_
    refine lv_lconst (v := 0) hx hb dX1_putDown_68 (by decide) ?_
    refine W.lcmp hx hb dX1_putDown_69 ?_
    refine lv_if_ne (tgt := 86) hx hb dX1_putDown_70 (by decide) (fun c_70 => ?_) (fun c_70 => ?_)
    · rw [← hQ]
      have hP9 := hP.sub (ws' := [(g, .inr (0, [.ref ha, .ref oa, .ref pa, .int (nI np), .int (nI tp), .long (ly ||| cards), .int (nI tn), .int te, .int (lay + 1), .int idl, .int ov, .int win])), (ha, .inl (cJ, 4, .inr (.inl x28))), (oa, .inl (cZ, 4, .inl x38))]) [0, 1, 2] rfl
      have hD9 := hD.sub (ws' := [(g, .inr (0, [.ref ha, .ref oa, .ref pa, .int (nI np), .int (nI tp), .long (ly ||| cards), .int (nI tn), .int te, .int (lay + 1), .int idl, .int ov, .int win])), (ha, .inl (cJ, 4, .inr (.inl x28))), (oa, .inl (cZ, 4, .inl x38))]) [0, 1, 2] (by decide) rfl
      exact W.vret hx hb hr (fun t ht hW => ⟨⟨(ly ||| cards, lay + 1, ov, win, x28, x38), rfl, ⟨trivial, rfl, rfl, (by first | rw [if_neg (fun q => c_70 (hp_cz (by rw [← ex28, hcl, pk_uLs]; exact q)))] | rw [if_pos (hp_cz2 c_70 (by rw [← ex28, hcl, pk_uLs]))]), (by first | rw [if_neg (fun q => c_70 (hp_cz (by rw [← ex28, hcl, pk_uLs]; exact q)))] | rw [if_pos (hp_cz2 c_70 (by rw [← ex28, hcl, pk_uLs]))]), (by rw [← ex28, hcl]), (by rw [← ex38, hcl]; rfl)⟩, (by show wB D A _ t; exact ⟨by rw [ht]; exact hP9, hD9⟩)⟩, hS.F ht⟩) hS.2.2 dX1_putDown_86
    · refine lv_aload_n hx hb dX1_putDown_73 rfl (lv_at hl 0 rfl) ?_
      refine lv_iconst (v := 1) hx hb dX1_putDown_74 (by decide) ?_
      refine va_put (D := D) (ci := 0) (v := .int 1) (ty := .boolean) (C := RX1) (T := TX1) (N := 12) hx hb hts iX1 tyX1 tyX1_ok nmX1 hown hK hP hD hS 0 rfl rfl 10 (by decide) k64 (fun _ h9 => h9) rfl (by decide +kernel) rfl rfl (Nat.le_of_ble_eq_true rfl) dX1_putDown_75 (fun H locs hP hD hS => ?_)
      have hP : va_P D vwCl [(g, .inr (0, [.ref ha, .ref oa, .ref pa, .int (nI np), .int (nI tp), .long (ly ||| cards), .int (nI tn), .int te, .int (lay + 1), .int idl, .int 1, .int win])), (ha, .inl (cJ, 4, .inr (.inl x28))), (oa, .inl (cZ, 4, .inl x38))] H := hP
      have hD : va_D A [(g, .inr (0, [.ref ha, .ref oa, .ref pa, .int (nI np), .int (nI tp), .long (ly ||| cards), .int (nI tn), .int te, .int (lay + 1), .int idl, .int 1, .int win])), (ha, .inl (cJ, 4, .inr (.inl x28))), (oa, .inl (cZ, 4, .inl x38))] := hD
      refine lv_aload_n hx hb dX1_putDown_78 rfl (lv_at hl 0 rfl) ?_
      refine lv_aload_n hx hb dX1_putDown_79 rfl (lv_at hl 0 rfl) ?_
      refine va_get (D := D) (ci := 0) (v := .int (nI tn)) (C := RX1) (T := TX1) (N := 12) hx hb hts iX1 hown hK hP 0 rfl rfl 6 (by decide) k52 (fun _ h9 => h9) rfl dX1_putDown_80 ?_
      refine va_put (D := D) (ci := 0) (v := .int (nI tn)) (ty := .int) (C := RX1) (T := TX1) (N := 12) hx hb hts iX1 tyX1 tyX1_ok nmX1 hown hK hP hD hS 0 rfl rfl 11 (by decide) k68 (fun _ h9 => h9) rfl (by decide +kernel) rfl rfl (Nat.le_of_ble_eq_true rfl) dX1_putDown_83 (fun H locs hP hD hS => ?_)
      have hP : va_P D vwCl [(g, .inr (0, [.ref ha, .ref oa, .ref pa, .int (nI np), .int (nI tp), .long (ly ||| cards), .int (nI tn), .int te, .int (lay + 1), .int idl, .int 1, .int (nI tn)])), (ha, .inl (cJ, 4, .inr (.inl x28))), (oa, .inl (cZ, 4, .inl x38))] H := hP
      have hD : va_D A [(g, .inr (0, [.ref ha, .ref oa, .ref pa, .int (nI np), .int (nI tp), .long (ly ||| cards), .int (nI tn), .int te, .int (lay + 1), .int idl, .int 1, .int (nI tn)])), (ha, .inl (cJ, 4, .inr (.inl x28))), (oa, .inl (cZ, 4, .inl x38))] := hD
      rw [← hQ]
      have hP9 := hP.sub (ws' := [(g, .inr (0, [.ref ha, .ref oa, .ref pa, .int (nI np), .int (nI tp), .long (ly ||| cards), .int (nI tn), .int te, .int (lay + 1), .int idl, .int 1, .int (nI tn)])), (ha, .inl (cJ, 4, .inr (.inl x28))), (oa, .inl (cZ, 4, .inl x38))]) [0, 1, 2] rfl
      have hD9 := hD.sub (ws' := [(g, .inr (0, [.ref ha, .ref oa, .ref pa, .int (nI np), .int (nI tp), .long (ly ||| cards), .int (nI tn), .int te, .int (lay + 1), .int idl, .int 1, .int (nI tn)])), (ha, .inl (cJ, 4, .inr (.inl x28))), (oa, .inl (cZ, 4, .inl x38))]) [0, 1, 2] (by decide) rfl
      exact W.vret hx hb hr (fun t ht hW => ⟨⟨(ly ||| cards, lay + 1, 1, nI tn, x28, x38), rfl, ⟨trivial, rfl, rfl, (by first | rw [if_neg (fun q => c_70 (hp_cz (by rw [← ex28, hcl, pk_uLs]; exact q)))] | rw [if_pos (hp_cz2 c_70 (by rw [← ex28, hcl, pk_uLs]))]), (by first | rw [if_neg (fun q => c_70 (hp_cz (by rw [← ex28, hcl, pk_uLs]; exact q)))] | rw [if_pos (hp_cz2 c_70 (by rw [← ex28, hcl, pk_uLs]))]), (by rw [← ex28, hcl]), (by rw [← ex38, hcl]; rfl)⟩, (by show wB D A _ t; exact ⟨by rw [ht]; exact hP9, hD9⟩)⟩, hS.F ht⟩) hS.2.2 dX1_putDown_86
  · exact absurd (ey5.symm.trans c_8) (by decide)
end
section
def lrIn (P : Nat → Int32) (m0 : Int32) : Nat → Int32 × Int32
  | 0 => (0, m0)
  | n + 1 => (if P n = 3 then (lrIn P m0 n).1 + 1 else if P n = 2 then 1 else 0, if (lrIn P m0 n).2 < (if P n = 3 then (lrIn P m0 n).1 + 1 else if P n = 2 then 1 else 0) then (if P n = 3 then (lrIn P m0 n).1 + 1 else if P n = 2 then 1 else 0) else (lrIn P m0 n).2)
def lrOut (P : Nat → Nat → Int32) : Nat → Int32
  | 0 => 0
  | c + 1 => (lrIn (P c) (lrOut P c) 13).2
def j_X2_placeOf (sf : Nat → Int32) (card : Int32) : Int32 := if card < 0 then -1 else if card < 52 then j_X5_placeOf (sf (card / 4).toNatClampNeg) (card - card / 4 * 4) else -1
def j_X2_jokerFor (sf : Nat → Int32) (own : Int64) (card : Int32) : Int32 := if card < 0 then -1 else if card < 52 then (if j_X2_placeOf sf card = 0 then 0 else if lg_cmp ((own.toUInt64 >>> (card.toInt64.toUInt64 &&& Int64.toUInt64 63)).toInt64 &&& 1) 0 = 0 then 1 else 0) else -1
def j_X2_groups (sf : Nat → Int32) : Int32 := bx_sum (fun n => if j_X5_grouped (sf n) = 0 then 0 else 1) 13
def j_X2_runs (sf : Nat → Int32) : Int32 := bx_sum (fun n => j_bcI (j_X5_begun (sf n))) 13
def j_X2_shownCards (sf : Nat → Int32) : Int32 := bx_sum (fun n => j_bcI (j_X5_shown (sf n))) 13
def j_X2_shownWorth (sf : Nat → Int32) : Int32 := bx_sum (fun n => j_X0_worthOfNumber (nI n) * j_bcI (j_X5_shown (sf n))) 13
def j_X2_longestRun (sf : Nat → Int32) : Int32 := lrOut (fun c n => j_X5_placeOf (sf n) (nI c)) 4
theorem hp_div4 {x : Int32} (h0 : ¬ x < 0) (h : x < 52) : vp_in (x / 4) 13 := by
  obtain ⟨j, hj, rfl⟩ := nI_of h0
  rw [show (52 : Int32) = nI 52 from rfl, nI_ltI hj (by decide)] at h
  rw [show (4 : Int32) = nI 4 from rfl, pk_div hj (by decide) (by decide)]
  exact vp_in_nI (by omega) (by decide)
theorem hp_lr {P : Nat → Int32} {m0 le mo le2 mo2 : Int32} {i : Nat} (h : (le, mo) = lrIn P m0 i) (h2 : mo2 = if mo < le2 then le2 else mo) (h1 : le2 = if P i = 3 then le + 1 else if P i = 2 then 1 else 0) : (le2, mo2) = lrIn P m0 (i + 1) := by
  show _ = (_, _)
  rw [← h]
  subst h1; subst h2
  rfl
set_option maxHeartbeats 4000000 in
set_option maxRecDepth 100000 in
theorem k_X2_placeOf (l : Launch) (D : va_G) (cI cJ cZ : ClassId) (lo sa : Nat) (own : Int64) (sf : Nat → Int32) (card : Int32)  : Met l yX2_placeOf wsX2_placeOf ({ frames := 2, cells := 0, slots := 0, locals := 41 } : Room) (va_Pc [.ref lo, .int card] (wR D cI cJ cZ [(lo, .inr (1, [.ref sa, .long own])), (sa, .inl (cI, 13, .inl sf))])) (vp_Si (fun r => r = j_X2_placeOf sf card)) 0 0 (fun _ => False) := by
  refine Met.ofW (cc := cX2_placeOf) (maxL := 2) (ret := (some .int)) (by decide) rfl ?_
  intro p e s m args below meth c s₁ B hml hv
  obtain ⟨hargs, hP, hK, hN⟩ := hv
  have hx := B.exec
  have hb := B.bytes
  have hr := B.returns
  have hlocks := B.notSynchronized
  have hts := atoms_spec (ws := wsX2_placeOf) B.pre
  have hown : s.vm.findClass RX2 = some m.cls := findClass_of_methodNamed B.named
  have k9 := hts (.fieldLink RX2 9 "RummyTable$Layout" "steps" "[I") (by decide +kernel)
  have iX2 : ∀ w ∈ wsX20, w ∈ wsX2_placeOf := by decide +kernel
  have k15 := hts (.methodLink RX2 15 yX5_placeOf) (by decide +kernel)
  rw [show entryFrame m args 2 = entryFrame m ([.ref lo, .int card] : List Value).toArray 2 from by rw [hargs]]
  have hl := lv_entry ([.ref lo, .int card]) (n := 2) (Nat.le_of_ble_eq_true rfl)
  rw [lg_entry_eq]
  generalize (lg_sl ([.ref lo, .int card]) ++ List.replicate (2 - (lg_sl ([.ref lo, .int card])).length) Slot.unset).toArray = ls at hl ⊢
  have hl : lv_has ls 2 [(0, .ref lo), (1, .int card)] := hl
  refine wQ (fun Q hQ => ?_)
  refine lv_iload_n hx hb dX2_placeOf_0 rfl (lv_at hl 1 rfl) ?_
  refine lv_if_lt (tgt := 10) hx hb dX2_placeOf_1 (by decide) (fun c_1 => ?_) (fun c_1 => ?_)
  · refine lv_iconst (v := (-1)) hx hb dX2_placeOf_10 (by decide) ?_
    rw [← hQ]
    exact W.iret (v := (-1)) hx hb hr (fun t ht hW => ⟨_, rfl, (by simp only [j_X2_placeOf]; (repeat' split) <;> first | rfl | contradiction), ht⟩) (fun _ h => by cases h) dX2_placeOf_11
  · refine lv_iload_n hx hb dX2_placeOf_4 rfl (lv_at hl 1 rfl) ?_
    refine lv_bipush (v := 52) hx hb dX2_placeOf_5 (by decide) ?_
    refine lv_icmp_lt (tgt := 12) hx hb dX2_placeOf_7 (by decide) (fun c_7 => ?_) (fun c_7 => ?_)
    · refine lv_aload_n hx hb dX2_placeOf_12 rfl (lv_at hl 0 rfl) ?_
      refine va_get (D := D) (ci := 1) (v := .ref sa) (C := RX2) (T := TX2) (N := 2) hx hb hts iX2 hown hK hP 0 rfl rfl 0 (by decide) k9 (fun _ h9 => h9) rfl dX2_placeOf_13 ?_
      refine lv_iload_n hx hb dX2_placeOf_16 rfl (lv_at hl 1 rfl) ?_
      refine lv_iconst (v := 4) hx hb dX2_placeOf_17 (by decide) ?_
      refine lv_idiv hx hb dX2_placeOf_18 (by decide) ?_
      refine va_iald hx hb hK hP 1 0 rfl rfl (hp_div4 c_1 c_7) dX2_placeOf_19 ?_
      refine lv_iload_n hx hb dX2_placeOf_20 rfl (lv_at hl 1 rfl) ?_
      refine lv_iconst (v := 4) hx hb dX2_placeOf_21 (by decide) ?_
      refine lv_irem hx hb dX2_placeOf_22 (by decide) ?_
      refine vp_callSi (W.runS (As := [.int (sf (card / 4).toNatClampNeg), .int (card - card / 4 * 4)]) (rest := []) ⟨hx, hb, hml, hown, hts⟩ (k_X5_placeOf l (sf (card / 4).toNatClampNeg) (card - card / 4 * 4) ) (va_cwS 2 hts gX2_placeOf_X5_placeOf rfl rfl rfl (by decide +kernel) ⟨Nat.le_of_ble_eq_true rfl, Nat.le_of_ble_eq_true rfl⟩) ⟨pS_fb, pS_pre⟩ rfl rfl hl.1 rfl (lv_room (Nat.le_of_ble_eq_true rfl)) dX2_placeOf_23 ⟨Nat.le_of_ble_eq_true rfl, Nat.le_of_ble_eq_true rfl⟩) (fun x23 hx23 => ?_)
      subst hx23
      rw [← hQ]
      exact W.iret (v := j_X5_placeOf (sf (card / 4).toNatClampNeg) (card - card / 4 * 4)) hx hb hr (fun t ht hW => ⟨_, rfl, (by subst_vars; simp only [j_X2_placeOf]; rw [if_neg c_1, if_pos c_7]), ht⟩) (fun _ h => by cases h) dX2_placeOf_26
    · refine lv_iconst (v := (-1)) hx hb dX2_placeOf_10 (by decide) ?_
      rw [← hQ]
      exact W.iret (v := (-1)) hx hb hr (fun t ht hW => ⟨_, rfl, (by simp only [j_X2_placeOf]; (repeat' split) <;> first | rfl | contradiction), ht⟩) (fun _ h => by cases h) dX2_placeOf_11

set_option maxHeartbeats 4000000 in
set_option maxRecDepth 100000 in
theorem k_X2_jokerFor (l : Launch) (D : va_G) (cI cJ cZ : ClassId) (lo sa : Nat) (own : Int64) (sf : Nat → Int32) (card : Int32)  : Met l yX2_jokerFor wsX2_jokerFor ({ frames := 3, cells := 0, slots := 0, locals := 62 } : Room) (va_Pc [.ref lo, .int card] (wR D cI cJ cZ [(lo, .inr (1, [.ref sa, .long own])), (sa, .inl (cI, 13, .inl sf))])) (vp_Si (fun r => r = j_X2_jokerFor sf own card)) 0 0 (fun _ => False) := by
  refine Met.ofW (cc := cX2_jokerFor) (maxL := 2) (ret := (some .int)) (by decide) rfl ?_
  intro p e s m args below meth c s₁ B hml hv
  obtain ⟨hargs, hP, hK, hN⟩ := hv
  have hx := B.exec
  have hb := B.bytes
  have hr := B.returns
  have hlocks := B.notSynchronized
  have hts := atoms_spec (ws := wsX2_jokerFor) B.pre
  have hown : s.vm.findClass RX2 = some m.cls := findClass_of_methodNamed B.named
  have k21 := hts (.methodLink RX2 21 yX2_placeOf) (by decide +kernel)
  have k24 := hts (.fieldLink RX2 24 "RummyTable$Layout" "own" "J") (by decide +kernel)
  have iX2 : ∀ w ∈ wsX20, w ∈ wsX2_jokerFor := by decide +kernel
  rw [show entryFrame m args 2 = entryFrame m ([.ref lo, .int card] : List Value).toArray 2 from by rw [hargs]]
  have hl := lv_entry ([.ref lo, .int card]) (n := 2) (Nat.le_of_ble_eq_true rfl)
  rw [lg_entry_eq]
  generalize (lg_sl ([.ref lo, .int card]) ++ List.replicate (2 - (lg_sl ([.ref lo, .int card])).length) Slot.unset).toArray = ls at hl ⊢
  have hl : lv_has ls 2 [(0, .ref lo), (1, .int card)] := hl
  refine wQ (fun Q hQ => ?_)
  refine lv_iload_n hx hb dX2_jokerFor_0 rfl (lv_at hl 1 rfl) ?_
  refine lv_if_lt (tgt := 10) hx hb dX2_jokerFor_1 (by decide) (fun c_1 => ?_) (fun c_1 => ?_)
  · refine lv_iconst (v := (-1)) hx hb dX2_jokerFor_10 (by decide) ?_
    rw [← hQ]
    exact W.iret (v := (-1)) hx hb hr (fun t ht hW => ⟨_, rfl, (by simp only [j_X2_jokerFor]; (repeat' split) <;> first | rfl | contradiction), ht⟩) (fun _ h => by cases h) dX2_jokerFor_11
  · refine lv_iload_n hx hb dX2_jokerFor_4 rfl (lv_at hl 1 rfl) ?_
    refine lv_bipush (v := 52) hx hb dX2_jokerFor_5 (by decide) ?_
    refine lv_icmp_lt (tgt := 12) hx hb dX2_jokerFor_7 (by decide) (fun c_7 => ?_) (fun c_7 => ?_)
    · refine lv_aload_n hx hb dX2_jokerFor_12 rfl (lv_at hl 0 rfl) ?_
      refine lv_iload_n hx hb dX2_jokerFor_13 rfl (lv_at hl 1 rfl) ?_
      have hPc := hP.sub (ws' := [(lo, .inr (1, [.ref sa, .long own])), (sa, .inl (cI, 13, .inl sf))]) [0, 1] rfl
      refine vp_callSi (W.runV (As := [.int card]) (rest := []) ⟨hx, hb, hml, hown, hts⟩ (k_X2_placeOf l D cI cJ cZ lo sa own sf card ) (cwV 1 hts gX2_jokerFor_X2_placeOf rfl rfl rfl (by decide +kernel) ⟨Nat.le_of_ble_eq_true rfl, Nat.le_of_ble_eq_true rfl⟩) ⟨wR_fb, va_recv hK hPc (ci := 1) (q0 := 0) rfl rfl, wR_pre hPc ⟨hK, hN⟩⟩ rfl rfl hl.1 rfl (lv_room (Nat.le_of_ble_eq_true rfl)) dX2_jokerFor_14 ⟨Nat.le_of_ble_eq_true rfl, Nat.le_of_ble_eq_true rfl⟩) (fun x14 hx14 => ?_)
      subst hx14
      refine lv_if_eq (tgt := 37) hx hb dX2_jokerFor_17 (by decide) (fun c_17 => ?_) (fun c_17 => ?_)
      · refine lv_iconst (v := 0) hx hb dX2_jokerFor_37 (by decide) ?_
        rw [← hQ]
        exact W.iret (v := 0) hx hb hr (fun t ht hW => ⟨_, rfl, (by simp only [j_X2_jokerFor]; (repeat' split) <;> first | rfl | contradiction), ht⟩) (fun _ h => by cases h) dX2_jokerFor_38
      · refine lv_aload_n hx hb dX2_jokerFor_20 rfl (lv_at hl 0 rfl) ?_
        refine va_get (D := D) (ci := 1) (v := .long own) (C := RX2) (T := TX2) (N := 2) hx hb hts iX2 hown hK hP 0 rfl rfl 1 (by decide) k24 (fun _ h9 => h9) rfl dX2_jokerFor_21 ?_
        refine lv_iload_n hx hb dX2_jokerFor_24 rfl (lv_at hl 1 rfl) ?_
        refine lv_lushr hx hb dX2_jokerFor_25 rfl ?_
        refine lv_lconst (v := 1) hx hb dX2_jokerFor_26 (by decide) ?_
        refine lv_land hx hb dX2_jokerFor_27 ?_
        refine lv_lconst (v := 0) hx hb dX2_jokerFor_28 (by decide) ?_
        refine W.lcmp hx hb dX2_jokerFor_29 ?_
        refine lv_if_ne (tgt := 37) hx hb dX2_jokerFor_30 (by decide) (fun c_30 => ?_) (fun c_30 => ?_)
        · refine lv_iconst (v := 0) hx hb dX2_jokerFor_37 (by decide) ?_
          rw [← hQ]
          exact W.iret (v := 0) hx hb hr (fun t ht hW => ⟨_, rfl, (by simp only [j_X2_jokerFor]; (repeat' split) <;> first | rfl | contradiction), ht⟩) (fun _ h => by cases h) dX2_jokerFor_38
        · refine lv_iconst (v := 1) hx hb dX2_jokerFor_33 (by decide) ?_
          refine lv_goto (tgt := 38) hx hb dX2_jokerFor_34 (by decide) ?_
          rw [← hQ]
          exact W.iret (v := 1) hx hb hr (fun t ht hW => ⟨_, rfl, (by simp only [j_X2_jokerFor]; (repeat' split) <;> first | rfl | contradiction), ht⟩) (fun _ h => by cases h) dX2_jokerFor_38
    · refine lv_iconst (v := (-1)) hx hb dX2_jokerFor_10 (by decide) ?_
      rw [← hQ]
      exact W.iret (v := (-1)) hx hb hr (fun t ht hW => ⟨_, rfl, (by simp only [j_X2_jokerFor]; (repeat' split) <;> first | rfl | contradiction), ht⟩) (fun _ h => by cases h) dX2_jokerFor_11

set_option maxHeartbeats 4000000 in
set_option maxRecDepth 100000 in
theorem k_X2_groups (l : Launch) (D : va_G) (cI cJ cZ : ClassId) (lo sa : Nat) (own : Int64) (sf : Nat → Int32)   : Met l yX2_groups wsX2_groups ({ frames := 1, cells := 0, slots := 0, locals := 20 } : Room) (va_Pc [.ref lo] (wR D cI cJ cZ [(lo, .inr (1, [.ref sa, .long own])), (sa, .inl (cI, 13, .inl sf))])) (vp_Si (fun r => r = j_X2_groups sf)) 0 0 (fun _ => False) := by
  refine Met.ofW (cc := cX2_groups) (maxL := 6) (ret := (some .int)) (by decide) rfl ?_
  intro p e s m args below meth c s₁ B hml hv
  obtain ⟨hargs, hP, hK, hN⟩ := hv
  have hx := B.exec
  have hb := B.bytes
  have hr := B.returns
  have hlocks := B.notSynchronized
  have hts := atoms_spec (ws := wsX2_groups) B.pre
  have hown : s.vm.findClass RX2 = some m.cls := findClass_of_methodNamed B.named
  have k28 := hts (.methodLink RX2 28 yX5_grouped) (by decide +kernel)
  have k9 := hts (.fieldLink RX2 9 "RummyTable$Layout" "steps" "[I") (by decide +kernel)
  have iX2 : ∀ w ∈ wsX20, w ∈ wsX2_groups := by decide +kernel
  rw [show entryFrame m args 6 = entryFrame m ([.ref lo] : List Value).toArray 6 from by rw [hargs]]
  have hl := lv_entry ([.ref lo]) (n := 6) (Nat.le_of_ble_eq_true rfl)
  rw [lg_entry_eq]
  generalize (lg_sl ([.ref lo]) ++ List.replicate (6 - (lg_sl ([.ref lo])).length) Slot.unset).toArray = ls at hl ⊢
  have hl : lv_has ls 6 [(0, .ref lo)] := hl
  refine wQ (fun Q hQ => ?_)
  have lab13 : ∀ fuel13 : Nat, ∀ (i : Nat) (a : Int32) (x3 : Int32) (x4 : Int32), (h3 : x3 = nI 13) → (h4 : x4 = nI i) → (hi : i ≤ 13) → (hs : a = bx_sum (fun n => if j_X5_grouped (sf n) = 0 then 0 else 1) i) → (hfu13 : 13 - i < fuel13) → ∀ ls : Array Slot, lv_has ls 6 [(0, .ref lo), (1, .int a), (2, .ref sa), (3, .int x3), (4, .int x4)] → W p l e (headSpec wsX2_groups ({ frames := 1, cells := 0, slots := 0, locals := 20 } : Room)).room s m args below meth c s.heap [] 0 0 Q (F0 m 13 ls []) := by
    intro fuel13
    induction fuel13 with
    | zero =>
      intro i a x3 x4 h3 h4 hi hs hfu13
      exact absurd hfu13 (Nat.not_lt_zero _)
    | succ fuel13 ih13 =>
      intro i a x3 x4 h3 h4 hi hs hfu13 ls hl
      refine lv_iload hx hb dX2_groups_13 (lv_at hl 4 rfl) ?_
      refine lv_iload_n hx hb dX2_groups_15 rfl (lv_at hl 3 rfl) ?_
      refine lv_icmp_ge (tgt := 42) hx hb dX2_groups_16 (by decide) (fun c_16 => ?_) (fun c_16 => ?_)
      · have hi13 := hp_ge h4 h3 hi (by decide) c_16
        refine lv_iload_n hx hb dX2_groups_42 rfl (lv_at hl 1 rfl) ?_
        rw [← hQ]
        exact W.iret (v := a) hx hb hr (fun t ht hW => ⟨_, rfl, (by subst hi13; exact hs), ht⟩) (fun _ h => by cases h) dX2_groups_43
      · have hlt := hp_lt h4 h3 hi (by decide) c_16
        refine lv_aload_n hx hb dX2_groups_19 rfl (lv_at hl 2 rfl) ?_
        refine lv_iload hx hb dX2_groups_20 (lv_at hl 4 rfl) ?_
        refine va_iald hx hb hK hP 1 0 rfl rfl (by rw [h4]; exact vp_in_nI hlt (by decide)) dX2_groups_22 ?_
        refine lv_topi (fun x23 ex23 => ?_)
        refine lv_istore (lv' := [(5, .int x23), (0, .ref lo), (1, .int a), (2, .ref sa), (3, .int x3), (4, .int x4)]) hx hb dX2_groups_23 hl (by decide) rfl (fun ls hl => ?_)
        refine lv_iload hx hb dX2_groups_25 (lv_at hl 0 rfl) ?_
        refine vp_callSi (W.runS (As := [.int x23]) (rest := []) ⟨hx, hb, hml, hown, hts⟩ (k_X5_grouped l x23 ) (va_cwS 1 hts gX2_groups_X5_grouped rfl rfl rfl (by decide +kernel) ⟨Nat.le_of_ble_eq_true rfl, Nat.le_of_ble_eq_true rfl⟩) ⟨pS_fb, pS_pre⟩ rfl rfl hl.1 rfl (lv_room (Nat.le_of_ble_eq_true rfl)) dX2_groups_27 ⟨Nat.le_of_ble_eq_true rfl, Nat.le_of_ble_eq_true rfl⟩) (fun x27 hx27 => ?_)
        subst hx27
        refine lv_if_eq (tgt := 36) hx hb dX2_groups_30 (by decide) (fun c_30 => ?_) (fun c_30 => ?_)
        · obtain ⟨x36, ex36⟩ : ∃ y : Int32, y = x4 + 1 := ⟨_, rfl⟩
          refine lv_iinc (v := x36) (lv' := [(4, .int x36), (5, .int x23), (0, .ref lo), (1, .int a), (2, .ref sa), (3, .int x3)]) hx hb dX2_groups_36 hl (k := 5) rfl (by rw [ex36]; rfl) (by decide) rfl (fun ls hl => ?_)
          refine lv_goto (tgt := 13) hx hb dX2_groups_39 (by decide) ?_
          exact ih13 (i + 1) a x3 x36 (h3) (hp_s ex36 h4) (by omega) (by rw [ex23, h4, nI_clamp (show i < 2 ^ 31 by omega)] at c_30; (try subst ex33); subst hs; simp only [bx_sum]; first | (rw [if_pos c_30]; simp; done) | (rw [if_neg c_30])) (by omega) ls (lv_sub hl [2, 3, 4, 5, 0] rfl)
        · obtain ⟨x33, ex33⟩ : ∃ y : Int32, y = a + 1 := ⟨_, rfl⟩
          refine lv_iinc (v := x33) (lv' := [(1, .int x33), (5, .int x23), (0, .ref lo), (2, .ref sa), (3, .int x3), (4, .int x4)]) hx hb dX2_groups_33 hl (k := 2) rfl (by rw [ex33]; rfl) (by decide) rfl (fun ls hl => ?_)
          obtain ⟨x36, ex36⟩ : ∃ y : Int32, y = x4 + 1 := ⟨_, rfl⟩
          refine lv_iinc (v := x36) (lv' := [(4, .int x36), (1, .int x33), (5, .int x23), (0, .ref lo), (2, .ref sa), (3, .int x3)]) hx hb dX2_groups_36 hl (k := 5) rfl (by rw [ex36]; rfl) (by decide) rfl (fun ls hl => ?_)
          refine lv_goto (tgt := 13) hx hb dX2_groups_39 (by decide) ?_
          exact ih13 (i + 1) x33 x3 x36 (h3) (hp_s ex36 h4) (by omega) (by rw [ex23, h4, nI_clamp (show i < 2 ^ 31 by omega)] at c_30; (try subst ex33); subst hs; simp only [bx_sum]; first | (rw [if_pos c_30]; simp; done) | (rw [if_neg c_30])) (by omega) ls (lv_sub hl [3, 1, 4, 5, 0] rfl)
  refine lv_iconst (v := 0) hx hb dX2_groups_0 (by decide) ?_
  refine lv_istore_n (lv' := [(1, .int 0), (0, .ref lo)]) hx hb dX2_groups_1 rfl hl (by decide) rfl (fun ls hl => ?_)
  refine lv_aload_n hx hb dX2_groups_2 rfl (lv_at hl 1 rfl) ?_
  refine va_get (D := D) (ci := 1) (v := .ref sa) (C := RX2) (T := TX2) (N := 2) hx hb hts iX2 hown hK hP 0 rfl rfl 0 (by decide) k9 (fun _ h9 => h9) rfl dX2_groups_3 ?_
  refine lv_astore_n (lv' := [(2, .ref sa), (1, .int 0), (0, .ref lo)]) hx hb dX2_groups_6 rfl hl (by decide) rfl (fun ls hl => ?_)
  refine lv_aload_n hx hb dX2_groups_7 rfl (lv_at hl 0 rfl) ?_
  refine va_alen hx hb hK hP 1 0 rfl (ty := .int) rfl (v := nI 13) rfl dX2_groups_8 ?_
  refine lv_topi (fun x9 ex9 => ?_)
  refine lv_istore_n (lv' := [(3, .int x9), (2, .ref sa), (1, .int 0), (0, .ref lo)]) hx hb dX2_groups_9 rfl hl (by decide) rfl (fun ls hl => ?_)
  refine lv_iconst (v := 0) hx hb dX2_groups_10 (by decide) ?_
  refine lv_istore (lv' := [(4, .int 0), (3, .int x9), (2, .ref sa), (1, .int 0), (0, .ref lo)]) hx hb dX2_groups_11 hl (by decide) rfl (fun ls hl => ?_)
  exact lab13 _ 0 0 x9 0 (ex9) (nI_0.symm) (by omega) (rfl) (Nat.lt_succ_self _) ls (lv_sub hl [4, 3, 2, 1, 0] rfl)

set_option maxHeartbeats 4000000 in
set_option maxRecDepth 100000 in
theorem k_X2_runs (l : Launch) (D : va_G) (cI cJ cZ : ClassId) (lo sa : Nat) (own : Int64) (sf : Nat → Int32)   : Met l yX2_runs wsX2_runs ({ frames := 1, cells := 0, slots := 0, locals := 20 } : Room) (va_Pc [.ref lo] (wR D cI cJ cZ [(lo, .inr (1, [.ref sa, .long own])), (sa, .inl (cI, 13, .inl sf))])) (vp_Si (fun r => r = j_X2_runs sf)) 0 0 (fun _ => False) := by
  refine Met.ofW (cc := cX2_runs) (maxL := 6) (ret := (some .int)) (by decide) rfl ?_
  intro p e s m args below meth c s₁ B hml hv
  obtain ⟨hargs, hP, hK, hN⟩ := hv
  have hx := B.exec
  have hb := B.bytes
  have hr := B.returns
  have hlocks := B.notSynchronized
  have hts := atoms_spec (ws := wsX2_runs) B.pre
  have hown : s.vm.findClass RX2 = some m.cls := findClass_of_methodNamed B.named
  have k31 := hts (.methodLink RX2 31 yX5_begun) (by decide +kernel)
  have k34 := hts (.methodLink RX2 34 yJ6_bitCount_0f7a4) (by decide +kernel)
  have k9 := hts (.fieldLink RX2 9 "RummyTable$Layout" "steps" "[I") (by decide +kernel)
  have iX2 : ∀ w ∈ wsX20, w ∈ wsX2_runs := by decide +kernel
  rw [show entryFrame m args 6 = entryFrame m ([.ref lo] : List Value).toArray 6 from by rw [hargs]]
  have hl := lv_entry ([.ref lo]) (n := 6) (Nat.le_of_ble_eq_true rfl)
  rw [lg_entry_eq]
  generalize (lg_sl ([.ref lo]) ++ List.replicate (6 - (lg_sl ([.ref lo])).length) Slot.unset).toArray = ls at hl ⊢
  have hl : lv_has ls 6 [(0, .ref lo)] := hl
  refine wQ (fun Q hQ => ?_)
  have lab13 : ∀ fuel13 : Nat, ∀ (i : Nat) (a : Int32) (x3 : Int32) (x4 : Int32), (h3 : x3 = nI 13) → (h4 : x4 = nI i) → (hi : i ≤ 13) → (hs : a = bx_sum (fun n => j_bcI (j_X5_begun (sf n))) i) → (hfu13 : 13 - i < fuel13) → ∀ ls : Array Slot, lv_has ls 6 [(0, .ref lo), (1, .int a), (2, .ref sa), (3, .int x3), (4, .int x4)] → W p l e (headSpec wsX2_runs ({ frames := 1, cells := 0, slots := 0, locals := 20 } : Room)).room s m args below meth c s.heap [] 0 0 Q (F0 m 13 ls []) := by
    intro fuel13
    induction fuel13 with
    | zero =>
      intro i a x3 x4 h3 h4 hi hs hfu13
      exact absurd hfu13 (Nat.not_lt_zero _)
    | succ fuel13 ih13 =>
      intro i a x3 x4 h3 h4 hi hs hfu13 ls hl
      refine lv_iload hx hb dX2_runs_13 (lv_at hl 4 rfl) ?_
      refine lv_iload_n hx hb dX2_runs_15 rfl (lv_at hl 3 rfl) ?_
      refine lv_icmp_ge (tgt := 42) hx hb dX2_runs_16 (by decide) (fun c_16 => ?_) (fun c_16 => ?_)
      · have hi13 := hp_ge h4 h3 hi (by decide) c_16
        refine lv_iload_n hx hb dX2_runs_42 rfl (lv_at hl 1 rfl) ?_
        rw [← hQ]
        exact W.iret (v := a) hx hb hr (fun t ht hW => ⟨_, rfl, (by subst hi13; exact hs), ht⟩) (fun _ h => by cases h) dX2_runs_43
      · have hlt := hp_lt h4 h3 hi (by decide) c_16
        refine lv_aload_n hx hb dX2_runs_19 rfl (lv_at hl 2 rfl) ?_
        refine lv_iload hx hb dX2_runs_20 (lv_at hl 4 rfl) ?_
        refine va_iald hx hb hK hP 1 0 rfl rfl (by rw [h4]; exact vp_in_nI hlt (by decide)) dX2_runs_22 ?_
        refine lv_topi (fun x23 ex23 => ?_)
        refine lv_istore (lv' := [(5, .int x23), (0, .ref lo), (1, .int a), (2, .ref sa), (3, .int x3), (4, .int x4)]) hx hb dX2_runs_23 hl (by decide) rfl (fun ls hl => ?_)
        refine lv_iload_n hx hb dX2_runs_25 rfl (lv_at hl 2 rfl) ?_
        refine lv_iload hx hb dX2_runs_26 (lv_at hl 0 rfl) ?_
        refine vp_callSi (W.runS (As := [.int x23]) (rest := [.int a]) ⟨hx, hb, hml, hown, hts⟩ (k_X5_begun l x23 ) (va_cwS 1 hts gX2_runs_X5_begun rfl rfl rfl (by decide +kernel) ⟨Nat.le_of_ble_eq_true rfl, Nat.le_of_ble_eq_true rfl⟩) ⟨pS_fb, pS_pre⟩ rfl rfl hl.1 rfl (lv_room (Nat.le_of_ble_eq_true rfl)) dX2_runs_28 ⟨Nat.le_of_ble_eq_true rfl, Nat.le_of_ble_eq_true rfl⟩) (fun x28 hx28 => ?_)
        subst hx28
        refine vp_callSi (W.runS (As := [.int (j_X5_begun x23)]) (rest := [.int a]) ⟨hx, hb, hml, hown, hts⟩ (k_J6_bitCount_0f7a4 l (j_X5_begun x23) ) (va_cwS 1 hts gX2_runs_J6_bitCount_0f7a4 rfl rfl rfl (by decide +kernel) ⟨Nat.le_of_ble_eq_true rfl, Nat.le_of_ble_eq_true rfl⟩) ⟨pS_fb, pS_pre⟩ rfl rfl hl.1 rfl (lv_room (Nat.le_of_ble_eq_true rfl)) dX2_runs_31 ⟨Nat.le_of_ble_eq_true rfl, Nat.le_of_ble_eq_true rfl⟩) (fun x31 hx31 => ?_)
        subst hx31
        refine lv_iadd hx hb dX2_runs_34 ?_
        refine lv_topi (fun x35 ex35 => ?_)
        refine lv_istore_n (lv' := [(1, .int x35), (5, .int x23), (0, .ref lo), (2, .ref sa), (3, .int x3), (4, .int x4)]) hx hb dX2_runs_35 rfl hl (by decide) rfl (fun ls hl => ?_)
        obtain ⟨x36, ex36⟩ : ∃ y : Int32, y = x4 + 1 := ⟨_, rfl⟩
        refine lv_iinc (v := x36) (lv' := [(4, .int x36), (1, .int x35), (5, .int x23), (0, .ref lo), (2, .ref sa), (3, .int x3)]) hx hb dX2_runs_36 hl (k := 5) rfl (by rw [ex36]; rfl) (by decide) rfl (fun ls hl => ?_)
        refine lv_goto (tgt := 13) hx hb dX2_runs_39 (by decide) ?_
        exact ih13 (i + 1) x35 x3 x36 (h3) (hp_s ex36 h4) (by omega) (by subst_vars; simp only [bx_sum, nI_clamp (show i < 2 ^ 31 by omega)]) (by omega) ls (lv_sub hl [3, 1, 4, 5, 0] rfl)
  refine lv_iconst (v := 0) hx hb dX2_runs_0 (by decide) ?_
  refine lv_istore_n (lv' := [(1, .int 0), (0, .ref lo)]) hx hb dX2_runs_1 rfl hl (by decide) rfl (fun ls hl => ?_)
  refine lv_aload_n hx hb dX2_runs_2 rfl (lv_at hl 1 rfl) ?_
  refine va_get (D := D) (ci := 1) (v := .ref sa) (C := RX2) (T := TX2) (N := 2) hx hb hts iX2 hown hK hP 0 rfl rfl 0 (by decide) k9 (fun _ h9 => h9) rfl dX2_runs_3 ?_
  refine lv_astore_n (lv' := [(2, .ref sa), (1, .int 0), (0, .ref lo)]) hx hb dX2_runs_6 rfl hl (by decide) rfl (fun ls hl => ?_)
  refine lv_aload_n hx hb dX2_runs_7 rfl (lv_at hl 0 rfl) ?_
  refine va_alen hx hb hK hP 1 0 rfl (ty := .int) rfl (v := nI 13) rfl dX2_runs_8 ?_
  refine lv_topi (fun x9 ex9 => ?_)
  refine lv_istore_n (lv' := [(3, .int x9), (2, .ref sa), (1, .int 0), (0, .ref lo)]) hx hb dX2_runs_9 rfl hl (by decide) rfl (fun ls hl => ?_)
  refine lv_iconst (v := 0) hx hb dX2_runs_10 (by decide) ?_
  refine lv_istore (lv' := [(4, .int 0), (3, .int x9), (2, .ref sa), (1, .int 0), (0, .ref lo)]) hx hb dX2_runs_11 hl (by decide) rfl (fun ls hl => ?_)
  exact lab13 _ 0 0 x9 0 (ex9) (nI_0.symm) (by omega) (rfl) (Nat.lt_succ_self _) ls (lv_sub hl [4, 3, 2, 1, 0] rfl)

set_option maxHeartbeats 4000000 in
set_option maxRecDepth 100000 in
theorem k_X2_shownCards (l : Launch) (D : va_G) (cI cJ cZ : ClassId) (lo sa : Nat) (own : Int64) (sf : Nat → Int32)   : Met l yX2_shownCards wsX2_shownCards ({ frames := 1, cells := 0, slots := 0, locals := 20 } : Room) (va_Pc [.ref lo] (wR D cI cJ cZ [(lo, .inr (1, [.ref sa, .long own])), (sa, .inl (cI, 13, .inl sf))])) (vp_Si (fun r => r = j_X2_shownCards sf)) 0 0 (fun _ => False) := by
  refine Met.ofW (cc := cX2_shownCards) (maxL := 6) (ret := (some .int)) (by decide) rfl ?_
  intro p e s m args below meth c s₁ B hml hv
  obtain ⟨hargs, hP, hK, hN⟩ := hv
  have hx := B.exec
  have hb := B.bytes
  have hr := B.returns
  have hlocks := B.notSynchronized
  have hts := atoms_spec (ws := wsX2_shownCards) B.pre
  have hown : s.vm.findClass RX2 = some m.cls := findClass_of_methodNamed B.named
  have k39 := hts (.methodLink RX2 39 yX5_shown) (by decide +kernel)
  have k34 := hts (.methodLink RX2 34 yJ6_bitCount_0f7a4) (by decide +kernel)
  have k9 := hts (.fieldLink RX2 9 "RummyTable$Layout" "steps" "[I") (by decide +kernel)
  have iX2 : ∀ w ∈ wsX20, w ∈ wsX2_shownCards := by decide +kernel
  rw [show entryFrame m args 6 = entryFrame m ([.ref lo] : List Value).toArray 6 from by rw [hargs]]
  have hl := lv_entry ([.ref lo]) (n := 6) (Nat.le_of_ble_eq_true rfl)
  rw [lg_entry_eq]
  generalize (lg_sl ([.ref lo]) ++ List.replicate (6 - (lg_sl ([.ref lo])).length) Slot.unset).toArray = ls at hl ⊢
  have hl : lv_has ls 6 [(0, .ref lo)] := hl
  refine wQ (fun Q hQ => ?_)
  have lab13 : ∀ fuel13 : Nat, ∀ (i : Nat) (a : Int32) (x3 : Int32) (x4 : Int32), (h3 : x3 = nI 13) → (h4 : x4 = nI i) → (hi : i ≤ 13) → (hs : a = bx_sum (fun n => j_bcI (j_X5_shown (sf n))) i) → (hfu13 : 13 - i < fuel13) → ∀ ls : Array Slot, lv_has ls 6 [(0, .ref lo), (1, .int a), (2, .ref sa), (3, .int x3), (4, .int x4)] → W p l e (headSpec wsX2_shownCards ({ frames := 1, cells := 0, slots := 0, locals := 20 } : Room)).room s m args below meth c s.heap [] 0 0 Q (F0 m 13 ls []) := by
    intro fuel13
    induction fuel13 with
    | zero =>
      intro i a x3 x4 h3 h4 hi hs hfu13
      exact absurd hfu13 (Nat.not_lt_zero _)
    | succ fuel13 ih13 =>
      intro i a x3 x4 h3 h4 hi hs hfu13 ls hl
      refine lv_iload hx hb dX2_shownCards_13 (lv_at hl 4 rfl) ?_
      refine lv_iload_n hx hb dX2_shownCards_15 rfl (lv_at hl 3 rfl) ?_
      refine lv_icmp_ge (tgt := 42) hx hb dX2_shownCards_16 (by decide) (fun c_16 => ?_) (fun c_16 => ?_)
      · have hi13 := hp_ge h4 h3 hi (by decide) c_16
        refine lv_iload_n hx hb dX2_shownCards_42 rfl (lv_at hl 1 rfl) ?_
        rw [← hQ]
        exact W.iret (v := a) hx hb hr (fun t ht hW => ⟨_, rfl, (by subst hi13; exact hs), ht⟩) (fun _ h => by cases h) dX2_shownCards_43
      · have hlt := hp_lt h4 h3 hi (by decide) c_16
        refine lv_aload_n hx hb dX2_shownCards_19 rfl (lv_at hl 2 rfl) ?_
        refine lv_iload hx hb dX2_shownCards_20 (lv_at hl 4 rfl) ?_
        refine va_iald hx hb hK hP 1 0 rfl rfl (by rw [h4]; exact vp_in_nI hlt (by decide)) dX2_shownCards_22 ?_
        refine lv_topi (fun x23 ex23 => ?_)
        refine lv_istore (lv' := [(5, .int x23), (0, .ref lo), (1, .int a), (2, .ref sa), (3, .int x3), (4, .int x4)]) hx hb dX2_shownCards_23 hl (by decide) rfl (fun ls hl => ?_)
        refine lv_iload_n hx hb dX2_shownCards_25 rfl (lv_at hl 2 rfl) ?_
        refine lv_iload hx hb dX2_shownCards_26 (lv_at hl 0 rfl) ?_
        refine vp_callSi (W.runS (As := [.int x23]) (rest := [.int a]) ⟨hx, hb, hml, hown, hts⟩ (k_X5_shown l x23 ) (va_cwS 1 hts gX2_shownCards_X5_shown rfl rfl rfl (by decide +kernel) ⟨Nat.le_of_ble_eq_true rfl, Nat.le_of_ble_eq_true rfl⟩) ⟨pS_fb, pS_pre⟩ rfl rfl hl.1 rfl (lv_room (Nat.le_of_ble_eq_true rfl)) dX2_shownCards_28 ⟨Nat.le_of_ble_eq_true rfl, Nat.le_of_ble_eq_true rfl⟩) (fun x28 hx28 => ?_)
        subst hx28
        refine vp_callSi (W.runS (As := [.int (j_X5_shown x23)]) (rest := [.int a]) ⟨hx, hb, hml, hown, hts⟩ (k_J6_bitCount_0f7a4 l (j_X5_shown x23) ) (va_cwS 1 hts gX2_shownCards_J6_bitCount_0f7a4 rfl rfl rfl (by decide +kernel) ⟨Nat.le_of_ble_eq_true rfl, Nat.le_of_ble_eq_true rfl⟩) ⟨pS_fb, pS_pre⟩ rfl rfl hl.1 rfl (lv_room (Nat.le_of_ble_eq_true rfl)) dX2_shownCards_31 ⟨Nat.le_of_ble_eq_true rfl, Nat.le_of_ble_eq_true rfl⟩) (fun x31 hx31 => ?_)
        subst hx31
        refine lv_iadd hx hb dX2_shownCards_34 ?_
        refine lv_topi (fun x35 ex35 => ?_)
        refine lv_istore_n (lv' := [(1, .int x35), (5, .int x23), (0, .ref lo), (2, .ref sa), (3, .int x3), (4, .int x4)]) hx hb dX2_shownCards_35 rfl hl (by decide) rfl (fun ls hl => ?_)
        obtain ⟨x36, ex36⟩ : ∃ y : Int32, y = x4 + 1 := ⟨_, rfl⟩
        refine lv_iinc (v := x36) (lv' := [(4, .int x36), (1, .int x35), (5, .int x23), (0, .ref lo), (2, .ref sa), (3, .int x3)]) hx hb dX2_shownCards_36 hl (k := 5) rfl (by rw [ex36]; rfl) (by decide) rfl (fun ls hl => ?_)
        refine lv_goto (tgt := 13) hx hb dX2_shownCards_39 (by decide) ?_
        exact ih13 (i + 1) x35 x3 x36 (h3) (hp_s ex36 h4) (by omega) (by subst_vars; simp only [bx_sum, nI_clamp (show i < 2 ^ 31 by omega)]) (by omega) ls (lv_sub hl [3, 1, 4, 5, 0] rfl)
  refine lv_iconst (v := 0) hx hb dX2_shownCards_0 (by decide) ?_
  refine lv_istore_n (lv' := [(1, .int 0), (0, .ref lo)]) hx hb dX2_shownCards_1 rfl hl (by decide) rfl (fun ls hl => ?_)
  refine lv_aload_n hx hb dX2_shownCards_2 rfl (lv_at hl 1 rfl) ?_
  refine va_get (D := D) (ci := 1) (v := .ref sa) (C := RX2) (T := TX2) (N := 2) hx hb hts iX2 hown hK hP 0 rfl rfl 0 (by decide) k9 (fun _ h9 => h9) rfl dX2_shownCards_3 ?_
  refine lv_astore_n (lv' := [(2, .ref sa), (1, .int 0), (0, .ref lo)]) hx hb dX2_shownCards_6 rfl hl (by decide) rfl (fun ls hl => ?_)
  refine lv_aload_n hx hb dX2_shownCards_7 rfl (lv_at hl 0 rfl) ?_
  refine va_alen hx hb hK hP 1 0 rfl (ty := .int) rfl (v := nI 13) rfl dX2_shownCards_8 ?_
  refine lv_topi (fun x9 ex9 => ?_)
  refine lv_istore_n (lv' := [(3, .int x9), (2, .ref sa), (1, .int 0), (0, .ref lo)]) hx hb dX2_shownCards_9 rfl hl (by decide) rfl (fun ls hl => ?_)
  refine lv_iconst (v := 0) hx hb dX2_shownCards_10 (by decide) ?_
  refine lv_istore (lv' := [(4, .int 0), (3, .int x9), (2, .ref sa), (1, .int 0), (0, .ref lo)]) hx hb dX2_shownCards_11 hl (by decide) rfl (fun ls hl => ?_)
  exact lab13 _ 0 0 x9 0 (ex9) (nI_0.symm) (by omega) (rfl) (Nat.lt_succ_self _) ls (lv_sub hl [4, 3, 2, 1, 0] rfl)

set_option maxHeartbeats 4000000 in
set_option maxRecDepth 100000 in
theorem k_X2_shownWorth (l : Launch) (D : va_G) (cI cJ cZ : ClassId) (lo sa : Nat) (own : Int64) (sf : Nat → Int32)   : Met l yX2_shownWorth wsX2_shownWorth ({ frames := 2, cells := 0, slots := 0, locals := 60 } : Room) (va_Pc [.ref lo] (wR D cI cJ cZ [(lo, .inr (1, [.ref sa, .long own])), (sa, .inl (cI, 13, .inl sf))])) (vp_Si (fun r => r = j_X2_shownWorth sf)) 0 0 (fun _ => False) := by
  refine Met.ofW (cc := cX2_shownWorth) (maxL := 3) (ret := (some .int)) (by decide) rfl ?_
  intro p e s m args below meth c s₁ B hml hv
  obtain ⟨hargs, hP, hK, hN⟩ := hv
  have hx := B.exec
  have hb := B.bytes
  have hr := B.returns
  have hlocks := B.notSynchronized
  have hts := atoms_spec (ws := wsX2_shownWorth) B.pre
  have hown : s.vm.findClass RX2 = some m.cls := findClass_of_methodNamed B.named
  have k42 := hts (.methodLink RX2 42 yX0_worthOfNumber) (by decide +kernel)
  have k9 := hts (.fieldLink RX2 9 "RummyTable$Layout" "steps" "[I") (by decide +kernel)
  have iX2 : ∀ w ∈ wsX20, w ∈ wsX2_shownWorth := by decide +kernel
  have k39 := hts (.methodLink RX2 39 yX5_shown) (by decide +kernel)
  have k34 := hts (.methodLink RX2 34 yJ6_bitCount_0f7a4) (by decide +kernel)
  rw [show entryFrame m args 3 = entryFrame m ([.ref lo] : List Value).toArray 3 from by rw [hargs]]
  have hl := lv_entry ([.ref lo]) (n := 3) (Nat.le_of_ble_eq_true rfl)
  rw [lg_entry_eq]
  generalize (lg_sl ([.ref lo]) ++ List.replicate (3 - (lg_sl ([.ref lo])).length) Slot.unset).toArray = ls at hl ⊢
  have hl : lv_has ls 3 [(0, .ref lo)] := hl
  refine wQ (fun Q hQ => ?_)
  have lab4 : ∀ fuel4 : Nat, ∀ (i : Nat) (a : Int32) (x2 : Int32), (h2 : x2 = nI i) → (hi : i ≤ 13) → (hs : a = bx_sum (fun n => j_X0_worthOfNumber (nI n) * j_bcI (j_X5_shown (sf n))) i) → (hfu4 : 13 - i < fuel4) → ∀ ls : Array Slot, lv_has ls 3 [(0, .ref lo), (1, .int a), (2, .int x2)] → W p l e (headSpec wsX2_shownWorth ({ frames := 2, cells := 0, slots := 0, locals := 60 } : Room)).room s m args below meth c s.heap [] 0 0 Q (F0 m 4 ls []) := by
    intro fuel4
    induction fuel4 with
    | zero =>
      intro i a x2 h2 hi hs hfu4
      exact absurd hfu4 (Nat.not_lt_zero _)
    | succ fuel4 ih4 =>
      intro i a x2 h2 hi hs hfu4 ls hl
      refine lv_iload_n hx hb dX2_shownWorth_4 rfl (lv_at hl 2 rfl) ?_
      refine lv_bipush (v := 13) hx hb dX2_shownWorth_5 (by decide) ?_
      refine lv_icmp_ge (tgt := 36) hx hb dX2_shownWorth_7 (by decide) (fun c_7 => ?_) (fun c_7 => ?_)
      · have hi13 := hp_ge h2 (by decide : (13 : Int32) = nI 13) hi (by decide) c_7
        refine lv_iload_n hx hb dX2_shownWorth_36 rfl (lv_at hl 1 rfl) ?_
        rw [← hQ]
        exact W.iret (v := a) hx hb hr (fun t ht hW => ⟨_, rfl, (by subst hi13; exact hs), ht⟩) (fun _ h => by cases h) dX2_shownWorth_37
      · have hlt := hp_lt h2 (by decide : (13 : Int32) = nI 13) hi (by decide) c_7
        refine lv_iload_n hx hb dX2_shownWorth_10 rfl (lv_at hl 1 rfl) ?_
        refine lv_iload_n hx hb dX2_shownWorth_11 rfl (lv_at hl 2 rfl) ?_
        refine vp_callSi (W.runS (As := [.int x2]) (rest := [.int a]) ⟨hx, hb, hml, hown, hts⟩ (k_X0_worthOfNumber l x2 ) (va_cwS 1 hts gX2_shownWorth_X0_worthOfNumber rfl rfl rfl (by decide +kernel) ⟨Nat.le_of_ble_eq_true rfl, Nat.le_of_ble_eq_true rfl⟩) ⟨pS_fb, pS_pre⟩ rfl rfl hl.1 rfl (lv_room (Nat.le_of_ble_eq_true rfl)) dX2_shownWorth_12 ⟨Nat.le_of_ble_eq_true rfl, Nat.le_of_ble_eq_true rfl⟩) (fun x12 hx12 => ?_)
        subst hx12
        refine lv_aload_n hx hb dX2_shownWorth_15 rfl (lv_at hl 0 rfl) ?_
        refine va_get (D := D) (ci := 1) (v := .ref sa) (C := RX2) (T := TX2) (N := 2) hx hb hts iX2 hown hK hP 0 rfl rfl 0 (by decide) k9 (fun _ h9 => h9) rfl dX2_shownWorth_16 ?_
        refine lv_iload_n hx hb dX2_shownWorth_19 rfl (lv_at hl 2 rfl) ?_
        refine va_iald hx hb hK hP 1 0 rfl rfl (by rw [h2]; exact vp_in_nI hlt (by decide)) dX2_shownWorth_20 ?_
        refine vp_callSi (W.runS (As := [.int (sf x2.toNatClampNeg)]) (rest := [.int (j_X0_worthOfNumber x2), .int a]) ⟨hx, hb, hml, hown, hts⟩ (k_X5_shown l (sf x2.toNatClampNeg) ) (va_cwS 1 hts gX2_shownWorth_X5_shown rfl rfl rfl (by decide +kernel) ⟨Nat.le_of_ble_eq_true rfl, Nat.le_of_ble_eq_true rfl⟩) ⟨pS_fb, pS_pre⟩ rfl rfl hl.1 rfl (lv_room (Nat.le_of_ble_eq_true rfl)) dX2_shownWorth_21 ⟨Nat.le_of_ble_eq_true rfl, Nat.le_of_ble_eq_true rfl⟩) (fun x21 hx21 => ?_)
        subst hx21
        refine vp_callSi (W.runS (As := [.int (j_X5_shown (sf x2.toNatClampNeg))]) (rest := [.int (j_X0_worthOfNumber x2), .int a]) ⟨hx, hb, hml, hown, hts⟩ (k_J6_bitCount_0f7a4 l (j_X5_shown (sf x2.toNatClampNeg)) ) (va_cwS 1 hts gX2_shownWorth_J6_bitCount_0f7a4 rfl rfl rfl (by decide +kernel) ⟨Nat.le_of_ble_eq_true rfl, Nat.le_of_ble_eq_true rfl⟩) ⟨pS_fb, pS_pre⟩ rfl rfl hl.1 rfl (lv_room (Nat.le_of_ble_eq_true rfl)) dX2_shownWorth_24 ⟨Nat.le_of_ble_eq_true rfl, Nat.le_of_ble_eq_true rfl⟩) (fun x24 hx24 => ?_)
        subst hx24
        refine lv_imul hx hb dX2_shownWorth_27 ?_
        refine lv_iadd hx hb dX2_shownWorth_28 ?_
        refine lv_topi (fun x29 ex29 => ?_)
        refine lv_istore_n (lv' := [(1, .int x29), (0, .ref lo), (2, .int x2)]) hx hb dX2_shownWorth_29 rfl hl (by decide) rfl (fun ls hl => ?_)
        obtain ⟨x30, ex30⟩ : ∃ y : Int32, y = x2 + 1 := ⟨_, rfl⟩
        refine lv_iinc (v := x30) (lv' := [(2, .int x30), (1, .int x29), (0, .ref lo)]) hx hb dX2_shownWorth_30 hl (k := 2) rfl (by rw [ex30]; rfl) (by decide) rfl (fun ls hl => ?_)
        refine lv_goto (tgt := 4) hx hb dX2_shownWorth_33 (by decide) ?_
        exact ih4 (i + 1) x29 x30 (hp_s ex30 h2) (by omega) (by subst_vars; simp only [bx_sum, nI_clamp (show i < 2 ^ 31 by omega)]) (by omega) ls (lv_sub hl [2, 1, 0] rfl)
  refine lv_iconst (v := 0) hx hb dX2_shownWorth_0 (by decide) ?_
  refine lv_istore_n (lv' := [(1, .int 0), (0, .ref lo)]) hx hb dX2_shownWorth_1 rfl hl (by decide) rfl (fun ls hl => ?_)
  refine lv_iconst (v := 0) hx hb dX2_shownWorth_2 (by decide) ?_
  refine lv_istore_n (lv' := [(2, .int 0), (1, .int 0), (0, .ref lo)]) hx hb dX2_shownWorth_3 rfl hl (by decide) rfl (fun ls hl => ?_)
  exact lab4 _ 0 0 0 (nI_0.symm) (by omega) (rfl) (Nat.lt_succ_self _) ls (lv_sub hl [2, 1, 0] rfl)

set_option maxHeartbeats 4000000 in
set_option maxRecDepth 100000 in
theorem k_X2_longestRun (l : Launch) (D : va_G) (cI cJ cZ : ClassId) (lo sa : Nat) (own : Int64) (sf : Nat → Int32)   : Met l yX2_longestRun wsX2_longestRun ({ frames := 2, cells := 0, slots := 0, locals := 41 } : Room) (va_Pc [.ref lo] (wR D cI cJ cZ [(lo, .inr (1, [.ref sa, .long own])), (sa, .inl (cI, 13, .inl sf))])) (vp_Si (fun r => r = j_X2_longestRun sf)) 0 0 (fun _ => False) := by
  refine Met.ofW (cc := cX2_longestRun) (maxL := 6) (ret := (some .int)) (by decide) rfl ?_
  intro p e s m args below meth c s₁ B hml hv
  obtain ⟨hargs, hP, hK, hN⟩ := hv
  have hx := B.exec
  have hb := B.bytes
  have hr := B.returns
  have hlocks := B.notSynchronized
  have hts := atoms_spec (ws := wsX2_longestRun) B.pre
  have hown : s.vm.findClass RX2 = some m.cls := findClass_of_methodNamed B.named
  have k9 := hts (.fieldLink RX2 9 "RummyTable$Layout" "steps" "[I") (by decide +kernel)
  have iX2 : ∀ w ∈ wsX20, w ∈ wsX2_longestRun := by decide +kernel
  have k15 := hts (.methodLink RX2 15 yX5_placeOf) (by decide +kernel)
  have k47 := hts (.methodLink RX2 47 Lib.Math.max.name) (by decide +kernel)
  have s_va_mmax := hts (.static Lib.Math.max.name) (by decide +kernel)
  have i_math := hts (.initialized "java/lang/Math") (by decide +kernel)
  have c_va_mmax := hts (.code Lib.Math.max.name Lib.Math.max.code 2 (some .int)) (by decide +kernel)
  rw [show entryFrame m args 6 = entryFrame m ([.ref lo] : List Value).toArray 6 from by rw [hargs]]
  have hl := lv_entry ([.ref lo]) (n := 6) (Nat.le_of_ble_eq_true rfl)
  rw [lg_entry_eq]
  generalize (lg_sl ([.ref lo]) ++ List.replicate (6 - (lg_sl ([.ref lo])).length) Slot.unset).toArray = ls at hl ⊢
  have hl : lv_has ls 6 [(0, .ref lo)] := hl
  refine wQ (fun Q hQ => ?_)
  have lab4 : ∀ fuel4 : Nat, ∀ (j : Nat) (mo : Int32) (x2 : Int32), (h2 : x2 = nI j) → (hj : j ≤ 4) → (h9 : mo = lrOut (fun c n => j_X5_placeOf (sf n) (nI c)) j) → (hfu4 : 4 - j < fuel4) → ∀ ls : Array Slot, lv_has ls 6 [(0, .ref lo), (1, .int mo), (2, .int x2)] → W p l e (headSpec wsX2_longestRun ({ frames := 2, cells := 0, slots := 0, locals := 41 } : Room)).room s m args below meth c s.heap [] 0 0 Q (F0 m 4 ls []) := by
    intro fuel4
    induction fuel4 with
    | zero =>
      intro j mo x2 h2 hj h9 hfu4
      exact absurd hfu4 (Nat.not_lt_zero _)
    | succ fuel4 ih4 =>
      intro j mo x2 h2 hj h9 hfu4 ls hl
      have lab14 : ∀ fuel14 : Nat, ∀ (i : Nat) (mu : Int32) (le : Int32) (x4 : Int32), (hjlt : j < 4) → (h4 : x4 = nI i) → (hi : i ≤ 13) → (h5 : (le, mu) = lrIn (fun n => j_X5_placeOf (sf n) (nI j)) (lrOut (fun c n => j_X5_placeOf (sf n) (nI c)) j) i) → (hfu14 : 13 - i < fuel14) → ∀ ls : Array Slot, lv_has ls 6 [(0, .ref lo), (1, .int mu), (2, .int x2), (3, .int le), (4, .int x4)] → W p l e (headSpec wsX2_longestRun ({ frames := 2, cells := 0, slots := 0, locals := 41 } : Room)).room s m args below meth c s.heap [] 0 0 Q (F0 m 14 ls []) := by
        intro fuel14
        induction fuel14 with
        | zero =>
          intro i mu le x4 hjlt h4 hi h5 hfu14
          exact absurd hfu14 (Nat.not_lt_zero _)
        | succ fuel14 ih14 =>
          intro i mu le x4 hjlt h4 hi h5 hfu14 ls hl
          refine lv_iload hx hb dX2_longestRun_14 (lv_at hl 4 rfl) ?_
          refine lv_bipush (v := 13) hx hb dX2_longestRun_16 (by decide) ?_
          refine lv_icmp_ge (tgt := 70) hx hb dX2_longestRun_18 (by decide) (fun c_18 => ?_) (fun c_18 => ?_)
          · have hi13 := hp_ge h4 (by decide : (13 : Int32) = nI 13) hi (by decide) c_18
            subst hi13
            have h70 : mu = lrOut (fun c n => j_X5_placeOf (sf n) (nI c)) (j + 1) := congrArg Prod.snd h5
            obtain ⟨x70, ex70⟩ : ∃ y : Int32, y = x2 + 1 := ⟨_, rfl⟩
            refine lv_iinc (v := x70) (lv' := [(2, .int x70), (0, .ref lo), (1, .int mu), (3, .int le), (4, .int x4)]) hx hb dX2_longestRun_70 hl (k := 2) rfl (by rw [ex70]; rfl) (by decide) rfl (fun ls hl => ?_)
            refine lv_goto (tgt := 4) hx hb dX2_longestRun_73 (by decide) ?_
            exact ih4 (j + 1) mu x70 (hp_s ex70 h2) (by omega) (h70) (by omega) ls (lv_sub hl [1, 2, 0] rfl)
          · have hlt := hp_lt h4 (by decide : (13 : Int32) = nI 13) hi (by decide) c_18
            refine lv_aload_n hx hb dX2_longestRun_21 rfl (lv_at hl 0 rfl) ?_
            refine va_get (D := D) (ci := 1) (v := .ref sa) (C := RX2) (T := TX2) (N := 2) hx hb hts iX2 hown hK hP 0 rfl rfl 0 (by decide) k9 (fun _ h9 => h9) rfl dX2_longestRun_22 ?_
            refine lv_iload hx hb dX2_longestRun_25 (lv_at hl 4 rfl) ?_
            refine va_iald hx hb hK hP 1 0 rfl rfl (by rw [h4]; exact vp_in_nI hlt (by decide)) dX2_longestRun_27 ?_
            refine lv_iload_n hx hb dX2_longestRun_28 rfl (lv_at hl 2 rfl) ?_
            refine vp_callSi (W.runS (As := [.int (sf x4.toNatClampNeg), .int x2]) (rest := []) ⟨hx, hb, hml, hown, hts⟩ (k_X5_placeOf l (sf x4.toNatClampNeg) x2 ) (va_cwS 2 hts gX2_longestRun_X5_placeOf rfl rfl rfl (by decide +kernel) ⟨Nat.le_of_ble_eq_true rfl, Nat.le_of_ble_eq_true rfl⟩) ⟨pS_fb, pS_pre⟩ rfl rfl hl.1 rfl (lv_room (Nat.le_of_ble_eq_true rfl)) dX2_longestRun_29 ⟨Nat.le_of_ble_eq_true rfl, Nat.le_of_ble_eq_true rfl⟩) (fun x29 hx29 => ?_)
            subst hx29
            refine lv_topi (fun x32 ex32 => ?_)
            refine lv_istore (lv' := [(5, .int x32), (0, .ref lo), (1, .int mu), (2, .int x2), (3, .int le), (4, .int x4)]) hx hb dX2_longestRun_32 hl (by decide) rfl (fun ls hl => ?_)
            refine lv_iload hx hb dX2_longestRun_34 (lv_at hl 0 rfl) ?_
            refine lv_iconst (v := 3) hx hb dX2_longestRun_36 (by decide) ?_
            refine lv_icmp_ne (tgt := 46) hx hb dX2_longestRun_37 (by decide) (fun c_37 => ?_) (fun c_37 => ?_)
            · refine lv_iload hx hb dX2_longestRun_46 (lv_at hl 0 rfl) ?_
              refine lv_iconst (v := 2) hx hb dX2_longestRun_48 (by decide) ?_
              refine lv_icmp_ne (tgt := 56) hx hb dX2_longestRun_49 (by decide) (fun c_49 => ?_) (fun c_49 => ?_)
              · refine lv_iconst (v := 0) hx hb dX2_longestRun_56 (by decide) ?_
                refine lv_istore_n (lv' := [(3, .int 0), (5, .int x32), (0, .ref lo), (1, .int mu), (2, .int x2), (4, .int x4)]) hx hb dX2_longestRun_57 rfl hl (by decide) rfl (fun ls hl => ?_)
                refine lv_iload_n hx hb dX2_longestRun_58 rfl (lv_at hl 3 rfl) ?_
                refine lv_iload_n hx hb dX2_longestRun_59 rfl (lv_at hl 0 rfl) ?_
                refine va_mmax hx hb (hml.trans hl.1.symm) hown k47 s_va_mmax i_math c_va_mmax (Nat.le_of_ble_eq_true rfl) (Nat.le_of_ble_eq_true rfl) (Nat.zero_le _) (Nat.zero_le _) dX2_longestRun_60 ?_
                refine lv_topi (fun x63 ex63 => ?_)
                refine lv_istore_n (lv' := [(1, .int x63), (3, .int 0), (5, .int x32), (0, .ref lo), (2, .int x2), (4, .int x4)]) hx hb dX2_longestRun_63 rfl hl (by decide) rfl (fun ls hl => ?_)
                obtain ⟨x64, ex64⟩ : ∃ y : Int32, y = x4 + 1 := ⟨_, rfl⟩
                refine lv_iinc (v := x64) (lv' := [(4, .int x64), (1, .int x63), (3, .int 0), (5, .int x32), (0, .ref lo), (2, .int x2)]) hx hb dX2_longestRun_64 hl (k := 5) rfl (by rw [ex64]; rfl) (by decide) rfl (fun ls hl => ?_)
                refine lv_goto (tgt := 14) hx hb dX2_longestRun_67 (by decide) ?_
                exact ih14 (i + 1) x63 0 x64 (hjlt) (hp_s ex64 h4) (by omega) (hp_lr h5 (by rw [ex63]) (by (try rw [ex57]); rw [h2, h4, nI_clamp (show i < 2 ^ 31 by omega)] at ex32; rw [← ex32]; (repeat' split) <;> first | rfl | contradiction)) (by omega) ls (lv_sub hl [4, 1, 5, 2, 0] rfl)
              · refine lv_iconst (v := 1) hx hb dX2_longestRun_52 (by decide) ?_
                refine lv_goto (tgt := 57) hx hb dX2_longestRun_53 (by decide) ?_
                refine lv_istore_n (lv' := [(3, .int 1), (5, .int x32), (0, .ref lo), (1, .int mu), (2, .int x2), (4, .int x4)]) hx hb dX2_longestRun_57 rfl hl (by decide) rfl (fun ls hl => ?_)
                refine lv_iload_n hx hb dX2_longestRun_58 rfl (lv_at hl 3 rfl) ?_
                refine lv_iload_n hx hb dX2_longestRun_59 rfl (lv_at hl 0 rfl) ?_
                refine va_mmax hx hb (hml.trans hl.1.symm) hown k47 s_va_mmax i_math c_va_mmax (Nat.le_of_ble_eq_true rfl) (Nat.le_of_ble_eq_true rfl) (Nat.zero_le _) (Nat.zero_le _) dX2_longestRun_60 ?_
                refine lv_topi (fun x63 ex63 => ?_)
                refine lv_istore_n (lv' := [(1, .int x63), (3, .int 1), (5, .int x32), (0, .ref lo), (2, .int x2), (4, .int x4)]) hx hb dX2_longestRun_63 rfl hl (by decide) rfl (fun ls hl => ?_)
                obtain ⟨x64, ex64⟩ : ∃ y : Int32, y = x4 + 1 := ⟨_, rfl⟩
                refine lv_iinc (v := x64) (lv' := [(4, .int x64), (1, .int x63), (3, .int 1), (5, .int x32), (0, .ref lo), (2, .int x2)]) hx hb dX2_longestRun_64 hl (k := 5) rfl (by rw [ex64]; rfl) (by decide) rfl (fun ls hl => ?_)
                refine lv_goto (tgt := 14) hx hb dX2_longestRun_67 (by decide) ?_
                exact ih14 (i + 1) x63 1 x64 (hjlt) (hp_s ex64 h4) (by omega) (hp_lr h5 (by rw [ex63]) (by (try rw [ex57]); rw [h2, h4, nI_clamp (show i < 2 ^ 31 by omega)] at ex32; rw [← ex32]; (repeat' split) <;> first | rfl | contradiction)) (by omega) ls (lv_sub hl [4, 1, 5, 2, 0] rfl)
            · refine lv_iload_n hx hb dX2_longestRun_40 rfl (lv_at hl 4 rfl) ?_
              refine lv_iconst (v := 1) hx hb dX2_longestRun_41 (by decide) ?_
              refine lv_iadd hx hb dX2_longestRun_42 ?_
              refine lv_goto (tgt := 57) hx hb dX2_longestRun_43 (by decide) ?_
              refine lv_topi (fun x57 ex57 => ?_)
              refine lv_istore_n (lv' := [(3, .int x57), (5, .int x32), (0, .ref lo), (1, .int mu), (2, .int x2), (4, .int x4)]) hx hb dX2_longestRun_57 rfl hl (by decide) rfl (fun ls hl => ?_)
              refine lv_iload_n hx hb dX2_longestRun_58 rfl (lv_at hl 3 rfl) ?_
              refine lv_iload_n hx hb dX2_longestRun_59 rfl (lv_at hl 0 rfl) ?_
              refine va_mmax hx hb (hml.trans hl.1.symm) hown k47 s_va_mmax i_math c_va_mmax (Nat.le_of_ble_eq_true rfl) (Nat.le_of_ble_eq_true rfl) (Nat.zero_le _) (Nat.zero_le _) dX2_longestRun_60 ?_
              refine lv_topi (fun x63 ex63 => ?_)
              refine lv_istore_n (lv' := [(1, .int x63), (3, .int x57), (5, .int x32), (0, .ref lo), (2, .int x2), (4, .int x4)]) hx hb dX2_longestRun_63 rfl hl (by decide) rfl (fun ls hl => ?_)
              obtain ⟨x64, ex64⟩ : ∃ y : Int32, y = x4 + 1 := ⟨_, rfl⟩
              refine lv_iinc (v := x64) (lv' := [(4, .int x64), (1, .int x63), (3, .int x57), (5, .int x32), (0, .ref lo), (2, .int x2)]) hx hb dX2_longestRun_64 hl (k := 5) rfl (by rw [ex64]; rfl) (by decide) rfl (fun ls hl => ?_)
              refine lv_goto (tgt := 14) hx hb dX2_longestRun_67 (by decide) ?_
              exact ih14 (i + 1) x63 x57 x64 (hjlt) (hp_s ex64 h4) (by omega) (hp_lr h5 (by rw [ex63]) (by (try rw [ex57]); rw [h2, h4, nI_clamp (show i < 2 ^ 31 by omega)] at ex32; rw [← ex32]; (repeat' split) <;> first | rfl | contradiction)) (by omega) ls (lv_sub hl [4, 1, 5, 2, 0] rfl)
      refine lv_iload_n hx hb dX2_longestRun_4 rfl (lv_at hl 2 rfl) ?_
      refine lv_iconst (v := 4) hx hb dX2_longestRun_5 (by decide) ?_
      refine lv_icmp_ge (tgt := 76) hx hb dX2_longestRun_6 (by decide) (fun c_6 => ?_) (fun c_6 => ?_)
      · have hj4 := hp_ge h2 (by decide : (4 : Int32) = nI 4) hj (by decide) c_6
        refine lv_iload_n hx hb dX2_longestRun_76 rfl (lv_at hl 1 rfl) ?_
        rw [← hQ]
        exact W.iret (v := mo) hx hb hr (fun t ht hW => ⟨_, rfl, (by subst hj4; exact h9), ht⟩) (fun _ h => by cases h) dX2_longestRun_77
      · have hjlt := hp_lt h2 (by decide : (4 : Int32) = nI 4) hj (by decide) c_6
        refine lv_iconst (v := 0) hx hb dX2_longestRun_9 (by decide) ?_
        refine lv_istore_n (lv' := [(3, .int 0), (0, .ref lo), (1, .int mo), (2, .int x2)]) hx hb dX2_longestRun_10 rfl hl (by decide) rfl (fun ls hl => ?_)
        refine lv_iconst (v := 0) hx hb dX2_longestRun_11 (by decide) ?_
        refine lv_istore (lv' := [(4, .int 0), (3, .int 0), (0, .ref lo), (1, .int mo), (2, .int x2)]) hx hb dX2_longestRun_12 hl (by decide) rfl (fun ls hl => ?_)
        exact lab14 _ 0 mo 0 0 (hjlt) (nI_0.symm) (by omega) (by rw [h9]; rfl) (Nat.lt_succ_self _) ls (lv_sub hl [2, 3, 4, 1, 0] rfl)
  refine lv_iconst (v := 0) hx hb dX2_longestRun_0 (by decide) ?_
  refine lv_istore_n (lv' := [(1, .int 0), (0, .ref lo)]) hx hb dX2_longestRun_1 rfl hl (by decide) rfl (fun ls hl => ?_)
  refine lv_iconst (v := 0) hx hb dX2_longestRun_2 (by decide) ?_
  refine lv_istore_n (lv' := [(2, .int 0), (1, .int 0), (0, .ref lo)]) hx hb dX2_longestRun_3 rfl hl (by decide) rfl (fun ls hl => ?_)
  exact lab4 _ 0 0 0 (nI_0.symm) (by omega) (rfl) (Nat.lt_succ_self _) ls (lv_sub hl [2, 1, 0] rfl)
end
