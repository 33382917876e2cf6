set_option maxHeartbeats 4000000 in
set_option maxRecDepth 100000 in
theorem law_c0 {p : Program} {e : Env} {s : State} {m : MethodId} {below : List Frame} {meth : Method} {c : Code} (l : Launch) {D : va_G} {cI cJ cZ : ClassId} {b L : Nat} {xs : Nat → Int32} {A : Nat → Prop} (hLl : L ≤ 3072) (C1 : lwC D cI cJ cZ p s m meth c b L xs) (hA : ∀ q, s.heap.size ≤ q → A q) (hbA : ¬ A b) (ox m8 i : Nat) (x3 : Int32) (h3 : x3 = nI i) (hi6 : i + 6 ≤ L) (wsf stp : Nat → Int32) (hst : ∀ i, i < 94 → stp i = nI (stT i))  (lab711 : lwAt p l e s m below meth c D cI cJ cZ b A ox m8 wsf stp x3 711) : lwAt p l e s m below meth c D cI cJ cZ b A ox m8 wsf stp x3 116 := by
  obtain ⟨hx, hb, hr, hml, hown, hts, hX, hbl, hK, hN⟩ := id C1
  intro np tp tn wk ws6 fi6 ff6 ga6 ahr hca hla hta atr tca tla tta so sp hp g ha oa pa ko sk tr ta wa pa8 sta mo hea tha hd8 od8 cd8 opa osa op st se hq own sf town tf7 ft6 mu6 my6 jk6 ct6 bw6 un6 fif fff gf hcn hcf hlf htf tcn tcf tlf ttf ly te lay idl ov win hf of pf wf pf8 sf8 mf hf9 tf9 hf8 of8 cf8 opf osf hwk hLR hG hE hpk H locs hP hD hS ls hl
  have hn4 : np ≤ 4 := by rcases Nat.eq_zero_or_pos np with z | z; omega; exact (hG.2.2.2 z).1
  have hgm : ¬ igF np = 0 → np ≤ 4 ∧ tn < np ∧ tp ≤ 54 := fun z => ⟨hn4, (hG.2.2.2 (ig_np z)).2.1, (hG.2.2.2 (ig_np z)).2.2.1⟩
  refine lv_aload_n hx hb dL_law_116 rfl (lv_at hl 1 rfl) ?_
  have hPc := hP.sub (ws' := [(ox, .inr (5, [.ref wk, .ref so, .ref g, .ref ko, .ref tr, .int op, .int st]))]) [0] rfl
  refine vp_callSi (W.runV (As := []) (rest := []) ⟨hx, hb, hml, hown, hts⟩ (k_X7_status l D cI cJ cZ ox wk so ko tr op st g ) (cwV 0 hts gL_law_X7_status rfl rfl rfl (by decide +kernel) ⟨Nat.le_of_ble_eq_true rfl, Nat.le_of_ble_eq_true rfl⟩) ⟨wR_fb, va_recv hK hPc (ci := 5) (q0 := 0) rfl rfl, wR_pre hPc ⟨hK, hN⟩⟩ rfl rfl hl.1 rfl (lv_room (Nat.le_of_ble_eq_true rfl)) dL_law_117 ⟨Nat.le_of_ble_eq_true rfl, Nat.le_of_ble_eq_true rfl⟩) (fun x117 hx117 => ?_)
  have hx117 := hx117.symm
  subst hx117
  refine lv_aload_n hx hb dL_law_120 rfl (lv_at hl 2 rfl) ?_
  have hPc := hP.sub (ws' := [(m8, .inr (6, [.int st, .ref wa, .ref pa8, .ref sta, .ref mo, .ref hea, .ref tha, .int (igF np), .int ov, .int op, .int (nI np), .int (nI tn), .int win, .int te, .int lay, .int idl, .ref hd8, .ref od8, .long ly, .ref cd8, .int (nI tp), .ref opa, .ref osa]))]) [25] rfl
  refine vp_callSi (W.runV (As := []) (rest := [.int st]) ⟨hx, hb, hml, hown, hts⟩ (k_X8_status l D cI cJ cZ m8 wa pa8 sta mo hea tha hd8 od8 cd8 opa osa st (igF np) ov op (nI np) (nI tn) win te lay idl (nI tp) ly ) (cwV 0 hts gL_law_X8_status rfl rfl rfl (by decide +kernel) ⟨Nat.le_of_ble_eq_true rfl, Nat.le_of_ble_eq_true rfl⟩) ⟨wR_fb, va_recv hK hPc (ci := 6) (q0 := 0) rfl rfl, wR_pre hPc ⟨hK, hN⟩⟩ rfl rfl hl.1 rfl (lv_room (Nat.le_of_ble_eq_true rfl)) dL_law_121 ⟨Nat.le_of_ble_eq_true rfl, Nat.le_of_ble_eq_true rfl⟩) (fun x121 hx121 => ?_)
  have hx121 := hx121.symm
  subst hx121
  refine lv_icmp_eq (tgt := 711) hx hb dL_law_124 (by decide) (fun c_124 => ?_) (fun c_124 => ?_)
  · exact lab711 np tp tn wk ws6 fi6 ff6 ga6 ahr hca hla hta atr tca tla tta so sp hp g ha oa pa ko sk tr ta wa pa8 sta mo hea tha hd8 od8 cd8 opa osa op st se hq own sf town tf7 ft6 mu6 my6 jk6 ct6 bw6 un6 fif fff gf hcn hcf hlf htf tcn tcf tlf ttf ly te lay idl ov win hf of pf wf pf8 sf8 mf hf9 tf9 hf8 of8 cf8 opf osf (hwk) (hLR) (hG) (hE) (hpk) _ _ hP hD hS ls (lv_sub hl [0, 1, 2, 3] rfl)
  · exact absurd rfl c_124
set_option maxHeartbeats 4000000 in
set_option maxRecDepth 100000 in
theorem law_c4 {p : Program} {e : Env} {s : State} {m : MethodId} {below : List Frame} {meth : Method} {c : Code} (l : Launch) {D : va_G} {cI cJ cZ : ClassId} {b L : Nat} {xs : Nat → Int32} {A : Nat → Prop} (hLl : L ≤ 3072) (C1 : lwC D cI cJ cZ p s m meth c b L xs) (hA : ∀ q, s.heap.size ≤ q → A q) (hbA : ¬ A b) (ox m8 i : Nat) (x3 : Int32) (h3 : x3 = nI i) (hi6 : i + 6 ≤ L) (wsf stp : Nat → Int32) (hst : ∀ i, i < 94 → stp i = nI (stT i))  (lab711 : lwAt p l e s m below meth c D cI cJ cZ b A ox m8 wsf stp x3 711) : lwAt p l e s m below meth c D cI cJ cZ b A ox m8 wsf stp x3 340 := by
  obtain ⟨hx, hb, hr, hml, hown, hts, hX, hbl, hK, hN⟩ := id C1
  intro np tp tn wk ws6 fi6 ff6 ga6 ahr hca hla hta atr tca tla tta so sp hp g ha oa pa ko sk tr ta wa pa8 sta mo hea tha hd8 od8 cd8 opa osa op st se hq own sf town tf7 ft6 mu6 my6 jk6 ct6 bw6 un6 fif fff gf hcn hcf hlf htf tcn tcf tlf ttf ly te lay idl ov win hf of pf wf pf8 sf8 mf hf9 tf9 hf8 of8 cf8 opf osf hwk hLR hG hE hpk H locs hP hD hS ls hl
  have hn4 : np ≤ 4 := by rcases Nat.eq_zero_or_pos np with z | z; omega; exact (hG.2.2.2 z).1
  have hgm : ¬ igF np = 0 → np ≤ 4 ∧ tn < np ∧ tp ≤ 54 := fun z => ⟨hn4, (hG.2.2.2 (ig_np z)).2.1, (hG.2.2.2 (ig_np z)).2.2.1⟩
  refine lv_aload_n hx hb dL_law_340 rfl (lv_at hl 1 rfl) ?_
  refine lv_aload_n hx hb dL_law_341 rfl (lv_at hl 0 rfl) ?_
  refine lv_iload_n hx hb dL_law_342 rfl (lv_at hl 3 rfl) ?_
  refine lv_iconst (v := 1) hx hb dL_law_343 (by decide) ?_
  refine lv_iadd hx hb dL_law_344 ?_
  refine va_sld hx hb hX hbl hbA hS (sc_in (j := 1) h3 rfl (by decide) hi6 hLl) dL_law_345 ?_
  have hPc := hP.sub (ws' := [(ox, .inr (5, [.ref wk, .ref so, .ref g, .ref ko, .ref tr, .int op, .int st])), (ko, .inr (1, [.ref sk, .long own])), (sk, .inl (cI, 13, .inl sf))]) [0, 4, 5] rfl
  refine vp_callSi (W.runV (As := [.int (xs (x3 + 1).toNatClampNeg)]) (rest := []) ⟨hx, hb, hml, hown, hts⟩ (k_X7_place l D cI cJ cZ ox wk so ko tr op st g sk own sf (xs (x3 + 1).toNatClampNeg) ) (cwV 1 hts gL_law_X7_place rfl rfl rfl (by decide +kernel) ⟨Nat.le_of_ble_eq_true rfl, Nat.le_of_ble_eq_true rfl⟩) ⟨wR_fb, va_recv hK hPc (ci := 5) (q0 := 0) rfl rfl, wR_pre hPc ⟨hK, hN⟩⟩ rfl rfl hl.1 rfl (lv_room (Nat.le_of_ble_eq_true rfl)) dL_law_346 ⟨Nat.le_of_ble_eq_true rfl, Nat.le_of_ble_eq_true rfl⟩) (fun x346 hx346 => ?_)
  have hx346 := hx346.symm
  subst hx346
  refine lv_aload_n hx hb dL_law_349 rfl (lv_at hl 2 rfl) ?_
  refine lv_aload_n hx hb dL_law_350 rfl (lv_at hl 0 rfl) ?_
  refine lv_iload_n hx hb dL_law_351 rfl (lv_at hl 3 rfl) ?_
  refine lv_iconst (v := 1) hx hb dL_law_352 (by decide) ?_
  refine lv_iadd hx hb dL_law_353 ?_
  refine va_sld hx hb hX hbl hbA hS (sc_in (j := 1) h3 rfl (by decide) hi6 hLl) dL_law_354 ?_
  have hPc := hP.sub (ws' := [(m8, .inr (6, [.int st, .ref wa, .ref pa8, .ref sta, .ref mo, .ref hea, .ref tha, .int (igF np), .int ov, .int op, .int (nI np), .int (nI tn), .int win, .int te, .int lay, .int idl, .ref hd8, .ref od8, .long ly, .ref cd8, .int (nI tp), .ref opa, .ref osa])), (pa8, .inl (cI, 52, .inl pf8))]) [25, 27] rfl
  refine vp_callSi (W.runV (As := [.int (xs (x3 + 1).toNatClampNeg)]) (rest := [.int (j_X2_placeOf sf (xs (x3 + 1).toNatClampNeg))]) ⟨hx, hb, hml, hown, hts⟩ (k_X8_place l D cI cJ cZ m8 wa pa8 sta mo hea tha hd8 od8 cd8 opa osa st (igF np) ov op (nI np) (nI tn) win te lay idl (nI tp) ly pf8 (xs (x3 + 1).toNatClampNeg) ) (cwV 1 hts gL_law_X8_place rfl rfl rfl (by decide +kernel) ⟨Nat.le_of_ble_eq_true rfl, Nat.le_of_ble_eq_true rfl⟩) ⟨wR_fb, va_recv hK hPc (ci := 6) (q0 := 0) rfl rfl, wR_pre hPc ⟨hK, hN⟩⟩ rfl rfl hl.1 rfl (lv_room (Nat.le_of_ble_eq_true rfl)) dL_law_355 ⟨Nat.le_of_ble_eq_true rfl, Nat.le_of_ble_eq_true rfl⟩) (fun x355 hx355 => ?_)
  have hx355 := hx355.symm
  subst hx355
  refine lv_icmp_eq (tgt := 711) hx hb dL_law_358 (by decide) (fun c_358 => ?_) (fun c_358 => ?_)
  · exact lab711 np tp tn wk ws6 fi6 ff6 ga6 ahr hca hla hta atr tca tla tta so sp hp g ha oa pa ko sk tr ta wa pa8 sta mo hea tha hd8 od8 cd8 opa osa op st se hq own sf town tf7 ft6 mu6 my6 jk6 ct6 bw6 un6 fif fff gf hcn hcf hlf htf tcn tcf tlf ttf ly te lay idl ov win hf of pf wf pf8 sf8 mf hf9 tf9 hf8 of8 cf8 opf osf (hwk) (hLR) (hG) (hE) (hpk) _ _ hP hD hS ls (lv_sub hl [0, 1, 2, 3] rfl)
  · exact absurd (lr_place hLR _) c_358
set_option maxHeartbeats 4000000 in
set_option maxRecDepth 100000 in
theorem law_c5 {p : Program} {e : Env} {s : State} {m : MethodId} {below : List Frame} {meth : Method} {c : Code} (l : Launch) {D : va_G} {cI cJ cZ : ClassId} {b L : Nat} {xs : Nat → Int32} {A : Nat → Prop} (hLl : L ≤ 3072) (C1 : lwC D cI cJ cZ p s m meth c b L xs) (hA : ∀ q, s.heap.size ≤ q → A q) (hbA : ¬ A b) (ox m8 i : Nat) (x3 : Int32) (h3 : x3 = nI i) (hi6 : i + 6 ≤ L) (wsf stp : Nat → Int32) (hst : ∀ i, i < 94 → stp i = nI (stT i))  (lab711 : lwAt p l e s m below meth c D cI cJ cZ b A ox m8 wsf stp x3 711) : lwAt p l e s m below meth c D cI cJ cZ b A ox m8 wsf stp x3 363 := by
  obtain ⟨hx, hb, hr, hml, hown, hts, hX, hbl, hK, hN⟩ := id C1
  intro np tp tn wk ws6 fi6 ff6 ga6 ahr hca hla hta atr tca tla tta so sp hp g ha oa pa ko sk tr ta wa pa8 sta mo hea tha hd8 od8 cd8 opa osa op st se hq own sf town tf7 ft6 mu6 my6 jk6 ct6 bw6 un6 fif fff gf hcn hcf hlf htf tcn tcf tlf ttf ly te lay idl ov win hf of pf wf pf8 sf8 mf hf9 tf9 hf8 of8 cf8 opf osf hwk hLR hG hE hpk H locs hP hD hS ls hl
  have hn4 : np ≤ 4 := by rcases Nat.eq_zero_or_pos np with z | z; omega; exact (hG.2.2.2 z).1
  have hgm : ¬ igF np = 0 → np ≤ 4 ∧ tn < np ∧ tp ≤ 54 := fun z => ⟨hn4, (hG.2.2.2 (ig_np z)).2.1, (hG.2.2.2 (ig_np z)).2.2.1⟩
  refine lv_aload_n hx hb dL_law_363 rfl (lv_at hl 1 rfl) ?_
  refine lv_aload_n hx hb dL_law_364 rfl (lv_at hl 0 rfl) ?_
  refine lv_iload_n hx hb dL_law_365 rfl (lv_at hl 3 rfl) ?_
  refine lv_iconst (v := 1) hx hb dL_law_366 (by decide) ?_
  refine lv_iadd hx hb dL_law_367 ?_
  refine va_sld hx hb hX hbl hbA hS (sc_in (j := 1) h3 rfl (by decide) hi6 hLl) dL_law_368 ?_
  have hPc := hP.sub (ws' := [(ox, .inr (5, [.ref wk, .ref so, .ref g, .ref ko, .ref tr, .int op, .int st])), (ko, .inr (1, [.ref sk, .long own])), (sk, .inl (cI, 13, .inl sf))]) [0, 4, 5] rfl
  refine vp_callSi (W.runV (As := [.int (xs (x3 + 1).toNatClampNeg)]) (rest := []) ⟨hx, hb, hml, hown, hts⟩ (k_X7_stands l D cI cJ cZ ox wk so ko tr op st g sk own sf (xs (x3 + 1).toNatClampNeg) ) (cwV 1 hts gL_law_X7_stands rfl rfl rfl (by decide +kernel) ⟨Nat.le_of_ble_eq_true rfl, Nat.le_of_ble_eq_true rfl⟩) ⟨wR_fb, va_recv hK hPc (ci := 5) (q0 := 0) rfl rfl, wR_pre hPc ⟨hK, hN⟩⟩ rfl rfl hl.1 rfl (lv_room (Nat.le_of_ble_eq_true rfl)) dL_law_369 ⟨Nat.le_of_ble_eq_true rfl, Nat.le_of_ble_eq_true rfl⟩) (fun x369 hx369 => ?_)
  have hx369 := hx369.symm
  subst hx369
  refine lv_aload_n hx hb dL_law_372 rfl (lv_at hl 2 rfl) ?_
  refine lv_aload_n hx hb dL_law_373 rfl (lv_at hl 0 rfl) ?_
  refine lv_iload_n hx hb dL_law_374 rfl (lv_at hl 3 rfl) ?_
  refine lv_iconst (v := 1) hx hb dL_law_375 (by decide) ?_
  refine lv_iadd hx hb dL_law_376 ?_
  refine va_sld hx hb hX hbl hbA hS (sc_in (j := 1) h3 rfl (by decide) hi6 hLl) dL_law_377 ?_
  have hPc := hP.sub (ws' := [(m8, .inr (6, [.int st, .ref wa, .ref pa8, .ref sta, .ref mo, .ref hea, .ref tha, .int (igF np), .int ov, .int op, .int (nI np), .int (nI tn), .int win, .int te, .int lay, .int idl, .ref hd8, .ref od8, .long ly, .ref cd8, .int (nI tp), .ref opa, .ref osa])), (sta, .inl (cZ, 52, .inl sf8))]) [25, 28] rfl
  refine vp_callSi (W.runV (As := [.int (xs (x3 + 1).toNatClampNeg)]) (rest := [.int (j_X2_jokerFor sf own (xs (x3 + 1).toNatClampNeg))]) ⟨hx, hb, hml, hown, hts⟩ (k_X8_stands l D cI cJ cZ m8 wa pa8 sta mo hea tha hd8 od8 cd8 opa osa st (igF np) ov op (nI np) (nI tn) win te lay idl (nI tp) ly sf8 (xs (x3 + 1).toNatClampNeg) ) (cwV 1 hts gL_law_X8_stands rfl rfl rfl (by decide +kernel) ⟨Nat.le_of_ble_eq_true rfl, Nat.le_of_ble_eq_true rfl⟩) ⟨wR_fb, va_recv hK hPc (ci := 6) (q0 := 0) rfl rfl, wR_pre hPc ⟨hK, hN⟩⟩ rfl rfl hl.1 rfl (lv_room (Nat.le_of_ble_eq_true rfl)) dL_law_378 ⟨Nat.le_of_ble_eq_true rfl, Nat.le_of_ble_eq_true rfl⟩) (fun x378 hx378 => ?_)
  have hx378 := hx378.symm
  subst hx378
  refine lv_icmp_eq (tgt := 711) hx hb dL_law_381 (by decide) (fun c_381 => ?_) (fun c_381 => ?_)
  · exact lab711 np tp tn wk ws6 fi6 ff6 ga6 ahr hca hla hta atr tca tla tta so sp hp g ha oa pa ko sk tr ta wa pa8 sta mo hea tha hd8 od8 cd8 opa osa op st se hq own sf town tf7 ft6 mu6 my6 jk6 ct6 bw6 un6 fif fff gf hcn hcf hlf htf tcn tcf tlf ttf ly te lay idl ov win hf of pf wf pf8 sf8 mf hf9 tf9 hf8 of8 cf8 opf osf (hwk) (hLR) (hG) (hE) (hpk) _ _ hP hD hS ls (lv_sub hl [0, 1, 2, 3] rfl)
  · exact absurd (lr_stands hLR _) c_381
set_option maxHeartbeats 4000000 in
set_option maxRecDepth 100000 in
theorem law_c6 {p : Program} {e : Env} {s : State} {m : MethodId} {below : List Frame} {meth : Method} {c : Code} (l : Launch) {D : va_G} {cI cJ cZ : ClassId} {b L : Nat} {xs : Nat → Int32} {A : Nat → Prop} (hLl : L ≤ 3072) (C1 : lwC D cI cJ cZ p s m meth c b L xs) (hA : ∀ q, s.heap.size ≤ q → A q) (hbA : ¬ A b) (ox m8 i : Nat) (x3 : Int32) (h3 : x3 = nI i) (hi6 : i + 6 ≤ L) (wsf stp : Nat → Int32) (hst : ∀ i, i < 94 → stp i = nI (stT i))  (lab711 : lwAt p l e s m below meth c D cI cJ cZ b A ox m8 wsf stp x3 711) : lwAt p l e s m below meth c D cI cJ cZ b A ox m8 wsf stp x3 386 := by
  obtain ⟨hx, hb, hr, hml, hown, hts, hX, hbl, hK, hN⟩ := id C1
  intro np tp tn wk ws6 fi6 ff6 ga6 ahr hca hla hta atr tca tla tta so sp hp g ha oa pa ko sk tr ta wa pa8 sta mo hea tha hd8 od8 cd8 opa osa op st se hq own sf town tf7 ft6 mu6 my6 jk6 ct6 bw6 un6 fif fff gf hcn hcf hlf htf tcn tcf tlf ttf ly te lay idl ov win hf of pf wf pf8 sf8 mf hf9 tf9 hf8 of8 cf8 opf osf hwk hLR hG hE hpk H locs hP hD hS ls hl
  have hn4 : np ≤ 4 := by rcases Nat.eq_zero_or_pos np with z | z; omega; exact (hG.2.2.2 z).1
  have hgm : ¬ igF np = 0 → np ≤ 4 ∧ tn < np ∧ tp ≤ 54 := fun z => ⟨hn4, (hG.2.2.2 (ig_np z)).2.1, (hG.2.2.2 (ig_np z)).2.2.1⟩
  refine lv_aload_n hx hb dL_law_386 rfl (lv_at hl 1 rfl) ?_
  refine lv_aload_n hx hb dL_law_387 rfl (lv_at hl 0 rfl) ?_
  refine lv_iload_n hx hb dL_law_388 rfl (lv_at hl 3 rfl) ?_
  refine lv_iconst (v := 1) hx hb dL_law_389 (by decide) ?_
  refine lv_iadd hx hb dL_law_390 ?_
  refine va_sld hx hb hX hbl hbA hS (sc_in (j := 1) h3 rfl (by decide) hi6 hLl) dL_law_391 ?_
  have hPc := hP.sub (ws' := [(ox, .inr (5, [.ref wk, .ref so, .ref g, .ref ko, .ref tr, .int op, .int st])), (ko, .inr (1, [.ref sk, .long own])), (sk, .inl (cI, 13, .inl sf))]) [0, 4, 5] rfl
  refine vp_callSi (W.runV (As := [.int (xs (x3 + 1).toNatClampNeg)]) (rest := []) ⟨hx, hb, hml, hown, hts⟩ (k_X7_shows l D cI cJ cZ ox wk so ko tr op st g sk own sf (xs (x3 + 1).toNatClampNeg) ) (cwV 1 hts gL_law_X7_shows rfl rfl rfl (by decide +kernel) ⟨Nat.le_of_ble_eq_true rfl, Nat.le_of_ble_eq_true rfl⟩) ⟨wR_fb, va_recv hK hPc (ci := 5) (q0 := 0) rfl rfl, wR_pre hPc ⟨hK, hN⟩⟩ rfl rfl hl.1 rfl (lv_room (Nat.le_of_ble_eq_true rfl)) dL_law_392 ⟨Nat.le_of_ble_eq_true rfl, Nat.le_of_ble_eq_true rfl⟩) (fun x392 hx392 => ?_)
  have hx392 := hx392.symm
  subst hx392
  refine lv_aload_n hx hb dL_law_395 rfl (lv_at hl 2 rfl) ?_
  refine lv_aload_n hx hb dL_law_396 rfl (lv_at hl 0 rfl) ?_
  refine lv_iload_n hx hb dL_law_397 rfl (lv_at hl 3 rfl) ?_
  refine lv_iconst (v := 1) hx hb dL_law_398 (by decide) ?_
  refine lv_iadd hx hb dL_law_399 ?_
  refine va_sld hx hb hX hbl hbA hS (sc_in (j := 1) h3 rfl (by decide) hi6 hLl) dL_law_400 ?_
  have hPc := hP.sub (ws' := [(m8, .inr (6, [.int st, .ref wa, .ref pa8, .ref sta, .ref mo, .ref hea, .ref tha, .int (igF np), .int ov, .int op, .int (nI np), .int (nI tn), .int win, .int te, .int lay, .int idl, .ref hd8, .ref od8, .long ly, .ref cd8, .int (nI tp), .ref opa, .ref osa])), (pa8, .inl (cI, 52, .inl pf8)), (sta, .inl (cZ, 52, .inl sf8))]) [25, 27, 28] rfl
  refine vp_callSi (W.runV (As := [.int (xs (x3 + 1).toNatClampNeg)]) (rest := [.int (j_shows7 sf own (xs (x3 + 1).toNatClampNeg).toInt)]) ⟨hx, hb, hml, hown, hts⟩ (k_X8_shows l D cI cJ cZ m8 wa pa8 sta mo hea tha hd8 od8 cd8 opa osa st (igF np) ov op (nI np) (nI tn) win te lay idl (nI tp) ly pf8 sf8 (xs (x3 + 1).toNatClampNeg) ) (cwV 1 hts gL_law_X8_shows rfl rfl rfl (by decide +kernel) ⟨Nat.le_of_ble_eq_true rfl, Nat.le_of_ble_eq_true rfl⟩) ⟨wR_fb, va_recv hK hPc (ci := 6) (q0 := 0) rfl rfl, wR_pre hPc ⟨hK, hN⟩⟩ rfl rfl hl.1 rfl (lv_room (Nat.le_of_ble_eq_true rfl)) dL_law_401 ⟨Nat.le_of_ble_eq_true rfl, Nat.le_of_ble_eq_true rfl⟩) (fun x401 hx401 => ?_)
  have hx401 := hx401.symm
  subst hx401
  refine lv_icmp_eq (tgt := 711) hx hb dL_law_404 (by decide) (fun c_404 => ?_) (fun c_404 => ?_)
  · exact lab711 np tp tn wk ws6 fi6 ff6 ga6 ahr hca hla hta atr tca tla tta so sp hp g ha oa pa ko sk tr ta wa pa8 sta mo hea tha hd8 od8 cd8 opa osa op st se hq own sf town tf7 ft6 mu6 my6 jk6 ct6 bw6 un6 fif fff gf hcn hcf hlf htf tcn tcf tlf ttf ly te lay idl ov win hf of pf wf pf8 sf8 mf hf9 tf9 hf8 of8 cf8 opf osf (hwk) (hLR) (hG) (hE) (hpk) _ _ hP hD hS ls (lv_sub hl [0, 1, 2, 3] rfl)
  · exact absurd (lr_shows hLR _) c_404
