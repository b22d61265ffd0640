set_option maxHeartbeats 4000000 in
set_option maxRecDepth 100000 in
theorem c_X2_isSame (l : Launch) (D : va_G) (cI cJ cR : ClassId) (sz : Nat) (a : Nat → Nat) (sm ma sa : Nat) (ra rs : Nat → Nat) (k st : Nat) (fi : Int32) (fB fS fO mM mP : Nat → Int32) (fL : Nat → Int64) (c : Nat) (t : Int32) (y : Nat) (fW fD : Nat → Int32) (c2 t2 y2 : Int32) (gW gD : Nat → Int32) (hI : PI k st fB fS fO fL c t fW fD mM mP) (hy : y < 2 ^ 20) : Met l yX2_isSame wsX2_isSame ({ frames := 98, cells := 160, slots := 340, locals := 2808 }) (cPw D ([((a 0), .inr (1, [.ref (a 1), .ref (a 2), .ref (a 3), .ref (a 4), .ref (a 5), .ref (a 8), .int (nI k), .int (nI st), .int fi])), ((a 1), .inl (cI, 8, .inl fB)), ((a 2), .inl (cI, 8, .inl fS)), ((a 3), .inl (cJ, 8, .inr (.inl fL))), ((a 4), .inl (cI, 8, .inl fO)), ((a 5), .inr (0, [.ref (a 6), .ref (a 7), .int (nI c), .int t, .int (nI y)])), ((a 6), .inl (cI, 6, .inl fW)), ((a 7), .inl (cI, 6, .inl fD)), ((a 8), .inr (0, [.ref (a 9), .ref (a 10), .int c2, .int t2, .int y2])), ((a 9), .inl (cI, 6, .inl gW)), ((a 10), .inl (cI, 6, .inl gD)), (sm, .inr (2, [.int (nI y), .int fi, .int (nI st), .int t, .ref ma, .ref sa])), (ma, .inl (cR, k, .inr (.inr (.inr (.inr (fr ra)))))), (sa, .inl (cR, c, .inr (.inr (.inr (.inr (fr rs))))))] ++ (RT cI ra rs fB mM mP fW fD k c)) sz (KC D cI cJ cR) [.ref sm, .ref (a 0)]) (wri D ([((a 0), .inr (1, [.ref (a 1), .ref (a 2), .ref (a 3), .ref (a 4), .ref (a 5), .ref (a 8), .int (nI k), .int (nI st), .int fi])), ((a 1), .inl (cI, 8, .inl fB)), ((a 2), .inl (cI, 8, .inl fS)), ((a 3), .inl (cJ, 8, .inr (.inl fL))), ((a 4), .inl (cI, 8, .inl fO)), ((a 5), .inr (0, [.ref (a 6), .ref (a 7), .int (nI c), .int t, .int (nI y)])), ((a 6), .inl (cI, 6, .inl fW)), ((a 7), .inl (cI, 6, .inl fD)), ((a 8), .inr (0, [.ref (a 9), .ref (a 10), .int c2, .int t2, .int y2])), ((a 9), .inl (cI, 6, .inl gW)), ((a 10), .inl (cI, 6, .inl gD)), (sm, .inr (2, [.int (nI y), .int fi, .int (nI st), .int t, .ref ma, .ref sa])), (ma, .inl (cR, k, .inr (.inr (.inr (.inr (fr ra)))))), (sa, .inl (cR, c, .inr (.inr (.inr (.inr (fr rs))))))] ++ (RT cI ra rs fB mM mP fW fD k c)) sz (fun r ws' => r = 1 ∧ ws' = ([((a 0), .inr (1, [.ref (a 1), .ref (a 2), .ref (a 3), .ref (a 4), .ref (a 5), .ref (a 8), .int (nI k), .int (nI st), .int fi])), ((a 1), .inl (cI, 8, .inl fB)), ((a 2), .inl (cI, 8, .inl fS)), ((a 3), .inl (cJ, 8, .inr (.inl fL))), ((a 4), .inl (cI, 8, .inl fO)), ((a 5), .inr (0, [.ref (a 6), .ref (a 7), .int (nI c), .int t, .int (nI y)])), ((a 6), .inl (cI, 6, .inl fW)), ((a 7), .inl (cI, 6, .inl fD)), ((a 8), .inr (0, [.ref (a 9), .ref (a 10), .int c2, .int t2, .int y2])), ((a 9), .inl (cI, 6, .inl gW)), ((a 10), .inl (cI, 6, .inl gD)), (sm, .inr (2, [.int (nI y), .int fi, .int (nI st), .int t, .ref ma, .ref sa])), (ma, .inl (cR, k, .inr (.inr (.inr (.inr (fr ra)))))), (sa, .inl (cR, c, .inr (.inr (.inr (.inr (fr rs))))))] ++ (RT cI ra rs fB mM mP fW fD k c)))) 160 340 (va_A ([((a 0), .inr (1, [.ref (a 1), .ref (a 2), .ref (a 3), .ref (a 4), .ref (a 5), .ref (a 8), .int (nI k), .int (nI st), .int fi])), ((a 1), .inl (cI, 8, .inl fB)), ((a 2), .inl (cI, 8, .inl fS)), ((a 3), .inl (cJ, 8, .inr (.inl fL))), ((a 4), .inl (cI, 8, .inl fO)), ((a 5), .inr (0, [.ref (a 6), .ref (a 7), .int (nI c), .int t, .int (nI y)])), ((a 6), .inl (cI, 6, .inl fW)), ((a 7), .inl (cI, 6, .inl fD)), ((a 8), .inr (0, [.ref (a 9), .ref (a 10), .int c2, .int t2, .int y2])), ((a 9), .inl (cI, 6, .inl gW)), ((a 10), .inl (cI, 6, .inl gD)), (sm, .inr (2, [.int (nI y), .int fi, .int (nI st), .int t, .ref ma, .ref sa])), (ma, .inl (cR, k, .inr (.inr (.inr (.inr (fr ra)))))), (sa, .inl (cR, c, .inr (.inr (.inr (.inr (fr rs))))))] ++ (RT cI ra rs fB mM mP fW fD k c)) sz) := by
  refine Met.ofW (cc := cX2_isSame) (maxL := 10) (ret := (some .boolean)) (by decide +kernel) rfl ?_
  intro p e s m args below meth c9 s₁ B hml hv
  obtain ⟨rfl, hsz, hP, hD0, hC⟩ := hv
  have hx := B.exec
  have hb := B.bytes
  have hr := B.returns
  have hts := atoms_spec (ws := wsX2_isSame) B.pre
  have hown : s.vm.findClass RX2 = some m.cls := findClass_of_methodNamed B.named
  have hlocks := B.notSynchronized
  have hK : va_K D vwCl [(cI, .int), (cJ, .long), (cR, .array .int)] s := hC.1
  subst hsz
  unfold wri wB
  have hD := hD0.self (sz := s.heap.size)
  generalize hAe : va_A ([((a 0), .inr (1, [.ref (a 1), .ref (a 2), .ref (a 3), .ref (a 4), .ref (a 5), .ref (a 8), .int (nI k), .int (nI st), .int fi])), ((a 1), .inl (cI, 8, .inl fB)), ((a 2), .inl (cI, 8, .inl fS)), ((a 3), .inl (cJ, 8, .inr (.inl fL))), ((a 4), .inl (cI, 8, .inl fO)), ((a 5), .inr (0, [.ref (a 6), .ref (a 7), .int (nI c), .int t, .int (nI y)])), ((a 6), .inl (cI, 6, .inl fW)), ((a 7), .inl (cI, 6, .inl fD)), ((a 8), .inr (0, [.ref (a 9), .ref (a 10), .int c2, .int t2, .int y2])), ((a 9), .inl (cI, 6, .inl gW)), ((a 10), .inl (cI, 6, .inl gD)), (sm, .inr (2, [.int (nI y), .int fi, .int (nI st), .int t, .ref ma, .ref sa])), (ma, .inl (cR, k, .inr (.inr (.inr (.inr (fr ra)))))), (sa, .inl (cR, c, .inr (.inr (.inr (.inr (fr rs))))))] ++ (RT cI ra rs fB mM mP fW fD k c)) s.heap.size = A at hD ⊢
  have hA : ∀ q : Nat, s.heap.size ≤ q → A q := fun q h => by rw [← hAe]; exact Or.inr h
  have hS : va_S A s.heap s.heap [] := va_S.rf
  have hl := lv_entry ([.ref sm, .ref (a 0)]) (n := 10) (Nat.le_of_ble_eq_true rfl)
  rw [lg_entry_eq]
  generalize (lg_sl ([.ref sm, .ref (a 0)]) ++ List.replicate (10 - (lg_sl ([.ref sm, .ref (a 0)])).length) Slot.unset).toArray = ls at hl ⊢
  have hl : lv_has ls 10 [(0, .ref sm), (1, .ref (a 0))] := hl
  obtain ⟨hLI, hB0, ht100, hW9⟩ := id hI
  have hM := hLI.1
  have hst2 := hLI.2.1
  have hc := hLI.2.2.2.1
  have ht0 := hLI.2.2.2.2.1
  have hD3 := hLI.2.2.2.2.2.1
  obtain ⟨La, pp, uu, bb, hL⟩ := hLI.2.2.2.2.2.2.2.1
  obtain ⟨g9, hg⟩ := hLI.2.2.2.2.2.2.2.2.1
  have hk8 : k ≤ 8 := hM.2.1
  have hk1 : 1 ≤ k := hM.1
  have ht9 : 0 ≤ t.toInt ∧ t.toInt ≤ 100 := ⟨ht0, ht100⟩
  have hiX2 : ∀ w ∈ u_ws RX2 TX2 6, w ∈ wsX2_isSame := by decide +kernel
  have hw7 : (Cond.fieldLink RX2 7 "OldMeasuresLaw$Sim" "tolerance" "I").before ([.ref sm, .ref (a 0)] : List Value).toArray s = true := hts _ (by decide +kernel)
  have hw15 : (Cond.fieldLink RX2 15 "OldMeasuresLaw$Sim" "measures" "[[I").before ([.ref sm, .ref (a 0)] : List Value).toArray s = true := hts _ (by decide +kernel)
  have hw19 : (Cond.fieldLink RX2 19 "OldMeasuresLaw$Sim" "stalls" "[[I").before ([.ref sm, .ref (a 0)] : List Value).toArray s = true := hts _ (by decide +kernel)
  have hw38 : (Cond.fieldLink RX2 38 "OldMeasuresLaw$Sim" "day" "I").before ([.ref sm, .ref (a 0)] : List Value).toArray s = true := hts _ (by decide +kernel)
  have hw45 : (Cond.fieldLink RX2 45 "OldMeasuresLaw$Sim" "fines" "I").before ([.ref sm, .ref (a 0)] : List Value).toArray s = true := hts _ (by decide +kernel)
  have hw59 : (Cond.fieldLink RX2 59 "OldMeasuresLaw$Sim" "standard" "I").before ([.ref sm, .ref (a 0)] : List Value).toArray s = true := hts _ (by decide +kernel)
  refine lv_aload_n hx hb dX2_isSame_0 rfl (lv_at hl 0 rfl) ?_
  refine va_get (D := D) (ci := 2) (v := .ref ma) (C := RX2) (T := TX2) (N := 6) hx hb hts hiX2 hown hK hP 11 rfl rfl 4 (by decide) hw15 (fun _ h9 => h9) rfl dX2_isSame_1 ?_
  refine va_alen (v := (nI k)) hx hb hK hP 12 2 rfl rfl rfl dX2_isSame_4 ?_
  refine lv_istore_n (lv' := [(2, .int (nI k)), (0, .ref sm), (1, .ref (a 0))]) hx hb dX2_isSame_5 rfl hl (by decide) rfl (fun ls hl => ?_)
  refine lv_aload_n hx hb dX2_isSame_6 rfl (lv_at hl 2 rfl) ?_
  refine ro_iE (va_runV (As := []) (rest := []) ⟨hx, hb, hml, hown, hts⟩ (c_X1_measures l D cI cJ cR a k st fi fB fS fO fL c t y fW fD c2 t2 y2 gW gD) (cwV 0 hts gX2_isSame_X1_measures rfl rfl rfl (by decide +kernel) ⟨Nat.le_of_ble_eq_true rfl, Nat.le_of_ble_eq_true rfl⟩) (preV_ro KC_ok (hP.sub (ws' := [((a 0), .inr (1, [.ref (a 1), .ref (a 2), .ref (a 3), .ref (a 4), .ref (a 5), .ref (a 8), .int (nI k), .int (nI st), .int fi])), ((a 1), .inl (cI, 8, .inl fB)), ((a 2), .inl (cI, 8, .inl fS)), ((a 3), .inl (cJ, 8, .inr (.inl fL))), ((a 4), .inl (cI, 8, .inl fO)), ((a 5), .inr (0, [.ref (a 6), .ref (a 7), .int (nI c), .int t, .int (nI y)])), ((a 6), .inl (cI, 6, .inl fW)), ((a 7), .inl (cI, 6, .inl fD)), ((a 8), .inr (0, [.ref (a 9), .ref (a 10), .int c2, .int t2, .int y2])), ((a 9), .inl (cI, 6, .inl gW)), ((a 10), .inl (cI, 6, .inl gD))]) [0, 1, 2, 3, 4, 5, 6, 7, 8, 9, 10] rfl) hC (va_recv hK hP (ci := 1) (q0 := 0) rfl rfl)) rfl rfl hl.1 rfl (lv_room (Nat.le_of_ble_eq_true rfl)) dX2_isSame_7 ⟨by decide, by decide⟩) ?_
  refine lv_iload_n hx hb dX2_isSame_10 rfl (lv_at hl 0 rfl) ?_
  refine lv_icmp_ne (tgt := 70) hx hb dX2_isSame_11 (by decide) (fun c_11 => by exact absurd rfl c_11) (fun c_11 => ?_)
  refine lv_aload_n hx hb dX2_isSame_14 rfl (lv_at hl 2 rfl) ?_
  refine ro_iE (va_runV (As := []) (rest := []) ⟨hx, hb, hml, hown, hts⟩ (c_X1_stalls l D cI cJ cR a k st fi fB fS fO fL c t y fW fD c2 t2 y2 gW gD) (cwV 0 hts gX2_isSame_X1_stalls rfl rfl rfl (by decide +kernel) ⟨Nat.le_of_ble_eq_true rfl, Nat.le_of_ble_eq_true rfl⟩) (preV_ro KC_ok (hP.sub (ws' := [((a 0), .inr (1, [.ref (a 1), .ref (a 2), .ref (a 3), .ref (a 4), .ref (a 5), .ref (a 8), .int (nI k), .int (nI st), .int fi])), ((a 1), .inl (cI, 8, .inl fB)), ((a 2), .inl (cI, 8, .inl fS)), ((a 3), .inl (cJ, 8, .inr (.inl fL))), ((a 4), .inl (cI, 8, .inl fO)), ((a 5), .inr (0, [.ref (a 6), .ref (a 7), .int (nI c), .int t, .int (nI y)])), ((a 6), .inl (cI, 6, .inl fW)), ((a 7), .inl (cI, 6, .inl fD)), ((a 8), .inr (0, [.ref (a 9), .ref (a 10), .int c2, .int t2, .int y2])), ((a 9), .inl (cI, 6, .inl gW)), ((a 10), .inl (cI, 6, .inl gD))]) [0, 1, 2, 3, 4, 5, 6, 7, 8, 9, 10] rfl) hC (va_recv hK hP (ci := 1) (q0 := 0) rfl rfl)) rfl rfl hl.1 rfl (lv_room (Nat.le_of_ble_eq_true rfl)) dX2_isSame_15 ⟨by decide, by decide⟩) ?_
  refine lv_aload_n hx hb dX2_isSame_18 rfl (lv_at hl 1 rfl) ?_
  refine va_get (D := D) (ci := 2) (v := .ref sa) (C := RX2) (T := TX2) (N := 6) hx hb hts hiX2 hown hK hP 11 rfl rfl 5 (by decide) hw19 (fun _ h9 => h9) rfl dX2_isSame_19 ?_
  refine va_alen (v := (nI c)) hx hb hK hP 13 2 rfl rfl rfl dX2_isSame_22 ?_
  refine lv_icmp_ne (tgt := 70) hx hb dX2_isSame_23 (by decide) (fun c_23 => by exact absurd rfl c_23) (fun c_23 => ?_)
  refine lv_aload_n hx hb dX2_isSame_26 rfl (lv_at hl 2 rfl) ?_
  refine ro_iE (va_runV (As := []) (rest := []) ⟨hx, hb, hml, hown, hts⟩ (c_X1_days l D cI cJ cR a k st fi fB fS fO fL c t y fW fD c2 t2 y2 gW gD) (cwV 0 hts gX2_isSame_X1_days rfl rfl rfl (by decide +kernel) ⟨Nat.le_of_ble_eq_true rfl, Nat.le_of_ble_eq_true rfl⟩) (preV_ro KC_ok (hP.sub (ws' := [((a 0), .inr (1, [.ref (a 1), .ref (a 2), .ref (a 3), .ref (a 4), .ref (a 5), .ref (a 8), .int (nI k), .int (nI st), .int fi])), ((a 1), .inl (cI, 8, .inl fB)), ((a 2), .inl (cI, 8, .inl fS)), ((a 3), .inl (cJ, 8, .inr (.inl fL))), ((a 4), .inl (cI, 8, .inl fO)), ((a 5), .inr (0, [.ref (a 6), .ref (a 7), .int (nI c), .int t, .int (nI y)])), ((a 6), .inl (cI, 6, .inl fW)), ((a 7), .inl (cI, 6, .inl fD)), ((a 8), .inr (0, [.ref (a 9), .ref (a 10), .int c2, .int t2, .int y2])), ((a 9), .inl (cI, 6, .inl gW)), ((a 10), .inl (cI, 6, .inl gD))]) [0, 1, 2, 3, 4, 5, 6, 7, 8, 9, 10] rfl) hC (va_recv hK hP (ci := 1) (q0 := 0) rfl rfl)) rfl rfl hl.1 rfl (lv_room (Nat.le_of_ble_eq_true rfl)) dX2_isSame_27 ⟨by decide, by decide⟩) ?_
  refine lv_aload_n hx hb dX2_isSame_30 rfl (lv_at hl 1 rfl) ?_
  refine va_get (D := D) (ci := 2) (v := .int (nI y)) (C := RX2) (T := TX2) (N := 6) hx hb hts hiX2 hown hK hP 11 rfl rfl 0 (by decide) hw38 (fun _ h9 => h9) rfl dX2_isSame_31 ?_
  refine lv_icmp_ne (tgt := 70) hx hb dX2_isSame_34 (by decide) (fun c_34 => by exact absurd rfl c_34) (fun c_34 => ?_)
  refine lv_aload_n hx hb dX2_isSame_37 rfl (lv_at hl 2 rfl) ?_
  refine ro_iE (va_runV (As := []) (rest := []) ⟨hx, hb, hml, hown, hts⟩ (c_X1_standard l D cI cJ cR a k st fi fB fS fO fL c t y fW fD c2 t2 y2 gW gD) (cwV 0 hts gX2_isSame_X1_standard rfl rfl rfl (by decide +kernel) ⟨Nat.le_of_ble_eq_true rfl, Nat.le_of_ble_eq_true rfl⟩) (preV_ro KC_ok (hP.sub (ws' := [((a 0), .inr (1, [.ref (a 1), .ref (a 2), .ref (a 3), .ref (a 4), .ref (a 5), .ref (a 8), .int (nI k), .int (nI st), .int fi])), ((a 1), .inl (cI, 8, .inl fB)), ((a 2), .inl (cI, 8, .inl fS)), ((a 3), .inl (cJ, 8, .inr (.inl fL))), ((a 4), .inl (cI, 8, .inl fO)), ((a 5), .inr (0, [.ref (a 6), .ref (a 7), .int (nI c), .int t, .int (nI y)])), ((a 6), .inl (cI, 6, .inl fW)), ((a 7), .inl (cI, 6, .inl fD)), ((a 8), .inr (0, [.ref (a 9), .ref (a 10), .int c2, .int t2, .int y2])), ((a 9), .inl (cI, 6, .inl gW)), ((a 10), .inl (cI, 6, .inl gD))]) [0, 1, 2, 3, 4, 5, 6, 7, 8, 9, 10] rfl) hC (va_recv hK hP (ci := 1) (q0 := 0) rfl rfl)) rfl rfl hl.1 rfl (lv_room (Nat.le_of_ble_eq_true rfl)) dX2_isSame_38 ⟨by decide, by decide⟩) ?_
  refine lv_aload_n hx hb dX2_isSame_41 rfl (lv_at hl 1 rfl) ?_
  refine va_get (D := D) (ci := 2) (v := .int (nI st)) (C := RX2) (T := TX2) (N := 6) hx hb hts hiX2 hown hK hP 11 rfl rfl 2 (by decide) hw59 (fun _ h9 => h9) rfl dX2_isSame_42 ?_
  refine lv_icmp_ne (tgt := 70) hx hb dX2_isSame_45 (by decide) (fun c_45 => by exact absurd rfl c_45) (fun c_45 => ?_)
  refine lv_aload_n hx hb dX2_isSame_48 rfl (lv_at hl 2 rfl) ?_
  refine ro_iE (va_runV (As := []) (rest := []) ⟨hx, hb, hml, hown, hts⟩ (c_X1_tolerance l D cI cJ cR a k st fi fB fS fO fL c t y fW fD c2 t2 y2 gW gD) (cwV 0 hts gX2_isSame_X1_tolerance rfl rfl rfl (by decide +kernel) ⟨Nat.le_of_ble_eq_true rfl, Nat.le_of_ble_eq_true rfl⟩) (preV_ro KC_ok (hP.sub (ws' := [((a 0), .inr (1, [.ref (a 1), .ref (a 2), .ref (a 3), .ref (a 4), .ref (a 5), .ref (a 8), .int (nI k), .int (nI st), .int fi])), ((a 1), .inl (cI, 8, .inl fB)), ((a 2), .inl (cI, 8, .inl fS)), ((a 3), .inl (cJ, 8, .inr (.inl fL))), ((a 4), .inl (cI, 8, .inl fO)), ((a 5), .inr (0, [.ref (a 6), .ref (a 7), .int (nI c), .int t, .int (nI y)])), ((a 6), .inl (cI, 6, .inl fW)), ((a 7), .inl (cI, 6, .inl fD)), ((a 8), .inr (0, [.ref (a 9), .ref (a 10), .int c2, .int t2, .int y2])), ((a 9), .inl (cI, 6, .inl gW)), ((a 10), .inl (cI, 6, .inl gD))]) [0, 1, 2, 3, 4, 5, 6, 7, 8, 9, 10] rfl) hC (va_recv hK hP (ci := 1) (q0 := 0) rfl rfl)) rfl rfl hl.1 rfl (lv_room (Nat.le_of_ble_eq_true rfl)) dX2_isSame_49 ⟨by decide, by decide⟩) ?_
  refine lv_aload_n hx hb dX2_isSame_52 rfl (lv_at hl 1 rfl) ?_
  refine va_get (D := D) (ci := 2) (v := .int t) (C := RX2) (T := TX2) (N := 6) hx hb hts hiX2 hown hK hP 11 rfl rfl 3 (by decide) hw7 (fun _ h9 => h9) rfl dX2_isSame_53 ?_
  refine lv_icmp_ne (tgt := 70) hx hb dX2_isSame_56 (by decide) (fun c_56 => by exact absurd rfl c_56) (fun c_56 => ?_)
  refine lv_aload_n hx hb dX2_isSame_59 rfl (lv_at hl 2 rfl) ?_
  refine ro_iE (va_runV (As := []) (rest := []) ⟨hx, hb, hml, hown, hts⟩ (c_X1_fines l D cI cJ cR a k st fi fB fS fO fL c t y fW fD c2 t2 y2 gW gD) (cwV 0 hts gX2_isSame_X1_fines rfl rfl rfl (by decide +kernel) ⟨Nat.le_of_ble_eq_true rfl, Nat.le_of_ble_eq_true rfl⟩) (preV_ro KC_ok (hP.sub (ws' := [((a 0), .inr (1, [.ref (a 1), .ref (a 2), .ref (a 3), .ref (a 4), .ref (a 5), .ref (a 8), .int (nI k), .int (nI st), .int fi])), ((a 1), .inl (cI, 8, .inl fB)), ((a 2), .inl (cI, 8, .inl fS)), ((a 3), .inl (cJ, 8, .inr (.inl fL))), ((a 4), .inl (cI, 8, .inl fO)), ((a 5), .inr (0, [.ref (a 6), .ref (a 7), .int (nI c), .int t, .int (nI y)])), ((a 6), .inl (cI, 6, .inl fW)), ((a 7), .inl (cI, 6, .inl fD)), ((a 8), .inr (0, [.ref (a 9), .ref (a 10), .int c2, .int t2, .int y2])), ((a 9), .inl (cI, 6, .inl gW)), ((a 10), .inl (cI, 6, .inl gD))]) [0, 1, 2, 3, 4, 5, 6, 7, 8, 9, 10] rfl) hC (va_recv hK hP (ci := 1) (q0 := 0) rfl rfl)) rfl rfl hl.1 rfl (lv_room (Nat.le_of_ble_eq_true rfl)) dX2_isSame_60 ⟨by decide, by decide⟩) ?_
  refine lv_aload_n hx hb dX2_isSame_63 rfl (lv_at hl 1 rfl) ?_
  refine va_get (D := D) (ci := 2) (v := .int fi) (C := RX2) (T := TX2) (N := 6) hx hb hts hiX2 hown hK hP 11 rfl rfl 1 (by decide) hw45 (fun _ h9 => h9) rfl dX2_isSame_64 ?_
  refine lv_icmp_eq (tgt := 72) hx hb dX2_isSame_67 (by decide) (fun c_67 => ?_) (fun c_67 => by exact absurd rfl c_67)
  refine lv_aload_n hx hb dX2_isSame_72 rfl (lv_at hl 1 rfl) ?_
  have hFc := va_freeP (cx := [(sm, .inr (2, [.int (nI y), .int fi, .int (nI st), .int t, .ref ma, .ref sa])), (ma, .inl (cR, k, .inr (.inr (.inr (.inr (fr ra)))))), (sa, .inl (cR, c, .inr (.inr (.inr (.inr (fr rs))))))]) (pl := (RT cI ra rs fB mM mP fW fD k c)) hD hS hA [11, 12, 13] rfl
  refine xr_call (va_runV (As := []) (rest := []) ⟨hx, hb, hml, hown, hts⟩ (c_X2_order l D cI cJ cR s.heap.size sm ma sa ra rs k st fi fB mM mP c t y fW fD fL La pp uu bb hL hk8 hk1) (cwV 0 hts gX2_isSame_X2_order rfl rfl rfl (by decide +kernel) ⟨Nat.le_of_ble_eq_true rfl, Nat.le_of_ble_eq_true rfl⟩) (preV_wr KM_ok (va_P.part (cx := [(sm, .inr (2, [.int (nI y), .int fi, .int (nI st), .int t, .ref ma, .ref sa])), (ma, .inl (cR, k, .inr (.inr (.inr (.inr (fr ra)))))), (sa, .inl (cR, c, .inr (.inr (.inr (.inr (fr rs))))))]) (pl := (RT cI ra rs fB mM mP fW fD k c)) hP [11, 12, 13] rfl) (va_D.part (cx := [(sm, .inr (2, [.int (nI y), .int fi, .int (nI st), .int t, .ref ma, .ref sa])), (ma, .inl (cR, k, .inr (.inr (.inr (.inr (fr ra)))))), (sa, .inl (cR, c, .inr (.inr (.inr (.inr (fr rs))))))]) (pl := (RT cI ra rs fB mM mP fW fD k c)) hD [11, 12, 13] (by decide) rfl) hK (va_recv hK hP (ci := 2) (q0 := 11) rfl rfl)) rfl rfl hl.1 rfl (lv_room (Nat.le_of_ble_eq_true rfl)) dX2_isSame_73 ⟨by decide, by decide⟩) hS (fun q _ h => hFc q h) hFc (fun u r_73 t9 H1 locs ht hw9 hB hz1 hk1 hS => ?_)
  obtain ⟨o_73, ho9, rfl⟩ := hw9
  obtain ⟨hP1, hD1⟩ := hB
  rw [ht] at hP1
  obtain ⟨hP, hD⟩ := va_joinP (X := [((a 0), .inr (1, [.ref (a 1), .ref (a 2), .ref (a 3), .ref (a 4), .ref (a 5), .ref (a 8), .int (nI k), .int (nI st), .int fi])), ((a 1), .inl (cI, 8, .inl fB)), ((a 2), .inl (cI, 8, .inl fS)), ((a 3), .inl (cJ, 8, .inr (.inl fL))), ((a 4), .inl (cI, 8, .inl fO)), ((a 5), .inr (0, [.ref (a 6), .ref (a 7), .int (nI c), .int t, .int (nI y)])), ((a 6), .inl (cI, 6, .inl fW)), ((a 7), .inl (cI, 6, .inl fD)), ((a 8), .inr (0, [.ref (a 9), .ref (a 10), .int c2, .int t2, .int y2])), ((a 9), .inl (cI, 6, .inl gW)), ((a 10), .inl (cI, 6, .inl gD)), (sm, .inr (2, [.int (nI y), .int fi, .int (nI st), .int t, .ref ma, .ref sa])), (ma, .inl (cR, k, .inr (.inr (.inr (.inr (fr ra)))))), (sa, .inl (cR, c, .inr (.inr (.inr (.inr (fr rs))))))]) (cx := [(sm, .inr (2, [.int (nI y), .int fi, .int (nI st), .int t, .ref ma, .ref sa])), (ma, .inl (cR, k, .inr (.inr (.inr (.inr (fr ra)))))), (sa, .inl (cR, c, .inr (.inr (.inr (.inr (fr rs))))))]) (wr := [((a 0), .inr (1, [.ref (a 1), .ref (a 2), .ref (a 3), .ref (a 4), .ref (a 5), .ref (a 8), .int (nI k), .int (nI st), .int fi])), ((a 1), .inl (cI, 8, .inl fB)), ((a 2), .inl (cI, 8, .inl fS)), ((a 3), .inl (cJ, 8, .inr (.inl fL))), ((a 4), .inl (cI, 8, .inl fO)), ((a 5), .inr (0, [.ref (a 6), .ref (a 7), .int (nI c), .int t, .int (nI y)])), ((a 6), .inl (cI, 6, .inl fW)), ((a 7), .inl (cI, 6, .inl fD)), ((a 8), .inr (0, [.ref (a 9), .ref (a 10), .int c2, .int t2, .int y2])), ((a 9), .inl (cI, 6, .inl gW)), ((a 10), .inl (cI, 6, .inl gD))]) (rx := [(sm, .inr (2, [.int (nI y), .int fi, .int (nI st), .int t, .ref ma, .ref sa])), (ma, .inl (cR, k, .inr (.inr (.inr (.inr (fr ra)))))), (sa, .inl (cR, c, .inr (.inr (.inr (.inr (fr rs)))))), (r_73, .inl (cI, k, .inl o_73))]) (pl := (RT cI ra rs fB mM mP fW fD k c)) (pl1 := (RT cI ra rs fB mM mP fW fD k c)) hP hD [11, 12, 13] [0, 1, 2, 3, 4, 5, 6, 7, 8, 9, 10] rfl rfl (by decide) (by decide) hk1 hFc hP1 hD1
  clear hz1 hk1 ht hFc
  generalize H1 = H at hP hS ⊢
  have hP : va_P D vwCl ([((a 0), .inr (1, [.ref (a 1), .ref (a 2), .ref (a 3), .ref (a 4), .ref (a 5), .ref (a 8), .int (nI k), .int (nI st), .int fi])), ((a 1), .inl (cI, 8, .inl fB)), ((a 2), .inl (cI, 8, .inl fS)), ((a 3), .inl (cJ, 8, .inr (.inl fL))), ((a 4), .inl (cI, 8, .inl fO)), ((a 5), .inr (0, [.ref (a 6), .ref (a 7), .int (nI c), .int t, .int (nI y)])), ((a 6), .inl (cI, 6, .inl fW)), ((a 7), .inl (cI, 6, .inl fD)), ((a 8), .inr (0, [.ref (a 9), .ref (a 10), .int c2, .int t2, .int y2])), ((a 9), .inl (cI, 6, .inl gW)), ((a 10), .inl (cI, 6, .inl gD)), (sm, .inr (2, [.int (nI y), .int fi, .int (nI st), .int t, .ref ma, .ref sa])), (ma, .inl (cR, k, .inr (.inr (.inr (.inr (fr ra)))))), (sa, .inl (cR, c, .inr (.inr (.inr (.inr (fr rs)))))), (r_73, .inl (cI, k, .inl o_73))] ++ (RT cI ra rs fB mM mP fW fD k c)) H := hP
  have hD : va_D A ([((a 0), .inr (1, [.ref (a 1), .ref (a 2), .ref (a 3), .ref (a 4), .ref (a 5), .ref (a 8), .int (nI k), .int (nI st), .int fi])), ((a 1), .inl (cI, 8, .inl fB)), ((a 2), .inl (cI, 8, .inl fS)), ((a 3), .inl (cJ, 8, .inr (.inl fL))), ((a 4), .inl (cI, 8, .inl fO)), ((a 5), .inr (0, [.ref (a 6), .ref (a 7), .int (nI c), .int t, .int (nI y)])), ((a 6), .inl (cI, 6, .inl fW)), ((a 7), .inl (cI, 6, .inl fD)), ((a 8), .inr (0, [.ref (a 9), .ref (a 10), .int c2, .int t2, .int y2])), ((a 9), .inl (cI, 6, .inl gW)), ((a 10), .inl (cI, 6, .inl gD)), (sm, .inr (2, [.int (nI y), .int fi, .int (nI st), .int t, .ref ma, .ref sa])), (ma, .inl (cR, k, .inr (.inr (.inr (.inr (fr ra)))))), (sa, .inl (cR, c, .inr (.inr (.inr (.inr (fr rs)))))), (r_73, .inl (cI, k, .inl o_73))] ++ (RT cI ra rs fB mM mP fW fD k c)) := hD
  refine lv_astore_n (lv' := [(3, .ref r_73), (2, .int (nI k)), (0, .ref sm), (1, .ref (a 0))]) hx hb dX2_isSame_76 rfl hl (by decide) rfl (fun ls hl => ?_)
  refine lv_iconst (v := 0) hx hb dX2_isSame_77 (by decide) ?_
  refine lv_istore (lv' := [(4, .int 0), (3, .ref r_73), (2, .int (nI k)), (0, .ref sm), (1, .ref (a 0))]) hx hb dX2_isSame_78 hl (by decide) rfl (fun ls hl => ?_)
  refine lv_iconst (v := 0) hx hb dX2_isSame_80 (by decide) ?_
  refine lv_istore (lv' := [(5, .int 0), (4, .int 0), (3, .ref r_73), (2, .int (nI k)), (0, .ref sm), (1, .ref (a 0))]) hx hb dX2_isSame_81 hl (by decide) rfl (fun ls hl => ?_)
  refine loopA (cells := 140) (slots := 300) 2 4 (σ := Unit) (I := fun i x H locs ls => lv_has ls 10 [(0, .ref sm), (1, .ref (a 0)), (2, .int (nI k)), (3, .ref r_73), (4, .int (nI (shP fL i))), (5, .int (nI i))] ∧ va_P D vwCl ([((a 0), .inr (1, [.ref (a 1), .ref (a 2), .ref (a 3), .ref (a 4), .ref (a 5), .ref (a 8), .int (nI k), .int (nI st), .int fi])), ((a 1), .inl (cI, 8, .inl fB)), ((a 2), .inl (cI, 8, .inl fS)), ((a 3), .inl (cJ, 8, .inr (.inl fL))), ((a 4), .inl (cI, 8, .inl fO)), ((a 5), .inr (0, [.ref (a 6), .ref (a 7), .int (nI c), .int t, .int (nI y)])), ((a 6), .inl (cI, 6, .inl fW)), ((a 7), .inl (cI, 6, .inl fD)), ((a 8), .inr (0, [.ref (a 9), .ref (a 10), .int c2, .int t2, .int y2])), ((a 9), .inl (cI, 6, .inl gW)), ((a 10), .inl (cI, 6, .inl gD)), (sm, .inr (2, [.int (nI y), .int fi, .int (nI st), .int t, .ref ma, .ref sa])), (ma, .inl (cR, k, .inr (.inr (.inr (.inr (fr ra)))))), (sa, .inl (cR, c, .inr (.inr (.inr (.inr (fr rs)))))), (r_73, .inl (cI, k, .inl o_73))] ++ (RT cI ra rs fB mM mP fW fD k c)) H ∧ va_D A ([((a 0), .inr (1, [.ref (a 1), .ref (a 2), .ref (a 3), .ref (a 4), .ref (a 5), .ref (a 8), .int (nI k), .int (nI st), .int fi])), ((a 1), .inl (cI, 8, .inl fB)), ((a 2), .inl (cI, 8, .inl fS)), ((a 3), .inl (cJ, 8, .inr (.inl fL))), ((a 4), .inl (cI, 8, .inl fO)), ((a 5), .inr (0, [.ref (a 6), .ref (a 7), .int (nI c), .int t, .int (nI y)])), ((a 6), .inl (cI, 6, .inl fW)), ((a 7), .inl (cI, 6, .inl fD)), ((a 8), .inr (0, [.ref (a 9), .ref (a 10), .int c2, .int t2, .int y2])), ((a 9), .inl (cI, 6, .inl gW)), ((a 10), .inl (cI, 6, .inl gD)), (sm, .inr (2, [.int (nI y), .int fi, .int (nI st), .int t, .ref ma, .ref sa])), (ma, .inl (cR, k, .inr (.inr (.inr (.inr (fr ra)))))), (sa, .inl (cR, c, .inr (.inr (.inr (.inr (fr rs)))))), (r_73, .inl (cI, k, .inl o_73))] ++ (RT cI ra rs fB mM mP fW fD k c)) ∧ va_S A s.heap H locs) k ?_ () _ _ ls ⟨lv_sub hl [4, 5, 3, 2, 1, 0] rfl, hP, hD, hS⟩
  intro i x H locs ls hi hI kk
  obtain ⟨hl, hP, hD, hS⟩ := hI
  refine lv_iload hx hb dX2_isSame_83 (lv_at hl 5 rfl) ?_
  refine lv_iload_n hx hb dX2_isSame_85 rfl (lv_at hl 2 rfl) ?_
  refine lv_icmp_ge (tgt := 210) hx hb dX2_isSame_86 (by decide) (fun c_86 => ?_) (fun c_86 => ?_)
  · skip
    simp only [Int32.le_iff_toInt_le] at c_86
    rw [nI_toInt (n := i) (by omega)] at c_86
    rw [nI_toInt (n := k) (by omega)] at c_86
    have e86 : i = k := by omega
    refine lv_iconst (v := (-1)) hx hb dX2_isSame_210 (by decide) ?_
    refine lv_istore (lv' := [(5, .int (-1)), (0, .ref sm), (1, .ref (a 0)), (2, .int (nI k)), (3, .ref r_73), (4, .int (nI (shP fL i)))]) hx hb dX2_isSame_211 hl (by decide) rfl (fun ls hl => ?_)
    refine lv_iconst (v := (-1)) hx hb dX2_isSame_213 (by decide) ?_
    refine lv_istore (lv' := [(6, .int (-1)), (5, .int (-1)), (0, .ref sm), (1, .ref (a 0)), (2, .int (nI k)), (3, .ref r_73), (4, .int (nI (shP fL i)))]) hx hb dX2_isSame_214 hl (by decide) rfl (fun ls hl => ?_)
    refine lv_iconst (v := 0) hx hb dX2_isSame_216 (by decide) ?_
    refine lv_istore (lv' := [(7, .int 0), (6, .int (-1)), (5, .int (-1)), (0, .ref sm), (1, .ref (a 0)), (2, .int (nI k)), (3, .ref r_73), (4, .int (nI (shP fL i)))]) hx hb dX2_isSame_217 hl (by decide) rfl (fun ls hl => ?_)
    refine lv_iconst (v := 0) hx hb dX2_isSame_219 (by decide) ?_
    refine lv_istore (lv' := [(8, .int 0), (7, .int 0), (6, .int (-1)), (5, .int (-1)), (0, .ref sm), (1, .ref (a 0)), (2, .int (nI k)), (3, .ref r_73), (4, .int (nI (shP fL i)))]) hx hb dX2_isSame_220 hl (by decide) rfl (fun ls hl => ?_)
    refine loopR (σ := Unit) (I := fun j u9 ls => lv_has ls 10 [(0, .ref sm), (1, .ref (a 0)), (3, .ref r_73), (4, .int (nI (shP fL i))), (5, .int (bhN fD j)), (6, .int (bgN fD j)), (7, .int (smD fD j)), (8, .int (nI j))]) c ?_ 0 () ls (by omega) (lv_sub hl [4, 5, 7, 8, 3, 2, 1, 0] rfl)
    intro j u9 ls hj hI9 k9
    have hl := hI9
    refine lv_iload hx hb dX2_isSame_222 (lv_at hl 7 rfl) ?_
    refine lv_aload_n hx hb dX2_isSame_224 rfl (lv_at hl 0 rfl) ?_
    refine va_get (D := D) (ci := 2) (v := .ref sa) (C := RX2) (T := TX2) (N := 6) hx hb hts hiX2 hown hK hP 11 rfl rfl 5 (by decide) hw19 (fun _ h9 => h9) rfl dX2_isSame_225 ?_
    refine va_alen (v := (nI c)) hx hb hK hP 13 2 rfl rfl rfl dX2_isSame_228 ?_
    refine lv_icmp_ge (tgt := 355) hx hb dX2_isSame_229 (by decide) (fun c_229 => ?_) (fun c_229 => ?_)
    · skip
      simp only [Int32.le_iff_toInt_le] at c_229
      rw [nI_toInt (n := j) (by omega)] at c_229
      rw [nI_toInt (n := c) (by omega)] at c_229
      have e8 : c = j := by omega
      subst e8
      refine lv_aload_n hx hb dX2_isSame_355 rfl (lv_at hl 1 rfl) ?_
      refine ro_iE (va_runV (As := []) (rest := []) ⟨hx, hb, hml, hown, hts⟩ (c_X1_longest l D cI cJ cR a k st fi fB fS fO fL c t y fW fD c2 t2 y2 gW gD) (cwV 0 hts gX2_isSame_X1_longest rfl rfl rfl (by decide +kernel) ⟨Nat.le_of_ble_eq_true rfl, Nat.le_of_ble_eq_true rfl⟩) (preV_ro KC_ok (hP.sub (ws' := [((a 0), .inr (1, [.ref (a 1), .ref (a 2), .ref (a 3), .ref (a 4), .ref (a 5), .ref (a 8), .int (nI k), .int (nI st), .int fi])), ((a 1), .inl (cI, 8, .inl fB)), ((a 2), .inl (cI, 8, .inl fS)), ((a 3), .inl (cJ, 8, .inr (.inl fL))), ((a 4), .inl (cI, 8, .inl fO)), ((a 5), .inr (0, [.ref (a 6), .ref (a 7), .int (nI c), .int t, .int (nI y)])), ((a 6), .inl (cI, 6, .inl fW)), ((a 7), .inl (cI, 6, .inl fD)), ((a 8), .inr (0, [.ref (a 9), .ref (a 10), .int c2, .int t2, .int y2])), ((a 9), .inl (cI, 6, .inl gW)), ((a 10), .inl (cI, 6, .inl gD))]) [0, 1, 2, 3, 4, 5, 6, 7, 8, 9, 10] rfl) hC (va_recv hK hP (ci := 1) (q0 := 0) rfl rfl)) rfl rfl hl.1 rfl (lv_room (Nat.le_of_ble_eq_true rfl)) dX2_isSame_356 ⟨show _ ≤ 160 by omega, show _ ≤ 340 by omega⟩) ?_
      refine topI (y := (nI (lgN fL (k - 1)))) hLI.first ?_
      refine lv_aload_n hx hb dX2_isSame_359 rfl (lv_at hl 2 rfl) ?_
      refine lv_iconst (v := 0) hx hb dX2_isSame_360 (by decide) ?_
      refine xa_iald (j := 0) hx hb hK hP 14 0 rfl rfl (by omega) (by omega) dX2_isSame_361 ?_
      refine topI (y := (o_73 0)) rfl ?_
      refine topI (y := (nI (lgN fL (k - 1)))) ho9 ?_
      refine lv_icmp_ne (tgt := 426) hx hb dX2_isSame_362 (by decide) (fun c_362 => by exact absurd rfl c_362) (fun c_362 => ?_)
      refine lv_aload_n hx hb dX2_isSame_365 rfl (lv_at hl 1 rfl) ?_
      refine ro_iE (va_runV (As := []) (rest := []) ⟨hx, hb, hml, hown, hts⟩ (c_X1_shortest l D cI cJ cR a k st fi fB fS fO fL c t y fW fD c2 t2 y2 gW gD hM) (cwV 0 hts gX2_isSame_X1_shortest rfl rfl rfl (by decide +kernel) ⟨Nat.le_of_ble_eq_true rfl, Nat.le_of_ble_eq_true rfl⟩) (preV_ro KC_ok (hP.sub (ws' := [((a 0), .inr (1, [.ref (a 1), .ref (a 2), .ref (a 3), .ref (a 4), .ref (a 5), .ref (a 8), .int (nI k), .int (nI st), .int fi])), ((a 1), .inl (cI, 8, .inl fB)), ((a 2), .inl (cI, 8, .inl fS)), ((a 3), .inl (cJ, 8, .inr (.inl fL))), ((a 4), .inl (cI, 8, .inl fO)), ((a 5), .inr (0, [.ref (a 6), .ref (a 7), .int (nI c), .int t, .int (nI y)])), ((a 6), .inl (cI, 6, .inl fW)), ((a 7), .inl (cI, 6, .inl fD)), ((a 8), .inr (0, [.ref (a 9), .ref (a 10), .int c2, .int t2, .int y2])), ((a 9), .inl (cI, 6, .inl gW)), ((a 10), .inl (cI, 6, .inl gD))]) [0, 1, 2, 3, 4, 5, 6, 7, 8, 9, 10] rfl) hC (va_recv hK hP (ci := 1) (q0 := 0) rfl rfl)) rfl rfl hl.1 rfl (lv_room (Nat.le_of_ble_eq_true rfl)) dX2_isSame_366 ⟨show _ ≤ 160 by omega, show _ ≤ 340 by omega⟩) ?_
      refine lv_iload hx hb dX2_isSame_369 (lv_at hl 3 rfl) ?_
      refine topI (y := (nI (shN fL (k - 1)))) (by rw [e86, shP_e hk1]) ?_
      refine lv_icmp_ne (tgt := 426) hx hb dX2_isSame_371 (by decide) (fun c_371 => by exact absurd rfl c_371) (fun c_371 => ?_)
      refine lv_aload_n hx hb dX2_isSame_374 rfl (lv_at hl 1 rfl) ?_
      refine ro_iE (va_runV (As := []) (rest := []) ⟨hx, hb, hml, hown, hts⟩ (c_X1_mostHonest l D cI cJ cR a k st fi fB fS fO fL c t y fW fD c2 t2 y2 gW gD hc hD3) (cwV 0 hts gX2_isSame_X1_mostHonest rfl rfl rfl (by decide +kernel) ⟨Nat.le_of_ble_eq_true rfl, Nat.le_of_ble_eq_true rfl⟩) (preV_ro KC_ok (hP.sub (ws' := [((a 0), .inr (1, [.ref (a 1), .ref (a 2), .ref (a 3), .ref (a 4), .ref (a 5), .ref (a 8), .int (nI k), .int (nI st), .int fi])), ((a 1), .inl (cI, 8, .inl fB)), ((a 2), .inl (cI, 8, .inl fS)), ((a 3), .inl (cJ, 8, .inr (.inl fL))), ((a 4), .inl (cI, 8, .inl fO)), ((a 5), .inr (0, [.ref (a 6), .ref (a 7), .int (nI c), .int t, .int (nI y)])), ((a 6), .inl (cI, 6, .inl fW)), ((a 7), .inl (cI, 6, .inl fD)), ((a 8), .inr (0, [.ref (a 9), .ref (a 10), .int c2, .int t2, .int y2])), ((a 9), .inl (cI, 6, .inl gW)), ((a 10), .inl (cI, 6, .inl gD))]) [0, 1, 2, 3, 4, 5, 6, 7, 8, 9, 10] rfl) hC (va_recv hK hP (ci := 1) (q0 := 0) rfl rfl)) rfl rfl hl.1 rfl (lv_room (Nat.le_of_ble_eq_true rfl)) dX2_isSame_375 ⟨show _ ≤ 160 by omega, show _ ≤ 340 by omega⟩) ?_
      refine lv_iload hx hb dX2_isSame_378 (lv_at hl 4 rfl) ?_
      refine lv_icmp_ne (tgt := 426) hx hb dX2_isSame_380 (by decide) (fun c_380 => by exact absurd rfl c_380) (fun c_380 => ?_)
      refine lv_aload_n hx hb dX2_isSame_383 rfl (lv_at hl 1 rfl) ?_
      refine ro_iE (va_runV (As := []) (rest := []) ⟨hx, hb, hml, hown, hts⟩ (c_X1_mostGenerous l D cI cJ cR a k st fi fB fS fO fL c t y fW fD c2 t2 y2 gW gD hc hD3) (cwV 0 hts gX2_isSame_X1_mostGenerous rfl rfl rfl (by decide +kernel) ⟨Nat.le_of_ble_eq_true rfl, Nat.le_of_ble_eq_true rfl⟩) (preV_ro KC_ok (hP.sub (ws' := [((a 0), .inr (1, [.ref (a 1), .ref (a 2), .ref (a 3), .ref (a 4), .ref (a 5), .ref (a 8), .int (nI k), .int (nI st), .int fi])), ((a 1), .inl (cI, 8, .inl fB)), ((a 2), .inl (cI, 8, .inl fS)), ((a 3), .inl (cJ, 8, .inr (.inl fL))), ((a 4), .inl (cI, 8, .inl fO)), ((a 5), .inr (0, [.ref (a 6), .ref (a 7), .int (nI c), .int t, .int (nI y)])), ((a 6), .inl (cI, 6, .inl fW)), ((a 7), .inl (cI, 6, .inl fD)), ((a 8), .inr (0, [.ref (a 9), .ref (a 10), .int c2, .int t2, .int y2])), ((a 9), .inl (cI, 6, .inl gW)), ((a 10), .inl (cI, 6, .inl gD))]) [0, 1, 2, 3, 4, 5, 6, 7, 8, 9, 10] rfl) hC (va_recv hK hP (ci := 1) (q0 := 0) rfl rfl)) rfl rfl hl.1 rfl (lv_room (Nat.le_of_ble_eq_true rfl)) dX2_isSame_384 ⟨show _ ≤ 160 by omega, show _ ≤ 340 by omega⟩) ?_
      refine lv_iload hx hb dX2_isSame_387 (lv_at hl 5 rfl) ?_
      refine lv_icmp_ne (tgt := 426) hx hb dX2_isSame_389 (by decide) (fun c_389 => by exact absurd rfl c_389) (fun c_389 => ?_)
      refine lv_aload_n hx hb dX2_isSame_392 rfl (lv_at hl 1 rfl) ?_
      refine ro_d (va_runV (As := []) (rest := []) ⟨hx, hb, hml, hown, hts⟩ (c_X1_meanDrift l D cI cJ cR a k st fi fB fS fO fL c t y fW fD c2 t2 y2 gW gD hc hD3) (cwV 0 hts gX2_isSame_X1_meanDrift rfl rfl rfl (by decide +kernel) ⟨Nat.le_of_ble_eq_true rfl, Nat.le_of_ble_eq_true rfl⟩) (preV_ro KC_ok (hP.sub (ws' := [((a 0), .inr (1, [.ref (a 1), .ref (a 2), .ref (a 3), .ref (a 4), .ref (a 5), .ref (a 8), .int (nI k), .int (nI st), .int fi])), ((a 1), .inl (cI, 8, .inl fB)), ((a 2), .inl (cI, 8, .inl fS)), ((a 3), .inl (cJ, 8, .inr (.inl fL))), ((a 4), .inl (cI, 8, .inl fO)), ((a 5), .inr (0, [.ref (a 6), .ref (a 7), .int (nI c), .int t, .int (nI y)])), ((a 6), .inl (cI, 6, .inl fW)), ((a 7), .inl (cI, 6, .inl fD)), ((a 8), .inr (0, [.ref (a 9), .ref (a 10), .int c2, .int t2, .int y2])), ((a 9), .inl (cI, 6, .inl gW)), ((a 10), .inl (cI, 6, .inl gD))]) [0, 1, 2, 3, 4, 5, 6, 7, 8, 9, 10] rfl) hC (va_recv hK hP (ci := 1) (q0 := 0) rfl rfl)) rfl rfl hl.1 rfl (lv_room (Nat.le_of_ble_eq_true rfl)) dX2_isSame_393 ⟨show _ ≤ 160 by omega, show _ ≤ 340 by omega⟩) (fun r9 hr9 => ?_)
      have hr9 := hr9.symm
      subst hr9
      refine lv_aload_n hx hb dX2_isSame_396 rfl (lv_at hl 0 rfl) ?_
      refine va_get (D := D) (ci := 2) (v := .ref sa) (C := RX2) (T := TX2) (N := 6) hx hb hts hiX2 hown hK hP 11 rfl rfl 5 (by decide) hw19 (fun _ h9 => h9) rfl dX2_isSame_397 ?_
      refine va_alen (v := (nI c)) hx hb hK hP 13 2 rfl rfl rfl dX2_isSame_400 ?_
      refine lv_if_ne (tgt := 408) hx hb dX2_isSame_401 (by decide) (fun c_401 => ?_) (fun c_401 => ?_)
      · skip
        simp only [ne_eq, ← Int32.toInt_inj, Decidable.not_not] at c_401
        rw [nI_toInt (n := c) (by omega)] at c_401
        rw [(by decide : (0 : Int32).toInt = 0)] at c_401
        have hc0 : ¬ c = 0 := by omega
        refine lv_iload hx hb dX2_isSame_408 (lv_at hl 6 rfl) ?_
        refine lv_i2d hx hb dX2_isSame_410 ?_
        refine lv_aload_n hx hb dX2_isSame_411 rfl (lv_at hl 0 rfl) ?_
        refine va_get (D := D) (ci := 2) (v := .ref sa) (C := RX2) (T := TX2) (N := 6) hx hb hts hiX2 hown hK hP 11 rfl rfl 5 (by decide) hw19 (fun _ h9 => h9) rfl dX2_isSame_412 ?_
        refine va_alen (v := (nI c)) hx hb hK hP 13 2 rfl rfl rfl dX2_isSame_415 ?_
        refine lv_i2d hx hb dX2_isSame_416 ?_
        refine lv_ddiv hx hb dX2_isSame_417 (vf_mean (smD_b hc hD3).1 (smD_b hc hD3).2 hc0 hc) ?_
        refine topD (y := mnD c fD) (ic_f hc0).symm ?_
        refine lv_dcmp hx hb dX2_isSame_418 ?_
        refine topI (y := 0) (mnD_cmp hc hD3) ?_
        refine lv_if_ne (tgt := 426) hx hb dX2_isSame_419 (by decide) (fun c_419 => by exact absurd c_419 (by decide)) (fun c_419 => ?_)
        refine lv_iconst (v := 1) hx hb dX2_isSame_422 (by decide) ?_
        refine lv_goto (tgt := 427) hx hb dX2_isSame_423 (by decide) ?_
        have hP := va_P.part (cx := [((a 0), .inr (1, [.ref (a 1), .ref (a 2), .ref (a 3), .ref (a 4), .ref (a 5), .ref (a 8), .int (nI k), .int (nI st), .int fi])), ((a 1), .inl (cI, 8, .inl fB)), ((a 2), .inl (cI, 8, .inl fS)), ((a 3), .inl (cJ, 8, .inr (.inl fL))), ((a 4), .inl (cI, 8, .inl fO)), ((a 5), .inr (0, [.ref (a 6), .ref (a 7), .int (nI c), .int t, .int (nI y)])), ((a 6), .inl (cI, 6, .inl fW)), ((a 7), .inl (cI, 6, .inl fD)), ((a 8), .inr (0, [.ref (a 9), .ref (a 10), .int c2, .int t2, .int y2])), ((a 9), .inl (cI, 6, .inl gW)), ((a 10), .inl (cI, 6, .inl gD)), (sm, .inr (2, [.int (nI y), .int fi, .int (nI st), .int t, .ref ma, .ref sa])), (ma, .inl (cR, k, .inr (.inr (.inr (.inr (fr ra)))))), (sa, .inl (cR, c, .inr (.inr (.inr (.inr (fr rs))))))]) (pl := (RT cI ra rs fB mM mP fW fD k c)) hP [0, 1, 2, 3, 4, 5, 6, 7, 8, 9, 10, 11, 12, 13] rfl
        have hD := va_D.part (cx := [((a 0), .inr (1, [.ref (a 1), .ref (a 2), .ref (a 3), .ref (a 4), .ref (a 5), .ref (a 8), .int (nI k), .int (nI st), .int fi])), ((a 1), .inl (cI, 8, .inl fB)), ((a 2), .inl (cI, 8, .inl fS)), ((a 3), .inl (cJ, 8, .inr (.inl fL))), ((a 4), .inl (cI, 8, .inl fO)), ((a 5), .inr (0, [.ref (a 6), .ref (a 7), .int (nI c), .int t, .int (nI y)])), ((a 6), .inl (cI, 6, .inl fW)), ((a 7), .inl (cI, 6, .inl fD)), ((a 8), .inr (0, [.ref (a 9), .ref (a 10), .int c2, .int t2, .int y2])), ((a 9), .inl (cI, 6, .inl gW)), ((a 10), .inl (cI, 6, .inl gD)), (sm, .inr (2, [.int (nI y), .int fi, .int (nI st), .int t, .ref ma, .ref sa])), (ma, .inl (cR, k, .inr (.inr (.inr (.inr (fr ra)))))), (sa, .inl (cR, c, .inr (.inr (.inr (.inr (fr rs))))))]) (pl := (RT cI ra rs fB mM mP fW fD k c)) hD [0, 1, 2, 3, 4, 5, 6, 7, 8, 9, 10, 11, 12, 13] (by decide) rfl
        refine W.widen (k := 160) (n := 340) (by omega) (by omega) ?_
        exact W.zret (v := 1) hx hb hr rfl (fun t9 ht hW => ⟨⟨1, ([((a 0), .inr (1, [.ref (a 1), .ref (a 2), .ref (a 3), .ref (a 4), .ref (a 5), .ref (a 8), .int (nI k), .int (nI st), .int fi])), ((a 1), .inl (cI, 8, .inl fB)), ((a 2), .inl (cI, 8, .inl fS)), ((a 3), .inl (cJ, 8, .inr (.inl fL))), ((a 4), .inl (cI, 8, .inl fO)), ((a 5), .inr (0, [.ref (a 6), .ref (a 7), .int (nI c), .int t, .int (nI y)])), ((a 6), .inl (cI, 6, .inl fW)), ((a 7), .inl (cI, 6, .inl fD)), ((a 8), .inr (0, [.ref (a 9), .ref (a 10), .int c2, .int t2, .int y2])), ((a 9), .inl (cI, 6, .inl gW)), ((a 10), .inl (cI, 6, .inl gD)), (sm, .inr (2, [.int (nI y), .int fi, .int (nI st), .int t, .ref ma, .ref sa])), (ma, .inl (cR, k, .inr (.inr (.inr (.inr (fr ra)))))), (sa, .inl (cR, c, .inr (.inr (.inr (.inr (fr rs))))))] ++ (RT cI ra rs fB mM mP fW fD k c)), rfl, ⟨rfl, rfl⟩, by rw [ht]; exact hP, hD⟩, hS.F ht⟩) hS.2.2 dX2_isSame_427
      · skip
        simp only [ne_eq, ← Int32.toInt_inj, Decidable.not_not] at c_401
        rw [nI_toInt (n := c) (by omega)] at c_401
        rw [(by decide : (0 : Int32).toInt = 0)] at c_401
        have hc0 : c = 0 := by omega
        refine lv_dconst0 hx hb dX2_isSame_404 ?_
        refine lv_goto (tgt := 418) hx hb dX2_isSame_405 (by decide) ?_
        refine topD (y := mnD c fD) (ic_t hc0).symm ?_
        refine lv_dcmp hx hb dX2_isSame_418 ?_
        refine topI (y := 0) (mnD_cmp hc hD3) ?_
        refine lv_if_ne (tgt := 426) hx hb dX2_isSame_419 (by decide) (fun c_419 => by exact absurd c_419 (by decide)) (fun c_419 => ?_)
        refine lv_iconst (v := 1) hx hb dX2_isSame_422 (by decide) ?_
        refine lv_goto (tgt := 427) hx hb dX2_isSame_423 (by decide) ?_
        have hP := va_P.part (cx := [((a 0), .inr (1, [.ref (a 1), .ref (a 2), .ref (a 3), .ref (a 4), .ref (a 5), .ref (a 8), .int (nI k), .int (nI st), .int fi])), ((a 1), .inl (cI, 8, .inl fB)), ((a 2), .inl (cI, 8, .inl fS)), ((a 3), .inl (cJ, 8, .inr (.inl fL))), ((a 4), .inl (cI, 8, .inl fO)), ((a 5), .inr (0, [.ref (a 6), .ref (a 7), .int (nI c), .int t, .int (nI y)])), ((a 6), .inl (cI, 6, .inl fW)), ((a 7), .inl (cI, 6, .inl fD)), ((a 8), .inr (0, [.ref (a 9), .ref (a 10), .int c2, .int t2, .int y2])), ((a 9), .inl (cI, 6, .inl gW)), ((a 10), .inl (cI, 6, .inl gD)), (sm, .inr (2, [.int (nI y), .int fi, .int (nI st), .int t, .ref ma, .ref sa])), (ma, .inl (cR, k, .inr (.inr (.inr (.inr (fr ra)))))), (sa, .inl (cR, c, .inr (.inr (.inr (.inr (fr rs))))))]) (pl := (RT cI ra rs fB mM mP fW fD k c)) hP [0, 1, 2, 3, 4, 5, 6, 7, 8, 9, 10, 11, 12, 13] rfl
        have hD := va_D.part (cx := [((a 0), .inr (1, [.ref (a 1), .ref (a 2), .ref (a 3), .ref (a 4), .ref (a 5), .ref (a 8), .int (nI k), .int (nI st), .int fi])), ((a 1), .inl (cI, 8, .inl fB)), ((a 2), .inl (cI, 8, .inl fS)), ((a 3), .inl (cJ, 8, .inr (.inl fL))), ((a 4), .inl (cI, 8, .inl fO)), ((a 5), .inr (0, [.ref (a 6), .ref (a 7), .int (nI c), .int t, .int (nI y)])), ((a 6), .inl (cI, 6, .inl fW)), ((a 7), .inl (cI, 6, .inl fD)), ((a 8), .inr (0, [.ref (a 9), .ref (a 10), .int c2, .int t2, .int y2])), ((a 9), .inl (cI, 6, .inl gW)), ((a 10), .inl (cI, 6, .inl gD)), (sm, .inr (2, [.int (nI y), .int fi, .int (nI st), .int t, .ref ma, .ref sa])), (ma, .inl (cR, k, .inr (.inr (.inr (.inr (fr ra)))))), (sa, .inl (cR, c, .inr (.inr (.inr (.inr (fr rs))))))]) (pl := (RT cI ra rs fB mM mP fW fD k c)) hD [0, 1, 2, 3, 4, 5, 6, 7, 8, 9, 10, 11, 12, 13] (by decide) rfl
        refine W.widen (k := 160) (n := 340) (by omega) (by omega) ?_
        exact W.zret (v := 1) hx hb hr rfl (fun t9 ht hW => ⟨⟨1, ([((a 0), .inr (1, [.ref (a 1), .ref (a 2), .ref (a 3), .ref (a 4), .ref (a 5), .ref (a 8), .int (nI k), .int (nI st), .int fi])), ((a 1), .inl (cI, 8, .inl fB)), ((a 2), .inl (cI, 8, .inl fS)), ((a 3), .inl (cJ, 8, .inr (.inl fL))), ((a 4), .inl (cI, 8, .inl fO)), ((a 5), .inr (0, [.ref (a 6), .ref (a 7), .int (nI c), .int t, .int (nI y)])), ((a 6), .inl (cI, 6, .inl fW)), ((a 7), .inl (cI, 6, .inl fD)), ((a 8), .inr (0, [.ref (a 9), .ref (a 10), .int c2, .int t2, .int y2])), ((a 9), .inl (cI, 6, .inl gW)), ((a 10), .inl (cI, 6, .inl gD)), (sm, .inr (2, [.int (nI y), .int fi, .int (nI st), .int t, .ref ma, .ref sa])), (ma, .inl (cR, k, .inr (.inr (.inr (.inr (fr ra)))))), (sa, .inl (cR, c, .inr (.inr (.inr (.inr (fr rs))))))] ++ (RT cI ra rs fB mM mP fW fD k c)), rfl, ⟨rfl, rfl⟩, by rw [ht]; exact hP, hD⟩, hS.F ht⟩) hS.2.2 dX2_isSame_427
    · skip
      simp only [Int32.le_iff_toInt_le] at c_229
      rw [nI_toInt (n := j) (by omega)] at c_229
      rw [nI_toInt (n := c) (by omega)] at c_229
      refine lv_aload_n hx hb dX2_isSame_232 rfl (lv_at hl 0 rfl) ?_
      refine va_get (D := D) (ci := 2) (v := .ref sa) (C := RX2) (T := TX2) (N := 6) hx hb hts hiX2 hown hK hP 11 rfl rfl 5 (by decide) hw19 (fun _ h9 => h9) rfl dX2_isSame_233 ?_
      refine lv_iload hx hb dX2_isSame_236 (lv_at hl 7 rfl) ?_
      refine xr_ald (b := (rs j)) hx hb hK hP 13 2 rfl rfl (j := j) (by omega) (by omega) rfl dX2_isSame_238 ?_
      refine lv_astore (lv' := [(9, .ref (rs j)), (0, .ref sm), (1, .ref (a 0)), (3, .ref r_73), (4, .int (nI (shP fL i))), (5, .int (bhN fD j)), (6, .int (bgN fD j)), (7, .int (smD fD j)), (8, .int (nI j))]) hx hb dX2_isSame_239 hl (by decide) rfl (fun ls hl => ?_)
      refine lv_iload hx hb dX2_isSame_241 (lv_at hl 7 rfl) ?_
      refine lv_aload hx hb dX2_isSame_243 (lv_at hl 0 rfl) ?_
      refine lv_iconst (v := 1) hx hb dX2_isSame_245 (by decide) ?_
      refine xa_iald (j := 1) hx hb hK hP (15 + (k + j)) 0 (tl_at rfl (RT_s (by omega))) rfl (by decide) (by decide) dX2_isSame_246 ?_
      refine topI (y := (fD j)) rfl ?_
      refine lv_iadd hx hb dX2_isSame_247 ?_
      refine lv_istore (lv' := [(7, .int ((smD fD j) + (fD j))), (9, .ref (rs j)), (0, .ref sm), (1, .ref (a 0)), (3, .ref r_73), (4, .int (nI (shP fL i))), (5, .int (bhN fD j)), (6, .int (bgN fD j)), (8, .int (nI j))]) hx hb dX2_isSame_248 hl (by decide) rfl (fun ls hl => ?_)
      refine jnW (pc1 := 281) (st1 := []) (fun ls => lv_has ls 10 [(0, .ref sm), (1, .ref (a 0)), (3, .ref r_73), (4, .int (nI (shP fL i))), (5, .int (bhN fD (j + 1))), (6, .int (bgN fD j)), (7, .int ((smD fD j) + (fD j))), (8, .int (nI j)), (9, .ref (rs j))]) ?_ ?_
      · skip
        intro ls hl
        refine jnW (pc1 := 306) (st1 := []) (fun ls => lv_has ls 10 [(0, .ref sm), (1, .ref (a 0)), (3, .ref r_73), (4, .int (nI (shP fL i))), (5, .int (bhN fD (j + 1))), (6, .int (bgN fD (j + 1))), (7, .int ((smD fD j) + (fD j))), (8, .int (nI j)), (9, .ref (rs j))]) ?_ ?_
        · skip
          intro ls hl
          refine lv_aload_n hx hb dX2_isSame_306 rfl (lv_at hl 1 rfl) ?_
          refine lv_iload hx hb dX2_isSame_307 (lv_at hl 7 rfl) ?_
          refine ro_iE (va_runV (As := [.int (nI j)]) (rest := []) ⟨hx, hb, hml, hown, hts⟩ (k_X1_driftOf l D cI cJ cR a k st fi fB fS fO fL c t y fW fD c2 t2 y2 gW gD hc j (by omega)) (cwV 1 hts gX2_isSame_X1_driftOf rfl rfl rfl (by decide +kernel) ⟨Nat.le_of_ble_eq_true rfl, Nat.le_of_ble_eq_true rfl⟩) (preV_ro KC_ok (hP.sub (ws' := [((a 0), .inr (1, [.ref (a 1), .ref (a 2), .ref (a 3), .ref (a 4), .ref (a 5), .ref (a 8), .int (nI k), .int (nI st), .int fi])), ((a 1), .inl (cI, 8, .inl fB)), ((a 2), .inl (cI, 8, .inl fS)), ((a 3), .inl (cJ, 8, .inr (.inl fL))), ((a 4), .inl (cI, 8, .inl fO)), ((a 5), .inr (0, [.ref (a 6), .ref (a 7), .int (nI c), .int t, .int (nI y)])), ((a 6), .inl (cI, 6, .inl fW)), ((a 7), .inl (cI, 6, .inl fD)), ((a 8), .inr (0, [.ref (a 9), .ref (a 10), .int c2, .int t2, .int y2])), ((a 9), .inl (cI, 6, .inl gW)), ((a 10), .inl (cI, 6, .inl gD))]) [0, 1, 2, 3, 4, 5, 6, 7, 8, 9, 10] rfl) hC (va_recv hK hP (ci := 1) (q0 := 0) rfl rfl)) rfl rfl hl.1 rfl (lv_room (Nat.le_of_ble_eq_true rfl)) dX2_isSame_309 ⟨show _ ≤ 160 by omega, show _ ≤ 340 by omega⟩) ?_
          refine lv_aload hx hb dX2_isSame_312 (lv_at hl 8 rfl) ?_
          refine lv_iconst (v := 1) hx hb dX2_isSame_314 (by decide) ?_
          refine xa_iald (j := 1) hx hb hK hP (15 + (k + j)) 0 (tl_at rfl (RT_s (by omega))) rfl (by decide) (by decide) dX2_isSame_315 ?_
          refine topI (y := (fD j)) rfl ?_
          refine lv_icmp_ne (tgt := 347) hx hb dX2_isSame_316 (by decide) (fun c_316 => by exact absurd rfl c_316) (fun c_316 => ?_)
          refine lv_aload_n hx hb dX2_isSame_319 rfl (lv_at hl 1 rfl) ?_
          refine lv_iload hx hb dX2_isSame_320 (lv_at hl 7 rfl) ?_
          refine ro_iE (va_runV (As := [.int (nI j)]) (rest := []) ⟨hx, hb, hml, hown, hts⟩ (k_X1_wearOf l D cI cJ cR a k st fi fB fS fO fL c t y fW fD c2 t2 y2 gW gD hc j (by omega)) (cwV 1 hts gX2_isSame_X1_wearOf rfl rfl rfl (by decide +kernel) ⟨Nat.le_of_ble_eq_true rfl, Nat.le_of_ble_eq_true rfl⟩) (preV_ro KC_ok (hP.sub (ws' := [((a 0), .inr (1, [.ref (a 1), .ref (a 2), .ref (a 3), .ref (a 4), .ref (a 5), .ref (a 8), .int (nI k), .int (nI st), .int fi])), ((a 1), .inl (cI, 8, .inl fB)), ((a 2), .inl (cI, 8, .inl fS)), ((a 3), .inl (cJ, 8, .inr (.inl fL))), ((a 4), .inl (cI, 8, .inl fO)), ((a 5), .inr (0, [.ref (a 6), .ref (a 7), .int (nI c), .int t, .int (nI y)])), ((a 6), .inl (cI, 6, .inl fW)), ((a 7), .inl (cI, 6, .inl fD)), ((a 8), .inr (0, [.ref (a 9), .ref (a 10), .int c2, .int t2, .int y2])), ((a 9), .inl (cI, 6, .inl gW)), ((a 10), .inl (cI, 6, .inl gD))]) [0, 1, 2, 3, 4, 5, 6, 7, 8, 9, 10] rfl) hC (va_recv hK hP (ci := 1) (q0 := 0) rfl rfl)) rfl rfl hl.1 rfl (lv_room (Nat.le_of_ble_eq_true rfl)) dX2_isSame_322 ⟨show _ ≤ 160 by omega, show _ ≤ 340 by omega⟩) ?_
          refine lv_aload hx hb dX2_isSame_325 (lv_at hl 8 rfl) ?_
          refine lv_iconst (v := 0) hx hb dX2_isSame_327 (by decide) ?_
          refine xa_iald (j := 0) hx hb hK hP (15 + (k + j)) 0 (tl_at rfl (RT_s (by omega))) rfl (by decide) (by decide) dX2_isSame_328 ?_
          refine topI (y := (fW j)) rfl ?_
          refine lv_icmp_ne (tgt := 347) hx hb dX2_isSame_329 (by decide) (fun c_329 => by exact absurd rfl c_329) (fun c_329 => ?_)
          refine lv_aload_n hx hb dX2_isSame_332 rfl (lv_at hl 1 rfl) ?_
          refine lv_iload hx hb dX2_isSame_333 (lv_at hl 7 rfl) ?_
          refine ro_iE (va_runV (As := [.int (nI j)]) (rest := []) ⟨hx, hb, hml, hown, hts⟩ (k_X1_isHonest l D cI cJ cR a k st fi fB fS fO fL c t y fW fD c2 t2 y2 gW gD hc j (by omega)) (cwV 1 hts gX2_isSame_X1_isHonest rfl rfl rfl (by decide +kernel) ⟨Nat.le_of_ble_eq_true rfl, Nat.le_of_ble_eq_true rfl⟩) (preV_ro KC_ok (hP.sub (ws' := [((a 0), .inr (1, [.ref (a 1), .ref (a 2), .ref (a 3), .ref (a 4), .ref (a 5), .ref (a 8), .int (nI k), .int (nI st), .int fi])), ((a 1), .inl (cI, 8, .inl fB)), ((a 2), .inl (cI, 8, .inl fS)), ((a 3), .inl (cJ, 8, .inr (.inl fL))), ((a 4), .inl (cI, 8, .inl fO)), ((a 5), .inr (0, [.ref (a 6), .ref (a 7), .int (nI c), .int t, .int (nI y)])), ((a 6), .inl (cI, 6, .inl fW)), ((a 7), .inl (cI, 6, .inl fD)), ((a 8), .inr (0, [.ref (a 9), .ref (a 10), .int c2, .int t2, .int y2])), ((a 9), .inl (cI, 6, .inl gW)), ((a 10), .inl (cI, 6, .inl gD))]) [0, 1, 2, 3, 4, 5, 6, 7, 8, 9, 10] rfl) hC (va_recv hK hP (ci := 1) (q0 := 0) rfl rfl)) rfl rfl hl.1 rfl (lv_room (Nat.le_of_ble_eq_true rfl)) dX2_isSame_335 ⟨show _ ≤ 160 by omega, show _ ≤ 340 by omega⟩) ?_
          refine lv_aload_n hx hb dX2_isSame_338 rfl (lv_at hl 0 rfl) ?_
          refine lv_aload hx hb dX2_isSame_339 (lv_at hl 8 rfl) ?_
          refine ro_iE (va_runV (As := [.ref (rs j)]) (rest := [.int (bz ((absI (fD j)).toInt ≤ t.toInt))]) ⟨hx, hb, hml, hown, hts⟩ (c_X2_isHonest l D cI cJ cR sm ma sa ra rs k st fi fB mM mP c t y fW fD j (by omega) (hD3 j (by omega)) ht9) (cwV 1 hts gX2_isSame_X2_isHonest rfl rfl rfl (by decide +kernel) ⟨Nat.le_of_ble_eq_true rfl, Nat.le_of_ble_eq_true rfl⟩) (preV_ro KM_ok (va_P.part (cx := [(sm, .inr (2, [.int (nI y), .int fi, .int (nI st), .int t, .ref ma, .ref sa])), (ma, .inl (cR, k, .inr (.inr (.inr (.inr (fr ra)))))), (sa, .inl (cR, c, .inr (.inr (.inr (.inr (fr rs))))))]) (pl := (RT cI ra rs fB mM mP fW fD k c)) hP [11, 12, 13] rfl) hK (va_recv hK hP (ci := 2) (q0 := 11) rfl rfl)) rfl rfl hl.1 rfl (lv_room (Nat.le_of_ble_eq_true rfl)) dX2_isSame_341 ⟨show _ ≤ 160 by omega, show _ ≤ 340 by omega⟩) ?_
          refine lv_icmp_eq (tgt := 349) hx hb dX2_isSame_344 (by decide) (fun c_344 => ?_) (fun c_344 => by exact absurd rfl c_344)
          refine lv_iinc (v := (nI (j + 1))) (lv' := [(8, .int (nI (j + 1))), (0, .ref sm), (1, .ref (a 0)), (3, .ref r_73), (4, .int (nI (shP fL i))), (5, .int (bhN fD (j + 1))), (6, .int (bgN fD (j + 1))), (7, .int ((smD fD j) + (fD j))), (9, .ref (rs j))]) hx hb dX2_isSame_349 hl (k := 7) rfl (nI_inc j) (by decide) rfl (fun ls hl => ?_)
          refine lv_goto (tgt := 222) hx hb dX2_isSame_352 (by decide) ?_
          exact k9 () ls (by omega) (lv_sub hl [1, 2, 3, 4, 5, 6, 7, 0] rfl)
        · skip
          intro k306
          refine lv_iload hx hb dX2_isSame_281 (lv_at hl 5 rfl) ?_
          refine lv_if_lt (tgt := 302) hx hb dX2_isSame_283 (by decide) (fun c_283 => ?_) (fun c_283 => ?_)
          · skip
            simp only [Int32.lt_iff_toInt_lt] at c_283
            rw [(by decide : (0 : Int32).toInt = 0)] at c_283
            have e7 : bgN fD (j + 1) = nI j := ic_t (Or.inl (bg_neg (by omega) c_283))
            refine lv_iload hx hb dX2_isSame_302 (lv_at hl 7 rfl) ?_
            refine lv_istore (lv' := [(6, .int (nI j)), (0, .ref sm), (1, .ref (a 0)), (3, .ref r_73), (4, .int (nI (shP fL i))), (5, .int (bhN fD (j + 1))), (7, .int ((smD fD j) + (fD j))), (8, .int (nI j)), (9, .ref (rs j))]) hx hb dX2_isSame_304 hl (by decide) rfl (fun ls hl => ?_)
            exact k306 ls (by rw [e7]; exact lv_sub hl [1, 2, 3, 4, 5, 0, 6, 7, 8] rfl)
          · skip
            simp only [Int32.lt_iff_toInt_lt] at c_283
            rw [(by decide : (0 : Int32).toInt = 0)] at c_283
            have hnb := bg_pos c_283
            obtain ⟨jh, hjh, ejh⟩ := bgN_of hnb
            refine lv_aload hx hb dX2_isSame_286 (lv_at hl 8 rfl) ?_
            refine lv_iconst (v := 1) hx hb dX2_isSame_288 (by decide) ?_
            refine xa_iald (j := 1) hx hb hK hP (15 + (k + j)) 0 (tl_at rfl (RT_s (by omega))) rfl (by decide) (by decide) dX2_isSame_289 ?_
            refine topI (y := (fD j)) rfl ?_
            refine lv_aload_n hx hb dX2_isSame_290 rfl (lv_at hl 0 rfl) ?_
            refine va_get (D := D) (ci := 2) (v := .ref sa) (C := RX2) (T := TX2) (N := 6) hx hb hts hiX2 hown hK hP 11 rfl rfl 5 (by decide) hw19 (fun _ h9 => h9) rfl dX2_isSame_291 ?_
            refine lv_iload hx hb dX2_isSame_294 (lv_at hl 5 rfl) ?_
            refine topI (y := (nI jh)) ejh ?_
            refine xr_ald (b := (rs jh)) hx hb hK hP 13 2 rfl rfl (j := jh) (by omega) (by omega) rfl dX2_isSame_296 ?_
            refine lv_iconst (v := 1) hx hb dX2_isSame_297 (by decide) ?_
            refine xa_iald (j := 1) hx hb hK hP (15 + (k + jh)) 0 (tl_at rfl (RT_s (by omega))) rfl (by decide) (by decide) dX2_isSame_298 ?_
            refine topI (y := (fD jh)) rfl ?_
            refine lv_icmp_le (tgt := 306) hx hb dX2_isSame_299 (by decide) (fun c_299 => ?_) (fun c_299 => ?_)
            · skip
              simp only [Int32.le_iff_toInt_le] at c_299
              have e7 : bgN fD (j + 1) = bgN fD j := ic_f (fun z => z.elim hnb (fun z => by rw [ejh, nI_clamp (by omega)] at z; omega))
              exact k306 ls (by rw [e7]; exact lv_sub hl [0, 1, 2, 3, 4, 5, 6, 7, 8] rfl)
            · skip
              simp only [Int32.le_iff_toInt_le] at c_299
              have e7 : bgN fD (j + 1) = nI j := ic_t (Or.inr (by rw [ejh, nI_clamp (by omega)]; omega))
              refine lv_iload hx hb dX2_isSame_302 (lv_at hl 7 rfl) ?_
              refine lv_istore (lv' := [(6, .int (nI j)), (0, .ref sm), (1, .ref (a 0)), (3, .ref r_73), (4, .int (nI (shP fL i))), (5, .int (bhN fD (j + 1))), (7, .int ((smD fD j) + (fD j))), (8, .int (nI j)), (9, .ref (rs j))]) hx hb dX2_isSame_304 hl (by decide) rfl (fun ls hl => ?_)
              exact k306 ls (by rw [e7]; exact lv_sub hl [1, 2, 3, 4, 5, 0, 6, 7, 8] rfl)
      · skip
        intro k281
        refine lv_iload hx hb dX2_isSame_250 (lv_at hl 6 rfl) ?_
        refine lv_if_lt (tgt := 277) hx hb dX2_isSame_252 (by decide) (fun c_252 => ?_) (fun c_252 => ?_)
        · skip
          simp only [Int32.lt_iff_toInt_lt] at c_252
          rw [(by decide : (0 : Int32).toInt = 0)] at c_252
          have e7 : bhN fD (j + 1) = nI j := ic_t (Or.inl (bh_neg (by omega) c_252))
          refine lv_iload hx hb dX2_isSame_277 (lv_at hl 8 rfl) ?_
          refine lv_istore (lv' := [(5, .int (nI j)), (7, .int ((smD fD j) + (fD j))), (9, .ref (rs j)), (0, .ref sm), (1, .ref (a 0)), (3, .ref r_73), (4, .int (nI (shP fL i))), (6, .int (bgN fD j)), (8, .int (nI j))]) hx hb dX2_isSame_279 hl (by decide) rfl (fun ls hl => ?_)
          exact k281 ls (by rw [e7]; exact lv_sub hl [3, 4, 5, 6, 0, 7, 1, 8, 2] rfl)
        · skip
          simp only [Int32.lt_iff_toInt_lt] at c_252
          rw [(by decide : (0 : Int32).toInt = 0)] at c_252
          have hnb := bh_pos c_252
          obtain ⟨jh, hjh, ejh⟩ := bhN_of hnb
          refine lv_aload hx hb dX2_isSame_255 (lv_at hl 1 rfl) ?_
          refine lv_iconst (v := 1) hx hb dX2_isSame_257 (by decide) ?_
          refine xa_iald (j := 1) hx hb hK hP (15 + (k + j)) 0 (tl_at rfl (RT_s (by omega))) rfl (by decide) (by decide) dX2_isSame_258 ?_
          refine topI (y := (fD j)) rfl ?_
          refine va_mabs hx hb (by rw [hml]; exact hl.1.symm) hown (hts (.methodLink RX2 48 Lib.Math.abs.name) (by decide +kernel)) (hts (.static Lib.Math.abs.name) (by decide +kernel)) (hts (.initialized "java/lang/Math") (by decide +kernel)) (hts (.code Lib.Math.abs.name Lib.Math.abs.code 1 (some .int)) (by decide +kernel)) (by first | decide | exact Nat.le_of_ble_eq_true rfl) (by first | decide | exact Nat.le_of_ble_eq_true rfl) (show _ ≤ 160 by omega) (show _ ≤ 340 by omega) dX2_isSame_259 ?_
          refine topI (y := (absI (fD j))) rfl ?_
          refine lv_aload_n hx hb dX2_isSame_262 rfl (lv_at hl 2 rfl) ?_
          refine va_get (D := D) (ci := 2) (v := .ref sa) (C := RX2) (T := TX2) (N := 6) hx hb hts hiX2 hown hK hP 11 rfl rfl 5 (by decide) hw19 (fun _ h9 => h9) rfl dX2_isSame_263 ?_
          refine lv_iload hx hb dX2_isSame_266 (lv_at hl 6 rfl) ?_
          refine topI (y := (nI jh)) ejh ?_
          refine xr_ald (b := (rs jh)) hx hb hK hP 13 2 rfl rfl (j := jh) (by omega) (by omega) rfl dX2_isSame_268 ?_
          refine lv_iconst (v := 1) hx hb dX2_isSame_269 (by decide) ?_
          refine xa_iald (j := 1) hx hb hK hP (15 + (k + jh)) 0 (tl_at rfl (RT_s (by omega))) rfl (by decide) (by decide) dX2_isSame_270 ?_
          refine topI (y := (fD jh)) rfl ?_
          refine va_mabs hx hb (by rw [hml]; exact hl.1.symm) hown (hts (.methodLink RX2 48 Lib.Math.abs.name) (by decide +kernel)) (hts (.static Lib.Math.abs.name) (by decide +kernel)) (hts (.initialized "java/lang/Math") (by decide +kernel)) (hts (.code Lib.Math.abs.name Lib.Math.abs.code 1 (some .int)) (by decide +kernel)) (by first | decide | exact Nat.le_of_ble_eq_true rfl) (by first | decide | exact Nat.le_of_ble_eq_true rfl) (show _ ≤ 160 by omega) (show _ ≤ 340 by omega) dX2_isSame_271 ?_
          refine topI (y := (absI (fD jh))) rfl ?_
          refine lv_icmp_ge (tgt := 281) hx hb dX2_isSame_274 (by decide) (fun c_274 => ?_) (fun c_274 => ?_)
          · skip
            simp only [Int32.le_iff_toInt_le] at c_274
            have e7 : bhN fD (j + 1) = bhN fD j := ic_f (fun z => z.elim hnb (fun z => by rw [ejh, nI_clamp (by omega)] at z; omega))
            exact k281 ls (by rw [e7]; exact lv_sub hl [2, 3, 4, 5, 6, 7, 0, 8, 1] rfl)
          · skip
            simp only [Int32.le_iff_toInt_le] at c_274
            have e7 : bhN fD (j + 1) = nI j := ic_t (Or.inr (by rw [ejh, nI_clamp (by omega)]; omega))
            refine lv_iload hx hb dX2_isSame_277 (lv_at hl 8 rfl) ?_
            refine lv_istore (lv' := [(5, .int (nI j)), (7, .int ((smD fD j) + (fD j))), (9, .ref (rs j)), (0, .ref sm), (1, .ref (a 0)), (3, .ref r_73), (4, .int (nI (shP fL i))), (6, .int (bgN fD j)), (8, .int (nI j))]) hx hb dX2_isSame_279 hl (by decide) rfl (fun ls hl => ?_)
            exact k281 ls (by rw [e7]; exact lv_sub hl [3, 4, 5, 6, 0, 7, 1, 8, 2] rfl)
  · skip
    simp only [Int32.le_iff_toInt_le] at c_86
    rw [nI_toInt (n := i) (by omega)] at c_86
    rw [nI_toInt (n := k) (by omega)] at c_86
    have hik : i < k := by omega
    have hsp : shP fL i < k := shP_lt hk1 (by omega)
    refine lv_aload_n hx hb dX2_isSame_89 rfl (lv_at hl 0 rfl) ?_
    refine lv_iload hx hb dX2_isSame_90 (lv_at hl 5 rfl) ?_
    refine lv_aload_n hx hb dX2_isSame_92 rfl (lv_at hl 0 rfl) ?_
    refine va_get (D := D) (ci := 2) (v := .int (nI st)) (C := RX2) (T := TX2) (N := 6) hx hb hts hiX2 hown hK hP 11 rfl rfl 2 (by decide) hw59 (fun _ h9 => h9) rfl dX2_isSame_93 ?_
    have hFc := va_freeP (cx := [(sm, .inr (2, [.int (nI y), .int fi, .int (nI st), .int t, .ref ma, .ref sa])), (ma, .inl (cR, k, .inr (.inr (.inr (.inr (fr ra)))))), (sa, .inl (cR, c, .inr (.inr (.inr (.inr (fr rs))))))]) (pl := (RT cI ra rs fB mM mP fW fD k c)) hD hS hA [11, 12, 13] rfl
    refine xr_call (va_runV (As := [.int (nI i), .int (nI st)]) (rest := []) ⟨hx, hb, hml, hown, hts⟩ (c_X2_ratio l D cI cJ cR H.size sm ma sa ra rs k st fi fB mM mP c t y fW fD fL La pp uu bb hL hk8 i st (by omega) (by omega)) (cwV 2 hts gX2_isSame_X2_ratio rfl rfl rfl (by decide +kernel) ⟨Nat.le_of_ble_eq_true rfl, Nat.le_of_ble_eq_true rfl⟩) (preV_wr KM_ok (va_P.part (cx := [(sm, .inr (2, [.int (nI y), .int fi, .int (nI st), .int t, .ref ma, .ref sa])), (ma, .inl (cR, k, .inr (.inr (.inr (.inr (fr ra)))))), (sa, .inl (cR, c, .inr (.inr (.inr (.inr (fr rs))))))]) (pl := (RT cI ra rs fB mM mP fW fD k c)) hP [11, 12, 13] rfl) (va_D.part (cx := [(sm, .inr (2, [.int (nI y), .int fi, .int (nI st), .int t, .ref ma, .ref sa])), (ma, .inl (cR, k, .inr (.inr (.inr (.inr (fr ra)))))), (sa, .inl (cR, c, .inr (.inr (.inr (.inr (fr rs))))))]) (pl := (RT cI ra rs fB mM mP fW fD k c)) hD [11, 12, 13] (by decide) rfl) hK (va_recv hK hP (ci := 2) (q0 := 11) rfl rfl)) rfl rfl hl.1 rfl (lv_room (Nat.le_of_ble_eq_true rfl)) dX2_isSame_96 ⟨show _ ≤ 160 by omega, show _ ≤ 340 by omega⟩) hS (fun q _ h => hFc q h) hFc (fun u r_96 t9 H1 locs ht hw9 hB hz1 hk1 hS => ?_)
    obtain rfl := hw9
    obtain ⟨hP1, hD1⟩ := hB
    rw [ht] at hP1
    obtain ⟨hP, hD⟩ := va_joinP (X := [((a 0), .inr (1, [.ref (a 1), .ref (a 2), .ref (a 3), .ref (a 4), .ref (a 5), .ref (a 8), .int (nI k), .int (nI st), .int fi])), ((a 1), .inl (cI, 8, .inl fB)), ((a 2), .inl (cI, 8, .inl fS)), ((a 3), .inl (cJ, 8, .inr (.inl fL))), ((a 4), .inl (cI, 8, .inl fO)), ((a 5), .inr (0, [.ref (a 6), .ref (a 7), .int (nI c), .int t, .int (nI y)])), ((a 6), .inl (cI, 6, .inl fW)), ((a 7), .inl (cI, 6, .inl fD)), ((a 8), .inr (0, [.ref (a 9), .ref (a 10), .int c2, .int t2, .int y2])), ((a 9), .inl (cI, 6, .inl gW)), ((a 10), .inl (cI, 6, .inl gD)), (sm, .inr (2, [.int (nI y), .int fi, .int (nI st), .int t, .ref ma, .ref sa])), (ma, .inl (cR, k, .inr (.inr (.inr (.inr (fr ra)))))), (sa, .inl (cR, c, .inr (.inr (.inr (.inr (fr rs)))))), (r_73, .inl (cI, k, .inl o_73))]) (cx := [(sm, .inr (2, [.int (nI y), .int fi, .int (nI st), .int t, .ref ma, .ref sa])), (ma, .inl (cR, k, .inr (.inr (.inr (.inr (fr ra)))))), (sa, .inl (cR, c, .inr (.inr (.inr (.inr (fr rs))))))]) (wr := [((a 0), .inr (1, [.ref (a 1), .ref (a 2), .ref (a 3), .ref (a 4), .ref (a 5), .ref (a 8), .int (nI k), .int (nI st), .int fi])), ((a 1), .inl (cI, 8, .inl fB)), ((a 2), .inl (cI, 8, .inl fS)), ((a 3), .inl (cJ, 8, .inr (.inl fL))), ((a 4), .inl (cI, 8, .inl fO)), ((a 5), .inr (0, [.ref (a 6), .ref (a 7), .int (nI c), .int t, .int (nI y)])), ((a 6), .inl (cI, 6, .inl fW)), ((a 7), .inl (cI, 6, .inl fD)), ((a 8), .inr (0, [.ref (a 9), .ref (a 10), .int c2, .int t2, .int y2])), ((a 9), .inl (cI, 6, .inl gW)), ((a 10), .inl (cI, 6, .inl gD)), (r_73, .inl (cI, k, .inl o_73))]) (rx := [(sm, .inr (2, [.int (nI y), .int fi, .int (nI st), .int t, .ref ma, .ref sa])), (ma, .inl (cR, k, .inr (.inr (.inr (.inr (fr ra)))))), (sa, .inl (cR, c, .inr (.inr (.inr (.inr (fr rs)))))), (r_96, .inl (cJ, 2, .inr (.inl (rt2 (tp (fL i) (fL st)) (tp (fL st) (fL i))))))]) (pl := (RT cI ra rs fB mM mP fW fD k c)) (pl1 := (RT cI ra rs fB mM mP fW fD k c)) hP hD [11, 12, 13] [0, 1, 2, 3, 4, 5, 6, 7, 8, 9, 10, 14] rfl rfl (by decide) (by decide) hk1 hFc hP1 hD1
    clear hz1 hk1 ht hFc
    generalize H1 = H at hP hS ⊢
    have hP : va_P D vwCl ([((a 0), .inr (1, [.ref (a 1), .ref (a 2), .ref (a 3), .ref (a 4), .ref (a 5), .ref (a 8), .int (nI k), .int (nI st), .int fi])), ((a 1), .inl (cI, 8, .inl fB)), ((a 2), .inl (cI, 8, .inl fS)), ((a 3), .inl (cJ, 8, .inr (.inl fL))), ((a 4), .inl (cI, 8, .inl fO)), ((a 5), .inr (0, [.ref (a 6), .ref (a 7), .int (nI c), .int t, .int (nI y)])), ((a 6), .inl (cI, 6, .inl fW)), ((a 7), .inl (cI, 6, .inl fD)), ((a 8), .inr (0, [.ref (a 9), .ref (a 10), .int c2, .int t2, .int y2])), ((a 9), .inl (cI, 6, .inl gW)), ((a 10), .inl (cI, 6, .inl gD)), (r_73, .inl (cI, k, .inl o_73)), (sm, .inr (2, [.int (nI y), .int fi, .int (nI st), .int t, .ref ma, .ref sa])), (ma, .inl (cR, k, .inr (.inr (.inr (.inr (fr ra)))))), (sa, .inl (cR, c, .inr (.inr (.inr (.inr (fr rs)))))), (r_96, .inl (cJ, 2, .inr (.inl (rt2 (tp (fL i) (fL st)) (tp (fL st) (fL i))))))] ++ (RT cI ra rs fB mM mP fW fD k c)) H := hP
    have hD : va_D A ([((a 0), .inr (1, [.ref (a 1), .ref (a 2), .ref (a 3), .ref (a 4), .ref (a 5), .ref (a 8), .int (nI k), .int (nI st), .int fi])), ((a 1), .inl (cI, 8, .inl fB)), ((a 2), .inl (cI, 8, .inl fS)), ((a 3), .inl (cJ, 8, .inr (.inl fL))), ((a 4), .inl (cI, 8, .inl fO)), ((a 5), .inr (0, [.ref (a 6), .ref (a 7), .int (nI c), .int t, .int (nI y)])), ((a 6), .inl (cI, 6, .inl fW)), ((a 7), .inl (cI, 6, .inl fD)), ((a 8), .inr (0, [.ref (a 9), .ref (a 10), .int c2, .int t2, .int y2])), ((a 9), .inl (cI, 6, .inl gW)), ((a 10), .inl (cI, 6, .inl gD)), (r_73, .inl (cI, k, .inl o_73)), (sm, .inr (2, [.int (nI y), .int fi, .int (nI st), .int t, .ref ma, .ref sa])), (ma, .inl (cR, k, .inr (.inr (.inr (.inr (fr ra)))))), (sa, .inl (cR, c, .inr (.inr (.inr (.inr (fr rs)))))), (r_96, .inl (cJ, 2, .inr (.inl (rt2 (tp (fL i) (fL st)) (tp (fL st) (fL i))))))] ++ (RT cI ra rs fB mM mP fW fD k c)) := hD
    refine lv_astore (lv' := [(6, .ref r_96), (0, .ref sm), (1, .ref (a 0)), (2, .int (nI k)), (3, .ref r_73), (4, .int (nI (shP fL i))), (5, .int (nI i))]) hx hb dX2_isSame_99 hl (by decide) rfl (fun ls hl => ?_)
    refine lv_iconst (v := 0) hx hb dX2_isSame_101 (by decide) ?_
    refine lv_istore (lv' := [(7, .int 0), (6, .ref r_96), (0, .ref sm), (1, .ref (a 0)), (2, .int (nI k)), (3, .ref r_73), (4, .int (nI (shP fL i))), (5, .int (nI i))]) hx hb dX2_isSame_102 hl (by decide) rfl (fun ls hl => ?_)
    refine lv_iload hx hb dX2_isSame_104 (lv_at hl 7 rfl) ?_
    refine lv_istore (lv' := [(8, .int (nI i)), (7, .int 0), (6, .ref r_96), (0, .ref sm), (1, .ref (a 0)), (2, .int (nI k)), (3, .ref r_73), (4, .int (nI (shP fL i))), (5, .int (nI i))]) hx hb dX2_isSame_106 hl (by decide) rfl (fun ls hl => ?_)
    refine loopR (σ := Nat) (I := fun j9 x9 ls => lv_has ls 10 [(0, .ref sm), (1, .ref (a 0)), (2, .int (nI k)), (3, .ref r_73), (4, .int (nI (shP fL i))), (5, .int (nI i)), (6, .ref r_96), (7, .int (nI j9)), (8, .int (nI x9))] ∧ (x9 < k ∧ x9 + j9 ≤ 7) ∧ (g9 i = j9 + g9 x9)) 7 ?_ 0 i ls (by omega) ⟨lv_sub hl [3, 4, 5, 6, 7, 8, 2, 1, 0] rfl, ⟨hik, (by omega : i + 0 ≤ 7)⟩, (Nat.zero_add _).symm⟩
    intro j9 x9 ls hj9 hI9 k9
    obtain ⟨hl, f1, f2⟩ := hI9
    refine lv_iload hx hb dX2_isSame_108 (lv_at hl 8 rfl) ?_
    refine lv_if_le (tgt := 130) hx hb dX2_isSame_110 (by decide) (fun c_110 => ?_) (fun c_110 => ?_)
    · skip
      simp only [Int32.le_iff_toInt_le] at c_110
      rw [nI_toInt (n := x9) (by omega)] at c_110
      rw [(by decide : (0 : Int32).toInt = 0)] at c_110
      have hx0 : x9 = 0 := by omega
      have hstp : g9 i = j9 := by rw [f2, hx0, hg.1]; rfl
      refine lv_aload_n hx hb dX2_isSame_130 rfl (lv_at hl 0 rfl) ?_
      refine lv_iload hx hb dX2_isSame_131 (lv_at hl 4 rfl) ?_
      refine lv_iload hx hb dX2_isSame_133 (lv_at hl 5 rfl) ?_
      have hFc := va_freeP (cx := [(sm, .inr (2, [.int (nI y), .int fi, .int (nI st), .int t, .ref ma, .ref sa])), (ma, .inl (cR, k, .inr (.inr (.inr (.inr (fr ra)))))), (sa, .inl (cR, c, .inr (.inr (.inr (.inr (fr rs))))))]) (pl := (RT cI ra rs fB mM mP fW fD k c)) hD hS hA [12, 13, 14] rfl
      refine va_calli (va_runV (As := [.int (nI (shP fL i)), .int (nI i)]) (rest := []) ⟨hx, hb, hml, hown, hts⟩ (c_X2_isLonger l D cI cJ cR H.size sm ma sa ra rs k st fi fB mM mP c t y fW fD fL La pp uu bb hL hk8 (shP fL i) i (by omega) (by omega)) (cwV 2 hts gX2_isSame_X2_isLonger rfl rfl rfl (by decide +kernel) ⟨Nat.le_of_ble_eq_true rfl, Nat.le_of_ble_eq_true rfl⟩) (preV_wr KM_ok (va_P.part (cx := [(sm, .inr (2, [.int (nI y), .int fi, .int (nI st), .int t, .ref ma, .ref sa])), (ma, .inl (cR, k, .inr (.inr (.inr (.inr (fr ra)))))), (sa, .inl (cR, c, .inr (.inr (.inr (.inr (fr rs))))))]) (pl := (RT cI ra rs fB mM mP fW fD k c)) hP [12, 13, 14] rfl) (va_D.part (cx := [(sm, .inr (2, [.int (nI y), .int fi, .int (nI st), .int t, .ref ma, .ref sa])), (ma, .inl (cR, k, .inr (.inr (.inr (.inr (fr ra)))))), (sa, .inl (cR, c, .inr (.inr (.inr (.inr (fr rs))))))]) (pl := (RT cI ra rs fB mM mP fW fD k c)) hD [12, 13, 14] (by decide) rfl) hK (va_recv hK hP (ci := 2) (q0 := 12) rfl rfl)) rfl rfl hl.1 rfl (lv_room (Nat.le_of_ble_eq_true rfl)) dX2_isSame_135 ⟨show _ ≤ 160 by omega, show _ ≤ 340 by omega⟩) hS (fun q _ h => hFc q h) hFc (fun r_135 u t9 H1 locs ht hvm hw9 hB hz1 hk1 hS => ?_)
      obtain ⟨hr9, rfl⟩ := hw9
      have hr9 := hr9.symm
      subst hr9
      obtain ⟨hP1, hD1⟩ := hB
      rw [ht] at hP1
      obtain ⟨hP, hD⟩ := va_joinP (X := [((a 0), .inr (1, [.ref (a 1), .ref (a 2), .ref (a 3), .ref (a 4), .ref (a 5), .ref (a 8), .int (nI k), .int (nI st), .int fi])), ((a 1), .inl (cI, 8, .inl fB)), ((a 2), .inl (cI, 8, .inl fS)), ((a 3), .inl (cJ, 8, .inr (.inl fL))), ((a 4), .inl (cI, 8, .inl fO)), ((a 5), .inr (0, [.ref (a 6), .ref (a 7), .int (nI c), .int t, .int (nI y)])), ((a 6), .inl (cI, 6, .inl fW)), ((a 7), .inl (cI, 6, .inl fD)), ((a 8), .inr (0, [.ref (a 9), .ref (a 10), .int c2, .int t2, .int y2])), ((a 9), .inl (cI, 6, .inl gW)), ((a 10), .inl (cI, 6, .inl gD)), (r_73, .inl (cI, k, .inl o_73)), (sm, .inr (2, [.int (nI y), .int fi, .int (nI st), .int t, .ref ma, .ref sa])), (ma, .inl (cR, k, .inr (.inr (.inr (.inr (fr ra)))))), (sa, .inl (cR, c, .inr (.inr (.inr (.inr (fr rs)))))), (r_96, .inl (cJ, 2, .inr (.inl (rt2 (tp (fL i) (fL st)) (tp (fL st) (fL i))))))]) (cx := [(sm, .inr (2, [.int (nI y), .int fi, .int (nI st), .int t, .ref ma, .ref sa])), (ma, .inl (cR, k, .inr (.inr (.inr (.inr (fr ra)))))), (sa, .inl (cR, c, .inr (.inr (.inr (.inr (fr rs))))))]) (wr := [((a 0), .inr (1, [.ref (a 1), .ref (a 2), .ref (a 3), .ref (a 4), .ref (a 5), .ref (a 8), .int (nI k), .int (nI st), .int fi])), ((a 1), .inl (cI, 8, .inl fB)), ((a 2), .inl (cI, 8, .inl fS)), ((a 3), .inl (cJ, 8, .inr (.inl fL))), ((a 4), .inl (cI, 8, .inl fO)), ((a 5), .inr (0, [.ref (a 6), .ref (a 7), .int (nI c), .int t, .int (nI y)])), ((a 6), .inl (cI, 6, .inl fW)), ((a 7), .inl (cI, 6, .inl fD)), ((a 8), .inr (0, [.ref (a 9), .ref (a 10), .int c2, .int t2, .int y2])), ((a 9), .inl (cI, 6, .inl gW)), ((a 10), .inl (cI, 6, .inl gD)), (r_73, .inl (cI, k, .inl o_73)), (r_96, .inl (cJ, 2, .inr (.inl (rt2 (tp (fL i) (fL st)) (tp (fL st) (fL i))))))]) (rx := [(sm, .inr (2, [.int (nI y), .int fi, .int (nI st), .int t, .ref ma, .ref sa])), (ma, .inl (cR, k, .inr (.inr (.inr (.inr (fr ra)))))), (sa, .inl (cR, c, .inr (.inr (.inr (.inr (fr rs))))))]) (pl := (RT cI ra rs fB mM mP fW fD k c)) (pl1 := (RT cI ra rs fB mM mP fW fD k c)) hP hD [12, 13, 14] [0, 1, 2, 3, 4, 5, 6, 7, 8, 9, 10, 11, 15] rfl rfl (by decide) (by decide) hk1 hFc hP1 hD1
      clear hz1 hk1 ht hvm hFc
      generalize H1 = H at hP hS ⊢
      have hP : va_P D vwCl ([((a 0), .inr (1, [.ref (a 1), .ref (a 2), .ref (a 3), .ref (a 4), .ref (a 5), .ref (a 8), .int (nI k), .int (nI st), .int fi])), ((a 1), .inl (cI, 8, .inl fB)), ((a 2), .inl (cI, 8, .inl fS)), ((a 3), .inl (cJ, 8, .inr (.inl fL))), ((a 4), .inl (cI, 8, .inl fO)), ((a 5), .inr (0, [.ref (a 6), .ref (a 7), .int (nI c), .int t, .int (nI y)])), ((a 6), .inl (cI, 6, .inl fW)), ((a 7), .inl (cI, 6, .inl fD)), ((a 8), .inr (0, [.ref (a 9), .ref (a 10), .int c2, .int t2, .int y2])), ((a 9), .inl (cI, 6, .inl gW)), ((a 10), .inl (cI, 6, .inl gD)), (r_73, .inl (cI, k, .inl o_73)), (r_96, .inl (cJ, 2, .inr (.inl (rt2 (tp (fL i) (fL st)) (tp (fL st) (fL i)))))), (sm, .inr (2, [.int (nI y), .int fi, .int (nI st), .int t, .ref ma, .ref sa])), (ma, .inl (cR, k, .inr (.inr (.inr (.inr (fr ra)))))), (sa, .inl (cR, c, .inr (.inr (.inr (.inr (fr rs))))))] ++ (RT cI ra rs fB mM mP fW fD k c)) H := hP
      have hD : va_D A ([((a 0), .inr (1, [.ref (a 1), .ref (a 2), .ref (a 3), .ref (a 4), .ref (a 5), .ref (a 8), .int (nI k), .int (nI st), .int fi])), ((a 1), .inl (cI, 8, .inl fB)), ((a 2), .inl (cI, 8, .inl fS)), ((a 3), .inl (cJ, 8, .inr (.inl fL))), ((a 4), .inl (cI, 8, .inl fO)), ((a 5), .inr (0, [.ref (a 6), .ref (a 7), .int (nI c), .int t, .int (nI y)])), ((a 6), .inl (cI, 6, .inl fW)), ((a 7), .inl (cI, 6, .inl fD)), ((a 8), .inr (0, [.ref (a 9), .ref (a 10), .int c2, .int t2, .int y2])), ((a 9), .inl (cI, 6, .inl gW)), ((a 10), .inl (cI, 6, .inl gD)), (r_73, .inl (cI, k, .inl o_73)), (r_96, .inl (cJ, 2, .inr (.inl (rt2 (tp (fL i) (fL st)) (tp (fL st) (fL i)))))), (sm, .inr (2, [.int (nI y), .int fi, .int (nI st), .int t, .ref ma, .ref sa])), (ma, .inl (cR, k, .inr (.inr (.inr (.inr (fr ra)))))), (sa, .inl (cR, c, .inr (.inr (.inr (.inr (fr rs))))))] ++ (RT cI ra rs fB mM mP fW fD k c)) := hD
      refine jnW (pc1 := 145) (st1 := []) (fun ls => lv_has ls 10 [(0, .ref sm), (1, .ref (a 0)), (2, .int (nI k)), (3, .ref r_73), (4, .int (nI (shP fL (i + 1)))), (5, .int (nI i)), (6, .ref r_96), (7, .int (nI j9))]) ?_ ?_
      · skip
        intro ls hl
        refine lv_aload_n hx hb dX2_isSame_145 rfl (lv_at hl 1 rfl) ?_
        refine lv_iload hx hb dX2_isSame_146 (lv_at hl 5 rfl) ?_
        refine ro_iE (va_runV (As := [.int (nI i)]) (rest := []) ⟨hx, hb, hml, hown, hts⟩ (k_X1_baseOf l D cI cJ cR a k st fi fB fS fO fL c t y fW fD c2 t2 y2 gW gD hk8 i (by omega)) (cwV 1 hts gX2_isSame_X1_baseOf rfl rfl rfl (by decide +kernel) ⟨Nat.le_of_ble_eq_true rfl, Nat.le_of_ble_eq_true rfl⟩) (preV_ro KC_ok (hP.sub (ws' := [((a 0), .inr (1, [.ref (a 1), .ref (a 2), .ref (a 3), .ref (a 4), .ref (a 5), .ref (a 8), .int (nI k), .int (nI st), .int fi])), ((a 1), .inl (cI, 8, .inl fB)), ((a 2), .inl (cI, 8, .inl fS)), ((a 3), .inl (cJ, 8, .inr (.inl fL))), ((a 4), .inl (cI, 8, .inl fO)), ((a 5), .inr (0, [.ref (a 6), .ref (a 7), .int (nI c), .int t, .int (nI y)])), ((a 6), .inl (cI, 6, .inl fW)), ((a 7), .inl (cI, 6, .inl fD)), ((a 8), .inr (0, [.ref (a 9), .ref (a 10), .int c2, .int t2, .int y2])), ((a 9), .inl (cI, 6, .inl gW)), ((a 10), .inl (cI, 6, .inl gD))]) [0, 1, 2, 3, 4, 5, 6, 7, 8, 9, 10] rfl) hC (va_recv hK hP (ci := 1) (q0 := 0) rfl rfl)) rfl rfl hl.1 rfl (lv_room (Nat.le_of_ble_eq_true rfl)) dX2_isSame_148 ⟨show _ ≤ 160 by omega, show _ ≤ 340 by omega⟩) ?_
        refine lv_aload_n hx hb dX2_isSame_151 rfl (lv_at hl 0 rfl) ?_
        refine va_get (D := D) (ci := 2) (v := .ref ma) (C := RX2) (T := TX2) (N := 6) hx hb hts hiX2 hown hK hP 13 rfl rfl 4 (by decide) hw15 (fun _ h9 => h9) rfl dX2_isSame_152 ?_
        refine lv_iload hx hb dX2_isSame_155 (lv_at hl 5 rfl) ?_
        refine xr_ald (b := (ra i)) hx hb hK hP 14 2 rfl rfl (j := i) (by omega) (by omega) rfl dX2_isSame_157 ?_
        refine lv_iconst (v := 0) hx hb dX2_isSame_158 (by decide) ?_
        refine xa_iald (j := 0) hx hb hK hP (16 + i) 0 (tl_at rfl (RT_m (by omega))) rfl (by decide) (by decide) dX2_isSame_159 ?_
        refine topI (y := (fB i)) rfl ?_
        refine lv_icmp_ne (tgt := 202) hx hb dX2_isSame_160 (by decide) (fun c_160 => by exact absurd rfl c_160) (fun c_160 => ?_)
        refine lv_aload_n hx hb dX2_isSame_163 rfl (lv_at hl 1 rfl) ?_
        refine lv_iload hx hb dX2_isSame_164 (lv_at hl 5 rfl) ?_
        refine ro_iE (va_runV (As := [.int (nI i)]) (rest := []) ⟨hx, hb, hml, hown, hts⟩ (k_X1_stepsToEll l D cI cJ cR a k st fi fB fS fO fL c t y fW fD c2 t2 y2 gW gD hk8 i (by omega)) (cwV 1 hts gX2_isSame_X1_stepsToEll rfl rfl rfl (by decide +kernel) ⟨Nat.le_of_ble_eq_true rfl, Nat.le_of_ble_eq_true rfl⟩) (preV_ro KC_ok (hP.sub (ws' := [((a 0), .inr (1, [.ref (a 1), .ref (a 2), .ref (a 3), .ref (a 4), .ref (a 5), .ref (a 8), .int (nI k), .int (nI st), .int fi])), ((a 1), .inl (cI, 8, .inl fB)), ((a 2), .inl (cI, 8, .inl fS)), ((a 3), .inl (cJ, 8, .inr (.inl fL))), ((a 4), .inl (cI, 8, .inl fO)), ((a 5), .inr (0, [.ref (a 6), .ref (a 7), .int (nI c), .int t, .int (nI y)])), ((a 6), .inl (cI, 6, .inl fW)), ((a 7), .inl (cI, 6, .inl fD)), ((a 8), .inr (0, [.ref (a 9), .ref (a 10), .int c2, .int t2, .int y2])), ((a 9), .inl (cI, 6, .inl gW)), ((a 10), .inl (cI, 6, .inl gD))]) [0, 1, 2, 3, 4, 5, 6, 7, 8, 9, 10] rfl) hC (va_recv hK hP (ci := 1) (q0 := 0) rfl rfl)) rfl rfl hl.1 rfl (lv_room (Nat.le_of_ble_eq_true rfl)) dX2_isSame_166 ⟨show _ ≤ 160 by omega, show _ ≤ 340 by omega⟩) ?_
        refine topI (y := (nI j9)) (by rw [hg.2.2 i hik, hstp]) ?_
        refine lv_iload hx hb dX2_isSame_169 (lv_at hl 7 rfl) ?_
        refine lv_icmp_ne (tgt := 202) hx hb dX2_isSame_171 (by decide) (fun c_171 => by exact absurd rfl c_171) (fun c_171 => ?_)
        refine lv_aload_n hx hb dX2_isSame_174 rfl (lv_at hl 1 rfl) ?_
        refine lv_iload hx hb dX2_isSame_175 (lv_at hl 5 rfl) ?_
        refine ro_lE (va_runV (As := [.int (nI i)]) (rest := []) ⟨hx, hb, hml, hown, hts⟩ (k_X1_lengthTop l D cI cJ cR a k st fi fB fS fO fL c t y fW fD c2 t2 y2 gW gD hM hst2 i (by omega)) (cwV 1 hts gX2_isSame_X1_lengthTop rfl rfl rfl (by decide +kernel) ⟨Nat.le_of_ble_eq_true rfl, Nat.le_of_ble_eq_true rfl⟩) (preV_ro KC_ok (hP.sub (ws' := [((a 0), .inr (1, [.ref (a 1), .ref (a 2), .ref (a 3), .ref (a 4), .ref (a 5), .ref (a 8), .int (nI k), .int (nI st), .int fi])), ((a 1), .inl (cI, 8, .inl fB)), ((a 2), .inl (cI, 8, .inl fS)), ((a 3), .inl (cJ, 8, .inr (.inl fL))), ((a 4), .inl (cI, 8, .inl fO)), ((a 5), .inr (0, [.ref (a 6), .ref (a 7), .int (nI c), .int t, .int (nI y)])), ((a 6), .inl (cI, 6, .inl fW)), ((a 7), .inl (cI, 6, .inl fD)), ((a 8), .inr (0, [.ref (a 9), .ref (a 10), .int c2, .int t2, .int y2])), ((a 9), .inl (cI, 6, .inl gW)), ((a 10), .inl (cI, 6, .inl gD))]) [0, 1, 2, 3, 4, 5, 6, 7, 8, 9, 10] rfl) hC (va_recv hK hP (ci := 1) (q0 := 0) rfl rfl)) rfl rfl hl.1 rfl (lv_room (Nat.le_of_ble_eq_true rfl)) dX2_isSame_177 ⟨show _ ≤ 160 by omega, show _ ≤ 340 by omega⟩) ?_
        refine lv_aload hx hb dX2_isSame_180 (lv_at hl 6 rfl) ?_
        refine lv_iconst (v := 0) hx hb dX2_isSame_182 (by decide) ?_
        refine xa_lald (j := 0) hx hb hK hP 12 1 rfl rfl (by decide) (by decide) dX2_isSame_183 ?_
        refine topL (y := (tp (fL i) (fL st))) rfl ?_
        refine W.lcmp hx hb dX2_isSame_184 ?_
        refine lv_if_ne (tgt := 202) hx hb dX2_isSame_185 (by decide) (fun c_185 => by exact absurd rfl ((lgc_ne _ _).mp c_185)) (fun c_185 => ?_)
        refine lv_aload_n hx hb dX2_isSame_188 rfl (lv_at hl 1 rfl) ?_
        refine lv_iload hx hb dX2_isSame_189 (lv_at hl 5 rfl) ?_
        refine ro_lE (va_runV (As := [.int (nI i)]) (rest := []) ⟨hx, hb, hml, hown, hts⟩ (k_X1_lengthBottom l D cI cJ cR a k st fi fB fS fO fL c t y fW fD c2 t2 y2 gW gD hM hst2 i (by omega)) (cwV 1 hts gX2_isSame_X1_lengthBottom rfl rfl rfl (by decide +kernel) ⟨Nat.le_of_ble_eq_true rfl, Nat.le_of_ble_eq_true rfl⟩) (preV_ro KC_ok (hP.sub (ws' := [((a 0), .inr (1, [.ref (a 1), .ref (a 2), .ref (a 3), .ref (a 4), .ref (a 5), .ref (a 8), .int (nI k), .int (nI st), .int fi])), ((a 1), .inl (cI, 8, .inl fB)), ((a 2), .inl (cI, 8, .inl fS)), ((a 3), .inl (cJ, 8, .inr (.inl fL))), ((a 4), .inl (cI, 8, .inl fO)), ((a 5), .inr (0, [.ref (a 6), .ref (a 7), .int (nI c), .int t, .int (nI y)])), ((a 6), .inl (cI, 6, .inl fW)), ((a 7), .inl (cI, 6, .inl fD)), ((a 8), .inr (0, [.ref (a 9), .ref (a 10), .int c2, .int t2, .int y2])), ((a 9), .inl (cI, 6, .inl gW)), ((a 10), .inl (cI, 6, .inl gD))]) [0, 1, 2, 3, 4, 5, 6, 7, 8, 9, 10] rfl) hC (va_recv hK hP (ci := 1) (q0 := 0) rfl rfl)) rfl rfl hl.1 rfl (lv_room (Nat.le_of_ble_eq_true rfl)) dX2_isSame_191 ⟨show _ ≤ 160 by omega, show _ ≤ 340 by omega⟩) ?_
        refine lv_aload hx hb dX2_isSame_194 (lv_at hl 6 rfl) ?_
        refine lv_iconst (v := 1) hx hb dX2_isSame_196 (by decide) ?_
        refine xa_lald (j := 1) hx hb hK hP 12 1 rfl rfl (by decide) (by decide) dX2_isSame_197 ?_
        refine topL (y := (tp (fL st) (fL i))) rfl ?_
        refine W.lcmp hx hb dX2_isSame_198 ?_
        refine lv_if_eq (tgt := 204) hx hb dX2_isSame_199 (by decide) (fun c_199 => ?_) (fun c_199 => by exact absurd ((lgc_eq _ _).mpr rfl) c_199)
        refine lv_iinc (v := (nI (i + 1))) (lv' := [(5, .int (nI (i + 1))), (0, .ref sm), (1, .ref (a 0)), (2, .int (nI k)), (3, .ref r_73), (4, .int (nI (shP fL (i + 1)))), (6, .ref r_96), (7, .int (nI j9))]) hx hb dX2_isSame_204 hl (k := 5) rfl (nI_inc i) (by decide) rfl (fun ls hl => ?_)
        refine lv_goto (tgt := 83) hx hb dX2_isSame_207 (by decide) ?_
        have hP := va_P.part (cx := [((a 0), .inr (1, [.ref (a 1), .ref (a 2), .ref (a 3), .ref (a 4), .ref (a 5), .ref (a 8), .int (nI k), .int (nI st), .int fi])), ((a 1), .inl (cI, 8, .inl fB)), ((a 2), .inl (cI, 8, .inl fS)), ((a 3), .inl (cJ, 8, .inr (.inl fL))), ((a 4), .inl (cI, 8, .inl fO)), ((a 5), .inr (0, [.ref (a 6), .ref (a 7), .int (nI c), .int t, .int (nI y)])), ((a 6), .inl (cI, 6, .inl fW)), ((a 7), .inl (cI, 6, .inl fD)), ((a 8), .inr (0, [.ref (a 9), .ref (a 10), .int c2, .int t2, .int y2])), ((a 9), .inl (cI, 6, .inl gW)), ((a 10), .inl (cI, 6, .inl gD)), (sm, .inr (2, [.int (nI y), .int fi, .int (nI st), .int t, .ref ma, .ref sa])), (ma, .inl (cR, k, .inr (.inr (.inr (.inr (fr ra)))))), (sa, .inl (cR, c, .inr (.inr (.inr (.inr (fr rs)))))), (r_73, .inl (cI, k, .inl o_73))]) (pl := (RT cI ra rs fB mM mP fW fD k c)) hP [0, 1, 2, 3, 4, 5, 6, 7, 8, 9, 10, 13, 14, 15, 11] rfl
        have hD := va_D.part (cx := [((a 0), .inr (1, [.ref (a 1), .ref (a 2), .ref (a 3), .ref (a 4), .ref (a 5), .ref (a 8), .int (nI k), .int (nI st), .int fi])), ((a 1), .inl (cI, 8, .inl fB)), ((a 2), .inl (cI, 8, .inl fS)), ((a 3), .inl (cJ, 8, .inr (.inl fL))), ((a 4), .inl (cI, 8, .inl fO)), ((a 5), .inr (0, [.ref (a 6), .ref (a 7), .int (nI c), .int t, .int (nI y)])), ((a 6), .inl (cI, 6, .inl fW)), ((a 7), .inl (cI, 6, .inl fD)), ((a 8), .inr (0, [.ref (a 9), .ref (a 10), .int c2, .int t2, .int y2])), ((a 9), .inl (cI, 6, .inl gW)), ((a 10), .inl (cI, 6, .inl gD)), (sm, .inr (2, [.int (nI y), .int fi, .int (nI st), .int t, .ref ma, .ref sa])), (ma, .inl (cR, k, .inr (.inr (.inr (.inr (fr ra)))))), (sa, .inl (cR, c, .inr (.inr (.inr (.inr (fr rs)))))), (r_73, .inl (cI, k, .inl o_73))]) (pl := (RT cI ra rs fB mM mP fW fD k c)) hD [0, 1, 2, 3, 4, 5, 6, 7, 8, 9, 10, 13, 14, 15, 11] (by decide) rfl
        refine W.widen (k := 140 + (i + 1) * 2) (n := 300 + (i + 1) * 4) (by omega) (by omega) ?_
        exact kk () _ _ ls (by omega) ⟨lv_sub hl [1, 2, 3, 4, 5, 0] rfl, hP, hD, hS⟩
      · skip
        intro k145
        refine lv_if_eq (tgt := 145) hx hb dX2_isSame_138 (by decide) (fun c_138 => ?_) (fun c_138 => ?_)
        · skip
          have c_138 := bz_0 c_138
          have e7 : shP fL (i + 1) = shP fL i := shP_n c_138
          exact k145 ls (by rw [e7]; exact lv_sub hl [0, 1, 2, 3, 4, 5, 6, 7] rfl)
        · skip
          have c_138 := bz_1 c_138
          have e7 : shP fL (i + 1) = i := shP_y c_138
          refine lv_iload hx hb dX2_isSame_141 (lv_at hl 5 rfl) ?_
          refine lv_istore (lv' := [(4, .int (nI i)), (0, .ref sm), (1, .ref (a 0)), (2, .int (nI k)), (3, .ref r_73), (5, .int (nI i)), (6, .ref r_96), (7, .int (nI j9)), (8, .int (nI x9))]) hx hb dX2_isSame_143 hl (by decide) rfl (fun ls hl => ?_)
          exact k145 ls (by rw [e7]; exact lv_sub hl [1, 2, 3, 4, 0, 5, 6, 7] rfl)
    · skip
      simp only [Int32.le_iff_toInt_le] at c_110
      rw [nI_toInt (n := x9) (by omega)] at c_110
      rw [(by decide : (0 : Int32).toInt = 0)] at c_110
      have hx0 : 0 < x9 := by omega
      obtain ⟨-, -, a3, a4, -⟩ := hL.2.2 x9 hx0 f1.1
      have a5 := hg.step hL hk8 hx0 f1.1
      refine lv_iinc (v := (nI (j9 + 1))) (lv' := [(7, .int (nI (j9 + 1))), (0, .ref sm), (1, .ref (a 0)), (2, .int (nI k)), (3, .ref r_73), (4, .int (nI (shP fL i))), (5, .int (nI i)), (6, .ref r_96), (8, .int (nI x9))]) hx hb dX2_isSame_113 hl (k := 7) rfl (nI_inc j9) (by decide) rfl (fun ls hl => ?_)
      refine lv_aload_n hx hb dX2_isSame_116 rfl (lv_at hl 1 rfl) ?_
      refine va_get (D := D) (ci := 2) (v := .ref ma) (C := RX2) (T := TX2) (N := 6) hx hb hts hiX2 hown hK hP 12 rfl rfl 4 (by decide) hw15 (fun _ h9 => h9) rfl dX2_isSame_117 ?_
      refine lv_iload hx hb dX2_isSame_120 (lv_at hl 8 rfl) ?_
      refine xr_ald (b := (ra x9)) hx hb hK hP 13 2 rfl rfl (j := x9) (by omega) (by omega) rfl dX2_isSame_122 ?_
      refine lv_iconst (v := 0) hx hb dX2_isSame_123 (by decide) ?_
      refine xa_iald (j := 0) hx hb hK hP (16 + x9) 0 (tl_at rfl (RT_m (by omega))) rfl (by decide) (by decide) dX2_isSame_124 ?_
      refine topI (y := (fB x9)) rfl ?_
      refine topI (y := (nI (bb x9))) a3 ?_
      refine lv_istore (lv' := [(8, .int (nI (bb x9))), (7, .int (nI (j9 + 1))), (0, .ref sm), (1, .ref (a 0)), (2, .int (nI k)), (3, .ref r_73), (4, .int (nI (shP fL i))), (5, .int (nI i)), (6, .ref r_96)]) hx hb dX2_isSame_125 hl (by decide) rfl (fun ls hl => ?_)
      refine lv_goto (tgt := 108) hx hb dX2_isSame_127 (by decide) ?_
      exact k9 (bb x9) ls (by omega) ⟨lv_sub hl [2, 3, 4, 5, 6, 7, 8, 1, 0] rfl, (by omega : bb x9 < k ∧ bb x9 + (j9 + 1) ≤ 7), (by omega : g9 i = j9 + 1 + g9 (bb x9))⟩
