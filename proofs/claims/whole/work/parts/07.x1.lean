set_option maxHeartbeats 4000000 in
set_option maxRecDepth 100000 in
theorem c_X1_needMeasure (l : Launch) (hst : l.stackTraces = false) (D : va_G) (cI cJ : ClassId) (a : Nat → Nat) (k st : Nat) (fi : Int32) (fB fS fO : Nat → Int32) (fL : Nat → Int64) (c : Nat) (t : Int32) (y : Nat) (fW fD : Nat → Int32) (c2 t2 y2 : Int32) (gW gD : Nat → Int32) (hk : k ≤ 8) (x : Int32) : vx_Met l yX1_needMeasure wsX1_needMeasure ({ frames := 6, cells := 1, slots := 6, locals := 82 }) (cP D [((a 0), .inr (1, [.ref (a 1), .ref (a 2), .ref (a 3), .ref (a 4), .ref (a 5), .ref (a 8), .int (nI k), .int (nI st), .int fi])), ((a 1), .inl (cI, 8, .inl fB)), ((a 2), .inl (cI, 8, .inl fS)), ((a 3), .inl (cJ, 8, .inr (.inl fL))), ((a 4), .inl (cI, 8, .inl fO)), ((a 5), .inr (0, [.ref (a 6), .ref (a 7), .int (nI c), .int t, .int (nI y)])), ((a 6), .inl (cI, 6, .inl fW)), ((a 7), .inl (cI, 6, .inl fD)), ((a 8), .inr (0, [.ref (a 9), .ref (a 10), .int c2, .int t2, .int y2])), ((a 9), .inl (cI, 6, .inl gW)), ((a 10), .inl (cI, 6, .inl gD))] (KC D cI cJ a) [.ref (a 0), .int x]) (rov (inM k x)) (rox (fun E => E = eIO ∧ ¬ inM k x)) 1 6 (fun _ => False) := by
  refine vx_ofW (cc := cX1_needMeasure) (maxL := 2) (ret := none) (by decide +kernel) rfl ?_
  intro p e s m args below meth c9 s₁ B hml hout hv
  obtain ⟨rfl, hP, hC⟩ := hv
  have hx := B.exec
  have hb := B.bytes
  have hr := B.returns
  have hts := atoms_spec (ws := wsX1_needMeasure) B.pre
  have hown : s.vm.findClass RX1 = some m.cls := findClass_of_methodNamed B.named
  have hlocks := B.notSynchronized
  have hK : va_K D vwCl [(cI, .int), (cJ, .long)] s := hC.1
  have hl := lv_entry ([.ref (a 0), .int x]) (n := 2) (Nat.le_of_ble_eq_true rfl)
  rw [lg_entry_eq]
  generalize (lg_sl ([.ref (a 0), .int x]) ++ List.replicate (2 - (lg_sl ([.ref (a 0), .int x])).length) Slot.unset).toArray = ls at hl ⊢
  have hl : lv_has ls 2 [(0, .ref (a 0)), (1, .int x)] := hl
  have hiX1 : ∀ w ∈ u_ws RX1 TX1 9, w ∈ wsX1_needMeasure := by decide +kernel
  have hw33 : (Cond.fieldLink RX1 33 "OldMeasures" "measureCount" "I").before ([.ref (a 0), .int x] : List Value).toArray s = true := hts _ (by decide +kernel)
  refine lv_iload_n hx hb dX1_needMeasure_0 rfl (lv_at hl 1 rfl) ?_
  refine lv_iconst (v := 0) hx hb dX1_needMeasure_1 (by decide) ?_
  refine lv_aload_n hx hb dX1_needMeasure_2 rfl (lv_at hl 0 rfl) ?_
  refine va_get (D := D) (ci := 1) (v := .int (nI k)) (C := RX1) (T := TX1) (N := 9) hx hb hts hiX1 hown hK hP 0 rfl rfl 6 (by decide) hw33 (fun _ h9 => h9) rfl dX1_needMeasure_3 ?_
  refine lv_iconst (v := 1) hx hb dX1_needMeasure_6 (by decide) ?_
  refine lv_isub hx hb dX1_needMeasure_7 ?_
  refine ro_iE (va_runS (As := [.int x, .int 0, .int ((nI k) - 1)]) (rest := []) ⟨hx, hb, hml, hown, hts⟩ (c_X1_isOutside l x 0 ((nI k) - 1)) (va_cwS 3 hts gX1_needMeasure_X1_isOutside rfl rfl rfl (by decide +kernel) ⟨Nat.le_of_ble_eq_true rfl, Nat.le_of_ble_eq_true rfl⟩) pre0 rfl rfl hl.1 rfl (lv_room (Nat.le_of_ble_eq_true rfl)) dX1_needMeasure_8 ⟨by decide, by decide⟩) ?_
  refine lv_if_eq (tgt := 24) hx hb dX1_needMeasure_11 (by decide) (fun c_11 => ?_) (fun c_11 => ?_)
  · skip
    have c_11 := bz_0 c_11
    refine W.widen (k := 1) (n := 6) (by decide) (by decide) ?_
    refine vx_ret ?_
    exact W.vret hx hb hr (fun t9 ht hW => ⟨rfl, (inM_iff (by omega)).mp c_11, ht⟩) (fun q hq => absurd hq List.not_mem_nil) dX1_needMeasure_24
  · skip
    have c_11 := bz_1 c_11
    obtain ⟨sa9, hstr9⟩ := hC.2.2.1.1.1
    exact vx_throwS (A := Aw a) (cls := "java/lang/IndexOutOfBoundsException") (text := "there is no such measure") (names := ["java/lang/RuntimeException", "java/lang/Exception"]) hx hb hst hown (by decide +kernel) (by decide +kernel) (hts (.classLink RX1 221 "java/lang/IndexOutOfBoundsException") (by decide +kernel)) (hts (.initialized "java/lang/IndexOutOfBoundsException") (by decide +kernel)) hstr9 (hat_eIO hC.2.2.1.2 hts (by decide +kernel)) (by decide +kernel) hC.2.2.2.1 hC.2.2.2.2 va_S.rf (by rw [hml]; exact hl.1) dX1_needMeasure_14 dX1_needMeasure_17 dX1_needMeasure_18 dX1_needMeasure_20 dX1_needMeasure_23 (fun x hx9 => (hout x hx9).elim) (by decide) (by decide) (by decide) (by decide) hlocks (fun t _ h1 h2 => ⟨⟨rfl, fun h9 => (inM_iff (by omega)).mpr h9 c_11⟩, h1, fun q hq _ => h2 q hq⟩) (fun z hz => absurd hz List.not_mem_nil) (by decide) (by decide)

set_option maxHeartbeats 4000000 in
set_option maxRecDepth 100000 in
theorem c_X1_needStall (l : Launch) (hst : l.stackTraces = false) (D : va_G) (cI cJ : ClassId) (a : Nat → Nat) (k st : Nat) (fi : Int32) (fB fS fO : Nat → Int32) (fL : Nat → Int64) (c : Nat) (t : Int32) (y : Nat) (fW fD : Nat → Int32) (c2 t2 y2 : Int32) (gW gD : Nat → Int32) (hc : c ≤ 8) (x : Int32) : vx_Met l yX1_needStall wsX1_needStall ({ frames := 6, cells := 1, slots := 6, locals := 82 }) (cP D [((a 0), .inr (1, [.ref (a 1), .ref (a 2), .ref (a 3), .ref (a 4), .ref (a 5), .ref (a 8), .int (nI k), .int (nI st), .int fi])), ((a 1), .inl (cI, 8, .inl fB)), ((a 2), .inl (cI, 8, .inl fS)), ((a 3), .inl (cJ, 8, .inr (.inl fL))), ((a 4), .inl (cI, 8, .inl fO)), ((a 5), .inr (0, [.ref (a 6), .ref (a 7), .int (nI c), .int t, .int (nI y)])), ((a 6), .inl (cI, 6, .inl fW)), ((a 7), .inl (cI, 6, .inl fD)), ((a 8), .inr (0, [.ref (a 9), .ref (a 10), .int c2, .int t2, .int y2])), ((a 9), .inl (cI, 6, .inl gW)), ((a 10), .inl (cI, 6, .inl gD))] (KC D cI cJ a) [.ref (a 0), .int x]) (rov (inM c x)) (rox (fun E => E = eIO ∧ ¬ inM c x)) 1 6 (fun _ => False) := by
  refine vx_ofW (cc := cX1_needStall) (maxL := 2) (ret := none) (by decide +kernel) rfl ?_
  intro p e s m args below meth c9 s₁ B hml hout hv
  obtain ⟨rfl, hP, hC⟩ := hv
  have hx := B.exec
  have hb := B.bytes
  have hr := B.returns
  have hts := atoms_spec (ws := wsX1_needStall) B.pre
  have hown : s.vm.findClass RX1 = some m.cls := findClass_of_methodNamed B.named
  have hlocks := B.notSynchronized
  have hK : va_K D vwCl [(cI, .int), (cJ, .long)] s := hC.1
  have hl := lv_entry ([.ref (a 0), .int x]) (n := 2) (Nat.le_of_ble_eq_true rfl)
  rw [lg_entry_eq]
  generalize (lg_sl ([.ref (a 0), .int x]) ++ List.replicate (2 - (lg_sl ([.ref (a 0), .int x])).length) Slot.unset).toArray = ls at hl ⊢
  have hl : lv_has ls 2 [(0, .ref (a 0)), (1, .int x)] := hl
  have hiX0 : ∀ w ∈ u_ws RX0 TX0 5, w ∈ wsX1_needStall := by decide +kernel
  have hiX1 : ∀ w ∈ u_ws RX1 TX1 9, w ∈ wsX1_needStall := by decide +kernel
  have hw26 : (Cond.fieldLink RX1 26 "OldMeasures" "stalls" "LOldMeasures$Stalls;").before ([.ref (a 0), .int x] : List Value).toArray s = true := hts _ (by decide +kernel)
  refine lv_iload_n hx hb dX1_needStall_0 rfl (lv_at hl 1 rfl) ?_
  refine lv_iconst (v := 0) hx hb dX1_needStall_1 (by decide) ?_
  refine lv_aload_n hx hb dX1_needStall_2 rfl (lv_at hl 0 rfl) ?_
  refine va_get (D := D) (ci := 1) (v := .ref (a 5)) (C := RX1) (T := TX1) (N := 9) hx hb hts hiX1 hown hK hP 0 rfl rfl 4 (by decide) hw26 (fun _ h9 => h9) rfl dX1_needStall_3 ?_
  refine va_getN (host := RX1) (D := D) (ci := 0) (v := .int (nI c)) (C := RX0) (T := TX0) (N := 5) hx hb hts hiX0 hown hK hP 5 rfl rfl 2 (by decide) (va_Nw.use rfl hC.2.1.1) (fun _ h9 => h9) rfl dX1_needStall_6 ?_
  refine lv_iconst (v := 1) hx hb dX1_needStall_9 (by decide) ?_
  refine lv_isub hx hb dX1_needStall_10 ?_
  refine ro_iE (va_runS (As := [.int x, .int 0, .int ((nI c) - 1)]) (rest := []) ⟨hx, hb, hml, hown, hts⟩ (c_X1_isOutside l x 0 ((nI c) - 1)) (va_cwS 3 hts gX1_needStall_X1_isOutside rfl rfl rfl (by decide +kernel) ⟨Nat.le_of_ble_eq_true rfl, Nat.le_of_ble_eq_true rfl⟩) pre0 rfl rfl hl.1 rfl (lv_room (Nat.le_of_ble_eq_true rfl)) dX1_needStall_11 ⟨by decide, by decide⟩) ?_
  refine lv_if_eq (tgt := 27) hx hb dX1_needStall_14 (by decide) (fun c_14 => ?_) (fun c_14 => ?_)
  · skip
    have c_14 := bz_0 c_14
    refine W.widen (k := 1) (n := 6) (by decide) (by decide) ?_
    refine vx_ret ?_
    exact W.vret hx hb hr (fun t9 ht hW => ⟨rfl, (inM_iff (by omega)).mp c_14, ht⟩) (fun q hq => absurd hq List.not_mem_nil) dX1_needStall_27
  · skip
    have c_14 := bz_1 c_14
    obtain ⟨sa9, hstr9⟩ := hC.2.2.1.1.2.1
    exact vx_throwS (A := Aw a) (cls := "java/lang/IndexOutOfBoundsException") (text := "there is no such stall") (names := ["java/lang/RuntimeException", "java/lang/Exception"]) hx hb hst hown (by decide +kernel) (by decide +kernel) (hts (.classLink RX1 221 "java/lang/IndexOutOfBoundsException") (by decide +kernel)) (hts (.initialized "java/lang/IndexOutOfBoundsException") (by decide +kernel)) hstr9 (hat_eIO hC.2.2.1.2 hts (by decide +kernel)) (by decide +kernel) hC.2.2.2.1 hC.2.2.2.2 va_S.rf (by rw [hml]; exact hl.1) dX1_needStall_17 dX1_needStall_20 dX1_needStall_21 dX1_needStall_23 dX1_needStall_26 (fun x hx9 => (hout x hx9).elim) (by decide) (by decide) (by decide) (by decide) hlocks (fun t _ h1 h2 => ⟨⟨rfl, fun h9 => (inM_iff (by omega)).mpr h9 c_14⟩, h1, fun q hq _ => h2 q hq⟩) (fun z hz => absurd hz List.not_mem_nil) (by decide) (by decide)

set_option maxHeartbeats 4000000 in
set_option maxRecDepth 100000 in
theorem c_X1_needWear (l : Launch) (hst : l.stackTraces = false) (D : va_G) (cI cJ : ClassId) (a : Nat → Nat) (x : Int32) : vx_Met l yX1_needWear wsX1_needWear ({ frames := 6, cells := 1, slots := 6, locals := 82 }) (cP D [] (KC D cI cJ a) [.int x]) (rov (inR (-9) 9 x)) (rox (fun E => E = eIA ∧ ¬ inR (-9) 9 x)) 1 6 (fun _ => False) := by
  refine vx_ofW (cc := cX1_needWear) (maxL := 1) (ret := none) (by decide +kernel) rfl ?_
  intro p e s m args below meth c9 s₁ B hml hout hv
  obtain ⟨rfl, hP, hC⟩ := hv
  have hx := B.exec
  have hb := B.bytes
  have hr := B.returns
  have hts := atoms_spec (ws := wsX1_needWear) B.pre
  have hown : s.vm.findClass RX1 = some m.cls := findClass_of_methodNamed B.named
  have hlocks := B.notSynchronized
  have hK : va_K D vwCl [(cI, .int), (cJ, .long)] s := hC.1
  have hl := lv_entry ([.int x]) (n := 1) (Nat.le_of_ble_eq_true rfl)
  rw [lg_entry_eq]
  generalize (lg_sl ([.int x]) ++ List.replicate (1 - (lg_sl ([.int x])).length) Slot.unset).toArray = ls at hl ⊢
  have hl : lv_has ls 1 [(0, .int x)] := hl
  refine lv_iload_n hx hb dX1_needWear_0 rfl (lv_at hl 0 rfl) ?_
  refine lv_bipush (v := (-9)) hx hb dX1_needWear_1 (by decide) ?_
  refine lv_bipush (v := 9) hx hb dX1_needWear_3 (by decide) ?_
  refine ro_iE (va_runS (As := [.int x, .int (-9), .int 9]) (rest := []) ⟨hx, hb, hml, hown, hts⟩ (c_X1_isOutside l x (-9) 9) (va_cwS 3 hts gX1_needWear_X1_isOutside rfl rfl rfl (by decide +kernel) ⟨Nat.le_of_ble_eq_true rfl, Nat.le_of_ble_eq_true rfl⟩) pre0 rfl rfl hl.1 rfl (lv_room (Nat.le_of_ble_eq_true rfl)) dX1_needWear_5 ⟨by decide, by decide⟩) ?_
  refine lv_if_eq (tgt := 21) hx hb dX1_needWear_8 (by decide) (fun c_8 => ?_) (fun c_8 => ?_)
  · skip
    have c_8 := bz_0 c_8
    refine W.widen (k := 1) (n := 6) (by decide) (by decide) ?_
    refine vx_ret ?_
    exact W.vret hx hb hr (fun t9 ht hW => ⟨rfl, by have e1 : ((-9) : Int32).toInt = -9 := rfl; have e2 : (9 : Int32).toInt = 9 := rfl; unfold inR; omega, ht⟩) (fun q hq => absurd hq List.not_mem_nil) dX1_needWear_21
  · skip
    have c_8 := bz_1 c_8
    obtain ⟨sa9, hstr9⟩ := hC.2.2.1.1.2.2.2.2.1
    exact vx_throwS (A := Aw a) (cls := "java/lang/IllegalArgumentException") (text := "a wear is -9 to 9") (names := ["java/lang/RuntimeException", "java/lang/Exception"]) hx hb hst hown (by decide +kernel) (by decide +kernel) (hts (.classLink RX1 48 "java/lang/IllegalArgumentException") (by decide +kernel)) (hts (.initialized "java/lang/IllegalArgumentException") (by decide +kernel)) hstr9 (hat_eIA hC.2.2.1.2 hts (by decide +kernel)) (by decide +kernel) hC.2.2.2.1 hC.2.2.2.2 va_S.rf (by rw [hml]; exact hl.1) dX1_needWear_11 dX1_needWear_14 dX1_needWear_15 dX1_needWear_17 dX1_needWear_20 (fun x hx9 => (hout x hx9).elim) (by decide) (by decide) (by decide) (by decide) hlocks (fun t _ h1 h2 => ⟨⟨rfl, by have e1 : ((-9) : Int32).toInt = -9 := rfl; have e2 : (9 : Int32).toInt = 9 := rfl; unfold inR; omega⟩, h1, fun q hq _ => h2 q hq⟩) (fun z hz => absurd hz List.not_mem_nil) (by decide) (by decide)

set_option maxHeartbeats 4000000 in
set_option maxRecDepth 100000 in
theorem c_X1_needDays (l : Launch) (hst : l.stackTraces = false) (D : va_G) (cI cJ : ClassId) (a : Nat → Nat) (x : Int32) : vx_Met l yX1_needDays wsX1_needDays ({ frames := 6, cells := 1, slots := 6, locals := 82 }) (cP D [] (KC D cI cJ a) [.int x]) (rov (inR (1) 60 x)) (rox (fun E => E = eIA ∧ ¬ inR (1) 60 x)) 1 6 (fun _ => False) := by
  refine vx_ofW (cc := cX1_needDays) (maxL := 1) (ret := none) (by decide +kernel) rfl ?_
  intro p e s m args below meth c9 s₁ B hml hout hv
  obtain ⟨rfl, hP, hC⟩ := hv
  have hx := B.exec
  have hb := B.bytes
  have hr := B.returns
  have hts := atoms_spec (ws := wsX1_needDays) B.pre
  have hown : s.vm.findClass RX1 = some m.cls := findClass_of_methodNamed B.named
  have hlocks := B.notSynchronized
  have hK : va_K D vwCl [(cI, .int), (cJ, .long)] s := hC.1
  have hl := lv_entry ([.int x]) (n := 1) (Nat.le_of_ble_eq_true rfl)
  rw [lg_entry_eq]
  generalize (lg_sl ([.int x]) ++ List.replicate (1 - (lg_sl ([.int x])).length) Slot.unset).toArray = ls at hl ⊢
  have hl : lv_has ls 1 [(0, .int x)] := hl
  refine lv_iload_n hx hb dX1_needDays_0 rfl (lv_at hl 0 rfl) ?_
  refine lv_iconst (v := 1) hx hb dX1_needDays_1 (by decide) ?_
  refine lv_bipush (v := 60) hx hb dX1_needDays_2 (by decide) ?_
  refine ro_iE (va_runS (As := [.int x, .int 1, .int 60]) (rest := []) ⟨hx, hb, hml, hown, hts⟩ (c_X1_isOutside l x 1 60) (va_cwS 3 hts gX1_needDays_X1_isOutside rfl rfl rfl (by decide +kernel) ⟨Nat.le_of_ble_eq_true rfl, Nat.le_of_ble_eq_true rfl⟩) pre0 rfl rfl hl.1 rfl (lv_room (Nat.le_of_ble_eq_true rfl)) dX1_needDays_4 ⟨by decide, by decide⟩) ?_
  refine lv_if_eq (tgt := 20) hx hb dX1_needDays_7 (by decide) (fun c_7 => ?_) (fun c_7 => ?_)
  · skip
    have c_7 := bz_0 c_7
    refine W.widen (k := 1) (n := 6) (by decide) (by decide) ?_
    refine vx_ret ?_
    exact W.vret hx hb hr (fun t9 ht hW => ⟨rfl, by have e1 : ((1) : Int32).toInt = 1 := rfl; have e2 : (60 : Int32).toInt = 60 := rfl; unfold inR; omega, ht⟩) (fun q hq => absurd hq List.not_mem_nil) dX1_needDays_20
  · skip
    have c_7 := bz_1 c_7
    obtain ⟨sa9, hstr9⟩ := hC.2.2.1.1.2.2.2.2.2.2.2.1
    exact vx_throwS (A := Aw a) (cls := "java/lang/IllegalArgumentException") (text := "days are 1 to 60") (names := ["java/lang/RuntimeException", "java/lang/Exception"]) hx hb hst hown (by decide +kernel) (by decide +kernel) (hts (.classLink RX1 48 "java/lang/IllegalArgumentException") (by decide +kernel)) (hts (.initialized "java/lang/IllegalArgumentException") (by decide +kernel)) hstr9 (hat_eIA hC.2.2.1.2 hts (by decide +kernel)) (by decide +kernel) hC.2.2.2.1 hC.2.2.2.2 va_S.rf (by rw [hml]; exact hl.1) dX1_needDays_10 dX1_needDays_13 dX1_needDays_14 dX1_needDays_16 dX1_needDays_19 (fun x hx9 => (hout x hx9).elim) (by decide) (by decide) (by decide) (by decide) hlocks (fun t _ h1 h2 => ⟨⟨rfl, by have e1 : ((1) : Int32).toInt = 1 := rfl; have e2 : (60 : Int32).toInt = 60 := rfl; unfold inR; omega⟩, h1, fun q hq _ => h2 q hq⟩) (fun z hz => absurd hz List.not_mem_nil) (by decide) (by decide)

set_option maxHeartbeats 4000000 in
set_option maxRecDepth 100000 in
theorem c_X1_needMany (l : Launch) (hst : l.stackTraces = false) (D : va_G) (cI cJ : ClassId) (a : Nat → Nat) (x : Int32) : vx_Met l yX1_needMany wsX1_needMany ({ frames := 6, cells := 1, slots := 6, locals := 82 }) (cP D [] (KC D cI cJ a) [.int x]) (rov (inR (1) 200 x)) (rox (fun E => E = eIA ∧ ¬ inR (1) 200 x)) 1 6 (fun _ => False) := by
  refine vx_ofW (cc := cX1_needMany) (maxL := 1) (ret := none) (by decide +kernel) rfl ?_
  intro p e s m args below meth c9 s₁ B hml hout hv
  obtain ⟨rfl, hP, hC⟩ := hv
  have hx := B.exec
  have hb := B.bytes
  have hr := B.returns
  have hts := atoms_spec (ws := wsX1_needMany) B.pre
  have hown : s.vm.findClass RX1 = some m.cls := findClass_of_methodNamed B.named
  have hlocks := B.notSynchronized
  have hK : va_K D vwCl [(cI, .int), (cJ, .long)] s := hC.1
  have hl := lv_entry ([.int x]) (n := 1) (Nat.le_of_ble_eq_true rfl)
  rw [lg_entry_eq]
  generalize (lg_sl ([.int x]) ++ List.replicate (1 - (lg_sl ([.int x])).length) Slot.unset).toArray = ls at hl ⊢
  have hl : lv_has ls 1 [(0, .int x)] := hl
  refine lv_iload_n hx hb dX1_needMany_0 rfl (lv_at hl 0 rfl) ?_
  refine lv_iconst (v := 1) hx hb dX1_needMany_1 (by decide) ?_
  refine lv_sipush (v := 200) hx hb dX1_needMany_2 (by decide) ?_
  refine ro_iE (va_runS (As := [.int x, .int 1, .int 200]) (rest := []) ⟨hx, hb, hml, hown, hts⟩ (c_X1_isOutside l x 1 200) (va_cwS 3 hts gX1_needMany_X1_isOutside rfl rfl rfl (by decide +kernel) ⟨Nat.le_of_ble_eq_true rfl, Nat.le_of_ble_eq_true rfl⟩) pre0 rfl rfl hl.1 rfl (lv_room (Nat.le_of_ble_eq_true rfl)) dX1_needMany_5 ⟨by decide, by decide⟩) ?_
  refine lv_if_eq (tgt := 21) hx hb dX1_needMany_8 (by decide) (fun c_8 => ?_) (fun c_8 => ?_)
  · skip
    have c_8 := bz_0 c_8
    refine W.widen (k := 1) (n := 6) (by decide) (by decide) ?_
    refine vx_ret ?_
    exact W.vret hx hb hr (fun t9 ht hW => ⟨rfl, by have e1 : ((1) : Int32).toInt = 1 := rfl; have e2 : (200 : Int32).toInt = 200 := rfl; unfold inR; omega, ht⟩) (fun q hq => absurd hq List.not_mem_nil) dX1_needMany_21
  · skip
    have c_8 := bz_1 c_8
    obtain ⟨sa9, hstr9⟩ := hC.2.2.1.1.2.2.2.2.2.2.2.2
    exact vx_throwS (A := Aw a) (cls := "java/lang/IllegalArgumentException") (text := "many is 1 to 200") (names := ["java/lang/RuntimeException", "java/lang/Exception"]) hx hb hst hown (by decide +kernel) (by decide +kernel) (hts (.classLink RX1 48 "java/lang/IllegalArgumentException") (by decide +kernel)) (hts (.initialized "java/lang/IllegalArgumentException") (by decide +kernel)) hstr9 (hat_eIA hC.2.2.1.2 hts (by decide +kernel)) (by decide +kernel) hC.2.2.2.1 hC.2.2.2.2 va_S.rf (by rw [hml]; exact hl.1) dX1_needMany_11 dX1_needMany_14 dX1_needMany_15 dX1_needMany_17 dX1_needMany_20 (fun x hx9 => (hout x hx9).elim) (by decide) (by decide) (by decide) (by decide) hlocks (fun t _ h1 h2 => ⟨⟨rfl, by have e1 : ((1) : Int32).toInt = 1 := rfl; have e2 : (200 : Int32).toInt = 200 := rfl; unfold inR; omega⟩, h1, fun q hq _ => h2 q hq⟩) (fun z hz => absurd hz List.not_mem_nil) (by decide) (by decide)

set_option maxHeartbeats 4000000 in
set_option maxRecDepth 100000 in
theorem c_X1_lengthAt (l : Launch) (D : va_G) (cI cJ : ClassId) (a : Nat → Nat) (k st : Nat) (fi : Int32) (fB fS fO : Nat → Int32) (fL : Nat → Int64) (c : Nat) (t : Int32) (y : Nat) (fW fD : Nat → Int32) (c2 t2 y2 : Int32) (gW gD : Nat → Int32) (i : Nat) (hi : i < 8) (hO : inM 8 (fO i)) : Met l yX1_lengthAt wsX1_lengthAt ({ frames := 0, cells := 0, slots := 0, locals := 0 }) (cP D [((a 0), .inr (1, [.ref (a 1), .ref (a 2), .ref (a 3), .ref (a 4), .ref (a 5), .ref (a 8), .int (nI k), .int (nI st), .int fi])), ((a 1), .inl (cI, 8, .inl fB)), ((a 2), .inl (cI, 8, .inl fS)), ((a 3), .inl (cJ, 8, .inr (.inl fL))), ((a 4), .inl (cI, 8, .inl fO)), ((a 5), .inr (0, [.ref (a 6), .ref (a 7), .int (nI c), .int t, .int (nI y)])), ((a 6), .inl (cI, 6, .inl fW)), ((a 7), .inl (cI, 6, .inl fD)), ((a 8), .inr (0, [.ref (a 9), .ref (a 10), .int c2, .int t2, .int y2])), ((a 9), .inl (cI, 6, .inl gW)), ((a 10), .inl (cI, 6, .inl gD))] (KM D cI cJ) [.ref (a 0), .int (nI i)]) (rol (fun r => r = lnA fL fO i)) 0 0 (fun _ => False) := by
  refine Met.ofW (cc := cX1_lengthAt) (maxL := 2) (ret := (some .long)) (by decide +kernel) rfl ?_
  intro p e s m args below meth c9 s₁ B hml hv
  obtain ⟨rfl, hP, hC⟩ := hv
  have hx := B.exec
  have hb := B.bytes
  have hr := B.returns
  have hts := atoms_spec (ws := wsX1_lengthAt) B.pre
  have hown : s.vm.findClass RX1 = some m.cls := findClass_of_methodNamed B.named
  have hlocks := B.notSynchronized
  have hK : va_K D vwCl [(cI, .int), (cJ, .long)] s := hC
  have hl := lv_entry ([.ref (a 0), .int (nI i)]) (n := 2) (Nat.le_of_ble_eq_true rfl)
  rw [lg_entry_eq]
  generalize (lg_sl ([.ref (a 0), .int (nI i)]) ++ List.replicate (2 - (lg_sl ([.ref (a 0), .int (nI i)])).length) Slot.unset).toArray = ls at hl ⊢
  have hl : lv_has ls 2 [(0, .ref (a 0)), (1, .int (nI i))] := hl
  have hiX1 : ∀ w ∈ u_ws RX1 TX1 9, w ∈ wsX1_lengthAt := by decide +kernel
  have hw16 : (Cond.fieldLink RX1 16 "OldMeasures" "lengths" "[J").before ([.ref (a 0), .int (nI i)] : List Value).toArray s = true := hts _ (by decide +kernel)
  have hw20 : (Cond.fieldLink RX1 20 "OldMeasures" "longestFirst" "[I").before ([.ref (a 0), .int (nI i)] : List Value).toArray s = true := hts _ (by decide +kernel)
  refine lv_aload_n hx hb dX1_lengthAt_0 rfl (lv_at hl 0 rfl) ?_
  refine va_get (D := D) (ci := 1) (v := .ref (a 3)) (C := RX1) (T := TX1) (N := 9) hx hb hts hiX1 hown hK hP 0 rfl rfl 2 (by decide) hw16 (fun _ h9 => h9) rfl dX1_lengthAt_1 ?_
  refine lv_aload_n hx hb dX1_lengthAt_4 rfl (lv_at hl 0 rfl) ?_
  refine va_get (D := D) (ci := 1) (v := .ref (a 4)) (C := RX1) (T := TX1) (N := 9) hx hb hts hiX1 hown hK hP 0 rfl rfl 3 (by decide) hw20 (fun _ h9 => h9) rfl dX1_lengthAt_5 ?_
  refine lv_iload_n hx hb dX1_lengthAt_8 rfl (lv_at hl 1 rfl) ?_
  refine xa_iald hx hb hK hP 4 0 rfl rfl (by omega) (by decide) dX1_lengthAt_9 ?_
  refine va_lald hx hb hK hP 3 1 rfl rfl (vp_in_iff.mpr hO) dX1_lengthAt_10 ?_
  exact W.lret (v := (fL (fO i).toNatClampNeg)) hx hb hr (fun t9 ht hW => ⟨_, rfl, rfl, ht⟩) (fun q hq => absurd hq List.not_mem_nil) dX1_lengthAt_11

set_option maxHeartbeats 4000000 in
set_option maxRecDepth 100000 in
theorem c_X1_greatestCommonDivisor (l : Launch) (u v : Nat) (hu : 0 < u) (hv : 0 < v) (hu2 : u < 2 ^ 40) (hv2 : v < 2 ^ 40) : Met l yX1_greatestCommonDivisor wsX1_greatestCommonDivisor ({ frames := 0, cells := 0, slots := 0, locals := 0 }) (va_Pc [.long (lN u), .long (lN v)] (fun _ => True)) (rol (fun r => r = lN (Nat.gcd u v))) 0 0 (fun _ => False) := by
  refine Met.ofW (cc := cX1_greatestCommonDivisor) (maxL := 11) (ret := (some .long)) (by decide +kernel) rfl ?_
  intro p e s m args below meth c9 s₁ B hml hv
  obtain ⟨rfl, -⟩ := hv
  have hx := B.exec
  have hb := B.bytes
  have hr := B.returns
  have hts := atoms_spec (ws := wsX1_greatestCommonDivisor) B.pre
  have hown : s.vm.findClass RX1 = some m.cls := findClass_of_methodNamed B.named
  have hlocks := B.notSynchronized
  have hl := lv_entry ([.long (lN u), .long (lN v)]) (n := 11) (Nat.le_of_ble_eq_true rfl)
  rw [lg_entry_eq]
  generalize (lg_sl ([.long (lN u), .long (lN v)]) ++ List.replicate (11 - (lg_sl ([.long (lN u), .long (lN v)])).length) Slot.unset).toArray = ls at hl ⊢
  have hl : lv_has ls 11 [(0, .long (lN u)), (2, .long (lN v))] := hl
  refine lv_lload_n hx hb dX1_greatestCommonDivisor_0 rfl (lv_at hl 0 rfl) ?_
  refine lv_lstore (lv' := [(4, .long (lN u)), (0, .long (lN u)), (2, .long (lN v))]) hx hb dX1_greatestCommonDivisor_1 hl (by decide) rfl (fun ls hl => ?_)
  refine lv_lload_n hx hb dX1_greatestCommonDivisor_3 rfl (lv_at hl 2 rfl) ?_
  refine lv_lstore (lv' := [(6, .long (lN v)), (4, .long (lN u)), (0, .long (lN u)), (2, .long (lN v))]) hx hb dX1_greatestCommonDivisor_4 hl (by decide) rfl (fun ls hl => ?_)
  refine lv_iconst (v := 0) hx hb dX1_greatestCommonDivisor_6 (by decide) ?_
  refine lv_istore (lv' := [(8, .int 0), (6, .long (lN v)), (4, .long (lN u)), (0, .long (lN u)), (2, .long (lN v))]) hx hb dX1_greatestCommonDivisor_7 hl (by decide) rfl (fun ls hl => ?_)
  refine loopR (σ := (Nat × Nat)) (I := fun i x ls => lv_has ls 11 [(4, .long (lN x.1)), (6, .long (lN x.2)), (8, .int (nI i))] ∧ (0 < x.1) ∧ (Nat.gcd x.1 x.2 = Nat.gcd u v) ∧ (x.1 < 2 ^ 40 ∧ x.2 < 2 ^ 40) ∧ ((i = 0 ∨ (x.2 < x.1 ∧ x.1 * x.2 * 2 ^ (i - 1) < 2 ^ 80)))) 100 ?_ 0 (u, v) ls (by omega) ⟨lv_sub hl [2, 1, 0] rfl, hu, rfl, ⟨hu2, hv2⟩, Or.inl rfl⟩
  intro i x ls hi hI kk
  obtain ⟨hl, h1, h2, h3, h4⟩ := hI
  refine lv_iload hx hb dX1_greatestCommonDivisor_9 (lv_at hl 2 rfl) ?_
  refine lv_bipush (v := 100) hx hb dX1_greatestCommonDivisor_11 (by decide) ?_
  refine lv_icmp_ge (tgt := 44) hx hb dX1_greatestCommonDivisor_13 (by decide) (fun c_13 => ?_) (fun c_13 => ?_)
  · skip
    simp only [Int32.le_iff_toInt_le] at c_13
    rw [nI_toInt (n := i) (by omega)] at c_13
    rw [(by decide : (100 : Int32).toInt = 100)] at c_13
    have h0 : x.2 = 0 := by
      have e9 : i = 100 := by omega
      subst e9
      rcases h4 with h4 | h4
      · omega
      · exact eu_end h1 h4.2
    refine lv_lload hx hb dX1_greatestCommonDivisor_44 (lv_at hl 0 rfl) ?_
    exact W.lret (v := (lN x.1)) hx hb hr (fun t9 ht hW => ⟨_, rfl, by rw [← h2, h0, Nat.gcd_zero_right], ht⟩) (fun q hq => absurd hq List.not_mem_nil) dX1_greatestCommonDivisor_46
  · skip
    simp only [Int32.le_iff_toInt_le] at c_13
    rw [nI_toInt (n := i) (by omega)] at c_13
    rw [(by decide : (100 : Int32).toInt = 100)] at c_13
    refine lv_lload hx hb dX1_greatestCommonDivisor_16 (lv_at hl 1 rfl) ?_
    refine lv_lconst (v := 0) hx hb dX1_greatestCommonDivisor_18 (by decide) ?_
    refine W.lcmp hx hb dX1_greatestCommonDivisor_19 ?_
    refine lv_if_le (tgt := 44) hx hb dX1_greatestCommonDivisor_20 (by decide) (fun c_20 => ?_) (fun c_20 => ?_)
    · skip
      have c_20 := (lgc_le _ _).mp c_20
      have h0 : x.2 = 0 := by
        rw [pk_lT (Nat.lt_trans h3.2 (by decide)), show (0 : Int64).toInt = 0 from rfl] at c_20
        omega
      refine lv_lload hx hb dX1_greatestCommonDivisor_44 (lv_at hl 0 rfl) ?_
      exact W.lret (v := (lN x.1)) hx hb hr (fun t9 ht hW => ⟨_, rfl, by rw [← h2, h0, Nat.gcd_zero_right], ht⟩) (fun q hq => absurd hq List.not_mem_nil) dX1_greatestCommonDivisor_46
    · skip
      have c_20 := (not_congr (lgc_le _ _)).mp c_20
      have hbp : 0 < x.2 := by
        rw [pk_lT (Nat.lt_trans h3.2 (by decide)), show (0 : Int64).toInt = 0 from rfl] at c_20
        omega
      refine lv_lload hx hb dX1_greatestCommonDivisor_23 (lv_at hl 0 rfl) ?_
      refine lv_lload hx hb dX1_greatestCommonDivisor_25 (lv_at hl 1 rfl) ?_
      refine lv_lrem hx hb dX1_greatestCommonDivisor_27 (lN_ne0 hbp (Nat.lt_trans h3.2 (by decide))) ?_
      refine topL (pk_lRem (Nat.lt_trans h3.1 (by decide)) hbp (Nat.lt_trans h3.2 (by decide))) ?_
      refine lv_lstore (lv' := [(9, .long (lN (x.1 % x.2))), (4, .long (lN x.1)), (6, .long (lN x.2)), (8, .int (nI i))]) hx hb dX1_greatestCommonDivisor_28 hl (by decide) rfl (fun ls hl => ?_)
      refine lv_lload hx hb dX1_greatestCommonDivisor_30 (lv_at hl 2 rfl) ?_
      refine lv_lstore (lv' := [(4, .long (lN x.2)), (9, .long (lN (x.1 % x.2))), (6, .long (lN x.2)), (8, .int (nI i))]) hx hb dX1_greatestCommonDivisor_32 hl (by decide) rfl (fun ls hl => ?_)
      refine lv_lload hx hb dX1_greatestCommonDivisor_34 (lv_at hl 1 rfl) ?_
      refine lv_lstore (lv' := [(6, .long (lN (x.1 % x.2))), (4, .long (lN x.2)), (9, .long (lN (x.1 % x.2))), (8, .int (nI i))]) hx hb dX1_greatestCommonDivisor_36 hl (by decide) rfl (fun ls hl => ?_)
      refine lv_iinc (v := (nI (i + 1))) (lv' := [(8, .int (nI (i + 1))), (6, .long (lN (x.1 % x.2))), (4, .long (lN x.2)), (9, .long (lN (x.1 % x.2)))]) hx hb dX1_greatestCommonDivisor_38 hl (k := 3) rfl (nI_inc i) (by decide) rfl (fun ls hl => ?_)
      refine lv_goto (tgt := 9) hx hb dX1_greatestCommonDivisor_41 (by decide) ?_
      exact kk (x.2, x.1 % x.2) ls (by omega) ⟨lv_sub hl [2, 1, 0] rfl, hbp, by rw [← h2, Nat.gcd_comm x.1 x.2, Nat.gcd_rec x.2 x.1, Nat.gcd_comm], ⟨h3.2, Nat.lt_trans (Nat.mod_lt _ hbp) h3.2⟩, Or.inr (eu_step hbp h3.1 h3.2 h4)⟩

set_option maxHeartbeats 4000000 in
set_option maxRecDepth 100000 in
theorem c_X1_withoutCommonDivisor (l : Launch) (u v : Nat) (hu : 0 < u) (hv : 0 < v) (hu2 : u < 2 ^ 40) (hv2 : v < 2 ^ 40) : Met l yX1_withoutCommonDivisor wsX1_withoutCommonDivisor ({ frames := 1, cells := 0, slots := 0, locals := 30 }) (va_Pc [.long (lN u), .long (lN v)] (fun _ => True)) (rol (fun r => r = lN (u / Nat.gcd u v))) 0 0 (fun _ => False) := by
  refine Met.ofW (cc := cX1_withoutCommonDivisor) (maxL := 4) (ret := (some .long)) (by decide +kernel) rfl ?_
  intro p e s m args below meth c9 s₁ B hml hv
  obtain ⟨rfl, -⟩ := hv
  have hx := B.exec
  have hb := B.bytes
  have hr := B.returns
  have hts := atoms_spec (ws := wsX1_withoutCommonDivisor) B.pre
  have hown : s.vm.findClass RX1 = some m.cls := findClass_of_methodNamed B.named
  have hlocks := B.notSynchronized
  have hl := lv_entry ([.long (lN u), .long (lN v)]) (n := 4) (Nat.le_of_ble_eq_true rfl)
  rw [lg_entry_eq]
  generalize (lg_sl ([.long (lN u), .long (lN v)]) ++ List.replicate (4 - (lg_sl ([.long (lN u), .long (lN v)])).length) Slot.unset).toArray = ls at hl ⊢
  have hl : lv_has ls 4 [(0, .long (lN u)), (2, .long (lN v))] := hl
  refine lv_lload_n hx hb dX1_withoutCommonDivisor_0 rfl (lv_at hl 0 rfl) ?_
  refine lv_lload_n hx hb dX1_withoutCommonDivisor_1 rfl (lv_at hl 0 rfl) ?_
  refine lv_lload_n hx hb dX1_withoutCommonDivisor_2 rfl (lv_at hl 1 rfl) ?_
  refine ro_lE (va_runS (As := [.long (lN u), .long (lN v)]) (rest := [.long (lN u)]) ⟨hx, hb, hml, hown, hts⟩ (c_X1_greatestCommonDivisor l u v hu hv hu2 hv2) (va_cwS 2 hts gX1_withoutCommonDivisor_X1_greatestCommonDivisor rfl rfl rfl (by decide +kernel) ⟨Nat.le_of_ble_eq_true rfl, Nat.le_of_ble_eq_true rfl⟩) pre0 rfl rfl hl.1 rfl (lv_room (Nat.le_of_ble_eq_true rfl)) dX1_withoutCommonDivisor_3 ⟨by decide, by decide⟩) ?_
  refine ro_lE (va_runS (As := [.long (lN u), .long (lN (Nat.gcd u v))]) (rest := []) ⟨hx, hb, hml, hown, hts⟩ (c_X1_timesIn l (lN u) (lN (Nat.gcd u v)) (by rw [pk_lT (Nat.lt_of_le_of_lt (Nat.gcd_le_left v hu) (Nat.lt_trans hu2 (by decide)))]; exact Int.ofNat_lt.mpr (Nat.gcd_pos_of_pos_left v hu))) (va_cwS 2 hts gX1_withoutCommonDivisor_X1_timesIn rfl rfl rfl (by decide +kernel) ⟨Nat.le_of_ble_eq_true rfl, Nat.le_of_ble_eq_true rfl⟩) pre0 rfl rfl hl.1 rfl (lv_room (Nat.le_of_ble_eq_true rfl)) dX1_withoutCommonDivisor_6 ⟨by decide, by decide⟩) ?_
  refine topL (pk_lDiv (Nat.lt_trans hu2 (by decide)) (Nat.gcd_pos_of_pos_left v hu) (Nat.lt_of_le_of_lt (Nat.gcd_le_left v hu) (Nat.lt_trans hu2 (by decide)))) ?_
  exact W.lret (v := (lN (u / Nat.gcd u v))) hx hb hr (fun t9 ht hW => ⟨_, rfl, rfl, ht⟩) (fun q hq => absurd hq List.not_mem_nil) dX1_withoutCommonDivisor_9

set_option maxHeartbeats 4000000 in
set_option maxRecDepth 100000 in
theorem c_X1_measures (l : Launch) (D : va_G) (cI cJ : ClassId) (a : Nat → Nat) (k st : Nat) (fi : Int32) (fB fS fO : Nat → Int32) (fL : Nat → Int64) (c : Nat) (t : Int32) (y : Nat) (fW fD : Nat → Int32) (c2 t2 y2 : Int32) (gW gD : Nat → Int32) : Met l yX1_measures wsX1_measures ({ frames := 0, cells := 0, slots := 0, locals := 0 }) (cP D [((a 0), .inr (1, [.ref (a 1), .ref (a 2), .ref (a 3), .ref (a 4), .ref (a 5), .ref (a 8), .int (nI k), .int (nI st), .int fi])), ((a 1), .inl (cI, 8, .inl fB)), ((a 2), .inl (cI, 8, .inl fS)), ((a 3), .inl (cJ, 8, .inr (.inl fL))), ((a 4), .inl (cI, 8, .inl fO)), ((a 5), .inr (0, [.ref (a 6), .ref (a 7), .int (nI c), .int t, .int (nI y)])), ((a 6), .inl (cI, 6, .inl fW)), ((a 7), .inl (cI, 6, .inl fD)), ((a 8), .inr (0, [.ref (a 9), .ref (a 10), .int c2, .int t2, .int y2])), ((a 9), .inl (cI, 6, .inl gW)), ((a 10), .inl (cI, 6, .inl gD))] (KC D cI cJ a) [.ref (a 0)]) (roi (fun r => r = nI k)) 0 0 (fun _ => False) := by
  refine Met.ofW (cc := cX1_measures) (maxL := 1) (ret := (some .int)) (by decide +kernel) rfl ?_
  intro p e s m args below meth c9 s₁ B hml hv
  obtain ⟨rfl, hP, hC⟩ := hv
  have hx := B.exec
  have hb := B.bytes
  have hr := B.returns
  have hts := atoms_spec (ws := wsX1_measures) B.pre
  have hown : s.vm.findClass RX1 = some m.cls := findClass_of_methodNamed B.named
  have hlocks := B.notSynchronized
  have hK : va_K D vwCl [(cI, .int), (cJ, .long)] s := hC.1
  have hl := lv_entry ([.ref (a 0)]) (n := 1) (Nat.le_of_ble_eq_true rfl)
  rw [lg_entry_eq]
  generalize (lg_sl ([.ref (a 0)]) ++ List.replicate (1 - (lg_sl ([.ref (a 0)])).length) Slot.unset).toArray = ls at hl ⊢
  have hl : lv_has ls 1 [(0, .ref (a 0))] := hl
  have hiX1 : ∀ w ∈ u_ws RX1 TX1 9, w ∈ wsX1_measures := by decide +kernel
  have hw33 : (Cond.fieldLink RX1 33 "OldMeasures" "measureCount" "I").before ([.ref (a 0)] : List Value).toArray s = true := hts _ (by decide +kernel)
  refine lv_aload_n hx hb dX1_measures_0 rfl (lv_at hl 0 rfl) ?_
  refine va_get (D := D) (ci := 1) (v := .int (nI k)) (C := RX1) (T := TX1) (N := 9) hx hb hts hiX1 hown hK hP 0 rfl rfl 6 (by decide) hw33 (fun _ h9 => h9) rfl dX1_measures_1 ?_
  exact W.iret (v := (nI k)) hx hb hr (fun t9 ht hW => ⟨_, rfl, rfl, ht⟩) (fun q hq => absurd hq List.not_mem_nil) dX1_measures_4

set_option maxHeartbeats 4000000 in
set_option maxRecDepth 100000 in
theorem c_X1_stalls (l : Launch) (D : va_G) (cI cJ : ClassId) (a : Nat → Nat) (k st : Nat) (fi : Int32) (fB fS fO : Nat → Int32) (fL : Nat → Int64) (c : Nat) (t : Int32) (y : Nat) (fW fD : Nat → Int32) (c2 t2 y2 : Int32) (gW gD : Nat → Int32) : Met l yX1_stalls wsX1_stalls ({ frames := 0, cells := 0, slots := 0, locals := 0 }) (cP D [((a 0), .inr (1, [.ref (a 1), .ref (a 2), .ref (a 3), .ref (a 4), .ref (a 5), .ref (a 8), .int (nI k), .int (nI st), .int fi])), ((a 1), .inl (cI, 8, .inl fB)), ((a 2), .inl (cI, 8, .inl fS)), ((a 3), .inl (cJ, 8, .inr (.inl fL))), ((a 4), .inl (cI, 8, .inl fO)), ((a 5), .inr (0, [.ref (a 6), .ref (a 7), .int (nI c), .int t, .int (nI y)])), ((a 6), .inl (cI, 6, .inl fW)), ((a 7), .inl (cI, 6, .inl fD)), ((a 8), .inr (0, [.ref (a 9), .ref (a 10), .int c2, .int t2, .int y2])), ((a 9), .inl (cI, 6, .inl gW)), ((a 10), .inl (cI, 6, .inl gD))] (KC D cI cJ a) [.ref (a 0)]) (roi (fun r => r = nI c)) 0 0 (fun _ => False) := by
  refine Met.ofW (cc := cX1_stalls) (maxL := 1) (ret := (some .int)) (by decide +kernel) rfl ?_
  intro p e s m args below meth c9 s₁ B hml hv
  obtain ⟨rfl, hP, hC⟩ := hv
  have hx := B.exec
  have hb := B.bytes
  have hr := B.returns
  have hts := atoms_spec (ws := wsX1_stalls) B.pre
  have hown : s.vm.findClass RX1 = some m.cls := findClass_of_methodNamed B.named
  have hlocks := B.notSynchronized
  have hK : va_K D vwCl [(cI, .int), (cJ, .long)] s := hC.1
  have hl := lv_entry ([.ref (a 0)]) (n := 1) (Nat.le_of_ble_eq_true rfl)
  rw [lg_entry_eq]
  generalize (lg_sl ([.ref (a 0)]) ++ List.replicate (1 - (lg_sl ([.ref (a 0)])).length) Slot.unset).toArray = ls at hl ⊢
  have hl : lv_has ls 1 [(0, .ref (a 0))] := hl
  have hiX0 : ∀ w ∈ u_ws RX0 TX0 5, w ∈ wsX1_stalls := by decide +kernel
  have hiX1 : ∀ w ∈ u_ws RX1 TX1 9, w ∈ wsX1_stalls := by decide +kernel
  have hw26 : (Cond.fieldLink RX1 26 "OldMeasures" "stalls" "LOldMeasures$Stalls;").before ([.ref (a 0)] : List Value).toArray s = true := hts _ (by decide +kernel)
  refine lv_aload_n hx hb dX1_stalls_0 rfl (lv_at hl 0 rfl) ?_
  refine va_get (D := D) (ci := 1) (v := .ref (a 5)) (C := RX1) (T := TX1) (N := 9) hx hb hts hiX1 hown hK hP 0 rfl rfl 4 (by decide) hw26 (fun _ h9 => h9) rfl dX1_stalls_1 ?_
  refine va_getN (host := RX1) (D := D) (ci := 0) (v := .int (nI c)) (C := RX0) (T := TX0) (N := 5) hx hb hts hiX0 hown hK hP 5 rfl rfl 2 (by decide) (va_Nw.use rfl hC.2.1.1) (fun _ h9 => h9) rfl dX1_stalls_4 ?_
  exact W.iret (v := (nI c)) hx hb hr (fun t9 ht hW => ⟨_, rfl, rfl, ht⟩) (fun q hq => absurd hq List.not_mem_nil) dX1_stalls_7

set_option maxHeartbeats 4000000 in
set_option maxRecDepth 100000 in
theorem c_X1_days (l : Launch) (D : va_G) (cI cJ : ClassId) (a : Nat → Nat) (k st : Nat) (fi : Int32) (fB fS fO : Nat → Int32) (fL : Nat → Int64) (c : Nat) (t : Int32) (y : Nat) (fW fD : Nat → Int32) (c2 t2 y2 : Int32) (gW gD : Nat → Int32) : Met l yX1_days wsX1_days ({ frames := 0, cells := 0, slots := 0, locals := 0 }) (cP D [((a 0), .inr (1, [.ref (a 1), .ref (a 2), .ref (a 3), .ref (a 4), .ref (a 5), .ref (a 8), .int (nI k), .int (nI st), .int fi])), ((a 1), .inl (cI, 8, .inl fB)), ((a 2), .inl (cI, 8, .inl fS)), ((a 3), .inl (cJ, 8, .inr (.inl fL))), ((a 4), .inl (cI, 8, .inl fO)), ((a 5), .inr (0, [.ref (a 6), .ref (a 7), .int (nI c), .int t, .int (nI y)])), ((a 6), .inl (cI, 6, .inl fW)), ((a 7), .inl (cI, 6, .inl fD)), ((a 8), .inr (0, [.ref (a 9), .ref (a 10), .int c2, .int t2, .int y2])), ((a 9), .inl (cI, 6, .inl gW)), ((a 10), .inl (cI, 6, .inl gD))] (KC D cI cJ a) [.ref (a 0)]) (roi (fun r => r = nI y)) 0 0 (fun _ => False) := by
  refine Met.ofW (cc := cX1_days) (maxL := 1) (ret := (some .int)) (by decide +kernel) rfl ?_
  intro p e s m args below meth c9 s₁ B hml hv
  obtain ⟨rfl, hP, hC⟩ := hv
  have hx := B.exec
  have hb := B.bytes
  have hr := B.returns
  have hts := atoms_spec (ws := wsX1_days) B.pre
  have hown : s.vm.findClass RX1 = some m.cls := findClass_of_methodNamed B.named
  have hlocks := B.notSynchronized
  have hK : va_K D vwCl [(cI, .int), (cJ, .long)] s := hC.1
  have hl := lv_entry ([.ref (a 0)]) (n := 1) (Nat.le_of_ble_eq_true rfl)
  rw [lg_entry_eq]
  generalize (lg_sl ([.ref (a 0)]) ++ List.replicate (1 - (lg_sl ([.ref (a 0)])).length) Slot.unset).toArray = ls at hl ⊢
  have hl : lv_has ls 1 [(0, .ref (a 0))] := hl
  have hiX0 : ∀ w ∈ u_ws RX0 TX0 5, w ∈ wsX1_days := by decide +kernel
  have hiX1 : ∀ w ∈ u_ws RX1 TX1 9, w ∈ wsX1_days := by decide +kernel
  have hw26 : (Cond.fieldLink RX1 26 "OldMeasures" "stalls" "LOldMeasures$Stalls;").before ([.ref (a 0)] : List Value).toArray s = true := hts _ (by decide +kernel)
  refine lv_aload_n hx hb dX1_days_0 rfl (lv_at hl 0 rfl) ?_
  refine va_get (D := D) (ci := 1) (v := .ref (a 5)) (C := RX1) (T := TX1) (N := 9) hx hb hts hiX1 hown hK hP 0 rfl rfl 4 (by decide) hw26 (fun _ h9 => h9) rfl dX1_days_1 ?_
  refine va_getN (host := RX1) (D := D) (ci := 0) (v := .int (nI y)) (C := RX0) (T := TX0) (N := 5) hx hb hts hiX0 hown hK hP 5 rfl rfl 4 (by decide) (va_Nw.use rfl hC.2.1.2.2.2.2.1) (fun _ h9 => h9) rfl dX1_days_4 ?_
  exact W.iret (v := (nI y)) hx hb hr (fun t9 ht hW => ⟨_, rfl, rfl, ht⟩) (fun q hq => absurd hq List.not_mem_nil) dX1_days_7

set_option maxHeartbeats 4000000 in
set_option maxRecDepth 100000 in
theorem c_X1_standard (l : Launch) (D : va_G) (cI cJ : ClassId) (a : Nat → Nat) (k st : Nat) (fi : Int32) (fB fS fO : Nat → Int32) (fL : Nat → Int64) (c : Nat) (t : Int32) (y : Nat) (fW fD : Nat → Int32) (c2 t2 y2 : Int32) (gW gD : Nat → Int32) : Met l yX1_standard wsX1_standard ({ frames := 0, cells := 0, slots := 0, locals := 0 }) (cP D [((a 0), .inr (1, [.ref (a 1), .ref (a 2), .ref (a 3), .ref (a 4), .ref (a 5), .ref (a 8), .int (nI k), .int (nI st), .int fi])), ((a 1), .inl (cI, 8, .inl fB)), ((a 2), .inl (cI, 8, .inl fS)), ((a 3), .inl (cJ, 8, .inr (.inl fL))), ((a 4), .inl (cI, 8, .inl fO)), ((a 5), .inr (0, [.ref (a 6), .ref (a 7), .int (nI c), .int t, .int (nI y)])), ((a 6), .inl (cI, 6, .inl fW)), ((a 7), .inl (cI, 6, .inl fD)), ((a 8), .inr (0, [.ref (a 9), .ref (a 10), .int c2, .int t2, .int y2])), ((a 9), .inl (cI, 6, .inl gW)), ((a 10), .inl (cI, 6, .inl gD))] (KC D cI cJ a) [.ref (a 0)]) (roi (fun r => r = nI st)) 0 0 (fun _ => False) := by
  refine Met.ofW (cc := cX1_standard) (maxL := 1) (ret := (some .int)) (by decide +kernel) rfl ?_
  intro p e s m args below meth c9 s₁ B hml hv
  obtain ⟨rfl, hP, hC⟩ := hv
  have hx := B.exec
  have hb := B.bytes
  have hr := B.returns
  have hts := atoms_spec (ws := wsX1_standard) B.pre
  have hown : s.vm.findClass RX1 = some m.cls := findClass_of_methodNamed B.named
  have hlocks := B.notSynchronized
  have hK : va_K D vwCl [(cI, .int), (cJ, .long)] s := hC.1
  have hl := lv_entry ([.ref (a 0)]) (n := 1) (Nat.le_of_ble_eq_true rfl)
  rw [lg_entry_eq]
  generalize (lg_sl ([.ref (a 0)]) ++ List.replicate (1 - (lg_sl ([.ref (a 0)])).length) Slot.unset).toArray = ls at hl ⊢
  have hl : lv_has ls 1 [(0, .ref (a 0))] := hl
  have hiX1 : ∀ w ∈ u_ws RX1 TX1 9, w ∈ wsX1_standard := by decide +kernel
  have hw37 : (Cond.fieldLink RX1 37 "OldMeasures" "standard" "I").before ([.ref (a 0)] : List Value).toArray s = true := hts _ (by decide +kernel)
  refine lv_aload_n hx hb dX1_standard_0 rfl (lv_at hl 0 rfl) ?_
  refine va_get (D := D) (ci := 1) (v := .int (nI st)) (C := RX1) (T := TX1) (N := 9) hx hb hts hiX1 hown hK hP 0 rfl rfl 7 (by decide) hw37 (fun _ h9 => h9) rfl dX1_standard_1 ?_
  exact W.iret (v := (nI st)) hx hb hr (fun t9 ht hW => ⟨_, rfl, rfl, ht⟩) (fun q hq => absurd hq List.not_mem_nil) dX1_standard_4

set_option maxHeartbeats 4000000 in
set_option maxRecDepth 100000 in
theorem c_X1_tolerance (l : Launch) (D : va_G) (cI cJ : ClassId) (a : Nat → Nat) (k st : Nat) (fi : Int32) (fB fS fO : Nat → Int32) (fL : Nat → Int64) (c : Nat) (t : Int32) (y : Nat) (fW fD : Nat → Int32) (c2 t2 y2 : Int32) (gW gD : Nat → Int32) : Met l yX1_tolerance wsX1_tolerance ({ frames := 0, cells := 0, slots := 0, locals := 0 }) (cP D [((a 0), .inr (1, [.ref (a 1), .ref (a 2), .ref (a 3), .ref (a 4), .ref (a 5), .ref (a 8), .int (nI k), .int (nI st), .int fi])), ((a 1), .inl (cI, 8, .inl fB)), ((a 2), .inl (cI, 8, .inl fS)), ((a 3), .inl (cJ, 8, .inr (.inl fL))), ((a 4), .inl (cI, 8, .inl fO)), ((a 5), .inr (0, [.ref (a 6), .ref (a 7), .int (nI c), .int t, .int (nI y)])), ((a 6), .inl (cI, 6, .inl fW)), ((a 7), .inl (cI, 6, .inl fD)), ((a 8), .inr (0, [.ref (a 9), .ref (a 10), .int c2, .int t2, .int y2])), ((a 9), .inl (cI, 6, .inl gW)), ((a 10), .inl (cI, 6, .inl gD))] (KC D cI cJ a) [.ref (a 0)]) (roi (fun r => r = t)) 0 0 (fun _ => False) := by
  refine Met.ofW (cc := cX1_tolerance) (maxL := 1) (ret := (some .int)) (by decide +kernel) rfl ?_
  intro p e s m args below meth c9 s₁ B hml hv
  obtain ⟨rfl, hP, hC⟩ := hv
  have hx := B.exec
  have hb := B.bytes
  have hr := B.returns
  have hts := atoms_spec (ws := wsX1_tolerance) B.pre
  have hown : s.vm.findClass RX1 = some m.cls := findClass_of_methodNamed B.named
  have hlocks := B.notSynchronized
  have hK : va_K D vwCl [(cI, .int), (cJ, .long)] s := hC.1
  have hl := lv_entry ([.ref (a 0)]) (n := 1) (Nat.le_of_ble_eq_true rfl)
  rw [lg_entry_eq]
  generalize (lg_sl ([.ref (a 0)]) ++ List.replicate (1 - (lg_sl ([.ref (a 0)])).length) Slot.unset).toArray = ls at hl ⊢
  have hl : lv_has ls 1 [(0, .ref (a 0))] := hl
  have hiX0 : ∀ w ∈ u_ws RX0 TX0 5, w ∈ wsX1_tolerance := by decide +kernel
  have hiX1 : ∀ w ∈ u_ws RX1 TX1 9, w ∈ wsX1_tolerance := by decide +kernel
  have hw26 : (Cond.fieldLink RX1 26 "OldMeasures" "stalls" "LOldMeasures$Stalls;").before ([.ref (a 0)] : List Value).toArray s = true := hts _ (by decide +kernel)
  refine lv_aload_n hx hb dX1_tolerance_0 rfl (lv_at hl 0 rfl) ?_
  refine va_get (D := D) (ci := 1) (v := .ref (a 5)) (C := RX1) (T := TX1) (N := 9) hx hb hts hiX1 hown hK hP 0 rfl rfl 4 (by decide) hw26 (fun _ h9 => h9) rfl dX1_tolerance_1 ?_
  refine va_getN (host := RX1) (D := D) (ci := 0) (v := .int t) (C := RX0) (T := TX0) (N := 5) hx hb hts hiX0 hown hK hP 5 rfl rfl 3 (by decide) (va_Nw.use rfl hC.2.1.2.2.2.1) (fun _ h9 => h9) rfl dX1_tolerance_4 ?_
  exact W.iret (v := t) hx hb hr (fun t9 ht hW => ⟨_, rfl, rfl, ht⟩) (fun q hq => absurd hq List.not_mem_nil) dX1_tolerance_7

set_option maxHeartbeats 4000000 in
set_option maxRecDepth 100000 in
theorem c_X1_fines (l : Launch) (D : va_G) (cI cJ : ClassId) (a : Nat → Nat) (k st : Nat) (fi : Int32) (fB fS fO : Nat → Int32) (fL : Nat → Int64) (c : Nat) (t : Int32) (y : Nat) (fW fD : Nat → Int32) (c2 t2 y2 : Int32) (gW gD : Nat → Int32) : Met l yX1_fines wsX1_fines ({ frames := 0, cells := 0, slots := 0, locals := 0 }) (cP D [((a 0), .inr (1, [.ref (a 1), .ref (a 2), .ref (a 3), .ref (a 4), .ref (a 5), .ref (a 8), .int (nI k), .int (nI st), .int fi])), ((a 1), .inl (cI, 8, .inl fB)), ((a 2), .inl (cI, 8, .inl fS)), ((a 3), .inl (cJ, 8, .inr (.inl fL))), ((a 4), .inl (cI, 8, .inl fO)), ((a 5), .inr (0, [.ref (a 6), .ref (a 7), .int (nI c), .int t, .int (nI y)])), ((a 6), .inl (cI, 6, .inl fW)), ((a 7), .inl (cI, 6, .inl fD)), ((a 8), .inr (0, [.ref (a 9), .ref (a 10), .int c2, .int t2, .int y2])), ((a 9), .inl (cI, 6, .inl gW)), ((a 10), .inl (cI, 6, .inl gD))] (KC D cI cJ a) [.ref (a 0)]) (roi (fun r => r = fi)) 0 0 (fun _ => False) := by
  refine Met.ofW (cc := cX1_fines) (maxL := 1) (ret := (some .int)) (by decide +kernel) rfl ?_
  intro p e s m args below meth c9 s₁ B hml hv
  obtain ⟨rfl, hP, hC⟩ := hv
  have hx := B.exec
  have hb := B.bytes
  have hr := B.returns
  have hts := atoms_spec (ws := wsX1_fines) B.pre
  have hown : s.vm.findClass RX1 = some m.cls := findClass_of_methodNamed B.named
  have hlocks := B.notSynchronized
  have hK : va_K D vwCl [(cI, .int), (cJ, .long)] s := hC.1
  have hl := lv_entry ([.ref (a 0)]) (n := 1) (Nat.le_of_ble_eq_true rfl)
  rw [lg_entry_eq]
  generalize (lg_sl ([.ref (a 0)]) ++ List.replicate (1 - (lg_sl ([.ref (a 0)])).length) Slot.unset).toArray = ls at hl ⊢
  have hl : lv_has ls 1 [(0, .ref (a 0))] := hl
  have hiX1 : ∀ w ∈ u_ws RX1 TX1 9, w ∈ wsX1_fines := by decide +kernel
  have hw95 : (Cond.fieldLink RX1 95 "OldMeasures" "fines" "I").before ([.ref (a 0)] : List Value).toArray s = true := hts _ (by decide +kernel)
  refine lv_aload_n hx hb dX1_fines_0 rfl (lv_at hl 0 rfl) ?_
  refine va_get (D := D) (ci := 1) (v := .int fi) (C := RX1) (T := TX1) (N := 9) hx hb hts hiX1 hown hK hP 0 rfl rfl 8 (by decide) hw95 (fun _ h9 => h9) rfl dX1_fines_1 ?_
  exact W.iret (v := fi) hx hb hr (fun t9 ht hW => ⟨_, rfl, rfl, ht⟩) (fun q hq => absurd hq List.not_mem_nil) dX1_fines_4

set_option maxHeartbeats 4000000 in
set_option maxRecDepth 100000 in
theorem c_X1_longest (l : Launch) (D : va_G) (cI cJ : ClassId) (a : Nat → Nat) (k st : Nat) (fi : Int32) (fB fS fO : Nat → Int32) (fL : Nat → Int64) (c : Nat) (t : Int32) (y : Nat) (fW fD : Nat → Int32) (c2 t2 y2 : Int32) (gW gD : Nat → Int32) : Met l yX1_longest wsX1_longest ({ frames := 0, cells := 0, slots := 0, locals := 0 }) (cP D [((a 0), .inr (1, [.ref (a 1), .ref (a 2), .ref (a 3), .ref (a 4), .ref (a 5), .ref (a 8), .int (nI k), .int (nI st), .int fi])), ((a 1), .inl (cI, 8, .inl fB)), ((a 2), .inl (cI, 8, .inl fS)), ((a 3), .inl (cJ, 8, .inr (.inl fL))), ((a 4), .inl (cI, 8, .inl fO)), ((a 5), .inr (0, [.ref (a 6), .ref (a 7), .int (nI c), .int t, .int (nI y)])), ((a 6), .inl (cI, 6, .inl fW)), ((a 7), .inl (cI, 6, .inl fD)), ((a 8), .inr (0, [.ref (a 9), .ref (a 10), .int c2, .int t2, .int y2])), ((a 9), .inl (cI, 6, .inl gW)), ((a 10), .inl (cI, 6, .inl gD))] (KC D cI cJ a) [.ref (a 0)]) (roi (fun r => r = fO 0)) 0 0 (fun _ => False) := by
  refine Met.ofW (cc := cX1_longest) (maxL := 1) (ret := (some .int)) (by decide +kernel) rfl ?_
  intro p e s m args below meth c9 s₁ B hml hv
  obtain ⟨rfl, hP, hC⟩ := hv
  have hx := B.exec
  have hb := B.bytes
  have hr := B.returns
  have hts := atoms_spec (ws := wsX1_longest) B.pre
  have hown : s.vm.findClass RX1 = some m.cls := findClass_of_methodNamed B.named
  have hlocks := B.notSynchronized
  have hK : va_K D vwCl [(cI, .int), (cJ, .long)] s := hC.1
  have hl := lv_entry ([.ref (a 0)]) (n := 1) (Nat.le_of_ble_eq_true rfl)
  rw [lg_entry_eq]
  generalize (lg_sl ([.ref (a 0)]) ++ List.replicate (1 - (lg_sl ([.ref (a 0)])).length) Slot.unset).toArray = ls at hl ⊢
  have hl : lv_has ls 1 [(0, .ref (a 0))] := hl
  have hiX1 : ∀ w ∈ u_ws RX1 TX1 9, w ∈ wsX1_longest := by decide +kernel
  have hw20 : (Cond.fieldLink RX1 20 "OldMeasures" "longestFirst" "[I").before ([.ref (a 0)] : List Value).toArray s = true := hts _ (by decide +kernel)
  refine lv_aload_n hx hb dX1_longest_0 rfl (lv_at hl 0 rfl) ?_
  refine va_get (D := D) (ci := 1) (v := .ref (a 4)) (C := RX1) (T := TX1) (N := 9) hx hb hts hiX1 hown hK hP 0 rfl rfl 3 (by decide) hw20 (fun _ h9 => h9) rfl dX1_longest_1 ?_
  refine lv_iconst (v := 0) hx hb dX1_longest_4 (by decide) ?_
  refine topI (y := nI 0) rfl ?_
  refine xa_iald hx hb hK hP 4 0 rfl rfl (by omega) (by decide) dX1_longest_5 ?_
  exact W.iret (v := (fO 0)) hx hb hr (fun t9 ht hW => ⟨_, rfl, rfl, ht⟩) (fun q hq => absurd hq List.not_mem_nil) dX1_longest_6
