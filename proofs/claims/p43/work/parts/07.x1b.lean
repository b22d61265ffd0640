set_option maxHeartbeats 4000000 in
set_option maxRecDepth 100000 in
theorem k_X1_needWear (l : Launch) (D : va_G) (cI cJ cR : ClassId) (a : Nat → Nat) (x : Int32) (hxx : inR (-9) 9 x) : Met l yX1_needWear wsX1_needWear ({ frames := 1, cells := 0, slots := 0, locals := 22 }) (cP D [] (KC D cI cJ cR) [.int x]) (rov (True)) 0 0 (fun _ => False) := by
  refine Met.ofW (cc := cX1_needWear) (maxL := 1) (ret := none) (by decide +kernel) rfl ?_
  intro p e s m args below meth c9 s₁ B hml hv
  obtain ⟨rfl, hP, hC⟩ := hv
  have hx := B.exec
  have hb := B.bytes
  have hr := B.returns
  have hts := atoms_spec (ws := wsX1_needWear) B.pre
  have hown : s.vm.findClass RX1 = some m.cls := findClass_of_methodNamed B.named
  have hlocks := B.notSynchronized
  have hK : va_K D vwCl [(cI, .int), (cJ, .long), (cR, .array .int)] s := hC.1
  have hl := lv_entry ([.int x]) (n := 1) (Nat.le_of_ble_eq_true rfl)
  rw [lg_entry_eq]
  generalize (lg_sl ([.int x]) ++ List.replicate (1 - (lg_sl ([.int x])).length) Slot.unset).toArray = ls at hl ⊢
  have hl : lv_has ls 1 [(0, .int x)] := hl
  refine lv_iload_n hx hb dX1_needWear_0 rfl (lv_at hl 0 rfl) ?_
  refine lv_bipush (v := (-9)) hx hb dX1_needWear_1 (by decide) ?_
  refine lv_bipush (v := 9) hx hb dX1_needWear_3 (by decide) ?_
  refine ro_iE (va_runS (As := [.int x, .int (-9), .int 9]) (rest := []) ⟨hx, hb, hml, hown, hts⟩ (c_X1_isOutside l x (-9) 9) (va_cwS 3 hts gX1_needWear_X1_isOutside rfl rfl rfl (by decide +kernel) ⟨Nat.le_of_ble_eq_true rfl, Nat.le_of_ble_eq_true rfl⟩) pre0 rfl rfl hl.1 rfl (lv_room (Nat.le_of_ble_eq_true rfl)) dX1_needWear_5 ⟨by decide, by decide⟩) ?_
  refine lv_if_eq (tgt := 21) hx hb dX1_needWear_8 (by decide) (fun c_8 => ?_) (fun c_8 => ?_)
  · skip
    have c_8 := bz_0 c_8
    exact W.vret hx hb hr (fun t9 ht hW => ⟨rfl, trivial, ht⟩) (fun q hq => absurd hq List.not_mem_nil) dX1_needWear_21
  · skip
    have c_8 := bz_1 c_8
    have e1 : ((-9) : Int32).toInt = -9 := rfl
    have e2 : (9 : Int32).toInt = 9 := rfl
    exfalso; unfold inR at hxx; omega

set_option maxHeartbeats 4000000 in
set_option maxRecDepth 100000 in
theorem k_X1_needDays (l : Launch) (D : va_G) (cI cJ cR : ClassId) (a : Nat → Nat) (x : Int32) (hxx : inR (1) 60 x) : Met l yX1_needDays wsX1_needDays ({ frames := 1, cells := 0, slots := 0, locals := 22 }) (cP D [] (KC D cI cJ cR) [.int x]) (rov (True)) 0 0 (fun _ => False) := by
  refine Met.ofW (cc := cX1_needDays) (maxL := 1) (ret := none) (by decide +kernel) rfl ?_
  intro p e s m args below meth c9 s₁ B hml hv
  obtain ⟨rfl, hP, hC⟩ := hv
  have hx := B.exec
  have hb := B.bytes
  have hr := B.returns
  have hts := atoms_spec (ws := wsX1_needDays) B.pre
  have hown : s.vm.findClass RX1 = some m.cls := findClass_of_methodNamed B.named
  have hlocks := B.notSynchronized
  have hK : va_K D vwCl [(cI, .int), (cJ, .long), (cR, .array .int)] s := hC.1
  have hl := lv_entry ([.int x]) (n := 1) (Nat.le_of_ble_eq_true rfl)
  rw [lg_entry_eq]
  generalize (lg_sl ([.int x]) ++ List.replicate (1 - (lg_sl ([.int x])).length) Slot.unset).toArray = ls at hl ⊢
  have hl : lv_has ls 1 [(0, .int x)] := hl
  refine lv_iload_n hx hb dX1_needDays_0 rfl (lv_at hl 0 rfl) ?_
  refine lv_iconst (v := 1) hx hb dX1_needDays_1 (by decide) ?_
  refine lv_bipush (v := 60) hx hb dX1_needDays_2 (by decide) ?_
  refine ro_iE (va_runS (As := [.int x, .int 1, .int 60]) (rest := []) ⟨hx, hb, hml, hown, hts⟩ (c_X1_isOutside l x 1 60) (va_cwS 3 hts gX1_needDays_X1_isOutside rfl rfl rfl (by decide +kernel) ⟨Nat.le_of_ble_eq_true rfl, Nat.le_of_ble_eq_true rfl⟩) pre0 rfl rfl hl.1 rfl (lv_room (Nat.le_of_ble_eq_true rfl)) dX1_needDays_4 ⟨by decide, by decide⟩) ?_
  refine lv_if_eq (tgt := 20) hx hb dX1_needDays_7 (by decide) (fun c_7 => ?_) (fun c_7 => ?_)
  · skip
    have c_7 := bz_0 c_7
    exact W.vret hx hb hr (fun t9 ht hW => ⟨rfl, trivial, ht⟩) (fun q hq => absurd hq List.not_mem_nil) dX1_needDays_20
  · skip
    have c_7 := bz_1 c_7
    have e1 : ((1) : Int32).toInt = 1 := rfl
    have e2 : (60 : Int32).toInt = 60 := rfl
    exfalso; unfold inR at hxx; omega

set_option maxHeartbeats 4000000 in
set_option maxRecDepth 100000 in
theorem k_X1_needMany (l : Launch) (D : va_G) (cI cJ cR : ClassId) (a : Nat → Nat) (x : Int32) (hxx : inR (1) 200 x) : Met l yX1_needMany wsX1_needMany ({ frames := 1, cells := 0, slots := 0, locals := 22 }) (cP D [] (KC D cI cJ cR) [.int x]) (rov (True)) 0 0 (fun _ => False) := by
  refine Met.ofW (cc := cX1_needMany) (maxL := 1) (ret := none) (by decide +kernel) rfl ?_
  intro p e s m args below meth c9 s₁ B hml hv
  obtain ⟨rfl, hP, hC⟩ := hv
  have hx := B.exec
  have hb := B.bytes
  have hr := B.returns
  have hts := atoms_spec (ws := wsX1_needMany) B.pre
  have hown : s.vm.findClass RX1 = some m.cls := findClass_of_methodNamed B.named
  have hlocks := B.notSynchronized
  have hK : va_K D vwCl [(cI, .int), (cJ, .long), (cR, .array .int)] s := hC.1
  have hl := lv_entry ([.int x]) (n := 1) (Nat.le_of_ble_eq_true rfl)
  rw [lg_entry_eq]
  generalize (lg_sl ([.int x]) ++ List.replicate (1 - (lg_sl ([.int x])).length) Slot.unset).toArray = ls at hl ⊢
  have hl : lv_has ls 1 [(0, .int x)] := hl
  refine lv_iload_n hx hb dX1_needMany_0 rfl (lv_at hl 0 rfl) ?_
  refine lv_iconst (v := 1) hx hb dX1_needMany_1 (by decide) ?_
  refine lv_sipush (v := 200) hx hb dX1_needMany_2 (by decide) ?_
  refine ro_iE (va_runS (As := [.int x, .int 1, .int 200]) (rest := []) ⟨hx, hb, hml, hown, hts⟩ (c_X1_isOutside l x 1 200) (va_cwS 3 hts gX1_needMany_X1_isOutside rfl rfl rfl (by decide +kernel) ⟨Nat.le_of_ble_eq_true rfl, Nat.le_of_ble_eq_true rfl⟩) pre0 rfl rfl hl.1 rfl (lv_room (Nat.le_of_ble_eq_true rfl)) dX1_needMany_5 ⟨by decide, by decide⟩) ?_
  refine lv_if_eq (tgt := 21) hx hb dX1_needMany_8 (by decide) (fun c_8 => ?_) (fun c_8 => ?_)
  · skip
    have c_8 := bz_0 c_8
    exact W.vret hx hb hr (fun t9 ht hW => ⟨rfl, trivial, ht⟩) (fun q hq => absurd hq List.not_mem_nil) dX1_needMany_21
  · skip
    have c_8 := bz_1 c_8
    have e1 : ((1) : Int32).toInt = 1 := rfl
    have e2 : (200 : Int32).toInt = 200 := rfl
    exfalso; unfold inR at hxx; omega

set_option maxHeartbeats 4000000 in
set_option maxRecDepth 100000 in
theorem k_X1_baseOf (l : Launch) (D : va_G) (cI cJ cR : ClassId) (a : Nat → Nat) (k st : Nat) (fi : Int32) (fB fS fO : Nat → Int32) (fL : Nat → Int64) (c : Nat) (t : Int32) (y : Nat) (fW fD : Nat → Int32) (c2 t2 y2 : Int32) (gW gD : Nat → Int32) (hk8 : k ≤ 8) (jx : Nat) (hj_x : jx < k) : Met l yX1_baseOf wsX1_baseOf ({ frames := 6, cells := 0, slots := 0, locals := 160 }) (cP D [((a 0), .inr (1, [.ref (a 1), .ref (a 2), .ref (a 3), .ref (a 4), .ref (a 5), .ref (a 8), .int (nI k), .int (nI st), .int fi])), ((a 1), .inl (cI, 8, .inl fB)), ((a 2), .inl (cI, 8, .inl fS)), ((a 3), .inl (cJ, 8, .inr (.inl fL))), ((a 4), .inl (cI, 8, .inl fO)), ((a 5), .inr (0, [.ref (a 6), .ref (a 7), .int (nI c), .int t, .int (nI y)])), ((a 6), .inl (cI, 6, .inl fW)), ((a 7), .inl (cI, 6, .inl fD)), ((a 8), .inr (0, [.ref (a 9), .ref (a 10), .int c2, .int t2, .int y2])), ((a 9), .inl (cI, 6, .inl gW)), ((a 10), .inl (cI, 6, .inl gD))] (KC D cI cJ cR) [.ref (a 0), .int (nI jx)]) (roi (fun r => r = fB jx)) 0 0 (fun _ => False) := by
  refine Met.ofW (cc := cX1_baseOf) (maxL := 2) (ret := (some .int)) (by decide +kernel) rfl ?_
  intro p e s m args below meth c9 s₁ B hml hv
  obtain ⟨rfl, hP, hC⟩ := hv
  have hx := B.exec
  have hb := B.bytes
  have hr := B.returns
  have hts := atoms_spec (ws := wsX1_baseOf) B.pre
  have hown : s.vm.findClass RX1 = some m.cls := findClass_of_methodNamed B.named
  have hlocks := B.notSynchronized
  have hK : va_K D vwCl [(cI, .int), (cJ, .long), (cR, .array .int)] s := hC.1
  have hl := lv_entry ([.ref (a 0), .int (nI jx)]) (n := 2) (Nat.le_of_ble_eq_true rfl)
  rw [lg_entry_eq]
  generalize (lg_sl ([.ref (a 0), .int (nI jx)]) ++ List.replicate (2 - (lg_sl ([.ref (a 0), .int (nI jx)])).length) Slot.unset).toArray = ls at hl ⊢
  have hl : lv_has ls 2 [(0, .ref (a 0)), (1, .int (nI jx))] := hl
  have hiX1 : ∀ w ∈ u_ws RX1 TX1 9, w ∈ wsX1_baseOf := by decide +kernel
  have hw9 : (Cond.fieldLink RX1 9 "OldMeasures" "bases" "[I").before ([.ref (a 0), .int (nI jx)] : List Value).toArray s = true := hts _ (by decide +kernel)
  refine lv_aload_n hx hb dX1_baseOf_0 rfl (lv_at hl 0 rfl) ?_
  refine lv_iload_n hx hb dX1_baseOf_1 rfl (lv_at hl 1 rfl) ?_
  refine ro_v (va_runV (As := [.int (nI jx)]) (rest := []) ⟨hx, hb, hml, hown, hts⟩ (k_X1_needMeasure l D cI cJ cR a k st fi fB fS fO fL c t y fW fD c2 t2 y2 gW gD hk8 jx (by omega)) (cwV 1 hts gX1_baseOf_X1_needMeasure rfl rfl rfl (by decide +kernel) ⟨Nat.le_of_ble_eq_true rfl, Nat.le_of_ble_eq_true rfl⟩) (preV_ro KC_ok hP hC (va_recv hK hP (ci := 1) (q0 := 0) rfl rfl)) rfl rfl hl.1 rfl (lv_room (Nat.le_of_ble_eq_true rfl)) dX1_baseOf_2 ⟨by decide, by decide⟩) (fun _ => ?_)
  refine lv_aload_n hx hb dX1_baseOf_5 rfl (lv_at hl 0 rfl) ?_
  refine va_get (D := D) (ci := 1) (v := .ref (a 1)) (C := RX1) (T := TX1) (N := 9) hx hb hts hiX1 hown hK hP 0 rfl rfl 0 (by decide) hw9 (fun _ h9 => h9) rfl dX1_baseOf_6 ?_
  refine lv_iload_n hx hb dX1_baseOf_9 rfl (lv_at hl 1 rfl) ?_
  refine xa_iald hx hb hK hP 1 0 rfl rfl (by omega) (by decide) dX1_baseOf_10 ?_
  exact W.iret (v := (fB jx)) hx hb hr (fun t9 ht hW => ⟨_, rfl, rfl, ht⟩) (fun q hq => absurd hq List.not_mem_nil) dX1_baseOf_11

set_option maxHeartbeats 4000000 in
set_option maxRecDepth 100000 in
theorem k_X1_lengthTop (l : Launch) (D : va_G) (cI cJ cR : ClassId) (a : Nat → Nat) (k st : Nat) (fi : Int32) (fB fS fO : Nat → Int32) (fL : Nat → Int64) (c : Nat) (t : Int32) (y : Nat) (fW fD : Nat → Int32) (c2 t2 y2 : Int32) (gW gD : Nat → Int32) (hM : MOk k fL fO) (hst2 : st < k) (jx : Nat) (hj_x : jx < k) : Met l yX1_lengthTop wsX1_lengthTop ({ frames := 6, cells := 0, slots := 0, locals := 160 }) (cP D [((a 0), .inr (1, [.ref (a 1), .ref (a 2), .ref (a 3), .ref (a 4), .ref (a 5), .ref (a 8), .int (nI k), .int (nI st), .int fi])), ((a 1), .inl (cI, 8, .inl fB)), ((a 2), .inl (cI, 8, .inl fS)), ((a 3), .inl (cJ, 8, .inr (.inl fL))), ((a 4), .inl (cI, 8, .inl fO)), ((a 5), .inr (0, [.ref (a 6), .ref (a 7), .int (nI c), .int t, .int (nI y)])), ((a 6), .inl (cI, 6, .inl fW)), ((a 7), .inl (cI, 6, .inl fD)), ((a 8), .inr (0, [.ref (a 9), .ref (a 10), .int c2, .int t2, .int y2])), ((a 9), .inl (cI, 6, .inl gW)), ((a 10), .inl (cI, 6, .inl gD))] (KC D cI cJ cR) [.ref (a 0), .int (nI jx)]) (rol (fun r => r = tp (fL jx) (fL st))) 0 0 (fun _ => False) := by
  refine Met.ofW (cc := cX1_lengthTop) (maxL := 2) (ret := (some .long)) (by decide +kernel) rfl ?_
  intro p e s m args below meth c9 s₁ B hml hv
  obtain ⟨rfl, hP, hC⟩ := hv
  have hx := B.exec
  have hb := B.bytes
  have hr := B.returns
  have hts := atoms_spec (ws := wsX1_lengthTop) B.pre
  have hown : s.vm.findClass RX1 = some m.cls := findClass_of_methodNamed B.named
  have hlocks := B.notSynchronized
  have hK : va_K D vwCl [(cI, .int), (cJ, .long), (cR, .array .int)] s := hC.1
  have hl := lv_entry ([.ref (a 0), .int (nI jx)]) (n := 2) (Nat.le_of_ble_eq_true rfl)
  rw [lg_entry_eq]
  generalize (lg_sl ([.ref (a 0), .int (nI jx)]) ++ List.replicate (2 - (lg_sl ([.ref (a 0), .int (nI jx)])).length) Slot.unset).toArray = ls at hl ⊢
  have hl : lv_has ls 2 [(0, .ref (a 0)), (1, .int (nI jx))] := hl
  have hk8 : k ≤ 8 := hM.2.1
  have hk1 : 1 ≤ k := hM.1
  have hiX1 : ∀ w ∈ u_ws RX1 TX1 9, w ∈ wsX1_lengthTop := by decide +kernel
  have hw16 : (Cond.fieldLink RX1 16 "OldMeasures" "lengths" "[J").before ([.ref (a 0), .int (nI jx)] : List Value).toArray s = true := hts _ (by decide +kernel)
  have hw37 : (Cond.fieldLink RX1 37 "OldMeasures" "standard" "I").before ([.ref (a 0), .int (nI jx)] : List Value).toArray s = true := hts _ (by decide +kernel)
  refine lv_aload_n hx hb dX1_lengthTop_0 rfl (lv_at hl 0 rfl) ?_
  refine lv_iload_n hx hb dX1_lengthTop_1 rfl (lv_at hl 1 rfl) ?_
  refine ro_v (va_runV (As := [.int (nI jx)]) (rest := []) ⟨hx, hb, hml, hown, hts⟩ (k_X1_needMeasure l D cI cJ cR a k st fi fB fS fO fL c t y fW fD c2 t2 y2 gW gD hk8 jx (by omega)) (cwV 1 hts gX1_lengthTop_X1_needMeasure rfl rfl rfl (by decide +kernel) ⟨Nat.le_of_ble_eq_true rfl, Nat.le_of_ble_eq_true rfl⟩) (preV_ro KC_ok hP hC (va_recv hK hP (ci := 1) (q0 := 0) rfl rfl)) rfl rfl hl.1 rfl (lv_room (Nat.le_of_ble_eq_true rfl)) dX1_lengthTop_2 ⟨by decide, by decide⟩) (fun _ => ?_)
  refine lv_aload_n hx hb dX1_lengthTop_5 rfl (lv_at hl 0 rfl) ?_
  refine va_get (D := D) (ci := 1) (v := .ref (a 3)) (C := RX1) (T := TX1) (N := 9) hx hb hts hiX1 hown hK hP 0 rfl rfl 2 (by decide) hw16 (fun _ h9 => h9) rfl dX1_lengthTop_6 ?_
  refine lv_iload_n hx hb dX1_lengthTop_9 rfl (lv_at hl 1 rfl) ?_
  refine xa_lald hx hb hK hP 3 1 rfl rfl (by omega) (by decide) dX1_lengthTop_10 ?_
  refine lv_aload_n hx hb dX1_lengthTop_11 rfl (lv_at hl 0 rfl) ?_
  refine va_get (D := D) (ci := 1) (v := .ref (a 3)) (C := RX1) (T := TX1) (N := 9) hx hb hts hiX1 hown hK hP 0 rfl rfl 2 (by decide) hw16 (fun _ h9 => h9) rfl dX1_lengthTop_12 ?_
  refine lv_aload_n hx hb dX1_lengthTop_15 rfl (lv_at hl 0 rfl) ?_
  refine va_get (D := D) (ci := 1) (v := .int (nI st)) (C := RX1) (T := TX1) (N := 9) hx hb hts hiX1 hown hK hP 0 rfl rfl 7 (by decide) hw37 (fun _ h9 => h9) rfl dX1_lengthTop_16 ?_
  refine xa_lald hx hb hK hP 3 1 rfl rfl (by omega) (by decide) dX1_lengthTop_19 ?_
  refine ro_lE (va_runS (As := [.long (fL jx), .long (fL st)]) (rest := []) ⟨hx, hb, hml, hown, hts⟩ (c_X1_wcd l (fL jx) (fL st) (hM.2.2.1 _ (by omega)) (hM.2.2.1 _ (by omega))) (va_cwS 2 hts gX1_lengthTop_X1_withoutCommonDivisor rfl rfl rfl (by decide +kernel) ⟨Nat.le_of_ble_eq_true rfl, Nat.le_of_ble_eq_true rfl⟩) pre0 rfl rfl hl.1 rfl (lv_room (Nat.le_of_ble_eq_true rfl)) dX1_lengthTop_20 ⟨by decide, by decide⟩) ?_
  exact W.lret (v := (tp (fL jx) (fL st))) hx hb hr (fun t9 ht hW => ⟨_, rfl, rfl, ht⟩) (fun q hq => absurd hq List.not_mem_nil) dX1_lengthTop_23

set_option maxHeartbeats 4000000 in
set_option maxRecDepth 100000 in
theorem k_X1_lengthBottom (l : Launch) (D : va_G) (cI cJ cR : ClassId) (a : Nat → Nat) (k st : Nat) (fi : Int32) (fB fS fO : Nat → Int32) (fL : Nat → Int64) (c : Nat) (t : Int32) (y : Nat) (fW fD : Nat → Int32) (c2 t2 y2 : Int32) (gW gD : Nat → Int32) (hM : MOk k fL fO) (hst2 : st < k) (jx : Nat) (hj_x : jx < k) : Met l yX1_lengthBottom wsX1_lengthBottom ({ frames := 6, cells := 0, slots := 0, locals := 160 }) (cP D [((a 0), .inr (1, [.ref (a 1), .ref (a 2), .ref (a 3), .ref (a 4), .ref (a 5), .ref (a 8), .int (nI k), .int (nI st), .int fi])), ((a 1), .inl (cI, 8, .inl fB)), ((a 2), .inl (cI, 8, .inl fS)), ((a 3), .inl (cJ, 8, .inr (.inl fL))), ((a 4), .inl (cI, 8, .inl fO)), ((a 5), .inr (0, [.ref (a 6), .ref (a 7), .int (nI c), .int t, .int (nI y)])), ((a 6), .inl (cI, 6, .inl fW)), ((a 7), .inl (cI, 6, .inl fD)), ((a 8), .inr (0, [.ref (a 9), .ref (a 10), .int c2, .int t2, .int y2])), ((a 9), .inl (cI, 6, .inl gW)), ((a 10), .inl (cI, 6, .inl gD))] (KC D cI cJ cR) [.ref (a 0), .int (nI jx)]) (rol (fun r => r = tp (fL st) (fL jx))) 0 0 (fun _ => False) := by
  refine Met.ofW (cc := cX1_lengthBottom) (maxL := 2) (ret := (some .long)) (by decide +kernel) rfl ?_
  intro p e s m args below meth c9 s₁ B hml hv
  obtain ⟨rfl, hP, hC⟩ := hv
  have hx := B.exec
  have hb := B.bytes
  have hr := B.returns
  have hts := atoms_spec (ws := wsX1_lengthBottom) B.pre
  have hown : s.vm.findClass RX1 = some m.cls := findClass_of_methodNamed B.named
  have hlocks := B.notSynchronized
  have hK : va_K D vwCl [(cI, .int), (cJ, .long), (cR, .array .int)] s := hC.1
  have hl := lv_entry ([.ref (a 0), .int (nI jx)]) (n := 2) (Nat.le_of_ble_eq_true rfl)
  rw [lg_entry_eq]
  generalize (lg_sl ([.ref (a 0), .int (nI jx)]) ++ List.replicate (2 - (lg_sl ([.ref (a 0), .int (nI jx)])).length) Slot.unset).toArray = ls at hl ⊢
  have hl : lv_has ls 2 [(0, .ref (a 0)), (1, .int (nI jx))] := hl
  have hk8 : k ≤ 8 := hM.2.1
  have hk1 : 1 ≤ k := hM.1
  have hiX1 : ∀ w ∈ u_ws RX1 TX1 9, w ∈ wsX1_lengthBottom := by decide +kernel
  have hw16 : (Cond.fieldLink RX1 16 "OldMeasures" "lengths" "[J").before ([.ref (a 0), .int (nI jx)] : List Value).toArray s = true := hts _ (by decide +kernel)
  have hw37 : (Cond.fieldLink RX1 37 "OldMeasures" "standard" "I").before ([.ref (a 0), .int (nI jx)] : List Value).toArray s = true := hts _ (by decide +kernel)
  refine lv_aload_n hx hb dX1_lengthBottom_0 rfl (lv_at hl 0 rfl) ?_
  refine lv_iload_n hx hb dX1_lengthBottom_1 rfl (lv_at hl 1 rfl) ?_
  refine ro_v (va_runV (As := [.int (nI jx)]) (rest := []) ⟨hx, hb, hml, hown, hts⟩ (k_X1_needMeasure l D cI cJ cR a k st fi fB fS fO fL c t y fW fD c2 t2 y2 gW gD hk8 jx (by omega)) (cwV 1 hts gX1_lengthBottom_X1_needMeasure rfl rfl rfl (by decide +kernel) ⟨Nat.le_of_ble_eq_true rfl, Nat.le_of_ble_eq_true rfl⟩) (preV_ro KC_ok hP hC (va_recv hK hP (ci := 1) (q0 := 0) rfl rfl)) rfl rfl hl.1 rfl (lv_room (Nat.le_of_ble_eq_true rfl)) dX1_lengthBottom_2 ⟨by decide, by decide⟩) (fun _ => ?_)
  refine lv_aload_n hx hb dX1_lengthBottom_5 rfl (lv_at hl 0 rfl) ?_
  refine va_get (D := D) (ci := 1) (v := .ref (a 3)) (C := RX1) (T := TX1) (N := 9) hx hb hts hiX1 hown hK hP 0 rfl rfl 2 (by decide) hw16 (fun _ h9 => h9) rfl dX1_lengthBottom_6 ?_
  refine lv_aload_n hx hb dX1_lengthBottom_9 rfl (lv_at hl 0 rfl) ?_
  refine va_get (D := D) (ci := 1) (v := .int (nI st)) (C := RX1) (T := TX1) (N := 9) hx hb hts hiX1 hown hK hP 0 rfl rfl 7 (by decide) hw37 (fun _ h9 => h9) rfl dX1_lengthBottom_10 ?_
  refine xa_lald hx hb hK hP 3 1 rfl rfl (by omega) (by decide) dX1_lengthBottom_13 ?_
  refine lv_aload_n hx hb dX1_lengthBottom_14 rfl (lv_at hl 0 rfl) ?_
  refine va_get (D := D) (ci := 1) (v := .ref (a 3)) (C := RX1) (T := TX1) (N := 9) hx hb hts hiX1 hown hK hP 0 rfl rfl 2 (by decide) hw16 (fun _ h9 => h9) rfl dX1_lengthBottom_15 ?_
  refine lv_iload_n hx hb dX1_lengthBottom_18 rfl (lv_at hl 1 rfl) ?_
  refine xa_lald hx hb hK hP 3 1 rfl rfl (by omega) (by decide) dX1_lengthBottom_19 ?_
  refine ro_lE (va_runS (As := [.long (fL st), .long (fL jx)]) (rest := []) ⟨hx, hb, hml, hown, hts⟩ (c_X1_wcd l (fL st) (fL jx) (hM.2.2.1 _ (by omega)) (hM.2.2.1 _ (by omega))) (va_cwS 2 hts gX1_lengthBottom_X1_withoutCommonDivisor rfl rfl rfl (by decide +kernel) ⟨Nat.le_of_ble_eq_true rfl, Nat.le_of_ble_eq_true rfl⟩) pre0 rfl rfl hl.1 rfl (lv_room (Nat.le_of_ble_eq_true rfl)) dX1_lengthBottom_20 ⟨by decide, by decide⟩) ?_
  exact W.lret (v := (tp (fL st) (fL jx))) hx hb hr (fun t9 ht hW => ⟨_, rfl, rfl, ht⟩) (fun q hq => absurd hq List.not_mem_nil) dX1_lengthBottom_23

set_option maxHeartbeats 4000000 in
set_option maxRecDepth 100000 in
theorem k_X1_driftOf (l : Launch) (D : va_G) (cI cJ cR : ClassId) (a : Nat → Nat) (k st : Nat) (fi : Int32) (fB fS fO : Nat → Int32) (fL : Nat → Int64) (c : Nat) (t : Int32) (y : Nat) (fW fD : Nat → Int32) (c2 t2 y2 : Int32) (gW gD : Nat → Int32) (hc : c ≤ 6) (jv : Nat) (hj_v : jv < c) : Met l yX1_driftOf wsX1_driftOf ({ frames := 6, cells := 0, slots := 0, locals := 160 }) (cP D [((a 0), .inr (1, [.ref (a 1), .ref (a 2), .ref (a 3), .ref (a 4), .ref (a 5), .ref (a 8), .int (nI k), .int (nI st), .int fi])), ((a 1), .inl (cI, 8, .inl fB)), ((a 2), .inl (cI, 8, .inl fS)), ((a 3), .inl (cJ, 8, .inr (.inl fL))), ((a 4), .inl (cI, 8, .inl fO)), ((a 5), .inr (0, [.ref (a 6), .ref (a 7), .int (nI c), .int t, .int (nI y)])), ((a 6), .inl (cI, 6, .inl fW)), ((a 7), .inl (cI, 6, .inl fD)), ((a 8), .inr (0, [.ref (a 9), .ref (a 10), .int c2, .int t2, .int y2])), ((a 9), .inl (cI, 6, .inl gW)), ((a 10), .inl (cI, 6, .inl gD))] (KC D cI cJ cR) [.ref (a 0), .int (nI jv)]) (roi (fun r => r = fD jv)) 0 0 (fun _ => False) := by
  refine Met.ofW (cc := cX1_driftOf) (maxL := 2) (ret := (some .int)) (by decide +kernel) rfl ?_
  intro p e s m args below meth c9 s₁ B hml hv
  obtain ⟨rfl, hP, hC⟩ := hv
  have hx := B.exec
  have hb := B.bytes
  have hr := B.returns
  have hts := atoms_spec (ws := wsX1_driftOf) B.pre
  have hown : s.vm.findClass RX1 = some m.cls := findClass_of_methodNamed B.named
  have hlocks := B.notSynchronized
  have hK : va_K D vwCl [(cI, .int), (cJ, .long), (cR, .array .int)] s := hC.1
  have hl := lv_entry ([.ref (a 0), .int (nI jv)]) (n := 2) (Nat.le_of_ble_eq_true rfl)
  rw [lg_entry_eq]
  generalize (lg_sl ([.ref (a 0), .int (nI jv)]) ++ List.replicate (2 - (lg_sl ([.ref (a 0), .int (nI jv)])).length) Slot.unset).toArray = ls at hl ⊢
  have hl : lv_has ls 2 [(0, .ref (a 0)), (1, .int (nI jv))] := hl
  have hiX0 : ∀ w ∈ u_ws RX0 TX0 5, w ∈ wsX1_driftOf := by decide +kernel
  have hiX1 : ∀ w ∈ u_ws RX1 TX1 9, w ∈ wsX1_driftOf := by decide +kernel
  have hw26 : (Cond.fieldLink RX1 26 "OldMeasures" "stalls" "LOldMeasures$Stalls;").before ([.ref (a 0), .int (nI jv)] : List Value).toArray s = true := hts _ (by decide +kernel)
  refine lv_aload_n hx hb dX1_driftOf_0 rfl (lv_at hl 0 rfl) ?_
  refine lv_iload_n hx hb dX1_driftOf_1 rfl (lv_at hl 1 rfl) ?_
  refine ro_v (va_runV (As := [.int (nI jv)]) (rest := []) ⟨hx, hb, hml, hown, hts⟩ (k_X1_needStall l D cI cJ cR a k st fi fB fS fO fL c t y fW fD c2 t2 y2 gW gD hc jv (by omega)) (cwV 1 hts gX1_driftOf_X1_needStall rfl rfl rfl (by decide +kernel) ⟨Nat.le_of_ble_eq_true rfl, Nat.le_of_ble_eq_true rfl⟩) (preV_ro KC_ok hP hC (va_recv hK hP (ci := 1) (q0 := 0) rfl rfl)) rfl rfl hl.1 rfl (lv_room (Nat.le_of_ble_eq_true rfl)) dX1_driftOf_2 ⟨by decide, by decide⟩) (fun _ => ?_)
  refine lv_aload_n hx hb dX1_driftOf_5 rfl (lv_at hl 0 rfl) ?_
  refine va_get (D := D) (ci := 1) (v := .ref (a 5)) (C := RX1) (T := TX1) (N := 9) hx hb hts hiX1 hown hK hP 0 rfl rfl 4 (by decide) hw26 (fun _ h9 => h9) rfl dX1_driftOf_6 ?_
  refine va_getN (host := RX1) (D := D) (ci := 0) (v := .ref (a 7)) (C := RX0) (T := TX0) (N := 5) hx hb hts hiX0 hown hK hP 5 rfl rfl 1 (by decide) (va_Nw.use rfl hC.2.2.2.2.1) (fun _ h9 => h9) rfl dX1_driftOf_9 ?_
  refine lv_iload_n hx hb dX1_driftOf_12 rfl (lv_at hl 1 rfl) ?_
  refine xa_iald hx hb hK hP 7 0 rfl rfl (by omega) (by decide) dX1_driftOf_13 ?_
  exact W.iret (v := (fD jv)) hx hb hr (fun t9 ht hW => ⟨_, rfl, rfl, ht⟩) (fun q hq => absurd hq List.not_mem_nil) dX1_driftOf_14

set_option maxHeartbeats 4000000 in
set_option maxRecDepth 100000 in
theorem k_X1_wearOf (l : Launch) (D : va_G) (cI cJ cR : ClassId) (a : Nat → Nat) (k st : Nat) (fi : Int32) (fB fS fO : Nat → Int32) (fL : Nat → Int64) (c : Nat) (t : Int32) (y : Nat) (fW fD : Nat → Int32) (c2 t2 y2 : Int32) (gW gD : Nat → Int32) (hc : c ≤ 6) (jv : Nat) (hj_v : jv < c) : Met l yX1_wearOf wsX1_wearOf ({ frames := 6, cells := 0, slots := 0, locals := 160 }) (cP D [((a 0), .inr (1, [.ref (a 1), .ref (a 2), .ref (a 3), .ref (a 4), .ref (a 5), .ref (a 8), .int (nI k), .int (nI st), .int fi])), ((a 1), .inl (cI, 8, .inl fB)), ((a 2), .inl (cI, 8, .inl fS)), ((a 3), .inl (cJ, 8, .inr (.inl fL))), ((a 4), .inl (cI, 8, .inl fO)), ((a 5), .inr (0, [.ref (a 6), .ref (a 7), .int (nI c), .int t, .int (nI y)])), ((a 6), .inl (cI, 6, .inl fW)), ((a 7), .inl (cI, 6, .inl fD)), ((a 8), .inr (0, [.ref (a 9), .ref (a 10), .int c2, .int t2, .int y2])), ((a 9), .inl (cI, 6, .inl gW)), ((a 10), .inl (cI, 6, .inl gD))] (KC D cI cJ cR) [.ref (a 0), .int (nI jv)]) (roi (fun r => r = fW jv)) 0 0 (fun _ => False) := by
  refine Met.ofW (cc := cX1_wearOf) (maxL := 2) (ret := (some .int)) (by decide +kernel) rfl ?_
  intro p e s m args below meth c9 s₁ B hml hv
  obtain ⟨rfl, hP, hC⟩ := hv
  have hx := B.exec
  have hb := B.bytes
  have hr := B.returns
  have hts := atoms_spec (ws := wsX1_wearOf) B.pre
  have hown : s.vm.findClass RX1 = some m.cls := findClass_of_methodNamed B.named
  have hlocks := B.notSynchronized
  have hK : va_K D vwCl [(cI, .int), (cJ, .long), (cR, .array .int)] s := hC.1
  have hl := lv_entry ([.ref (a 0), .int (nI jv)]) (n := 2) (Nat.le_of_ble_eq_true rfl)
  rw [lg_entry_eq]
  generalize (lg_sl ([.ref (a 0), .int (nI jv)]) ++ List.replicate (2 - (lg_sl ([.ref (a 0), .int (nI jv)])).length) Slot.unset).toArray = ls at hl ⊢
  have hl : lv_has ls 2 [(0, .ref (a 0)), (1, .int (nI jv))] := hl
  have hiX0 : ∀ w ∈ u_ws RX0 TX0 5, w ∈ wsX1_wearOf := by decide +kernel
  have hiX1 : ∀ w ∈ u_ws RX1 TX1 9, w ∈ wsX1_wearOf := by decide +kernel
  have hw26 : (Cond.fieldLink RX1 26 "OldMeasures" "stalls" "LOldMeasures$Stalls;").before ([.ref (a 0), .int (nI jv)] : List Value).toArray s = true := hts _ (by decide +kernel)
  refine lv_aload_n hx hb dX1_wearOf_0 rfl (lv_at hl 0 rfl) ?_
  refine lv_iload_n hx hb dX1_wearOf_1 rfl (lv_at hl 1 rfl) ?_
  refine ro_v (va_runV (As := [.int (nI jv)]) (rest := []) ⟨hx, hb, hml, hown, hts⟩ (k_X1_needStall l D cI cJ cR a k st fi fB fS fO fL c t y fW fD c2 t2 y2 gW gD hc jv (by omega)) (cwV 1 hts gX1_wearOf_X1_needStall rfl rfl rfl (by decide +kernel) ⟨Nat.le_of_ble_eq_true rfl, Nat.le_of_ble_eq_true rfl⟩) (preV_ro KC_ok hP hC (va_recv hK hP (ci := 1) (q0 := 0) rfl rfl)) rfl rfl hl.1 rfl (lv_room (Nat.le_of_ble_eq_true rfl)) dX1_wearOf_2 ⟨by decide, by decide⟩) (fun _ => ?_)
  refine lv_aload_n hx hb dX1_wearOf_5 rfl (lv_at hl 0 rfl) ?_
  refine va_get (D := D) (ci := 1) (v := .ref (a 5)) (C := RX1) (T := TX1) (N := 9) hx hb hts hiX1 hown hK hP 0 rfl rfl 4 (by decide) hw26 (fun _ h9 => h9) rfl dX1_wearOf_6 ?_
  refine va_getN (host := RX1) (D := D) (ci := 0) (v := .ref (a 6)) (C := RX0) (T := TX0) (N := 5) hx hb hts hiX0 hown hK hP 5 rfl rfl 0 (by decide) (va_Nw.use rfl hC.2.2.2.1) (fun _ h9 => h9) rfl dX1_wearOf_9 ?_
  refine lv_iload_n hx hb dX1_wearOf_12 rfl (lv_at hl 1 rfl) ?_
  refine xa_iald hx hb hK hP 6 0 rfl rfl (by omega) (by decide) dX1_wearOf_13 ?_
  exact W.iret (v := (fW jv)) hx hb hr (fun t9 ht hW => ⟨_, rfl, rfl, ht⟩) (fun q hq => absurd hq List.not_mem_nil) dX1_wearOf_14

set_option maxHeartbeats 4000000 in
set_option maxRecDepth 100000 in
theorem k_X1_isHonest (l : Launch) (D : va_G) (cI cJ cR : ClassId) (a : Nat → Nat) (k st : Nat) (fi : Int32) (fB fS fO : Nat → Int32) (fL : Nat → Int64) (c : Nat) (t : Int32) (y : Nat) (fW fD : Nat → Int32) (c2 t2 y2 : Int32) (gW gD : Nat → Int32) (hc : c ≤ 6) (jv : Nat) (hj_v : jv < c) : Met l yX1_isHonest wsX1_isHonest ({ frames := 6, cells := 0, slots := 0, locals := 160 }) (cP D [((a 0), .inr (1, [.ref (a 1), .ref (a 2), .ref (a 3), .ref (a 4), .ref (a 5), .ref (a 8), .int (nI k), .int (nI st), .int fi])), ((a 1), .inl (cI, 8, .inl fB)), ((a 2), .inl (cI, 8, .inl fS)), ((a 3), .inl (cJ, 8, .inr (.inl fL))), ((a 4), .inl (cI, 8, .inl fO)), ((a 5), .inr (0, [.ref (a 6), .ref (a 7), .int (nI c), .int t, .int (nI y)])), ((a 6), .inl (cI, 6, .inl fW)), ((a 7), .inl (cI, 6, .inl fD)), ((a 8), .inr (0, [.ref (a 9), .ref (a 10), .int c2, .int t2, .int y2])), ((a 9), .inl (cI, 6, .inl gW)), ((a 10), .inl (cI, 6, .inl gD))] (KC D cI cJ cR) [.ref (a 0), .int (nI jv)]) (roi (fun r => r = bz ((absI (fD jv)).toInt ≤ t.toInt))) 0 0 (fun _ => False) := by
  refine Met.ofW (cc := cX1_isHonest) (maxL := 2) (ret := (some .boolean)) (by decide +kernel) rfl ?_
  intro p e s m args below meth c9 s₁ B hml hv
  obtain ⟨rfl, hP, hC⟩ := hv
  have hx := B.exec
  have hb := B.bytes
  have hr := B.returns
  have hts := atoms_spec (ws := wsX1_isHonest) B.pre
  have hown : s.vm.findClass RX1 = some m.cls := findClass_of_methodNamed B.named
  have hlocks := B.notSynchronized
  have hK : va_K D vwCl [(cI, .int), (cJ, .long), (cR, .array .int)] s := hC.1
  have hl := lv_entry ([.ref (a 0), .int (nI jv)]) (n := 2) (Nat.le_of_ble_eq_true rfl)
  rw [lg_entry_eq]
  generalize (lg_sl ([.ref (a 0), .int (nI jv)]) ++ List.replicate (2 - (lg_sl ([.ref (a 0), .int (nI jv)])).length) Slot.unset).toArray = ls at hl ⊢
  have hl : lv_has ls 2 [(0, .ref (a 0)), (1, .int (nI jv))] := hl
  have hiX0 : ∀ w ∈ u_ws RX0 TX0 5, w ∈ wsX1_isHonest := by decide +kernel
  have hiX1 : ∀ w ∈ u_ws RX1 TX1 9, w ∈ wsX1_isHonest := by decide +kernel
  have hw26 : (Cond.fieldLink RX1 26 "OldMeasures" "stalls" "LOldMeasures$Stalls;").before ([.ref (a 0), .int (nI jv)] : List Value).toArray s = true := hts _ (by decide +kernel)
  refine lv_aload_n hx hb dX1_isHonest_0 rfl (lv_at hl 0 rfl) ?_
  refine lv_iload_n hx hb dX1_isHonest_1 rfl (lv_at hl 1 rfl) ?_
  refine ro_v (va_runV (As := [.int (nI jv)]) (rest := []) ⟨hx, hb, hml, hown, hts⟩ (k_X1_needStall l D cI cJ cR a k st fi fB fS fO fL c t y fW fD c2 t2 y2 gW gD hc jv (by omega)) (cwV 1 hts gX1_isHonest_X1_needStall rfl rfl rfl (by decide +kernel) ⟨Nat.le_of_ble_eq_true rfl, Nat.le_of_ble_eq_true rfl⟩) (preV_ro KC_ok hP hC (va_recv hK hP (ci := 1) (q0 := 0) rfl rfl)) rfl rfl hl.1 rfl (lv_room (Nat.le_of_ble_eq_true rfl)) dX1_isHonest_2 ⟨by decide, by decide⟩) (fun _ => ?_)
  refine lv_aload_n hx hb dX1_isHonest_5 rfl (lv_at hl 0 rfl) ?_
  refine va_get (D := D) (ci := 1) (v := .ref (a 5)) (C := RX1) (T := TX1) (N := 9) hx hb hts hiX1 hown hK hP 0 rfl rfl 4 (by decide) hw26 (fun _ h9 => h9) rfl dX1_isHonest_6 ?_
  refine lv_aload_n hx hb dX1_isHonest_9 rfl (lv_at hl 0 rfl) ?_
  refine va_get (D := D) (ci := 1) (v := .ref (a 5)) (C := RX1) (T := TX1) (N := 9) hx hb hts hiX1 hown hK hP 0 rfl rfl 4 (by decide) hw26 (fun _ h9 => h9) rfl dX1_isHonest_10 ?_
  refine va_getN (host := RX1) (D := D) (ci := 0) (v := .ref (a 7)) (C := RX0) (T := TX0) (N := 5) hx hb hts hiX0 hown hK hP 5 rfl rfl 1 (by decide) (va_Nw.use rfl hC.2.2.2.2.1) (fun _ h9 => h9) rfl dX1_isHonest_13 ?_
  refine lv_iload_n hx hb dX1_isHonest_16 rfl (lv_at hl 1 rfl) ?_
  refine xa_iald hx hb hK hP 7 0 rfl rfl (by omega) (by decide) dX1_isHonest_17 ?_
  refine ro_iE (va_runVN (As := [.int (fD jv)]) (rest := []) ⟨hx, hb, hml, hown, hts⟩ (c_X0_isTolerated l D cI cJ cR (a 5) (a 6) (a 7) c t y fW fD (fD jv)) ⟨va_cnB (host := RX1) 1 hts ggX1_isHonest_X0_isTolerated rfl rfl rfl hC.2.2.2.2.2.2.2.2.2.1 (hts (.initialized RX0) (by decide +kernel)) (by decide +kernel) ⟨Nat.le_of_ble_eq_true rfl, Nat.le_of_ble_eq_true rfl⟩, hts (.instanceMethod yX0_isTolerated) (by decide +kernel), hts (.selects RX0 yX0_isTolerated yX0_isTolerated) (by decide +kernel)⟩ (preV_ro KM_ok (hP.sub (ws' := [((a 5), .inr (0, [.ref (a 6), .ref (a 7), .int (nI c), .int t, .int (nI y)])), ((a 6), .inl (cI, 6, .inl fW)), ((a 7), .inl (cI, 6, .inl fD))]) [5, 6, 7] rfl) hK (va_recv hK hP (ci := 0) (q0 := 5) rfl rfl)) rfl rfl hl.1 rfl (lv_room (Nat.le_of_ble_eq_true rfl)) dX1_isHonest_18 ⟨by decide, by decide⟩) ?_
  exact W.zret (v := (bz ((absI (fD jv)).toInt ≤ t.toInt))) hx hb hr (bz_nar _) (fun t9 ht hW => ⟨_, rfl, rfl, ht⟩) (fun q hq => absurd hq List.not_mem_nil) dX1_isHonest_21

set_option maxHeartbeats 4000000 in
set_option maxRecDepth 100000 in
theorem k_X1_getsAt (l : Launch) (D : va_G) (cI cJ cR : ClassId) (a : Nat → Nat) (k st : Nat) (fi : Int32) (fB fS fO : Nat → Int32) (fL : Nat → Int64) (c : Nat) (t : Int32) (y : Nat) (fW fD : Nat → Int32) (c2 t2 y2 : Int32) (gW gD : Nat → Int32) (hM : MOk k fL fO) (hst2 : st < k) (hc : c ≤ 6) (jv : Nat) (hj_v : jv < c) (w : Int32) (hw9 : inR 1 200 w) (jx : Nat) (hj_x : jx < k) : Met l yX1_getsAt wsX1_getsAt ({ frames := 6, cells := 0, slots := 0, locals := 160 }) (cP D [((a 0), .inr (1, [.ref (a 1), .ref (a 2), .ref (a 3), .ref (a 4), .ref (a 5), .ref (a 8), .int (nI k), .int (nI st), .int fi])), ((a 1), .inl (cI, 8, .inl fB)), ((a 2), .inl (cI, 8, .inl fS)), ((a 3), .inl (cJ, 8, .inr (.inl fL))), ((a 4), .inl (cI, 8, .inl fO)), ((a 5), .inr (0, [.ref (a 6), .ref (a 7), .int (nI c), .int t, .int (nI y)])), ((a 6), .inl (cI, 6, .inl fW)), ((a 7), .inl (cI, 6, .inl fD)), ((a 8), .inr (0, [.ref (a 9), .ref (a 10), .int c2, .int t2, .int y2])), ((a 9), .inl (cI, 6, .inl gW)), ((a 10), .inl (cI, 6, .inl gD))] (KC D cI cJ cR) [.ref (a 0), .int (nI jv), .int w, .int (nI jx)]) (rol (fun r => r = gvn (fL jx) (fL st) w (fD jv))) 0 0 (fun _ => False) := by
  refine Met.ofW (cc := cX1_getsAt) (maxL := 4) (ret := (some .long)) (by decide +kernel) rfl ?_
  intro p e s m args below meth c9 s₁ B hml hv
  obtain ⟨rfl, hP, hC⟩ := hv
  have hx := B.exec
  have hb := B.bytes
  have hr := B.returns
  have hts := atoms_spec (ws := wsX1_getsAt) B.pre
  have hown : s.vm.findClass RX1 = some m.cls := findClass_of_methodNamed B.named
  have hlocks := B.notSynchronized
  have hK : va_K D vwCl [(cI, .int), (cJ, .long), (cR, .array .int)] s := hC.1
  have hl := lv_entry ([.ref (a 0), .int (nI jv), .int w, .int (nI jx)]) (n := 4) (Nat.le_of_ble_eq_true rfl)
  rw [lg_entry_eq]
  generalize (lg_sl ([.ref (a 0), .int (nI jv), .int w, .int (nI jx)]) ++ List.replicate (4 - (lg_sl ([.ref (a 0), .int (nI jv), .int w, .int (nI jx)])).length) Slot.unset).toArray = ls at hl ⊢
  have hl : lv_has ls 4 [(0, .ref (a 0)), (1, .int (nI jv)), (2, .int w), (3, .int (nI jx))] := hl
  have hk8 : k ≤ 8 := hM.2.1
  have hk1 : 1 ≤ k := hM.1
  have hiX0 : ∀ w ∈ u_ws RX0 TX0 5, w ∈ wsX1_getsAt := by decide +kernel
  have hiX1 : ∀ w ∈ u_ws RX1 TX1 9, w ∈ wsX1_getsAt := by decide +kernel
  have hw26 : (Cond.fieldLink RX1 26 "OldMeasures" "stalls" "LOldMeasures$Stalls;").before ([.ref (a 0), .int (nI jv), .int w, .int (nI jx)] : List Value).toArray s = true := hts _ (by decide +kernel)
  refine lv_aload_n hx hb dX1_getsAt_0 rfl (lv_at hl 0 rfl) ?_
  refine lv_iload_n hx hb dX1_getsAt_1 rfl (lv_at hl 1 rfl) ?_
  refine ro_v (va_runV (As := [.int (nI jv)]) (rest := []) ⟨hx, hb, hml, hown, hts⟩ (k_X1_needStall l D cI cJ cR a k st fi fB fS fO fL c t y fW fD c2 t2 y2 gW gD hc jv (by omega)) (cwV 1 hts gX1_getsAt_X1_needStall rfl rfl rfl (by decide +kernel) ⟨Nat.le_of_ble_eq_true rfl, Nat.le_of_ble_eq_true rfl⟩) (preV_ro KC_ok hP hC (va_recv hK hP (ci := 1) (q0 := 0) rfl rfl)) rfl rfl hl.1 rfl (lv_room (Nat.le_of_ble_eq_true rfl)) dX1_getsAt_2 ⟨by decide, by decide⟩) (fun _ => ?_)
  refine lv_aload_n hx hb dX1_getsAt_5 rfl (lv_at hl 0 rfl) ?_
  refine lv_iload_n hx hb dX1_getsAt_6 rfl (lv_at hl 3 rfl) ?_
  refine ro_v (va_runV (As := [.int (nI jx)]) (rest := []) ⟨hx, hb, hml, hown, hts⟩ (k_X1_needMeasure l D cI cJ cR a k st fi fB fS fO fL c t y fW fD c2 t2 y2 gW gD hk8 jx (by omega)) (cwV 1 hts gX1_getsAt_X1_needMeasure rfl rfl rfl (by decide +kernel) ⟨Nat.le_of_ble_eq_true rfl, Nat.le_of_ble_eq_true rfl⟩) (preV_ro KC_ok hP hC (va_recv hK hP (ci := 1) (q0 := 0) rfl rfl)) rfl rfl hl.1 rfl (lv_room (Nat.le_of_ble_eq_true rfl)) dX1_getsAt_7 ⟨by decide, by decide⟩) (fun _ => ?_)
  refine lv_iload_n hx hb dX1_getsAt_10 rfl (lv_at hl 2 rfl) ?_
  refine ro_v (va_runS (As := [.int w]) (rest := []) ⟨hx, hb, hml, hown, hts⟩ (k_X1_needMany l D cI cJ cR a w hw9) (va_cwS 1 hts gX1_getsAt_X1_needMany rfl rfl rfl (by decide +kernel) ⟨Nat.le_of_ble_eq_true rfl, Nat.le_of_ble_eq_true rfl⟩) (preS_ro KC_ok (hP.sub (ws' := []) [] rfl) hC) rfl rfl hl.1 rfl (lv_room (Nat.le_of_ble_eq_true rfl)) dX1_getsAt_11 ⟨by decide, by decide⟩) (fun _ => ?_)
  refine lv_aload_n hx hb dX1_getsAt_14 rfl (lv_at hl 0 rfl) ?_
  refine lv_aload_n hx hb dX1_getsAt_15 rfl (lv_at hl 0 rfl) ?_
  refine va_get (D := D) (ci := 1) (v := .ref (a 5)) (C := RX1) (T := TX1) (N := 9) hx hb hts hiX1 hown hK hP 0 rfl rfl 4 (by decide) hw26 (fun _ h9 => h9) rfl dX1_getsAt_16 ?_
  refine va_getN (host := RX1) (D := D) (ci := 0) (v := .ref (a 7)) (C := RX0) (T := TX0) (N := 5) hx hb hts hiX0 hown hK hP 5 rfl rfl 1 (by decide) (va_Nw.use rfl hC.2.2.2.2.1) (fun _ h9 => h9) rfl dX1_getsAt_19 ?_
  refine lv_iload_n hx hb dX1_getsAt_22 rfl (lv_at hl 1 rfl) ?_
  refine xa_iald hx hb hK hP 7 0 rfl rfl (by omega) (by decide) dX1_getsAt_23 ?_
  refine lv_iload_n hx hb dX1_getsAt_24 rfl (lv_at hl 2 rfl) ?_
  refine lv_iload_n hx hb dX1_getsAt_25 rfl (lv_at hl 3 rfl) ?_
  refine ro_lE (va_runV (As := [.int (fD jv), .int w, .int (nI jx)]) (rest := []) ⟨hx, hb, hml, hown, hts⟩ (c_X1_givenWith l D cI cJ cR a k st fi fB fS fO fL c t y fW fD c2 t2 y2 gW gD hM hst2 (fD jv) w jx (by omega)) (cwV 3 hts gX1_getsAt_X1_givenWith rfl rfl rfl (by decide +kernel) ⟨Nat.le_of_ble_eq_true rfl, Nat.le_of_ble_eq_true rfl⟩) (preV_ro KC_ok (hP.sub (ws' := [((a 0), .inr (1, [.ref (a 1), .ref (a 2), .ref (a 3), .ref (a 4), .ref (a 5), .ref (a 8), .int (nI k), .int (nI st), .int fi])), ((a 1), .inl (cI, 8, .inl fB)), ((a 2), .inl (cI, 8, .inl fS)), ((a 3), .inl (cJ, 8, .inr (.inl fL))), ((a 4), .inl (cI, 8, .inl fO)), ((a 5), .inr (0, [.ref (a 6), .ref (a 7), .int (nI c), .int t, .int (nI y)])), ((a 6), .inl (cI, 6, .inl fW)), ((a 7), .inl (cI, 6, .inl fD)), ((a 8), .inr (0, [.ref (a 9), .ref (a 10), .int c2, .int t2, .int y2])), ((a 9), .inl (cI, 6, .inl gW)), ((a 10), .inl (cI, 6, .inl gD))]) [0, 1, 2, 3, 4, 5, 6, 7, 8, 9, 10] rfl) hC (va_recv hK hP (ci := 1) (q0 := 0) rfl rfl)) rfl rfl hl.1 rfl (lv_room (Nat.le_of_ble_eq_true rfl)) dX1_getsAt_26 ⟨by decide, by decide⟩) ?_
  exact W.lret (v := (gvn (fL jx) (fL st) w (fD jv))) hx hb hr (fun t9 ht hW => ⟨_, rfl, rfl, ht⟩) (fun q hq => absurd hq List.not_mem_nil) dX1_getsAt_29

set_option maxHeartbeats 4000000 in
set_option maxRecDepth 100000 in
theorem k_X1_stepsToEll (l : Launch) (D : va_G) (cI cJ cR : ClassId) (a : Nat → Nat) (k st : Nat) (fi : Int32) (fB fS fO : Nat → Int32) (fL : Nat → Int64) (c : Nat) (t : Int32) (y : Nat) (fW fD : Nat → Int32) (c2 t2 y2 : Int32) (gW gD : Nat → Int32) (hk8 : k ≤ 8) (jx : Nat) (hj_x : jx < k) : Met l yX1_stepsToEll wsX1_stepsToEll ({ frames := 6, cells := 0, slots := 0, locals := 160 }) (cP D [((a 0), .inr (1, [.ref (a 1), .ref (a 2), .ref (a 3), .ref (a 4), .ref (a 5), .ref (a 8), .int (nI k), .int (nI st), .int fi])), ((a 1), .inl (cI, 8, .inl fB)), ((a 2), .inl (cI, 8, .inl fS)), ((a 3), .inl (cJ, 8, .inr (.inl fL))), ((a 4), .inl (cI, 8, .inl fO)), ((a 5), .inr (0, [.ref (a 6), .ref (a 7), .int (nI c), .int t, .int (nI y)])), ((a 6), .inl (cI, 6, .inl fW)), ((a 7), .inl (cI, 6, .inl fD)), ((a 8), .inr (0, [.ref (a 9), .ref (a 10), .int c2, .int t2, .int y2])), ((a 9), .inl (cI, 6, .inl gW)), ((a 10), .inl (cI, 6, .inl gD))] (KC D cI cJ cR) [.ref (a 0), .int (nI jx)]) (roi (fun r => r = fS jx)) 0 0 (fun _ => False) := by
  refine Met.ofW (cc := cX1_stepsToEll) (maxL := 2) (ret := (some .int)) (by decide +kernel) rfl ?_
  intro p e s m args below meth c9 s₁ B hml hv
  obtain ⟨rfl, hP, hC⟩ := hv
  have hx := B.exec
  have hb := B.bytes
  have hr := B.returns
  have hts := atoms_spec (ws := wsX1_stepsToEll) B.pre
  have hown : s.vm.findClass RX1 = some m.cls := findClass_of_methodNamed B.named
  have hlocks := B.notSynchronized
  have hK : va_K D vwCl [(cI, .int), (cJ, .long), (cR, .array .int)] s := hC.1
  have hl := lv_entry ([.ref (a 0), .int (nI jx)]) (n := 2) (Nat.le_of_ble_eq_true rfl)
  rw [lg_entry_eq]
  generalize (lg_sl ([.ref (a 0), .int (nI jx)]) ++ List.replicate (2 - (lg_sl ([.ref (a 0), .int (nI jx)])).length) Slot.unset).toArray = ls at hl ⊢
  have hl : lv_has ls 2 [(0, .ref (a 0)), (1, .int (nI jx))] := hl
  have hiX1 : ∀ w ∈ u_ws RX1 TX1 9, w ∈ wsX1_stepsToEll := by decide +kernel
  have hw13 : (Cond.fieldLink RX1 13 "OldMeasures" "steps" "[I").before ([.ref (a 0), .int (nI jx)] : List Value).toArray s = true := hts _ (by decide +kernel)
  refine lv_aload_n hx hb dX1_stepsToEll_0 rfl (lv_at hl 0 rfl) ?_
  refine lv_iload_n hx hb dX1_stepsToEll_1 rfl (lv_at hl 1 rfl) ?_
  refine ro_v (va_runV (As := [.int (nI jx)]) (rest := []) ⟨hx, hb, hml, hown, hts⟩ (k_X1_needMeasure l D cI cJ cR a k st fi fB fS fO fL c t y fW fD c2 t2 y2 gW gD hk8 jx (by omega)) (cwV 1 hts gX1_stepsToEll_X1_needMeasure rfl rfl rfl (by decide +kernel) ⟨Nat.le_of_ble_eq_true rfl, Nat.le_of_ble_eq_true rfl⟩) (preV_ro KC_ok hP hC (va_recv hK hP (ci := 1) (q0 := 0) rfl rfl)) rfl rfl hl.1 rfl (lv_room (Nat.le_of_ble_eq_true rfl)) dX1_stepsToEll_2 ⟨by decide, by decide⟩) (fun _ => ?_)
  refine lv_aload_n hx hb dX1_stepsToEll_5 rfl (lv_at hl 0 rfl) ?_
  refine va_get (D := D) (ci := 1) (v := .ref (a 2)) (C := RX1) (T := TX1) (N := 9) hx hb hts hiX1 hown hK hP 0 rfl rfl 1 (by decide) hw13 (fun _ h9 => h9) rfl dX1_stepsToEll_6 ?_
  refine lv_iload_n hx hb dX1_stepsToEll_9 rfl (lv_at hl 1 rfl) ?_
  refine xa_iald hx hb hK hP 2 0 rfl rfl (by omega) (by decide) dX1_stepsToEll_10 ?_
  exact W.iret (v := (fS jx)) hx hb hr (fun t9 ht hW => ⟨_, rfl, rfl, ht⟩) (fun q hq => absurd hq List.not_mem_nil) dX1_stepsToEll_11

set_option maxHeartbeats 4000000 in
set_option maxRecDepth 100000 in
theorem k_X1_isLonger (l : Launch) (D : va_G) (cI cJ cR : ClassId) (a : Nat → Nat) (k st : Nat) (fi : Int32) (fB fS fO : Nat → Int32) (fL : Nat → Int64) (c : Nat) (t : Int32) (y : Nat) (fW fD : Nat → Int32) (c2 t2 y2 : Int32) (gW gD : Nat → Int32) (hM : MOk k fL fO) (hst2 : st < k) (jx : Nat) (hj_x : jx < k) (jz : Nat) (hj_z : jz < k) : Met l yX1_isLonger wsX1_isLonger ({ frames := 6, cells := 0, slots := 0, locals := 160 }) (cP D [((a 0), .inr (1, [.ref (a 1), .ref (a 2), .ref (a 3), .ref (a 4), .ref (a 5), .ref (a 8), .int (nI k), .int (nI st), .int fi])), ((a 1), .inl (cI, 8, .inl fB)), ((a 2), .inl (cI, 8, .inl fS)), ((a 3), .inl (cJ, 8, .inr (.inl fL))), ((a 4), .inl (cI, 8, .inl fO)), ((a 5), .inr (0, [.ref (a 6), .ref (a 7), .int (nI c), .int t, .int (nI y)])), ((a 6), .inl (cI, 6, .inl fW)), ((a 7), .inl (cI, 6, .inl fD)), ((a 8), .inr (0, [.ref (a 9), .ref (a 10), .int c2, .int t2, .int y2])), ((a 9), .inl (cI, 6, .inl gW)), ((a 10), .inl (cI, 6, .inl gD))] (KC D cI cJ cR) [.ref (a 0), .int (nI jx), .int (nI jz)]) (roi (fun r => r = bz ((fL jz).toInt < (fL jx).toInt))) 0 0 (fun _ => False) := by
  refine Met.ofW (cc := cX1_isLonger) (maxL := 3) (ret := (some .boolean)) (by decide +kernel) rfl ?_
  intro p e s m args below meth c9 s₁ B hml hv
  obtain ⟨rfl, hP, hC⟩ := hv
  have hx := B.exec
  have hb := B.bytes
  have hr := B.returns
  have hts := atoms_spec (ws := wsX1_isLonger) B.pre
  have hown : s.vm.findClass RX1 = some m.cls := findClass_of_methodNamed B.named
  have hlocks := B.notSynchronized
  have hK : va_K D vwCl [(cI, .int), (cJ, .long), (cR, .array .int)] s := hC.1
  have hl := lv_entry ([.ref (a 0), .int (nI jx), .int (nI jz)]) (n := 3) (Nat.le_of_ble_eq_true rfl)
  rw [lg_entry_eq]
  generalize (lg_sl ([.ref (a 0), .int (nI jx), .int (nI jz)]) ++ List.replicate (3 - (lg_sl ([.ref (a 0), .int (nI jx), .int (nI jz)])).length) Slot.unset).toArray = ls at hl ⊢
  have hl : lv_has ls 3 [(0, .ref (a 0)), (1, .int (nI jx)), (2, .int (nI jz))] := hl
  have hk8 : k ≤ 8 := hM.2.1
  have hk1 : 1 ≤ k := hM.1
  have hiX1 : ∀ w ∈ u_ws RX1 TX1 9, w ∈ wsX1_isLonger := by decide +kernel
  have hw16 : (Cond.fieldLink RX1 16 "OldMeasures" "lengths" "[J").before ([.ref (a 0), .int (nI jx), .int (nI jz)] : List Value).toArray s = true := hts _ (by decide +kernel)
  refine lv_aload_n hx hb dX1_isLonger_0 rfl (lv_at hl 0 rfl) ?_
  refine lv_iload_n hx hb dX1_isLonger_1 rfl (lv_at hl 1 rfl) ?_
  refine ro_v (va_runV (As := [.int (nI jx)]) (rest := []) ⟨hx, hb, hml, hown, hts⟩ (k_X1_needMeasure l D cI cJ cR a k st fi fB fS fO fL c t y fW fD c2 t2 y2 gW gD hk8 jx (by omega)) (cwV 1 hts gX1_isLonger_X1_needMeasure rfl rfl rfl (by decide +kernel) ⟨Nat.le_of_ble_eq_true rfl, Nat.le_of_ble_eq_true rfl⟩) (preV_ro KC_ok hP hC (va_recv hK hP (ci := 1) (q0 := 0) rfl rfl)) rfl rfl hl.1 rfl (lv_room (Nat.le_of_ble_eq_true rfl)) dX1_isLonger_2 ⟨by decide, by decide⟩) (fun _ => ?_)
  refine lv_aload_n hx hb dX1_isLonger_5 rfl (lv_at hl 0 rfl) ?_
  refine lv_iload_n hx hb dX1_isLonger_6 rfl (lv_at hl 2 rfl) ?_
  refine ro_v (va_runV (As := [.int (nI jz)]) (rest := []) ⟨hx, hb, hml, hown, hts⟩ (k_X1_needMeasure l D cI cJ cR a k st fi fB fS fO fL c t y fW fD c2 t2 y2 gW gD hk8 jz (by omega)) (cwV 1 hts gX1_isLonger_X1_needMeasure rfl rfl rfl (by decide +kernel) ⟨Nat.le_of_ble_eq_true rfl, Nat.le_of_ble_eq_true rfl⟩) (preV_ro KC_ok hP hC (va_recv hK hP (ci := 1) (q0 := 0) rfl rfl)) rfl rfl hl.1 rfl (lv_room (Nat.le_of_ble_eq_true rfl)) dX1_isLonger_7 ⟨by decide, by decide⟩) (fun _ => ?_)
  refine lv_aload_n hx hb dX1_isLonger_10 rfl (lv_at hl 0 rfl) ?_
  refine va_get (D := D) (ci := 1) (v := .ref (a 3)) (C := RX1) (T := TX1) (N := 9) hx hb hts hiX1 hown hK hP 0 rfl rfl 2 (by decide) hw16 (fun _ h9 => h9) rfl dX1_isLonger_11 ?_
  refine lv_iload_n hx hb dX1_isLonger_14 rfl (lv_at hl 1 rfl) ?_
  refine xa_lald hx hb hK hP 3 1 rfl rfl (by omega) (by decide) dX1_isLonger_15 ?_
  refine lv_aload_n hx hb dX1_isLonger_16 rfl (lv_at hl 0 rfl) ?_
  refine va_get (D := D) (ci := 1) (v := .ref (a 3)) (C := RX1) (T := TX1) (N := 9) hx hb hts hiX1 hown hK hP 0 rfl rfl 2 (by decide) hw16 (fun _ h9 => h9) rfl dX1_isLonger_17 ?_
  refine lv_iload_n hx hb dX1_isLonger_20 rfl (lv_at hl 2 rfl) ?_
  refine xa_lald hx hb hK hP 3 1 rfl rfl (by omega) (by decide) dX1_isLonger_21 ?_
  refine W.lcmp hx hb dX1_isLonger_22 ?_
  refine lv_if_le (tgt := 30) hx hb dX1_isLonger_23 (by decide) (fun c_23 => ?_) (fun c_23 => ?_)
  · skip
    have c_23 := (lgc_le _ _).mp c_23
    refine lv_iconst (v := 0) hx hb dX1_isLonger_30 (by decide) ?_
    exact W.zret (v := 0) hx hb hr rfl (fun t9 ht hW => ⟨_, rfl, by first | exact (bz_t (by omega)).symm | exact (bz_f (by omega)).symm, ht⟩) (fun q hq => absurd hq List.not_mem_nil) dX1_isLonger_31
  · skip
    have c_23 := (not_congr (lgc_le _ _)).mp c_23
    refine lv_iconst (v := 1) hx hb dX1_isLonger_26 (by decide) ?_
    refine lv_goto (tgt := 31) hx hb dX1_isLonger_27 (by decide) ?_
    exact W.zret (v := 1) hx hb hr rfl (fun t9 ht hW => ⟨_, rfl, by first | exact (bz_t (by omega)).symm | exact (bz_f (by omega)).symm, ht⟩) (fun q hq => absurd hq List.not_mem_nil) dX1_isLonger_31

set_option maxHeartbeats 4000000 in
set_option maxRecDepth 100000 in
theorem k_X1_fewestToMeet (l : Launch) (D : va_G) (cI cJ cR : ClassId) (a : Nat → Nat) (k st : Nat) (fi : Int32) (fB fS fO : Nat → Int32) (fL : Nat → Int64) (c : Nat) (t : Int32) (y : Nat) (fW fD : Nat → Int32) (c2 t2 y2 : Int32) (gW gD : Nat → Int32) (hM : MOk k fL fO) (hst2 : st < k) (jx : Nat) (hj_x : jx < k) (jz : Nat) (hj_z : jz < k) : Met l yX1_fewestToMeet wsX1_fewestToMeet ({ frames := 6, cells := 0, slots := 0, locals := 160 }) (cP D [((a 0), .inr (1, [.ref (a 1), .ref (a 2), .ref (a 3), .ref (a 4), .ref (a 5), .ref (a 8), .int (nI k), .int (nI st), .int fi])), ((a 1), .inl (cI, 8, .inl fB)), ((a 2), .inl (cI, 8, .inl fS)), ((a 3), .inl (cJ, 8, .inr (.inl fL))), ((a 4), .inl (cI, 8, .inl fO)), ((a 5), .inr (0, [.ref (a 6), .ref (a 7), .int (nI c), .int t, .int (nI y)])), ((a 6), .inl (cI, 6, .inl fW)), ((a 7), .inl (cI, 6, .inl fD)), ((a 8), .inr (0, [.ref (a 9), .ref (a 10), .int c2, .int t2, .int y2])), ((a 9), .inl (cI, 6, .inl gW)), ((a 10), .inl (cI, 6, .inl gD))] (KC D cI cJ cR) [.ref (a 0), .int (nI jx), .int (nI jz)]) (rol (fun r => r = tp (fL jz) (fL jx))) 0 0 (fun _ => False) := by
  refine Met.ofW (cc := cX1_fewestToMeet) (maxL := 3) (ret := (some .long)) (by decide +kernel) rfl ?_
  intro p e s m args below meth c9 s₁ B hml hv
  obtain ⟨rfl, hP, hC⟩ := hv
  have hx := B.exec
  have hb := B.bytes
  have hr := B.returns
  have hts := atoms_spec (ws := wsX1_fewestToMeet) B.pre
  have hown : s.vm.findClass RX1 = some m.cls := findClass_of_methodNamed B.named
  have hlocks := B.notSynchronized
  have hK : va_K D vwCl [(cI, .int), (cJ, .long), (cR, .array .int)] s := hC.1
  have hl := lv_entry ([.ref (a 0), .int (nI jx), .int (nI jz)]) (n := 3) (Nat.le_of_ble_eq_true rfl)
  rw [lg_entry_eq]
  generalize (lg_sl ([.ref (a 0), .int (nI jx), .int (nI jz)]) ++ List.replicate (3 - (lg_sl ([.ref (a 0), .int (nI jx), .int (nI jz)])).length) Slot.unset).toArray = ls at hl ⊢
  have hl : lv_has ls 3 [(0, .ref (a 0)), (1, .int (nI jx)), (2, .int (nI jz))] := hl
  have hk8 : k ≤ 8 := hM.2.1
  have hk1 : 1 ≤ k := hM.1
  have hiX1 : ∀ w ∈ u_ws RX1 TX1 9, w ∈ wsX1_fewestToMeet := by decide +kernel
  have hw16 : (Cond.fieldLink RX1 16 "OldMeasures" "lengths" "[J").before ([.ref (a 0), .int (nI jx), .int (nI jz)] : List Value).toArray s = true := hts _ (by decide +kernel)
  refine lv_aload_n hx hb dX1_fewestToMeet_0 rfl (lv_at hl 0 rfl) ?_
  refine lv_iload_n hx hb dX1_fewestToMeet_1 rfl (lv_at hl 1 rfl) ?_
  refine ro_v (va_runV (As := [.int (nI jx)]) (rest := []) ⟨hx, hb, hml, hown, hts⟩ (k_X1_needMeasure l D cI cJ cR a k st fi fB fS fO fL c t y fW fD c2 t2 y2 gW gD hk8 jx (by omega)) (cwV 1 hts gX1_fewestToMeet_X1_needMeasure rfl rfl rfl (by decide +kernel) ⟨Nat.le_of_ble_eq_true rfl, Nat.le_of_ble_eq_true rfl⟩) (preV_ro KC_ok hP hC (va_recv hK hP (ci := 1) (q0 := 0) rfl rfl)) rfl rfl hl.1 rfl (lv_room (Nat.le_of_ble_eq_true rfl)) dX1_fewestToMeet_2 ⟨by decide, by decide⟩) (fun _ => ?_)
  refine lv_aload_n hx hb dX1_fewestToMeet_5 rfl (lv_at hl 0 rfl) ?_
  refine lv_iload_n hx hb dX1_fewestToMeet_6 rfl (lv_at hl 2 rfl) ?_
  refine ro_v (va_runV (As := [.int (nI jz)]) (rest := []) ⟨hx, hb, hml, hown, hts⟩ (k_X1_needMeasure l D cI cJ cR a k st fi fB fS fO fL c t y fW fD c2 t2 y2 gW gD hk8 jz (by omega)) (cwV 1 hts gX1_fewestToMeet_X1_needMeasure rfl rfl rfl (by decide +kernel) ⟨Nat.le_of_ble_eq_true rfl, Nat.le_of_ble_eq_true rfl⟩) (preV_ro KC_ok hP hC (va_recv hK hP (ci := 1) (q0 := 0) rfl rfl)) rfl rfl hl.1 rfl (lv_room (Nat.le_of_ble_eq_true rfl)) dX1_fewestToMeet_7 ⟨by decide, by decide⟩) (fun _ => ?_)
  refine lv_aload_n hx hb dX1_fewestToMeet_10 rfl (lv_at hl 0 rfl) ?_
  refine va_get (D := D) (ci := 1) (v := .ref (a 3)) (C := RX1) (T := TX1) (N := 9) hx hb hts hiX1 hown hK hP 0 rfl rfl 2 (by decide) hw16 (fun _ h9 => h9) rfl dX1_fewestToMeet_11 ?_
  refine lv_iload_n hx hb dX1_fewestToMeet_14 rfl (lv_at hl 2 rfl) ?_
  refine xa_lald hx hb hK hP 3 1 rfl rfl (by omega) (by decide) dX1_fewestToMeet_15 ?_
  refine lv_aload_n hx hb dX1_fewestToMeet_16 rfl (lv_at hl 0 rfl) ?_
  refine va_get (D := D) (ci := 1) (v := .ref (a 3)) (C := RX1) (T := TX1) (N := 9) hx hb hts hiX1 hown hK hP 0 rfl rfl 2 (by decide) hw16 (fun _ h9 => h9) rfl dX1_fewestToMeet_17 ?_
  refine lv_iload_n hx hb dX1_fewestToMeet_20 rfl (lv_at hl 1 rfl) ?_
  refine xa_lald hx hb hK hP 3 1 rfl rfl (by omega) (by decide) dX1_fewestToMeet_21 ?_
  refine ro_lE (va_runS (As := [.long (fL jz), .long (fL jx)]) (rest := []) ⟨hx, hb, hml, hown, hts⟩ (c_X1_wcd l (fL jz) (fL jx) (hM.2.2.1 _ (by omega)) (hM.2.2.1 _ (by omega))) (va_cwS 2 hts gX1_fewestToMeet_X1_withoutCommonDivisor rfl rfl rfl (by decide +kernel) ⟨Nat.le_of_ble_eq_true rfl, Nat.le_of_ble_eq_true rfl⟩) pre0 rfl rfl hl.1 rfl (lv_room (Nat.le_of_ble_eq_true rfl)) dX1_fewestToMeet_22 ⟨by decide, by decide⟩) ?_
  exact W.lret (v := (tp (fL jz) (fL jx))) hx hb hr (fun t9 ht hW => ⟨_, rfl, rfl, ht⟩) (fun q hq => absurd hq List.not_mem_nil) dX1_fewestToMeet_25

set_option maxHeartbeats 4000000 in
set_option maxRecDepth 100000 in
theorem k_X1_convert (l : Launch) (D : va_G) (cI cJ cR : ClassId) (a : Nat → Nat) (k st : Nat) (fi : Int32) (fB fS fO : Nat → Int32) (fL : Nat → Int64) (c : Nat) (t : Int32) (y : Nat) (fW fD : Nat → Int32) (c2 t2 y2 : Int32) (gW gD : Nat → Int32) (hM : MOk k fL fO) (hst2 : st < k) (w : Int32) (hw9 : inR 1 200 w) (jx : Nat) (hj_x : jx < k) (jz : Nat) (hj_z : jz < k) : Met l yX1_convert wsX1_convert ({ frames := 6, cells := 0, slots := 0, locals := 160 }) (cP D [((a 0), .inr (1, [.ref (a 1), .ref (a 2), .ref (a 3), .ref (a 4), .ref (a 5), .ref (a 8), .int (nI k), .int (nI st), .int fi])), ((a 1), .inl (cI, 8, .inl fB)), ((a 2), .inl (cI, 8, .inl fS)), ((a 3), .inl (cJ, 8, .inr (.inl fL))), ((a 4), .inl (cI, 8, .inl fO)), ((a 5), .inr (0, [.ref (a 6), .ref (a 7), .int (nI c), .int t, .int (nI y)])), ((a 6), .inl (cI, 6, .inl fW)), ((a 7), .inl (cI, 6, .inl fD)), ((a 8), .inr (0, [.ref (a 9), .ref (a 10), .int c2, .int t2, .int y2])), ((a 9), .inl (cI, 6, .inl gW)), ((a 10), .inl (cI, 6, .inl gD))] (KC D cI cJ cR) [.ref (a 0), .int w, .int (nI jx), .int (nI jz)]) (rol (fun r => r = fL jx * w.toInt64 / fL jz)) 0 0 (fun _ => False) := by
  refine Met.ofW (cc := cX1_convert) (maxL := 4) (ret := (some .long)) (by decide +kernel) rfl ?_
  intro p e s m args below meth c9 s₁ B hml hv
  obtain ⟨rfl, hP, hC⟩ := hv
  have hx := B.exec
  have hb := B.bytes
  have hr := B.returns
  have hts := atoms_spec (ws := wsX1_convert) B.pre
  have hown : s.vm.findClass RX1 = some m.cls := findClass_of_methodNamed B.named
  have hlocks := B.notSynchronized
  have hK : va_K D vwCl [(cI, .int), (cJ, .long), (cR, .array .int)] s := hC.1
  have hl := lv_entry ([.ref (a 0), .int w, .int (nI jx), .int (nI jz)]) (n := 4) (Nat.le_of_ble_eq_true rfl)
  rw [lg_entry_eq]
  generalize (lg_sl ([.ref (a 0), .int w, .int (nI jx), .int (nI jz)]) ++ List.replicate (4 - (lg_sl ([.ref (a 0), .int w, .int (nI jx), .int (nI jz)])).length) Slot.unset).toArray = ls at hl ⊢
  have hl : lv_has ls 4 [(0, .ref (a 0)), (1, .int w), (2, .int (nI jx)), (3, .int (nI jz))] := hl
  have hk8 : k ≤ 8 := hM.2.1
  have hk1 : 1 ≤ k := hM.1
  have hiX1 : ∀ w ∈ u_ws RX1 TX1 9, w ∈ wsX1_convert := by decide +kernel
  have hw16 : (Cond.fieldLink RX1 16 "OldMeasures" "lengths" "[J").before ([.ref (a 0), .int w, .int (nI jx), .int (nI jz)] : List Value).toArray s = true := hts _ (by decide +kernel)
  refine lv_aload_n hx hb dX1_convert_0 rfl (lv_at hl 0 rfl) ?_
  refine lv_iload_n hx hb dX1_convert_1 rfl (lv_at hl 2 rfl) ?_
  refine ro_v (va_runV (As := [.int (nI jx)]) (rest := []) ⟨hx, hb, hml, hown, hts⟩ (k_X1_needMeasure l D cI cJ cR a k st fi fB fS fO fL c t y fW fD c2 t2 y2 gW gD hk8 jx (by omega)) (cwV 1 hts gX1_convert_X1_needMeasure rfl rfl rfl (by decide +kernel) ⟨Nat.le_of_ble_eq_true rfl, Nat.le_of_ble_eq_true rfl⟩) (preV_ro KC_ok hP hC (va_recv hK hP (ci := 1) (q0 := 0) rfl rfl)) rfl rfl hl.1 rfl (lv_room (Nat.le_of_ble_eq_true rfl)) dX1_convert_2 ⟨by decide, by decide⟩) (fun _ => ?_)
  refine lv_aload_n hx hb dX1_convert_5 rfl (lv_at hl 0 rfl) ?_
  refine lv_iload_n hx hb dX1_convert_6 rfl (lv_at hl 3 rfl) ?_
  refine ro_v (va_runV (As := [.int (nI jz)]) (rest := []) ⟨hx, hb, hml, hown, hts⟩ (k_X1_needMeasure l D cI cJ cR a k st fi fB fS fO fL c t y fW fD c2 t2 y2 gW gD hk8 jz (by omega)) (cwV 1 hts gX1_convert_X1_needMeasure rfl rfl rfl (by decide +kernel) ⟨Nat.le_of_ble_eq_true rfl, Nat.le_of_ble_eq_true rfl⟩) (preV_ro KC_ok hP hC (va_recv hK hP (ci := 1) (q0 := 0) rfl rfl)) rfl rfl hl.1 rfl (lv_room (Nat.le_of_ble_eq_true rfl)) dX1_convert_7 ⟨by decide, by decide⟩) (fun _ => ?_)
  refine lv_iload_n hx hb dX1_convert_10 rfl (lv_at hl 1 rfl) ?_
  refine ro_v (va_runS (As := [.int w]) (rest := []) ⟨hx, hb, hml, hown, hts⟩ (k_X1_needMany l D cI cJ cR a w hw9) (va_cwS 1 hts gX1_convert_X1_needMany rfl rfl rfl (by decide +kernel) ⟨Nat.le_of_ble_eq_true rfl, Nat.le_of_ble_eq_true rfl⟩) (preS_ro KC_ok (hP.sub (ws' := []) [] rfl) hC) rfl rfl hl.1 rfl (lv_room (Nat.le_of_ble_eq_true rfl)) dX1_convert_11 ⟨by decide, by decide⟩) (fun _ => ?_)
  refine lv_aload_n hx hb dX1_convert_14 rfl (lv_at hl 0 rfl) ?_
  refine va_get (D := D) (ci := 1) (v := .ref (a 3)) (C := RX1) (T := TX1) (N := 9) hx hb hts hiX1 hown hK hP 0 rfl rfl 2 (by decide) hw16 (fun _ h9 => h9) rfl dX1_convert_15 ?_
  refine lv_iload_n hx hb dX1_convert_18 rfl (lv_at hl 2 rfl) ?_
  refine xa_lald hx hb hK hP 3 1 rfl rfl (by omega) (by decide) dX1_convert_19 ?_
  refine lv_iload_n hx hb dX1_convert_20 rfl (lv_at hl 1 rfl) ?_
  refine lv_i2l (v := (w).toInt64) hx hb dX1_convert_21 rfl ?_
  refine lv_lmul hx hb dX1_convert_22 ?_
  refine lv_aload_n hx hb dX1_convert_23 rfl (lv_at hl 0 rfl) ?_
  refine va_get (D := D) (ci := 1) (v := .ref (a 3)) (C := RX1) (T := TX1) (N := 9) hx hb hts hiX1 hown hK hP 0 rfl rfl 2 (by decide) hw16 (fun _ h9 => h9) rfl dX1_convert_24 ?_
  refine lv_iload_n hx hb dX1_convert_27 rfl (lv_at hl 3 rfl) ?_
  refine xa_lald hx hb hK hP 3 1 rfl rfl (by omega) (by decide) dX1_convert_28 ?_
  refine ro_lE (va_runS (As := [.long ((fL jx) * (w).toInt64), .long (fL jz)]) (rest := []) ⟨hx, hb, hml, hown, hts⟩ (c_X1_timesIn l ((fL jx) * (w).toInt64) (fL jz) (hM.2.2.1 _ (by omega)).1) (va_cwS 2 hts gX1_convert_X1_timesIn rfl rfl rfl (by decide +kernel) ⟨Nat.le_of_ble_eq_true rfl, Nat.le_of_ble_eq_true rfl⟩) pre0 rfl rfl hl.1 rfl (lv_room (Nat.le_of_ble_eq_true rfl)) dX1_convert_29 ⟨by decide, by decide⟩) ?_
  exact W.lret (v := (((fL jx) * (w).toInt64) / (fL jz))) hx hb hr (fun t9 ht hW => ⟨_, rfl, rfl, ht⟩) (fun q hq => absurd hq List.not_mem_nil) dX1_convert_32

set_option maxHeartbeats 4000000 in
set_option maxRecDepth 100000 in
theorem k_X1_isExact (l : Launch) (D : va_G) (cI cJ cR : ClassId) (a : Nat → Nat) (k st : Nat) (fi : Int32) (fB fS fO : Nat → Int32) (fL : Nat → Int64) (c : Nat) (t : Int32) (y : Nat) (fW fD : Nat → Int32) (c2 t2 y2 : Int32) (gW gD : Nat → Int32) (hM : MOk k fL fO) (hst2 : st < k) (w : Int32) (hw9 : inR 1 200 w) (jx : Nat) (hj_x : jx < k) (jz : Nat) (hj_z : jz < k) : Met l yX1_isExact wsX1_isExact ({ frames := 6, cells := 0, slots := 0, locals := 160 }) (cP D [((a 0), .inr (1, [.ref (a 1), .ref (a 2), .ref (a 3), .ref (a 4), .ref (a 5), .ref (a 8), .int (nI k), .int (nI st), .int fi])), ((a 1), .inl (cI, 8, .inl fB)), ((a 2), .inl (cI, 8, .inl fS)), ((a 3), .inl (cJ, 8, .inr (.inl fL))), ((a 4), .inl (cI, 8, .inl fO)), ((a 5), .inr (0, [.ref (a 6), .ref (a 7), .int (nI c), .int t, .int (nI y)])), ((a 6), .inl (cI, 6, .inl fW)), ((a 7), .inl (cI, 6, .inl fD)), ((a 8), .inr (0, [.ref (a 9), .ref (a 10), .int c2, .int t2, .int y2])), ((a 9), .inl (cI, 6, .inl gW)), ((a 10), .inl (cI, 6, .inl gD))] (KC D cI cJ cR) [.ref (a 0), .int w, .int (nI jx), .int (nI jz)]) (roi (fun r => r = bz ((jrem (fL jx * w.toInt64) (fL jz)).toInt = (0 : Int64).toInt))) 0 0 (fun _ => False) := by
  refine Met.ofW (cc := cX1_isExact) (maxL := 4) (ret := (some .boolean)) (by decide +kernel) rfl ?_
  intro p e s m args below meth c9 s₁ B hml hv
  obtain ⟨rfl, hP, hC⟩ := hv
  have hx := B.exec
  have hb := B.bytes
  have hr := B.returns
  have hts := atoms_spec (ws := wsX1_isExact) B.pre
  have hown : s.vm.findClass RX1 = some m.cls := findClass_of_methodNamed B.named
  have hlocks := B.notSynchronized
  have hK : va_K D vwCl [(cI, .int), (cJ, .long), (cR, .array .int)] s := hC.1
  have hl := lv_entry ([.ref (a 0), .int w, .int (nI jx), .int (nI jz)]) (n := 4) (Nat.le_of_ble_eq_true rfl)
  rw [lg_entry_eq]
  generalize (lg_sl ([.ref (a 0), .int w, .int (nI jx), .int (nI jz)]) ++ List.replicate (4 - (lg_sl ([.ref (a 0), .int w, .int (nI jx), .int (nI jz)])).length) Slot.unset).toArray = ls at hl ⊢
  have hl : lv_has ls 4 [(0, .ref (a 0)), (1, .int w), (2, .int (nI jx)), (3, .int (nI jz))] := hl
  have hk8 : k ≤ 8 := hM.2.1
  have hk1 : 1 ≤ k := hM.1
  have hiX1 : ∀ w ∈ u_ws RX1 TX1 9, w ∈ wsX1_isExact := by decide +kernel
  have hw16 : (Cond.fieldLink RX1 16 "OldMeasures" "lengths" "[J").before ([.ref (a 0), .int w, .int (nI jx), .int (nI jz)] : List Value).toArray s = true := hts _ (by decide +kernel)
  refine lv_aload_n hx hb dX1_isExact_0 rfl (lv_at hl 0 rfl) ?_
  refine lv_iload_n hx hb dX1_isExact_1 rfl (lv_at hl 2 rfl) ?_
  refine ro_v (va_runV (As := [.int (nI jx)]) (rest := []) ⟨hx, hb, hml, hown, hts⟩ (k_X1_needMeasure l D cI cJ cR a k st fi fB fS fO fL c t y fW fD c2 t2 y2 gW gD hk8 jx (by omega)) (cwV 1 hts gX1_isExact_X1_needMeasure rfl rfl rfl (by decide +kernel) ⟨Nat.le_of_ble_eq_true rfl, Nat.le_of_ble_eq_true rfl⟩) (preV_ro KC_ok hP hC (va_recv hK hP (ci := 1) (q0 := 0) rfl rfl)) rfl rfl hl.1 rfl (lv_room (Nat.le_of_ble_eq_true rfl)) dX1_isExact_2 ⟨by decide, by decide⟩) (fun _ => ?_)
  refine lv_aload_n hx hb dX1_isExact_5 rfl (lv_at hl 0 rfl) ?_
  refine lv_iload_n hx hb dX1_isExact_6 rfl (lv_at hl 3 rfl) ?_
  refine ro_v (va_runV (As := [.int (nI jz)]) (rest := []) ⟨hx, hb, hml, hown, hts⟩ (k_X1_needMeasure l D cI cJ cR a k st fi fB fS fO fL c t y fW fD c2 t2 y2 gW gD hk8 jz (by omega)) (cwV 1 hts gX1_isExact_X1_needMeasure rfl rfl rfl (by decide +kernel) ⟨Nat.le_of_ble_eq_true rfl, Nat.le_of_ble_eq_true rfl⟩) (preV_ro KC_ok hP hC (va_recv hK hP (ci := 1) (q0 := 0) rfl rfl)) rfl rfl hl.1 rfl (lv_room (Nat.le_of_ble_eq_true rfl)) dX1_isExact_7 ⟨by decide, by decide⟩) (fun _ => ?_)
  refine lv_iload_n hx hb dX1_isExact_10 rfl (lv_at hl 1 rfl) ?_
  refine ro_v (va_runS (As := [.int w]) (rest := []) ⟨hx, hb, hml, hown, hts⟩ (k_X1_needMany l D cI cJ cR a w hw9) (va_cwS 1 hts gX1_isExact_X1_needMany rfl rfl rfl (by decide +kernel) ⟨Nat.le_of_ble_eq_true rfl, Nat.le_of_ble_eq_true rfl⟩) (preS_ro KC_ok (hP.sub (ws' := []) [] rfl) hC) rfl rfl hl.1 rfl (lv_room (Nat.le_of_ble_eq_true rfl)) dX1_isExact_11 ⟨by decide, by decide⟩) (fun _ => ?_)
  refine lv_aload_n hx hb dX1_isExact_14 rfl (lv_at hl 0 rfl) ?_
  refine va_get (D := D) (ci := 1) (v := .ref (a 3)) (C := RX1) (T := TX1) (N := 9) hx hb hts hiX1 hown hK hP 0 rfl rfl 2 (by decide) hw16 (fun _ h9 => h9) rfl dX1_isExact_15 ?_
  refine lv_iload_n hx hb dX1_isExact_18 rfl (lv_at hl 2 rfl) ?_
  refine xa_lald hx hb hK hP 3 1 rfl rfl (by omega) (by decide) dX1_isExact_19 ?_
  refine lv_iload_n hx hb dX1_isExact_20 rfl (lv_at hl 1 rfl) ?_
  refine lv_i2l (v := (w).toInt64) hx hb dX1_isExact_21 rfl ?_
  refine lv_lmul hx hb dX1_isExact_22 ?_
  refine lv_aload_n hx hb dX1_isExact_23 rfl (lv_at hl 0 rfl) ?_
  refine va_get (D := D) (ci := 1) (v := .ref (a 3)) (C := RX1) (T := TX1) (N := 9) hx hb hts hiX1 hown hK hP 0 rfl rfl 2 (by decide) hw16 (fun _ h9 => h9) rfl dX1_isExact_24 ?_
  refine lv_iload_n hx hb dX1_isExact_27 rfl (lv_at hl 3 rfl) ?_
  refine xa_lald hx hb hK hP 3 1 rfl rfl (by omega) (by decide) dX1_isExact_28 ?_
  refine ro_lE (va_runS (As := [.long ((fL jx) * (w).toInt64), .long (fL jz)]) (rest := []) ⟨hx, hb, hml, hown, hts⟩ (c_X1_leftOf l ((fL jx) * (w).toInt64) (fL jz) (hM.2.2.1 _ (by omega)).1) (va_cwS 2 hts gX1_isExact_X1_leftOf rfl rfl rfl (by decide +kernel) ⟨Nat.le_of_ble_eq_true rfl, Nat.le_of_ble_eq_true rfl⟩) pre0 rfl rfl hl.1 rfl (lv_room (Nat.le_of_ble_eq_true rfl)) dX1_isExact_29 ⟨by decide, by decide⟩) ?_
  refine lv_lconst (v := 0) hx hb dX1_isExact_32 (by decide) ?_
  refine W.lcmp hx hb dX1_isExact_33 ?_
  refine lv_if_ne (tgt := 41) hx hb dX1_isExact_34 (by decide) (fun c_34 => ?_) (fun c_34 => ?_)
  · skip
    have c_34 := (lgc_ne _ _).mp c_34
    refine lv_iconst (v := 0) hx hb dX1_isExact_41 (by decide) ?_
    exact W.zret (v := 0) hx hb hr rfl (fun t9 ht hW => ⟨_, rfl, by first | exact (bz_t (by omega)).symm | exact (bz_f (by omega)).symm, ht⟩) (fun q hq => absurd hq List.not_mem_nil) dX1_isExact_42
  · skip
    have c_34 := (lgc_eq _ _).mp c_34
    refine lv_iconst (v := 1) hx hb dX1_isExact_37 (by decide) ?_
    refine lv_goto (tgt := 42) hx hb dX1_isExact_38 (by decide) ?_
    exact W.zret (v := 1) hx hb hr rfl (fun t9 ht hW => ⟨_, rfl, by first | exact (bz_t (by omega)).symm | exact (bz_f (by omega)).symm, ht⟩) (fun q hq => absurd hq List.not_mem_nil) dX1_isExact_42

