set_option maxHeartbeats 4000000 in
set_option maxRecDepth 100000 in
theorem c_X1_baseOf (l : Launch) (hst : l.stackTraces = false) (D : va_G) (cI cJ : ClassId) (a : Nat → Nat) (k st : Nat) (fi : Int32) (fB fS fO : Nat → Int32) (fL : Nat → Int64) (c : Nat) (t : Int32) (y : Nat) (fW fD : Nat → Int32) (c2 t2 y2 : Int32) (gW gD : Nat → Int32) (hk : k ≤ 8) (x : Int32) : vx_Met l yX1_baseOf wsX1_baseOf ({ frames := 7, cells := 1, slots := 6, locals := 150 }) (cP D [((a 0), .inr (1, [.ref (a 1), .ref (a 2), .ref (a 3), .ref (a 4), .ref (a 5), .ref (a 8), .int (nI k), .int (nI st), .int fi])), ((a 1), .inl (cI, 8, .inl fB)), ((a 2), .inl (cI, 8, .inl fS)), ((a 3), .inl (cJ, 8, .inr (.inl fL))), ((a 4), .inl (cI, 8, .inl fO)), ((a 5), .inr (0, [.ref (a 6), .ref (a 7), .int (nI c), .int t, .int (nI y)])), ((a 6), .inl (cI, 6, .inl fW)), ((a 7), .inl (cI, 6, .inl fD)), ((a 8), .inr (0, [.ref (a 9), .ref (a 10), .int c2, .int t2, .int y2])), ((a 9), .inl (cI, 6, .inl gW)), ((a 10), .inl (cI, 6, .inl gD))] (KC D cI cJ a) [.ref (a 0), .int x]) (roi (fun r => inM k x ∧ r = fB x.toNatClampNeg)) (rox (fun E => (E = eIO ∧ ¬ inM k x))) 1 6 (fun _ => False) := by
  refine vx_ofW (cc := cX1_baseOf) (maxL := 2) (ret := (some .int)) (by decide +kernel) rfl ?_
  intro p e s m args below meth c9 s₁ B hml hout hv
  obtain ⟨rfl, hP, hC⟩ := hv
  have hx := B.exec
  have hb := B.bytes
  have hr := B.returns
  have hts := atoms_spec (ws := wsX1_baseOf) B.pre
  have hown : s.vm.findClass RX1 = some m.cls := findClass_of_methodNamed B.named
  have hlocks := B.notSynchronized
  have hK : va_K D vwCl [(cI, .int), (cJ, .long)] s := hC.1
  have hl := lv_entry ([.ref (a 0), .int x]) (n := 2) (Nat.le_of_ble_eq_true rfl)
  rw [lg_entry_eq]
  generalize (lg_sl ([.ref (a 0), .int x]) ++ List.replicate (2 - (lg_sl ([.ref (a 0), .int x])).length) Slot.unset).toArray = ls at hl ⊢
  have hl : lv_has ls 2 [(0, .ref (a 0)), (1, .int x)] := hl
  have hiX1 : ∀ w ∈ u_ws RX1 TX1 9, w ∈ wsX1_baseOf := by decide +kernel
  have hw9 : (Cond.fieldLink RX1 9 "OldMeasures" "bases" "[I").before ([.ref (a 0), .int x] : List Value).toArray s = true := hts _ (by decide +kernel)
  refine lv_aload_n hx hb dX1_baseOf_0 rfl (lv_at hl 0 rfl) ?_
  refine lv_iload_n hx hb dX1_baseOf_1 rfl (lv_at hl 1 rfl) ?_
  refine xro_vP (vx_runV (As := [.int x]) (rest := []) ⟨hx, hb, hml, hown, hts⟩ (c_X1_needMeasure l hst D cI cJ a k st fi fB fS fO fL c t y fW fD c2 t2 y2 gW gD (by omega) x) (cwV 1 hts gX1_baseOf_X1_needMeasure rfl rfl rfl (by decide +kernel) ⟨Nat.le_of_ble_eq_true rfl, Nat.le_of_ble_eq_true rfl⟩) (preV_ro KC_ok hP hC (va_recv hK hP (ci := 1) (q0 := 0) rfl rfl)) rfl rfl hl.1 rfl (lv_room (Nat.le_of_ble_eq_true rfl)) dX1_baseOf_2 ⟨by decide, by decide⟩) hout hlocks (by decide) (by decide) (fun E h9 => ⟨h9.1, h9.2⟩) (fun hp_2 => ?_)
  obtain ⟨jx, hj_x, rfl⟩ := inM_of hp_2 (by omega)
  refine lv_aload_n hx hb dX1_baseOf_5 rfl (lv_at hl 0 rfl) ?_
  refine va_get (D := D) (ci := 1) (v := .ref (a 1)) (C := RX1) (T := TX1) (N := 9) hx hb hts hiX1 hown hK hP 0 rfl rfl 0 (by decide) hw9 (fun _ h9 => h9) rfl dX1_baseOf_6 ?_
  refine lv_iload_n hx hb dX1_baseOf_9 rfl (lv_at hl 1 rfl) ?_
  refine xa_iald hx hb hK hP 1 0 rfl rfl (by omega) (by decide) dX1_baseOf_10 ?_
  refine vx_ret ?_
  exact W.iret (v := (fB jx)) hx hb hr (fun t9 ht hW => ⟨_, rfl, ⟨hp_2, by rw [nI_clamp (by omega)]⟩, ht⟩) (fun q hq => absurd hq List.not_mem_nil) dX1_baseOf_11

set_option maxHeartbeats 4000000 in
set_option maxRecDepth 100000 in
theorem c_X1_stepsToEll (l : Launch) (hst : l.stackTraces = false) (D : va_G) (cI cJ : ClassId) (a : Nat → Nat) (k st : Nat) (fi : Int32) (fB fS fO : Nat → Int32) (fL : Nat → Int64) (c : Nat) (t : Int32) (y : Nat) (fW fD : Nat → Int32) (c2 t2 y2 : Int32) (gW gD : Nat → Int32) (hk : k ≤ 8) (x : Int32) : vx_Met l yX1_stepsToEll wsX1_stepsToEll ({ frames := 7, cells := 1, slots := 6, locals := 150 }) (cP D [((a 0), .inr (1, [.ref (a 1), .ref (a 2), .ref (a 3), .ref (a 4), .ref (a 5), .ref (a 8), .int (nI k), .int (nI st), .int fi])), ((a 1), .inl (cI, 8, .inl fB)), ((a 2), .inl (cI, 8, .inl fS)), ((a 3), .inl (cJ, 8, .inr (.inl fL))), ((a 4), .inl (cI, 8, .inl fO)), ((a 5), .inr (0, [.ref (a 6), .ref (a 7), .int (nI c), .int t, .int (nI y)])), ((a 6), .inl (cI, 6, .inl fW)), ((a 7), .inl (cI, 6, .inl fD)), ((a 8), .inr (0, [.ref (a 9), .ref (a 10), .int c2, .int t2, .int y2])), ((a 9), .inl (cI, 6, .inl gW)), ((a 10), .inl (cI, 6, .inl gD))] (KC D cI cJ a) [.ref (a 0), .int x]) (roi (fun r => inM k x ∧ r = fS x.toNatClampNeg)) (rox (fun E => (E = eIO ∧ ¬ inM k x))) 1 6 (fun _ => False) := by
  refine vx_ofW (cc := cX1_stepsToEll) (maxL := 2) (ret := (some .int)) (by decide +kernel) rfl ?_
  intro p e s m args below meth c9 s₁ B hml hout hv
  obtain ⟨rfl, hP, hC⟩ := hv
  have hx := B.exec
  have hb := B.bytes
  have hr := B.returns
  have hts := atoms_spec (ws := wsX1_stepsToEll) B.pre
  have hown : s.vm.findClass RX1 = some m.cls := findClass_of_methodNamed B.named
  have hlocks := B.notSynchronized
  have hK : va_K D vwCl [(cI, .int), (cJ, .long)] s := hC.1
  have hl := lv_entry ([.ref (a 0), .int x]) (n := 2) (Nat.le_of_ble_eq_true rfl)
  rw [lg_entry_eq]
  generalize (lg_sl ([.ref (a 0), .int x]) ++ List.replicate (2 - (lg_sl ([.ref (a 0), .int x])).length) Slot.unset).toArray = ls at hl ⊢
  have hl : lv_has ls 2 [(0, .ref (a 0)), (1, .int x)] := hl
  have hiX1 : ∀ w ∈ u_ws RX1 TX1 9, w ∈ wsX1_stepsToEll := by decide +kernel
  have hw13 : (Cond.fieldLink RX1 13 "OldMeasures" "steps" "[I").before ([.ref (a 0), .int x] : List Value).toArray s = true := hts _ (by decide +kernel)
  refine lv_aload_n hx hb dX1_stepsToEll_0 rfl (lv_at hl 0 rfl) ?_
  refine lv_iload_n hx hb dX1_stepsToEll_1 rfl (lv_at hl 1 rfl) ?_
  refine xro_vP (vx_runV (As := [.int x]) (rest := []) ⟨hx, hb, hml, hown, hts⟩ (c_X1_needMeasure l hst D cI cJ a k st fi fB fS fO fL c t y fW fD c2 t2 y2 gW gD (by omega) x) (cwV 1 hts gX1_stepsToEll_X1_needMeasure rfl rfl rfl (by decide +kernel) ⟨Nat.le_of_ble_eq_true rfl, Nat.le_of_ble_eq_true rfl⟩) (preV_ro KC_ok hP hC (va_recv hK hP (ci := 1) (q0 := 0) rfl rfl)) rfl rfl hl.1 rfl (lv_room (Nat.le_of_ble_eq_true rfl)) dX1_stepsToEll_2 ⟨by decide, by decide⟩) hout hlocks (by decide) (by decide) (fun E h9 => ⟨h9.1, h9.2⟩) (fun hp_2 => ?_)
  obtain ⟨jx, hj_x, rfl⟩ := inM_of hp_2 (by omega)
  refine lv_aload_n hx hb dX1_stepsToEll_5 rfl (lv_at hl 0 rfl) ?_
  refine va_get (D := D) (ci := 1) (v := .ref (a 2)) (C := RX1) (T := TX1) (N := 9) hx hb hts hiX1 hown hK hP 0 rfl rfl 1 (by decide) hw13 (fun _ h9 => h9) rfl dX1_stepsToEll_6 ?_
  refine lv_iload_n hx hb dX1_stepsToEll_9 rfl (lv_at hl 1 rfl) ?_
  refine xa_iald hx hb hK hP 2 0 rfl rfl (by omega) (by decide) dX1_stepsToEll_10 ?_
  refine vx_ret ?_
  exact W.iret (v := (fS jx)) hx hb hr (fun t9 ht hW => ⟨_, rfl, ⟨hp_2, by rw [nI_clamp (by omega)]⟩, ht⟩) (fun q hq => absurd hq List.not_mem_nil) dX1_stepsToEll_11

theorem c_X1_wcd (l : Launch) (X Y : Int64) (hX : 0 < X.toInt ∧ X.toInt ≤ 4782969) (hY : 0 < Y.toInt ∧ Y.toInt ≤ 4782969) : Met l yX1_withoutCommonDivisor wsX1_withoutCommonDivisor ({ frames := 1, cells := 0, slots := 0, locals := 30 }) (va_Pc [.long X, .long Y] (fun _ => True)) (rol (fun r => r = tp X Y)) 0 0 (fun _ => False) := by
  obtain ⟨u, hu, hu2, rfl⟩ := lN_of (b := 4782969) hX.1 hX.2
  obtain ⟨v, hv, hv2, rfl⟩ := lN_of (b := 4782969) hY.1 hY.2
  rw [tp_lN (by omega) (by omega)]
  exact c_X1_withoutCommonDivisor l u v hu hv (by omega) (by omega)

set_option maxHeartbeats 4000000 in
set_option maxRecDepth 100000 in
theorem c_X1_lengthTop (l : Launch) (hst : l.stackTraces = false) (D : va_G) (cI cJ : ClassId) (a : Nat → Nat) (k st : Nat) (fi : Int32) (fB fS fO : Nat → Int32) (fL : Nat → Int64) (c : Nat) (t : Int32) (y : Nat) (fW fD : Nat → Int32) (c2 t2 y2 : Int32) (gW gD : Nat → Int32) (hM : MOk k fL fO) (hst2 : st < k) (x : Int32) : vx_Met l yX1_lengthTop wsX1_lengthTop ({ frames := 7, cells := 1, slots := 6, locals := 150 }) (cP D [((a 0), .inr (1, [.ref (a 1), .ref (a 2), .ref (a 3), .ref (a 4), .ref (a 5), .ref (a 8), .int (nI k), .int (nI st), .int fi])), ((a 1), .inl (cI, 8, .inl fB)), ((a 2), .inl (cI, 8, .inl fS)), ((a 3), .inl (cJ, 8, .inr (.inl fL))), ((a 4), .inl (cI, 8, .inl fO)), ((a 5), .inr (0, [.ref (a 6), .ref (a 7), .int (nI c), .int t, .int (nI y)])), ((a 6), .inl (cI, 6, .inl fW)), ((a 7), .inl (cI, 6, .inl fD)), ((a 8), .inr (0, [.ref (a 9), .ref (a 10), .int c2, .int t2, .int y2])), ((a 9), .inl (cI, 6, .inl gW)), ((a 10), .inl (cI, 6, .inl gD))] (KC D cI cJ a) [.ref (a 0), .int x]) (rol (fun r => inM k x ∧ r = tp (fL x.toNatClampNeg) (fL st))) (rox (fun E => (E = eIO ∧ ¬ inM k x))) 1 6 (fun _ => False) := by
  refine vx_ofW (cc := cX1_lengthTop) (maxL := 2) (ret := (some .long)) (by decide +kernel) rfl ?_
  intro p e s m args below meth c9 s₁ B hml hout hv
  obtain ⟨rfl, hP, hC⟩ := hv
  have hx := B.exec
  have hb := B.bytes
  have hr := B.returns
  have hts := atoms_spec (ws := wsX1_lengthTop) B.pre
  have hown : s.vm.findClass RX1 = some m.cls := findClass_of_methodNamed B.named
  have hlocks := B.notSynchronized
  have hK : va_K D vwCl [(cI, .int), (cJ, .long)] s := hC.1
  have hl := lv_entry ([.ref (a 0), .int x]) (n := 2) (Nat.le_of_ble_eq_true rfl)
  rw [lg_entry_eq]
  generalize (lg_sl ([.ref (a 0), .int x]) ++ List.replicate (2 - (lg_sl ([.ref (a 0), .int x])).length) Slot.unset).toArray = ls at hl ⊢
  have hl : lv_has ls 2 [(0, .ref (a 0)), (1, .int x)] := hl
  have hk8 : k ≤ 8 := hM.2.1
  have hk1 : 1 ≤ k := hM.1
  have hiX1 : ∀ w ∈ u_ws RX1 TX1 9, w ∈ wsX1_lengthTop := by decide +kernel
  have hw16 : (Cond.fieldLink RX1 16 "OldMeasures" "lengths" "[J").before ([.ref (a 0), .int x] : List Value).toArray s = true := hts _ (by decide +kernel)
  have hw37 : (Cond.fieldLink RX1 37 "OldMeasures" "standard" "I").before ([.ref (a 0), .int x] : List Value).toArray s = true := hts _ (by decide +kernel)
  refine lv_aload_n hx hb dX1_lengthTop_0 rfl (lv_at hl 0 rfl) ?_
  refine lv_iload_n hx hb dX1_lengthTop_1 rfl (lv_at hl 1 rfl) ?_
  refine xro_vP (vx_runV (As := [.int x]) (rest := []) ⟨hx, hb, hml, hown, hts⟩ (c_X1_needMeasure l hst D cI cJ a k st fi fB fS fO fL c t y fW fD c2 t2 y2 gW gD (by omega) x) (cwV 1 hts gX1_lengthTop_X1_needMeasure rfl rfl rfl (by decide +kernel) ⟨Nat.le_of_ble_eq_true rfl, Nat.le_of_ble_eq_true rfl⟩) (preV_ro KC_ok hP hC (va_recv hK hP (ci := 1) (q0 := 0) rfl rfl)) rfl rfl hl.1 rfl (lv_room (Nat.le_of_ble_eq_true rfl)) dX1_lengthTop_2 ⟨by decide, by decide⟩) hout hlocks (by decide) (by decide) (fun E h9 => ⟨h9.1, h9.2⟩) (fun hp_2 => ?_)
  obtain ⟨jx, hj_x, rfl⟩ := inM_of hp_2 (by omega)
  refine lv_aload_n hx hb dX1_lengthTop_5 rfl (lv_at hl 0 rfl) ?_
  refine va_get (D := D) (ci := 1) (v := .ref (a 3)) (C := RX1) (T := TX1) (N := 9) hx hb hts hiX1 hown hK hP 0 rfl rfl 2 (by decide) hw16 (fun _ h9 => h9) rfl dX1_lengthTop_6 ?_
  refine lv_iload_n hx hb dX1_lengthTop_9 rfl (lv_at hl 1 rfl) ?_
  refine xa_lald hx hb hK hP 3 1 rfl rfl (by omega) (by decide) dX1_lengthTop_10 ?_
  refine lv_aload_n hx hb dX1_lengthTop_11 rfl (lv_at hl 0 rfl) ?_
  refine va_get (D := D) (ci := 1) (v := .ref (a 3)) (C := RX1) (T := TX1) (N := 9) hx hb hts hiX1 hown hK hP 0 rfl rfl 2 (by decide) hw16 (fun _ h9 => h9) rfl dX1_lengthTop_12 ?_
  refine lv_aload_n hx hb dX1_lengthTop_15 rfl (lv_at hl 0 rfl) ?_
  refine va_get (D := D) (ci := 1) (v := .int (nI st)) (C := RX1) (T := TX1) (N := 9) hx hb hts hiX1 hown hK hP 0 rfl rfl 7 (by decide) hw37 (fun _ h9 => h9) rfl dX1_lengthTop_16 ?_
  refine xa_lald hx hb hK hP 3 1 rfl rfl (by omega) (by decide) dX1_lengthTop_19 ?_
  refine ro_lE (va_runS (As := [.long (fL jx), .long (fL st)]) (rest := []) ⟨hx, hb, hml, hown, hts⟩ (c_X1_wcd l (fL jx) (fL st) (hM.2.2.1 _ (by omega)) (hM.2.2.1 _ (by omega))) (va_cwS 2 hts gX1_lengthTop_X1_withoutCommonDivisor rfl rfl rfl (by decide +kernel) ⟨Nat.le_of_ble_eq_true rfl, Nat.le_of_ble_eq_true rfl⟩) pre0 rfl rfl hl.1 rfl (lv_room (Nat.le_of_ble_eq_true rfl)) dX1_lengthTop_20 ⟨by decide, by decide⟩) ?_
  refine vx_ret ?_
  exact W.lret (v := (tp (fL jx) (fL st))) hx hb hr (fun t9 ht hW => ⟨_, rfl, ⟨hp_2, by simp only [nI_clamp (show jx < 2 ^ 31 by omega)]⟩, ht⟩) (fun q hq => absurd hq List.not_mem_nil) dX1_lengthTop_23

set_option maxHeartbeats 4000000 in
set_option maxRecDepth 100000 in
theorem c_X1_lengthBottom (l : Launch) (hst : l.stackTraces = false) (D : va_G) (cI cJ : ClassId) (a : Nat → Nat) (k st : Nat) (fi : Int32) (fB fS fO : Nat → Int32) (fL : Nat → Int64) (c : Nat) (t : Int32) (y : Nat) (fW fD : Nat → Int32) (c2 t2 y2 : Int32) (gW gD : Nat → Int32) (hM : MOk k fL fO) (hst2 : st < k) (x : Int32) : vx_Met l yX1_lengthBottom wsX1_lengthBottom ({ frames := 7, cells := 1, slots := 6, locals := 150 }) (cP D [((a 0), .inr (1, [.ref (a 1), .ref (a 2), .ref (a 3), .ref (a 4), .ref (a 5), .ref (a 8), .int (nI k), .int (nI st), .int fi])), ((a 1), .inl (cI, 8, .inl fB)), ((a 2), .inl (cI, 8, .inl fS)), ((a 3), .inl (cJ, 8, .inr (.inl fL))), ((a 4), .inl (cI, 8, .inl fO)), ((a 5), .inr (0, [.ref (a 6), .ref (a 7), .int (nI c), .int t, .int (nI y)])), ((a 6), .inl (cI, 6, .inl fW)), ((a 7), .inl (cI, 6, .inl fD)), ((a 8), .inr (0, [.ref (a 9), .ref (a 10), .int c2, .int t2, .int y2])), ((a 9), .inl (cI, 6, .inl gW)), ((a 10), .inl (cI, 6, .inl gD))] (KC D cI cJ a) [.ref (a 0), .int x]) (rol (fun r => inM k x ∧ r = tp (fL st) (fL x.toNatClampNeg))) (rox (fun E => (E = eIO ∧ ¬ inM k x))) 1 6 (fun _ => False) := by
  refine vx_ofW (cc := cX1_lengthBottom) (maxL := 2) (ret := (some .long)) (by decide +kernel) rfl ?_
  intro p e s m args below meth c9 s₁ B hml hout hv
  obtain ⟨rfl, hP, hC⟩ := hv
  have hx := B.exec
  have hb := B.bytes
  have hr := B.returns
  have hts := atoms_spec (ws := wsX1_lengthBottom) B.pre
  have hown : s.vm.findClass RX1 = some m.cls := findClass_of_methodNamed B.named
  have hlocks := B.notSynchronized
  have hK : va_K D vwCl [(cI, .int), (cJ, .long)] s := hC.1
  have hl := lv_entry ([.ref (a 0), .int x]) (n := 2) (Nat.le_of_ble_eq_true rfl)
  rw [lg_entry_eq]
  generalize (lg_sl ([.ref (a 0), .int x]) ++ List.replicate (2 - (lg_sl ([.ref (a 0), .int x])).length) Slot.unset).toArray = ls at hl ⊢
  have hl : lv_has ls 2 [(0, .ref (a 0)), (1, .int x)] := hl
  have hk8 : k ≤ 8 := hM.2.1
  have hk1 : 1 ≤ k := hM.1
  have hiX1 : ∀ w ∈ u_ws RX1 TX1 9, w ∈ wsX1_lengthBottom := by decide +kernel
  have hw16 : (Cond.fieldLink RX1 16 "OldMeasures" "lengths" "[J").before ([.ref (a 0), .int x] : List Value).toArray s = true := hts _ (by decide +kernel)
  have hw37 : (Cond.fieldLink RX1 37 "OldMeasures" "standard" "I").before ([.ref (a 0), .int x] : List Value).toArray s = true := hts _ (by decide +kernel)
  refine lv_aload_n hx hb dX1_lengthBottom_0 rfl (lv_at hl 0 rfl) ?_
  refine lv_iload_n hx hb dX1_lengthBottom_1 rfl (lv_at hl 1 rfl) ?_
  refine xro_vP (vx_runV (As := [.int x]) (rest := []) ⟨hx, hb, hml, hown, hts⟩ (c_X1_needMeasure l hst D cI cJ a k st fi fB fS fO fL c t y fW fD c2 t2 y2 gW gD (by omega) x) (cwV 1 hts gX1_lengthBottom_X1_needMeasure rfl rfl rfl (by decide +kernel) ⟨Nat.le_of_ble_eq_true rfl, Nat.le_of_ble_eq_true rfl⟩) (preV_ro KC_ok hP hC (va_recv hK hP (ci := 1) (q0 := 0) rfl rfl)) rfl rfl hl.1 rfl (lv_room (Nat.le_of_ble_eq_true rfl)) dX1_lengthBottom_2 ⟨by decide, by decide⟩) hout hlocks (by decide) (by decide) (fun E h9 => ⟨h9.1, h9.2⟩) (fun hp_2 => ?_)
  obtain ⟨jx, hj_x, rfl⟩ := inM_of hp_2 (by omega)
  refine lv_aload_n hx hb dX1_lengthBottom_5 rfl (lv_at hl 0 rfl) ?_
  refine va_get (D := D) (ci := 1) (v := .ref (a 3)) (C := RX1) (T := TX1) (N := 9) hx hb hts hiX1 hown hK hP 0 rfl rfl 2 (by decide) hw16 (fun _ h9 => h9) rfl dX1_lengthBottom_6 ?_
  refine lv_aload_n hx hb dX1_lengthBottom_9 rfl (lv_at hl 0 rfl) ?_
  refine va_get (D := D) (ci := 1) (v := .int (nI st)) (C := RX1) (T := TX1) (N := 9) hx hb hts hiX1 hown hK hP 0 rfl rfl 7 (by decide) hw37 (fun _ h9 => h9) rfl dX1_lengthBottom_10 ?_
  refine xa_lald hx hb hK hP 3 1 rfl rfl (by omega) (by decide) dX1_lengthBottom_13 ?_
  refine lv_aload_n hx hb dX1_lengthBottom_14 rfl (lv_at hl 0 rfl) ?_
  refine va_get (D := D) (ci := 1) (v := .ref (a 3)) (C := RX1) (T := TX1) (N := 9) hx hb hts hiX1 hown hK hP 0 rfl rfl 2 (by decide) hw16 (fun _ h9 => h9) rfl dX1_lengthBottom_15 ?_
  refine lv_iload_n hx hb dX1_lengthBottom_18 rfl (lv_at hl 1 rfl) ?_
  refine xa_lald hx hb hK hP 3 1 rfl rfl (by omega) (by decide) dX1_lengthBottom_19 ?_
  refine ro_lE (va_runS (As := [.long (fL st), .long (fL jx)]) (rest := []) ⟨hx, hb, hml, hown, hts⟩ (c_X1_wcd l (fL st) (fL jx) (hM.2.2.1 _ (by omega)) (hM.2.2.1 _ (by omega))) (va_cwS 2 hts gX1_lengthBottom_X1_withoutCommonDivisor rfl rfl rfl (by decide +kernel) ⟨Nat.le_of_ble_eq_true rfl, Nat.le_of_ble_eq_true rfl⟩) pre0 rfl rfl hl.1 rfl (lv_room (Nat.le_of_ble_eq_true rfl)) dX1_lengthBottom_20 ⟨by decide, by decide⟩) ?_
  refine vx_ret ?_
  exact W.lret (v := (tp (fL st) (fL jx))) hx hb hr (fun t9 ht hW => ⟨_, rfl, ⟨hp_2, by simp only [nI_clamp (show jx < 2 ^ 31 by omega)]⟩, ht⟩) (fun q hq => absurd hq List.not_mem_nil) dX1_lengthBottom_23

set_option maxHeartbeats 4000000 in
set_option maxRecDepth 100000 in
theorem c_X1_fewestToMeet (l : Launch) (hst : l.stackTraces = false) (D : va_G) (cI cJ : ClassId) (a : Nat → Nat) (k st : Nat) (fi : Int32) (fB fS fO : Nat → Int32) (fL : Nat → Int64) (c : Nat) (t : Int32) (y : Nat) (fW fD : Nat → Int32) (c2 t2 y2 : Int32) (gW gD : Nat → Int32) (hM : MOk k fL fO) (hst2 : st < k) (x : Int32) (z : Int32) : vx_Met l yX1_fewestToMeet wsX1_fewestToMeet ({ frames := 7, cells := 2, slots := 12, locals := 150 }) (cP D [((a 0), .inr (1, [.ref (a 1), .ref (a 2), .ref (a 3), .ref (a 4), .ref (a 5), .ref (a 8), .int (nI k), .int (nI st), .int fi])), ((a 1), .inl (cI, 8, .inl fB)), ((a 2), .inl (cI, 8, .inl fS)), ((a 3), .inl (cJ, 8, .inr (.inl fL))), ((a 4), .inl (cI, 8, .inl fO)), ((a 5), .inr (0, [.ref (a 6), .ref (a 7), .int (nI c), .int t, .int (nI y)])), ((a 6), .inl (cI, 6, .inl fW)), ((a 7), .inl (cI, 6, .inl fD)), ((a 8), .inr (0, [.ref (a 9), .ref (a 10), .int c2, .int t2, .int y2])), ((a 9), .inl (cI, 6, .inl gW)), ((a 10), .inl (cI, 6, .inl gD))] (KC D cI cJ a) [.ref (a 0), .int x, .int z]) (rol (fun r => inM k x ∧ inM k z ∧ r = tp (fL z.toNatClampNeg) (fL x.toNatClampNeg))) (rox (fun E => (E = eIO ∧ ¬ inM k x) ∨ (E = eIO ∧ inM k x ∧ ¬ inM k z))) 2 12 (fun _ => False) := by
  refine vx_ofW (cc := cX1_fewestToMeet) (maxL := 3) (ret := (some .long)) (by decide +kernel) rfl ?_
  intro p e s m args below meth c9 s₁ B hml hout hv
  obtain ⟨rfl, hP, hC⟩ := hv
  have hx := B.exec
  have hb := B.bytes
  have hr := B.returns
  have hts := atoms_spec (ws := wsX1_fewestToMeet) B.pre
  have hown : s.vm.findClass RX1 = some m.cls := findClass_of_methodNamed B.named
  have hlocks := B.notSynchronized
  have hK : va_K D vwCl [(cI, .int), (cJ, .long)] s := hC.1
  have hl := lv_entry ([.ref (a 0), .int x, .int z]) (n := 3) (Nat.le_of_ble_eq_true rfl)
  rw [lg_entry_eq]
  generalize (lg_sl ([.ref (a 0), .int x, .int z]) ++ List.replicate (3 - (lg_sl ([.ref (a 0), .int x, .int z])).length) Slot.unset).toArray = ls at hl ⊢
  have hl : lv_has ls 3 [(0, .ref (a 0)), (1, .int x), (2, .int z)] := hl
  have hk8 : k ≤ 8 := hM.2.1
  have hk1 : 1 ≤ k := hM.1
  have hiX1 : ∀ w ∈ u_ws RX1 TX1 9, w ∈ wsX1_fewestToMeet := by decide +kernel
  have hw16 : (Cond.fieldLink RX1 16 "OldMeasures" "lengths" "[J").before ([.ref (a 0), .int x, .int z] : List Value).toArray s = true := hts _ (by decide +kernel)
  refine lv_aload_n hx hb dX1_fewestToMeet_0 rfl (lv_at hl 0 rfl) ?_
  refine lv_iload_n hx hb dX1_fewestToMeet_1 rfl (lv_at hl 1 rfl) ?_
  refine xro_vP (vx_runV (As := [.int x]) (rest := []) ⟨hx, hb, hml, hown, hts⟩ (c_X1_needMeasure l hst D cI cJ a k st fi fB fS fO fL c t y fW fD c2 t2 y2 gW gD (by omega) x) (cwV 1 hts gX1_fewestToMeet_X1_needMeasure rfl rfl rfl (by decide +kernel) ⟨Nat.le_of_ble_eq_true rfl, Nat.le_of_ble_eq_true rfl⟩) (preV_ro KC_ok hP hC (va_recv hK hP (ci := 1) (q0 := 0) rfl rfl)) rfl rfl hl.1 rfl (lv_room (Nat.le_of_ble_eq_true rfl)) dX1_fewestToMeet_2 ⟨by decide, by decide⟩) hout hlocks (by decide) (by decide) (fun E h9 => Or.inl ⟨h9.1, h9.2⟩) (fun hp_2 => ?_)
  obtain ⟨jx, hj_x, rfl⟩ := inM_of hp_2 (by omega)
  refine lv_aload_n hx hb dX1_fewestToMeet_5 rfl (lv_at hl 0 rfl) ?_
  refine lv_iload_n hx hb dX1_fewestToMeet_6 rfl (lv_at hl 2 rfl) ?_
  refine xro_vP (vx_runV (As := [.int z]) (rest := []) ⟨hx, hb, hml, hown, hts⟩ (c_X1_needMeasure l hst D cI cJ a k st fi fB fS fO fL c t y fW fD c2 t2 y2 gW gD (by omega) z) (cwV 1 hts gX1_fewestToMeet_X1_needMeasure rfl rfl rfl (by decide +kernel) ⟨Nat.le_of_ble_eq_true rfl, Nat.le_of_ble_eq_true rfl⟩) (preV_ro KC_ok hP hC (va_recv hK hP (ci := 1) (q0 := 0) rfl rfl)) rfl rfl hl.1 rfl (lv_room (Nat.le_of_ble_eq_true rfl)) dX1_fewestToMeet_7 ⟨by decide, by decide⟩) hout hlocks (by decide) (by decide) (fun E h9 => Or.inr (⟨h9.1, hp_2, h9.2⟩)) (fun hp_7 => ?_)
  obtain ⟨jz, hj_z, rfl⟩ := inM_of hp_7 (by omega)
  refine lv_aload_n hx hb dX1_fewestToMeet_10 rfl (lv_at hl 0 rfl) ?_
  refine va_get (D := D) (ci := 1) (v := .ref (a 3)) (C := RX1) (T := TX1) (N := 9) hx hb hts hiX1 hown hK hP 0 rfl rfl 2 (by decide) hw16 (fun _ h9 => h9) rfl dX1_fewestToMeet_11 ?_
  refine lv_iload_n hx hb dX1_fewestToMeet_14 rfl (lv_at hl 2 rfl) ?_
  refine xa_lald hx hb hK hP 3 1 rfl rfl (by omega) (by decide) dX1_fewestToMeet_15 ?_
  refine lv_aload_n hx hb dX1_fewestToMeet_16 rfl (lv_at hl 0 rfl) ?_
  refine va_get (D := D) (ci := 1) (v := .ref (a 3)) (C := RX1) (T := TX1) (N := 9) hx hb hts hiX1 hown hK hP 0 rfl rfl 2 (by decide) hw16 (fun _ h9 => h9) rfl dX1_fewestToMeet_17 ?_
  refine lv_iload_n hx hb dX1_fewestToMeet_20 rfl (lv_at hl 1 rfl) ?_
  refine xa_lald hx hb hK hP 3 1 rfl rfl (by omega) (by decide) dX1_fewestToMeet_21 ?_
  refine ro_lE (va_runS (As := [.long (fL jz), .long (fL jx)]) (rest := []) ⟨hx, hb, hml, hown, hts⟩ (c_X1_wcd l (fL jz) (fL jx) (hM.2.2.1 _ (by omega)) (hM.2.2.1 _ (by omega))) (va_cwS 2 hts gX1_fewestToMeet_X1_withoutCommonDivisor rfl rfl rfl (by decide +kernel) ⟨Nat.le_of_ble_eq_true rfl, Nat.le_of_ble_eq_true rfl⟩) pre0 rfl rfl hl.1 rfl (lv_room (Nat.le_of_ble_eq_true rfl)) dX1_fewestToMeet_22 ⟨by decide, by decide⟩) ?_
  refine vx_ret ?_
  exact W.lret (v := (tp (fL jz) (fL jx))) hx hb hr (fun t9 ht hW => ⟨_, rfl, ⟨hp_2, hp_7, by simp only [nI_clamp (show jx < 2 ^ 31 by omega), nI_clamp (show jz < 2 ^ 31 by omega)]⟩, ht⟩) (fun q hq => absurd hq List.not_mem_nil) dX1_fewestToMeet_25

set_option maxHeartbeats 4000000 in
set_option maxRecDepth 100000 in
theorem c_X1_isLonger (l : Launch) (hst : l.stackTraces = false) (D : va_G) (cI cJ : ClassId) (a : Nat → Nat) (k st : Nat) (fi : Int32) (fB fS fO : Nat → Int32) (fL : Nat → Int64) (c : Nat) (t : Int32) (y : Nat) (fW fD : Nat → Int32) (c2 t2 y2 : Int32) (gW gD : Nat → Int32) (hM : MOk k fL fO) (hst2 : st < k) (x : Int32) (z : Int32) : vx_Met l yX1_isLonger wsX1_isLonger ({ frames := 7, cells := 2, slots := 12, locals := 150 }) (cP D [((a 0), .inr (1, [.ref (a 1), .ref (a 2), .ref (a 3), .ref (a 4), .ref (a 5), .ref (a 8), .int (nI k), .int (nI st), .int fi])), ((a 1), .inl (cI, 8, .inl fB)), ((a 2), .inl (cI, 8, .inl fS)), ((a 3), .inl (cJ, 8, .inr (.inl fL))), ((a 4), .inl (cI, 8, .inl fO)), ((a 5), .inr (0, [.ref (a 6), .ref (a 7), .int (nI c), .int t, .int (nI y)])), ((a 6), .inl (cI, 6, .inl fW)), ((a 7), .inl (cI, 6, .inl fD)), ((a 8), .inr (0, [.ref (a 9), .ref (a 10), .int c2, .int t2, .int y2])), ((a 9), .inl (cI, 6, .inl gW)), ((a 10), .inl (cI, 6, .inl gD))] (KC D cI cJ a) [.ref (a 0), .int x, .int z]) (roi (fun r => inM k x ∧ inM k z ∧ r = bz ((fL z.toNatClampNeg).toInt < (fL x.toNatClampNeg).toInt))) (rox (fun E => (E = eIO ∧ ¬ inM k x) ∨ (E = eIO ∧ inM k x ∧ ¬ inM k z))) 2 12 (fun _ => False) := by
  refine vx_ofW (cc := cX1_isLonger) (maxL := 3) (ret := (some .boolean)) (by decide +kernel) rfl ?_
  intro p e s m args below meth c9 s₁ B hml hout hv
  obtain ⟨rfl, hP, hC⟩ := hv
  have hx := B.exec
  have hb := B.bytes
  have hr := B.returns
  have hts := atoms_spec (ws := wsX1_isLonger) B.pre
  have hown : s.vm.findClass RX1 = some m.cls := findClass_of_methodNamed B.named
  have hlocks := B.notSynchronized
  have hK : va_K D vwCl [(cI, .int), (cJ, .long)] s := hC.1
  have hl := lv_entry ([.ref (a 0), .int x, .int z]) (n := 3) (Nat.le_of_ble_eq_true rfl)
  rw [lg_entry_eq]
  generalize (lg_sl ([.ref (a 0), .int x, .int z]) ++ List.replicate (3 - (lg_sl ([.ref (a 0), .int x, .int z])).length) Slot.unset).toArray = ls at hl ⊢
  have hl : lv_has ls 3 [(0, .ref (a 0)), (1, .int x), (2, .int z)] := hl
  have hk8 : k ≤ 8 := hM.2.1
  have hk1 : 1 ≤ k := hM.1
  have hiX1 : ∀ w ∈ u_ws RX1 TX1 9, w ∈ wsX1_isLonger := by decide +kernel
  have hw16 : (Cond.fieldLink RX1 16 "OldMeasures" "lengths" "[J").before ([.ref (a 0), .int x, .int z] : List Value).toArray s = true := hts _ (by decide +kernel)
  refine lv_aload_n hx hb dX1_isLonger_0 rfl (lv_at hl 0 rfl) ?_
  refine lv_iload_n hx hb dX1_isLonger_1 rfl (lv_at hl 1 rfl) ?_
  refine xro_vP (vx_runV (As := [.int x]) (rest := []) ⟨hx, hb, hml, hown, hts⟩ (c_X1_needMeasure l hst D cI cJ a k st fi fB fS fO fL c t y fW fD c2 t2 y2 gW gD (by omega) x) (cwV 1 hts gX1_isLonger_X1_needMeasure rfl rfl rfl (by decide +kernel) ⟨Nat.le_of_ble_eq_true rfl, Nat.le_of_ble_eq_true rfl⟩) (preV_ro KC_ok hP hC (va_recv hK hP (ci := 1) (q0 := 0) rfl rfl)) rfl rfl hl.1 rfl (lv_room (Nat.le_of_ble_eq_true rfl)) dX1_isLonger_2 ⟨by decide, by decide⟩) hout hlocks (by decide) (by decide) (fun E h9 => Or.inl ⟨h9.1, h9.2⟩) (fun hp_2 => ?_)
  obtain ⟨jx, hj_x, rfl⟩ := inM_of hp_2 (by omega)
  refine lv_aload_n hx hb dX1_isLonger_5 rfl (lv_at hl 0 rfl) ?_
  refine lv_iload_n hx hb dX1_isLonger_6 rfl (lv_at hl 2 rfl) ?_
  refine xro_vP (vx_runV (As := [.int z]) (rest := []) ⟨hx, hb, hml, hown, hts⟩ (c_X1_needMeasure l hst D cI cJ a k st fi fB fS fO fL c t y fW fD c2 t2 y2 gW gD (by omega) z) (cwV 1 hts gX1_isLonger_X1_needMeasure rfl rfl rfl (by decide +kernel) ⟨Nat.le_of_ble_eq_true rfl, Nat.le_of_ble_eq_true rfl⟩) (preV_ro KC_ok hP hC (va_recv hK hP (ci := 1) (q0 := 0) rfl rfl)) rfl rfl hl.1 rfl (lv_room (Nat.le_of_ble_eq_true rfl)) dX1_isLonger_7 ⟨by decide, by decide⟩) hout hlocks (by decide) (by decide) (fun E h9 => Or.inr (⟨h9.1, hp_2, h9.2⟩)) (fun hp_7 => ?_)
  obtain ⟨jz, hj_z, rfl⟩ := inM_of hp_7 (by omega)
  refine lv_aload_n hx hb dX1_isLonger_10 rfl (lv_at hl 0 rfl) ?_
  refine va_get (D := D) (ci := 1) (v := .ref (a 3)) (C := RX1) (T := TX1) (N := 9) hx hb hts hiX1 hown hK hP 0 rfl rfl 2 (by decide) hw16 (fun _ h9 => h9) rfl dX1_isLonger_11 ?_
  refine lv_iload_n hx hb dX1_isLonger_14 rfl (lv_at hl 1 rfl) ?_
  refine xa_lald hx hb hK hP 3 1 rfl rfl (by omega) (by decide) dX1_isLonger_15 ?_
  refine lv_aload_n hx hb dX1_isLonger_16 rfl (lv_at hl 0 rfl) ?_
  refine va_get (D := D) (ci := 1) (v := .ref (a 3)) (C := RX1) (T := TX1) (N := 9) hx hb hts hiX1 hown hK hP 0 rfl rfl 2 (by decide) hw16 (fun _ h9 => h9) rfl dX1_isLonger_17 ?_
  refine lv_iload_n hx hb dX1_isLonger_20 rfl (lv_at hl 2 rfl) ?_
  refine xa_lald hx hb hK hP 3 1 rfl rfl (by omega) (by decide) dX1_isLonger_21 ?_
  refine W.lcmp hx hb dX1_isLonger_22 ?_
  refine lv_if_le (tgt := 30) hx hb dX1_isLonger_23 (by decide) (fun c_23 => ?_) (fun c_23 => ?_)
  · skip
    have c_23 := (lgc_le _ _).mp c_23
    refine lv_iconst (v := 0) hx hb dX1_isLonger_30 (by decide) ?_
    refine vx_ret ?_
    exact W.zret (v := 0) hx hb hr rfl (fun t9 ht hW => ⟨_, rfl, ⟨hp_2, hp_7, by simp only [nI_clamp (show jx < 2 ^ 31 by omega), nI_clamp (show jz < 2 ^ 31 by omega)]; first | exact (bz_t (by omega)).symm | exact (bz_f (by omega)).symm⟩, ht⟩) (fun q hq => absurd hq List.not_mem_nil) dX1_isLonger_31
  · skip
    have c_23 := (not_congr (lgc_le _ _)).mp c_23
    refine lv_iconst (v := 1) hx hb dX1_isLonger_26 (by decide) ?_
    refine lv_goto (tgt := 31) hx hb dX1_isLonger_27 (by decide) ?_
    refine vx_ret ?_
    exact W.zret (v := 1) hx hb hr rfl (fun t9 ht hW => ⟨_, rfl, ⟨hp_2, hp_7, by simp only [nI_clamp (show jx < 2 ^ 31 by omega), nI_clamp (show jz < 2 ^ 31 by omega)]; first | exact (bz_t (by omega)).symm | exact (bz_f (by omega)).symm⟩, ht⟩) (fun q hq => absurd hq List.not_mem_nil) dX1_isLonger_31

set_option maxHeartbeats 4000000 in
set_option maxRecDepth 100000 in
theorem c_X1_convert (l : Launch) (hst : l.stackTraces = false) (D : va_G) (cI cJ : ClassId) (a : Nat → Nat) (k st : Nat) (fi : Int32) (fB fS fO : Nat → Int32) (fL : Nat → Int64) (c : Nat) (t : Int32) (y : Nat) (fW fD : Nat → Int32) (c2 t2 y2 : Int32) (gW gD : Nat → Int32) (hM : MOk k fL fO) (hst2 : st < k) (w : Int32) (x : Int32) (z : Int32) : vx_Met l yX1_convert wsX1_convert ({ frames := 7, cells := 3, slots := 18, locals := 150 }) (cP D [((a 0), .inr (1, [.ref (a 1), .ref (a 2), .ref (a 3), .ref (a 4), .ref (a 5), .ref (a 8), .int (nI k), .int (nI st), .int fi])), ((a 1), .inl (cI, 8, .inl fB)), ((a 2), .inl (cI, 8, .inl fS)), ((a 3), .inl (cJ, 8, .inr (.inl fL))), ((a 4), .inl (cI, 8, .inl fO)), ((a 5), .inr (0, [.ref (a 6), .ref (a 7), .int (nI c), .int t, .int (nI y)])), ((a 6), .inl (cI, 6, .inl fW)), ((a 7), .inl (cI, 6, .inl fD)), ((a 8), .inr (0, [.ref (a 9), .ref (a 10), .int c2, .int t2, .int y2])), ((a 9), .inl (cI, 6, .inl gW)), ((a 10), .inl (cI, 6, .inl gD))] (KC D cI cJ a) [.ref (a 0), .int w, .int x, .int z]) (rol (fun r => inM k x ∧ inM k z ∧ inR 1 200 w ∧ r = fL x.toNatClampNeg * w.toInt64 / fL z.toNatClampNeg)) (rox (fun E => (E = eIO ∧ ¬ inM k x) ∨ (E = eIO ∧ inM k x ∧ ¬ inM k z) ∨ (E = eIA ∧ inM k x ∧ inM k z ∧ ¬ inR 1 200 w))) 3 18 (fun _ => False) := by
  refine vx_ofW (cc := cX1_convert) (maxL := 4) (ret := (some .long)) (by decide +kernel) rfl ?_
  intro p e s m args below meth c9 s₁ B hml hout hv
  obtain ⟨rfl, hP, hC⟩ := hv
  have hx := B.exec
  have hb := B.bytes
  have hr := B.returns
  have hts := atoms_spec (ws := wsX1_convert) B.pre
  have hown : s.vm.findClass RX1 = some m.cls := findClass_of_methodNamed B.named
  have hlocks := B.notSynchronized
  have hK : va_K D vwCl [(cI, .int), (cJ, .long)] s := hC.1
  have hl := lv_entry ([.ref (a 0), .int w, .int x, .int z]) (n := 4) (Nat.le_of_ble_eq_true rfl)
  rw [lg_entry_eq]
  generalize (lg_sl ([.ref (a 0), .int w, .int x, .int z]) ++ List.replicate (4 - (lg_sl ([.ref (a 0), .int w, .int x, .int z])).length) Slot.unset).toArray = ls at hl ⊢
  have hl : lv_has ls 4 [(0, .ref (a 0)), (1, .int w), (2, .int x), (3, .int z)] := hl
  have hk8 : k ≤ 8 := hM.2.1
  have hk1 : 1 ≤ k := hM.1
  have hiX1 : ∀ w ∈ u_ws RX1 TX1 9, w ∈ wsX1_convert := by decide +kernel
  have hw16 : (Cond.fieldLink RX1 16 "OldMeasures" "lengths" "[J").before ([.ref (a 0), .int w, .int x, .int z] : List Value).toArray s = true := hts _ (by decide +kernel)
  refine lv_aload_n hx hb dX1_convert_0 rfl (lv_at hl 0 rfl) ?_
  refine lv_iload_n hx hb dX1_convert_1 rfl (lv_at hl 2 rfl) ?_
  refine xro_vP (vx_runV (As := [.int x]) (rest := []) ⟨hx, hb, hml, hown, hts⟩ (c_X1_needMeasure l hst D cI cJ a k st fi fB fS fO fL c t y fW fD c2 t2 y2 gW gD (by omega) x) (cwV 1 hts gX1_convert_X1_needMeasure rfl rfl rfl (by decide +kernel) ⟨Nat.le_of_ble_eq_true rfl, Nat.le_of_ble_eq_true rfl⟩) (preV_ro KC_ok hP hC (va_recv hK hP (ci := 1) (q0 := 0) rfl rfl)) rfl rfl hl.1 rfl (lv_room (Nat.le_of_ble_eq_true rfl)) dX1_convert_2 ⟨by decide, by decide⟩) hout hlocks (by decide) (by decide) (fun E h9 => Or.inl ⟨h9.1, h9.2⟩) (fun hp_2 => ?_)
  obtain ⟨jx, hj_x, rfl⟩ := inM_of hp_2 (by omega)
  refine lv_aload_n hx hb dX1_convert_5 rfl (lv_at hl 0 rfl) ?_
  refine lv_iload_n hx hb dX1_convert_6 rfl (lv_at hl 3 rfl) ?_
  refine xro_vP (vx_runV (As := [.int z]) (rest := []) ⟨hx, hb, hml, hown, hts⟩ (c_X1_needMeasure l hst D cI cJ a k st fi fB fS fO fL c t y fW fD c2 t2 y2 gW gD (by omega) z) (cwV 1 hts gX1_convert_X1_needMeasure rfl rfl rfl (by decide +kernel) ⟨Nat.le_of_ble_eq_true rfl, Nat.le_of_ble_eq_true rfl⟩) (preV_ro KC_ok hP hC (va_recv hK hP (ci := 1) (q0 := 0) rfl rfl)) rfl rfl hl.1 rfl (lv_room (Nat.le_of_ble_eq_true rfl)) dX1_convert_7 ⟨by decide, by decide⟩) hout hlocks (by decide) (by decide) (fun E h9 => Or.inr (Or.inl ⟨h9.1, hp_2, h9.2⟩)) (fun hp_7 => ?_)
  obtain ⟨jz, hj_z, rfl⟩ := inM_of hp_7 (by omega)
  refine lv_iload_n hx hb dX1_convert_10 rfl (lv_at hl 1 rfl) ?_
  refine xro_vP (vx_runS (As := [.int w]) (rest := []) ⟨hx, hb, hml, hown, hts⟩ (c_X1_needMany l hst D cI cJ a w) (va_cwS 1 hts gX1_convert_X1_needMany rfl rfl rfl (by decide +kernel) ⟨Nat.le_of_ble_eq_true rfl, Nat.le_of_ble_eq_true rfl⟩) (preS_ro KC_ok (hP.sub (ws' := []) [] rfl) hC) rfl rfl hl.1 rfl (lv_room (Nat.le_of_ble_eq_true rfl)) dX1_convert_11 ⟨by decide, by decide⟩) hout hlocks (by decide) (by decide) (fun E h9 => Or.inr (Or.inr (⟨h9.1, hp_2, hp_7, h9.2⟩))) (fun hp_11 => ?_)
  refine lv_aload_n hx hb dX1_convert_14 rfl (lv_at hl 0 rfl) ?_
  refine va_get (D := D) (ci := 1) (v := .ref (a 3)) (C := RX1) (T := TX1) (N := 9) hx hb hts hiX1 hown hK hP 0 rfl rfl 2 (by decide) hw16 (fun _ h9 => h9) rfl dX1_convert_15 ?_
  refine lv_iload_n hx hb dX1_convert_18 rfl (lv_at hl 2 rfl) ?_
  refine xa_lald hx hb hK hP 3 1 rfl rfl (by omega) (by decide) dX1_convert_19 ?_
  refine lv_iload_n hx hb dX1_convert_20 rfl (lv_at hl 1 rfl) ?_
  refine lv_i2l (v := (w).toInt64) hx hb dX1_convert_21 rfl ?_
  refine lv_lmul hx hb dX1_convert_22 ?_
  refine lv_aload_n hx hb dX1_convert_23 rfl (lv_at hl 0 rfl) ?_
  refine va_get (D := D) (ci := 1) (v := .ref (a 3)) (C := RX1) (T := TX1) (N := 9) hx hb hts hiX1 hown hK hP 0 rfl rfl 2 (by decide) hw16 (fun _ h9 => h9) rfl dX1_convert_24 ?_
  refine lv_iload_n hx hb dX1_convert_27 rfl (lv_at hl 3 rfl) ?_
  refine xa_lald hx hb hK hP 3 1 rfl rfl (by omega) (by decide) dX1_convert_28 ?_
  refine ro_lE (va_runS (As := [.long ((fL jx) * (w).toInt64), .long (fL jz)]) (rest := []) ⟨hx, hb, hml, hown, hts⟩ (c_X1_timesIn l ((fL jx) * (w).toInt64) (fL jz) (hM.2.2.1 _ (by omega)).1) (va_cwS 2 hts gX1_convert_X1_timesIn rfl rfl rfl (by decide +kernel) ⟨Nat.le_of_ble_eq_true rfl, Nat.le_of_ble_eq_true rfl⟩) pre0 rfl rfl hl.1 rfl (lv_room (Nat.le_of_ble_eq_true rfl)) dX1_convert_29 ⟨by decide, by decide⟩) ?_
  refine vx_ret ?_
  exact W.lret (v := (((fL jx) * (w).toInt64) / (fL jz))) hx hb hr (fun t9 ht hW => ⟨_, rfl, ⟨hp_2, hp_7, hp_11, by simp only [nI_clamp (show jx < 2 ^ 31 by omega), nI_clamp (show jz < 2 ^ 31 by omega)]⟩, ht⟩) (fun q hq => absurd hq List.not_mem_nil) dX1_convert_32

set_option maxHeartbeats 4000000 in
set_option maxRecDepth 100000 in
theorem c_X1_isExact (l : Launch) (hst : l.stackTraces = false) (D : va_G) (cI cJ : ClassId) (a : Nat → Nat) (k st : Nat) (fi : Int32) (fB fS fO : Nat → Int32) (fL : Nat → Int64) (c : Nat) (t : Int32) (y : Nat) (fW fD : Nat → Int32) (c2 t2 y2 : Int32) (gW gD : Nat → Int32) (hM : MOk k fL fO) (hst2 : st < k) (w : Int32) (x : Int32) (z : Int32) : vx_Met l yX1_isExact wsX1_isExact ({ frames := 7, cells := 3, slots := 18, locals := 150 }) (cP D [((a 0), .inr (1, [.ref (a 1), .ref (a 2), .ref (a 3), .ref (a 4), .ref (a 5), .ref (a 8), .int (nI k), .int (nI st), .int fi])), ((a 1), .inl (cI, 8, .inl fB)), ((a 2), .inl (cI, 8, .inl fS)), ((a 3), .inl (cJ, 8, .inr (.inl fL))), ((a 4), .inl (cI, 8, .inl fO)), ((a 5), .inr (0, [.ref (a 6), .ref (a 7), .int (nI c), .int t, .int (nI y)])), ((a 6), .inl (cI, 6, .inl fW)), ((a 7), .inl (cI, 6, .inl fD)), ((a 8), .inr (0, [.ref (a 9), .ref (a 10), .int c2, .int t2, .int y2])), ((a 9), .inl (cI, 6, .inl gW)), ((a 10), .inl (cI, 6, .inl gD))] (KC D cI cJ a) [.ref (a 0), .int w, .int x, .int z]) (roi (fun r => inM k x ∧ inM k z ∧ inR 1 200 w ∧ r = bz ((jrem (fL x.toNatClampNeg * w.toInt64) (fL z.toNatClampNeg)).toInt = (0 : Int64).toInt))) (rox (fun E => (E = eIO ∧ ¬ inM k x) ∨ (E = eIO ∧ inM k x ∧ ¬ inM k z) ∨ (E = eIA ∧ inM k x ∧ inM k z ∧ ¬ inR 1 200 w))) 3 18 (fun _ => False) := by
  refine vx_ofW (cc := cX1_isExact) (maxL := 4) (ret := (some .boolean)) (by decide +kernel) rfl ?_
  intro p e s m args below meth c9 s₁ B hml hout hv
  obtain ⟨rfl, hP, hC⟩ := hv
  have hx := B.exec
  have hb := B.bytes
  have hr := B.returns
  have hts := atoms_spec (ws := wsX1_isExact) B.pre
  have hown : s.vm.findClass RX1 = some m.cls := findClass_of_methodNamed B.named
  have hlocks := B.notSynchronized
  have hK : va_K D vwCl [(cI, .int), (cJ, .long)] s := hC.1
  have hl := lv_entry ([.ref (a 0), .int w, .int x, .int z]) (n := 4) (Nat.le_of_ble_eq_true rfl)
  rw [lg_entry_eq]
  generalize (lg_sl ([.ref (a 0), .int w, .int x, .int z]) ++ List.replicate (4 - (lg_sl ([.ref (a 0), .int w, .int x, .int z])).length) Slot.unset).toArray = ls at hl ⊢
  have hl : lv_has ls 4 [(0, .ref (a 0)), (1, .int w), (2, .int x), (3, .int z)] := hl
  have hk8 : k ≤ 8 := hM.2.1
  have hk1 : 1 ≤ k := hM.1
  have hiX1 : ∀ w ∈ u_ws RX1 TX1 9, w ∈ wsX1_isExact := by decide +kernel
  have hw16 : (Cond.fieldLink RX1 16 "OldMeasures" "lengths" "[J").before ([.ref (a 0), .int w, .int x, .int z] : List Value).toArray s = true := hts _ (by decide +kernel)
  refine lv_aload_n hx hb dX1_isExact_0 rfl (lv_at hl 0 rfl) ?_
  refine lv_iload_n hx hb dX1_isExact_1 rfl (lv_at hl 2 rfl) ?_
  refine xro_vP (vx_runV (As := [.int x]) (rest := []) ⟨hx, hb, hml, hown, hts⟩ (c_X1_needMeasure l hst D cI cJ a k st fi fB fS fO fL c t y fW fD c2 t2 y2 gW gD (by omega) x) (cwV 1 hts gX1_isExact_X1_needMeasure rfl rfl rfl (by decide +kernel) ⟨Nat.le_of_ble_eq_true rfl, Nat.le_of_ble_eq_true rfl⟩) (preV_ro KC_ok hP hC (va_recv hK hP (ci := 1) (q0 := 0) rfl rfl)) rfl rfl hl.1 rfl (lv_room (Nat.le_of_ble_eq_true rfl)) dX1_isExact_2 ⟨by decide, by decide⟩) hout hlocks (by decide) (by decide) (fun E h9 => Or.inl ⟨h9.1, h9.2⟩) (fun hp_2 => ?_)
  obtain ⟨jx, hj_x, rfl⟩ := inM_of hp_2 (by omega)
  refine lv_aload_n hx hb dX1_isExact_5 rfl (lv_at hl 0 rfl) ?_
  refine lv_iload_n hx hb dX1_isExact_6 rfl (lv_at hl 3 rfl) ?_
  refine xro_vP (vx_runV (As := [.int z]) (rest := []) ⟨hx, hb, hml, hown, hts⟩ (c_X1_needMeasure l hst D cI cJ a k st fi fB fS fO fL c t y fW fD c2 t2 y2 gW gD (by omega) z) (cwV 1 hts gX1_isExact_X1_needMeasure rfl rfl rfl (by decide +kernel) ⟨Nat.le_of_ble_eq_true rfl, Nat.le_of_ble_eq_true rfl⟩) (preV_ro KC_ok hP hC (va_recv hK hP (ci := 1) (q0 := 0) rfl rfl)) rfl rfl hl.1 rfl (lv_room (Nat.le_of_ble_eq_true rfl)) dX1_isExact_7 ⟨by decide, by decide⟩) hout hlocks (by decide) (by decide) (fun E h9 => Or.inr (Or.inl ⟨h9.1, hp_2, h9.2⟩)) (fun hp_7 => ?_)
  obtain ⟨jz, hj_z, rfl⟩ := inM_of hp_7 (by omega)
  refine lv_iload_n hx hb dX1_isExact_10 rfl (lv_at hl 1 rfl) ?_
  refine xro_vP (vx_runS (As := [.int w]) (rest := []) ⟨hx, hb, hml, hown, hts⟩ (c_X1_needMany l hst D cI cJ a w) (va_cwS 1 hts gX1_isExact_X1_needMany rfl rfl rfl (by decide +kernel) ⟨Nat.le_of_ble_eq_true rfl, Nat.le_of_ble_eq_true rfl⟩) (preS_ro KC_ok (hP.sub (ws' := []) [] rfl) hC) rfl rfl hl.1 rfl (lv_room (Nat.le_of_ble_eq_true rfl)) dX1_isExact_11 ⟨by decide, by decide⟩) hout hlocks (by decide) (by decide) (fun E h9 => Or.inr (Or.inr (⟨h9.1, hp_2, hp_7, h9.2⟩))) (fun hp_11 => ?_)
  refine lv_aload_n hx hb dX1_isExact_14 rfl (lv_at hl 0 rfl) ?_
  refine va_get (D := D) (ci := 1) (v := .ref (a 3)) (C := RX1) (T := TX1) (N := 9) hx hb hts hiX1 hown hK hP 0 rfl rfl 2 (by decide) hw16 (fun _ h9 => h9) rfl dX1_isExact_15 ?_
  refine lv_iload_n hx hb dX1_isExact_18 rfl (lv_at hl 2 rfl) ?_
  refine xa_lald hx hb hK hP 3 1 rfl rfl (by omega) (by decide) dX1_isExact_19 ?_
  refine lv_iload_n hx hb dX1_isExact_20 rfl (lv_at hl 1 rfl) ?_
  refine lv_i2l (v := (w).toInt64) hx hb dX1_isExact_21 rfl ?_
  refine lv_lmul hx hb dX1_isExact_22 ?_
  refine lv_aload_n hx hb dX1_isExact_23 rfl (lv_at hl 0 rfl) ?_
  refine va_get (D := D) (ci := 1) (v := .ref (a 3)) (C := RX1) (T := TX1) (N := 9) hx hb hts hiX1 hown hK hP 0 rfl rfl 2 (by decide) hw16 (fun _ h9 => h9) rfl dX1_isExact_24 ?_
  refine lv_iload_n hx hb dX1_isExact_27 rfl (lv_at hl 3 rfl) ?_
  refine xa_lald hx hb hK hP 3 1 rfl rfl (by omega) (by decide) dX1_isExact_28 ?_
  refine ro_lE (va_runS (As := [.long ((fL jx) * (w).toInt64), .long (fL jz)]) (rest := []) ⟨hx, hb, hml, hown, hts⟩ (c_X1_leftOf l ((fL jx) * (w).toInt64) (fL jz) (hM.2.2.1 _ (by omega)).1) (va_cwS 2 hts gX1_isExact_X1_leftOf rfl rfl rfl (by decide +kernel) ⟨Nat.le_of_ble_eq_true rfl, Nat.le_of_ble_eq_true rfl⟩) pre0 rfl rfl hl.1 rfl (lv_room (Nat.le_of_ble_eq_true rfl)) dX1_isExact_29 ⟨by decide, by decide⟩) ?_
  refine lv_lconst (v := 0) hx hb dX1_isExact_32 (by decide) ?_
  refine W.lcmp hx hb dX1_isExact_33 ?_
  refine lv_if_ne (tgt := 41) hx hb dX1_isExact_34 (by decide) (fun c_34 => ?_) (fun c_34 => ?_)
  · skip
    have c_34 := (lgc_ne _ _).mp c_34
    refine lv_iconst (v := 0) hx hb dX1_isExact_41 (by decide) ?_
    refine vx_ret ?_
    exact W.zret (v := 0) hx hb hr rfl (fun t9 ht hW => ⟨_, rfl, ⟨hp_2, hp_7, hp_11, by simp only [nI_clamp (show jx < 2 ^ 31 by omega), nI_clamp (show jz < 2 ^ 31 by omega)]; first | exact (bz_t (by omega)).symm | exact (bz_f (by omega)).symm⟩, ht⟩) (fun q hq => absurd hq List.not_mem_nil) dX1_isExact_42
  · skip
    have c_34 := (lgc_eq _ _).mp c_34
    refine lv_iconst (v := 1) hx hb dX1_isExact_37 (by decide) ?_
    refine lv_goto (tgt := 42) hx hb dX1_isExact_38 (by decide) ?_
    refine vx_ret ?_
    exact W.zret (v := 1) hx hb hr rfl (fun t9 ht hW => ⟨_, rfl, ⟨hp_2, hp_7, hp_11, by simp only [nI_clamp (show jx < 2 ^ 31 by omega), nI_clamp (show jz < 2 ^ 31 by omega)]; first | exact (bz_t (by omega)).symm | exact (bz_f (by omega)).symm⟩, ht⟩) (fun q hq => absurd hq List.not_mem_nil) dX1_isExact_42
