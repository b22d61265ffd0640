set_option maxHeartbeats 4000000 in
set_option maxRecDepth 100000 in
theorem k_X1_needMeasure (l : Launch) (D : va_G) (cI cJ : ClassId) (a : Nat → Nat) (k st : Nat) (fi : Int32) (fB fS fO : Nat → Int32) (fL : Nat → Int64) (c : Nat) (t : Int32) (y : Nat) (fW fD : Nat → Int32) (c2 t2 y2 : Int32) (gW gD : Nat → Int32) (hk : k ≤ 8) (j : Nat) (hj : j < k) : Met l yX1_needMeasure wsX1_needMeasure ({ frames := 1, cells := 0, slots := 0, locals := 22 }) (cP D [((a 0), .inr (1, [.ref (a 1), .ref (a 2), .ref (a 3), .ref (a 4), .ref (a 5), .ref (a 8), .int (nI k), .int (nI st), .int fi])), ((a 1), .inl (cI, 8, .inl fB)), ((a 2), .inl (cI, 8, .inl fS)), ((a 3), .inl (cJ, 8, .inr (.inl fL))), ((a 4), .inl (cI, 8, .inl fO)), ((a 5), .inr (0, [.ref (a 6), .ref (a 7), .int (nI c), .int t, .int (nI y)])), ((a 6), .inl (cI, 6, .inl fW)), ((a 7), .inl (cI, 6, .inl fD)), ((a 8), .inr (0, [.ref (a 9), .ref (a 10), .int c2, .int t2, .int y2])), ((a 9), .inl (cI, 6, .inl gW)), ((a 10), .inl (cI, 6, .inl gD))] (KC D cI cJ a) [.ref (a 0), .int (nI j)]) (rov (True)) 0 0 (fun _ => False) := by
  refine Met.ofW (cc := cX1_needMeasure) (maxL := 2) (ret := none) (by decide +kernel) rfl ?_
  intro p e s m args below meth c9 s₁ B hml hv
  obtain ⟨rfl, hP, hC⟩ := hv
  have hx := B.exec
  have hb := B.bytes
  have hr := B.returns
  have hts := atoms_spec (ws := wsX1_needMeasure) B.pre
  have hown : s.vm.findClass RX1 = some m.cls := findClass_of_methodNamed B.named
  have hlocks := B.notSynchronized
  have hK : va_K D vwCl [(cI, .int), (cJ, .long)] s := hC.1
  have hl := lv_entry ([.ref (a 0), .int (nI j)]) (n := 2) (Nat.le_of_ble_eq_true rfl)
  rw [lg_entry_eq]
  generalize (lg_sl ([.ref (a 0), .int (nI j)]) ++ List.replicate (2 - (lg_sl ([.ref (a 0), .int (nI j)])).length) Slot.unset).toArray = ls at hl ⊢
  have hl : lv_has ls 2 [(0, .ref (a 0)), (1, .int (nI j))] := hl
  have hiX1 : ∀ w ∈ u_ws RX1 TX1 9, w ∈ wsX1_needMeasure := by decide +kernel
  have hw33 : (Cond.fieldLink RX1 33 "OldMeasures" "measureCount" "I").before ([.ref (a 0), .int (nI j)] : List Value).toArray s = true := hts _ (by decide +kernel)
  refine lv_iload_n hx hb dX1_needMeasure_0 rfl (lv_at hl 1 rfl) ?_
  refine lv_iconst (v := 0) hx hb dX1_needMeasure_1 (by decide) ?_
  refine lv_aload_n hx hb dX1_needMeasure_2 rfl (lv_at hl 0 rfl) ?_
  refine va_get (D := D) (ci := 1) (v := .int (nI k)) (C := RX1) (T := TX1) (N := 9) hx hb hts hiX1 hown hK hP 0 rfl rfl 6 (by decide) hw33 (fun _ h9 => h9) rfl dX1_needMeasure_3 ?_
  refine lv_iconst (v := 1) hx hb dX1_needMeasure_6 (by decide) ?_
  refine lv_isub hx hb dX1_needMeasure_7 ?_
  refine ro_iE (va_runS (As := [.int (nI j), .int 0, .int ((nI k) - 1)]) (rest := []) ⟨hx, hb, hml, hown, hts⟩ (c_X1_isOutside l (nI j) 0 ((nI k) - 1)) (va_cwS 3 hts gX1_needMeasure_X1_isOutside rfl rfl rfl (by decide +kernel) ⟨Nat.le_of_ble_eq_true rfl, Nat.le_of_ble_eq_true rfl⟩) pre0 rfl rfl hl.1 rfl (lv_room (Nat.le_of_ble_eq_true rfl)) dX1_needMeasure_8 ⟨by decide, by decide⟩) ?_
  refine lv_if_eq (tgt := 24) hx hb dX1_needMeasure_11 (by decide) (fun c_11 => ?_) (fun c_11 => ?_)
  · skip
    have c_11 := bz_0 c_11
    exact W.vret hx hb hr (fun t9 ht hW => ⟨rfl, trivial, ht⟩) (fun q hq => absurd hq List.not_mem_nil) dX1_needMeasure_24
  · skip
    have c_11 := bz_1 c_11
    exact absurd c_11 ((inM_iff (by omega)).mpr (inM_nI hj (by omega)))

set_option maxHeartbeats 4000000 in
set_option maxRecDepth 100000 in
theorem k_X1_needStall (l : Launch) (D : va_G) (cI cJ : ClassId) (a : Nat → Nat) (k st : Nat) (fi : Int32) (fB fS fO : Nat → Int32) (fL : Nat → Int64) (c : Nat) (t : Int32) (y : Nat) (fW fD : Nat → Int32) (c2 t2 y2 : Int32) (gW gD : Nat → Int32) (hc : c ≤ 6) (j : Nat) (hj : j < c) : Met l yX1_needStall wsX1_needStall ({ frames := 1, cells := 0, slots := 0, locals := 22 }) (cP D [((a 0), .inr (1, [.ref (a 1), .ref (a 2), .ref (a 3), .ref (a 4), .ref (a 5), .ref (a 8), .int (nI k), .int (nI st), .int fi])), ((a 1), .inl (cI, 8, .inl fB)), ((a 2), .inl (cI, 8, .inl fS)), ((a 3), .inl (cJ, 8, .inr (.inl fL))), ((a 4), .inl (cI, 8, .inl fO)), ((a 5), .inr (0, [.ref (a 6), .ref (a 7), .int (nI c), .int t, .int (nI y)])), ((a 6), .inl (cI, 6, .inl fW)), ((a 7), .inl (cI, 6, .inl fD)), ((a 8), .inr (0, [.ref (a 9), .ref (a 10), .int c2, .int t2, .int y2])), ((a 9), .inl (cI, 6, .inl gW)), ((a 10), .inl (cI, 6, .inl gD))] (KC D cI cJ a) [.ref (a 0), .int (nI j)]) (rov (True)) 0 0 (fun _ => False) := by
  refine Met.ofW (cc := cX1_needStall) (maxL := 2) (ret := none) (by decide +kernel) rfl ?_
  intro p e s m args below meth c9 s₁ B hml hv
  obtain ⟨rfl, hP, hC⟩ := hv
  have hx := B.exec
  have hb := B.bytes
  have hr := B.returns
  have hts := atoms_spec (ws := wsX1_needStall) B.pre
  have hown : s.vm.findClass RX1 = some m.cls := findClass_of_methodNamed B.named
  have hlocks := B.notSynchronized
  have hK : va_K D vwCl [(cI, .int), (cJ, .long)] s := hC.1
  have hl := lv_entry ([.ref (a 0), .int (nI j)]) (n := 2) (Nat.le_of_ble_eq_true rfl)
  rw [lg_entry_eq]
  generalize (lg_sl ([.ref (a 0), .int (nI j)]) ++ List.replicate (2 - (lg_sl ([.ref (a 0), .int (nI j)])).length) Slot.unset).toArray = ls at hl ⊢
  have hl : lv_has ls 2 [(0, .ref (a 0)), (1, .int (nI j))] := hl
  have hiX0 : ∀ w ∈ u_ws RX0 TX0 5, w ∈ wsX1_needStall := by decide +kernel
  have hiX1 : ∀ w ∈ u_ws RX1 TX1 9, w ∈ wsX1_needStall := by decide +kernel
  have hw26 : (Cond.fieldLink RX1 26 "OldMeasures" "stalls" "LOldMeasures$Stalls;").before ([.ref (a 0), .int (nI j)] : List Value).toArray s = true := hts _ (by decide +kernel)
  refine lv_iload_n hx hb dX1_needStall_0 rfl (lv_at hl 1 rfl) ?_
  refine lv_iconst (v := 0) hx hb dX1_needStall_1 (by decide) ?_
  refine lv_aload_n hx hb dX1_needStall_2 rfl (lv_at hl 0 rfl) ?_
  refine va_get (D := D) (ci := 1) (v := .ref (a 5)) (C := RX1) (T := TX1) (N := 9) hx hb hts hiX1 hown hK hP 0 rfl rfl 4 (by decide) hw26 (fun _ h9 => h9) rfl dX1_needStall_3 ?_
  refine va_getN (host := RX1) (D := D) (ci := 0) (v := .int (nI c)) (C := RX0) (T := TX0) (N := 5) hx hb hts hiX0 hown hK hP 5 rfl rfl 2 (by decide) (va_Nw.use rfl hC.2.1.1) (fun _ h9 => h9) rfl dX1_needStall_6 ?_
  refine lv_iconst (v := 1) hx hb dX1_needStall_9 (by decide) ?_
  refine lv_isub hx hb dX1_needStall_10 ?_
  refine ro_iE (va_runS (As := [.int (nI j), .int 0, .int ((nI c) - 1)]) (rest := []) ⟨hx, hb, hml, hown, hts⟩ (c_X1_isOutside l (nI j) 0 ((nI c) - 1)) (va_cwS 3 hts gX1_needStall_X1_isOutside rfl rfl rfl (by decide +kernel) ⟨Nat.le_of_ble_eq_true rfl, Nat.le_of_ble_eq_true rfl⟩) pre0 rfl rfl hl.1 rfl (lv_room (Nat.le_of_ble_eq_true rfl)) dX1_needStall_11 ⟨by decide, by decide⟩) ?_
  refine lv_if_eq (tgt := 27) hx hb dX1_needStall_14 (by decide) (fun c_14 => ?_) (fun c_14 => ?_)
  · skip
    have c_14 := bz_0 c_14
    exact W.vret hx hb hr (fun t9 ht hW => ⟨rfl, trivial, ht⟩) (fun q hq => absurd hq List.not_mem_nil) dX1_needStall_27
  · skip
    have c_14 := bz_1 c_14
    exact absurd c_14 ((inM_iff (by omega)).mpr (inM_nI hj (by omega)))

set_option maxHeartbeats 4000000 in
set_option maxRecDepth 100000 in
theorem k_X1_needMany (l : Launch) (D : va_G) (cI cJ : ClassId) (a : Nat → Nat) (x : Int32) (hxx : inR 1 200 x) : Met l yX1_needMany wsX1_needMany ({ frames := 1, cells := 0, slots := 0, locals := 22 }) (cP D [] (KC D cI cJ a) [.int x]) (rov (True)) 0 0 (fun _ => False) := by
  refine Met.ofW (cc := cX1_needMany) (maxL := 1) (ret := none) (by decide +kernel) rfl ?_
  intro p e s m args below meth c9 s₁ B hml hv
  obtain ⟨rfl, hP, hC⟩ := hv
  have hx := B.exec
  have hb := B.bytes
  have hr := B.returns
  have hts := atoms_spec (ws := wsX1_needMany) B.pre
  have hown : s.vm.findClass RX1 = some m.cls := findClass_of_methodNamed B.named
  have hlocks := B.notSynchronized
  have hK : va_K D vwCl [(cI, .int), (cJ, .long)] s := hC.1
  have hl := lv_entry ([.int x]) (n := 1) (Nat.le_of_ble_eq_true rfl)
  rw [lg_entry_eq]
  generalize (lg_sl ([.int x]) ++ List.replicate (1 - (lg_sl ([.int x])).length) Slot.unset).toArray = ls at hl ⊢
  have hl : lv_has ls 1 [(0, .int x)] := hl
  refine lv_iload_n hx hb dX1_needMany_0 rfl (lv_at hl 0 rfl) ?_
  refine lv_iconst (v := 1) hx hb dX1_needMany_1 (by decide) ?_
  refine lv_sipush (v := 200) hx hb dX1_needMany_2 (by decide) ?_
  refine ro_iE (va_runS (As := [.int x, .int 1, .int 200]) (rest := []) ⟨hx, hb, hml, hown, hts⟩ (c_X1_isOutside l x 1 200) (va_cwS 3 hts gX1_needMany_X1_isOutside rfl rfl rfl (by decide +kernel) ⟨Nat.le_of_ble_eq_true rfl, Nat.le_of_ble_eq_true rfl⟩) pre0 rfl rfl hl.1 rfl (lv_room (Nat.le_of_ble_eq_true rfl)) dX1_needMany_5 ⟨by decide, by decide⟩) ?_
  refine lv_if_eq (tgt := 21) hx hb dX1_needMany_8 (by decide) (fun c_8 => ?_) (fun c_8 => ?_)
  · skip
    have c_8 := bz_0 c_8
    exact W.vret hx hb hr (fun t9 ht hW => ⟨rfl, trivial, ht⟩) (fun q hq => absurd hq List.not_mem_nil) dX1_needMany_21
  · skip
    have c_8 := bz_1 c_8
    have e1 : (1 : Int32).toInt = 1 := rfl
    have e2 : (200 : Int32).toInt = 200 := rfl
    exfalso; unfold inR at hxx; omega

set_option maxHeartbeats 4000000 in
set_option maxRecDepth 100000 in
theorem k_X1_baseOf (l : Launch) (D : va_G) (cI cJ : ClassId) (a : Nat → Nat) (k st : Nat) (fi : Int32) (fB fS fO : Nat → Int32) (fL : Nat → Int64) (c : Nat) (t : Int32) (y : Nat) (fW fD : Nat → Int32) (c2 t2 y2 : Int32) (gW gD : Nat → Int32) (hk8 : k ≤ 8) (jx : Nat) (hj_x : jx < k) : Met l yX1_baseOf wsX1_baseOf ({ frames := 6, cells := 0, slots := 0, locals := 160 }) (cP D [((a 0), .inr (1, [.ref (a 1), .ref (a 2), .ref (a 3), .ref (a 4), .ref (a 5), .ref (a 8), .int (nI k), .int (nI st), .int fi])), ((a 1), .inl (cI, 8, .inl fB)), ((a 2), .inl (cI, 8, .inl fS)), ((a 3), .inl (cJ, 8, .inr (.inl fL))), ((a 4), .inl (cI, 8, .inl fO)), ((a 5), .inr (0, [.ref (a 6), .ref (a 7), .int (nI c), .int t, .int (nI y)])), ((a 6), .inl (cI, 6, .inl fW)), ((a 7), .inl (cI, 6, .inl fD)), ((a 8), .inr (0, [.ref (a 9), .ref (a 10), .int c2, .int t2, .int y2])), ((a 9), .inl (cI, 6, .inl gW)), ((a 10), .inl (cI, 6, .inl gD))] (KC D cI cJ a) [.ref (a 0), .int (nI jx)]) (roi (fun r => r = fB jx)) 0 0 (fun _ => False) := by
  refine Met.ofW (cc := cX1_baseOf) (maxL := 2) (ret := (some .int)) (by decide +kernel) rfl ?_
  intro p e s m args below meth c9 s₁ B hml hv
  obtain ⟨rfl, hP, hC⟩ := hv
  have hx := B.exec
  have hb := B.bytes
  have hr := B.returns
  have hts := atoms_spec (ws := wsX1_baseOf) B.pre
  have hown : s.vm.findClass RX1 = some m.cls := findClass_of_methodNamed B.named
  have hlocks := B.notSynchronized
  have hK : va_K D vwCl [(cI, .int), (cJ, .long)] s := hC.1
  have hl := lv_entry ([.ref (a 0), .int (nI jx)]) (n := 2) (Nat.le_of_ble_eq_true rfl)
  rw [lg_entry_eq]
  generalize (lg_sl ([.ref (a 0), .int (nI jx)]) ++ List.replicate (2 - (lg_sl ([.ref (a 0), .int (nI jx)])).length) Slot.unset).toArray = ls at hl ⊢
  have hl : lv_has ls 2 [(0, .ref (a 0)), (1, .int (nI jx))] := hl
  have hiX1 : ∀ w ∈ u_ws RX1 TX1 9, w ∈ wsX1_baseOf := by decide +kernel
  have hw9 : (Cond.fieldLink RX1 9 "OldMeasures" "bases" "[I").before ([.ref (a 0), .int (nI jx)] : List Value).toArray s = true := hts _ (by decide +kernel)
  refine lv_aload_n hx hb dX1_baseOf_0 rfl (lv_at hl 0 rfl) ?_
  refine lv_iload_n hx hb dX1_baseOf_1 rfl (lv_at hl 1 rfl) ?_
  refine ro_v (va_runV (As := [.int (nI jx)]) (rest := []) ⟨hx, hb, hml, hown, hts⟩ (k_X1_needMeasure l D cI cJ a k st fi fB fS fO fL c t y fW fD c2 t2 y2 gW gD hk8 jx (by omega)) (cwV 1 hts gX1_baseOf_X1_needMeasure rfl rfl rfl (by decide +kernel) ⟨Nat.le_of_ble_eq_true rfl, Nat.le_of_ble_eq_true rfl⟩) (preV_ro KC_ok hP hC (va_recv hK hP (ci := 1) (q0 := 0) rfl rfl)) rfl rfl hl.1 rfl (lv_room (Nat.le_of_ble_eq_true rfl)) dX1_baseOf_2 ⟨by decide, by decide⟩) (fun _ => ?_)
  refine lv_aload_n hx hb dX1_baseOf_5 rfl (lv_at hl 0 rfl) ?_
  refine va_get (D := D) (ci := 1) (v := .ref (a 1)) (C := RX1) (T := TX1) (N := 9) hx hb hts hiX1 hown hK hP 0 rfl rfl 0 (by decide) hw9 (fun _ h9 => h9) rfl dX1_baseOf_6 ?_
  refine lv_iload_n hx hb dX1_baseOf_9 rfl (lv_at hl 1 rfl) ?_
  refine xa_iald hx hb hK hP 1 0 rfl rfl (by omega) (by decide) dX1_baseOf_10 ?_
  exact W.iret (v := (fB jx)) hx hb hr (fun t9 ht hW => ⟨_, rfl, rfl, ht⟩) (fun q hq => absurd hq List.not_mem_nil) dX1_baseOf_11

set_option maxHeartbeats 4000000 in
set_option maxRecDepth 100000 in
theorem k_X1_lengthTop (l : Launch) (D : va_G) (cI cJ : ClassId) (a : Nat → Nat) (k st : Nat) (fi : Int32) (fB fS fO : Nat → Int32) (fL : Nat → Int64) (c : Nat) (t : Int32) (y : Nat) (fW fD : Nat → Int32) (c2 t2 y2 : Int32) (gW gD : Nat → Int32) (hM : MOk k fL fO) (hst2 : st < k) (jx : Nat) (hj_x : jx < k) : Met l yX1_lengthTop wsX1_lengthTop ({ frames := 6, cells := 0, slots := 0, locals := 160 }) (cP D [((a 0), .inr (1, [.ref (a 1), .ref (a 2), .ref (a 3), .ref (a 4), .ref (a 5), .ref (a 8), .int (nI k), .int (nI st), .int fi])), ((a 1), .inl (cI, 8, .inl fB)), ((a 2), .inl (cI, 8, .inl fS)), ((a 3), .inl (cJ, 8, .inr (.inl fL))), ((a 4), .inl (cI, 8, .inl fO)), ((a 5), .inr (0, [.ref (a 6), .ref (a 7), .int (nI c), .int t, .int (nI y)])), ((a 6), .inl (cI, 6, .inl fW)), ((a 7), .inl (cI, 6, .inl fD)), ((a 8), .inr (0, [.ref (a 9), .ref (a 10), .int c2, .int t2, .int y2])), ((a 9), .inl (cI, 6, .inl gW)), ((a 10), .inl (cI, 6, .inl gD))] (KC D cI cJ a) [.ref (a 0), .int (nI jx)]) (rol (fun r => r = tp (fL jx) (fL st))) 0 0 (fun _ => False) := by
  refine Met.ofW (cc := cX1_lengthTop) (maxL := 2) (ret := (some .long)) (by decide +kernel) rfl ?_
  intro p e s m args below meth c9 s₁ B hml hv
  obtain ⟨rfl, hP, hC⟩ := hv
  have hx := B.exec
  have hb := B.bytes
  have hr := B.returns
  have hts := atoms_spec (ws := wsX1_lengthTop) B.pre
  have hown : s.vm.findClass RX1 = some m.cls := findClass_of_methodNamed B.named
  have hlocks := B.notSynchronized
  have hK : va_K D vwCl [(cI, .int), (cJ, .long)] s := hC.1
  have hl := lv_entry ([.ref (a 0), .int (nI jx)]) (n := 2) (Nat.le_of_ble_eq_true rfl)
  rw [lg_entry_eq]
  generalize (lg_sl ([.ref (a 0), .int (nI jx)]) ++ List.replicate (2 - (lg_sl ([.ref (a 0), .int (nI jx)])).length) Slot.unset).toArray = ls at hl ⊢
  have hl : lv_has ls 2 [(0, .ref (a 0)), (1, .int (nI jx))] := hl
  have hk8 : k ≤ 8 := hM.2.1
  have hk1 : 1 ≤ k := hM.1
  have hiX1 : ∀ w ∈ u_ws RX1 TX1 9, w ∈ wsX1_lengthTop := by decide +kernel
  have hw16 : (Cond.fieldLink RX1 16 "OldMeasures" "lengths" "[J").before ([.ref (a 0), .int (nI jx)] : List Value).toArray s = true := hts _ (by decide +kernel)
  have hw37 : (Cond.fieldLink RX1 37 "OldMeasures" "standard" "I").before ([.ref (a 0), .int (nI jx)] : List Value).toArray s = true := hts _ (by decide +kernel)
  refine lv_aload_n hx hb dX1_lengthTop_0 rfl (lv_at hl 0 rfl) ?_
  refine lv_iload_n hx hb dX1_lengthTop_1 rfl (lv_at hl 1 rfl) ?_
  refine ro_v (va_runV (As := [.int (nI jx)]) (rest := []) ⟨hx, hb, hml, hown, hts⟩ (k_X1_needMeasure l D cI cJ a k st fi fB fS fO fL c t y fW fD c2 t2 y2 gW gD hk8 jx (by omega)) (cwV 1 hts gX1_lengthTop_X1_needMeasure rfl rfl rfl (by decide +kernel) ⟨Nat.le_of_ble_eq_true rfl, Nat.le_of_ble_eq_true rfl⟩) (preV_ro KC_ok hP hC (va_recv hK hP (ci := 1) (q0 := 0) rfl rfl)) rfl rfl hl.1 rfl (lv_room (Nat.le_of_ble_eq_true rfl)) dX1_lengthTop_2 ⟨by decide, by decide⟩) (fun _ => ?_)
  refine lv_aload_n hx hb dX1_lengthTop_5 rfl (lv_at hl 0 rfl) ?_
  refine va_get (D := D) (ci := 1) (v := .ref (a 3)) (C := RX1) (T := TX1) (N := 9) hx hb hts hiX1 hown hK hP 0 rfl rfl 2 (by decide) hw16 (fun _ h9 => h9) rfl dX1_lengthTop_6 ?_
  refine lv_iload_n hx hb dX1_lengthTop_9 rfl (lv_at hl 1 rfl) ?_
  refine xa_lald hx hb hK hP 3 1 rfl rfl (by omega) (by decide) dX1_lengthTop_10 ?_
  refine lv_aload_n hx hb dX1_lengthTop_11 rfl (lv_at hl 0 rfl) ?_
  refine va_get (D := D) (ci := 1) (v := .ref (a 3)) (C := RX1) (T := TX1) (N := 9) hx hb hts hiX1 hown hK hP 0 rfl rfl 2 (by decide) hw16 (fun _ h9 => h9) rfl dX1_lengthTop_12 ?_
  refine lv_aload_n hx hb dX1_lengthTop_15 rfl (lv_at hl 0 rfl) ?_
  refine va_get (D := D) (ci := 1) (v := .int (nI st)) (C := RX1) (T := TX1) (N := 9) hx hb hts hiX1 hown hK hP 0 rfl rfl 7 (by decide) hw37 (fun _ h9 => h9) rfl dX1_lengthTop_16 ?_
  refine xa_lald hx hb hK hP 3 1 rfl rfl (by omega) (by decide) dX1_lengthTop_19 ?_
  refine ro_lE (va_runS (As := [.long (fL jx), .long (fL st)]) (rest := []) ⟨hx, hb, hml, hown, hts⟩ (c_X1_wcd l (fL jx) (fL st) (hM.2.2.1 _ (by omega)) (hM.2.2.1 _ (by omega))) (va_cwS 2 hts gX1_lengthTop_X1_withoutCommonDivisor rfl rfl rfl (by decide +kernel) ⟨Nat.le_of_ble_eq_true rfl, Nat.le_of_ble_eq_true rfl⟩) pre0 rfl rfl hl.1 rfl (lv_room (Nat.le_of_ble_eq_true rfl)) dX1_lengthTop_20 ⟨by decide, by decide⟩) ?_
  exact W.lret (v := (tp (fL jx) (fL st))) hx hb hr (fun t9 ht hW => ⟨_, rfl, rfl, ht⟩) (fun q hq => absurd hq List.not_mem_nil) dX1_lengthTop_23

set_option maxHeartbeats 4000000 in
set_option maxRecDepth 100000 in
theorem k_X1_lengthBottom (l : Launch) (D : va_G) (cI cJ : ClassId) (a : Nat → Nat) (k st : Nat) (fi : Int32) (fB fS fO : Nat → Int32) (fL : Nat → Int64) (c : Nat) (t : Int32) (y : Nat) (fW fD : Nat → Int32) (c2 t2 y2 : Int32) (gW gD : Nat → Int32) (hM : MOk k fL fO) (hst2 : st < k) (jx : Nat) (hj_x : jx < k) : Met l yX1_lengthBottom wsX1_lengthBottom ({ frames := 6, cells := 0, slots := 0, locals := 160 }) (cP D [((a 0), .inr (1, [.ref (a 1), .ref (a 2), .ref (a 3), .ref (a 4), .ref (a 5), .ref (a 8), .int (nI k), .int (nI st), .int fi])), ((a 1), .inl (cI, 8, .inl fB)), ((a 2), .inl (cI, 8, .inl fS)), ((a 3), .inl (cJ, 8, .inr (.inl fL))), ((a 4), .inl (cI, 8, .inl fO)), ((a 5), .inr (0, [.ref (a 6), .ref (a 7), .int (nI c), .int t, .int (nI y)])), ((a 6), .inl (cI, 6, .inl fW)), ((a 7), .inl (cI, 6, .inl fD)), ((a 8), .inr (0, [.ref (a 9), .ref (a 10), .int c2, .int t2, .int y2])), ((a 9), .inl (cI, 6, .inl gW)), ((a 10), .inl (cI, 6, .inl gD))] (KC D cI cJ a) [.ref (a 0), .int (nI jx)]) (rol (fun r => r = tp (fL st) (fL jx))) 0 0 (fun _ => False) := by
  refine Met.ofW (cc := cX1_lengthBottom) (maxL := 2) (ret := (some .long)) (by decide +kernel) rfl ?_
  intro p e s m args below meth c9 s₁ B hml hv
  obtain ⟨rfl, hP, hC⟩ := hv
  have hx := B.exec
  have hb := B.bytes
  have hr := B.returns
  have hts := atoms_spec (ws := wsX1_lengthBottom) B.pre
  have hown : s.vm.findClass RX1 = some m.cls := findClass_of_methodNamed B.named
  have hlocks := B.notSynchronized
  have hK : va_K D vwCl [(cI, .int), (cJ, .long)] s := hC.1
  have hl := lv_entry ([.ref (a 0), .int (nI jx)]) (n := 2) (Nat.le_of_ble_eq_true rfl)
  rw [lg_entry_eq]
  generalize (lg_sl ([.ref (a 0), .int (nI jx)]) ++ List.replicate (2 - (lg_sl ([.ref (a 0), .int (nI jx)])).length) Slot.unset).toArray = ls at hl ⊢
  have hl : lv_has ls 2 [(0, .ref (a 0)), (1, .int (nI jx))] := hl
  have hk8 : k ≤ 8 := hM.2.1
  have hk1 : 1 ≤ k := hM.1
  have hiX1 : ∀ w ∈ u_ws RX1 TX1 9, w ∈ wsX1_lengthBottom := by decide +kernel
  have hw16 : (Cond.fieldLink RX1 16 "OldMeasures" "lengths" "[J").before ([.ref (a 0), .int (nI jx)] : List Value).toArray s = true := hts _ (by decide +kernel)
  have hw37 : (Cond.fieldLink RX1 37 "OldMeasures" "standard" "I").before ([.ref (a 0), .int (nI jx)] : List Value).toArray s = true := hts _ (by decide +kernel)
  refine lv_aload_n hx hb dX1_lengthBottom_0 rfl (lv_at hl 0 rfl) ?_
  refine lv_iload_n hx hb dX1_lengthBottom_1 rfl (lv_at hl 1 rfl) ?_
  refine ro_v (va_runV (As := [.int (nI jx)]) (rest := []) ⟨hx, hb, hml, hown, hts⟩ (k_X1_needMeasure l D cI cJ a k st fi fB fS fO fL c t y fW fD c2 t2 y2 gW gD hk8 jx (by omega)) (cwV 1 hts gX1_lengthBottom_X1_needMeasure rfl rfl rfl (by decide +kernel) ⟨Nat.le_of_ble_eq_true rfl, Nat.le_of_ble_eq_true rfl⟩) (preV_ro KC_ok hP hC (va_recv hK hP (ci := 1) (q0 := 0) rfl rfl)) rfl rfl hl.1 rfl (lv_room (Nat.le_of_ble_eq_true rfl)) dX1_lengthBottom_2 ⟨by decide, by decide⟩) (fun _ => ?_)
  refine lv_aload_n hx hb dX1_lengthBottom_5 rfl (lv_at hl 0 rfl) ?_
  refine va_get (D := D) (ci := 1) (v := .ref (a 3)) (C := RX1) (T := TX1) (N := 9) hx hb hts hiX1 hown hK hP 0 rfl rfl 2 (by decide) hw16 (fun _ h9 => h9) rfl dX1_lengthBottom_6 ?_
  refine lv_aload_n hx hb dX1_lengthBottom_9 rfl (lv_at hl 0 rfl) ?_
  refine va_get (D := D) (ci := 1) (v := .int (nI st)) (C := RX1) (T := TX1) (N := 9) hx hb hts hiX1 hown hK hP 0 rfl rfl 7 (by decide) hw37 (fun _ h9 => h9) rfl dX1_lengthBottom_10 ?_
  refine xa_lald hx hb hK hP 3 1 rfl rfl (by omega) (by decide) dX1_lengthBottom_13 ?_
  refine lv_aload_n hx hb dX1_lengthBottom_14 rfl (lv_at hl 0 rfl) ?_
  refine va_get (D := D) (ci := 1) (v := .ref (a 3)) (C := RX1) (T := TX1) (N := 9) hx hb hts hiX1 hown hK hP 0 rfl rfl 2 (by decide) hw16 (fun _ h9 => h9) rfl dX1_lengthBottom_15 ?_
  refine lv_iload_n hx hb dX1_lengthBottom_18 rfl (lv_at hl 1 rfl) ?_
  refine xa_lald hx hb hK hP 3 1 rfl rfl (by omega) (by decide) dX1_lengthBottom_19 ?_
  refine ro_lE (va_runS (As := [.long (fL st), .long (fL jx)]) (rest := []) ⟨hx, hb, hml, hown, hts⟩ (c_X1_wcd l (fL st) (fL jx) (hM.2.2.1 _ (by omega)) (hM.2.2.1 _ (by omega))) (va_cwS 2 hts gX1_lengthBottom_X1_withoutCommonDivisor rfl rfl rfl (by decide +kernel) ⟨Nat.le_of_ble_eq_true rfl, Nat.le_of_ble_eq_true rfl⟩) pre0 rfl rfl hl.1 rfl (lv_room (Nat.le_of_ble_eq_true rfl)) dX1_lengthBottom_20 ⟨by decide, by decide⟩) ?_
  exact W.lret (v := (tp (fL st) (fL jx))) hx hb hr (fun t9 ht hW => ⟨_, rfl, rfl, ht⟩) (fun q hq => absurd hq List.not_mem_nil) dX1_lengthBottom_23

set_option maxHeartbeats 4000000 in
set_option maxRecDepth 100000 in
theorem k_X1_pieces (l : Launch) (D : va_G) (cI cJ : ClassId) (a : Nat → Nat) (k st : Nat) (fi : Int32) (fB fS fO : Nat → Int32) (fL : Nat → Int64) (c : Nat) (t : Int32) (y : Nat) (fW fD : Nat → Int32) (c2 t2 y2 : Int32) (gW gD : Nat → Int32) (hM : MOk k fL fO) (hst2 : st < k) (w : Int32) (hw9 : inR 1 200 w) (jx : Nat) (hj_x : jx < k) : Met l yX1_pieces wsX1_pieces ({ frames := 6, cells := 0, slots := 0, locals := 160 }) (cP D [((a 0), .inr (1, [.ref (a 1), .ref (a 2), .ref (a 3), .ref (a 4), .ref (a 5), .ref (a 8), .int (nI k), .int (nI st), .int fi])), ((a 1), .inl (cI, 8, .inl fB)), ((a 2), .inl (cI, 8, .inl fS)), ((a 3), .inl (cJ, 8, .inr (.inl fL))), ((a 4), .inl (cI, 8, .inl fO)), ((a 5), .inr (0, [.ref (a 6), .ref (a 7), .int (nI c), .int t, .int (nI y)])), ((a 6), .inl (cI, 6, .inl fW)), ((a 7), .inl (cI, 6, .inl fD)), ((a 8), .inr (0, [.ref (a 9), .ref (a 10), .int c2, .int t2, .int y2])), ((a 9), .inl (cI, 6, .inl gW)), ((a 10), .inl (cI, 6, .inl gD))] (KC D cI cJ a) [.ref (a 0), .int w, .int (nI jx)]) (rol (fun r => r = tkT (lnA fL fO) (fL jx * w.toInt64) k)) 0 0 (fun _ => False) := by
  refine Met.ofW (cc := cX1_pieces) (maxL := 8) (ret := (some .long)) (by decide +kernel) rfl ?_
  intro p e s m args below meth c9 s₁ B hml hv
  obtain ⟨rfl, hP, hC⟩ := hv
  have hx := B.exec
  have hb := B.bytes
  have hr := B.returns
  have hts := atoms_spec (ws := wsX1_pieces) B.pre
  have hown : s.vm.findClass RX1 = some m.cls := findClass_of_methodNamed B.named
  have hlocks := B.notSynchronized
  have hK : va_K D vwCl [(cI, .int), (cJ, .long)] s := hC.1
  have hl := lv_entry ([.ref (a 0), .int w, .int (nI jx)]) (n := 8) (Nat.le_of_ble_eq_true rfl)
  rw [lg_entry_eq]
  generalize (lg_sl ([.ref (a 0), .int w, .int (nI jx)]) ++ List.replicate (8 - (lg_sl ([.ref (a 0), .int w, .int (nI jx)])).length) Slot.unset).toArray = ls at hl ⊢
  have hl : lv_has ls 8 [(0, .ref (a 0)), (1, .int w), (2, .int (nI jx))] := hl
  have hk8 : k ≤ 8 := hM.2.1
  have hk1 : 1 ≤ k := hM.1
  have hiX1 : ∀ w ∈ u_ws RX1 TX1 9, w ∈ wsX1_pieces := by decide +kernel
  have hw16 : (Cond.fieldLink RX1 16 "OldMeasures" "lengths" "[J").before ([.ref (a 0), .int w, .int (nI jx)] : List Value).toArray s = true := hts _ (by decide +kernel)
  have hw33 : (Cond.fieldLink RX1 33 "OldMeasures" "measureCount" "I").before ([.ref (a 0), .int w, .int (nI jx)] : List Value).toArray s = true := hts _ (by decide +kernel)
  refine lv_aload_n hx hb dX1_pieces_0 rfl (lv_at hl 0 rfl) ?_
  refine lv_iload_n hx hb dX1_pieces_1 rfl (lv_at hl 2 rfl) ?_
  refine ro_v (va_runV (As := [.int (nI jx)]) (rest := []) ⟨hx, hb, hml, hown, hts⟩ (k_X1_needMeasure l D cI cJ a k st fi fB fS fO fL c t y fW fD c2 t2 y2 gW gD hk8 jx (by omega)) (cwV 1 hts gX1_pieces_X1_needMeasure rfl rfl rfl (by decide +kernel) ⟨Nat.le_of_ble_eq_true rfl, Nat.le_of_ble_eq_true rfl⟩) (preV_ro KC_ok hP hC (va_recv hK hP (ci := 1) (q0 := 0) rfl rfl)) rfl rfl hl.1 rfl (lv_room (Nat.le_of_ble_eq_true rfl)) dX1_pieces_2 ⟨by decide, by decide⟩) (fun _ => ?_)
  refine lv_iload_n hx hb dX1_pieces_5 rfl (lv_at hl 1 rfl) ?_
  refine ro_v (va_runS (As := [.int w]) (rest := []) ⟨hx, hb, hml, hown, hts⟩ (k_X1_needMany l D cI cJ a w hw9) (va_cwS 1 hts gX1_pieces_X1_needMany rfl rfl rfl (by decide +kernel) ⟨Nat.le_of_ble_eq_true rfl, Nat.le_of_ble_eq_true rfl⟩) (preS_ro KC_ok (hP.sub (ws' := []) [] rfl) hC) rfl rfl hl.1 rfl (lv_room (Nat.le_of_ble_eq_true rfl)) dX1_pieces_6 ⟨by decide, by decide⟩) (fun _ => ?_)
  refine lv_aload_n hx hb dX1_pieces_9 rfl (lv_at hl 0 rfl) ?_
  refine va_get (D := D) (ci := 1) (v := .ref (a 3)) (C := RX1) (T := TX1) (N := 9) hx hb hts hiX1 hown hK hP 0 rfl rfl 2 (by decide) hw16 (fun _ h9 => h9) rfl dX1_pieces_10 ?_
  refine lv_iload_n hx hb dX1_pieces_13 rfl (lv_at hl 2 rfl) ?_
  refine xa_lald hx hb hK hP 3 1 rfl rfl (by omega) (by decide) dX1_pieces_14 ?_
  refine lv_iload_n hx hb dX1_pieces_15 rfl (lv_at hl 1 rfl) ?_
  refine lv_i2l (v := (w).toInt64) hx hb dX1_pieces_16 rfl ?_
  refine lv_lmul hx hb dX1_pieces_17 ?_
  refine lv_lstore_n (lv' := [(3, .long ((fL jx) * (w).toInt64)), (0, .ref (a 0)), (1, .int w), (2, .int (nI jx))]) hx hb dX1_pieces_18 rfl hl (by decide) rfl (fun ls hl => ?_)
  refine lv_lconst (v := 0) hx hb dX1_pieces_19 (by decide) ?_
  refine lv_lstore (lv' := [(5, .long 0), (3, .long ((fL jx) * (w).toInt64)), (0, .ref (a 0)), (1, .int w), (2, .int (nI jx))]) hx hb dX1_pieces_20 hl (by decide) rfl (fun ls hl => ?_)
  refine lv_iconst (v := 0) hx hb dX1_pieces_22 (by decide) ?_
  refine lv_istore (lv' := [(7, .int 0), (5, .long 0), (3, .long ((fL jx) * (w).toInt64)), (0, .ref (a 0)), (1, .int w), (2, .int (nI jx))]) hx hb dX1_pieces_23 hl (by decide) rfl (fun ls hl => ?_)
  refine loopR (σ := Unit) (I := fun i x ls => lv_has ls 8 [(0, .ref (a 0)), (3, .long (lfT (lnA fL fO) (fL jx * (w).toInt64) i)), (5, .long (tkT (lnA fL fO) (fL jx * (w).toInt64) i)), (7, .int (nI i))] ∧ (True)) k ?_ 0 () ls (by omega) ⟨lv_sub hl [3, 2, 1, 0] rfl, trivial⟩
  intro i x ls hi hI kk
  obtain ⟨hl, _⟩ := hI
  refine lv_iload hx hb dX1_pieces_25 (lv_at hl 3 rfl) ?_
  refine lv_aload_n hx hb dX1_pieces_27 rfl (lv_at hl 0 rfl) ?_
  refine va_get (D := D) (ci := 1) (v := .int (nI k)) (C := RX1) (T := TX1) (N := 9) hx hb hts hiX1 hown hK hP 0 rfl rfl 6 (by decide) hw33 (fun _ h9 => h9) rfl dX1_pieces_28 ?_
  refine lv_icmp_ge (tgt := 66) hx hb dX1_pieces_31 (by decide) (fun c_31 => ?_) (fun c_31 => ?_)
  · skip
    simp only [Int32.le_iff_toInt_le] at c_31
    rw [nI_toInt (n := i) (by omega)] at c_31
    rw [nI_toInt (n := k) (by omega)] at c_31
    have e9 : k = i := by omega
    subst e9
    refine lv_lload hx hb dX1_pieces_66 (lv_at hl 2 rfl) ?_
    exact W.lret (v := (tkT (lnA fL fO) (fL jx * (w).toInt64) k)) hx hb hr (fun t9 ht hW => ⟨_, rfl, rfl, ht⟩) (fun q hq => absurd hq List.not_mem_nil) dX1_pieces_68
  · skip
    simp only [Int32.le_iff_toInt_le] at c_31
    rw [nI_toInt (n := i) (by omega)] at c_31
    rw [nI_toInt (n := k) (by omega)] at c_31
    refine lv_lload hx hb dX1_pieces_34 (lv_at hl 2 rfl) ?_
    refine lv_lload_n hx hb dX1_pieces_36 rfl (lv_at hl 1 rfl) ?_
    refine lv_aload_n hx hb dX1_pieces_37 rfl (lv_at hl 0 rfl) ?_
    refine lv_iload hx hb dX1_pieces_38 (lv_at hl 3 rfl) ?_
    refine ro_lE (va_runV (As := [.int (nI i)]) (rest := [.long (lfT (lnA fL fO) (fL jx * (w).toInt64) i), .long (tkT (lnA fL fO) (fL jx * (w).toInt64) i)]) ⟨hx, hb, hml, hown, hts⟩ (c_X1_lengthAt l D cI cJ a k st fi fB fS fO fL c t y fW fD c2 t2 y2 gW gD i (by omega) (hM.at (by omega))) (cwV 1 hts gX1_pieces_X1_lengthAt rfl rfl rfl (by decide +kernel) ⟨Nat.le_of_ble_eq_true rfl, Nat.le_of_ble_eq_true rfl⟩) (preV_ro KM_ok (hP.sub (ws' := [((a 0), .inr (1, [.ref (a 1), .ref (a 2), .ref (a 3), .ref (a 4), .ref (a 5), .ref (a 8), .int (nI k), .int (nI st), .int fi])), ((a 1), .inl (cI, 8, .inl fB)), ((a 2), .inl (cI, 8, .inl fS)), ((a 3), .inl (cJ, 8, .inr (.inl fL))), ((a 4), .inl (cI, 8, .inl fO)), ((a 5), .inr (0, [.ref (a 6), .ref (a 7), .int (nI c), .int t, .int (nI y)])), ((a 6), .inl (cI, 6, .inl fW)), ((a 7), .inl (cI, 6, .inl fD)), ((a 8), .inr (0, [.ref (a 9), .ref (a 10), .int c2, .int t2, .int y2])), ((a 9), .inl (cI, 6, .inl gW)), ((a 10), .inl (cI, 6, .inl gD))]) [0, 1, 2, 3, 4, 5, 6, 7, 8, 9, 10] rfl) hK (va_recv hK hP (ci := 1) (q0 := 0) rfl rfl)) rfl rfl hl.1 rfl (lv_room (Nat.le_of_ble_eq_true rfl)) dX1_pieces_40 ⟨by decide, by decide⟩) ?_
    refine ro_lE (va_runS (As := [.long (lfT (lnA fL fO) (fL jx * (w).toInt64) i), .long (lnA fL fO i)]) (rest := [.long (tkT (lnA fL fO) (fL jx * (w).toInt64) i)]) ⟨hx, hb, hml, hown, hts⟩ (c_X1_timesIn l (lfT (lnA fL fO) (fL jx * (w).toInt64) i) (lnA fL fO i) (hM.pos (by omega))) (va_cwS 2 hts gX1_pieces_X1_timesIn rfl rfl rfl (by decide +kernel) ⟨Nat.le_of_ble_eq_true rfl, Nat.le_of_ble_eq_true rfl⟩) pre0 rfl rfl hl.1 rfl (lv_room (Nat.le_of_ble_eq_true rfl)) dX1_pieces_43 ⟨by decide, by decide⟩) ?_
    refine lv_ladd hx hb dX1_pieces_46 ?_
    refine lv_lstore (lv' := [(5, .long ((tkT (lnA fL fO) (fL jx * (w).toInt64) i) + ((lfT (lnA fL fO) (fL jx * (w).toInt64) i) / (lnA fL fO i)))), (0, .ref (a 0)), (3, .long (lfT (lnA fL fO) (fL jx * (w).toInt64) i)), (7, .int (nI i))]) hx hb dX1_pieces_47 hl (by decide) rfl (fun ls hl => ?_)
    refine lv_lload_n hx hb dX1_pieces_49 rfl (lv_at hl 2 rfl) ?_
    refine lv_aload_n hx hb dX1_pieces_50 rfl (lv_at hl 1 rfl) ?_
    refine lv_iload hx hb dX1_pieces_51 (lv_at hl 3 rfl) ?_
    refine ro_lE (va_runV (As := [.int (nI i)]) (rest := [.long (lfT (lnA fL fO) (fL jx * (w).toInt64) i)]) ⟨hx, hb, hml, hown, hts⟩ (c_X1_lengthAt l D cI cJ a k st fi fB fS fO fL c t y fW fD c2 t2 y2 gW gD i (by omega) (hM.at (by omega))) (cwV 1 hts gX1_pieces_X1_lengthAt rfl rfl rfl (by decide +kernel) ⟨Nat.le_of_ble_eq_true rfl, Nat.le_of_ble_eq_true rfl⟩) (preV_ro KM_ok (hP.sub (ws' := [((a 0), .inr (1, [.ref (a 1), .ref (a 2), .ref (a 3), .ref (a 4), .ref (a 5), .ref (a 8), .int (nI k), .int (nI st), .int fi])), ((a 1), .inl (cI, 8, .inl fB)), ((a 2), .inl (cI, 8, .inl fS)), ((a 3), .inl (cJ, 8, .inr (.inl fL))), ((a 4), .inl (cI, 8, .inl fO)), ((a 5), .inr (0, [.ref (a 6), .ref (a 7), .int (nI c), .int t, .int (nI y)])), ((a 6), .inl (cI, 6, .inl fW)), ((a 7), .inl (cI, 6, .inl fD)), ((a 8), .inr (0, [.ref (a 9), .ref (a 10), .int c2, .int t2, .int y2])), ((a 9), .inl (cI, 6, .inl gW)), ((a 10), .inl (cI, 6, .inl gD))]) [0, 1, 2, 3, 4, 5, 6, 7, 8, 9, 10] rfl) hK (va_recv hK hP (ci := 1) (q0 := 0) rfl rfl)) rfl rfl hl.1 rfl (lv_room (Nat.le_of_ble_eq_true rfl)) dX1_pieces_53 ⟨by decide, by decide⟩) ?_
    refine ro_lE (va_runS (As := [.long (lfT (lnA fL fO) (fL jx * (w).toInt64) i), .long (lnA fL fO i)]) (rest := []) ⟨hx, hb, hml, hown, hts⟩ (c_X1_leftOf l (lfT (lnA fL fO) (fL jx * (w).toInt64) i) (lnA fL fO i) (hM.pos (by omega))) (va_cwS 2 hts gX1_pieces_X1_leftOf rfl rfl rfl (by decide +kernel) ⟨Nat.le_of_ble_eq_true rfl, Nat.le_of_ble_eq_true rfl⟩) pre0 rfl rfl hl.1 rfl (lv_room (Nat.le_of_ble_eq_true rfl)) dX1_pieces_56 ⟨by decide, by decide⟩) ?_
    refine lv_lstore_n (lv' := [(3, .long (jrem (lfT (lnA fL fO) (fL jx * (w).toInt64) i) (lnA fL fO i))), (5, .long ((tkT (lnA fL fO) (fL jx * (w).toInt64) i) + ((lfT (lnA fL fO) (fL jx * (w).toInt64) i) / (lnA fL fO i)))), (0, .ref (a 0)), (7, .int (nI i))]) hx hb dX1_pieces_59 rfl hl (by decide) rfl (fun ls hl => ?_)
    refine lv_iinc (v := (nI (i + 1))) (lv' := [(7, .int (nI (i + 1))), (3, .long (jrem (lfT (lnA fL fO) (fL jx * (w).toInt64) i) (lnA fL fO i))), (5, .long ((tkT (lnA fL fO) (fL jx * (w).toInt64) i) + ((lfT (lnA fL fO) (fL jx * (w).toInt64) i) / (lnA fL fO i)))), (0, .ref (a 0))]) hx hb dX1_pieces_60 hl (k := 3) rfl (nI_inc i) (by decide) rfl (fun ls hl => ?_)
    refine lv_goto (tgt := 25) hx hb dX1_pieces_63 (by decide) ?_
    exact kk () ls (by omega) ⟨lv_sub hl [3, 1, 2, 0] rfl, trivial⟩

set_option maxHeartbeats 4000000 in
set_option maxRecDepth 100000 in
theorem k_X1_isTold (l : Launch) (D : va_G) (cI cJ : ClassId) (a : Nat → Nat) (k st : Nat) (fi : Int32) (fB fS fO : Nat → Int32) (fL : Nat → Int64) (c : Nat) (t : Int32) (y : Nat) (fW fD : Nat → Int32) (c2 t2 y2 : Int32) (gW gD : Nat → Int32) (hM : MOk k fL fO) (hst2 : st < k) (w : Int32) (hw9 : inR 1 200 w) (jx : Nat) (hj_x : jx < k) : Met l yX1_isTold wsX1_isTold ({ frames := 6, cells := 0, slots := 0, locals := 160 }) (cP D [((a 0), .inr (1, [.ref (a 1), .ref (a 2), .ref (a 3), .ref (a 4), .ref (a 5), .ref (a 8), .int (nI k), .int (nI st), .int fi])), ((a 1), .inl (cI, 8, .inl fB)), ((a 2), .inl (cI, 8, .inl fS)), ((a 3), .inl (cJ, 8, .inr (.inl fL))), ((a 4), .inl (cI, 8, .inl fO)), ((a 5), .inr (0, [.ref (a 6), .ref (a 7), .int (nI c), .int t, .int (nI y)])), ((a 6), .inl (cI, 6, .inl fW)), ((a 7), .inl (cI, 6, .inl fD)), ((a 8), .inr (0, [.ref (a 9), .ref (a 10), .int c2, .int t2, .int y2])), ((a 9), .inl (cI, 6, .inl gW)), ((a 10), .inl (cI, 6, .inl gD))] (KC D cI cJ a) [.ref (a 0), .int w, .int (nI jx)]) (roi (fun r => r = bz ((lfT (lnA fL fO) (fL jx * w.toInt64) k).toInt = (0 : Int64).toInt))) 0 0 (fun _ => False) := by
  refine Met.ofW (cc := cX1_isTold) (maxL := 6) (ret := (some .boolean)) (by decide +kernel) rfl ?_
  intro p e s m args below meth c9 s₁ B hml hv
  obtain ⟨rfl, hP, hC⟩ := hv
  have hx := B.exec
  have hb := B.bytes
  have hr := B.returns
  have hts := atoms_spec (ws := wsX1_isTold) B.pre
  have hown : s.vm.findClass RX1 = some m.cls := findClass_of_methodNamed B.named
  have hlocks := B.notSynchronized
  have hK : va_K D vwCl [(cI, .int), (cJ, .long)] s := hC.1
  have hl := lv_entry ([.ref (a 0), .int w, .int (nI jx)]) (n := 6) (Nat.le_of_ble_eq_true rfl)
  rw [lg_entry_eq]
  generalize (lg_sl ([.ref (a 0), .int w, .int (nI jx)]) ++ List.replicate (6 - (lg_sl ([.ref (a 0), .int w, .int (nI jx)])).length) Slot.unset).toArray = ls at hl ⊢
  have hl : lv_has ls 6 [(0, .ref (a 0)), (1, .int w), (2, .int (nI jx))] := hl
  have hk8 : k ≤ 8 := hM.2.1
  have hk1 : 1 ≤ k := hM.1
  have hiX1 : ∀ w ∈ u_ws RX1 TX1 9, w ∈ wsX1_isTold := by decide +kernel
  have hw16 : (Cond.fieldLink RX1 16 "OldMeasures" "lengths" "[J").before ([.ref (a 0), .int w, .int (nI jx)] : List Value).toArray s = true := hts _ (by decide +kernel)
  have hw33 : (Cond.fieldLink RX1 33 "OldMeasures" "measureCount" "I").before ([.ref (a 0), .int w, .int (nI jx)] : List Value).toArray s = true := hts _ (by decide +kernel)
  refine lv_aload_n hx hb dX1_isTold_0 rfl (lv_at hl 0 rfl) ?_
  refine lv_iload_n hx hb dX1_isTold_1 rfl (lv_at hl 2 rfl) ?_
  refine ro_v (va_runV (As := [.int (nI jx)]) (rest := []) ⟨hx, hb, hml, hown, hts⟩ (k_X1_needMeasure l D cI cJ a k st fi fB fS fO fL c t y fW fD c2 t2 y2 gW gD hk8 jx (by omega)) (cwV 1 hts gX1_isTold_X1_needMeasure rfl rfl rfl (by decide +kernel) ⟨Nat.le_of_ble_eq_true rfl, Nat.le_of_ble_eq_true rfl⟩) (preV_ro KC_ok hP hC (va_recv hK hP (ci := 1) (q0 := 0) rfl rfl)) rfl rfl hl.1 rfl (lv_room (Nat.le_of_ble_eq_true rfl)) dX1_isTold_2 ⟨by decide, by decide⟩) (fun _ => ?_)
  refine lv_iload_n hx hb dX1_isTold_5 rfl (lv_at hl 1 rfl) ?_
  refine ro_v (va_runS (As := [.int w]) (rest := []) ⟨hx, hb, hml, hown, hts⟩ (k_X1_needMany l D cI cJ a w hw9) (va_cwS 1 hts gX1_isTold_X1_needMany rfl rfl rfl (by decide +kernel) ⟨Nat.le_of_ble_eq_true rfl, Nat.le_of_ble_eq_true rfl⟩) (preS_ro KC_ok (hP.sub (ws' := []) [] rfl) hC) rfl rfl hl.1 rfl (lv_room (Nat.le_of_ble_eq_true rfl)) dX1_isTold_6 ⟨by decide, by decide⟩) (fun _ => ?_)
  refine lv_aload_n hx hb dX1_isTold_9 rfl (lv_at hl 0 rfl) ?_
  refine va_get (D := D) (ci := 1) (v := .ref (a 3)) (C := RX1) (T := TX1) (N := 9) hx hb hts hiX1 hown hK hP 0 rfl rfl 2 (by decide) hw16 (fun _ h9 => h9) rfl dX1_isTold_10 ?_
  refine lv_iload_n hx hb dX1_isTold_13 rfl (lv_at hl 2 rfl) ?_
  refine xa_lald hx hb hK hP 3 1 rfl rfl (by omega) (by decide) dX1_isTold_14 ?_
  refine lv_iload_n hx hb dX1_isTold_15 rfl (lv_at hl 1 rfl) ?_
  refine lv_i2l (v := (w).toInt64) hx hb dX1_isTold_16 rfl ?_
  refine lv_lmul hx hb dX1_isTold_17 ?_
  refine lv_lstore_n (lv' := [(3, .long ((fL jx) * (w).toInt64)), (0, .ref (a 0)), (1, .int w), (2, .int (nI jx))]) hx hb dX1_isTold_18 rfl hl (by decide) rfl (fun ls hl => ?_)
  refine lv_iconst (v := 0) hx hb dX1_isTold_19 (by decide) ?_
  refine lv_istore (lv' := [(5, .int 0), (3, .long ((fL jx) * (w).toInt64)), (0, .ref (a 0)), (1, .int w), (2, .int (nI jx))]) hx hb dX1_isTold_20 hl (by decide) rfl (fun ls hl => ?_)
  refine loopR (σ := Unit) (I := fun i x ls => lv_has ls 6 [(0, .ref (a 0)), (3, .long (lfT (lnA fL fO) (fL jx * (w).toInt64) i)), (5, .int (nI i))] ∧ (True)) k ?_ 0 () ls (by omega) ⟨lv_sub hl [2, 1, 0] rfl, trivial⟩
  intro i x ls hi hI kk
  obtain ⟨hl, _⟩ := hI
  refine lv_iload hx hb dX1_isTold_22 (lv_at hl 2 rfl) ?_
  refine lv_aload_n hx hb dX1_isTold_24 rfl (lv_at hl 0 rfl) ?_
  refine va_get (D := D) (ci := 1) (v := .int (nI k)) (C := RX1) (T := TX1) (N := 9) hx hb hts hiX1 hown hK hP 0 rfl rfl 6 (by decide) hw33 (fun _ h9 => h9) rfl dX1_isTold_25 ?_
  refine lv_icmp_ge (tgt := 48) hx hb dX1_isTold_28 (by decide) (fun c_28 => ?_) (fun c_28 => ?_)
  · skip
    simp only [Int32.le_iff_toInt_le] at c_28
    rw [nI_toInt (n := i) (by omega)] at c_28
    rw [nI_toInt (n := k) (by omega)] at c_28
    have e9 : k = i := by omega
    subst e9
    refine lv_lload_n hx hb dX1_isTold_48 rfl (lv_at hl 1 rfl) ?_
    refine lv_lconst (v := 0) hx hb dX1_isTold_49 (by decide) ?_
    refine W.lcmp hx hb dX1_isTold_50 ?_
    refine lv_if_ne (tgt := 58) hx hb dX1_isTold_51 (by decide) (fun c_51 => ?_) (fun c_51 => ?_)
    · skip
      have c_51 := (lgc_ne _ _).mp c_51
      refine lv_iconst (v := 0) hx hb dX1_isTold_58 (by decide) ?_
      exact W.zret (v := 0) hx hb hr rfl (fun t9 ht hW => ⟨_, rfl, by first | exact (bz_t (by omega)).symm | exact (bz_f (by omega)).symm, ht⟩) (fun q hq => absurd hq List.not_mem_nil) dX1_isTold_59
    · skip
      have c_51 := (lgc_eq _ _).mp c_51
      refine lv_iconst (v := 1) hx hb dX1_isTold_54 (by decide) ?_
      refine lv_goto (tgt := 59) hx hb dX1_isTold_55 (by decide) ?_
      exact W.zret (v := 1) hx hb hr rfl (fun t9 ht hW => ⟨_, rfl, by first | exact (bz_t (by omega)).symm | exact (bz_f (by omega)).symm, ht⟩) (fun q hq => absurd hq List.not_mem_nil) dX1_isTold_59
  · skip
    simp only [Int32.le_iff_toInt_le] at c_28
    rw [nI_toInt (n := i) (by omega)] at c_28
    rw [nI_toInt (n := k) (by omega)] at c_28
    refine lv_lload_n hx hb dX1_isTold_31 rfl (lv_at hl 1 rfl) ?_
    refine lv_aload_n hx hb dX1_isTold_32 rfl (lv_at hl 0 rfl) ?_
    refine lv_iload hx hb dX1_isTold_33 (lv_at hl 2 rfl) ?_
    refine ro_lE (va_runV (As := [.int (nI i)]) (rest := [.long (lfT (lnA fL fO) (fL jx * (w).toInt64) i)]) ⟨hx, hb, hml, hown, hts⟩ (c_X1_lengthAt l D cI cJ a k st fi fB fS fO fL c t y fW fD c2 t2 y2 gW gD i (by omega) (hM.at (by omega))) (cwV 1 hts gX1_isTold_X1_lengthAt rfl rfl rfl (by decide +kernel) ⟨Nat.le_of_ble_eq_true rfl, Nat.le_of_ble_eq_true rfl⟩) (preV_ro KM_ok (hP.sub (ws' := [((a 0), .inr (1, [.ref (a 1), .ref (a 2), .ref (a 3), .ref (a 4), .ref (a 5), .ref (a 8), .int (nI k), .int (nI st), .int fi])), ((a 1), .inl (cI, 8, .inl fB)), ((a 2), .inl (cI, 8, .inl fS)), ((a 3), .inl (cJ, 8, .inr (.inl fL))), ((a 4), .inl (cI, 8, .inl fO)), ((a 5), .inr (0, [.ref (a 6), .ref (a 7), .int (nI c), .int t, .int (nI y)])), ((a 6), .inl (cI, 6, .inl fW)), ((a 7), .inl (cI, 6, .inl fD)), ((a 8), .inr (0, [.ref (a 9), .ref (a 10), .int c2, .int t2, .int y2])), ((a 9), .inl (cI, 6, .inl gW)), ((a 10), .inl (cI, 6, .inl gD))]) [0, 1, 2, 3, 4, 5, 6, 7, 8, 9, 10] rfl) hK (va_recv hK hP (ci := 1) (q0 := 0) rfl rfl)) rfl rfl hl.1 rfl (lv_room (Nat.le_of_ble_eq_true rfl)) dX1_isTold_35 ⟨by decide, by decide⟩) ?_
    refine ro_lE (va_runS (As := [.long (lfT (lnA fL fO) (fL jx * (w).toInt64) i), .long (lnA fL fO i)]) (rest := []) ⟨hx, hb, hml, hown, hts⟩ (c_X1_leftOf l (lfT (lnA fL fO) (fL jx * (w).toInt64) i) (lnA fL fO i) (hM.pos (by omega))) (va_cwS 2 hts gX1_isTold_X1_leftOf rfl rfl rfl (by decide +kernel) ⟨Nat.le_of_ble_eq_true rfl, Nat.le_of_ble_eq_true rfl⟩) pre0 rfl rfl hl.1 rfl (lv_room (Nat.le_of_ble_eq_true rfl)) dX1_isTold_38 ⟨by decide, by decide⟩) ?_
    refine lv_lstore_n (lv' := [(3, .long (jrem (lfT (lnA fL fO) (fL jx * (w).toInt64) i) (lnA fL fO i))), (0, .ref (a 0)), (5, .int (nI i))]) hx hb dX1_isTold_41 rfl hl (by decide) rfl (fun ls hl => ?_)
    refine lv_iinc (v := (nI (i + 1))) (lv' := [(5, .int (nI (i + 1))), (3, .long (jrem (lfT (lnA fL fO) (fL jx * (w).toInt64) i) (lnA fL fO i))), (0, .ref (a 0))]) hx hb dX1_isTold_42 hl (k := 2) rfl (nI_inc i) (by decide) rfl (fun ls hl => ?_)
    refine lv_goto (tgt := 22) hx hb dX1_isTold_45 (by decide) ?_
    exact kk () ls (by omega) ⟨lv_sub hl [2, 1, 0] rfl, trivial⟩

set_option maxHeartbeats 4000000 in
set_option maxRecDepth 100000 in
theorem k_X1_bestMeasure (l : Launch) (D : va_G) (cI cJ : ClassId) (a : Nat → Nat) (k st : Nat) (fi : Int32) (fB fS fO : Nat → Int32) (fL : Nat → Int64) (c : Nat) (t : Int32) (y : Nat) (fW fD : Nat → Int32) (c2 t2 y2 : Int32) (gW gD : Nat → Int32) (hM : MOk k fL fO) (hst2 : st < k) (w : Int32) (hw9 : inR 1 200 w) (jx : Nat) (hj_x : jx < k) : Met l yX1_bestMeasure wsX1_bestMeasure ({ frames := 6, cells := 0, slots := 0, locals := 160 }) (cP D [((a 0), .inr (1, [.ref (a 1), .ref (a 2), .ref (a 3), .ref (a 4), .ref (a 5), .ref (a 8), .int (nI k), .int (nI st), .int fi])), ((a 1), .inl (cI, 8, .inl fB)), ((a 2), .inl (cI, 8, .inl fS)), ((a 3), .inl (cJ, 8, .inr (.inl fL))), ((a 4), .inl (cI, 8, .inl fO)), ((a 5), .inr (0, [.ref (a 6), .ref (a 7), .int (nI c), .int t, .int (nI y)])), ((a 6), .inl (cI, 6, .inl fW)), ((a 7), .inl (cI, 6, .inl fD)), ((a 8), .inr (0, [.ref (a 9), .ref (a 10), .int c2, .int t2, .int y2])), ((a 9), .inl (cI, 6, .inl gW)), ((a 10), .inl (cI, 6, .inl gD))] (KC D cI cJ a) [.ref (a 0), .int w, .int (nI jx)]) (roi (fun r => r = bst (lnA fL fO) (fL jx * w.toInt64) fO (nI jx) k 0)) 0 0 (fun _ => False) := by
  refine Met.ofW (cc := cX1_bestMeasure) (maxL := 6) (ret := (some .int)) (by decide +kernel) rfl ?_
  intro p e s m args below meth c9 s₁ B hml hv
  obtain ⟨rfl, hP, hC⟩ := hv
  have hx := B.exec
  have hb := B.bytes
  have hr := B.returns
  have hts := atoms_spec (ws := wsX1_bestMeasure) B.pre
  have hown : s.vm.findClass RX1 = some m.cls := findClass_of_methodNamed B.named
  have hlocks := B.notSynchronized
  have hK : va_K D vwCl [(cI, .int), (cJ, .long)] s := hC.1
  have hl := lv_entry ([.ref (a 0), .int w, .int (nI jx)]) (n := 6) (Nat.le_of_ble_eq_true rfl)
  rw [lg_entry_eq]
  generalize (lg_sl ([.ref (a 0), .int w, .int (nI jx)]) ++ List.replicate (6 - (lg_sl ([.ref (a 0), .int w, .int (nI jx)])).length) Slot.unset).toArray = ls at hl ⊢
  have hl : lv_has ls 6 [(0, .ref (a 0)), (1, .int w), (2, .int (nI jx))] := hl
  have hk8 : k ≤ 8 := hM.2.1
  have hk1 : 1 ≤ k := hM.1
  have hiX1 : ∀ w ∈ u_ws RX1 TX1 9, w ∈ wsX1_bestMeasure := by decide +kernel
  have hw16 : (Cond.fieldLink RX1 16 "OldMeasures" "lengths" "[J").before ([.ref (a 0), .int w, .int (nI jx)] : List Value).toArray s = true := hts _ (by decide +kernel)
  have hw20 : (Cond.fieldLink RX1 20 "OldMeasures" "longestFirst" "[I").before ([.ref (a 0), .int w, .int (nI jx)] : List Value).toArray s = true := hts _ (by decide +kernel)
  have hw33 : (Cond.fieldLink RX1 33 "OldMeasures" "measureCount" "I").before ([.ref (a 0), .int w, .int (nI jx)] : List Value).toArray s = true := hts _ (by decide +kernel)
  refine lv_aload_n hx hb dX1_bestMeasure_0 rfl (lv_at hl 0 rfl) ?_
  refine lv_iload_n hx hb dX1_bestMeasure_1 rfl (lv_at hl 2 rfl) ?_
  refine ro_v (va_runV (As := [.int (nI jx)]) (rest := []) ⟨hx, hb, hml, hown, hts⟩ (k_X1_needMeasure l D cI cJ a k st fi fB fS fO fL c t y fW fD c2 t2 y2 gW gD hk8 jx (by omega)) (cwV 1 hts gX1_bestMeasure_X1_needMeasure rfl rfl rfl (by decide +kernel) ⟨Nat.le_of_ble_eq_true rfl, Nat.le_of_ble_eq_true rfl⟩) (preV_ro KC_ok hP hC (va_recv hK hP (ci := 1) (q0 := 0) rfl rfl)) rfl rfl hl.1 rfl (lv_room (Nat.le_of_ble_eq_true rfl)) dX1_bestMeasure_2 ⟨by decide, by decide⟩) (fun _ => ?_)
  refine lv_iload_n hx hb dX1_bestMeasure_5 rfl (lv_at hl 1 rfl) ?_
  refine ro_v (va_runS (As := [.int w]) (rest := []) ⟨hx, hb, hml, hown, hts⟩ (k_X1_needMany l D cI cJ a w hw9) (va_cwS 1 hts gX1_bestMeasure_X1_needMany rfl rfl rfl (by decide +kernel) ⟨Nat.le_of_ble_eq_true rfl, Nat.le_of_ble_eq_true rfl⟩) (preS_ro KC_ok (hP.sub (ws' := []) [] rfl) hC) rfl rfl hl.1 rfl (lv_room (Nat.le_of_ble_eq_true rfl)) dX1_bestMeasure_6 ⟨by decide, by decide⟩) (fun _ => ?_)
  refine lv_aload_n hx hb dX1_bestMeasure_9 rfl (lv_at hl 0 rfl) ?_
  refine va_get (D := D) (ci := 1) (v := .ref (a 3)) (C := RX1) (T := TX1) (N := 9) hx hb hts hiX1 hown hK hP 0 rfl rfl 2 (by decide) hw16 (fun _ h9 => h9) rfl dX1_bestMeasure_10 ?_
  refine lv_iload_n hx hb dX1_bestMeasure_13 rfl (lv_at hl 2 rfl) ?_
  refine xa_lald hx hb hK hP 3 1 rfl rfl (by omega) (by decide) dX1_bestMeasure_14 ?_
  refine lv_iload_n hx hb dX1_bestMeasure_15 rfl (lv_at hl 1 rfl) ?_
  refine lv_i2l (v := (w).toInt64) hx hb dX1_bestMeasure_16 rfl ?_
  refine lv_lmul hx hb dX1_bestMeasure_17 ?_
  refine lv_lstore_n (lv' := [(3, .long ((fL jx) * (w).toInt64)), (0, .ref (a 0)), (1, .int w), (2, .int (nI jx))]) hx hb dX1_bestMeasure_18 rfl hl (by decide) rfl (fun ls hl => ?_)
  refine lv_iconst (v := 0) hx hb dX1_bestMeasure_19 (by decide) ?_
  refine lv_istore (lv' := [(5, .int 0), (3, .long ((fL jx) * (w).toInt64)), (0, .ref (a 0)), (1, .int w), (2, .int (nI jx))]) hx hb dX1_bestMeasure_20 hl (by decide) rfl (fun ls hl => ?_)
  refine loopR (σ := Unit) (I := fun i x ls => lv_has ls 6 [(0, .ref (a 0)), (2, .int (nI jx)), (3, .long (fL jx * (w).toInt64)), (5, .int (nI i))] ∧ (bst (lnA fL fO) (fL jx * (w).toInt64) fO (nI jx) (k - i) i = bst (lnA fL fO) (fL jx * (w).toInt64) fO (nI jx) k 0)) k ?_ 0 () ls (by omega) ⟨lv_sub hl [2, 4, 1, 0] rfl, rfl⟩
  intro i x ls hi hI kk
  obtain ⟨hl, hB⟩ := hI
  refine lv_iload hx hb dX1_bestMeasure_22 (lv_at hl 3 rfl) ?_
  refine lv_aload_n hx hb dX1_bestMeasure_24 rfl (lv_at hl 0 rfl) ?_
  refine va_get (D := D) (ci := 1) (v := .int (nI k)) (C := RX1) (T := TX1) (N := 9) hx hb hts hiX1 hown hK hP 0 rfl rfl 6 (by decide) hw33 (fun _ h9 => h9) rfl dX1_bestMeasure_25 ?_
  refine lv_icmp_ge (tgt := 60) hx hb dX1_bestMeasure_28 (by decide) (fun c_28 => ?_) (fun c_28 => ?_)
  · skip
    simp only [Int32.le_iff_toInt_le] at c_28
    rw [nI_toInt (n := i) (by omega)] at c_28
    rw [nI_toInt (n := k) (by omega)] at c_28
    have e9 : k = i := by omega
    subst e9
    refine lv_iload_n hx hb dX1_bestMeasure_60 rfl (lv_at hl 1 rfl) ?_
    exact W.iret (v := (nI jx)) hx hb hr (fun t9 ht hW => ⟨_, rfl, by rw [← hB, Nat.sub_self]; rfl, ht⟩) (fun q hq => absurd hq List.not_mem_nil) dX1_bestMeasure_61
  · skip
    simp only [Int32.le_iff_toInt_le] at c_28
    rw [nI_toInt (n := i) (by omega)] at c_28
    rw [nI_toInt (n := k) (by omega)] at c_28
    obtain ⟨n9, hn9⟩ : ∃ n9, k - i = n9 + 1 := ⟨k - i - 1, by omega⟩
    rw [hn9] at hB
    refine lv_lload_n hx hb dX1_bestMeasure_31 rfl (lv_at hl 2 rfl) ?_
    refine lv_aload_n hx hb dX1_bestMeasure_32 rfl (lv_at hl 0 rfl) ?_
    refine lv_iload hx hb dX1_bestMeasure_33 (lv_at hl 3 rfl) ?_
    refine ro_lE (va_runV (As := [.int (nI i)]) (rest := [.long (fL jx * (w).toInt64)]) ⟨hx, hb, hml, hown, hts⟩ (c_X1_lengthAt l D cI cJ a k st fi fB fS fO fL c t y fW fD c2 t2 y2 gW gD i (by omega) (hM.at (by omega))) (cwV 1 hts gX1_bestMeasure_X1_lengthAt rfl rfl rfl (by decide +kernel) ⟨Nat.le_of_ble_eq_true rfl, Nat.le_of_ble_eq_true rfl⟩) (preV_ro KM_ok (hP.sub (ws' := [((a 0), .inr (1, [.ref (a 1), .ref (a 2), .ref (a 3), .ref (a 4), .ref (a 5), .ref (a 8), .int (nI k), .int (nI st), .int fi])), ((a 1), .inl (cI, 8, .inl fB)), ((a 2), .inl (cI, 8, .inl fS)), ((a 3), .inl (cJ, 8, .inr (.inl fL))), ((a 4), .inl (cI, 8, .inl fO)), ((a 5), .inr (0, [.ref (a 6), .ref (a 7), .int (nI c), .int t, .int (nI y)])), ((a 6), .inl (cI, 6, .inl fW)), ((a 7), .inl (cI, 6, .inl fD)), ((a 8), .inr (0, [.ref (a 9), .ref (a 10), .int c2, .int t2, .int y2])), ((a 9), .inl (cI, 6, .inl gW)), ((a 10), .inl (cI, 6, .inl gD))]) [0, 1, 2, 3, 4, 5, 6, 7, 8, 9, 10] rfl) hK (va_recv hK hP (ci := 1) (q0 := 0) rfl rfl)) rfl rfl hl.1 rfl (lv_room (Nat.le_of_ble_eq_true rfl)) dX1_bestMeasure_35 ⟨by decide, by decide⟩) ?_
    refine ro_lE (va_runS (As := [.long (fL jx * (w).toInt64), .long (lnA fL fO i)]) (rest := []) ⟨hx, hb, hml, hown, hts⟩ (c_X1_leftOf l (fL jx * (w).toInt64) (lnA fL fO i) (hM.pos (by omega))) (va_cwS 2 hts gX1_bestMeasure_X1_leftOf rfl rfl rfl (by decide +kernel) ⟨Nat.le_of_ble_eq_true rfl, Nat.le_of_ble_eq_true rfl⟩) pre0 rfl rfl hl.1 rfl (lv_room (Nat.le_of_ble_eq_true rfl)) dX1_bestMeasure_38 ⟨by decide, by decide⟩) ?_
    refine lv_lconst (v := 0) hx hb dX1_bestMeasure_41 (by decide) ?_
    refine W.lcmp hx hb dX1_bestMeasure_42 ?_
    refine lv_if_ne (tgt := 54) hx hb dX1_bestMeasure_43 (by decide) (fun c_43 => ?_) (fun c_43 => ?_)
    · skip
      have c_43 := (lgc_ne _ _).mp c_43
      rw [bst, ic_f c_43] at hB
      refine lv_iinc (v := (nI (i + 1))) (lv' := [(5, .int (nI (i + 1))), (0, .ref (a 0)), (2, .int (nI jx)), (3, .long (fL jx * (w).toInt64))]) hx hb dX1_bestMeasure_54 hl (k := 3) rfl (nI_inc i) (by decide) rfl (fun ls hl => ?_)
      refine lv_goto (tgt := 22) hx hb dX1_bestMeasure_57 (by decide) ?_
      exact kk () ls (by omega) ⟨lv_sub hl [1, 2, 3, 0] rfl, by rw [show k - (i + 1) = n9 by omega]; exact hB⟩
    · skip
      have c_43 := (lgc_eq _ _).mp c_43
      rw [bst, ic_t c_43] at hB
      refine lv_aload_n hx hb dX1_bestMeasure_46 rfl (lv_at hl 0 rfl) ?_
      refine va_get (D := D) (ci := 1) (v := .ref (a 4)) (C := RX1) (T := TX1) (N := 9) hx hb hts hiX1 hown hK hP 0 rfl rfl 3 (by decide) hw20 (fun _ h9 => h9) rfl dX1_bestMeasure_47 ?_
      refine lv_iload hx hb dX1_bestMeasure_50 (lv_at hl 3 rfl) ?_
      refine xa_iald hx hb hK hP 4 0 rfl rfl (by omega) (by decide) dX1_bestMeasure_52 ?_
      exact W.iret (v := (fO i)) hx hb hr (fun t9 ht hW => ⟨_, rfl, by exact hB, ht⟩) (fun q hq => absurd hq List.not_mem_nil) dX1_bestMeasure_53

set_option maxHeartbeats 4000000 in
set_option maxRecDepth 100000 in
theorem k_X1_driftOf (l : Launch) (D : va_G) (cI cJ : ClassId) (a : Nat → Nat) (k st : Nat) (fi : Int32) (fB fS fO : Nat → Int32) (fL : Nat → Int64) (c : Nat) (t : Int32) (y : Nat) (fW fD : Nat → Int32) (c2 t2 y2 : Int32) (gW gD : Nat → Int32) (hc : c ≤ 6) (jv : Nat) (hj_v : jv < c) : Met l yX1_driftOf wsX1_driftOf ({ frames := 6, cells := 0, slots := 0, locals := 160 }) (cP D [((a 0), .inr (1, [.ref (a 1), .ref (a 2), .ref (a 3), .ref (a 4), .ref (a 5), .ref (a 8), .int (nI k), .int (nI st), .int fi])), ((a 1), .inl (cI, 8, .inl fB)), ((a 2), .inl (cI, 8, .inl fS)), ((a 3), .inl (cJ, 8, .inr (.inl fL))), ((a 4), .inl (cI, 8, .inl fO)), ((a 5), .inr (0, [.ref (a 6), .ref (a 7), .int (nI c), .int t, .int (nI y)])), ((a 6), .inl (cI, 6, .inl fW)), ((a 7), .inl (cI, 6, .inl fD)), ((a 8), .inr (0, [.ref (a 9), .ref (a 10), .int c2, .int t2, .int y2])), ((a 9), .inl (cI, 6, .inl gW)), ((a 10), .inl (cI, 6, .inl gD))] (KC D cI cJ a) [.ref (a 0), .int (nI jv)]) (roi (fun r => r = fD jv)) 0 0 (fun _ => False) := by
  refine Met.ofW (cc := cX1_driftOf) (maxL := 2) (ret := (some .int)) (by decide +kernel) rfl ?_
  intro p e s m args below meth c9 s₁ B hml hv
  obtain ⟨rfl, hP, hC⟩ := hv
  have hx := B.exec
  have hb := B.bytes
  have hr := B.returns
  have hts := atoms_spec (ws := wsX1_driftOf) B.pre
  have hown : s.vm.findClass RX1 = some m.cls := findClass_of_methodNamed B.named
  have hlocks := B.notSynchronized
  have hK : va_K D vwCl [(cI, .int), (cJ, .long)] s := hC.1
  have hl := lv_entry ([.ref (a 0), .int (nI jv)]) (n := 2) (Nat.le_of_ble_eq_true rfl)
  rw [lg_entry_eq]
  generalize (lg_sl ([.ref (a 0), .int (nI jv)]) ++ List.replicate (2 - (lg_sl ([.ref (a 0), .int (nI jv)])).length) Slot.unset).toArray = ls at hl ⊢
  have hl : lv_has ls 2 [(0, .ref (a 0)), (1, .int (nI jv))] := hl
  have hiX0 : ∀ w ∈ u_ws RX0 TX0 5, w ∈ wsX1_driftOf := by decide +kernel
  have hiX1 : ∀ w ∈ u_ws RX1 TX1 9, w ∈ wsX1_driftOf := by decide +kernel
  have hw26 : (Cond.fieldLink RX1 26 "OldMeasures" "stalls" "LOldMeasures$Stalls;").before ([.ref (a 0), .int (nI jv)] : List Value).toArray s = true := hts _ (by decide +kernel)
  refine lv_aload_n hx hb dX1_driftOf_0 rfl (lv_at hl 0 rfl) ?_
  refine lv_iload_n hx hb dX1_driftOf_1 rfl (lv_at hl 1 rfl) ?_
  refine ro_v (va_runV (As := [.int (nI jv)]) (rest := []) ⟨hx, hb, hml, hown, hts⟩ (k_X1_needStall l D cI cJ a k st fi fB fS fO fL c t y fW fD c2 t2 y2 gW gD hc jv (by omega)) (cwV 1 hts gX1_driftOf_X1_needStall rfl rfl rfl (by decide +kernel) ⟨Nat.le_of_ble_eq_true rfl, Nat.le_of_ble_eq_true rfl⟩) (preV_ro KC_ok hP hC (va_recv hK hP (ci := 1) (q0 := 0) rfl rfl)) rfl rfl hl.1 rfl (lv_room (Nat.le_of_ble_eq_true rfl)) dX1_driftOf_2 ⟨by decide, by decide⟩) (fun _ => ?_)
  refine lv_aload_n hx hb dX1_driftOf_5 rfl (lv_at hl 0 rfl) ?_
  refine va_get (D := D) (ci := 1) (v := .ref (a 5)) (C := RX1) (T := TX1) (N := 9) hx hb hts hiX1 hown hK hP 0 rfl rfl 4 (by decide) hw26 (fun _ h9 => h9) rfl dX1_driftOf_6 ?_
  refine va_getN (host := RX1) (D := D) (ci := 0) (v := .ref (a 7)) (C := RX0) (T := TX0) (N := 5) hx hb hts hiX0 hown hK hP 5 rfl rfl 1 (by decide) (va_Nw.use rfl hC.2.1.2.2.1) (fun _ h9 => h9) rfl dX1_driftOf_9 ?_
  refine lv_iload_n hx hb dX1_driftOf_12 rfl (lv_at hl 1 rfl) ?_
  refine xa_iald hx hb hK hP 7 0 rfl rfl (by omega) (by decide) dX1_driftOf_13 ?_
  exact W.iret (v := (fD jv)) hx hb hr (fun t9 ht hW => ⟨_, rfl, rfl, ht⟩) (fun q hq => absurd hq List.not_mem_nil) dX1_driftOf_14

set_option maxHeartbeats 4000000 in
set_option maxRecDepth 100000 in
theorem k_X1_wearOf (l : Launch) (D : va_G) (cI cJ : ClassId) (a : Nat → Nat) (k st : Nat) (fi : Int32) (fB fS fO : Nat → Int32) (fL : Nat → Int64) (c : Nat) (t : Int32) (y : Nat) (fW fD : Nat → Int32) (c2 t2 y2 : Int32) (gW gD : Nat → Int32) (hc : c ≤ 6) (jv : Nat) (hj_v : jv < c) : Met l yX1_wearOf wsX1_wearOf ({ frames := 6, cells := 0, slots := 0, locals := 160 }) (cP D [((a 0), .inr (1, [.ref (a 1), .ref (a 2), .ref (a 3), .ref (a 4), .ref (a 5), .ref (a 8), .int (nI k), .int (nI st), .int fi])), ((a 1), .inl (cI, 8, .inl fB)), ((a 2), .inl (cI, 8, .inl fS)), ((a 3), .inl (cJ, 8, .inr (.inl fL))), ((a 4), .inl (cI, 8, .inl fO)), ((a 5), .inr (0, [.ref (a 6), .ref (a 7), .int (nI c), .int t, .int (nI y)])), ((a 6), .inl (cI, 6, .inl fW)), ((a 7), .inl (cI, 6, .inl fD)), ((a 8), .inr (0, [.ref (a 9), .ref (a 10), .int c2, .int t2, .int y2])), ((a 9), .inl (cI, 6, .inl gW)), ((a 10), .inl (cI, 6, .inl gD))] (KC D cI cJ a) [.ref (a 0), .int (nI jv)]) (roi (fun r => r = fW jv)) 0 0 (fun _ => False) := by
  refine Met.ofW (cc := cX1_wearOf) (maxL := 2) (ret := (some .int)) (by decide +kernel) rfl ?_
  intro p e s m args below meth c9 s₁ B hml hv
  obtain ⟨rfl, hP, hC⟩ := hv
  have hx := B.exec
  have hb := B.bytes
  have hr := B.returns
  have hts := atoms_spec (ws := wsX1_wearOf) B.pre
  have hown : s.vm.findClass RX1 = some m.cls := findClass_of_methodNamed B.named
  have hlocks := B.notSynchronized
  have hK : va_K D vwCl [(cI, .int), (cJ, .long)] s := hC.1
  have hl := lv_entry ([.ref (a 0), .int (nI jv)]) (n := 2) (Nat.le_of_ble_eq_true rfl)
  rw [lg_entry_eq]
  generalize (lg_sl ([.ref (a 0), .int (nI jv)]) ++ List.replicate (2 - (lg_sl ([.ref (a 0), .int (nI jv)])).length) Slot.unset).toArray = ls at hl ⊢
  have hl : lv_has ls 2 [(0, .ref (a 0)), (1, .int (nI jv))] := hl
  have hiX0 : ∀ w ∈ u_ws RX0 TX0 5, w ∈ wsX1_wearOf := by decide +kernel
  have hiX1 : ∀ w ∈ u_ws RX1 TX1 9, w ∈ wsX1_wearOf := by decide +kernel
  have hw26 : (Cond.fieldLink RX1 26 "OldMeasures" "stalls" "LOldMeasures$Stalls;").before ([.ref (a 0), .int (nI jv)] : List Value).toArray s = true := hts _ (by decide +kernel)
  refine lv_aload_n hx hb dX1_wearOf_0 rfl (lv_at hl 0 rfl) ?_
  refine lv_iload_n hx hb dX1_wearOf_1 rfl (lv_at hl 1 rfl) ?_
  refine ro_v (va_runV (As := [.int (nI jv)]) (rest := []) ⟨hx, hb, hml, hown, hts⟩ (k_X1_needStall l D cI cJ a k st fi fB fS fO fL c t y fW fD c2 t2 y2 gW gD hc jv (by omega)) (cwV 1 hts gX1_wearOf_X1_needStall rfl rfl rfl (by decide +kernel) ⟨Nat.le_of_ble_eq_true rfl, Nat.le_of_ble_eq_true rfl⟩) (preV_ro KC_ok hP hC (va_recv hK hP (ci := 1) (q0 := 0) rfl rfl)) rfl rfl hl.1 rfl (lv_room (Nat.le_of_ble_eq_true rfl)) dX1_wearOf_2 ⟨by decide, by decide⟩) (fun _ => ?_)
  refine lv_aload_n hx hb dX1_wearOf_5 rfl (lv_at hl 0 rfl) ?_
  refine va_get (D := D) (ci := 1) (v := .ref (a 5)) (C := RX1) (T := TX1) (N := 9) hx hb hts hiX1 hown hK hP 0 rfl rfl 4 (by decide) hw26 (fun _ h9 => h9) rfl dX1_wearOf_6 ?_
  refine va_getN (host := RX1) (D := D) (ci := 0) (v := .ref (a 6)) (C := RX0) (T := TX0) (N := 5) hx hb hts hiX0 hown hK hP 5 rfl rfl 0 (by decide) (va_Nw.use rfl hC.2.1.2.1) (fun _ h9 => h9) rfl dX1_wearOf_9 ?_
  refine lv_iload_n hx hb dX1_wearOf_12 rfl (lv_at hl 1 rfl) ?_
  refine xa_iald hx hb hK hP 6 0 rfl rfl (by omega) (by decide) dX1_wearOf_13 ?_
  exact W.iret (v := (fW jv)) hx hb hr (fun t9 ht hW => ⟨_, rfl, rfl, ht⟩) (fun q hq => absurd hq List.not_mem_nil) dX1_wearOf_14

set_option maxHeartbeats 4000000 in
set_option maxRecDepth 100000 in
theorem k_X1_isHonest (l : Launch) (D : va_G) (cI cJ : ClassId) (a : Nat → Nat) (k st : Nat) (fi : Int32) (fB fS fO : Nat → Int32) (fL : Nat → Int64) (c : Nat) (t : Int32) (y : Nat) (fW fD : Nat → Int32) (c2 t2 y2 : Int32) (gW gD : Nat → Int32) (hc : c ≤ 6) (jv : Nat) (hj_v : jv < c) : Met l yX1_isHonest wsX1_isHonest ({ frames := 6, cells := 0, slots := 0, locals := 160 }) (cP D [((a 0), .inr (1, [.ref (a 1), .ref (a 2), .ref (a 3), .ref (a 4), .ref (a 5), .ref (a 8), .int (nI k), .int (nI st), .int fi])), ((a 1), .inl (cI, 8, .inl fB)), ((a 2), .inl (cI, 8, .inl fS)), ((a 3), .inl (cJ, 8, .inr (.inl fL))), ((a 4), .inl (cI, 8, .inl fO)), ((a 5), .inr (0, [.ref (a 6), .ref (a 7), .int (nI c), .int t, .int (nI y)])), ((a 6), .inl (cI, 6, .inl fW)), ((a 7), .inl (cI, 6, .inl fD)), ((a 8), .inr (0, [.ref (a 9), .ref (a 10), .int c2, .int t2, .int y2])), ((a 9), .inl (cI, 6, .inl gW)), ((a 10), .inl (cI, 6, .inl gD))] (KC D cI cJ a) [.ref (a 0), .int (nI jv)]) (roi (fun r => r = bz ((absI (fD jv)).toInt ≤ t.toInt))) 0 0 (fun _ => False) := by
  refine Met.ofW (cc := cX1_isHonest) (maxL := 2) (ret := (some .boolean)) (by decide +kernel) rfl ?_
  intro p e s m args below meth c9 s₁ B hml hv
  obtain ⟨rfl, hP, hC⟩ := hv
  have hx := B.exec
  have hb := B.bytes
  have hr := B.returns
  have hts := atoms_spec (ws := wsX1_isHonest) B.pre
  have hown : s.vm.findClass RX1 = some m.cls := findClass_of_methodNamed B.named
  have hlocks := B.notSynchronized
  have hK : va_K D vwCl [(cI, .int), (cJ, .long)] s := hC.1
  have hl := lv_entry ([.ref (a 0), .int (nI jv)]) (n := 2) (Nat.le_of_ble_eq_true rfl)
  rw [lg_entry_eq]
  generalize (lg_sl ([.ref (a 0), .int (nI jv)]) ++ List.replicate (2 - (lg_sl ([.ref (a 0), .int (nI jv)])).length) Slot.unset).toArray = ls at hl ⊢
  have hl : lv_has ls 2 [(0, .ref (a 0)), (1, .int (nI jv))] := hl
  have hiX0 : ∀ w ∈ u_ws RX0 TX0 5, w ∈ wsX1_isHonest := by decide +kernel
  have hiX1 : ∀ w ∈ u_ws RX1 TX1 9, w ∈ wsX1_isHonest := by decide +kernel
  have hw26 : (Cond.fieldLink RX1 26 "OldMeasures" "stalls" "LOldMeasures$Stalls;").before ([.ref (a 0), .int (nI jv)] : List Value).toArray s = true := hts _ (by decide +kernel)
  refine lv_aload_n hx hb dX1_isHonest_0 rfl (lv_at hl 0 rfl) ?_
  refine lv_iload_n hx hb dX1_isHonest_1 rfl (lv_at hl 1 rfl) ?_
  refine ro_v (va_runV (As := [.int (nI jv)]) (rest := []) ⟨hx, hb, hml, hown, hts⟩ (k_X1_needStall l D cI cJ a k st fi fB fS fO fL c t y fW fD c2 t2 y2 gW gD hc jv (by omega)) (cwV 1 hts gX1_isHonest_X1_needStall rfl rfl rfl (by decide +kernel) ⟨Nat.le_of_ble_eq_true rfl, Nat.le_of_ble_eq_true rfl⟩) (preV_ro KC_ok hP hC (va_recv hK hP (ci := 1) (q0 := 0) rfl rfl)) rfl rfl hl.1 rfl (lv_room (Nat.le_of_ble_eq_true rfl)) dX1_isHonest_2 ⟨by decide, by decide⟩) (fun _ => ?_)
  refine lv_aload_n hx hb dX1_isHonest_5 rfl (lv_at hl 0 rfl) ?_
  refine va_get (D := D) (ci := 1) (v := .ref (a 5)) (C := RX1) (T := TX1) (N := 9) hx hb hts hiX1 hown hK hP 0 rfl rfl 4 (by decide) hw26 (fun _ h9 => h9) rfl dX1_isHonest_6 ?_
  refine lv_aload_n hx hb dX1_isHonest_9 rfl (lv_at hl 0 rfl) ?_
  refine va_get (D := D) (ci := 1) (v := .ref (a 5)) (C := RX1) (T := TX1) (N := 9) hx hb hts hiX1 hown hK hP 0 rfl rfl 4 (by decide) hw26 (fun _ h9 => h9) rfl dX1_isHonest_10 ?_
  refine va_getN (host := RX1) (D := D) (ci := 0) (v := .ref (a 7)) (C := RX0) (T := TX0) (N := 5) hx hb hts hiX0 hown hK hP 5 rfl rfl 1 (by decide) (va_Nw.use rfl hC.2.1.2.2.1) (fun _ h9 => h9) rfl dX1_isHonest_13 ?_
  refine lv_iload_n hx hb dX1_isHonest_16 rfl (lv_at hl 1 rfl) ?_
  refine xa_iald hx hb hK hP 7 0 rfl rfl (by omega) (by decide) dX1_isHonest_17 ?_
  refine ro_iE (va_runVN (As := [.int (fD jv)]) (rest := []) ⟨hx, hb, hml, hown, hts⟩ (c_X0_isTolerated l D cI cJ (a 5) (a 6) (a 7) c t y fW fD (fD jv)) ⟨va_cnB (host := RX1) 1 hts ggX1_isHonest_X0_isTolerated rfl rfl rfl hC.2.1.2.2.2.2.2.2.2.1 (hts (.initialized RX0) (by decide +kernel)) (by decide +kernel) ⟨Nat.le_of_ble_eq_true rfl, Nat.le_of_ble_eq_true rfl⟩, hts (.instanceMethod yX0_isTolerated) (by decide +kernel), hts (.selects RX0 yX0_isTolerated yX0_isTolerated) (by decide +kernel)⟩ (preV_ro KM_ok (hP.sub (ws' := [((a 5), .inr (0, [.ref (a 6), .ref (a 7), .int (nI c), .int t, .int (nI y)])), ((a 6), .inl (cI, 6, .inl fW)), ((a 7), .inl (cI, 6, .inl fD))]) [5, 6, 7] rfl) hK (va_recv hK hP (ci := 0) (q0 := 5) rfl rfl)) rfl rfl hl.1 rfl (lv_room (Nat.le_of_ble_eq_true rfl)) dX1_isHonest_18 ⟨by decide, by decide⟩) ?_
  exact W.zret (v := (bz ((absI (fD jv)).toInt ≤ t.toInt))) hx hb hr (bz_nar _) (fun t9 ht hW => ⟨_, rfl, rfl, ht⟩) (fun q hq => absurd hq List.not_mem_nil) dX1_isHonest_21

set_option maxHeartbeats 4000000 in
set_option maxRecDepth 100000 in
theorem k_X1_getsAt (l : Launch) (D : va_G) (cI cJ : ClassId) (a : Nat → Nat) (k st : Nat) (fi : Int32) (fB fS fO : Nat → Int32) (fL : Nat → Int64) (c : Nat) (t : Int32) (y : Nat) (fW fD : Nat → Int32) (c2 t2 y2 : Int32) (gW gD : Nat → Int32) (hM : MOk k fL fO) (hst2 : st < k) (hc : c ≤ 6) (jv : Nat) (hj_v : jv < c) (w : Int32) (hw9 : inR 1 200 w) (jx : Nat) (hj_x : jx < k) : Met l yX1_getsAt wsX1_getsAt ({ frames := 6, cells := 0, slots := 0, locals := 160 }) (cP D [((a 0), .inr (1, [.ref (a 1), .ref (a 2), .ref (a 3), .ref (a 4), .ref (a 5), .ref (a 8), .int (nI k), .int (nI st), .int fi])), ((a 1), .inl (cI, 8, .inl fB)), ((a 2), .inl (cI, 8, .inl fS)), ((a 3), .inl (cJ, 8, .inr (.inl fL))), ((a 4), .inl (cI, 8, .inl fO)), ((a 5), .inr (0, [.ref (a 6), .ref (a 7), .int (nI c), .int t, .int (nI y)])), ((a 6), .inl (cI, 6, .inl fW)), ((a 7), .inl (cI, 6, .inl fD)), ((a 8), .inr (0, [.ref (a 9), .ref (a 10), .int c2, .int t2, .int y2])), ((a 9), .inl (cI, 6, .inl gW)), ((a 10), .inl (cI, 6, .inl gD))] (KC D cI cJ a) [.ref (a 0), .int (nI jv), .int w, .int (nI jx)]) (rol (fun r => r = gvn (fL jx) (fL st) w (fD jv))) 0 0 (fun _ => False) := by
  refine Met.ofW (cc := cX1_getsAt) (maxL := 4) (ret := (some .long)) (by decide +kernel) rfl ?_
  intro p e s m args below meth c9 s₁ B hml hv
  obtain ⟨rfl, hP, hC⟩ := hv
  have hx := B.exec
  have hb := B.bytes
  have hr := B.returns
  have hts := atoms_spec (ws := wsX1_getsAt) B.pre
  have hown : s.vm.findClass RX1 = some m.cls := findClass_of_methodNamed B.named
  have hlocks := B.notSynchronized
  have hK : va_K D vwCl [(cI, .int), (cJ, .long)] s := hC.1
  have hl := lv_entry ([.ref (a 0), .int (nI jv), .int w, .int (nI jx)]) (n := 4) (Nat.le_of_ble_eq_true rfl)
  rw [lg_entry_eq]
  generalize (lg_sl ([.ref (a 0), .int (nI jv), .int w, .int (nI jx)]) ++ List.replicate (4 - (lg_sl ([.ref (a 0), .int (nI jv), .int w, .int (nI jx)])).length) Slot.unset).toArray = ls at hl ⊢
  have hl : lv_has ls 4 [(0, .ref (a 0)), (1, .int (nI jv)), (2, .int w), (3, .int (nI jx))] := hl
  have hk8 : k ≤ 8 := hM.2.1
  have hk1 : 1 ≤ k := hM.1
  have hiX0 : ∀ w ∈ u_ws RX0 TX0 5, w ∈ wsX1_getsAt := by decide +kernel
  have hiX1 : ∀ w ∈ u_ws RX1 TX1 9, w ∈ wsX1_getsAt := by decide +kernel
  have hw26 : (Cond.fieldLink RX1 26 "OldMeasures" "stalls" "LOldMeasures$Stalls;").before ([.ref (a 0), .int (nI jv), .int w, .int (nI jx)] : List Value).toArray s = true := hts _ (by decide +kernel)
  refine lv_aload_n hx hb dX1_getsAt_0 rfl (lv_at hl 0 rfl) ?_
  refine lv_iload_n hx hb dX1_getsAt_1 rfl (lv_at hl 1 rfl) ?_
  refine ro_v (va_runV (As := [.int (nI jv)]) (rest := []) ⟨hx, hb, hml, hown, hts⟩ (k_X1_needStall l D cI cJ a k st fi fB fS fO fL c t y fW fD c2 t2 y2 gW gD hc jv (by omega)) (cwV 1 hts gX1_getsAt_X1_needStall rfl rfl rfl (by decide +kernel) ⟨Nat.le_of_ble_eq_true rfl, Nat.le_of_ble_eq_true rfl⟩) (preV_ro KC_ok hP hC (va_recv hK hP (ci := 1) (q0 := 0) rfl rfl)) rfl rfl hl.1 rfl (lv_room (Nat.le_of_ble_eq_true rfl)) dX1_getsAt_2 ⟨by decide, by decide⟩) (fun _ => ?_)
  refine lv_aload_n hx hb dX1_getsAt_5 rfl (lv_at hl 0 rfl) ?_
  refine lv_iload_n hx hb dX1_getsAt_6 rfl (lv_at hl 3 rfl) ?_
  refine ro_v (va_runV (As := [.int (nI jx)]) (rest := []) ⟨hx, hb, hml, hown, hts⟩ (k_X1_needMeasure l D cI cJ a k st fi fB fS fO fL c t y fW fD c2 t2 y2 gW gD hk8 jx (by omega)) (cwV 1 hts gX1_getsAt_X1_needMeasure rfl rfl rfl (by decide +kernel) ⟨Nat.le_of_ble_eq_true rfl, Nat.le_of_ble_eq_true rfl⟩) (preV_ro KC_ok hP hC (va_recv hK hP (ci := 1) (q0 := 0) rfl rfl)) rfl rfl hl.1 rfl (lv_room (Nat.le_of_ble_eq_true rfl)) dX1_getsAt_7 ⟨by decide, by decide⟩) (fun _ => ?_)
  refine lv_iload_n hx hb dX1_getsAt_10 rfl (lv_at hl 2 rfl) ?_
  refine ro_v (va_runS (As := [.int w]) (rest := []) ⟨hx, hb, hml, hown, hts⟩ (k_X1_needMany l D cI cJ a w hw9) (va_cwS 1 hts gX1_getsAt_X1_needMany rfl rfl rfl (by decide +kernel) ⟨Nat.le_of_ble_eq_true rfl, Nat.le_of_ble_eq_true rfl⟩) (preS_ro KC_ok (hP.sub (ws' := []) [] rfl) hC) rfl rfl hl.1 rfl (lv_room (Nat.le_of_ble_eq_true rfl)) dX1_getsAt_11 ⟨by decide, by decide⟩) (fun _ => ?_)
  refine lv_aload_n hx hb dX1_getsAt_14 rfl (lv_at hl 0 rfl) ?_
  refine lv_aload_n hx hb dX1_getsAt_15 rfl (lv_at hl 0 rfl) ?_
  refine va_get (D := D) (ci := 1) (v := .ref (a 5)) (C := RX1) (T := TX1) (N := 9) hx hb hts hiX1 hown hK hP 0 rfl rfl 4 (by decide) hw26 (fun _ h9 => h9) rfl dX1_getsAt_16 ?_
  refine va_getN (host := RX1) (D := D) (ci := 0) (v := .ref (a 7)) (C := RX0) (T := TX0) (N := 5) hx hb hts hiX0 hown hK hP 5 rfl rfl 1 (by decide) (va_Nw.use rfl hC.2.1.2.2.1) (fun _ h9 => h9) rfl dX1_getsAt_19 ?_
  refine lv_iload_n hx hb dX1_getsAt_22 rfl (lv_at hl 1 rfl) ?_
  refine xa_iald hx hb hK hP 7 0 rfl rfl (by omega) (by decide) dX1_getsAt_23 ?_
  refine lv_iload_n hx hb dX1_getsAt_24 rfl (lv_at hl 2 rfl) ?_
  refine lv_iload_n hx hb dX1_getsAt_25 rfl (lv_at hl 3 rfl) ?_
  refine ro_lE (va_runV (As := [.int (fD jv), .int w, .int (nI jx)]) (rest := []) ⟨hx, hb, hml, hown, hts⟩ (c_X1_givenWith l D cI cJ a k st fi fB fS fO fL c t y fW fD c2 t2 y2 gW gD hM hst2 (fD jv) w jx (by omega)) (cwV 3 hts gX1_getsAt_X1_givenWith rfl rfl rfl (by decide +kernel) ⟨Nat.le_of_ble_eq_true rfl, Nat.le_of_ble_eq_true rfl⟩) (preV_ro KC_ok (hP.sub (ws' := [((a 0), .inr (1, [.ref (a 1), .ref (a 2), .ref (a 3), .ref (a 4), .ref (a 5), .ref (a 8), .int (nI k), .int (nI st), .int fi])), ((a 1), .inl (cI, 8, .inl fB)), ((a 2), .inl (cI, 8, .inl fS)), ((a 3), .inl (cJ, 8, .inr (.inl fL))), ((a 4), .inl (cI, 8, .inl fO)), ((a 5), .inr (0, [.ref (a 6), .ref (a 7), .int (nI c), .int t, .int (nI y)])), ((a 6), .inl (cI, 6, .inl fW)), ((a 7), .inl (cI, 6, .inl fD)), ((a 8), .inr (0, [.ref (a 9), .ref (a 10), .int c2, .int t2, .int y2])), ((a 9), .inl (cI, 6, .inl gW)), ((a 10), .inl (cI, 6, .inl gD))]) [0, 1, 2, 3, 4, 5, 6, 7, 8, 9, 10] rfl) hC (va_recv hK hP (ci := 1) (q0 := 0) rfl rfl)) rfl rfl hl.1 rfl (lv_room (Nat.le_of_ble_eq_true rfl)) dX1_getsAt_26 ⟨by decide, by decide⟩) ?_
  exact W.lret (v := (gvn (fL jx) (fL st) w (fD jv))) hx hb hr (fun t9 ht hW => ⟨_, rfl, rfl, ht⟩) (fun q hq => absurd hq List.not_mem_nil) dX1_getsAt_29

set_option maxHeartbeats 4000000 in
set_option maxRecDepth 100000 in
theorem k_X1_daysUntilFined (l : Launch) (D : va_G) (cI cJ : ClassId) (sz : Nat) (a : Nat → Nat) (k st : Nat) (fi : Int32) (fB fS fO : Nat → Int32) (fL : Nat → Int64) (c : Nat) (t : Int32) (y : Nat) (fW fD : Nat → Int32) (c2 t2 y2 : Int32) (gW gD : Nat → Int32) (hc : c ≤ 6) (hy : y < 2 ^ 27) (ht0 : 0 ≤ t.toInt) (jv : Nat) (hj_v : jv < c) : Met l yX1_daysUntilFined wsX1_daysUntilFined ({ frames := 6, cells := 0, slots := 0, locals := 160 }) (cPw D [((a 0), .inr (1, [.ref (a 1), .ref (a 2), .ref (a 3), .ref (a 4), .ref (a 5), .ref (a 8), .int (nI k), .int (nI st), .int fi])), ((a 1), .inl (cI, 8, .inl fB)), ((a 2), .inl (cI, 8, .inl fS)), ((a 3), .inl (cJ, 8, .inr (.inl fL))), ((a 4), .inl (cI, 8, .inl fO)), ((a 5), .inr (0, [.ref (a 6), .ref (a 7), .int (nI c), .int t, .int (nI y)])), ((a 6), .inl (cI, 6, .inl fW)), ((a 7), .inl (cI, 6, .inl fD)), ((a 8), .inr (0, [.ref (a 9), .ref (a 10), .int c2, .int t2, .int y2])), ((a 9), .inl (cI, 6, .inl gW)), ((a 10), .inl (cI, 6, .inl gD))] sz (KC D cI cJ a) [.ref (a 0), .int (nI jv)]) (wri D [((a 0), .inr (1, [.ref (a 1), .ref (a 2), .ref (a 3), .ref (a 4), .ref (a 5), .ref (a 8), .int (nI k), .int (nI st), .int fi])), ((a 1), .inl (cI, 8, .inl fB)), ((a 2), .inl (cI, 8, .inl fS)), ((a 3), .inl (cJ, 8, .inr (.inl fL))), ((a 4), .inl (cI, 8, .inl fO)), ((a 5), .inr (0, [.ref (a 6), .ref (a 7), .int (nI c), .int t, .int (nI y)])), ((a 6), .inl (cI, 6, .inl fW)), ((a 7), .inl (cI, 6, .inl fD)), ((a 8), .inr (0, [.ref (a 9), .ref (a 10), .int c2, .int t2, .int y2])), ((a 9), .inl (cI, 6, .inl gW)), ((a 10), .inl (cI, 6, .inl gD))] sz (fun r ws' => r = duF c t y fW fD jv 60 0 ∧ ∃ (c2 t2 y2 : Int32) (gW gD : Nat → Int32), ws' = [((a 0), .inr (1, [.ref (a 1), .ref (a 2), .ref (a 3), .ref (a 4), .ref (a 5), .ref (a 8), .int (nI k), .int (nI st), .int fi])), ((a 1), .inl (cI, 8, .inl fB)), ((a 2), .inl (cI, 8, .inl fS)), ((a 3), .inl (cJ, 8, .inr (.inl fL))), ((a 4), .inl (cI, 8, .inl fO)), ((a 5), .inr (0, [.ref (a 6), .ref (a 7), .int (nI c), .int t, .int (nI y)])), ((a 6), .inl (cI, 6, .inl fW)), ((a 7), .inl (cI, 6, .inl fD)), ((a 8), .inr (0, [.ref (a 9), .ref (a 10), .int c2, .int t2, .int y2])), ((a 9), .inl (cI, 6, .inl gW)), ((a 10), .inl (cI, 6, .inl gD))])) 0 0 (va_A [((a 0), .inr (1, [.ref (a 1), .ref (a 2), .ref (a 3), .ref (a 4), .ref (a 5), .ref (a 8), .int (nI k), .int (nI st), .int fi])), ((a 1), .inl (cI, 8, .inl fB)), ((a 2), .inl (cI, 8, .inl fS)), ((a 3), .inl (cJ, 8, .inr (.inl fL))), ((a 4), .inl (cI, 8, .inl fO)), ((a 5), .inr (0, [.ref (a 6), .ref (a 7), .int (nI c), .int t, .int (nI y)])), ((a 6), .inl (cI, 6, .inl fW)), ((a 7), .inl (cI, 6, .inl fD)), ((a 8), .inr (0, [.ref (a 9), .ref (a 10), .int c2, .int t2, .int y2])), ((a 9), .inl (cI, 6, .inl gW)), ((a 10), .inl (cI, 6, .inl gD))] sz) := by
  refine Met.ofW (cc := cX1_daysUntilFined) (maxL := 5) (ret := (some .int)) (by decide +kernel) rfl ?_
  intro p e s m args below meth c9 s₁ B hml hv
  obtain ⟨rfl, hsz, hP, hD0, hC⟩ := hv
  have hx := B.exec
  have hb := B.bytes
  have hr := B.returns
  have hts := atoms_spec (ws := wsX1_daysUntilFined) B.pre
  have hown : s.vm.findClass RX1 = some m.cls := findClass_of_methodNamed B.named
  have hlocks := B.notSynchronized
  have hK : va_K D vwCl [(cI, .int), (cJ, .long)] s := hC.1
  subst hsz
  unfold wri wB
  have hD := hD0.self (sz := s.heap.size)
  have hAw : ∀ q, q < s.heap.size → va_A [((a 0), .inr (1, [.ref (a 1), .ref (a 2), .ref (a 3), .ref (a 4), .ref (a 5), .ref (a 8), .int (nI k), .int (nI st), .int fi])), ((a 1), .inl (cI, 8, .inl fB)), ((a 2), .inl (cI, 8, .inl fS)), ((a 3), .inl (cJ, 8, .inr (.inl fL))), ((a 4), .inl (cI, 8, .inl fO)), ((a 5), .inr (0, [.ref (a 6), .ref (a 7), .int (nI c), .int t, .int (nI y)])), ((a 6), .inl (cI, 6, .inl fW)), ((a 7), .inl (cI, 6, .inl fD)), ((a 8), .inr (0, [.ref (a 9), .ref (a 10), .int c2, .int t2, .int y2])), ((a 9), .inl (cI, 6, .inl gW)), ((a 10), .inl (cI, 6, .inl gD))] s.heap.size q → Aw a q := fun q h1 h2 => aw_of rfl h1 h2
  generalize hAe : va_A [((a 0), .inr (1, [.ref (a 1), .ref (a 2), .ref (a 3), .ref (a 4), .ref (a 5), .ref (a 8), .int (nI k), .int (nI st), .int fi])), ((a 1), .inl (cI, 8, .inl fB)), ((a 2), .inl (cI, 8, .inl fS)), ((a 3), .inl (cJ, 8, .inr (.inl fL))), ((a 4), .inl (cI, 8, .inl fO)), ((a 5), .inr (0, [.ref (a 6), .ref (a 7), .int (nI c), .int t, .int (nI y)])), ((a 6), .inl (cI, 6, .inl fW)), ((a 7), .inl (cI, 6, .inl fD)), ((a 8), .inr (0, [.ref (a 9), .ref (a 10), .int c2, .int t2, .int y2])), ((a 9), .inl (cI, 6, .inl gW)), ((a 10), .inl (cI, 6, .inl gD))] s.heap.size = A at hD hAw ⊢
  have hA : ∀ q : Nat, s.heap.size ≤ q → A q := fun q h => by rw [← hAe]; exact Or.inr h
  have hS : va_S A s.heap s.heap [] := va_S.rf
  have hl := lv_entry ([.ref (a 0), .int (nI jv)]) (n := 5) (Nat.le_of_ble_eq_true rfl)
  rw [lg_entry_eq]
  generalize (lg_sl ([.ref (a 0), .int (nI jv)]) ++ List.replicate (5 - (lg_sl ([.ref (a 0), .int (nI jv)])).length) Slot.unset).toArray = ls at hl ⊢
  have hl : lv_has ls 5 [(0, .ref (a 0)), (1, .int (nI jv))] := hl
  have hiX1 : ∀ w ∈ u_ws RX1 TX1 9, w ∈ wsX1_daysUntilFined := by decide +kernel
  have hw26 : (Cond.fieldLink RX1 26 "OldMeasures" "stalls" "LOldMeasures$Stalls;").before ([.ref (a 0), .int (nI jv)] : List Value).toArray s = true := hts _ (by decide +kernel)
  have hw30 : (Cond.fieldLink RX1 30 "OldMeasures" "trial" "LOldMeasures$Stalls;").before ([.ref (a 0), .int (nI jv)] : List Value).toArray s = true := hts _ (by decide +kernel)
  refine lv_aload_n hx hb dX1_daysUntilFined_0 rfl (lv_at hl 0 rfl) ?_
  refine lv_iload_n hx hb dX1_daysUntilFined_1 rfl (lv_at hl 1 rfl) ?_
  refine ro_v (va_runV (As := [.int (nI jv)]) (rest := []) ⟨hx, hb, hml, hown, hts⟩ (k_X1_needStall l D cI cJ a k st fi fB fS fO fL c t y fW fD c2 t2 y2 gW gD hc jv (by omega)) (cwV 1 hts gX1_daysUntilFined_X1_needStall rfl rfl rfl (by decide +kernel) ⟨Nat.le_of_ble_eq_true rfl, Nat.le_of_ble_eq_true rfl⟩) (preV_ro KC_ok hP hC (va_recv hK hP (ci := 1) (q0 := 0) rfl rfl)) rfl rfl hl.1 rfl (lv_room (Nat.le_of_ble_eq_true rfl)) dX1_daysUntilFined_2 ⟨by decide, by decide⟩) (fun _ => ?_)
  refine lv_aload_n hx hb dX1_daysUntilFined_5 rfl (lv_at hl 0 rfl) ?_
  refine va_get (D := D) (ci := 1) (v := .ref (a 8)) (C := RX1) (T := TX1) (N := 9) hx hb hts hiX1 hown hK hP 0 rfl rfl 5 (by decide) hw30 (fun _ h9 => h9) rfl dX1_daysUntilFined_6 ?_
  refine lv_aload_n hx hb dX1_daysUntilFined_9 rfl (lv_at hl 0 rfl) ?_
  refine va_get (D := D) (ci := 1) (v := .ref (a 5)) (C := RX1) (T := TX1) (N := 9) hx hb hts hiX1 hown hK hP 0 rfl rfl 4 (by decide) hw26 (fun _ h9 => h9) rfl dX1_daysUntilFined_10 ?_
  have hFc := va_free (wc := [((a 8), .inr (0, [.ref (a 9), .ref (a 10), .int c2, .int t2, .int y2])), ((a 9), .inl (cI, 6, .inl gW)), ((a 10), .inl (cI, 6, .inl gD)), ((a 5), .inr (0, [.ref (a 6), .ref (a 7), .int (nI c), .int t, .int (nI y)])), ((a 6), .inl (cI, 6, .inl fW)), ((a 7), .inl (cI, 6, .inl fD))]) hD hS hA [8, 9, 10, 5, 6, 7] rfl
  refine va_callv (va_runVN (As := [.ref (a 5)]) (rest := []) ⟨hx, hb, hml, hown, hts⟩ (c_X0_become l D cI cJ s.heap.size (a 8) (a 9) (a 10) c2 t2 y2 gW gD (a 5) (a 6) (a 7) c t y fW fD) ⟨va_cnB (host := RX1) 1 hts ggX1_daysUntilFined_X0_become rfl rfl rfl hC.2.1.2.2.2.2.2.2.2.2.1 (hts (.initialized RX0) (by decide +kernel)) (by decide +kernel) ⟨Nat.le_of_ble_eq_true rfl, Nat.le_of_ble_eq_true rfl⟩, hts (.instanceMethod yX0_become) (by decide +kernel), hts (.selects RX0 yX0_become yX0_become) (by decide +kernel)⟩ (preV_wr KM_ok (hP.sub (ws' := [((a 8), .inr (0, [.ref (a 9), .ref (a 10), .int c2, .int t2, .int y2])), ((a 9), .inl (cI, 6, .inl gW)), ((a 10), .inl (cI, 6, .inl gD)), ((a 5), .inr (0, [.ref (a 6), .ref (a 7), .int (nI c), .int t, .int (nI y)])), ((a 6), .inl (cI, 6, .inl fW)), ((a 7), .inl (cI, 6, .inl fD))]) [8, 9, 10, 5, 6, 7] rfl) (hD.sub (ws' := [((a 8), .inr (0, [.ref (a 9), .ref (a 10), .int c2, .int t2, .int y2])), ((a 9), .inl (cI, 6, .inl gW)), ((a 10), .inl (cI, 6, .inl gD)), ((a 5), .inr (0, [.ref (a 6), .ref (a 7), .int (nI c), .int t, .int (nI y)])), ((a 6), .inl (cI, 6, .inl fW)), ((a 7), .inl (cI, 6, .inl fD))]) [8, 9, 10, 5, 6, 7] (by decide) rfl) hK (va_recv hK hP (ci := 0) (q0 := 8) rfl rfl)) rfl rfl hl.1 rfl (lv_room (Nat.le_of_ble_eq_true rfl)) dX1_daysUntilFined_13 ⟨by decide, by decide⟩) hS (fun q _ h => hFc q h) hFc (fun u t9 H1 locs ht hvm hw9 hB hz1 hk1 hS => ?_)
  obtain rfl := hw9
  obtain ⟨hP1, hD1⟩ := hB
  rw [ht] at hP1
  obtain ⟨hP, hD⟩ := va_join (wr := [((a 0), .inr (1, [.ref (a 1), .ref (a 2), .ref (a 3), .ref (a 4), .ref (a 5), .ref (a 8), .int (nI k), .int (nI st), .int fi])), ((a 1), .inl (cI, 8, .inl fB)), ((a 2), .inl (cI, 8, .inl fS)), ((a 3), .inl (cJ, 8, .inr (.inl fL))), ((a 4), .inl (cI, 8, .inl fO))]) (w1 := [((a 8), .inr (0, [.ref (a 9), .ref (a 10), .int (nI c), .int t, .int (nI y)])), ((a 9), .inl (cI, 6, .inl fW)), ((a 10), .inl (cI, 6, .inl fD)), ((a 5), .inr (0, [.ref (a 6), .ref (a 7), .int (nI c), .int t, .int (nI y)])), ((a 6), .inl (cI, 6, .inl fW)), ((a 7), .inl (cI, 6, .inl fD))]) hP hD [8, 9, 10, 5, 6, 7] [0, 1, 2, 3, 4] rfl rfl (by decide) (by decide) hk1 hFc hP1 hD1
  clear hz1 hk1 ht hvm hFc
  generalize H1 = H at hP hS ⊢
  have hP : va_P D vwCl [((a 0), .inr (1, [.ref (a 1), .ref (a 2), .ref (a 3), .ref (a 4), .ref (a 5), .ref (a 8), .int (nI k), .int (nI st), .int fi])), ((a 1), .inl (cI, 8, .inl fB)), ((a 2), .inl (cI, 8, .inl fS)), ((a 3), .inl (cJ, 8, .inr (.inl fL))), ((a 4), .inl (cI, 8, .inl fO)), ((a 8), .inr (0, [.ref (a 9), .ref (a 10), .int (nI c), .int t, .int (nI y)])), ((a 9), .inl (cI, 6, .inl fW)), ((a 10), .inl (cI, 6, .inl fD)), ((a 5), .inr (0, [.ref (a 6), .ref (a 7), .int (nI c), .int t, .int (nI y)])), ((a 6), .inl (cI, 6, .inl fW)), ((a 7), .inl (cI, 6, .inl fD))] H := hP
  have hD : va_D A [((a 0), .inr (1, [.ref (a 1), .ref (a 2), .ref (a 3), .ref (a 4), .ref (a 5), .ref (a 8), .int (nI k), .int (nI st), .int fi])), ((a 1), .inl (cI, 8, .inl fB)), ((a 2), .inl (cI, 8, .inl fS)), ((a 3), .inl (cJ, 8, .inr (.inl fL))), ((a 4), .inl (cI, 8, .inl fO)), ((a 8), .inr (0, [.ref (a 9), .ref (a 10), .int (nI c), .int t, .int (nI y)])), ((a 9), .inl (cI, 6, .inl fW)), ((a 10), .inl (cI, 6, .inl fD)), ((a 5), .inr (0, [.ref (a 6), .ref (a 7), .int (nI c), .int t, .int (nI y)])), ((a 6), .inl (cI, 6, .inl fW)), ((a 7), .inl (cI, 6, .inl fD))] := hD
  refine lv_iconst (v := 1) hx hb dX1_daysUntilFined_16 (by decide) ?_
  refine lv_istore_n (lv' := [(2, .int 1), (0, .ref (a 0)), (1, .int (nI jv))]) hx hb dX1_daysUntilFined_17 rfl hl (by decide) rfl (fun ls hl => ?_)
  have hc0 : ¬ c = 0 := by omega
  have hP := hP.sub (ws' := [((a 0), .inr (1, [.ref (a 1), .ref (a 2), .ref (a 3), .ref (a 4), .ref (a 5), .ref (a 8), .int (nI k), .int (nI st), .int fi])), ((a 1), .inl (cI, 8, .inl fB)), ((a 2), .inl (cI, 8, .inl fS)), ((a 3), .inl (cJ, 8, .inr (.inl fL))), ((a 4), .inl (cI, 8, .inl fO)), ((a 5), .inr (0, [.ref (a 6), .ref (a 7), .int (nI c), .int t, .int (nI y)])), ((a 6), .inl (cI, 6, .inl fW)), ((a 7), .inl (cI, 6, .inl fD)), ((a 8), .inr (0, [.ref (a 9), .ref (a 10), .int (nI c), .int t, .int (nI y)])), ((a 9), .inl (cI, 6, .inl fW)), ((a 10), .inl (cI, 6, .inl fD))]) [0, 1, 2, 3, 4, 8, 9, 10, 5, 6, 7] rfl
  have hD := hD.sub (ws' := [((a 0), .inr (1, [.ref (a 1), .ref (a 2), .ref (a 3), .ref (a 4), .ref (a 5), .ref (a 8), .int (nI k), .int (nI st), .int fi])), ((a 1), .inl (cI, 8, .inl fB)), ((a 2), .inl (cI, 8, .inl fS)), ((a 3), .inl (cJ, 8, .inr (.inl fL))), ((a 4), .inl (cI, 8, .inl fO)), ((a 5), .inr (0, [.ref (a 6), .ref (a 7), .int (nI c), .int t, .int (nI y)])), ((a 6), .inl (cI, 6, .inl fW)), ((a 7), .inl (cI, 6, .inl fD)), ((a 8), .inr (0, [.ref (a 9), .ref (a 10), .int (nI c), .int t, .int (nI y)])), ((a 9), .inl (cI, 6, .inl fW)), ((a 10), .inl (cI, 6, .inl fD))]) [0, 1, 2, 3, 4, 8, 9, 10, 5, 6, 7] (by decide) rfl
  refine loopW (σ := Unit) (I := fun i x H locs ls => lv_has ls 5 [(0, .ref (a 0)), (1, .int (nI jv)), (2, .int (nI (i + 1)))] ∧ va_P D vwCl [((a 0), .inr (1, [.ref (a 1), .ref (a 2), .ref (a 3), .ref (a 4), .ref (a 5), .ref (a 8), .int (nI k), .int (nI st), .int fi])), ((a 1), .inl (cI, 8, .inl fB)), ((a 2), .inl (cI, 8, .inl fS)), ((a 3), .inl (cJ, 8, .inr (.inl fL))), ((a 4), .inl (cI, 8, .inl fO)), ((a 5), .inr (0, [.ref (a 6), .ref (a 7), .int (nI c), .int t, .int (nI y)])), ((a 6), .inl (cI, 6, .inl fW)), ((a 7), .inl (cI, 6, .inl fD)), ((a 8), .inr (0, [.ref (a 9), .ref (a 10), .int (nI c), .int t, .int (nI (y + i))])), ((a 9), .inl (cI, 6, .inl fW)), ((a 10), .inl (cI, 6, .inl (dIt c t y fW fD i)))] H ∧ va_D A [((a 0), .inr (1, [.ref (a 1), .ref (a 2), .ref (a 3), .ref (a 4), .ref (a 5), .ref (a 8), .int (nI k), .int (nI st), .int fi])), ((a 1), .inl (cI, 8, .inl fB)), ((a 2), .inl (cI, 8, .inl fS)), ((a 3), .inl (cJ, 8, .inr (.inl fL))), ((a 4), .inl (cI, 8, .inl fO)), ((a 5), .inr (0, [.ref (a 6), .ref (a 7), .int (nI c), .int t, .int (nI y)])), ((a 6), .inl (cI, 6, .inl fW)), ((a 7), .inl (cI, 6, .inl fD)), ((a 8), .inr (0, [.ref (a 9), .ref (a 10), .int (nI c), .int t, .int (nI (y + i))])), ((a 9), .inl (cI, 6, .inl fW)), ((a 10), .inl (cI, 6, .inl (dIt c t y fW fD i)))] ∧ va_S A s.heap H locs ∧ (duF c t y fW fD jv (60 - i) i = duF c t y fW fD jv 60 0)) 60 ?_ 0 () _ _ ls (by omega) ⟨lv_sub hl [1, 2, 0] rfl, hP, hD, hS, rfl⟩
  intro i x H locs ls hi hI kk
  obtain ⟨hl, hP, hD, hS, hB⟩ := hI
  refine lv_iload_n hx hb dX1_daysUntilFined_18 rfl (lv_at hl 2 rfl) ?_
  refine lv_bipush (v := 60) hx hb dX1_daysUntilFined_19 (by decide) ?_
  refine lv_icmp_gt (tgt := 67) hx hb dX1_daysUntilFined_21 (by decide) (fun c_21 => ?_) (fun c_21 => ?_)
  · skip
    simp only [Int32.lt_iff_toInt_lt] at c_21
    rw [nI_toInt (n := (i + 1)) (by omega)] at c_21
    rw [(by decide : (60 : Int32).toInt = 60)] at c_21
    have e9 : 60 = i := by omega
    subst e9
    refine lv_iconst (v := (-1)) hx hb dX1_daysUntilFined_67 (by decide) ?_
    exact W.iret (v := (-1)) hx hb hr (fun t9 ht hW => ⟨⟨(-1), [((a 0), .inr (1, [.ref (a 1), .ref (a 2), .ref (a 3), .ref (a 4), .ref (a 5), .ref (a 8), .int (nI k), .int (nI st), .int fi])), ((a 1), .inl (cI, 8, .inl fB)), ((a 2), .inl (cI, 8, .inl fS)), ((a 3), .inl (cJ, 8, .inr (.inl fL))), ((a 4), .inl (cI, 8, .inl fO)), ((a 5), .inr (0, [.ref (a 6), .ref (a 7), .int (nI c), .int t, .int (nI y)])), ((a 6), .inl (cI, 6, .inl fW)), ((a 7), .inl (cI, 6, .inl fD)), ((a 8), .inr (0, [.ref (a 9), .ref (a 10), .int (nI c), .int t, .int (nI (y + 60))])), ((a 9), .inl (cI, 6, .inl fW)), ((a 10), .inl (cI, 6, .inl (dIt c t y fW fD 60)))], rfl, ⟨by rw [← hB, Nat.sub_self]; rfl, ⟨_, _, _, _, _, rfl⟩⟩, by rw [ht]; exact hP, hD⟩, hS.F ht⟩) hS.2.2 dX1_daysUntilFined_68
  · skip
    simp only [Int32.lt_iff_toInt_lt] at c_21
    rw [nI_toInt (n := (i + 1)) (by omega)] at c_21
    rw [(by decide : (60 : Int32).toInt = 60)] at c_21
    obtain ⟨n9, hn9⟩ : ∃ n9, 60 - i = n9 + 1 := ⟨60 - i - 1, by omega⟩
    rw [hn9] at hB
    refine lv_aload_n hx hb dX1_daysUntilFined_24 rfl (lv_at hl 0 rfl) ?_
    refine va_get (D := D) (ci := 1) (v := .ref (a 8)) (C := RX1) (T := TX1) (N := 9) hx hb hts hiX1 hown hK hP 0 rfl rfl 5 (by decide) hw30 (fun _ h9 => h9) rfl dX1_daysUntilFined_25 ?_
    refine ro_iE (va_runVN (As := []) (rest := []) ⟨hx, hb, hml, hown, hts⟩ (c_X0_visited l D cI cJ (a 8) (a 9) (a 10) c t (y + i) fW (dIt c t y fW fD i) (by omega) (by omega)) ⟨va_cnB (host := RX1) 0 hts ggX1_daysUntilFined_X0_visited rfl rfl rfl hC.2.1.2.2.2.2.2.2.2.2.2.1 (hts (.initialized RX0) (by decide +kernel)) (by decide +kernel) ⟨Nat.le_of_ble_eq_true rfl, Nat.le_of_ble_eq_true rfl⟩, hts (.instanceMethod yX0_visited) (by decide +kernel), hts (.selects RX0 yX0_visited yX0_visited) (by decide +kernel)⟩ (preV_ro KM_ok (hP.sub (ws' := [((a 8), .inr (0, [.ref (a 9), .ref (a 10), .int (nI c), .int t, .int (nI (y + i))])), ((a 9), .inl (cI, 6, .inl fW)), ((a 10), .inl (cI, 6, .inl (dIt c t y fW fD i)))]) [8, 9, 10] rfl) hK (va_recv hK hP (ci := 0) (q0 := 8) rfl rfl)) rfl rfl hl.1 rfl (lv_room (Nat.le_of_ble_eq_true rfl)) dX1_daysUntilFined_28 ⟨by decide, by decide⟩) ?_
    refine topI (ic_f hc0) ?_
    have hmb : (y + i) % c < 6 := Nat.lt_of_lt_of_le (Nat.mod_lt _ (by omega)) hc
    refine lv_iload_n hx hb dX1_daysUntilFined_31 rfl (lv_at hl 1 rfl) ?_
    refine lv_icmp_ne (tgt := 39) hx hb dX1_daysUntilFined_32 (by decide) (fun c_32 => ?_) (fun c_32 => ?_)
    · skip
      simp only [ne_eq, ← Int32.toInt_inj, Decidable.not_not] at c_32
      rw [nI_toInt (n := ((y + i) % c)) (by omega)] at c_32
      rw [nI_toInt (n := jv) (by omega)] at c_32
      have c_32 : ¬ (y + i) % c = jv := by omega
      refine lv_iconst (v := 0) hx hb dX1_daysUntilFined_39 (by decide) ?_
      refine lv_istore_n (lv' := [(3, .int 0), (0, .ref (a 0)), (1, .int (nI jv)), (2, .int (nI (i + 1)))]) hx hb dX1_daysUntilFined_40 rfl hl (by decide) rfl (fun ls hl => ?_)
      refine lv_aload_n hx hb dX1_daysUntilFined_41 rfl (lv_at hl 1 rfl) ?_
      refine va_get (D := D) (ci := 1) (v := .ref (a 8)) (C := RX1) (T := TX1) (N := 9) hx hb hts hiX1 hown hK hP 0 rfl rfl 5 (by decide) hw30 (fun _ h9 => h9) rfl dX1_daysUntilFined_42 ?_
      have hFc := va_free (wc := [((a 8), .inr (0, [.ref (a 9), .ref (a 10), .int (nI c), .int t, .int (nI (y + i))])), ((a 9), .inl (cI, 6, .inl fW)), ((a 10), .inl (cI, 6, .inl (dIt c t y fW fD i)))]) hD hS hA [8, 9, 10] rfl
      refine va_calli (va_runVN (As := []) (rest := []) ⟨hx, hb, hml, hown, hts⟩ (c_X0_coinsPaidNextDay l D cI cJ H.size (a 8) (a 9) (a 10) c t (y + i) fW (dIt c t y fW fD i) (by omega) (by omega)) ⟨va_cnB (host := RX1) 0 hts ggX1_daysUntilFined_X0_coinsPaidNextDay rfl rfl rfl hC.2.1.2.2.2.2.2.2.2.2.2.2 (hts (.initialized RX0) (by decide +kernel)) (by decide +kernel) ⟨Nat.le_of_ble_eq_true rfl, Nat.le_of_ble_eq_true rfl⟩, hts (.instanceMethod yX0_coinsPaidNextDay) (by decide +kernel), hts (.selects RX0 yX0_coinsPaidNextDay yX0_coinsPaidNextDay) (by decide +kernel)⟩ (preV_wr KM_ok (hP.sub (ws' := [((a 8), .inr (0, [.ref (a 9), .ref (a 10), .int (nI c), .int t, .int (nI (y + i))])), ((a 9), .inl (cI, 6, .inl fW)), ((a 10), .inl (cI, 6, .inl (dIt c t y fW fD i)))]) [8, 9, 10] rfl) (hD.sub (ws' := [((a 8), .inr (0, [.ref (a 9), .ref (a 10), .int (nI c), .int t, .int (nI (y + i))])), ((a 9), .inl (cI, 6, .inl fW)), ((a 10), .inl (cI, 6, .inl (dIt c t y fW fD i)))]) [8, 9, 10] (by decide) rfl) hK (va_recv hK hP (ci := 0) (q0 := 8) rfl rfl)) rfl rfl hl.1 rfl (lv_room (Nat.le_of_ble_eq_true rfl)) dX1_daysUntilFined_45 ⟨by decide, by decide⟩) hS (fun q _ h => hFc q h) hFc (fun r_45 u t9 H1 locs ht hvm hw9 hB hz1 hk1 hS => ?_)
      obtain ⟨hr9, rfl⟩ := hw9
      have hr9 := hr9.symm
      subst hr9
      obtain ⟨hP1, hD1⟩ := hB
      rw [ht] at hP1
      obtain ⟨hP, hD⟩ := va_join (wr := [((a 0), .inr (1, [.ref (a 1), .ref (a 2), .ref (a 3), .ref (a 4), .ref (a 5), .ref (a 8), .int (nI k), .int (nI st), .int fi])), ((a 1), .inl (cI, 8, .inl fB)), ((a 2), .inl (cI, 8, .inl fS)), ((a 3), .inl (cJ, 8, .inr (.inl fL))), ((a 4), .inl (cI, 8, .inl fO)), ((a 5), .inr (0, [.ref (a 6), .ref (a 7), .int (nI c), .int t, .int (nI y)])), ((a 6), .inl (cI, 6, .inl fW)), ((a 7), .inl (cI, 6, .inl fD))]) (w1 := [((a 8), .inr (0, [.ref (a 9), .ref (a 10), .int (nI c), .int t, .int (nI ((y + i) + 1))])), ((a 9), .inl (cI, 6, .inl fW)), ((a 10), .inl (cI, 6, .inl (dDr c t (y + i) fW (dIt c t y fW fD i))))]) hP hD [8, 9, 10] [0, 1, 2, 3, 4, 5, 6, 7] rfl rfl (by decide) (by decide) hk1 hFc hP1 hD1
      clear hz1 hk1 ht hvm hFc
      generalize H1 = H at hP hS ⊢
      have hP : va_P D vwCl [((a 0), .inr (1, [.ref (a 1), .ref (a 2), .ref (a 3), .ref (a 4), .ref (a 5), .ref (a 8), .int (nI k), .int (nI st), .int fi])), ((a 1), .inl (cI, 8, .inl fB)), ((a 2), .inl (cI, 8, .inl fS)), ((a 3), .inl (cJ, 8, .inr (.inl fL))), ((a 4), .inl (cI, 8, .inl fO)), ((a 5), .inr (0, [.ref (a 6), .ref (a 7), .int (nI c), .int t, .int (nI y)])), ((a 6), .inl (cI, 6, .inl fW)), ((a 7), .inl (cI, 6, .inl fD)), ((a 8), .inr (0, [.ref (a 9), .ref (a 10), .int (nI c), .int t, .int (nI ((y + i) + 1))])), ((a 9), .inl (cI, 6, .inl fW)), ((a 10), .inl (cI, 6, .inl (dDr c t (y + i) fW (dIt c t y fW fD i))))] H := hP
      have hD : va_D A [((a 0), .inr (1, [.ref (a 1), .ref (a 2), .ref (a 3), .ref (a 4), .ref (a 5), .ref (a 8), .int (nI k), .int (nI st), .int fi])), ((a 1), .inl (cI, 8, .inl fB)), ((a 2), .inl (cI, 8, .inl fS)), ((a 3), .inl (cJ, 8, .inr (.inl fL))), ((a 4), .inl (cI, 8, .inl fO)), ((a 5), .inr (0, [.ref (a 6), .ref (a 7), .int (nI c), .int t, .int (nI y)])), ((a 6), .inl (cI, 6, .inl fW)), ((a 7), .inl (cI, 6, .inl fD)), ((a 8), .inr (0, [.ref (a 9), .ref (a 10), .int (nI c), .int t, .int (nI ((y + i) + 1))])), ((a 9), .inl (cI, 6, .inl fW)), ((a 10), .inl (cI, 6, .inl (dDr c t (y + i) fW (dIt c t y fW fD i))))] := hD
      refine lv_istore (lv' := [(4, .int (dFine c t (y + i) fW (dIt c t y fW fD i))), (3, .int 0), (0, .ref (a 0)), (1, .int (nI jv)), (2, .int (nI (i + 1)))]) hx hb dX1_daysUntilFined_48 hl (by decide) rfl (fun ls hl => ?_)
      refine lv_iload_n hx hb dX1_daysUntilFined_50 rfl (lv_at hl 1 rfl) ?_
      refine lv_if_eq (tgt := 61) hx hb dX1_daysUntilFined_51 (by decide) (fun c_51 => ?_) (fun c_51 => ?_)
      · skip
        have hno : ¬ fdP c t y fW fD jv i := fun q => c_32 q.1
        rw [duF, ic_f hno] at hB
        refine lv_iinc (v := (nI ((i + 1) + 1))) (lv' := [(2, .int (nI ((i + 1) + 1))), (4, .int (dFine c t (y + i) fW (dIt c t y fW fD i))), (3, .int 0), (0, .ref (a 0)), (1, .int (nI jv))]) hx hb dX1_daysUntilFined_61 hl (k := 4) rfl (nI_inc (i + 1)) (by decide) rfl (fun ls hl => ?_)
        refine lv_goto (tgt := 18) hx hb dX1_daysUntilFined_64 (by decide) ?_
        exact kk () _ _ ls (by omega) ⟨lv_sub hl [3, 4, 0] rfl, hP, hD, hS, by rw [show 60 - (i + 1) = n9 by omega]; exact hB⟩
      · skip
        exact absurd rfl c_51
    · skip
      simp only [ne_eq, ← Int32.toInt_inj, Decidable.not_not] at c_32
      rw [nI_toInt (n := ((y + i) % c)) (by omega)] at c_32
      rw [nI_toInt (n := jv) (by omega)] at c_32
      have c_32 : (y + i) % c = jv := by omega
      refine lv_iconst (v := 1) hx hb dX1_daysUntilFined_35 (by decide) ?_
      refine lv_goto (tgt := 40) hx hb dX1_daysUntilFined_36 (by decide) ?_
      refine lv_istore_n (lv' := [(3, .int 1), (0, .ref (a 0)), (1, .int (nI jv)), (2, .int (nI (i + 1)))]) hx hb dX1_daysUntilFined_40 rfl hl (by decide) rfl (fun ls hl => ?_)
      refine lv_aload_n hx hb dX1_daysUntilFined_41 rfl (lv_at hl 1 rfl) ?_
      refine va_get (D := D) (ci := 1) (v := .ref (a 8)) (C := RX1) (T := TX1) (N := 9) hx hb hts hiX1 hown hK hP 0 rfl rfl 5 (by decide) hw30 (fun _ h9 => h9) rfl dX1_daysUntilFined_42 ?_
      have hFc := va_free (wc := [((a 8), .inr (0, [.ref (a 9), .ref (a 10), .int (nI c), .int t, .int (nI (y + i))])), ((a 9), .inl (cI, 6, .inl fW)), ((a 10), .inl (cI, 6, .inl (dIt c t y fW fD i)))]) hD hS hA [8, 9, 10] rfl
      refine va_calli (va_runVN (As := []) (rest := []) ⟨hx, hb, hml, hown, hts⟩ (c_X0_coinsPaidNextDay l D cI cJ H.size (a 8) (a 9) (a 10) c t (y + i) fW (dIt c t y fW fD i) (by omega) (by omega)) ⟨va_cnB (host := RX1) 0 hts ggX1_daysUntilFined_X0_coinsPaidNextDay rfl rfl rfl hC.2.1.2.2.2.2.2.2.2.2.2.2 (hts (.initialized RX0) (by decide +kernel)) (by decide +kernel) ⟨Nat.le_of_ble_eq_true rfl, Nat.le_of_ble_eq_true rfl⟩, hts (.instanceMethod yX0_coinsPaidNextDay) (by decide +kernel), hts (.selects RX0 yX0_coinsPaidNextDay yX0_coinsPaidNextDay) (by decide +kernel)⟩ (preV_wr KM_ok (hP.sub (ws' := [((a 8), .inr (0, [.ref (a 9), .ref (a 10), .int (nI c), .int t, .int (nI (y + i))])), ((a 9), .inl (cI, 6, .inl fW)), ((a 10), .inl (cI, 6, .inl (dIt c t y fW fD i)))]) [8, 9, 10] rfl) (hD.sub (ws' := [((a 8), .inr (0, [.ref (a 9), .ref (a 10), .int (nI c), .int t, .int (nI (y + i))])), ((a 9), .inl (cI, 6, .inl fW)), ((a 10), .inl (cI, 6, .inl (dIt c t y fW fD i)))]) [8, 9, 10] (by decide) rfl) hK (va_recv hK hP (ci := 0) (q0 := 8) rfl rfl)) rfl rfl hl.1 rfl (lv_room (Nat.le_of_ble_eq_true rfl)) dX1_daysUntilFined_45 ⟨by decide, by decide⟩) hS (fun q _ h => hFc q h) hFc (fun r_45 u t9 H1 locs ht hvm hw9 hB hz1 hk1 hS => ?_)
      obtain ⟨hr9, rfl⟩ := hw9
      have hr9 := hr9.symm
      subst hr9
      obtain ⟨hP1, hD1⟩ := hB
      rw [ht] at hP1
      obtain ⟨hP, hD⟩ := va_join (wr := [((a 0), .inr (1, [.ref (a 1), .ref (a 2), .ref (a 3), .ref (a 4), .ref (a 5), .ref (a 8), .int (nI k), .int (nI st), .int fi])), ((a 1), .inl (cI, 8, .inl fB)), ((a 2), .inl (cI, 8, .inl fS)), ((a 3), .inl (cJ, 8, .inr (.inl fL))), ((a 4), .inl (cI, 8, .inl fO)), ((a 5), .inr (0, [.ref (a 6), .ref (a 7), .int (nI c), .int t, .int (nI y)])), ((a 6), .inl (cI, 6, .inl fW)), ((a 7), .inl (cI, 6, .inl fD))]) (w1 := [((a 8), .inr (0, [.ref (a 9), .ref (a 10), .int (nI c), .int t, .int (nI ((y + i) + 1))])), ((a 9), .inl (cI, 6, .inl fW)), ((a 10), .inl (cI, 6, .inl (dDr c t (y + i) fW (dIt c t y fW fD i))))]) hP hD [8, 9, 10] [0, 1, 2, 3, 4, 5, 6, 7] rfl rfl (by decide) (by decide) hk1 hFc hP1 hD1
      clear hz1 hk1 ht hvm hFc
      generalize H1 = H at hP hS ⊢
      have hP : va_P D vwCl [((a 0), .inr (1, [.ref (a 1), .ref (a 2), .ref (a 3), .ref (a 4), .ref (a 5), .ref (a 8), .int (nI k), .int (nI st), .int fi])), ((a 1), .inl (cI, 8, .inl fB)), ((a 2), .inl (cI, 8, .inl fS)), ((a 3), .inl (cJ, 8, .inr (.inl fL))), ((a 4), .inl (cI, 8, .inl fO)), ((a 5), .inr (0, [.ref (a 6), .ref (a 7), .int (nI c), .int t, .int (nI y)])), ((a 6), .inl (cI, 6, .inl fW)), ((a 7), .inl (cI, 6, .inl fD)), ((a 8), .inr (0, [.ref (a 9), .ref (a 10), .int (nI c), .int t, .int (nI ((y + i) + 1))])), ((a 9), .inl (cI, 6, .inl fW)), ((a 10), .inl (cI, 6, .inl (dDr c t (y + i) fW (dIt c t y fW fD i))))] H := hP
      have hD : va_D A [((a 0), .inr (1, [.ref (a 1), .ref (a 2), .ref (a 3), .ref (a 4), .ref (a 5), .ref (a 8), .int (nI k), .int (nI st), .int fi])), ((a 1), .inl (cI, 8, .inl fB)), ((a 2), .inl (cI, 8, .inl fS)), ((a 3), .inl (cJ, 8, .inr (.inl fL))), ((a 4), .inl (cI, 8, .inl fO)), ((a 5), .inr (0, [.ref (a 6), .ref (a 7), .int (nI c), .int t, .int (nI y)])), ((a 6), .inl (cI, 6, .inl fW)), ((a 7), .inl (cI, 6, .inl fD)), ((a 8), .inr (0, [.ref (a 9), .ref (a 10), .int (nI c), .int t, .int (nI ((y + i) + 1))])), ((a 9), .inl (cI, 6, .inl fW)), ((a 10), .inl (cI, 6, .inl (dDr c t (y + i) fW (dIt c t y fW fD i))))] := hD
      refine lv_istore (lv' := [(4, .int (dFine c t (y + i) fW (dIt c t y fW fD i))), (3, .int 1), (0, .ref (a 0)), (1, .int (nI jv)), (2, .int (nI (i + 1)))]) hx hb dX1_daysUntilFined_48 hl (by decide) rfl (fun ls hl => ?_)
      refine lv_iload_n hx hb dX1_daysUntilFined_50 rfl (lv_at hl 1 rfl) ?_
      refine lv_if_eq (tgt := 61) hx hb dX1_daysUntilFined_51 (by decide) (fun c_51 => ?_) (fun c_51 => ?_)
      · skip
        exact absurd c_51 (by decide)
      · skip
        refine lv_iload hx hb dX1_daysUntilFined_54 (lv_at hl 0 rfl) ?_
        refine lv_if_le (tgt := 61) hx hb dX1_daysUntilFined_56 (by decide) (fun c_56 => ?_) (fun c_56 => ?_)
        · skip
          simp only [Int32.le_iff_toInt_le] at c_56
          rw [(by decide : (0 : Int32).toInt = 0)] at c_56
          have hno : ¬ fdP c t y fW fD jv i := fun q => by have h8 := (dFine_pos hc0 ht0).mpr q.2; omega
          rw [duF, ic_f hno] at hB
          refine lv_iinc (v := (nI ((i + 1) + 1))) (lv' := [(2, .int (nI ((i + 1) + 1))), (4, .int (dFine c t (y + i) fW (dIt c t y fW fD i))), (3, .int 1), (0, .ref (a 0)), (1, .int (nI jv))]) hx hb dX1_daysUntilFined_61 hl (k := 4) rfl (nI_inc (i + 1)) (by decide) rfl (fun ls hl => ?_)
          refine lv_goto (tgt := 18) hx hb dX1_daysUntilFined_64 (by decide) ?_
          exact kk () _ _ ls (by omega) ⟨lv_sub hl [3, 4, 0] rfl, hP, hD, hS, by rw [show 60 - (i + 1) = n9 by omega]; exact hB⟩
        · skip
          simp only [Int32.le_iff_toInt_le] at c_56
          rw [(by decide : (0 : Int32).toInt = 0)] at c_56
          have hyes : fdP c t y fW fD jv i := ⟨c_32, (dFine_pos hc0 ht0).mp (by omega)⟩
          rw [duF, ic_t hyes] at hB
          refine lv_iload_n hx hb dX1_daysUntilFined_59 rfl (lv_at hl 4 rfl) ?_
          exact W.iret (v := (nI (i + 1))) hx hb hr (fun t9 ht hW => ⟨⟨(nI (i + 1)), [((a 0), .inr (1, [.ref (a 1), .ref (a 2), .ref (a 3), .ref (a 4), .ref (a 5), .ref (a 8), .int (nI k), .int (nI st), .int fi])), ((a 1), .inl (cI, 8, .inl fB)), ((a 2), .inl (cI, 8, .inl fS)), ((a 3), .inl (cJ, 8, .inr (.inl fL))), ((a 4), .inl (cI, 8, .inl fO)), ((a 5), .inr (0, [.ref (a 6), .ref (a 7), .int (nI c), .int t, .int (nI y)])), ((a 6), .inl (cI, 6, .inl fW)), ((a 7), .inl (cI, 6, .inl fD)), ((a 8), .inr (0, [.ref (a 9), .ref (a 10), .int (nI c), .int t, .int (nI ((y + i) + 1))])), ((a 9), .inl (cI, 6, .inl fW)), ((a 10), .inl (cI, 6, .inl (dDr c t (y + i) fW (dIt c t y fW fD i))))], rfl, ⟨by exact hB, ⟨_, _, _, _, _, rfl⟩⟩, by rw [ht]; exact hP, hD⟩, hS.F ht⟩) hS.2.2 dX1_daysUntilFined_60

set_option maxHeartbeats 4000000 in
set_option maxRecDepth 100000 in
theorem k_X1_bestDayAt (l : Launch) (D : va_G) (cI cJ : ClassId) (sz : Nat) (a : Nat → Nat) (k st : Nat) (fi : Int32) (fB fS fO : Nat → Int32) (fL : Nat → Int64) (c : Nat) (t : Int32) (y : Nat) (fW fD : Nat → Int32) (c2 t2 y2 : Int32) (gW gD : Nat → Int32) (hc : c ≤ 6) (hy : y < 2 ^ 27) (jv : Nat) (hj_v : jv < c) : Met l yX1_bestDayAt wsX1_bestDayAt ({ frames := 6, cells := 0, slots := 0, locals := 160 }) (cPw D [((a 0), .inr (1, [.ref (a 1), .ref (a 2), .ref (a 3), .ref (a 4), .ref (a 5), .ref (a 8), .int (nI k), .int (nI st), .int fi])), ((a 1), .inl (cI, 8, .inl fB)), ((a 2), .inl (cI, 8, .inl fS)), ((a 3), .inl (cJ, 8, .inr (.inl fL))), ((a 4), .inl (cI, 8, .inl fO)), ((a 5), .inr (0, [.ref (a 6), .ref (a 7), .int (nI c), .int t, .int (nI y)])), ((a 6), .inl (cI, 6, .inl fW)), ((a 7), .inl (cI, 6, .inl fD)), ((a 8), .inr (0, [.ref (a 9), .ref (a 10), .int c2, .int t2, .int y2])), ((a 9), .inl (cI, 6, .inl gW)), ((a 10), .inl (cI, 6, .inl gD))] sz (KC D cI cJ a) [.ref (a 0), .int (nI jv)]) (wri D [((a 0), .inr (1, [.ref (a 1), .ref (a 2), .ref (a 3), .ref (a 4), .ref (a 5), .ref (a 8), .int (nI k), .int (nI st), .int fi])), ((a 1), .inl (cI, 8, .inl fB)), ((a 2), .inl (cI, 8, .inl fS)), ((a 3), .inl (cJ, 8, .inr (.inl fL))), ((a 4), .inl (cI, 8, .inl fO)), ((a 5), .inr (0, [.ref (a 6), .ref (a 7), .int (nI c), .int t, .int (nI y)])), ((a 6), .inl (cI, 6, .inl fW)), ((a 7), .inl (cI, 6, .inl fD)), ((a 8), .inr (0, [.ref (a 9), .ref (a 10), .int c2, .int t2, .int y2])), ((a 9), .inl (cI, 6, .inl gW)), ((a 10), .inl (cI, 6, .inl gD))] sz (fun r ws' => r = nI (bdB c t y fW fD jv 30) ∧ ∃ (c2 t2 y2 : Int32) (gW gD : Nat → Int32), ws' = [((a 0), .inr (1, [.ref (a 1), .ref (a 2), .ref (a 3), .ref (a 4), .ref (a 5), .ref (a 8), .int (nI k), .int (nI st), .int fi])), ((a 1), .inl (cI, 8, .inl fB)), ((a 2), .inl (cI, 8, .inl fS)), ((a 3), .inl (cJ, 8, .inr (.inl fL))), ((a 4), .inl (cI, 8, .inl fO)), ((a 5), .inr (0, [.ref (a 6), .ref (a 7), .int (nI c), .int t, .int (nI y)])), ((a 6), .inl (cI, 6, .inl fW)), ((a 7), .inl (cI, 6, .inl fD)), ((a 8), .inr (0, [.ref (a 9), .ref (a 10), .int c2, .int t2, .int y2])), ((a 9), .inl (cI, 6, .inl gW)), ((a 10), .inl (cI, 6, .inl gD))])) 0 0 (va_A [((a 0), .inr (1, [.ref (a 1), .ref (a 2), .ref (a 3), .ref (a 4), .ref (a 5), .ref (a 8), .int (nI k), .int (nI st), .int fi])), ((a 1), .inl (cI, 8, .inl fB)), ((a 2), .inl (cI, 8, .inl fS)), ((a 3), .inl (cJ, 8, .inr (.inl fL))), ((a 4), .inl (cI, 8, .inl fO)), ((a 5), .inr (0, [.ref (a 6), .ref (a 7), .int (nI c), .int t, .int (nI y)])), ((a 6), .inl (cI, 6, .inl fW)), ((a 7), .inl (cI, 6, .inl fD)), ((a 8), .inr (0, [.ref (a 9), .ref (a 10), .int c2, .int t2, .int y2])), ((a 9), .inl (cI, 6, .inl gW)), ((a 10), .inl (cI, 6, .inl gD))] sz) := by
  refine Met.ofW (cc := cX1_bestDayAt) (maxL := 5) (ret := (some .int)) (by decide +kernel) rfl ?_
  intro p e s m args below meth c9 s₁ B hml hv
  obtain ⟨rfl, hsz, hP, hD0, hC⟩ := hv
  have hx := B.exec
  have hb := B.bytes
  have hr := B.returns
  have hts := atoms_spec (ws := wsX1_bestDayAt) B.pre
  have hown : s.vm.findClass RX1 = some m.cls := findClass_of_methodNamed B.named
  have hlocks := B.notSynchronized
  have hK : va_K D vwCl [(cI, .int), (cJ, .long)] s := hC.1
  subst hsz
  unfold wri wB
  have hD := hD0.self (sz := s.heap.size)
  have hAw : ∀ q, q < s.heap.size → va_A [((a 0), .inr (1, [.ref (a 1), .ref (a 2), .ref (a 3), .ref (a 4), .ref (a 5), .ref (a 8), .int (nI k), .int (nI st), .int fi])), ((a 1), .inl (cI, 8, .inl fB)), ((a 2), .inl (cI, 8, .inl fS)), ((a 3), .inl (cJ, 8, .inr (.inl fL))), ((a 4), .inl (cI, 8, .inl fO)), ((a 5), .inr (0, [.ref (a 6), .ref (a 7), .int (nI c), .int t, .int (nI y)])), ((a 6), .inl (cI, 6, .inl fW)), ((a 7), .inl (cI, 6, .inl fD)), ((a 8), .inr (0, [.ref (a 9), .ref (a 10), .int c2, .int t2, .int y2])), ((a 9), .inl (cI, 6, .inl gW)), ((a 10), .inl (cI, 6, .inl gD))] s.heap.size q → Aw a q := fun q h1 h2 => aw_of rfl h1 h2
  generalize hAe : va_A [((a 0), .inr (1, [.ref (a 1), .ref (a 2), .ref (a 3), .ref (a 4), .ref (a 5), .ref (a 8), .int (nI k), .int (nI st), .int fi])), ((a 1), .inl (cI, 8, .inl fB)), ((a 2), .inl (cI, 8, .inl fS)), ((a 3), .inl (cJ, 8, .inr (.inl fL))), ((a 4), .inl (cI, 8, .inl fO)), ((a 5), .inr (0, [.ref (a 6), .ref (a 7), .int (nI c), .int t, .int (nI y)])), ((a 6), .inl (cI, 6, .inl fW)), ((a 7), .inl (cI, 6, .inl fD)), ((a 8), .inr (0, [.ref (a 9), .ref (a 10), .int c2, .int t2, .int y2])), ((a 9), .inl (cI, 6, .inl gW)), ((a 10), .inl (cI, 6, .inl gD))] s.heap.size = A at hD hAw ⊢
  have hA : ∀ q : Nat, s.heap.size ≤ q → A q := fun q h => by rw [← hAe]; exact Or.inr h
  have hS : va_S A s.heap s.heap [] := va_S.rf
  have hl := lv_entry ([.ref (a 0), .int (nI jv)]) (n := 5) (Nat.le_of_ble_eq_true rfl)
  rw [lg_entry_eq]
  generalize (lg_sl ([.ref (a 0), .int (nI jv)]) ++ List.replicate (5 - (lg_sl ([.ref (a 0), .int (nI jv)])).length) Slot.unset).toArray = ls at hl ⊢
  have hl : lv_has ls 5 [(0, .ref (a 0)), (1, .int (nI jv))] := hl
  have hiX0 : ∀ w ∈ u_ws RX0 TX0 5, w ∈ wsX1_bestDayAt := by decide +kernel
  have hiX1 : ∀ w ∈ u_ws RX1 TX1 9, w ∈ wsX1_bestDayAt := by decide +kernel
  have hw26 : (Cond.fieldLink RX1 26 "OldMeasures" "stalls" "LOldMeasures$Stalls;").before ([.ref (a 0), .int (nI jv)] : List Value).toArray s = true := hts _ (by decide +kernel)
  have hw30 : (Cond.fieldLink RX1 30 "OldMeasures" "trial" "LOldMeasures$Stalls;").before ([.ref (a 0), .int (nI jv)] : List Value).toArray s = true := hts _ (by decide +kernel)
  refine lv_aload_n hx hb dX1_bestDayAt_0 rfl (lv_at hl 0 rfl) ?_
  refine lv_iload_n hx hb dX1_bestDayAt_1 rfl (lv_at hl 1 rfl) ?_
  refine ro_v (va_runV (As := [.int (nI jv)]) (rest := []) ⟨hx, hb, hml, hown, hts⟩ (k_X1_needStall l D cI cJ a k st fi fB fS fO fL c t y fW fD c2 t2 y2 gW gD hc jv (by omega)) (cwV 1 hts gX1_bestDayAt_X1_needStall rfl rfl rfl (by decide +kernel) ⟨Nat.le_of_ble_eq_true rfl, Nat.le_of_ble_eq_true rfl⟩) (preV_ro KC_ok hP hC (va_recv hK hP (ci := 1) (q0 := 0) rfl rfl)) rfl rfl hl.1 rfl (lv_room (Nat.le_of_ble_eq_true rfl)) dX1_bestDayAt_2 ⟨by decide, by decide⟩) (fun _ => ?_)
  refine lv_aload_n hx hb dX1_bestDayAt_5 rfl (lv_at hl 0 rfl) ?_
  refine va_get (D := D) (ci := 1) (v := .ref (a 8)) (C := RX1) (T := TX1) (N := 9) hx hb hts hiX1 hown hK hP 0 rfl rfl 5 (by decide) hw30 (fun _ h9 => h9) rfl dX1_bestDayAt_6 ?_
  refine lv_aload_n hx hb dX1_bestDayAt_9 rfl (lv_at hl 0 rfl) ?_
  refine va_get (D := D) (ci := 1) (v := .ref (a 5)) (C := RX1) (T := TX1) (N := 9) hx hb hts hiX1 hown hK hP 0 rfl rfl 4 (by decide) hw26 (fun _ h9 => h9) rfl dX1_bestDayAt_10 ?_
  have hFc := va_free (wc := [((a 8), .inr (0, [.ref (a 9), .ref (a 10), .int c2, .int t2, .int y2])), ((a 9), .inl (cI, 6, .inl gW)), ((a 10), .inl (cI, 6, .inl gD)), ((a 5), .inr (0, [.ref (a 6), .ref (a 7), .int (nI c), .int t, .int (nI y)])), ((a 6), .inl (cI, 6, .inl fW)), ((a 7), .inl (cI, 6, .inl fD))]) hD hS hA [8, 9, 10, 5, 6, 7] rfl
  refine va_callv (va_runVN (As := [.ref (a 5)]) (rest := []) ⟨hx, hb, hml, hown, hts⟩ (c_X0_become l D cI cJ s.heap.size (a 8) (a 9) (a 10) c2 t2 y2 gW gD (a 5) (a 6) (a 7) c t y fW fD) ⟨va_cnB (host := RX1) 1 hts ggX1_bestDayAt_X0_become rfl rfl rfl hC.2.1.2.2.2.2.2.2.2.2.1 (hts (.initialized RX0) (by decide +kernel)) (by decide +kernel) ⟨Nat.le_of_ble_eq_true rfl, Nat.le_of_ble_eq_true rfl⟩, hts (.instanceMethod yX0_become) (by decide +kernel), hts (.selects RX0 yX0_become yX0_become) (by decide +kernel)⟩ (preV_wr KM_ok (hP.sub (ws' := [((a 8), .inr (0, [.ref (a 9), .ref (a 10), .int c2, .int t2, .int y2])), ((a 9), .inl (cI, 6, .inl gW)), ((a 10), .inl (cI, 6, .inl gD)), ((a 5), .inr (0, [.ref (a 6), .ref (a 7), .int (nI c), .int t, .int (nI y)])), ((a 6), .inl (cI, 6, .inl fW)), ((a 7), .inl (cI, 6, .inl fD))]) [8, 9, 10, 5, 6, 7] rfl) (hD.sub (ws' := [((a 8), .inr (0, [.ref (a 9), .ref (a 10), .int c2, .int t2, .int y2])), ((a 9), .inl (cI, 6, .inl gW)), ((a 10), .inl (cI, 6, .inl gD)), ((a 5), .inr (0, [.ref (a 6), .ref (a 7), .int (nI c), .int t, .int (nI y)])), ((a 6), .inl (cI, 6, .inl fW)), ((a 7), .inl (cI, 6, .inl fD))]) [8, 9, 10, 5, 6, 7] (by decide) rfl) hK (va_recv hK hP (ci := 0) (q0 := 8) rfl rfl)) rfl rfl hl.1 rfl (lv_room (Nat.le_of_ble_eq_true rfl)) dX1_bestDayAt_13 ⟨by decide, by decide⟩) hS (fun q _ h => hFc q h) hFc (fun u t9 H1 locs ht hvm hw9 hB hz1 hk1 hS => ?_)
  obtain rfl := hw9
  obtain ⟨hP1, hD1⟩ := hB
  rw [ht] at hP1
  obtain ⟨hP, hD⟩ := va_join (wr := [((a 0), .inr (1, [.ref (a 1), .ref (a 2), .ref (a 3), .ref (a 4), .ref (a 5), .ref (a 8), .int (nI k), .int (nI st), .int fi])), ((a 1), .inl (cI, 8, .inl fB)), ((a 2), .inl (cI, 8, .inl fS)), ((a 3), .inl (cJ, 8, .inr (.inl fL))), ((a 4), .inl (cI, 8, .inl fO))]) (w1 := [((a 8), .inr (0, [.ref (a 9), .ref (a 10), .int (nI c), .int t, .int (nI y)])), ((a 9), .inl (cI, 6, .inl fW)), ((a 10), .inl (cI, 6, .inl fD)), ((a 5), .inr (0, [.ref (a 6), .ref (a 7), .int (nI c), .int t, .int (nI y)])), ((a 6), .inl (cI, 6, .inl fW)), ((a 7), .inl (cI, 6, .inl fD))]) hP hD [8, 9, 10, 5, 6, 7] [0, 1, 2, 3, 4] rfl rfl (by decide) (by decide) hk1 hFc hP1 hD1
  clear hz1 hk1 ht hvm hFc
  generalize H1 = H at hP hS ⊢
  have hP : va_P D vwCl [((a 0), .inr (1, [.ref (a 1), .ref (a 2), .ref (a 3), .ref (a 4), .ref (a 5), .ref (a 8), .int (nI k), .int (nI st), .int fi])), ((a 1), .inl (cI, 8, .inl fB)), ((a 2), .inl (cI, 8, .inl fS)), ((a 3), .inl (cJ, 8, .inr (.inl fL))), ((a 4), .inl (cI, 8, .inl fO)), ((a 8), .inr (0, [.ref (a 9), .ref (a 10), .int (nI c), .int t, .int (nI y)])), ((a 9), .inl (cI, 6, .inl fW)), ((a 10), .inl (cI, 6, .inl fD)), ((a 5), .inr (0, [.ref (a 6), .ref (a 7), .int (nI c), .int t, .int (nI y)])), ((a 6), .inl (cI, 6, .inl fW)), ((a 7), .inl (cI, 6, .inl fD))] H := hP
  have hD : va_D A [((a 0), .inr (1, [.ref (a 1), .ref (a 2), .ref (a 3), .ref (a 4), .ref (a 5), .ref (a 8), .int (nI k), .int (nI st), .int fi])), ((a 1), .inl (cI, 8, .inl fB)), ((a 2), .inl (cI, 8, .inl fS)), ((a 3), .inl (cJ, 8, .inr (.inl fL))), ((a 4), .inl (cI, 8, .inl fO)), ((a 8), .inr (0, [.ref (a 9), .ref (a 10), .int (nI c), .int t, .int (nI y)])), ((a 9), .inl (cI, 6, .inl fW)), ((a 10), .inl (cI, 6, .inl fD)), ((a 5), .inr (0, [.ref (a 6), .ref (a 7), .int (nI c), .int t, .int (nI y)])), ((a 6), .inl (cI, 6, .inl fW)), ((a 7), .inl (cI, 6, .inl fD))] := hD
  refine lv_iconst (v := 0) hx hb dX1_bestDayAt_16 (by decide) ?_
  refine lv_istore_n (lv' := [(2, .int 0), (0, .ref (a 0)), (1, .int (nI jv))]) hx hb dX1_bestDayAt_17 rfl hl (by decide) rfl (fun ls hl => ?_)
  refine lv_aload_n hx hb dX1_bestDayAt_18 rfl (lv_at hl 1 rfl) ?_
  refine va_get (D := D) (ci := 1) (v := .ref (a 8)) (C := RX1) (T := TX1) (N := 9) hx hb hts hiX1 hown hK hP 0 rfl rfl 5 (by decide) hw30 (fun _ h9 => h9) rfl dX1_bestDayAt_19 ?_
  refine va_getN (host := RX1) (D := D) (ci := 0) (v := .ref (a 10)) (C := RX0) (T := TX0) (N := 5) hx hb hts hiX0 hown hK hP 5 rfl rfl 1 (by decide) (va_Nw.use rfl hC.2.1.2.2.1) (fun _ h9 => h9) rfl dX1_bestDayAt_22 ?_
  refine lv_iload_n hx hb dX1_bestDayAt_25 rfl (lv_at hl 2 rfl) ?_
  refine xa_iald hx hb hK hP 7 0 rfl rfl (by omega) (by decide) dX1_bestDayAt_26 ?_
  refine lv_istore_n (lv' := [(3, .int (fD jv)), (2, .int 0), (0, .ref (a 0)), (1, .int (nI jv))]) hx hb dX1_bestDayAt_27 rfl hl (by decide) rfl (fun ls hl => ?_)
  refine lv_iconst (v := 1) hx hb dX1_bestDayAt_28 (by decide) ?_
  refine lv_istore (lv' := [(4, .int 1), (3, .int (fD jv)), (2, .int 0), (0, .ref (a 0)), (1, .int (nI jv))]) hx hb dX1_bestDayAt_29 hl (by decide) rfl (fun ls hl => ?_)
  have hP := hP.sub (ws' := [((a 0), .inr (1, [.ref (a 1), .ref (a 2), .ref (a 3), .ref (a 4), .ref (a 5), .ref (a 8), .int (nI k), .int (nI st), .int fi])), ((a 1), .inl (cI, 8, .inl fB)), ((a 2), .inl (cI, 8, .inl fS)), ((a 3), .inl (cJ, 8, .inr (.inl fL))), ((a 4), .inl (cI, 8, .inl fO)), ((a 5), .inr (0, [.ref (a 6), .ref (a 7), .int (nI c), .int t, .int (nI y)])), ((a 6), .inl (cI, 6, .inl fW)), ((a 7), .inl (cI, 6, .inl fD)), ((a 8), .inr (0, [.ref (a 9), .ref (a 10), .int (nI c), .int t, .int (nI y)])), ((a 9), .inl (cI, 6, .inl fW)), ((a 10), .inl (cI, 6, .inl fD))]) [0, 1, 2, 3, 4, 8, 9, 10, 5, 6, 7] rfl
  have hD := hD.sub (ws' := [((a 0), .inr (1, [.ref (a 1), .ref (a 2), .ref (a 3), .ref (a 4), .ref (a 5), .ref (a 8), .int (nI k), .int (nI st), .int fi])), ((a 1), .inl (cI, 8, .inl fB)), ((a 2), .inl (cI, 8, .inl fS)), ((a 3), .inl (cJ, 8, .inr (.inl fL))), ((a 4), .inl (cI, 8, .inl fO)), ((a 5), .inr (0, [.ref (a 6), .ref (a 7), .int (nI c), .int t, .int (nI y)])), ((a 6), .inl (cI, 6, .inl fW)), ((a 7), .inl (cI, 6, .inl fD)), ((a 8), .inr (0, [.ref (a 9), .ref (a 10), .int (nI c), .int t, .int (nI y)])), ((a 9), .inl (cI, 6, .inl fW)), ((a 10), .inl (cI, 6, .inl fD))]) [0, 1, 2, 3, 4, 8, 9, 10, 5, 6, 7] (by decide) rfl
  refine loopW (σ := Unit) (I := fun i x H locs ls => lv_has ls 5 [(0, .ref (a 0)), (1, .int (nI jv)), (2, .int (nI (bdB c t y fW fD jv i))), (3, .int (dIt c t y fW fD (bdB c t y fW fD jv i) jv)), (4, .int (nI (i + 1)))] ∧ va_P D vwCl [((a 0), .inr (1, [.ref (a 1), .ref (a 2), .ref (a 3), .ref (a 4), .ref (a 5), .ref (a 8), .int (nI k), .int (nI st), .int fi])), ((a 1), .inl (cI, 8, .inl fB)), ((a 2), .inl (cI, 8, .inl fS)), ((a 3), .inl (cJ, 8, .inr (.inl fL))), ((a 4), .inl (cI, 8, .inl fO)), ((a 5), .inr (0, [.ref (a 6), .ref (a 7), .int (nI c), .int t, .int (nI y)])), ((a 6), .inl (cI, 6, .inl fW)), ((a 7), .inl (cI, 6, .inl fD)), ((a 8), .inr (0, [.ref (a 9), .ref (a 10), .int (nI c), .int t, .int (nI (y + i))])), ((a 9), .inl (cI, 6, .inl fW)), ((a 10), .inl (cI, 6, .inl (dIt c t y fW fD i)))] H ∧ va_D A [((a 0), .inr (1, [.ref (a 1), .ref (a 2), .ref (a 3), .ref (a 4), .ref (a 5), .ref (a 8), .int (nI k), .int (nI st), .int fi])), ((a 1), .inl (cI, 8, .inl fB)), ((a 2), .inl (cI, 8, .inl fS)), ((a 3), .inl (cJ, 8, .inr (.inl fL))), ((a 4), .inl (cI, 8, .inl fO)), ((a 5), .inr (0, [.ref (a 6), .ref (a 7), .int (nI c), .int t, .int (nI y)])), ((a 6), .inl (cI, 6, .inl fW)), ((a 7), .inl (cI, 6, .inl fD)), ((a 8), .inr (0, [.ref (a 9), .ref (a 10), .int (nI c), .int t, .int (nI (y + i))])), ((a 9), .inl (cI, 6, .inl fW)), ((a 10), .inl (cI, 6, .inl (dIt c t y fW fD i)))] ∧ va_S A s.heap H locs) 30 ?_ 0 () _ _ ls (by omega) ⟨lv_sub hl [3, 4, 2, 1, 0] rfl, hP, hD, hS⟩
  intro i x H locs ls hi hI kk
  obtain ⟨hl, hP, hD, hS⟩ := hI
  refine lv_iload hx hb dX1_bestDayAt_31 (lv_at hl 4 rfl) ?_
  refine lv_bipush (v := 30) hx hb dX1_bestDayAt_33 (by decide) ?_
  refine lv_icmp_gt (tgt := 78) hx hb dX1_bestDayAt_35 (by decide) (fun c_35 => ?_) (fun c_35 => ?_)
  · skip
    simp only [Int32.lt_iff_toInt_lt] at c_35
    rw [nI_toInt (n := (i + 1)) (by omega)] at c_35
    rw [(by decide : (30 : Int32).toInt = 30)] at c_35
    have e9 : 30 = i := by omega
    subst e9
    refine lv_iload_n hx hb dX1_bestDayAt_78 rfl (lv_at hl 2 rfl) ?_
    exact W.iret (v := (nI (bdB c t y fW fD jv 30))) hx hb hr (fun t9 ht hW => ⟨⟨(nI (bdB c t y fW fD jv 30)), [((a 0), .inr (1, [.ref (a 1), .ref (a 2), .ref (a 3), .ref (a 4), .ref (a 5), .ref (a 8), .int (nI k), .int (nI st), .int fi])), ((a 1), .inl (cI, 8, .inl fB)), ((a 2), .inl (cI, 8, .inl fS)), ((a 3), .inl (cJ, 8, .inr (.inl fL))), ((a 4), .inl (cI, 8, .inl fO)), ((a 5), .inr (0, [.ref (a 6), .ref (a 7), .int (nI c), .int t, .int (nI y)])), ((a 6), .inl (cI, 6, .inl fW)), ((a 7), .inl (cI, 6, .inl fD)), ((a 8), .inr (0, [.ref (a 9), .ref (a 10), .int (nI c), .int t, .int (nI (y + 30))])), ((a 9), .inl (cI, 6, .inl fW)), ((a 10), .inl (cI, 6, .inl (dIt c t y fW fD 30)))], rfl, ⟨rfl, ⟨_, _, _, _, _, rfl⟩⟩, by rw [ht]; exact hP, hD⟩, hS.F ht⟩) hS.2.2 dX1_bestDayAt_79
  · skip
    simp only [Int32.lt_iff_toInt_lt] at c_35
    rw [nI_toInt (n := (i + 1)) (by omega)] at c_35
    rw [(by decide : (30 : Int32).toInt = 30)] at c_35
    refine lv_aload_n hx hb dX1_bestDayAt_38 rfl (lv_at hl 0 rfl) ?_
    refine va_get (D := D) (ci := 1) (v := .ref (a 8)) (C := RX1) (T := TX1) (N := 9) hx hb hts hiX1 hown hK hP 0 rfl rfl 5 (by decide) hw30 (fun _ h9 => h9) rfl dX1_bestDayAt_39 ?_
    have hFc := va_free (wc := [((a 8), .inr (0, [.ref (a 9), .ref (a 10), .int (nI c), .int t, .int (nI (y + i))])), ((a 9), .inl (cI, 6, .inl fW)), ((a 10), .inl (cI, 6, .inl (dIt c t y fW fD i)))]) hD hS hA [8, 9, 10] rfl
    refine va_calli (va_runVN (As := []) (rest := []) ⟨hx, hb, hml, hown, hts⟩ (c_X0_coinsPaidNextDay l D cI cJ H.size (a 8) (a 9) (a 10) c t (y + i) fW (dIt c t y fW fD i) (by omega) (by omega)) ⟨va_cnB (host := RX1) 0 hts ggX1_bestDayAt_X0_coinsPaidNextDay rfl rfl rfl hC.2.1.2.2.2.2.2.2.2.2.2.2 (hts (.initialized RX0) (by decide +kernel)) (by decide +kernel) ⟨Nat.le_of_ble_eq_true rfl, Nat.le_of_ble_eq_true rfl⟩, hts (.instanceMethod yX0_coinsPaidNextDay) (by decide +kernel), hts (.selects RX0 yX0_coinsPaidNextDay yX0_coinsPaidNextDay) (by decide +kernel)⟩ (preV_wr KM_ok (hP.sub (ws' := [((a 8), .inr (0, [.ref (a 9), .ref (a 10), .int (nI c), .int t, .int (nI (y + i))])), ((a 9), .inl (cI, 6, .inl fW)), ((a 10), .inl (cI, 6, .inl (dIt c t y fW fD i)))]) [8, 9, 10] rfl) (hD.sub (ws' := [((a 8), .inr (0, [.ref (a 9), .ref (a 10), .int (nI c), .int t, .int (nI (y + i))])), ((a 9), .inl (cI, 6, .inl fW)), ((a 10), .inl (cI, 6, .inl (dIt c t y fW fD i)))]) [8, 9, 10] (by decide) rfl) hK (va_recv hK hP (ci := 0) (q0 := 8) rfl rfl)) rfl rfl hl.1 rfl (lv_room (Nat.le_of_ble_eq_true rfl)) dX1_bestDayAt_42 ⟨by decide, by decide⟩) hS (fun q _ h => hFc q h) hFc (fun r_42 u t9 H1 locs ht hvm hw9 hB hz1 hk1 hS => ?_)
    obtain ⟨hr9, rfl⟩ := hw9
    have hr9 := hr9.symm
    subst hr9
    obtain ⟨hP1, hD1⟩ := hB
    rw [ht] at hP1
    obtain ⟨hP, hD⟩ := va_join (wr := [((a 0), .inr (1, [.ref (a 1), .ref (a 2), .ref (a 3), .ref (a 4), .ref (a 5), .ref (a 8), .int (nI k), .int (nI st), .int fi])), ((a 1), .inl (cI, 8, .inl fB)), ((a 2), .inl (cI, 8, .inl fS)), ((a 3), .inl (cJ, 8, .inr (.inl fL))), ((a 4), .inl (cI, 8, .inl fO)), ((a 5), .inr (0, [.ref (a 6), .ref (a 7), .int (nI c), .int t, .int (nI y)])), ((a 6), .inl (cI, 6, .inl fW)), ((a 7), .inl (cI, 6, .inl fD))]) (w1 := [((a 8), .inr (0, [.ref (a 9), .ref (a 10), .int (nI c), .int t, .int (nI ((y + i) + 1))])), ((a 9), .inl (cI, 6, .inl fW)), ((a 10), .inl (cI, 6, .inl (dDr c t (y + i) fW (dIt c t y fW fD i))))]) hP hD [8, 9, 10] [0, 1, 2, 3, 4, 5, 6, 7] rfl rfl (by decide) (by decide) hk1 hFc hP1 hD1
    clear hz1 hk1 ht hvm hFc
    generalize H1 = H at hP hS ⊢
    have hP : va_P D vwCl [((a 0), .inr (1, [.ref (a 1), .ref (a 2), .ref (a 3), .ref (a 4), .ref (a 5), .ref (a 8), .int (nI k), .int (nI st), .int fi])), ((a 1), .inl (cI, 8, .inl fB)), ((a 2), .inl (cI, 8, .inl fS)), ((a 3), .inl (cJ, 8, .inr (.inl fL))), ((a 4), .inl (cI, 8, .inl fO)), ((a 5), .inr (0, [.ref (a 6), .ref (a 7), .int (nI c), .int t, .int (nI y)])), ((a 6), .inl (cI, 6, .inl fW)), ((a 7), .inl (cI, 6, .inl fD)), ((a 8), .inr (0, [.ref (a 9), .ref (a 10), .int (nI c), .int t, .int (nI ((y + i) + 1))])), ((a 9), .inl (cI, 6, .inl fW)), ((a 10), .inl (cI, 6, .inl (dDr c t (y + i) fW (dIt c t y fW fD i))))] H := hP
    have hD : va_D A [((a 0), .inr (1, [.ref (a 1), .ref (a 2), .ref (a 3), .ref (a 4), .ref (a 5), .ref (a 8), .int (nI k), .int (nI st), .int fi])), ((a 1), .inl (cI, 8, .inl fB)), ((a 2), .inl (cI, 8, .inl fS)), ((a 3), .inl (cJ, 8, .inr (.inl fL))), ((a 4), .inl (cI, 8, .inl fO)), ((a 5), .inr (0, [.ref (a 6), .ref (a 7), .int (nI c), .int t, .int (nI y)])), ((a 6), .inl (cI, 6, .inl fW)), ((a 7), .inl (cI, 6, .inl fD)), ((a 8), .inr (0, [.ref (a 9), .ref (a 10), .int (nI c), .int t, .int (nI ((y + i) + 1))])), ((a 9), .inl (cI, 6, .inl fW)), ((a 10), .inl (cI, 6, .inl (dDr c t (y + i) fW (dIt c t y fW fD i))))] := hD
    refine lv_pop hx hb dX1_bestDayAt_45 rfl ?_
    refine lv_aload_n hx hb dX1_bestDayAt_46 rfl (lv_at hl 0 rfl) ?_
    refine va_get (D := D) (ci := 1) (v := .ref (a 8)) (C := RX1) (T := TX1) (N := 9) hx hb hts hiX1 hown hK hP 0 rfl rfl 5 (by decide) hw30 (fun _ h9 => h9) rfl dX1_bestDayAt_47 ?_
    refine va_getN (host := RX1) (D := D) (ci := 0) (v := .ref (a 10)) (C := RX0) (T := TX0) (N := 5) hx hb hts hiX0 hown hK hP 8 rfl rfl 1 (by decide) (va_Nw.use rfl hC.2.1.2.2.1) (fun _ h9 => h9) rfl dX1_bestDayAt_50 ?_
    refine lv_iload_n hx hb dX1_bestDayAt_53 rfl (lv_at hl 1 rfl) ?_
    refine xa_iald hx hb hK hP 10 0 rfl rfl (by omega) (by decide) dX1_bestDayAt_54 ?_
    refine lv_iload_n hx hb dX1_bestDayAt_55 rfl (lv_at hl 3 rfl) ?_
    refine lv_icmp_le (tgt := 72) hx hb dX1_bestDayAt_56 (by decide) (fun c_56 => ?_) (fun c_56 => ?_)
    · skip
      simp only [Int32.le_iff_toInt_le] at c_56
      have c_56 : (dIt c t y fW fD (i + 1) jv).toInt ≤ (dIt c t y fW fD (bdB c t y fW fD jv i) jv).toInt := c_56
      have e7 : bdB c t y fW fD jv (i + 1) = bdB c t y fW fD jv i := ic_f (by omega)
      refine lv_iinc (v := (nI ((i + 1) + 1))) (lv' := [(4, .int (nI ((i + 1) + 1))), (0, .ref (a 0)), (1, .int (nI jv)), (2, .int (nI (bdB c t y fW fD jv i))), (3, .int (dIt c t y fW fD (bdB c t y fW fD jv i) jv))]) hx hb dX1_bestDayAt_72 hl (k := 4) rfl (nI_inc (i + 1)) (by decide) rfl (fun ls hl => ?_)
      refine lv_goto (tgt := 31) hx hb dX1_bestDayAt_75 (by decide) ?_
      exact kk () _ _ ls (by omega) ⟨by rw [e7]; exact lv_sub hl [1, 2, 3, 4, 0] rfl, hP, hD, hS⟩
    · skip
      simp only [Int32.le_iff_toInt_le] at c_56
      have c_56 : ¬ (dIt c t y fW fD (i + 1) jv).toInt ≤ (dIt c t y fW fD (bdB c t y fW fD jv i) jv).toInt := c_56
      have e7 : bdB c t y fW fD jv (i + 1) = i + 1 := ic_t (by omega)
      refine lv_aload_n hx hb dX1_bestDayAt_59 rfl (lv_at hl 0 rfl) ?_
      refine va_get (D := D) (ci := 1) (v := .ref (a 8)) (C := RX1) (T := TX1) (N := 9) hx hb hts hiX1 hown hK hP 0 rfl rfl 5 (by decide) hw30 (fun _ h9 => h9) rfl dX1_bestDayAt_60 ?_
      refine va_getN (host := RX1) (D := D) (ci := 0) (v := .ref (a 10)) (C := RX0) (T := TX0) (N := 5) hx hb hts hiX0 hown hK hP 8 rfl rfl 1 (by decide) (va_Nw.use rfl hC.2.1.2.2.1) (fun _ h9 => h9) rfl dX1_bestDayAt_63 ?_
      refine lv_iload_n hx hb dX1_bestDayAt_66 rfl (lv_at hl 1 rfl) ?_
      refine xa_iald hx hb hK hP 10 0 rfl rfl (by omega) (by decide) dX1_bestDayAt_67 ?_
      refine lv_istore_n (lv' := [(3, .int ((dDr c t (y + i) fW (dIt c t y fW fD i)) jv)), (0, .ref (a 0)), (1, .int (nI jv)), (2, .int (nI (bdB c t y fW fD jv i))), (4, .int (nI (i + 1)))]) hx hb dX1_bestDayAt_68 rfl hl (by decide) rfl (fun ls hl => ?_)
      refine lv_iload hx hb dX1_bestDayAt_69 (lv_at hl 4 rfl) ?_
      refine lv_istore_n (lv' := [(2, .int (nI (i + 1))), (3, .int ((dDr c t (y + i) fW (dIt c t y fW fD i)) jv)), (0, .ref (a 0)), (1, .int (nI jv)), (4, .int (nI (i + 1)))]) hx hb dX1_bestDayAt_71 rfl hl (by decide) rfl (fun ls hl => ?_)
      refine lv_iinc (v := (nI ((i + 1) + 1))) (lv' := [(4, .int (nI ((i + 1) + 1))), (2, .int (nI (i + 1))), (3, .int ((dDr c t (y + i) fW (dIt c t y fW fD i)) jv)), (0, .ref (a 0)), (1, .int (nI jv))]) hx hb dX1_bestDayAt_72 hl (k := 4) rfl (nI_inc (i + 1)) (by decide) rfl (fun ls hl => ?_)
      refine lv_goto (tgt := 31) hx hb dX1_bestDayAt_75 (by decide) ?_
      exact kk () _ _ ls (by omega) ⟨by rw [e7]; exact lv_sub hl [3, 4, 1, 2, 0] rfl, hP, hD, hS⟩
