set_option maxHeartbeats 4000000 in
set_option maxRecDepth 100000 in
theorem c_X1_pieces (l : Launch) (hst : l.stackTraces = false) (D : va_G) (cI cJ : ClassId) (a : Nat → Nat) (k st : Nat) (fi : Int32) (fB fS fO : Nat → Int32) (fL : Nat → Int64) (c : Nat) (t : Int32) (y : Nat) (fW fD : Nat → Int32) (c2 t2 y2 : Int32) (gW gD : Nat → Int32) (hM : MOk k fL fO) (hst2 : st < k) (w : Int32) (x : Int32) : vx_Met l yX1_pieces wsX1_pieces ({ frames := 7, cells := 2, slots := 12, locals := 150 }) (cP D [((a 0), .inr (1, [.ref (a 1), .ref (a 2), .ref (a 3), .ref (a 4), .ref (a 5), .ref (a 8), .int (nI k), .int (nI st), .int fi])), ((a 1), .inl (cI, 8, .inl fB)), ((a 2), .inl (cI, 8, .inl fS)), ((a 3), .inl (cJ, 8, .inr (.inl fL))), ((a 4), .inl (cI, 8, .inl fO)), ((a 5), .inr (0, [.ref (a 6), .ref (a 7), .int (nI c), .int t, .int (nI y)])), ((a 6), .inl (cI, 6, .inl fW)), ((a 7), .inl (cI, 6, .inl fD)), ((a 8), .inr (0, [.ref (a 9), .ref (a 10), .int c2, .int t2, .int y2])), ((a 9), .inl (cI, 6, .inl gW)), ((a 10), .inl (cI, 6, .inl gD))] (KC D cI cJ a) [.ref (a 0), .int w, .int x]) (rol (fun r => inM k x ∧ inR 1 200 w ∧ r = tkT (lnA fL fO) (fL x.toNatClampNeg * w.toInt64) k)) (rox (fun E => (E = eIO ∧ ¬ inM k x) ∨ (E = eIA ∧ inM k x ∧ ¬ inR 1 200 w))) 2 12 (fun _ => False) := by
  refine vx_ofW (cc := cX1_pieces) (maxL := 8) (ret := (some .long)) (by decide +kernel) rfl ?_
  intro p e s m args below meth c9 s₁ B hml hout hv
  obtain ⟨rfl, hP, hC⟩ := hv
  have hx := B.exec
  have hb := B.bytes
  have hr := B.returns
  have hts := atoms_spec (ws := wsX1_pieces) B.pre
  have hown : s.vm.findClass RX1 = some m.cls := findClass_of_methodNamed B.named
  have hlocks := B.notSynchronized
  have hK : va_K D vwCl [(cI, .int), (cJ, .long)] s := hC.1
  have hl := lv_entry ([.ref (a 0), .int w, .int x]) (n := 8) (Nat.le_of_ble_eq_true rfl)
  rw [lg_entry_eq]
  generalize (lg_sl ([.ref (a 0), .int w, .int x]) ++ List.replicate (8 - (lg_sl ([.ref (a 0), .int w, .int x])).length) Slot.unset).toArray = ls at hl ⊢
  have hl : lv_has ls 8 [(0, .ref (a 0)), (1, .int w), (2, .int x)] := hl
  have hk8 : k ≤ 8 := hM.2.1
  have hk1 : 1 ≤ k := hM.1
  have hiX1 : ∀ w ∈ u_ws RX1 TX1 9, w ∈ wsX1_pieces := by decide +kernel
  have hw16 : (Cond.fieldLink RX1 16 "OldMeasures" "lengths" "[J").before ([.ref (a 0), .int w, .int x] : List Value).toArray s = true := hts _ (by decide +kernel)
  have hw33 : (Cond.fieldLink RX1 33 "OldMeasures" "measureCount" "I").before ([.ref (a 0), .int w, .int x] : List Value).toArray s = true := hts _ (by decide +kernel)
  refine lv_aload_n hx hb dX1_pieces_0 rfl (lv_at hl 0 rfl) ?_
  refine lv_iload_n hx hb dX1_pieces_1 rfl (lv_at hl 2 rfl) ?_
  refine xro_vP (vx_runV (As := [.int x]) (rest := []) ⟨hx, hb, hml, hown, hts⟩ (c_X1_needMeasure l hst D cI cJ a k st fi fB fS fO fL c t y fW fD c2 t2 y2 gW gD (by omega) x) (cwV 1 hts gX1_pieces_X1_needMeasure rfl rfl rfl (by decide +kernel) ⟨Nat.le_of_ble_eq_true rfl, Nat.le_of_ble_eq_true rfl⟩) (preV_ro KC_ok hP hC (va_recv hK hP (ci := 1) (q0 := 0) rfl rfl)) rfl rfl hl.1 rfl (lv_room (Nat.le_of_ble_eq_true rfl)) dX1_pieces_2 ⟨by decide, by decide⟩) hout hlocks (by decide) (by decide) (fun E h9 => Or.inl ⟨h9.1, h9.2⟩) (fun hp_2 => ?_)
  obtain ⟨jx, hj_x, rfl⟩ := inM_of hp_2 (by omega)
  refine lv_iload_n hx hb dX1_pieces_5 rfl (lv_at hl 1 rfl) ?_
  refine xro_vP (vx_runS (As := [.int w]) (rest := []) ⟨hx, hb, hml, hown, hts⟩ (c_X1_needMany l hst D cI cJ a w) (va_cwS 1 hts gX1_pieces_X1_needMany rfl rfl rfl (by decide +kernel) ⟨Nat.le_of_ble_eq_true rfl, Nat.le_of_ble_eq_true rfl⟩) (preS_ro KC_ok (hP.sub (ws' := []) [] rfl) hC) rfl rfl hl.1 rfl (lv_room (Nat.le_of_ble_eq_true rfl)) dX1_pieces_6 ⟨by decide, by decide⟩) hout hlocks (by decide) (by decide) (fun E h9 => Or.inr (⟨h9.1, hp_2, h9.2⟩)) (fun hp_6 => ?_)
  refine lv_aload_n hx hb dX1_pieces_9 rfl (lv_at hl 0 rfl) ?_
  refine va_get (D := D) (ci := 1) (v := .ref (a 3)) (C := RX1) (T := TX1) (N := 9) hx hb hts hiX1 hown hK hP 0 rfl rfl 2 (by decide) hw16 (fun _ h9 => h9) rfl dX1_pieces_10 ?_
  refine lv_iload_n hx hb dX1_pieces_13 rfl (lv_at hl 2 rfl) ?_
  refine xa_lald hx hb hK hP 3 1 rfl rfl (by omega) (by decide) dX1_pieces_14 ?_
  refine lv_iload_n hx hb dX1_pieces_15 rfl (lv_at hl 1 rfl) ?_
  refine lv_i2l (v := (w).toInt64) hx hb dX1_pieces_16 rfl ?_
  refine lv_lmul hx hb dX1_pieces_17 ?_
  refine lv_lstore_n (lv' := [(3, .long ((fL jx) * (w).toInt64)), (0, .ref (a 0)), (1, .int w), (2, .int (nI jx))]) hx hb dX1_pieces_18 rfl hl (by decide) rfl (fun ls hl => ?_)
  refine lv_lconst (v := 0) hx hb dX1_pieces_19 (by decide) ?_
  refine lv_lstore (lv' := [(5, .long 0), (3, .long ((fL jx) * (w).toInt64)), (0, .ref (a 0)), (1, .int w), (2, .int (nI jx))]) hx hb dX1_pieces_20 hl (by decide) rfl (fun ls hl => ?_)
  refine lv_iconst (v := 0) hx hb dX1_pieces_22 (by decide) ?_
  refine lv_istore (lv' := [(7, .int 0), (5, .long 0), (3, .long ((fL jx) * (w).toInt64)), (0, .ref (a 0)), (1, .int w), (2, .int (nI jx))]) hx hb dX1_pieces_23 hl (by decide) rfl (fun ls hl => ?_)
  refine loopR (σ := Unit) (I := fun i x ls => lv_has ls 8 [(0, .ref (a 0)), (3, .long (lfT (lnA fL fO) (fL jx * (w).toInt64) i)), (5, .long (tkT (lnA fL fO) (fL jx * (w).toInt64) i)), (7, .int (nI i))] ∧ (True)) k ?_ 0 () ls (by omega) ⟨lv_sub hl [3, 2, 1, 0] rfl, trivial⟩
  intro i x ls hi hI kk
  obtain ⟨hl, _⟩ := hI
  refine lv_iload hx hb dX1_pieces_25 (lv_at hl 3 rfl) ?_
  refine lv_aload_n hx hb dX1_pieces_27 rfl (lv_at hl 0 rfl) ?_
  refine va_get (D := D) (ci := 1) (v := .int (nI k)) (C := RX1) (T := TX1) (N := 9) hx hb hts hiX1 hown hK hP 0 rfl rfl 6 (by decide) hw33 (fun _ h9 => h9) rfl dX1_pieces_28 ?_
  refine lv_icmp_ge (tgt := 66) hx hb dX1_pieces_31 (by decide) (fun c_31 => ?_) (fun c_31 => ?_)
  · skip
    simp only [Int32.le_iff_toInt_le] at c_31
    rw [nI_toInt (n := i) (by omega)] at c_31
    rw [nI_toInt (n := k) (by omega)] at c_31
    have e9 : k = i := by omega
    subst e9
    refine lv_lload hx hb dX1_pieces_66 (lv_at hl 2 rfl) ?_
    refine vx_ret ?_
    exact W.lret (v := (tkT (lnA fL fO) (fL jx * (w).toInt64) k)) hx hb hr (fun t9 ht hW => ⟨_, rfl, ⟨hp_2, hp_6, by simp only [nI_clamp (show jx < 2 ^ 31 by omega)]⟩, ht⟩) (fun q hq => absurd hq List.not_mem_nil) dX1_pieces_68
  · skip
    simp only [Int32.le_iff_toInt_le] at c_31
    rw [nI_toInt (n := i) (by omega)] at c_31
    rw [nI_toInt (n := k) (by omega)] at c_31
    refine lv_lload hx hb dX1_pieces_34 (lv_at hl 2 rfl) ?_
    refine lv_lload_n hx hb dX1_pieces_36 rfl (lv_at hl 1 rfl) ?_
    refine lv_aload_n hx hb dX1_pieces_37 rfl (lv_at hl 0 rfl) ?_
    refine lv_iload hx hb dX1_pieces_38 (lv_at hl 3 rfl) ?_
    refine ro_lE (va_runV (As := [.int (nI i)]) (rest := [.long (lfT (lnA fL fO) (fL jx * (w).toInt64) i), .long (tkT (lnA fL fO) (fL jx * (w).toInt64) i)]) ⟨hx, hb, hml, hown, hts⟩ (c_X1_lengthAt l D cI cJ a k st fi fB fS fO fL c t y fW fD c2 t2 y2 gW gD i (by omega) (hM.at (by omega))) (cwV 1 hts gX1_pieces_X1_lengthAt rfl rfl rfl (by decide +kernel) ⟨Nat.le_of_ble_eq_true rfl, Nat.le_of_ble_eq_true rfl⟩) (preV_ro KM_ok (hP.sub (ws' := [((a 0), .inr (1, [.ref (a 1), .ref (a 2), .ref (a 3), .ref (a 4), .ref (a 5), .ref (a 8), .int (nI k), .int (nI st), .int fi])), ((a 1), .inl (cI, 8, .inl fB)), ((a 2), .inl (cI, 8, .inl fS)), ((a 3), .inl (cJ, 8, .inr (.inl fL))), ((a 4), .inl (cI, 8, .inl fO)), ((a 5), .inr (0, [.ref (a 6), .ref (a 7), .int (nI c), .int t, .int (nI y)])), ((a 6), .inl (cI, 6, .inl fW)), ((a 7), .inl (cI, 6, .inl fD)), ((a 8), .inr (0, [.ref (a 9), .ref (a 10), .int c2, .int t2, .int y2])), ((a 9), .inl (cI, 6, .inl gW)), ((a 10), .inl (cI, 6, .inl gD))]) [0, 1, 2, 3, 4, 5, 6, 7, 8, 9, 10] rfl) hK (va_recv hK hP (ci := 1) (q0 := 0) rfl rfl)) rfl rfl hl.1 rfl (lv_room (Nat.le_of_ble_eq_true rfl)) dX1_pieces_40 ⟨by decide, by decide⟩) ?_
    refine ro_lE (va_runS (As := [.long (lfT (lnA fL fO) (fL jx * (w).toInt64) i), .long (lnA fL fO i)]) (rest := [.long (tkT (lnA fL fO) (fL jx * (w).toInt64) i)]) ⟨hx, hb, hml, hown, hts⟩ (c_X1_timesIn l (lfT (lnA fL fO) (fL jx * (w).toInt64) i) (lnA fL fO i) (hM.pos (by omega))) (va_cwS 2 hts gX1_pieces_X1_timesIn rfl rfl rfl (by decide +kernel) ⟨Nat.le_of_ble_eq_true rfl, Nat.le_of_ble_eq_true rfl⟩) pre0 rfl rfl hl.1 rfl (lv_room (Nat.le_of_ble_eq_true rfl)) dX1_pieces_43 ⟨by decide, by decide⟩) ?_
    refine lv_ladd hx hb dX1_pieces_46 ?_
    refine lv_lstore (lv' := [(5, .long ((tkT (lnA fL fO) (fL jx * (w).toInt64) i) + ((lfT (lnA fL fO) (fL jx * (w).toInt64) i) / (lnA fL fO i)))), (0, .ref (a 0)), (3, .long (lfT (lnA fL fO) (fL jx * (w).toInt64) i)), (7, .int (nI i))]) hx hb dX1_pieces_47 hl (by decide) rfl (fun ls hl => ?_)
    refine lv_lload_n hx hb dX1_pieces_49 rfl (lv_at hl 2 rfl) ?_
    refine lv_aload_n hx hb dX1_pieces_50 rfl (lv_at hl 1 rfl) ?_
    refine lv_iload hx hb dX1_pieces_51 (lv_at hl 3 rfl) ?_
    refine ro_lE (va_runV (As := [.int (nI i)]) (rest := [.long (lfT (lnA fL fO) (fL jx * (w).toInt64) i)]) ⟨hx, hb, hml, hown, hts⟩ (c_X1_lengthAt l D cI cJ a k st fi fB fS fO fL c t y fW fD c2 t2 y2 gW gD i (by omega) (hM.at (by omega))) (cwV 1 hts gX1_pieces_X1_lengthAt rfl rfl rfl (by decide +kernel) ⟨Nat.le_of_ble_eq_true rfl, Nat.le_of_ble_eq_true rfl⟩) (preV_ro KM_ok (hP.sub (ws' := [((a 0), .inr (1, [.ref (a 1), .ref (a 2), .ref (a 3), .ref (a 4), .ref (a 5), .ref (a 8), .int (nI k), .int (nI st), .int fi])), ((a 1), .inl (cI, 8, .inl fB)), ((a 2), .inl (cI, 8, .inl fS)), ((a 3), .inl (cJ, 8, .inr (.inl fL))), ((a 4), .inl (cI, 8, .inl fO)), ((a 5), .inr (0, [.ref (a 6), .ref (a 7), .int (nI c), .int t, .int (nI y)])), ((a 6), .inl (cI, 6, .inl fW)), ((a 7), .inl (cI, 6, .inl fD)), ((a 8), .inr (0, [.ref (a 9), .ref (a 10), .int c2, .int t2, .int y2])), ((a 9), .inl (cI, 6, .inl gW)), ((a 10), .inl (cI, 6, .inl gD))]) [0, 1, 2, 3, 4, 5, 6, 7, 8, 9, 10] rfl) hK (va_recv hK hP (ci := 1) (q0 := 0) rfl rfl)) rfl rfl hl.1 rfl (lv_room (Nat.le_of_ble_eq_true rfl)) dX1_pieces_53 ⟨by decide, by decide⟩) ?_
    refine ro_lE (va_runS (As := [.long (lfT (lnA fL fO) (fL jx * (w).toInt64) i), .long (lnA fL fO i)]) (rest := []) ⟨hx, hb, hml, hown, hts⟩ (c_X1_leftOf l (lfT (lnA fL fO) (fL jx * (w).toInt64) i) (lnA fL fO i) (hM.pos (by omega))) (va_cwS 2 hts gX1_pieces_X1_leftOf rfl rfl rfl (by decide +kernel) ⟨Nat.le_of_ble_eq_true rfl, Nat.le_of_ble_eq_true rfl⟩) pre0 rfl rfl hl.1 rfl (lv_room (Nat.le_of_ble_eq_true rfl)) dX1_pieces_56 ⟨by decide, by decide⟩) ?_
    refine lv_lstore_n (lv' := [(3, .long (jrem (lfT (lnA fL fO) (fL jx * (w).toInt64) i) (lnA fL fO i))), (5, .long ((tkT (lnA fL fO) (fL jx * (w).toInt64) i) + ((lfT (lnA fL fO) (fL jx * (w).toInt64) i) / (lnA fL fO i)))), (0, .ref (a 0)), (7, .int (nI i))]) hx hb dX1_pieces_59 rfl hl (by decide) rfl (fun ls hl => ?_)
    refine lv_iinc (v := (nI (i + 1))) (lv' := [(7, .int (nI (i + 1))), (3, .long (jrem (lfT (lnA fL fO) (fL jx * (w).toInt64) i) (lnA fL fO i))), (5, .long ((tkT (lnA fL fO) (fL jx * (w).toInt64) i) + ((lfT (lnA fL fO) (fL jx * (w).toInt64) i) / (lnA fL fO i)))), (0, .ref (a 0))]) hx hb dX1_pieces_60 hl (k := 3) rfl (nI_inc i) (by decide) rfl (fun ls hl => ?_)
    refine lv_goto (tgt := 25) hx hb dX1_pieces_63 (by decide) ?_
    exact kk () ls (by omega) ⟨lv_sub hl [3, 1, 2, 0] rfl, trivial⟩

set_option maxHeartbeats 4000000 in
set_option maxRecDepth 100000 in
theorem c_X1_isTold (l : Launch) (hst : l.stackTraces = false) (D : va_G) (cI cJ : ClassId) (a : Nat → Nat) (k st : Nat) (fi : Int32) (fB fS fO : Nat → Int32) (fL : Nat → Int64) (c : Nat) (t : Int32) (y : Nat) (fW fD : Nat → Int32) (c2 t2 y2 : Int32) (gW gD : Nat → Int32) (hM : MOk k fL fO) (hst2 : st < k) (w : Int32) (x : Int32) : vx_Met l yX1_isTold wsX1_isTold ({ frames := 7, cells := 2, slots := 12, locals := 150 }) (cP D [((a 0), .inr (1, [.ref (a 1), .ref (a 2), .ref (a 3), .ref (a 4), .ref (a 5), .ref (a 8), .int (nI k), .int (nI st), .int fi])), ((a 1), .inl (cI, 8, .inl fB)), ((a 2), .inl (cI, 8, .inl fS)), ((a 3), .inl (cJ, 8, .inr (.inl fL))), ((a 4), .inl (cI, 8, .inl fO)), ((a 5), .inr (0, [.ref (a 6), .ref (a 7), .int (nI c), .int t, .int (nI y)])), ((a 6), .inl (cI, 6, .inl fW)), ((a 7), .inl (cI, 6, .inl fD)), ((a 8), .inr (0, [.ref (a 9), .ref (a 10), .int c2, .int t2, .int y2])), ((a 9), .inl (cI, 6, .inl gW)), ((a 10), .inl (cI, 6, .inl gD))] (KC D cI cJ a) [.ref (a 0), .int w, .int x]) (roi (fun r => inM k x ∧ inR 1 200 w ∧ r = bz ((lfT (lnA fL fO) (fL x.toNatClampNeg * w.toInt64) k).toInt = (0 : Int64).toInt))) (rox (fun E => (E = eIO ∧ ¬ inM k x) ∨ (E = eIA ∧ inM k x ∧ ¬ inR 1 200 w))) 2 12 (fun _ => False) := by
  refine vx_ofW (cc := cX1_isTold) (maxL := 6) (ret := (some .boolean)) (by decide +kernel) rfl ?_
  intro p e s m args below meth c9 s₁ B hml hout hv
  obtain ⟨rfl, hP, hC⟩ := hv
  have hx := B.exec
  have hb := B.bytes
  have hr := B.returns
  have hts := atoms_spec (ws := wsX1_isTold) B.pre
  have hown : s.vm.findClass RX1 = some m.cls := findClass_of_methodNamed B.named
  have hlocks := B.notSynchronized
  have hK : va_K D vwCl [(cI, .int), (cJ, .long)] s := hC.1
  have hl := lv_entry ([.ref (a 0), .int w, .int x]) (n := 6) (Nat.le_of_ble_eq_true rfl)
  rw [lg_entry_eq]
  generalize (lg_sl ([.ref (a 0), .int w, .int x]) ++ List.replicate (6 - (lg_sl ([.ref (a 0), .int w, .int x])).length) Slot.unset).toArray = ls at hl ⊢
  have hl : lv_has ls 6 [(0, .ref (a 0)), (1, .int w), (2, .int x)] := hl
  have hk8 : k ≤ 8 := hM.2.1
  have hk1 : 1 ≤ k := hM.1
  have hiX1 : ∀ w ∈ u_ws RX1 TX1 9, w ∈ wsX1_isTold := by decide +kernel
  have hw16 : (Cond.fieldLink RX1 16 "OldMeasures" "lengths" "[J").before ([.ref (a 0), .int w, .int x] : List Value).toArray s = true := hts _ (by decide +kernel)
  have hw33 : (Cond.fieldLink RX1 33 "OldMeasures" "measureCount" "I").before ([.ref (a 0), .int w, .int x] : List Value).toArray s = true := hts _ (by decide +kernel)
  refine lv_aload_n hx hb dX1_isTold_0 rfl (lv_at hl 0 rfl) ?_
  refine lv_iload_n hx hb dX1_isTold_1 rfl (lv_at hl 2 rfl) ?_
  refine xro_vP (vx_runV (As := [.int x]) (rest := []) ⟨hx, hb, hml, hown, hts⟩ (c_X1_needMeasure l hst D cI cJ a k st fi fB fS fO fL c t y fW fD c2 t2 y2 gW gD (by omega) x) (cwV 1 hts gX1_isTold_X1_needMeasure rfl rfl rfl (by decide +kernel) ⟨Nat.le_of_ble_eq_true rfl, Nat.le_of_ble_eq_true rfl⟩) (preV_ro KC_ok hP hC (va_recv hK hP (ci := 1) (q0 := 0) rfl rfl)) rfl rfl hl.1 rfl (lv_room (Nat.le_of_ble_eq_true rfl)) dX1_isTold_2 ⟨by decide, by decide⟩) hout hlocks (by decide) (by decide) (fun E h9 => Or.inl ⟨h9.1, h9.2⟩) (fun hp_2 => ?_)
  obtain ⟨jx, hj_x, rfl⟩ := inM_of hp_2 (by omega)
  refine lv_iload_n hx hb dX1_isTold_5 rfl (lv_at hl 1 rfl) ?_
  refine xro_vP (vx_runS (As := [.int w]) (rest := []) ⟨hx, hb, hml, hown, hts⟩ (c_X1_needMany l hst D cI cJ a w) (va_cwS 1 hts gX1_isTold_X1_needMany rfl rfl rfl (by decide +kernel) ⟨Nat.le_of_ble_eq_true rfl, Nat.le_of_ble_eq_true rfl⟩) (preS_ro KC_ok (hP.sub (ws' := []) [] rfl) hC) rfl rfl hl.1 rfl (lv_room (Nat.le_of_ble_eq_true rfl)) dX1_isTold_6 ⟨by decide, by decide⟩) hout hlocks (by decide) (by decide) (fun E h9 => Or.inr (⟨h9.1, hp_2, h9.2⟩)) (fun hp_6 => ?_)
  refine lv_aload_n hx hb dX1_isTold_9 rfl (lv_at hl 0 rfl) ?_
  refine va_get (D := D) (ci := 1) (v := .ref (a 3)) (C := RX1) (T := TX1) (N := 9) hx hb hts hiX1 hown hK hP 0 rfl rfl 2 (by decide) hw16 (fun _ h9 => h9) rfl dX1_isTold_10 ?_
  refine lv_iload_n hx hb dX1_isTold_13 rfl (lv_at hl 2 rfl) ?_
  refine xa_lald hx hb hK hP 3 1 rfl rfl (by omega) (by decide) dX1_isTold_14 ?_
  refine lv_iload_n hx hb dX1_isTold_15 rfl (lv_at hl 1 rfl) ?_
  refine lv_i2l (v := (w).toInt64) hx hb dX1_isTold_16 rfl ?_
  refine lv_lmul hx hb dX1_isTold_17 ?_
  refine lv_lstore_n (lv' := [(3, .long ((fL jx) * (w).toInt64)), (0, .ref (a 0)), (1, .int w), (2, .int (nI jx))]) hx hb dX1_isTold_18 rfl hl (by decide) rfl (fun ls hl => ?_)
  refine lv_iconst (v := 0) hx hb dX1_isTold_19 (by decide) ?_
  refine lv_istore (lv' := [(5, .int 0), (3, .long ((fL jx) * (w).toInt64)), (0, .ref (a 0)), (1, .int w), (2, .int (nI jx))]) hx hb dX1_isTold_20 hl (by decide) rfl (fun ls hl => ?_)
  refine loopR (σ := Unit) (I := fun i x ls => lv_has ls 6 [(0, .ref (a 0)), (3, .long (lfT (lnA fL fO) (fL jx * (w).toInt64) i)), (5, .int (nI i))] ∧ (True)) k ?_ 0 () ls (by omega) ⟨lv_sub hl [2, 1, 0] rfl, trivial⟩
  intro i x ls hi hI kk
  obtain ⟨hl, _⟩ := hI
  refine lv_iload hx hb dX1_isTold_22 (lv_at hl 2 rfl) ?_
  refine lv_aload_n hx hb dX1_isTold_24 rfl (lv_at hl 0 rfl) ?_
  refine va_get (D := D) (ci := 1) (v := .int (nI k)) (C := RX1) (T := TX1) (N := 9) hx hb hts hiX1 hown hK hP 0 rfl rfl 6 (by decide) hw33 (fun _ h9 => h9) rfl dX1_isTold_25 ?_
  refine lv_icmp_ge (tgt := 48) hx hb dX1_isTold_28 (by decide) (fun c_28 => ?_) (fun c_28 => ?_)
  · skip
    simp only [Int32.le_iff_toInt_le] at c_28
    rw [nI_toInt (n := i) (by omega)] at c_28
    rw [nI_toInt (n := k) (by omega)] at c_28
    have e9 : k = i := by omega
    subst e9
    refine lv_lload_n hx hb dX1_isTold_48 rfl (lv_at hl 1 rfl) ?_
    refine lv_lconst (v := 0) hx hb dX1_isTold_49 (by decide) ?_
    refine W.lcmp hx hb dX1_isTold_50 ?_
    refine lv_if_ne (tgt := 58) hx hb dX1_isTold_51 (by decide) (fun c_51 => ?_) (fun c_51 => ?_)
    · skip
      have c_51 := (lgc_ne _ _).mp c_51
      refine lv_iconst (v := 0) hx hb dX1_isTold_58 (by decide) ?_
      refine vx_ret ?_
      exact W.zret (v := 0) hx hb hr rfl (fun t9 ht hW => ⟨_, rfl, ⟨hp_2, hp_6, by simp only [nI_clamp (show jx < 2 ^ 31 by omega)]; first | exact (bz_t (by omega)).symm | exact (bz_f (by omega)).symm⟩, ht⟩) (fun q hq => absurd hq List.not_mem_nil) dX1_isTold_59
    · skip
      have c_51 := (lgc_eq _ _).mp c_51
      refine lv_iconst (v := 1) hx hb dX1_isTold_54 (by decide) ?_
      refine lv_goto (tgt := 59) hx hb dX1_isTold_55 (by decide) ?_
      refine vx_ret ?_
      exact W.zret (v := 1) hx hb hr rfl (fun t9 ht hW => ⟨_, rfl, ⟨hp_2, hp_6, by simp only [nI_clamp (show jx < 2 ^ 31 by omega)]; first | exact (bz_t (by omega)).symm | exact (bz_f (by omega)).symm⟩, ht⟩) (fun q hq => absurd hq List.not_mem_nil) dX1_isTold_59
  · skip
    simp only [Int32.le_iff_toInt_le] at c_28
    rw [nI_toInt (n := i) (by omega)] at c_28
    rw [nI_toInt (n := k) (by omega)] at c_28
    refine lv_lload_n hx hb dX1_isTold_31 rfl (lv_at hl 1 rfl) ?_
    refine lv_aload_n hx hb dX1_isTold_32 rfl (lv_at hl 0 rfl) ?_
    refine lv_iload hx hb dX1_isTold_33 (lv_at hl 2 rfl) ?_
    refine ro_lE (va_runV (As := [.int (nI i)]) (rest := [.long (lfT (lnA fL fO) (fL jx * (w).toInt64) i)]) ⟨hx, hb, hml, hown, hts⟩ (c_X1_lengthAt l D cI cJ a k st fi fB fS fO fL c t y fW fD c2 t2 y2 gW gD i (by omega) (hM.at (by omega))) (cwV 1 hts gX1_isTold_X1_lengthAt rfl rfl rfl (by decide +kernel) ⟨Nat.le_of_ble_eq_true rfl, Nat.le_of_ble_eq_true rfl⟩) (preV_ro KM_ok (hP.sub (ws' := [((a 0), .inr (1, [.ref (a 1), .ref (a 2), .ref (a 3), .ref (a 4), .ref (a 5), .ref (a 8), .int (nI k), .int (nI st), .int fi])), ((a 1), .inl (cI, 8, .inl fB)), ((a 2), .inl (cI, 8, .inl fS)), ((a 3), .inl (cJ, 8, .inr (.inl fL))), ((a 4), .inl (cI, 8, .inl fO)), ((a 5), .inr (0, [.ref (a 6), .ref (a 7), .int (nI c), .int t, .int (nI y)])), ((a 6), .inl (cI, 6, .inl fW)), ((a 7), .inl (cI, 6, .inl fD)), ((a 8), .inr (0, [.ref (a 9), .ref (a 10), .int c2, .int t2, .int y2])), ((a 9), .inl (cI, 6, .inl gW)), ((a 10), .inl (cI, 6, .inl gD))]) [0, 1, 2, 3, 4, 5, 6, 7, 8, 9, 10] rfl) hK (va_recv hK hP (ci := 1) (q0 := 0) rfl rfl)) rfl rfl hl.1 rfl (lv_room (Nat.le_of_ble_eq_true rfl)) dX1_isTold_35 ⟨by decide, by decide⟩) ?_
    refine ro_lE (va_runS (As := [.long (lfT (lnA fL fO) (fL jx * (w).toInt64) i), .long (lnA fL fO i)]) (rest := []) ⟨hx, hb, hml, hown, hts⟩ (c_X1_leftOf l (lfT (lnA fL fO) (fL jx * (w).toInt64) i) (lnA fL fO i) (hM.pos (by omega))) (va_cwS 2 hts gX1_isTold_X1_leftOf rfl rfl rfl (by decide +kernel) ⟨Nat.le_of_ble_eq_true rfl, Nat.le_of_ble_eq_true rfl⟩) pre0 rfl rfl hl.1 rfl (lv_room (Nat.le_of_ble_eq_true rfl)) dX1_isTold_38 ⟨by decide, by decide⟩) ?_
    refine lv_lstore_n (lv' := [(3, .long (jrem (lfT (lnA fL fO) (fL jx * (w).toInt64) i) (lnA fL fO i))), (0, .ref (a 0)), (5, .int (nI i))]) hx hb dX1_isTold_41 rfl hl (by decide) rfl (fun ls hl => ?_)
    refine lv_iinc (v := (nI (i + 1))) (lv' := [(5, .int (nI (i + 1))), (3, .long (jrem (lfT (lnA fL fO) (fL jx * (w).toInt64) i) (lnA fL fO i))), (0, .ref (a 0))]) hx hb dX1_isTold_42 hl (k := 2) rfl (nI_inc i) (by decide) rfl (fun ls hl => ?_)
    refine lv_goto (tgt := 22) hx hb dX1_isTold_45 (by decide) ?_
    exact kk () ls (by omega) ⟨lv_sub hl [2, 1, 0] rfl, trivial⟩

set_option maxHeartbeats 4000000 in
set_option maxRecDepth 100000 in
theorem c_X1_piecesOf (l : Launch) (hst : l.stackTraces = false) (D : va_G) (cI cJ : ClassId) (a : Nat → Nat) (k st : Nat) (fi : Int32) (fB fS fO : Nat → Int32) (fL : Nat → Int64) (c : Nat) (t : Int32) (y : Nat) (fW fD : Nat → Int32) (c2 t2 y2 : Int32) (gW gD : Nat → Int32) (hM : MOk k fL fO) (hst2 : st < k) (hQ : MPm k fO) (w : Int32) (x : Int32) (z : Int32) : vx_Met l yX1_piecesOf wsX1_piecesOf ({ frames := 7, cells := 3, slots := 18, locals := 150 }) (cP D [((a 0), .inr (1, [.ref (a 1), .ref (a 2), .ref (a 3), .ref (a 4), .ref (a 5), .ref (a 8), .int (nI k), .int (nI st), .int fi])), ((a 1), .inl (cI, 8, .inl fB)), ((a 2), .inl (cI, 8, .inl fS)), ((a 3), .inl (cJ, 8, .inr (.inl fL))), ((a 4), .inl (cI, 8, .inl fO)), ((a 5), .inr (0, [.ref (a 6), .ref (a 7), .int (nI c), .int t, .int (nI y)])), ((a 6), .inl (cI, 6, .inl fW)), ((a 7), .inl (cI, 6, .inl fD)), ((a 8), .inr (0, [.ref (a 9), .ref (a 10), .int c2, .int t2, .int y2])), ((a 9), .inl (cI, 6, .inl gW)), ((a 10), .inl (cI, 6, .inl gD))] (KC D cI cJ a) [.ref (a 0), .int w, .int x, .int z]) (rol (fun r => inM k x ∧ inM k z ∧ inR 1 200 w ∧ r = spO (lnA fL fO) (fL x.toNatClampNeg * w.toInt64) fO z k)) (rox (fun E => (E = eIO ∧ ¬ inM k x) ∨ (E = eIO ∧ inM k x ∧ ¬ inM k z) ∨ (E = eIA ∧ inM k x ∧ inM k z ∧ ¬ inR 1 200 w))) 3 18 (fun _ => False) := by
  refine vx_ofW (cc := cX1_piecesOf) (maxL := 7) (ret := (some .long)) (by decide +kernel) rfl ?_
  intro p e s m args below meth c9 s₁ B hml hout hv
  obtain ⟨rfl, hP, hC⟩ := hv
  have hx := B.exec
  have hb := B.bytes
  have hr := B.returns
  have hts := atoms_spec (ws := wsX1_piecesOf) B.pre
  have hown : s.vm.findClass RX1 = some m.cls := findClass_of_methodNamed B.named
  have hlocks := B.notSynchronized
  have hK : va_K D vwCl [(cI, .int), (cJ, .long)] s := hC.1
  have hl := lv_entry ([.ref (a 0), .int w, .int x, .int z]) (n := 7) (Nat.le_of_ble_eq_true rfl)
  rw [lg_entry_eq]
  generalize (lg_sl ([.ref (a 0), .int w, .int x, .int z]) ++ List.replicate (7 - (lg_sl ([.ref (a 0), .int w, .int x, .int z])).length) Slot.unset).toArray = ls at hl ⊢
  have hl : lv_has ls 7 [(0, .ref (a 0)), (1, .int w), (2, .int x), (3, .int z)] := hl
  have hk8 : k ≤ 8 := hM.2.1
  have hk1 : 1 ≤ k := hM.1
  have hiX1 : ∀ w ∈ u_ws RX1 TX1 9, w ∈ wsX1_piecesOf := by decide +kernel
  have hw16 : (Cond.fieldLink RX1 16 "OldMeasures" "lengths" "[J").before ([.ref (a 0), .int w, .int x, .int z] : List Value).toArray s = true := hts _ (by decide +kernel)
  have hw20 : (Cond.fieldLink RX1 20 "OldMeasures" "longestFirst" "[I").before ([.ref (a 0), .int w, .int x, .int z] : List Value).toArray s = true := hts _ (by decide +kernel)
  have hw33 : (Cond.fieldLink RX1 33 "OldMeasures" "measureCount" "I").before ([.ref (a 0), .int w, .int x, .int z] : List Value).toArray s = true := hts _ (by decide +kernel)
  refine lv_aload_n hx hb dX1_piecesOf_0 rfl (lv_at hl 0 rfl) ?_
  refine lv_iload_n hx hb dX1_piecesOf_1 rfl (lv_at hl 2 rfl) ?_
  refine xro_vP (vx_runV (As := [.int x]) (rest := []) ⟨hx, hb, hml, hown, hts⟩ (c_X1_needMeasure l hst D cI cJ a k st fi fB fS fO fL c t y fW fD c2 t2 y2 gW gD (by omega) x) (cwV 1 hts gX1_piecesOf_X1_needMeasure rfl rfl rfl (by decide +kernel) ⟨Nat.le_of_ble_eq_true rfl, Nat.le_of_ble_eq_true rfl⟩) (preV_ro KC_ok hP hC (va_recv hK hP (ci := 1) (q0 := 0) rfl rfl)) rfl rfl hl.1 rfl (lv_room (Nat.le_of_ble_eq_true rfl)) dX1_piecesOf_2 ⟨by decide, by decide⟩) hout hlocks (by decide) (by decide) (fun E h9 => Or.inl ⟨h9.1, h9.2⟩) (fun hp_2 => ?_)
  obtain ⟨jx, hj_x, rfl⟩ := inM_of hp_2 (by omega)
  refine lv_aload_n hx hb dX1_piecesOf_5 rfl (lv_at hl 0 rfl) ?_
  refine lv_iload_n hx hb dX1_piecesOf_6 rfl (lv_at hl 3 rfl) ?_
  refine xro_vP (vx_runV (As := [.int z]) (rest := []) ⟨hx, hb, hml, hown, hts⟩ (c_X1_needMeasure l hst D cI cJ a k st fi fB fS fO fL c t y fW fD c2 t2 y2 gW gD (by omega) z) (cwV 1 hts gX1_piecesOf_X1_needMeasure rfl rfl rfl (by decide +kernel) ⟨Nat.le_of_ble_eq_true rfl, Nat.le_of_ble_eq_true rfl⟩) (preV_ro KC_ok hP hC (va_recv hK hP (ci := 1) (q0 := 0) rfl rfl)) rfl rfl hl.1 rfl (lv_room (Nat.le_of_ble_eq_true rfl)) dX1_piecesOf_7 ⟨by decide, by decide⟩) hout hlocks (by decide) (by decide) (fun E h9 => Or.inr (Or.inl ⟨h9.1, hp_2, h9.2⟩)) (fun hp_7 => ?_)
  obtain ⟨jz, hj_z, rfl⟩ := inM_of hp_7 (by omega)
  refine lv_iload_n hx hb dX1_piecesOf_10 rfl (lv_at hl 1 rfl) ?_
  refine xro_vP (vx_runS (As := [.int w]) (rest := []) ⟨hx, hb, hml, hown, hts⟩ (c_X1_needMany l hst D cI cJ a w) (va_cwS 1 hts gX1_piecesOf_X1_needMany rfl rfl rfl (by decide +kernel) ⟨Nat.le_of_ble_eq_true rfl, Nat.le_of_ble_eq_true rfl⟩) (preS_ro KC_ok (hP.sub (ws' := []) [] rfl) hC) rfl rfl hl.1 rfl (lv_room (Nat.le_of_ble_eq_true rfl)) dX1_piecesOf_11 ⟨by decide, by decide⟩) hout hlocks (by decide) (by decide) (fun E h9 => Or.inr (Or.inr (⟨h9.1, hp_2, hp_7, h9.2⟩))) (fun hp_11 => ?_)
  refine lv_aload_n hx hb dX1_piecesOf_14 rfl (lv_at hl 0 rfl) ?_
  refine va_get (D := D) (ci := 1) (v := .ref (a 3)) (C := RX1) (T := TX1) (N := 9) hx hb hts hiX1 hown hK hP 0 rfl rfl 2 (by decide) hw16 (fun _ h9 => h9) rfl dX1_piecesOf_15 ?_
  refine lv_iload_n hx hb dX1_piecesOf_18 rfl (lv_at hl 2 rfl) ?_
  refine xa_lald hx hb hK hP 3 1 rfl rfl (by omega) (by decide) dX1_piecesOf_19 ?_
  refine lv_iload_n hx hb dX1_piecesOf_20 rfl (lv_at hl 1 rfl) ?_
  refine lv_i2l (v := (w).toInt64) hx hb dX1_piecesOf_21 rfl ?_
  refine lv_lmul hx hb dX1_piecesOf_22 ?_
  refine lv_lstore (lv' := [(4, .long ((fL jx) * (w).toInt64)), (0, .ref (a 0)), (1, .int w), (2, .int (nI jx)), (3, .int (nI jz))]) hx hb dX1_piecesOf_23 hl (by decide) rfl (fun ls hl => ?_)
  refine lv_iconst (v := 0) hx hb dX1_piecesOf_25 (by decide) ?_
  refine lv_istore (lv' := [(6, .int 0), (4, .long ((fL jx) * (w).toInt64)), (0, .ref (a 0)), (1, .int w), (2, .int (nI jx)), (3, .int (nI jz))]) hx hb dX1_piecesOf_26 hl (by decide) rfl (fun ls hl => ?_)
  refine loopR (σ := Unit) (I := fun i x ls => lv_has ls 7 [(0, .ref (a 0)), (3, .int (nI jz)), (4, .long (lfT (lnA fL fO) (fL jx * (w).toInt64) i)), (6, .int (nI i))] ∧ (∀ j, j < i → fO j ≠ nI jz)) k ?_ 0 () ls (by omega) ⟨lv_sub hl [2, 5, 1, 0] rfl, lt_0⟩
  intro i x ls hi hI kk
  obtain ⟨hl, hne⟩ := hI
  refine lv_iload hx hb dX1_piecesOf_28 (lv_at hl 3 rfl) ?_
  refine lv_aload_n hx hb dX1_piecesOf_30 rfl (lv_at hl 0 rfl) ?_
  refine va_get (D := D) (ci := 1) (v := .int (nI k)) (C := RX1) (T := TX1) (N := 9) hx hb hts hiX1 hown hK hP 0 rfl rfl 6 (by decide) hw33 (fun _ h9 => h9) rfl dX1_piecesOf_31 ?_
  refine lv_icmp_ge (tgt := 67) hx hb dX1_piecesOf_34 (by decide) (fun c_34 => ?_) (fun c_34 => ?_)
  · skip
    simp only [Int32.le_iff_toInt_le] at c_34
    rw [nI_toInt (n := i) (by omega)] at c_34
    rw [nI_toInt (n := k) (by omega)] at c_34
    obtain ⟨q9, hq9, hq8⟩ := hQ.2 jz hj_z; exact absurd hq8 (hne q9 (by omega))
  · skip
    simp only [Int32.le_iff_toInt_le] at c_34
    rw [nI_toInt (n := i) (by omega)] at c_34
    rw [nI_toInt (n := k) (by omega)] at c_34
    refine lv_aload_n hx hb dX1_piecesOf_37 rfl (lv_at hl 0 rfl) ?_
    refine va_get (D := D) (ci := 1) (v := .ref (a 4)) (C := RX1) (T := TX1) (N := 9) hx hb hts hiX1 hown hK hP 0 rfl rfl 3 (by decide) hw20 (fun _ h9 => h9) rfl dX1_piecesOf_38 ?_
    refine lv_iload hx hb dX1_piecesOf_41 (lv_at hl 3 rfl) ?_
    refine xa_iald hx hb hK hP 4 0 rfl rfl (by omega) (by decide) dX1_piecesOf_43 ?_
    refine lv_iload_n hx hb dX1_piecesOf_44 rfl (lv_at hl 1 rfl) ?_
    refine lv_icmp_eq (tgt := 67) hx hb dX1_piecesOf_45 (by decide) (fun c_45 => ?_) (fun c_45 => ?_)
    · skip
      simp only [← Int32.toInt_inj] at c_45
      rw [nI_toInt (n := jz) (by omega)] at c_45
      have e8 : fO i = nI jz := Int32.toInt_inj.mp (by rw [c_45, nI_toInt (by omega)])
      refine lv_lload hx hb dX1_piecesOf_67 (lv_at hl 2 rfl) ?_
      refine lv_aload_n hx hb dX1_piecesOf_69 rfl (lv_at hl 0 rfl) ?_
      refine va_get (D := D) (ci := 1) (v := .ref (a 3)) (C := RX1) (T := TX1) (N := 9) hx hb hts hiX1 hown hK hP 0 rfl rfl 2 (by decide) hw16 (fun _ h9 => h9) rfl dX1_piecesOf_70 ?_
      refine lv_iload_n hx hb dX1_piecesOf_73 rfl (lv_at hl 1 rfl) ?_
      refine xa_lald hx hb hK hP 3 1 rfl rfl (by omega) (by decide) dX1_piecesOf_74 ?_
      refine ro_lE (va_runS (As := [.long (lfT (lnA fL fO) (fL jx * (w).toInt64) i), .long (fL jz)]) (rest := []) ⟨hx, hb, hml, hown, hts⟩ (c_X1_timesIn l (lfT (lnA fL fO) (fL jx * (w).toInt64) i) (fL jz) (hM.2.2.1 _ hj_z).1) (va_cwS 2 hts gX1_piecesOf_X1_timesIn rfl rfl rfl (by decide +kernel) ⟨Nat.le_of_ble_eq_true rfl, Nat.le_of_ble_eq_true rfl⟩) pre0 rfl rfl hl.1 rfl (lv_room (Nat.le_of_ble_eq_true rfl)) dX1_piecesOf_75 ⟨by decide, by decide⟩) ?_
      refine vx_ret ?_
      exact W.lret (v := ((lfT (lnA fL fO) (fL jx * (w).toInt64) i) / (fL jz))) hx hb hr (fun t9 ht hW => ⟨_, rfl, ⟨hp_2, hp_7, hp_11, by simp only [nI_clamp (show jx < 2 ^ 31 by omega)]; rw [spO_at hQ.1 (show i < k by omega) e8]; simp only [lnA, e8, nI_clamp (show jz < 2 ^ 31 by omega)]⟩, ht⟩) (fun q hq => absurd hq List.not_mem_nil) dX1_piecesOf_78
    · skip
      simp only [← Int32.toInt_inj] at c_45
      rw [nI_toInt (n := jz) (by omega)] at c_45
      refine lv_lload hx hb dX1_piecesOf_48 (lv_at hl 2 rfl) ?_
      refine lv_aload_n hx hb dX1_piecesOf_50 rfl (lv_at hl 0 rfl) ?_
      refine lv_iload hx hb dX1_piecesOf_51 (lv_at hl 3 rfl) ?_
      refine ro_lE (va_runV (As := [.int (nI i)]) (rest := [.long (lfT (lnA fL fO) (fL jx * (w).toInt64) i)]) ⟨hx, hb, hml, hown, hts⟩ (c_X1_lengthAt l D cI cJ a k st fi fB fS fO fL c t y fW fD c2 t2 y2 gW gD i (by omega) (hM.at (by omega))) (cwV 1 hts gX1_piecesOf_X1_lengthAt rfl rfl rfl (by decide +kernel) ⟨Nat.le_of_ble_eq_true rfl, Nat.le_of_ble_eq_true rfl⟩) (preV_ro KM_ok (hP.sub (ws' := [((a 0), .inr (1, [.ref (a 1), .ref (a 2), .ref (a 3), .ref (a 4), .ref (a 5), .ref (a 8), .int (nI k), .int (nI st), .int fi])), ((a 1), .inl (cI, 8, .inl fB)), ((a 2), .inl (cI, 8, .inl fS)), ((a 3), .inl (cJ, 8, .inr (.inl fL))), ((a 4), .inl (cI, 8, .inl fO)), ((a 5), .inr (0, [.ref (a 6), .ref (a 7), .int (nI c), .int t, .int (nI y)])), ((a 6), .inl (cI, 6, .inl fW)), ((a 7), .inl (cI, 6, .inl fD)), ((a 8), .inr (0, [.ref (a 9), .ref (a 10), .int c2, .int t2, .int y2])), ((a 9), .inl (cI, 6, .inl gW)), ((a 10), .inl (cI, 6, .inl gD))]) [0, 1, 2, 3, 4, 5, 6, 7, 8, 9, 10] rfl) hK (va_recv hK hP (ci := 1) (q0 := 0) rfl rfl)) rfl rfl hl.1 rfl (lv_room (Nat.le_of_ble_eq_true rfl)) dX1_piecesOf_53 ⟨by decide, by decide⟩) ?_
      refine ro_lE (va_runS (As := [.long (lfT (lnA fL fO) (fL jx * (w).toInt64) i), .long (lnA fL fO i)]) (rest := []) ⟨hx, hb, hml, hown, hts⟩ (c_X1_leftOf l (lfT (lnA fL fO) (fL jx * (w).toInt64) i) (lnA fL fO i) (hM.pos (by omega))) (va_cwS 2 hts gX1_piecesOf_X1_leftOf rfl rfl rfl (by decide +kernel) ⟨Nat.le_of_ble_eq_true rfl, Nat.le_of_ble_eq_true rfl⟩) pre0 rfl rfl hl.1 rfl (lv_room (Nat.le_of_ble_eq_true rfl)) dX1_piecesOf_56 ⟨by decide, by decide⟩) ?_
      refine lv_lstore (lv' := [(4, .long (jrem (lfT (lnA fL fO) (fL jx * (w).toInt64) i) (lnA fL fO i))), (0, .ref (a 0)), (3, .int (nI jz)), (6, .int (nI i))]) hx hb dX1_piecesOf_59 hl (by decide) rfl (fun ls hl => ?_)
      refine lv_iinc (v := (nI (i + 1))) (lv' := [(6, .int (nI (i + 1))), (4, .long (jrem (lfT (lnA fL fO) (fL jx * (w).toInt64) i) (lnA fL fO i))), (0, .ref (a 0)), (3, .int (nI jz))]) hx hb dX1_piecesOf_61 hl (k := 3) rfl (nI_inc i) (by decide) rfl (fun ls hl => ?_)
      refine lv_goto (tgt := 28) hx hb dX1_piecesOf_64 (by decide) ?_
      exact kk () ls (by omega) ⟨lv_sub hl [2, 3, 1, 0] rfl, lt_s hne (fun h8 => c_45 (by rw [h8, nI_toInt (by omega)]))⟩

set_option maxHeartbeats 4000000 in
set_option maxRecDepth 100000 in
theorem c_X1_bestMeasure (l : Launch) (hst : l.stackTraces = false) (D : va_G) (cI cJ : ClassId) (a : Nat → Nat) (k st : Nat) (fi : Int32) (fB fS fO : Nat → Int32) (fL : Nat → Int64) (c : Nat) (t : Int32) (y : Nat) (fW fD : Nat → Int32) (c2 t2 y2 : Int32) (gW gD : Nat → Int32) (hM : MOk k fL fO) (hst2 : st < k) (w : Int32) (x : Int32) : vx_Met l yX1_bestMeasure wsX1_bestMeasure ({ frames := 7, cells := 2, slots := 12, locals := 150 }) (cP D [((a 0), .inr (1, [.ref (a 1), .ref (a 2), .ref (a 3), .ref (a 4), .ref (a 5), .ref (a 8), .int (nI k), .int (nI st), .int fi])), ((a 1), .inl (cI, 8, .inl fB)), ((a 2), .inl (cI, 8, .inl fS)), ((a 3), .inl (cJ, 8, .inr (.inl fL))), ((a 4), .inl (cI, 8, .inl fO)), ((a 5), .inr (0, [.ref (a 6), .ref (a 7), .int (nI c), .int t, .int (nI y)])), ((a 6), .inl (cI, 6, .inl fW)), ((a 7), .inl (cI, 6, .inl fD)), ((a 8), .inr (0, [.ref (a 9), .ref (a 10), .int c2, .int t2, .int y2])), ((a 9), .inl (cI, 6, .inl gW)), ((a 10), .inl (cI, 6, .inl gD))] (KC D cI cJ a) [.ref (a 0), .int w, .int x]) (roi (fun r => inM k x ∧ inR 1 200 w ∧ r = bst (lnA fL fO) (fL x.toNatClampNeg * w.toInt64) fO x k 0)) (rox (fun E => (E = eIO ∧ ¬ inM k x) ∨ (E = eIA ∧ inM k x ∧ ¬ inR 1 200 w))) 2 12 (fun _ => False) := by
  refine vx_ofW (cc := cX1_bestMeasure) (maxL := 6) (ret := (some .int)) (by decide +kernel) rfl ?_
  intro p e s m args below meth c9 s₁ B hml hout hv
  obtain ⟨rfl, hP, hC⟩ := hv
  have hx := B.exec
  have hb := B.bytes
  have hr := B.returns
  have hts := atoms_spec (ws := wsX1_bestMeasure) B.pre
  have hown : s.vm.findClass RX1 = some m.cls := findClass_of_methodNamed B.named
  have hlocks := B.notSynchronized
  have hK : va_K D vwCl [(cI, .int), (cJ, .long)] s := hC.1
  have hl := lv_entry ([.ref (a 0), .int w, .int x]) (n := 6) (Nat.le_of_ble_eq_true rfl)
  rw [lg_entry_eq]
  generalize (lg_sl ([.ref (a 0), .int w, .int x]) ++ List.replicate (6 - (lg_sl ([.ref (a 0), .int w, .int x])).length) Slot.unset).toArray = ls at hl ⊢
  have hl : lv_has ls 6 [(0, .ref (a 0)), (1, .int w), (2, .int x)] := hl
  have hk8 : k ≤ 8 := hM.2.1
  have hk1 : 1 ≤ k := hM.1
  have hiX1 : ∀ w ∈ u_ws RX1 TX1 9, w ∈ wsX1_bestMeasure := by decide +kernel
  have hw16 : (Cond.fieldLink RX1 16 "OldMeasures" "lengths" "[J").before ([.ref (a 0), .int w, .int x] : List Value).toArray s = true := hts _ (by decide +kernel)
  have hw20 : (Cond.fieldLink RX1 20 "OldMeasures" "longestFirst" "[I").before ([.ref (a 0), .int w, .int x] : List Value).toArray s = true := hts _ (by decide +kernel)
  have hw33 : (Cond.fieldLink RX1 33 "OldMeasures" "measureCount" "I").before ([.ref (a 0), .int w, .int x] : List Value).toArray s = true := hts _ (by decide +kernel)
  refine lv_aload_n hx hb dX1_bestMeasure_0 rfl (lv_at hl 0 rfl) ?_
  refine lv_iload_n hx hb dX1_bestMeasure_1 rfl (lv_at hl 2 rfl) ?_
  refine xro_vP (vx_runV (As := [.int x]) (rest := []) ⟨hx, hb, hml, hown, hts⟩ (c_X1_needMeasure l hst D cI cJ a k st fi fB fS fO fL c t y fW fD c2 t2 y2 gW gD (by omega) x) (cwV 1 hts gX1_bestMeasure_X1_needMeasure rfl rfl rfl (by decide +kernel) ⟨Nat.le_of_ble_eq_true rfl, Nat.le_of_ble_eq_true rfl⟩) (preV_ro KC_ok hP hC (va_recv hK hP (ci := 1) (q0 := 0) rfl rfl)) rfl rfl hl.1 rfl (lv_room (Nat.le_of_ble_eq_true rfl)) dX1_bestMeasure_2 ⟨by decide, by decide⟩) hout hlocks (by decide) (by decide) (fun E h9 => Or.inl ⟨h9.1, h9.2⟩) (fun hp_2 => ?_)
  obtain ⟨jx, hj_x, rfl⟩ := inM_of hp_2 (by omega)
  refine lv_iload_n hx hb dX1_bestMeasure_5 rfl (lv_at hl 1 rfl) ?_
  refine xro_vP (vx_runS (As := [.int w]) (rest := []) ⟨hx, hb, hml, hown, hts⟩ (c_X1_needMany l hst D cI cJ a w) (va_cwS 1 hts gX1_bestMeasure_X1_needMany rfl rfl rfl (by decide +kernel) ⟨Nat.le_of_ble_eq_true rfl, Nat.le_of_ble_eq_true rfl⟩) (preS_ro KC_ok (hP.sub (ws' := []) [] rfl) hC) rfl rfl hl.1 rfl (lv_room (Nat.le_of_ble_eq_true rfl)) dX1_bestMeasure_6 ⟨by decide, by decide⟩) hout hlocks (by decide) (by decide) (fun E h9 => Or.inr (⟨h9.1, hp_2, h9.2⟩)) (fun hp_6 => ?_)
  refine lv_aload_n hx hb dX1_bestMeasure_9 rfl (lv_at hl 0 rfl) ?_
  refine va_get (D := D) (ci := 1) (v := .ref (a 3)) (C := RX1) (T := TX1) (N := 9) hx hb hts hiX1 hown hK hP 0 rfl rfl 2 (by decide) hw16 (fun _ h9 => h9) rfl dX1_bestMeasure_10 ?_
  refine lv_iload_n hx hb dX1_bestMeasure_13 rfl (lv_at hl 2 rfl) ?_
  refine xa_lald hx hb hK hP 3 1 rfl rfl (by omega) (by decide) dX1_bestMeasure_14 ?_
  refine lv_iload_n hx hb dX1_bestMeasure_15 rfl (lv_at hl 1 rfl) ?_
  refine lv_i2l (v := (w).toInt64) hx hb dX1_bestMeasure_16 rfl ?_
  refine lv_lmul hx hb dX1_bestMeasure_17 ?_
  refine lv_lstore_n (lv' := [(3, .long ((fL jx) * (w).toInt64)), (0, .ref (a 0)), (1, .int w), (2, .int (nI jx))]) hx hb dX1_bestMeasure_18 rfl hl (by decide) rfl (fun ls hl => ?_)
  refine lv_iconst (v := 0) hx hb dX1_bestMeasure_19 (by decide) ?_
  refine lv_istore (lv' := [(5, .int 0), (3, .long ((fL jx) * (w).toInt64)), (0, .ref (a 0)), (1, .int w), (2, .int (nI jx))]) hx hb dX1_bestMeasure_20 hl (by decide) rfl (fun ls hl => ?_)
  refine loopR (σ := Unit) (I := fun i x ls => lv_has ls 6 [(0, .ref (a 0)), (2, .int (nI jx)), (3, .long (fL jx * (w).toInt64)), (5, .int (nI i))] ∧ (bst (lnA fL fO) (fL jx * (w).toInt64) fO (nI jx) (k - i) i = bst (lnA fL fO) (fL jx * (w).toInt64) fO (nI jx) k 0)) k ?_ 0 () ls (by omega) ⟨lv_sub hl [2, 4, 1, 0] rfl, rfl⟩
  intro i x ls hi hI kk
  obtain ⟨hl, hB⟩ := hI
  refine lv_iload hx hb dX1_bestMeasure_22 (lv_at hl 3 rfl) ?_
  refine lv_aload_n hx hb dX1_bestMeasure_24 rfl (lv_at hl 0 rfl) ?_
  refine va_get (D := D) (ci := 1) (v := .int (nI k)) (C := RX1) (T := TX1) (N := 9) hx hb hts hiX1 hown hK hP 0 rfl rfl 6 (by decide) hw33 (fun _ h9 => h9) rfl dX1_bestMeasure_25 ?_
  refine lv_icmp_ge (tgt := 60) hx hb dX1_bestMeasure_28 (by decide) (fun c_28 => ?_) (fun c_28 => ?_)
  · skip
    simp only [Int32.le_iff_toInt_le] at c_28
    rw [nI_toInt (n := i) (by omega)] at c_28
    rw [nI_toInt (n := k) (by omega)] at c_28
    have e9 : k = i := by omega
    subst e9
    refine lv_iload_n hx hb dX1_bestMeasure_60 rfl (lv_at hl 1 rfl) ?_
    refine vx_ret ?_
    exact W.iret (v := (nI jx)) hx hb hr (fun t9 ht hW => ⟨_, rfl, ⟨hp_2, hp_6, by simp only [nI_clamp (show jx < 2 ^ 31 by omega)]; rw [← hB, Nat.sub_self]; rfl⟩, ht⟩) (fun q hq => absurd hq List.not_mem_nil) dX1_bestMeasure_61
  · skip
    simp only [Int32.le_iff_toInt_le] at c_28
    rw [nI_toInt (n := i) (by omega)] at c_28
    rw [nI_toInt (n := k) (by omega)] at c_28
    obtain ⟨n9, hn9⟩ : ∃ n9, k - i = n9 + 1 := ⟨k - i - 1, by omega⟩
    rw [hn9] at hB
    refine lv_lload_n hx hb dX1_bestMeasure_31 rfl (lv_at hl 2 rfl) ?_
    refine lv_aload_n hx hb dX1_bestMeasure_32 rfl (lv_at hl 0 rfl) ?_
    refine lv_iload hx hb dX1_bestMeasure_33 (lv_at hl 3 rfl) ?_
    refine ro_lE (va_runV (As := [.int (nI i)]) (rest := [.long (fL jx * (w).toInt64)]) ⟨hx, hb, hml, hown, hts⟩ (c_X1_lengthAt l D cI cJ a k st fi fB fS fO fL c t y fW fD c2 t2 y2 gW gD i (by omega) (hM.at (by omega))) (cwV 1 hts gX1_bestMeasure_X1_lengthAt rfl rfl rfl (by decide +kernel) ⟨Nat.le_of_ble_eq_true rfl, Nat.le_of_ble_eq_true rfl⟩) (preV_ro KM_ok (hP.sub (ws' := [((a 0), .inr (1, [.ref (a 1), .ref (a 2), .ref (a 3), .ref (a 4), .ref (a 5), .ref (a 8), .int (nI k), .int (nI st), .int fi])), ((a 1), .inl (cI, 8, .inl fB)), ((a 2), .inl (cI, 8, .inl fS)), ((a 3), .inl (cJ, 8, .inr (.inl fL))), ((a 4), .inl (cI, 8, .inl fO)), ((a 5), .inr (0, [.ref (a 6), .ref (a 7), .int (nI c), .int t, .int (nI y)])), ((a 6), .inl (cI, 6, .inl fW)), ((a 7), .inl (cI, 6, .inl fD)), ((a 8), .inr (0, [.ref (a 9), .ref (a 10), .int c2, .int t2, .int y2])), ((a 9), .inl (cI, 6, .inl gW)), ((a 10), .inl (cI, 6, .inl gD))]) [0, 1, 2, 3, 4, 5, 6, 7, 8, 9, 10] rfl) hK (va_recv hK hP (ci := 1) (q0 := 0) rfl rfl)) rfl rfl hl.1 rfl (lv_room (Nat.le_of_ble_eq_true rfl)) dX1_bestMeasure_35 ⟨by decide, by decide⟩) ?_
    refine ro_lE (va_runS (As := [.long (fL jx * (w).toInt64), .long (lnA fL fO i)]) (rest := []) ⟨hx, hb, hml, hown, hts⟩ (c_X1_leftOf l (fL jx * (w).toInt64) (lnA fL fO i) (hM.pos (by omega))) (va_cwS 2 hts gX1_bestMeasure_X1_leftOf rfl rfl rfl (by decide +kernel) ⟨Nat.le_of_ble_eq_true rfl, Nat.le_of_ble_eq_true rfl⟩) pre0 rfl rfl hl.1 rfl (lv_room (Nat.le_of_ble_eq_true rfl)) dX1_bestMeasure_38 ⟨by decide, by decide⟩) ?_
    refine lv_lconst (v := 0) hx hb dX1_bestMeasure_41 (by decide) ?_
    refine W.lcmp hx hb dX1_bestMeasure_42 ?_
    refine lv_if_ne (tgt := 54) hx hb dX1_bestMeasure_43 (by decide) (fun c_43 => ?_) (fun c_43 => ?_)
    · skip
      have c_43 := (lgc_ne _ _).mp c_43
      rw [bst, ic_f c_43] at hB
      refine lv_iinc (v := (nI (i + 1))) (lv' := [(5, .int (nI (i + 1))), (0, .ref (a 0)), (2, .int (nI jx)), (3, .long (fL jx * (w).toInt64))]) hx hb dX1_bestMeasure_54 hl (k := 3) rfl (nI_inc i) (by decide) rfl (fun ls hl => ?_)
      refine lv_goto (tgt := 22) hx hb dX1_bestMeasure_57 (by decide) ?_
      exact kk () ls (by omega) ⟨lv_sub hl [1, 2, 3, 0] rfl, by rw [show k - (i + 1) = n9 by omega]; exact hB⟩
    · skip
      have c_43 := (lgc_eq _ _).mp c_43
      rw [bst, ic_t c_43] at hB
      refine lv_aload_n hx hb dX1_bestMeasure_46 rfl (lv_at hl 0 rfl) ?_
      refine va_get (D := D) (ci := 1) (v := .ref (a 4)) (C := RX1) (T := TX1) (N := 9) hx hb hts hiX1 hown hK hP 0 rfl rfl 3 (by decide) hw20 (fun _ h9 => h9) rfl dX1_bestMeasure_47 ?_
      refine lv_iload hx hb dX1_bestMeasure_50 (lv_at hl 3 rfl) ?_
      refine xa_iald hx hb hK hP 4 0 rfl rfl (by omega) (by decide) dX1_bestMeasure_52 ?_
      refine vx_ret ?_
      exact W.iret (v := (fO i)) hx hb hr (fun t9 ht hW => ⟨_, rfl, ⟨hp_2, hp_6, by simp only [nI_clamp (show jx < 2 ^ 31 by omega)]; exact hB⟩, ht⟩) (fun q hq => absurd hq List.not_mem_nil) dX1_bestMeasure_53

set_option maxHeartbeats 4000000 in
set_option maxRecDepth 100000 in
theorem c_X1_shortest (l : Launch) (D : va_G) (cI cJ : ClassId) (a : Nat → Nat) (k st : Nat) (fi : Int32) (fB fS fO : Nat → Int32) (fL : Nat → Int64) (c : Nat) (t : Int32) (y : Nat) (fW fD : Nat → Int32) (c2 t2 y2 : Int32) (gW gD : Nat → Int32) (hM : MOk k fL fO)  : Met l yX1_shortest wsX1_shortest ({ frames := 7, cells := 0, slots := 0, locals := 150 }) (cP D [((a 0), .inr (1, [.ref (a 1), .ref (a 2), .ref (a 3), .ref (a 4), .ref (a 5), .ref (a 8), .int (nI k), .int (nI st), .int fi])), ((a 1), .inl (cI, 8, .inl fB)), ((a 2), .inl (cI, 8, .inl fS)), ((a 3), .inl (cJ, 8, .inr (.inl fL))), ((a 4), .inl (cI, 8, .inl fO)), ((a 5), .inr (0, [.ref (a 6), .ref (a 7), .int (nI c), .int t, .int (nI y)])), ((a 6), .inl (cI, 6, .inl fW)), ((a 7), .inl (cI, 6, .inl fD)), ((a 8), .inr (0, [.ref (a 9), .ref (a 10), .int c2, .int t2, .int y2])), ((a 9), .inl (cI, 6, .inl gW)), ((a 10), .inl (cI, 6, .inl gD))] (KC D cI cJ a) [.ref (a 0)]) (roi (fun r => r = nI (shN fL (k - 1)))) 0 0 (fun _ => False) := by
  refine Met.ofW (cc := cX1_shortest) (maxL := 3) (ret := (some .int)) (by decide +kernel) rfl ?_
  intro p e s m args below meth c9 s₁ B hml hv
  obtain ⟨rfl, hP, hC⟩ := hv
  have hx := B.exec
  have hb := B.bytes
  have hr := B.returns
  have hts := atoms_spec (ws := wsX1_shortest) B.pre
  have hown : s.vm.findClass RX1 = some m.cls := findClass_of_methodNamed B.named
  have hlocks := B.notSynchronized
  have hK : va_K D vwCl [(cI, .int), (cJ, .long)] s := hC.1
  have hl := lv_entry ([.ref (a 0)]) (n := 3) (Nat.le_of_ble_eq_true rfl)
  rw [lg_entry_eq]
  generalize (lg_sl ([.ref (a 0)]) ++ List.replicate (3 - (lg_sl ([.ref (a 0)])).length) Slot.unset).toArray = ls at hl ⊢
  have hl : lv_has ls 3 [(0, .ref (a 0))] := hl
  have hk8 : k ≤ 8 := hM.2.1
  have hk1 : 1 ≤ k := hM.1
  have hiX1 : ∀ w ∈ u_ws RX1 TX1 9, w ∈ wsX1_shortest := by decide +kernel
  have hw16 : (Cond.fieldLink RX1 16 "OldMeasures" "lengths" "[J").before ([.ref (a 0)] : List Value).toArray s = true := hts _ (by decide +kernel)
  have hw33 : (Cond.fieldLink RX1 33 "OldMeasures" "measureCount" "I").before ([.ref (a 0)] : List Value).toArray s = true := hts _ (by decide +kernel)
  refine lv_iconst (v := 0) hx hb dX1_shortest_0 (by decide) ?_
  refine lv_istore_n (lv' := [(1, .int 0), (0, .ref (a 0))]) hx hb dX1_shortest_1 rfl hl (by decide) rfl (fun ls hl => ?_)
  refine lv_iconst (v := 1) hx hb dX1_shortest_2 (by decide) ?_
  refine lv_istore_n (lv' := [(2, .int 1), (1, .int 0), (0, .ref (a 0))]) hx hb dX1_shortest_3 rfl hl (by decide) rfl (fun ls hl => ?_)
  refine loopR (σ := Unit) (I := fun i x ls => lv_has ls 3 [(0, .ref (a 0)), (1, .int (nI (shN fL i))), (2, .int (nI (i + 1)))] ∧ (True)) (k - 1) ?_ 0 () ls (by omega) ⟨lv_sub hl [2, 1, 0] rfl, trivial⟩
  intro i x ls hi hI kk
  obtain ⟨hl, _⟩ := hI
  refine lv_iload_n hx hb dX1_shortest_4 rfl (lv_at hl 2 rfl) ?_
  refine lv_aload_n hx hb dX1_shortest_5 rfl (lv_at hl 0 rfl) ?_
  refine va_get (D := D) (ci := 1) (v := .int (nI k)) (C := RX1) (T := TX1) (N := 9) hx hb hts hiX1 hown hK hP 0 rfl rfl 6 (by decide) hw33 (fun _ h9 => h9) rfl dX1_shortest_6 ?_
  refine lv_icmp_ge (tgt := 36) hx hb dX1_shortest_9 (by decide) (fun c_9 => ?_) (fun c_9 => ?_)
  · skip
    simp only [Int32.le_iff_toInt_le] at c_9
    rw [nI_toInt (n := (i + 1)) (by omega)] at c_9
    rw [nI_toInt (n := k) (by omega)] at c_9
    have e9 : (k - 1) = i := by omega
    subst e9
    refine lv_iload_n hx hb dX1_shortest_36 rfl (lv_at hl 1 rfl) ?_
    exact W.iret (v := (nI (shN fL (k - 1)))) hx hb hr (fun t9 ht hW => ⟨_, rfl, rfl, ht⟩) (fun q hq => absurd hq List.not_mem_nil) dX1_shortest_37
  · skip
    simp only [Int32.le_iff_toInt_le] at c_9
    rw [nI_toInt (n := (i + 1)) (by omega)] at c_9
    rw [nI_toInt (n := k) (by omega)] at c_9
    have hs := shN_le fL i
    refine lv_aload_n hx hb dX1_shortest_12 rfl (lv_at hl 0 rfl) ?_
    refine va_get (D := D) (ci := 1) (v := .ref (a 3)) (C := RX1) (T := TX1) (N := 9) hx hb hts hiX1 hown hK hP 0 rfl rfl 2 (by decide) hw16 (fun _ h9 => h9) rfl dX1_shortest_13 ?_
    refine lv_iload_n hx hb dX1_shortest_16 rfl (lv_at hl 2 rfl) ?_
    refine xa_lald hx hb hK hP 3 1 rfl rfl (by omega) (by decide) dX1_shortest_17 ?_
    refine lv_aload_n hx hb dX1_shortest_18 rfl (lv_at hl 0 rfl) ?_
    refine va_get (D := D) (ci := 1) (v := .ref (a 3)) (C := RX1) (T := TX1) (N := 9) hx hb hts hiX1 hown hK hP 0 rfl rfl 2 (by decide) hw16 (fun _ h9 => h9) rfl dX1_shortest_19 ?_
    refine lv_iload_n hx hb dX1_shortest_22 rfl (lv_at hl 1 rfl) ?_
    refine xa_lald hx hb hK hP 3 1 rfl rfl (by omega) (by decide) dX1_shortest_23 ?_
    refine W.lcmp hx hb dX1_shortest_24 ?_
    refine lv_if_ge (tgt := 30) hx hb dX1_shortest_25 (by decide) (fun c_25 => ?_) (fun c_25 => ?_)
    · skip
      have c_25 := (lgc_ge _ _).mp c_25
      have e7 : shN fL (i + 1) = shN fL i := ic_f (by omega)
      refine lv_iinc (v := (nI ((i + 1) + 1))) (lv' := [(2, .int (nI ((i + 1) + 1))), (0, .ref (a 0)), (1, .int (nI (shN fL i)))]) hx hb dX1_shortest_30 hl (k := 2) rfl (nI_inc (i + 1)) (by decide) rfl (fun ls hl => ?_)
      refine lv_goto (tgt := 4) hx hb dX1_shortest_33 (by decide) ?_
      exact kk () ls (by omega) ⟨by rw [e7]; exact lv_sub hl [1, 2, 0] rfl, trivial⟩
    · skip
      have c_25 := (not_congr (lgc_ge _ _)).mp c_25
      have e7 : shN fL (i + 1) = i + 1 := ic_t (by omega)
      refine lv_iload_n hx hb dX1_shortest_28 rfl (lv_at hl 2 rfl) ?_
      refine lv_istore_n (lv' := [(1, .int (nI (i + 1))), (0, .ref (a 0)), (2, .int (nI (i + 1)))]) hx hb dX1_shortest_29 rfl hl (by decide) rfl (fun ls hl => ?_)
      refine lv_iinc (v := (nI ((i + 1) + 1))) (lv' := [(2, .int (nI ((i + 1) + 1))), (1, .int (nI (i + 1))), (0, .ref (a 0))]) hx hb dX1_shortest_30 hl (k := 2) rfl (nI_inc (i + 1)) (by decide) rfl (fun ls hl => ?_)
      refine lv_goto (tgt := 4) hx hb dX1_shortest_33 (by decide) ?_
      exact kk () ls (by omega) ⟨by rw [e7]; exact lv_sub hl [2, 1, 0] rfl, trivial⟩

set_option maxHeartbeats 4000000 in
set_option maxRecDepth 100000 in
theorem c_X1_mostHonest (l : Launch) (D : va_G) (cI cJ : ClassId) (a : Nat → Nat) (k st : Nat) (fi : Int32) (fB fS fO : Nat → Int32) (fL : Nat → Int64) (c : Nat) (t : Int32) (y : Nat) (fW fD : Nat → Int32) (c2 t2 y2 : Int32) (gW gD : Nat → Int32) (hc : c ≤ 6) (hD3 : ∀ j, j < c → -300 ≤ (fD j).toInt ∧ (fD j).toInt ≤ 300)  : Met l yX1_mostHonest wsX1_mostHonest ({ frames := 1, cells := 0, slots := 0, locals := 21 }) (cP D [((a 0), .inr (1, [.ref (a 1), .ref (a 2), .ref (a 3), .ref (a 4), .ref (a 5), .ref (a 8), .int (nI k), .int (nI st), .int fi])), ((a 1), .inl (cI, 8, .inl fB)), ((a 2), .inl (cI, 8, .inl fS)), ((a 3), .inl (cJ, 8, .inr (.inl fL))), ((a 4), .inl (cI, 8, .inl fO)), ((a 5), .inr (0, [.ref (a 6), .ref (a 7), .int (nI c), .int t, .int (nI y)])), ((a 6), .inl (cI, 6, .inl fW)), ((a 7), .inl (cI, 6, .inl fD)), ((a 8), .inr (0, [.ref (a 9), .ref (a 10), .int c2, .int t2, .int y2])), ((a 9), .inl (cI, 6, .inl gW)), ((a 10), .inl (cI, 6, .inl gD))] (KC D cI cJ a) [.ref (a 0)]) (roi (fun r => r = bhN fD c)) 0 0 (fun _ => False) := by
  refine Met.ofW (cc := cX1_mostHonest) (maxL := 5) (ret := (some .int)) (by decide +kernel) rfl ?_
  intro p e s m args below meth c9 s₁ B hml hv
  obtain ⟨rfl, hP, hC⟩ := hv
  have hx := B.exec
  have hb := B.bytes
  have hr := B.returns
  have hts := atoms_spec (ws := wsX1_mostHonest) B.pre
  have hown : s.vm.findClass RX1 = some m.cls := findClass_of_methodNamed B.named
  have hlocks := B.notSynchronized
  have hK : va_K D vwCl [(cI, .int), (cJ, .long)] s := hC.1
  have hl := lv_entry ([.ref (a 0)]) (n := 5) (Nat.le_of_ble_eq_true rfl)
  rw [lg_entry_eq]
  generalize (lg_sl ([.ref (a 0)]) ++ List.replicate (5 - (lg_sl ([.ref (a 0)])).length) Slot.unset).toArray = ls at hl ⊢
  have hl : lv_has ls 5 [(0, .ref (a 0))] := hl
  have hiX0 : ∀ w ∈ u_ws RX0 TX0 5, w ∈ wsX1_mostHonest := by decide +kernel
  have hiX1 : ∀ w ∈ u_ws RX1 TX1 9, w ∈ wsX1_mostHonest := by decide +kernel
  have hw26 : (Cond.fieldLink RX1 26 "OldMeasures" "stalls" "LOldMeasures$Stalls;").before ([.ref (a 0)] : List Value).toArray s = true := hts _ (by decide +kernel)
  refine lv_iconst (v := (-1)) hx hb dX1_mostHonest_0 (by decide) ?_
  refine lv_istore_n (lv' := [(1, .int (-1)), (0, .ref (a 0))]) hx hb dX1_mostHonest_1 rfl hl (by decide) rfl (fun ls hl => ?_)
  refine lv_sipush (v := 301) hx hb dX1_mostHonest_2 (by decide) ?_
  refine lv_istore_n (lv' := [(2, .int 301), (1, .int (-1)), (0, .ref (a 0))]) hx hb dX1_mostHonest_5 rfl hl (by decide) rfl (fun ls hl => ?_)
  refine lv_iconst (v := 0) hx hb dX1_mostHonest_6 (by decide) ?_
  refine lv_istore_n (lv' := [(3, .int 0), (2, .int 301), (1, .int (-1)), (0, .ref (a 0))]) hx hb dX1_mostHonest_7 rfl hl (by decide) rfl (fun ls hl => ?_)
  refine loopR (σ := Unit) (I := fun i x ls => lv_has ls 5 [(0, .ref (a 0)), (1, .int (bhN fD i)), (2, .int (bhV fD i)), (3, .int (nI i))] ∧ (True)) c ?_ 0 () ls (by omega) ⟨by rw [bhV_0]; exact lv_sub hl [3, 2, 1, 0] rfl, trivial⟩
  intro i x ls hi hI kk
  obtain ⟨hl, _⟩ := hI
  refine lv_iload_n hx hb dX1_mostHonest_8 rfl (lv_at hl 3 rfl) ?_
  refine lv_aload_n hx hb dX1_mostHonest_9 rfl (lv_at hl 0 rfl) ?_
  refine va_get (D := D) (ci := 1) (v := .ref (a 5)) (C := RX1) (T := TX1) (N := 9) hx hb hts hiX1 hown hK hP 0 rfl rfl 4 (by decide) hw26 (fun _ h9 => h9) rfl dX1_mostHonest_10 ?_
  refine va_getN (host := RX1) (D := D) (ci := 0) (v := .int (nI c)) (C := RX0) (T := TX0) (N := 5) hx hb hts hiX0 hown hK hP 5 rfl rfl 2 (by decide) (va_Nw.use rfl hC.2.1.1) (fun _ h9 => h9) rfl dX1_mostHonest_13 ?_
  refine lv_icmp_ge (tgt := 50) hx hb dX1_mostHonest_16 (by decide) (fun c_16 => ?_) (fun c_16 => ?_)
  · skip
    simp only [Int32.le_iff_toInt_le] at c_16
    rw [nI_toInt (n := i) (by omega)] at c_16
    rw [nI_toInt (n := c) (by omega)] at c_16
    have e9 : c = i := by omega
    subst e9
    refine lv_iload_n hx hb dX1_mostHonest_50 rfl (lv_at hl 1 rfl) ?_
    exact W.iret (v := (bhN fD c)) hx hb hr (fun t9 ht hW => ⟨_, rfl, rfl, ht⟩) (fun q hq => absurd hq List.not_mem_nil) dX1_mostHonest_51
  · skip
    simp only [Int32.le_iff_toInt_le] at c_16
    rw [nI_toInt (n := i) (by omega)] at c_16
    rw [nI_toInt (n := c) (by omega)] at c_16
    refine lv_aload_n hx hb dX1_mostHonest_19 rfl (lv_at hl 0 rfl) ?_
    refine va_get (D := D) (ci := 1) (v := .ref (a 5)) (C := RX1) (T := TX1) (N := 9) hx hb hts hiX1 hown hK hP 0 rfl rfl 4 (by decide) hw26 (fun _ h9 => h9) rfl dX1_mostHonest_20 ?_
    refine va_getN (host := RX1) (D := D) (ci := 0) (v := .ref (a 7)) (C := RX0) (T := TX0) (N := 5) hx hb hts hiX0 hown hK hP 5 rfl rfl 1 (by decide) (va_Nw.use rfl hC.2.1.2.2.1) (fun _ h9 => h9) rfl dX1_mostHonest_23 ?_
    refine lv_iload_n hx hb dX1_mostHonest_26 rfl (lv_at hl 3 rfl) ?_
    refine xa_iald hx hb hK hP 7 0 rfl rfl (by omega) (by decide) dX1_mostHonest_27 ?_
    refine va_mabs hx hb (by rw [hml]; exact hl.1.symm) hown (hts (.methodLink RX1 126 Lib.Math.abs.name) (by decide +kernel)) (hts (.static Lib.Math.abs.name) (by decide +kernel)) (hts (.initialized "java/lang/Math") (by decide +kernel)) (hts (.code Lib.Math.abs.name Lib.Math.abs.code 1 (some .int)) (by decide +kernel)) (by decide) (by decide) (by decide) (by decide) dX1_mostHonest_28 ?_
    refine topI (y := absI (fD i)) rfl ?_
    refine lv_istore (lv' := [(4, .int (absI (fD i))), (0, .ref (a 0)), (1, .int (bhN fD i)), (2, .int (bhV fD i)), (3, .int (nI i))]) hx hb dX1_mostHonest_31 hl (by decide) rfl (fun ls hl => ?_)
    refine lv_iload hx hb dX1_mostHonest_33 (lv_at hl 0 rfl) ?_
    refine lv_iload_n hx hb dX1_mostHonest_35 rfl (lv_at hl 3 rfl) ?_
    refine lv_icmp_ge (tgt := 44) hx hb dX1_mostHonest_36 (by decide) (fun c_36 => ?_) (fun c_36 => ?_)
    · skip
      simp only [Int32.le_iff_toInt_le] at c_36
      have e7 := bh_no (abs300 (hD3 i (by omega))) c_36
      refine lv_iinc (v := (nI (i + 1))) (lv' := [(3, .int (nI (i + 1))), (4, .int (absI (fD i))), (0, .ref (a 0)), (1, .int (bhN fD i)), (2, .int (bhV fD i))]) hx hb dX1_mostHonest_44 hl (k := 4) rfl (nI_inc i) (by decide) rfl (fun ls hl => ?_)
      refine lv_goto (tgt := 8) hx hb dX1_mostHonest_47 (by decide) ?_
      exact kk () ls (by omega) ⟨by rw [e7.1, e7.2]; exact lv_sub hl [2, 3, 4, 0] rfl, trivial⟩
    · skip
      simp only [Int32.le_iff_toInt_le] at c_36
      have e7 := bh_yes (fD := fD) (i := i) (by omega) c_36
      refine lv_iload hx hb dX1_mostHonest_39 (lv_at hl 0 rfl) ?_
      refine lv_istore_n (lv' := [(2, .int (absI (fD i))), (4, .int (absI (fD i))), (0, .ref (a 0)), (1, .int (bhN fD i)), (3, .int (nI i))]) hx hb dX1_mostHonest_41 rfl hl (by decide) rfl (fun ls hl => ?_)
      refine lv_iload_n hx hb dX1_mostHonest_42 rfl (lv_at hl 4 rfl) ?_
      refine lv_istore_n (lv' := [(1, .int (nI i)), (2, .int (absI (fD i))), (4, .int (absI (fD i))), (0, .ref (a 0)), (3, .int (nI i))]) hx hb dX1_mostHonest_43 rfl hl (by decide) rfl (fun ls hl => ?_)
      refine lv_iinc (v := (nI (i + 1))) (lv' := [(3, .int (nI (i + 1))), (1, .int (nI i)), (2, .int (absI (fD i))), (4, .int (absI (fD i))), (0, .ref (a 0))]) hx hb dX1_mostHonest_44 hl (k := 4) rfl (nI_inc i) (by decide) rfl (fun ls hl => ?_)
      refine lv_goto (tgt := 8) hx hb dX1_mostHonest_47 (by decide) ?_
      exact kk () ls (by omega) ⟨by rw [e7.1, e7.2]; exact lv_sub hl [4, 1, 2, 0] rfl, trivial⟩

set_option maxHeartbeats 4000000 in
set_option maxRecDepth 100000 in
theorem c_X1_mostGenerous (l : Launch) (D : va_G) (cI cJ : ClassId) (a : Nat → Nat) (k st : Nat) (fi : Int32) (fB fS fO : Nat → Int32) (fL : Nat → Int64) (c : Nat) (t : Int32) (y : Nat) (fW fD : Nat → Int32) (c2 t2 y2 : Int32) (gW gD : Nat → Int32) (hc : c ≤ 6) (hD3 : ∀ j, j < c → -300 ≤ (fD j).toInt ∧ (fD j).toInt ≤ 300)  : Met l yX1_mostGenerous wsX1_mostGenerous ({ frames := 7, cells := 0, slots := 0, locals := 150 }) (cP D [((a 0), .inr (1, [.ref (a 1), .ref (a 2), .ref (a 3), .ref (a 4), .ref (a 5), .ref (a 8), .int (nI k), .int (nI st), .int fi])), ((a 1), .inl (cI, 8, .inl fB)), ((a 2), .inl (cI, 8, .inl fS)), ((a 3), .inl (cJ, 8, .inr (.inl fL))), ((a 4), .inl (cI, 8, .inl fO)), ((a 5), .inr (0, [.ref (a 6), .ref (a 7), .int (nI c), .int t, .int (nI y)])), ((a 6), .inl (cI, 6, .inl fW)), ((a 7), .inl (cI, 6, .inl fD)), ((a 8), .inr (0, [.ref (a 9), .ref (a 10), .int c2, .int t2, .int y2])), ((a 9), .inl (cI, 6, .inl gW)), ((a 10), .inl (cI, 6, .inl gD))] (KC D cI cJ a) [.ref (a 0)]) (roi (fun r => r = bgN fD c)) 0 0 (fun _ => False) := by
  refine Met.ofW (cc := cX1_mostGenerous) (maxL := 4) (ret := (some .int)) (by decide +kernel) rfl ?_
  intro p e s m args below meth c9 s₁ B hml hv
  obtain ⟨rfl, hP, hC⟩ := hv
  have hx := B.exec
  have hb := B.bytes
  have hr := B.returns
  have hts := atoms_spec (ws := wsX1_mostGenerous) B.pre
  have hown : s.vm.findClass RX1 = some m.cls := findClass_of_methodNamed B.named
  have hlocks := B.notSynchronized
  have hK : va_K D vwCl [(cI, .int), (cJ, .long)] s := hC.1
  have hl := lv_entry ([.ref (a 0)]) (n := 4) (Nat.le_of_ble_eq_true rfl)
  rw [lg_entry_eq]
  generalize (lg_sl ([.ref (a 0)]) ++ List.replicate (4 - (lg_sl ([.ref (a 0)])).length) Slot.unset).toArray = ls at hl ⊢
  have hl : lv_has ls 4 [(0, .ref (a 0))] := hl
  have hiX0 : ∀ w ∈ u_ws RX0 TX0 5, w ∈ wsX1_mostGenerous := by decide +kernel
  have hiX1 : ∀ w ∈ u_ws RX1 TX1 9, w ∈ wsX1_mostGenerous := by decide +kernel
  have hw26 : (Cond.fieldLink RX1 26 "OldMeasures" "stalls" "LOldMeasures$Stalls;").before ([.ref (a 0)] : List Value).toArray s = true := hts _ (by decide +kernel)
  refine lv_iconst (v := (-1)) hx hb dX1_mostGenerous_0 (by decide) ?_
  refine lv_istore_n (lv' := [(1, .int (-1)), (0, .ref (a 0))]) hx hb dX1_mostGenerous_1 rfl hl (by decide) rfl (fun ls hl => ?_)
  refine lv_sipush (v := (-301)) hx hb dX1_mostGenerous_2 (by decide) ?_
  refine lv_istore_n (lv' := [(2, .int (-301)), (1, .int (-1)), (0, .ref (a 0))]) hx hb dX1_mostGenerous_5 rfl hl (by decide) rfl (fun ls hl => ?_)
  refine lv_iconst (v := 0) hx hb dX1_mostGenerous_6 (by decide) ?_
  refine lv_istore_n (lv' := [(3, .int 0), (2, .int (-301)), (1, .int (-1)), (0, .ref (a 0))]) hx hb dX1_mostGenerous_7 rfl hl (by decide) rfl (fun ls hl => ?_)
  refine loopR (σ := Unit) (I := fun i x ls => lv_has ls 4 [(0, .ref (a 0)), (1, .int (bgN fD i)), (2, .int (bgV fD i)), (3, .int (nI i))] ∧ (True)) c ?_ 0 () ls (by omega) ⟨by rw [bgV_0]; exact lv_sub hl [3, 2, 1, 0] rfl, trivial⟩
  intro i x ls hi hI kk
  obtain ⟨hl, _⟩ := hI
  refine lv_iload_n hx hb dX1_mostGenerous_8 rfl (lv_at hl 3 rfl) ?_
  refine lv_aload_n hx hb dX1_mostGenerous_9 rfl (lv_at hl 0 rfl) ?_
  refine va_get (D := D) (ci := 1) (v := .ref (a 5)) (C := RX1) (T := TX1) (N := 9) hx hb hts hiX1 hown hK hP 0 rfl rfl 4 (by decide) hw26 (fun _ h9 => h9) rfl dX1_mostGenerous_10 ?_
  refine va_getN (host := RX1) (D := D) (ci := 0) (v := .int (nI c)) (C := RX0) (T := TX0) (N := 5) hx hb hts hiX0 hown hK hP 5 rfl rfl 2 (by decide) (va_Nw.use rfl hC.2.1.1) (fun _ h9 => h9) rfl dX1_mostGenerous_13 ?_
  refine lv_icmp_ge (tgt := 50) hx hb dX1_mostGenerous_16 (by decide) (fun c_16 => ?_) (fun c_16 => ?_)
  · skip
    simp only [Int32.le_iff_toInt_le] at c_16
    rw [nI_toInt (n := i) (by omega)] at c_16
    rw [nI_toInt (n := c) (by omega)] at c_16
    have e9 : c = i := by omega
    subst e9
    refine lv_iload_n hx hb dX1_mostGenerous_50 rfl (lv_at hl 1 rfl) ?_
    exact W.iret (v := (bgN fD c)) hx hb hr (fun t9 ht hW => ⟨_, rfl, rfl, ht⟩) (fun q hq => absurd hq List.not_mem_nil) dX1_mostGenerous_51
  · skip
    simp only [Int32.le_iff_toInt_le] at c_16
    rw [nI_toInt (n := i) (by omega)] at c_16
    rw [nI_toInt (n := c) (by omega)] at c_16
    refine lv_aload_n hx hb dX1_mostGenerous_19 rfl (lv_at hl 0 rfl) ?_
    refine va_get (D := D) (ci := 1) (v := .ref (a 5)) (C := RX1) (T := TX1) (N := 9) hx hb hts hiX1 hown hK hP 0 rfl rfl 4 (by decide) hw26 (fun _ h9 => h9) rfl dX1_mostGenerous_20 ?_
    refine va_getN (host := RX1) (D := D) (ci := 0) (v := .ref (a 7)) (C := RX0) (T := TX0) (N := 5) hx hb hts hiX0 hown hK hP 5 rfl rfl 1 (by decide) (va_Nw.use rfl hC.2.1.2.2.1) (fun _ h9 => h9) rfl dX1_mostGenerous_23 ?_
    refine lv_iload_n hx hb dX1_mostGenerous_26 rfl (lv_at hl 3 rfl) ?_
    refine xa_iald hx hb hK hP 7 0 rfl rfl (by omega) (by decide) dX1_mostGenerous_27 ?_
    refine lv_iload_n hx hb dX1_mostGenerous_28 rfl (lv_at hl 2 rfl) ?_
    refine lv_icmp_le (tgt := 44) hx hb dX1_mostGenerous_29 (by decide) (fun c_29 => ?_) (fun c_29 => ?_)
    · skip
      simp only [Int32.le_iff_toInt_le] at c_29
      have e7 := bg_no (hD3 i (by omega)).1 c_29
      refine lv_iinc (v := (nI (i + 1))) (lv' := [(3, .int (nI (i + 1))), (0, .ref (a 0)), (1, .int (bgN fD i)), (2, .int (bgV fD i))]) hx hb dX1_mostGenerous_44 hl (k := 3) rfl (nI_inc i) (by decide) rfl (fun ls hl => ?_)
      refine lv_goto (tgt := 8) hx hb dX1_mostGenerous_47 (by decide) ?_
      exact kk () ls (by omega) ⟨by rw [e7.1, e7.2]; exact lv_sub hl [1, 2, 3, 0] rfl, trivial⟩
    · skip
      simp only [Int32.le_iff_toInt_le] at c_29
      have e7 := bg_yes (fD := fD) (i := i) (by omega) c_29
      refine lv_aload_n hx hb dX1_mostGenerous_32 rfl (lv_at hl 0 rfl) ?_
      refine va_get (D := D) (ci := 1) (v := .ref (a 5)) (C := RX1) (T := TX1) (N := 9) hx hb hts hiX1 hown hK hP 0 rfl rfl 4 (by decide) hw26 (fun _ h9 => h9) rfl dX1_mostGenerous_33 ?_
      refine va_getN (host := RX1) (D := D) (ci := 0) (v := .ref (a 7)) (C := RX0) (T := TX0) (N := 5) hx hb hts hiX0 hown hK hP 5 rfl rfl 1 (by decide) (va_Nw.use rfl hC.2.1.2.2.1) (fun _ h9 => h9) rfl dX1_mostGenerous_36 ?_
      refine lv_iload_n hx hb dX1_mostGenerous_39 rfl (lv_at hl 3 rfl) ?_
      refine xa_iald hx hb hK hP 7 0 rfl rfl (by omega) (by decide) dX1_mostGenerous_40 ?_
      refine lv_istore_n (lv' := [(2, .int (fD i)), (0, .ref (a 0)), (1, .int (bgN fD i)), (3, .int (nI i))]) hx hb dX1_mostGenerous_41 rfl hl (by decide) rfl (fun ls hl => ?_)
      refine lv_iload_n hx hb dX1_mostGenerous_42 rfl (lv_at hl 3 rfl) ?_
      refine lv_istore_n (lv' := [(1, .int (nI i)), (2, .int (fD i)), (0, .ref (a 0)), (3, .int (nI i))]) hx hb dX1_mostGenerous_43 rfl hl (by decide) rfl (fun ls hl => ?_)
      refine lv_iinc (v := (nI (i + 1))) (lv' := [(3, .int (nI (i + 1))), (1, .int (nI i)), (2, .int (fD i)), (0, .ref (a 0))]) hx hb dX1_mostGenerous_44 hl (k := 3) rfl (nI_inc i) (by decide) rfl (fun ls hl => ?_)
      refine lv_goto (tgt := 8) hx hb dX1_mostGenerous_47 (by decide) ?_
      exact kk () ls (by omega) ⟨by rw [e7.1, e7.2]; exact lv_sub hl [3, 1, 2, 0] rfl, trivial⟩

set_option maxHeartbeats 4000000 in
set_option maxRecDepth 100000 in
theorem c_X1_givenWith (l : Launch) (D : va_G) (cI cJ : ClassId) (a : Nat → Nat) (k st : Nat) (fi : Int32) (fB fS fO : Nat → Int32) (fL : Nat → Int64) (c : Nat) (t : Int32) (y : Nat) (fW fD : Nat → Int32) (c2 t2 y2 : Int32) (gW gD : Nat → Int32) (hM : MOk k fL fO) (hst2 : st < k) (dr w : Int32) (j : Nat) (hj : j < k) : Met l yX1_givenWith wsX1_givenWith ({ frames := 1, cells := 0, slots := 0, locals := 30 }) (cP D [((a 0), .inr (1, [.ref (a 1), .ref (a 2), .ref (a 3), .ref (a 4), .ref (a 5), .ref (a 8), .int (nI k), .int (nI st), .int fi])), ((a 1), .inl (cI, 8, .inl fB)), ((a 2), .inl (cI, 8, .inl fS)), ((a 3), .inl (cJ, 8, .inr (.inl fL))), ((a 4), .inl (cI, 8, .inl fO)), ((a 5), .inr (0, [.ref (a 6), .ref (a 7), .int (nI c), .int t, .int (nI y)])), ((a 6), .inl (cI, 6, .inl fW)), ((a 7), .inl (cI, 6, .inl fD)), ((a 8), .inr (0, [.ref (a 9), .ref (a 10), .int c2, .int t2, .int y2])), ((a 9), .inl (cI, 6, .inl gW)), ((a 10), .inl (cI, 6, .inl gD))] (KC D cI cJ a) [.ref (a 0), .int dr, .int w, .int (nI j)]) (rol (fun r => r = gvn (fL j) (fL st) w dr)) 0 0 (fun _ => False) := by
  refine Met.ofW (cc := cX1_givenWith) (maxL := 4) (ret := (some .long)) (by decide +kernel) rfl ?_
  intro p e s m args below meth c9 s₁ B hml hv
  obtain ⟨rfl, hP, hC⟩ := hv
  have hx := B.exec
  have hb := B.bytes
  have hr := B.returns
  have hts := atoms_spec (ws := wsX1_givenWith) B.pre
  have hown : s.vm.findClass RX1 = some m.cls := findClass_of_methodNamed B.named
  have hlocks := B.notSynchronized
  have hK : va_K D vwCl [(cI, .int), (cJ, .long)] s := hC.1
  have hl := lv_entry ([.ref (a 0), .int dr, .int w, .int (nI j)]) (n := 4) (Nat.le_of_ble_eq_true rfl)
  rw [lg_entry_eq]
  generalize (lg_sl ([.ref (a 0), .int dr, .int w, .int (nI j)]) ++ List.replicate (4 - (lg_sl ([.ref (a 0), .int dr, .int w, .int (nI j)])).length) Slot.unset).toArray = ls at hl ⊢
  have hl : lv_has ls 4 [(0, .ref (a 0)), (1, .int dr), (2, .int w), (3, .int (nI j))] := hl
  have hk8 : k ≤ 8 := hM.2.1
  have hk1 : 1 ≤ k := hM.1
  have hiX1 : ∀ w ∈ u_ws RX1 TX1 9, w ∈ wsX1_givenWith := by decide +kernel
  have hw16 : (Cond.fieldLink RX1 16 "OldMeasures" "lengths" "[J").before ([.ref (a 0), .int dr, .int w, .int (nI j)] : List Value).toArray s = true := hts _ (by decide +kernel)
  have hw37 : (Cond.fieldLink RX1 37 "OldMeasures" "standard" "I").before ([.ref (a 0), .int dr, .int w, .int (nI j)] : List Value).toArray s = true := hts _ (by decide +kernel)
  refine lv_aload_n hx hb dX1_givenWith_0 rfl (lv_at hl 0 rfl) ?_
  refine va_get (D := D) (ci := 1) (v := .ref (a 3)) (C := RX1) (T := TX1) (N := 9) hx hb hts hiX1 hown hK hP 0 rfl rfl 2 (by decide) hw16 (fun _ h9 => h9) rfl dX1_givenWith_1 ?_
  refine lv_iload_n hx hb dX1_givenWith_4 rfl (lv_at hl 3 rfl) ?_
  refine xa_lald hx hb hK hP 3 1 rfl rfl (by omega) (by decide) dX1_givenWith_5 ?_
  refine lv_iload_n hx hb dX1_givenWith_6 rfl (lv_at hl 2 rfl) ?_
  refine lv_i2l (v := (w).toInt64) hx hb dX1_givenWith_7 rfl ?_
  refine lv_lmul hx hb dX1_givenWith_8 ?_
  refine lv_sipush (v := 1000) hx hb dX1_givenWith_9 (by decide) ?_
  refine lv_iload_n hx hb dX1_givenWith_12 rfl (lv_at hl 1 rfl) ?_
  refine lv_iadd hx hb dX1_givenWith_13 ?_
  refine lv_i2l (v := ((1000 + dr)).toInt64) hx hb dX1_givenWith_14 rfl ?_
  refine lv_lmul hx hb dX1_givenWith_15 ?_
  refine lv_aload_n hx hb dX1_givenWith_16 rfl (lv_at hl 0 rfl) ?_
  refine va_get (D := D) (ci := 1) (v := .ref (a 3)) (C := RX1) (T := TX1) (N := 9) hx hb hts hiX1 hown hK hP 0 rfl rfl 2 (by decide) hw16 (fun _ h9 => h9) rfl dX1_givenWith_17 ?_
  refine lv_aload_n hx hb dX1_givenWith_20 rfl (lv_at hl 0 rfl) ?_
  refine va_get (D := D) (ci := 1) (v := .int (nI st)) (C := RX1) (T := TX1) (N := 9) hx hb hts hiX1 hown hK hP 0 rfl rfl 7 (by decide) hw37 (fun _ h9 => h9) rfl dX1_givenWith_21 ?_
  refine xa_lald hx hb hK hP 3 1 rfl rfl (by omega) (by decide) dX1_givenWith_24 ?_
  refine ro_lE (va_runS (As := [.long (((fL j) * (w).toInt64) * ((1000 + dr)).toInt64), .long (fL st)]) (rest := []) ⟨hx, hb, hml, hown, hts⟩ (c_X1_timesIn l (((fL j) * (w).toInt64) * ((1000 + dr)).toInt64) (fL st) (hM.2.2.1 _ hst2).1) (va_cwS 2 hts gX1_givenWith_X1_timesIn rfl rfl rfl (by decide +kernel) ⟨Nat.le_of_ble_eq_true rfl, Nat.le_of_ble_eq_true rfl⟩) pre0 rfl rfl hl.1 rfl (lv_room (Nat.le_of_ble_eq_true rfl)) dX1_givenWith_25 ⟨by decide, by decide⟩) ?_
  exact W.lret (v := ((((fL j) * (w).toInt64) * ((1000 + dr)).toInt64) / (fL st))) hx hb hr (fun t9 ht hW => ⟨_, rfl, rfl, ht⟩) (fun q hq => absurd hq List.not_mem_nil) dX1_givenWith_28

set_option maxHeartbeats 4000000 in
set_option maxRecDepth 100000 in
theorem c_X1_getsAt (l : Launch) (hst : l.stackTraces = false) (D : va_G) (cI cJ : ClassId) (a : Nat → Nat) (k st : Nat) (fi : Int32) (fB fS fO : Nat → Int32) (fL : Nat → Int64) (c : Nat) (t : Int32) (y : Nat) (fW fD : Nat → Int32) (c2 t2 y2 : Int32) (gW gD : Nat → Int32) (hM : MOk k fL fO) (hst2 : st < k) (hc : c ≤ 6) (v : Int32) (w : Int32) (x : Int32) : vx_Met l yX1_getsAt wsX1_getsAt ({ frames := 7, cells := 3, slots := 18, locals := 150 }) (cP D [((a 0), .inr (1, [.ref (a 1), .ref (a 2), .ref (a 3), .ref (a 4), .ref (a 5), .ref (a 8), .int (nI k), .int (nI st), .int fi])), ((a 1), .inl (cI, 8, .inl fB)), ((a 2), .inl (cI, 8, .inl fS)), ((a 3), .inl (cJ, 8, .inr (.inl fL))), ((a 4), .inl (cI, 8, .inl fO)), ((a 5), .inr (0, [.ref (a 6), .ref (a 7), .int (nI c), .int t, .int (nI y)])), ((a 6), .inl (cI, 6, .inl fW)), ((a 7), .inl (cI, 6, .inl fD)), ((a 8), .inr (0, [.ref (a 9), .ref (a 10), .int c2, .int t2, .int y2])), ((a 9), .inl (cI, 6, .inl gW)), ((a 10), .inl (cI, 6, .inl gD))] (KC D cI cJ a) [.ref (a 0), .int v, .int w, .int x]) (rol (fun r => inM c v ∧ inM k x ∧ inR 1 200 w ∧ r = gvn (fL x.toNatClampNeg) (fL st) w (fD v.toNatClampNeg))) (rox (fun E => (E = eIO ∧ ¬ inM c v) ∨ (E = eIO ∧ inM c v ∧ ¬ inM k x) ∨ (E = eIA ∧ inM c v ∧ inM k x ∧ ¬ inR 1 200 w))) 3 18 (fun _ => False) := by
  refine vx_ofW (cc := cX1_getsAt) (maxL := 4) (ret := (some .long)) (by decide +kernel) rfl ?_
  intro p e s m args below meth c9 s₁ B hml hout hv
  obtain ⟨rfl, hP, hC⟩ := hv
  have hx := B.exec
  have hb := B.bytes
  have hr := B.returns
  have hts := atoms_spec (ws := wsX1_getsAt) B.pre
  have hown : s.vm.findClass RX1 = some m.cls := findClass_of_methodNamed B.named
  have hlocks := B.notSynchronized
  have hK : va_K D vwCl [(cI, .int), (cJ, .long)] s := hC.1
  have hl := lv_entry ([.ref (a 0), .int v, .int w, .int x]) (n := 4) (Nat.le_of_ble_eq_true rfl)
  rw [lg_entry_eq]
  generalize (lg_sl ([.ref (a 0), .int v, .int w, .int x]) ++ List.replicate (4 - (lg_sl ([.ref (a 0), .int v, .int w, .int x])).length) Slot.unset).toArray = ls at hl ⊢
  have hl : lv_has ls 4 [(0, .ref (a 0)), (1, .int v), (2, .int w), (3, .int x)] := hl
  have hk8 : k ≤ 8 := hM.2.1
  have hk1 : 1 ≤ k := hM.1
  have hiX0 : ∀ w ∈ u_ws RX0 TX0 5, w ∈ wsX1_getsAt := by decide +kernel
  have hiX1 : ∀ w ∈ u_ws RX1 TX1 9, w ∈ wsX1_getsAt := by decide +kernel
  have hw26 : (Cond.fieldLink RX1 26 "OldMeasures" "stalls" "LOldMeasures$Stalls;").before ([.ref (a 0), .int v, .int w, .int x] : List Value).toArray s = true := hts _ (by decide +kernel)
  refine lv_aload_n hx hb dX1_getsAt_0 rfl (lv_at hl 0 rfl) ?_
  refine lv_iload_n hx hb dX1_getsAt_1 rfl (lv_at hl 1 rfl) ?_
  refine xro_vP (vx_runV (As := [.int v]) (rest := []) ⟨hx, hb, hml, hown, hts⟩ (c_X1_needStall l hst D cI cJ a k st fi fB fS fO fL c t y fW fD c2 t2 y2 gW gD (by omega) v) (cwV 1 hts gX1_getsAt_X1_needStall rfl rfl rfl (by decide +kernel) ⟨Nat.le_of_ble_eq_true rfl, Nat.le_of_ble_eq_true rfl⟩) (preV_ro KC_ok hP hC (va_recv hK hP (ci := 1) (q0 := 0) rfl rfl)) rfl rfl hl.1 rfl (lv_room (Nat.le_of_ble_eq_true rfl)) dX1_getsAt_2 ⟨by decide, by decide⟩) hout hlocks (by decide) (by decide) (fun E h9 => Or.inl ⟨h9.1, h9.2⟩) (fun hp_2 => ?_)
  obtain ⟨jv, hj_v, rfl⟩ := inM_of hp_2 (by omega)
  refine lv_aload_n hx hb dX1_getsAt_5 rfl (lv_at hl 0 rfl) ?_
  refine lv_iload_n hx hb dX1_getsAt_6 rfl (lv_at hl 3 rfl) ?_
  refine xro_vP (vx_runV (As := [.int x]) (rest := []) ⟨hx, hb, hml, hown, hts⟩ (c_X1_needMeasure l hst D cI cJ a k st fi fB fS fO fL c t y fW fD c2 t2 y2 gW gD (by omega) x) (cwV 1 hts gX1_getsAt_X1_needMeasure rfl rfl rfl (by decide +kernel) ⟨Nat.le_of_ble_eq_true rfl, Nat.le_of_ble_eq_true rfl⟩) (preV_ro KC_ok hP hC (va_recv hK hP (ci := 1) (q0 := 0) rfl rfl)) rfl rfl hl.1 rfl (lv_room (Nat.le_of_ble_eq_true rfl)) dX1_getsAt_7 ⟨by decide, by decide⟩) hout hlocks (by decide) (by decide) (fun E h9 => Or.inr (Or.inl ⟨h9.1, hp_2, h9.2⟩)) (fun hp_7 => ?_)
  obtain ⟨jx, hj_x, rfl⟩ := inM_of hp_7 (by omega)
  refine lv_iload_n hx hb dX1_getsAt_10 rfl (lv_at hl 2 rfl) ?_
  refine xro_vP (vx_runS (As := [.int w]) (rest := []) ⟨hx, hb, hml, hown, hts⟩ (c_X1_needMany l hst D cI cJ a w) (va_cwS 1 hts gX1_getsAt_X1_needMany rfl rfl rfl (by decide +kernel) ⟨Nat.le_of_ble_eq_true rfl, Nat.le_of_ble_eq_true rfl⟩) (preS_ro KC_ok (hP.sub (ws' := []) [] rfl) hC) rfl rfl hl.1 rfl (lv_room (Nat.le_of_ble_eq_true rfl)) dX1_getsAt_11 ⟨by decide, by decide⟩) hout hlocks (by decide) (by decide) (fun E h9 => Or.inr (Or.inr (⟨h9.1, hp_2, hp_7, h9.2⟩))) (fun hp_11 => ?_)
  refine lv_aload_n hx hb dX1_getsAt_14 rfl (lv_at hl 0 rfl) ?_
  refine lv_aload_n hx hb dX1_getsAt_15 rfl (lv_at hl 0 rfl) ?_
  refine va_get (D := D) (ci := 1) (v := .ref (a 5)) (C := RX1) (T := TX1) (N := 9) hx hb hts hiX1 hown hK hP 0 rfl rfl 4 (by decide) hw26 (fun _ h9 => h9) rfl dX1_getsAt_16 ?_
  refine va_getN (host := RX1) (D := D) (ci := 0) (v := .ref (a 7)) (C := RX0) (T := TX0) (N := 5) hx hb hts hiX0 hown hK hP 5 rfl rfl 1 (by decide) (va_Nw.use rfl hC.2.1.2.2.1) (fun _ h9 => h9) rfl dX1_getsAt_19 ?_
  refine lv_iload_n hx hb dX1_getsAt_22 rfl (lv_at hl 1 rfl) ?_
  refine xa_iald hx hb hK hP 7 0 rfl rfl (by omega) (by decide) dX1_getsAt_23 ?_
  refine lv_iload_n hx hb dX1_getsAt_24 rfl (lv_at hl 2 rfl) ?_
  refine lv_iload_n hx hb dX1_getsAt_25 rfl (lv_at hl 3 rfl) ?_
  refine ro_lE (va_runV (As := [.int (fD jv), .int w, .int (nI jx)]) (rest := []) ⟨hx, hb, hml, hown, hts⟩ (c_X1_givenWith l D cI cJ a k st fi fB fS fO fL c t y fW fD c2 t2 y2 gW gD hM hst2 (fD jv) w jx (by omega)) (cwV 3 hts gX1_getsAt_X1_givenWith rfl rfl rfl (by decide +kernel) ⟨Nat.le_of_ble_eq_true rfl, Nat.le_of_ble_eq_true rfl⟩) (preV_ro KC_ok (hP.sub (ws' := [((a 0), .inr (1, [.ref (a 1), .ref (a 2), .ref (a 3), .ref (a 4), .ref (a 5), .ref (a 8), .int (nI k), .int (nI st), .int fi])), ((a 1), .inl (cI, 8, .inl fB)), ((a 2), .inl (cI, 8, .inl fS)), ((a 3), .inl (cJ, 8, .inr (.inl fL))), ((a 4), .inl (cI, 8, .inl fO)), ((a 5), .inr (0, [.ref (a 6), .ref (a 7), .int (nI c), .int t, .int (nI y)])), ((a 6), .inl (cI, 6, .inl fW)), ((a 7), .inl (cI, 6, .inl fD)), ((a 8), .inr (0, [.ref (a 9), .ref (a 10), .int c2, .int t2, .int y2])), ((a 9), .inl (cI, 6, .inl gW)), ((a 10), .inl (cI, 6, .inl gD))]) [0, 1, 2, 3, 4, 5, 6, 7, 8, 9, 10] rfl) hC (va_recv hK hP (ci := 1) (q0 := 0) rfl rfl)) rfl rfl hl.1 rfl (lv_room (Nat.le_of_ble_eq_true rfl)) dX1_getsAt_26 ⟨by decide, by decide⟩) ?_
  refine vx_ret ?_
  exact W.lret (v := (gvn (fL jx) (fL st) w (fD jv))) hx hb hr (fun t9 ht hW => ⟨_, rfl, ⟨hp_2, hp_7, hp_11, by simp only [nI_clamp (show jx < 2 ^ 31 by omega), nI_clamp (show jv < 2 ^ 31 by omega)]⟩, ht⟩) (fun q hq => absurd hq List.not_mem_nil) dX1_getsAt_29

set_option maxHeartbeats 4000000 in
set_option maxRecDepth 100000 in
theorem c_X1_lossAt (l : Launch) (hst : l.stackTraces = false) (D : va_G) (cI cJ : ClassId) (a : Nat → Nat) (k st : Nat) (fi : Int32) (fB fS fO : Nat → Int32) (fL : Nat → Int64) (c : Nat) (t : Int32) (y : Nat) (fW fD : Nat → Int32) (c2 t2 y2 : Int32) (gW gD : Nat → Int32) (hM : MOk k fL fO) (hst2 : st < k) (hc : c ≤ 6) (v : Int32) (w : Int32) (x : Int32) : vx_Met l yX1_lossAt wsX1_lossAt ({ frames := 7, cells := 3, slots := 18, locals := 150 }) (cP D [((a 0), .inr (1, [.ref (a 1), .ref (a 2), .ref (a 3), .ref (a 4), .ref (a 5), .ref (a 8), .int (nI k), .int (nI st), .int fi])), ((a 1), .inl (cI, 8, .inl fB)), ((a 2), .inl (cI, 8, .inl fS)), ((a 3), .inl (cJ, 8, .inr (.inl fL))), ((a 4), .inl (cI, 8, .inl fO)), ((a 5), .inr (0, [.ref (a 6), .ref (a 7), .int (nI c), .int t, .int (nI y)])), ((a 6), .inl (cI, 6, .inl fW)), ((a 7), .inl (cI, 6, .inl fD)), ((a 8), .inr (0, [.ref (a 9), .ref (a 10), .int c2, .int t2, .int y2])), ((a 9), .inl (cI, 6, .inl gW)), ((a 10), .inl (cI, 6, .inl gD))] (KC D cI cJ a) [.ref (a 0), .int v, .int w, .int x]) (rol (fun r => inM c v ∧ inM k x ∧ inR 1 200 w ∧ r = gvn (fL x.toNatClampNeg) (fL st) w 0 - gvn (fL x.toNatClampNeg) (fL st) w (fD v.toNatClampNeg))) (rox (fun E => (E = eIO ∧ ¬ inM c v) ∨ (E = eIO ∧ inM c v ∧ ¬ inM k x) ∨ (E = eIA ∧ inM c v ∧ inM k x ∧ ¬ inR 1 200 w))) 3 18 (fun _ => False) := by
  refine vx_ofW (cc := cX1_lossAt) (maxL := 4) (ret := (some .long)) (by decide +kernel) rfl ?_
  intro p e s m args below meth c9 s₁ B hml hout hv
  obtain ⟨rfl, hP, hC⟩ := hv
  have hx := B.exec
  have hb := B.bytes
  have hr := B.returns
  have hts := atoms_spec (ws := wsX1_lossAt) B.pre
  have hown : s.vm.findClass RX1 = some m.cls := findClass_of_methodNamed B.named
  have hlocks := B.notSynchronized
  have hK : va_K D vwCl [(cI, .int), (cJ, .long)] s := hC.1
  have hl := lv_entry ([.ref (a 0), .int v, .int w, .int x]) (n := 4) (Nat.le_of_ble_eq_true rfl)
  rw [lg_entry_eq]
  generalize (lg_sl ([.ref (a 0), .int v, .int w, .int x]) ++ List.replicate (4 - (lg_sl ([.ref (a 0), .int v, .int w, .int x])).length) Slot.unset).toArray = ls at hl ⊢
  have hl : lv_has ls 4 [(0, .ref (a 0)), (1, .int v), (2, .int w), (3, .int x)] := hl
  have hk8 : k ≤ 8 := hM.2.1
  have hk1 : 1 ≤ k := hM.1
  have hiX0 : ∀ w ∈ u_ws RX0 TX0 5, w ∈ wsX1_lossAt := by decide +kernel
  have hiX1 : ∀ w ∈ u_ws RX1 TX1 9, w ∈ wsX1_lossAt := by decide +kernel
  have hw26 : (Cond.fieldLink RX1 26 "OldMeasures" "stalls" "LOldMeasures$Stalls;").before ([.ref (a 0), .int v, .int w, .int x] : List Value).toArray s = true := hts _ (by decide +kernel)
  refine lv_aload_n hx hb dX1_lossAt_0 rfl (lv_at hl 0 rfl) ?_
  refine lv_iload_n hx hb dX1_lossAt_1 rfl (lv_at hl 1 rfl) ?_
  refine xro_vP (vx_runV (As := [.int v]) (rest := []) ⟨hx, hb, hml, hown, hts⟩ (c_X1_needStall l hst D cI cJ a k st fi fB fS fO fL c t y fW fD c2 t2 y2 gW gD (by omega) v) (cwV 1 hts gX1_lossAt_X1_needStall rfl rfl rfl (by decide +kernel) ⟨Nat.le_of_ble_eq_true rfl, Nat.le_of_ble_eq_true rfl⟩) (preV_ro KC_ok hP hC (va_recv hK hP (ci := 1) (q0 := 0) rfl rfl)) rfl rfl hl.1 rfl (lv_room (Nat.le_of_ble_eq_true rfl)) dX1_lossAt_2 ⟨by decide, by decide⟩) hout hlocks (by decide) (by decide) (fun E h9 => Or.inl ⟨h9.1, h9.2⟩) (fun hp_2 => ?_)
  obtain ⟨jv, hj_v, rfl⟩ := inM_of hp_2 (by omega)
  refine lv_aload_n hx hb dX1_lossAt_5 rfl (lv_at hl 0 rfl) ?_
  refine lv_iload_n hx hb dX1_lossAt_6 rfl (lv_at hl 3 rfl) ?_
  refine xro_vP (vx_runV (As := [.int x]) (rest := []) ⟨hx, hb, hml, hown, hts⟩ (c_X1_needMeasure l hst D cI cJ a k st fi fB fS fO fL c t y fW fD c2 t2 y2 gW gD (by omega) x) (cwV 1 hts gX1_lossAt_X1_needMeasure rfl rfl rfl (by decide +kernel) ⟨Nat.le_of_ble_eq_true rfl, Nat.le_of_ble_eq_true rfl⟩) (preV_ro KC_ok hP hC (va_recv hK hP (ci := 1) (q0 := 0) rfl rfl)) rfl rfl hl.1 rfl (lv_room (Nat.le_of_ble_eq_true rfl)) dX1_lossAt_7 ⟨by decide, by decide⟩) hout hlocks (by decide) (by decide) (fun E h9 => Or.inr (Or.inl ⟨h9.1, hp_2, h9.2⟩)) (fun hp_7 => ?_)
  obtain ⟨jx, hj_x, rfl⟩ := inM_of hp_7 (by omega)
  refine lv_iload_n hx hb dX1_lossAt_10 rfl (lv_at hl 2 rfl) ?_
  refine xro_vP (vx_runS (As := [.int w]) (rest := []) ⟨hx, hb, hml, hown, hts⟩ (c_X1_needMany l hst D cI cJ a w) (va_cwS 1 hts gX1_lossAt_X1_needMany rfl rfl rfl (by decide +kernel) ⟨Nat.le_of_ble_eq_true rfl, Nat.le_of_ble_eq_true rfl⟩) (preS_ro KC_ok (hP.sub (ws' := []) [] rfl) hC) rfl rfl hl.1 rfl (lv_room (Nat.le_of_ble_eq_true rfl)) dX1_lossAt_11 ⟨by decide, by decide⟩) hout hlocks (by decide) (by decide) (fun E h9 => Or.inr (Or.inr (⟨h9.1, hp_2, hp_7, h9.2⟩))) (fun hp_11 => ?_)
  refine lv_aload_n hx hb dX1_lossAt_14 rfl (lv_at hl 0 rfl) ?_
  refine lv_iconst (v := 0) hx hb dX1_lossAt_15 (by decide) ?_
  refine lv_iload_n hx hb dX1_lossAt_16 rfl (lv_at hl 2 rfl) ?_
  refine lv_iload_n hx hb dX1_lossAt_17 rfl (lv_at hl 3 rfl) ?_
  refine ro_lE (va_runV (As := [.int 0, .int w, .int (nI jx)]) (rest := []) ⟨hx, hb, hml, hown, hts⟩ (c_X1_givenWith l D cI cJ a k st fi fB fS fO fL c t y fW fD c2 t2 y2 gW gD hM hst2 0 w jx (by omega)) (cwV 3 hts gX1_lossAt_X1_givenWith rfl rfl rfl (by decide +kernel) ⟨Nat.le_of_ble_eq_true rfl, Nat.le_of_ble_eq_true rfl⟩) (preV_ro KC_ok (hP.sub (ws' := [((a 0), .inr (1, [.ref (a 1), .ref (a 2), .ref (a 3), .ref (a 4), .ref (a 5), .ref (a 8), .int (nI k), .int (nI st), .int fi])), ((a 1), .inl (cI, 8, .inl fB)), ((a 2), .inl (cI, 8, .inl fS)), ((a 3), .inl (cJ, 8, .inr (.inl fL))), ((a 4), .inl (cI, 8, .inl fO)), ((a 5), .inr (0, [.ref (a 6), .ref (a 7), .int (nI c), .int t, .int (nI y)])), ((a 6), .inl (cI, 6, .inl fW)), ((a 7), .inl (cI, 6, .inl fD)), ((a 8), .inr (0, [.ref (a 9), .ref (a 10), .int c2, .int t2, .int y2])), ((a 9), .inl (cI, 6, .inl gW)), ((a 10), .inl (cI, 6, .inl gD))]) [0, 1, 2, 3, 4, 5, 6, 7, 8, 9, 10] rfl) hC (va_recv hK hP (ci := 1) (q0 := 0) rfl rfl)) rfl rfl hl.1 rfl (lv_room (Nat.le_of_ble_eq_true rfl)) dX1_lossAt_18 ⟨by decide, by decide⟩) ?_
  refine lv_aload_n hx hb dX1_lossAt_21 rfl (lv_at hl 0 rfl) ?_
  refine lv_aload_n hx hb dX1_lossAt_22 rfl (lv_at hl 0 rfl) ?_
  refine va_get (D := D) (ci := 1) (v := .ref (a 5)) (C := RX1) (T := TX1) (N := 9) hx hb hts hiX1 hown hK hP 0 rfl rfl 4 (by decide) hw26 (fun _ h9 => h9) rfl dX1_lossAt_23 ?_
  refine va_getN (host := RX1) (D := D) (ci := 0) (v := .ref (a 7)) (C := RX0) (T := TX0) (N := 5) hx hb hts hiX0 hown hK hP 5 rfl rfl 1 (by decide) (va_Nw.use rfl hC.2.1.2.2.1) (fun _ h9 => h9) rfl dX1_lossAt_26 ?_
  refine lv_iload_n hx hb dX1_lossAt_29 rfl (lv_at hl 1 rfl) ?_
  refine xa_iald hx hb hK hP 7 0 rfl rfl (by omega) (by decide) dX1_lossAt_30 ?_
  refine lv_iload_n hx hb dX1_lossAt_31 rfl (lv_at hl 2 rfl) ?_
  refine lv_iload_n hx hb dX1_lossAt_32 rfl (lv_at hl 3 rfl) ?_
  refine ro_lE (va_runV (As := [.int (fD jv), .int w, .int (nI jx)]) (rest := [.long (gvn (fL jx) (fL st) w 0)]) ⟨hx, hb, hml, hown, hts⟩ (c_X1_givenWith l D cI cJ a k st fi fB fS fO fL c t y fW fD c2 t2 y2 gW gD hM hst2 (fD jv) w jx (by omega)) (cwV 3 hts gX1_lossAt_X1_givenWith rfl rfl rfl (by decide +kernel) ⟨Nat.le_of_ble_eq_true rfl, Nat.le_of_ble_eq_true rfl⟩) (preV_ro KC_ok (hP.sub (ws' := [((a 0), .inr (1, [.ref (a 1), .ref (a 2), .ref (a 3), .ref (a 4), .ref (a 5), .ref (a 8), .int (nI k), .int (nI st), .int fi])), ((a 1), .inl (cI, 8, .inl fB)), ((a 2), .inl (cI, 8, .inl fS)), ((a 3), .inl (cJ, 8, .inr (.inl fL))), ((a 4), .inl (cI, 8, .inl fO)), ((a 5), .inr (0, [.ref (a 6), .ref (a 7), .int (nI c), .int t, .int (nI y)])), ((a 6), .inl (cI, 6, .inl fW)), ((a 7), .inl (cI, 6, .inl fD)), ((a 8), .inr (0, [.ref (a 9), .ref (a 10), .int c2, .int t2, .int y2])), ((a 9), .inl (cI, 6, .inl gW)), ((a 10), .inl (cI, 6, .inl gD))]) [0, 1, 2, 3, 4, 5, 6, 7, 8, 9, 10] rfl) hC (va_recv hK hP (ci := 1) (q0 := 0) rfl rfl)) rfl rfl hl.1 rfl (lv_room (Nat.le_of_ble_eq_true rfl)) dX1_lossAt_33 ⟨by decide, by decide⟩) ?_
  refine lv_lsub hx hb dX1_lossAt_36 ?_
  refine vx_ret ?_
  exact W.lret (v := ((gvn (fL jx) (fL st) w 0) - (gvn (fL jx) (fL st) w (fD jv)))) hx hb hr (fun t9 ht hW => ⟨_, rfl, ⟨hp_2, hp_7, hp_11, by simp only [nI_clamp (show jx < 2 ^ 31 by omega), nI_clamp (show jv < 2 ^ 31 by omega)]⟩, ht⟩) (fun q hq => absurd hq List.not_mem_nil) dX1_lossAt_37

set_option maxHeartbeats 4000000 in
set_option maxRecDepth 100000 in
theorem c_X1_driftOf (l : Launch) (hst : l.stackTraces = false) (D : va_G) (cI cJ : ClassId) (a : Nat → Nat) (k st : Nat) (fi : Int32) (fB fS fO : Nat → Int32) (fL : Nat → Int64) (c : Nat) (t : Int32) (y : Nat) (fW fD : Nat → Int32) (c2 t2 y2 : Int32) (gW gD : Nat → Int32) (hc : c ≤ 6) (v : Int32) : vx_Met l yX1_driftOf wsX1_driftOf ({ frames := 7, cells := 1, slots := 6, locals := 150 }) (cP D [((a 0), .inr (1, [.ref (a 1), .ref (a 2), .ref (a 3), .ref (a 4), .ref (a 5), .ref (a 8), .int (nI k), .int (nI st), .int fi])), ((a 1), .inl (cI, 8, .inl fB)), ((a 2), .inl (cI, 8, .inl fS)), ((a 3), .inl (cJ, 8, .inr (.inl fL))), ((a 4), .inl (cI, 8, .inl fO)), ((a 5), .inr (0, [.ref (a 6), .ref (a 7), .int (nI c), .int t, .int (nI y)])), ((a 6), .inl (cI, 6, .inl fW)), ((a 7), .inl (cI, 6, .inl fD)), ((a 8), .inr (0, [.ref (a 9), .ref (a 10), .int c2, .int t2, .int y2])), ((a 9), .inl (cI, 6, .inl gW)), ((a 10), .inl (cI, 6, .inl gD))] (KC D cI cJ a) [.ref (a 0), .int v]) (roi (fun r => inM c v ∧ r = fD v.toNatClampNeg)) (rox (fun E => (E = eIO ∧ ¬ inM c v))) 1 6 (fun _ => False) := by
  refine vx_ofW (cc := cX1_driftOf) (maxL := 2) (ret := (some .int)) (by decide +kernel) rfl ?_
  intro p e s m args below meth c9 s₁ B hml hout hv
  obtain ⟨rfl, hP, hC⟩ := hv
  have hx := B.exec
  have hb := B.bytes
  have hr := B.returns
  have hts := atoms_spec (ws := wsX1_driftOf) B.pre
  have hown : s.vm.findClass RX1 = some m.cls := findClass_of_methodNamed B.named
  have hlocks := B.notSynchronized
  have hK : va_K D vwCl [(cI, .int), (cJ, .long)] s := hC.1
  have hl := lv_entry ([.ref (a 0), .int v]) (n := 2) (Nat.le_of_ble_eq_true rfl)
  rw [lg_entry_eq]
  generalize (lg_sl ([.ref (a 0), .int v]) ++ List.replicate (2 - (lg_sl ([.ref (a 0), .int v])).length) Slot.unset).toArray = ls at hl ⊢
  have hl : lv_has ls 2 [(0, .ref (a 0)), (1, .int v)] := hl
  have hiX0 : ∀ w ∈ u_ws RX0 TX0 5, w ∈ wsX1_driftOf := by decide +kernel
  have hiX1 : ∀ w ∈ u_ws RX1 TX1 9, w ∈ wsX1_driftOf := by decide +kernel
  have hw26 : (Cond.fieldLink RX1 26 "OldMeasures" "stalls" "LOldMeasures$Stalls;").before ([.ref (a 0), .int v] : List Value).toArray s = true := hts _ (by decide +kernel)
  refine lv_aload_n hx hb dX1_driftOf_0 rfl (lv_at hl 0 rfl) ?_
  refine lv_iload_n hx hb dX1_driftOf_1 rfl (lv_at hl 1 rfl) ?_
  refine xro_vP (vx_runV (As := [.int v]) (rest := []) ⟨hx, hb, hml, hown, hts⟩ (c_X1_needStall l hst D cI cJ a k st fi fB fS fO fL c t y fW fD c2 t2 y2 gW gD (by omega) v) (cwV 1 hts gX1_driftOf_X1_needStall rfl rfl rfl (by decide +kernel) ⟨Nat.le_of_ble_eq_true rfl, Nat.le_of_ble_eq_true rfl⟩) (preV_ro KC_ok hP hC (va_recv hK hP (ci := 1) (q0 := 0) rfl rfl)) rfl rfl hl.1 rfl (lv_room (Nat.le_of_ble_eq_true rfl)) dX1_driftOf_2 ⟨by decide, by decide⟩) hout hlocks (by decide) (by decide) (fun E h9 => ⟨h9.1, h9.2⟩) (fun hp_2 => ?_)
  obtain ⟨jv, hj_v, rfl⟩ := inM_of hp_2 (by omega)
  refine lv_aload_n hx hb dX1_driftOf_5 rfl (lv_at hl 0 rfl) ?_
  refine va_get (D := D) (ci := 1) (v := .ref (a 5)) (C := RX1) (T := TX1) (N := 9) hx hb hts hiX1 hown hK hP 0 rfl rfl 4 (by decide) hw26 (fun _ h9 => h9) rfl dX1_driftOf_6 ?_
  refine va_getN (host := RX1) (D := D) (ci := 0) (v := .ref (a 7)) (C := RX0) (T := TX0) (N := 5) hx hb hts hiX0 hown hK hP 5 rfl rfl 1 (by decide) (va_Nw.use rfl hC.2.1.2.2.1) (fun _ h9 => h9) rfl dX1_driftOf_9 ?_
  refine lv_iload_n hx hb dX1_driftOf_12 rfl (lv_at hl 1 rfl) ?_
  refine xa_iald hx hb hK hP 7 0 rfl rfl (by omega) (by decide) dX1_driftOf_13 ?_
  refine vx_ret ?_
  exact W.iret (v := (fD jv)) hx hb hr (fun t9 ht hW => ⟨_, rfl, ⟨hp_2, by simp only [nI_clamp (show jv < 2 ^ 31 by omega)]⟩, ht⟩) (fun q hq => absurd hq List.not_mem_nil) dX1_driftOf_14

set_option maxHeartbeats 4000000 in
set_option maxRecDepth 100000 in
theorem c_X1_wearOf (l : Launch) (hst : l.stackTraces = false) (D : va_G) (cI cJ : ClassId) (a : Nat → Nat) (k st : Nat) (fi : Int32) (fB fS fO : Nat → Int32) (fL : Nat → Int64) (c : Nat) (t : Int32) (y : Nat) (fW fD : Nat → Int32) (c2 t2 y2 : Int32) (gW gD : Nat → Int32) (hc : c ≤ 6) (v : Int32) : vx_Met l yX1_wearOf wsX1_wearOf ({ frames := 7, cells := 1, slots := 6, locals := 150 }) (cP D [((a 0), .inr (1, [.ref (a 1), .ref (a 2), .ref (a 3), .ref (a 4), .ref (a 5), .ref (a 8), .int (nI k), .int (nI st), .int fi])), ((a 1), .inl (cI, 8, .inl fB)), ((a 2), .inl (cI, 8, .inl fS)), ((a 3), .inl (cJ, 8, .inr (.inl fL))), ((a 4), .inl (cI, 8, .inl fO)), ((a 5), .inr (0, [.ref (a 6), .ref (a 7), .int (nI c), .int t, .int (nI y)])), ((a 6), .inl (cI, 6, .inl fW)), ((a 7), .inl (cI, 6, .inl fD)), ((a 8), .inr (0, [.ref (a 9), .ref (a 10), .int c2, .int t2, .int y2])), ((a 9), .inl (cI, 6, .inl gW)), ((a 10), .inl (cI, 6, .inl gD))] (KC D cI cJ a) [.ref (a 0), .int v]) (roi (fun r => inM c v ∧ r = fW v.toNatClampNeg)) (rox (fun E => (E = eIO ∧ ¬ inM c v))) 1 6 (fun _ => False) := by
  refine vx_ofW (cc := cX1_wearOf) (maxL := 2) (ret := (some .int)) (by decide +kernel) rfl ?_
  intro p e s m args below meth c9 s₁ B hml hout hv
  obtain ⟨rfl, hP, hC⟩ := hv
  have hx := B.exec
  have hb := B.bytes
  have hr := B.returns
  have hts := atoms_spec (ws := wsX1_wearOf) B.pre
  have hown : s.vm.findClass RX1 = some m.cls := findClass_of_methodNamed B.named
  have hlocks := B.notSynchronized
  have hK : va_K D vwCl [(cI, .int), (cJ, .long)] s := hC.1
  have hl := lv_entry ([.ref (a 0), .int v]) (n := 2) (Nat.le_of_ble_eq_true rfl)
  rw [lg_entry_eq]
  generalize (lg_sl ([.ref (a 0), .int v]) ++ List.replicate (2 - (lg_sl ([.ref (a 0), .int v])).length) Slot.unset).toArray = ls at hl ⊢
  have hl : lv_has ls 2 [(0, .ref (a 0)), (1, .int v)] := hl
  have hiX0 : ∀ w ∈ u_ws RX0 TX0 5, w ∈ wsX1_wearOf := by decide +kernel
  have hiX1 : ∀ w ∈ u_ws RX1 TX1 9, w ∈ wsX1_wearOf := by decide +kernel
  have hw26 : (Cond.fieldLink RX1 26 "OldMeasures" "stalls" "LOldMeasures$Stalls;").before ([.ref (a 0), .int v] : List Value).toArray s = true := hts _ (by decide +kernel)
  refine lv_aload_n hx hb dX1_wearOf_0 rfl (lv_at hl 0 rfl) ?_
  refine lv_iload_n hx hb dX1_wearOf_1 rfl (lv_at hl 1 rfl) ?_
  refine xro_vP (vx_runV (As := [.int v]) (rest := []) ⟨hx, hb, hml, hown, hts⟩ (c_X1_needStall l hst D cI cJ a k st fi fB fS fO fL c t y fW fD c2 t2 y2 gW gD (by omega) v) (cwV 1 hts gX1_wearOf_X1_needStall rfl rfl rfl (by decide +kernel) ⟨Nat.le_of_ble_eq_true rfl, Nat.le_of_ble_eq_true rfl⟩) (preV_ro KC_ok hP hC (va_recv hK hP (ci := 1) (q0 := 0) rfl rfl)) rfl rfl hl.1 rfl (lv_room (Nat.le_of_ble_eq_true rfl)) dX1_wearOf_2 ⟨by decide, by decide⟩) hout hlocks (by decide) (by decide) (fun E h9 => ⟨h9.1, h9.2⟩) (fun hp_2 => ?_)
  obtain ⟨jv, hj_v, rfl⟩ := inM_of hp_2 (by omega)
  refine lv_aload_n hx hb dX1_wearOf_5 rfl (lv_at hl 0 rfl) ?_
  refine va_get (D := D) (ci := 1) (v := .ref (a 5)) (C := RX1) (T := TX1) (N := 9) hx hb hts hiX1 hown hK hP 0 rfl rfl 4 (by decide) hw26 (fun _ h9 => h9) rfl dX1_wearOf_6 ?_
  refine va_getN (host := RX1) (D := D) (ci := 0) (v := .ref (a 6)) (C := RX0) (T := TX0) (N := 5) hx hb hts hiX0 hown hK hP 5 rfl rfl 0 (by decide) (va_Nw.use rfl hC.2.1.2.1) (fun _ h9 => h9) rfl dX1_wearOf_9 ?_
  refine lv_iload_n hx hb dX1_wearOf_12 rfl (lv_at hl 1 rfl) ?_
  refine xa_iald hx hb hK hP 6 0 rfl rfl (by omega) (by decide) dX1_wearOf_13 ?_
  refine vx_ret ?_
  exact W.iret (v := (fW jv)) hx hb hr (fun t9 ht hW => ⟨_, rfl, ⟨hp_2, by simp only [nI_clamp (show jv < 2 ^ 31 by omega)]⟩, ht⟩) (fun q hq => absurd hq List.not_mem_nil) dX1_wearOf_14

set_option maxHeartbeats 4000000 in
set_option maxRecDepth 100000 in
theorem c_X1_isHonest (l : Launch) (hst : l.stackTraces = false) (D : va_G) (cI cJ : ClassId) (a : Nat → Nat) (k st : Nat) (fi : Int32) (fB fS fO : Nat → Int32) (fL : Nat → Int64) (c : Nat) (t : Int32) (y : Nat) (fW fD : Nat → Int32) (c2 t2 y2 : Int32) (gW gD : Nat → Int32) (hc : c ≤ 6) (v : Int32) : vx_Met l yX1_isHonest wsX1_isHonest ({ frames := 7, cells := 1, slots := 6, locals := 150 }) (cP D [((a 0), .inr (1, [.ref (a 1), .ref (a 2), .ref (a 3), .ref (a 4), .ref (a 5), .ref (a 8), .int (nI k), .int (nI st), .int fi])), ((a 1), .inl (cI, 8, .inl fB)), ((a 2), .inl (cI, 8, .inl fS)), ((a 3), .inl (cJ, 8, .inr (.inl fL))), ((a 4), .inl (cI, 8, .inl fO)), ((a 5), .inr (0, [.ref (a 6), .ref (a 7), .int (nI c), .int t, .int (nI y)])), ((a 6), .inl (cI, 6, .inl fW)), ((a 7), .inl (cI, 6, .inl fD)), ((a 8), .inr (0, [.ref (a 9), .ref (a 10), .int c2, .int t2, .int y2])), ((a 9), .inl (cI, 6, .inl gW)), ((a 10), .inl (cI, 6, .inl gD))] (KC D cI cJ a) [.ref (a 0), .int v]) (roi (fun r => inM c v ∧ r = bz ((absI (fD v.toNatClampNeg)).toInt ≤ t.toInt))) (rox (fun E => (E = eIO ∧ ¬ inM c v))) 1 6 (fun _ => False) := by
  refine vx_ofW (cc := cX1_isHonest) (maxL := 2) (ret := (some .boolean)) (by decide +kernel) rfl ?_
  intro p e s m args below meth c9 s₁ B hml hout hv
  obtain ⟨rfl, hP, hC⟩ := hv
  have hx := B.exec
  have hb := B.bytes
  have hr := B.returns
  have hts := atoms_spec (ws := wsX1_isHonest) B.pre
  have hown : s.vm.findClass RX1 = some m.cls := findClass_of_methodNamed B.named
  have hlocks := B.notSynchronized
  have hK : va_K D vwCl [(cI, .int), (cJ, .long)] s := hC.1
  have hl := lv_entry ([.ref (a 0), .int v]) (n := 2) (Nat.le_of_ble_eq_true rfl)
  rw [lg_entry_eq]
  generalize (lg_sl ([.ref (a 0), .int v]) ++ List.replicate (2 - (lg_sl ([.ref (a 0), .int v])).length) Slot.unset).toArray = ls at hl ⊢
  have hl : lv_has ls 2 [(0, .ref (a 0)), (1, .int v)] := hl
  have hiX0 : ∀ w ∈ u_ws RX0 TX0 5, w ∈ wsX1_isHonest := by decide +kernel
  have hiX1 : ∀ w ∈ u_ws RX1 TX1 9, w ∈ wsX1_isHonest := by decide +kernel
  have hw26 : (Cond.fieldLink RX1 26 "OldMeasures" "stalls" "LOldMeasures$Stalls;").before ([.ref (a 0), .int v] : List Value).toArray s = true := hts _ (by decide +kernel)
  refine lv_aload_n hx hb dX1_isHonest_0 rfl (lv_at hl 0 rfl) ?_
  refine lv_iload_n hx hb dX1_isHonest_1 rfl (lv_at hl 1 rfl) ?_
  refine xro_vP (vx_runV (As := [.int v]) (rest := []) ⟨hx, hb, hml, hown, hts⟩ (c_X1_needStall l hst D cI cJ a k st fi fB fS fO fL c t y fW fD c2 t2 y2 gW gD (by omega) v) (cwV 1 hts gX1_isHonest_X1_needStall rfl rfl rfl (by decide +kernel) ⟨Nat.le_of_ble_eq_true rfl, Nat.le_of_ble_eq_true rfl⟩) (preV_ro KC_ok hP hC (va_recv hK hP (ci := 1) (q0 := 0) rfl rfl)) rfl rfl hl.1 rfl (lv_room (Nat.le_of_ble_eq_true rfl)) dX1_isHonest_2 ⟨by decide, by decide⟩) hout hlocks (by decide) (by decide) (fun E h9 => ⟨h9.1, h9.2⟩) (fun hp_2 => ?_)
  obtain ⟨jv, hj_v, rfl⟩ := inM_of hp_2 (by omega)
  refine lv_aload_n hx hb dX1_isHonest_5 rfl (lv_at hl 0 rfl) ?_
  refine va_get (D := D) (ci := 1) (v := .ref (a 5)) (C := RX1) (T := TX1) (N := 9) hx hb hts hiX1 hown hK hP 0 rfl rfl 4 (by decide) hw26 (fun _ h9 => h9) rfl dX1_isHonest_6 ?_
  refine lv_aload_n hx hb dX1_isHonest_9 rfl (lv_at hl 0 rfl) ?_
  refine va_get (D := D) (ci := 1) (v := .ref (a 5)) (C := RX1) (T := TX1) (N := 9) hx hb hts hiX1 hown hK hP 0 rfl rfl 4 (by decide) hw26 (fun _ h9 => h9) rfl dX1_isHonest_10 ?_
  refine va_getN (host := RX1) (D := D) (ci := 0) (v := .ref (a 7)) (C := RX0) (T := TX0) (N := 5) hx hb hts hiX0 hown hK hP 5 rfl rfl 1 (by decide) (va_Nw.use rfl hC.2.1.2.2.1) (fun _ h9 => h9) rfl dX1_isHonest_13 ?_
  refine lv_iload_n hx hb dX1_isHonest_16 rfl (lv_at hl 1 rfl) ?_
  refine xa_iald hx hb hK hP 7 0 rfl rfl (by omega) (by decide) dX1_isHonest_17 ?_
  refine ro_iE (va_runVN (As := [.int (fD jv)]) (rest := []) ⟨hx, hb, hml, hown, hts⟩ (c_X0_isTolerated l D cI cJ (a 5) (a 6) (a 7) c t y fW fD (fD jv)) ⟨va_cnB (host := RX1) 1 hts ggX1_isHonest_X0_isTolerated rfl rfl rfl hC.2.1.2.2.2.2.2.2.2.1 (hts (.initialized RX0) (by decide +kernel)) (by decide +kernel) ⟨Nat.le_of_ble_eq_true rfl, Nat.le_of_ble_eq_true rfl⟩, hts (.instanceMethod yX0_isTolerated) (by decide +kernel), hts (.selects RX0 yX0_isTolerated yX0_isTolerated) (by decide +kernel)⟩ (preV_ro KM_ok (hP.sub (ws' := [((a 5), .inr (0, [.ref (a 6), .ref (a 7), .int (nI c), .int t, .int (nI y)])), ((a 6), .inl (cI, 6, .inl fW)), ((a 7), .inl (cI, 6, .inl fD))]) [5, 6, 7] rfl) hK (va_recv hK hP (ci := 0) (q0 := 5) rfl rfl)) rfl rfl hl.1 rfl (lv_room (Nat.le_of_ble_eq_true rfl)) dX1_isHonest_18 ⟨by decide, by decide⟩) ?_
  refine vx_ret ?_
  exact W.zret (v := (bz ((absI (fD jv)).toInt ≤ t.toInt))) hx hb hr (bz_nar _) (fun t9 ht hW => ⟨_, rfl, ⟨hp_2, by simp only [nI_clamp (show jv < 2 ^ 31 by omega)]⟩, ht⟩) (fun q hq => absurd hq List.not_mem_nil) dX1_isHonest_21
