set_option maxHeartbeats 4000000 in
set_option maxRecDepth 100000 in
theorem c_X1_lengthAt (l : Launch) (D : va_G) (cI cJ cR : ClassId) (a : Nat → Nat) (k st : Nat) (fi : Int32) (fB fS fO : Nat → Int32) (fL : Nat → Int64) (c : Nat) (t : Int32) (y : Nat) (fW fD : Nat → Int32) (c2 t2 y2 : Int32) (gW gD : Nat → Int32) (i : Nat) (hi : i < 8) (hO : inM 8 (fO i)) : Met l yX1_lengthAt wsX1_lengthAt ({ frames := 0, cells := 0, slots := 0, locals := 0 }) (cP D [((a 0), .inr (1, [.ref (a 1), .ref (a 2), .ref (a 3), .ref (a 4), .ref (a 5), .ref (a 8), .int (nI k), .int (nI st), .int fi])), ((a 1), .inl (cI, 8, .inl fB)), ((a 2), .inl (cI, 8, .inl fS)), ((a 3), .inl (cJ, 8, .inr (.inl fL))), ((a 4), .inl (cI, 8, .inl fO)), ((a 5), .inr (0, [.ref (a 6), .ref (a 7), .int (nI c), .int t, .int (nI y)])), ((a 6), .inl (cI, 6, .inl fW)), ((a 7), .inl (cI, 6, .inl fD)), ((a 8), .inr (0, [.ref (a 9), .ref (a 10), .int c2, .int t2, .int y2])), ((a 9), .inl (cI, 6, .inl gW)), ((a 10), .inl (cI, 6, .inl gD))] (KM D cI cJ cR) [.ref (a 0), .int (nI i)]) (rol (fun r => r = lnA fL fO i)) 0 0 (fun _ => False) := by
  refine Met.ofW (cc := cX1_lengthAt) (maxL := 2) (ret := (some .long)) (by decide +kernel) rfl ?_
  intro p e s m args below meth c9 s₁ B hml hv
  obtain ⟨rfl, hP, hC⟩ := hv
  have hx := B.exec
  have hb := B.bytes
  have hr := B.returns
  have hts := atoms_spec (ws := wsX1_lengthAt) B.pre
  have hown : s.vm.findClass RX1 = some m.cls := findClass_of_methodNamed B.named
  have hlocks := B.notSynchronized
  have hK : va_K D vwCl [(cI, .int), (cJ, .long), (cR, .array .int)] s := hC
  have hl := lv_entry ([.ref (a 0), .int (nI i)]) (n := 2) (Nat.le_of_ble_eq_true rfl)
  rw [lg_entry_eq]
  generalize (lg_sl ([.ref (a 0), .int (nI i)]) ++ List.replicate (2 - (lg_sl ([.ref (a 0), .int (nI i)])).length) Slot.unset).toArray = ls at hl ⊢
  have hl : lv_has ls 2 [(0, .ref (a 0)), (1, .int (nI i))] := hl
  have hiX1 : ∀ w ∈ u_ws RX1 TX1 9, w ∈ wsX1_lengthAt := by decide +kernel
  have hw16 : (Cond.fieldLink RX1 16 "OldMeasures" "lengths" "[J").before ([.ref (a 0), .int (nI i)] : List Value).toArray s = true := hts _ (by decide +kernel)
  have hw20 : (Cond.fieldLink RX1 20 "OldMeasures" "longestFirst" "[I").before ([.ref (a 0), .int (nI i)] : List Value).toArray s = true := hts _ (by decide +kernel)
  refine lv_aload_n hx hb dX1_lengthAt_0 rfl (lv_at hl 0 rfl) ?_
  refine va_get (D := D) (ci := 1) (v := .ref (a 3)) (C := RX1) (T := TX1) (N := 9) hx hb hts hiX1 hown hK hP 0 rfl rfl 2 (by decide) hw16 (fun _ h9 => h9) rfl dX1_lengthAt_1 ?_
  refine lv_aload_n hx hb dX1_lengthAt_4 rfl (lv_at hl 0 rfl) ?_
  refine va_get (D := D) (ci := 1) (v := .ref (a 4)) (C := RX1) (T := TX1) (N := 9) hx hb hts hiX1 hown hK hP 0 rfl rfl 3 (by decide) hw20 (fun _ h9 => h9) rfl dX1_lengthAt_5 ?_
  refine lv_iload_n hx hb dX1_lengthAt_8 rfl (lv_at hl 1 rfl) ?_
  refine xa_iald hx hb hK hP 4 0 rfl rfl (by omega) (by decide) dX1_lengthAt_9 ?_
  refine va_lald hx hb hK hP 3 1 rfl rfl (vp_in_iff.mpr hO) dX1_lengthAt_10 ?_
  exact W.lret (v := (fL (fO i).toNatClampNeg)) hx hb hr (fun t9 ht hW => ⟨_, rfl, rfl, ht⟩) (fun q hq => absurd hq List.not_mem_nil) dX1_lengthAt_11

set_option maxHeartbeats 4000000 in
set_option maxRecDepth 100000 in
theorem c_X1_greatestCommonDivisor (l : Launch) (u v : Nat) (hu : 0 < u) (hv : 0 < v) (hu2 : u < 2 ^ 40) (hv2 : v < 2 ^ 40) : Met l yX1_greatestCommonDivisor wsX1_greatestCommonDivisor ({ frames := 0, cells := 0, slots := 0, locals := 0 }) (va_Pc [.long (lN u), .long (lN v)] (fun _ => True)) (rol (fun r => r = lN (Nat.gcd u v))) 0 0 (fun _ => False) := by
  refine Met.ofW (cc := cX1_greatestCommonDivisor) (maxL := 11) (ret := (some .long)) (by decide +kernel) rfl ?_
  intro p e s m args below meth c9 s₁ B hml hv
  obtain ⟨rfl, -⟩ := hv
  have hx := B.exec
  have hb := B.bytes
  have hr := B.returns
  have hts := atoms_spec (ws := wsX1_greatestCommonDivisor) B.pre
  have hown : s.vm.findClass RX1 = some m.cls := findClass_of_methodNamed B.named
  have hlocks := B.notSynchronized
  have hl := lv_entry ([.long (lN u), .long (lN v)]) (n := 11) (Nat.le_of_ble_eq_true rfl)
  rw [lg_entry_eq]
  generalize (lg_sl ([.long (lN u), .long (lN v)]) ++ List.replicate (11 - (lg_sl ([.long (lN u), .long (lN v)])).length) Slot.unset).toArray = ls at hl ⊢
  have hl : lv_has ls 11 [(0, .long (lN u)), (2, .long (lN v))] := hl
  refine lv_lload_n hx hb dX1_greatestCommonDivisor_0 rfl (lv_at hl 0 rfl) ?_
  refine lv_lstore (lv' := [(4, .long (lN u)), (0, .long (lN u)), (2, .long (lN v))]) hx hb dX1_greatestCommonDivisor_1 hl (by decide) rfl (fun ls hl => ?_)
  refine lv_lload_n hx hb dX1_greatestCommonDivisor_3 rfl (lv_at hl 2 rfl) ?_
  refine lv_lstore (lv' := [(6, .long (lN v)), (4, .long (lN u)), (0, .long (lN u)), (2, .long (lN v))]) hx hb dX1_greatestCommonDivisor_4 hl (by decide) rfl (fun ls hl => ?_)
  refine lv_iconst (v := 0) hx hb dX1_greatestCommonDivisor_6 (by decide) ?_
  refine lv_istore (lv' := [(8, .int 0), (6, .long (lN v)), (4, .long (lN u)), (0, .long (lN u)), (2, .long (lN v))]) hx hb dX1_greatestCommonDivisor_7 hl (by decide) rfl (fun ls hl => ?_)
  refine loopR (σ := (Nat × Nat)) (I := fun i x ls => lv_has ls 11 [(4, .long (lN x.1)), (6, .long (lN x.2)), (8, .int (nI i))] ∧ (0 < x.1) ∧ (Nat.gcd x.1 x.2 = Nat.gcd u v) ∧ (x.1 < 2 ^ 40 ∧ x.2 < 2 ^ 40) ∧ ((i = 0 ∨ (x.2 < x.1 ∧ x.1 * x.2 * 2 ^ (i - 1) < 2 ^ 80)))) 100 ?_ 0 (u, v) ls (by omega) ⟨lv_sub hl [2, 1, 0] rfl, hu, rfl, ⟨hu2, hv2⟩, Or.inl rfl⟩
  intro i x ls hi hI kk
  obtain ⟨hl, h1, h2, h3, h4⟩ := hI
  refine lv_iload hx hb dX1_greatestCommonDivisor_9 (lv_at hl 2 rfl) ?_
  refine lv_bipush (v := 100) hx hb dX1_greatestCommonDivisor_11 (by decide) ?_
  refine lv_icmp_ge (tgt := 44) hx hb dX1_greatestCommonDivisor_13 (by decide) (fun c_13 => ?_) (fun c_13 => ?_)
  · skip
    simp only [Int32.le_iff_toInt_le] at c_13
    rw [nI_toInt (n := i) (by omega)] at c_13
    rw [(by decide : (100 : Int32).toInt = 100)] at c_13
    have h0 : x.2 = 0 := by
      have e9 : i = 100 := by omega
      subst e9
      rcases h4 with h4 | h4
      · omega
      · exact eu_end h1 h4.2
    refine lv_lload hx hb dX1_greatestCommonDivisor_44 (lv_at hl 0 rfl) ?_
    exact W.lret (v := (lN x.1)) hx hb hr (fun t9 ht hW => ⟨_, rfl, by rw [← h2, h0, Nat.gcd_zero_right], ht⟩) (fun q hq => absurd hq List.not_mem_nil) dX1_greatestCommonDivisor_46
  · skip
    simp only [Int32.le_iff_toInt_le] at c_13
    rw [nI_toInt (n := i) (by omega)] at c_13
    rw [(by decide : (100 : Int32).toInt = 100)] at c_13
    refine lv_lload hx hb dX1_greatestCommonDivisor_16 (lv_at hl 1 rfl) ?_
    refine lv_lconst (v := 0) hx hb dX1_greatestCommonDivisor_18 (by decide) ?_
    refine W.lcmp hx hb dX1_greatestCommonDivisor_19 ?_
    refine lv_if_le (tgt := 44) hx hb dX1_greatestCommonDivisor_20 (by decide) (fun c_20 => ?_) (fun c_20 => ?_)
    · skip
      have c_20 := (lgc_le _ _).mp c_20
      have h0 : x.2 = 0 := by
        rw [pk_lT (Nat.lt_trans h3.2 (by decide)), show (0 : Int64).toInt = 0 from rfl] at c_20
        omega
      refine lv_lload hx hb dX1_greatestCommonDivisor_44 (lv_at hl 0 rfl) ?_
      exact W.lret (v := (lN x.1)) hx hb hr (fun t9 ht hW => ⟨_, rfl, by rw [← h2, h0, Nat.gcd_zero_right], ht⟩) (fun q hq => absurd hq List.not_mem_nil) dX1_greatestCommonDivisor_46
    · skip
      have c_20 := (not_congr (lgc_le _ _)).mp c_20
      have hbp : 0 < x.2 := by
        rw [pk_lT (Nat.lt_trans h3.2 (by decide)), show (0 : Int64).toInt = 0 from rfl] at c_20
        omega
      refine lv_lload hx hb dX1_greatestCommonDivisor_23 (lv_at hl 0 rfl) ?_
      refine lv_lload hx hb dX1_greatestCommonDivisor_25 (lv_at hl 1 rfl) ?_
      refine lv_lrem hx hb dX1_greatestCommonDivisor_27 (lN_ne0 hbp (Nat.lt_trans h3.2 (by decide))) ?_
      refine topL (pk_lRem (Nat.lt_trans h3.1 (by decide)) hbp (Nat.lt_trans h3.2 (by decide))) ?_
      refine lv_lstore (lv' := [(9, .long (lN (x.1 % x.2))), (4, .long (lN x.1)), (6, .long (lN x.2)), (8, .int (nI i))]) hx hb dX1_greatestCommonDivisor_28 hl (by decide) rfl (fun ls hl => ?_)
      refine lv_lload hx hb dX1_greatestCommonDivisor_30 (lv_at hl 2 rfl) ?_
      refine lv_lstore (lv' := [(4, .long (lN x.2)), (9, .long (lN (x.1 % x.2))), (6, .long (lN x.2)), (8, .int (nI i))]) hx hb dX1_greatestCommonDivisor_32 hl (by decide) rfl (fun ls hl => ?_)
      refine lv_lload hx hb dX1_greatestCommonDivisor_34 (lv_at hl 1 rfl) ?_
      refine lv_lstore (lv' := [(6, .long (lN (x.1 % x.2))), (4, .long (lN x.2)), (9, .long (lN (x.1 % x.2))), (8, .int (nI i))]) hx hb dX1_greatestCommonDivisor_36 hl (by decide) rfl (fun ls hl => ?_)
      refine lv_iinc (v := (nI (i + 1))) (lv' := [(8, .int (nI (i + 1))), (6, .long (lN (x.1 % x.2))), (4, .long (lN x.2)), (9, .long (lN (x.1 % x.2)))]) hx hb dX1_greatestCommonDivisor_38 hl (k := 3) rfl (nI_inc i) (by decide) rfl (fun ls hl => ?_)
      refine lv_goto (tgt := 9) hx hb dX1_greatestCommonDivisor_41 (by decide) ?_
      exact kk (x.2, x.1 % x.2) ls (by omega) ⟨lv_sub hl [2, 1, 0] rfl, hbp, by rw [← h2, Nat.gcd_comm x.1 x.2, Nat.gcd_rec x.2 x.1, Nat.gcd_comm], ⟨h3.2, Nat.lt_trans (Nat.mod_lt _ hbp) h3.2⟩, Or.inr (eu_step hbp h3.1 h3.2 h4)⟩

set_option maxHeartbeats 4000000 in
set_option maxRecDepth 100000 in
theorem c_X1_withoutCommonDivisor (l : Launch) (u v : Nat) (hu : 0 < u) (hv : 0 < v) (hu2 : u < 2 ^ 40) (hv2 : v < 2 ^ 40) : Met l yX1_withoutCommonDivisor wsX1_withoutCommonDivisor ({ frames := 1, cells := 0, slots := 0, locals := 30 }) (va_Pc [.long (lN u), .long (lN v)] (fun _ => True)) (rol (fun r => r = lN (u / Nat.gcd u v))) 0 0 (fun _ => False) := by
  refine Met.ofW (cc := cX1_withoutCommonDivisor) (maxL := 4) (ret := (some .long)) (by decide +kernel) rfl ?_
  intro p e s m args below meth c9 s₁ B hml hv
  obtain ⟨rfl, -⟩ := hv
  have hx := B.exec
  have hb := B.bytes
  have hr := B.returns
  have hts := atoms_spec (ws := wsX1_withoutCommonDivisor) B.pre
  have hown : s.vm.findClass RX1 = some m.cls := findClass_of_methodNamed B.named
  have hlocks := B.notSynchronized
  have hl := lv_entry ([.long (lN u), .long (lN v)]) (n := 4) (Nat.le_of_ble_eq_true rfl)
  rw [lg_entry_eq]
  generalize (lg_sl ([.long (lN u), .long (lN v)]) ++ List.replicate (4 - (lg_sl ([.long (lN u), .long (lN v)])).length) Slot.unset).toArray = ls at hl ⊢
  have hl : lv_has ls 4 [(0, .long (lN u)), (2, .long (lN v))] := hl
  refine lv_lload_n hx hb dX1_withoutCommonDivisor_0 rfl (lv_at hl 0 rfl) ?_
  refine lv_lload_n hx hb dX1_withoutCommonDivisor_1 rfl (lv_at hl 0 rfl) ?_
  refine lv_lload_n hx hb dX1_withoutCommonDivisor_2 rfl (lv_at hl 1 rfl) ?_
  refine ro_lE (va_runS (As := [.long (lN u), .long (lN v)]) (rest := [.long (lN u)]) ⟨hx, hb, hml, hown, hts⟩ (c_X1_greatestCommonDivisor l u v hu hv hu2 hv2) (va_cwS 2 hts gX1_withoutCommonDivisor_X1_greatestCommonDivisor rfl rfl rfl (by decide +kernel) ⟨Nat.le_of_ble_eq_true rfl, Nat.le_of_ble_eq_true rfl⟩) pre0 rfl rfl hl.1 rfl (lv_room (Nat.le_of_ble_eq_true rfl)) dX1_withoutCommonDivisor_3 ⟨by decide, by decide⟩) ?_
  refine ro_lE (va_runS (As := [.long (lN u), .long (lN (Nat.gcd u v))]) (rest := []) ⟨hx, hb, hml, hown, hts⟩ (c_X1_timesIn l (lN u) (lN (Nat.gcd u v)) (by rw [pk_lT (Nat.lt_of_le_of_lt (Nat.gcd_le_left v hu) (Nat.lt_trans hu2 (by decide)))]; exact Int.ofNat_lt.mpr (Nat.gcd_pos_of_pos_left v hu))) (va_cwS 2 hts gX1_withoutCommonDivisor_X1_timesIn rfl rfl rfl (by decide +kernel) ⟨Nat.le_of_ble_eq_true rfl, Nat.le_of_ble_eq_true rfl⟩) pre0 rfl rfl hl.1 rfl (lv_room (Nat.le_of_ble_eq_true rfl)) dX1_withoutCommonDivisor_6 ⟨by decide, by decide⟩) ?_
  refine topL (pk_lDiv (Nat.lt_trans hu2 (by decide)) (Nat.gcd_pos_of_pos_left v hu) (Nat.lt_of_le_of_lt (Nat.gcd_le_left v hu) (Nat.lt_trans hu2 (by decide)))) ?_
  exact W.lret (v := (lN (u / Nat.gcd u v))) hx hb hr (fun t9 ht hW => ⟨_, rfl, rfl, ht⟩) (fun q hq => absurd hq List.not_mem_nil) dX1_withoutCommonDivisor_9

set_option maxHeartbeats 4000000 in
set_option maxRecDepth 100000 in
theorem c_X1_measures (l : Launch) (D : va_G) (cI cJ cR : ClassId) (a : Nat → Nat) (k st : Nat) (fi : Int32) (fB fS fO : Nat → Int32) (fL : Nat → Int64) (c : Nat) (t : Int32) (y : Nat) (fW fD : Nat → Int32) (c2 t2 y2 : Int32) (gW gD : Nat → Int32) : Met l yX1_measures wsX1_measures ({ frames := 0, cells := 0, slots := 0, locals := 0 }) (cP D [((a 0), .inr (1, [.ref (a 1), .ref (a 2), .ref (a 3), .ref (a 4), .ref (a 5), .ref (a 8), .int (nI k), .int (nI st), .int fi])), ((a 1), .inl (cI, 8, .inl fB)), ((a 2), .inl (cI, 8, .inl fS)), ((a 3), .inl (cJ, 8, .inr (.inl fL))), ((a 4), .inl (cI, 8, .inl fO)), ((a 5), .inr (0, [.ref (a 6), .ref (a 7), .int (nI c), .int t, .int (nI y)])), ((a 6), .inl (cI, 6, .inl fW)), ((a 7), .inl (cI, 6, .inl fD)), ((a 8), .inr (0, [.ref (a 9), .ref (a 10), .int c2, .int t2, .int y2])), ((a 9), .inl (cI, 6, .inl gW)), ((a 10), .inl (cI, 6, .inl gD))] (KC D cI cJ cR) [.ref (a 0)]) (roi (fun r => r = nI k)) 0 0 (fun _ => False) := by
  refine Met.ofW (cc := cX1_measures) (maxL := 1) (ret := (some .int)) (by decide +kernel) rfl ?_
  intro p e s m args below meth c9 s₁ B hml hv
  obtain ⟨rfl, hP, hC⟩ := hv
  have hx := B.exec
  have hb := B.bytes
  have hr := B.returns
  have hts := atoms_spec (ws := wsX1_measures) B.pre
  have hown : s.vm.findClass RX1 = some m.cls := findClass_of_methodNamed B.named
  have hlocks := B.notSynchronized
  have hK : va_K D vwCl [(cI, .int), (cJ, .long), (cR, .array .int)] s := hC.1
  have hl := lv_entry ([.ref (a 0)]) (n := 1) (Nat.le_of_ble_eq_true rfl)
  rw [lg_entry_eq]
  generalize (lg_sl ([.ref (a 0)]) ++ List.replicate (1 - (lg_sl ([.ref (a 0)])).length) Slot.unset).toArray = ls at hl ⊢
  have hl : lv_has ls 1 [(0, .ref (a 0))] := hl
  have hiX1 : ∀ w ∈ u_ws RX1 TX1 9, w ∈ wsX1_measures := by decide +kernel
  have hw33 : (Cond.fieldLink RX1 33 "OldMeasures" "measureCount" "I").before ([.ref (a 0)] : List Value).toArray s = true := hts _ (by decide +kernel)
  refine lv_aload_n hx hb dX1_measures_0 rfl (lv_at hl 0 rfl) ?_
  refine va_get (D := D) (ci := 1) (v := .int (nI k)) (C := RX1) (T := TX1) (N := 9) hx hb hts hiX1 hown hK hP 0 rfl rfl 6 (by decide) hw33 (fun _ h9 => h9) rfl dX1_measures_1 ?_
  exact W.iret (v := (nI k)) hx hb hr (fun t9 ht hW => ⟨_, rfl, rfl, ht⟩) (fun q hq => absurd hq List.not_mem_nil) dX1_measures_4

set_option maxHeartbeats 4000000 in
set_option maxRecDepth 100000 in
theorem c_X1_stalls (l : Launch) (D : va_G) (cI cJ cR : ClassId) (a : Nat → Nat) (k st : Nat) (fi : Int32) (fB fS fO : Nat → Int32) (fL : Nat → Int64) (c : Nat) (t : Int32) (y : Nat) (fW fD : Nat → Int32) (c2 t2 y2 : Int32) (gW gD : Nat → Int32) : Met l yX1_stalls wsX1_stalls ({ frames := 0, cells := 0, slots := 0, locals := 0 }) (cP D [((a 0), .inr (1, [.ref (a 1), .ref (a 2), .ref (a 3), .ref (a 4), .ref (a 5), .ref (a 8), .int (nI k), .int (nI st), .int fi])), ((a 1), .inl (cI, 8, .inl fB)), ((a 2), .inl (cI, 8, .inl fS)), ((a 3), .inl (cJ, 8, .inr (.inl fL))), ((a 4), .inl (cI, 8, .inl fO)), ((a 5), .inr (0, [.ref (a 6), .ref (a 7), .int (nI c), .int t, .int (nI y)])), ((a 6), .inl (cI, 6, .inl fW)), ((a 7), .inl (cI, 6, .inl fD)), ((a 8), .inr (0, [.ref (a 9), .ref (a 10), .int c2, .int t2, .int y2])), ((a 9), .inl (cI, 6, .inl gW)), ((a 10), .inl (cI, 6, .inl gD))] (KC D cI cJ cR) [.ref (a 0)]) (roi (fun r => r = nI c)) 0 0 (fun _ => False) := by
  refine Met.ofW (cc := cX1_stalls) (maxL := 1) (ret := (some .int)) (by decide +kernel) rfl ?_
  intro p e s m args below meth c9 s₁ B hml hv
  obtain ⟨rfl, hP, hC⟩ := hv
  have hx := B.exec
  have hb := B.bytes
  have hr := B.returns
  have hts := atoms_spec (ws := wsX1_stalls) B.pre
  have hown : s.vm.findClass RX1 = some m.cls := findClass_of_methodNamed B.named
  have hlocks := B.notSynchronized
  have hK : va_K D vwCl [(cI, .int), (cJ, .long), (cR, .array .int)] s := hC.1
  have hl := lv_entry ([.ref (a 0)]) (n := 1) (Nat.le_of_ble_eq_true rfl)
  rw [lg_entry_eq]
  generalize (lg_sl ([.ref (a 0)]) ++ List.replicate (1 - (lg_sl ([.ref (a 0)])).length) Slot.unset).toArray = ls at hl ⊢
  have hl : lv_has ls 1 [(0, .ref (a 0))] := hl
  have hiX0 : ∀ w ∈ u_ws RX0 TX0 5, w ∈ wsX1_stalls := by decide +kernel
  have hiX1 : ∀ w ∈ u_ws RX1 TX1 9, w ∈ wsX1_stalls := by decide +kernel
  have hw26 : (Cond.fieldLink RX1 26 "OldMeasures" "stalls" "LOldMeasures$Stalls;").before ([.ref (a 0)] : List Value).toArray s = true := hts _ (by decide +kernel)
  refine lv_aload_n hx hb dX1_stalls_0 rfl (lv_at hl 0 rfl) ?_
  refine va_get (D := D) (ci := 1) (v := .ref (a 5)) (C := RX1) (T := TX1) (N := 9) hx hb hts hiX1 hown hK hP 0 rfl rfl 4 (by decide) hw26 (fun _ h9 => h9) rfl dX1_stalls_1 ?_
  refine va_getN (host := RX1) (D := D) (ci := 0) (v := .int (nI c)) (C := RX0) (T := TX0) (N := 5) hx hb hts hiX0 hown hK hP 5 rfl rfl 2 (by decide) (va_Nw.use rfl hC.2.2.1) (fun _ h9 => h9) rfl dX1_stalls_4 ?_
  exact W.iret (v := (nI c)) hx hb hr (fun t9 ht hW => ⟨_, rfl, rfl, ht⟩) (fun q hq => absurd hq List.not_mem_nil) dX1_stalls_7

set_option maxHeartbeats 4000000 in
set_option maxRecDepth 100000 in
theorem c_X1_days (l : Launch) (D : va_G) (cI cJ cR : ClassId) (a : Nat → Nat) (k st : Nat) (fi : Int32) (fB fS fO : Nat → Int32) (fL : Nat → Int64) (c : Nat) (t : Int32) (y : Nat) (fW fD : Nat → Int32) (c2 t2 y2 : Int32) (gW gD : Nat → Int32) : Met l yX1_days wsX1_days ({ frames := 0, cells := 0, slots := 0, locals := 0 }) (cP D [((a 0), .inr (1, [.ref (a 1), .ref (a 2), .ref (a 3), .ref (a 4), .ref (a 5), .ref (a 8), .int (nI k), .int (nI st), .int fi])), ((a 1), .inl (cI, 8, .inl fB)), ((a 2), .inl (cI, 8, .inl fS)), ((a 3), .inl (cJ, 8, .inr (.inl fL))), ((a 4), .inl (cI, 8, .inl fO)), ((a 5), .inr (0, [.ref (a 6), .ref (a 7), .int (nI c), .int t, .int (nI y)])), ((a 6), .inl (cI, 6, .inl fW)), ((a 7), .inl (cI, 6, .inl fD)), ((a 8), .inr (0, [.ref (a 9), .ref (a 10), .int c2, .int t2, .int y2])), ((a 9), .inl (cI, 6, .inl gW)), ((a 10), .inl (cI, 6, .inl gD))] (KC D cI cJ cR) [.ref (a 0)]) (roi (fun r => r = nI y)) 0 0 (fun _ => False) := by
  refine Met.ofW (cc := cX1_days) (maxL := 1) (ret := (some .int)) (by decide +kernel) rfl ?_
  intro p e s m args below meth c9 s₁ B hml hv
  obtain ⟨rfl, hP, hC⟩ := hv
  have hx := B.exec
  have hb := B.bytes
  have hr := B.returns
  have hts := atoms_spec (ws := wsX1_days) B.pre
  have hown : s.vm.findClass RX1 = some m.cls := findClass_of_methodNamed B.named
  have hlocks := B.notSynchronized
  have hK : va_K D vwCl [(cI, .int), (cJ, .long), (cR, .array .int)] s := hC.1
  have hl := lv_entry ([.ref (a 0)]) (n := 1) (Nat.le_of_ble_eq_true rfl)
  rw [lg_entry_eq]
  generalize (lg_sl ([.ref (a 0)]) ++ List.replicate (1 - (lg_sl ([.ref (a 0)])).length) Slot.unset).toArray = ls at hl ⊢
  have hl : lv_has ls 1 [(0, .ref (a 0))] := hl
  have hiX0 : ∀ w ∈ u_ws RX0 TX0 5, w ∈ wsX1_days := by decide +kernel
  have hiX1 : ∀ w ∈ u_ws RX1 TX1 9, w ∈ wsX1_days := by decide +kernel
  have hw26 : (Cond.fieldLink RX1 26 "OldMeasures" "stalls" "LOldMeasures$Stalls;").before ([.ref (a 0)] : List Value).toArray s = true := hts _ (by decide +kernel)
  refine lv_aload_n hx hb dX1_days_0 rfl (lv_at hl 0 rfl) ?_
  refine va_get (D := D) (ci := 1) (v := .ref (a 5)) (C := RX1) (T := TX1) (N := 9) hx hb hts hiX1 hown hK hP 0 rfl rfl 4 (by decide) hw26 (fun _ h9 => h9) rfl dX1_days_1 ?_
  refine va_getN (host := RX1) (D := D) (ci := 0) (v := .int (nI y)) (C := RX0) (T := TX0) (N := 5) hx hb hts hiX0 hown hK hP 5 rfl rfl 4 (by decide) (va_Nw.use rfl hC.2.2.2.2.2.2.1) (fun _ h9 => h9) rfl dX1_days_4 ?_
  exact W.iret (v := (nI y)) hx hb hr (fun t9 ht hW => ⟨_, rfl, rfl, ht⟩) (fun q hq => absurd hq List.not_mem_nil) dX1_days_7

set_option maxHeartbeats 4000000 in
set_option maxRecDepth 100000 in
theorem c_X1_standard (l : Launch) (D : va_G) (cI cJ cR : ClassId) (a : Nat → Nat) (k st : Nat) (fi : Int32) (fB fS fO : Nat → Int32) (fL : Nat → Int64) (c : Nat) (t : Int32) (y : Nat) (fW fD : Nat → Int32) (c2 t2 y2 : Int32) (gW gD : Nat → Int32) : Met l yX1_standard wsX1_standard ({ frames := 0, cells := 0, slots := 0, locals := 0 }) (cP D [((a 0), .inr (1, [.ref (a 1), .ref (a 2), .ref (a 3), .ref (a 4), .ref (a 5), .ref (a 8), .int (nI k), .int (nI st), .int fi])), ((a 1), .inl (cI, 8, .inl fB)), ((a 2), .inl (cI, 8, .inl fS)), ((a 3), .inl (cJ, 8, .inr (.inl fL))), ((a 4), .inl (cI, 8, .inl fO)), ((a 5), .inr (0, [.ref (a 6), .ref (a 7), .int (nI c), .int t, .int (nI y)])), ((a 6), .inl (cI, 6, .inl fW)), ((a 7), .inl (cI, 6, .inl fD)), ((a 8), .inr (0, [.ref (a 9), .ref (a 10), .int c2, .int t2, .int y2])), ((a 9), .inl (cI, 6, .inl gW)), ((a 10), .inl (cI, 6, .inl gD))] (KC D cI cJ cR) [.ref (a 0)]) (roi (fun r => r = nI st)) 0 0 (fun _ => False) := by
  refine Met.ofW (cc := cX1_standard) (maxL := 1) (ret := (some .int)) (by decide +kernel) rfl ?_
  intro p e s m args below meth c9 s₁ B hml hv
  obtain ⟨rfl, hP, hC⟩ := hv
  have hx := B.exec
  have hb := B.bytes
  have hr := B.returns
  have hts := atoms_spec (ws := wsX1_standard) B.pre
  have hown : s.vm.findClass RX1 = some m.cls := findClass_of_methodNamed B.named
  have hlocks := B.notSynchronized
  have hK : va_K D vwCl [(cI, .int), (cJ, .long), (cR, .array .int)] s := hC.1
  have hl := lv_entry ([.ref (a 0)]) (n := 1) (Nat.le_of_ble_eq_true rfl)
  rw [lg_entry_eq]
  generalize (lg_sl ([.ref (a 0)]) ++ List.replicate (1 - (lg_sl ([.ref (a 0)])).length) Slot.unset).toArray = ls at hl ⊢
  have hl : lv_has ls 1 [(0, .ref (a 0))] := hl
  have hiX1 : ∀ w ∈ u_ws RX1 TX1 9, w ∈ wsX1_standard := by decide +kernel
  have hw37 : (Cond.fieldLink RX1 37 "OldMeasures" "standard" "I").before ([.ref (a 0)] : List Value).toArray s = true := hts _ (by decide +kernel)
  refine lv_aload_n hx hb dX1_standard_0 rfl (lv_at hl 0 rfl) ?_
  refine va_get (D := D) (ci := 1) (v := .int (nI st)) (C := RX1) (T := TX1) (N := 9) hx hb hts hiX1 hown hK hP 0 rfl rfl 7 (by decide) hw37 (fun _ h9 => h9) rfl dX1_standard_1 ?_
  exact W.iret (v := (nI st)) hx hb hr (fun t9 ht hW => ⟨_, rfl, rfl, ht⟩) (fun q hq => absurd hq List.not_mem_nil) dX1_standard_4

set_option maxHeartbeats 4000000 in
set_option maxRecDepth 100000 in
theorem c_X1_tolerance (l : Launch) (D : va_G) (cI cJ cR : ClassId) (a : Nat → Nat) (k st : Nat) (fi : Int32) (fB fS fO : Nat → Int32) (fL : Nat → Int64) (c : Nat) (t : Int32) (y : Nat) (fW fD : Nat → Int32) (c2 t2 y2 : Int32) (gW gD : Nat → Int32) : Met l yX1_tolerance wsX1_tolerance ({ frames := 0, cells := 0, slots := 0, locals := 0 }) (cP D [((a 0), .inr (1, [.ref (a 1), .ref (a 2), .ref (a 3), .ref (a 4), .ref (a 5), .ref (a 8), .int (nI k), .int (nI st), .int fi])), ((a 1), .inl (cI, 8, .inl fB)), ((a 2), .inl (cI, 8, .inl fS)), ((a 3), .inl (cJ, 8, .inr (.inl fL))), ((a 4), .inl (cI, 8, .inl fO)), ((a 5), .inr (0, [.ref (a 6), .ref (a 7), .int (nI c), .int t, .int (nI y)])), ((a 6), .inl (cI, 6, .inl fW)), ((a 7), .inl (cI, 6, .inl fD)), ((a 8), .inr (0, [.ref (a 9), .ref (a 10), .int c2, .int t2, .int y2])), ((a 9), .inl (cI, 6, .inl gW)), ((a 10), .inl (cI, 6, .inl gD))] (KC D cI cJ cR) [.ref (a 0)]) (roi (fun r => r = t)) 0 0 (fun _ => False) := by
  refine Met.ofW (cc := cX1_tolerance) (maxL := 1) (ret := (some .int)) (by decide +kernel) rfl ?_
  intro p e s m args below meth c9 s₁ B hml hv
  obtain ⟨rfl, hP, hC⟩ := hv
  have hx := B.exec
  have hb := B.bytes
  have hr := B.returns
  have hts := atoms_spec (ws := wsX1_tolerance) B.pre
  have hown : s.vm.findClass RX1 = some m.cls := findClass_of_methodNamed B.named
  have hlocks := B.notSynchronized
  have hK : va_K D vwCl [(cI, .int), (cJ, .long), (cR, .array .int)] s := hC.1
  have hl := lv_entry ([.ref (a 0)]) (n := 1) (Nat.le_of_ble_eq_true rfl)
  rw [lg_entry_eq]
  generalize (lg_sl ([.ref (a 0)]) ++ List.replicate (1 - (lg_sl ([.ref (a 0)])).length) Slot.unset).toArray = ls at hl ⊢
  have hl : lv_has ls 1 [(0, .ref (a 0))] := hl
  have hiX0 : ∀ w ∈ u_ws RX0 TX0 5, w ∈ wsX1_tolerance := by decide +kernel
  have hiX1 : ∀ w ∈ u_ws RX1 TX1 9, w ∈ wsX1_tolerance := by decide +kernel
  have hw26 : (Cond.fieldLink RX1 26 "OldMeasures" "stalls" "LOldMeasures$Stalls;").before ([.ref (a 0)] : List Value).toArray s = true := hts _ (by decide +kernel)
  refine lv_aload_n hx hb dX1_tolerance_0 rfl (lv_at hl 0 rfl) ?_
  refine va_get (D := D) (ci := 1) (v := .ref (a 5)) (C := RX1) (T := TX1) (N := 9) hx hb hts hiX1 hown hK hP 0 rfl rfl 4 (by decide) hw26 (fun _ h9 => h9) rfl dX1_tolerance_1 ?_
  refine va_getN (host := RX1) (D := D) (ci := 0) (v := .int t) (C := RX0) (T := TX0) (N := 5) hx hb hts hiX0 hown hK hP 5 rfl rfl 3 (by decide) (va_Nw.use rfl hC.2.2.2.2.2.1) (fun _ h9 => h9) rfl dX1_tolerance_4 ?_
  exact W.iret (v := t) hx hb hr (fun t9 ht hW => ⟨_, rfl, rfl, ht⟩) (fun q hq => absurd hq List.not_mem_nil) dX1_tolerance_7

set_option maxHeartbeats 4000000 in
set_option maxRecDepth 100000 in
theorem c_X1_fines (l : Launch) (D : va_G) (cI cJ cR : ClassId) (a : Nat → Nat) (k st : Nat) (fi : Int32) (fB fS fO : Nat → Int32) (fL : Nat → Int64) (c : Nat) (t : Int32) (y : Nat) (fW fD : Nat → Int32) (c2 t2 y2 : Int32) (gW gD : Nat → Int32) : Met l yX1_fines wsX1_fines ({ frames := 0, cells := 0, slots := 0, locals := 0 }) (cP D [((a 0), .inr (1, [.ref (a 1), .ref (a 2), .ref (a 3), .ref (a 4), .ref (a 5), .ref (a 8), .int (nI k), .int (nI st), .int fi])), ((a 1), .inl (cI, 8, .inl fB)), ((a 2), .inl (cI, 8, .inl fS)), ((a 3), .inl (cJ, 8, .inr (.inl fL))), ((a 4), .inl (cI, 8, .inl fO)), ((a 5), .inr (0, [.ref (a 6), .ref (a 7), .int (nI c), .int t, .int (nI y)])), ((a 6), .inl (cI, 6, .inl fW)), ((a 7), .inl (cI, 6, .inl fD)), ((a 8), .inr (0, [.ref (a 9), .ref (a 10), .int c2, .int t2, .int y2])), ((a 9), .inl (cI, 6, .inl gW)), ((a 10), .inl (cI, 6, .inl gD))] (KC D cI cJ cR) [.ref (a 0)]) (roi (fun r => r = fi)) 0 0 (fun _ => False) := by
  refine Met.ofW (cc := cX1_fines) (maxL := 1) (ret := (some .int)) (by decide +kernel) rfl ?_
  intro p e s m args below meth c9 s₁ B hml hv
  obtain ⟨rfl, hP, hC⟩ := hv
  have hx := B.exec
  have hb := B.bytes
  have hr := B.returns
  have hts := atoms_spec (ws := wsX1_fines) B.pre
  have hown : s.vm.findClass RX1 = some m.cls := findClass_of_methodNamed B.named
  have hlocks := B.notSynchronized
  have hK : va_K D vwCl [(cI, .int), (cJ, .long), (cR, .array .int)] s := hC.1
  have hl := lv_entry ([.ref (a 0)]) (n := 1) (Nat.le_of_ble_eq_true rfl)
  rw [lg_entry_eq]
  generalize (lg_sl ([.ref (a 0)]) ++ List.replicate (1 - (lg_sl ([.ref (a 0)])).length) Slot.unset).toArray = ls at hl ⊢
  have hl : lv_has ls 1 [(0, .ref (a 0))] := hl
  have hiX1 : ∀ w ∈ u_ws RX1 TX1 9, w ∈ wsX1_fines := by decide +kernel
  have hw95 : (Cond.fieldLink RX1 95 "OldMeasures" "fines" "I").before ([.ref (a 0)] : List Value).toArray s = true := hts _ (by decide +kernel)
  refine lv_aload_n hx hb dX1_fines_0 rfl (lv_at hl 0 rfl) ?_
  refine va_get (D := D) (ci := 1) (v := .int fi) (C := RX1) (T := TX1) (N := 9) hx hb hts hiX1 hown hK hP 0 rfl rfl 8 (by decide) hw95 (fun _ h9 => h9) rfl dX1_fines_1 ?_
  exact W.iret (v := fi) hx hb hr (fun t9 ht hW => ⟨_, rfl, rfl, ht⟩) (fun q hq => absurd hq List.not_mem_nil) dX1_fines_4

set_option maxHeartbeats 4000000 in
set_option maxRecDepth 100000 in
theorem c_X1_longest (l : Launch) (D : va_G) (cI cJ cR : ClassId) (a : Nat → Nat) (k st : Nat) (fi : Int32) (fB fS fO : Nat → Int32) (fL : Nat → Int64) (c : Nat) (t : Int32) (y : Nat) (fW fD : Nat → Int32) (c2 t2 y2 : Int32) (gW gD : Nat → Int32) : Met l yX1_longest wsX1_longest ({ frames := 0, cells := 0, slots := 0, locals := 0 }) (cP D [((a 0), .inr (1, [.ref (a 1), .ref (a 2), .ref (a 3), .ref (a 4), .ref (a 5), .ref (a 8), .int (nI k), .int (nI st), .int fi])), ((a 1), .inl (cI, 8, .inl fB)), ((a 2), .inl (cI, 8, .inl fS)), ((a 3), .inl (cJ, 8, .inr (.inl fL))), ((a 4), .inl (cI, 8, .inl fO)), ((a 5), .inr (0, [.ref (a 6), .ref (a 7), .int (nI c), .int t, .int (nI y)])), ((a 6), .inl (cI, 6, .inl fW)), ((a 7), .inl (cI, 6, .inl fD)), ((a 8), .inr (0, [.ref (a 9), .ref (a 10), .int c2, .int t2, .int y2])), ((a 9), .inl (cI, 6, .inl gW)), ((a 10), .inl (cI, 6, .inl gD))] (KC D cI cJ cR) [.ref (a 0)]) (roi (fun r => r = fO 0)) 0 0 (fun _ => False) := by
  refine Met.ofW (cc := cX1_longest) (maxL := 1) (ret := (some .int)) (by decide +kernel) rfl ?_
  intro p e s m args below meth c9 s₁ B hml hv
  obtain ⟨rfl, hP, hC⟩ := hv
  have hx := B.exec
  have hb := B.bytes
  have hr := B.returns
  have hts := atoms_spec (ws := wsX1_longest) B.pre
  have hown : s.vm.findClass RX1 = some m.cls := findClass_of_methodNamed B.named
  have hlocks := B.notSynchronized
  have hK : va_K D vwCl [(cI, .int), (cJ, .long), (cR, .array .int)] s := hC.1
  have hl := lv_entry ([.ref (a 0)]) (n := 1) (Nat.le_of_ble_eq_true rfl)
  rw [lg_entry_eq]
  generalize (lg_sl ([.ref (a 0)]) ++ List.replicate (1 - (lg_sl ([.ref (a 0)])).length) Slot.unset).toArray = ls at hl ⊢
  have hl : lv_has ls 1 [(0, .ref (a 0))] := hl
  have hiX1 : ∀ w ∈ u_ws RX1 TX1 9, w ∈ wsX1_longest := by decide +kernel
  have hw20 : (Cond.fieldLink RX1 20 "OldMeasures" "longestFirst" "[I").before ([.ref (a 0)] : List Value).toArray s = true := hts _ (by decide +kernel)
  refine lv_aload_n hx hb dX1_longest_0 rfl (lv_at hl 0 rfl) ?_
  refine va_get (D := D) (ci := 1) (v := .ref (a 4)) (C := RX1) (T := TX1) (N := 9) hx hb hts hiX1 hown hK hP 0 rfl rfl 3 (by decide) hw20 (fun _ h9 => h9) rfl dX1_longest_1 ?_
  refine lv_iconst (v := 0) hx hb dX1_longest_4 (by decide) ?_
  refine topI (y := nI 0) rfl ?_
  refine xa_iald hx hb hK hP 4 0 rfl rfl (by omega) (by decide) dX1_longest_5 ?_
  exact W.iret (v := (fO 0)) hx hb hr (fun t9 ht hW => ⟨_, rfl, rfl, ht⟩) (fun q hq => absurd hq List.not_mem_nil) dX1_longest_6

theorem c_X1_wcd (l : Launch) (X Y : Int64) (hX : 0 < X.toInt ∧ X.toInt ≤ 4782969) (hY : 0 < Y.toInt ∧ Y.toInt ≤ 4782969) : Met l yX1_withoutCommonDivisor wsX1_withoutCommonDivisor ({ frames := 1, cells := 0, slots := 0, locals := 30 }) (va_Pc [.long X, .long Y] (fun _ => True)) (rol (fun r => r = tp X Y)) 0 0 (fun _ => False) := by
  obtain ⟨u, hu, hu2, rfl⟩ := lN_of (b := 4782969) hX.1 hX.2
  obtain ⟨v, hv, hv2, rfl⟩ := lN_of (b := 4782969) hY.1 hY.2
  rw [tp_lN (by omega) (by omega)]
  exact c_X1_withoutCommonDivisor l u v hu hv (by omega) (by omega)

set_option maxHeartbeats 4000000 in
set_option maxRecDepth 100000 in
theorem c_X1_shortest (l : Launch) (D : va_G) (cI cJ cR : ClassId) (a : Nat → Nat) (k st : Nat) (fi : Int32) (fB fS fO : Nat → Int32) (fL : Nat → Int64) (c : Nat) (t : Int32) (y : Nat) (fW fD : Nat → Int32) (c2 t2 y2 : Int32) (gW gD : Nat → Int32) (hM : MOk k fL fO) : Met l yX1_shortest wsX1_shortest ({ frames := 3, cells := 0, slots := 0, locals := 60 }) (cP D [((a 0), .inr (1, [.ref (a 1), .ref (a 2), .ref (a 3), .ref (a 4), .ref (a 5), .ref (a 8), .int (nI k), .int (nI st), .int fi])), ((a 1), .inl (cI, 8, .inl fB)), ((a 2), .inl (cI, 8, .inl fS)), ((a 3), .inl (cJ, 8, .inr (.inl fL))), ((a 4), .inl (cI, 8, .inl fO)), ((a 5), .inr (0, [.ref (a 6), .ref (a 7), .int (nI c), .int t, .int (nI y)])), ((a 6), .inl (cI, 6, .inl fW)), ((a 7), .inl (cI, 6, .inl fD)), ((a 8), .inr (0, [.ref (a 9), .ref (a 10), .int c2, .int t2, .int y2])), ((a 9), .inl (cI, 6, .inl gW)), ((a 10), .inl (cI, 6, .inl gD))] (KC D cI cJ cR) [.ref (a 0)]) (roi (fun r => r = nI (shN fL (k - 1)))) 0 0 (fun _ => False) := by
  refine Met.ofW (cc := cX1_shortest) (maxL := 3) (ret := (some .int)) (by decide +kernel) rfl ?_
  intro p e s m args below meth c9 s₁ B hml hv
  obtain ⟨rfl, hP, hC⟩ := hv
  have hx := B.exec
  have hb := B.bytes
  have hr := B.returns
  have hts := atoms_spec (ws := wsX1_shortest) B.pre
  have hown : s.vm.findClass RX1 = some m.cls := findClass_of_methodNamed B.named
  have hlocks := B.notSynchronized
  have hK : va_K D vwCl [(cI, .int), (cJ, .long), (cR, .array .int)] s := hC.1
  have hl := lv_entry ([.ref (a 0)]) (n := 3) (Nat.le_of_ble_eq_true rfl)
  rw [lg_entry_eq]
  generalize (lg_sl ([.ref (a 0)]) ++ List.replicate (3 - (lg_sl ([.ref (a 0)])).length) Slot.unset).toArray = ls at hl ⊢
  have hl : lv_has ls 3 [(0, .ref (a 0))] := hl
  have hk8 : k ≤ 8 := hM.2.1
  have hk1 : 1 ≤ k := hM.1
  have hiX1 : ∀ w ∈ u_ws RX1 TX1 9, w ∈ wsX1_shortest := by decide +kernel
  have hw16 : (Cond.fieldLink RX1 16 "OldMeasures" "lengths" "[J").before ([.ref (a 0)] : List Value).toArray s = true := hts _ (by decide +kernel)
  have hw33 : (Cond.fieldLink RX1 33 "OldMeasures" "measureCount" "I").before ([.ref (a 0)] : List Value).toArray s = true := hts _ (by decide +kernel)
  refine lv_iconst (v := 0) hx hb dX1_shortest_0 (by decide) ?_
  refine lv_istore_n (lv' := [(1, .int 0), (0, .ref (a 0))]) hx hb dX1_shortest_1 rfl hl (by decide) rfl (fun ls hl => ?_)
  refine lv_iconst (v := 1) hx hb dX1_shortest_2 (by decide) ?_
  refine lv_istore_n (lv' := [(2, .int 1), (1, .int 0), (0, .ref (a 0))]) hx hb dX1_shortest_3 rfl hl (by decide) rfl (fun ls hl => ?_)
  refine loopR (σ := Unit) (I := fun i x ls => lv_has ls 3 [(0, .ref (a 0)), (1, .int (nI (shN fL i))), (2, .int (nI (i + 1)))] ∧ (True)) (k - 1) ?_ 0 () ls (by omega) ⟨lv_sub hl [2, 1, 0] rfl, trivial⟩
  intro i x ls hi hI kk
  obtain ⟨hl, _⟩ := hI
  refine lv_iload_n hx hb dX1_shortest_4 rfl (lv_at hl 2 rfl) ?_
  refine lv_aload_n hx hb dX1_shortest_5 rfl (lv_at hl 0 rfl) ?_
  refine va_get (D := D) (ci := 1) (v := .int (nI k)) (C := RX1) (T := TX1) (N := 9) hx hb hts hiX1 hown hK hP 0 rfl rfl 6 (by decide) hw33 (fun _ h9 => h9) rfl dX1_shortest_6 ?_
  refine lv_icmp_ge (tgt := 36) hx hb dX1_shortest_9 (by decide) (fun c_9 => ?_) (fun c_9 => ?_)
  · skip
    simp only [Int32.le_iff_toInt_le] at c_9
    rw [nI_toInt (n := (i + 1)) (by omega)] at c_9
    rw [nI_toInt (n := k) (by omega)] at c_9
    have e9 : (k - 1) = i := by omega
    subst e9
    refine lv_iload_n hx hb dX1_shortest_36 rfl (lv_at hl 1 rfl) ?_
    exact W.iret (v := (nI (shN fL (k - 1)))) hx hb hr (fun t9 ht hW => ⟨_, rfl, rfl, ht⟩) (fun q hq => absurd hq List.not_mem_nil) dX1_shortest_37
  · skip
    simp only [Int32.le_iff_toInt_le] at c_9
    rw [nI_toInt (n := (i + 1)) (by omega)] at c_9
    rw [nI_toInt (n := k) (by omega)] at c_9
    have hs := shN_le fL i
    refine lv_aload_n hx hb dX1_shortest_12 rfl (lv_at hl 0 rfl) ?_
    refine va_get (D := D) (ci := 1) (v := .ref (a 3)) (C := RX1) (T := TX1) (N := 9) hx hb hts hiX1 hown hK hP 0 rfl rfl 2 (by decide) hw16 (fun _ h9 => h9) rfl dX1_shortest_13 ?_
    refine lv_iload_n hx hb dX1_shortest_16 rfl (lv_at hl 2 rfl) ?_
    refine xa_lald hx hb hK hP 3 1 rfl rfl (by omega) (by decide) dX1_shortest_17 ?_
    refine lv_aload_n hx hb dX1_shortest_18 rfl (lv_at hl 0 rfl) ?_
    refine va_get (D := D) (ci := 1) (v := .ref (a 3)) (C := RX1) (T := TX1) (N := 9) hx hb hts hiX1 hown hK hP 0 rfl rfl 2 (by decide) hw16 (fun _ h9 => h9) rfl dX1_shortest_19 ?_
    refine lv_iload_n hx hb dX1_shortest_22 rfl (lv_at hl 1 rfl) ?_
    refine xa_lald hx hb hK hP 3 1 rfl rfl (by omega) (by decide) dX1_shortest_23 ?_
    refine W.lcmp hx hb dX1_shortest_24 ?_
    refine lv_if_ge (tgt := 30) hx hb dX1_shortest_25 (by decide) (fun c_25 => ?_) (fun c_25 => ?_)
    · skip
      have c_25 := (lgc_ge _ _).mp c_25
      have e7 : shN fL (i + 1) = shN fL i := ic_f (by omega)
      refine lv_iinc (v := (nI ((i + 1) + 1))) (lv' := [(2, .int (nI ((i + 1) + 1))), (0, .ref (a 0)), (1, .int (nI (shN fL i)))]) hx hb dX1_shortest_30 hl (k := 2) rfl (nI_inc (i + 1)) (by decide) rfl (fun ls hl => ?_)
      refine lv_goto (tgt := 4) hx hb dX1_shortest_33 (by decide) ?_
      exact kk () ls (by omega) ⟨by rw [e7]; exact lv_sub hl [1, 2, 0] rfl, trivial⟩
    · skip
      have c_25 := (not_congr (lgc_ge _ _)).mp c_25
      have e7 : shN fL (i + 1) = i + 1 := ic_t (by omega)
      refine lv_iload_n hx hb dX1_shortest_28 rfl (lv_at hl 2 rfl) ?_
      refine lv_istore_n (lv' := [(1, .int (nI (i + 1))), (0, .ref (a 0)), (2, .int (nI (i + 1)))]) hx hb dX1_shortest_29 rfl hl (by decide) rfl (fun ls hl => ?_)
      refine lv_iinc (v := (nI ((i + 1) + 1))) (lv' := [(2, .int (nI ((i + 1) + 1))), (1, .int (nI (i + 1))), (0, .ref (a 0))]) hx hb dX1_shortest_30 hl (k := 2) rfl (nI_inc (i + 1)) (by decide) rfl (fun ls hl => ?_)
      refine lv_goto (tgt := 4) hx hb dX1_shortest_33 (by decide) ?_
      exact kk () ls (by omega) ⟨by rw [e7]; exact lv_sub hl [2, 1, 0] rfl, trivial⟩

set_option maxHeartbeats 4000000 in
set_option maxRecDepth 100000 in
theorem c_X1_mostHonest (l : Launch) (D : va_G) (cI cJ cR : ClassId) (a : Nat → Nat) (k st : Nat) (fi : Int32) (fB fS fO : Nat → Int32) (fL : Nat → Int64) (c : Nat) (t : Int32) (y : Nat) (fW fD : Nat → Int32) (c2 t2 y2 : Int32) (gW gD : Nat → Int32) (hc : c ≤ 6) (hD3 : ∀ j, j < c → -300 ≤ (fD j).toInt ∧ (fD j).toInt ≤ 300) : Met l yX1_mostHonest wsX1_mostHonest ({ frames := 1, cells := 0, slots := 0, locals := 21 }) (cP D [((a 0), .inr (1, [.ref (a 1), .ref (a 2), .ref (a 3), .ref (a 4), .ref (a 5), .ref (a 8), .int (nI k), .int (nI st), .int fi])), ((a 1), .inl (cI, 8, .inl fB)), ((a 2), .inl (cI, 8, .inl fS)), ((a 3), .inl (cJ, 8, .inr (.inl fL))), ((a 4), .inl (cI, 8, .inl fO)), ((a 5), .inr (0, [.ref (a 6), .ref (a 7), .int (nI c), .int t, .int (nI y)])), ((a 6), .inl (cI, 6, .inl fW)), ((a 7), .inl (cI, 6, .inl fD)), ((a 8), .inr (0, [.ref (a 9), .ref (a 10), .int c2, .int t2, .int y2])), ((a 9), .inl (cI, 6, .inl gW)), ((a 10), .inl (cI, 6, .inl gD))] (KC D cI cJ cR) [.ref (a 0)]) (roi (fun r => r = bhN fD c)) 0 0 (fun _ => False) := by
  refine Met.ofW (cc := cX1_mostHonest) (maxL := 5) (ret := (some .int)) (by decide +kernel) rfl ?_
  intro p e s m args below meth c9 s₁ B hml hv
  obtain ⟨rfl, hP, hC⟩ := hv
  have hx := B.exec
  have hb := B.bytes
  have hr := B.returns
  have hts := atoms_spec (ws := wsX1_mostHonest) B.pre
  have hown : s.vm.findClass RX1 = some m.cls := findClass_of_methodNamed B.named
  have hlocks := B.notSynchronized
  have hK : va_K D vwCl [(cI, .int), (cJ, .long), (cR, .array .int)] s := hC.1
  have hl := lv_entry ([.ref (a 0)]) (n := 5) (Nat.le_of_ble_eq_true rfl)
  rw [lg_entry_eq]
  generalize (lg_sl ([.ref (a 0)]) ++ List.replicate (5 - (lg_sl ([.ref (a 0)])).length) Slot.unset).toArray = ls at hl ⊢
  have hl : lv_has ls 5 [(0, .ref (a 0))] := hl
  have hiX0 : ∀ w ∈ u_ws RX0 TX0 5, w ∈ wsX1_mostHonest := by decide +kernel
  have hiX1 : ∀ w ∈ u_ws RX1 TX1 9, w ∈ wsX1_mostHonest := by decide +kernel
  have hw26 : (Cond.fieldLink RX1 26 "OldMeasures" "stalls" "LOldMeasures$Stalls;").before ([.ref (a 0)] : List Value).toArray s = true := hts _ (by decide +kernel)
  refine lv_iconst (v := (-1)) hx hb dX1_mostHonest_0 (by decide) ?_
  refine lv_istore_n (lv' := [(1, .int (-1)), (0, .ref (a 0))]) hx hb dX1_mostHonest_1 rfl hl (by decide) rfl (fun ls hl => ?_)
  refine lv_sipush (v := 301) hx hb dX1_mostHonest_2 (by decide) ?_
  refine lv_istore_n (lv' := [(2, .int 301), (1, .int (-1)), (0, .ref (a 0))]) hx hb dX1_mostHonest_5 rfl hl (by decide) rfl (fun ls hl => ?_)
  refine lv_iconst (v := 0) hx hb dX1_mostHonest_6 (by decide) ?_
  refine lv_istore_n (lv' := [(3, .int 0), (2, .int 301), (1, .int (-1)), (0, .ref (a 0))]) hx hb dX1_mostHonest_7 rfl hl (by decide) rfl (fun ls hl => ?_)
  refine loopR (σ := Unit) (I := fun i x ls => lv_has ls 5 [(0, .ref (a 0)), (1, .int (bhN fD i)), (2, .int (bhV fD i)), (3, .int (nI i))] ∧ (True)) c ?_ 0 () ls (by omega) ⟨by rw [bhV_0]; exact lv_sub hl [3, 2, 1, 0] rfl, trivial⟩
  intro i x ls hi hI kk
  obtain ⟨hl, _⟩ := hI
  refine lv_iload_n hx hb dX1_mostHonest_8 rfl (lv_at hl 3 rfl) ?_
  refine lv_aload_n hx hb dX1_mostHonest_9 rfl (lv_at hl 0 rfl) ?_
  refine va_get (D := D) (ci := 1) (v := .ref (a 5)) (C := RX1) (T := TX1) (N := 9) hx hb hts hiX1 hown hK hP 0 rfl rfl 4 (by decide) hw26 (fun _ h9 => h9) rfl dX1_mostHonest_10 ?_
  refine va_getN (host := RX1) (D := D) (ci := 0) (v := .int (nI c)) (C := RX0) (T := TX0) (N := 5) hx hb hts hiX0 hown hK hP 5 rfl rfl 2 (by decide) (va_Nw.use rfl hC.2.2.1) (fun _ h9 => h9) rfl dX1_mostHonest_13 ?_
  refine lv_icmp_ge (tgt := 50) hx hb dX1_mostHonest_16 (by decide) (fun c_16 => ?_) (fun c_16 => ?_)
  · skip
    simp only [Int32.le_iff_toInt_le] at c_16
    rw [nI_toInt (n := i) (by omega)] at c_16
    rw [nI_toInt (n := c) (by omega)] at c_16
    have e9 : c = i := by omega
    subst e9
    refine lv_iload_n hx hb dX1_mostHonest_50 rfl (lv_at hl 1 rfl) ?_
    exact W.iret (v := (bhN fD c)) hx hb hr (fun t9 ht hW => ⟨_, rfl, rfl, ht⟩) (fun q hq => absurd hq List.not_mem_nil) dX1_mostHonest_51
  · skip
    simp only [Int32.le_iff_toInt_le] at c_16
    rw [nI_toInt (n := i) (by omega)] at c_16
    rw [nI_toInt (n := c) (by omega)] at c_16
    refine lv_aload_n hx hb dX1_mostHonest_19 rfl (lv_at hl 0 rfl) ?_
    refine va_get (D := D) (ci := 1) (v := .ref (a 5)) (C := RX1) (T := TX1) (N := 9) hx hb hts hiX1 hown hK hP 0 rfl rfl 4 (by decide) hw26 (fun _ h9 => h9) rfl dX1_mostHonest_20 ?_
    refine va_getN (host := RX1) (D := D) (ci := 0) (v := .ref (a 7)) (C := RX0) (T := TX0) (N := 5) hx hb hts hiX0 hown hK hP 5 rfl rfl 1 (by decide) (va_Nw.use rfl hC.2.2.2.2.1) (fun _ h9 => h9) rfl dX1_mostHonest_23 ?_
    refine lv_iload_n hx hb dX1_mostHonest_26 rfl (lv_at hl 3 rfl) ?_
    refine xa_iald hx hb hK hP 7 0 rfl rfl (by omega) (by decide) dX1_mostHonest_27 ?_
    refine va_mabs hx hb (by rw [hml]; exact hl.1.symm) hown (hts (.methodLink RX1 126 Lib.Math.abs.name) (by decide +kernel)) (hts (.static Lib.Math.abs.name) (by decide +kernel)) (hts (.initialized "java/lang/Math") (by decide +kernel)) (hts (.code Lib.Math.abs.name Lib.Math.abs.code 1 (some .int)) (by decide +kernel)) (by first | decide | exact Nat.le_of_ble_eq_true rfl) (by first | decide | exact Nat.le_of_ble_eq_true rfl) (by first | decide | exact Nat.le_of_ble_eq_true rfl) (by first | decide | exact Nat.le_of_ble_eq_true rfl) dX1_mostHonest_28 ?_
    refine topI (y := absI (fD i)) rfl ?_
    refine lv_istore (lv' := [(4, .int (absI (fD i))), (0, .ref (a 0)), (1, .int (bhN fD i)), (2, .int (bhV fD i)), (3, .int (nI i))]) hx hb dX1_mostHonest_31 hl (by decide) rfl (fun ls hl => ?_)
    refine lv_iload hx hb dX1_mostHonest_33 (lv_at hl 0 rfl) ?_
    refine lv_iload_n hx hb dX1_mostHonest_35 rfl (lv_at hl 3 rfl) ?_
    refine lv_icmp_ge (tgt := 44) hx hb dX1_mostHonest_36 (by decide) (fun c_36 => ?_) (fun c_36 => ?_)
    · skip
      simp only [Int32.le_iff_toInt_le] at c_36
      have e7 := bh_no (abs300 (hD3 i (by omega))) c_36
      refine lv_iinc (v := (nI (i + 1))) (lv' := [(3, .int (nI (i + 1))), (4, .int (absI (fD i))), (0, .ref (a 0)), (1, .int (bhN fD i)), (2, .int (bhV fD i))]) hx hb dX1_mostHonest_44 hl (k := 4) rfl (nI_inc i) (by decide) rfl (fun ls hl => ?_)
      refine lv_goto (tgt := 8) hx hb dX1_mostHonest_47 (by decide) ?_
      exact kk () ls (by omega) ⟨by rw [e7.1, e7.2]; exact lv_sub hl [2, 3, 4, 0] rfl, trivial⟩
    · skip
      simp only [Int32.le_iff_toInt_le] at c_36
      have e7 := bh_yes (fD := fD) (i := i) (by omega) c_36
      refine lv_iload hx hb dX1_mostHonest_39 (lv_at hl 0 rfl) ?_
      refine lv_istore_n (lv' := [(2, .int (absI (fD i))), (4, .int (absI (fD i))), (0, .ref (a 0)), (1, .int (bhN fD i)), (3, .int (nI i))]) hx hb dX1_mostHonest_41 rfl hl (by decide) rfl (fun ls hl => ?_)
      refine lv_iload_n hx hb dX1_mostHonest_42 rfl (lv_at hl 4 rfl) ?_
      refine lv_istore_n (lv' := [(1, .int (nI i)), (2, .int (absI (fD i))), (4, .int (absI (fD i))), (0, .ref (a 0)), (3, .int (nI i))]) hx hb dX1_mostHonest_43 rfl hl (by decide) rfl (fun ls hl => ?_)
      refine lv_iinc (v := (nI (i + 1))) (lv' := [(3, .int (nI (i + 1))), (1, .int (nI i)), (2, .int (absI (fD i))), (4, .int (absI (fD i))), (0, .ref (a 0))]) hx hb dX1_mostHonest_44 hl (k := 4) rfl (nI_inc i) (by decide) rfl (fun ls hl => ?_)
      refine lv_goto (tgt := 8) hx hb dX1_mostHonest_47 (by decide) ?_
      exact kk () ls (by omega) ⟨by rw [e7.1, e7.2]; exact lv_sub hl [4, 1, 2, 0] rfl, trivial⟩

set_option maxHeartbeats 4000000 in
set_option maxRecDepth 100000 in
theorem c_X1_mostGenerous (l : Launch) (D : va_G) (cI cJ cR : ClassId) (a : Nat → Nat) (k st : Nat) (fi : Int32) (fB fS fO : Nat → Int32) (fL : Nat → Int64) (c : Nat) (t : Int32) (y : Nat) (fW fD : Nat → Int32) (c2 t2 y2 : Int32) (gW gD : Nat → Int32) (hc : c ≤ 6) (hD3 : ∀ j, j < c → -300 ≤ (fD j).toInt ∧ (fD j).toInt ≤ 300) : Met l yX1_mostGenerous wsX1_mostGenerous ({ frames := 3, cells := 0, slots := 0, locals := 60 }) (cP D [((a 0), .inr (1, [.ref (a 1), .ref (a 2), .ref (a 3), .ref (a 4), .ref (a 5), .ref (a 8), .int (nI k), .int (nI st), .int fi])), ((a 1), .inl (cI, 8, .inl fB)), ((a 2), .inl (cI, 8, .inl fS)), ((a 3), .inl (cJ, 8, .inr (.inl fL))), ((a 4), .inl (cI, 8, .inl fO)), ((a 5), .inr (0, [.ref (a 6), .ref (a 7), .int (nI c), .int t, .int (nI y)])), ((a 6), .inl (cI, 6, .inl fW)), ((a 7), .inl (cI, 6, .inl fD)), ((a 8), .inr (0, [.ref (a 9), .ref (a 10), .int c2, .int t2, .int y2])), ((a 9), .inl (cI, 6, .inl gW)), ((a 10), .inl (cI, 6, .inl gD))] (KC D cI cJ cR) [.ref (a 0)]) (roi (fun r => r = bgN fD c)) 0 0 (fun _ => False) := by
  refine Met.ofW (cc := cX1_mostGenerous) (maxL := 4) (ret := (some .int)) (by decide +kernel) rfl ?_
  intro p e s m args below meth c9 s₁ B hml hv
  obtain ⟨rfl, hP, hC⟩ := hv
  have hx := B.exec
  have hb := B.bytes
  have hr := B.returns
  have hts := atoms_spec (ws := wsX1_mostGenerous) B.pre
  have hown : s.vm.findClass RX1 = some m.cls := findClass_of_methodNamed B.named
  have hlocks := B.notSynchronized
  have hK : va_K D vwCl [(cI, .int), (cJ, .long), (cR, .array .int)] s := hC.1
  have hl := lv_entry ([.ref (a 0)]) (n := 4) (Nat.le_of_ble_eq_true rfl)
  rw [lg_entry_eq]
  generalize (lg_sl ([.ref (a 0)]) ++ List.replicate (4 - (lg_sl ([.ref (a 0)])).length) Slot.unset).toArray = ls at hl ⊢
  have hl : lv_has ls 4 [(0, .ref (a 0))] := hl
  have hiX0 : ∀ w ∈ u_ws RX0 TX0 5, w ∈ wsX1_mostGenerous := by decide +kernel
  have hiX1 : ∀ w ∈ u_ws RX1 TX1 9, w ∈ wsX1_mostGenerous := by decide +kernel
  have hw26 : (Cond.fieldLink RX1 26 "OldMeasures" "stalls" "LOldMeasures$Stalls;").before ([.ref (a 0)] : List Value).toArray s = true := hts _ (by decide +kernel)
  refine lv_iconst (v := (-1)) hx hb dX1_mostGenerous_0 (by decide) ?_
  refine lv_istore_n (lv' := [(1, .int (-1)), (0, .ref (a 0))]) hx hb dX1_mostGenerous_1 rfl hl (by decide) rfl (fun ls hl => ?_)
  refine lv_sipush (v := (-301)) hx hb dX1_mostGenerous_2 (by decide) ?_
  refine lv_istore_n (lv' := [(2, .int (-301)), (1, .int (-1)), (0, .ref (a 0))]) hx hb dX1_mostGenerous_5 rfl hl (by decide) rfl (fun ls hl => ?_)
  refine lv_iconst (v := 0) hx hb dX1_mostGenerous_6 (by decide) ?_
  refine lv_istore_n (lv' := [(3, .int 0), (2, .int (-301)), (1, .int (-1)), (0, .ref (a 0))]) hx hb dX1_mostGenerous_7 rfl hl (by decide) rfl (fun ls hl => ?_)
  refine loopR (σ := Unit) (I := fun i x ls => lv_has ls 4 [(0, .ref (a 0)), (1, .int (bgN fD i)), (2, .int (bgV fD i)), (3, .int (nI i))] ∧ (True)) c ?_ 0 () ls (by omega) ⟨by rw [bgV_0]; exact lv_sub hl [3, 2, 1, 0] rfl, trivial⟩
  intro i x ls hi hI kk
  obtain ⟨hl, _⟩ := hI
  refine lv_iload_n hx hb dX1_mostGenerous_8 rfl (lv_at hl 3 rfl) ?_
  refine lv_aload_n hx hb dX1_mostGenerous_9 rfl (lv_at hl 0 rfl) ?_
  refine va_get (D := D) (ci := 1) (v := .ref (a 5)) (C := RX1) (T := TX1) (N := 9) hx hb hts hiX1 hown hK hP 0 rfl rfl 4 (by decide) hw26 (fun _ h9 => h9) rfl dX1_mostGenerous_10 ?_
  refine va_getN (host := RX1) (D := D) (ci := 0) (v := .int (nI c)) (C := RX0) (T := TX0) (N := 5) hx hb hts hiX0 hown hK hP 5 rfl rfl 2 (by decide) (va_Nw.use rfl hC.2.2.1) (fun _ h9 => h9) rfl dX1_mostGenerous_13 ?_
  refine lv_icmp_ge (tgt := 50) hx hb dX1_mostGenerous_16 (by decide) (fun c_16 => ?_) (fun c_16 => ?_)
  · skip
    simp only [Int32.le_iff_toInt_le] at c_16
    rw [nI_toInt (n := i) (by omega)] at c_16
    rw [nI_toInt (n := c) (by omega)] at c_16
    have e9 : c = i := by omega
    subst e9
    refine lv_iload_n hx hb dX1_mostGenerous_50 rfl (lv_at hl 1 rfl) ?_
    exact W.iret (v := (bgN fD c)) hx hb hr (fun t9 ht hW => ⟨_, rfl, rfl, ht⟩) (fun q hq => absurd hq List.not_mem_nil) dX1_mostGenerous_51
  · skip
    simp only [Int32.le_iff_toInt_le] at c_16
    rw [nI_toInt (n := i) (by omega)] at c_16
    rw [nI_toInt (n := c) (by omega)] at c_16
    refine lv_aload_n hx hb dX1_mostGenerous_19 rfl (lv_at hl 0 rfl) ?_
    refine va_get (D := D) (ci := 1) (v := .ref (a 5)) (C := RX1) (T := TX1) (N := 9) hx hb hts hiX1 hown hK hP 0 rfl rfl 4 (by decide) hw26 (fun _ h9 => h9) rfl dX1_mostGenerous_20 ?_
    refine va_getN (host := RX1) (D := D) (ci := 0) (v := .ref (a 7)) (C := RX0) (T := TX0) (N := 5) hx hb hts hiX0 hown hK hP 5 rfl rfl 1 (by decide) (va_Nw.use rfl hC.2.2.2.2.1) (fun _ h9 => h9) rfl dX1_mostGenerous_23 ?_
    refine lv_iload_n hx hb dX1_mostGenerous_26 rfl (lv_at hl 3 rfl) ?_
    refine xa_iald hx hb hK hP 7 0 rfl rfl (by omega) (by decide) dX1_mostGenerous_27 ?_
    refine lv_iload_n hx hb dX1_mostGenerous_28 rfl (lv_at hl 2 rfl) ?_
    refine lv_icmp_le (tgt := 44) hx hb dX1_mostGenerous_29 (by decide) (fun c_29 => ?_) (fun c_29 => ?_)
    · skip
      simp only [Int32.le_iff_toInt_le] at c_29
      have e7 := bg_no (hD3 i (by omega)).1 c_29
      refine lv_iinc (v := (nI (i + 1))) (lv' := [(3, .int (nI (i + 1))), (0, .ref (a 0)), (1, .int (bgN fD i)), (2, .int (bgV fD i))]) hx hb dX1_mostGenerous_44 hl (k := 3) rfl (nI_inc i) (by decide) rfl (fun ls hl => ?_)
      refine lv_goto (tgt := 8) hx hb dX1_mostGenerous_47 (by decide) ?_
      exact kk () ls (by omega) ⟨by rw [e7.1, e7.2]; exact lv_sub hl [1, 2, 3, 0] rfl, trivial⟩
    · skip
      simp only [Int32.le_iff_toInt_le] at c_29
      have e7 := bg_yes (fD := fD) (i := i) (by omega) c_29
      refine lv_aload_n hx hb dX1_mostGenerous_32 rfl (lv_at hl 0 rfl) ?_
      refine va_get (D := D) (ci := 1) (v := .ref (a 5)) (C := RX1) (T := TX1) (N := 9) hx hb hts hiX1 hown hK hP 0 rfl rfl 4 (by decide) hw26 (fun _ h9 => h9) rfl dX1_mostGenerous_33 ?_
      refine va_getN (host := RX1) (D := D) (ci := 0) (v := .ref (a 7)) (C := RX0) (T := TX0) (N := 5) hx hb hts hiX0 hown hK hP 5 rfl rfl 1 (by decide) (va_Nw.use rfl hC.2.2.2.2.1) (fun _ h9 => h9) rfl dX1_mostGenerous_36 ?_
      refine lv_iload_n hx hb dX1_mostGenerous_39 rfl (lv_at hl 3 rfl) ?_
      refine xa_iald hx hb hK hP 7 0 rfl rfl (by omega) (by decide) dX1_mostGenerous_40 ?_
      refine lv_istore_n (lv' := [(2, .int (fD i)), (0, .ref (a 0)), (1, .int (bgN fD i)), (3, .int (nI i))]) hx hb dX1_mostGenerous_41 rfl hl (by decide) rfl (fun ls hl => ?_)
      refine lv_iload_n hx hb dX1_mostGenerous_42 rfl (lv_at hl 3 rfl) ?_
      refine lv_istore_n (lv' := [(1, .int (nI i)), (2, .int (fD i)), (0, .ref (a 0)), (3, .int (nI i))]) hx hb dX1_mostGenerous_43 rfl hl (by decide) rfl (fun ls hl => ?_)
      refine lv_iinc (v := (nI (i + 1))) (lv' := [(3, .int (nI (i + 1))), (1, .int (nI i)), (2, .int (fD i)), (0, .ref (a 0))]) hx hb dX1_mostGenerous_44 hl (k := 3) rfl (nI_inc i) (by decide) rfl (fun ls hl => ?_)
      refine lv_goto (tgt := 8) hx hb dX1_mostGenerous_47 (by decide) ?_
      exact kk () ls (by omega) ⟨by rw [e7.1, e7.2]; exact lv_sub hl [3, 1, 2, 0] rfl, trivial⟩

set_option maxHeartbeats 4000000 in
set_option maxRecDepth 100000 in
theorem c_X1_givenWith (l : Launch) (D : va_G) (cI cJ cR : ClassId) (a : Nat → Nat) (k st : Nat) (fi : Int32) (fB fS fO : Nat → Int32) (fL : Nat → Int64) (c : Nat) (t : Int32) (y : Nat) (fW fD : Nat → Int32) (c2 t2 y2 : Int32) (gW gD : Nat → Int32) (hM : MOk k fL fO) (hst2 : st < k) (dr w : Int32) (j : Nat) (hj : j < k) : Met l yX1_givenWith wsX1_givenWith ({ frames := 1, cells := 0, slots := 0, locals := 30 }) (cP D [((a 0), .inr (1, [.ref (a 1), .ref (a 2), .ref (a 3), .ref (a 4), .ref (a 5), .ref (a 8), .int (nI k), .int (nI st), .int fi])), ((a 1), .inl (cI, 8, .inl fB)), ((a 2), .inl (cI, 8, .inl fS)), ((a 3), .inl (cJ, 8, .inr (.inl fL))), ((a 4), .inl (cI, 8, .inl fO)), ((a 5), .inr (0, [.ref (a 6), .ref (a 7), .int (nI c), .int t, .int (nI y)])), ((a 6), .inl (cI, 6, .inl fW)), ((a 7), .inl (cI, 6, .inl fD)), ((a 8), .inr (0, [.ref (a 9), .ref (a 10), .int c2, .int t2, .int y2])), ((a 9), .inl (cI, 6, .inl gW)), ((a 10), .inl (cI, 6, .inl gD))] (KC D cI cJ cR) [.ref (a 0), .int dr, .int w, .int (nI j)]) (rol (fun r => r = gvn (fL j) (fL st) w dr)) 0 0 (fun _ => False) := by
  refine Met.ofW (cc := cX1_givenWith) (maxL := 4) (ret := (some .long)) (by decide +kernel) rfl ?_
  intro p e s m args below meth c9 s₁ B hml hv
  obtain ⟨rfl, hP, hC⟩ := hv
  have hx := B.exec
  have hb := B.bytes
  have hr := B.returns
  have hts := atoms_spec (ws := wsX1_givenWith) B.pre
  have hown : s.vm.findClass RX1 = some m.cls := findClass_of_methodNamed B.named
  have hlocks := B.notSynchronized
  have hK : va_K D vwCl [(cI, .int), (cJ, .long), (cR, .array .int)] s := hC.1
  have hl := lv_entry ([.ref (a 0), .int dr, .int w, .int (nI j)]) (n := 4) (Nat.le_of_ble_eq_true rfl)
  rw [lg_entry_eq]
  generalize (lg_sl ([.ref (a 0), .int dr, .int w, .int (nI j)]) ++ List.replicate (4 - (lg_sl ([.ref (a 0), .int dr, .int w, .int (nI j)])).length) Slot.unset).toArray = ls at hl ⊢
  have hl : lv_has ls 4 [(0, .ref (a 0)), (1, .int dr), (2, .int w), (3, .int (nI j))] := hl
  have hk8 : k ≤ 8 := hM.2.1
  have hk1 : 1 ≤ k := hM.1
  have hiX1 : ∀ w ∈ u_ws RX1 TX1 9, w ∈ wsX1_givenWith := by decide +kernel
  have hw16 : (Cond.fieldLink RX1 16 "OldMeasures" "lengths" "[J").before ([.ref (a 0), .int dr, .int w, .int (nI j)] : List Value).toArray s = true := hts _ (by decide +kernel)
  have hw37 : (Cond.fieldLink RX1 37 "OldMeasures" "standard" "I").before ([.ref (a 0), .int dr, .int w, .int (nI j)] : List Value).toArray s = true := hts _ (by decide +kernel)
  refine lv_aload_n hx hb dX1_givenWith_0 rfl (lv_at hl 0 rfl) ?_
  refine va_get (D := D) (ci := 1) (v := .ref (a 3)) (C := RX1) (T := TX1) (N := 9) hx hb hts hiX1 hown hK hP 0 rfl rfl 2 (by decide) hw16 (fun _ h9 => h9) rfl dX1_givenWith_1 ?_
  refine lv_iload_n hx hb dX1_givenWith_4 rfl (lv_at hl 3 rfl) ?_
  refine xa_lald hx hb hK hP 3 1 rfl rfl (by omega) (by decide) dX1_givenWith_5 ?_
  refine lv_iload_n hx hb dX1_givenWith_6 rfl (lv_at hl 2 rfl) ?_
  refine lv_i2l (v := (w).toInt64) hx hb dX1_givenWith_7 rfl ?_
  refine lv_lmul hx hb dX1_givenWith_8 ?_
  refine lv_sipush (v := 1000) hx hb dX1_givenWith_9 (by decide) ?_
  refine lv_iload_n hx hb dX1_givenWith_12 rfl (lv_at hl 1 rfl) ?_
  refine lv_iadd hx hb dX1_givenWith_13 ?_
  refine lv_i2l (v := ((1000 + dr)).toInt64) hx hb dX1_givenWith_14 rfl ?_
  refine lv_lmul hx hb dX1_givenWith_15 ?_
  refine lv_aload_n hx hb dX1_givenWith_16 rfl (lv_at hl 0 rfl) ?_
  refine va_get (D := D) (ci := 1) (v := .ref (a 3)) (C := RX1) (T := TX1) (N := 9) hx hb hts hiX1 hown hK hP 0 rfl rfl 2 (by decide) hw16 (fun _ h9 => h9) rfl dX1_givenWith_17 ?_
  refine lv_aload_n hx hb dX1_givenWith_20 rfl (lv_at hl 0 rfl) ?_
  refine va_get (D := D) (ci := 1) (v := .int (nI st)) (C := RX1) (T := TX1) (N := 9) hx hb hts hiX1 hown hK hP 0 rfl rfl 7 (by decide) hw37 (fun _ h9 => h9) rfl dX1_givenWith_21 ?_
  refine xa_lald hx hb hK hP 3 1 rfl rfl (by omega) (by decide) dX1_givenWith_24 ?_
  refine ro_lE (va_runS (As := [.long (((fL j) * (w).toInt64) * ((1000 + dr)).toInt64), .long (fL st)]) (rest := []) ⟨hx, hb, hml, hown, hts⟩ (c_X1_timesIn l (((fL j) * (w).toInt64) * ((1000 + dr)).toInt64) (fL st) (hM.2.2.1 _ hst2).1) (va_cwS 2 hts gX1_givenWith_X1_timesIn rfl rfl rfl (by decide +kernel) ⟨Nat.le_of_ble_eq_true rfl, Nat.le_of_ble_eq_true rfl⟩) pre0 rfl rfl hl.1 rfl (lv_room (Nat.le_of_ble_eq_true rfl)) dX1_givenWith_25 ⟨by decide, by decide⟩) ?_
  exact W.lret (v := ((((fL j) * (w).toInt64) * ((1000 + dr)).toInt64) / (fL st))) hx hb hr (fun t9 ht hW => ⟨_, rfl, rfl, ht⟩) (fun q hq => absurd hq List.not_mem_nil) dX1_givenWith_28

set_option maxHeartbeats 4000000 in
set_option maxRecDepth 100000 in
theorem c_X1_meanDrift (l : Launch) (D : va_G) (cI cJ cR : ClassId) (a : Nat → Nat) (k st : Nat) (fi : Int32) (fB fS fO : Nat → Int32) (fL : Nat → Int64) (c : Nat) (t : Int32) (y : Nat) (fW fD : Nat → Int32) (c2 t2 y2 : Int32) (gW gD : Nat → Int32) (hc : c ≤ 6) (hD3 : ∀ j, j < c → -300 ≤ (fD j).toInt ∧ (fD j).toInt ≤ 300) : Met l yX1_meanDrift wsX1_meanDrift ({ frames := 0, cells := 0, slots := 0, locals := 0 }) (cP D [((a 0), .inr (1, [.ref (a 1), .ref (a 2), .ref (a 3), .ref (a 4), .ref (a 5), .ref (a 8), .int (nI k), .int (nI st), .int fi])), ((a 1), .inl (cI, 8, .inl fB)), ((a 2), .inl (cI, 8, .inl fS)), ((a 3), .inl (cJ, 8, .inr (.inl fL))), ((a 4), .inl (cI, 8, .inl fO)), ((a 5), .inr (0, [.ref (a 6), .ref (a 7), .int (nI c), .int t, .int (nI y)])), ((a 6), .inl (cI, 6, .inl fW)), ((a 7), .inl (cI, 6, .inl fD)), ((a 8), .inr (0, [.ref (a 9), .ref (a 10), .int c2, .int t2, .int y2])), ((a 9), .inl (cI, 6, .inl gW)), ((a 10), .inl (cI, 6, .inl gD))] (KC D cI cJ cR) [.ref (a 0)]) (rod (fun r => r = mnD c fD)) 0 0 (fun _ => False) := by
  refine Met.ofW (cc := cX1_meanDrift) (maxL := 3) (ret := (some .double)) (by decide +kernel) rfl ?_
  intro p e s m args below meth c9 s₁ B hml hv
  obtain ⟨rfl, hP, hC⟩ := hv
  have hx := B.exec
  have hb := B.bytes
  have hr := B.returns
  have hts := atoms_spec (ws := wsX1_meanDrift) B.pre
  have hown : s.vm.findClass RX1 = some m.cls := findClass_of_methodNamed B.named
  have hlocks := B.notSynchronized
  have hK : va_K D vwCl [(cI, .int), (cJ, .long), (cR, .array .int)] s := hC.1
  have hl := lv_entry ([.ref (a 0)]) (n := 3) (Nat.le_of_ble_eq_true rfl)
  rw [lg_entry_eq]
  generalize (lg_sl ([.ref (a 0)]) ++ List.replicate (3 - (lg_sl ([.ref (a 0)])).length) Slot.unset).toArray = ls at hl ⊢
  have hl : lv_has ls 3 [(0, .ref (a 0))] := hl
  have hiX0 : ∀ w ∈ u_ws RX0 TX0 5, w ∈ wsX1_meanDrift := by decide +kernel
  have hiX1 : ∀ w ∈ u_ws RX1 TX1 9, w ∈ wsX1_meanDrift := by decide +kernel
  have hw26 : (Cond.fieldLink RX1 26 "OldMeasures" "stalls" "LOldMeasures$Stalls;").before ([.ref (a 0)] : List Value).toArray s = true := hts _ (by decide +kernel)
  refine lv_aload_n hx hb dX1_meanDrift_0 rfl (lv_at hl 0 rfl) ?_
  refine va_get (D := D) (ci := 1) (v := .ref (a 5)) (C := RX1) (T := TX1) (N := 9) hx hb hts hiX1 hown hK hP 0 rfl rfl 4 (by decide) hw26 (fun _ h9 => h9) rfl dX1_meanDrift_1 ?_
  refine va_getN (host := RX1) (D := D) (ci := 0) (v := .int (nI c)) (C := RX0) (T := TX0) (N := 5) hx hb hts hiX0 hown hK hP 5 rfl rfl 2 (by decide) (va_Nw.use rfl hC.2.2.1) (fun _ h9 => h9) rfl dX1_meanDrift_4 ?_
  refine lv_iconst (v := 1) hx hb dX1_meanDrift_7 (by decide) ?_
  refine lv_icmp_ge (tgt := 13) hx hb dX1_meanDrift_8 (by decide) (fun c_8 => ?_) (fun c_8 => ?_)
  · skip
    simp only [Int32.le_iff_toInt_le] at c_8
    rw [nI_toInt (n := c) (by omega)] at c_8
    rw [(by decide : (1 : Int32).toInt = 1)] at c_8
    refine lv_iconst (v := 0) hx hb dX1_meanDrift_13 (by decide) ?_
    refine lv_istore_n (lv' := [(1, .int 0), (0, .ref (a 0))]) hx hb dX1_meanDrift_14 rfl hl (by decide) rfl (fun ls hl => ?_)
    refine lv_iconst (v := 0) hx hb dX1_meanDrift_15 (by decide) ?_
    refine lv_istore_n (lv' := [(2, .int 0), (1, .int 0), (0, .ref (a 0))]) hx hb dX1_meanDrift_16 rfl hl (by decide) rfl (fun ls hl => ?_)
    have hc0 : ¬ c = 0 := by omega
    refine loopR (σ := Unit) (I := fun i x ls => lv_has ls 3 [(0, .ref (a 0)), (1, .int (smD fD i)), (2, .int (nI i))] ∧ (True)) c ?_ 0 () ls (by omega) ⟨lv_sub hl [2, 1, 0] rfl, trivial⟩
    intro i x ls hi hI kk
    obtain ⟨hl, _⟩ := hI
    refine lv_iload_n hx hb dX1_meanDrift_17 rfl (lv_at hl 2 rfl) ?_
    refine lv_aload_n hx hb dX1_meanDrift_18 rfl (lv_at hl 0 rfl) ?_
    refine va_get (D := D) (ci := 1) (v := .ref (a 5)) (C := RX1) (T := TX1) (N := 9) hx hb hts hiX1 hown hK hP 0 rfl rfl 4 (by decide) hw26 (fun _ h9 => h9) rfl dX1_meanDrift_19 ?_
    refine va_getN (host := RX1) (D := D) (ci := 0) (v := .int (nI c)) (C := RX0) (T := TX0) (N := 5) hx hb hts hiX0 hown hK hP 5 rfl rfl 2 (by decide) (va_Nw.use rfl hC.2.2.1) (fun _ h9 => h9) rfl dX1_meanDrift_22 ?_
    refine lv_icmp_ge (tgt := 46) hx hb dX1_meanDrift_25 (by decide) (fun c_25 => ?_) (fun c_25 => ?_)
    · skip
      simp only [Int32.le_iff_toInt_le] at c_25
      rw [nI_toInt (n := i) (by omega)] at c_25
      rw [nI_toInt (n := c) (by omega)] at c_25
      have e9 : c = i := by omega
      subst e9
      refine lv_iload_n hx hb dX1_meanDrift_46 rfl (lv_at hl 1 rfl) ?_
      refine lv_i2d hx hb dX1_meanDrift_47 ?_
      refine lv_aload_n hx hb dX1_meanDrift_48 rfl (lv_at hl 0 rfl) ?_
      refine va_get (D := D) (ci := 1) (v := .ref (a 5)) (C := RX1) (T := TX1) (N := 9) hx hb hts hiX1 hown hK hP 0 rfl rfl 4 (by decide) hw26 (fun _ h9 => h9) rfl dX1_meanDrift_49 ?_
      refine va_getN (host := RX1) (D := D) (ci := 0) (v := .int (nI c)) (C := RX0) (T := TX0) (N := 5) hx hb hts hiX0 hown hK hP 5 rfl rfl 2 (by decide) (va_Nw.use rfl hC.2.2.1) (fun _ h9 => h9) rfl dX1_meanDrift_52 ?_
      refine lv_i2d hx hb dX1_meanDrift_55 ?_
      refine lv_ddiv hx hb dX1_meanDrift_56 (vf_mean (smD_b hc hD3).1 (smD_b hc hD3).2 hc0 hc) ?_
      exact W.dret (v := (FP.ddiv (FP.i2d (smD fD c)) (FP.i2d (nI c)))) hx hb hr (fun t9 ht hW => ⟨_, rfl, (ic_f hc0).symm, ht⟩) (fun q hq => absurd hq List.not_mem_nil) dX1_meanDrift_57
    · skip
      simp only [Int32.le_iff_toInt_le] at c_25
      rw [nI_toInt (n := i) (by omega)] at c_25
      rw [nI_toInt (n := c) (by omega)] at c_25
      refine lv_iload_n hx hb dX1_meanDrift_28 rfl (lv_at hl 1 rfl) ?_
      refine lv_aload_n hx hb dX1_meanDrift_29 rfl (lv_at hl 0 rfl) ?_
      refine va_get (D := D) (ci := 1) (v := .ref (a 5)) (C := RX1) (T := TX1) (N := 9) hx hb hts hiX1 hown hK hP 0 rfl rfl 4 (by decide) hw26 (fun _ h9 => h9) rfl dX1_meanDrift_30 ?_
      refine va_getN (host := RX1) (D := D) (ci := 0) (v := .ref (a 7)) (C := RX0) (T := TX0) (N := 5) hx hb hts hiX0 hown hK hP 5 rfl rfl 1 (by decide) (va_Nw.use rfl hC.2.2.2.2.1) (fun _ h9 => h9) rfl dX1_meanDrift_33 ?_
      refine lv_iload_n hx hb dX1_meanDrift_36 rfl (lv_at hl 2 rfl) ?_
      refine xa_iald hx hb hK hP 7 0 rfl rfl (by omega) (by decide) dX1_meanDrift_37 ?_
      refine lv_iadd hx hb dX1_meanDrift_38 ?_
      refine lv_istore_n (lv' := [(1, .int ((smD fD i) + (fD i))), (0, .ref (a 0)), (2, .int (nI i))]) hx hb dX1_meanDrift_39 rfl hl (by decide) rfl (fun ls hl => ?_)
      refine lv_iinc (v := (nI (i + 1))) (lv' := [(2, .int (nI (i + 1))), (1, .int ((smD fD i) + (fD i))), (0, .ref (a 0))]) hx hb dX1_meanDrift_40 hl (k := 2) rfl (nI_inc i) (by decide) rfl (fun ls hl => ?_)
      refine lv_goto (tgt := 17) hx hb dX1_meanDrift_43 (by decide) ?_
      exact kk () ls (by omega) ⟨lv_sub hl [2, 1, 0] rfl, trivial⟩
  · skip
    simp only [Int32.le_iff_toInt_le] at c_8
    rw [nI_toInt (n := c) (by omega)] at c_8
    rw [(by decide : (1 : Int32).toInt = 1)] at c_8
    refine lv_dconst0 hx hb dX1_meanDrift_11 ?_
    exact W.dret (v := FP.dconst0) hx hb hr (fun t9 ht hW => ⟨_, rfl, (ic_t (by omega)).symm, ht⟩) (fun q hq => absurd hq List.not_mem_nil) dX1_meanDrift_12

set_option maxHeartbeats 4000000 in
set_option maxRecDepth 100000 in
theorem k_X1_needMeasure (l : Launch) (D : va_G) (cI cJ cR : ClassId) (a : Nat → Nat) (k st : Nat) (fi : Int32) (fB fS fO : Nat → Int32) (fL : Nat → Int64) (c : Nat) (t : Int32) (y : Nat) (fW fD : Nat → Int32) (c2 t2 y2 : Int32) (gW gD : Nat → Int32) (hk : k ≤ 8) (j : Nat) (hj : j < k) : Met l yX1_needMeasure wsX1_needMeasure ({ frames := 1, cells := 0, slots := 0, locals := 22 }) (cP D [((a 0), .inr (1, [.ref (a 1), .ref (a 2), .ref (a 3), .ref (a 4), .ref (a 5), .ref (a 8), .int (nI k), .int (nI st), .int fi])), ((a 1), .inl (cI, 8, .inl fB)), ((a 2), .inl (cI, 8, .inl fS)), ((a 3), .inl (cJ, 8, .inr (.inl fL))), ((a 4), .inl (cI, 8, .inl fO)), ((a 5), .inr (0, [.ref (a 6), .ref (a 7), .int (nI c), .int t, .int (nI y)])), ((a 6), .inl (cI, 6, .inl fW)), ((a 7), .inl (cI, 6, .inl fD)), ((a 8), .inr (0, [.ref (a 9), .ref (a 10), .int c2, .int t2, .int y2])), ((a 9), .inl (cI, 6, .inl gW)), ((a 10), .inl (cI, 6, .inl gD))] (KC D cI cJ cR) [.ref (a 0), .int (nI j)]) (rov (True)) 0 0 (fun _ => False) := by
  refine Met.ofW (cc := cX1_needMeasure) (maxL := 2) (ret := none) (by decide +kernel) rfl ?_
  intro p e s m args below meth c9 s₁ B hml hv
  obtain ⟨rfl, hP, hC⟩ := hv
  have hx := B.exec
  have hb := B.bytes
  have hr := B.returns
  have hts := atoms_spec (ws := wsX1_needMeasure) B.pre
  have hown : s.vm.findClass RX1 = some m.cls := findClass_of_methodNamed B.named
  have hlocks := B.notSynchronized
  have hK : va_K D vwCl [(cI, .int), (cJ, .long), (cR, .array .int)] s := hC.1
  have hl := lv_entry ([.ref (a 0), .int (nI j)]) (n := 2) (Nat.le_of_ble_eq_true rfl)
  rw [lg_entry_eq]
  generalize (lg_sl ([.ref (a 0), .int (nI j)]) ++ List.replicate (2 - (lg_sl ([.ref (a 0), .int (nI j)])).length) Slot.unset).toArray = ls at hl ⊢
  have hl : lv_has ls 2 [(0, .ref (a 0)), (1, .int (nI j))] := hl
  have hiX1 : ∀ w ∈ u_ws RX1 TX1 9, w ∈ wsX1_needMeasure := by decide +kernel
  have hw33 : (Cond.fieldLink RX1 33 "OldMeasures" "measureCount" "I").before ([.ref (a 0), .int (nI j)] : List Value).toArray s = true := hts _ (by decide +kernel)
  refine lv_iload_n hx hb dX1_needMeasure_0 rfl (lv_at hl 1 rfl) ?_
  refine lv_iconst (v := 0) hx hb dX1_needMeasure_1 (by decide) ?_
  refine lv_aload_n hx hb dX1_needMeasure_2 rfl (lv_at hl 0 rfl) ?_
  refine va_get (D := D) (ci := 1) (v := .int (nI k)) (C := RX1) (T := TX1) (N := 9) hx hb hts hiX1 hown hK hP 0 rfl rfl 6 (by decide) hw33 (fun _ h9 => h9) rfl dX1_needMeasure_3 ?_
  refine lv_iconst (v := 1) hx hb dX1_needMeasure_6 (by decide) ?_
  refine lv_isub hx hb dX1_needMeasure_7 ?_
  refine ro_iE (va_runS (As := [.int (nI j), .int 0, .int ((nI k) - 1)]) (rest := []) ⟨hx, hb, hml, hown, hts⟩ (c_X1_isOutside l (nI j) 0 ((nI k) - 1)) (va_cwS 3 hts gX1_needMeasure_X1_isOutside rfl rfl rfl (by decide +kernel) ⟨Nat.le_of_ble_eq_true rfl, Nat.le_of_ble_eq_true rfl⟩) pre0 rfl rfl hl.1 rfl (lv_room (Nat.le_of_ble_eq_true rfl)) dX1_needMeasure_8 ⟨by decide, by decide⟩) ?_
  refine lv_if_eq (tgt := 24) hx hb dX1_needMeasure_11 (by decide) (fun c_11 => ?_) (fun c_11 => ?_)
  · skip
    have c_11 := bz_0 c_11
    exact W.vret hx hb hr (fun t9 ht hW => ⟨rfl, trivial, ht⟩) (fun q hq => absurd hq List.not_mem_nil) dX1_needMeasure_24
  · skip
    have c_11 := bz_1 c_11
    exact absurd c_11 ((inM_iff (by omega)).mpr (inM_nI hj (by omega)))

set_option maxHeartbeats 4000000 in
set_option maxRecDepth 100000 in
theorem k_X1_needStall (l : Launch) (D : va_G) (cI cJ cR : ClassId) (a : Nat → Nat) (k st : Nat) (fi : Int32) (fB fS fO : Nat → Int32) (fL : Nat → Int64) (c : Nat) (t : Int32) (y : Nat) (fW fD : Nat → Int32) (c2 t2 y2 : Int32) (gW gD : Nat → Int32) (hc : c ≤ 6) (j : Nat) (hj : j < c) : Met l yX1_needStall wsX1_needStall ({ frames := 1, cells := 0, slots := 0, locals := 22 }) (cP D [((a 0), .inr (1, [.ref (a 1), .ref (a 2), .ref (a 3), .ref (a 4), .ref (a 5), .ref (a 8), .int (nI k), .int (nI st), .int fi])), ((a 1), .inl (cI, 8, .inl fB)), ((a 2), .inl (cI, 8, .inl fS)), ((a 3), .inl (cJ, 8, .inr (.inl fL))), ((a 4), .inl (cI, 8, .inl fO)), ((a 5), .inr (0, [.ref (a 6), .ref (a 7), .int (nI c), .int t, .int (nI y)])), ((a 6), .inl (cI, 6, .inl fW)), ((a 7), .inl (cI, 6, .inl fD)), ((a 8), .inr (0, [.ref (a 9), .ref (a 10), .int c2, .int t2, .int y2])), ((a 9), .inl (cI, 6, .inl gW)), ((a 10), .inl (cI, 6, .inl gD))] (KC D cI cJ cR) [.ref (a 0), .int (nI j)]) (rov (True)) 0 0 (fun _ => False) := by
  refine Met.ofW (cc := cX1_needStall) (maxL := 2) (ret := none) (by decide +kernel) rfl ?_
  intro p e s m args below meth c9 s₁ B hml hv
  obtain ⟨rfl, hP, hC⟩ := hv
  have hx := B.exec
  have hb := B.bytes
  have hr := B.returns
  have hts := atoms_spec (ws := wsX1_needStall) B.pre
  have hown : s.vm.findClass RX1 = some m.cls := findClass_of_methodNamed B.named
  have hlocks := B.notSynchronized
  have hK : va_K D vwCl [(cI, .int), (cJ, .long), (cR, .array .int)] s := hC.1
  have hl := lv_entry ([.ref (a 0), .int (nI j)]) (n := 2) (Nat.le_of_ble_eq_true rfl)
  rw [lg_entry_eq]
  generalize (lg_sl ([.ref (a 0), .int (nI j)]) ++ List.replicate (2 - (lg_sl ([.ref (a 0), .int (nI j)])).length) Slot.unset).toArray = ls at hl ⊢
  have hl : lv_has ls 2 [(0, .ref (a 0)), (1, .int (nI j))] := hl
  have hiX0 : ∀ w ∈ u_ws RX0 TX0 5, w ∈ wsX1_needStall := by decide +kernel
  have hiX1 : ∀ w ∈ u_ws RX1 TX1 9, w ∈ wsX1_needStall := by decide +kernel
  have hw26 : (Cond.fieldLink RX1 26 "OldMeasures" "stalls" "LOldMeasures$Stalls;").before ([.ref (a 0), .int (nI j)] : List Value).toArray s = true := hts _ (by decide +kernel)
  refine lv_iload_n hx hb dX1_needStall_0 rfl (lv_at hl 1 rfl) ?_
  refine lv_iconst (v := 0) hx hb dX1_needStall_1 (by decide) ?_
  refine lv_aload_n hx hb dX1_needStall_2 rfl (lv_at hl 0 rfl) ?_
  refine va_get (D := D) (ci := 1) (v := .ref (a 5)) (C := RX1) (T := TX1) (N := 9) hx hb hts hiX1 hown hK hP 0 rfl rfl 4 (by decide) hw26 (fun _ h9 => h9) rfl dX1_needStall_3 ?_
  refine va_getN (host := RX1) (D := D) (ci := 0) (v := .int (nI c)) (C := RX0) (T := TX0) (N := 5) hx hb hts hiX0 hown hK hP 5 rfl rfl 2 (by decide) (va_Nw.use rfl hC.2.2.1) (fun _ h9 => h9) rfl dX1_needStall_6 ?_
  refine lv_iconst (v := 1) hx hb dX1_needStall_9 (by decide) ?_
  refine lv_isub hx hb dX1_needStall_10 ?_
  refine ro_iE (va_runS (As := [.int (nI j), .int 0, .int ((nI c) - 1)]) (rest := []) ⟨hx, hb, hml, hown, hts⟩ (c_X1_isOutside l (nI j) 0 ((nI c) - 1)) (va_cwS 3 hts gX1_needStall_X1_isOutside rfl rfl rfl (by decide +kernel) ⟨Nat.le_of_ble_eq_true rfl, Nat.le_of_ble_eq_true rfl⟩) pre0 rfl rfl hl.1 rfl (lv_room (Nat.le_of_ble_eq_true rfl)) dX1_needStall_11 ⟨by decide, by decide⟩) ?_
  refine lv_if_eq (tgt := 27) hx hb dX1_needStall_14 (by decide) (fun c_14 => ?_) (fun c_14 => ?_)
  · skip
    have c_14 := bz_0 c_14
    exact W.vret hx hb hr (fun t9 ht hW => ⟨rfl, trivial, ht⟩) (fun q hq => absurd hq List.not_mem_nil) dX1_needStall_27
  · skip
    have c_14 := bz_1 c_14
    exact absurd c_14 ((inM_iff (by omega)).mpr (inM_nI hj (by omega)))

