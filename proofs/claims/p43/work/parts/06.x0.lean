set_option maxHeartbeats 4000000 in
set_option maxRecDepth 100000 in
theorem c_X1_isOutside (l : Launch) (x y z : Int32) : Met l yX1_isOutside wsX1_isOutside ({ frames := 0, cells := 0, slots := 0, locals := 0 }) (va_Pc [.int x, .int y, .int z] (fun _ => True)) (roi (fun r => r = bz (x.toInt < y.toInt ∨ z.toInt < x.toInt))) 0 0 (fun _ => False) := by
  refine Met.ofW (cc := cX1_isOutside) (maxL := 3) (ret := (some .boolean)) (by decide +kernel) rfl ?_
  intro p e s m args below meth c9 s₁ B hml hv
  obtain ⟨rfl, -⟩ := hv
  have hx := B.exec
  have hb := B.bytes
  have hr := B.returns
  have hts := atoms_spec (ws := wsX1_isOutside) B.pre
  have hown : s.vm.findClass RX1 = some m.cls := findClass_of_methodNamed B.named
  have hlocks := B.notSynchronized
  have hl := lv_entry ([.int x, .int y, .int z]) (n := 3) (Nat.le_of_ble_eq_true rfl)
  rw [lg_entry_eq]
  generalize (lg_sl ([.int x, .int y, .int z]) ++ List.replicate (3 - (lg_sl ([.int x, .int y, .int z])).length) Slot.unset).toArray = ls at hl ⊢
  have hl : lv_has ls 3 [(0, .int x), (1, .int y), (2, .int z)] := hl
  refine lv_iload_n hx hb dX1_isOutside_0 rfl (lv_at hl 0 rfl) ?_
  refine lv_iload_n hx hb dX1_isOutside_1 rfl (lv_at hl 1 rfl) ?_
  refine lv_icmp_lt (tgt := 10) hx hb dX1_isOutside_2 (by decide) (fun c_2 => ?_) (fun c_2 => ?_)
  · skip
    simp only [Int32.lt_iff_toInt_lt] at c_2
    refine lv_iconst (v := 1) hx hb dX1_isOutside_10 (by decide) ?_
    refine lv_goto (tgt := 15) hx hb dX1_isOutside_11 (by decide) ?_
    exact W.zret (v := 1) hx hb hr rfl (fun t9 ht hW => ⟨_, rfl, by first | rfl | exact (bz_t (by omega)).symm | exact (bz_f (by omega)).symm, ht⟩) (fun q hq => absurd hq List.not_mem_nil) dX1_isOutside_15
  · skip
    simp only [Int32.lt_iff_toInt_lt] at c_2
    refine lv_iload_n hx hb dX1_isOutside_5 rfl (lv_at hl 0 rfl) ?_
    refine lv_iload_n hx hb dX1_isOutside_6 rfl (lv_at hl 2 rfl) ?_
    refine lv_icmp_le (tgt := 14) hx hb dX1_isOutside_7 (by decide) (fun c_7 => ?_) (fun c_7 => ?_)
    · skip
      simp only [Int32.le_iff_toInt_le] at c_7
      refine lv_iconst (v := 0) hx hb dX1_isOutside_14 (by decide) ?_
      exact W.zret (v := 0) hx hb hr rfl (fun t9 ht hW => ⟨_, rfl, by first | rfl | exact (bz_t (by omega)).symm | exact (bz_f (by omega)).symm, ht⟩) (fun q hq => absurd hq List.not_mem_nil) dX1_isOutside_15
    · skip
      simp only [Int32.le_iff_toInt_le] at c_7
      refine lv_iconst (v := 1) hx hb dX1_isOutside_10 (by decide) ?_
      refine lv_goto (tgt := 15) hx hb dX1_isOutside_11 (by decide) ?_
      exact W.zret (v := 1) hx hb hr rfl (fun t9 ht hW => ⟨_, rfl, by first | rfl | exact (bz_t (by omega)).symm | exact (bz_f (by omega)).symm, ht⟩) (fun q hq => absurd hq List.not_mem_nil) dX1_isOutside_15

set_option maxHeartbeats 4000000 in
set_option maxRecDepth 100000 in
theorem c_X1_timesIn (l : Launch) (x y : Int64) (hy : 0 < y.toInt) : Met l yX1_timesIn wsX1_timesIn ({ frames := 0, cells := 0, slots := 0, locals := 0 }) (va_Pc [.long x, .long y] (fun _ => True)) (rol (fun r => r = x / y)) 0 0 (fun _ => False) := by
  refine Met.ofW (cc := cX1_timesIn) (maxL := 4) (ret := (some .long)) (by decide +kernel) rfl ?_
  intro p e s m args below meth c9 s₁ B hml hv
  obtain ⟨rfl, -⟩ := hv
  have hx := B.exec
  have hb := B.bytes
  have hr := B.returns
  have hts := atoms_spec (ws := wsX1_timesIn) B.pre
  have hown : s.vm.findClass RX1 = some m.cls := findClass_of_methodNamed B.named
  have hlocks := B.notSynchronized
  have hl := lv_entry ([.long x, .long y]) (n := 4) (Nat.le_of_ble_eq_true rfl)
  rw [lg_entry_eq]
  generalize (lg_sl ([.long x, .long y]) ++ List.replicate (4 - (lg_sl ([.long x, .long y])).length) Slot.unset).toArray = ls at hl ⊢
  have hl : lv_has ls 4 [(0, .long x), (2, .long y)] := hl
  refine lv_lload_n hx hb dX1_timesIn_0 rfl (lv_at hl 1 rfl) ?_
  refine lv_lconst (v := 1) hx hb dX1_timesIn_1 (by decide) ?_
  refine W.lcmp hx hb dX1_timesIn_2 ?_
  refine lv_if_ge (tgt := 10) hx hb dX1_timesIn_3 (by decide) (fun c_3 => ?_) (fun c_3 => ?_)
  · skip
    have c_3 := (lgc_ge _ _).mp c_3
    refine lv_lload_n hx hb dX1_timesIn_10 rfl (lv_at hl 0 rfl) ?_
    refine lv_lload_n hx hb dX1_timesIn_11 rfl (lv_at hl 1 rfl) ?_
    refine lv_ldiv hx hb dX1_timesIn_12 (by intro h0; rw [h0] at hy; exact absurd hy (by decide)) ?_
    exact W.lret (v := (x / y)) hx hb hr (fun t9 ht hW => ⟨_, rfl, rfl, ht⟩) (fun q hq => absurd hq List.not_mem_nil) dX1_timesIn_13
  · skip
    have c_3 := (not_congr (lgc_ge _ _)).mp c_3
    exact absurd (show (1 : Int64).toInt ≤ y.toInt from hy) c_3

set_option maxHeartbeats 4000000 in
set_option maxRecDepth 100000 in
theorem c_X1_leftOf (l : Launch) (x y : Int64) (hy : 0 < y.toInt) : Met l yX1_leftOf wsX1_leftOf ({ frames := 0, cells := 0, slots := 0, locals := 0 }) (va_Pc [.long x, .long y] (fun _ => True)) (rol (fun r => r = jrem x y)) 0 0 (fun _ => False) := by
  refine Met.ofW (cc := cX1_leftOf) (maxL := 4) (ret := (some .long)) (by decide +kernel) rfl ?_
  intro p e s m args below meth c9 s₁ B hml hv
  obtain ⟨rfl, -⟩ := hv
  have hx := B.exec
  have hb := B.bytes
  have hr := B.returns
  have hts := atoms_spec (ws := wsX1_leftOf) B.pre
  have hown : s.vm.findClass RX1 = some m.cls := findClass_of_methodNamed B.named
  have hlocks := B.notSynchronized
  have hl := lv_entry ([.long x, .long y]) (n := 4) (Nat.le_of_ble_eq_true rfl)
  rw [lg_entry_eq]
  generalize (lg_sl ([.long x, .long y]) ++ List.replicate (4 - (lg_sl ([.long x, .long y])).length) Slot.unset).toArray = ls at hl ⊢
  have hl : lv_has ls 4 [(0, .long x), (2, .long y)] := hl
  refine lv_lload_n hx hb dX1_leftOf_0 rfl (lv_at hl 1 rfl) ?_
  refine lv_lconst (v := 1) hx hb dX1_leftOf_1 (by decide) ?_
  refine W.lcmp hx hb dX1_leftOf_2 ?_
  refine lv_if_ge (tgt := 10) hx hb dX1_leftOf_3 (by decide) (fun c_3 => ?_) (fun c_3 => ?_)
  · skip
    have c_3 := (lgc_ge _ _).mp c_3
    refine lv_lload_n hx hb dX1_leftOf_10 rfl (lv_at hl 0 rfl) ?_
    refine lv_lload_n hx hb dX1_leftOf_11 rfl (lv_at hl 1 rfl) ?_
    refine lv_lrem hx hb dX1_leftOf_12 (by intro h0; rw [h0] at hy; exact absurd hy (by decide)) ?_
    exact W.lret (v := (x - x / y * y)) hx hb hr (fun t9 ht hW => ⟨_, rfl, rfl, ht⟩) (fun q hq => absurd hq List.not_mem_nil) dX1_leftOf_13
  · skip
    have c_3 := (not_congr (lgc_ge _ _)).mp c_3
    exact absurd (show (1 : Int64).toInt ≤ y.toInt from hy) c_3
set_option maxHeartbeats 4000000 in
set_option maxRecDepth 100000 in
theorem c_J9_floorMod_7cf53 (l : Launch) (u v : Nat) (hu : u < 2 ^ 31) (hv0 : 0 < v) (hv2 : v < 2 ^ 31) : Met l yJ9_floorMod_7cf53 wsJ9_floorMod_7cf53 ({ frames := 0, cells := 0, slots := 0, locals := 0 }) (va_Pc [.int (nI u), .int (nI v)] (fun _ => True)) (roi (fun r => r = nI (u % v))) 0 0 (fun _ => False) := by
  refine MetF_ofW (cc := cJ9_floorMod_7cf53) (maxL := 3) (ret := (some .int)) (by decide +kernel) rfl ?_
  intro p e s m args below meth c9 s₁ B hml hv
  obtain ⟨rfl, -⟩ := hv
  have hx := B.exec
  have hb := B.bytes
  have hr := B.returns
  have hts := atoms_spec (ws := wsJ9_floorMod_7cf53) B.pre
  have hown : s.vm.findClass RJ9 = some m.cls := findClass_of_methodNamed B.named
  have hlocks := B.notSynchronized
  have hl := lv_entry ([.int (nI u), .int (nI v)]) (n := 3) (Nat.le_of_ble_eq_true rfl)
  rw [lg_entry_eq]
  generalize (lg_sl ([.int (nI u), .int (nI v)]) ++ List.replicate (3 - (lg_sl ([.int (nI u), .int (nI v)])).length) Slot.unset).toArray = ls at hl ⊢
  have hl : lv_has ls 3 [(0, .int (nI u)), (1, .int (nI v))] := hl
  refine lv_iload_n hx hb dJ9_floorMod_7cf53_0 rfl (lv_at hl 0 rfl) ?_
  refine lv_iload_n hx hb dJ9_floorMod_7cf53_1 rfl (lv_at hl 1 rfl) ?_
  refine lv_irem hx hb dJ9_floorMod_7cf53_2 (nI_ne0 hv0 hv2) ?_
  refine topI (pk_rem hu hv0 hv2) ?_
  refine lv_istore_n (lv' := [(2, .int (nI (u % v))), (0, .int (nI u)), (1, .int (nI v))]) hx hb dJ9_floorMod_7cf53_3 rfl hl (by decide) rfl (fun ls hl => ?_)
  refine lv_iload_n hx hb dJ9_floorMod_7cf53_4 rfl (lv_at hl 1 rfl) ?_
  refine lv_iload_n hx hb dJ9_floorMod_7cf53_5 rfl (lv_at hl 2 rfl) ?_
  refine lv_ixor hx hb dJ9_floorMod_7cf53_6 ?_
  refine lv_if_ge (tgt := 18) hx hb dJ9_floorMod_7cf53_7 (by decide) (fun c_7 => ?_) (fun c_7 => ?_)
  · skip
    simp only [Int32.le_iff_toInt_le] at c_7
    rw [(by decide : (0 : Int32).toInt = 0)] at c_7
    refine lv_iload_n hx hb dJ9_floorMod_7cf53_18 rfl (lv_at hl 0 rfl) ?_
    exact W.iret (v := (nI (u % v))) hx hb hr (fun t9 ht hW => ⟨_, rfl, rfl, ht⟩) (fun q hq => absurd hq List.not_mem_nil) dJ9_floorMod_7cf53_19
  · skip
    simp only [Int32.le_iff_toInt_le] at c_7
    rw [(by decide : (0 : Int32).toInt = 0)] at c_7
    exact absurd (xor_nn hu hv2) c_7

set_option maxHeartbeats 4000000 in
set_option maxRecDepth 100000 in
theorem c_X0_held (l : Launch) (x : Int32) : Met l yX0_held wsX0_held ({ frames := 1, cells := 0, slots := 0, locals := 14 }) (va_Pc [.int x] (fun _ => True)) (roi (fun r => r = hld x)) 0 0 (fun _ => False) := by
  refine Met.ofW (cc := cX0_held) (maxL := 1) (ret := (some .int)) (by decide +kernel) rfl ?_
  intro p e s m args below meth c9 s₁ B hml hv
  obtain ⟨rfl, -⟩ := hv
  have hx := B.exec
  have hb := B.bytes
  have hr := B.returns
  have hts := atoms_spec (ws := wsX0_held) B.pre
  have hown : s.vm.findClass RX0 = some m.cls := findClass_of_methodNamed B.named
  have hlocks := B.notSynchronized
  have hl := lv_entry ([.int x]) (n := 1) (Nat.le_of_ble_eq_true rfl)
  rw [lg_entry_eq]
  generalize (lg_sl ([.int x]) ++ List.replicate (1 - (lg_sl ([.int x])).length) Slot.unset).toArray = ls at hl ⊢
  have hl : lv_has ls 1 [(0, .int x)] := hl
  refine lv_sipush (v := (-300)) hx hb dX0_held_0 (by decide) ?_
  refine lv_sipush (v := 300) hx hb dX0_held_3 (by decide) ?_
  refine lv_iload_n hx hb dX0_held_6 rfl (lv_at hl 0 rfl) ?_
  refine va_mmin hx hb (by rw [hml]; exact hl.1.symm) hown (hts (.methodLink RX0 55 Lib.Math.min.name) (by decide +kernel)) (hts (.static Lib.Math.min.name) (by decide +kernel)) (hts (.initialized "java/lang/Math") (by decide +kernel)) (hts (.code Lib.Math.min.name Lib.Math.min.code 2 (some .int)) (by decide +kernel)) (by first | decide | exact Nat.le_of_ble_eq_true rfl) (by first | decide | exact Nat.le_of_ble_eq_true rfl) (by first | decide | exact Nat.le_of_ble_eq_true rfl) (by first | decide | exact Nat.le_of_ble_eq_true rfl) dX0_held_7 ?_
  refine va_mmax hx hb (by rw [hml]; exact hl.1.symm) hown (hts (.methodLink RX0 58 Lib.Math.max.name) (by decide +kernel)) (hts (.static Lib.Math.max.name) (by decide +kernel)) (hts (.initialized "java/lang/Math") (by decide +kernel)) (hts (.code Lib.Math.max.name Lib.Math.max.code 2 (some .int)) (by decide +kernel)) (by first | decide | exact Nat.le_of_ble_eq_true rfl) (by first | decide | exact Nat.le_of_ble_eq_true rfl) (by first | decide | exact Nat.le_of_ble_eq_true rfl) (by first | decide | exact Nat.le_of_ble_eq_true rfl) dX0_held_10 ?_
  exact W.iret (v := (if (-300) < (if x < 300 then x else 300) then (if x < 300 then x else 300) else (-300))) hx hb hr (fun t9 ht hW => ⟨_, rfl, rfl, ht⟩) (fun q hq => absurd hq List.not_mem_nil) dX0_held_13

set_option maxHeartbeats 4000000 in
set_option maxRecDepth 100000 in
theorem c_X0_visited (l : Launch) (D : va_G) (cI cJ cR : ClassId) (h hw hd : Nat) (c : Nat) (t : Int32) (y : Nat) (fW fD : Nat → Int32) (hc : c ≤ 6) (hy : y < 2 ^ 30) : Met l yX0_visited wsX0_visited ({ frames := 1, cells := 0, slots := 0, locals := 22 }) (cP D [(h, .inr (0, [.ref hw, .ref hd, .int (nI c), .int t, .int (nI y)])), (hw, .inl (cI, 6, .inl fW)), (hd, .inl (cI, 6, .inl fD))] (KM D cI cJ cR) [.ref h]) (roi (fun r => r = ic (c = 0) (-1) (nI (y % c)))) 0 0 (fun _ => False) := by
  refine Met.ofW (cc := cX0_visited) (maxL := 1) (ret := (some .int)) (by decide +kernel) rfl ?_
  intro p e s m args below meth c9 s₁ B hml hv
  obtain ⟨rfl, hP, hC⟩ := hv
  have hx := B.exec
  have hb := B.bytes
  have hr := B.returns
  have hts := atoms_spec (ws := wsX0_visited) B.pre
  have hown : s.vm.findClass RX0 = some m.cls := findClass_of_methodNamed B.named
  have hlocks := B.notSynchronized
  have hK : va_K D vwCl [(cI, .int), (cJ, .long), (cR, .array .int)] s := hC
  have hl := lv_entry ([.ref h]) (n := 1) (Nat.le_of_ble_eq_true rfl)
  rw [lg_entry_eq]
  generalize (lg_sl ([.ref h]) ++ List.replicate (1 - (lg_sl ([.ref h])).length) Slot.unset).toArray = ls at hl ⊢
  have hl : lv_has ls 1 [(0, .ref h)] := hl
  have hiX0 : ∀ w ∈ u_ws RX0 TX0 5, w ∈ wsX0_visited := by decide +kernel
  have hw22 : (Cond.fieldLink RX0 22 "OldMeasures$Stalls" "count" "I").before ([.ref h] : List Value).toArray s = true := hts _ (by decide +kernel)
  have hw25 : (Cond.fieldLink RX0 25 "OldMeasures$Stalls" "day" "I").before ([.ref h] : List Value).toArray s = true := hts _ (by decide +kernel)
  refine lv_aload_n hx hb dX0_visited_0 rfl (lv_at hl 0 rfl) ?_
  refine va_get (D := D) (ci := 0) (v := .int (nI c)) (C := RX0) (T := TX0) (N := 5) hx hb hts hiX0 hown hK hP 0 rfl rfl 2 (by decide) hw22 (fun _ h9 => h9) rfl dX0_visited_1 ?_
  refine lv_iconst (v := 1) hx hb dX0_visited_4 (by decide) ?_
  refine lv_icmp_ge (tgt := 12) hx hb dX0_visited_5 (by decide) (fun c_5 => ?_) (fun c_5 => ?_)
  · skip
    simp only [Int32.le_iff_toInt_le] at c_5
    rw [nI_toInt (n := c) (by omega)] at c_5
    rw [(by decide : (1 : Int32).toInt = 1)] at c_5
    refine lv_aload_n hx hb dX0_visited_12 rfl (lv_at hl 0 rfl) ?_
    refine va_get (D := D) (ci := 0) (v := .int (nI y)) (C := RX0) (T := TX0) (N := 5) hx hb hts hiX0 hown hK hP 0 rfl rfl 4 (by decide) hw25 (fun _ h9 => h9) rfl dX0_visited_13 ?_
    refine lv_aload_n hx hb dX0_visited_16 rfl (lv_at hl 0 rfl) ?_
    refine va_get (D := D) (ci := 0) (v := .int (nI c)) (C := RX0) (T := TX0) (N := 5) hx hb hts hiX0 hown hK hP 0 rfl rfl 2 (by decide) hw22 (fun _ h9 => h9) rfl dX0_visited_17 ?_
    refine ro_iE (va_runS (As := [.int (nI y), .int (nI c)]) (rest := []) ⟨hx, hb, hml, hown, hts⟩ (c_J9_floorMod_7cf53 l y c (by omega) (by omega) (by omega)) (va_cwS 2 hts gX0_visited_J9_floorMod_7cf53 rfl rfl rfl (by decide +kernel) ⟨Nat.le_of_ble_eq_true rfl, Nat.le_of_ble_eq_true rfl⟩) pre0 rfl rfl hl.1 rfl (lv_room (Nat.le_of_ble_eq_true rfl)) dX0_visited_20 ⟨by decide, by decide⟩) ?_
    exact W.iret (v := (nI (y % c))) hx hb hr (fun t9 ht hW => ⟨_, rfl, by first | exact (ic_t (by omega)).symm | exact (ic_f (by omega)).symm, ht⟩) (fun q hq => absurd hq List.not_mem_nil) dX0_visited_23
  · skip
    simp only [Int32.le_iff_toInt_le] at c_5
    rw [nI_toInt (n := c) (by omega)] at c_5
    rw [(by decide : (1 : Int32).toInt = 1)] at c_5
    refine lv_iconst (v := (-1)) hx hb dX0_visited_8 (by decide) ?_
    refine lv_goto (tgt := 23) hx hb dX0_visited_9 (by decide) ?_
    exact W.iret (v := (-1)) hx hb hr (fun t9 ht hW => ⟨_, rfl, by first | exact (ic_t (by omega)).symm | exact (ic_f (by omega)).symm, ht⟩) (fun q hq => absurd hq List.not_mem_nil) dX0_visited_23

set_option maxHeartbeats 4000000 in
set_option maxRecDepth 100000 in
theorem c_X0_isTolerated (l : Launch) (D : va_G) (cI cJ cR : ClassId) (h hw hd : Nat) (c : Nat) (t : Int32) (y : Nat) (fW fD : Nat → Int32) (x : Int32) : Met l yX0_isTolerated wsX0_isTolerated ({ frames := 1, cells := 0, slots := 0, locals := 13 }) (cP D [(h, .inr (0, [.ref hw, .ref hd, .int (nI c), .int t, .int (nI y)])), (hw, .inl (cI, 6, .inl fW)), (hd, .inl (cI, 6, .inl fD))] (KM D cI cJ cR) [.ref h, .int x]) (roi (fun r => r = bz ((absI x).toInt ≤ t.toInt))) 0 0 (fun _ => False) := by
  refine Met.ofW (cc := cX0_isTolerated) (maxL := 2) (ret := (some .boolean)) (by decide +kernel) rfl ?_
  intro p e s m args below meth c9 s₁ B hml hv
  obtain ⟨rfl, hP, hC⟩ := hv
  have hx := B.exec
  have hb := B.bytes
  have hr := B.returns
  have hts := atoms_spec (ws := wsX0_isTolerated) B.pre
  have hown : s.vm.findClass RX0 = some m.cls := findClass_of_methodNamed B.named
  have hlocks := B.notSynchronized
  have hK : va_K D vwCl [(cI, .int), (cJ, .long), (cR, .array .int)] s := hC
  have hl := lv_entry ([.ref h, .int x]) (n := 2) (Nat.le_of_ble_eq_true rfl)
  rw [lg_entry_eq]
  generalize (lg_sl ([.ref h, .int x]) ++ List.replicate (2 - (lg_sl ([.ref h, .int x])).length) Slot.unset).toArray = ls at hl ⊢
  have hl : lv_has ls 2 [(0, .ref h), (1, .int x)] := hl
  have hiX0 : ∀ w ∈ u_ws RX0 TX0 5, w ∈ wsX0_isTolerated := by decide +kernel
  have hw18 : (Cond.fieldLink RX0 18 "OldMeasures$Stalls" "tolerance" "I").before ([.ref h, .int x] : List Value).toArray s = true := hts _ (by decide +kernel)
  refine lv_iload_n hx hb dX0_isTolerated_0 rfl (lv_at hl 1 rfl) ?_
  refine va_mabs hx hb (by rw [hml]; exact hl.1.symm) hown (hts (.methodLink RX0 52 Lib.Math.abs.name) (by decide +kernel)) (hts (.static Lib.Math.abs.name) (by decide +kernel)) (hts (.initialized "java/lang/Math") (by decide +kernel)) (hts (.code Lib.Math.abs.name Lib.Math.abs.code 1 (some .int)) (by decide +kernel)) (by first | decide | exact Nat.le_of_ble_eq_true rfl) (by first | decide | exact Nat.le_of_ble_eq_true rfl) (by first | decide | exact Nat.le_of_ble_eq_true rfl) (by first | decide | exact Nat.le_of_ble_eq_true rfl) dX0_isTolerated_1 ?_
  refine topI (y := absI x) rfl ?_
  refine lv_aload_n hx hb dX0_isTolerated_4 rfl (lv_at hl 0 rfl) ?_
  refine va_get (D := D) (ci := 0) (v := .int t) (C := RX0) (T := TX0) (N := 5) hx hb hts hiX0 hown hK hP 0 rfl rfl 3 (by decide) hw18 (fun _ h9 => h9) rfl dX0_isTolerated_5 ?_
  refine lv_icmp_gt (tgt := 15) hx hb dX0_isTolerated_8 (by decide) (fun c_8 => ?_) (fun c_8 => ?_)
  · skip
    simp only [Int32.lt_iff_toInt_lt] at c_8
    refine lv_iconst (v := 0) hx hb dX0_isTolerated_15 (by decide) ?_
    exact W.zret (v := 0) hx hb hr rfl (fun t9 ht hW => ⟨_, rfl, by first | rfl | exact (bz_t (by omega)).symm | exact (bz_f (by omega)).symm, ht⟩) (fun q hq => absurd hq List.not_mem_nil) dX0_isTolerated_16
  · skip
    simp only [Int32.lt_iff_toInt_lt] at c_8
    refine lv_iconst (v := 1) hx hb dX0_isTolerated_11 (by decide) ?_
    refine lv_goto (tgt := 16) hx hb dX0_isTolerated_12 (by decide) ?_
    exact W.zret (v := 1) hx hb hr rfl (fun t9 ht hW => ⟨_, rfl, by first | rfl | exact (bz_t (by omega)).symm | exact (bz_f (by omega)).symm, ht⟩) (fun q hq => absurd hq List.not_mem_nil) dX0_isTolerated_16

set_option maxHeartbeats 4000000 in
set_option maxRecDepth 100000 in
theorem c_X0_finedAt_n (l : Launch) (D : va_G) (cI cJ cR : ClassId) (sz : Nat) (h hw hd : Nat) (c : Nat) (t : Int32) (y : Nat) (fW fD : Nat → Int32) (hc : c ≤ 6) : Met l yX0_finedAt wsX0_finedAt ({ frames := 2, cells := 0, slots := 0, locals := 34 }) (cPw D [(h, .inr (0, [.ref hw, .ref hd, .int (nI c), .int t, .int (nI y)])), (hw, .inl (cI, 6, .inl fW)), (hd, .inl (cI, 6, .inl fD))] sz (KM D cI cJ cR) [.ref h, .int (-1)]) (wri D [(h, .inr (0, [.ref hw, .ref hd, .int (nI c), .int t, .int (nI y)])), (hw, .inl (cI, 6, .inl fW)), (hd, .inl (cI, 6, .inl fD))] sz (fun r ws' => r = 0 ∧ ws' = [(h, .inr (0, [.ref hw, .ref hd, .int (nI c), .int t, .int (nI y)])), (hw, .inl (cI, 6, .inl fW)), (hd, .inl (cI, 6, .inl fD))])) 0 0 (va_A [(h, .inr (0, [.ref hw, .ref hd, .int (nI c), .int t, .int (nI y)])), (hw, .inl (cI, 6, .inl fW)), (hd, .inl (cI, 6, .inl fD))] sz) := by
  refine Met.ofW (cc := cX0_finedAt) (maxL := 3) (ret := (some .int)) (by decide +kernel) rfl ?_
  intro p e s m args below meth c9 s₁ B hml hv
  obtain ⟨rfl, hsz, hP, hD0, hC⟩ := hv
  have hx := B.exec
  have hb := B.bytes
  have hr := B.returns
  have hts := atoms_spec (ws := wsX0_finedAt) B.pre
  have hown : s.vm.findClass RX0 = some m.cls := findClass_of_methodNamed B.named
  have hlocks := B.notSynchronized
  have hK : va_K D vwCl [(cI, .int), (cJ, .long), (cR, .array .int)] s := hC
  subst hsz
  unfold wri wB
  have hD := hD0.self (sz := s.heap.size)
  generalize hAe : va_A [(h, .inr (0, [.ref hw, .ref hd, .int (nI c), .int t, .int (nI y)])), (hw, .inl (cI, 6, .inl fW)), (hd, .inl (cI, 6, .inl fD))] s.heap.size = A at hD ⊢
  have hA : ∀ q : Nat, s.heap.size ≤ q → A q := fun q h => by rw [← hAe]; exact Or.inr h
  have hS : va_S A s.heap s.heap [] := va_S.rf
  have hl := lv_entry ([.ref h, .int (-1)]) (n := 3) (Nat.le_of_ble_eq_true rfl)
  rw [lg_entry_eq]
  generalize (lg_sl ([.ref h, .int (-1)]) ++ List.replicate (3 - (lg_sl ([.ref h, .int (-1)])).length) Slot.unset).toArray = ls at hl ⊢
  have hl : lv_has ls 3 [(0, .ref h), (1, .int (-1))] := hl
  have hiX0 : ∀ w ∈ u_ws RX0 TX0 5, w ∈ wsX0_finedAt := by decide +kernel
  have hw15 : (Cond.fieldLink RX0 15 "OldMeasures$Stalls" "drifts" "[I").before ([.ref h, .int (-1)] : List Value).toArray s = true := hts _ (by decide +kernel)
  have hw22 : (Cond.fieldLink RX0 22 "OldMeasures$Stalls" "count" "I").before ([.ref h, .int (-1)] : List Value).toArray s = true := hts _ (by decide +kernel)
  refine lv_iload_n hx hb dX0_finedAt_0 rfl (lv_at hl 1 rfl) ?_
  refine lv_if_lt (tgt := 25) hx hb dX0_finedAt_1 (by decide) (fun c_1 => ?_) (fun c_1 => ?_)
  · skip
    refine lv_iconst (v := 0) hx hb dX0_finedAt_25 (by decide) ?_
    exact W.iret (v := 0) hx hb hr (fun t9 ht hW => ⟨⟨0, [(h, .inr (0, [.ref hw, .ref hd, .int (nI c), .int t, .int (nI y)])), (hw, .inl (cI, 6, .inl fW)), (hd, .inl (cI, 6, .inl fD))], rfl, ⟨rfl, rfl⟩, by rw [ht]; exact hP, hD⟩, hS.F ht⟩) hS.2.2 dX0_finedAt_26
  · skip
    exact absurd (by decide) c_1

set_option maxHeartbeats 4000000 in
set_option maxRecDepth 100000 in
theorem c_X0_finedAt_j (l : Launch) (D : va_G) (cI cJ cR : ClassId) (sz : Nat) (h hw hd : Nat) (c : Nat) (t : Int32) (y : Nat) (fW fD : Nat → Int32) (hc : c ≤ 6) (j : Nat) (hj : j < c) : Met l yX0_finedAt wsX0_finedAt ({ frames := 2, cells := 0, slots := 0, locals := 34 }) (cPw D [(h, .inr (0, [.ref hw, .ref hd, .int (nI c), .int t, .int (nI y)])), (hw, .inl (cI, 6, .inl fW)), (hd, .inl (cI, 6, .inl fD))] sz (KM D cI cJ cR) [.ref h, .int (nI j)]) (wri D [(h, .inr (0, [.ref hw, .ref hd, .int (nI c), .int t, .int (nI y)])), (hw, .inl (cI, 6, .inl fW)), (hd, .inl (cI, 6, .inl fD))] sz (fun r ws' => r = ic ((absI (fD j)).toInt ≤ t.toInt) 0 (absI (fD j)) ∧ ws' = [(h, .inr (0, [.ref hw, .ref hd, .int (nI c), .int t, .int (nI y)])), (hw, .inl (cI, 6, .inl fW)), (hd, .inl (cI, 6, .inl (ic ((absI (fD j)).toInt ≤ t.toInt) fD (upd fD j 0))))])) 0 0 (va_A [(h, .inr (0, [.ref hw, .ref hd, .int (nI c), .int t, .int (nI y)])), (hw, .inl (cI, 6, .inl fW)), (hd, .inl (cI, 6, .inl fD))] sz) := by
  refine Met.ofW (cc := cX0_finedAt) (maxL := 3) (ret := (some .int)) (by decide +kernel) rfl ?_
  intro p e s m args below meth c9 s₁ B hml hv
  obtain ⟨rfl, hsz, hP, hD0, hC⟩ := hv
  have hx := B.exec
  have hb := B.bytes
  have hr := B.returns
  have hts := atoms_spec (ws := wsX0_finedAt) B.pre
  have hown : s.vm.findClass RX0 = some m.cls := findClass_of_methodNamed B.named
  have hlocks := B.notSynchronized
  have hK : va_K D vwCl [(cI, .int), (cJ, .long), (cR, .array .int)] s := hC
  subst hsz
  unfold wri wB
  have hD := hD0.self (sz := s.heap.size)
  generalize hAe : va_A [(h, .inr (0, [.ref hw, .ref hd, .int (nI c), .int t, .int (nI y)])), (hw, .inl (cI, 6, .inl fW)), (hd, .inl (cI, 6, .inl fD))] s.heap.size = A at hD ⊢
  have hA : ∀ q : Nat, s.heap.size ≤ q → A q := fun q h => by rw [← hAe]; exact Or.inr h
  have hS : va_S A s.heap s.heap [] := va_S.rf
  have hl := lv_entry ([.ref h, .int (nI j)]) (n := 3) (Nat.le_of_ble_eq_true rfl)
  rw [lg_entry_eq]
  generalize (lg_sl ([.ref h, .int (nI j)]) ++ List.replicate (3 - (lg_sl ([.ref h, .int (nI j)])).length) Slot.unset).toArray = ls at hl ⊢
  have hl : lv_has ls 3 [(0, .ref h), (1, .int (nI j))] := hl
  have hiX0 : ∀ w ∈ u_ws RX0 TX0 5, w ∈ wsX0_finedAt := by decide +kernel
  have hw15 : (Cond.fieldLink RX0 15 "OldMeasures$Stalls" "drifts" "[I").before ([.ref h, .int (nI j)] : List Value).toArray s = true := hts _ (by decide +kernel)
  have hw22 : (Cond.fieldLink RX0 22 "OldMeasures$Stalls" "count" "I").before ([.ref h, .int (nI j)] : List Value).toArray s = true := hts _ (by decide +kernel)
  refine lv_iload_n hx hb dX0_finedAt_0 rfl (lv_at hl 1 rfl) ?_
  refine lv_if_lt (tgt := 25) hx hb dX0_finedAt_1 (by decide) (fun c_1 => ?_) (fun c_1 => ?_)
  · skip
    simp only [Int32.lt_iff_toInt_lt] at c_1
    rw [nI_toInt (n := j) (by omega)] at c_1
    rw [(by decide : (0 : Int32).toInt = 0)] at c_1
    exfalso; omega
  · skip
    simp only [Int32.lt_iff_toInt_lt] at c_1
    rw [nI_toInt (n := j) (by omega)] at c_1
    rw [(by decide : (0 : Int32).toInt = 0)] at c_1
    refine lv_iload_n hx hb dX0_finedAt_4 rfl (lv_at hl 1 rfl) ?_
    refine lv_aload_n hx hb dX0_finedAt_5 rfl (lv_at hl 0 rfl) ?_
    refine va_get (D := D) (ci := 0) (v := .int (nI c)) (C := RX0) (T := TX0) (N := 5) hx hb hts hiX0 hown hK hP 0 rfl rfl 2 (by decide) hw22 (fun _ h9 => h9) rfl dX0_finedAt_6 ?_
    refine lv_icmp_ge (tgt := 25) hx hb dX0_finedAt_9 (by decide) (fun c_9 => ?_) (fun c_9 => ?_)
    · skip
      simp only [Int32.le_iff_toInt_le] at c_9
      rw [nI_toInt (n := j) (by omega)] at c_9
      rw [nI_toInt (n := c) (by omega)] at c_9
      exfalso; omega
    · skip
      simp only [Int32.le_iff_toInt_le] at c_9
      rw [nI_toInt (n := j) (by omega)] at c_9
      rw [nI_toInt (n := c) (by omega)] at c_9
      refine lv_aload_n hx hb dX0_finedAt_12 rfl (lv_at hl 0 rfl) ?_
      refine lv_aload_n hx hb dX0_finedAt_13 rfl (lv_at hl 0 rfl) ?_
      refine va_get (D := D) (ci := 0) (v := .ref hd) (C := RX0) (T := TX0) (N := 5) hx hb hts hiX0 hown hK hP 0 rfl rfl 1 (by decide) hw15 (fun _ h9 => h9) rfl dX0_finedAt_14 ?_
      refine lv_iload_n hx hb dX0_finedAt_17 rfl (lv_at hl 1 rfl) ?_
      refine xa_iald hx hb hK hP 2 0 rfl rfl (by omega) (by decide) dX0_finedAt_18 ?_
      refine ro_iE (va_runV (As := [.int (fD j)]) (rest := []) ⟨hx, hb, hml, hown, hts⟩ (c_X0_isTolerated l D cI cJ cR h hw hd c t y fW fD (fD j)) (cwV 1 hts gX0_finedAt_X0_isTolerated rfl rfl rfl (by decide +kernel) ⟨Nat.le_of_ble_eq_true rfl, Nat.le_of_ble_eq_true rfl⟩) (preV_ro KM_ok (hP.sub (ws' := [(h, .inr (0, [.ref hw, .ref hd, .int (nI c), .int t, .int (nI y)])), (hw, .inl (cI, 6, .inl fW)), (hd, .inl (cI, 6, .inl fD))]) [0, 1, 2] rfl) hK (va_recv hK hP (ci := 0) (q0 := 0) rfl rfl)) rfl rfl hl.1 rfl (lv_room (Nat.le_of_ble_eq_true rfl)) dX0_finedAt_19 ⟨by decide, by decide⟩) ?_
      refine lv_if_eq (tgt := 27) hx hb dX0_finedAt_22 (by decide) (fun c_22 => ?_) (fun c_22 => ?_)
      · skip
        have c_22 := bz_0 c_22
        refine lv_aload_n hx hb dX0_finedAt_27 rfl (lv_at hl 0 rfl) ?_
        refine va_get (D := D) (ci := 0) (v := .ref hd) (C := RX0) (T := TX0) (N := 5) hx hb hts hiX0 hown hK hP 0 rfl rfl 1 (by decide) hw15 (fun _ h9 => h9) rfl dX0_finedAt_28 ?_
        refine lv_iload_n hx hb dX0_finedAt_31 rfl (lv_at hl 1 rfl) ?_
        refine xa_iald hx hb hK hP 2 0 rfl rfl (by omega) (by decide) dX0_finedAt_32 ?_
        refine va_mabs hx hb (by rw [hml]; exact hl.1.symm) hown (hts (.methodLink RX0 52 Lib.Math.abs.name) (by decide +kernel)) (hts (.static Lib.Math.abs.name) (by decide +kernel)) (hts (.initialized "java/lang/Math") (by decide +kernel)) (hts (.code Lib.Math.abs.name Lib.Math.abs.code 1 (some .int)) (by decide +kernel)) (by first | decide | exact Nat.le_of_ble_eq_true rfl) (by first | decide | exact Nat.le_of_ble_eq_true rfl) (by first | decide | exact Nat.le_of_ble_eq_true rfl) (by first | decide | exact Nat.le_of_ble_eq_true rfl) dX0_finedAt_33 ?_
        refine topI (y := absI (fD j)) rfl ?_
        refine lv_istore_n (lv' := [(2, .int (absI (fD j))), (0, .ref h), (1, .int (nI j))]) hx hb dX0_finedAt_36 rfl hl (by decide) rfl (fun ls hl => ?_)
        refine lv_aload_n hx hb dX0_finedAt_37 rfl (lv_at hl 1 rfl) ?_
        refine va_get (D := D) (ci := 0) (v := .ref hd) (C := RX0) (T := TX0) (N := 5) hx hb hts hiX0 hown hK hP 0 rfl rfl 1 (by decide) hw15 (fun _ h9 => h9) rfl dX0_finedAt_38 ?_
        refine lv_iload_n hx hb dX0_finedAt_41 rfl (lv_at hl 2 rfl) ?_
        refine lv_iconst (v := 0) hx hb dX0_finedAt_42 (by decide) ?_
        refine xa_iast hx hb hK hP hD hS 2 0 rfl rfl (by omega) (by decide) dX0_finedAt_43 (fun H locs hP hD hS => ?_)
        have hP : va_P D vwCl [(h, .inr (0, [.ref hw, .ref hd, .int (nI c), .int t, .int (nI y)])), (hw, .inl (cI, 6, .inl fW)), (hd, .inl (cI, 6, .inl (upd fD j 0)))] H := hP
        have hD : va_D A [(h, .inr (0, [.ref hw, .ref hd, .int (nI c), .int t, .int (nI y)])), (hw, .inl (cI, 6, .inl fW)), (hd, .inl (cI, 6, .inl (upd fD j 0)))] := hD
        refine lv_iload_n hx hb dX0_finedAt_44 rfl (lv_at hl 0 rfl) ?_
        exact W.iret (v := (absI (fD j))) hx hb hr (fun t9 ht hW => ⟨⟨(absI (fD j)), [(h, .inr (0, [.ref hw, .ref hd, .int (nI c), .int t, .int (nI y)])), (hw, .inl (cI, 6, .inl fW)), (hd, .inl (cI, 6, .inl (upd fD j 0)))], rfl, ⟨(ic_f c_22).symm, by rw [ic_f c_22]⟩, by rw [ht]; exact hP, hD⟩, hS.F ht⟩) hS.2.2 dX0_finedAt_45
      · skip
        have c_22 := bz_1 c_22
        refine lv_iconst (v := 0) hx hb dX0_finedAt_25 (by decide) ?_
        exact W.iret (v := 0) hx hb hr (fun t9 ht hW => ⟨⟨0, [(h, .inr (0, [.ref hw, .ref hd, .int (nI c), .int t, .int (nI y)])), (hw, .inl (cI, 6, .inl fW)), (hd, .inl (cI, 6, .inl fD))], rfl, ⟨(ic_t c_22).symm, by rw [ic_t c_22]⟩, by rw [ht]; exact hP, hD⟩, hS.F ht⟩) hS.2.2 dX0_finedAt_26

set_option maxHeartbeats 4000000 in
set_option maxRecDepth 100000 in
theorem c_X0_coinsPaidNextDay (l : Launch) (D : va_G) (cI cJ cR : ClassId) (sz : Nat) (h hw hd : Nat) (c : Nat) (t : Int32) (y : Nat) (fW fD : Nat → Int32) (hc : c ≤ 6) (hy : y < 2 ^ 29) : Met l yX0_coinsPaidNextDay wsX0_coinsPaidNextDay ({ frames := 3, cells := 0, slots := 0, locals := 56 }) (cPw D [(h, .inr (0, [.ref hw, .ref hd, .int (nI c), .int t, .int (nI y)])), (hw, .inl (cI, 6, .inl fW)), (hd, .inl (cI, 6, .inl fD))] sz (KM D cI cJ cR) [.ref h]) (wri D [(h, .inr (0, [.ref hw, .ref hd, .int (nI c), .int t, .int (nI y)])), (hw, .inl (cI, 6, .inl fW)), (hd, .inl (cI, 6, .inl fD))] sz (fun r ws' => r = dFine c t y fW fD ∧ ws' = [(h, .inr (0, [.ref hw, .ref hd, .int (nI c), .int t, .int (nI (y + 1))])), (hw, .inl (cI, 6, .inl fW)), (hd, .inl (cI, 6, .inl (dDr c t y fW fD)))])) 0 0 (va_A [(h, .inr (0, [.ref hw, .ref hd, .int (nI c), .int t, .int (nI y)])), (hw, .inl (cI, 6, .inl fW)), (hd, .inl (cI, 6, .inl fD))] sz) := by
  refine Met.ofW (cc := cX0_coinsPaidNextDay) (maxL := 2) (ret := (some .int)) (by decide +kernel) rfl ?_
  intro p e s m args below meth c9 s₁ B hml hv
  obtain ⟨rfl, hsz, hP, hD0, hC⟩ := hv
  have hx := B.exec
  have hb := B.bytes
  have hr := B.returns
  have hts := atoms_spec (ws := wsX0_coinsPaidNextDay) B.pre
  have hown : s.vm.findClass RX0 = some m.cls := findClass_of_methodNamed B.named
  have hlocks := B.notSynchronized
  have hK : va_K D vwCl [(cI, .int), (cJ, .long), (cR, .array .int)] s := hC
  subst hsz
  unfold wri wB
  have hD := hD0.self (sz := s.heap.size)
  generalize hAe : va_A [(h, .inr (0, [.ref hw, .ref hd, .int (nI c), .int t, .int (nI y)])), (hw, .inl (cI, 6, .inl fW)), (hd, .inl (cI, 6, .inl fD))] s.heap.size = A at hD ⊢
  have hA : ∀ q : Nat, s.heap.size ≤ q → A q := fun q h => by rw [← hAe]; exact Or.inr h
  have hS : va_S A s.heap s.heap [] := va_S.rf
  have hl := lv_entry ([.ref h]) (n := 2) (Nat.le_of_ble_eq_true rfl)
  rw [lg_entry_eq]
  generalize (lg_sl ([.ref h]) ++ List.replicate (2 - (lg_sl ([.ref h])).length) Slot.unset).toArray = ls at hl ⊢
  have hl : lv_has ls 2 [(0, .ref h)] := hl
  have hiX0 : ∀ w ∈ u_ws RX0 TX0 5, w ∈ wsX0_coinsPaidNextDay := by decide +kernel
  have hw9 : (Cond.fieldLink RX0 9 "OldMeasures$Stalls" "wears" "[I").before ([.ref h] : List Value).toArray s = true := hts _ (by decide +kernel)
  have hw15 : (Cond.fieldLink RX0 15 "OldMeasures$Stalls" "drifts" "[I").before ([.ref h] : List Value).toArray s = true := hts _ (by decide +kernel)
  have hw22 : (Cond.fieldLink RX0 22 "OldMeasures$Stalls" "count" "I").before ([.ref h] : List Value).toArray s = true := hts _ (by decide +kernel)
  have hw25 : (Cond.fieldLink RX0 25 "OldMeasures$Stalls" "day" "I").before ([.ref h] : List Value).toArray s = true := hts _ (by decide +kernel)
  refine lv_iconst (v := 0) hx hb dX0_coinsPaidNextDay_0 (by decide) ?_
  refine lv_istore_n (lv' := [(1, .int 0), (0, .ref h)]) hx hb dX0_coinsPaidNextDay_1 rfl hl (by decide) rfl (fun ls hl => ?_)
  have hP : va_P D vwCl [(h, .inr (0, [.ref hw, .ref hd, .int (nI c), .int t, .int (nI y)])), (hw, .inl (cI, 6, .inl fW)), (hd, .inl (cI, 6, .inl (hdD fW fD 0)))] s.heap := by rw [hdD_0]; exact hP
  have hD : va_D A [(h, .inr (0, [.ref hw, .ref hd, .int (nI c), .int t, .int (nI y)])), (hw, .inl (cI, 6, .inl fW)), (hd, .inl (cI, 6, .inl (hdD fW fD 0)))] := by rw [hdD_0]; exact hD
  refine loopW (σ := Unit) (I := fun i x H locs ls => lv_has ls 2 [(0, .ref h), (1, .int (nI i))] ∧ va_P D vwCl [(h, .inr (0, [.ref hw, .ref hd, .int (nI c), .int t, .int (nI y)])), (hw, .inl (cI, 6, .inl fW)), (hd, .inl (cI, 6, .inl (hdD fW fD i)))] H ∧ va_D A [(h, .inr (0, [.ref hw, .ref hd, .int (nI c), .int t, .int (nI y)])), (hw, .inl (cI, 6, .inl fW)), (hd, .inl (cI, 6, .inl (hdD fW fD i)))] ∧ va_S A s.heap H locs) c ?_ 0 () _ _ ls (by omega) ⟨lv_sub hl [1, 0] rfl, hP, hD, hS⟩
  intro i x H locs ls hi hI kk
  obtain ⟨hl, hP, hD, hS⟩ := hI
  refine lv_iload_n hx hb dX0_coinsPaidNextDay_2 rfl (lv_at hl 1 rfl) ?_
  refine lv_aload_n hx hb dX0_coinsPaidNextDay_3 rfl (lv_at hl 0 rfl) ?_
  refine va_get (D := D) (ci := 0) (v := .int (nI c)) (C := RX0) (T := TX0) (N := 5) hx hb hts hiX0 hown hK hP 0 rfl rfl 2 (by decide) hw22 (fun _ h9 => h9) rfl dX0_coinsPaidNextDay_4 ?_
  refine lv_icmp_ge (tgt := 38) hx hb dX0_coinsPaidNextDay_7 (by decide) (fun c_7 => ?_) (fun c_7 => ?_)
  · skip
    simp only [Int32.le_iff_toInt_le] at c_7
    rw [nI_toInt (n := i) (by omega)] at c_7
    rw [nI_toInt (n := c) (by omega)] at c_7
    have e9 : c = i := by omega
    subst e9
    refine lv_aload_n hx hb dX0_coinsPaidNextDay_38 rfl (lv_at hl 0 rfl) ?_
    refine lv_aload_n hx hb dX0_coinsPaidNextDay_39 rfl (lv_at hl 0 rfl) ?_
    refine ro_iE (va_runV (As := []) (rest := [.ref h]) ⟨hx, hb, hml, hown, hts⟩ (c_X0_visited l D cI cJ cR h hw hd c t y fW (hdD fW fD c) (by omega) (by omega)) (cwV 0 hts gX0_coinsPaidNextDay_X0_visited rfl rfl rfl (by decide +kernel) ⟨Nat.le_of_ble_eq_true rfl, Nat.le_of_ble_eq_true rfl⟩) (preV_ro KM_ok (hP.sub (ws' := [(h, .inr (0, [.ref hw, .ref hd, .int (nI c), .int t, .int (nI y)])), (hw, .inl (cI, 6, .inl fW)), (hd, .inl (cI, 6, .inl (hdD fW fD c)))]) [0, 1, 2] rfl) hK (va_recv hK hP (ci := 0) (q0 := 0) rfl rfl)) rfl rfl hl.1 rfl (lv_room (Nat.le_of_ble_eq_true rfl)) dX0_coinsPaidNextDay_40 ⟨by decide, by decide⟩) ?_
    by_cases hc0 : c = 0
    · skip
      refine topI (ic_t hc0) ?_
      have hFc := va_free (wc := [(h, .inr (0, [.ref hw, .ref hd, .int (nI c), .int t, .int (nI y)])), (hw, .inl (cI, 6, .inl fW)), (hd, .inl (cI, 6, .inl (hdD fW fD c)))]) hD hS hA [0, 1, 2] rfl
      refine va_calli (va_runV (As := [.int (-1)]) (rest := []) ⟨hx, hb, hml, hown, hts⟩ (c_X0_finedAt_n l D cI cJ cR H.size h hw hd c t y fW (hdD fW fD c) (by omega)) (cwV 1 hts gX0_coinsPaidNextDay_X0_finedAt rfl rfl rfl (by decide +kernel) ⟨Nat.le_of_ble_eq_true rfl, Nat.le_of_ble_eq_true rfl⟩) (preV_wr KM_ok (hP.sub (ws' := [(h, .inr (0, [.ref hw, .ref hd, .int (nI c), .int t, .int (nI y)])), (hw, .inl (cI, 6, .inl fW)), (hd, .inl (cI, 6, .inl (hdD fW fD c)))]) [0, 1, 2] rfl) (hD.sub (ws' := [(h, .inr (0, [.ref hw, .ref hd, .int (nI c), .int t, .int (nI y)])), (hw, .inl (cI, 6, .inl fW)), (hd, .inl (cI, 6, .inl (hdD fW fD c)))]) [0, 1, 2] (by decide) rfl) hK (va_recv hK hP (ci := 0) (q0 := 0) rfl rfl)) rfl rfl hl.1 rfl (lv_room (Nat.le_of_ble_eq_true rfl)) dX0_coinsPaidNextDay_43 ⟨by decide, by decide⟩) hS (fun q _ h => hFc q h) hFc (fun r_43 u t9 H1 locs ht hvm hw9 hB hz1 hk1 hS => ?_)
      obtain ⟨hr9, rfl⟩ := hw9
      have hr9 := hr9.symm
      subst hr9
      obtain ⟨hP1, hD1⟩ := hB
      rw [ht] at hP1
      obtain ⟨hP, hD⟩ := va_join (wr := []) (w1 := [(h, .inr (0, [.ref hw, .ref hd, .int (nI c), .int t, .int (nI y)])), (hw, .inl (cI, 6, .inl fW)), (hd, .inl (cI, 6, .inl (hdD fW fD c)))]) hP hD [0, 1, 2] [] rfl rfl (by decide) (by decide) hk1 hFc hP1 hD1
      clear hz1 hk1 ht hvm hFc
      generalize H1 = H at hP hS ⊢
      have hP : va_P D vwCl [(h, .inr (0, [.ref hw, .ref hd, .int (nI c), .int t, .int (nI y)])), (hw, .inl (cI, 6, .inl fW)), (hd, .inl (cI, 6, .inl (hdD fW fD c)))] H := hP
      have hD : va_D A [(h, .inr (0, [.ref hw, .ref hd, .int (nI c), .int t, .int (nI y)])), (hw, .inl (cI, 6, .inl fW)), (hd, .inl (cI, 6, .inl (hdD fW fD c)))] := hD
      refine lv_istore_n (lv' := [(1, .int 0), (0, .ref h)]) hx hb dX0_coinsPaidNextDay_46 rfl hl (by decide) rfl (fun ls hl => ?_)
      refine lv_aload_n hx hb dX0_coinsPaidNextDay_47 rfl (lv_at hl 1 rfl) ?_
      refine lv_dup hx hb dX0_coinsPaidNextDay_48 rfl ?_
      refine va_get (D := D) (ci := 0) (v := .int (nI y)) (C := RX0) (T := TX0) (N := 5) hx hb hts hiX0 hown hK hP 0 rfl rfl 4 (by decide) hw25 (fun _ h9 => h9) rfl dX0_coinsPaidNextDay_49 ?_
      refine lv_iconst (v := 1) hx hb dX0_coinsPaidNextDay_52 (by decide) ?_
      refine lv_iadd hx hb dX0_coinsPaidNextDay_53 ?_
      refine topI (nI_1 y) ?_
      refine va_put (D := D) (ci := 0) (v := .int (nI (y + 1))) (ty := .int) (C := RX0) (T := TX0) (N := 5) hx hb hts hiX0 tyX0 tyX0_ok nmX0 hown hK hP hD hS 0 rfl rfl 4 (by decide) hw25 (fun _ h9 => h9) rfl (by decide +kernel) rfl rfl (Nat.le_of_ble_eq_true rfl) dX0_coinsPaidNextDay_54 (fun H locs hP hD hS => ?_)
      have hP : va_P D vwCl [(h, .inr (0, [.ref hw, .ref hd, .int (nI c), .int t, .int (nI (y + 1))])), (hw, .inl (cI, 6, .inl fW)), (hd, .inl (cI, 6, .inl (hdD fW fD c)))] H := hP
      have hD : va_D A [(h, .inr (0, [.ref hw, .ref hd, .int (nI c), .int t, .int (nI (y + 1))])), (hw, .inl (cI, 6, .inl fW)), (hd, .inl (cI, 6, .inl (hdD fW fD c)))] := hD
      refine lv_iload_n hx hb dX0_coinsPaidNextDay_57 rfl (lv_at hl 0 rfl) ?_
      exact W.iret (v := 0) hx hb hr (fun t9 ht hW => ⟨⟨0, [(h, .inr (0, [.ref hw, .ref hd, .int (nI c), .int t, .int (nI (y + 1))])), (hw, .inl (cI, 6, .inl fW)), (hd, .inl (cI, 6, .inl (hdD fW fD c)))], rfl, ⟨(dFine_n hc0).symm, by rw [dDr_n hc0]⟩, by rw [ht]; exact hP, hD⟩, hS.F ht⟩) hS.2.2 dX0_coinsPaidNextDay_58
    · skip
      refine topI (ic_f hc0) ?_
      have hFc := va_free (wc := [(h, .inr (0, [.ref hw, .ref hd, .int (nI c), .int t, .int (nI y)])), (hw, .inl (cI, 6, .inl fW)), (hd, .inl (cI, 6, .inl (hdD fW fD c)))]) hD hS hA [0, 1, 2] rfl
      refine va_calli (va_runV (As := [.int (nI (y % c))]) (rest := []) ⟨hx, hb, hml, hown, hts⟩ (c_X0_finedAt_j l D cI cJ cR H.size h hw hd c t y fW (hdD fW fD c) (by omega) (y % c) (Nat.mod_lt _ (by omega))) (cwV 1 hts gX0_coinsPaidNextDay_X0_finedAt rfl rfl rfl (by decide +kernel) ⟨Nat.le_of_ble_eq_true rfl, Nat.le_of_ble_eq_true rfl⟩) (preV_wr KM_ok (hP.sub (ws' := [(h, .inr (0, [.ref hw, .ref hd, .int (nI c), .int t, .int (nI y)])), (hw, .inl (cI, 6, .inl fW)), (hd, .inl (cI, 6, .inl (hdD fW fD c)))]) [0, 1, 2] rfl) (hD.sub (ws' := [(h, .inr (0, [.ref hw, .ref hd, .int (nI c), .int t, .int (nI y)])), (hw, .inl (cI, 6, .inl fW)), (hd, .inl (cI, 6, .inl (hdD fW fD c)))]) [0, 1, 2] (by decide) rfl) hK (va_recv hK hP (ci := 0) (q0 := 0) rfl rfl)) rfl rfl hl.1 rfl (lv_room (Nat.le_of_ble_eq_true rfl)) dX0_coinsPaidNextDay_43 ⟨by decide, by decide⟩) hS (fun q _ h => hFc q h) hFc (fun r_43 u t9 H1 locs ht hvm hw9 hB hz1 hk1 hS => ?_)
      obtain ⟨hr9, rfl⟩ := hw9
      have hr9 := hr9.symm
      subst hr9
      obtain ⟨hP1, hD1⟩ := hB
      rw [ht] at hP1
      obtain ⟨hP, hD⟩ := va_join (wr := []) (w1 := [(h, .inr (0, [.ref hw, .ref hd, .int (nI c), .int t, .int (nI y)])), (hw, .inl (cI, 6, .inl fW)), (hd, .inl (cI, 6, .inl (ic ((absI ((hdD fW fD c) (y % c))).toInt ≤ t.toInt) (hdD fW fD c) (upd (hdD fW fD c) (y % c) 0))))]) hP hD [0, 1, 2] [] rfl rfl (by decide) (by decide) hk1 hFc hP1 hD1
      clear hz1 hk1 ht hvm hFc
      generalize H1 = H at hP hS ⊢
      have hP : va_P D vwCl [(h, .inr (0, [.ref hw, .ref hd, .int (nI c), .int t, .int (nI y)])), (hw, .inl (cI, 6, .inl fW)), (hd, .inl (cI, 6, .inl (ic ((absI ((hdD fW fD c) (y % c))).toInt ≤ t.toInt) (hdD fW fD c) (upd (hdD fW fD c) (y % c) 0))))] H := hP
      have hD : va_D A [(h, .inr (0, [.ref hw, .ref hd, .int (nI c), .int t, .int (nI y)])), (hw, .inl (cI, 6, .inl fW)), (hd, .inl (cI, 6, .inl (ic ((absI ((hdD fW fD c) (y % c))).toInt ≤ t.toInt) (hdD fW fD c) (upd (hdD fW fD c) (y % c) 0))))] := hD
      refine lv_istore_n (lv' := [(1, .int (ic ((absI ((hdD fW fD c) (y % c))).toInt ≤ t.toInt) 0 (absI ((hdD fW fD c) (y % c))))), (0, .ref h)]) hx hb dX0_coinsPaidNextDay_46 rfl hl (by decide) rfl (fun ls hl => ?_)
      refine lv_aload_n hx hb dX0_coinsPaidNextDay_47 rfl (lv_at hl 1 rfl) ?_
      refine lv_dup hx hb dX0_coinsPaidNextDay_48 rfl ?_
      refine va_get (D := D) (ci := 0) (v := .int (nI y)) (C := RX0) (T := TX0) (N := 5) hx hb hts hiX0 hown hK hP 0 rfl rfl 4 (by decide) hw25 (fun _ h9 => h9) rfl dX0_coinsPaidNextDay_49 ?_
      refine lv_iconst (v := 1) hx hb dX0_coinsPaidNextDay_52 (by decide) ?_
      refine lv_iadd hx hb dX0_coinsPaidNextDay_53 ?_
      refine topI (nI_1 y) ?_
      refine va_put (D := D) (ci := 0) (v := .int (nI (y + 1))) (ty := .int) (C := RX0) (T := TX0) (N := 5) hx hb hts hiX0 tyX0 tyX0_ok nmX0 hown hK hP hD hS 0 rfl rfl 4 (by decide) hw25 (fun _ h9 => h9) rfl (by decide +kernel) rfl rfl (Nat.le_of_ble_eq_true rfl) dX0_coinsPaidNextDay_54 (fun H locs hP hD hS => ?_)
      have hP : va_P D vwCl [(h, .inr (0, [.ref hw, .ref hd, .int (nI c), .int t, .int (nI (y + 1))])), (hw, .inl (cI, 6, .inl fW)), (hd, .inl (cI, 6, .inl (ic ((absI ((hdD fW fD c) (y % c))).toInt ≤ t.toInt) (hdD fW fD c) (upd (hdD fW fD c) (y % c) 0))))] H := hP
      have hD : va_D A [(h, .inr (0, [.ref hw, .ref hd, .int (nI c), .int t, .int (nI (y + 1))])), (hw, .inl (cI, 6, .inl fW)), (hd, .inl (cI, 6, .inl (ic ((absI ((hdD fW fD c) (y % c))).toInt ≤ t.toInt) (hdD fW fD c) (upd (hdD fW fD c) (y % c) 0))))] := hD
      refine lv_iload_n hx hb dX0_coinsPaidNextDay_57 rfl (lv_at hl 0 rfl) ?_
      exact W.iret (v := (ic ((absI ((hdD fW fD c) (y % c))).toInt ≤ t.toInt) 0 (absI ((hdD fW fD c) (y % c))))) hx hb hr (fun t9 ht hW => ⟨⟨(ic ((absI ((hdD fW fD c) (y % c))).toInt ≤ t.toInt) 0 (absI ((hdD fW fD c) (y % c)))), [(h, .inr (0, [.ref hw, .ref hd, .int (nI c), .int t, .int (nI (y + 1))])), (hw, .inl (cI, 6, .inl fW)), (hd, .inl (cI, 6, .inl (ic ((absI ((hdD fW fD c) (y % c))).toInt ≤ t.toInt) (hdD fW fD c) (upd (hdD fW fD c) (y % c) 0))))], rfl, ⟨(dFine_j hc0).symm, by rw [dDr_j hc0]⟩, by rw [ht]; exact hP, hD⟩, hS.F ht⟩) hS.2.2 dX0_coinsPaidNextDay_58
  · skip
    simp only [Int32.le_iff_toInt_le] at c_7
    rw [nI_toInt (n := i) (by omega)] at c_7
    rw [nI_toInt (n := c) (by omega)] at c_7
    refine lv_aload_n hx hb dX0_coinsPaidNextDay_10 rfl (lv_at hl 0 rfl) ?_
    refine va_get (D := D) (ci := 0) (v := .ref hd) (C := RX0) (T := TX0) (N := 5) hx hb hts hiX0 hown hK hP 0 rfl rfl 1 (by decide) hw15 (fun _ h9 => h9) rfl dX0_coinsPaidNextDay_11 ?_
    refine lv_iload_n hx hb dX0_coinsPaidNextDay_14 rfl (lv_at hl 1 rfl) ?_
    refine lv_aload_n hx hb dX0_coinsPaidNextDay_15 rfl (lv_at hl 0 rfl) ?_
    refine va_get (D := D) (ci := 0) (v := .ref hd) (C := RX0) (T := TX0) (N := 5) hx hb hts hiX0 hown hK hP 0 rfl rfl 1 (by decide) hw15 (fun _ h9 => h9) rfl dX0_coinsPaidNextDay_16 ?_
    refine lv_iload_n hx hb dX0_coinsPaidNextDay_19 rfl (lv_at hl 1 rfl) ?_
    refine xa_iald hx hb hK hP 2 0 rfl rfl (by omega) (by decide) dX0_coinsPaidNextDay_20 ?_
    refine lv_aload_n hx hb dX0_coinsPaidNextDay_21 rfl (lv_at hl 0 rfl) ?_
    refine va_get (D := D) (ci := 0) (v := .ref hw) (C := RX0) (T := TX0) (N := 5) hx hb hts hiX0 hown hK hP 0 rfl rfl 0 (by decide) hw9 (fun _ h9 => h9) rfl dX0_coinsPaidNextDay_22 ?_
    refine lv_iload_n hx hb dX0_coinsPaidNextDay_25 rfl (lv_at hl 1 rfl) ?_
    refine xa_iald hx hb hK hP 1 0 rfl rfl (by omega) (by decide) dX0_coinsPaidNextDay_26 ?_
    refine lv_iadd hx hb dX0_coinsPaidNextDay_27 ?_
    refine ro_iE (va_runS (As := [.int (((hdD fW fD i) i) + (fW i))]) (rest := [.int (nI i), .ref hd]) ⟨hx, hb, hml, hown, hts⟩ (c_X0_held l (((hdD fW fD i) i) + (fW i))) (va_cwS 1 hts gX0_coinsPaidNextDay_X0_held rfl rfl rfl (by decide +kernel) ⟨Nat.le_of_ble_eq_true rfl, Nat.le_of_ble_eq_true rfl⟩) pre0 rfl rfl hl.1 rfl (lv_room (Nat.le_of_ble_eq_true rfl)) dX0_coinsPaidNextDay_28 ⟨by decide, by decide⟩) ?_
    refine xa_iast hx hb hK hP hD hS 2 0 rfl rfl (by omega) (by decide) dX0_coinsPaidNextDay_31 (fun H locs hP hD hS => ?_)
    have hP : va_P D vwCl [(h, .inr (0, [.ref hw, .ref hd, .int (nI c), .int t, .int (nI y)])), (hw, .inl (cI, 6, .inl fW)), (hd, .inl (cI, 6, .inl (upd (hdD fW fD i) i (hld (((hdD fW fD i) i) + (fW i))))))] H := hP
    have hD : va_D A [(h, .inr (0, [.ref hw, .ref hd, .int (nI c), .int t, .int (nI y)])), (hw, .inl (cI, 6, .inl fW)), (hd, .inl (cI, 6, .inl (upd (hdD fW fD i) i (hld (((hdD fW fD i) i) + (fW i))))))] := hD
    have hP : va_P D vwCl [(h, .inr (0, [.ref hw, .ref hd, .int (nI c), .int t, .int (nI y)])), (hw, .inl (cI, 6, .inl fW)), (hd, .inl (cI, 6, .inl (hdD fW fD (i + 1))))] H := by rw [← hdD_s]; exact hP
    have hD : va_D A [(h, .inr (0, [.ref hw, .ref hd, .int (nI c), .int t, .int (nI y)])), (hw, .inl (cI, 6, .inl fW)), (hd, .inl (cI, 6, .inl (hdD fW fD (i + 1))))] := by rw [← hdD_s]; exact hD
    refine lv_iinc (v := (nI (i + 1))) (lv' := [(1, .int (nI (i + 1))), (0, .ref h)]) hx hb dX0_coinsPaidNextDay_32 hl (k := 1) rfl (nI_inc i) (by decide) rfl (fun ls hl => ?_)
    refine lv_goto (tgt := 2) hx hb dX0_coinsPaidNextDay_35 (by decide) ?_
    exact kk () _ _ ls (by omega) ⟨lv_sub hl [1, 0] rfl, hP, hD, hS⟩

set_option maxHeartbeats 4000000 in
set_option maxRecDepth 100000 in
theorem c_X0_coinsPaidIn (l : Launch) (D : va_G) (cI cJ cR : ClassId) (sz : Nat) (h hw hd : Nat) (c : Nat) (t : Int32) (y : Nat) (fW fD : Nat → Int32) (hc : c ≤ 6) (hy : y < 2 ^ 28) (n : Nat) (hn : n ≤ 60) : Met l yX0_coinsPaidIn wsX0_coinsPaidIn ({ frames := 4, cells := 0, slots := 0, locals := 77 }) (cPw D [(h, .inr (0, [.ref hw, .ref hd, .int (nI c), .int t, .int (nI y)])), (hw, .inl (cI, 6, .inl fW)), (hd, .inl (cI, 6, .inl fD))] sz (KM D cI cJ cR) [.ref h, .int (nI n)]) (wri D [(h, .inr (0, [.ref hw, .ref hd, .int (nI c), .int t, .int (nI y)])), (hw, .inl (cI, 6, .inl fW)), (hd, .inl (cI, 6, .inl fD))] sz (fun r ws' => r = dSm c t y fW fD n ∧ ws' = [(h, .inr (0, [.ref hw, .ref hd, .int (nI c), .int t, .int (nI (y + n))])), (hw, .inl (cI, 6, .inl fW)), (hd, .inl (cI, 6, .inl (dIt c t y fW fD n)))])) 0 0 (va_A [(h, .inr (0, [.ref hw, .ref hd, .int (nI c), .int t, .int (nI y)])), (hw, .inl (cI, 6, .inl fW)), (hd, .inl (cI, 6, .inl fD))] sz) := by
  refine Met.ofW (cc := cX0_coinsPaidIn) (maxL := 4) (ret := (some .int)) (by decide +kernel) rfl ?_
  intro p e s m args below meth c9 s₁ B hml hv
  obtain ⟨rfl, hsz, hP, hD0, hC⟩ := hv
  have hx := B.exec
  have hb := B.bytes
  have hr := B.returns
  have hts := atoms_spec (ws := wsX0_coinsPaidIn) B.pre
  have hown : s.vm.findClass RX0 = some m.cls := findClass_of_methodNamed B.named
  have hlocks := B.notSynchronized
  have hK : va_K D vwCl [(cI, .int), (cJ, .long), (cR, .array .int)] s := hC
  subst hsz
  unfold wri wB
  have hD := hD0.self (sz := s.heap.size)
  generalize hAe : va_A [(h, .inr (0, [.ref hw, .ref hd, .int (nI c), .int t, .int (nI y)])), (hw, .inl (cI, 6, .inl fW)), (hd, .inl (cI, 6, .inl fD))] s.heap.size = A at hD ⊢
  have hA : ∀ q : Nat, s.heap.size ≤ q → A q := fun q h => by rw [← hAe]; exact Or.inr h
  have hS : va_S A s.heap s.heap [] := va_S.rf
  have hl := lv_entry ([.ref h, .int (nI n)]) (n := 4) (Nat.le_of_ble_eq_true rfl)
  rw [lg_entry_eq]
  generalize (lg_sl ([.ref h, .int (nI n)]) ++ List.replicate (4 - (lg_sl ([.ref h, .int (nI n)])).length) Slot.unset).toArray = ls at hl ⊢
  have hl : lv_has ls 4 [(0, .ref h), (1, .int (nI n))] := hl
  refine lv_iconst (v := 0) hx hb dX0_coinsPaidIn_0 (by decide) ?_
  refine lv_istore_n (lv' := [(2, .int 0), (0, .ref h), (1, .int (nI n))]) hx hb dX0_coinsPaidIn_1 rfl hl (by decide) rfl (fun ls hl => ?_)
  refine lv_iconst (v := 0) hx hb dX0_coinsPaidIn_2 (by decide) ?_
  refine lv_istore_n (lv' := [(3, .int 0), (2, .int 0), (0, .ref h), (1, .int (nI n))]) hx hb dX0_coinsPaidIn_3 rfl hl (by decide) rfl (fun ls hl => ?_)
  have hH : ∃ H, H = s.heap := ⟨_, rfl⟩
  refine loopW (σ := Unit) (I := fun i x H locs ls => lv_has ls 4 [(0, .ref h), (1, .int (nI n)), (2, .int (dSm c t y fW fD i)), (3, .int (nI i))] ∧ va_P D vwCl [(h, .inr (0, [.ref hw, .ref hd, .int (nI c), .int t, .int (nI (y + i))])), (hw, .inl (cI, 6, .inl fW)), (hd, .inl (cI, 6, .inl (dIt c t y fW fD i)))] H ∧ va_D A [(h, .inr (0, [.ref hw, .ref hd, .int (nI c), .int t, .int (nI (y + i))])), (hw, .inl (cI, 6, .inl fW)), (hd, .inl (cI, 6, .inl (dIt c t y fW fD i)))] ∧ va_S A s.heap H locs) n ?_ 0 () _ _ ls (by omega) ⟨lv_sub hl [2, 3, 1, 0] rfl, hP, hD, hS⟩
  intro i x H locs ls hi hI kk
  obtain ⟨hl, hP, hD, hS⟩ := hI
  refine lv_iload_n hx hb dX0_coinsPaidIn_4 rfl (lv_at hl 3 rfl) ?_
  refine lv_iload_n hx hb dX0_coinsPaidIn_5 rfl (lv_at hl 1 rfl) ?_
  refine lv_icmp_ge (tgt := 22) hx hb dX0_coinsPaidIn_6 (by decide) (fun c_6 => ?_) (fun c_6 => ?_)
  · skip
    simp only [Int32.le_iff_toInt_le] at c_6
    rw [nI_toInt (n := i) (by omega)] at c_6
    rw [nI_toInt (n := n) (by omega)] at c_6
    have e9 : n = i := by omega
    subst e9
    refine lv_iload_n hx hb dX0_coinsPaidIn_22 rfl (lv_at hl 2 rfl) ?_
    exact W.iret (v := (dSm c t y fW fD n)) hx hb hr (fun t9 ht hW => ⟨⟨(dSm c t y fW fD n), [(h, .inr (0, [.ref hw, .ref hd, .int (nI c), .int t, .int (nI (y + n))])), (hw, .inl (cI, 6, .inl fW)), (hd, .inl (cI, 6, .inl (dIt c t y fW fD n)))], rfl, ⟨rfl, rfl⟩, by rw [ht]; exact hP, hD⟩, hS.F ht⟩) hS.2.2 dX0_coinsPaidIn_23
  · skip
    simp only [Int32.le_iff_toInt_le] at c_6
    rw [nI_toInt (n := i) (by omega)] at c_6
    rw [nI_toInt (n := n) (by omega)] at c_6
    refine lv_iload_n hx hb dX0_coinsPaidIn_9 rfl (lv_at hl 2 rfl) ?_
    refine lv_aload_n hx hb dX0_coinsPaidIn_10 rfl (lv_at hl 0 rfl) ?_
    have hFc := va_free (wc := [(h, .inr (0, [.ref hw, .ref hd, .int (nI c), .int t, .int (nI (y + i))])), (hw, .inl (cI, 6, .inl fW)), (hd, .inl (cI, 6, .inl (dIt c t y fW fD i)))]) hD hS hA [0, 1, 2] rfl
    refine va_calli (va_runV (As := []) (rest := [.int (dSm c t y fW fD i)]) ⟨hx, hb, hml, hown, hts⟩ (c_X0_coinsPaidNextDay l D cI cJ cR H.size h hw hd c t (y + i) fW (dIt c t y fW fD i) (by omega) (by omega)) (cwV 0 hts gX0_coinsPaidIn_X0_coinsPaidNextDay rfl rfl rfl (by decide +kernel) ⟨Nat.le_of_ble_eq_true rfl, Nat.le_of_ble_eq_true rfl⟩) (preV_wr KM_ok (hP.sub (ws' := [(h, .inr (0, [.ref hw, .ref hd, .int (nI c), .int t, .int (nI (y + i))])), (hw, .inl (cI, 6, .inl fW)), (hd, .inl (cI, 6, .inl (dIt c t y fW fD i)))]) [0, 1, 2] rfl) (hD.sub (ws' := [(h, .inr (0, [.ref hw, .ref hd, .int (nI c), .int t, .int (nI (y + i))])), (hw, .inl (cI, 6, .inl fW)), (hd, .inl (cI, 6, .inl (dIt c t y fW fD i)))]) [0, 1, 2] (by decide) rfl) hK (va_recv hK hP (ci := 0) (q0 := 0) rfl rfl)) rfl rfl hl.1 rfl (lv_room (Nat.le_of_ble_eq_true rfl)) dX0_coinsPaidIn_11 ⟨by decide, by decide⟩) hS (fun q _ h => hFc q h) hFc (fun r_11 u t9 H1 locs ht hvm hw9 hB hz1 hk1 hS => ?_)
    obtain ⟨hr9, rfl⟩ := hw9
    have hr9 := hr9.symm
    subst hr9
    obtain ⟨hP1, hD1⟩ := hB
    rw [ht] at hP1
    obtain ⟨hP, hD⟩ := va_join (wr := []) (w1 := [(h, .inr (0, [.ref hw, .ref hd, .int (nI c), .int t, .int (nI ((y + i) + 1))])), (hw, .inl (cI, 6, .inl fW)), (hd, .inl (cI, 6, .inl (dDr c t (y + i) fW (dIt c t y fW fD i))))]) hP hD [0, 1, 2] [] rfl rfl (by decide) (by decide) hk1 hFc hP1 hD1
    clear hz1 hk1 ht hvm hFc
    generalize H1 = H at hP hS ⊢
    have hP : va_P D vwCl [(h, .inr (0, [.ref hw, .ref hd, .int (nI c), .int t, .int (nI ((y + i) + 1))])), (hw, .inl (cI, 6, .inl fW)), (hd, .inl (cI, 6, .inl (dDr c t (y + i) fW (dIt c t y fW fD i))))] H := hP
    have hD : va_D A [(h, .inr (0, [.ref hw, .ref hd, .int (nI c), .int t, .int (nI ((y + i) + 1))])), (hw, .inl (cI, 6, .inl fW)), (hd, .inl (cI, 6, .inl (dDr c t (y + i) fW (dIt c t y fW fD i))))] := hD
    refine lv_iadd hx hb dX0_coinsPaidIn_14 ?_
    refine lv_istore_n (lv' := [(2, .int ((dSm c t y fW fD i) + (dFine c t (y + i) fW (dIt c t y fW fD i)))), (0, .ref h), (1, .int (nI n)), (3, .int (nI i))]) hx hb dX0_coinsPaidIn_15 rfl hl (by decide) rfl (fun ls hl => ?_)
    refine lv_iinc (v := (nI (i + 1))) (lv' := [(3, .int (nI (i + 1))), (2, .int ((dSm c t y fW fD i) + (dFine c t (y + i) fW (dIt c t y fW fD i)))), (0, .ref h), (1, .int (nI n))]) hx hb dX0_coinsPaidIn_16 hl (k := 3) rfl (nI_inc i) (by decide) rfl (fun ls hl => ?_)
    refine lv_goto (tgt := 4) hx hb dX0_coinsPaidIn_19 (by decide) ?_
    exact kk () _ _ ls (by omega) ⟨lv_sub hl [2, 3, 1, 0] rfl, hP, hD, hS⟩
