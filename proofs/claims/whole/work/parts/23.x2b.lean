set_option maxHeartbeats 4000000 in
set_option maxRecDepth 100000 in
theorem c_X2_divisor (l : Launch) (u v : Nat) (hu : 0 < u) (hu2 : u < 2 ^ 40) (hv2 : v < 2 ^ 40) : Met l yX2_divisor wsX2_divisor ({ frames := 0, cells := 0, slots := 0, locals := 0 }) (va_Pc [.long (lN u), .long (lN v)] (fun _ => True)) (rol (fun r => ¬ r = 0 ∧ lN u / r = tp (lN u) (lN v))) 0 0 (fun _ => False) := by
  refine Met.ofW (cc := cX2_divisor) (maxL := 10) (ret := (some .long)) (by decide +kernel) rfl ?_
  intro p e s m args below meth c9 s₁ B hml hv
  obtain ⟨rfl, -⟩ := hv
  have hx := B.exec
  have hb := B.bytes
  have hr := B.returns
  have hts := atoms_spec (ws := wsX2_divisor) B.pre
  have hown : s.vm.findClass RX2 = some m.cls := findClass_of_methodNamed B.named
  have hlocks := B.notSynchronized
  have hl := lv_entry ([.long (lN u), .long (lN v)]) (n := 10) (Nat.le_of_ble_eq_true rfl)
  rw [lg_entry_eq]
  generalize (lg_sl ([.long (lN u), .long (lN v)]) ++ List.replicate (10 - (lg_sl ([.long (lN u), .long (lN v)])).length) Slot.unset).toArray = ls at hl ⊢
  have hl : lv_has ls 10 [(0, .long (lN u)), (2, .long (lN v))] := hl
  refine lv_lload_n hx hb dX2_divisor_0 rfl (lv_at hl 0 rfl) ?_
  refine lv_lstore (lv' := [(4, .long (lN u)), (0, .long (lN u)), (2, .long (lN v))]) hx hb dX2_divisor_1 hl (by decide) rfl (fun ls hl => ?_)
  refine lv_lload_n hx hb dX2_divisor_3 rfl (lv_at hl 2 rfl) ?_
  refine lv_lstore (lv' := [(6, .long (lN v)), (4, .long (lN u)), (0, .long (lN u)), (2, .long (lN v))]) hx hb dX2_divisor_4 hl (by decide) rfl (fun ls hl => ?_)
  refine loopR (σ := (Nat × Nat)) (I := fun i x ls => lv_has ls 10 [(4, .long (lN x.1)), (6, .long (lN x.2))] ∧ (0 < x.1) ∧ (Nat.gcd x.1 x.2 = Nat.gcd u v) ∧ (x.1 < 2 ^ 40 ∧ x.2 < 2 ^ 40) ∧ (x.2 + i ≤ v)) v ?_ 0 (u, v) ls (by omega) ⟨lv_sub hl [1, 0] rfl, hu, rfl, ⟨hu2, hv2⟩, Nat.le_refl _⟩
  intro i x ls hi hI kk
  obtain ⟨hl, h1, h2, h3, h4⟩ := hI
  refine lv_lload hx hb dX2_divisor_6 (lv_at hl 1 rfl) ?_
  refine lv_lconst (v := 0) hx hb dX2_divisor_8 (by decide) ?_
  refine W.lcmp hx hb dX2_divisor_9 ?_
  refine lv_if_le (tgt := 31) hx hb dX2_divisor_10 (by decide) (fun c_10 => ?_) (fun c_10 => ?_)
  · skip
    have c_10 := (lgc_le _ _).mp c_10
    rw [pk_lT (Nat.lt_trans h3.2 (by decide)), show (0 : Int64).toInt = 0 from rfl] at c_10
    have h0 : x.2 = 0 := by omega
    refine lv_lload hx hb dX2_divisor_31 (lv_at hl 0 rfl) ?_
    exact W.lret (v := (lN x.1)) hx hb hr (fun t9 ht hW => ⟨_, rfl, dv_ok hu hu2 (by rw [← h2, h0, Nat.gcd_zero_right]) hv2, ht⟩) (fun q hq => absurd hq List.not_mem_nil) dX2_divisor_33
  · skip
    have c_10 := (not_congr (lgc_le _ _)).mp c_10
    rw [pk_lT (Nat.lt_trans h3.2 (by decide)), show (0 : Int64).toInt = 0 from rfl] at c_10
    have hbp : 0 < x.2 := by omega
    refine lv_lload hx hb dX2_divisor_13 (lv_at hl 0 rfl) ?_
    refine lv_lload hx hb dX2_divisor_15 (lv_at hl 1 rfl) ?_
    refine lv_lrem hx hb dX2_divisor_17 (lN_ne0 hbp (Nat.lt_trans h3.2 (by decide))) ?_
    refine topL (pk_lRem (Nat.lt_trans h3.1 (by decide)) hbp (Nat.lt_trans h3.2 (by decide))) ?_
    refine lv_lstore (lv' := [(8, .long (lN (x.1 % x.2))), (4, .long (lN x.1)), (6, .long (lN x.2))]) hx hb dX2_divisor_18 hl (by decide) rfl (fun ls hl => ?_)
    refine lv_lload hx hb dX2_divisor_20 (lv_at hl 2 rfl) ?_
    refine lv_lstore (lv' := [(4, .long (lN x.2)), (8, .long (lN (x.1 % x.2))), (6, .long (lN x.2))]) hx hb dX2_divisor_22 hl (by decide) rfl (fun ls hl => ?_)
    refine lv_lload hx hb dX2_divisor_24 (lv_at hl 1 rfl) ?_
    refine lv_lstore (lv' := [(6, .long (lN (x.1 % x.2))), (4, .long (lN x.2)), (8, .long (lN (x.1 % x.2)))]) hx hb dX2_divisor_26 hl (by decide) rfl (fun ls hl => ?_)
    refine lv_goto (tgt := 6) hx hb dX2_divisor_28 (by decide) ?_
    exact kk (x.2, x.1 % x.2) ls (by omega) ⟨lv_sub hl [1, 0] rfl, hbp, by rw [← h2, Nat.gcd_comm x.1 x.2, Nat.gcd_rec x.2 x.1, Nat.gcd_comm], ⟨h3.2, Nat.lt_trans (Nat.mod_lt _ hbp) h3.2⟩, (by have h5 := Nat.mod_lt x.1 hbp; show x.1 % x.2 + (i + 1) ≤ v; omega)⟩

theorem c_X2_div (l : Launch) (X Y : Int64) (hX : 0 < X.toInt ∧ X.toInt ≤ 4782969) (hY : 0 < Y.toInt ∧ Y.toInt ≤ 4782969) : Met l yX2_divisor wsX2_divisor ({ frames := 0, cells := 0, slots := 0, locals := 0 }) (va_Pc [.long X, .long Y] (fun _ => True)) (rol (fun r => ¬ r = 0 ∧ X / r = tp X Y)) 0 0 (fun _ => False) := by
  obtain ⟨u, hu, hu2, rfl⟩ := lN_of (b := 4782969) hX.1 hX.2
  obtain ⟨v, hv, hv2, rfl⟩ := lN_of (b := 4782969) hY.1 hY.2
  exact c_X2_divisor l u v hu (by omega) (by omega)

set_option maxHeartbeats 4000000 in
set_option maxRecDepth 100000 in
theorem c_X2_top (l : Launch) (D : va_G) (cI cJ : ClassId) (b : Nat → Nat) (th : Int32) (k st c : Nat) (t : Int32) (lf : Int64) (mB mM mP : Nat → Int32) (mL : Nat → Int64) (mO fW : Nat → Int32) (y : Nat) (fi : Int32) (fD mK : Nat → Int32) (hM : MOk k mL mO) (j i : Nat) (hj : j < k) (hi : i < k) : Met l yX2_top wsX2_top ({ frames := 1, cells := 0, slots := 0, locals := 29 }) (cP D [((b 0), .inr (2, [.int th, .int (nI k), .ref (b 1), .ref (b 2), .ref (b 3), .ref (b 4), .ref (b 5), .int (nI st), .int (nI c), .ref (b 6), .int t, .ref (b 7), .ref (b 8), .long lf])), ((b 1), .inl (cI, 8, .inl mB)), ((b 2), .inl (cI, 8, .inl mM)), ((b 3), .inl (cI, 8, .inl mP)), ((b 4), .inl (cJ, 8, .inr (.inl mL))), ((b 5), .inl (cI, 8, .inl mO)), ((b 6), .inl (cI, 6, .inl fW)), ((b 7), .inl (cI, 8, .inl (nwF y fi fD))), ((b 8), .inl (cI, 8, .inl mK))] (KM D cI cJ) [.ref (b 0), .int (nI j), .int (nI i)]) (rol (fun r => r = tp (mL j) (mL i))) 0 0 (fun _ => False) := by
  refine Met.ofW (cc := cX2_top) (maxL := 3) (ret := (some .long)) (by decide +kernel) rfl ?_
  intro p e s m args below meth c9 s₁ B hml hv
  obtain ⟨rfl, hP, hC⟩ := hv
  have hx := B.exec
  have hb := B.bytes
  have hr := B.returns
  have hts := atoms_spec (ws := wsX2_top) B.pre
  have hown : s.vm.findClass RX2 = some m.cls := findClass_of_methodNamed B.named
  have hlocks := B.notSynchronized
  have hK : va_K D vwCl [(cI, .int), (cJ, .long)] s := hC
  have hl := lv_entry ([.ref (b 0), .int (nI j), .int (nI i)]) (n := 3) (Nat.le_of_ble_eq_true rfl)
  rw [lg_entry_eq]
  generalize (lg_sl ([.ref (b 0), .int (nI j), .int (nI i)]) ++ List.replicate (3 - (lg_sl ([.ref (b 0), .int (nI j), .int (nI i)])).length) Slot.unset).toArray = ls at hl ⊢
  have hl : lv_has ls 3 [(0, .ref (b 0)), (1, .int (nI j)), (2, .int (nI i))] := hl
  have hk8 : k ≤ 8 := hM.2.1
  have hk1 : 1 ≤ k := hM.1
  have hiX2 : ∀ w ∈ u_ws RX2 TX2 14, w ∈ wsX2_top := by decide +kernel
  have hw23 : (Cond.fieldLink RX2 23 "OldMeasuresModel" "length" "[J").before ([.ref (b 0), .int (nI j), .int (nI i)] : List Value).toArray s = true := hts _ (by decide +kernel)
  refine lv_aload_n hx hb dX2_top_0 rfl (lv_at hl 0 rfl) ?_
  refine va_get (D := D) (ci := 2) (v := .ref (b 4)) (C := RX2) (T := TX2) (N := 14) hx hb hts hiX2 hown hK hP 0 rfl rfl 5 (by decide) hw23 (fun _ h9 => h9) rfl dX2_top_1 ?_
  refine lv_iload_n hx hb dX2_top_4 rfl (lv_at hl 1 rfl) ?_
  refine xa_lald hx hb hK hP 4 1 rfl rfl (by omega) (by decide) dX2_top_5 ?_
  refine lv_aload_n hx hb dX2_top_6 rfl (lv_at hl 0 rfl) ?_
  refine va_get (D := D) (ci := 2) (v := .ref (b 4)) (C := RX2) (T := TX2) (N := 14) hx hb hts hiX2 hown hK hP 0 rfl rfl 5 (by decide) hw23 (fun _ h9 => h9) rfl dX2_top_7 ?_
  refine lv_iload_n hx hb dX2_top_10 rfl (lv_at hl 1 rfl) ?_
  refine xa_lald hx hb hK hP 4 1 rfl rfl (by omega) (by decide) dX2_top_11 ?_
  refine lv_aload_n hx hb dX2_top_12 rfl (lv_at hl 0 rfl) ?_
  refine va_get (D := D) (ci := 2) (v := .ref (b 4)) (C := RX2) (T := TX2) (N := 14) hx hb hts hiX2 hown hK hP 0 rfl rfl 5 (by decide) hw23 (fun _ h9 => h9) rfl dX2_top_13 ?_
  refine lv_iload_n hx hb dX2_top_16 rfl (lv_at hl 2 rfl) ?_
  refine xa_lald hx hb hK hP 4 1 rfl rfl (by omega) (by decide) dX2_top_17 ?_
  refine ro_l (va_runS (As := [.long (mL j), .long (mL i)]) (rest := [.long (mL j)]) ⟨hx, hb, hml, hown, hts⟩ (c_X2_div l (mL j) (mL i) (hM.2.2.1 j hj) (hM.2.2.1 i hi)) (va_cwS 2 hts gX2_top_X2_divisor rfl rfl rfl (by decide +kernel) ⟨Nat.le_of_ble_eq_true rfl, Nat.le_of_ble_eq_true rfl⟩) pre0 rfl rfl hl.1 rfl (lv_room (Nat.le_of_ble_eq_true rfl)) dX2_top_18 ⟨by decide, by decide⟩) (fun g9 hg9 => ?_)
  refine lv_ldiv hx hb dX2_top_21 hg9.1 ?_
  exact W.lret (v := ((mL j) / g9)) hx hb hr (fun t9 ht hW => ⟨_, rfl, hg9.2, ht⟩) (fun q hq => absurd hq List.not_mem_nil) dX2_top_22

set_option maxHeartbeats 4000000 in
set_option maxRecDepth 100000 in
theorem c_X2_honest (l : Launch) (D : va_G) (cI cJ : ClassId) (b : Nat → Nat) (th : Int32) (k st c : Nat) (t : Int32) (lf : Int64) (mB mM mP : Nat → Int32) (mL : Nat → Int64) (mO fW : Nat → Int32) (y : Nat) (fi : Int32) (fD mK : Nat → Int32) (j : Nat) (hj : j < 6) : Met l yX2_honest wsX2_honest ({ frames := 1, cells := 0, slots := 0, locals := 13 }) (cP D [((b 0), .inr (2, [.int th, .int (nI k), .ref (b 1), .ref (b 2), .ref (b 3), .ref (b 4), .ref (b 5), .int (nI st), .int (nI c), .ref (b 6), .int t, .ref (b 7), .ref (b 8), .long lf])), ((b 1), .inl (cI, 8, .inl mB)), ((b 2), .inl (cI, 8, .inl mM)), ((b 3), .inl (cI, 8, .inl mP)), ((b 4), .inl (cJ, 8, .inr (.inl mL))), ((b 5), .inl (cI, 8, .inl mO)), ((b 6), .inl (cI, 6, .inl fW)), ((b 7), .inl (cI, 8, .inl (nwF y fi fD))), ((b 8), .inl (cI, 8, .inl mK))] (KM D cI cJ) [.ref (b 0), .int (nI j)]) (roi (fun r => r = bz ((absI (fD j)).toInt ≤ t.toInt))) 0 0 (fun _ => False) := by
  refine Met.ofW (cc := cX2_honest) (maxL := 2) (ret := (some .boolean)) (by decide +kernel) rfl ?_
  intro p e s m args below meth c9 s₁ B hml hv
  obtain ⟨rfl, hP, hC⟩ := hv
  have hx := B.exec
  have hb := B.bytes
  have hr := B.returns
  have hts := atoms_spec (ws := wsX2_honest) B.pre
  have hown : s.vm.findClass RX2 = some m.cls := findClass_of_methodNamed B.named
  have hlocks := B.notSynchronized
  have hK : va_K D vwCl [(cI, .int), (cJ, .long)] s := hC
  have hl := lv_entry ([.ref (b 0), .int (nI j)]) (n := 2) (Nat.le_of_ble_eq_true rfl)
  rw [lg_entry_eq]
  generalize (lg_sl ([.ref (b 0), .int (nI j)]) ++ List.replicate (2 - (lg_sl ([.ref (b 0), .int (nI j)])).length) Slot.unset).toArray = ls at hl ⊢
  have hl : lv_has ls 2 [(0, .ref (b 0)), (1, .int (nI j))] := hl
  have hiX2 : ∀ w ∈ u_ws RX2 TX2 14, w ∈ wsX2_honest := by decide +kernel
  have hw33 : (Cond.fieldLink RX2 33 "OldMeasuresModel" "tolerance" "I").before ([.ref (b 0), .int (nI j)] : List Value).toArray s = true := hts _ (by decide +kernel)
  have hw36 : (Cond.fieldLink RX2 36 "OldMeasuresModel" "now" "[I").before ([.ref (b 0), .int (nI j)] : List Value).toArray s = true := hts _ (by decide +kernel)
  refine lv_aload_n hx hb dX2_honest_0 rfl (lv_at hl 0 rfl) ?_
  refine va_get (D := D) (ci := 2) (v := .ref (b 7)) (C := RX2) (T := TX2) (N := 14) hx hb hts hiX2 hown hK hP 0 rfl rfl 11 (by decide) hw36 (fun _ h9 => h9) rfl dX2_honest_1 ?_
  refine lv_iconst (v := 2) hx hb dX2_honest_4 (by decide) ?_
  refine lv_iload_n hx hb dX2_honest_5 rfl (lv_at hl 1 rfl) ?_
  refine lv_iadd hx hb dX2_honest_6 ?_
  refine topI (two_nI j) ?_
  refine xa_iald hx hb hK hP 7 0 rfl rfl (by omega) (by decide) dX2_honest_7 ?_
  refine topI (y := (fD j)) rfl ?_
  refine va_mabs hx hb (by rw [hml]; exact hl.1.symm) hown (hts (.methodLink RX2 58 Lib.Math.abs.name) (by decide +kernel)) (hts (.static Lib.Math.abs.name) (by decide +kernel)) (hts (.initialized "java/lang/Math") (by decide +kernel)) (hts (.code Lib.Math.abs.name Lib.Math.abs.code 1 (some .int)) (by decide +kernel)) (by first | decide | exact Nat.le_of_ble_eq_true rfl) (by first | decide | exact Nat.le_of_ble_eq_true rfl) (by first | decide | exact Nat.le_of_ble_eq_true rfl) (by first | decide | exact Nat.le_of_ble_eq_true rfl) dX2_honest_8 ?_
  refine topI (y := absI (fD j)) rfl ?_
  refine lv_aload_n hx hb dX2_honest_11 rfl (lv_at hl 0 rfl) ?_
  refine va_get (D := D) (ci := 2) (v := .int t) (C := RX2) (T := TX2) (N := 14) hx hb hts hiX2 hown hK hP 0 rfl rfl 10 (by decide) hw33 (fun _ h9 => h9) rfl dX2_honest_12 ?_
  refine lv_icmp_gt (tgt := 22) hx hb dX2_honest_15 (by decide) (fun c_15 => ?_) (fun c_15 => ?_)
  · skip
    simp only [Int32.lt_iff_toInt_lt] at c_15
    refine lv_iconst (v := 0) hx hb dX2_honest_22 (by decide) ?_
    exact W.zret (v := 0) hx hb hr rfl (fun t9 ht hW => ⟨_, rfl, by first | rfl | exact (bz_t (by omega)).symm | exact (bz_f (by omega)).symm, ht⟩) (fun q hq => absurd hq List.not_mem_nil) dX2_honest_23
  · skip
    simp only [Int32.lt_iff_toInt_lt] at c_15
    refine lv_iconst (v := 1) hx hb dX2_honest_18 (by decide) ?_
    refine lv_goto (tgt := 23) hx hb dX2_honest_19 (by decide) ?_
    exact W.zret (v := 1) hx hb hr rfl (fun t9 ht hW => ⟨_, rfl, by first | rfl | exact (bz_t (by omega)).symm | exact (bz_f (by omega)).symm, ht⟩) (fun q hq => absurd hq List.not_mem_nil) dX2_honest_23

set_option maxHeartbeats 4000000 in
set_option maxRecDepth 100000 in
theorem c_X2_least (l : Launch) (D : va_G) (cI cJ : ClassId) (b : Nat → Nat) (th : Int32) (k st c : Nat) (t : Int32) (lf : Int64) (mB mM mP : Nat → Int32) (mL : Nat → Int64) (mO fW : Nat → Int32) (y : Nat) (fi : Int32) (fD mK : Nat → Int32) (hM : MOk k mL mO) : Met l yX2_least wsX2_least ({ frames := 0, cells := 0, slots := 0, locals := 0 }) (cP D [((b 0), .inr (2, [.int th, .int (nI k), .ref (b 1), .ref (b 2), .ref (b 3), .ref (b 4), .ref (b 5), .int (nI st), .int (nI c), .ref (b 6), .int t, .ref (b 7), .ref (b 8), .long lf])), ((b 1), .inl (cI, 8, .inl mB)), ((b 2), .inl (cI, 8, .inl mM)), ((b 3), .inl (cI, 8, .inl mP)), ((b 4), .inl (cJ, 8, .inr (.inl mL))), ((b 5), .inl (cI, 8, .inl mO)), ((b 6), .inl (cI, 6, .inl fW)), ((b 7), .inl (cI, 8, .inl (nwF y fi fD))), ((b 8), .inl (cI, 8, .inl mK))] (KM D cI cJ) [.ref (b 0)]) (roi (fun r => r = nI (shN mL (k - 1)))) 0 0 (fun _ => False) := by
  refine Met.ofW (cc := cX2_least) (maxL := 3) (ret := (some .int)) (by decide +kernel) rfl ?_
  intro p e s m args below meth c9 s₁ B hml hv
  obtain ⟨rfl, hP, hC⟩ := hv
  have hx := B.exec
  have hb := B.bytes
  have hr := B.returns
  have hts := atoms_spec (ws := wsX2_least) B.pre
  have hown : s.vm.findClass RX2 = some m.cls := findClass_of_methodNamed B.named
  have hlocks := B.notSynchronized
  have hK : va_K D vwCl [(cI, .int), (cJ, .long)] s := hC
  have hl := lv_entry ([.ref (b 0)]) (n := 3) (Nat.le_of_ble_eq_true rfl)
  rw [lg_entry_eq]
  generalize (lg_sl ([.ref (b 0)]) ++ List.replicate (3 - (lg_sl ([.ref (b 0)])).length) Slot.unset).toArray = ls at hl ⊢
  have hl : lv_has ls 3 [(0, .ref (b 0))] := hl
  have hk8 : k ≤ 8 := hM.2.1
  have hk1 : 1 ≤ k := hM.1
  have hiX2 : ∀ w ∈ u_ws RX2 TX2 14, w ∈ wsX2_least := by decide +kernel
  have hw7 : (Cond.fieldLink RX2 7 "OldMeasuresModel" "measures" "I").before ([.ref (b 0)] : List Value).toArray s = true := hts _ (by decide +kernel)
  have hw23 : (Cond.fieldLink RX2 23 "OldMeasuresModel" "length" "[J").before ([.ref (b 0)] : List Value).toArray s = true := hts _ (by decide +kernel)
  refine lv_iconst (v := 0) hx hb dX2_least_0 (by decide) ?_
  refine lv_istore_n (lv' := [(1, .int 0), (0, .ref (b 0))]) hx hb dX2_least_1 rfl hl (by decide) rfl (fun ls hl => ?_)
  refine lv_iconst (v := 1) hx hb dX2_least_2 (by decide) ?_
  refine lv_istore_n (lv' := [(2, .int 1), (1, .int 0), (0, .ref (b 0))]) hx hb dX2_least_3 rfl hl (by decide) rfl (fun ls hl => ?_)
  refine loopR (σ := Unit) (I := fun i x ls => lv_has ls 3 [(0, .ref (b 0)), (1, .int (nI (shN mL i))), (2, .int (nI (i + 1)))] ∧ (True)) (k - 1) ?_ 0 () ls (by omega) ⟨lv_sub hl [2, 1, 0] rfl, trivial⟩
  intro i x ls hi hI kk
  obtain ⟨hl, _⟩ := hI
  refine lv_iload_n hx hb dX2_least_4 rfl (lv_at hl 2 rfl) ?_
  refine lv_aload_n hx hb dX2_least_5 rfl (lv_at hl 0 rfl) ?_
  refine va_get (D := D) (ci := 2) (v := .int (nI k)) (C := RX2) (T := TX2) (N := 14) hx hb hts hiX2 hown hK hP 0 rfl rfl 1 (by decide) hw7 (fun _ h9 => h9) rfl dX2_least_6 ?_
  refine lv_icmp_ge (tgt := 36) hx hb dX2_least_9 (by decide) (fun c_9 => ?_) (fun c_9 => ?_)
  · skip
    simp only [Int32.le_iff_toInt_le] at c_9
    rw [nI_toInt (n := (i + 1)) (by omega)] at c_9
    rw [nI_toInt (n := k) (by omega)] at c_9
    have e9 : (k - 1) = i := by omega
    subst e9
    refine lv_iload_n hx hb dX2_least_36 rfl (lv_at hl 1 rfl) ?_
    exact W.iret (v := (nI (shN mL (k - 1)))) hx hb hr (fun t9 ht hW => ⟨_, rfl, rfl, ht⟩) (fun q hq => absurd hq List.not_mem_nil) dX2_least_37
  · skip
    simp only [Int32.le_iff_toInt_le] at c_9
    rw [nI_toInt (n := (i + 1)) (by omega)] at c_9
    rw [nI_toInt (n := k) (by omega)] at c_9
    have hs := shN_le mL i
    refine lv_aload_n hx hb dX2_least_12 rfl (lv_at hl 0 rfl) ?_
    refine va_get (D := D) (ci := 2) (v := .ref (b 4)) (C := RX2) (T := TX2) (N := 14) hx hb hts hiX2 hown hK hP 0 rfl rfl 5 (by decide) hw23 (fun _ h9 => h9) rfl dX2_least_13 ?_
    refine lv_iload_n hx hb dX2_least_16 rfl (lv_at hl 2 rfl) ?_
    refine xa_lald hx hb hK hP 4 1 rfl rfl (by omega) (by decide) dX2_least_17 ?_
    refine lv_aload_n hx hb dX2_least_18 rfl (lv_at hl 0 rfl) ?_
    refine va_get (D := D) (ci := 2) (v := .ref (b 4)) (C := RX2) (T := TX2) (N := 14) hx hb hts hiX2 hown hK hP 0 rfl rfl 5 (by decide) hw23 (fun _ h9 => h9) rfl dX2_least_19 ?_
    refine lv_iload_n hx hb dX2_least_22 rfl (lv_at hl 1 rfl) ?_
    refine xa_lald hx hb hK hP 4 1 rfl rfl (by omega) (by decide) dX2_least_23 ?_
    refine W.lcmp hx hb dX2_least_24 ?_
    refine lv_if_ge (tgt := 30) hx hb dX2_least_25 (by decide) (fun c_25 => ?_) (fun c_25 => ?_)
    · skip
      have c_25 := (lgc_ge _ _).mp c_25
      have e7 : shN mL (i + 1) = shN mL i := ic_f (by omega)
      refine lv_iinc (v := (nI ((i + 1) + 1))) (lv' := [(2, .int (nI ((i + 1) + 1))), (0, .ref (b 0)), (1, .int (nI (shN mL i)))]) hx hb dX2_least_30 hl (k := 2) rfl (nI_inc (i + 1)) (by decide) rfl (fun ls hl => ?_)
      refine lv_goto (tgt := 4) hx hb dX2_least_33 (by decide) ?_
      exact kk () ls (by omega) ⟨by rw [e7]; exact lv_sub hl [1, 2, 0] rfl, trivial⟩
    · skip
      have c_25 := (not_congr (lgc_ge _ _)).mp c_25
      have e7 : shN mL (i + 1) = i + 1 := ic_t (by omega)
      refine lv_iload_n hx hb dX2_least_28 rfl (lv_at hl 2 rfl) ?_
      refine lv_istore_n (lv' := [(1, .int (nI (i + 1))), (0, .ref (b 0)), (2, .int (nI (i + 1)))]) hx hb dX2_least_29 rfl hl (by decide) rfl (fun ls hl => ?_)
      refine lv_iinc (v := (nI ((i + 1) + 1))) (lv' := [(2, .int (nI ((i + 1) + 1))), (1, .int (nI (i + 1))), (0, .ref (b 0))]) hx hb dX2_least_30 hl (k := 2) rfl (nI_inc (i + 1)) (by decide) rfl (fun ls hl => ?_)
      refine lv_goto (tgt := 4) hx hb dX2_least_33 (by decide) ?_
      exact kk () ls (by omega) ⟨by rw [e7]; exact lv_sub hl [2, 1, 0] rfl, trivial⟩

set_option maxHeartbeats 4000000 in
set_option maxRecDepth 100000 in
theorem c_X2_truest (l : Launch) (D : va_G) (cI cJ : ClassId) (b : Nat → Nat) (th : Int32) (k st c : Nat) (t : Int32) (lf : Int64) (mB mM mP : Nat → Int32) (mL : Nat → Int64) (mO fW : Nat → Int32) (y : Nat) (fi : Int32) (fD mK : Nat → Int32) (hc : c ≤ 6) : Met l yX2_truest wsX2_truest ({ frames := 1, cells := 0, slots := 0, locals := 20 }) (cP D [((b 0), .inr (2, [.int th, .int (nI k), .ref (b 1), .ref (b 2), .ref (b 3), .ref (b 4), .ref (b 5), .int (nI st), .int (nI c), .ref (b 6), .int t, .ref (b 7), .ref (b 8), .long lf])), ((b 1), .inl (cI, 8, .inl mB)), ((b 2), .inl (cI, 8, .inl mM)), ((b 3), .inl (cI, 8, .inl mP)), ((b 4), .inl (cJ, 8, .inr (.inl mL))), ((b 5), .inl (cI, 8, .inl mO)), ((b 6), .inl (cI, 6, .inl fW)), ((b 7), .inl (cI, 8, .inl (nwF y fi fD))), ((b 8), .inl (cI, 8, .inl mK))] (KM D cI cJ) [.ref (b 0)]) (roi (fun r => r = bhN fD c)) 0 0 (fun _ => False) := by
  refine Met.ofW (cc := cX2_truest) (maxL := 3) (ret := (some .int)) (by decide +kernel) rfl ?_
  intro p e s m args below meth c9 s₁ B hml hv
  obtain ⟨rfl, hP, hC⟩ := hv
  have hx := B.exec
  have hb := B.bytes
  have hr := B.returns
  have hts := atoms_spec (ws := wsX2_truest) B.pre
  have hown : s.vm.findClass RX2 = some m.cls := findClass_of_methodNamed B.named
  have hlocks := B.notSynchronized
  have hK : va_K D vwCl [(cI, .int), (cJ, .long)] s := hC
  have hl := lv_entry ([.ref (b 0)]) (n := 3) (Nat.le_of_ble_eq_true rfl)
  rw [lg_entry_eq]
  generalize (lg_sl ([.ref (b 0)]) ++ List.replicate (3 - (lg_sl ([.ref (b 0)])).length) Slot.unset).toArray = ls at hl ⊢
  have hl : lv_has ls 3 [(0, .ref (b 0))] := hl
  have hiX2 : ∀ w ∈ u_ws RX2 TX2 14, w ∈ wsX2_truest := by decide +kernel
  have hw36 : (Cond.fieldLink RX2 36 "OldMeasuresModel" "now" "[I").before ([.ref (b 0)] : List Value).toArray s = true := hts _ (by decide +kernel)
  have hw49 : (Cond.fieldLink RX2 49 "OldMeasuresModel" "stalls" "I").before ([.ref (b 0)] : List Value).toArray s = true := hts _ (by decide +kernel)
  refine lv_iconst (v := (-1)) hx hb dX2_truest_0 (by decide) ?_
  refine lv_istore_n (lv' := [(1, .int (-1)), (0, .ref (b 0))]) hx hb dX2_truest_1 rfl hl (by decide) rfl (fun ls hl => ?_)
  refine lv_iconst (v := 0) hx hb dX2_truest_2 (by decide) ?_
  refine lv_istore_n (lv' := [(2, .int 0), (1, .int (-1)), (0, .ref (b 0))]) hx hb dX2_truest_3 rfl hl (by decide) rfl (fun ls hl => ?_)
  refine loopR (σ := Unit) (I := fun i x ls => lv_has ls 3 [(0, .ref (b 0)), (1, .int (bhN fD i)), (2, .int (nI i))] ∧ (True)) c ?_ 0 () ls (by omega) ⟨lv_sub hl [2, 1, 0] rfl, trivial⟩
  intro i x ls hi hI kk
  obtain ⟨hl, _⟩ := hI
  refine lv_iload_n hx hb dX2_truest_4 rfl (lv_at hl 2 rfl) ?_
  refine lv_aload_n hx hb dX2_truest_5 rfl (lv_at hl 0 rfl) ?_
  refine va_get (D := D) (ci := 2) (v := .int (nI c)) (C := RX2) (T := TX2) (N := 14) hx hb hts hiX2 hown hK hP 0 rfl rfl 8 (by decide) hw49 (fun _ h9 => h9) rfl dX2_truest_6 ?_
  refine lv_icmp_ge (tgt := 50) hx hb dX2_truest_9 (by decide) (fun c_9 => ?_) (fun c_9 => ?_)
  · skip
    simp only [Int32.le_iff_toInt_le] at c_9
    rw [nI_toInt (n := i) (by omega)] at c_9
    rw [nI_toInt (n := c) (by omega)] at c_9
    have e9 : c = i := by omega
    subst e9
    refine lv_iload_n hx hb dX2_truest_50 rfl (lv_at hl 1 rfl) ?_
    exact W.iret (v := (bhN fD c)) hx hb hr (fun t9 ht hW => ⟨_, rfl, rfl, ht⟩) (fun q hq => absurd hq List.not_mem_nil) dX2_truest_51
  · skip
    simp only [Int32.le_iff_toInt_le] at c_9
    rw [nI_toInt (n := i) (by omega)] at c_9
    rw [nI_toInt (n := c) (by omega)] at c_9
    refine lv_iload_n hx hb dX2_truest_12 rfl (lv_at hl 1 rfl) ?_
    refine lv_iconst (v := (-1)) hx hb dX2_truest_13 (by decide) ?_
    refine lv_icmp_eq (tgt := 42) hx hb dX2_truest_14 (by decide) (fun c_14 => ?_) (fun c_14 => ?_)
    · skip
      have e7 : bhN fD (i + 1) = nI i := ic_t (Or.inl c_14)
      refine lv_iload_n hx hb dX2_truest_42 rfl (lv_at hl 2 rfl) ?_
      refine lv_istore_n (lv' := [(1, .int (nI i)), (0, .ref (b 0)), (2, .int (nI i))]) hx hb dX2_truest_43 rfl hl (by decide) rfl (fun ls hl => ?_)
      refine lv_iinc (v := (nI (i + 1))) (lv' := [(2, .int (nI (i + 1))), (1, .int (nI i)), (0, .ref (b 0))]) hx hb dX2_truest_44 hl (k := 2) rfl (nI_inc i) (by decide) rfl (fun ls hl => ?_)
      refine lv_goto (tgt := 4) hx hb dX2_truest_47 (by decide) ?_
      exact kk () ls (by omega) ⟨by rw [e7]; exact lv_sub hl [2, 1, 0] rfl, trivial⟩
    · skip
      obtain ⟨j9, hj9, e9⟩ := bhN_of c_14
      rw [e9] at hl
      refine lv_aload_n hx hb dX2_truest_17 rfl (lv_at hl 0 rfl) ?_
      refine va_get (D := D) (ci := 2) (v := .ref (b 7)) (C := RX2) (T := TX2) (N := 14) hx hb hts hiX2 hown hK hP 0 rfl rfl 11 (by decide) hw36 (fun _ h9 => h9) rfl dX2_truest_18 ?_
      refine lv_iconst (v := 2) hx hb dX2_truest_21 (by decide) ?_
      refine lv_iload_n hx hb dX2_truest_22 rfl (lv_at hl 2 rfl) ?_
      refine lv_iadd hx hb dX2_truest_23 ?_
      refine topI (two_nI i) ?_
      refine xa_iald hx hb hK hP 7 0 rfl rfl (by omega) (by decide) dX2_truest_24 ?_
      refine topI (y := (fD i)) rfl ?_
      refine va_mabs hx hb (by rw [hml]; exact hl.1.symm) hown (hts (.methodLink RX2 58 Lib.Math.abs.name) (by decide +kernel)) (hts (.static Lib.Math.abs.name) (by decide +kernel)) (hts (.initialized "java/lang/Math") (by decide +kernel)) (hts (.code Lib.Math.abs.name Lib.Math.abs.code 1 (some .int)) (by decide +kernel)) (by first | decide | exact Nat.le_of_ble_eq_true rfl) (by first | decide | exact Nat.le_of_ble_eq_true rfl) (by first | decide | exact Nat.le_of_ble_eq_true rfl) (by first | decide | exact Nat.le_of_ble_eq_true rfl) dX2_truest_25 ?_
      refine topI (y := absI (fD i)) rfl ?_
      refine lv_aload_n hx hb dX2_truest_28 rfl (lv_at hl 0 rfl) ?_
      refine va_get (D := D) (ci := 2) (v := .ref (b 7)) (C := RX2) (T := TX2) (N := 14) hx hb hts hiX2 hown hK hP 0 rfl rfl 11 (by decide) hw36 (fun _ h9 => h9) rfl dX2_truest_29 ?_
      refine lv_iconst (v := 2) hx hb dX2_truest_32 (by decide) ?_
      refine lv_iload_n hx hb dX2_truest_33 rfl (lv_at hl 1 rfl) ?_
      refine lv_iadd hx hb dX2_truest_34 ?_
      refine topI (two_nI j9) ?_
      refine xa_iald hx hb hK hP 7 0 rfl rfl (by omega) (by decide) dX2_truest_35 ?_
      refine topI (y := (fD j9)) rfl ?_
      refine va_mabs hx hb (by rw [hml]; exact hl.1.symm) hown (hts (.methodLink RX2 58 Lib.Math.abs.name) (by decide +kernel)) (hts (.static Lib.Math.abs.name) (by decide +kernel)) (hts (.initialized "java/lang/Math") (by decide +kernel)) (hts (.code Lib.Math.abs.name Lib.Math.abs.code 1 (some .int)) (by decide +kernel)) (by first | decide | exact Nat.le_of_ble_eq_true rfl) (by first | decide | exact Nat.le_of_ble_eq_true rfl) (by first | decide | exact Nat.le_of_ble_eq_true rfl) (by first | decide | exact Nat.le_of_ble_eq_true rfl) dX2_truest_36 ?_
      refine topI (y := absI (fD j9)) rfl ?_
      refine lv_icmp_ge (tgt := 44) hx hb dX2_truest_39 (by decide) (fun c_39 => ?_) (fun c_39 => ?_)
      · skip
        simp only [Int32.le_iff_toInt_le] at c_39
        have e7 := bhS (fD := fD) (i := i) (j := j9) (by omega) e9 c_39
        refine lv_iinc (v := (nI (i + 1))) (lv' := [(2, .int (nI (i + 1))), (0, .ref (b 0)), (1, .int (nI j9))]) hx hb dX2_truest_44 hl (k := 2) rfl (nI_inc i) (by decide) rfl (fun ls hl => ?_)
        refine lv_goto (tgt := 4) hx hb dX2_truest_47 (by decide) ?_
        exact kk () ls (by omega) ⟨by rw [e7]; exact lv_sub hl [1, 2, 0] rfl, trivial⟩
      · skip
        simp only [Int32.le_iff_toInt_le] at c_39
        have e7 := bhY (fD := fD) (i := i) (j := j9) (by omega) e9 c_39
        refine lv_iload_n hx hb dX2_truest_42 rfl (lv_at hl 2 rfl) ?_
        refine lv_istore_n (lv' := [(1, .int (nI i)), (0, .ref (b 0)), (2, .int (nI i))]) hx hb dX2_truest_43 rfl hl (by decide) rfl (fun ls hl => ?_)
        refine lv_iinc (v := (nI (i + 1))) (lv' := [(2, .int (nI (i + 1))), (1, .int (nI i)), (0, .ref (b 0))]) hx hb dX2_truest_44 hl (k := 2) rfl (nI_inc i) (by decide) rfl (fun ls hl => ?_)
        refine lv_goto (tgt := 4) hx hb dX2_truest_47 (by decide) ?_
        exact kk () ls (by omega) ⟨by rw [e7]; exact lv_sub hl [2, 1, 0] rfl, trivial⟩

set_option maxHeartbeats 4000000 in
set_option maxRecDepth 100000 in
theorem c_X2_kindest (l : Launch) (D : va_G) (cI cJ : ClassId) (b : Nat → Nat) (th : Int32) (k st c : Nat) (t : Int32) (lf : Int64) (mB mM mP : Nat → Int32) (mL : Nat → Int64) (mO fW : Nat → Int32) (y : Nat) (fi : Int32) (fD mK : Nat → Int32) (hc : c ≤ 6) : Met l yX2_kindest wsX2_kindest ({ frames := 1, cells := 0, slots := 0, locals := 20 }) (cP D [((b 0), .inr (2, [.int th, .int (nI k), .ref (b 1), .ref (b 2), .ref (b 3), .ref (b 4), .ref (b 5), .int (nI st), .int (nI c), .ref (b 6), .int t, .ref (b 7), .ref (b 8), .long lf])), ((b 1), .inl (cI, 8, .inl mB)), ((b 2), .inl (cI, 8, .inl mM)), ((b 3), .inl (cI, 8, .inl mP)), ((b 4), .inl (cJ, 8, .inr (.inl mL))), ((b 5), .inl (cI, 8, .inl mO)), ((b 6), .inl (cI, 6, .inl fW)), ((b 7), .inl (cI, 8, .inl (nwF y fi fD))), ((b 8), .inl (cI, 8, .inl mK))] (KM D cI cJ) [.ref (b 0)]) (roi (fun r => r = bgN fD c)) 0 0 (fun _ => False) := by
  refine Met.ofW (cc := cX2_kindest) (maxL := 3) (ret := (some .int)) (by decide +kernel) rfl ?_
  intro p e s m args below meth c9 s₁ B hml hv
  obtain ⟨rfl, hP, hC⟩ := hv
  have hx := B.exec
  have hb := B.bytes
  have hr := B.returns
  have hts := atoms_spec (ws := wsX2_kindest) B.pre
  have hown : s.vm.findClass RX2 = some m.cls := findClass_of_methodNamed B.named
  have hlocks := B.notSynchronized
  have hK : va_K D vwCl [(cI, .int), (cJ, .long)] s := hC
  have hl := lv_entry ([.ref (b 0)]) (n := 3) (Nat.le_of_ble_eq_true rfl)
  rw [lg_entry_eq]
  generalize (lg_sl ([.ref (b 0)]) ++ List.replicate (3 - (lg_sl ([.ref (b 0)])).length) Slot.unset).toArray = ls at hl ⊢
  have hl : lv_has ls 3 [(0, .ref (b 0))] := hl
  have hiX2 : ∀ w ∈ u_ws RX2 TX2 14, w ∈ wsX2_kindest := by decide +kernel
  have hw36 : (Cond.fieldLink RX2 36 "OldMeasuresModel" "now" "[I").before ([.ref (b 0)] : List Value).toArray s = true := hts _ (by decide +kernel)
  have hw49 : (Cond.fieldLink RX2 49 "OldMeasuresModel" "stalls" "I").before ([.ref (b 0)] : List Value).toArray s = true := hts _ (by decide +kernel)
  refine lv_iconst (v := (-1)) hx hb dX2_kindest_0 (by decide) ?_
  refine lv_istore_n (lv' := [(1, .int (-1)), (0, .ref (b 0))]) hx hb dX2_kindest_1 rfl hl (by decide) rfl (fun ls hl => ?_)
  refine lv_iconst (v := 0) hx hb dX2_kindest_2 (by decide) ?_
  refine lv_istore_n (lv' := [(2, .int 0), (1, .int (-1)), (0, .ref (b 0))]) hx hb dX2_kindest_3 rfl hl (by decide) rfl (fun ls hl => ?_)
  refine loopR (σ := Unit) (I := fun i x ls => lv_has ls 3 [(0, .ref (b 0)), (1, .int (bgN fD i)), (2, .int (nI i))] ∧ (True)) c ?_ 0 () ls (by omega) ⟨lv_sub hl [2, 1, 0] rfl, trivial⟩
  intro i x ls hi hI kk
  obtain ⟨hl, _⟩ := hI
  refine lv_iload_n hx hb dX2_kindest_4 rfl (lv_at hl 2 rfl) ?_
  refine lv_aload_n hx hb dX2_kindest_5 rfl (lv_at hl 0 rfl) ?_
  refine va_get (D := D) (ci := 2) (v := .int (nI c)) (C := RX2) (T := TX2) (N := 14) hx hb hts hiX2 hown hK hP 0 rfl rfl 8 (by decide) hw49 (fun _ h9 => h9) rfl dX2_kindest_6 ?_
  refine lv_icmp_ge (tgt := 44) hx hb dX2_kindest_9 (by decide) (fun c_9 => ?_) (fun c_9 => ?_)
  · skip
    simp only [Int32.le_iff_toInt_le] at c_9
    rw [nI_toInt (n := i) (by omega)] at c_9
    rw [nI_toInt (n := c) (by omega)] at c_9
    have e9 : c = i := by omega
    subst e9
    refine lv_iload_n hx hb dX2_kindest_44 rfl (lv_at hl 1 rfl) ?_
    exact W.iret (v := (bgN fD c)) hx hb hr (fun t9 ht hW => ⟨_, rfl, rfl, ht⟩) (fun q hq => absurd hq List.not_mem_nil) dX2_kindest_45
  · skip
    simp only [Int32.le_iff_toInt_le] at c_9
    rw [nI_toInt (n := i) (by omega)] at c_9
    rw [nI_toInt (n := c) (by omega)] at c_9
    refine lv_iload_n hx hb dX2_kindest_12 rfl (lv_at hl 1 rfl) ?_
    refine lv_iconst (v := (-1)) hx hb dX2_kindest_13 (by decide) ?_
    refine lv_icmp_eq (tgt := 36) hx hb dX2_kindest_14 (by decide) (fun c_14 => ?_) (fun c_14 => ?_)
    · skip
      have e7 : bgN fD (i + 1) = nI i := ic_t (Or.inl c_14)
      refine lv_iload_n hx hb dX2_kindest_36 rfl (lv_at hl 2 rfl) ?_
      refine lv_istore_n (lv' := [(1, .int (nI i)), (0, .ref (b 0)), (2, .int (nI i))]) hx hb dX2_kindest_37 rfl hl (by decide) rfl (fun ls hl => ?_)
      refine lv_iinc (v := (nI (i + 1))) (lv' := [(2, .int (nI (i + 1))), (1, .int (nI i)), (0, .ref (b 0))]) hx hb dX2_kindest_38 hl (k := 2) rfl (nI_inc i) (by decide) rfl (fun ls hl => ?_)
      refine lv_goto (tgt := 4) hx hb dX2_kindest_41 (by decide) ?_
      exact kk () ls (by omega) ⟨by rw [e7]; exact lv_sub hl [2, 1, 0] rfl, trivial⟩
    · skip
      obtain ⟨j9, hj9, e9⟩ := bgN_of c_14
      rw [e9] at hl
      refine lv_aload_n hx hb dX2_kindest_17 rfl (lv_at hl 0 rfl) ?_
      refine va_get (D := D) (ci := 2) (v := .ref (b 7)) (C := RX2) (T := TX2) (N := 14) hx hb hts hiX2 hown hK hP 0 rfl rfl 11 (by decide) hw36 (fun _ h9 => h9) rfl dX2_kindest_18 ?_
      refine lv_iconst (v := 2) hx hb dX2_kindest_21 (by decide) ?_
      refine lv_iload_n hx hb dX2_kindest_22 rfl (lv_at hl 2 rfl) ?_
      refine lv_iadd hx hb dX2_kindest_23 ?_
      refine topI (two_nI i) ?_
      refine xa_iald hx hb hK hP 7 0 rfl rfl (by omega) (by decide) dX2_kindest_24 ?_
      refine topI (y := (fD i)) rfl ?_
      refine lv_aload_n hx hb dX2_kindest_25 rfl (lv_at hl 0 rfl) ?_
      refine va_get (D := D) (ci := 2) (v := .ref (b 7)) (C := RX2) (T := TX2) (N := 14) hx hb hts hiX2 hown hK hP 0 rfl rfl 11 (by decide) hw36 (fun _ h9 => h9) rfl dX2_kindest_26 ?_
      refine lv_iconst (v := 2) hx hb dX2_kindest_29 (by decide) ?_
      refine lv_iload_n hx hb dX2_kindest_30 rfl (lv_at hl 1 rfl) ?_
      refine lv_iadd hx hb dX2_kindest_31 ?_
      refine topI (two_nI j9) ?_
      refine xa_iald hx hb hK hP 7 0 rfl rfl (by omega) (by decide) dX2_kindest_32 ?_
      refine topI (y := (fD j9)) rfl ?_
      refine lv_icmp_le (tgt := 38) hx hb dX2_kindest_33 (by decide) (fun c_33 => ?_) (fun c_33 => ?_)
      · skip
        simp only [Int32.le_iff_toInt_le] at c_33
        have e7 := bgS (fD := fD) (i := i) (j := j9) (by omega) e9 c_33
        refine lv_iinc (v := (nI (i + 1))) (lv' := [(2, .int (nI (i + 1))), (0, .ref (b 0)), (1, .int (nI j9))]) hx hb dX2_kindest_38 hl (k := 2) rfl (nI_inc i) (by decide) rfl (fun ls hl => ?_)
        refine lv_goto (tgt := 4) hx hb dX2_kindest_41 (by decide) ?_
        exact kk () ls (by omega) ⟨by rw [e7]; exact lv_sub hl [1, 2, 0] rfl, trivial⟩
      · skip
        simp only [Int32.le_iff_toInt_le] at c_33
        have e7 := bgY (fD := fD) (i := i) (j := j9) (by omega) e9 c_33
        refine lv_iload_n hx hb dX2_kindest_36 rfl (lv_at hl 2 rfl) ?_
        refine lv_istore_n (lv' := [(1, .int (nI i)), (0, .ref (b 0)), (2, .int (nI i))]) hx hb dX2_kindest_37 rfl hl (by decide) rfl (fun ls hl => ?_)
        refine lv_iinc (v := (nI (i + 1))) (lv' := [(2, .int (nI (i + 1))), (1, .int (nI i)), (0, .ref (b 0))]) hx hb dX2_kindest_38 hl (k := 2) rfl (nI_inc i) (by decide) rfl (fun ls hl => ?_)
        refine lv_goto (tgt := 4) hx hb dX2_kindest_41 (by decide) ?_
        exact kk () ls (by omega) ⟨by rw [e7]; exact lv_sub hl [2, 1, 0] rfl, trivial⟩

set_option maxHeartbeats 4000000 in
set_option maxRecDepth 100000 in
theorem c_X2_gets (l : Launch) (D : va_G) (cI cJ : ClassId) (b : Nat → Nat) (th : Int32) (k st c : Nat) (t : Int32) (lf : Int64) (mB mM mP : Nat → Int32) (mL : Nat → Int64) (mO fW : Nat → Int32) (y : Nat) (fi : Int32) (fD mK : Nat → Int32) (hM : MOk k mL mO) (hst2 : st < k) (w : Int32) (hw9 : inR 1 200 w) (j : Nat) (hj : j < k) (dr : Int32) (hd : -300 ≤ dr.toInt ∧ dr.toInt ≤ 300) : Met l yX2_gets wsX2_gets ({ frames := 2, cells := 0, slots := 0, locals := 60 }) (cP D [((b 0), .inr (2, [.int th, .int (nI k), .ref (b 1), .ref (b 2), .ref (b 3), .ref (b 4), .ref (b 5), .int (nI st), .int (nI c), .ref (b 6), .int t, .ref (b 7), .ref (b 8), .long lf])), ((b 1), .inl (cI, 8, .inl mB)), ((b 2), .inl (cI, 8, .inl mM)), ((b 3), .inl (cI, 8, .inl mP)), ((b 4), .inl (cJ, 8, .inr (.inl mL))), ((b 5), .inl (cI, 8, .inl mO)), ((b 6), .inl (cI, 6, .inl fW)), ((b 7), .inl (cI, 8, .inl (nwF y fi fD))), ((b 8), .inl (cI, 8, .inl mK))] (KM D cI cJ) [.ref (b 0), .int w, .int (nI j), .int dr]) (rol (fun r => r = gvn (mL j) (mL st) w dr)) 0 0 (fun _ => False) := by
  refine Met.ofW (cc := cX2_gets) (maxL := 4) (ret := (some .long)) (by decide +kernel) rfl ?_
  intro p e s m args below meth c9 s₁ B hml hv
  obtain ⟨rfl, hP, hC⟩ := hv
  have hx := B.exec
  have hb := B.bytes
  have hr := B.returns
  have hts := atoms_spec (ws := wsX2_gets) B.pre
  have hown : s.vm.findClass RX2 = some m.cls := findClass_of_methodNamed B.named
  have hlocks := B.notSynchronized
  have hK : va_K D vwCl [(cI, .int), (cJ, .long)] s := hC
  have hl := lv_entry ([.ref (b 0), .int w, .int (nI j), .int dr]) (n := 4) (Nat.le_of_ble_eq_true rfl)
  rw [lg_entry_eq]
  generalize (lg_sl ([.ref (b 0), .int w, .int (nI j), .int dr]) ++ List.replicate (4 - (lg_sl ([.ref (b 0), .int w, .int (nI j), .int dr])).length) Slot.unset).toArray = ls at hl ⊢
  have hl : lv_has ls 4 [(0, .ref (b 0)), (1, .int w), (2, .int (nI j)), (3, .int dr)] := hl
  have hk8 : k ≤ 8 := hM.2.1
  have hk1 : 1 ≤ k := hM.1
  have hiX2 : ∀ w ∈ u_ws RX2 TX2 14, w ∈ wsX2_gets := by decide +kernel
  have hw88 : (Cond.fieldLink RX2 88 "OldMeasuresModel" "standard" "I").before ([.ref (b 0), .int w, .int (nI j), .int dr] : List Value).toArray s = true := hts _ (by decide +kernel)
  refine lv_iload_n hx hb dX2_gets_0 rfl (lv_at hl 1 rfl) ?_
  refine lv_i2l (v := (w).toInt64) hx hb dX2_gets_1 rfl ?_
  refine lv_aload_n hx hb dX2_gets_2 rfl (lv_at hl 0 rfl) ?_
  refine lv_iload_n hx hb dX2_gets_3 rfl (lv_at hl 2 rfl) ?_
  refine lv_aload_n hx hb dX2_gets_4 rfl (lv_at hl 0 rfl) ?_
  refine va_get (D := D) (ci := 2) (v := .int (nI st)) (C := RX2) (T := TX2) (N := 14) hx hb hts hiX2 hown hK hP 0 rfl rfl 7 (by decide) hw88 (fun _ h9 => h9) rfl dX2_gets_5 ?_
  refine ro_lE (va_runV (As := [.int (nI j), .int (nI st)]) (rest := [.long (w).toInt64]) ⟨hx, hb, hml, hown, hts⟩ (c_X2_top l D cI cJ b th k st c t lf mB mM mP mL mO fW y fi fD mK hM j st (by omega) (by omega)) (cwV 2 hts gX2_gets_X2_top rfl rfl rfl (by decide +kernel) ⟨Nat.le_of_ble_eq_true rfl, Nat.le_of_ble_eq_true rfl⟩) (preV_ro KM_ok (hP.sub (ws' := [((b 0), .inr (2, [.int th, .int (nI k), .ref (b 1), .ref (b 2), .ref (b 3), .ref (b 4), .ref (b 5), .int (nI st), .int (nI c), .ref (b 6), .int t, .ref (b 7), .ref (b 8), .long lf])), ((b 1), .inl (cI, 8, .inl mB)), ((b 2), .inl (cI, 8, .inl mM)), ((b 3), .inl (cI, 8, .inl mP)), ((b 4), .inl (cJ, 8, .inr (.inl mL))), ((b 5), .inl (cI, 8, .inl mO)), ((b 6), .inl (cI, 6, .inl fW)), ((b 7), .inl (cI, 8, .inl (nwF y fi fD))), ((b 8), .inl (cI, 8, .inl mK))]) [0, 1, 2, 3, 4, 5, 6, 7, 8] rfl) hK (va_recv hK hP (ci := 2) (q0 := 0) rfl rfl)) rfl rfl hl.1 rfl (lv_room (Nat.le_of_ble_eq_true rfl)) dX2_gets_8 ⟨by decide, by decide⟩) ?_
  refine lv_lmul hx hb dX2_gets_11 ?_
  refine lv_sipush (v := 1000) hx hb dX2_gets_12 (by decide) ?_
  refine lv_iload_n hx hb dX2_gets_15 rfl (lv_at hl 3 rfl) ?_
  refine lv_iadd hx hb dX2_gets_16 ?_
  refine lv_i2l (v := ((1000 + dr)).toInt64) hx hb dX2_gets_17 rfl ?_
  refine lv_lmul hx hb dX2_gets_18 ?_
  refine lv_aload_n hx hb dX2_gets_19 rfl (lv_at hl 0 rfl) ?_
  refine lv_aload_n hx hb dX2_gets_20 rfl (lv_at hl 0 rfl) ?_
  refine va_get (D := D) (ci := 2) (v := .int (nI st)) (C := RX2) (T := TX2) (N := 14) hx hb hts hiX2 hown hK hP 0 rfl rfl 7 (by decide) hw88 (fun _ h9 => h9) rfl dX2_gets_21 ?_
  refine lv_iload_n hx hb dX2_gets_24 rfl (lv_at hl 2 rfl) ?_
  refine ro_lE (va_runV (As := [.int (nI st), .int (nI j)]) (rest := [.long (((w).toInt64 * (tp (mL j) (mL st))) * ((1000 + dr)).toInt64)]) ⟨hx, hb, hml, hown, hts⟩ (c_X2_top l D cI cJ b th k st c t lf mB mM mP mL mO fW y fi fD mK hM st j (by omega) (by omega)) (cwV 2 hts gX2_gets_X2_top rfl rfl rfl (by decide +kernel) ⟨Nat.le_of_ble_eq_true rfl, Nat.le_of_ble_eq_true rfl⟩) (preV_ro KM_ok (hP.sub (ws' := [((b 0), .inr (2, [.int th, .int (nI k), .ref (b 1), .ref (b 2), .ref (b 3), .ref (b 4), .ref (b 5), .int (nI st), .int (nI c), .ref (b 6), .int t, .ref (b 7), .ref (b 8), .long lf])), ((b 1), .inl (cI, 8, .inl mB)), ((b 2), .inl (cI, 8, .inl mM)), ((b 3), .inl (cI, 8, .inl mP)), ((b 4), .inl (cJ, 8, .inr (.inl mL))), ((b 5), .inl (cI, 8, .inl mO)), ((b 6), .inl (cI, 6, .inl fW)), ((b 7), .inl (cI, 8, .inl (nwF y fi fD))), ((b 8), .inl (cI, 8, .inl mK))]) [0, 1, 2, 3, 4, 5, 6, 7, 8] rfl) hK (va_recv hK hP (ci := 2) (q0 := 0) rfl rfl)) rfl rfl hl.1 rfl (lv_room (Nat.le_of_ble_eq_true rfl)) dX2_gets_25 ⟨by decide, by decide⟩) ?_
  refine lv_ldiv hx hb dX2_gets_28 (ne0_of (tp_pos (hM.2.2.1 _ hst2) (hM.2.2.1 _ hj))) ?_
  exact W.lret (v := ((((w).toInt64 * (tp (mL j) (mL st))) * ((1000 + dr)).toInt64) / (tp (mL st) (mL j)))) hx hb hr (fun t9 ht hW => ⟨_, rfl, gvn_tp (hM.2.2.1 _ hj) (hM.2.2.1 _ hst2) hw9 hd, ht⟩) (fun q hq => absurd hq List.not_mem_nil) dX2_gets_29

set_option maxHeartbeats 4000000 in
set_option maxRecDepth 100000 in
theorem c_X2_best (l : Launch) (D : va_G) (cI cJ : ClassId) (b : Nat → Nat) (th : Int32) (k st c : Nat) (t : Int32) (lf : Int64) (mB mM mP : Nat → Int32) (mL : Nat → Int64) (mO fW : Nat → Int32) (y : Nat) (fi : Int32) (fD mK : Nat → Int32) (hM : MOk k mL mO) (w : Int32) (j : Nat) (hj : j < k) (hE : ∃ i, i < k ∧ (jrem (mL j * w.toInt64) (lnA mL mO i)).toInt = (0 : Int64).toInt) (d0 : Int32) : Met l yX2_best wsX2_best ({ frames := 0, cells := 0, slots := 0, locals := 0 }) (cP D [((b 0), .inr (2, [.int th, .int (nI k), .ref (b 1), .ref (b 2), .ref (b 3), .ref (b 4), .ref (b 5), .int (nI st), .int (nI c), .ref (b 6), .int t, .ref (b 7), .ref (b 8), .long lf])), ((b 1), .inl (cI, 8, .inl mB)), ((b 2), .inl (cI, 8, .inl mM)), ((b 3), .inl (cI, 8, .inl mP)), ((b 4), .inl (cJ, 8, .inr (.inl mL))), ((b 5), .inl (cI, 8, .inl mO)), ((b 6), .inl (cI, 6, .inl fW)), ((b 7), .inl (cI, 8, .inl (nwF y fi fD))), ((b 8), .inl (cI, 8, .inl mK))] (KM D cI cJ) [.ref (b 0), .int w, .int (nI j)]) (roi (fun r => r = bst (lnA mL mO) (mL j * (w).toInt64) mO d0 k 0)) 0 0 (fun _ => False) := by
  refine Met.ofW (cc := cX2_best) (maxL := 4) (ret := (some .int)) (by decide +kernel) rfl ?_
  intro p e s m args below meth c9 s₁ B hml hv
  obtain ⟨rfl, hP, hC⟩ := hv
  have hx := B.exec
  have hb := B.bytes
  have hr := B.returns
  have hts := atoms_spec (ws := wsX2_best) B.pre
  have hown : s.vm.findClass RX2 = some m.cls := findClass_of_methodNamed B.named
  have hlocks := B.notSynchronized
  have hK : va_K D vwCl [(cI, .int), (cJ, .long)] s := hC
  have hl := lv_entry ([.ref (b 0), .int w, .int (nI j)]) (n := 4) (Nat.le_of_ble_eq_true rfl)
  rw [lg_entry_eq]
  generalize (lg_sl ([.ref (b 0), .int w, .int (nI j)]) ++ List.replicate (4 - (lg_sl ([.ref (b 0), .int w, .int (nI j)])).length) Slot.unset).toArray = ls at hl ⊢
  have hl : lv_has ls 4 [(0, .ref (b 0)), (1, .int w), (2, .int (nI j))] := hl
  have hk8 : k ≤ 8 := hM.2.1
  have hk1 : 1 ≤ k := hM.1
  have hiX2 : ∀ w ∈ u_ws RX2 TX2 14, w ∈ wsX2_best := by decide +kernel
  have hw23 : (Cond.fieldLink RX2 23 "OldMeasuresModel" "length" "[J").before ([.ref (b 0), .int w, .int (nI j)] : List Value).toArray s = true := hts _ (by decide +kernel)
  have hw27 : (Cond.fieldLink RX2 27 "OldMeasuresModel" "order" "[I").before ([.ref (b 0), .int w, .int (nI j)] : List Value).toArray s = true := hts _ (by decide +kernel)
  refine lv_iconst (v := 0) hx hb dX2_best_0 (by decide) ?_
  refine lv_istore_n (lv' := [(3, .int 0), (0, .ref (b 0)), (1, .int w), (2, .int (nI j))]) hx hb dX2_best_1 rfl hl (by decide) rfl (fun ls hl => ?_)
  refine loopR (σ := Unit) (I := fun i x ls => lv_has ls 4 [(0, .ref (b 0)), (1, .int w), (2, .int (nI j)), (3, .int (nI i))] ∧ (bst (lnA mL mO) (mL j * (w).toInt64) mO d0 (k - i) i = bst (lnA mL mO) (mL j * (w).toInt64) mO d0 k 0) ∧ (∀ q, q < i → ¬ (jrem (mL j * (w).toInt64) (lnA mL mO q)).toInt = (0 : Int64).toInt)) k ?_ 0 () ls (by omega) ⟨lv_sub hl [1, 2, 3, 0] rfl, rfl, lt_0⟩
  intro i x ls hi hI kk
  obtain ⟨hl, hB, hne⟩ := hI
  have hik : i < k := by
    obtain ⟨q9, hq9, hq8⟩ := hE
    exact Nat.lt_of_not_le (fun h7 => hne q9 (by omega) hq8)
  obtain ⟨n9, hn9⟩ : ∃ n9, k - i = n9 + 1 := ⟨k - i - 1, by omega⟩
  refine lv_iload_n hx hb dX2_best_2 rfl (lv_at hl 1 rfl) ?_
  refine lv_i2l (v := (w).toInt64) hx hb dX2_best_3 rfl ?_
  refine lv_aload_n hx hb dX2_best_4 rfl (lv_at hl 0 rfl) ?_
  refine va_get (D := D) (ci := 2) (v := .ref (b 4)) (C := RX2) (T := TX2) (N := 14) hx hb hts hiX2 hown hK hP 0 rfl rfl 5 (by decide) hw23 (fun _ h9 => h9) rfl dX2_best_5 ?_
  refine lv_iload_n hx hb dX2_best_8 rfl (lv_at hl 2 rfl) ?_
  refine xa_lald hx hb hK hP 4 1 rfl rfl (by omega) (by decide) dX2_best_9 ?_
  refine lv_lmul hx hb dX2_best_10 ?_
  refine topL (Int64.mul_comm _ _) ?_
  refine lv_aload_n hx hb dX2_best_11 rfl (lv_at hl 0 rfl) ?_
  refine va_get (D := D) (ci := 2) (v := .ref (b 4)) (C := RX2) (T := TX2) (N := 14) hx hb hts hiX2 hown hK hP 0 rfl rfl 5 (by decide) hw23 (fun _ h9 => h9) rfl dX2_best_12 ?_
  refine lv_aload_n hx hb dX2_best_15 rfl (lv_at hl 0 rfl) ?_
  refine va_get (D := D) (ci := 2) (v := .ref (b 5)) (C := RX2) (T := TX2) (N := 14) hx hb hts hiX2 hown hK hP 0 rfl rfl 6 (by decide) hw27 (fun _ h9 => h9) rfl dX2_best_16 ?_
  refine lv_iload_n hx hb dX2_best_19 rfl (lv_at hl 3 rfl) ?_
  refine xa_iald hx hb hK hP 5 0 rfl rfl (by omega) (by decide) dX2_best_20 ?_
  refine va_lald hx hb hK hP 4 1 rfl rfl (vp_in_iff.mpr (hM.at hik)) dX2_best_21 ?_
  refine topL (y := lnA mL mO i) rfl ?_
  refine lv_lrem hx hb dX2_best_22 (ne0_of (hM.pos hik)) ?_
  refine topL (y := jrem (mL j * (w).toInt64) (lnA mL mO i)) rfl ?_
  refine lv_lconst (v := 0) hx hb dX2_best_23 (by decide) ?_
  refine W.lcmp hx hb dX2_best_24 ?_
  refine lv_if_eq (tgt := 34) hx hb dX2_best_25 (by decide) (fun c_25 => ?_) (fun c_25 => ?_)
  · skip
    have c_25 := (lgc_eq _ _).mp c_25
    rw [hn9, bst, ic_t c_25] at hB
    refine lv_aload_n hx hb dX2_best_34 rfl (lv_at hl 0 rfl) ?_
    refine va_get (D := D) (ci := 2) (v := .ref (b 5)) (C := RX2) (T := TX2) (N := 14) hx hb hts hiX2 hown hK hP 0 rfl rfl 6 (by decide) hw27 (fun _ h9 => h9) rfl dX2_best_35 ?_
    refine lv_iload_n hx hb dX2_best_38 rfl (lv_at hl 3 rfl) ?_
    refine xa_iald hx hb hK hP 5 0 rfl rfl (by omega) (by decide) dX2_best_39 ?_
    exact W.iret (v := (mO i)) hx hb hr (fun t9 ht hW => ⟨_, rfl, hB, ht⟩) (fun q hq => absurd hq List.not_mem_nil) dX2_best_40
  · skip
    have c_25 := (not_congr (lgc_eq _ _)).mp c_25
    rw [hn9, bst, ic_f c_25] at hB
    refine lv_iinc (v := (nI (i + 1))) (lv' := [(3, .int (nI (i + 1))), (0, .ref (b 0)), (1, .int w), (2, .int (nI j))]) hx hb dX2_best_28 hl (k := 3) rfl (nI_inc i) (by decide) rfl (fun ls hl => ?_)
    refine lv_goto (tgt := 2) hx hb dX2_best_31 (by decide) ?_
    exact kk () ls (by omega) ⟨lv_sub hl [1, 2, 3, 0] rfl, (by rw [show k - (i + 1) = n9 by omega]; exact hB), (lt_s hne c_25)⟩

set_option maxHeartbeats 4000000 in
set_option maxRecDepth 100000 in
theorem c_X2_split_n (l : Launch) (D : va_G) (cI cJ : ClassId) (sz : Nat) (b : Nat → Nat) (th : Int32) (k st c : Nat) (t : Int32) (lf : Int64) (mB mM mP : Nat → Int32) (mL : Nat → Int64) (mO fW : Nat → Int32) (y : Nat) (fi : Int32) (fD mK : Nat → Int32) (hM : MOk k mL mO) (X : Int64) : Met l yX2_split wsX2_split ({ frames := 0, cells := 0, slots := 0, locals := 0 }) (cPw D [((b 0), .inr (2, [.int th, .int (nI k), .ref (b 1), .ref (b 2), .ref (b 3), .ref (b 4), .ref (b 5), .int (nI st), .int (nI c), .ref (b 6), .int t, .ref (b 7), .ref (b 8), .long lf])), ((b 1), .inl (cI, 8, .inl mB)), ((b 2), .inl (cI, 8, .inl mM)), ((b 3), .inl (cI, 8, .inl mP)), ((b 4), .inl (cJ, 8, .inr (.inl mL))), ((b 5), .inl (cI, 8, .inl mO)), ((b 6), .inl (cI, 6, .inl fW)), ((b 7), .inl (cI, 8, .inl (nwF y fi fD))), ((b 8), .inl (cI, 8, .inl mK))] sz (KM D cI cJ) [.ref (b 0), .long X, .int (-1)]) (wrl D [((b 0), .inr (2, [.int th, .int (nI k), .ref (b 1), .ref (b 2), .ref (b 3), .ref (b 4), .ref (b 5), .int (nI st), .int (nI c), .ref (b 6), .int t, .ref (b 7), .ref (b 8), .long lf])), ((b 1), .inl (cI, 8, .inl mB)), ((b 2), .inl (cI, 8, .inl mM)), ((b 3), .inl (cI, 8, .inl mP)), ((b 4), .inl (cJ, 8, .inr (.inl mL))), ((b 5), .inl (cI, 8, .inl mO)), ((b 6), .inl (cI, 6, .inl fW)), ((b 7), .inl (cI, 8, .inl (nwF y fi fD))), ((b 8), .inl (cI, 8, .inl mK))] sz (fun r ws' => r = (tkT (lnA mL mO) X k) ∧ ws' = [((b 0), .inr (2, [.int th, .int (nI k), .ref (b 1), .ref (b 2), .ref (b 3), .ref (b 4), .ref (b 5), .int (nI st), .int (nI c), .ref (b 6), .int t, .ref (b 7), .ref (b 8), .long (lfT (lnA mL mO) X k)])), ((b 1), .inl (cI, 8, .inl mB)), ((b 2), .inl (cI, 8, .inl mM)), ((b 3), .inl (cI, 8, .inl mP)), ((b 4), .inl (cJ, 8, .inr (.inl mL))), ((b 5), .inl (cI, 8, .inl mO)), ((b 6), .inl (cI, 6, .inl fW)), ((b 7), .inl (cI, 8, .inl (nwF y fi fD))), ((b 8), .inl (cI, 8, .inl mK))])) 0 0 (va_A [((b 0), .inr (2, [.int th, .int (nI k), .ref (b 1), .ref (b 2), .ref (b 3), .ref (b 4), .ref (b 5), .int (nI st), .int (nI c), .ref (b 6), .int t, .ref (b 7), .ref (b 8), .long lf])), ((b 1), .inl (cI, 8, .inl mB)), ((b 2), .inl (cI, 8, .inl mM)), ((b 3), .inl (cI, 8, .inl mP)), ((b 4), .inl (cJ, 8, .inr (.inl mL))), ((b 5), .inl (cI, 8, .inl mO)), ((b 6), .inl (cI, 6, .inl fW)), ((b 7), .inl (cI, 8, .inl (nwF y fi fD))), ((b 8), .inl (cI, 8, .inl mK))] sz) := by
  refine Met.ofW (cc := cX2_split) (maxL := 8) (ret := (some .long)) (by decide +kernel) rfl ?_
  intro p e s m args below meth c9 s₁ B hml hv
  obtain ⟨rfl, hsz, hP, hD0, hC⟩ := hv
  have hx := B.exec
  have hb := B.bytes
  have hr := B.returns
  have hts := atoms_spec (ws := wsX2_split) B.pre
  have hown : s.vm.findClass RX2 = some m.cls := findClass_of_methodNamed B.named
  have hlocks := B.notSynchronized
  have hK : va_K D vwCl [(cI, .int), (cJ, .long)] s := hC
  subst hsz
  unfold wrl wB
  have hD := hD0.self (sz := s.heap.size)
  generalize hAe : va_A [((b 0), .inr (2, [.int th, .int (nI k), .ref (b 1), .ref (b 2), .ref (b 3), .ref (b 4), .ref (b 5), .int (nI st), .int (nI c), .ref (b 6), .int t, .ref (b 7), .ref (b 8), .long lf])), ((b 1), .inl (cI, 8, .inl mB)), ((b 2), .inl (cI, 8, .inl mM)), ((b 3), .inl (cI, 8, .inl mP)), ((b 4), .inl (cJ, 8, .inr (.inl mL))), ((b 5), .inl (cI, 8, .inl mO)), ((b 6), .inl (cI, 6, .inl fW)), ((b 7), .inl (cI, 8, .inl (nwF y fi fD))), ((b 8), .inl (cI, 8, .inl mK))] s.heap.size = A at hD ⊢
  have hA : ∀ q : Nat, s.heap.size ≤ q → A q := fun q h => by rw [← hAe]; exact Or.inr h
  have hS : va_S A s.heap s.heap [] := va_S.rf
  have hl := lv_entry ([.ref (b 0), .long X, .int (-1)]) (n := 8) (Nat.le_of_ble_eq_true rfl)
  rw [lg_entry_eq]
  generalize (lg_sl ([.ref (b 0), .long X, .int (-1)]) ++ List.replicate (8 - (lg_sl ([.ref (b 0), .long X, .int (-1)])).length) Slot.unset).toArray = ls at hl ⊢
  have hl : lv_has ls 8 [(0, .ref (b 0)), (1, .long X), (3, .int (-1))] := hl
  have hk8 : k ≤ 8 := hM.2.1
  have hk1 : 1 ≤ k := hM.1
  have hiX2 : ∀ w ∈ u_ws RX2 TX2 14, w ∈ wsX2_split := by decide +kernel
  have hw7 : (Cond.fieldLink RX2 7 "OldMeasuresModel" "measures" "I").before ([.ref (b 0), .long X, .int (-1)] : List Value).toArray s = true := hts _ (by decide +kernel)
  have hw23 : (Cond.fieldLink RX2 23 "OldMeasuresModel" "length" "[J").before ([.ref (b 0), .long X, .int (-1)] : List Value).toArray s = true := hts _ (by decide +kernel)
  have hw27 : (Cond.fieldLink RX2 27 "OldMeasuresModel" "order" "[I").before ([.ref (b 0), .long X, .int (-1)] : List Value).toArray s = true := hts _ (by decide +kernel)
  have hw115 : (Cond.fieldLink RX2 115 "OldMeasuresModel" "left" "J").before ([.ref (b 0), .long X, .int (-1)] : List Value).toArray s = true := hts _ (by decide +kernel)
  refine lv_aload_n hx hb dX2_split_0 rfl (lv_at hl 0 rfl) ?_
  refine lv_lload_n hx hb dX2_split_1 rfl (lv_at hl 1 rfl) ?_
  refine va_put (D := D) (ci := 2) (v := .long X) (ty := .long) (C := RX2) (T := TX2) (N := 14) hx hb hts hiX2 tyX2 tyX2_ok nmX2 hown hK hP hD hS 0 rfl rfl 13 (by decide) hw115 (fun _ h9 => h9) rfl (by decide +kernel) rfl rfl (Nat.le_of_ble_eq_true rfl) dX2_split_2 (fun H locs hP hD hS => ?_)
  have hP : va_P D vwCl [((b 0), .inr (2, [.int th, .int (nI k), .ref (b 1), .ref (b 2), .ref (b 3), .ref (b 4), .ref (b 5), .int (nI st), .int (nI c), .ref (b 6), .int t, .ref (b 7), .ref (b 8), .long X])), ((b 1), .inl (cI, 8, .inl mB)), ((b 2), .inl (cI, 8, .inl mM)), ((b 3), .inl (cI, 8, .inl mP)), ((b 4), .inl (cJ, 8, .inr (.inl mL))), ((b 5), .inl (cI, 8, .inl mO)), ((b 6), .inl (cI, 6, .inl fW)), ((b 7), .inl (cI, 8, .inl (nwF y fi fD))), ((b 8), .inl (cI, 8, .inl mK))] H := hP
  have hD : va_D A [((b 0), .inr (2, [.int th, .int (nI k), .ref (b 1), .ref (b 2), .ref (b 3), .ref (b 4), .ref (b 5), .int (nI st), .int (nI c), .ref (b 6), .int t, .ref (b 7), .ref (b 8), .long X])), ((b 1), .inl (cI, 8, .inl mB)), ((b 2), .inl (cI, 8, .inl mM)), ((b 3), .inl (cI, 8, .inl mP)), ((b 4), .inl (cJ, 8, .inr (.inl mL))), ((b 5), .inl (cI, 8, .inl mO)), ((b 6), .inl (cI, 6, .inl fW)), ((b 7), .inl (cI, 8, .inl (nwF y fi fD))), ((b 8), .inl (cI, 8, .inl mK))] := hD
  refine lv_lconst (v := 0) hx hb dX2_split_5 (by decide) ?_
  refine lv_lstore (lv' := [(4, .long 0), (0, .ref (b 0)), (1, .long X), (3, .int (-1))]) hx hb dX2_split_6 hl (by decide) rfl (fun ls hl => ?_)
  refine lv_iconst (v := 0) hx hb dX2_split_8 (by decide) ?_
  refine lv_istore (lv' := [(6, .int 0), (4, .long 0), (0, .ref (b 0)), (1, .long X), (3, .int (-1))]) hx hb dX2_split_9 hl (by decide) rfl (fun ls hl => ?_)
  refine loopW (σ := Unit) (I := fun i x H locs ls => lv_has ls 8 [(0, .ref (b 0)), (3, .int (-1)), (4, .long (tkT (lnA mL mO) X i)), (6, .int (nI i))] ∧ va_P D vwCl [((b 0), .inr (2, [.int th, .int (nI k), .ref (b 1), .ref (b 2), .ref (b 3), .ref (b 4), .ref (b 5), .int (nI st), .int (nI c), .ref (b 6), .int t, .ref (b 7), .ref (b 8), .long (lfT (lnA mL mO) X i)])), ((b 1), .inl (cI, 8, .inl mB)), ((b 2), .inl (cI, 8, .inl mM)), ((b 3), .inl (cI, 8, .inl mP)), ((b 4), .inl (cJ, 8, .inr (.inl mL))), ((b 5), .inl (cI, 8, .inl mO)), ((b 6), .inl (cI, 6, .inl fW)), ((b 7), .inl (cI, 8, .inl (nwF y fi fD))), ((b 8), .inl (cI, 8, .inl mK))] H ∧ va_D A [((b 0), .inr (2, [.int th, .int (nI k), .ref (b 1), .ref (b 2), .ref (b 3), .ref (b 4), .ref (b 5), .int (nI st), .int (nI c), .ref (b 6), .int t, .ref (b 7), .ref (b 8), .long (lfT (lnA mL mO) X i)])), ((b 1), .inl (cI, 8, .inl mB)), ((b 2), .inl (cI, 8, .inl mM)), ((b 3), .inl (cI, 8, .inl mP)), ((b 4), .inl (cJ, 8, .inr (.inl mL))), ((b 5), .inl (cI, 8, .inl mO)), ((b 6), .inl (cI, 6, .inl fW)), ((b 7), .inl (cI, 8, .inl (nwF y fi fD))), ((b 8), .inl (cI, 8, .inl mK))] ∧ va_S A s.heap H locs) k ?_ 0 () _ _ ls (by omega) ⟨lv_sub hl [2, 4, 1, 0] rfl, hP, hD, hS⟩
  intro i x H locs ls hi hI kk
  obtain ⟨hl, hP, hD, hS⟩ := hI
  refine lv_iload hx hb dX2_split_11 (lv_at hl 3 rfl) ?_
  refine lv_aload_n hx hb dX2_split_13 rfl (lv_at hl 0 rfl) ?_
  refine va_get (D := D) (ci := 2) (v := .int (nI k)) (C := RX2) (T := TX2) (N := 14) hx hb hts hiX2 hown hK hP 0 rfl rfl 1 (by decide) hw7 (fun _ h9 => h9) rfl dX2_split_14 ?_
  refine lv_icmp_ge (tgt := 79) hx hb dX2_split_17 (by decide) (fun c_17 => ?_) (fun c_17 => ?_)
  · skip
    simp only [Int32.le_iff_toInt_le] at c_17
    rw [nI_toInt (n := i) (by omega)] at c_17
    rw [nI_toInt (n := k) (by omega)] at c_17
    have e9 : k = i := by omega
    subst e9
    refine lv_lload hx hb dX2_split_79 (lv_at hl 2 rfl) ?_
    exact W.lret (v := (tkT (lnA mL mO) X k)) hx hb hr (fun t9 ht hW => ⟨⟨(tkT (lnA mL mO) X k), [((b 0), .inr (2, [.int th, .int (nI k), .ref (b 1), .ref (b 2), .ref (b 3), .ref (b 4), .ref (b 5), .int (nI st), .int (nI c), .ref (b 6), .int t, .ref (b 7), .ref (b 8), .long (lfT (lnA mL mO) X k)])), ((b 1), .inl (cI, 8, .inl mB)), ((b 2), .inl (cI, 8, .inl mM)), ((b 3), .inl (cI, 8, .inl mP)), ((b 4), .inl (cJ, 8, .inr (.inl mL))), ((b 5), .inl (cI, 8, .inl mO)), ((b 6), .inl (cI, 6, .inl fW)), ((b 7), .inl (cI, 8, .inl (nwF y fi fD))), ((b 8), .inl (cI, 8, .inl mK))], rfl, ⟨rfl, rfl⟩, by rw [ht]; exact hP, hD⟩, hS.F ht⟩) hS.2.2 dX2_split_81
  · skip
    simp only [Int32.le_iff_toInt_le] at c_17
    rw [nI_toInt (n := i) (by omega)] at c_17
    rw [nI_toInt (n := k) (by omega)] at c_17
    refine lv_aload_n hx hb dX2_split_20 rfl (lv_at hl 0 rfl) ?_
    refine va_get (D := D) (ci := 2) (v := .ref (b 5)) (C := RX2) (T := TX2) (N := 14) hx hb hts hiX2 hown hK hP 0 rfl rfl 6 (by decide) hw27 (fun _ h9 => h9) rfl dX2_split_21 ?_
    refine lv_iload hx hb dX2_split_24 (lv_at hl 3 rfl) ?_
    refine xa_iald hx hb hK hP 5 0 rfl rfl (by omega) (by decide) dX2_split_26 ?_
    refine lv_istore (lv' := [(7, .int (mO i)), (0, .ref (b 0)), (3, .int (-1)), (4, .long (tkT (lnA mL mO) X i)), (6, .int (nI i))]) hx hb dX2_split_27 hl (by decide) rfl (fun ls hl => ?_)
    refine lv_iload_n hx hb dX2_split_29 rfl (lv_at hl 2 rfl) ?_
    refine lv_iconst (v := (-1)) hx hb dX2_split_30 (by decide) ?_
    refine lv_icmp_eq (tgt := 40) hx hb dX2_split_31 (by decide) (fun c_31 => ?_) (fun c_31 => ?_)
    · skip
      refine lv_lload hx hb dX2_split_40 (lv_at hl 3 rfl) ?_
      refine lv_aload_n hx hb dX2_split_42 rfl (lv_at hl 1 rfl) ?_
      refine va_get (D := D) (ci := 2) (v := .long (lfT (lnA mL mO) X i)) (C := RX2) (T := TX2) (N := 14) hx hb hts hiX2 hown hK hP 0 rfl rfl 13 (by decide) hw115 (fun _ h9 => h9) rfl dX2_split_43 ?_
      refine lv_aload_n hx hb dX2_split_46 rfl (lv_at hl 1 rfl) ?_
      refine va_get (D := D) (ci := 2) (v := .ref (b 4)) (C := RX2) (T := TX2) (N := 14) hx hb hts hiX2 hown hK hP 0 rfl rfl 5 (by decide) hw23 (fun _ h9 => h9) rfl dX2_split_47 ?_
      refine lv_iload hx hb dX2_split_50 (lv_at hl 0 rfl) ?_
      refine va_lald hx hb hK hP 4 1 rfl rfl (vp_in_iff.mpr (hM.at (by omega))) dX2_split_52 ?_
      refine topL (y := lnA mL mO i) rfl ?_
      refine lv_ldiv hx hb dX2_split_53 (ne0_of (hM.pos (by omega))) ?_
      refine lv_ladd hx hb dX2_split_54 ?_
      refine lv_lstore (lv' := [(4, .long ((tkT (lnA mL mO) X i) + ((lfT (lnA mL mO) X i) / (lnA mL mO i)))), (7, .int (mO i)), (0, .ref (b 0)), (3, .int (-1)), (6, .int (nI i))]) hx hb dX2_split_55 hl (by decide) rfl (fun ls hl => ?_)
      refine lv_aload_n hx hb dX2_split_57 rfl (lv_at hl 2 rfl) ?_
      refine lv_dup hx hb dX2_split_58 rfl ?_
      refine va_get (D := D) (ci := 2) (v := .long (lfT (lnA mL mO) X i)) (C := RX2) (T := TX2) (N := 14) hx hb hts hiX2 hown hK hP 0 rfl rfl 13 (by decide) hw115 (fun _ h9 => h9) rfl dX2_split_59 ?_
      refine lv_aload_n hx hb dX2_split_62 rfl (lv_at hl 2 rfl) ?_
      refine va_get (D := D) (ci := 2) (v := .ref (b 4)) (C := RX2) (T := TX2) (N := 14) hx hb hts hiX2 hown hK hP 0 rfl rfl 5 (by decide) hw23 (fun _ h9 => h9) rfl dX2_split_63 ?_
      refine lv_iload hx hb dX2_split_66 (lv_at hl 1 rfl) ?_
      refine va_lald hx hb hK hP 4 1 rfl rfl (vp_in_iff.mpr (hM.at (by omega))) dX2_split_68 ?_
      refine topL (y := lnA mL mO i) rfl ?_
      refine lv_lrem hx hb dX2_split_69 (ne0_of (hM.pos (by omega))) ?_
      refine va_put (D := D) (ci := 2) (v := .long ((lfT (lnA mL mO) X i) - (lfT (lnA mL mO) X i) / (lnA mL mO i) * (lnA mL mO i))) (ty := .long) (C := RX2) (T := TX2) (N := 14) hx hb hts hiX2 tyX2 tyX2_ok nmX2 hown hK hP hD hS 0 rfl rfl 13 (by decide) hw115 (fun _ h9 => h9) rfl (by decide +kernel) rfl rfl (Nat.le_of_ble_eq_true rfl) dX2_split_70 (fun H locs hP hD hS => ?_)
      have hP : va_P D vwCl [((b 0), .inr (2, [.int th, .int (nI k), .ref (b 1), .ref (b 2), .ref (b 3), .ref (b 4), .ref (b 5), .int (nI st), .int (nI c), .ref (b 6), .int t, .ref (b 7), .ref (b 8), .long ((lfT (lnA mL mO) X i) - (lfT (lnA mL mO) X i) / (lnA mL mO i) * (lnA mL mO i))])), ((b 1), .inl (cI, 8, .inl mB)), ((b 2), .inl (cI, 8, .inl mM)), ((b 3), .inl (cI, 8, .inl mP)), ((b 4), .inl (cJ, 8, .inr (.inl mL))), ((b 5), .inl (cI, 8, .inl mO)), ((b 6), .inl (cI, 6, .inl fW)), ((b 7), .inl (cI, 8, .inl (nwF y fi fD))), ((b 8), .inl (cI, 8, .inl mK))] H := hP
      have hD : va_D A [((b 0), .inr (2, [.int th, .int (nI k), .ref (b 1), .ref (b 2), .ref (b 3), .ref (b 4), .ref (b 5), .int (nI st), .int (nI c), .ref (b 6), .int t, .ref (b 7), .ref (b 8), .long ((lfT (lnA mL mO) X i) - (lfT (lnA mL mO) X i) / (lnA mL mO i) * (lnA mL mO i))])), ((b 1), .inl (cI, 8, .inl mB)), ((b 2), .inl (cI, 8, .inl mM)), ((b 3), .inl (cI, 8, .inl mP)), ((b 4), .inl (cJ, 8, .inr (.inl mL))), ((b 5), .inl (cI, 8, .inl mO)), ((b 6), .inl (cI, 6, .inl fW)), ((b 7), .inl (cI, 8, .inl (nwF y fi fD))), ((b 8), .inl (cI, 8, .inl mK))] := hD
      refine lv_iinc (v := (nI (i + 1))) (lv' := [(6, .int (nI (i + 1))), (4, .long ((tkT (lnA mL mO) X i) + ((lfT (lnA mL mO) X i) / (lnA mL mO i)))), (7, .int (mO i)), (0, .ref (b 0)), (3, .int (-1))]) hx hb dX2_split_73 hl (k := 4) rfl (nI_inc i) (by decide) rfl (fun ls hl => ?_)
      refine lv_goto (tgt := 11) hx hb dX2_split_76 (by decide) ?_
      exact kk () _ _ ls (by omega) ⟨lv_sub hl [3, 4, 1, 0] rfl, hP, hD, hS⟩
    · skip
      exact absurd rfl c_31

set_option maxHeartbeats 4000000 in
set_option maxRecDepth 100000 in
theorem c_X2_split_z (l : Launch) (D : va_G) (cI cJ : ClassId) (sz : Nat) (b : Nat → Nat) (th : Int32) (k st c : Nat) (t : Int32) (lf : Int64) (mB mM mP : Nat → Int32) (mL : Nat → Int64) (mO fW : Nat → Int32) (y : Nat) (fi : Int32) (fD mK : Nat → Int32) (hM : MOk k mL mO) (X : Int64) (z : Int32) (hz : inM k z) : Met l yX2_split wsX2_split ({ frames := 0, cells := 0, slots := 0, locals := 0 }) (cPw D [((b 0), .inr (2, [.int th, .int (nI k), .ref (b 1), .ref (b 2), .ref (b 3), .ref (b 4), .ref (b 5), .int (nI st), .int (nI c), .ref (b 6), .int t, .ref (b 7), .ref (b 8), .long lf])), ((b 1), .inl (cI, 8, .inl mB)), ((b 2), .inl (cI, 8, .inl mM)), ((b 3), .inl (cI, 8, .inl mP)), ((b 4), .inl (cJ, 8, .inr (.inl mL))), ((b 5), .inl (cI, 8, .inl mO)), ((b 6), .inl (cI, 6, .inl fW)), ((b 7), .inl (cI, 8, .inl (nwF y fi fD))), ((b 8), .inl (cI, 8, .inl mK))] sz (KM D cI cJ) [.ref (b 0), .long X, .int z]) (wrl D [((b 0), .inr (2, [.int th, .int (nI k), .ref (b 1), .ref (b 2), .ref (b 3), .ref (b 4), .ref (b 5), .int (nI st), .int (nI c), .ref (b 6), .int t, .ref (b 7), .ref (b 8), .long lf])), ((b 1), .inl (cI, 8, .inl mB)), ((b 2), .inl (cI, 8, .inl mM)), ((b 3), .inl (cI, 8, .inl mP)), ((b 4), .inl (cJ, 8, .inr (.inl mL))), ((b 5), .inl (cI, 8, .inl mO)), ((b 6), .inl (cI, 6, .inl fW)), ((b 7), .inl (cI, 8, .inl (nwF y fi fD))), ((b 8), .inl (cI, 8, .inl mK))] sz (fun r ws' => r = (spO (lnA mL mO) X mO z k) ∧ ws' = [((b 0), .inr (2, [.int th, .int (nI k), .ref (b 1), .ref (b 2), .ref (b 3), .ref (b 4), .ref (b 5), .int (nI st), .int (nI c), .ref (b 6), .int t, .ref (b 7), .ref (b 8), .long (lfT (lnA mL mO) X k)])), ((b 1), .inl (cI, 8, .inl mB)), ((b 2), .inl (cI, 8, .inl mM)), ((b 3), .inl (cI, 8, .inl mP)), ((b 4), .inl (cJ, 8, .inr (.inl mL))), ((b 5), .inl (cI, 8, .inl mO)), ((b 6), .inl (cI, 6, .inl fW)), ((b 7), .inl (cI, 8, .inl (nwF y fi fD))), ((b 8), .inl (cI, 8, .inl mK))])) 0 0 (va_A [((b 0), .inr (2, [.int th, .int (nI k), .ref (b 1), .ref (b 2), .ref (b 3), .ref (b 4), .ref (b 5), .int (nI st), .int (nI c), .ref (b 6), .int t, .ref (b 7), .ref (b 8), .long lf])), ((b 1), .inl (cI, 8, .inl mB)), ((b 2), .inl (cI, 8, .inl mM)), ((b 3), .inl (cI, 8, .inl mP)), ((b 4), .inl (cJ, 8, .inr (.inl mL))), ((b 5), .inl (cI, 8, .inl mO)), ((b 6), .inl (cI, 6, .inl fW)), ((b 7), .inl (cI, 8, .inl (nwF y fi fD))), ((b 8), .inl (cI, 8, .inl mK))] sz) := by
  refine Met.ofW (cc := cX2_split) (maxL := 8) (ret := (some .long)) (by decide +kernel) rfl ?_
  intro p e s m args below meth c9 s₁ B hml hv
  obtain ⟨rfl, hsz, hP, hD0, hC⟩ := hv
  have hx := B.exec
  have hb := B.bytes
  have hr := B.returns
  have hts := atoms_spec (ws := wsX2_split) B.pre
  have hown : s.vm.findClass RX2 = some m.cls := findClass_of_methodNamed B.named
  have hlocks := B.notSynchronized
  have hK : va_K D vwCl [(cI, .int), (cJ, .long)] s := hC
  subst hsz
  unfold wrl wB
  have hD := hD0.self (sz := s.heap.size)
  generalize hAe : va_A [((b 0), .inr (2, [.int th, .int (nI k), .ref (b 1), .ref (b 2), .ref (b 3), .ref (b 4), .ref (b 5), .int (nI st), .int (nI c), .ref (b 6), .int t, .ref (b 7), .ref (b 8), .long lf])), ((b 1), .inl (cI, 8, .inl mB)), ((b 2), .inl (cI, 8, .inl mM)), ((b 3), .inl (cI, 8, .inl mP)), ((b 4), .inl (cJ, 8, .inr (.inl mL))), ((b 5), .inl (cI, 8, .inl mO)), ((b 6), .inl (cI, 6, .inl fW)), ((b 7), .inl (cI, 8, .inl (nwF y fi fD))), ((b 8), .inl (cI, 8, .inl mK))] s.heap.size = A at hD ⊢
  have hA : ∀ q : Nat, s.heap.size ≤ q → A q := fun q h => by rw [← hAe]; exact Or.inr h
  have hS : va_S A s.heap s.heap [] := va_S.rf
  have hl := lv_entry ([.ref (b 0), .long X, .int z]) (n := 8) (Nat.le_of_ble_eq_true rfl)
  rw [lg_entry_eq]
  generalize (lg_sl ([.ref (b 0), .long X, .int z]) ++ List.replicate (8 - (lg_sl ([.ref (b 0), .long X, .int z])).length) Slot.unset).toArray = ls at hl ⊢
  have hl : lv_has ls 8 [(0, .ref (b 0)), (1, .long X), (3, .int z)] := hl
  have hk8 : k ≤ 8 := hM.2.1
  have hk1 : 1 ≤ k := hM.1
  have hiX2 : ∀ w ∈ u_ws RX2 TX2 14, w ∈ wsX2_split := by decide +kernel
  have hw7 : (Cond.fieldLink RX2 7 "OldMeasuresModel" "measures" "I").before ([.ref (b 0), .long X, .int z] : List Value).toArray s = true := hts _ (by decide +kernel)
  have hw23 : (Cond.fieldLink RX2 23 "OldMeasuresModel" "length" "[J").before ([.ref (b 0), .long X, .int z] : List Value).toArray s = true := hts _ (by decide +kernel)
  have hw27 : (Cond.fieldLink RX2 27 "OldMeasuresModel" "order" "[I").before ([.ref (b 0), .long X, .int z] : List Value).toArray s = true := hts _ (by decide +kernel)
  have hw115 : (Cond.fieldLink RX2 115 "OldMeasuresModel" "left" "J").before ([.ref (b 0), .long X, .int z] : List Value).toArray s = true := hts _ (by decide +kernel)
  refine lv_aload_n hx hb dX2_split_0 rfl (lv_at hl 0 rfl) ?_
  refine lv_lload_n hx hb dX2_split_1 rfl (lv_at hl 1 rfl) ?_
  refine va_put (D := D) (ci := 2) (v := .long X) (ty := .long) (C := RX2) (T := TX2) (N := 14) hx hb hts hiX2 tyX2 tyX2_ok nmX2 hown hK hP hD hS 0 rfl rfl 13 (by decide) hw115 (fun _ h9 => h9) rfl (by decide +kernel) rfl rfl (Nat.le_of_ble_eq_true rfl) dX2_split_2 (fun H locs hP hD hS => ?_)
  have hP : va_P D vwCl [((b 0), .inr (2, [.int th, .int (nI k), .ref (b 1), .ref (b 2), .ref (b 3), .ref (b 4), .ref (b 5), .int (nI st), .int (nI c), .ref (b 6), .int t, .ref (b 7), .ref (b 8), .long X])), ((b 1), .inl (cI, 8, .inl mB)), ((b 2), .inl (cI, 8, .inl mM)), ((b 3), .inl (cI, 8, .inl mP)), ((b 4), .inl (cJ, 8, .inr (.inl mL))), ((b 5), .inl (cI, 8, .inl mO)), ((b 6), .inl (cI, 6, .inl fW)), ((b 7), .inl (cI, 8, .inl (nwF y fi fD))), ((b 8), .inl (cI, 8, .inl mK))] H := hP
  have hD : va_D A [((b 0), .inr (2, [.int th, .int (nI k), .ref (b 1), .ref (b 2), .ref (b 3), .ref (b 4), .ref (b 5), .int (nI st), .int (nI c), .ref (b 6), .int t, .ref (b 7), .ref (b 8), .long X])), ((b 1), .inl (cI, 8, .inl mB)), ((b 2), .inl (cI, 8, .inl mM)), ((b 3), .inl (cI, 8, .inl mP)), ((b 4), .inl (cJ, 8, .inr (.inl mL))), ((b 5), .inl (cI, 8, .inl mO)), ((b 6), .inl (cI, 6, .inl fW)), ((b 7), .inl (cI, 8, .inl (nwF y fi fD))), ((b 8), .inl (cI, 8, .inl mK))] := hD
  refine lv_lconst (v := 0) hx hb dX2_split_5 (by decide) ?_
  refine lv_lstore (lv' := [(4, .long 0), (0, .ref (b 0)), (1, .long X), (3, .int z)]) hx hb dX2_split_6 hl (by decide) rfl (fun ls hl => ?_)
  refine lv_iconst (v := 0) hx hb dX2_split_8 (by decide) ?_
  refine lv_istore (lv' := [(6, .int 0), (4, .long 0), (0, .ref (b 0)), (1, .long X), (3, .int z)]) hx hb dX2_split_9 hl (by decide) rfl (fun ls hl => ?_)
  refine loopW (σ := Unit) (I := fun i x H locs ls => lv_has ls 8 [(0, .ref (b 0)), (3, .int z), (4, .long (spO (lnA mL mO) X mO z i)), (6, .int (nI i))] ∧ va_P D vwCl [((b 0), .inr (2, [.int th, .int (nI k), .ref (b 1), .ref (b 2), .ref (b 3), .ref (b 4), .ref (b 5), .int (nI st), .int (nI c), .ref (b 6), .int t, .ref (b 7), .ref (b 8), .long (lfT (lnA mL mO) X i)])), ((b 1), .inl (cI, 8, .inl mB)), ((b 2), .inl (cI, 8, .inl mM)), ((b 3), .inl (cI, 8, .inl mP)), ((b 4), .inl (cJ, 8, .inr (.inl mL))), ((b 5), .inl (cI, 8, .inl mO)), ((b 6), .inl (cI, 6, .inl fW)), ((b 7), .inl (cI, 8, .inl (nwF y fi fD))), ((b 8), .inl (cI, 8, .inl mK))] H ∧ va_D A [((b 0), .inr (2, [.int th, .int (nI k), .ref (b 1), .ref (b 2), .ref (b 3), .ref (b 4), .ref (b 5), .int (nI st), .int (nI c), .ref (b 6), .int t, .ref (b 7), .ref (b 8), .long (lfT (lnA mL mO) X i)])), ((b 1), .inl (cI, 8, .inl mB)), ((b 2), .inl (cI, 8, .inl mM)), ((b 3), .inl (cI, 8, .inl mP)), ((b 4), .inl (cJ, 8, .inr (.inl mL))), ((b 5), .inl (cI, 8, .inl mO)), ((b 6), .inl (cI, 6, .inl fW)), ((b 7), .inl (cI, 8, .inl (nwF y fi fD))), ((b 8), .inl (cI, 8, .inl mK))] ∧ va_S A s.heap H locs) k ?_ 0 () _ _ ls (by omega) ⟨lv_sub hl [2, 4, 1, 0] rfl, hP, hD, hS⟩
  intro i x H locs ls hi hI kk
  obtain ⟨hl, hP, hD, hS⟩ := hI
  refine lv_iload hx hb dX2_split_11 (lv_at hl 3 rfl) ?_
  refine lv_aload_n hx hb dX2_split_13 rfl (lv_at hl 0 rfl) ?_
  refine va_get (D := D) (ci := 2) (v := .int (nI k)) (C := RX2) (T := TX2) (N := 14) hx hb hts hiX2 hown hK hP 0 rfl rfl 1 (by decide) hw7 (fun _ h9 => h9) rfl dX2_split_14 ?_
  refine lv_icmp_ge (tgt := 79) hx hb dX2_split_17 (by decide) (fun c_17 => ?_) (fun c_17 => ?_)
  · skip
    simp only [Int32.le_iff_toInt_le] at c_17
    rw [nI_toInt (n := i) (by omega)] at c_17
    rw [nI_toInt (n := k) (by omega)] at c_17
    have e9 : k = i := by omega
    subst e9
    refine lv_lload hx hb dX2_split_79 (lv_at hl 2 rfl) ?_
    exact W.lret (v := (spO (lnA mL mO) X mO z k)) hx hb hr (fun t9 ht hW => ⟨⟨(spO (lnA mL mO) X mO z k), [((b 0), .inr (2, [.int th, .int (nI k), .ref (b 1), .ref (b 2), .ref (b 3), .ref (b 4), .ref (b 5), .int (nI st), .int (nI c), .ref (b 6), .int t, .ref (b 7), .ref (b 8), .long (lfT (lnA mL mO) X k)])), ((b 1), .inl (cI, 8, .inl mB)), ((b 2), .inl (cI, 8, .inl mM)), ((b 3), .inl (cI, 8, .inl mP)), ((b 4), .inl (cJ, 8, .inr (.inl mL))), ((b 5), .inl (cI, 8, .inl mO)), ((b 6), .inl (cI, 6, .inl fW)), ((b 7), .inl (cI, 8, .inl (nwF y fi fD))), ((b 8), .inl (cI, 8, .inl mK))], rfl, ⟨rfl, rfl⟩, by rw [ht]; exact hP, hD⟩, hS.F ht⟩) hS.2.2 dX2_split_81
  · skip
    simp only [Int32.le_iff_toInt_le] at c_17
    rw [nI_toInt (n := i) (by omega)] at c_17
    rw [nI_toInt (n := k) (by omega)] at c_17
    refine lv_aload_n hx hb dX2_split_20 rfl (lv_at hl 0 rfl) ?_
    refine va_get (D := D) (ci := 2) (v := .ref (b 5)) (C := RX2) (T := TX2) (N := 14) hx hb hts hiX2 hown hK hP 0 rfl rfl 6 (by decide) hw27 (fun _ h9 => h9) rfl dX2_split_21 ?_
    refine lv_iload hx hb dX2_split_24 (lv_at hl 3 rfl) ?_
    refine xa_iald hx hb hK hP 5 0 rfl rfl (by omega) (by decide) dX2_split_26 ?_
    refine lv_istore (lv' := [(7, .int (mO i)), (0, .ref (b 0)), (3, .int z), (4, .long (spO (lnA mL mO) X mO z i)), (6, .int (nI i))]) hx hb dX2_split_27 hl (by decide) rfl (fun ls hl => ?_)
    refine lv_iload_n hx hb dX2_split_29 rfl (lv_at hl 2 rfl) ?_
    refine lv_iconst (v := (-1)) hx hb dX2_split_30 (by decide) ?_
    refine lv_icmp_eq (tgt := 40) hx hb dX2_split_31 (by decide) (fun c_31 => ?_) (fun c_31 => ?_)
    · skip
      rw [c_31] at hz; exact absurd hz.1 (by decide)
    · skip
      refine lv_iload_n hx hb dX2_split_34 rfl (lv_at hl 2 rfl) ?_
      refine lv_iload hx hb dX2_split_35 (lv_at hl 0 rfl) ?_
      refine lv_icmp_ne (tgt := 57) hx hb dX2_split_37 (by decide) (fun c_37 => ?_) (fun c_37 => ?_)
      · skip
        have e7 : (spO (lnA mL mO) X mO z (i + 1)) = (spO (lnA mL mO) X mO z i) := ic_f (fun q => c_37 q.symm)
        refine lv_aload_n hx hb dX2_split_57 rfl (lv_at hl 1 rfl) ?_
        refine lv_dup hx hb dX2_split_58 rfl ?_
        refine va_get (D := D) (ci := 2) (v := .long (lfT (lnA mL mO) X i)) (C := RX2) (T := TX2) (N := 14) hx hb hts hiX2 hown hK hP 0 rfl rfl 13 (by decide) hw115 (fun _ h9 => h9) rfl dX2_split_59 ?_
        refine lv_aload_n hx hb dX2_split_62 rfl (lv_at hl 1 rfl) ?_
        refine va_get (D := D) (ci := 2) (v := .ref (b 4)) (C := RX2) (T := TX2) (N := 14) hx hb hts hiX2 hown hK hP 0 rfl rfl 5 (by decide) hw23 (fun _ h9 => h9) rfl dX2_split_63 ?_
        refine lv_iload hx hb dX2_split_66 (lv_at hl 0 rfl) ?_
        refine va_lald hx hb hK hP 4 1 rfl rfl (vp_in_iff.mpr (hM.at (by omega))) dX2_split_68 ?_
        refine topL (y := lnA mL mO i) rfl ?_
        refine lv_lrem hx hb dX2_split_69 (ne0_of (hM.pos (by omega))) ?_
        refine va_put (D := D) (ci := 2) (v := .long ((lfT (lnA mL mO) X i) - (lfT (lnA mL mO) X i) / (lnA mL mO i) * (lnA mL mO i))) (ty := .long) (C := RX2) (T := TX2) (N := 14) hx hb hts hiX2 tyX2 tyX2_ok nmX2 hown hK hP hD hS 0 rfl rfl 13 (by decide) hw115 (fun _ h9 => h9) rfl (by decide +kernel) rfl rfl (Nat.le_of_ble_eq_true rfl) dX2_split_70 (fun H locs hP hD hS => ?_)
        have hP : va_P D vwCl [((b 0), .inr (2, [.int th, .int (nI k), .ref (b 1), .ref (b 2), .ref (b 3), .ref (b 4), .ref (b 5), .int (nI st), .int (nI c), .ref (b 6), .int t, .ref (b 7), .ref (b 8), .long ((lfT (lnA mL mO) X i) - (lfT (lnA mL mO) X i) / (lnA mL mO i) * (lnA mL mO i))])), ((b 1), .inl (cI, 8, .inl mB)), ((b 2), .inl (cI, 8, .inl mM)), ((b 3), .inl (cI, 8, .inl mP)), ((b 4), .inl (cJ, 8, .inr (.inl mL))), ((b 5), .inl (cI, 8, .inl mO)), ((b 6), .inl (cI, 6, .inl fW)), ((b 7), .inl (cI, 8, .inl (nwF y fi fD))), ((b 8), .inl (cI, 8, .inl mK))] H := hP
        have hD : va_D A [((b 0), .inr (2, [.int th, .int (nI k), .ref (b 1), .ref (b 2), .ref (b 3), .ref (b 4), .ref (b 5), .int (nI st), .int (nI c), .ref (b 6), .int t, .ref (b 7), .ref (b 8), .long ((lfT (lnA mL mO) X i) - (lfT (lnA mL mO) X i) / (lnA mL mO i) * (lnA mL mO i))])), ((b 1), .inl (cI, 8, .inl mB)), ((b 2), .inl (cI, 8, .inl mM)), ((b 3), .inl (cI, 8, .inl mP)), ((b 4), .inl (cJ, 8, .inr (.inl mL))), ((b 5), .inl (cI, 8, .inl mO)), ((b 6), .inl (cI, 6, .inl fW)), ((b 7), .inl (cI, 8, .inl (nwF y fi fD))), ((b 8), .inl (cI, 8, .inl mK))] := hD
        refine lv_iinc (v := (nI (i + 1))) (lv' := [(6, .int (nI (i + 1))), (7, .int (mO i)), (0, .ref (b 0)), (3, .int z), (4, .long (spO (lnA mL mO) X mO z i))]) hx hb dX2_split_73 hl (k := 4) rfl (nI_inc i) (by decide) rfl (fun ls hl => ?_)
        refine lv_goto (tgt := 11) hx hb dX2_split_76 (by decide) ?_
        exact kk () _ _ ls (by omega) ⟨by rw [e7]; exact lv_sub hl [2, 3, 4, 0] rfl, hP, hD, hS⟩
      · skip
        skip
        have e7 : (spO (lnA mL mO) X mO z (i + 1)) = (spO (lnA mL mO) X mO z i) + lfT (lnA mL mO) X i / lnA mL mO i := ic_t c_37.symm
        refine lv_lload hx hb dX2_split_40 (lv_at hl 3 rfl) ?_
        refine lv_aload_n hx hb dX2_split_42 rfl (lv_at hl 1 rfl) ?_
        refine va_get (D := D) (ci := 2) (v := .long (lfT (lnA mL mO) X i)) (C := RX2) (T := TX2) (N := 14) hx hb hts hiX2 hown hK hP 0 rfl rfl 13 (by decide) hw115 (fun _ h9 => h9) rfl dX2_split_43 ?_
        refine lv_aload_n hx hb dX2_split_46 rfl (lv_at hl 1 rfl) ?_
        refine va_get (D := D) (ci := 2) (v := .ref (b 4)) (C := RX2) (T := TX2) (N := 14) hx hb hts hiX2 hown hK hP 0 rfl rfl 5 (by decide) hw23 (fun _ h9 => h9) rfl dX2_split_47 ?_
        refine lv_iload hx hb dX2_split_50 (lv_at hl 0 rfl) ?_
        refine va_lald hx hb hK hP 4 1 rfl rfl (vp_in_iff.mpr (hM.at (by omega))) dX2_split_52 ?_
        refine topL (y := lnA mL mO i) rfl ?_
        refine lv_ldiv hx hb dX2_split_53 (ne0_of (hM.pos (by omega))) ?_
        refine lv_ladd hx hb dX2_split_54 ?_
        refine lv_lstore (lv' := [(4, .long ((spO (lnA mL mO) X mO z i) + ((lfT (lnA mL mO) X i) / (lnA mL mO i)))), (7, .int (mO i)), (0, .ref (b 0)), (3, .int z), (6, .int (nI i))]) hx hb dX2_split_55 hl (by decide) rfl (fun ls hl => ?_)
        refine lv_aload_n hx hb dX2_split_57 rfl (lv_at hl 2 rfl) ?_
        refine lv_dup hx hb dX2_split_58 rfl ?_
        refine va_get (D := D) (ci := 2) (v := .long (lfT (lnA mL mO) X i)) (C := RX2) (T := TX2) (N := 14) hx hb hts hiX2 hown hK hP 0 rfl rfl 13 (by decide) hw115 (fun _ h9 => h9) rfl dX2_split_59 ?_
        refine lv_aload_n hx hb dX2_split_62 rfl (lv_at hl 2 rfl) ?_
        refine va_get (D := D) (ci := 2) (v := .ref (b 4)) (C := RX2) (T := TX2) (N := 14) hx hb hts hiX2 hown hK hP 0 rfl rfl 5 (by decide) hw23 (fun _ h9 => h9) rfl dX2_split_63 ?_
        refine lv_iload hx hb dX2_split_66 (lv_at hl 1 rfl) ?_
        refine va_lald hx hb hK hP 4 1 rfl rfl (vp_in_iff.mpr (hM.at (by omega))) dX2_split_68 ?_
        refine topL (y := lnA mL mO i) rfl ?_
        refine lv_lrem hx hb dX2_split_69 (ne0_of (hM.pos (by omega))) ?_
        refine va_put (D := D) (ci := 2) (v := .long ((lfT (lnA mL mO) X i) - (lfT (lnA mL mO) X i) / (lnA mL mO i) * (lnA mL mO i))) (ty := .long) (C := RX2) (T := TX2) (N := 14) hx hb hts hiX2 tyX2 tyX2_ok nmX2 hown hK hP hD hS 0 rfl rfl 13 (by decide) hw115 (fun _ h9 => h9) rfl (by decide +kernel) rfl rfl (Nat.le_of_ble_eq_true rfl) dX2_split_70 (fun H locs hP hD hS => ?_)
        have hP : va_P D vwCl [((b 0), .inr (2, [.int th, .int (nI k), .ref (b 1), .ref (b 2), .ref (b 3), .ref (b 4), .ref (b 5), .int (nI st), .int (nI c), .ref (b 6), .int t, .ref (b 7), .ref (b 8), .long ((lfT (lnA mL mO) X i) - (lfT (lnA mL mO) X i) / (lnA mL mO i) * (lnA mL mO i))])), ((b 1), .inl (cI, 8, .inl mB)), ((b 2), .inl (cI, 8, .inl mM)), ((b 3), .inl (cI, 8, .inl mP)), ((b 4), .inl (cJ, 8, .inr (.inl mL))), ((b 5), .inl (cI, 8, .inl mO)), ((b 6), .inl (cI, 6, .inl fW)), ((b 7), .inl (cI, 8, .inl (nwF y fi fD))), ((b 8), .inl (cI, 8, .inl mK))] H := hP
        have hD : va_D A [((b 0), .inr (2, [.int th, .int (nI k), .ref (b 1), .ref (b 2), .ref (b 3), .ref (b 4), .ref (b 5), .int (nI st), .int (nI c), .ref (b 6), .int t, .ref (b 7), .ref (b 8), .long ((lfT (lnA mL mO) X i) - (lfT (lnA mL mO) X i) / (lnA mL mO i) * (lnA mL mO i))])), ((b 1), .inl (cI, 8, .inl mB)), ((b 2), .inl (cI, 8, .inl mM)), ((b 3), .inl (cI, 8, .inl mP)), ((b 4), .inl (cJ, 8, .inr (.inl mL))), ((b 5), .inl (cI, 8, .inl mO)), ((b 6), .inl (cI, 6, .inl fW)), ((b 7), .inl (cI, 8, .inl (nwF y fi fD))), ((b 8), .inl (cI, 8, .inl mK))] := hD
        refine lv_iinc (v := (nI (i + 1))) (lv' := [(6, .int (nI (i + 1))), (4, .long ((spO (lnA mL mO) X mO z i) + ((lfT (lnA mL mO) X i) / (lnA mL mO i)))), (7, .int (mO i)), (0, .ref (b 0)), (3, .int z)]) hx hb dX2_split_73 hl (k := 4) rfl (nI_inc i) (by decide) rfl (fun ls hl => ?_)
        refine lv_goto (tgt := 11) hx hb dX2_split_76 (by decide) ?_
        exact kk () _ _ ls (by omega) ⟨by rw [e7]; exact lv_sub hl [3, 4, 1, 0] rfl, hP, hD, hS⟩

set_option maxHeartbeats 4000000 in
set_option maxRecDepth 100000 in
theorem c_X2_tells (l : Launch) (D : va_G) (cI cJ : ClassId) (sz : Nat) (b : Nat → Nat) (th : Int32) (k st c : Nat) (t : Int32) (lf : Int64) (mB mM mP : Nat → Int32) (mL : Nat → Int64) (mO fW : Nat → Int32) (y : Nat) (fi : Int32) (fD mK : Nat → Int32) (hM : MOk k mL mO) (w : Int32) (j : Nat) (hj : j < k) : Met l yX2_tells wsX2_tells ({ frames := 1, cells := 0, slots := 0, locals := 29 }) (cPw D [((b 0), .inr (2, [.int th, .int (nI k), .ref (b 1), .ref (b 2), .ref (b 3), .ref (b 4), .ref (b 5), .int (nI st), .int (nI c), .ref (b 6), .int t, .ref (b 7), .ref (b 8), .long lf])), ((b 1), .inl (cI, 8, .inl mB)), ((b 2), .inl (cI, 8, .inl mM)), ((b 3), .inl (cI, 8, .inl mP)), ((b 4), .inl (cJ, 8, .inr (.inl mL))), ((b 5), .inl (cI, 8, .inl mO)), ((b 6), .inl (cI, 6, .inl fW)), ((b 7), .inl (cI, 8, .inl (nwF y fi fD))), ((b 8), .inl (cI, 8, .inl mK))] sz (KM D cI cJ) [.ref (b 0), .int w, .int (nI j)]) (wri D [((b 0), .inr (2, [.int th, .int (nI k), .ref (b 1), .ref (b 2), .ref (b 3), .ref (b 4), .ref (b 5), .int (nI st), .int (nI c), .ref (b 6), .int t, .ref (b 7), .ref (b 8), .long lf])), ((b 1), .inl (cI, 8, .inl mB)), ((b 2), .inl (cI, 8, .inl mM)), ((b 3), .inl (cI, 8, .inl mP)), ((b 4), .inl (cJ, 8, .inr (.inl mL))), ((b 5), .inl (cI, 8, .inl mO)), ((b 6), .inl (cI, 6, .inl fW)), ((b 7), .inl (cI, 8, .inl (nwF y fi fD))), ((b 8), .inl (cI, 8, .inl mK))] sz (fun r ws' => r = bz ((lfT (lnA mL mO) (mL j * (w).toInt64) k).toInt = (0 : Int64).toInt) ∧ ws' = [((b 0), .inr (2, [.int th, .int (nI k), .ref (b 1), .ref (b 2), .ref (b 3), .ref (b 4), .ref (b 5), .int (nI st), .int (nI c), .ref (b 6), .int t, .ref (b 7), .ref (b 8), .long (lfT (lnA mL mO) (mL j * (w).toInt64) k)])), ((b 1), .inl (cI, 8, .inl mB)), ((b 2), .inl (cI, 8, .inl mM)), ((b 3), .inl (cI, 8, .inl mP)), ((b 4), .inl (cJ, 8, .inr (.inl mL))), ((b 5), .inl (cI, 8, .inl mO)), ((b 6), .inl (cI, 6, .inl fW)), ((b 7), .inl (cI, 8, .inl (nwF y fi fD))), ((b 8), .inl (cI, 8, .inl mK))])) 0 0 (va_A [((b 0), .inr (2, [.int th, .int (nI k), .ref (b 1), .ref (b 2), .ref (b 3), .ref (b 4), .ref (b 5), .int (nI st), .int (nI c), .ref (b 6), .int t, .ref (b 7), .ref (b 8), .long lf])), ((b 1), .inl (cI, 8, .inl mB)), ((b 2), .inl (cI, 8, .inl mM)), ((b 3), .inl (cI, 8, .inl mP)), ((b 4), .inl (cJ, 8, .inr (.inl mL))), ((b 5), .inl (cI, 8, .inl mO)), ((b 6), .inl (cI, 6, .inl fW)), ((b 7), .inl (cI, 8, .inl (nwF y fi fD))), ((b 8), .inl (cI, 8, .inl mK))] sz) := by
  refine Met.ofW (cc := cX2_tells) (maxL := 3) (ret := (some .boolean)) (by decide +kernel) rfl ?_
  intro p e s m args below meth c9 s₁ B hml hv
  obtain ⟨rfl, hsz, hP, hD0, hC⟩ := hv
  have hx := B.exec
  have hb := B.bytes
  have hr := B.returns
  have hts := atoms_spec (ws := wsX2_tells) B.pre
  have hown : s.vm.findClass RX2 = some m.cls := findClass_of_methodNamed B.named
  have hlocks := B.notSynchronized
  have hK : va_K D vwCl [(cI, .int), (cJ, .long)] s := hC
  subst hsz
  unfold wri wB
  have hD := hD0.self (sz := s.heap.size)
  generalize hAe : va_A [((b 0), .inr (2, [.int th, .int (nI k), .ref (b 1), .ref (b 2), .ref (b 3), .ref (b 4), .ref (b 5), .int (nI st), .int (nI c), .ref (b 6), .int t, .ref (b 7), .ref (b 8), .long lf])), ((b 1), .inl (cI, 8, .inl mB)), ((b 2), .inl (cI, 8, .inl mM)), ((b 3), .inl (cI, 8, .inl mP)), ((b 4), .inl (cJ, 8, .inr (.inl mL))), ((b 5), .inl (cI, 8, .inl mO)), ((b 6), .inl (cI, 6, .inl fW)), ((b 7), .inl (cI, 8, .inl (nwF y fi fD))), ((b 8), .inl (cI, 8, .inl mK))] s.heap.size = A at hD ⊢
  have hA : ∀ q : Nat, s.heap.size ≤ q → A q := fun q h => by rw [← hAe]; exact Or.inr h
  have hS : va_S A s.heap s.heap [] := va_S.rf
  have hl := lv_entry ([.ref (b 0), .int w, .int (nI j)]) (n := 3) (Nat.le_of_ble_eq_true rfl)
  rw [lg_entry_eq]
  generalize (lg_sl ([.ref (b 0), .int w, .int (nI j)]) ++ List.replicate (3 - (lg_sl ([.ref (b 0), .int w, .int (nI j)])).length) Slot.unset).toArray = ls at hl ⊢
  have hl : lv_has ls 3 [(0, .ref (b 0)), (1, .int w), (2, .int (nI j))] := hl
  have hk8 : k ≤ 8 := hM.2.1
  have hk1 : 1 ≤ k := hM.1
  have hiX2 : ∀ w ∈ u_ws RX2 TX2 14, w ∈ wsX2_tells := by decide +kernel
  have hw23 : (Cond.fieldLink RX2 23 "OldMeasuresModel" "length" "[J").before ([.ref (b 0), .int w, .int (nI j)] : List Value).toArray s = true := hts _ (by decide +kernel)
  have hw115 : (Cond.fieldLink RX2 115 "OldMeasuresModel" "left" "J").before ([.ref (b 0), .int w, .int (nI j)] : List Value).toArray s = true := hts _ (by decide +kernel)
  refine lv_aload_n hx hb dX2_tells_0 rfl (lv_at hl 0 rfl) ?_
  refine lv_iload_n hx hb dX2_tells_1 rfl (lv_at hl 1 rfl) ?_
  refine lv_i2l (v := (w).toInt64) hx hb dX2_tells_2 rfl ?_
  refine lv_aload_n hx hb dX2_tells_3 rfl (lv_at hl 0 rfl) ?_
  refine va_get (D := D) (ci := 2) (v := .ref (b 4)) (C := RX2) (T := TX2) (N := 14) hx hb hts hiX2 hown hK hP 0 rfl rfl 5 (by decide) hw23 (fun _ h9 => h9) rfl dX2_tells_4 ?_
  refine lv_iload_n hx hb dX2_tells_7 rfl (lv_at hl 2 rfl) ?_
  refine xa_lald hx hb hK hP 4 1 rfl rfl (by omega) (by decide) dX2_tells_8 ?_
  refine lv_lmul hx hb dX2_tells_9 ?_
  refine topL (Int64.mul_comm _ _) ?_
  refine lv_iconst (v := (-1)) hx hb dX2_tells_10 (by decide) ?_
  have hFc := va_free (wc := [((b 0), .inr (2, [.int th, .int (nI k), .ref (b 1), .ref (b 2), .ref (b 3), .ref (b 4), .ref (b 5), .int (nI st), .int (nI c), .ref (b 6), .int t, .ref (b 7), .ref (b 8), .long lf])), ((b 1), .inl (cI, 8, .inl mB)), ((b 2), .inl (cI, 8, .inl mM)), ((b 3), .inl (cI, 8, .inl mP)), ((b 4), .inl (cJ, 8, .inr (.inl mL))), ((b 5), .inl (cI, 8, .inl mO)), ((b 6), .inl (cI, 6, .inl fW)), ((b 7), .inl (cI, 8, .inl (nwF y fi fD))), ((b 8), .inl (cI, 8, .inl mK))]) hD hS hA [0, 1, 2, 3, 4, 5, 6, 7, 8] rfl
  refine va_calll (va_runV (As := [.long (mL j * (w).toInt64), .int (-1)]) (rest := []) ⟨hx, hb, hml, hown, hts⟩ (c_X2_split_n l D cI cJ s.heap.size b th k st c t lf mB mM mP mL mO fW y fi fD mK hM (mL j * (w).toInt64)) (cwV 2 hts gX2_tells_X2_split rfl rfl rfl (by decide +kernel) ⟨Nat.le_of_ble_eq_true rfl, Nat.le_of_ble_eq_true rfl⟩) (preV_wr KM_ok (hP.sub (ws' := [((b 0), .inr (2, [.int th, .int (nI k), .ref (b 1), .ref (b 2), .ref (b 3), .ref (b 4), .ref (b 5), .int (nI st), .int (nI c), .ref (b 6), .int t, .ref (b 7), .ref (b 8), .long lf])), ((b 1), .inl (cI, 8, .inl mB)), ((b 2), .inl (cI, 8, .inl mM)), ((b 3), .inl (cI, 8, .inl mP)), ((b 4), .inl (cJ, 8, .inr (.inl mL))), ((b 5), .inl (cI, 8, .inl mO)), ((b 6), .inl (cI, 6, .inl fW)), ((b 7), .inl (cI, 8, .inl (nwF y fi fD))), ((b 8), .inl (cI, 8, .inl mK))]) [0, 1, 2, 3, 4, 5, 6, 7, 8] rfl) (hD.sub (ws' := [((b 0), .inr (2, [.int th, .int (nI k), .ref (b 1), .ref (b 2), .ref (b 3), .ref (b 4), .ref (b 5), .int (nI st), .int (nI c), .ref (b 6), .int t, .ref (b 7), .ref (b 8), .long lf])), ((b 1), .inl (cI, 8, .inl mB)), ((b 2), .inl (cI, 8, .inl mM)), ((b 3), .inl (cI, 8, .inl mP)), ((b 4), .inl (cJ, 8, .inr (.inl mL))), ((b 5), .inl (cI, 8, .inl mO)), ((b 6), .inl (cI, 6, .inl fW)), ((b 7), .inl (cI, 8, .inl (nwF y fi fD))), ((b 8), .inl (cI, 8, .inl mK))]) [0, 1, 2, 3, 4, 5, 6, 7, 8] (by decide) rfl) hK (va_recv hK hP (ci := 2) (q0 := 0) rfl rfl)) rfl rfl hl.1 rfl (lv_room (Nat.le_of_ble_eq_true rfl)) dX2_tells_11 ⟨by decide, by decide⟩) hS (fun q _ h => hFc q h) hFc (fun r_11 u t9 H1 locs ht hvm hw9 hB hz1 hk1 hS => ?_)
  obtain ⟨hr9, rfl⟩ := hw9
  have hr9 := hr9.symm
  subst hr9
  obtain ⟨hP1, hD1⟩ := hB
  rw [ht] at hP1
  obtain ⟨hP, hD⟩ := va_join (wr := []) (w1 := [((b 0), .inr (2, [.int th, .int (nI k), .ref (b 1), .ref (b 2), .ref (b 3), .ref (b 4), .ref (b 5), .int (nI st), .int (nI c), .ref (b 6), .int t, .ref (b 7), .ref (b 8), .long (lfT (lnA mL mO) (mL j * (w).toInt64) k)])), ((b 1), .inl (cI, 8, .inl mB)), ((b 2), .inl (cI, 8, .inl mM)), ((b 3), .inl (cI, 8, .inl mP)), ((b 4), .inl (cJ, 8, .inr (.inl mL))), ((b 5), .inl (cI, 8, .inl mO)), ((b 6), .inl (cI, 6, .inl fW)), ((b 7), .inl (cI, 8, .inl (nwF y fi fD))), ((b 8), .inl (cI, 8, .inl mK))]) hP hD [0, 1, 2, 3, 4, 5, 6, 7, 8] [] rfl rfl (by decide) (by decide) hk1 hFc hP1 hD1
  clear hz1 hk1 ht hvm hFc
  generalize H1 = H at hP hS ⊢
  have hP : va_P D vwCl [((b 0), .inr (2, [.int th, .int (nI k), .ref (b 1), .ref (b 2), .ref (b 3), .ref (b 4), .ref (b 5), .int (nI st), .int (nI c), .ref (b 6), .int t, .ref (b 7), .ref (b 8), .long (lfT (lnA mL mO) (mL j * (w).toInt64) k)])), ((b 1), .inl (cI, 8, .inl mB)), ((b 2), .inl (cI, 8, .inl mM)), ((b 3), .inl (cI, 8, .inl mP)), ((b 4), .inl (cJ, 8, .inr (.inl mL))), ((b 5), .inl (cI, 8, .inl mO)), ((b 6), .inl (cI, 6, .inl fW)), ((b 7), .inl (cI, 8, .inl (nwF y fi fD))), ((b 8), .inl (cI, 8, .inl mK))] H := hP
  have hD : va_D A [((b 0), .inr (2, [.int th, .int (nI k), .ref (b 1), .ref (b 2), .ref (b 3), .ref (b 4), .ref (b 5), .int (nI st), .int (nI c), .ref (b 6), .int t, .ref (b 7), .ref (b 8), .long (lfT (lnA mL mO) (mL j * (w).toInt64) k)])), ((b 1), .inl (cI, 8, .inl mB)), ((b 2), .inl (cI, 8, .inl mM)), ((b 3), .inl (cI, 8, .inl mP)), ((b 4), .inl (cJ, 8, .inr (.inl mL))), ((b 5), .inl (cI, 8, .inl mO)), ((b 6), .inl (cI, 6, .inl fW)), ((b 7), .inl (cI, 8, .inl (nwF y fi fD))), ((b 8), .inl (cI, 8, .inl mK))] := hD
  refine lv_pop2_2 hx hb dX2_tells_14 rfl ?_
  refine lv_aload_n hx hb dX2_tells_15 rfl (lv_at hl 0 rfl) ?_
  refine va_get (D := D) (ci := 2) (v := .long (lfT (lnA mL mO) (mL j * (w).toInt64) k)) (C := RX2) (T := TX2) (N := 14) hx hb hts hiX2 hown hK hP 0 rfl rfl 13 (by decide) hw115 (fun _ h9 => h9) rfl dX2_tells_16 ?_
  refine lv_lconst (v := 0) hx hb dX2_tells_19 (by decide) ?_
  refine W.lcmp hx hb dX2_tells_20 ?_
  refine lv_if_ne (tgt := 28) hx hb dX2_tells_21 (by decide) (fun c_21 => ?_) (fun c_21 => ?_)
  · skip
    have c_21 := (lgc_ne _ _).mp c_21
    refine lv_iconst (v := 0) hx hb dX2_tells_28 (by decide) ?_
    exact W.zret (v := 0) hx hb hr rfl (fun t9 ht hW => ⟨⟨0, [((b 0), .inr (2, [.int th, .int (nI k), .ref (b 1), .ref (b 2), .ref (b 3), .ref (b 4), .ref (b 5), .int (nI st), .int (nI c), .ref (b 6), .int t, .ref (b 7), .ref (b 8), .long (lfT (lnA mL mO) (mL j * (w).toInt64) k)])), ((b 1), .inl (cI, 8, .inl mB)), ((b 2), .inl (cI, 8, .inl mM)), ((b 3), .inl (cI, 8, .inl mP)), ((b 4), .inl (cJ, 8, .inr (.inl mL))), ((b 5), .inl (cI, 8, .inl mO)), ((b 6), .inl (cI, 6, .inl fW)), ((b 7), .inl (cI, 8, .inl (nwF y fi fD))), ((b 8), .inl (cI, 8, .inl mK))], rfl, ⟨by first | exact (bz_t (by omega)).symm | exact (bz_f (by omega)).symm, rfl⟩, by rw [ht]; exact hP, hD⟩, hS.F ht⟩) hS.2.2 dX2_tells_29
  · skip
    have c_21 := (lgc_eq _ _).mp c_21
    refine lv_iconst (v := 1) hx hb dX2_tells_24 (by decide) ?_
    refine lv_goto (tgt := 29) hx hb dX2_tells_25 (by decide) ?_
    exact W.zret (v := 1) hx hb hr rfl (fun t9 ht hW => ⟨⟨1, [((b 0), .inr (2, [.int th, .int (nI k), .ref (b 1), .ref (b 2), .ref (b 3), .ref (b 4), .ref (b 5), .int (nI st), .int (nI c), .ref (b 6), .int t, .ref (b 7), .ref (b 8), .long (lfT (lnA mL mO) (mL j * (w).toInt64) k)])), ((b 1), .inl (cI, 8, .inl mB)), ((b 2), .inl (cI, 8, .inl mM)), ((b 3), .inl (cI, 8, .inl mP)), ((b 4), .inl (cJ, 8, .inr (.inl mL))), ((b 5), .inl (cI, 8, .inl mO)), ((b 6), .inl (cI, 6, .inl fW)), ((b 7), .inl (cI, 8, .inl (nwF y fi fD))), ((b 8), .inl (cI, 8, .inl mK))], rfl, ⟨by first | exact (bz_t (by omega)).symm | exact (bz_f (by omega)).symm, rfl⟩, by rw [ht]; exact hP, hD⟩, hS.F ht⟩) hS.2.2 dX2_tells_29

set_option maxHeartbeats 4000000 in
set_option maxRecDepth 100000 in
theorem c_X2_can (l : Launch) (D : va_G) (cI cJ : ClassId) (sz : Nat) (b : Nat → Nat) (th : Int32) (k st c : Nat) (t : Int32) (lf : Int64) (mB mM mP : Nat → Int32) (mL : Nat → Int64) (mO fW : Nat → Int32) (y : Nat) (fi : Int32) (fD mK : Nat → Int32) (hk8 : k ≤ 8) (hc : c ≤ 6) (x z w : Int32) : Met l yX2_can wsX2_can ({ frames := 2, cells := 0, slots := 0, locals := 50 }) (cPw D [((b 0), .inr (2, [.int th, .int (nI k), .ref (b 1), .ref (b 2), .ref (b 3), .ref (b 4), .ref (b 5), .int (nI st), .int (nI c), .ref (b 6), .int t, .ref (b 7), .ref (b 8), .long lf])), ((b 1), .inl (cI, 8, .inl mB)), ((b 2), .inl (cI, 8, .inl mM)), ((b 3), .inl (cI, 8, .inl mP)), ((b 4), .inl (cJ, 8, .inr (.inl mL))), ((b 5), .inl (cI, 8, .inl mO)), ((b 6), .inl (cI, 6, .inl fW)), ((b 7), .inl (cI, 8, .inl (nwF y fi fD))), ((b 8), .inl (cI, 8, .inl mK))] sz (KM D cI cJ) [.ref (b 0), .int x, .int z, .int w]) (wri D [((b 0), .inr (2, [.int th, .int (nI k), .ref (b 1), .ref (b 2), .ref (b 3), .ref (b 4), .ref (b 5), .int (nI st), .int (nI c), .ref (b 6), .int t, .ref (b 7), .ref (b 8), .long lf])), ((b 1), .inl (cI, 8, .inl mB)), ((b 2), .inl (cI, 8, .inl mM)), ((b 3), .inl (cI, 8, .inl mP)), ((b 4), .inl (cJ, 8, .inr (.inl mL))), ((b 5), .inl (cI, 8, .inl mO)), ((b 6), .inl (cI, 6, .inl fW)), ((b 7), .inl (cI, 8, .inl (nwF y fi fD))), ((b 8), .inl (cI, 8, .inl mK))] sz (fun r ws' => r = bz (inM k x ∧ inM k z ∧ inR 1 200 w) ∧ ws' = [((b 0), .inr (2, [.int (ic (inM k x) (ic (inM k z) (ic (inR 1 200 w) 0 2) 1) 1), .int (nI k), .ref (b 1), .ref (b 2), .ref (b 3), .ref (b 4), .ref (b 5), .int (nI st), .int (nI c), .ref (b 6), .int t, .ref (b 7), .ref (b 8), .long lf])), ((b 1), .inl (cI, 8, .inl mB)), ((b 2), .inl (cI, 8, .inl mM)), ((b 3), .inl (cI, 8, .inl mP)), ((b 4), .inl (cJ, 8, .inr (.inl mL))), ((b 5), .inl (cI, 8, .inl mO)), ((b 6), .inl (cI, 6, .inl fW)), ((b 7), .inl (cI, 8, .inl (nwF y fi fD))), ((b 8), .inl (cI, 8, .inl mK))])) 0 0 (va_A [((b 0), .inr (2, [.int th, .int (nI k), .ref (b 1), .ref (b 2), .ref (b 3), .ref (b 4), .ref (b 5), .int (nI st), .int (nI c), .ref (b 6), .int t, .ref (b 7), .ref (b 8), .long lf])), ((b 1), .inl (cI, 8, .inl mB)), ((b 2), .inl (cI, 8, .inl mM)), ((b 3), .inl (cI, 8, .inl mP)), ((b 4), .inl (cJ, 8, .inr (.inl mL))), ((b 5), .inl (cI, 8, .inl mO)), ((b 6), .inl (cI, 6, .inl fW)), ((b 7), .inl (cI, 8, .inl (nwF y fi fD))), ((b 8), .inl (cI, 8, .inl mK))] sz) := by
  refine Met.ofW (cc := cX2_can) (maxL := 4) (ret := (some .boolean)) (by decide +kernel) rfl ?_
  intro p e s m args below meth c9 s₁ B hml hv
  obtain ⟨rfl, hsz, hP, hD0, hC⟩ := hv
  have hx := B.exec
  have hb := B.bytes
  have hr := B.returns
  have hts := atoms_spec (ws := wsX2_can) B.pre
  have hown : s.vm.findClass RX2 = some m.cls := findClass_of_methodNamed B.named
  have hlocks := B.notSynchronized
  have hK : va_K D vwCl [(cI, .int), (cJ, .long)] s := hC
  subst hsz
  unfold wri wB
  have hD := hD0.self (sz := s.heap.size)
  generalize hAe : va_A [((b 0), .inr (2, [.int th, .int (nI k), .ref (b 1), .ref (b 2), .ref (b 3), .ref (b 4), .ref (b 5), .int (nI st), .int (nI c), .ref (b 6), .int t, .ref (b 7), .ref (b 8), .long lf])), ((b 1), .inl (cI, 8, .inl mB)), ((b 2), .inl (cI, 8, .inl mM)), ((b 3), .inl (cI, 8, .inl mP)), ((b 4), .inl (cJ, 8, .inr (.inl mL))), ((b 5), .inl (cI, 8, .inl mO)), ((b 6), .inl (cI, 6, .inl fW)), ((b 7), .inl (cI, 8, .inl (nwF y fi fD))), ((b 8), .inl (cI, 8, .inl mK))] s.heap.size = A at hD ⊢
  have hA : ∀ q : Nat, s.heap.size ≤ q → A q := fun q h => by rw [← hAe]; exact Or.inr h
  have hS : va_S A s.heap s.heap [] := va_S.rf
  have hl := lv_entry ([.ref (b 0), .int x, .int z, .int w]) (n := 4) (Nat.le_of_ble_eq_true rfl)
  rw [lg_entry_eq]
  generalize (lg_sl ([.ref (b 0), .int x, .int z, .int w]) ++ List.replicate (4 - (lg_sl ([.ref (b 0), .int x, .int z, .int w])).length) Slot.unset).toArray = ls at hl ⊢
  have hl : lv_has ls 4 [(0, .ref (b 0)), (1, .int x), (2, .int z), (3, .int w)] := hl
  have hiX2 : ∀ w ∈ u_ws RX2 TX2 14, w ∈ wsX2_can := by decide +kernel
  have hw42 : (Cond.fieldLink RX2 42 "OldMeasuresModel" "thrown" "I").before ([.ref (b 0), .int x, .int z, .int w] : List Value).toArray s = true := hts _ (by decide +kernel)
  refine lv_aload_n hx hb dX2_can_0 rfl (lv_at hl 0 rfl) ?_
  refine lv_aload_n hx hb dX2_can_1 rfl (lv_at hl 0 rfl) ?_
  refine lv_iload_n hx hb dX2_can_2 rfl (lv_at hl 1 rfl) ?_
  refine ro_iE (va_runV (As := [.int x]) (rest := [.ref (b 0)]) ⟨hx, hb, hml, hown, hts⟩ (c_X2_isMeasure l D cI cJ b th k st c t lf mB mM mP mL mO fW y fi fD mK (by omega) x) (cwV 1 hts gX2_can_X2_isMeasure rfl rfl rfl (by decide +kernel) ⟨Nat.le_of_ble_eq_true rfl, Nat.le_of_ble_eq_true rfl⟩) (preV_ro KM_ok (hP.sub (ws' := [((b 0), .inr (2, [.int th, .int (nI k), .ref (b 1), .ref (b 2), .ref (b 3), .ref (b 4), .ref (b 5), .int (nI st), .int (nI c), .ref (b 6), .int t, .ref (b 7), .ref (b 8), .long lf])), ((b 1), .inl (cI, 8, .inl mB)), ((b 2), .inl (cI, 8, .inl mM)), ((b 3), .inl (cI, 8, .inl mP)), ((b 4), .inl (cJ, 8, .inr (.inl mL))), ((b 5), .inl (cI, 8, .inl mO)), ((b 6), .inl (cI, 6, .inl fW)), ((b 7), .inl (cI, 8, .inl (nwF y fi fD))), ((b 8), .inl (cI, 8, .inl mK))]) [0, 1, 2, 3, 4, 5, 6, 7, 8] rfl) hK (va_recv hK hP (ci := 2) (q0 := 0) rfl rfl)) rfl rfl hl.1 rfl (lv_room (Nat.le_of_ble_eq_true rfl)) dX2_can_3 ⟨by decide, by decide⟩) ?_
  refine lv_if_eq (tgt := 17) hx hb dX2_can_6 (by decide) (fun c_6 => ?_) (fun c_6 => ?_)
  · skip
    have c_6 := bz_0 c_6
    refine lv_iconst (v := 1) hx hb dX2_can_17 (by decide) ?_
    refine lv_goto (tgt := 37) hx hb dX2_can_18 (by decide) ?_
    refine va_put (D := D) (ci := 2) (v := .int 1) (ty := .int) (C := RX2) (T := TX2) (N := 14) hx hb hts hiX2 tyX2 tyX2_ok nmX2 hown hK hP hD hS 0 rfl rfl 0 (by decide) hw42 (fun _ h9 => h9) rfl (by decide +kernel) rfl rfl (Nat.le_of_ble_eq_true rfl) dX2_can_37 (fun H locs hP hD hS => ?_)
    have hP : va_P D vwCl [((b 0), .inr (2, [.int 1, .int (nI k), .ref (b 1), .ref (b 2), .ref (b 3), .ref (b 4), .ref (b 5), .int (nI st), .int (nI c), .ref (b 6), .int t, .ref (b 7), .ref (b 8), .long lf])), ((b 1), .inl (cI, 8, .inl mB)), ((b 2), .inl (cI, 8, .inl mM)), ((b 3), .inl (cI, 8, .inl mP)), ((b 4), .inl (cJ, 8, .inr (.inl mL))), ((b 5), .inl (cI, 8, .inl mO)), ((b 6), .inl (cI, 6, .inl fW)), ((b 7), .inl (cI, 8, .inl (nwF y fi fD))), ((b 8), .inl (cI, 8, .inl mK))] H := hP
    have hD : va_D A [((b 0), .inr (2, [.int 1, .int (nI k), .ref (b 1), .ref (b 2), .ref (b 3), .ref (b 4), .ref (b 5), .int (nI st), .int (nI c), .ref (b 6), .int t, .ref (b 7), .ref (b 8), .long lf])), ((b 1), .inl (cI, 8, .inl mB)), ((b 2), .inl (cI, 8, .inl mM)), ((b 3), .inl (cI, 8, .inl mP)), ((b 4), .inl (cJ, 8, .inr (.inl mL))), ((b 5), .inl (cI, 8, .inl mO)), ((b 6), .inl (cI, 6, .inl fW)), ((b 7), .inl (cI, 8, .inl (nwF y fi fD))), ((b 8), .inl (cI, 8, .inl mK))] := hD
    refine lv_aload_n hx hb dX2_can_40 rfl (lv_at hl 0 rfl) ?_
    refine va_get (D := D) (ci := 2) (v := .int 1) (C := RX2) (T := TX2) (N := 14) hx hb hts hiX2 hown hK hP 0 rfl rfl 0 (by decide) hw42 (fun _ h9 => h9) rfl dX2_can_41 ?_
    refine lv_if_ne (tgt := 51) hx hb dX2_can_44 (by decide) (fun c_44 => ?_) (fun c_44 => ?_)
    · skip
      refine lv_iconst (v := 0) hx hb dX2_can_51 (by decide) ?_
      exact W.zret (v := 0) hx hb hr rfl (fun t9 ht hW => ⟨⟨0, [((b 0), .inr (2, [.int 1, .int (nI k), .ref (b 1), .ref (b 2), .ref (b 3), .ref (b 4), .ref (b 5), .int (nI st), .int (nI c), .ref (b 6), .int t, .ref (b 7), .ref (b 8), .long lf])), ((b 1), .inl (cI, 8, .inl mB)), ((b 2), .inl (cI, 8, .inl mM)), ((b 3), .inl (cI, 8, .inl mP)), ((b 4), .inl (cJ, 8, .inr (.inl mL))), ((b 5), .inl (cI, 8, .inl mO)), ((b 6), .inl (cI, 6, .inl fW)), ((b 7), .inl (cI, 8, .inl (nwF y fi fD))), ((b 8), .inl (cI, 8, .inl mK))], rfl, ⟨(bz_f (fun z9 => c_6 z9.1)).symm, by rw [ic_f c_6]⟩, by rw [ht]; exact hP, hD⟩, hS.F ht⟩) hS.2.2 dX2_can_52
    · skip
      exact absurd c_44 (by decide)
  · skip
    have c_6 := bz_1 c_6
    refine lv_aload_n hx hb dX2_can_9 rfl (lv_at hl 0 rfl) ?_
    refine lv_iload_n hx hb dX2_can_10 rfl (lv_at hl 2 rfl) ?_
    refine ro_iE (va_runV (As := [.int z]) (rest := [.ref (b 0)]) ⟨hx, hb, hml, hown, hts⟩ (c_X2_isMeasure l D cI cJ b th k st c t lf mB mM mP mL mO fW y fi fD mK (by omega) z) (cwV 1 hts gX2_can_X2_isMeasure rfl rfl rfl (by decide +kernel) ⟨Nat.le_of_ble_eq_true rfl, Nat.le_of_ble_eq_true rfl⟩) (preV_ro KM_ok (hP.sub (ws' := [((b 0), .inr (2, [.int th, .int (nI k), .ref (b 1), .ref (b 2), .ref (b 3), .ref (b 4), .ref (b 5), .int (nI st), .int (nI c), .ref (b 6), .int t, .ref (b 7), .ref (b 8), .long lf])), ((b 1), .inl (cI, 8, .inl mB)), ((b 2), .inl (cI, 8, .inl mM)), ((b 3), .inl (cI, 8, .inl mP)), ((b 4), .inl (cJ, 8, .inr (.inl mL))), ((b 5), .inl (cI, 8, .inl mO)), ((b 6), .inl (cI, 6, .inl fW)), ((b 7), .inl (cI, 8, .inl (nwF y fi fD))), ((b 8), .inl (cI, 8, .inl mK))]) [0, 1, 2, 3, 4, 5, 6, 7, 8] rfl) hK (va_recv hK hP (ci := 2) (q0 := 0) rfl rfl)) rfl rfl hl.1 rfl (lv_room (Nat.le_of_ble_eq_true rfl)) dX2_can_11 ⟨by decide, by decide⟩) ?_
    refine lv_if_ne (tgt := 21) hx hb dX2_can_14 (by decide) (fun c_14 => ?_) (fun c_14 => ?_)
    · skip
      have c_14 := bz_1 c_14
      refine lv_iload_n hx hb dX2_can_21 rfl (lv_at hl 3 rfl) ?_
      refine lv_iconst (v := 1) hx hb dX2_can_22 (by decide) ?_
      refine lv_sipush (v := 200) hx hb dX2_can_23 (by decide) ?_
      refine ro_iE (va_runS (As := [.int w, .int 1, .int 200]) (rest := [.ref (b 0)]) ⟨hx, hb, hml, hown, hts⟩ (c_X2_isIn l w 1 200) (va_cwS 3 hts gX2_can_X2_isIn rfl rfl rfl (by decide +kernel) ⟨Nat.le_of_ble_eq_true rfl, Nat.le_of_ble_eq_true rfl⟩) pre0 rfl rfl hl.1 rfl (lv_room (Nat.le_of_ble_eq_true rfl)) dX2_can_26 ⟨by decide, by decide⟩) ?_
      refine lv_if_eq (tgt := 36) hx hb dX2_can_29 (by decide) (fun c_29 => ?_) (fun c_29 => ?_)
      · skip
        have c_29 := bz_0 c_29
        have c_29 : ¬ inR 1 200 w := c_29
        refine lv_iconst (v := 2) hx hb dX2_can_36 (by decide) ?_
        refine va_put (D := D) (ci := 2) (v := .int 2) (ty := .int) (C := RX2) (T := TX2) (N := 14) hx hb hts hiX2 tyX2 tyX2_ok nmX2 hown hK hP hD hS 0 rfl rfl 0 (by decide) hw42 (fun _ h9 => h9) rfl (by decide +kernel) rfl rfl (Nat.le_of_ble_eq_true rfl) dX2_can_37 (fun H locs hP hD hS => ?_)
        have hP : va_P D vwCl [((b 0), .inr (2, [.int 2, .int (nI k), .ref (b 1), .ref (b 2), .ref (b 3), .ref (b 4), .ref (b 5), .int (nI st), .int (nI c), .ref (b 6), .int t, .ref (b 7), .ref (b 8), .long lf])), ((b 1), .inl (cI, 8, .inl mB)), ((b 2), .inl (cI, 8, .inl mM)), ((b 3), .inl (cI, 8, .inl mP)), ((b 4), .inl (cJ, 8, .inr (.inl mL))), ((b 5), .inl (cI, 8, .inl mO)), ((b 6), .inl (cI, 6, .inl fW)), ((b 7), .inl (cI, 8, .inl (nwF y fi fD))), ((b 8), .inl (cI, 8, .inl mK))] H := hP
        have hD : va_D A [((b 0), .inr (2, [.int 2, .int (nI k), .ref (b 1), .ref (b 2), .ref (b 3), .ref (b 4), .ref (b 5), .int (nI st), .int (nI c), .ref (b 6), .int t, .ref (b 7), .ref (b 8), .long lf])), ((b 1), .inl (cI, 8, .inl mB)), ((b 2), .inl (cI, 8, .inl mM)), ((b 3), .inl (cI, 8, .inl mP)), ((b 4), .inl (cJ, 8, .inr (.inl mL))), ((b 5), .inl (cI, 8, .inl mO)), ((b 6), .inl (cI, 6, .inl fW)), ((b 7), .inl (cI, 8, .inl (nwF y fi fD))), ((b 8), .inl (cI, 8, .inl mK))] := hD
        refine lv_aload_n hx hb dX2_can_40 rfl (lv_at hl 0 rfl) ?_
        refine va_get (D := D) (ci := 2) (v := .int 2) (C := RX2) (T := TX2) (N := 14) hx hb hts hiX2 hown hK hP 0 rfl rfl 0 (by decide) hw42 (fun _ h9 => h9) rfl dX2_can_41 ?_
        refine lv_if_ne (tgt := 51) hx hb dX2_can_44 (by decide) (fun c_44 => ?_) (fun c_44 => ?_)
        · skip
          refine lv_iconst (v := 0) hx hb dX2_can_51 (by decide) ?_
          exact W.zret (v := 0) hx hb hr rfl (fun t9 ht hW => ⟨⟨0, [((b 0), .inr (2, [.int 2, .int (nI k), .ref (b 1), .ref (b 2), .ref (b 3), .ref (b 4), .ref (b 5), .int (nI st), .int (nI c), .ref (b 6), .int t, .ref (b 7), .ref (b 8), .long lf])), ((b 1), .inl (cI, 8, .inl mB)), ((b 2), .inl (cI, 8, .inl mM)), ((b 3), .inl (cI, 8, .inl mP)), ((b 4), .inl (cJ, 8, .inr (.inl mL))), ((b 5), .inl (cI, 8, .inl mO)), ((b 6), .inl (cI, 6, .inl fW)), ((b 7), .inl (cI, 8, .inl (nwF y fi fD))), ((b 8), .inl (cI, 8, .inl mK))], rfl, ⟨(bz_f (fun z9 => c_29 z9.2.2)).symm, by rw [ic_t c_6, ic_t c_14, ic_f c_29]⟩, by rw [ht]; exact hP, hD⟩, hS.F ht⟩) hS.2.2 dX2_can_52
        · skip
          exact absurd c_44 (by decide)
      · skip
        have c_29 := bz_1 c_29
        have c_29 : inR 1 200 w := c_29
        refine lv_iconst (v := 0) hx hb dX2_can_32 (by decide) ?_
        refine lv_goto (tgt := 37) hx hb dX2_can_33 (by decide) ?_
        refine va_put (D := D) (ci := 2) (v := .int 0) (ty := .int) (C := RX2) (T := TX2) (N := 14) hx hb hts hiX2 tyX2 tyX2_ok nmX2 hown hK hP hD hS 0 rfl rfl 0 (by decide) hw42 (fun _ h9 => h9) rfl (by decide +kernel) rfl rfl (Nat.le_of_ble_eq_true rfl) dX2_can_37 (fun H locs hP hD hS => ?_)
        have hP : va_P D vwCl [((b 0), .inr (2, [.int 0, .int (nI k), .ref (b 1), .ref (b 2), .ref (b 3), .ref (b 4), .ref (b 5), .int (nI st), .int (nI c), .ref (b 6), .int t, .ref (b 7), .ref (b 8), .long lf])), ((b 1), .inl (cI, 8, .inl mB)), ((b 2), .inl (cI, 8, .inl mM)), ((b 3), .inl (cI, 8, .inl mP)), ((b 4), .inl (cJ, 8, .inr (.inl mL))), ((b 5), .inl (cI, 8, .inl mO)), ((b 6), .inl (cI, 6, .inl fW)), ((b 7), .inl (cI, 8, .inl (nwF y fi fD))), ((b 8), .inl (cI, 8, .inl mK))] H := hP
        have hD : va_D A [((b 0), .inr (2, [.int 0, .int (nI k), .ref (b 1), .ref (b 2), .ref (b 3), .ref (b 4), .ref (b 5), .int (nI st), .int (nI c), .ref (b 6), .int t, .ref (b 7), .ref (b 8), .long lf])), ((b 1), .inl (cI, 8, .inl mB)), ((b 2), .inl (cI, 8, .inl mM)), ((b 3), .inl (cI, 8, .inl mP)), ((b 4), .inl (cJ, 8, .inr (.inl mL))), ((b 5), .inl (cI, 8, .inl mO)), ((b 6), .inl (cI, 6, .inl fW)), ((b 7), .inl (cI, 8, .inl (nwF y fi fD))), ((b 8), .inl (cI, 8, .inl mK))] := hD
        refine lv_aload_n hx hb dX2_can_40 rfl (lv_at hl 0 rfl) ?_
        refine va_get (D := D) (ci := 2) (v := .int 0) (C := RX2) (T := TX2) (N := 14) hx hb hts hiX2 hown hK hP 0 rfl rfl 0 (by decide) hw42 (fun _ h9 => h9) rfl dX2_can_41 ?_
        refine lv_if_ne (tgt := 51) hx hb dX2_can_44 (by decide) (fun c_44 => ?_) (fun c_44 => ?_)
        · skip
          exact absurd rfl c_44
        · skip
          refine lv_iconst (v := 1) hx hb dX2_can_47 (by decide) ?_
          refine lv_goto (tgt := 52) hx hb dX2_can_48 (by decide) ?_
          exact W.zret (v := 1) hx hb hr rfl (fun t9 ht hW => ⟨⟨1, [((b 0), .inr (2, [.int 0, .int (nI k), .ref (b 1), .ref (b 2), .ref (b 3), .ref (b 4), .ref (b 5), .int (nI st), .int (nI c), .ref (b 6), .int t, .ref (b 7), .ref (b 8), .long lf])), ((b 1), .inl (cI, 8, .inl mB)), ((b 2), .inl (cI, 8, .inl mM)), ((b 3), .inl (cI, 8, .inl mP)), ((b 4), .inl (cJ, 8, .inr (.inl mL))), ((b 5), .inl (cI, 8, .inl mO)), ((b 6), .inl (cI, 6, .inl fW)), ((b 7), .inl (cI, 8, .inl (nwF y fi fD))), ((b 8), .inl (cI, 8, .inl mK))], rfl, ⟨(bz_t ⟨c_6, c_14, c_29⟩).symm, by rw [ic_t c_6, ic_t c_14, ic_t c_29]⟩, by rw [ht]; exact hP, hD⟩, hS.F ht⟩) hS.2.2 dX2_can_52
    · skip
      have c_14 := bz_0 c_14
      refine lv_iconst (v := 1) hx hb dX2_can_17 (by decide) ?_
      refine lv_goto (tgt := 37) hx hb dX2_can_18 (by decide) ?_
      refine va_put (D := D) (ci := 2) (v := .int 1) (ty := .int) (C := RX2) (T := TX2) (N := 14) hx hb hts hiX2 tyX2 tyX2_ok nmX2 hown hK hP hD hS 0 rfl rfl 0 (by decide) hw42 (fun _ h9 => h9) rfl (by decide +kernel) rfl rfl (Nat.le_of_ble_eq_true rfl) dX2_can_37 (fun H locs hP hD hS => ?_)
      have hP : va_P D vwCl [((b 0), .inr (2, [.int 1, .int (nI k), .ref (b 1), .ref (b 2), .ref (b 3), .ref (b 4), .ref (b 5), .int (nI st), .int (nI c), .ref (b 6), .int t, .ref (b 7), .ref (b 8), .long lf])), ((b 1), .inl (cI, 8, .inl mB)), ((b 2), .inl (cI, 8, .inl mM)), ((b 3), .inl (cI, 8, .inl mP)), ((b 4), .inl (cJ, 8, .inr (.inl mL))), ((b 5), .inl (cI, 8, .inl mO)), ((b 6), .inl (cI, 6, .inl fW)), ((b 7), .inl (cI, 8, .inl (nwF y fi fD))), ((b 8), .inl (cI, 8, .inl mK))] H := hP
      have hD : va_D A [((b 0), .inr (2, [.int 1, .int (nI k), .ref (b 1), .ref (b 2), .ref (b 3), .ref (b 4), .ref (b 5), .int (nI st), .int (nI c), .ref (b 6), .int t, .ref (b 7), .ref (b 8), .long lf])), ((b 1), .inl (cI, 8, .inl mB)), ((b 2), .inl (cI, 8, .inl mM)), ((b 3), .inl (cI, 8, .inl mP)), ((b 4), .inl (cJ, 8, .inr (.inl mL))), ((b 5), .inl (cI, 8, .inl mO)), ((b 6), .inl (cI, 6, .inl fW)), ((b 7), .inl (cI, 8, .inl (nwF y fi fD))), ((b 8), .inl (cI, 8, .inl mK))] := hD
      refine lv_aload_n hx hb dX2_can_40 rfl (lv_at hl 0 rfl) ?_
      refine va_get (D := D) (ci := 2) (v := .int 1) (C := RX2) (T := TX2) (N := 14) hx hb hts hiX2 hown hK hP 0 rfl rfl 0 (by decide) hw42 (fun _ h9 => h9) rfl dX2_can_41 ?_
      refine lv_if_ne (tgt := 51) hx hb dX2_can_44 (by decide) (fun c_44 => ?_) (fun c_44 => ?_)
      · skip
        refine lv_iconst (v := 0) hx hb dX2_can_51 (by decide) ?_
        exact W.zret (v := 0) hx hb hr rfl (fun t9 ht hW => ⟨⟨0, [((b 0), .inr (2, [.int 1, .int (nI k), .ref (b 1), .ref (b 2), .ref (b 3), .ref (b 4), .ref (b 5), .int (nI st), .int (nI c), .ref (b 6), .int t, .ref (b 7), .ref (b 8), .long lf])), ((b 1), .inl (cI, 8, .inl mB)), ((b 2), .inl (cI, 8, .inl mM)), ((b 3), .inl (cI, 8, .inl mP)), ((b 4), .inl (cJ, 8, .inr (.inl mL))), ((b 5), .inl (cI, 8, .inl mO)), ((b 6), .inl (cI, 6, .inl fW)), ((b 7), .inl (cI, 8, .inl (nwF y fi fD))), ((b 8), .inl (cI, 8, .inl mK))], rfl, ⟨(bz_f (fun z9 => c_14 z9.2.1)).symm, by rw [ic_t c_6, ic_f c_14]⟩, by rw [ht]; exact hP, hD⟩, hS.F ht⟩) hS.2.2 dX2_can_52
      · skip
        exact absurd c_44 (by decide)

set_option maxHeartbeats 4000000 in
set_option maxRecDepth 100000 in
theorem c_X2_can1 (l : Launch) (D : va_G) (cI cJ : ClassId) (sz : Nat) (b : Nat → Nat) (th : Int32) (k st c : Nat) (t : Int32) (lf : Int64) (mB mM mP : Nat → Int32) (mL : Nat → Int64) (mO fW : Nat → Int32) (y : Nat) (fi : Int32) (fD mK : Nat → Int32) (hk8 : k ≤ 8) (hc : c ≤ 6) (x w : Int32) : Met l yX2_can wsX2_can ({ frames := 2, cells := 0, slots := 0, locals := 50 }) (cPw D [((b 0), .inr (2, [.int th, .int (nI k), .ref (b 1), .ref (b 2), .ref (b 3), .ref (b 4), .ref (b 5), .int (nI st), .int (nI c), .ref (b 6), .int t, .ref (b 7), .ref (b 8), .long lf])), ((b 1), .inl (cI, 8, .inl mB)), ((b 2), .inl (cI, 8, .inl mM)), ((b 3), .inl (cI, 8, .inl mP)), ((b 4), .inl (cJ, 8, .inr (.inl mL))), ((b 5), .inl (cI, 8, .inl mO)), ((b 6), .inl (cI, 6, .inl fW)), ((b 7), .inl (cI, 8, .inl (nwF y fi fD))), ((b 8), .inl (cI, 8, .inl mK))] sz (KM D cI cJ) [.ref (b 0), .int x, .int x, .int w]) (wri D [((b 0), .inr (2, [.int th, .int (nI k), .ref (b 1), .ref (b 2), .ref (b 3), .ref (b 4), .ref (b 5), .int (nI st), .int (nI c), .ref (b 6), .int t, .ref (b 7), .ref (b 8), .long lf])), ((b 1), .inl (cI, 8, .inl mB)), ((b 2), .inl (cI, 8, .inl mM)), ((b 3), .inl (cI, 8, .inl mP)), ((b 4), .inl (cJ, 8, .inr (.inl mL))), ((b 5), .inl (cI, 8, .inl mO)), ((b 6), .inl (cI, 6, .inl fW)), ((b 7), .inl (cI, 8, .inl (nwF y fi fD))), ((b 8), .inl (cI, 8, .inl mK))] sz (fun r ws' => r = bz (inM k x ∧ inR 1 200 w) ∧ ws' = [((b 0), .inr (2, [.int (ic (inM k x) (ic (inR 1 200 w) 0 2) 1), .int (nI k), .ref (b 1), .ref (b 2), .ref (b 3), .ref (b 4), .ref (b 5), .int (nI st), .int (nI c), .ref (b 6), .int t, .ref (b 7), .ref (b 8), .long lf])), ((b 1), .inl (cI, 8, .inl mB)), ((b 2), .inl (cI, 8, .inl mM)), ((b 3), .inl (cI, 8, .inl mP)), ((b 4), .inl (cJ, 8, .inr (.inl mL))), ((b 5), .inl (cI, 8, .inl mO)), ((b 6), .inl (cI, 6, .inl fW)), ((b 7), .inl (cI, 8, .inl (nwF y fi fD))), ((b 8), .inl (cI, 8, .inl mK))])) 0 0 (va_A [((b 0), .inr (2, [.int th, .int (nI k), .ref (b 1), .ref (b 2), .ref (b 3), .ref (b 4), .ref (b 5), .int (nI st), .int (nI c), .ref (b 6), .int t, .ref (b 7), .ref (b 8), .long lf])), ((b 1), .inl (cI, 8, .inl mB)), ((b 2), .inl (cI, 8, .inl mM)), ((b 3), .inl (cI, 8, .inl mP)), ((b 4), .inl (cJ, 8, .inr (.inl mL))), ((b 5), .inl (cI, 8, .inl mO)), ((b 6), .inl (cI, 6, .inl fW)), ((b 7), .inl (cI, 8, .inl (nwF y fi fD))), ((b 8), .inl (cI, 8, .inl mK))] sz) := by
  refine Met.ofW (cc := cX2_can) (maxL := 4) (ret := (some .boolean)) (by decide +kernel) rfl ?_
  intro p e s m args below meth c9 s₁ B hml hv
  obtain ⟨rfl, hsz, hP, hD0, hC⟩ := hv
  have hx := B.exec
  have hb := B.bytes
  have hr := B.returns
  have hts := atoms_spec (ws := wsX2_can) B.pre
  have hown : s.vm.findClass RX2 = some m.cls := findClass_of_methodNamed B.named
  have hlocks := B.notSynchronized
  have hK : va_K D vwCl [(cI, .int), (cJ, .long)] s := hC
  subst hsz
  unfold wri wB
  have hD := hD0.self (sz := s.heap.size)
  generalize hAe : va_A [((b 0), .inr (2, [.int th, .int (nI k), .ref (b 1), .ref (b 2), .ref (b 3), .ref (b 4), .ref (b 5), .int (nI st), .int (nI c), .ref (b 6), .int t, .ref (b 7), .ref (b 8), .long lf])), ((b 1), .inl (cI, 8, .inl mB)), ((b 2), .inl (cI, 8, .inl mM)), ((b 3), .inl (cI, 8, .inl mP)), ((b 4), .inl (cJ, 8, .inr (.inl mL))), ((b 5), .inl (cI, 8, .inl mO)), ((b 6), .inl (cI, 6, .inl fW)), ((b 7), .inl (cI, 8, .inl (nwF y fi fD))), ((b 8), .inl (cI, 8, .inl mK))] s.heap.size = A at hD ⊢
  have hA : ∀ q : Nat, s.heap.size ≤ q → A q := fun q h => by rw [← hAe]; exact Or.inr h
  have hS : va_S A s.heap s.heap [] := va_S.rf
  have hl := lv_entry ([.ref (b 0), .int x, .int x, .int w]) (n := 4) (Nat.le_of_ble_eq_true rfl)
  rw [lg_entry_eq]
  generalize (lg_sl ([.ref (b 0), .int x, .int x, .int w]) ++ List.replicate (4 - (lg_sl ([.ref (b 0), .int x, .int x, .int w])).length) Slot.unset).toArray = ls at hl ⊢
  have hl : lv_has ls 4 [(0, .ref (b 0)), (1, .int x), (2, .int x), (3, .int w)] := hl
  have hiX2 : ∀ w ∈ u_ws RX2 TX2 14, w ∈ wsX2_can := by decide +kernel
  have hw42 : (Cond.fieldLink RX2 42 "OldMeasuresModel" "thrown" "I").before ([.ref (b 0), .int x, .int x, .int w] : List Value).toArray s = true := hts _ (by decide +kernel)
  refine lv_aload_n hx hb dX2_can_0 rfl (lv_at hl 0 rfl) ?_
  refine lv_aload_n hx hb dX2_can_1 rfl (lv_at hl 0 rfl) ?_
  refine lv_iload_n hx hb dX2_can_2 rfl (lv_at hl 1 rfl) ?_
  refine ro_iE (va_runV (As := [.int x]) (rest := [.ref (b 0)]) ⟨hx, hb, hml, hown, hts⟩ (c_X2_isMeasure l D cI cJ b th k st c t lf mB mM mP mL mO fW y fi fD mK (by omega) x) (cwV 1 hts gX2_can_X2_isMeasure rfl rfl rfl (by decide +kernel) ⟨Nat.le_of_ble_eq_true rfl, Nat.le_of_ble_eq_true rfl⟩) (preV_ro KM_ok (hP.sub (ws' := [((b 0), .inr (2, [.int th, .int (nI k), .ref (b 1), .ref (b 2), .ref (b 3), .ref (b 4), .ref (b 5), .int (nI st), .int (nI c), .ref (b 6), .int t, .ref (b 7), .ref (b 8), .long lf])), ((b 1), .inl (cI, 8, .inl mB)), ((b 2), .inl (cI, 8, .inl mM)), ((b 3), .inl (cI, 8, .inl mP)), ((b 4), .inl (cJ, 8, .inr (.inl mL))), ((b 5), .inl (cI, 8, .inl mO)), ((b 6), .inl (cI, 6, .inl fW)), ((b 7), .inl (cI, 8, .inl (nwF y fi fD))), ((b 8), .inl (cI, 8, .inl mK))]) [0, 1, 2, 3, 4, 5, 6, 7, 8] rfl) hK (va_recv hK hP (ci := 2) (q0 := 0) rfl rfl)) rfl rfl hl.1 rfl (lv_room (Nat.le_of_ble_eq_true rfl)) dX2_can_3 ⟨by decide, by decide⟩) ?_
  refine lv_if_eq (tgt := 17) hx hb dX2_can_6 (by decide) (fun c_6 => ?_) (fun c_6 => ?_)
  · skip
    have c_6 := bz_0 c_6
    refine lv_iconst (v := 1) hx hb dX2_can_17 (by decide) ?_
    refine lv_goto (tgt := 37) hx hb dX2_can_18 (by decide) ?_
    refine va_put (D := D) (ci := 2) (v := .int 1) (ty := .int) (C := RX2) (T := TX2) (N := 14) hx hb hts hiX2 tyX2 tyX2_ok nmX2 hown hK hP hD hS 0 rfl rfl 0 (by decide) hw42 (fun _ h9 => h9) rfl (by decide +kernel) rfl rfl (Nat.le_of_ble_eq_true rfl) dX2_can_37 (fun H locs hP hD hS => ?_)
    have hP : va_P D vwCl [((b 0), .inr (2, [.int 1, .int (nI k), .ref (b 1), .ref (b 2), .ref (b 3), .ref (b 4), .ref (b 5), .int (nI st), .int (nI c), .ref (b 6), .int t, .ref (b 7), .ref (b 8), .long lf])), ((b 1), .inl (cI, 8, .inl mB)), ((b 2), .inl (cI, 8, .inl mM)), ((b 3), .inl (cI, 8, .inl mP)), ((b 4), .inl (cJ, 8, .inr (.inl mL))), ((b 5), .inl (cI, 8, .inl mO)), ((b 6), .inl (cI, 6, .inl fW)), ((b 7), .inl (cI, 8, .inl (nwF y fi fD))), ((b 8), .inl (cI, 8, .inl mK))] H := hP
    have hD : va_D A [((b 0), .inr (2, [.int 1, .int (nI k), .ref (b 1), .ref (b 2), .ref (b 3), .ref (b 4), .ref (b 5), .int (nI st), .int (nI c), .ref (b 6), .int t, .ref (b 7), .ref (b 8), .long lf])), ((b 1), .inl (cI, 8, .inl mB)), ((b 2), .inl (cI, 8, .inl mM)), ((b 3), .inl (cI, 8, .inl mP)), ((b 4), .inl (cJ, 8, .inr (.inl mL))), ((b 5), .inl (cI, 8, .inl mO)), ((b 6), .inl (cI, 6, .inl fW)), ((b 7), .inl (cI, 8, .inl (nwF y fi fD))), ((b 8), .inl (cI, 8, .inl mK))] := hD
    refine lv_aload_n hx hb dX2_can_40 rfl (lv_at hl 0 rfl) ?_
    refine va_get (D := D) (ci := 2) (v := .int 1) (C := RX2) (T := TX2) (N := 14) hx hb hts hiX2 hown hK hP 0 rfl rfl 0 (by decide) hw42 (fun _ h9 => h9) rfl dX2_can_41 ?_
    refine lv_if_ne (tgt := 51) hx hb dX2_can_44 (by decide) (fun c_44 => ?_) (fun c_44 => ?_)
    · skip
      refine lv_iconst (v := 0) hx hb dX2_can_51 (by decide) ?_
      exact W.zret (v := 0) hx hb hr rfl (fun t9 ht hW => ⟨⟨0, [((b 0), .inr (2, [.int 1, .int (nI k), .ref (b 1), .ref (b 2), .ref (b 3), .ref (b 4), .ref (b 5), .int (nI st), .int (nI c), .ref (b 6), .int t, .ref (b 7), .ref (b 8), .long lf])), ((b 1), .inl (cI, 8, .inl mB)), ((b 2), .inl (cI, 8, .inl mM)), ((b 3), .inl (cI, 8, .inl mP)), ((b 4), .inl (cJ, 8, .inr (.inl mL))), ((b 5), .inl (cI, 8, .inl mO)), ((b 6), .inl (cI, 6, .inl fW)), ((b 7), .inl (cI, 8, .inl (nwF y fi fD))), ((b 8), .inl (cI, 8, .inl mK))], rfl, ⟨(bz_f (fun z9 => c_6 z9.1)).symm, by rw [ic_f c_6]⟩, by rw [ht]; exact hP, hD⟩, hS.F ht⟩) hS.2.2 dX2_can_52
    · skip
      exact absurd c_44 (by decide)
  · skip
    have c_6 := bz_1 c_6
    refine lv_aload_n hx hb dX2_can_9 rfl (lv_at hl 0 rfl) ?_
    refine lv_iload_n hx hb dX2_can_10 rfl (lv_at hl 2 rfl) ?_
    refine ro_iE (va_runV (As := [.int x]) (rest := [.ref (b 0)]) ⟨hx, hb, hml, hown, hts⟩ (c_X2_isMeasure l D cI cJ b th k st c t lf mB mM mP mL mO fW y fi fD mK (by omega) x) (cwV 1 hts gX2_can_X2_isMeasure rfl rfl rfl (by decide +kernel) ⟨Nat.le_of_ble_eq_true rfl, Nat.le_of_ble_eq_true rfl⟩) (preV_ro KM_ok (hP.sub (ws' := [((b 0), .inr (2, [.int th, .int (nI k), .ref (b 1), .ref (b 2), .ref (b 3), .ref (b 4), .ref (b 5), .int (nI st), .int (nI c), .ref (b 6), .int t, .ref (b 7), .ref (b 8), .long lf])), ((b 1), .inl (cI, 8, .inl mB)), ((b 2), .inl (cI, 8, .inl mM)), ((b 3), .inl (cI, 8, .inl mP)), ((b 4), .inl (cJ, 8, .inr (.inl mL))), ((b 5), .inl (cI, 8, .inl mO)), ((b 6), .inl (cI, 6, .inl fW)), ((b 7), .inl (cI, 8, .inl (nwF y fi fD))), ((b 8), .inl (cI, 8, .inl mK))]) [0, 1, 2, 3, 4, 5, 6, 7, 8] rfl) hK (va_recv hK hP (ci := 2) (q0 := 0) rfl rfl)) rfl rfl hl.1 rfl (lv_room (Nat.le_of_ble_eq_true rfl)) dX2_can_11 ⟨by decide, by decide⟩) ?_
    refine lv_if_ne (tgt := 21) hx hb dX2_can_14 (by decide) (fun c_14 => ?_) (fun c_14 => ?_)
    · skip
      have c_14 := bz_1 c_14
      refine lv_iload_n hx hb dX2_can_21 rfl (lv_at hl 3 rfl) ?_
      refine lv_iconst (v := 1) hx hb dX2_can_22 (by decide) ?_
      refine lv_sipush (v := 200) hx hb dX2_can_23 (by decide) ?_
      refine ro_iE (va_runS (As := [.int w, .int 1, .int 200]) (rest := [.ref (b 0)]) ⟨hx, hb, hml, hown, hts⟩ (c_X2_isIn l w 1 200) (va_cwS 3 hts gX2_can_X2_isIn rfl rfl rfl (by decide +kernel) ⟨Nat.le_of_ble_eq_true rfl, Nat.le_of_ble_eq_true rfl⟩) pre0 rfl rfl hl.1 rfl (lv_room (Nat.le_of_ble_eq_true rfl)) dX2_can_26 ⟨by decide, by decide⟩) ?_
      refine lv_if_eq (tgt := 36) hx hb dX2_can_29 (by decide) (fun c_29 => ?_) (fun c_29 => ?_)
      · skip
        have c_29 := bz_0 c_29
        have c_29 : ¬ inR 1 200 w := c_29
        refine lv_iconst (v := 2) hx hb dX2_can_36 (by decide) ?_
        refine va_put (D := D) (ci := 2) (v := .int 2) (ty := .int) (C := RX2) (T := TX2) (N := 14) hx hb hts hiX2 tyX2 tyX2_ok nmX2 hown hK hP hD hS 0 rfl rfl 0 (by decide) hw42 (fun _ h9 => h9) rfl (by decide +kernel) rfl rfl (Nat.le_of_ble_eq_true rfl) dX2_can_37 (fun H locs hP hD hS => ?_)
        have hP : va_P D vwCl [((b 0), .inr (2, [.int 2, .int (nI k), .ref (b 1), .ref (b 2), .ref (b 3), .ref (b 4), .ref (b 5), .int (nI st), .int (nI c), .ref (b 6), .int t, .ref (b 7), .ref (b 8), .long lf])), ((b 1), .inl (cI, 8, .inl mB)), ((b 2), .inl (cI, 8, .inl mM)), ((b 3), .inl (cI, 8, .inl mP)), ((b 4), .inl (cJ, 8, .inr (.inl mL))), ((b 5), .inl (cI, 8, .inl mO)), ((b 6), .inl (cI, 6, .inl fW)), ((b 7), .inl (cI, 8, .inl (nwF y fi fD))), ((b 8), .inl (cI, 8, .inl mK))] H := hP
        have hD : va_D A [((b 0), .inr (2, [.int 2, .int (nI k), .ref (b 1), .ref (b 2), .ref (b 3), .ref (b 4), .ref (b 5), .int (nI st), .int (nI c), .ref (b 6), .int t, .ref (b 7), .ref (b 8), .long lf])), ((b 1), .inl (cI, 8, .inl mB)), ((b 2), .inl (cI, 8, .inl mM)), ((b 3), .inl (cI, 8, .inl mP)), ((b 4), .inl (cJ, 8, .inr (.inl mL))), ((b 5), .inl (cI, 8, .inl mO)), ((b 6), .inl (cI, 6, .inl fW)), ((b 7), .inl (cI, 8, .inl (nwF y fi fD))), ((b 8), .inl (cI, 8, .inl mK))] := hD
        refine lv_aload_n hx hb dX2_can_40 rfl (lv_at hl 0 rfl) ?_
        refine va_get (D := D) (ci := 2) (v := .int 2) (C := RX2) (T := TX2) (N := 14) hx hb hts hiX2 hown hK hP 0 rfl rfl 0 (by decide) hw42 (fun _ h9 => h9) rfl dX2_can_41 ?_
        refine lv_if_ne (tgt := 51) hx hb dX2_can_44 (by decide) (fun c_44 => ?_) (fun c_44 => ?_)
        · skip
          refine lv_iconst (v := 0) hx hb dX2_can_51 (by decide) ?_
          exact W.zret (v := 0) hx hb hr rfl (fun t9 ht hW => ⟨⟨0, [((b 0), .inr (2, [.int 2, .int (nI k), .ref (b 1), .ref (b 2), .ref (b 3), .ref (b 4), .ref (b 5), .int (nI st), .int (nI c), .ref (b 6), .int t, .ref (b 7), .ref (b 8), .long lf])), ((b 1), .inl (cI, 8, .inl mB)), ((b 2), .inl (cI, 8, .inl mM)), ((b 3), .inl (cI, 8, .inl mP)), ((b 4), .inl (cJ, 8, .inr (.inl mL))), ((b 5), .inl (cI, 8, .inl mO)), ((b 6), .inl (cI, 6, .inl fW)), ((b 7), .inl (cI, 8, .inl (nwF y fi fD))), ((b 8), .inl (cI, 8, .inl mK))], rfl, ⟨(bz_f (fun z9 => c_29 z9.2)).symm, by rw [ic_t c_6, ic_f c_29]⟩, by rw [ht]; exact hP, hD⟩, hS.F ht⟩) hS.2.2 dX2_can_52
        · skip
          exact absurd c_44 (by decide)
      · skip
        have c_29 := bz_1 c_29
        have c_29 : inR 1 200 w := c_29
        refine lv_iconst (v := 0) hx hb dX2_can_32 (by decide) ?_
        refine lv_goto (tgt := 37) hx hb dX2_can_33 (by decide) ?_
        refine va_put (D := D) (ci := 2) (v := .int 0) (ty := .int) (C := RX2) (T := TX2) (N := 14) hx hb hts hiX2 tyX2 tyX2_ok nmX2 hown hK hP hD hS 0 rfl rfl 0 (by decide) hw42 (fun _ h9 => h9) rfl (by decide +kernel) rfl rfl (Nat.le_of_ble_eq_true rfl) dX2_can_37 (fun H locs hP hD hS => ?_)
        have hP : va_P D vwCl [((b 0), .inr (2, [.int 0, .int (nI k), .ref (b 1), .ref (b 2), .ref (b 3), .ref (b 4), .ref (b 5), .int (nI st), .int (nI c), .ref (b 6), .int t, .ref (b 7), .ref (b 8), .long lf])), ((b 1), .inl (cI, 8, .inl mB)), ((b 2), .inl (cI, 8, .inl mM)), ((b 3), .inl (cI, 8, .inl mP)), ((b 4), .inl (cJ, 8, .inr (.inl mL))), ((b 5), .inl (cI, 8, .inl mO)), ((b 6), .inl (cI, 6, .inl fW)), ((b 7), .inl (cI, 8, .inl (nwF y fi fD))), ((b 8), .inl (cI, 8, .inl mK))] H := hP
        have hD : va_D A [((b 0), .inr (2, [.int 0, .int (nI k), .ref (b 1), .ref (b 2), .ref (b 3), .ref (b 4), .ref (b 5), .int (nI st), .int (nI c), .ref (b 6), .int t, .ref (b 7), .ref (b 8), .long lf])), ((b 1), .inl (cI, 8, .inl mB)), ((b 2), .inl (cI, 8, .inl mM)), ((b 3), .inl (cI, 8, .inl mP)), ((b 4), .inl (cJ, 8, .inr (.inl mL))), ((b 5), .inl (cI, 8, .inl mO)), ((b 6), .inl (cI, 6, .inl fW)), ((b 7), .inl (cI, 8, .inl (nwF y fi fD))), ((b 8), .inl (cI, 8, .inl mK))] := hD
        refine lv_aload_n hx hb dX2_can_40 rfl (lv_at hl 0 rfl) ?_
        refine va_get (D := D) (ci := 2) (v := .int 0) (C := RX2) (T := TX2) (N := 14) hx hb hts hiX2 hown hK hP 0 rfl rfl 0 (by decide) hw42 (fun _ h9 => h9) rfl dX2_can_41 ?_
        refine lv_if_ne (tgt := 51) hx hb dX2_can_44 (by decide) (fun c_44 => ?_) (fun c_44 => ?_)
        · skip
          exact absurd rfl c_44
        · skip
          refine lv_iconst (v := 1) hx hb dX2_can_47 (by decide) ?_
          refine lv_goto (tgt := 52) hx hb dX2_can_48 (by decide) ?_
          exact W.zret (v := 1) hx hb hr rfl (fun t9 ht hW => ⟨⟨1, [((b 0), .inr (2, [.int 0, .int (nI k), .ref (b 1), .ref (b 2), .ref (b 3), .ref (b 4), .ref (b 5), .int (nI st), .int (nI c), .ref (b 6), .int t, .ref (b 7), .ref (b 8), .long lf])), ((b 1), .inl (cI, 8, .inl mB)), ((b 2), .inl (cI, 8, .inl mM)), ((b 3), .inl (cI, 8, .inl mP)), ((b 4), .inl (cJ, 8, .inr (.inl mL))), ((b 5), .inl (cI, 8, .inl mO)), ((b 6), .inl (cI, 6, .inl fW)), ((b 7), .inl (cI, 8, .inl (nwF y fi fD))), ((b 8), .inl (cI, 8, .inl mK))], rfl, ⟨(bz_t ⟨c_6, c_29⟩).symm, by rw [ic_t c_6, ic_t c_29]⟩, by rw [ht]; exact hP, hD⟩, hS.F ht⟩) hS.2.2 dX2_can_52
    · skip
      have c_14 := bz_0 c_14
      exact absurd c_6 c_14

set_option maxHeartbeats 4000000 in
set_option maxRecDepth 100000 in
theorem c_X2_canGet (l : Launch) (D : va_G) (cI cJ : ClassId) (sz : Nat) (b : Nat → Nat) (th : Int32) (k st c : Nat) (t : Int32) (lf : Int64) (mB mM mP : Nat → Int32) (mL : Nat → Int64) (mO fW : Nat → Int32) (y : Nat) (fi : Int32) (fD mK : Nat → Int32) (hk8 : k ≤ 8) (hc : c ≤ 6) (v w x : Int32) : Met l yX2_canGet wsX2_canGet ({ frames := 2, cells := 0, slots := 0, locals := 50 }) (cPw D [((b 0), .inr (2, [.int th, .int (nI k), .ref (b 1), .ref (b 2), .ref (b 3), .ref (b 4), .ref (b 5), .int (nI st), .int (nI c), .ref (b 6), .int t, .ref (b 7), .ref (b 8), .long lf])), ((b 1), .inl (cI, 8, .inl mB)), ((b 2), .inl (cI, 8, .inl mM)), ((b 3), .inl (cI, 8, .inl mP)), ((b 4), .inl (cJ, 8, .inr (.inl mL))), ((b 5), .inl (cI, 8, .inl mO)), ((b 6), .inl (cI, 6, .inl fW)), ((b 7), .inl (cI, 8, .inl (nwF y fi fD))), ((b 8), .inl (cI, 8, .inl mK))] sz (KM D cI cJ) [.ref (b 0), .int v, .int w, .int x]) (wri D [((b 0), .inr (2, [.int th, .int (nI k), .ref (b 1), .ref (b 2), .ref (b 3), .ref (b 4), .ref (b 5), .int (nI st), .int (nI c), .ref (b 6), .int t, .ref (b 7), .ref (b 8), .long lf])), ((b 1), .inl (cI, 8, .inl mB)), ((b 2), .inl (cI, 8, .inl mM)), ((b 3), .inl (cI, 8, .inl mP)), ((b 4), .inl (cJ, 8, .inr (.inl mL))), ((b 5), .inl (cI, 8, .inl mO)), ((b 6), .inl (cI, 6, .inl fW)), ((b 7), .inl (cI, 8, .inl (nwF y fi fD))), ((b 8), .inl (cI, 8, .inl mK))] sz (fun r ws' => r = bz (inM c v ∧ inM k x ∧ inR 1 200 w) ∧ ws' = [((b 0), .inr (2, [.int (ic (inM c v) (ic (inM k x) (ic (inR 1 200 w) 0 2) 1) 1), .int (nI k), .ref (b 1), .ref (b 2), .ref (b 3), .ref (b 4), .ref (b 5), .int (nI st), .int (nI c), .ref (b 6), .int t, .ref (b 7), .ref (b 8), .long lf])), ((b 1), .inl (cI, 8, .inl mB)), ((b 2), .inl (cI, 8, .inl mM)), ((b 3), .inl (cI, 8, .inl mP)), ((b 4), .inl (cJ, 8, .inr (.inl mL))), ((b 5), .inl (cI, 8, .inl mO)), ((b 6), .inl (cI, 6, .inl fW)), ((b 7), .inl (cI, 8, .inl (nwF y fi fD))), ((b 8), .inl (cI, 8, .inl mK))])) 0 0 (va_A [((b 0), .inr (2, [.int th, .int (nI k), .ref (b 1), .ref (b 2), .ref (b 3), .ref (b 4), .ref (b 5), .int (nI st), .int (nI c), .ref (b 6), .int t, .ref (b 7), .ref (b 8), .long lf])), ((b 1), .inl (cI, 8, .inl mB)), ((b 2), .inl (cI, 8, .inl mM)), ((b 3), .inl (cI, 8, .inl mP)), ((b 4), .inl (cJ, 8, .inr (.inl mL))), ((b 5), .inl (cI, 8, .inl mO)), ((b 6), .inl (cI, 6, .inl fW)), ((b 7), .inl (cI, 8, .inl (nwF y fi fD))), ((b 8), .inl (cI, 8, .inl mK))] sz) := by
  refine Met.ofW (cc := cX2_canGet) (maxL := 4) (ret := (some .boolean)) (by decide +kernel) rfl ?_
  intro p e s m args below meth c9 s₁ B hml hv
  obtain ⟨rfl, hsz, hP, hD0, hC⟩ := hv
  have hx := B.exec
  have hb := B.bytes
  have hr := B.returns
  have hts := atoms_spec (ws := wsX2_canGet) B.pre
  have hown : s.vm.findClass RX2 = some m.cls := findClass_of_methodNamed B.named
  have hlocks := B.notSynchronized
  have hK : va_K D vwCl [(cI, .int), (cJ, .long)] s := hC
  subst hsz
  unfold wri wB
  have hD := hD0.self (sz := s.heap.size)
  generalize hAe : va_A [((b 0), .inr (2, [.int th, .int (nI k), .ref (b 1), .ref (b 2), .ref (b 3), .ref (b 4), .ref (b 5), .int (nI st), .int (nI c), .ref (b 6), .int t, .ref (b 7), .ref (b 8), .long lf])), ((b 1), .inl (cI, 8, .inl mB)), ((b 2), .inl (cI, 8, .inl mM)), ((b 3), .inl (cI, 8, .inl mP)), ((b 4), .inl (cJ, 8, .inr (.inl mL))), ((b 5), .inl (cI, 8, .inl mO)), ((b 6), .inl (cI, 6, .inl fW)), ((b 7), .inl (cI, 8, .inl (nwF y fi fD))), ((b 8), .inl (cI, 8, .inl mK))] s.heap.size = A at hD ⊢
  have hA : ∀ q : Nat, s.heap.size ≤ q → A q := fun q h => by rw [← hAe]; exact Or.inr h
  have hS : va_S A s.heap s.heap [] := va_S.rf
  have hl := lv_entry ([.ref (b 0), .int v, .int w, .int x]) (n := 4) (Nat.le_of_ble_eq_true rfl)
  rw [lg_entry_eq]
  generalize (lg_sl ([.ref (b 0), .int v, .int w, .int x]) ++ List.replicate (4 - (lg_sl ([.ref (b 0), .int v, .int w, .int x])).length) Slot.unset).toArray = ls at hl ⊢
  have hl : lv_has ls 4 [(0, .ref (b 0)), (1, .int v), (2, .int w), (3, .int x)] := hl
  have hiX2 : ∀ w ∈ u_ws RX2 TX2 14, w ∈ wsX2_canGet := by decide +kernel
  have hw42 : (Cond.fieldLink RX2 42 "OldMeasuresModel" "thrown" "I").before ([.ref (b 0), .int v, .int w, .int x] : List Value).toArray s = true := hts _ (by decide +kernel)
  refine lv_aload_n hx hb dX2_canGet_0 rfl (lv_at hl 0 rfl) ?_
  refine lv_aload_n hx hb dX2_canGet_1 rfl (lv_at hl 0 rfl) ?_
  refine lv_iload_n hx hb dX2_canGet_2 rfl (lv_at hl 1 rfl) ?_
  refine ro_iE (va_runV (As := [.int v]) (rest := [.ref (b 0)]) ⟨hx, hb, hml, hown, hts⟩ (c_X2_isStall l D cI cJ b th k st c t lf mB mM mP mL mO fW y fi fD mK (by omega) v) (cwV 1 hts gX2_canGet_X2_isStall rfl rfl rfl (by decide +kernel) ⟨Nat.le_of_ble_eq_true rfl, Nat.le_of_ble_eq_true rfl⟩) (preV_ro KM_ok (hP.sub (ws' := [((b 0), .inr (2, [.int th, .int (nI k), .ref (b 1), .ref (b 2), .ref (b 3), .ref (b 4), .ref (b 5), .int (nI st), .int (nI c), .ref (b 6), .int t, .ref (b 7), .ref (b 8), .long lf])), ((b 1), .inl (cI, 8, .inl mB)), ((b 2), .inl (cI, 8, .inl mM)), ((b 3), .inl (cI, 8, .inl mP)), ((b 4), .inl (cJ, 8, .inr (.inl mL))), ((b 5), .inl (cI, 8, .inl mO)), ((b 6), .inl (cI, 6, .inl fW)), ((b 7), .inl (cI, 8, .inl (nwF y fi fD))), ((b 8), .inl (cI, 8, .inl mK))]) [0, 1, 2, 3, 4, 5, 6, 7, 8] rfl) hK (va_recv hK hP (ci := 2) (q0 := 0) rfl rfl)) rfl rfl hl.1 rfl (lv_room (Nat.le_of_ble_eq_true rfl)) dX2_canGet_3 ⟨by decide, by decide⟩) ?_
  refine lv_if_eq (tgt := 17) hx hb dX2_canGet_6 (by decide) (fun c_6 => ?_) (fun c_6 => ?_)
  · skip
    have c_6 := bz_0 c_6
    refine lv_iconst (v := 1) hx hb dX2_canGet_17 (by decide) ?_
    refine lv_goto (tgt := 37) hx hb dX2_canGet_18 (by decide) ?_
    refine va_put (D := D) (ci := 2) (v := .int 1) (ty := .int) (C := RX2) (T := TX2) (N := 14) hx hb hts hiX2 tyX2 tyX2_ok nmX2 hown hK hP hD hS 0 rfl rfl 0 (by decide) hw42 (fun _ h9 => h9) rfl (by decide +kernel) rfl rfl (Nat.le_of_ble_eq_true rfl) dX2_canGet_37 (fun H locs hP hD hS => ?_)
    have hP : va_P D vwCl [((b 0), .inr (2, [.int 1, .int (nI k), .ref (b 1), .ref (b 2), .ref (b 3), .ref (b 4), .ref (b 5), .int (nI st), .int (nI c), .ref (b 6), .int t, .ref (b 7), .ref (b 8), .long lf])), ((b 1), .inl (cI, 8, .inl mB)), ((b 2), .inl (cI, 8, .inl mM)), ((b 3), .inl (cI, 8, .inl mP)), ((b 4), .inl (cJ, 8, .inr (.inl mL))), ((b 5), .inl (cI, 8, .inl mO)), ((b 6), .inl (cI, 6, .inl fW)), ((b 7), .inl (cI, 8, .inl (nwF y fi fD))), ((b 8), .inl (cI, 8, .inl mK))] H := hP
    have hD : va_D A [((b 0), .inr (2, [.int 1, .int (nI k), .ref (b 1), .ref (b 2), .ref (b 3), .ref (b 4), .ref (b 5), .int (nI st), .int (nI c), .ref (b 6), .int t, .ref (b 7), .ref (b 8), .long lf])), ((b 1), .inl (cI, 8, .inl mB)), ((b 2), .inl (cI, 8, .inl mM)), ((b 3), .inl (cI, 8, .inl mP)), ((b 4), .inl (cJ, 8, .inr (.inl mL))), ((b 5), .inl (cI, 8, .inl mO)), ((b 6), .inl (cI, 6, .inl fW)), ((b 7), .inl (cI, 8, .inl (nwF y fi fD))), ((b 8), .inl (cI, 8, .inl mK))] := hD
    refine lv_aload_n hx hb dX2_canGet_40 rfl (lv_at hl 0 rfl) ?_
    refine va_get (D := D) (ci := 2) (v := .int 1) (C := RX2) (T := TX2) (N := 14) hx hb hts hiX2 hown hK hP 0 rfl rfl 0 (by decide) hw42 (fun _ h9 => h9) rfl dX2_canGet_41 ?_
    refine lv_if_ne (tgt := 51) hx hb dX2_canGet_44 (by decide) (fun c_44 => ?_) (fun c_44 => ?_)
    · skip
      refine lv_iconst (v := 0) hx hb dX2_canGet_51 (by decide) ?_
      exact W.zret (v := 0) hx hb hr rfl (fun t9 ht hW => ⟨⟨0, [((b 0), .inr (2, [.int 1, .int (nI k), .ref (b 1), .ref (b 2), .ref (b 3), .ref (b 4), .ref (b 5), .int (nI st), .int (nI c), .ref (b 6), .int t, .ref (b 7), .ref (b 8), .long lf])), ((b 1), .inl (cI, 8, .inl mB)), ((b 2), .inl (cI, 8, .inl mM)), ((b 3), .inl (cI, 8, .inl mP)), ((b 4), .inl (cJ, 8, .inr (.inl mL))), ((b 5), .inl (cI, 8, .inl mO)), ((b 6), .inl (cI, 6, .inl fW)), ((b 7), .inl (cI, 8, .inl (nwF y fi fD))), ((b 8), .inl (cI, 8, .inl mK))], rfl, ⟨(bz_f (fun z9 => c_6 z9.1)).symm, by rw [ic_f c_6]⟩, by rw [ht]; exact hP, hD⟩, hS.F ht⟩) hS.2.2 dX2_canGet_52
    · skip
      exact absurd c_44 (by decide)
  · skip
    have c_6 := bz_1 c_6
    refine lv_aload_n hx hb dX2_canGet_9 rfl (lv_at hl 0 rfl) ?_
    refine lv_iload_n hx hb dX2_canGet_10 rfl (lv_at hl 3 rfl) ?_
    refine ro_iE (va_runV (As := [.int x]) (rest := [.ref (b 0)]) ⟨hx, hb, hml, hown, hts⟩ (c_X2_isMeasure l D cI cJ b th k st c t lf mB mM mP mL mO fW y fi fD mK (by omega) x) (cwV 1 hts gX2_canGet_X2_isMeasure rfl rfl rfl (by decide +kernel) ⟨Nat.le_of_ble_eq_true rfl, Nat.le_of_ble_eq_true rfl⟩) (preV_ro KM_ok (hP.sub (ws' := [((b 0), .inr (2, [.int th, .int (nI k), .ref (b 1), .ref (b 2), .ref (b 3), .ref (b 4), .ref (b 5), .int (nI st), .int (nI c), .ref (b 6), .int t, .ref (b 7), .ref (b 8), .long lf])), ((b 1), .inl (cI, 8, .inl mB)), ((b 2), .inl (cI, 8, .inl mM)), ((b 3), .inl (cI, 8, .inl mP)), ((b 4), .inl (cJ, 8, .inr (.inl mL))), ((b 5), .inl (cI, 8, .inl mO)), ((b 6), .inl (cI, 6, .inl fW)), ((b 7), .inl (cI, 8, .inl (nwF y fi fD))), ((b 8), .inl (cI, 8, .inl mK))]) [0, 1, 2, 3, 4, 5, 6, 7, 8] rfl) hK (va_recv hK hP (ci := 2) (q0 := 0) rfl rfl)) rfl rfl hl.1 rfl (lv_room (Nat.le_of_ble_eq_true rfl)) dX2_canGet_11 ⟨by decide, by decide⟩) ?_
    refine lv_if_ne (tgt := 21) hx hb dX2_canGet_14 (by decide) (fun c_14 => ?_) (fun c_14 => ?_)
    · skip
      have c_14 := bz_1 c_14
      refine lv_iload_n hx hb dX2_canGet_21 rfl (lv_at hl 2 rfl) ?_
      refine lv_iconst (v := 1) hx hb dX2_canGet_22 (by decide) ?_
      refine lv_sipush (v := 200) hx hb dX2_canGet_23 (by decide) ?_
      refine ro_iE (va_runS (As := [.int w, .int 1, .int 200]) (rest := [.ref (b 0)]) ⟨hx, hb, hml, hown, hts⟩ (c_X2_isIn l w 1 200) (va_cwS 3 hts gX2_canGet_X2_isIn rfl rfl rfl (by decide +kernel) ⟨Nat.le_of_ble_eq_true rfl, Nat.le_of_ble_eq_true rfl⟩) pre0 rfl rfl hl.1 rfl (lv_room (Nat.le_of_ble_eq_true rfl)) dX2_canGet_26 ⟨by decide, by decide⟩) ?_
      refine lv_if_eq (tgt := 36) hx hb dX2_canGet_29 (by decide) (fun c_29 => ?_) (fun c_29 => ?_)
      · skip
        have c_29 := bz_0 c_29
        have c_29 : ¬ inR 1 200 w := c_29
        refine lv_iconst (v := 2) hx hb dX2_canGet_36 (by decide) ?_
        refine va_put (D := D) (ci := 2) (v := .int 2) (ty := .int) (C := RX2) (T := TX2) (N := 14) hx hb hts hiX2 tyX2 tyX2_ok nmX2 hown hK hP hD hS 0 rfl rfl 0 (by decide) hw42 (fun _ h9 => h9) rfl (by decide +kernel) rfl rfl (Nat.le_of_ble_eq_true rfl) dX2_canGet_37 (fun H locs hP hD hS => ?_)
        have hP : va_P D vwCl [((b 0), .inr (2, [.int 2, .int (nI k), .ref (b 1), .ref (b 2), .ref (b 3), .ref (b 4), .ref (b 5), .int (nI st), .int (nI c), .ref (b 6), .int t, .ref (b 7), .ref (b 8), .long lf])), ((b 1), .inl (cI, 8, .inl mB)), ((b 2), .inl (cI, 8, .inl mM)), ((b 3), .inl (cI, 8, .inl mP)), ((b 4), .inl (cJ, 8, .inr (.inl mL))), ((b 5), .inl (cI, 8, .inl mO)), ((b 6), .inl (cI, 6, .inl fW)), ((b 7), .inl (cI, 8, .inl (nwF y fi fD))), ((b 8), .inl (cI, 8, .inl mK))] H := hP
        have hD : va_D A [((b 0), .inr (2, [.int 2, .int (nI k), .ref (b 1), .ref (b 2), .ref (b 3), .ref (b 4), .ref (b 5), .int (nI st), .int (nI c), .ref (b 6), .int t, .ref (b 7), .ref (b 8), .long lf])), ((b 1), .inl (cI, 8, .inl mB)), ((b 2), .inl (cI, 8, .inl mM)), ((b 3), .inl (cI, 8, .inl mP)), ((b 4), .inl (cJ, 8, .inr (.inl mL))), ((b 5), .inl (cI, 8, .inl mO)), ((b 6), .inl (cI, 6, .inl fW)), ((b 7), .inl (cI, 8, .inl (nwF y fi fD))), ((b 8), .inl (cI, 8, .inl mK))] := hD
        refine lv_aload_n hx hb dX2_canGet_40 rfl (lv_at hl 0 rfl) ?_
        refine va_get (D := D) (ci := 2) (v := .int 2) (C := RX2) (T := TX2) (N := 14) hx hb hts hiX2 hown hK hP 0 rfl rfl 0 (by decide) hw42 (fun _ h9 => h9) rfl dX2_canGet_41 ?_
        refine lv_if_ne (tgt := 51) hx hb dX2_canGet_44 (by decide) (fun c_44 => ?_) (fun c_44 => ?_)
        · skip
          refine lv_iconst (v := 0) hx hb dX2_canGet_51 (by decide) ?_
          exact W.zret (v := 0) hx hb hr rfl (fun t9 ht hW => ⟨⟨0, [((b 0), .inr (2, [.int 2, .int (nI k), .ref (b 1), .ref (b 2), .ref (b 3), .ref (b 4), .ref (b 5), .int (nI st), .int (nI c), .ref (b 6), .int t, .ref (b 7), .ref (b 8), .long lf])), ((b 1), .inl (cI, 8, .inl mB)), ((b 2), .inl (cI, 8, .inl mM)), ((b 3), .inl (cI, 8, .inl mP)), ((b 4), .inl (cJ, 8, .inr (.inl mL))), ((b 5), .inl (cI, 8, .inl mO)), ((b 6), .inl (cI, 6, .inl fW)), ((b 7), .inl (cI, 8, .inl (nwF y fi fD))), ((b 8), .inl (cI, 8, .inl mK))], rfl, ⟨(bz_f (fun z9 => c_29 z9.2.2)).symm, by rw [ic_t c_6, ic_t c_14, ic_f c_29]⟩, by rw [ht]; exact hP, hD⟩, hS.F ht⟩) hS.2.2 dX2_canGet_52
        · skip
          exact absurd c_44 (by decide)
      · skip
        have c_29 := bz_1 c_29
        have c_29 : inR 1 200 w := c_29
        refine lv_iconst (v := 0) hx hb dX2_canGet_32 (by decide) ?_
        refine lv_goto (tgt := 37) hx hb dX2_canGet_33 (by decide) ?_
        refine va_put (D := D) (ci := 2) (v := .int 0) (ty := .int) (C := RX2) (T := TX2) (N := 14) hx hb hts hiX2 tyX2 tyX2_ok nmX2 hown hK hP hD hS 0 rfl rfl 0 (by decide) hw42 (fun _ h9 => h9) rfl (by decide +kernel) rfl rfl (Nat.le_of_ble_eq_true rfl) dX2_canGet_37 (fun H locs hP hD hS => ?_)
        have hP : va_P D vwCl [((b 0), .inr (2, [.int 0, .int (nI k), .ref (b 1), .ref (b 2), .ref (b 3), .ref (b 4), .ref (b 5), .int (nI st), .int (nI c), .ref (b 6), .int t, .ref (b 7), .ref (b 8), .long lf])), ((b 1), .inl (cI, 8, .inl mB)), ((b 2), .inl (cI, 8, .inl mM)), ((b 3), .inl (cI, 8, .inl mP)), ((b 4), .inl (cJ, 8, .inr (.inl mL))), ((b 5), .inl (cI, 8, .inl mO)), ((b 6), .inl (cI, 6, .inl fW)), ((b 7), .inl (cI, 8, .inl (nwF y fi fD))), ((b 8), .inl (cI, 8, .inl mK))] H := hP
        have hD : va_D A [((b 0), .inr (2, [.int 0, .int (nI k), .ref (b 1), .ref (b 2), .ref (b 3), .ref (b 4), .ref (b 5), .int (nI st), .int (nI c), .ref (b 6), .int t, .ref (b 7), .ref (b 8), .long lf])), ((b 1), .inl (cI, 8, .inl mB)), ((b 2), .inl (cI, 8, .inl mM)), ((b 3), .inl (cI, 8, .inl mP)), ((b 4), .inl (cJ, 8, .inr (.inl mL))), ((b 5), .inl (cI, 8, .inl mO)), ((b 6), .inl (cI, 6, .inl fW)), ((b 7), .inl (cI, 8, .inl (nwF y fi fD))), ((b 8), .inl (cI, 8, .inl mK))] := hD
        refine lv_aload_n hx hb dX2_canGet_40 rfl (lv_at hl 0 rfl) ?_
        refine va_get (D := D) (ci := 2) (v := .int 0) (C := RX2) (T := TX2) (N := 14) hx hb hts hiX2 hown hK hP 0 rfl rfl 0 (by decide) hw42 (fun _ h9 => h9) rfl dX2_canGet_41 ?_
        refine lv_if_ne (tgt := 51) hx hb dX2_canGet_44 (by decide) (fun c_44 => ?_) (fun c_44 => ?_)
        · skip
          exact absurd rfl c_44
        · skip
          refine lv_iconst (v := 1) hx hb dX2_canGet_47 (by decide) ?_
          refine lv_goto (tgt := 52) hx hb dX2_canGet_48 (by decide) ?_
          exact W.zret (v := 1) hx hb hr rfl (fun t9 ht hW => ⟨⟨1, [((b 0), .inr (2, [.int 0, .int (nI k), .ref (b 1), .ref (b 2), .ref (b 3), .ref (b 4), .ref (b 5), .int (nI st), .int (nI c), .ref (b 6), .int t, .ref (b 7), .ref (b 8), .long lf])), ((b 1), .inl (cI, 8, .inl mB)), ((b 2), .inl (cI, 8, .inl mM)), ((b 3), .inl (cI, 8, .inl mP)), ((b 4), .inl (cJ, 8, .inr (.inl mL))), ((b 5), .inl (cI, 8, .inl mO)), ((b 6), .inl (cI, 6, .inl fW)), ((b 7), .inl (cI, 8, .inl (nwF y fi fD))), ((b 8), .inl (cI, 8, .inl mK))], rfl, ⟨(bz_t ⟨c_6, c_14, c_29⟩).symm, by rw [ic_t c_6, ic_t c_14, ic_t c_29]⟩, by rw [ht]; exact hP, hD⟩, hS.F ht⟩) hS.2.2 dX2_canGet_52
    · skip
      have c_14 := bz_0 c_14
      refine lv_iconst (v := 1) hx hb dX2_canGet_17 (by decide) ?_
      refine lv_goto (tgt := 37) hx hb dX2_canGet_18 (by decide) ?_
      refine va_put (D := D) (ci := 2) (v := .int 1) (ty := .int) (C := RX2) (T := TX2) (N := 14) hx hb hts hiX2 tyX2 tyX2_ok nmX2 hown hK hP hD hS 0 rfl rfl 0 (by decide) hw42 (fun _ h9 => h9) rfl (by decide +kernel) rfl rfl (Nat.le_of_ble_eq_true rfl) dX2_canGet_37 (fun H locs hP hD hS => ?_)
      have hP : va_P D vwCl [((b 0), .inr (2, [.int 1, .int (nI k), .ref (b 1), .ref (b 2), .ref (b 3), .ref (b 4), .ref (b 5), .int (nI st), .int (nI c), .ref (b 6), .int t, .ref (b 7), .ref (b 8), .long lf])), ((b 1), .inl (cI, 8, .inl mB)), ((b 2), .inl (cI, 8, .inl mM)), ((b 3), .inl (cI, 8, .inl mP)), ((b 4), .inl (cJ, 8, .inr (.inl mL))), ((b 5), .inl (cI, 8, .inl mO)), ((b 6), .inl (cI, 6, .inl fW)), ((b 7), .inl (cI, 8, .inl (nwF y fi fD))), ((b 8), .inl (cI, 8, .inl mK))] H := hP
      have hD : va_D A [((b 0), .inr (2, [.int 1, .int (nI k), .ref (b 1), .ref (b 2), .ref (b 3), .ref (b 4), .ref (b 5), .int (nI st), .int (nI c), .ref (b 6), .int t, .ref (b 7), .ref (b 8), .long lf])), ((b 1), .inl (cI, 8, .inl mB)), ((b 2), .inl (cI, 8, .inl mM)), ((b 3), .inl (cI, 8, .inl mP)), ((b 4), .inl (cJ, 8, .inr (.inl mL))), ((b 5), .inl (cI, 8, .inl mO)), ((b 6), .inl (cI, 6, .inl fW)), ((b 7), .inl (cI, 8, .inl (nwF y fi fD))), ((b 8), .inl (cI, 8, .inl mK))] := hD
      refine lv_aload_n hx hb dX2_canGet_40 rfl (lv_at hl 0 rfl) ?_
      refine va_get (D := D) (ci := 2) (v := .int 1) (C := RX2) (T := TX2) (N := 14) hx hb hts hiX2 hown hK hP 0 rfl rfl 0 (by decide) hw42 (fun _ h9 => h9) rfl dX2_canGet_41 ?_
      refine lv_if_ne (tgt := 51) hx hb dX2_canGet_44 (by decide) (fun c_44 => ?_) (fun c_44 => ?_)
      · skip
        refine lv_iconst (v := 0) hx hb dX2_canGet_51 (by decide) ?_
        exact W.zret (v := 0) hx hb hr rfl (fun t9 ht hW => ⟨⟨0, [((b 0), .inr (2, [.int 1, .int (nI k), .ref (b 1), .ref (b 2), .ref (b 3), .ref (b 4), .ref (b 5), .int (nI st), .int (nI c), .ref (b 6), .int t, .ref (b 7), .ref (b 8), .long lf])), ((b 1), .inl (cI, 8, .inl mB)), ((b 2), .inl (cI, 8, .inl mM)), ((b 3), .inl (cI, 8, .inl mP)), ((b 4), .inl (cJ, 8, .inr (.inl mL))), ((b 5), .inl (cI, 8, .inl mO)), ((b 6), .inl (cI, 6, .inl fW)), ((b 7), .inl (cI, 8, .inl (nwF y fi fD))), ((b 8), .inl (cI, 8, .inl mK))], rfl, ⟨(bz_f (fun z9 => c_14 z9.2.1)).symm, by rw [ic_t c_6, ic_f c_14]⟩, by rw [ht]; exact hP, hD⟩, hS.F ht⟩) hS.2.2 dX2_canGet_52
      · skip
        exact absurd c_44 (by decide)
