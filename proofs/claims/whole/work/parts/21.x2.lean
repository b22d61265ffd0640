set_option maxHeartbeats 4000000 in
set_option maxRecDepth 100000 in
theorem c_X2_isIn (l : Launch) (x y z : Int32) : Met l yX2_isIn wsX2_isIn ({ frames := 0, cells := 0, slots := 0, locals := 0 }) (va_Pc [.int x, .int y, .int z] (fun _ => True)) (roi (fun r => r = bz (y.toInt ≤ x.toInt ∧ x.toInt ≤ z.toInt))) 0 0 (fun _ => False) := by
  refine Met.ofW (cc := cX2_isIn) (maxL := 3) (ret := (some .boolean)) (by decide +kernel) rfl ?_
  intro p e s m args below meth c9 s₁ B hml hv
  obtain ⟨rfl, -⟩ := hv
  have hx := B.exec
  have hb := B.bytes
  have hr := B.returns
  have hts := atoms_spec (ws := wsX2_isIn) B.pre
  have hown : s.vm.findClass RX2 = some m.cls := findClass_of_methodNamed B.named
  have hlocks := B.notSynchronized
  have hl := lv_entry ([.int x, .int y, .int z]) (n := 3) (Nat.le_of_ble_eq_true rfl)
  rw [lg_entry_eq]
  generalize (lg_sl ([.int x, .int y, .int z]) ++ List.replicate (3 - (lg_sl ([.int x, .int y, .int z])).length) Slot.unset).toArray = ls at hl ⊢
  have hl : lv_has ls 3 [(0, .int x), (1, .int y), (2, .int z)] := hl
  refine lv_iload_n hx hb dX2_isIn_0 rfl (lv_at hl 0 rfl) ?_
  refine lv_iload_n hx hb dX2_isIn_1 rfl (lv_at hl 1 rfl) ?_
  refine lv_icmp_lt (tgt := 14) hx hb dX2_isIn_2 (by decide) (fun c_2 => ?_) (fun c_2 => ?_)
  · skip
    simp only [Int32.lt_iff_toInt_lt] at c_2
    refine lv_iconst (v := 0) hx hb dX2_isIn_14 (by decide) ?_
    exact W.zret (v := 0) hx hb hr rfl (fun t9 ht hW => ⟨_, rfl, by first | rfl | exact (bz_t (by omega)).symm | exact (bz_f (by omega)).symm, ht⟩) (fun q hq => absurd hq List.not_mem_nil) dX2_isIn_15
  · skip
    simp only [Int32.lt_iff_toInt_lt] at c_2
    refine lv_iload_n hx hb dX2_isIn_5 rfl (lv_at hl 0 rfl) ?_
    refine lv_iload_n hx hb dX2_isIn_6 rfl (lv_at hl 2 rfl) ?_
    refine lv_icmp_gt (tgt := 14) hx hb dX2_isIn_7 (by decide) (fun c_7 => ?_) (fun c_7 => ?_)
    · skip
      simp only [Int32.lt_iff_toInt_lt] at c_7
      refine lv_iconst (v := 0) hx hb dX2_isIn_14 (by decide) ?_
      exact W.zret (v := 0) hx hb hr rfl (fun t9 ht hW => ⟨_, rfl, by first | rfl | exact (bz_t (by omega)).symm | exact (bz_f (by omega)).symm, ht⟩) (fun q hq => absurd hq List.not_mem_nil) dX2_isIn_15
    · skip
      simp only [Int32.lt_iff_toInt_lt] at c_7
      refine lv_iconst (v := 1) hx hb dX2_isIn_10 (by decide) ?_
      refine lv_goto (tgt := 15) hx hb dX2_isIn_11 (by decide) ?_
      exact W.zret (v := 1) hx hb hr rfl (fun t9 ht hW => ⟨_, rfl, by first | rfl | exact (bz_t (by omega)).symm | exact (bz_f (by omega)).symm, ht⟩) (fun q hq => absurd hq List.not_mem_nil) dX2_isIn_15

set_option maxHeartbeats 4000000 in
set_option maxRecDepth 100000 in
theorem c_X2_isMeasure (l : Launch) (D : va_G) (cI cJ : ClassId) (b : Nat → Nat) (th : Int32) (k st c : Nat) (t : Int32) (lf : Int64) (mB mM mP : Nat → Int32) (mL : Nat → Int64) (mO fW : Nat → Int32) (y : Nat) (fi : Int32) (fD mK : Nat → Int32) (h8 : k ≤ 8) (x : Int32) : Met l yX2_isMeasure wsX2_isMeasure ({ frames := 1, cells := 0, slots := 0, locals := 22 }) (cP D [((b 0), .inr (2, [.int th, .int (nI k), .ref (b 1), .ref (b 2), .ref (b 3), .ref (b 4), .ref (b 5), .int (nI st), .int (nI c), .ref (b 6), .int t, .ref (b 7), .ref (b 8), .long lf])), ((b 1), .inl (cI, 8, .inl mB)), ((b 2), .inl (cI, 8, .inl mM)), ((b 3), .inl (cI, 8, .inl mP)), ((b 4), .inl (cJ, 8, .inr (.inl mL))), ((b 5), .inl (cI, 8, .inl mO)), ((b 6), .inl (cI, 6, .inl fW)), ((b 7), .inl (cI, 8, .inl (nwF y fi fD))), ((b 8), .inl (cI, 8, .inl mK))] (KM D cI cJ) [.ref (b 0), .int x]) (roi (fun r => r = bz (inM k x))) 0 0 (fun _ => False) := by
  refine Met.ofW (cc := cX2_isMeasure) (maxL := 2) (ret := (some .boolean)) (by decide +kernel) rfl ?_
  intro p e s m args below meth c9 s₁ B hml hv
  obtain ⟨rfl, hP, hC⟩ := hv
  have hx := B.exec
  have hb := B.bytes
  have hr := B.returns
  have hts := atoms_spec (ws := wsX2_isMeasure) B.pre
  have hown : s.vm.findClass RX2 = some m.cls := findClass_of_methodNamed B.named
  have hlocks := B.notSynchronized
  have hK : va_K D vwCl [(cI, .int), (cJ, .long)] s := hC
  have hl := lv_entry ([.ref (b 0), .int x]) (n := 2) (Nat.le_of_ble_eq_true rfl)
  rw [lg_entry_eq]
  generalize (lg_sl ([.ref (b 0), .int x]) ++ List.replicate (2 - (lg_sl ([.ref (b 0), .int x])).length) Slot.unset).toArray = ls at hl ⊢
  have hl : lv_has ls 2 [(0, .ref (b 0)), (1, .int x)] := hl
  have hiX2 : ∀ w ∈ u_ws RX2 TX2 14, w ∈ wsX2_isMeasure := by decide +kernel
  have hw7 : (Cond.fieldLink RX2 7 "OldMeasuresModel" "measures" "I").before ([.ref (b 0), .int x] : List Value).toArray s = true := hts _ (by decide +kernel)
  refine lv_iload_n hx hb dX2_isMeasure_0 rfl (lv_at hl 1 rfl) ?_
  refine lv_iconst (v := 0) hx hb dX2_isMeasure_1 (by decide) ?_
  refine lv_aload_n hx hb dX2_isMeasure_2 rfl (lv_at hl 0 rfl) ?_
  refine va_get (D := D) (ci := 2) (v := .int (nI k)) (C := RX2) (T := TX2) (N := 14) hx hb hts hiX2 hown hK hP 0 rfl rfl 1 (by decide) hw7 (fun _ h9 => h9) rfl dX2_isMeasure_3 ?_
  refine lv_iconst (v := 1) hx hb dX2_isMeasure_6 (by decide) ?_
  refine lv_isub hx hb dX2_isMeasure_7 ?_
  refine ro_iE (va_runS (As := [.int x, .int 0, .int ((nI k) - 1)]) (rest := []) ⟨hx, hb, hml, hown, hts⟩ (c_X2_isIn l x 0 ((nI k) - 1)) (va_cwS 3 hts gX2_isMeasure_X2_isIn rfl rfl rfl (by decide +kernel) ⟨Nat.le_of_ble_eq_true rfl, Nat.le_of_ble_eq_true rfl⟩) pre0 rfl rfl hl.1 rfl (lv_room (Nat.le_of_ble_eq_true rfl)) dX2_isMeasure_8 ⟨by decide, by decide⟩) ?_
  exact W.zret (v := (bz ((0 : Int32).toInt ≤ x.toInt ∧ x.toInt ≤ ((nI k) - 1).toInt))) hx hb hr (bz_nar _) (fun t9 ht hW => ⟨_, rfl, congrArg bz (propext (inM_iff2 h8)), ht⟩) (fun q hq => absurd hq List.not_mem_nil) dX2_isMeasure_11

set_option maxHeartbeats 4000000 in
set_option maxRecDepth 100000 in
theorem c_X2_isStall (l : Launch) (D : va_G) (cI cJ : ClassId) (b : Nat → Nat) (th : Int32) (k st c : Nat) (t : Int32) (lf : Int64) (mB mM mP : Nat → Int32) (mL : Nat → Int64) (mO fW : Nat → Int32) (y : Nat) (fi : Int32) (fD mK : Nat → Int32) (h8 : c ≤ 8) (x : Int32) : Met l yX2_isStall wsX2_isStall ({ frames := 1, cells := 0, slots := 0, locals := 22 }) (cP D [((b 0), .inr (2, [.int th, .int (nI k), .ref (b 1), .ref (b 2), .ref (b 3), .ref (b 4), .ref (b 5), .int (nI st), .int (nI c), .ref (b 6), .int t, .ref (b 7), .ref (b 8), .long lf])), ((b 1), .inl (cI, 8, .inl mB)), ((b 2), .inl (cI, 8, .inl mM)), ((b 3), .inl (cI, 8, .inl mP)), ((b 4), .inl (cJ, 8, .inr (.inl mL))), ((b 5), .inl (cI, 8, .inl mO)), ((b 6), .inl (cI, 6, .inl fW)), ((b 7), .inl (cI, 8, .inl (nwF y fi fD))), ((b 8), .inl (cI, 8, .inl mK))] (KM D cI cJ) [.ref (b 0), .int x]) (roi (fun r => r = bz (inM c x))) 0 0 (fun _ => False) := by
  refine Met.ofW (cc := cX2_isStall) (maxL := 2) (ret := (some .boolean)) (by decide +kernel) rfl ?_
  intro p e s m args below meth c9 s₁ B hml hv
  obtain ⟨rfl, hP, hC⟩ := hv
  have hx := B.exec
  have hb := B.bytes
  have hr := B.returns
  have hts := atoms_spec (ws := wsX2_isStall) B.pre
  have hown : s.vm.findClass RX2 = some m.cls := findClass_of_methodNamed B.named
  have hlocks := B.notSynchronized
  have hK : va_K D vwCl [(cI, .int), (cJ, .long)] s := hC
  have hl := lv_entry ([.ref (b 0), .int x]) (n := 2) (Nat.le_of_ble_eq_true rfl)
  rw [lg_entry_eq]
  generalize (lg_sl ([.ref (b 0), .int x]) ++ List.replicate (2 - (lg_sl ([.ref (b 0), .int x])).length) Slot.unset).toArray = ls at hl ⊢
  have hl : lv_has ls 2 [(0, .ref (b 0)), (1, .int x)] := hl
  have hiX2 : ∀ w ∈ u_ws RX2 TX2 14, w ∈ wsX2_isStall := by decide +kernel
  have hw49 : (Cond.fieldLink RX2 49 "OldMeasuresModel" "stalls" "I").before ([.ref (b 0), .int x] : List Value).toArray s = true := hts _ (by decide +kernel)
  refine lv_iload_n hx hb dX2_isStall_0 rfl (lv_at hl 1 rfl) ?_
  refine lv_iconst (v := 0) hx hb dX2_isStall_1 (by decide) ?_
  refine lv_aload_n hx hb dX2_isStall_2 rfl (lv_at hl 0 rfl) ?_
  refine va_get (D := D) (ci := 2) (v := .int (nI c)) (C := RX2) (T := TX2) (N := 14) hx hb hts hiX2 hown hK hP 0 rfl rfl 8 (by decide) hw49 (fun _ h9 => h9) rfl dX2_isStall_3 ?_
  refine lv_iconst (v := 1) hx hb dX2_isStall_6 (by decide) ?_
  refine lv_isub hx hb dX2_isStall_7 ?_
  refine ro_iE (va_runS (As := [.int x, .int 0, .int ((nI c) - 1)]) (rest := []) ⟨hx, hb, hml, hown, hts⟩ (c_X2_isIn l x 0 ((nI c) - 1)) (va_cwS 3 hts gX2_isStall_X2_isIn rfl rfl rfl (by decide +kernel) ⟨Nat.le_of_ble_eq_true rfl, Nat.le_of_ble_eq_true rfl⟩) pre0 rfl rfl hl.1 rfl (lv_room (Nat.le_of_ble_eq_true rfl)) dX2_isStall_8 ⟨by decide, by decide⟩) ?_
  exact W.zret (v := (bz ((0 : Int32).toInt ≤ x.toInt ∧ x.toInt ≤ ((nI c) - 1).toInt))) hx hb hr (bz_nar _) (fun t9 ht hW => ⟨_, rfl, congrArg bz (propext (inM_iff2 h8)), ht⟩) (fun q hq => absurd hq List.not_mem_nil) dX2_isStall_11

set_option maxHeartbeats 4000000 in
set_option maxRecDepth 100000 in
theorem c_X2_fail (l : Launch) (D : va_G) (cI cJ : ClassId) (sz : Nat) (b : Nat → Nat) (th : Int32) (k st c : Nat) (t : Int32) (lf : Int64) (mB mM mP : Nat → Int32) (mL : Nat → Int64) (mO fW : Nat → Int32) (y : Nat) (fi : Int32) (fD mK : Nat → Int32) (n : Int32) : Met l yX2_fail wsX2_fail ({ frames := 0, cells := 0, slots := 0, locals := 0 }) (cPw D [((b 0), .inr (2, [.int th, .int (nI k), .ref (b 1), .ref (b 2), .ref (b 3), .ref (b 4), .ref (b 5), .int (nI st), .int (nI c), .ref (b 6), .int t, .ref (b 7), .ref (b 8), .long lf])), ((b 1), .inl (cI, 8, .inl mB)), ((b 2), .inl (cI, 8, .inl mM)), ((b 3), .inl (cI, 8, .inl mP)), ((b 4), .inl (cJ, 8, .inr (.inl mL))), ((b 5), .inl (cI, 8, .inl mO)), ((b 6), .inl (cI, 6, .inl fW)), ((b 7), .inl (cI, 8, .inl (nwF y fi fD))), ((b 8), .inl (cI, 8, .inl mK))] sz (KM D cI cJ) [.ref (b 0), .int n]) (wri D [((b 0), .inr (2, [.int th, .int (nI k), .ref (b 1), .ref (b 2), .ref (b 3), .ref (b 4), .ref (b 5), .int (nI st), .int (nI c), .ref (b 6), .int t, .ref (b 7), .ref (b 8), .long lf])), ((b 1), .inl (cI, 8, .inl mB)), ((b 2), .inl (cI, 8, .inl mM)), ((b 3), .inl (cI, 8, .inl mP)), ((b 4), .inl (cJ, 8, .inr (.inl mL))), ((b 5), .inl (cI, 8, .inl mO)), ((b 6), .inl (cI, 6, .inl fW)), ((b 7), .inl (cI, 8, .inl (nwF y fi fD))), ((b 8), .inl (cI, 8, .inl mK))] sz (fun r ws' => r = 0 ∧ ws' = [((b 0), .inr (2, [.int n, .int (nI k), .ref (b 1), .ref (b 2), .ref (b 3), .ref (b 4), .ref (b 5), .int (nI st), .int (nI c), .ref (b 6), .int t, .ref (b 7), .ref (b 8), .long lf])), ((b 1), .inl (cI, 8, .inl mB)), ((b 2), .inl (cI, 8, .inl mM)), ((b 3), .inl (cI, 8, .inl mP)), ((b 4), .inl (cJ, 8, .inr (.inl mL))), ((b 5), .inl (cI, 8, .inl mO)), ((b 6), .inl (cI, 6, .inl fW)), ((b 7), .inl (cI, 8, .inl (nwF y fi fD))), ((b 8), .inl (cI, 8, .inl mK))])) 0 0 (va_A [((b 0), .inr (2, [.int th, .int (nI k), .ref (b 1), .ref (b 2), .ref (b 3), .ref (b 4), .ref (b 5), .int (nI st), .int (nI c), .ref (b 6), .int t, .ref (b 7), .ref (b 8), .long lf])), ((b 1), .inl (cI, 8, .inl mB)), ((b 2), .inl (cI, 8, .inl mM)), ((b 3), .inl (cI, 8, .inl mP)), ((b 4), .inl (cJ, 8, .inr (.inl mL))), ((b 5), .inl (cI, 8, .inl mO)), ((b 6), .inl (cI, 6, .inl fW)), ((b 7), .inl (cI, 8, .inl (nwF y fi fD))), ((b 8), .inl (cI, 8, .inl mK))] sz) := by
  refine Met.ofW (cc := cX2_fail) (maxL := 2) (ret := (some .int)) (by decide +kernel) rfl ?_
  intro p e s m args below meth c9 s₁ B hml hv
  obtain ⟨rfl, hsz, hP, hD0, hC⟩ := hv
  have hx := B.exec
  have hb := B.bytes
  have hr := B.returns
  have hts := atoms_spec (ws := wsX2_fail) B.pre
  have hown : s.vm.findClass RX2 = some m.cls := findClass_of_methodNamed B.named
  have hlocks := B.notSynchronized
  have hK : va_K D vwCl [(cI, .int), (cJ, .long)] s := hC
  subst hsz
  unfold wri wB
  have hD := hD0.self (sz := s.heap.size)
  generalize hAe : va_A [((b 0), .inr (2, [.int th, .int (nI k), .ref (b 1), .ref (b 2), .ref (b 3), .ref (b 4), .ref (b 5), .int (nI st), .int (nI c), .ref (b 6), .int t, .ref (b 7), .ref (b 8), .long lf])), ((b 1), .inl (cI, 8, .inl mB)), ((b 2), .inl (cI, 8, .inl mM)), ((b 3), .inl (cI, 8, .inl mP)), ((b 4), .inl (cJ, 8, .inr (.inl mL))), ((b 5), .inl (cI, 8, .inl mO)), ((b 6), .inl (cI, 6, .inl fW)), ((b 7), .inl (cI, 8, .inl (nwF y fi fD))), ((b 8), .inl (cI, 8, .inl mK))] s.heap.size = A at hD ⊢
  have hA : ∀ q : Nat, s.heap.size ≤ q → A q := fun q h => by rw [← hAe]; exact Or.inr h
  have hS : va_S A s.heap s.heap [] := va_S.rf
  have hl := lv_entry ([.ref (b 0), .int n]) (n := 2) (Nat.le_of_ble_eq_true rfl)
  rw [lg_entry_eq]
  generalize (lg_sl ([.ref (b 0), .int n]) ++ List.replicate (2 - (lg_sl ([.ref (b 0), .int n])).length) Slot.unset).toArray = ls at hl ⊢
  have hl : lv_has ls 2 [(0, .ref (b 0)), (1, .int n)] := hl
  have hiX2 : ∀ w ∈ u_ws RX2 TX2 14, w ∈ wsX2_fail := by decide +kernel
  have hw42 : (Cond.fieldLink RX2 42 "OldMeasuresModel" "thrown" "I").before ([.ref (b 0), .int n] : List Value).toArray s = true := hts _ (by decide +kernel)
  refine lv_aload_n hx hb dX2_fail_0 rfl (lv_at hl 0 rfl) ?_
  refine lv_iload_n hx hb dX2_fail_1 rfl (lv_at hl 1 rfl) ?_
  refine va_put (D := D) (ci := 2) (v := .int n) (ty := .int) (C := RX2) (T := TX2) (N := 14) hx hb hts hiX2 tyX2 tyX2_ok nmX2 hown hK hP hD hS 0 rfl rfl 0 (by decide) hw42 (fun _ h9 => h9) rfl (by decide +kernel) rfl rfl (Nat.le_of_ble_eq_true rfl) dX2_fail_2 (fun H locs hP hD hS => ?_)
  have hP : va_P D vwCl [((b 0), .inr (2, [.int n, .int (nI k), .ref (b 1), .ref (b 2), .ref (b 3), .ref (b 4), .ref (b 5), .int (nI st), .int (nI c), .ref (b 6), .int t, .ref (b 7), .ref (b 8), .long lf])), ((b 1), .inl (cI, 8, .inl mB)), ((b 2), .inl (cI, 8, .inl mM)), ((b 3), .inl (cI, 8, .inl mP)), ((b 4), .inl (cJ, 8, .inr (.inl mL))), ((b 5), .inl (cI, 8, .inl mO)), ((b 6), .inl (cI, 6, .inl fW)), ((b 7), .inl (cI, 8, .inl (nwF y fi fD))), ((b 8), .inl (cI, 8, .inl mK))] H := hP
  have hD : va_D A [((b 0), .inr (2, [.int n, .int (nI k), .ref (b 1), .ref (b 2), .ref (b 3), .ref (b 4), .ref (b 5), .int (nI st), .int (nI c), .ref (b 6), .int t, .ref (b 7), .ref (b 8), .long lf])), ((b 1), .inl (cI, 8, .inl mB)), ((b 2), .inl (cI, 8, .inl mM)), ((b 3), .inl (cI, 8, .inl mP)), ((b 4), .inl (cJ, 8, .inr (.inl mL))), ((b 5), .inl (cI, 8, .inl mO)), ((b 6), .inl (cI, 6, .inl fW)), ((b 7), .inl (cI, 8, .inl (nwF y fi fD))), ((b 8), .inl (cI, 8, .inl mK))] := hD
  refine lv_iconst (v := 0) hx hb dX2_fail_5 (by decide) ?_
  exact W.iret (v := 0) hx hb hr (fun t9 ht hW => ⟨⟨0, [((b 0), .inr (2, [.int n, .int (nI k), .ref (b 1), .ref (b 2), .ref (b 3), .ref (b 4), .ref (b 5), .int (nI st), .int (nI c), .ref (b 6), .int t, .ref (b 7), .ref (b 8), .long lf])), ((b 1), .inl (cI, 8, .inl mB)), ((b 2), .inl (cI, 8, .inl mM)), ((b 3), .inl (cI, 8, .inl mP)), ((b 4), .inl (cJ, 8, .inr (.inl mL))), ((b 5), .inl (cI, 8, .inl mO)), ((b 6), .inl (cI, 6, .inl fW)), ((b 7), .inl (cI, 8, .inl (nwF y fi fD))), ((b 8), .inl (cI, 8, .inl mK))], rfl, ⟨rfl, rfl⟩, by rw [ht]; exact hP, hD⟩, hS.F ht⟩) hS.2.2 dX2_fail_6

set_option maxHeartbeats 4000000 in
set_option maxRecDepth 100000 in
theorem c_X2_told (l : Launch) (D : va_G) (cI cJ : ClassId) (sz : Nat) (b : Nat → Nat) (th : Int32) (k st c : Nat) (t : Int32) (lf : Int64) (mB mM mP : Nat → Int32) (mL : Nat → Int64) (mO fW : Nat → Int32) (y : Nat) (fi : Int32) (fD mK : Nat → Int32) (n : Int32) : Met l yX2_told wsX2_told ({ frames := 0, cells := 0, slots := 0, locals := 0 }) (cPw D [((b 0), .inr (2, [.int th, .int (nI k), .ref (b 1), .ref (b 2), .ref (b 3), .ref (b 4), .ref (b 5), .int (nI st), .int (nI c), .ref (b 6), .int t, .ref (b 7), .ref (b 8), .long lf])), ((b 1), .inl (cI, 8, .inl mB)), ((b 2), .inl (cI, 8, .inl mM)), ((b 3), .inl (cI, 8, .inl mP)), ((b 4), .inl (cJ, 8, .inr (.inl mL))), ((b 5), .inl (cI, 8, .inl mO)), ((b 6), .inl (cI, 6, .inl fW)), ((b 7), .inl (cI, 8, .inl (nwF y fi fD))), ((b 8), .inl (cI, 8, .inl mK))] sz (KM D cI cJ) [.ref (b 0), .int n]) (wri D [((b 0), .inr (2, [.int th, .int (nI k), .ref (b 1), .ref (b 2), .ref (b 3), .ref (b 4), .ref (b 5), .int (nI st), .int (nI c), .ref (b 6), .int t, .ref (b 7), .ref (b 8), .long lf])), ((b 1), .inl (cI, 8, .inl mB)), ((b 2), .inl (cI, 8, .inl mM)), ((b 3), .inl (cI, 8, .inl mP)), ((b 4), .inl (cJ, 8, .inr (.inl mL))), ((b 5), .inl (cI, 8, .inl mO)), ((b 6), .inl (cI, 6, .inl fW)), ((b 7), .inl (cI, 8, .inl (nwF y fi fD))), ((b 8), .inl (cI, 8, .inl mK))] sz (fun r ws' => r = n ∧ ws' = [((b 0), .inr (2, [.int 0, .int (nI k), .ref (b 1), .ref (b 2), .ref (b 3), .ref (b 4), .ref (b 5), .int (nI st), .int (nI c), .ref (b 6), .int t, .ref (b 7), .ref (b 8), .long lf])), ((b 1), .inl (cI, 8, .inl mB)), ((b 2), .inl (cI, 8, .inl mM)), ((b 3), .inl (cI, 8, .inl mP)), ((b 4), .inl (cJ, 8, .inr (.inl mL))), ((b 5), .inl (cI, 8, .inl mO)), ((b 6), .inl (cI, 6, .inl fW)), ((b 7), .inl (cI, 8, .inl (nwF y fi fD))), ((b 8), .inl (cI, 8, .inl mK))])) 0 0 (va_A [((b 0), .inr (2, [.int th, .int (nI k), .ref (b 1), .ref (b 2), .ref (b 3), .ref (b 4), .ref (b 5), .int (nI st), .int (nI c), .ref (b 6), .int t, .ref (b 7), .ref (b 8), .long lf])), ((b 1), .inl (cI, 8, .inl mB)), ((b 2), .inl (cI, 8, .inl mM)), ((b 3), .inl (cI, 8, .inl mP)), ((b 4), .inl (cJ, 8, .inr (.inl mL))), ((b 5), .inl (cI, 8, .inl mO)), ((b 6), .inl (cI, 6, .inl fW)), ((b 7), .inl (cI, 8, .inl (nwF y fi fD))), ((b 8), .inl (cI, 8, .inl mK))] sz) := by
  refine Met.ofW (cc := cX2_told) (maxL := 2) (ret := (some .int)) (by decide +kernel) rfl ?_
  intro p e s m args below meth c9 s₁ B hml hv
  obtain ⟨rfl, hsz, hP, hD0, hC⟩ := hv
  have hx := B.exec
  have hb := B.bytes
  have hr := B.returns
  have hts := atoms_spec (ws := wsX2_told) B.pre
  have hown : s.vm.findClass RX2 = some m.cls := findClass_of_methodNamed B.named
  have hlocks := B.notSynchronized
  have hK : va_K D vwCl [(cI, .int), (cJ, .long)] s := hC
  subst hsz
  unfold wri wB
  have hD := hD0.self (sz := s.heap.size)
  generalize hAe : va_A [((b 0), .inr (2, [.int th, .int (nI k), .ref (b 1), .ref (b 2), .ref (b 3), .ref (b 4), .ref (b 5), .int (nI st), .int (nI c), .ref (b 6), .int t, .ref (b 7), .ref (b 8), .long lf])), ((b 1), .inl (cI, 8, .inl mB)), ((b 2), .inl (cI, 8, .inl mM)), ((b 3), .inl (cI, 8, .inl mP)), ((b 4), .inl (cJ, 8, .inr (.inl mL))), ((b 5), .inl (cI, 8, .inl mO)), ((b 6), .inl (cI, 6, .inl fW)), ((b 7), .inl (cI, 8, .inl (nwF y fi fD))), ((b 8), .inl (cI, 8, .inl mK))] s.heap.size = A at hD ⊢
  have hA : ∀ q : Nat, s.heap.size ≤ q → A q := fun q h => by rw [← hAe]; exact Or.inr h
  have hS : va_S A s.heap s.heap [] := va_S.rf
  have hl := lv_entry ([.ref (b 0), .int n]) (n := 2) (Nat.le_of_ble_eq_true rfl)
  rw [lg_entry_eq]
  generalize (lg_sl ([.ref (b 0), .int n]) ++ List.replicate (2 - (lg_sl ([.ref (b 0), .int n])).length) Slot.unset).toArray = ls at hl ⊢
  have hl : lv_has ls 2 [(0, .ref (b 0)), (1, .int n)] := hl
  have hiX2 : ∀ w ∈ u_ws RX2 TX2 14, w ∈ wsX2_told := by decide +kernel
  have hw42 : (Cond.fieldLink RX2 42 "OldMeasuresModel" "thrown" "I").before ([.ref (b 0), .int n] : List Value).toArray s = true := hts _ (by decide +kernel)
  refine lv_aload_n hx hb dX2_told_0 rfl (lv_at hl 0 rfl) ?_
  refine lv_iconst (v := 0) hx hb dX2_told_1 (by decide) ?_
  refine va_put (D := D) (ci := 2) (v := .int 0) (ty := .int) (C := RX2) (T := TX2) (N := 14) hx hb hts hiX2 tyX2 tyX2_ok nmX2 hown hK hP hD hS 0 rfl rfl 0 (by decide) hw42 (fun _ h9 => h9) rfl (by decide +kernel) rfl rfl (Nat.le_of_ble_eq_true rfl) dX2_told_2 (fun H locs hP hD hS => ?_)
  have hP : va_P D vwCl [((b 0), .inr (2, [.int 0, .int (nI k), .ref (b 1), .ref (b 2), .ref (b 3), .ref (b 4), .ref (b 5), .int (nI st), .int (nI c), .ref (b 6), .int t, .ref (b 7), .ref (b 8), .long lf])), ((b 1), .inl (cI, 8, .inl mB)), ((b 2), .inl (cI, 8, .inl mM)), ((b 3), .inl (cI, 8, .inl mP)), ((b 4), .inl (cJ, 8, .inr (.inl mL))), ((b 5), .inl (cI, 8, .inl mO)), ((b 6), .inl (cI, 6, .inl fW)), ((b 7), .inl (cI, 8, .inl (nwF y fi fD))), ((b 8), .inl (cI, 8, .inl mK))] H := hP
  have hD : va_D A [((b 0), .inr (2, [.int 0, .int (nI k), .ref (b 1), .ref (b 2), .ref (b 3), .ref (b 4), .ref (b 5), .int (nI st), .int (nI c), .ref (b 6), .int t, .ref (b 7), .ref (b 8), .long lf])), ((b 1), .inl (cI, 8, .inl mB)), ((b 2), .inl (cI, 8, .inl mM)), ((b 3), .inl (cI, 8, .inl mP)), ((b 4), .inl (cJ, 8, .inr (.inl mL))), ((b 5), .inl (cI, 8, .inl mO)), ((b 6), .inl (cI, 6, .inl fW)), ((b 7), .inl (cI, 8, .inl (nwF y fi fD))), ((b 8), .inl (cI, 8, .inl mK))] := hD
  refine lv_iload_n hx hb dX2_told_5 rfl (lv_at hl 1 rfl) ?_
  exact W.iret (v := n) hx hb hr (fun t9 ht hW => ⟨⟨n, [((b 0), .inr (2, [.int 0, .int (nI k), .ref (b 1), .ref (b 2), .ref (b 3), .ref (b 4), .ref (b 5), .int (nI st), .int (nI c), .ref (b 6), .int t, .ref (b 7), .ref (b 8), .long lf])), ((b 1), .inl (cI, 8, .inl mB)), ((b 2), .inl (cI, 8, .inl mM)), ((b 3), .inl (cI, 8, .inl mP)), ((b 4), .inl (cJ, 8, .inr (.inl mL))), ((b 5), .inl (cI, 8, .inl mO)), ((b 6), .inl (cI, 6, .inl fW)), ((b 7), .inl (cI, 8, .inl (nwF y fi fD))), ((b 8), .inl (cI, 8, .inl mK))], rfl, ⟨rfl, rfl⟩, by rw [ht]; exact hP, hD⟩, hS.F ht⟩) hS.2.2 dX2_told_6

set_option maxHeartbeats 4000000 in
set_option maxRecDepth 100000 in
theorem c_X2_thrown (l : Launch) (D : va_G) (cI cJ : ClassId) (b : Nat → Nat) (th : Int32) (k st c : Nat) (t : Int32) (lf : Int64) (mB mM mP : Nat → Int32) (mL : Nat → Int64) (mO fW : Nat → Int32) (y : Nat) (fi : Int32) (fD mK : Nat → Int32)  : Met l yX2_thrown wsX2_thrown ({ frames := 0, cells := 0, slots := 0, locals := 0 }) (cP D [((b 0), .inr (2, [.int th, .int (nI k), .ref (b 1), .ref (b 2), .ref (b 3), .ref (b 4), .ref (b 5), .int (nI st), .int (nI c), .ref (b 6), .int t, .ref (b 7), .ref (b 8), .long lf])), ((b 1), .inl (cI, 8, .inl mB)), ((b 2), .inl (cI, 8, .inl mM)), ((b 3), .inl (cI, 8, .inl mP)), ((b 4), .inl (cJ, 8, .inr (.inl mL))), ((b 5), .inl (cI, 8, .inl mO)), ((b 6), .inl (cI, 6, .inl fW)), ((b 7), .inl (cI, 8, .inl (nwF y fi fD))), ((b 8), .inl (cI, 8, .inl mK))] (KM D cI cJ) [.ref (b 0)]) (roi (fun r => r = th)) 0 0 (fun _ => False) := by
  refine Met.ofW (cc := cX2_thrown) (maxL := 1) (ret := (some .int)) (by decide +kernel) rfl ?_
  intro p e s m args below meth c9 s₁ B hml hv
  obtain ⟨rfl, hP, hC⟩ := hv
  have hx := B.exec
  have hb := B.bytes
  have hr := B.returns
  have hts := atoms_spec (ws := wsX2_thrown) B.pre
  have hown : s.vm.findClass RX2 = some m.cls := findClass_of_methodNamed B.named
  have hlocks := B.notSynchronized
  have hK : va_K D vwCl [(cI, .int), (cJ, .long)] s := hC
  have hl := lv_entry ([.ref (b 0)]) (n := 1) (Nat.le_of_ble_eq_true rfl)
  rw [lg_entry_eq]
  generalize (lg_sl ([.ref (b 0)]) ++ List.replicate (1 - (lg_sl ([.ref (b 0)])).length) Slot.unset).toArray = ls at hl ⊢
  have hl : lv_has ls 1 [(0, .ref (b 0))] := hl
  have hiX2 : ∀ w ∈ u_ws RX2 TX2 14, w ∈ wsX2_thrown := by decide +kernel
  have hw42 : (Cond.fieldLink RX2 42 "OldMeasuresModel" "thrown" "I").before ([.ref (b 0)] : List Value).toArray s = true := hts _ (by decide +kernel)
  refine lv_aload_n hx hb dX2_thrown_0 rfl (lv_at hl 0 rfl) ?_
  refine va_get (D := D) (ci := 2) (v := .int th) (C := RX2) (T := TX2) (N := 14) hx hb hts hiX2 hown hK hP 0 rfl rfl 0 (by decide) hw42 (fun _ h9 => h9) rfl dX2_thrown_1 ?_
  exact W.iret (v := th) hx hb hr (fun t9 ht hW => ⟨_, rfl, rfl, ht⟩) (fun q hq => absurd hq List.not_mem_nil) dX2_thrown_4

set_option maxHeartbeats 4000000 in
set_option maxRecDepth 100000 in
theorem c_X2_measures (l : Launch) (D : va_G) (cI cJ : ClassId) (sz : Nat) (b : Nat → Nat) (th : Int32) (k st c : Nat) (t : Int32) (lf : Int64) (mB mM mP : Nat → Int32) (mL : Nat → Int64) (mO fW : Nat → Int32) (y : Nat) (fi : Int32) (fD mK : Nat → Int32)  : Met l yX2_measures wsX2_measures ({ frames := 3, cells := 0, slots := 0, locals := 80 }) (cPw D [((b 0), .inr (2, [.int th, .int (nI k), .ref (b 1), .ref (b 2), .ref (b 3), .ref (b 4), .ref (b 5), .int (nI st), .int (nI c), .ref (b 6), .int t, .ref (b 7), .ref (b 8), .long lf])), ((b 1), .inl (cI, 8, .inl mB)), ((b 2), .inl (cI, 8, .inl mM)), ((b 3), .inl (cI, 8, .inl mP)), ((b 4), .inl (cJ, 8, .inr (.inl mL))), ((b 5), .inl (cI, 8, .inl mO)), ((b 6), .inl (cI, 6, .inl fW)), ((b 7), .inl (cI, 8, .inl (nwF y fi fD))), ((b 8), .inl (cI, 8, .inl mK))] sz (KM D cI cJ) [.ref (b 0)]) (wri D [((b 0), .inr (2, [.int th, .int (nI k), .ref (b 1), .ref (b 2), .ref (b 3), .ref (b 4), .ref (b 5), .int (nI st), .int (nI c), .ref (b 6), .int t, .ref (b 7), .ref (b 8), .long lf])), ((b 1), .inl (cI, 8, .inl mB)), ((b 2), .inl (cI, 8, .inl mM)), ((b 3), .inl (cI, 8, .inl mP)), ((b 4), .inl (cJ, 8, .inr (.inl mL))), ((b 5), .inl (cI, 8, .inl mO)), ((b 6), .inl (cI, 6, .inl fW)), ((b 7), .inl (cI, 8, .inl (nwF y fi fD))), ((b 8), .inl (cI, 8, .inl mK))] sz (fun r ws' => r = nI k ∧ ws' = [((b 0), .inr (2, [.int 0, .int (nI k), .ref (b 1), .ref (b 2), .ref (b 3), .ref (b 4), .ref (b 5), .int (nI st), .int (nI c), .ref (b 6), .int t, .ref (b 7), .ref (b 8), .long lf])), ((b 1), .inl (cI, 8, .inl mB)), ((b 2), .inl (cI, 8, .inl mM)), ((b 3), .inl (cI, 8, .inl mP)), ((b 4), .inl (cJ, 8, .inr (.inl mL))), ((b 5), .inl (cI, 8, .inl mO)), ((b 6), .inl (cI, 6, .inl fW)), ((b 7), .inl (cI, 8, .inl (nwF y fi fD))), ((b 8), .inl (cI, 8, .inl mK))])) 0 0 (va_A [((b 0), .inr (2, [.int th, .int (nI k), .ref (b 1), .ref (b 2), .ref (b 3), .ref (b 4), .ref (b 5), .int (nI st), .int (nI c), .ref (b 6), .int t, .ref (b 7), .ref (b 8), .long lf])), ((b 1), .inl (cI, 8, .inl mB)), ((b 2), .inl (cI, 8, .inl mM)), ((b 3), .inl (cI, 8, .inl mP)), ((b 4), .inl (cJ, 8, .inr (.inl mL))), ((b 5), .inl (cI, 8, .inl mO)), ((b 6), .inl (cI, 6, .inl fW)), ((b 7), .inl (cI, 8, .inl (nwF y fi fD))), ((b 8), .inl (cI, 8, .inl mK))] sz) := by
  refine Met.ofW (cc := cX2_measures) (maxL := 1) (ret := (some .int)) (by decide +kernel) rfl ?_
  intro p e s m args below meth c9 s₁ B hml hv
  obtain ⟨rfl, hsz, hP, hD0, hC⟩ := hv
  have hx := B.exec
  have hb := B.bytes
  have hr := B.returns
  have hts := atoms_spec (ws := wsX2_measures) B.pre
  have hown : s.vm.findClass RX2 = some m.cls := findClass_of_methodNamed B.named
  have hlocks := B.notSynchronized
  have hK : va_K D vwCl [(cI, .int), (cJ, .long)] s := hC
  subst hsz
  unfold wri wB
  have hD := hD0.self (sz := s.heap.size)
  generalize hAe : va_A [((b 0), .inr (2, [.int th, .int (nI k), .ref (b 1), .ref (b 2), .ref (b 3), .ref (b 4), .ref (b 5), .int (nI st), .int (nI c), .ref (b 6), .int t, .ref (b 7), .ref (b 8), .long lf])), ((b 1), .inl (cI, 8, .inl mB)), ((b 2), .inl (cI, 8, .inl mM)), ((b 3), .inl (cI, 8, .inl mP)), ((b 4), .inl (cJ, 8, .inr (.inl mL))), ((b 5), .inl (cI, 8, .inl mO)), ((b 6), .inl (cI, 6, .inl fW)), ((b 7), .inl (cI, 8, .inl (nwF y fi fD))), ((b 8), .inl (cI, 8, .inl mK))] s.heap.size = A at hD ⊢
  have hA : ∀ q : Nat, s.heap.size ≤ q → A q := fun q h => by rw [← hAe]; exact Or.inr h
  have hS : va_S A s.heap s.heap [] := va_S.rf
  have hl := lv_entry ([.ref (b 0)]) (n := 1) (Nat.le_of_ble_eq_true rfl)
  rw [lg_entry_eq]
  generalize (lg_sl ([.ref (b 0)]) ++ List.replicate (1 - (lg_sl ([.ref (b 0)])).length) Slot.unset).toArray = ls at hl ⊢
  have hl : lv_has ls 1 [(0, .ref (b 0))] := hl
  have hiX2 : ∀ w ∈ u_ws RX2 TX2 14, w ∈ wsX2_measures := by decide +kernel
  have hw7 : (Cond.fieldLink RX2 7 "OldMeasuresModel" "measures" "I").before ([.ref (b 0)] : List Value).toArray s = true := hts _ (by decide +kernel)
  refine lv_aload_n hx hb dX2_measures_0 rfl (lv_at hl 0 rfl) ?_
  refine lv_aload_n hx hb dX2_measures_1 rfl (lv_at hl 0 rfl) ?_
  refine va_get (D := D) (ci := 2) (v := .int (nI k)) (C := RX2) (T := TX2) (N := 14) hx hb hts hiX2 hown hK hP 0 rfl rfl 1 (by decide) hw7 (fun _ h9 => h9) rfl dX2_measures_2 ?_
  have hFc := va_free (wc := [((b 0), .inr (2, [.int th, .int (nI k), .ref (b 1), .ref (b 2), .ref (b 3), .ref (b 4), .ref (b 5), .int (nI st), .int (nI c), .ref (b 6), .int t, .ref (b 7), .ref (b 8), .long lf])), ((b 1), .inl (cI, 8, .inl mB)), ((b 2), .inl (cI, 8, .inl mM)), ((b 3), .inl (cI, 8, .inl mP)), ((b 4), .inl (cJ, 8, .inr (.inl mL))), ((b 5), .inl (cI, 8, .inl mO)), ((b 6), .inl (cI, 6, .inl fW)), ((b 7), .inl (cI, 8, .inl (nwF y fi fD))), ((b 8), .inl (cI, 8, .inl mK))]) hD hS hA [0, 1, 2, 3, 4, 5, 6, 7, 8] rfl
  refine va_calli (va_runV (As := [.int (nI k)]) (rest := []) ⟨hx, hb, hml, hown, hts⟩ (c_X2_told l D cI cJ s.heap.size b th k st c t lf mB mM mP mL mO fW y fi fD mK (nI k)) (cwV 1 hts gX2_measures_X2_told rfl rfl rfl (by decide +kernel) ⟨Nat.le_of_ble_eq_true rfl, Nat.le_of_ble_eq_true rfl⟩) (preV_wr KM_ok (hP.sub (ws' := [((b 0), .inr (2, [.int th, .int (nI k), .ref (b 1), .ref (b 2), .ref (b 3), .ref (b 4), .ref (b 5), .int (nI st), .int (nI c), .ref (b 6), .int t, .ref (b 7), .ref (b 8), .long lf])), ((b 1), .inl (cI, 8, .inl mB)), ((b 2), .inl (cI, 8, .inl mM)), ((b 3), .inl (cI, 8, .inl mP)), ((b 4), .inl (cJ, 8, .inr (.inl mL))), ((b 5), .inl (cI, 8, .inl mO)), ((b 6), .inl (cI, 6, .inl fW)), ((b 7), .inl (cI, 8, .inl (nwF y fi fD))), ((b 8), .inl (cI, 8, .inl mK))]) [0, 1, 2, 3, 4, 5, 6, 7, 8] rfl) (hD.sub (ws' := [((b 0), .inr (2, [.int th, .int (nI k), .ref (b 1), .ref (b 2), .ref (b 3), .ref (b 4), .ref (b 5), .int (nI st), .int (nI c), .ref (b 6), .int t, .ref (b 7), .ref (b 8), .long lf])), ((b 1), .inl (cI, 8, .inl mB)), ((b 2), .inl (cI, 8, .inl mM)), ((b 3), .inl (cI, 8, .inl mP)), ((b 4), .inl (cJ, 8, .inr (.inl mL))), ((b 5), .inl (cI, 8, .inl mO)), ((b 6), .inl (cI, 6, .inl fW)), ((b 7), .inl (cI, 8, .inl (nwF y fi fD))), ((b 8), .inl (cI, 8, .inl mK))]) [0, 1, 2, 3, 4, 5, 6, 7, 8] (by decide) rfl) hK (va_recv hK hP (ci := 2) (q0 := 0) rfl rfl)) rfl rfl hl.1 rfl (lv_room (Nat.le_of_ble_eq_true rfl)) dX2_measures_5 ⟨by decide, by decide⟩) hS (fun q _ h => hFc q h) hFc (fun r_5 u t9 H1 locs ht hvm hw9 hB hz1 hk1 hS => ?_)
  obtain ⟨hr9, rfl⟩ := hw9
  have hr9 := hr9.symm
  subst hr9
  obtain ⟨hP1, hD1⟩ := hB
  rw [ht] at hP1
  obtain ⟨hP, hD⟩ := va_join (wr := []) (w1 := [((b 0), .inr (2, [.int 0, .int (nI k), .ref (b 1), .ref (b 2), .ref (b 3), .ref (b 4), .ref (b 5), .int (nI st), .int (nI c), .ref (b 6), .int t, .ref (b 7), .ref (b 8), .long lf])), ((b 1), .inl (cI, 8, .inl mB)), ((b 2), .inl (cI, 8, .inl mM)), ((b 3), .inl (cI, 8, .inl mP)), ((b 4), .inl (cJ, 8, .inr (.inl mL))), ((b 5), .inl (cI, 8, .inl mO)), ((b 6), .inl (cI, 6, .inl fW)), ((b 7), .inl (cI, 8, .inl (nwF y fi fD))), ((b 8), .inl (cI, 8, .inl mK))]) hP hD [0, 1, 2, 3, 4, 5, 6, 7, 8] [] rfl rfl (by decide) (by decide) hk1 hFc hP1 hD1
  clear hz1 hk1 ht hvm hFc
  generalize H1 = H at hP hS ⊢
  have hP : va_P D vwCl [((b 0), .inr (2, [.int 0, .int (nI k), .ref (b 1), .ref (b 2), .ref (b 3), .ref (b 4), .ref (b 5), .int (nI st), .int (nI c), .ref (b 6), .int t, .ref (b 7), .ref (b 8), .long lf])), ((b 1), .inl (cI, 8, .inl mB)), ((b 2), .inl (cI, 8, .inl mM)), ((b 3), .inl (cI, 8, .inl mP)), ((b 4), .inl (cJ, 8, .inr (.inl mL))), ((b 5), .inl (cI, 8, .inl mO)), ((b 6), .inl (cI, 6, .inl fW)), ((b 7), .inl (cI, 8, .inl (nwF y fi fD))), ((b 8), .inl (cI, 8, .inl mK))] H := hP
  have hD : va_D A [((b 0), .inr (2, [.int 0, .int (nI k), .ref (b 1), .ref (b 2), .ref (b 3), .ref (b 4), .ref (b 5), .int (nI st), .int (nI c), .ref (b 6), .int t, .ref (b 7), .ref (b 8), .long lf])), ((b 1), .inl (cI, 8, .inl mB)), ((b 2), .inl (cI, 8, .inl mM)), ((b 3), .inl (cI, 8, .inl mP)), ((b 4), .inl (cJ, 8, .inr (.inl mL))), ((b 5), .inl (cI, 8, .inl mO)), ((b 6), .inl (cI, 6, .inl fW)), ((b 7), .inl (cI, 8, .inl (nwF y fi fD))), ((b 8), .inl (cI, 8, .inl mK))] := hD
  exact W.iret (v := (nI k)) hx hb hr (fun t9 ht hW => ⟨⟨(nI k), [((b 0), .inr (2, [.int 0, .int (nI k), .ref (b 1), .ref (b 2), .ref (b 3), .ref (b 4), .ref (b 5), .int (nI st), .int (nI c), .ref (b 6), .int t, .ref (b 7), .ref (b 8), .long lf])), ((b 1), .inl (cI, 8, .inl mB)), ((b 2), .inl (cI, 8, .inl mM)), ((b 3), .inl (cI, 8, .inl mP)), ((b 4), .inl (cJ, 8, .inr (.inl mL))), ((b 5), .inl (cI, 8, .inl mO)), ((b 6), .inl (cI, 6, .inl fW)), ((b 7), .inl (cI, 8, .inl (nwF y fi fD))), ((b 8), .inl (cI, 8, .inl mK))], rfl, ⟨rfl, rfl⟩, by rw [ht]; exact hP, hD⟩, hS.F ht⟩) hS.2.2 dX2_measures_8

set_option maxHeartbeats 4000000 in
set_option maxRecDepth 100000 in
theorem c_X2_stalls (l : Launch) (D : va_G) (cI cJ : ClassId) (sz : Nat) (b : Nat → Nat) (th : Int32) (k st c : Nat) (t : Int32) (lf : Int64) (mB mM mP : Nat → Int32) (mL : Nat → Int64) (mO fW : Nat → Int32) (y : Nat) (fi : Int32) (fD mK : Nat → Int32)  : Met l yX2_stalls wsX2_stalls ({ frames := 3, cells := 0, slots := 0, locals := 80 }) (cPw D [((b 0), .inr (2, [.int th, .int (nI k), .ref (b 1), .ref (b 2), .ref (b 3), .ref (b 4), .ref (b 5), .int (nI st), .int (nI c), .ref (b 6), .int t, .ref (b 7), .ref (b 8), .long lf])), ((b 1), .inl (cI, 8, .inl mB)), ((b 2), .inl (cI, 8, .inl mM)), ((b 3), .inl (cI, 8, .inl mP)), ((b 4), .inl (cJ, 8, .inr (.inl mL))), ((b 5), .inl (cI, 8, .inl mO)), ((b 6), .inl (cI, 6, .inl fW)), ((b 7), .inl (cI, 8, .inl (nwF y fi fD))), ((b 8), .inl (cI, 8, .inl mK))] sz (KM D cI cJ) [.ref (b 0)]) (wri D [((b 0), .inr (2, [.int th, .int (nI k), .ref (b 1), .ref (b 2), .ref (b 3), .ref (b 4), .ref (b 5), .int (nI st), .int (nI c), .ref (b 6), .int t, .ref (b 7), .ref (b 8), .long lf])), ((b 1), .inl (cI, 8, .inl mB)), ((b 2), .inl (cI, 8, .inl mM)), ((b 3), .inl (cI, 8, .inl mP)), ((b 4), .inl (cJ, 8, .inr (.inl mL))), ((b 5), .inl (cI, 8, .inl mO)), ((b 6), .inl (cI, 6, .inl fW)), ((b 7), .inl (cI, 8, .inl (nwF y fi fD))), ((b 8), .inl (cI, 8, .inl mK))] sz (fun r ws' => r = nI c ∧ ws' = [((b 0), .inr (2, [.int 0, .int (nI k), .ref (b 1), .ref (b 2), .ref (b 3), .ref (b 4), .ref (b 5), .int (nI st), .int (nI c), .ref (b 6), .int t, .ref (b 7), .ref (b 8), .long lf])), ((b 1), .inl (cI, 8, .inl mB)), ((b 2), .inl (cI, 8, .inl mM)), ((b 3), .inl (cI, 8, .inl mP)), ((b 4), .inl (cJ, 8, .inr (.inl mL))), ((b 5), .inl (cI, 8, .inl mO)), ((b 6), .inl (cI, 6, .inl fW)), ((b 7), .inl (cI, 8, .inl (nwF y fi fD))), ((b 8), .inl (cI, 8, .inl mK))])) 0 0 (va_A [((b 0), .inr (2, [.int th, .int (nI k), .ref (b 1), .ref (b 2), .ref (b 3), .ref (b 4), .ref (b 5), .int (nI st), .int (nI c), .ref (b 6), .int t, .ref (b 7), .ref (b 8), .long lf])), ((b 1), .inl (cI, 8, .inl mB)), ((b 2), .inl (cI, 8, .inl mM)), ((b 3), .inl (cI, 8, .inl mP)), ((b 4), .inl (cJ, 8, .inr (.inl mL))), ((b 5), .inl (cI, 8, .inl mO)), ((b 6), .inl (cI, 6, .inl fW)), ((b 7), .inl (cI, 8, .inl (nwF y fi fD))), ((b 8), .inl (cI, 8, .inl mK))] sz) := by
  refine Met.ofW (cc := cX2_stalls) (maxL := 1) (ret := (some .int)) (by decide +kernel) rfl ?_
  intro p e s m args below meth c9 s₁ B hml hv
  obtain ⟨rfl, hsz, hP, hD0, hC⟩ := hv
  have hx := B.exec
  have hb := B.bytes
  have hr := B.returns
  have hts := atoms_spec (ws := wsX2_stalls) B.pre
  have hown : s.vm.findClass RX2 = some m.cls := findClass_of_methodNamed B.named
  have hlocks := B.notSynchronized
  have hK : va_K D vwCl [(cI, .int), (cJ, .long)] s := hC
  subst hsz
  unfold wri wB
  have hD := hD0.self (sz := s.heap.size)
  generalize hAe : va_A [((b 0), .inr (2, [.int th, .int (nI k), .ref (b 1), .ref (b 2), .ref (b 3), .ref (b 4), .ref (b 5), .int (nI st), .int (nI c), .ref (b 6), .int t, .ref (b 7), .ref (b 8), .long lf])), ((b 1), .inl (cI, 8, .inl mB)), ((b 2), .inl (cI, 8, .inl mM)), ((b 3), .inl (cI, 8, .inl mP)), ((b 4), .inl (cJ, 8, .inr (.inl mL))), ((b 5), .inl (cI, 8, .inl mO)), ((b 6), .inl (cI, 6, .inl fW)), ((b 7), .inl (cI, 8, .inl (nwF y fi fD))), ((b 8), .inl (cI, 8, .inl mK))] s.heap.size = A at hD ⊢
  have hA : ∀ q : Nat, s.heap.size ≤ q → A q := fun q h => by rw [← hAe]; exact Or.inr h
  have hS : va_S A s.heap s.heap [] := va_S.rf
  have hl := lv_entry ([.ref (b 0)]) (n := 1) (Nat.le_of_ble_eq_true rfl)
  rw [lg_entry_eq]
  generalize (lg_sl ([.ref (b 0)]) ++ List.replicate (1 - (lg_sl ([.ref (b 0)])).length) Slot.unset).toArray = ls at hl ⊢
  have hl : lv_has ls 1 [(0, .ref (b 0))] := hl
  have hiX2 : ∀ w ∈ u_ws RX2 TX2 14, w ∈ wsX2_stalls := by decide +kernel
  have hw49 : (Cond.fieldLink RX2 49 "OldMeasuresModel" "stalls" "I").before ([.ref (b 0)] : List Value).toArray s = true := hts _ (by decide +kernel)
  refine lv_aload_n hx hb dX2_stalls_0 rfl (lv_at hl 0 rfl) ?_
  refine lv_aload_n hx hb dX2_stalls_1 rfl (lv_at hl 0 rfl) ?_
  refine va_get (D := D) (ci := 2) (v := .int (nI c)) (C := RX2) (T := TX2) (N := 14) hx hb hts hiX2 hown hK hP 0 rfl rfl 8 (by decide) hw49 (fun _ h9 => h9) rfl dX2_stalls_2 ?_
  have hFc := va_free (wc := [((b 0), .inr (2, [.int th, .int (nI k), .ref (b 1), .ref (b 2), .ref (b 3), .ref (b 4), .ref (b 5), .int (nI st), .int (nI c), .ref (b 6), .int t, .ref (b 7), .ref (b 8), .long lf])), ((b 1), .inl (cI, 8, .inl mB)), ((b 2), .inl (cI, 8, .inl mM)), ((b 3), .inl (cI, 8, .inl mP)), ((b 4), .inl (cJ, 8, .inr (.inl mL))), ((b 5), .inl (cI, 8, .inl mO)), ((b 6), .inl (cI, 6, .inl fW)), ((b 7), .inl (cI, 8, .inl (nwF y fi fD))), ((b 8), .inl (cI, 8, .inl mK))]) hD hS hA [0, 1, 2, 3, 4, 5, 6, 7, 8] rfl
  refine va_calli (va_runV (As := [.int (nI c)]) (rest := []) ⟨hx, hb, hml, hown, hts⟩ (c_X2_told l D cI cJ s.heap.size b th k st c t lf mB mM mP mL mO fW y fi fD mK (nI c)) (cwV 1 hts gX2_stalls_X2_told rfl rfl rfl (by decide +kernel) ⟨Nat.le_of_ble_eq_true rfl, Nat.le_of_ble_eq_true rfl⟩) (preV_wr KM_ok (hP.sub (ws' := [((b 0), .inr (2, [.int th, .int (nI k), .ref (b 1), .ref (b 2), .ref (b 3), .ref (b 4), .ref (b 5), .int (nI st), .int (nI c), .ref (b 6), .int t, .ref (b 7), .ref (b 8), .long lf])), ((b 1), .inl (cI, 8, .inl mB)), ((b 2), .inl (cI, 8, .inl mM)), ((b 3), .inl (cI, 8, .inl mP)), ((b 4), .inl (cJ, 8, .inr (.inl mL))), ((b 5), .inl (cI, 8, .inl mO)), ((b 6), .inl (cI, 6, .inl fW)), ((b 7), .inl (cI, 8, .inl (nwF y fi fD))), ((b 8), .inl (cI, 8, .inl mK))]) [0, 1, 2, 3, 4, 5, 6, 7, 8] rfl) (hD.sub (ws' := [((b 0), .inr (2, [.int th, .int (nI k), .ref (b 1), .ref (b 2), .ref (b 3), .ref (b 4), .ref (b 5), .int (nI st), .int (nI c), .ref (b 6), .int t, .ref (b 7), .ref (b 8), .long lf])), ((b 1), .inl (cI, 8, .inl mB)), ((b 2), .inl (cI, 8, .inl mM)), ((b 3), .inl (cI, 8, .inl mP)), ((b 4), .inl (cJ, 8, .inr (.inl mL))), ((b 5), .inl (cI, 8, .inl mO)), ((b 6), .inl (cI, 6, .inl fW)), ((b 7), .inl (cI, 8, .inl (nwF y fi fD))), ((b 8), .inl (cI, 8, .inl mK))]) [0, 1, 2, 3, 4, 5, 6, 7, 8] (by decide) rfl) hK (va_recv hK hP (ci := 2) (q0 := 0) rfl rfl)) rfl rfl hl.1 rfl (lv_room (Nat.le_of_ble_eq_true rfl)) dX2_stalls_5 ⟨by decide, by decide⟩) hS (fun q _ h => hFc q h) hFc (fun r_5 u t9 H1 locs ht hvm hw9 hB hz1 hk1 hS => ?_)
  obtain ⟨hr9, rfl⟩ := hw9
  have hr9 := hr9.symm
  subst hr9
  obtain ⟨hP1, hD1⟩ := hB
  rw [ht] at hP1
  obtain ⟨hP, hD⟩ := va_join (wr := []) (w1 := [((b 0), .inr (2, [.int 0, .int (nI k), .ref (b 1), .ref (b 2), .ref (b 3), .ref (b 4), .ref (b 5), .int (nI st), .int (nI c), .ref (b 6), .int t, .ref (b 7), .ref (b 8), .long lf])), ((b 1), .inl (cI, 8, .inl mB)), ((b 2), .inl (cI, 8, .inl mM)), ((b 3), .inl (cI, 8, .inl mP)), ((b 4), .inl (cJ, 8, .inr (.inl mL))), ((b 5), .inl (cI, 8, .inl mO)), ((b 6), .inl (cI, 6, .inl fW)), ((b 7), .inl (cI, 8, .inl (nwF y fi fD))), ((b 8), .inl (cI, 8, .inl mK))]) hP hD [0, 1, 2, 3, 4, 5, 6, 7, 8] [] rfl rfl (by decide) (by decide) hk1 hFc hP1 hD1
  clear hz1 hk1 ht hvm hFc
  generalize H1 = H at hP hS ⊢
  have hP : va_P D vwCl [((b 0), .inr (2, [.int 0, .int (nI k), .ref (b 1), .ref (b 2), .ref (b 3), .ref (b 4), .ref (b 5), .int (nI st), .int (nI c), .ref (b 6), .int t, .ref (b 7), .ref (b 8), .long lf])), ((b 1), .inl (cI, 8, .inl mB)), ((b 2), .inl (cI, 8, .inl mM)), ((b 3), .inl (cI, 8, .inl mP)), ((b 4), .inl (cJ, 8, .inr (.inl mL))), ((b 5), .inl (cI, 8, .inl mO)), ((b 6), .inl (cI, 6, .inl fW)), ((b 7), .inl (cI, 8, .inl (nwF y fi fD))), ((b 8), .inl (cI, 8, .inl mK))] H := hP
  have hD : va_D A [((b 0), .inr (2, [.int 0, .int (nI k), .ref (b 1), .ref (b 2), .ref (b 3), .ref (b 4), .ref (b 5), .int (nI st), .int (nI c), .ref (b 6), .int t, .ref (b 7), .ref (b 8), .long lf])), ((b 1), .inl (cI, 8, .inl mB)), ((b 2), .inl (cI, 8, .inl mM)), ((b 3), .inl (cI, 8, .inl mP)), ((b 4), .inl (cJ, 8, .inr (.inl mL))), ((b 5), .inl (cI, 8, .inl mO)), ((b 6), .inl (cI, 6, .inl fW)), ((b 7), .inl (cI, 8, .inl (nwF y fi fD))), ((b 8), .inl (cI, 8, .inl mK))] := hD
  exact W.iret (v := (nI c)) hx hb hr (fun t9 ht hW => ⟨⟨(nI c), [((b 0), .inr (2, [.int 0, .int (nI k), .ref (b 1), .ref (b 2), .ref (b 3), .ref (b 4), .ref (b 5), .int (nI st), .int (nI c), .ref (b 6), .int t, .ref (b 7), .ref (b 8), .long lf])), ((b 1), .inl (cI, 8, .inl mB)), ((b 2), .inl (cI, 8, .inl mM)), ((b 3), .inl (cI, 8, .inl mP)), ((b 4), .inl (cJ, 8, .inr (.inl mL))), ((b 5), .inl (cI, 8, .inl mO)), ((b 6), .inl (cI, 6, .inl fW)), ((b 7), .inl (cI, 8, .inl (nwF y fi fD))), ((b 8), .inl (cI, 8, .inl mK))], rfl, ⟨rfl, rfl⟩, by rw [ht]; exact hP, hD⟩, hS.F ht⟩) hS.2.2 dX2_stalls_8

set_option maxHeartbeats 4000000 in
set_option maxRecDepth 100000 in
theorem c_X2_standard (l : Launch) (D : va_G) (cI cJ : ClassId) (sz : Nat) (b : Nat → Nat) (th : Int32) (k st c : Nat) (t : Int32) (lf : Int64) (mB mM mP : Nat → Int32) (mL : Nat → Int64) (mO fW : Nat → Int32) (y : Nat) (fi : Int32) (fD mK : Nat → Int32)  : Met l yX2_standard wsX2_standard ({ frames := 3, cells := 0, slots := 0, locals := 80 }) (cPw D [((b 0), .inr (2, [.int th, .int (nI k), .ref (b 1), .ref (b 2), .ref (b 3), .ref (b 4), .ref (b 5), .int (nI st), .int (nI c), .ref (b 6), .int t, .ref (b 7), .ref (b 8), .long lf])), ((b 1), .inl (cI, 8, .inl mB)), ((b 2), .inl (cI, 8, .inl mM)), ((b 3), .inl (cI, 8, .inl mP)), ((b 4), .inl (cJ, 8, .inr (.inl mL))), ((b 5), .inl (cI, 8, .inl mO)), ((b 6), .inl (cI, 6, .inl fW)), ((b 7), .inl (cI, 8, .inl (nwF y fi fD))), ((b 8), .inl (cI, 8, .inl mK))] sz (KM D cI cJ) [.ref (b 0)]) (wri D [((b 0), .inr (2, [.int th, .int (nI k), .ref (b 1), .ref (b 2), .ref (b 3), .ref (b 4), .ref (b 5), .int (nI st), .int (nI c), .ref (b 6), .int t, .ref (b 7), .ref (b 8), .long lf])), ((b 1), .inl (cI, 8, .inl mB)), ((b 2), .inl (cI, 8, .inl mM)), ((b 3), .inl (cI, 8, .inl mP)), ((b 4), .inl (cJ, 8, .inr (.inl mL))), ((b 5), .inl (cI, 8, .inl mO)), ((b 6), .inl (cI, 6, .inl fW)), ((b 7), .inl (cI, 8, .inl (nwF y fi fD))), ((b 8), .inl (cI, 8, .inl mK))] sz (fun r ws' => r = nI st ∧ ws' = [((b 0), .inr (2, [.int 0, .int (nI k), .ref (b 1), .ref (b 2), .ref (b 3), .ref (b 4), .ref (b 5), .int (nI st), .int (nI c), .ref (b 6), .int t, .ref (b 7), .ref (b 8), .long lf])), ((b 1), .inl (cI, 8, .inl mB)), ((b 2), .inl (cI, 8, .inl mM)), ((b 3), .inl (cI, 8, .inl mP)), ((b 4), .inl (cJ, 8, .inr (.inl mL))), ((b 5), .inl (cI, 8, .inl mO)), ((b 6), .inl (cI, 6, .inl fW)), ((b 7), .inl (cI, 8, .inl (nwF y fi fD))), ((b 8), .inl (cI, 8, .inl mK))])) 0 0 (va_A [((b 0), .inr (2, [.int th, .int (nI k), .ref (b 1), .ref (b 2), .ref (b 3), .ref (b 4), .ref (b 5), .int (nI st), .int (nI c), .ref (b 6), .int t, .ref (b 7), .ref (b 8), .long lf])), ((b 1), .inl (cI, 8, .inl mB)), ((b 2), .inl (cI, 8, .inl mM)), ((b 3), .inl (cI, 8, .inl mP)), ((b 4), .inl (cJ, 8, .inr (.inl mL))), ((b 5), .inl (cI, 8, .inl mO)), ((b 6), .inl (cI, 6, .inl fW)), ((b 7), .inl (cI, 8, .inl (nwF y fi fD))), ((b 8), .inl (cI, 8, .inl mK))] sz) := by
  refine Met.ofW (cc := cX2_standard) (maxL := 1) (ret := (some .int)) (by decide +kernel) rfl ?_
  intro p e s m args below meth c9 s₁ B hml hv
  obtain ⟨rfl, hsz, hP, hD0, hC⟩ := hv
  have hx := B.exec
  have hb := B.bytes
  have hr := B.returns
  have hts := atoms_spec (ws := wsX2_standard) B.pre
  have hown : s.vm.findClass RX2 = some m.cls := findClass_of_methodNamed B.named
  have hlocks := B.notSynchronized
  have hK : va_K D vwCl [(cI, .int), (cJ, .long)] s := hC
  subst hsz
  unfold wri wB
  have hD := hD0.self (sz := s.heap.size)
  generalize hAe : va_A [((b 0), .inr (2, [.int th, .int (nI k), .ref (b 1), .ref (b 2), .ref (b 3), .ref (b 4), .ref (b 5), .int (nI st), .int (nI c), .ref (b 6), .int t, .ref (b 7), .ref (b 8), .long lf])), ((b 1), .inl (cI, 8, .inl mB)), ((b 2), .inl (cI, 8, .inl mM)), ((b 3), .inl (cI, 8, .inl mP)), ((b 4), .inl (cJ, 8, .inr (.inl mL))), ((b 5), .inl (cI, 8, .inl mO)), ((b 6), .inl (cI, 6, .inl fW)), ((b 7), .inl (cI, 8, .inl (nwF y fi fD))), ((b 8), .inl (cI, 8, .inl mK))] s.heap.size = A at hD ⊢
  have hA : ∀ q : Nat, s.heap.size ≤ q → A q := fun q h => by rw [← hAe]; exact Or.inr h
  have hS : va_S A s.heap s.heap [] := va_S.rf
  have hl := lv_entry ([.ref (b 0)]) (n := 1) (Nat.le_of_ble_eq_true rfl)
  rw [lg_entry_eq]
  generalize (lg_sl ([.ref (b 0)]) ++ List.replicate (1 - (lg_sl ([.ref (b 0)])).length) Slot.unset).toArray = ls at hl ⊢
  have hl : lv_has ls 1 [(0, .ref (b 0))] := hl
  have hiX2 : ∀ w ∈ u_ws RX2 TX2 14, w ∈ wsX2_standard := by decide +kernel
  have hw88 : (Cond.fieldLink RX2 88 "OldMeasuresModel" "standard" "I").before ([.ref (b 0)] : List Value).toArray s = true := hts _ (by decide +kernel)
  refine lv_aload_n hx hb dX2_standard_0 rfl (lv_at hl 0 rfl) ?_
  refine lv_aload_n hx hb dX2_standard_1 rfl (lv_at hl 0 rfl) ?_
  refine va_get (D := D) (ci := 2) (v := .int (nI st)) (C := RX2) (T := TX2) (N := 14) hx hb hts hiX2 hown hK hP 0 rfl rfl 7 (by decide) hw88 (fun _ h9 => h9) rfl dX2_standard_2 ?_
  have hFc := va_free (wc := [((b 0), .inr (2, [.int th, .int (nI k), .ref (b 1), .ref (b 2), .ref (b 3), .ref (b 4), .ref (b 5), .int (nI st), .int (nI c), .ref (b 6), .int t, .ref (b 7), .ref (b 8), .long lf])), ((b 1), .inl (cI, 8, .inl mB)), ((b 2), .inl (cI, 8, .inl mM)), ((b 3), .inl (cI, 8, .inl mP)), ((b 4), .inl (cJ, 8, .inr (.inl mL))), ((b 5), .inl (cI, 8, .inl mO)), ((b 6), .inl (cI, 6, .inl fW)), ((b 7), .inl (cI, 8, .inl (nwF y fi fD))), ((b 8), .inl (cI, 8, .inl mK))]) hD hS hA [0, 1, 2, 3, 4, 5, 6, 7, 8] rfl
  refine va_calli (va_runV (As := [.int (nI st)]) (rest := []) ⟨hx, hb, hml, hown, hts⟩ (c_X2_told l D cI cJ s.heap.size b th k st c t lf mB mM mP mL mO fW y fi fD mK (nI st)) (cwV 1 hts gX2_standard_X2_told rfl rfl rfl (by decide +kernel) ⟨Nat.le_of_ble_eq_true rfl, Nat.le_of_ble_eq_true rfl⟩) (preV_wr KM_ok (hP.sub (ws' := [((b 0), .inr (2, [.int th, .int (nI k), .ref (b 1), .ref (b 2), .ref (b 3), .ref (b 4), .ref (b 5), .int (nI st), .int (nI c), .ref (b 6), .int t, .ref (b 7), .ref (b 8), .long lf])), ((b 1), .inl (cI, 8, .inl mB)), ((b 2), .inl (cI, 8, .inl mM)), ((b 3), .inl (cI, 8, .inl mP)), ((b 4), .inl (cJ, 8, .inr (.inl mL))), ((b 5), .inl (cI, 8, .inl mO)), ((b 6), .inl (cI, 6, .inl fW)), ((b 7), .inl (cI, 8, .inl (nwF y fi fD))), ((b 8), .inl (cI, 8, .inl mK))]) [0, 1, 2, 3, 4, 5, 6, 7, 8] rfl) (hD.sub (ws' := [((b 0), .inr (2, [.int th, .int (nI k), .ref (b 1), .ref (b 2), .ref (b 3), .ref (b 4), .ref (b 5), .int (nI st), .int (nI c), .ref (b 6), .int t, .ref (b 7), .ref (b 8), .long lf])), ((b 1), .inl (cI, 8, .inl mB)), ((b 2), .inl (cI, 8, .inl mM)), ((b 3), .inl (cI, 8, .inl mP)), ((b 4), .inl (cJ, 8, .inr (.inl mL))), ((b 5), .inl (cI, 8, .inl mO)), ((b 6), .inl (cI, 6, .inl fW)), ((b 7), .inl (cI, 8, .inl (nwF y fi fD))), ((b 8), .inl (cI, 8, .inl mK))]) [0, 1, 2, 3, 4, 5, 6, 7, 8] (by decide) rfl) hK (va_recv hK hP (ci := 2) (q0 := 0) rfl rfl)) rfl rfl hl.1 rfl (lv_room (Nat.le_of_ble_eq_true rfl)) dX2_standard_5 ⟨by decide, by decide⟩) hS (fun q _ h => hFc q h) hFc (fun r_5 u t9 H1 locs ht hvm hw9 hB hz1 hk1 hS => ?_)
  obtain ⟨hr9, rfl⟩ := hw9
  have hr9 := hr9.symm
  subst hr9
  obtain ⟨hP1, hD1⟩ := hB
  rw [ht] at hP1
  obtain ⟨hP, hD⟩ := va_join (wr := []) (w1 := [((b 0), .inr (2, [.int 0, .int (nI k), .ref (b 1), .ref (b 2), .ref (b 3), .ref (b 4), .ref (b 5), .int (nI st), .int (nI c), .ref (b 6), .int t, .ref (b 7), .ref (b 8), .long lf])), ((b 1), .inl (cI, 8, .inl mB)), ((b 2), .inl (cI, 8, .inl mM)), ((b 3), .inl (cI, 8, .inl mP)), ((b 4), .inl (cJ, 8, .inr (.inl mL))), ((b 5), .inl (cI, 8, .inl mO)), ((b 6), .inl (cI, 6, .inl fW)), ((b 7), .inl (cI, 8, .inl (nwF y fi fD))), ((b 8), .inl (cI, 8, .inl mK))]) hP hD [0, 1, 2, 3, 4, 5, 6, 7, 8] [] rfl rfl (by decide) (by decide) hk1 hFc hP1 hD1
  clear hz1 hk1 ht hvm hFc
  generalize H1 = H at hP hS ⊢
  have hP : va_P D vwCl [((b 0), .inr (2, [.int 0, .int (nI k), .ref (b 1), .ref (b 2), .ref (b 3), .ref (b 4), .ref (b 5), .int (nI st), .int (nI c), .ref (b 6), .int t, .ref (b 7), .ref (b 8), .long lf])), ((b 1), .inl (cI, 8, .inl mB)), ((b 2), .inl (cI, 8, .inl mM)), ((b 3), .inl (cI, 8, .inl mP)), ((b 4), .inl (cJ, 8, .inr (.inl mL))), ((b 5), .inl (cI, 8, .inl mO)), ((b 6), .inl (cI, 6, .inl fW)), ((b 7), .inl (cI, 8, .inl (nwF y fi fD))), ((b 8), .inl (cI, 8, .inl mK))] H := hP
  have hD : va_D A [((b 0), .inr (2, [.int 0, .int (nI k), .ref (b 1), .ref (b 2), .ref (b 3), .ref (b 4), .ref (b 5), .int (nI st), .int (nI c), .ref (b 6), .int t, .ref (b 7), .ref (b 8), .long lf])), ((b 1), .inl (cI, 8, .inl mB)), ((b 2), .inl (cI, 8, .inl mM)), ((b 3), .inl (cI, 8, .inl mP)), ((b 4), .inl (cJ, 8, .inr (.inl mL))), ((b 5), .inl (cI, 8, .inl mO)), ((b 6), .inl (cI, 6, .inl fW)), ((b 7), .inl (cI, 8, .inl (nwF y fi fD))), ((b 8), .inl (cI, 8, .inl mK))] := hD
  exact W.iret (v := (nI st)) hx hb hr (fun t9 ht hW => ⟨⟨(nI st), [((b 0), .inr (2, [.int 0, .int (nI k), .ref (b 1), .ref (b 2), .ref (b 3), .ref (b 4), .ref (b 5), .int (nI st), .int (nI c), .ref (b 6), .int t, .ref (b 7), .ref (b 8), .long lf])), ((b 1), .inl (cI, 8, .inl mB)), ((b 2), .inl (cI, 8, .inl mM)), ((b 3), .inl (cI, 8, .inl mP)), ((b 4), .inl (cJ, 8, .inr (.inl mL))), ((b 5), .inl (cI, 8, .inl mO)), ((b 6), .inl (cI, 6, .inl fW)), ((b 7), .inl (cI, 8, .inl (nwF y fi fD))), ((b 8), .inl (cI, 8, .inl mK))], rfl, ⟨rfl, rfl⟩, by rw [ht]; exact hP, hD⟩, hS.F ht⟩) hS.2.2 dX2_standard_8

set_option maxHeartbeats 4000000 in
set_option maxRecDepth 100000 in
theorem c_X2_tolerance (l : Launch) (D : va_G) (cI cJ : ClassId) (sz : Nat) (b : Nat → Nat) (th : Int32) (k st c : Nat) (t : Int32) (lf : Int64) (mB mM mP : Nat → Int32) (mL : Nat → Int64) (mO fW : Nat → Int32) (y : Nat) (fi : Int32) (fD mK : Nat → Int32)  : Met l yX2_tolerance wsX2_tolerance ({ frames := 3, cells := 0, slots := 0, locals := 80 }) (cPw D [((b 0), .inr (2, [.int th, .int (nI k), .ref (b 1), .ref (b 2), .ref (b 3), .ref (b 4), .ref (b 5), .int (nI st), .int (nI c), .ref (b 6), .int t, .ref (b 7), .ref (b 8), .long lf])), ((b 1), .inl (cI, 8, .inl mB)), ((b 2), .inl (cI, 8, .inl mM)), ((b 3), .inl (cI, 8, .inl mP)), ((b 4), .inl (cJ, 8, .inr (.inl mL))), ((b 5), .inl (cI, 8, .inl mO)), ((b 6), .inl (cI, 6, .inl fW)), ((b 7), .inl (cI, 8, .inl (nwF y fi fD))), ((b 8), .inl (cI, 8, .inl mK))] sz (KM D cI cJ) [.ref (b 0)]) (wri D [((b 0), .inr (2, [.int th, .int (nI k), .ref (b 1), .ref (b 2), .ref (b 3), .ref (b 4), .ref (b 5), .int (nI st), .int (nI c), .ref (b 6), .int t, .ref (b 7), .ref (b 8), .long lf])), ((b 1), .inl (cI, 8, .inl mB)), ((b 2), .inl (cI, 8, .inl mM)), ((b 3), .inl (cI, 8, .inl mP)), ((b 4), .inl (cJ, 8, .inr (.inl mL))), ((b 5), .inl (cI, 8, .inl mO)), ((b 6), .inl (cI, 6, .inl fW)), ((b 7), .inl (cI, 8, .inl (nwF y fi fD))), ((b 8), .inl (cI, 8, .inl mK))] sz (fun r ws' => r = t ∧ ws' = [((b 0), .inr (2, [.int 0, .int (nI k), .ref (b 1), .ref (b 2), .ref (b 3), .ref (b 4), .ref (b 5), .int (nI st), .int (nI c), .ref (b 6), .int t, .ref (b 7), .ref (b 8), .long lf])), ((b 1), .inl (cI, 8, .inl mB)), ((b 2), .inl (cI, 8, .inl mM)), ((b 3), .inl (cI, 8, .inl mP)), ((b 4), .inl (cJ, 8, .inr (.inl mL))), ((b 5), .inl (cI, 8, .inl mO)), ((b 6), .inl (cI, 6, .inl fW)), ((b 7), .inl (cI, 8, .inl (nwF y fi fD))), ((b 8), .inl (cI, 8, .inl mK))])) 0 0 (va_A [((b 0), .inr (2, [.int th, .int (nI k), .ref (b 1), .ref (b 2), .ref (b 3), .ref (b 4), .ref (b 5), .int (nI st), .int (nI c), .ref (b 6), .int t, .ref (b 7), .ref (b 8), .long lf])), ((b 1), .inl (cI, 8, .inl mB)), ((b 2), .inl (cI, 8, .inl mM)), ((b 3), .inl (cI, 8, .inl mP)), ((b 4), .inl (cJ, 8, .inr (.inl mL))), ((b 5), .inl (cI, 8, .inl mO)), ((b 6), .inl (cI, 6, .inl fW)), ((b 7), .inl (cI, 8, .inl (nwF y fi fD))), ((b 8), .inl (cI, 8, .inl mK))] sz) := by
  refine Met.ofW (cc := cX2_tolerance) (maxL := 1) (ret := (some .int)) (by decide +kernel) rfl ?_
  intro p e s m args below meth c9 s₁ B hml hv
  obtain ⟨rfl, hsz, hP, hD0, hC⟩ := hv
  have hx := B.exec
  have hb := B.bytes
  have hr := B.returns
  have hts := atoms_spec (ws := wsX2_tolerance) B.pre
  have hown : s.vm.findClass RX2 = some m.cls := findClass_of_methodNamed B.named
  have hlocks := B.notSynchronized
  have hK : va_K D vwCl [(cI, .int), (cJ, .long)] s := hC
  subst hsz
  unfold wri wB
  have hD := hD0.self (sz := s.heap.size)
  generalize hAe : va_A [((b 0), .inr (2, [.int th, .int (nI k), .ref (b 1), .ref (b 2), .ref (b 3), .ref (b 4), .ref (b 5), .int (nI st), .int (nI c), .ref (b 6), .int t, .ref (b 7), .ref (b 8), .long lf])), ((b 1), .inl (cI, 8, .inl mB)), ((b 2), .inl (cI, 8, .inl mM)), ((b 3), .inl (cI, 8, .inl mP)), ((b 4), .inl (cJ, 8, .inr (.inl mL))), ((b 5), .inl (cI, 8, .inl mO)), ((b 6), .inl (cI, 6, .inl fW)), ((b 7), .inl (cI, 8, .inl (nwF y fi fD))), ((b 8), .inl (cI, 8, .inl mK))] s.heap.size = A at hD ⊢
  have hA : ∀ q : Nat, s.heap.size ≤ q → A q := fun q h => by rw [← hAe]; exact Or.inr h
  have hS : va_S A s.heap s.heap [] := va_S.rf
  have hl := lv_entry ([.ref (b 0)]) (n := 1) (Nat.le_of_ble_eq_true rfl)
  rw [lg_entry_eq]
  generalize (lg_sl ([.ref (b 0)]) ++ List.replicate (1 - (lg_sl ([.ref (b 0)])).length) Slot.unset).toArray = ls at hl ⊢
  have hl : lv_has ls 1 [(0, .ref (b 0))] := hl
  have hiX2 : ∀ w ∈ u_ws RX2 TX2 14, w ∈ wsX2_tolerance := by decide +kernel
  have hw33 : (Cond.fieldLink RX2 33 "OldMeasuresModel" "tolerance" "I").before ([.ref (b 0)] : List Value).toArray s = true := hts _ (by decide +kernel)
  refine lv_aload_n hx hb dX2_tolerance_0 rfl (lv_at hl 0 rfl) ?_
  refine lv_aload_n hx hb dX2_tolerance_1 rfl (lv_at hl 0 rfl) ?_
  refine va_get (D := D) (ci := 2) (v := .int t) (C := RX2) (T := TX2) (N := 14) hx hb hts hiX2 hown hK hP 0 rfl rfl 10 (by decide) hw33 (fun _ h9 => h9) rfl dX2_tolerance_2 ?_
  have hFc := va_free (wc := [((b 0), .inr (2, [.int th, .int (nI k), .ref (b 1), .ref (b 2), .ref (b 3), .ref (b 4), .ref (b 5), .int (nI st), .int (nI c), .ref (b 6), .int t, .ref (b 7), .ref (b 8), .long lf])), ((b 1), .inl (cI, 8, .inl mB)), ((b 2), .inl (cI, 8, .inl mM)), ((b 3), .inl (cI, 8, .inl mP)), ((b 4), .inl (cJ, 8, .inr (.inl mL))), ((b 5), .inl (cI, 8, .inl mO)), ((b 6), .inl (cI, 6, .inl fW)), ((b 7), .inl (cI, 8, .inl (nwF y fi fD))), ((b 8), .inl (cI, 8, .inl mK))]) hD hS hA [0, 1, 2, 3, 4, 5, 6, 7, 8] rfl
  refine va_calli (va_runV (As := [.int t]) (rest := []) ⟨hx, hb, hml, hown, hts⟩ (c_X2_told l D cI cJ s.heap.size b th k st c t lf mB mM mP mL mO fW y fi fD mK t) (cwV 1 hts gX2_tolerance_X2_told rfl rfl rfl (by decide +kernel) ⟨Nat.le_of_ble_eq_true rfl, Nat.le_of_ble_eq_true rfl⟩) (preV_wr KM_ok (hP.sub (ws' := [((b 0), .inr (2, [.int th, .int (nI k), .ref (b 1), .ref (b 2), .ref (b 3), .ref (b 4), .ref (b 5), .int (nI st), .int (nI c), .ref (b 6), .int t, .ref (b 7), .ref (b 8), .long lf])), ((b 1), .inl (cI, 8, .inl mB)), ((b 2), .inl (cI, 8, .inl mM)), ((b 3), .inl (cI, 8, .inl mP)), ((b 4), .inl (cJ, 8, .inr (.inl mL))), ((b 5), .inl (cI, 8, .inl mO)), ((b 6), .inl (cI, 6, .inl fW)), ((b 7), .inl (cI, 8, .inl (nwF y fi fD))), ((b 8), .inl (cI, 8, .inl mK))]) [0, 1, 2, 3, 4, 5, 6, 7, 8] rfl) (hD.sub (ws' := [((b 0), .inr (2, [.int th, .int (nI k), .ref (b 1), .ref (b 2), .ref (b 3), .ref (b 4), .ref (b 5), .int (nI st), .int (nI c), .ref (b 6), .int t, .ref (b 7), .ref (b 8), .long lf])), ((b 1), .inl (cI, 8, .inl mB)), ((b 2), .inl (cI, 8, .inl mM)), ((b 3), .inl (cI, 8, .inl mP)), ((b 4), .inl (cJ, 8, .inr (.inl mL))), ((b 5), .inl (cI, 8, .inl mO)), ((b 6), .inl (cI, 6, .inl fW)), ((b 7), .inl (cI, 8, .inl (nwF y fi fD))), ((b 8), .inl (cI, 8, .inl mK))]) [0, 1, 2, 3, 4, 5, 6, 7, 8] (by decide) rfl) hK (va_recv hK hP (ci := 2) (q0 := 0) rfl rfl)) rfl rfl hl.1 rfl (lv_room (Nat.le_of_ble_eq_true rfl)) dX2_tolerance_5 ⟨by decide, by decide⟩) hS (fun q _ h => hFc q h) hFc (fun r_5 u t9 H1 locs ht hvm hw9 hB hz1 hk1 hS => ?_)
  obtain ⟨hr9, rfl⟩ := hw9
  have hr9 := hr9.symm
  subst hr9
  obtain ⟨hP1, hD1⟩ := hB
  rw [ht] at hP1
  obtain ⟨hP, hD⟩ := va_join (wr := []) (w1 := [((b 0), .inr (2, [.int 0, .int (nI k), .ref (b 1), .ref (b 2), .ref (b 3), .ref (b 4), .ref (b 5), .int (nI st), .int (nI c), .ref (b 6), .int t, .ref (b 7), .ref (b 8), .long lf])), ((b 1), .inl (cI, 8, .inl mB)), ((b 2), .inl (cI, 8, .inl mM)), ((b 3), .inl (cI, 8, .inl mP)), ((b 4), .inl (cJ, 8, .inr (.inl mL))), ((b 5), .inl (cI, 8, .inl mO)), ((b 6), .inl (cI, 6, .inl fW)), ((b 7), .inl (cI, 8, .inl (nwF y fi fD))), ((b 8), .inl (cI, 8, .inl mK))]) hP hD [0, 1, 2, 3, 4, 5, 6, 7, 8] [] rfl rfl (by decide) (by decide) hk1 hFc hP1 hD1
  clear hz1 hk1 ht hvm hFc
  generalize H1 = H at hP hS ⊢
  have hP : va_P D vwCl [((b 0), .inr (2, [.int 0, .int (nI k), .ref (b 1), .ref (b 2), .ref (b 3), .ref (b 4), .ref (b 5), .int (nI st), .int (nI c), .ref (b 6), .int t, .ref (b 7), .ref (b 8), .long lf])), ((b 1), .inl (cI, 8, .inl mB)), ((b 2), .inl (cI, 8, .inl mM)), ((b 3), .inl (cI, 8, .inl mP)), ((b 4), .inl (cJ, 8, .inr (.inl mL))), ((b 5), .inl (cI, 8, .inl mO)), ((b 6), .inl (cI, 6, .inl fW)), ((b 7), .inl (cI, 8, .inl (nwF y fi fD))), ((b 8), .inl (cI, 8, .inl mK))] H := hP
  have hD : va_D A [((b 0), .inr (2, [.int 0, .int (nI k), .ref (b 1), .ref (b 2), .ref (b 3), .ref (b 4), .ref (b 5), .int (nI st), .int (nI c), .ref (b 6), .int t, .ref (b 7), .ref (b 8), .long lf])), ((b 1), .inl (cI, 8, .inl mB)), ((b 2), .inl (cI, 8, .inl mM)), ((b 3), .inl (cI, 8, .inl mP)), ((b 4), .inl (cJ, 8, .inr (.inl mL))), ((b 5), .inl (cI, 8, .inl mO)), ((b 6), .inl (cI, 6, .inl fW)), ((b 7), .inl (cI, 8, .inl (nwF y fi fD))), ((b 8), .inl (cI, 8, .inl mK))] := hD
  exact W.iret (v := t) hx hb hr (fun t9 ht hW => ⟨⟨t, [((b 0), .inr (2, [.int 0, .int (nI k), .ref (b 1), .ref (b 2), .ref (b 3), .ref (b 4), .ref (b 5), .int (nI st), .int (nI c), .ref (b 6), .int t, .ref (b 7), .ref (b 8), .long lf])), ((b 1), .inl (cI, 8, .inl mB)), ((b 2), .inl (cI, 8, .inl mM)), ((b 3), .inl (cI, 8, .inl mP)), ((b 4), .inl (cJ, 8, .inr (.inl mL))), ((b 5), .inl (cI, 8, .inl mO)), ((b 6), .inl (cI, 6, .inl fW)), ((b 7), .inl (cI, 8, .inl (nwF y fi fD))), ((b 8), .inl (cI, 8, .inl mK))], rfl, ⟨rfl, rfl⟩, by rw [ht]; exact hP, hD⟩, hS.F ht⟩) hS.2.2 dX2_tolerance_8

set_option maxHeartbeats 4000000 in
set_option maxRecDepth 100000 in
theorem c_X2_days (l : Launch) (D : va_G) (cI cJ : ClassId) (sz : Nat) (b : Nat → Nat) (th : Int32) (k st c : Nat) (t : Int32) (lf : Int64) (mB mM mP : Nat → Int32) (mL : Nat → Int64) (mO fW : Nat → Int32) (y : Nat) (fi : Int32) (fD mK : Nat → Int32)  : Met l yX2_days wsX2_days ({ frames := 3, cells := 0, slots := 0, locals := 80 }) (cPw D [((b 0), .inr (2, [.int th, .int (nI k), .ref (b 1), .ref (b 2), .ref (b 3), .ref (b 4), .ref (b 5), .int (nI st), .int (nI c), .ref (b 6), .int t, .ref (b 7), .ref (b 8), .long lf])), ((b 1), .inl (cI, 8, .inl mB)), ((b 2), .inl (cI, 8, .inl mM)), ((b 3), .inl (cI, 8, .inl mP)), ((b 4), .inl (cJ, 8, .inr (.inl mL))), ((b 5), .inl (cI, 8, .inl mO)), ((b 6), .inl (cI, 6, .inl fW)), ((b 7), .inl (cI, 8, .inl (nwF y fi fD))), ((b 8), .inl (cI, 8, .inl mK))] sz (KM D cI cJ) [.ref (b 0)]) (wri D [((b 0), .inr (2, [.int th, .int (nI k), .ref (b 1), .ref (b 2), .ref (b 3), .ref (b 4), .ref (b 5), .int (nI st), .int (nI c), .ref (b 6), .int t, .ref (b 7), .ref (b 8), .long lf])), ((b 1), .inl (cI, 8, .inl mB)), ((b 2), .inl (cI, 8, .inl mM)), ((b 3), .inl (cI, 8, .inl mP)), ((b 4), .inl (cJ, 8, .inr (.inl mL))), ((b 5), .inl (cI, 8, .inl mO)), ((b 6), .inl (cI, 6, .inl fW)), ((b 7), .inl (cI, 8, .inl (nwF y fi fD))), ((b 8), .inl (cI, 8, .inl mK))] sz (fun r ws' => r = nI y ∧ ws' = [((b 0), .inr (2, [.int 0, .int (nI k), .ref (b 1), .ref (b 2), .ref (b 3), .ref (b 4), .ref (b 5), .int (nI st), .int (nI c), .ref (b 6), .int t, .ref (b 7), .ref (b 8), .long lf])), ((b 1), .inl (cI, 8, .inl mB)), ((b 2), .inl (cI, 8, .inl mM)), ((b 3), .inl (cI, 8, .inl mP)), ((b 4), .inl (cJ, 8, .inr (.inl mL))), ((b 5), .inl (cI, 8, .inl mO)), ((b 6), .inl (cI, 6, .inl fW)), ((b 7), .inl (cI, 8, .inl (nwF y fi fD))), ((b 8), .inl (cI, 8, .inl mK))])) 0 0 (va_A [((b 0), .inr (2, [.int th, .int (nI k), .ref (b 1), .ref (b 2), .ref (b 3), .ref (b 4), .ref (b 5), .int (nI st), .int (nI c), .ref (b 6), .int t, .ref (b 7), .ref (b 8), .long lf])), ((b 1), .inl (cI, 8, .inl mB)), ((b 2), .inl (cI, 8, .inl mM)), ((b 3), .inl (cI, 8, .inl mP)), ((b 4), .inl (cJ, 8, .inr (.inl mL))), ((b 5), .inl (cI, 8, .inl mO)), ((b 6), .inl (cI, 6, .inl fW)), ((b 7), .inl (cI, 8, .inl (nwF y fi fD))), ((b 8), .inl (cI, 8, .inl mK))] sz) := by
  refine Met.ofW (cc := cX2_days) (maxL := 1) (ret := (some .int)) (by decide +kernel) rfl ?_
  intro p e s m args below meth c9 s₁ B hml hv
  obtain ⟨rfl, hsz, hP, hD0, hC⟩ := hv
  have hx := B.exec
  have hb := B.bytes
  have hr := B.returns
  have hts := atoms_spec (ws := wsX2_days) B.pre
  have hown : s.vm.findClass RX2 = some m.cls := findClass_of_methodNamed B.named
  have hlocks := B.notSynchronized
  have hK : va_K D vwCl [(cI, .int), (cJ, .long)] s := hC
  subst hsz
  unfold wri wB
  have hD := hD0.self (sz := s.heap.size)
  generalize hAe : va_A [((b 0), .inr (2, [.int th, .int (nI k), .ref (b 1), .ref (b 2), .ref (b 3), .ref (b 4), .ref (b 5), .int (nI st), .int (nI c), .ref (b 6), .int t, .ref (b 7), .ref (b 8), .long lf])), ((b 1), .inl (cI, 8, .inl mB)), ((b 2), .inl (cI, 8, .inl mM)), ((b 3), .inl (cI, 8, .inl mP)), ((b 4), .inl (cJ, 8, .inr (.inl mL))), ((b 5), .inl (cI, 8, .inl mO)), ((b 6), .inl (cI, 6, .inl fW)), ((b 7), .inl (cI, 8, .inl (nwF y fi fD))), ((b 8), .inl (cI, 8, .inl mK))] s.heap.size = A at hD ⊢
  have hA : ∀ q : Nat, s.heap.size ≤ q → A q := fun q h => by rw [← hAe]; exact Or.inr h
  have hS : va_S A s.heap s.heap [] := va_S.rf
  have hl := lv_entry ([.ref (b 0)]) (n := 1) (Nat.le_of_ble_eq_true rfl)
  rw [lg_entry_eq]
  generalize (lg_sl ([.ref (b 0)]) ++ List.replicate (1 - (lg_sl ([.ref (b 0)])).length) Slot.unset).toArray = ls at hl ⊢
  have hl : lv_has ls 1 [(0, .ref (b 0))] := hl
  have hiX2 : ∀ w ∈ u_ws RX2 TX2 14, w ∈ wsX2_days := by decide +kernel
  have hw36 : (Cond.fieldLink RX2 36 "OldMeasuresModel" "now" "[I").before ([.ref (b 0)] : List Value).toArray s = true := hts _ (by decide +kernel)
  refine lv_aload_n hx hb dX2_days_0 rfl (lv_at hl 0 rfl) ?_
  refine lv_aload_n hx hb dX2_days_1 rfl (lv_at hl 0 rfl) ?_
  refine va_get (D := D) (ci := 2) (v := .ref (b 7)) (C := RX2) (T := TX2) (N := 14) hx hb hts hiX2 hown hK hP 0 rfl rfl 11 (by decide) hw36 (fun _ h9 => h9) rfl dX2_days_2 ?_
  refine lv_iconst (v := 0) hx hb dX2_days_5 (by decide) ?_
  refine topI (y := nI 0) rfl ?_
  refine xa_iald hx hb hK hP 7 0 rfl rfl (by omega) (by decide) dX2_days_6 ?_
  refine topI (y := (nI y)) rfl ?_
  have hFc := va_free (wc := [((b 0), .inr (2, [.int th, .int (nI k), .ref (b 1), .ref (b 2), .ref (b 3), .ref (b 4), .ref (b 5), .int (nI st), .int (nI c), .ref (b 6), .int t, .ref (b 7), .ref (b 8), .long lf])), ((b 1), .inl (cI, 8, .inl mB)), ((b 2), .inl (cI, 8, .inl mM)), ((b 3), .inl (cI, 8, .inl mP)), ((b 4), .inl (cJ, 8, .inr (.inl mL))), ((b 5), .inl (cI, 8, .inl mO)), ((b 6), .inl (cI, 6, .inl fW)), ((b 7), .inl (cI, 8, .inl (nwF y fi fD))), ((b 8), .inl (cI, 8, .inl mK))]) hD hS hA [0, 1, 2, 3, 4, 5, 6, 7, 8] rfl
  refine va_calli (va_runV (As := [.int (nI y)]) (rest := []) ⟨hx, hb, hml, hown, hts⟩ (c_X2_told l D cI cJ s.heap.size b th k st c t lf mB mM mP mL mO fW y fi fD mK (nI y)) (cwV 1 hts gX2_days_X2_told rfl rfl rfl (by decide +kernel) ⟨Nat.le_of_ble_eq_true rfl, Nat.le_of_ble_eq_true rfl⟩) (preV_wr KM_ok (hP.sub (ws' := [((b 0), .inr (2, [.int th, .int (nI k), .ref (b 1), .ref (b 2), .ref (b 3), .ref (b 4), .ref (b 5), .int (nI st), .int (nI c), .ref (b 6), .int t, .ref (b 7), .ref (b 8), .long lf])), ((b 1), .inl (cI, 8, .inl mB)), ((b 2), .inl (cI, 8, .inl mM)), ((b 3), .inl (cI, 8, .inl mP)), ((b 4), .inl (cJ, 8, .inr (.inl mL))), ((b 5), .inl (cI, 8, .inl mO)), ((b 6), .inl (cI, 6, .inl fW)), ((b 7), .inl (cI, 8, .inl (nwF y fi fD))), ((b 8), .inl (cI, 8, .inl mK))]) [0, 1, 2, 3, 4, 5, 6, 7, 8] rfl) (hD.sub (ws' := [((b 0), .inr (2, [.int th, .int (nI k), .ref (b 1), .ref (b 2), .ref (b 3), .ref (b 4), .ref (b 5), .int (nI st), .int (nI c), .ref (b 6), .int t, .ref (b 7), .ref (b 8), .long lf])), ((b 1), .inl (cI, 8, .inl mB)), ((b 2), .inl (cI, 8, .inl mM)), ((b 3), .inl (cI, 8, .inl mP)), ((b 4), .inl (cJ, 8, .inr (.inl mL))), ((b 5), .inl (cI, 8, .inl mO)), ((b 6), .inl (cI, 6, .inl fW)), ((b 7), .inl (cI, 8, .inl (nwF y fi fD))), ((b 8), .inl (cI, 8, .inl mK))]) [0, 1, 2, 3, 4, 5, 6, 7, 8] (by decide) rfl) hK (va_recv hK hP (ci := 2) (q0 := 0) rfl rfl)) rfl rfl hl.1 rfl (lv_room (Nat.le_of_ble_eq_true rfl)) dX2_days_7 ⟨by decide, by decide⟩) hS (fun q _ h => hFc q h) hFc (fun r_7 u t9 H1 locs ht hvm hw9 hB hz1 hk1 hS => ?_)
  obtain ⟨hr9, rfl⟩ := hw9
  have hr9 := hr9.symm
  subst hr9
  obtain ⟨hP1, hD1⟩ := hB
  rw [ht] at hP1
  obtain ⟨hP, hD⟩ := va_join (wr := []) (w1 := [((b 0), .inr (2, [.int 0, .int (nI k), .ref (b 1), .ref (b 2), .ref (b 3), .ref (b 4), .ref (b 5), .int (nI st), .int (nI c), .ref (b 6), .int t, .ref (b 7), .ref (b 8), .long lf])), ((b 1), .inl (cI, 8, .inl mB)), ((b 2), .inl (cI, 8, .inl mM)), ((b 3), .inl (cI, 8, .inl mP)), ((b 4), .inl (cJ, 8, .inr (.inl mL))), ((b 5), .inl (cI, 8, .inl mO)), ((b 6), .inl (cI, 6, .inl fW)), ((b 7), .inl (cI, 8, .inl (nwF y fi fD))), ((b 8), .inl (cI, 8, .inl mK))]) hP hD [0, 1, 2, 3, 4, 5, 6, 7, 8] [] rfl rfl (by decide) (by decide) hk1 hFc hP1 hD1
  clear hz1 hk1 ht hvm hFc
  generalize H1 = H at hP hS ⊢
  have hP : va_P D vwCl [((b 0), .inr (2, [.int 0, .int (nI k), .ref (b 1), .ref (b 2), .ref (b 3), .ref (b 4), .ref (b 5), .int (nI st), .int (nI c), .ref (b 6), .int t, .ref (b 7), .ref (b 8), .long lf])), ((b 1), .inl (cI, 8, .inl mB)), ((b 2), .inl (cI, 8, .inl mM)), ((b 3), .inl (cI, 8, .inl mP)), ((b 4), .inl (cJ, 8, .inr (.inl mL))), ((b 5), .inl (cI, 8, .inl mO)), ((b 6), .inl (cI, 6, .inl fW)), ((b 7), .inl (cI, 8, .inl (nwF y fi fD))), ((b 8), .inl (cI, 8, .inl mK))] H := hP
  have hD : va_D A [((b 0), .inr (2, [.int 0, .int (nI k), .ref (b 1), .ref (b 2), .ref (b 3), .ref (b 4), .ref (b 5), .int (nI st), .int (nI c), .ref (b 6), .int t, .ref (b 7), .ref (b 8), .long lf])), ((b 1), .inl (cI, 8, .inl mB)), ((b 2), .inl (cI, 8, .inl mM)), ((b 3), .inl (cI, 8, .inl mP)), ((b 4), .inl (cJ, 8, .inr (.inl mL))), ((b 5), .inl (cI, 8, .inl mO)), ((b 6), .inl (cI, 6, .inl fW)), ((b 7), .inl (cI, 8, .inl (nwF y fi fD))), ((b 8), .inl (cI, 8, .inl mK))] := hD
  exact W.iret (v := (nI y)) hx hb hr (fun t9 ht hW => ⟨⟨(nI y), [((b 0), .inr (2, [.int 0, .int (nI k), .ref (b 1), .ref (b 2), .ref (b 3), .ref (b 4), .ref (b 5), .int (nI st), .int (nI c), .ref (b 6), .int t, .ref (b 7), .ref (b 8), .long lf])), ((b 1), .inl (cI, 8, .inl mB)), ((b 2), .inl (cI, 8, .inl mM)), ((b 3), .inl (cI, 8, .inl mP)), ((b 4), .inl (cJ, 8, .inr (.inl mL))), ((b 5), .inl (cI, 8, .inl mO)), ((b 6), .inl (cI, 6, .inl fW)), ((b 7), .inl (cI, 8, .inl (nwF y fi fD))), ((b 8), .inl (cI, 8, .inl mK))], rfl, ⟨rfl, rfl⟩, by rw [ht]; exact hP, hD⟩, hS.F ht⟩) hS.2.2 dX2_days_10

set_option maxHeartbeats 4000000 in
set_option maxRecDepth 100000 in
theorem c_X2_fines (l : Launch) (D : va_G) (cI cJ : ClassId) (sz : Nat) (b : Nat → Nat) (th : Int32) (k st c : Nat) (t : Int32) (lf : Int64) (mB mM mP : Nat → Int32) (mL : Nat → Int64) (mO fW : Nat → Int32) (y : Nat) (fi : Int32) (fD mK : Nat → Int32)  : Met l yX2_fines wsX2_fines ({ frames := 3, cells := 0, slots := 0, locals := 80 }) (cPw D [((b 0), .inr (2, [.int th, .int (nI k), .ref (b 1), .ref (b 2), .ref (b 3), .ref (b 4), .ref (b 5), .int (nI st), .int (nI c), .ref (b 6), .int t, .ref (b 7), .ref (b 8), .long lf])), ((b 1), .inl (cI, 8, .inl mB)), ((b 2), .inl (cI, 8, .inl mM)), ((b 3), .inl (cI, 8, .inl mP)), ((b 4), .inl (cJ, 8, .inr (.inl mL))), ((b 5), .inl (cI, 8, .inl mO)), ((b 6), .inl (cI, 6, .inl fW)), ((b 7), .inl (cI, 8, .inl (nwF y fi fD))), ((b 8), .inl (cI, 8, .inl mK))] sz (KM D cI cJ) [.ref (b 0)]) (wri D [((b 0), .inr (2, [.int th, .int (nI k), .ref (b 1), .ref (b 2), .ref (b 3), .ref (b 4), .ref (b 5), .int (nI st), .int (nI c), .ref (b 6), .int t, .ref (b 7), .ref (b 8), .long lf])), ((b 1), .inl (cI, 8, .inl mB)), ((b 2), .inl (cI, 8, .inl mM)), ((b 3), .inl (cI, 8, .inl mP)), ((b 4), .inl (cJ, 8, .inr (.inl mL))), ((b 5), .inl (cI, 8, .inl mO)), ((b 6), .inl (cI, 6, .inl fW)), ((b 7), .inl (cI, 8, .inl (nwF y fi fD))), ((b 8), .inl (cI, 8, .inl mK))] sz (fun r ws' => r = fi ∧ ws' = [((b 0), .inr (2, [.int 0, .int (nI k), .ref (b 1), .ref (b 2), .ref (b 3), .ref (b 4), .ref (b 5), .int (nI st), .int (nI c), .ref (b 6), .int t, .ref (b 7), .ref (b 8), .long lf])), ((b 1), .inl (cI, 8, .inl mB)), ((b 2), .inl (cI, 8, .inl mM)), ((b 3), .inl (cI, 8, .inl mP)), ((b 4), .inl (cJ, 8, .inr (.inl mL))), ((b 5), .inl (cI, 8, .inl mO)), ((b 6), .inl (cI, 6, .inl fW)), ((b 7), .inl (cI, 8, .inl (nwF y fi fD))), ((b 8), .inl (cI, 8, .inl mK))])) 0 0 (va_A [((b 0), .inr (2, [.int th, .int (nI k), .ref (b 1), .ref (b 2), .ref (b 3), .ref (b 4), .ref (b 5), .int (nI st), .int (nI c), .ref (b 6), .int t, .ref (b 7), .ref (b 8), .long lf])), ((b 1), .inl (cI, 8, .inl mB)), ((b 2), .inl (cI, 8, .inl mM)), ((b 3), .inl (cI, 8, .inl mP)), ((b 4), .inl (cJ, 8, .inr (.inl mL))), ((b 5), .inl (cI, 8, .inl mO)), ((b 6), .inl (cI, 6, .inl fW)), ((b 7), .inl (cI, 8, .inl (nwF y fi fD))), ((b 8), .inl (cI, 8, .inl mK))] sz) := by
  refine Met.ofW (cc := cX2_fines) (maxL := 1) (ret := (some .int)) (by decide +kernel) rfl ?_
  intro p e s m args below meth c9 s₁ B hml hv
  obtain ⟨rfl, hsz, hP, hD0, hC⟩ := hv
  have hx := B.exec
  have hb := B.bytes
  have hr := B.returns
  have hts := atoms_spec (ws := wsX2_fines) B.pre
  have hown : s.vm.findClass RX2 = some m.cls := findClass_of_methodNamed B.named
  have hlocks := B.notSynchronized
  have hK : va_K D vwCl [(cI, .int), (cJ, .long)] s := hC
  subst hsz
  unfold wri wB
  have hD := hD0.self (sz := s.heap.size)
  generalize hAe : va_A [((b 0), .inr (2, [.int th, .int (nI k), .ref (b 1), .ref (b 2), .ref (b 3), .ref (b 4), .ref (b 5), .int (nI st), .int (nI c), .ref (b 6), .int t, .ref (b 7), .ref (b 8), .long lf])), ((b 1), .inl (cI, 8, .inl mB)), ((b 2), .inl (cI, 8, .inl mM)), ((b 3), .inl (cI, 8, .inl mP)), ((b 4), .inl (cJ, 8, .inr (.inl mL))), ((b 5), .inl (cI, 8, .inl mO)), ((b 6), .inl (cI, 6, .inl fW)), ((b 7), .inl (cI, 8, .inl (nwF y fi fD))), ((b 8), .inl (cI, 8, .inl mK))] s.heap.size = A at hD ⊢
  have hA : ∀ q : Nat, s.heap.size ≤ q → A q := fun q h => by rw [← hAe]; exact Or.inr h
  have hS : va_S A s.heap s.heap [] := va_S.rf
  have hl := lv_entry ([.ref (b 0)]) (n := 1) (Nat.le_of_ble_eq_true rfl)
  rw [lg_entry_eq]
  generalize (lg_sl ([.ref (b 0)]) ++ List.replicate (1 - (lg_sl ([.ref (b 0)])).length) Slot.unset).toArray = ls at hl ⊢
  have hl : lv_has ls 1 [(0, .ref (b 0))] := hl
  have hiX2 : ∀ w ∈ u_ws RX2 TX2 14, w ∈ wsX2_fines := by decide +kernel
  have hw36 : (Cond.fieldLink RX2 36 "OldMeasuresModel" "now" "[I").before ([.ref (b 0)] : List Value).toArray s = true := hts _ (by decide +kernel)
  refine lv_aload_n hx hb dX2_fines_0 rfl (lv_at hl 0 rfl) ?_
  refine lv_aload_n hx hb dX2_fines_1 rfl (lv_at hl 0 rfl) ?_
  refine va_get (D := D) (ci := 2) (v := .ref (b 7)) (C := RX2) (T := TX2) (N := 14) hx hb hts hiX2 hown hK hP 0 rfl rfl 11 (by decide) hw36 (fun _ h9 => h9) rfl dX2_fines_2 ?_
  refine lv_iconst (v := 1) hx hb dX2_fines_5 (by decide) ?_
  refine topI (y := nI 1) rfl ?_
  refine xa_iald hx hb hK hP 7 0 rfl rfl (by omega) (by decide) dX2_fines_6 ?_
  refine topI (y := fi) rfl ?_
  have hFc := va_free (wc := [((b 0), .inr (2, [.int th, .int (nI k), .ref (b 1), .ref (b 2), .ref (b 3), .ref (b 4), .ref (b 5), .int (nI st), .int (nI c), .ref (b 6), .int t, .ref (b 7), .ref (b 8), .long lf])), ((b 1), .inl (cI, 8, .inl mB)), ((b 2), .inl (cI, 8, .inl mM)), ((b 3), .inl (cI, 8, .inl mP)), ((b 4), .inl (cJ, 8, .inr (.inl mL))), ((b 5), .inl (cI, 8, .inl mO)), ((b 6), .inl (cI, 6, .inl fW)), ((b 7), .inl (cI, 8, .inl (nwF y fi fD))), ((b 8), .inl (cI, 8, .inl mK))]) hD hS hA [0, 1, 2, 3, 4, 5, 6, 7, 8] rfl
  refine va_calli (va_runV (As := [.int fi]) (rest := []) ⟨hx, hb, hml, hown, hts⟩ (c_X2_told l D cI cJ s.heap.size b th k st c t lf mB mM mP mL mO fW y fi fD mK fi) (cwV 1 hts gX2_fines_X2_told rfl rfl rfl (by decide +kernel) ⟨Nat.le_of_ble_eq_true rfl, Nat.le_of_ble_eq_true rfl⟩) (preV_wr KM_ok (hP.sub (ws' := [((b 0), .inr (2, [.int th, .int (nI k), .ref (b 1), .ref (b 2), .ref (b 3), .ref (b 4), .ref (b 5), .int (nI st), .int (nI c), .ref (b 6), .int t, .ref (b 7), .ref (b 8), .long lf])), ((b 1), .inl (cI, 8, .inl mB)), ((b 2), .inl (cI, 8, .inl mM)), ((b 3), .inl (cI, 8, .inl mP)), ((b 4), .inl (cJ, 8, .inr (.inl mL))), ((b 5), .inl (cI, 8, .inl mO)), ((b 6), .inl (cI, 6, .inl fW)), ((b 7), .inl (cI, 8, .inl (nwF y fi fD))), ((b 8), .inl (cI, 8, .inl mK))]) [0, 1, 2, 3, 4, 5, 6, 7, 8] rfl) (hD.sub (ws' := [((b 0), .inr (2, [.int th, .int (nI k), .ref (b 1), .ref (b 2), .ref (b 3), .ref (b 4), .ref (b 5), .int (nI st), .int (nI c), .ref (b 6), .int t, .ref (b 7), .ref (b 8), .long lf])), ((b 1), .inl (cI, 8, .inl mB)), ((b 2), .inl (cI, 8, .inl mM)), ((b 3), .inl (cI, 8, .inl mP)), ((b 4), .inl (cJ, 8, .inr (.inl mL))), ((b 5), .inl (cI, 8, .inl mO)), ((b 6), .inl (cI, 6, .inl fW)), ((b 7), .inl (cI, 8, .inl (nwF y fi fD))), ((b 8), .inl (cI, 8, .inl mK))]) [0, 1, 2, 3, 4, 5, 6, 7, 8] (by decide) rfl) hK (va_recv hK hP (ci := 2) (q0 := 0) rfl rfl)) rfl rfl hl.1 rfl (lv_room (Nat.le_of_ble_eq_true rfl)) dX2_fines_7 ⟨by decide, by decide⟩) hS (fun q _ h => hFc q h) hFc (fun r_7 u t9 H1 locs ht hvm hw9 hB hz1 hk1 hS => ?_)
  obtain ⟨hr9, rfl⟩ := hw9
  have hr9 := hr9.symm
  subst hr9
  obtain ⟨hP1, hD1⟩ := hB
  rw [ht] at hP1
  obtain ⟨hP, hD⟩ := va_join (wr := []) (w1 := [((b 0), .inr (2, [.int 0, .int (nI k), .ref (b 1), .ref (b 2), .ref (b 3), .ref (b 4), .ref (b 5), .int (nI st), .int (nI c), .ref (b 6), .int t, .ref (b 7), .ref (b 8), .long lf])), ((b 1), .inl (cI, 8, .inl mB)), ((b 2), .inl (cI, 8, .inl mM)), ((b 3), .inl (cI, 8, .inl mP)), ((b 4), .inl (cJ, 8, .inr (.inl mL))), ((b 5), .inl (cI, 8, .inl mO)), ((b 6), .inl (cI, 6, .inl fW)), ((b 7), .inl (cI, 8, .inl (nwF y fi fD))), ((b 8), .inl (cI, 8, .inl mK))]) hP hD [0, 1, 2, 3, 4, 5, 6, 7, 8] [] rfl rfl (by decide) (by decide) hk1 hFc hP1 hD1
  clear hz1 hk1 ht hvm hFc
  generalize H1 = H at hP hS ⊢
  have hP : va_P D vwCl [((b 0), .inr (2, [.int 0, .int (nI k), .ref (b 1), .ref (b 2), .ref (b 3), .ref (b 4), .ref (b 5), .int (nI st), .int (nI c), .ref (b 6), .int t, .ref (b 7), .ref (b 8), .long lf])), ((b 1), .inl (cI, 8, .inl mB)), ((b 2), .inl (cI, 8, .inl mM)), ((b 3), .inl (cI, 8, .inl mP)), ((b 4), .inl (cJ, 8, .inr (.inl mL))), ((b 5), .inl (cI, 8, .inl mO)), ((b 6), .inl (cI, 6, .inl fW)), ((b 7), .inl (cI, 8, .inl (nwF y fi fD))), ((b 8), .inl (cI, 8, .inl mK))] H := hP
  have hD : va_D A [((b 0), .inr (2, [.int 0, .int (nI k), .ref (b 1), .ref (b 2), .ref (b 3), .ref (b 4), .ref (b 5), .int (nI st), .int (nI c), .ref (b 6), .int t, .ref (b 7), .ref (b 8), .long lf])), ((b 1), .inl (cI, 8, .inl mB)), ((b 2), .inl (cI, 8, .inl mM)), ((b 3), .inl (cI, 8, .inl mP)), ((b 4), .inl (cJ, 8, .inr (.inl mL))), ((b 5), .inl (cI, 8, .inl mO)), ((b 6), .inl (cI, 6, .inl fW)), ((b 7), .inl (cI, 8, .inl (nwF y fi fD))), ((b 8), .inl (cI, 8, .inl mK))] := hD
  exact W.iret (v := fi) hx hb hr (fun t9 ht hW => ⟨⟨fi, [((b 0), .inr (2, [.int 0, .int (nI k), .ref (b 1), .ref (b 2), .ref (b 3), .ref (b 4), .ref (b 5), .int (nI st), .int (nI c), .ref (b 6), .int t, .ref (b 7), .ref (b 8), .long lf])), ((b 1), .inl (cI, 8, .inl mB)), ((b 2), .inl (cI, 8, .inl mM)), ((b 3), .inl (cI, 8, .inl mP)), ((b 4), .inl (cJ, 8, .inr (.inl mL))), ((b 5), .inl (cI, 8, .inl mO)), ((b 6), .inl (cI, 6, .inl fW)), ((b 7), .inl (cI, 8, .inl (nwF y fi fD))), ((b 8), .inl (cI, 8, .inl mK))], rfl, ⟨rfl, rfl⟩, by rw [ht]; exact hP, hD⟩, hS.F ht⟩) hS.2.2 dX2_fines_10

set_option maxHeartbeats 4000000 in
set_option maxRecDepth 100000 in
theorem c_X2_longest (l : Launch) (D : va_G) (cI cJ : ClassId) (sz : Nat) (b : Nat → Nat) (th : Int32) (k st c : Nat) (t : Int32) (lf : Int64) (mB mM mP : Nat → Int32) (mL : Nat → Int64) (mO fW : Nat → Int32) (y : Nat) (fi : Int32) (fD mK : Nat → Int32)  : Met l yX2_longest wsX2_longest ({ frames := 3, cells := 0, slots := 0, locals := 80 }) (cPw D [((b 0), .inr (2, [.int th, .int (nI k), .ref (b 1), .ref (b 2), .ref (b 3), .ref (b 4), .ref (b 5), .int (nI st), .int (nI c), .ref (b 6), .int t, .ref (b 7), .ref (b 8), .long lf])), ((b 1), .inl (cI, 8, .inl mB)), ((b 2), .inl (cI, 8, .inl mM)), ((b 3), .inl (cI, 8, .inl mP)), ((b 4), .inl (cJ, 8, .inr (.inl mL))), ((b 5), .inl (cI, 8, .inl mO)), ((b 6), .inl (cI, 6, .inl fW)), ((b 7), .inl (cI, 8, .inl (nwF y fi fD))), ((b 8), .inl (cI, 8, .inl mK))] sz (KM D cI cJ) [.ref (b 0)]) (wri D [((b 0), .inr (2, [.int th, .int (nI k), .ref (b 1), .ref (b 2), .ref (b 3), .ref (b 4), .ref (b 5), .int (nI st), .int (nI c), .ref (b 6), .int t, .ref (b 7), .ref (b 8), .long lf])), ((b 1), .inl (cI, 8, .inl mB)), ((b 2), .inl (cI, 8, .inl mM)), ((b 3), .inl (cI, 8, .inl mP)), ((b 4), .inl (cJ, 8, .inr (.inl mL))), ((b 5), .inl (cI, 8, .inl mO)), ((b 6), .inl (cI, 6, .inl fW)), ((b 7), .inl (cI, 8, .inl (nwF y fi fD))), ((b 8), .inl (cI, 8, .inl mK))] sz (fun r ws' => r = mO 0 ∧ ws' = [((b 0), .inr (2, [.int 0, .int (nI k), .ref (b 1), .ref (b 2), .ref (b 3), .ref (b 4), .ref (b 5), .int (nI st), .int (nI c), .ref (b 6), .int t, .ref (b 7), .ref (b 8), .long lf])), ((b 1), .inl (cI, 8, .inl mB)), ((b 2), .inl (cI, 8, .inl mM)), ((b 3), .inl (cI, 8, .inl mP)), ((b 4), .inl (cJ, 8, .inr (.inl mL))), ((b 5), .inl (cI, 8, .inl mO)), ((b 6), .inl (cI, 6, .inl fW)), ((b 7), .inl (cI, 8, .inl (nwF y fi fD))), ((b 8), .inl (cI, 8, .inl mK))])) 0 0 (va_A [((b 0), .inr (2, [.int th, .int (nI k), .ref (b 1), .ref (b 2), .ref (b 3), .ref (b 4), .ref (b 5), .int (nI st), .int (nI c), .ref (b 6), .int t, .ref (b 7), .ref (b 8), .long lf])), ((b 1), .inl (cI, 8, .inl mB)), ((b 2), .inl (cI, 8, .inl mM)), ((b 3), .inl (cI, 8, .inl mP)), ((b 4), .inl (cJ, 8, .inr (.inl mL))), ((b 5), .inl (cI, 8, .inl mO)), ((b 6), .inl (cI, 6, .inl fW)), ((b 7), .inl (cI, 8, .inl (nwF y fi fD))), ((b 8), .inl (cI, 8, .inl mK))] sz) := by
  refine Met.ofW (cc := cX2_longest) (maxL := 1) (ret := (some .int)) (by decide +kernel) rfl ?_
  intro p e s m args below meth c9 s₁ B hml hv
  obtain ⟨rfl, hsz, hP, hD0, hC⟩ := hv
  have hx := B.exec
  have hb := B.bytes
  have hr := B.returns
  have hts := atoms_spec (ws := wsX2_longest) B.pre
  have hown : s.vm.findClass RX2 = some m.cls := findClass_of_methodNamed B.named
  have hlocks := B.notSynchronized
  have hK : va_K D vwCl [(cI, .int), (cJ, .long)] s := hC
  subst hsz
  unfold wri wB
  have hD := hD0.self (sz := s.heap.size)
  generalize hAe : va_A [((b 0), .inr (2, [.int th, .int (nI k), .ref (b 1), .ref (b 2), .ref (b 3), .ref (b 4), .ref (b 5), .int (nI st), .int (nI c), .ref (b 6), .int t, .ref (b 7), .ref (b 8), .long lf])), ((b 1), .inl (cI, 8, .inl mB)), ((b 2), .inl (cI, 8, .inl mM)), ((b 3), .inl (cI, 8, .inl mP)), ((b 4), .inl (cJ, 8, .inr (.inl mL))), ((b 5), .inl (cI, 8, .inl mO)), ((b 6), .inl (cI, 6, .inl fW)), ((b 7), .inl (cI, 8, .inl (nwF y fi fD))), ((b 8), .inl (cI, 8, .inl mK))] s.heap.size = A at hD ⊢
  have hA : ∀ q : Nat, s.heap.size ≤ q → A q := fun q h => by rw [← hAe]; exact Or.inr h
  have hS : va_S A s.heap s.heap [] := va_S.rf
  have hl := lv_entry ([.ref (b 0)]) (n := 1) (Nat.le_of_ble_eq_true rfl)
  rw [lg_entry_eq]
  generalize (lg_sl ([.ref (b 0)]) ++ List.replicate (1 - (lg_sl ([.ref (b 0)])).length) Slot.unset).toArray = ls at hl ⊢
  have hl : lv_has ls 1 [(0, .ref (b 0))] := hl
  have hiX2 : ∀ w ∈ u_ws RX2 TX2 14, w ∈ wsX2_longest := by decide +kernel
  have hw27 : (Cond.fieldLink RX2 27 "OldMeasuresModel" "order" "[I").before ([.ref (b 0)] : List Value).toArray s = true := hts _ (by decide +kernel)
  refine lv_aload_n hx hb dX2_longest_0 rfl (lv_at hl 0 rfl) ?_
  refine lv_aload_n hx hb dX2_longest_1 rfl (lv_at hl 0 rfl) ?_
  refine va_get (D := D) (ci := 2) (v := .ref (b 5)) (C := RX2) (T := TX2) (N := 14) hx hb hts hiX2 hown hK hP 0 rfl rfl 6 (by decide) hw27 (fun _ h9 => h9) rfl dX2_longest_2 ?_
  refine lv_iconst (v := 0) hx hb dX2_longest_5 (by decide) ?_
  refine topI (y := nI 0) rfl ?_
  refine xa_iald hx hb hK hP 5 0 rfl rfl (by omega) (by decide) dX2_longest_6 ?_
  have hFc := va_free (wc := [((b 0), .inr (2, [.int th, .int (nI k), .ref (b 1), .ref (b 2), .ref (b 3), .ref (b 4), .ref (b 5), .int (nI st), .int (nI c), .ref (b 6), .int t, .ref (b 7), .ref (b 8), .long lf])), ((b 1), .inl (cI, 8, .inl mB)), ((b 2), .inl (cI, 8, .inl mM)), ((b 3), .inl (cI, 8, .inl mP)), ((b 4), .inl (cJ, 8, .inr (.inl mL))), ((b 5), .inl (cI, 8, .inl mO)), ((b 6), .inl (cI, 6, .inl fW)), ((b 7), .inl (cI, 8, .inl (nwF y fi fD))), ((b 8), .inl (cI, 8, .inl mK))]) hD hS hA [0, 1, 2, 3, 4, 5, 6, 7, 8] rfl
  refine va_calli (va_runV (As := [.int (mO 0)]) (rest := []) ⟨hx, hb, hml, hown, hts⟩ (c_X2_told l D cI cJ s.heap.size b th k st c t lf mB mM mP mL mO fW y fi fD mK (mO 0)) (cwV 1 hts gX2_longest_X2_told rfl rfl rfl (by decide +kernel) ⟨Nat.le_of_ble_eq_true rfl, Nat.le_of_ble_eq_true rfl⟩) (preV_wr KM_ok (hP.sub (ws' := [((b 0), .inr (2, [.int th, .int (nI k), .ref (b 1), .ref (b 2), .ref (b 3), .ref (b 4), .ref (b 5), .int (nI st), .int (nI c), .ref (b 6), .int t, .ref (b 7), .ref (b 8), .long lf])), ((b 1), .inl (cI, 8, .inl mB)), ((b 2), .inl (cI, 8, .inl mM)), ((b 3), .inl (cI, 8, .inl mP)), ((b 4), .inl (cJ, 8, .inr (.inl mL))), ((b 5), .inl (cI, 8, .inl mO)), ((b 6), .inl (cI, 6, .inl fW)), ((b 7), .inl (cI, 8, .inl (nwF y fi fD))), ((b 8), .inl (cI, 8, .inl mK))]) [0, 1, 2, 3, 4, 5, 6, 7, 8] rfl) (hD.sub (ws' := [((b 0), .inr (2, [.int th, .int (nI k), .ref (b 1), .ref (b 2), .ref (b 3), .ref (b 4), .ref (b 5), .int (nI st), .int (nI c), .ref (b 6), .int t, .ref (b 7), .ref (b 8), .long lf])), ((b 1), .inl (cI, 8, .inl mB)), ((b 2), .inl (cI, 8, .inl mM)), ((b 3), .inl (cI, 8, .inl mP)), ((b 4), .inl (cJ, 8, .inr (.inl mL))), ((b 5), .inl (cI, 8, .inl mO)), ((b 6), .inl (cI, 6, .inl fW)), ((b 7), .inl (cI, 8, .inl (nwF y fi fD))), ((b 8), .inl (cI, 8, .inl mK))]) [0, 1, 2, 3, 4, 5, 6, 7, 8] (by decide) rfl) hK (va_recv hK hP (ci := 2) (q0 := 0) rfl rfl)) rfl rfl hl.1 rfl (lv_room (Nat.le_of_ble_eq_true rfl)) dX2_longest_7 ⟨by decide, by decide⟩) hS (fun q _ h => hFc q h) hFc (fun r_7 u t9 H1 locs ht hvm hw9 hB hz1 hk1 hS => ?_)
  obtain ⟨hr9, rfl⟩ := hw9
  have hr9 := hr9.symm
  subst hr9
  obtain ⟨hP1, hD1⟩ := hB
  rw [ht] at hP1
  obtain ⟨hP, hD⟩ := va_join (wr := []) (w1 := [((b 0), .inr (2, [.int 0, .int (nI k), .ref (b 1), .ref (b 2), .ref (b 3), .ref (b 4), .ref (b 5), .int (nI st), .int (nI c), .ref (b 6), .int t, .ref (b 7), .ref (b 8), .long lf])), ((b 1), .inl (cI, 8, .inl mB)), ((b 2), .inl (cI, 8, .inl mM)), ((b 3), .inl (cI, 8, .inl mP)), ((b 4), .inl (cJ, 8, .inr (.inl mL))), ((b 5), .inl (cI, 8, .inl mO)), ((b 6), .inl (cI, 6, .inl fW)), ((b 7), .inl (cI, 8, .inl (nwF y fi fD))), ((b 8), .inl (cI, 8, .inl mK))]) hP hD [0, 1, 2, 3, 4, 5, 6, 7, 8] [] rfl rfl (by decide) (by decide) hk1 hFc hP1 hD1
  clear hz1 hk1 ht hvm hFc
  generalize H1 = H at hP hS ⊢
  have hP : va_P D vwCl [((b 0), .inr (2, [.int 0, .int (nI k), .ref (b 1), .ref (b 2), .ref (b 3), .ref (b 4), .ref (b 5), .int (nI st), .int (nI c), .ref (b 6), .int t, .ref (b 7), .ref (b 8), .long lf])), ((b 1), .inl (cI, 8, .inl mB)), ((b 2), .inl (cI, 8, .inl mM)), ((b 3), .inl (cI, 8, .inl mP)), ((b 4), .inl (cJ, 8, .inr (.inl mL))), ((b 5), .inl (cI, 8, .inl mO)), ((b 6), .inl (cI, 6, .inl fW)), ((b 7), .inl (cI, 8, .inl (nwF y fi fD))), ((b 8), .inl (cI, 8, .inl mK))] H := hP
  have hD : va_D A [((b 0), .inr (2, [.int 0, .int (nI k), .ref (b 1), .ref (b 2), .ref (b 3), .ref (b 4), .ref (b 5), .int (nI st), .int (nI c), .ref (b 6), .int t, .ref (b 7), .ref (b 8), .long lf])), ((b 1), .inl (cI, 8, .inl mB)), ((b 2), .inl (cI, 8, .inl mM)), ((b 3), .inl (cI, 8, .inl mP)), ((b 4), .inl (cJ, 8, .inr (.inl mL))), ((b 5), .inl (cI, 8, .inl mO)), ((b 6), .inl (cI, 6, .inl fW)), ((b 7), .inl (cI, 8, .inl (nwF y fi fD))), ((b 8), .inl (cI, 8, .inl mK))] := hD
  exact W.iret (v := (mO 0)) hx hb hr (fun t9 ht hW => ⟨⟨(mO 0), [((b 0), .inr (2, [.int 0, .int (nI k), .ref (b 1), .ref (b 2), .ref (b 3), .ref (b 4), .ref (b 5), .int (nI st), .int (nI c), .ref (b 6), .int t, .ref (b 7), .ref (b 8), .long lf])), ((b 1), .inl (cI, 8, .inl mB)), ((b 2), .inl (cI, 8, .inl mM)), ((b 3), .inl (cI, 8, .inl mP)), ((b 4), .inl (cJ, 8, .inr (.inl mL))), ((b 5), .inl (cI, 8, .inl mO)), ((b 6), .inl (cI, 6, .inl fW)), ((b 7), .inl (cI, 8, .inl (nwF y fi fD))), ((b 8), .inl (cI, 8, .inl mK))], rfl, ⟨rfl, rfl⟩, by rw [ht]; exact hP, hD⟩, hS.F ht⟩) hS.2.2 dX2_longest_10
