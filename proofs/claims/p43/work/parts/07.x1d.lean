set_option maxHeartbeats 4000000 in
set_option maxRecDepth 100000 in
theorem c_X1_refineUnit (l : Launch) (D : va_G) (cI cJ cR : ClassId) (sz : Nat) (a : Nat → Nat) (k st : Nat) (fi : Int32) (fB fS fO : Nat → Int32) (fL : Nat → Int64) (c : Nat) (t : Int32) (y : Nat) (fW fD : Nat → Int32) (c2 t2 y2 : Int32) (gW gD : Nat → Int32) (hk : k ≤ 8) (q : Int32) : Met l yX1_refineUnit wsX1_refineUnit ({ frames := 0, cells := 0, slots := 0, locals := 0 }) (cPw D [((a 0), .inr (1, [.ref (a 1), .ref (a 2), .ref (a 3), .ref (a 4), .ref (a 5), .ref (a 8), .int (nI k), .int (nI st), .int fi])), ((a 1), .inl (cI, 8, .inl fB)), ((a 2), .inl (cI, 8, .inl fS)), ((a 3), .inl (cJ, 8, .inr (.inl fL))), ((a 4), .inl (cI, 8, .inl fO)), ((a 5), .inr (0, [.ref (a 6), .ref (a 7), .int (nI c), .int t, .int (nI y)])), ((a 6), .inl (cI, 6, .inl fW)), ((a 7), .inl (cI, 6, .inl fD)), ((a 8), .inr (0, [.ref (a 9), .ref (a 10), .int c2, .int t2, .int y2])), ((a 9), .inl (cI, 6, .inl gW)), ((a 10), .inl (cI, 6, .inl gD))] sz (KM D cI cJ cR) [.ref (a 0), .int q]) (wrv D [((a 0), .inr (1, [.ref (a 1), .ref (a 2), .ref (a 3), .ref (a 4), .ref (a 5), .ref (a 8), .int (nI k), .int (nI st), .int fi])), ((a 1), .inl (cI, 8, .inl fB)), ((a 2), .inl (cI, 8, .inl fS)), ((a 3), .inl (cJ, 8, .inr (.inl fL))), ((a 4), .inl (cI, 8, .inl fO)), ((a 5), .inr (0, [.ref (a 6), .ref (a 7), .int (nI c), .int t, .int (nI y)])), ((a 6), .inl (cI, 6, .inl fW)), ((a 7), .inl (cI, 6, .inl fD)), ((a 8), .inr (0, [.ref (a 9), .ref (a 10), .int c2, .int t2, .int y2])), ((a 9), .inl (cI, 6, .inl gW)), ((a 10), .inl (cI, 6, .inl gD))] sz (fun ws' => ws' = [((a 0), .inr (1, [.ref (a 1), .ref (a 2), .ref (a 3), .ref (a 4), .ref (a 5), .ref (a 8), .int (nI k), .int (nI st), .int fi])), ((a 1), .inl (cI, 8, .inl fB)), ((a 2), .inl (cI, 8, .inl fS)), ((a 3), .inl (cJ, 8, .inr (.inl (rfU fL (q).toInt64 k)))), ((a 4), .inl (cI, 8, .inl fO)), ((a 5), .inr (0, [.ref (a 6), .ref (a 7), .int (nI c), .int t, .int (nI y)])), ((a 6), .inl (cI, 6, .inl fW)), ((a 7), .inl (cI, 6, .inl fD)), ((a 8), .inr (0, [.ref (a 9), .ref (a 10), .int c2, .int t2, .int y2])), ((a 9), .inl (cI, 6, .inl gW)), ((a 10), .inl (cI, 6, .inl gD))])) 0 0 (va_A [((a 0), .inr (1, [.ref (a 1), .ref (a 2), .ref (a 3), .ref (a 4), .ref (a 5), .ref (a 8), .int (nI k), .int (nI st), .int fi])), ((a 1), .inl (cI, 8, .inl fB)), ((a 2), .inl (cI, 8, .inl fS)), ((a 3), .inl (cJ, 8, .inr (.inl fL))), ((a 4), .inl (cI, 8, .inl fO)), ((a 5), .inr (0, [.ref (a 6), .ref (a 7), .int (nI c), .int t, .int (nI y)])), ((a 6), .inl (cI, 6, .inl fW)), ((a 7), .inl (cI, 6, .inl fD)), ((a 8), .inr (0, [.ref (a 9), .ref (a 10), .int c2, .int t2, .int y2])), ((a 9), .inl (cI, 6, .inl gW)), ((a 10), .inl (cI, 6, .inl gD))] sz) := by
  refine Met.ofW (cc := cX1_refineUnit) (maxL := 3) (ret := none) (by decide +kernel) rfl ?_
  intro p e s m args below meth c9 s₁ B hml hv
  obtain ⟨rfl, hsz, hP, hD0, hC⟩ := hv
  have hx := B.exec
  have hb := B.bytes
  have hr := B.returns
  have hts := atoms_spec (ws := wsX1_refineUnit) B.pre
  have hown : s.vm.findClass RX1 = some m.cls := findClass_of_methodNamed B.named
  have hlocks := B.notSynchronized
  have hK : va_K D vwCl [(cI, .int), (cJ, .long), (cR, .array .int)] s := hC
  subst hsz
  unfold wrv wB
  have hD := hD0.self (sz := s.heap.size)
  generalize hAe : va_A [((a 0), .inr (1, [.ref (a 1), .ref (a 2), .ref (a 3), .ref (a 4), .ref (a 5), .ref (a 8), .int (nI k), .int (nI st), .int fi])), ((a 1), .inl (cI, 8, .inl fB)), ((a 2), .inl (cI, 8, .inl fS)), ((a 3), .inl (cJ, 8, .inr (.inl fL))), ((a 4), .inl (cI, 8, .inl fO)), ((a 5), .inr (0, [.ref (a 6), .ref (a 7), .int (nI c), .int t, .int (nI y)])), ((a 6), .inl (cI, 6, .inl fW)), ((a 7), .inl (cI, 6, .inl fD)), ((a 8), .inr (0, [.ref (a 9), .ref (a 10), .int c2, .int t2, .int y2])), ((a 9), .inl (cI, 6, .inl gW)), ((a 10), .inl (cI, 6, .inl gD))] s.heap.size = A at hD ⊢
  have hA : ∀ q : Nat, s.heap.size ≤ q → A q := fun q h => by rw [← hAe]; exact Or.inr h
  have hS : va_S A s.heap s.heap [] := va_S.rf
  have hl := lv_entry ([.ref (a 0), .int q]) (n := 3) (Nat.le_of_ble_eq_true rfl)
  rw [lg_entry_eq]
  generalize (lg_sl ([.ref (a 0), .int q]) ++ List.replicate (3 - (lg_sl ([.ref (a 0), .int q])).length) Slot.unset).toArray = ls at hl ⊢
  have hl : lv_has ls 3 [(0, .ref (a 0)), (1, .int q)] := hl
  have hiX1 : ∀ w ∈ u_ws RX1 TX1 9, w ∈ wsX1_refineUnit := by decide +kernel
  have hw16 : (Cond.fieldLink RX1 16 "OldMeasures" "lengths" "[J").before ([.ref (a 0), .int q] : List Value).toArray s = true := hts _ (by decide +kernel)
  have hw33 : (Cond.fieldLink RX1 33 "OldMeasures" "measureCount" "I").before ([.ref (a 0), .int q] : List Value).toArray s = true := hts _ (by decide +kernel)
  refine lv_iconst (v := 0) hx hb dX1_refineUnit_0 (by decide) ?_
  refine lv_istore_n (lv' := [(2, .int 0), (0, .ref (a 0)), (1, .int q)]) hx hb dX1_refineUnit_1 rfl hl (by decide) rfl (fun ls hl => ?_)
  have hP : va_P D vwCl [((a 0), .inr (1, [.ref (a 1), .ref (a 2), .ref (a 3), .ref (a 4), .ref (a 5), .ref (a 8), .int (nI k), .int (nI st), .int fi])), ((a 1), .inl (cI, 8, .inl fB)), ((a 2), .inl (cI, 8, .inl fS)), ((a 3), .inl (cJ, 8, .inr (.inl (rfU fL (q).toInt64 0)))), ((a 4), .inl (cI, 8, .inl fO)), ((a 5), .inr (0, [.ref (a 6), .ref (a 7), .int (nI c), .int t, .int (nI y)])), ((a 6), .inl (cI, 6, .inl fW)), ((a 7), .inl (cI, 6, .inl fD)), ((a 8), .inr (0, [.ref (a 9), .ref (a 10), .int c2, .int t2, .int y2])), ((a 9), .inl (cI, 6, .inl gW)), ((a 10), .inl (cI, 6, .inl gD))] s.heap := by rw [rfU_0]; exact hP
  have hD : va_D A [((a 0), .inr (1, [.ref (a 1), .ref (a 2), .ref (a 3), .ref (a 4), .ref (a 5), .ref (a 8), .int (nI k), .int (nI st), .int fi])), ((a 1), .inl (cI, 8, .inl fB)), ((a 2), .inl (cI, 8, .inl fS)), ((a 3), .inl (cJ, 8, .inr (.inl (rfU fL (q).toInt64 0)))), ((a 4), .inl (cI, 8, .inl fO)), ((a 5), .inr (0, [.ref (a 6), .ref (a 7), .int (nI c), .int t, .int (nI y)])), ((a 6), .inl (cI, 6, .inl fW)), ((a 7), .inl (cI, 6, .inl fD)), ((a 8), .inr (0, [.ref (a 9), .ref (a 10), .int c2, .int t2, .int y2])), ((a 9), .inl (cI, 6, .inl gW)), ((a 10), .inl (cI, 6, .inl gD))] := by rw [rfU_0]; exact hD
  refine loopW (σ := Unit) (I := fun i x H locs ls => lv_has ls 3 [(0, .ref (a 0)), (1, .int q), (2, .int (nI i))] ∧ va_P D vwCl [((a 0), .inr (1, [.ref (a 1), .ref (a 2), .ref (a 3), .ref (a 4), .ref (a 5), .ref (a 8), .int (nI k), .int (nI st), .int fi])), ((a 1), .inl (cI, 8, .inl fB)), ((a 2), .inl (cI, 8, .inl fS)), ((a 3), .inl (cJ, 8, .inr (.inl (rfU fL (q).toInt64 i)))), ((a 4), .inl (cI, 8, .inl fO)), ((a 5), .inr (0, [.ref (a 6), .ref (a 7), .int (nI c), .int t, .int (nI y)])), ((a 6), .inl (cI, 6, .inl fW)), ((a 7), .inl (cI, 6, .inl fD)), ((a 8), .inr (0, [.ref (a 9), .ref (a 10), .int c2, .int t2, .int y2])), ((a 9), .inl (cI, 6, .inl gW)), ((a 10), .inl (cI, 6, .inl gD))] H ∧ va_D A [((a 0), .inr (1, [.ref (a 1), .ref (a 2), .ref (a 3), .ref (a 4), .ref (a 5), .ref (a 8), .int (nI k), .int (nI st), .int fi])), ((a 1), .inl (cI, 8, .inl fB)), ((a 2), .inl (cI, 8, .inl fS)), ((a 3), .inl (cJ, 8, .inr (.inl (rfU fL (q).toInt64 i)))), ((a 4), .inl (cI, 8, .inl fO)), ((a 5), .inr (0, [.ref (a 6), .ref (a 7), .int (nI c), .int t, .int (nI y)])), ((a 6), .inl (cI, 6, .inl fW)), ((a 7), .inl (cI, 6, .inl fD)), ((a 8), .inr (0, [.ref (a 9), .ref (a 10), .int c2, .int t2, .int y2])), ((a 9), .inl (cI, 6, .inl gW)), ((a 10), .inl (cI, 6, .inl gD))] ∧ va_S A s.heap H locs) k ?_ 0 () _ _ ls (by omega) ⟨lv_sub hl [1, 2, 0] rfl, hP, hD, hS⟩
  intro i x H locs ls hi hI kk
  obtain ⟨hl, hP, hD, hS⟩ := hI
  refine lv_iload_n hx hb dX1_refineUnit_2 rfl (lv_at hl 2 rfl) ?_
  refine lv_aload_n hx hb dX1_refineUnit_3 rfl (lv_at hl 0 rfl) ?_
  refine va_get (D := D) (ci := 1) (v := .int (nI k)) (C := RX1) (T := TX1) (N := 9) hx hb hts hiX1 hown hK hP 0 rfl rfl 6 (by decide) hw33 (fun _ h9 => h9) rfl dX1_refineUnit_4 ?_
  refine lv_icmp_ge (tgt := 27) hx hb dX1_refineUnit_7 (by decide) (fun c_7 => ?_) (fun c_7 => ?_)
  · skip
    simp only [Int32.le_iff_toInt_le] at c_7
    rw [nI_toInt (n := i) (by omega)] at c_7
    rw [nI_toInt (n := k) (by omega)] at c_7
    have e9 : k = i := by omega
    subst e9
    exact W.vret hx hb hr (fun t9 ht hW => ⟨⟨[((a 0), .inr (1, [.ref (a 1), .ref (a 2), .ref (a 3), .ref (a 4), .ref (a 5), .ref (a 8), .int (nI k), .int (nI st), .int fi])), ((a 1), .inl (cI, 8, .inl fB)), ((a 2), .inl (cI, 8, .inl fS)), ((a 3), .inl (cJ, 8, .inr (.inl (rfU fL (q).toInt64 k)))), ((a 4), .inl (cI, 8, .inl fO)), ((a 5), .inr (0, [.ref (a 6), .ref (a 7), .int (nI c), .int t, .int (nI y)])), ((a 6), .inl (cI, 6, .inl fW)), ((a 7), .inl (cI, 6, .inl fD)), ((a 8), .inr (0, [.ref (a 9), .ref (a 10), .int c2, .int t2, .int y2])), ((a 9), .inl (cI, 6, .inl gW)), ((a 10), .inl (cI, 6, .inl gD))], rfl, rfl, by rw [ht]; exact hP, hD⟩, hS.F ht⟩) hS.2.2 dX1_refineUnit_27
  · skip
    simp only [Int32.le_iff_toInt_le] at c_7
    rw [nI_toInt (n := i) (by omega)] at c_7
    rw [nI_toInt (n := k) (by omega)] at c_7
    refine lv_aload_n hx hb dX1_refineUnit_10 rfl (lv_at hl 0 rfl) ?_
    refine va_get (D := D) (ci := 1) (v := .ref (a 3)) (C := RX1) (T := TX1) (N := 9) hx hb hts hiX1 hown hK hP 0 rfl rfl 2 (by decide) hw16 (fun _ h9 => h9) rfl dX1_refineUnit_11 ?_
    refine lv_iload_n hx hb dX1_refineUnit_14 rfl (lv_at hl 2 rfl) ?_
    refine lv_dup2_11 hx hb dX1_refineUnit_15 rfl rfl ?_
    refine xa_lald hx hb hK hP 3 1 rfl rfl (by omega) (by decide) dX1_refineUnit_16 ?_
    refine lv_iload_n hx hb dX1_refineUnit_17 rfl (lv_at hl 1 rfl) ?_
    refine lv_i2l (v := (q).toInt64) hx hb dX1_refineUnit_18 rfl ?_
    refine lv_lmul hx hb dX1_refineUnit_19 ?_
    refine xa_last hx hb hK hP hD hS 3 1 rfl rfl (by omega) (by decide) dX1_refineUnit_20 (fun H locs hP hD hS => ?_)
    have hP : va_P D vwCl [((a 0), .inr (1, [.ref (a 1), .ref (a 2), .ref (a 3), .ref (a 4), .ref (a 5), .ref (a 8), .int (nI k), .int (nI st), .int fi])), ((a 1), .inl (cI, 8, .inl fB)), ((a 2), .inl (cI, 8, .inl fS)), ((a 3), .inl (cJ, 8, .inr (.inl (vp_updL (rfU fL (q).toInt64 i) i (((rfU fL (q).toInt64 i) i) * (q).toInt64))))), ((a 4), .inl (cI, 8, .inl fO)), ((a 5), .inr (0, [.ref (a 6), .ref (a 7), .int (nI c), .int t, .int (nI y)])), ((a 6), .inl (cI, 6, .inl fW)), ((a 7), .inl (cI, 6, .inl fD)), ((a 8), .inr (0, [.ref (a 9), .ref (a 10), .int c2, .int t2, .int y2])), ((a 9), .inl (cI, 6, .inl gW)), ((a 10), .inl (cI, 6, .inl gD))] H := hP
    have hD : va_D A [((a 0), .inr (1, [.ref (a 1), .ref (a 2), .ref (a 3), .ref (a 4), .ref (a 5), .ref (a 8), .int (nI k), .int (nI st), .int fi])), ((a 1), .inl (cI, 8, .inl fB)), ((a 2), .inl (cI, 8, .inl fS)), ((a 3), .inl (cJ, 8, .inr (.inl (vp_updL (rfU fL (q).toInt64 i) i (((rfU fL (q).toInt64 i) i) * (q).toInt64))))), ((a 4), .inl (cI, 8, .inl fO)), ((a 5), .inr (0, [.ref (a 6), .ref (a 7), .int (nI c), .int t, .int (nI y)])), ((a 6), .inl (cI, 6, .inl fW)), ((a 7), .inl (cI, 6, .inl fD)), ((a 8), .inr (0, [.ref (a 9), .ref (a 10), .int c2, .int t2, .int y2])), ((a 9), .inl (cI, 6, .inl gW)), ((a 10), .inl (cI, 6, .inl gD))] := hD
    have hP : va_P D vwCl [((a 0), .inr (1, [.ref (a 1), .ref (a 2), .ref (a 3), .ref (a 4), .ref (a 5), .ref (a 8), .int (nI k), .int (nI st), .int fi])), ((a 1), .inl (cI, 8, .inl fB)), ((a 2), .inl (cI, 8, .inl fS)), ((a 3), .inl (cJ, 8, .inr (.inl (rfU fL (q).toInt64 (i + 1))))), ((a 4), .inl (cI, 8, .inl fO)), ((a 5), .inr (0, [.ref (a 6), .ref (a 7), .int (nI c), .int t, .int (nI y)])), ((a 6), .inl (cI, 6, .inl fW)), ((a 7), .inl (cI, 6, .inl fD)), ((a 8), .inr (0, [.ref (a 9), .ref (a 10), .int c2, .int t2, .int y2])), ((a 9), .inl (cI, 6, .inl gW)), ((a 10), .inl (cI, 6, .inl gD))] H := by rw [← rfU_s]; exact hP
    have hD : va_D A [((a 0), .inr (1, [.ref (a 1), .ref (a 2), .ref (a 3), .ref (a 4), .ref (a 5), .ref (a 8), .int (nI k), .int (nI st), .int fi])), ((a 1), .inl (cI, 8, .inl fB)), ((a 2), .inl (cI, 8, .inl fS)), ((a 3), .inl (cJ, 8, .inr (.inl (rfU fL (q).toInt64 (i + 1))))), ((a 4), .inl (cI, 8, .inl fO)), ((a 5), .inr (0, [.ref (a 6), .ref (a 7), .int (nI c), .int t, .int (nI y)])), ((a 6), .inl (cI, 6, .inl fW)), ((a 7), .inl (cI, 6, .inl fD)), ((a 8), .inr (0, [.ref (a 9), .ref (a 10), .int c2, .int t2, .int y2])), ((a 9), .inl (cI, 6, .inl gW)), ((a 10), .inl (cI, 6, .inl gD))] := by rw [← rfU_s]; exact hD
    refine lv_iinc (v := (nI (i + 1))) (lv' := [(2, .int (nI (i + 1))), (0, .ref (a 0)), (1, .int q)]) hx hb dX1_refineUnit_21 hl (k := 2) rfl (nI_inc i) (by decide) rfl (fun ls hl => ?_)
    refine lv_goto (tgt := 2) hx hb dX1_refineUnit_24 (by decide) ?_
    exact kk () _ _ ls (by omega) ⟨lv_sub hl [1, 2, 0] rfl, hP, hD, hS⟩

set_option maxHeartbeats 4000000 in
set_option maxRecDepth 100000 in
theorem c_X1_rankLast (l : Launch) (D : va_G) (cI cJ cR : ClassId) (sz : Nat) (a : Nat → Nat) (k st : Nat) (fi : Int32) (fB fS fO : Nat → Int32) (fL : Nat → Int64) (c : Nat) (t : Int32) (y : Nat) (fW fD : Nat → Int32) (c2 t2 y2 : Int32) (gW gD : Nat → Int32) (q : Nat) (hq : k = q + 1) (hk : k ≤ 8) (hO : ∀ j, j < q → inM 8 (fO j)) : Met l yX1_rankLast wsX1_rankLast ({ frames := 1, cells := 0, slots := 0, locals := 21 }) (cPw D [((a 0), .inr (1, [.ref (a 1), .ref (a 2), .ref (a 3), .ref (a 4), .ref (a 5), .ref (a 8), .int (nI k), .int (nI st), .int fi])), ((a 1), .inl (cI, 8, .inl fB)), ((a 2), .inl (cI, 8, .inl fS)), ((a 3), .inl (cJ, 8, .inr (.inl fL))), ((a 4), .inl (cI, 8, .inl fO)), ((a 5), .inr (0, [.ref (a 6), .ref (a 7), .int (nI c), .int t, .int (nI y)])), ((a 6), .inl (cI, 6, .inl fW)), ((a 7), .inl (cI, 6, .inl fD)), ((a 8), .inr (0, [.ref (a 9), .ref (a 10), .int c2, .int t2, .int y2])), ((a 9), .inl (cI, 6, .inl gW)), ((a 10), .inl (cI, 6, .inl gD))] sz (KM D cI cJ cR) [.ref (a 0)]) (wrv D [((a 0), .inr (1, [.ref (a 1), .ref (a 2), .ref (a 3), .ref (a 4), .ref (a 5), .ref (a 8), .int (nI k), .int (nI st), .int fi])), ((a 1), .inl (cI, 8, .inl fB)), ((a 2), .inl (cI, 8, .inl fS)), ((a 3), .inl (cJ, 8, .inr (.inl fL))), ((a 4), .inl (cI, 8, .inl fO)), ((a 5), .inr (0, [.ref (a 6), .ref (a 7), .int (nI c), .int t, .int (nI y)])), ((a 6), .inl (cI, 6, .inl fW)), ((a 7), .inl (cI, 6, .inl fD)), ((a 8), .inr (0, [.ref (a 9), .ref (a 10), .int c2, .int t2, .int y2])), ((a 9), .inl (cI, 6, .inl gW)), ((a 10), .inl (cI, 6, .inl gD))] sz (fun ws' => ws' = [((a 0), .inr (1, [.ref (a 1), .ref (a 2), .ref (a 3), .ref (a 4), .ref (a 5), .ref (a 8), .int (nI k), .int (nI st), .int fi])), ((a 1), .inl (cI, 8, .inl fB)), ((a 2), .inl (cI, 8, .inl fS)), ((a 3), .inl (cJ, 8, .inr (.inl fL))), ((a 4), .inl (cI, 8, .inl (insO fL (fL q) (nI q) q fO))), ((a 5), .inr (0, [.ref (a 6), .ref (a 7), .int (nI c), .int t, .int (nI y)])), ((a 6), .inl (cI, 6, .inl fW)), ((a 7), .inl (cI, 6, .inl fD)), ((a 8), .inr (0, [.ref (a 9), .ref (a 10), .int c2, .int t2, .int y2])), ((a 9), .inl (cI, 6, .inl gW)), ((a 10), .inl (cI, 6, .inl gD))])) 0 0 (va_A [((a 0), .inr (1, [.ref (a 1), .ref (a 2), .ref (a 3), .ref (a 4), .ref (a 5), .ref (a 8), .int (nI k), .int (nI st), .int fi])), ((a 1), .inl (cI, 8, .inl fB)), ((a 2), .inl (cI, 8, .inl fS)), ((a 3), .inl (cJ, 8, .inr (.inl fL))), ((a 4), .inl (cI, 8, .inl fO)), ((a 5), .inr (0, [.ref (a 6), .ref (a 7), .int (nI c), .int t, .int (nI y)])), ((a 6), .inl (cI, 6, .inl fW)), ((a 7), .inl (cI, 6, .inl fD)), ((a 8), .inr (0, [.ref (a 9), .ref (a 10), .int c2, .int t2, .int y2])), ((a 9), .inl (cI, 6, .inl gW)), ((a 10), .inl (cI, 6, .inl gD))] sz) := by
  refine Met.ofW (cc := cX1_rankLast) (maxL := 3) (ret := none) (by decide +kernel) rfl ?_
  intro p e s m args below meth c9 s₁ B hml hv
  obtain ⟨rfl, hsz, hP, hD0, hC⟩ := hv
  have hx := B.exec
  have hb := B.bytes
  have hr := B.returns
  have hts := atoms_spec (ws := wsX1_rankLast) B.pre
  have hown : s.vm.findClass RX1 = some m.cls := findClass_of_methodNamed B.named
  have hlocks := B.notSynchronized
  have hK : va_K D vwCl [(cI, .int), (cJ, .long), (cR, .array .int)] s := hC
  subst hsz
  unfold wrv wB
  have hD := hD0.self (sz := s.heap.size)
  generalize hAe : va_A [((a 0), .inr (1, [.ref (a 1), .ref (a 2), .ref (a 3), .ref (a 4), .ref (a 5), .ref (a 8), .int (nI k), .int (nI st), .int fi])), ((a 1), .inl (cI, 8, .inl fB)), ((a 2), .inl (cI, 8, .inl fS)), ((a 3), .inl (cJ, 8, .inr (.inl fL))), ((a 4), .inl (cI, 8, .inl fO)), ((a 5), .inr (0, [.ref (a 6), .ref (a 7), .int (nI c), .int t, .int (nI y)])), ((a 6), .inl (cI, 6, .inl fW)), ((a 7), .inl (cI, 6, .inl fD)), ((a 8), .inr (0, [.ref (a 9), .ref (a 10), .int c2, .int t2, .int y2])), ((a 9), .inl (cI, 6, .inl gW)), ((a 10), .inl (cI, 6, .inl gD))] s.heap.size = A at hD ⊢
  have hA : ∀ q : Nat, s.heap.size ≤ q → A q := fun q h => by rw [← hAe]; exact Or.inr h
  have hS : va_S A s.heap s.heap [] := va_S.rf
  have hl := lv_entry ([.ref (a 0)]) (n := 3) (Nat.le_of_ble_eq_true rfl)
  rw [lg_entry_eq]
  generalize (lg_sl ([.ref (a 0)]) ++ List.replicate (3 - (lg_sl ([.ref (a 0)])).length) Slot.unset).toArray = ls at hl ⊢
  have hl : lv_has ls 3 [(0, .ref (a 0))] := hl
  have hiX1 : ∀ w ∈ u_ws RX1 TX1 9, w ∈ wsX1_rankLast := by decide +kernel
  have hw16 : (Cond.fieldLink RX1 16 "OldMeasures" "lengths" "[J").before ([.ref (a 0)] : List Value).toArray s = true := hts _ (by decide +kernel)
  have hw20 : (Cond.fieldLink RX1 20 "OldMeasures" "longestFirst" "[I").before ([.ref (a 0)] : List Value).toArray s = true := hts _ (by decide +kernel)
  have hw33 : (Cond.fieldLink RX1 33 "OldMeasures" "measureCount" "I").before ([.ref (a 0)] : List Value).toArray s = true := hts _ (by decide +kernel)
  refine lv_aload_n hx hb dX1_rankLast_0 rfl (lv_at hl 0 rfl) ?_
  refine va_get (D := D) (ci := 1) (v := .int (nI k)) (C := RX1) (T := TX1) (N := 9) hx hb hts hiX1 hown hK hP 0 rfl rfl 6 (by decide) hw33 (fun _ h9 => h9) rfl dX1_rankLast_1 ?_
  refine lv_iconst (v := 1) hx hb dX1_rankLast_4 (by decide) ?_
  refine lv_isub hx hb dX1_rankLast_5 ?_
  refine topI (y := nI q) (by rw [hq]; exact nI_pred q) ?_
  refine lv_istore_n (lv' := [(1, .int (nI q)), (0, .ref (a 0))]) hx hb dX1_rankLast_6 rfl hl (by decide) rfl (fun ls hl => ?_)
  refine lv_iload_n hx hb dX1_rankLast_7 rfl (lv_at hl 0 rfl) ?_
  refine lv_istore_n (lv' := [(2, .int (nI q)), (1, .int (nI q)), (0, .ref (a 0))]) hx hb dX1_rankLast_8 rfl hl (by decide) rfl (fun ls hl => ?_)
  refine loopW (σ := (Nat × (Nat → Int32))) (I := fun i x H locs ls => lv_has ls 3 [(0, .ref (a 0)), (1, .int (nI q)), (2, .int (nI x.1))] ∧ va_P D vwCl [((a 0), .inr (1, [.ref (a 1), .ref (a 2), .ref (a 3), .ref (a 4), .ref (a 5), .ref (a 8), .int (nI k), .int (nI st), .int fi])), ((a 1), .inl (cI, 8, .inl fB)), ((a 2), .inl (cI, 8, .inl fS)), ((a 3), .inl (cJ, 8, .inr (.inl fL))), ((a 4), .inl (cI, 8, .inl x.2)), ((a 5), .inr (0, [.ref (a 6), .ref (a 7), .int (nI c), .int t, .int (nI y)])), ((a 6), .inl (cI, 6, .inl fW)), ((a 7), .inl (cI, 6, .inl fD)), ((a 8), .inr (0, [.ref (a 9), .ref (a 10), .int c2, .int t2, .int y2])), ((a 9), .inl (cI, 6, .inl gW)), ((a 10), .inl (cI, 6, .inl gD))] H ∧ va_D A [((a 0), .inr (1, [.ref (a 1), .ref (a 2), .ref (a 3), .ref (a 4), .ref (a 5), .ref (a 8), .int (nI k), .int (nI st), .int fi])), ((a 1), .inl (cI, 8, .inl fB)), ((a 2), .inl (cI, 8, .inl fS)), ((a 3), .inl (cJ, 8, .inr (.inl fL))), ((a 4), .inl (cI, 8, .inl x.2)), ((a 5), .inr (0, [.ref (a 6), .ref (a 7), .int (nI c), .int t, .int (nI y)])), ((a 6), .inl (cI, 6, .inl fW)), ((a 7), .inl (cI, 6, .inl fD)), ((a 8), .inr (0, [.ref (a 9), .ref (a 10), .int c2, .int t2, .int y2])), ((a 9), .inl (cI, 6, .inl gW)), ((a 10), .inl (cI, 6, .inl gD))] ∧ va_S A s.heap H locs ∧ (x.1 + i = q) ∧ (insO fL (fL q) (nI q) x.1 x.2 = insO fL (fL q) (nI q) q fO) ∧ (∀ j, j < x.1 → inM 8 (x.2 j))) q ?_ 0 (q, fO) _ _ ls (by omega) ⟨lv_sub hl [2, 1, 0] rfl, hP, hD, hS, rfl, rfl, hO⟩
  intro i x H locs ls hi hI kk
  obtain ⟨hl, hP, hD, hS, hr1, hI1, hO1⟩ := hI
  refine lv_iload_n hx hb dX1_rankLast_9 rfl (lv_at hl 2 rfl) ?_
  refine lv_if_le (tgt := 50) hx hb dX1_rankLast_10 (by decide) (fun c_10 => ?_) (fun c_10 => ?_)
  · skip
    simp only [Int32.le_iff_toInt_le] at c_10
    rw [nI_toInt (n := x.1) (by omega)] at c_10
    rw [(by decide : (0 : Int32).toInt = 0)] at c_10
    have e0 : x.1 = 0 := by omega
    refine lv_aload_n hx hb dX1_rankLast_50 rfl (lv_at hl 0 rfl) ?_
    refine va_get (D := D) (ci := 1) (v := .ref (a 4)) (C := RX1) (T := TX1) (N := 9) hx hb hts hiX1 hown hK hP 0 rfl rfl 3 (by decide) hw20 (fun _ h9 => h9) rfl dX1_rankLast_51 ?_
    refine lv_iload_n hx hb dX1_rankLast_54 rfl (lv_at hl 2 rfl) ?_
    refine lv_iload_n hx hb dX1_rankLast_55 rfl (lv_at hl 1 rfl) ?_
    refine xa_iast hx hb hK hP hD hS 4 0 rfl rfl (by omega) (by decide) dX1_rankLast_56 (fun H locs hP hD hS => ?_)
    have hP : va_P D vwCl [((a 0), .inr (1, [.ref (a 1), .ref (a 2), .ref (a 3), .ref (a 4), .ref (a 5), .ref (a 8), .int (nI k), .int (nI st), .int fi])), ((a 1), .inl (cI, 8, .inl fB)), ((a 2), .inl (cI, 8, .inl fS)), ((a 3), .inl (cJ, 8, .inr (.inl fL))), ((a 4), .inl (cI, 8, .inl (upd x.2 (x.1) (nI q)))), ((a 5), .inr (0, [.ref (a 6), .ref (a 7), .int (nI c), .int t, .int (nI y)])), ((a 6), .inl (cI, 6, .inl fW)), ((a 7), .inl (cI, 6, .inl fD)), ((a 8), .inr (0, [.ref (a 9), .ref (a 10), .int c2, .int t2, .int y2])), ((a 9), .inl (cI, 6, .inl gW)), ((a 10), .inl (cI, 6, .inl gD))] H := hP
    have hD : va_D A [((a 0), .inr (1, [.ref (a 1), .ref (a 2), .ref (a 3), .ref (a 4), .ref (a 5), .ref (a 8), .int (nI k), .int (nI st), .int fi])), ((a 1), .inl (cI, 8, .inl fB)), ((a 2), .inl (cI, 8, .inl fS)), ((a 3), .inl (cJ, 8, .inr (.inl fL))), ((a 4), .inl (cI, 8, .inl (upd x.2 (x.1) (nI q)))), ((a 5), .inr (0, [.ref (a 6), .ref (a 7), .int (nI c), .int t, .int (nI y)])), ((a 6), .inl (cI, 6, .inl fW)), ((a 7), .inl (cI, 6, .inl fD)), ((a 8), .inr (0, [.ref (a 9), .ref (a 10), .int c2, .int t2, .int y2])), ((a 9), .inl (cI, 6, .inl gW)), ((a 10), .inl (cI, 6, .inl gD))] := hD
    exact W.vret hx hb hr (fun t9 ht hW => ⟨⟨[((a 0), .inr (1, [.ref (a 1), .ref (a 2), .ref (a 3), .ref (a 4), .ref (a 5), .ref (a 8), .int (nI k), .int (nI st), .int fi])), ((a 1), .inl (cI, 8, .inl fB)), ((a 2), .inl (cI, 8, .inl fS)), ((a 3), .inl (cJ, 8, .inr (.inl fL))), ((a 4), .inl (cI, 8, .inl (upd x.2 (x.1) (nI q)))), ((a 5), .inr (0, [.ref (a 6), .ref (a 7), .int (nI c), .int t, .int (nI y)])), ((a 6), .inl (cI, 6, .inl fW)), ((a 7), .inl (cI, 6, .inl fD)), ((a 8), .inr (0, [.ref (a 9), .ref (a 10), .int c2, .int t2, .int y2])), ((a 9), .inl (cI, 6, .inl gW)), ((a 10), .inl (cI, 6, .inl gD))], rfl, by rw [← hI1, e0]; rfl, by rw [ht]; exact hP, hD⟩, hS.F ht⟩) hS.2.2 dX1_rankLast_57
  · skip
    simp only [Int32.le_iff_toInt_le] at c_10
    rw [nI_toInt (n := x.1) (by omega)] at c_10
    rw [(by decide : (0 : Int32).toInt = 0)] at c_10
    obtain ⟨r9, hr9⟩ : ∃ r9, x.1 = r9 + 1 := ⟨x.1 - 1, by omega⟩
    rw [hr9] at hl
    refine lv_aload_n hx hb dX1_rankLast_13 rfl (lv_at hl 0 rfl) ?_
    refine lv_iload_n hx hb dX1_rankLast_14 rfl (lv_at hl 2 rfl) ?_
    refine lv_iconst (v := 1) hx hb dX1_rankLast_15 (by decide) ?_
    refine lv_isub hx hb dX1_rankLast_16 ?_
    refine topI (nI_pred r9) ?_
    refine ro_lE (va_runV (As := [.int (nI r9)]) (rest := []) ⟨hx, hb, hml, hown, hts⟩ (c_X1_lengthAt l D cI cJ cR a k st fi fB fS (x.2) fL c t y fW fD c2 t2 y2 gW gD r9 (by omega) (hO1 r9 (by omega))) (cwV 1 hts gX1_rankLast_X1_lengthAt rfl rfl rfl (by decide +kernel) ⟨Nat.le_of_ble_eq_true rfl, Nat.le_of_ble_eq_true rfl⟩) (preV_ro KM_ok (hP.sub (ws' := [((a 0), .inr (1, [.ref (a 1), .ref (a 2), .ref (a 3), .ref (a 4), .ref (a 5), .ref (a 8), .int (nI k), .int (nI st), .int fi])), ((a 1), .inl (cI, 8, .inl fB)), ((a 2), .inl (cI, 8, .inl fS)), ((a 3), .inl (cJ, 8, .inr (.inl fL))), ((a 4), .inl (cI, 8, .inl x.2)), ((a 5), .inr (0, [.ref (a 6), .ref (a 7), .int (nI c), .int t, .int (nI y)])), ((a 6), .inl (cI, 6, .inl fW)), ((a 7), .inl (cI, 6, .inl fD)), ((a 8), .inr (0, [.ref (a 9), .ref (a 10), .int c2, .int t2, .int y2])), ((a 9), .inl (cI, 6, .inl gW)), ((a 10), .inl (cI, 6, .inl gD))]) [0, 1, 2, 3, 4, 5, 6, 7, 8, 9, 10] rfl) hK (va_recv hK hP (ci := 1) (q0 := 0) rfl rfl)) rfl rfl hl.1 rfl (lv_room (Nat.le_of_ble_eq_true rfl)) dX1_rankLast_17 ⟨by decide, by decide⟩) ?_
    refine lv_aload_n hx hb dX1_rankLast_20 rfl (lv_at hl 0 rfl) ?_
    refine va_get (D := D) (ci := 1) (v := .ref (a 3)) (C := RX1) (T := TX1) (N := 9) hx hb hts hiX1 hown hK hP 0 rfl rfl 2 (by decide) hw16 (fun _ h9 => h9) rfl dX1_rankLast_21 ?_
    refine lv_iload_n hx hb dX1_rankLast_24 rfl (lv_at hl 1 rfl) ?_
    refine xa_lald hx hb hK hP 3 1 rfl rfl (by omega) (by decide) dX1_rankLast_25 ?_
    refine W.lcmp hx hb dX1_rankLast_26 ?_
    refine lv_if_ge (tgt := 50) hx hb dX1_rankLast_27 (by decide) (fun c_27 => ?_) (fun c_27 => ?_)
    · skip
      have c_27 := (lgc_ge _ _).mp c_27
      have c27 : ¬ (fL (x.2 r9).toNatClampNeg).toInt < (fL q).toInt := by unfold lnA at c_27; omega
      refine lv_aload_n hx hb dX1_rankLast_50 rfl (lv_at hl 0 rfl) ?_
      refine va_get (D := D) (ci := 1) (v := .ref (a 4)) (C := RX1) (T := TX1) (N := 9) hx hb hts hiX1 hown hK hP 0 rfl rfl 3 (by decide) hw20 (fun _ h9 => h9) rfl dX1_rankLast_51 ?_
      refine lv_iload_n hx hb dX1_rankLast_54 rfl (lv_at hl 2 rfl) ?_
      refine lv_iload_n hx hb dX1_rankLast_55 rfl (lv_at hl 1 rfl) ?_
      refine xa_iast hx hb hK hP hD hS 4 0 rfl rfl (by omega) (by decide) dX1_rankLast_56 (fun H locs hP hD hS => ?_)
      have hP : va_P D vwCl [((a 0), .inr (1, [.ref (a 1), .ref (a 2), .ref (a 3), .ref (a 4), .ref (a 5), .ref (a 8), .int (nI k), .int (nI st), .int fi])), ((a 1), .inl (cI, 8, .inl fB)), ((a 2), .inl (cI, 8, .inl fS)), ((a 3), .inl (cJ, 8, .inr (.inl fL))), ((a 4), .inl (cI, 8, .inl (upd x.2 (r9 + 1) (nI q)))), ((a 5), .inr (0, [.ref (a 6), .ref (a 7), .int (nI c), .int t, .int (nI y)])), ((a 6), .inl (cI, 6, .inl fW)), ((a 7), .inl (cI, 6, .inl fD)), ((a 8), .inr (0, [.ref (a 9), .ref (a 10), .int c2, .int t2, .int y2])), ((a 9), .inl (cI, 6, .inl gW)), ((a 10), .inl (cI, 6, .inl gD))] H := hP
      have hD : va_D A [((a 0), .inr (1, [.ref (a 1), .ref (a 2), .ref (a 3), .ref (a 4), .ref (a 5), .ref (a 8), .int (nI k), .int (nI st), .int fi])), ((a 1), .inl (cI, 8, .inl fB)), ((a 2), .inl (cI, 8, .inl fS)), ((a 3), .inl (cJ, 8, .inr (.inl fL))), ((a 4), .inl (cI, 8, .inl (upd x.2 (r9 + 1) (nI q)))), ((a 5), .inr (0, [.ref (a 6), .ref (a 7), .int (nI c), .int t, .int (nI y)])), ((a 6), .inl (cI, 6, .inl fW)), ((a 7), .inl (cI, 6, .inl fD)), ((a 8), .inr (0, [.ref (a 9), .ref (a 10), .int c2, .int t2, .int y2])), ((a 9), .inl (cI, 6, .inl gW)), ((a 10), .inl (cI, 6, .inl gD))] := hD
      exact W.vret hx hb hr (fun t9 ht hW => ⟨⟨[((a 0), .inr (1, [.ref (a 1), .ref (a 2), .ref (a 3), .ref (a 4), .ref (a 5), .ref (a 8), .int (nI k), .int (nI st), .int fi])), ((a 1), .inl (cI, 8, .inl fB)), ((a 2), .inl (cI, 8, .inl fS)), ((a 3), .inl (cJ, 8, .inr (.inl fL))), ((a 4), .inl (cI, 8, .inl (upd x.2 (r9 + 1) (nI q)))), ((a 5), .inr (0, [.ref (a 6), .ref (a 7), .int (nI c), .int t, .int (nI y)])), ((a 6), .inl (cI, 6, .inl fW)), ((a 7), .inl (cI, 6, .inl fD)), ((a 8), .inr (0, [.ref (a 9), .ref (a 10), .int c2, .int t2, .int y2])), ((a 9), .inl (cI, 6, .inl gW)), ((a 10), .inl (cI, 6, .inl gD))], rfl, by rw [← hI1, hr9, insO, ic_f c27], by rw [ht]; exact hP, hD⟩, hS.F ht⟩) hS.2.2 dX1_rankLast_57
    · skip
      have c_27 := (not_congr (lgc_ge _ _)).mp c_27
      have c27 : (fL (x.2 r9).toNatClampNeg).toInt < (fL q).toInt := by unfold lnA at c_27; omega
      refine lv_aload_n hx hb dX1_rankLast_30 rfl (lv_at hl 0 rfl) ?_
      refine va_get (D := D) (ci := 1) (v := .ref (a 4)) (C := RX1) (T := TX1) (N := 9) hx hb hts hiX1 hown hK hP 0 rfl rfl 3 (by decide) hw20 (fun _ h9 => h9) rfl dX1_rankLast_31 ?_
      refine lv_iload_n hx hb dX1_rankLast_34 rfl (lv_at hl 2 rfl) ?_
      refine lv_aload_n hx hb dX1_rankLast_35 rfl (lv_at hl 0 rfl) ?_
      refine va_get (D := D) (ci := 1) (v := .ref (a 4)) (C := RX1) (T := TX1) (N := 9) hx hb hts hiX1 hown hK hP 0 rfl rfl 3 (by decide) hw20 (fun _ h9 => h9) rfl dX1_rankLast_36 ?_
      refine lv_iload_n hx hb dX1_rankLast_39 rfl (lv_at hl 2 rfl) ?_
      refine lv_iconst (v := 1) hx hb dX1_rankLast_40 (by decide) ?_
      refine lv_isub hx hb dX1_rankLast_41 ?_
      refine topI (nI_pred r9) ?_
      refine xa_iald hx hb hK hP 4 0 rfl rfl (by omega) (by decide) dX1_rankLast_42 ?_
      refine xa_iast hx hb hK hP hD hS 4 0 rfl rfl (by omega) (by decide) dX1_rankLast_43 (fun H locs hP hD hS => ?_)
      have hP : va_P D vwCl [((a 0), .inr (1, [.ref (a 1), .ref (a 2), .ref (a 3), .ref (a 4), .ref (a 5), .ref (a 8), .int (nI k), .int (nI st), .int fi])), ((a 1), .inl (cI, 8, .inl fB)), ((a 2), .inl (cI, 8, .inl fS)), ((a 3), .inl (cJ, 8, .inr (.inl fL))), ((a 4), .inl (cI, 8, .inl (upd x.2 (r9 + 1) (x.2 r9)))), ((a 5), .inr (0, [.ref (a 6), .ref (a 7), .int (nI c), .int t, .int (nI y)])), ((a 6), .inl (cI, 6, .inl fW)), ((a 7), .inl (cI, 6, .inl fD)), ((a 8), .inr (0, [.ref (a 9), .ref (a 10), .int c2, .int t2, .int y2])), ((a 9), .inl (cI, 6, .inl gW)), ((a 10), .inl (cI, 6, .inl gD))] H := hP
      have hD : va_D A [((a 0), .inr (1, [.ref (a 1), .ref (a 2), .ref (a 3), .ref (a 4), .ref (a 5), .ref (a 8), .int (nI k), .int (nI st), .int fi])), ((a 1), .inl (cI, 8, .inl fB)), ((a 2), .inl (cI, 8, .inl fS)), ((a 3), .inl (cJ, 8, .inr (.inl fL))), ((a 4), .inl (cI, 8, .inl (upd x.2 (r9 + 1) (x.2 r9)))), ((a 5), .inr (0, [.ref (a 6), .ref (a 7), .int (nI c), .int t, .int (nI y)])), ((a 6), .inl (cI, 6, .inl fW)), ((a 7), .inl (cI, 6, .inl fD)), ((a 8), .inr (0, [.ref (a 9), .ref (a 10), .int c2, .int t2, .int y2])), ((a 9), .inl (cI, 6, .inl gW)), ((a 10), .inl (cI, 6, .inl gD))] := hD
      refine lv_iinc (v := (nI r9)) (lv' := [(2, .int (nI r9)), (0, .ref (a 0)), (1, .int (nI q))]) hx hb dX1_rankLast_44 hl (k := 2) rfl (nI_dec r9) (by decide) rfl (fun ls hl => ?_)
      refine lv_goto (tgt := 9) hx hb dX1_rankLast_47 (by decide) ?_
      exact kk (r9, upd x.2 (r9 + 1) (x.2 r9)) _ _ ls (by omega) ⟨lv_sub hl [1, 2, 0] rfl, hP, hD, hS, (by show r9 + (i + 1) = q; omega), (by rw [← hI1, hr9]; exact (ic_t c27).symm), (fun j hj => by have hj : j < r9 := hj; show inM 8 (upd x.2 (r9 + 1) (x.2 r9) j); rw [pk_un (by omega)]; exact hO1 j (by omega))⟩

set_option maxHeartbeats 4000000 in
set_option maxRecDepth 100000 in
theorem k_X1_addMeasure (l : Launch) (D : va_G) (cI cJ cR : ClassId) (sz : Nat) (a : Nat → Nat) (k st : Nat) (fi : Int32) (fB fS fO : Nat → Int32) (fL : Nat → Int64) (c : Nat) (t : Int32) (y : Nat) (fW fD : Nat → Int32) (c2 t2 y2 : Int32) (gW gD : Nat → Int32) (hM : MOk k fL fO) (jx : Nat) (hj_x : jx < k) (u q : Int32) (hu9 : inR 1 9 u) (hq9 : inR 1 9 q) (hk7 : k < 8) : Met l yX1_addMeasure wsX1_addMeasure ({ frames := 6, cells := 0, slots := 0, locals := 160 }) (cPw D [((a 0), .inr (1, [.ref (a 1), .ref (a 2), .ref (a 3), .ref (a 4), .ref (a 5), .ref (a 8), .int (nI k), .int (nI st), .int fi])), ((a 1), .inl (cI, 8, .inl fB)), ((a 2), .inl (cI, 8, .inl fS)), ((a 3), .inl (cJ, 8, .inr (.inl fL))), ((a 4), .inl (cI, 8, .inl fO)), ((a 5), .inr (0, [.ref (a 6), .ref (a 7), .int (nI c), .int t, .int (nI y)])), ((a 6), .inl (cI, 6, .inl fW)), ((a 7), .inl (cI, 6, .inl fD)), ((a 8), .inr (0, [.ref (a 9), .ref (a 10), .int c2, .int t2, .int y2])), ((a 9), .inl (cI, 6, .inl gW)), ((a 10), .inl (cI, 6, .inl gD))] sz (KC D cI cJ cR) [.ref (a 0), .int (nI jx), .int u, .int q]) (wri D [((a 0), .inr (1, [.ref (a 1), .ref (a 2), .ref (a 3), .ref (a 4), .ref (a 5), .ref (a 8), .int (nI k), .int (nI st), .int fi])), ((a 1), .inl (cI, 8, .inl fB)), ((a 2), .inl (cI, 8, .inl fS)), ((a 3), .inl (cJ, 8, .inr (.inl fL))), ((a 4), .inl (cI, 8, .inl fO)), ((a 5), .inr (0, [.ref (a 6), .ref (a 7), .int (nI c), .int t, .int (nI y)])), ((a 6), .inl (cI, 6, .inl fW)), ((a 7), .inl (cI, 6, .inl fD)), ((a 8), .inr (0, [.ref (a 9), .ref (a 10), .int c2, .int t2, .int y2])), ((a 9), .inl (cI, 6, .inl gW)), ((a 10), .inl (cI, 6, .inl gD))] sz (fun r ws' => r = nI k ∧ ws' = [((a 0), .inr (1, [.ref (a 1), .ref (a 2), .ref (a 3), .ref (a 4), .ref (a 5), .ref (a 8), .int (nI (k + 1)), .int (nI st), .int fi])), ((a 1), .inl (cI, 8, .inl (upd fB k (nI jx)))), ((a 2), .inl (cI, 8, .inl (upd fS k (fS jx + 1)))), ((a 3), .inl (cJ, 8, .inr (.inl (vp_updL (rfU fL (q).toInt64 k) k (fL jx * (u).toInt64))))), ((a 4), .inl (cI, 8, .inl (insO (vp_updL (rfU fL (q).toInt64 k) k (fL jx * (u).toInt64)) ((vp_updL (rfU fL (q).toInt64 k) k (fL jx * (u).toInt64)) k) (nI k) k fO))), ((a 5), .inr (0, [.ref (a 6), .ref (a 7), .int (nI c), .int t, .int (nI y)])), ((a 6), .inl (cI, 6, .inl fW)), ((a 7), .inl (cI, 6, .inl fD)), ((a 8), .inr (0, [.ref (a 9), .ref (a 10), .int c2, .int t2, .int y2])), ((a 9), .inl (cI, 6, .inl gW)), ((a 10), .inl (cI, 6, .inl gD))])) 0 0 (va_A [((a 0), .inr (1, [.ref (a 1), .ref (a 2), .ref (a 3), .ref (a 4), .ref (a 5), .ref (a 8), .int (nI k), .int (nI st), .int fi])), ((a 1), .inl (cI, 8, .inl fB)), ((a 2), .inl (cI, 8, .inl fS)), ((a 3), .inl (cJ, 8, .inr (.inl fL))), ((a 4), .inl (cI, 8, .inl fO)), ((a 5), .inr (0, [.ref (a 6), .ref (a 7), .int (nI c), .int t, .int (nI y)])), ((a 6), .inl (cI, 6, .inl fW)), ((a 7), .inl (cI, 6, .inl fD)), ((a 8), .inr (0, [.ref (a 9), .ref (a 10), .int c2, .int t2, .int y2])), ((a 9), .inl (cI, 6, .inl gW)), ((a 10), .inl (cI, 6, .inl gD))] sz) := by
  refine Met.ofW (cc := cX1_addMeasure) (maxL := 7) (ret := (some .int)) (by decide +kernel) rfl ?_
  intro p e s m args below meth c9 s₁ B hml hv
  obtain ⟨rfl, hsz, hP, hD0, hC⟩ := hv
  have hx := B.exec
  have hb := B.bytes
  have hr := B.returns
  have hts := atoms_spec (ws := wsX1_addMeasure) B.pre
  have hown : s.vm.findClass RX1 = some m.cls := findClass_of_methodNamed B.named
  have hlocks := B.notSynchronized
  have hK : va_K D vwCl [(cI, .int), (cJ, .long), (cR, .array .int)] s := hC.1
  subst hsz
  unfold wri wB
  have hD := hD0.self (sz := s.heap.size)
  generalize hAe : va_A [((a 0), .inr (1, [.ref (a 1), .ref (a 2), .ref (a 3), .ref (a 4), .ref (a 5), .ref (a 8), .int (nI k), .int (nI st), .int fi])), ((a 1), .inl (cI, 8, .inl fB)), ((a 2), .inl (cI, 8, .inl fS)), ((a 3), .inl (cJ, 8, .inr (.inl fL))), ((a 4), .inl (cI, 8, .inl fO)), ((a 5), .inr (0, [.ref (a 6), .ref (a 7), .int (nI c), .int t, .int (nI y)])), ((a 6), .inl (cI, 6, .inl fW)), ((a 7), .inl (cI, 6, .inl fD)), ((a 8), .inr (0, [.ref (a 9), .ref (a 10), .int c2, .int t2, .int y2])), ((a 9), .inl (cI, 6, .inl gW)), ((a 10), .inl (cI, 6, .inl gD))] s.heap.size = A at hD ⊢
  have hA : ∀ q : Nat, s.heap.size ≤ q → A q := fun q h => by rw [← hAe]; exact Or.inr h
  have hS : va_S A s.heap s.heap [] := va_S.rf
  have hl := lv_entry ([.ref (a 0), .int (nI jx), .int u, .int q]) (n := 7) (Nat.le_of_ble_eq_true rfl)
  rw [lg_entry_eq]
  generalize (lg_sl ([.ref (a 0), .int (nI jx), .int u, .int q]) ++ List.replicate (7 - (lg_sl ([.ref (a 0), .int (nI jx), .int u, .int q])).length) Slot.unset).toArray = ls at hl ⊢
  have hl : lv_has ls 7 [(0, .ref (a 0)), (1, .int (nI jx)), (2, .int u), (3, .int q)] := hl
  have hk8 : k ≤ 8 := hM.2.1
  have hk1 : 1 ≤ k := hM.1
  have hiX1 : ∀ w ∈ u_ws RX1 TX1 9, w ∈ wsX1_addMeasure := by decide +kernel
  have hw9 : (Cond.fieldLink RX1 9 "OldMeasures" "bases" "[I").before ([.ref (a 0), .int (nI jx), .int u, .int q] : List Value).toArray s = true := hts _ (by decide +kernel)
  have hw13 : (Cond.fieldLink RX1 13 "OldMeasures" "steps" "[I").before ([.ref (a 0), .int (nI jx), .int u, .int q] : List Value).toArray s = true := hts _ (by decide +kernel)
  have hw16 : (Cond.fieldLink RX1 16 "OldMeasures" "lengths" "[J").before ([.ref (a 0), .int (nI jx), .int u, .int q] : List Value).toArray s = true := hts _ (by decide +kernel)
  have hw33 : (Cond.fieldLink RX1 33 "OldMeasures" "measureCount" "I").before ([.ref (a 0), .int (nI jx), .int u, .int q] : List Value).toArray s = true := hts _ (by decide +kernel)
  refine lv_aload_n hx hb dX1_addMeasure_0 rfl (lv_at hl 0 rfl) ?_
  refine lv_iload_n hx hb dX1_addMeasure_1 rfl (lv_at hl 1 rfl) ?_
  refine ro_v (va_runV (As := [.int (nI jx)]) (rest := []) ⟨hx, hb, hml, hown, hts⟩ (k_X1_needMeasure l D cI cJ cR a k st fi fB fS fO fL c t y fW fD c2 t2 y2 gW gD hk8 jx (by omega)) (cwV 1 hts gX1_addMeasure_X1_needMeasure rfl rfl rfl (by decide +kernel) ⟨Nat.le_of_ble_eq_true rfl, Nat.le_of_ble_eq_true rfl⟩) (preV_ro KC_ok hP hC (va_recv hK hP (ci := 1) (q0 := 0) rfl rfl)) rfl rfl hl.1 rfl (lv_room (Nat.le_of_ble_eq_true rfl)) dX1_addMeasure_2 ⟨by decide, by decide⟩) (fun _ => ?_)
  refine lv_iload_n hx hb dX1_addMeasure_5 rfl (lv_at hl 2 rfl) ?_
  refine lv_iconst (v := 1) hx hb dX1_addMeasure_6 (by decide) ?_
  refine lv_bipush (v := 9) hx hb dX1_addMeasure_7 (by decide) ?_
  refine ro_iE (va_runS (As := [.int u, .int 1, .int 9]) (rest := []) ⟨hx, hb, hml, hown, hts⟩ (c_X1_isOutside l u 1 9) (va_cwS 3 hts gX1_addMeasure_X1_isOutside rfl rfl rfl (by decide +kernel) ⟨Nat.le_of_ble_eq_true rfl, Nat.le_of_ble_eq_true rfl⟩) pre0 rfl rfl hl.1 rfl (lv_room (Nat.le_of_ble_eq_true rfl)) dX1_addMeasure_9 ⟨by decide, by decide⟩) ?_
  refine lv_if_ne (tgt := 25) hx hb dX1_addMeasure_12 (by decide) (fun c_12 => ?_) (fun c_12 => ?_)
  · skip
    have c_12 := bz_1 c_12
    have e1 : (1 : Int32).toInt = 1 := rfl
    have e2 : (9 : Int32).toInt = 9 := rfl
    exfalso; unfold inR at hu9 hq9; omega
  · skip
    have c_12 := bz_0 c_12
    refine lv_iload_n hx hb dX1_addMeasure_15 rfl (lv_at hl 3 rfl) ?_
    refine lv_iconst (v := 1) hx hb dX1_addMeasure_16 (by decide) ?_
    refine lv_bipush (v := 9) hx hb dX1_addMeasure_17 (by decide) ?_
    refine ro_iE (va_runS (As := [.int q, .int 1, .int 9]) (rest := []) ⟨hx, hb, hml, hown, hts⟩ (c_X1_isOutside l q 1 9) (va_cwS 3 hts gX1_addMeasure_X1_isOutside rfl rfl rfl (by decide +kernel) ⟨Nat.le_of_ble_eq_true rfl, Nat.le_of_ble_eq_true rfl⟩) pre0 rfl rfl hl.1 rfl (lv_room (Nat.le_of_ble_eq_true rfl)) dX1_addMeasure_19 ⟨by decide, by decide⟩) ?_
    refine lv_if_eq (tgt := 35) hx hb dX1_addMeasure_22 (by decide) (fun c_22 => ?_) (fun c_22 => ?_)
    · skip
      have c_22 := bz_0 c_22
      refine lv_aload_n hx hb dX1_addMeasure_35 rfl (lv_at hl 0 rfl) ?_
      refine va_get (D := D) (ci := 1) (v := .int (nI k)) (C := RX1) (T := TX1) (N := 9) hx hb hts hiX1 hown hK hP 0 rfl rfl 6 (by decide) hw33 (fun _ h9 => h9) rfl dX1_addMeasure_36 ?_
      refine lv_bipush (v := 8) hx hb dX1_addMeasure_39 (by decide) ?_
      refine lv_icmp_lt (tgt := 54) hx hb dX1_addMeasure_41 (by decide) (fun c_41 => ?_) (fun c_41 => ?_)
      · skip
        simp only [Int32.lt_iff_toInt_lt] at c_41
        rw [nI_toInt (n := k) (by omega)] at c_41
        rw [(by decide : (8 : Int32).toInt = 8)] at c_41
        refine lv_aload_n hx hb dX1_addMeasure_54 rfl (lv_at hl 0 rfl) ?_
        refine va_get (D := D) (ci := 1) (v := .int (nI k)) (C := RX1) (T := TX1) (N := 9) hx hb hts hiX1 hown hK hP 0 rfl rfl 6 (by decide) hw33 (fun _ h9 => h9) rfl dX1_addMeasure_55 ?_
        refine lv_istore (lv' := [(4, .int (nI k)), (0, .ref (a 0)), (1, .int (nI jx)), (2, .int u), (3, .int q)]) hx hb dX1_addMeasure_58 hl (by decide) rfl (fun ls hl => ?_)
        refine lv_aload_n hx hb dX1_addMeasure_60 rfl (lv_at hl 1 rfl) ?_
        refine va_get (D := D) (ci := 1) (v := .ref (a 3)) (C := RX1) (T := TX1) (N := 9) hx hb hts hiX1 hown hK hP 0 rfl rfl 2 (by decide) hw16 (fun _ h9 => h9) rfl dX1_addMeasure_61 ?_
        refine lv_iload_n hx hb dX1_addMeasure_64 rfl (lv_at hl 2 rfl) ?_
        refine xa_lald hx hb hK hP 3 1 rfl rfl (by omega) (by decide) dX1_addMeasure_65 ?_
        refine lv_iload_n hx hb dX1_addMeasure_66 rfl (lv_at hl 3 rfl) ?_
        refine lv_i2l (v := (u).toInt64) hx hb dX1_addMeasure_67 rfl ?_
        refine lv_lmul hx hb dX1_addMeasure_68 ?_
        refine lv_lstore (lv' := [(5, .long ((fL jx) * (u).toInt64)), (4, .int (nI k)), (0, .ref (a 0)), (1, .int (nI jx)), (2, .int u), (3, .int q)]) hx hb dX1_addMeasure_69 hl (by decide) rfl (fun ls hl => ?_)
        refine lv_aload_n hx hb dX1_addMeasure_71 rfl (lv_at hl 2 rfl) ?_
        refine lv_iload_n hx hb dX1_addMeasure_72 rfl (lv_at hl 5 rfl) ?_
        have hFc := va_free (wc := [((a 0), .inr (1, [.ref (a 1), .ref (a 2), .ref (a 3), .ref (a 4), .ref (a 5), .ref (a 8), .int (nI k), .int (nI st), .int fi])), ((a 1), .inl (cI, 8, .inl fB)), ((a 2), .inl (cI, 8, .inl fS)), ((a 3), .inl (cJ, 8, .inr (.inl fL))), ((a 4), .inl (cI, 8, .inl fO)), ((a 5), .inr (0, [.ref (a 6), .ref (a 7), .int (nI c), .int t, .int (nI y)])), ((a 6), .inl (cI, 6, .inl fW)), ((a 7), .inl (cI, 6, .inl fD)), ((a 8), .inr (0, [.ref (a 9), .ref (a 10), .int c2, .int t2, .int y2])), ((a 9), .inl (cI, 6, .inl gW)), ((a 10), .inl (cI, 6, .inl gD))]) hD hS hA [0, 1, 2, 3, 4, 5, 6, 7, 8, 9, 10] rfl
        refine va_callv (va_runV (As := [.int q]) (rest := []) ⟨hx, hb, hml, hown, hts⟩ (c_X1_refineUnit l D cI cJ cR s.heap.size a k st fi fB fS fO fL c t y fW fD c2 t2 y2 gW gD (by omega) q) (cwV 1 hts gX1_addMeasure_X1_refineUnit rfl rfl rfl (by decide +kernel) ⟨Nat.le_of_ble_eq_true rfl, Nat.le_of_ble_eq_true rfl⟩) (preV_wr KM_ok (hP.sub (ws' := [((a 0), .inr (1, [.ref (a 1), .ref (a 2), .ref (a 3), .ref (a 4), .ref (a 5), .ref (a 8), .int (nI k), .int (nI st), .int fi])), ((a 1), .inl (cI, 8, .inl fB)), ((a 2), .inl (cI, 8, .inl fS)), ((a 3), .inl (cJ, 8, .inr (.inl fL))), ((a 4), .inl (cI, 8, .inl fO)), ((a 5), .inr (0, [.ref (a 6), .ref (a 7), .int (nI c), .int t, .int (nI y)])), ((a 6), .inl (cI, 6, .inl fW)), ((a 7), .inl (cI, 6, .inl fD)), ((a 8), .inr (0, [.ref (a 9), .ref (a 10), .int c2, .int t2, .int y2])), ((a 9), .inl (cI, 6, .inl gW)), ((a 10), .inl (cI, 6, .inl gD))]) [0, 1, 2, 3, 4, 5, 6, 7, 8, 9, 10] rfl) (hD.sub (ws' := [((a 0), .inr (1, [.ref (a 1), .ref (a 2), .ref (a 3), .ref (a 4), .ref (a 5), .ref (a 8), .int (nI k), .int (nI st), .int fi])), ((a 1), .inl (cI, 8, .inl fB)), ((a 2), .inl (cI, 8, .inl fS)), ((a 3), .inl (cJ, 8, .inr (.inl fL))), ((a 4), .inl (cI, 8, .inl fO)), ((a 5), .inr (0, [.ref (a 6), .ref (a 7), .int (nI c), .int t, .int (nI y)])), ((a 6), .inl (cI, 6, .inl fW)), ((a 7), .inl (cI, 6, .inl fD)), ((a 8), .inr (0, [.ref (a 9), .ref (a 10), .int c2, .int t2, .int y2])), ((a 9), .inl (cI, 6, .inl gW)), ((a 10), .inl (cI, 6, .inl gD))]) [0, 1, 2, 3, 4, 5, 6, 7, 8, 9, 10] (by decide) rfl) hK (va_recv hK hP (ci := 1) (q0 := 0) rfl rfl)) rfl rfl hl.1 rfl (lv_room (Nat.le_of_ble_eq_true rfl)) dX1_addMeasure_73 ⟨by decide, by decide⟩) hS (fun q _ h => hFc q h) hFc (fun u t9 H1 locs ht hvm hw9 hB hz1 hk1 hS => ?_)
        obtain rfl := hw9
        obtain ⟨hP1, hD1⟩ := hB
        rw [ht] at hP1
        obtain ⟨hP, hD⟩ := va_join (wr := []) (w1 := [((a 0), .inr (1, [.ref (a 1), .ref (a 2), .ref (a 3), .ref (a 4), .ref (a 5), .ref (a 8), .int (nI k), .int (nI st), .int fi])), ((a 1), .inl (cI, 8, .inl fB)), ((a 2), .inl (cI, 8, .inl fS)), ((a 3), .inl (cJ, 8, .inr (.inl (rfU fL (q).toInt64 k)))), ((a 4), .inl (cI, 8, .inl fO)), ((a 5), .inr (0, [.ref (a 6), .ref (a 7), .int (nI c), .int t, .int (nI y)])), ((a 6), .inl (cI, 6, .inl fW)), ((a 7), .inl (cI, 6, .inl fD)), ((a 8), .inr (0, [.ref (a 9), .ref (a 10), .int c2, .int t2, .int y2])), ((a 9), .inl (cI, 6, .inl gW)), ((a 10), .inl (cI, 6, .inl gD))]) hP hD [0, 1, 2, 3, 4, 5, 6, 7, 8, 9, 10] [] rfl rfl (by decide) (by decide) hk1 hFc hP1 hD1
        clear hz1 hk1 ht hvm hFc
        generalize H1 = H at hP hS ⊢
        have hP : va_P D vwCl [((a 0), .inr (1, [.ref (a 1), .ref (a 2), .ref (a 3), .ref (a 4), .ref (a 5), .ref (a 8), .int (nI k), .int (nI st), .int fi])), ((a 1), .inl (cI, 8, .inl fB)), ((a 2), .inl (cI, 8, .inl fS)), ((a 3), .inl (cJ, 8, .inr (.inl (rfU fL (q).toInt64 k)))), ((a 4), .inl (cI, 8, .inl fO)), ((a 5), .inr (0, [.ref (a 6), .ref (a 7), .int (nI c), .int t, .int (nI y)])), ((a 6), .inl (cI, 6, .inl fW)), ((a 7), .inl (cI, 6, .inl fD)), ((a 8), .inr (0, [.ref (a 9), .ref (a 10), .int c2, .int t2, .int y2])), ((a 9), .inl (cI, 6, .inl gW)), ((a 10), .inl (cI, 6, .inl gD))] H := hP
        have hD : va_D A [((a 0), .inr (1, [.ref (a 1), .ref (a 2), .ref (a 3), .ref (a 4), .ref (a 5), .ref (a 8), .int (nI k), .int (nI st), .int fi])), ((a 1), .inl (cI, 8, .inl fB)), ((a 2), .inl (cI, 8, .inl fS)), ((a 3), .inl (cJ, 8, .inr (.inl (rfU fL (q).toInt64 k)))), ((a 4), .inl (cI, 8, .inl fO)), ((a 5), .inr (0, [.ref (a 6), .ref (a 7), .int (nI c), .int t, .int (nI y)])), ((a 6), .inl (cI, 6, .inl fW)), ((a 7), .inl (cI, 6, .inl fD)), ((a 8), .inr (0, [.ref (a 9), .ref (a 10), .int c2, .int t2, .int y2])), ((a 9), .inl (cI, 6, .inl gW)), ((a 10), .inl (cI, 6, .inl gD))] := hD
        refine lv_aload_n hx hb dX1_addMeasure_76 rfl (lv_at hl 2 rfl) ?_
        refine va_get (D := D) (ci := 1) (v := .ref (a 1)) (C := RX1) (T := TX1) (N := 9) hx hb hts hiX1 hown hK hP 0 rfl rfl 0 (by decide) hw9 (fun _ h9 => h9) rfl dX1_addMeasure_77 ?_
        refine lv_iload hx hb dX1_addMeasure_80 (lv_at hl 1 rfl) ?_
        refine lv_iload_n hx hb dX1_addMeasure_82 rfl (lv_at hl 3 rfl) ?_
        refine xa_iast hx hb hK hP hD hS 1 0 rfl rfl (by omega) (by decide) dX1_addMeasure_83 (fun H locs hP hD hS => ?_)
        have hP : va_P D vwCl [((a 0), .inr (1, [.ref (a 1), .ref (a 2), .ref (a 3), .ref (a 4), .ref (a 5), .ref (a 8), .int (nI k), .int (nI st), .int fi])), ((a 1), .inl (cI, 8, .inl (upd fB k (nI jx)))), ((a 2), .inl (cI, 8, .inl fS)), ((a 3), .inl (cJ, 8, .inr (.inl (rfU fL (q).toInt64 k)))), ((a 4), .inl (cI, 8, .inl fO)), ((a 5), .inr (0, [.ref (a 6), .ref (a 7), .int (nI c), .int t, .int (nI y)])), ((a 6), .inl (cI, 6, .inl fW)), ((a 7), .inl (cI, 6, .inl fD)), ((a 8), .inr (0, [.ref (a 9), .ref (a 10), .int c2, .int t2, .int y2])), ((a 9), .inl (cI, 6, .inl gW)), ((a 10), .inl (cI, 6, .inl gD))] H := hP
        have hD : va_D A [((a 0), .inr (1, [.ref (a 1), .ref (a 2), .ref (a 3), .ref (a 4), .ref (a 5), .ref (a 8), .int (nI k), .int (nI st), .int fi])), ((a 1), .inl (cI, 8, .inl (upd fB k (nI jx)))), ((a 2), .inl (cI, 8, .inl fS)), ((a 3), .inl (cJ, 8, .inr (.inl (rfU fL (q).toInt64 k)))), ((a 4), .inl (cI, 8, .inl fO)), ((a 5), .inr (0, [.ref (a 6), .ref (a 7), .int (nI c), .int t, .int (nI y)])), ((a 6), .inl (cI, 6, .inl fW)), ((a 7), .inl (cI, 6, .inl fD)), ((a 8), .inr (0, [.ref (a 9), .ref (a 10), .int c2, .int t2, .int y2])), ((a 9), .inl (cI, 6, .inl gW)), ((a 10), .inl (cI, 6, .inl gD))] := hD
        refine lv_aload_n hx hb dX1_addMeasure_84 rfl (lv_at hl 2 rfl) ?_
        refine va_get (D := D) (ci := 1) (v := .ref (a 2)) (C := RX1) (T := TX1) (N := 9) hx hb hts hiX1 hown hK hP 0 rfl rfl 1 (by decide) hw13 (fun _ h9 => h9) rfl dX1_addMeasure_85 ?_
        refine lv_iload hx hb dX1_addMeasure_88 (lv_at hl 1 rfl) ?_
        refine lv_aload_n hx hb dX1_addMeasure_90 rfl (lv_at hl 2 rfl) ?_
        refine va_get (D := D) (ci := 1) (v := .ref (a 2)) (C := RX1) (T := TX1) (N := 9) hx hb hts hiX1 hown hK hP 0 rfl rfl 1 (by decide) hw13 (fun _ h9 => h9) rfl dX1_addMeasure_91 ?_
        refine lv_iload_n hx hb dX1_addMeasure_94 rfl (lv_at hl 3 rfl) ?_
        refine xa_iald hx hb hK hP 2 0 rfl rfl (by omega) (by decide) dX1_addMeasure_95 ?_
        refine lv_iconst (v := 1) hx hb dX1_addMeasure_96 (by decide) ?_
        refine lv_iadd hx hb dX1_addMeasure_97 ?_
        refine xa_iast hx hb hK hP hD hS 2 0 rfl rfl (by omega) (by decide) dX1_addMeasure_98 (fun H locs hP hD hS => ?_)
        have hP : va_P D vwCl [((a 0), .inr (1, [.ref (a 1), .ref (a 2), .ref (a 3), .ref (a 4), .ref (a 5), .ref (a 8), .int (nI k), .int (nI st), .int fi])), ((a 1), .inl (cI, 8, .inl (upd fB k (nI jx)))), ((a 2), .inl (cI, 8, .inl (upd fS k ((fS jx) + 1)))), ((a 3), .inl (cJ, 8, .inr (.inl (rfU fL (q).toInt64 k)))), ((a 4), .inl (cI, 8, .inl fO)), ((a 5), .inr (0, [.ref (a 6), .ref (a 7), .int (nI c), .int t, .int (nI y)])), ((a 6), .inl (cI, 6, .inl fW)), ((a 7), .inl (cI, 6, .inl fD)), ((a 8), .inr (0, [.ref (a 9), .ref (a 10), .int c2, .int t2, .int y2])), ((a 9), .inl (cI, 6, .inl gW)), ((a 10), .inl (cI, 6, .inl gD))] H := hP
        have hD : va_D A [((a 0), .inr (1, [.ref (a 1), .ref (a 2), .ref (a 3), .ref (a 4), .ref (a 5), .ref (a 8), .int (nI k), .int (nI st), .int fi])), ((a 1), .inl (cI, 8, .inl (upd fB k (nI jx)))), ((a 2), .inl (cI, 8, .inl (upd fS k ((fS jx) + 1)))), ((a 3), .inl (cJ, 8, .inr (.inl (rfU fL (q).toInt64 k)))), ((a 4), .inl (cI, 8, .inl fO)), ((a 5), .inr (0, [.ref (a 6), .ref (a 7), .int (nI c), .int t, .int (nI y)])), ((a 6), .inl (cI, 6, .inl fW)), ((a 7), .inl (cI, 6, .inl fD)), ((a 8), .inr (0, [.ref (a 9), .ref (a 10), .int c2, .int t2, .int y2])), ((a 9), .inl (cI, 6, .inl gW)), ((a 10), .inl (cI, 6, .inl gD))] := hD
        refine lv_aload_n hx hb dX1_addMeasure_99 rfl (lv_at hl 2 rfl) ?_
        refine va_get (D := D) (ci := 1) (v := .ref (a 3)) (C := RX1) (T := TX1) (N := 9) hx hb hts hiX1 hown hK hP 0 rfl rfl 2 (by decide) hw16 (fun _ h9 => h9) rfl dX1_addMeasure_100 ?_
        refine lv_iload hx hb dX1_addMeasure_103 (lv_at hl 1 rfl) ?_
        refine lv_lload hx hb dX1_addMeasure_105 (lv_at hl 0 rfl) ?_
        refine xa_last hx hb hK hP hD hS 3 1 rfl rfl (by omega) (by decide) dX1_addMeasure_107 (fun H locs hP hD hS => ?_)
        have hP : va_P D vwCl [((a 0), .inr (1, [.ref (a 1), .ref (a 2), .ref (a 3), .ref (a 4), .ref (a 5), .ref (a 8), .int (nI k), .int (nI st), .int fi])), ((a 1), .inl (cI, 8, .inl (upd fB k (nI jx)))), ((a 2), .inl (cI, 8, .inl (upd fS k ((fS jx) + 1)))), ((a 3), .inl (cJ, 8, .inr (.inl (vp_updL (rfU fL (q).toInt64 k) k ((fL jx) * (u).toInt64))))), ((a 4), .inl (cI, 8, .inl fO)), ((a 5), .inr (0, [.ref (a 6), .ref (a 7), .int (nI c), .int t, .int (nI y)])), ((a 6), .inl (cI, 6, .inl fW)), ((a 7), .inl (cI, 6, .inl fD)), ((a 8), .inr (0, [.ref (a 9), .ref (a 10), .int c2, .int t2, .int y2])), ((a 9), .inl (cI, 6, .inl gW)), ((a 10), .inl (cI, 6, .inl gD))] H := hP
        have hD : va_D A [((a 0), .inr (1, [.ref (a 1), .ref (a 2), .ref (a 3), .ref (a 4), .ref (a 5), .ref (a 8), .int (nI k), .int (nI st), .int fi])), ((a 1), .inl (cI, 8, .inl (upd fB k (nI jx)))), ((a 2), .inl (cI, 8, .inl (upd fS k ((fS jx) + 1)))), ((a 3), .inl (cJ, 8, .inr (.inl (vp_updL (rfU fL (q).toInt64 k) k ((fL jx) * (u).toInt64))))), ((a 4), .inl (cI, 8, .inl fO)), ((a 5), .inr (0, [.ref (a 6), .ref (a 7), .int (nI c), .int t, .int (nI y)])), ((a 6), .inl (cI, 6, .inl fW)), ((a 7), .inl (cI, 6, .inl fD)), ((a 8), .inr (0, [.ref (a 9), .ref (a 10), .int c2, .int t2, .int y2])), ((a 9), .inl (cI, 6, .inl gW)), ((a 10), .inl (cI, 6, .inl gD))] := hD
        refine lv_aload_n hx hb dX1_addMeasure_108 rfl (lv_at hl 2 rfl) ?_
        refine lv_iload hx hb dX1_addMeasure_109 (lv_at hl 1 rfl) ?_
        refine lv_iconst (v := 1) hx hb dX1_addMeasure_111 (by decide) ?_
        refine lv_iadd hx hb dX1_addMeasure_112 ?_
        refine topI (nI_1 k) ?_
        refine va_put (D := D) (ci := 1) (v := .int (nI (k + 1))) (ty := .int) (C := RX1) (T := TX1) (N := 9) hx hb hts hiX1 tyX1 tyX1_ok nmX1 hown hK hP hD hS 0 rfl rfl 6 (by decide) hw33 (fun _ h9 => h9) rfl (by decide +kernel) rfl rfl (Nat.le_of_ble_eq_true rfl) dX1_addMeasure_113 (fun H locs hP hD hS => ?_)
        have hP : va_P D vwCl [((a 0), .inr (1, [.ref (a 1), .ref (a 2), .ref (a 3), .ref (a 4), .ref (a 5), .ref (a 8), .int (nI (k + 1)), .int (nI st), .int fi])), ((a 1), .inl (cI, 8, .inl (upd fB k (nI jx)))), ((a 2), .inl (cI, 8, .inl (upd fS k ((fS jx) + 1)))), ((a 3), .inl (cJ, 8, .inr (.inl (vp_updL (rfU fL (q).toInt64 k) k ((fL jx) * (u).toInt64))))), ((a 4), .inl (cI, 8, .inl fO)), ((a 5), .inr (0, [.ref (a 6), .ref (a 7), .int (nI c), .int t, .int (nI y)])), ((a 6), .inl (cI, 6, .inl fW)), ((a 7), .inl (cI, 6, .inl fD)), ((a 8), .inr (0, [.ref (a 9), .ref (a 10), .int c2, .int t2, .int y2])), ((a 9), .inl (cI, 6, .inl gW)), ((a 10), .inl (cI, 6, .inl gD))] H := hP
        have hD : va_D A [((a 0), .inr (1, [.ref (a 1), .ref (a 2), .ref (a 3), .ref (a 4), .ref (a 5), .ref (a 8), .int (nI (k + 1)), .int (nI st), .int fi])), ((a 1), .inl (cI, 8, .inl (upd fB k (nI jx)))), ((a 2), .inl (cI, 8, .inl (upd fS k ((fS jx) + 1)))), ((a 3), .inl (cJ, 8, .inr (.inl (vp_updL (rfU fL (q).toInt64 k) k ((fL jx) * (u).toInt64))))), ((a 4), .inl (cI, 8, .inl fO)), ((a 5), .inr (0, [.ref (a 6), .ref (a 7), .int (nI c), .int t, .int (nI y)])), ((a 6), .inl (cI, 6, .inl fW)), ((a 7), .inl (cI, 6, .inl fD)), ((a 8), .inr (0, [.ref (a 9), .ref (a 10), .int c2, .int t2, .int y2])), ((a 9), .inl (cI, 6, .inl gW)), ((a 10), .inl (cI, 6, .inl gD))] := hD
        refine lv_aload_n hx hb dX1_addMeasure_116 rfl (lv_at hl 2 rfl) ?_
        have hFc := va_free (wc := [((a 0), .inr (1, [.ref (a 1), .ref (a 2), .ref (a 3), .ref (a 4), .ref (a 5), .ref (a 8), .int (nI (k + 1)), .int (nI st), .int fi])), ((a 1), .inl (cI, 8, .inl (upd fB k (nI jx)))), ((a 2), .inl (cI, 8, .inl (upd fS k ((fS jx) + 1)))), ((a 3), .inl (cJ, 8, .inr (.inl (vp_updL (rfU fL (q).toInt64 k) k ((fL jx) * (u).toInt64))))), ((a 4), .inl (cI, 8, .inl fO)), ((a 5), .inr (0, [.ref (a 6), .ref (a 7), .int (nI c), .int t, .int (nI y)])), ((a 6), .inl (cI, 6, .inl fW)), ((a 7), .inl (cI, 6, .inl fD)), ((a 8), .inr (0, [.ref (a 9), .ref (a 10), .int c2, .int t2, .int y2])), ((a 9), .inl (cI, 6, .inl gW)), ((a 10), .inl (cI, 6, .inl gD))]) hD hS hA [0, 1, 2, 3, 4, 5, 6, 7, 8, 9, 10] rfl
        refine va_callv (va_runV (As := []) (rest := []) ⟨hx, hb, hml, hown, hts⟩ (c_X1_rankLast l D cI cJ cR H.size a (k + 1) st fi (upd fB k (nI jx)) (upd fS k ((fS jx) + 1)) fO (vp_updL (rfU fL (q).toInt64 k) k ((fL jx) * (u).toInt64)) c t y fW fD c2 t2 y2 gW gD k rfl (by omega) (fun j hj => hM.at hj)) (cwV 0 hts gX1_addMeasure_X1_rankLast rfl rfl rfl (by decide +kernel) ⟨Nat.le_of_ble_eq_true rfl, Nat.le_of_ble_eq_true rfl⟩) (preV_wr KM_ok (hP.sub (ws' := [((a 0), .inr (1, [.ref (a 1), .ref (a 2), .ref (a 3), .ref (a 4), .ref (a 5), .ref (a 8), .int (nI (k + 1)), .int (nI st), .int fi])), ((a 1), .inl (cI, 8, .inl (upd fB k (nI jx)))), ((a 2), .inl (cI, 8, .inl (upd fS k ((fS jx) + 1)))), ((a 3), .inl (cJ, 8, .inr (.inl (vp_updL (rfU fL (q).toInt64 k) k ((fL jx) * (u).toInt64))))), ((a 4), .inl (cI, 8, .inl fO)), ((a 5), .inr (0, [.ref (a 6), .ref (a 7), .int (nI c), .int t, .int (nI y)])), ((a 6), .inl (cI, 6, .inl fW)), ((a 7), .inl (cI, 6, .inl fD)), ((a 8), .inr (0, [.ref (a 9), .ref (a 10), .int c2, .int t2, .int y2])), ((a 9), .inl (cI, 6, .inl gW)), ((a 10), .inl (cI, 6, .inl gD))]) [0, 1, 2, 3, 4, 5, 6, 7, 8, 9, 10] rfl) (hD.sub (ws' := [((a 0), .inr (1, [.ref (a 1), .ref (a 2), .ref (a 3), .ref (a 4), .ref (a 5), .ref (a 8), .int (nI (k + 1)), .int (nI st), .int fi])), ((a 1), .inl (cI, 8, .inl (upd fB k (nI jx)))), ((a 2), .inl (cI, 8, .inl (upd fS k ((fS jx) + 1)))), ((a 3), .inl (cJ, 8, .inr (.inl (vp_updL (rfU fL (q).toInt64 k) k ((fL jx) * (u).toInt64))))), ((a 4), .inl (cI, 8, .inl fO)), ((a 5), .inr (0, [.ref (a 6), .ref (a 7), .int (nI c), .int t, .int (nI y)])), ((a 6), .inl (cI, 6, .inl fW)), ((a 7), .inl (cI, 6, .inl fD)), ((a 8), .inr (0, [.ref (a 9), .ref (a 10), .int c2, .int t2, .int y2])), ((a 9), .inl (cI, 6, .inl gW)), ((a 10), .inl (cI, 6, .inl gD))]) [0, 1, 2, 3, 4, 5, 6, 7, 8, 9, 10] (by decide) rfl) hK (va_recv hK hP (ci := 1) (q0 := 0) rfl rfl)) rfl rfl hl.1 rfl (lv_room (Nat.le_of_ble_eq_true rfl)) dX1_addMeasure_117 ⟨by decide, by decide⟩) hS (fun q _ h => hFc q h) hFc (fun u t9 H1 locs ht hvm hw9 hB hz1 hk1 hS => ?_)
        obtain rfl := hw9
        obtain ⟨hP1, hD1⟩ := hB
        rw [ht] at hP1
        obtain ⟨hP, hD⟩ := va_join (wr := []) (w1 := [((a 0), .inr (1, [.ref (a 1), .ref (a 2), .ref (a 3), .ref (a 4), .ref (a 5), .ref (a 8), .int (nI (k + 1)), .int (nI st), .int fi])), ((a 1), .inl (cI, 8, .inl (upd fB k (nI jx)))), ((a 2), .inl (cI, 8, .inl (upd fS k ((fS jx) + 1)))), ((a 3), .inl (cJ, 8, .inr (.inl (vp_updL (rfU fL (q).toInt64 k) k ((fL jx) * (u).toInt64))))), ((a 4), .inl (cI, 8, .inl (insO (vp_updL (rfU fL (q).toInt64 k) k ((fL jx) * (u).toInt64)) ((vp_updL (rfU fL (q).toInt64 k) k ((fL jx) * (u).toInt64)) k) (nI k) k fO))), ((a 5), .inr (0, [.ref (a 6), .ref (a 7), .int (nI c), .int t, .int (nI y)])), ((a 6), .inl (cI, 6, .inl fW)), ((a 7), .inl (cI, 6, .inl fD)), ((a 8), .inr (0, [.ref (a 9), .ref (a 10), .int c2, .int t2, .int y2])), ((a 9), .inl (cI, 6, .inl gW)), ((a 10), .inl (cI, 6, .inl gD))]) hP hD [0, 1, 2, 3, 4, 5, 6, 7, 8, 9, 10] [] rfl rfl (by decide) (by decide) hk1 hFc hP1 hD1
        clear hz1 hk1 ht hvm hFc
        generalize H1 = H at hP hS ⊢
        have hP : va_P D vwCl [((a 0), .inr (1, [.ref (a 1), .ref (a 2), .ref (a 3), .ref (a 4), .ref (a 5), .ref (a 8), .int (nI (k + 1)), .int (nI st), .int fi])), ((a 1), .inl (cI, 8, .inl (upd fB k (nI jx)))), ((a 2), .inl (cI, 8, .inl (upd fS k ((fS jx) + 1)))), ((a 3), .inl (cJ, 8, .inr (.inl (vp_updL (rfU fL (q).toInt64 k) k ((fL jx) * (u).toInt64))))), ((a 4), .inl (cI, 8, .inl (insO (vp_updL (rfU fL (q).toInt64 k) k ((fL jx) * (u).toInt64)) ((vp_updL (rfU fL (q).toInt64 k) k ((fL jx) * (u).toInt64)) k) (nI k) k fO))), ((a 5), .inr (0, [.ref (a 6), .ref (a 7), .int (nI c), .int t, .int (nI y)])), ((a 6), .inl (cI, 6, .inl fW)), ((a 7), .inl (cI, 6, .inl fD)), ((a 8), .inr (0, [.ref (a 9), .ref (a 10), .int c2, .int t2, .int y2])), ((a 9), .inl (cI, 6, .inl gW)), ((a 10), .inl (cI, 6, .inl gD))] H := hP
        have hD : va_D A [((a 0), .inr (1, [.ref (a 1), .ref (a 2), .ref (a 3), .ref (a 4), .ref (a 5), .ref (a 8), .int (nI (k + 1)), .int (nI st), .int fi])), ((a 1), .inl (cI, 8, .inl (upd fB k (nI jx)))), ((a 2), .inl (cI, 8, .inl (upd fS k ((fS jx) + 1)))), ((a 3), .inl (cJ, 8, .inr (.inl (vp_updL (rfU fL (q).toInt64 k) k ((fL jx) * (u).toInt64))))), ((a 4), .inl (cI, 8, .inl (insO (vp_updL (rfU fL (q).toInt64 k) k ((fL jx) * (u).toInt64)) ((vp_updL (rfU fL (q).toInt64 k) k ((fL jx) * (u).toInt64)) k) (nI k) k fO))), ((a 5), .inr (0, [.ref (a 6), .ref (a 7), .int (nI c), .int t, .int (nI y)])), ((a 6), .inl (cI, 6, .inl fW)), ((a 7), .inl (cI, 6, .inl fD)), ((a 8), .inr (0, [.ref (a 9), .ref (a 10), .int c2, .int t2, .int y2])), ((a 9), .inl (cI, 6, .inl gW)), ((a 10), .inl (cI, 6, .inl gD))] := hD
        refine lv_iload hx hb dX1_addMeasure_120 (lv_at hl 1 rfl) ?_
        exact W.iret (v := (nI k)) hx hb hr (fun t9 ht hW => ⟨⟨(nI k), [((a 0), .inr (1, [.ref (a 1), .ref (a 2), .ref (a 3), .ref (a 4), .ref (a 5), .ref (a 8), .int (nI (k + 1)), .int (nI st), .int fi])), ((a 1), .inl (cI, 8, .inl (upd fB k (nI jx)))), ((a 2), .inl (cI, 8, .inl (upd fS k ((fS jx) + 1)))), ((a 3), .inl (cJ, 8, .inr (.inl (vp_updL (rfU fL (q).toInt64 k) k ((fL jx) * (u).toInt64))))), ((a 4), .inl (cI, 8, .inl (insO (vp_updL (rfU fL (q).toInt64 k) k ((fL jx) * (u).toInt64)) ((vp_updL (rfU fL (q).toInt64 k) k ((fL jx) * (u).toInt64)) k) (nI k) k fO))), ((a 5), .inr (0, [.ref (a 6), .ref (a 7), .int (nI c), .int t, .int (nI y)])), ((a 6), .inl (cI, 6, .inl fW)), ((a 7), .inl (cI, 6, .inl fD)), ((a 8), .inr (0, [.ref (a 9), .ref (a 10), .int c2, .int t2, .int y2])), ((a 9), .inl (cI, 6, .inl gW)), ((a 10), .inl (cI, 6, .inl gD))], rfl, ⟨rfl, rfl⟩, by rw [ht]; exact hP, hD⟩, hS.F ht⟩) hS.2.2 dX1_addMeasure_122
      · skip
        simp only [Int32.lt_iff_toInt_lt] at c_41
        rw [nI_toInt (n := k) (by omega)] at c_41
        rw [(by decide : (8 : Int32).toInt = 8)] at c_41
        exfalso; omega
    · skip
      have c_22 := bz_1 c_22
      have e1 : (1 : Int32).toInt = 1 := rfl
      have e2 : (9 : Int32).toInt = 9 := rfl
      exfalso; unfold inR at hu9 hq9; omega

set_option maxHeartbeats 4000000 in
set_option maxRecDepth 100000 in
theorem c_X0_init (l : Launch) (D : va_G) (cI cJ cR : ClassId) (sz : Nat) (h : Nat) : Met l yX0_init wsX0_init ({ frames := 1, cells := 2, slots := 12, locals := 12 }) (cPw D [(h, .inr (0, [.null, .null, .int 0, .int 0, .int 0]))] sz (KM D cI cJ cR) [.ref h]) (wrv D [(h, .inr (0, [.null, .null, .int 0, .int 0, .int 0]))] sz (fun ws' => ∃ hw hd, ws' = [(h, .inr (0, [.ref hw, .ref hd, .int 0, .int 10, .int 0])), (hw, .inl (cI, 6, .inl (fun _ => (0 : Int32)))), (hd, .inl (cI, 6, .inl (fun _ => (0 : Int32))))])) 2 12 (va_A [(h, .inr (0, [.null, .null, .int 0, .int 0, .int 0]))] sz) := by
  refine Met.ofW (cc := cX0_init) (maxL := 1) (ret := none) (by decide +kernel) rfl ?_
  intro p e s m args below meth c9 s₁ B hml hv
  obtain ⟨rfl, hsz, hP, hD0, hC⟩ := hv
  have hx := B.exec
  have hb := B.bytes
  have hr := B.returns
  have hts := atoms_spec (ws := wsX0_init) B.pre
  have hown : s.vm.findClass RX0 = some m.cls := findClass_of_methodNamed B.named
  have hlocks := B.notSynchronized
  have hin : meth.name = "<init>" := (name_of_methodNamed B.named B.method).1
  have hK : va_K D vwCl [(cI, .int), (cJ, .long), (cR, .array .int)] s := hC
  subst hsz
  unfold wrv wB
  have hD := hD0.self (sz := s.heap.size)
  generalize hAe : va_A [(h, .inr (0, [.null, .null, .int 0, .int 0, .int 0]))] s.heap.size = A at hD ⊢
  have hA : ∀ q : Nat, s.heap.size ≤ q → A q := fun q h => by rw [← hAe]; exact Or.inr h
  have hS : va_S A s.heap s.heap [] := va_S.rf
  have hl := lv_entry ([.ref h]) (n := 1) (Nat.le_of_ble_eq_true rfl)
  rw [lg_entry_eq]
  generalize (lg_sl ([.ref h]) ++ List.replicate (1 - (lg_sl ([.ref h])).length) Slot.unset).toArray = ls at hl ⊢
  have hl : lv_has ls 1 [(0, .ref h)] := hl
  have hiX0 : ∀ w ∈ u_ws RX0 TX0 5, w ∈ wsX0_init := by decide +kernel
  have hw9 : (Cond.fieldLink RX0 9 "OldMeasures$Stalls" "wears" "[I").before ([.ref h] : List Value).toArray s = true := hts _ (by decide +kernel)
  have hw15 : (Cond.fieldLink RX0 15 "OldMeasures$Stalls" "drifts" "[I").before ([.ref h] : List Value).toArray s = true := hts _ (by decide +kernel)
  have hw18 : (Cond.fieldLink RX0 18 "OldMeasures$Stalls" "tolerance" "I").before ([.ref h] : List Value).toArray s = true := hts _ (by decide +kernel)
  refine lv_aload_n hx hb dX0_init_0 rfl (lv_at hl 0 rfl) ?_
  refine W.objInit hx hb hown (hts (.methodLink RX0 3 objectInit) (by decide +kernel)) (hts (.instanceMethod objectInit) (by decide +kernel)) (hts (.code objectInit ⟨#[0xb1]⟩ 1 none) (by decide +kernel)) rfl (by rw [hml]; exact hl.1) rfl dX0_init_1 (Nat.le_of_ble_eq_true rfl) (Nat.le_of_ble_eq_true rfl) ?_
  refine W.eq (g2 := F0 m 4 ls []) rfl ?_
  refine lv_aload_n hx hb dX0_init_4 rfl (lv_at hl 0 rfl) ?_
  refine lv_bipush (v := 6) hx hb dX0_init_5 (by decide) ?_
  refine xa_newaI (N := 6) hx hb (hts (.arrayClass .int) (by decide +kernel)) hK 0 rfl hP hD hS hA (by decide) (by decide +kernel) (by decide) (by decide) (by decide) dX0_init_7 (fun q_7 H hP hD hS => ?_)
  have hP : va_P D vwCl [(h, .inr (0, [.null, .null, .int 0, .int 0, .int 0])), (q_7, .inl (cI, 6, .inl (fun _ => (0 : Int32))))] H := hP
  have hD : va_D A [(h, .inr (0, [.null, .null, .int 0, .int 0, .int 0])), (q_7, .inl (cI, 6, .inl (fun _ => (0 : Int32))))] := hD
  refine va_putF (D := D) (ci := 0) (v := .ref q_7) (ty := .array .int) (C := RX0) (T := TX0) (N := 5) hx hb hts hiX0 tyX0 tyX0_ok nmX0 hown hK hP hD hS 0 rfl rfl 0 (by decide) hw9 (fun _ h9 => h9) rfl hin rfl (by decide +kernel) rfl rfl (Nat.le_of_ble_eq_true rfl) dX0_init_9 (fun H locs hP hD hS => ?_)
  have hP : va_P D vwCl [(h, .inr (0, [.ref q_7, .null, .int 0, .int 0, .int 0])), (q_7, .inl (cI, 6, .inl (fun _ => (0 : Int32))))] H := hP
  have hD : va_D A [(h, .inr (0, [.ref q_7, .null, .int 0, .int 0, .int 0])), (q_7, .inl (cI, 6, .inl (fun _ => (0 : Int32))))] := hD
  refine lv_aload_n hx hb dX0_init_12 rfl (lv_at hl 0 rfl) ?_
  refine lv_bipush (v := 6) hx hb dX0_init_13 (by decide) ?_
  refine xa_newaI (N := 6) hx hb (hts (.arrayClass .int) (by decide +kernel)) hK 0 rfl hP hD hS hA (by decide) (by decide +kernel) (by decide) (by decide) (by decide) dX0_init_15 (fun q_15 H hP hD hS => ?_)
  have hP : va_P D vwCl [(h, .inr (0, [.ref q_7, .null, .int 0, .int 0, .int 0])), (q_7, .inl (cI, 6, .inl (fun _ => (0 : Int32)))), (q_15, .inl (cI, 6, .inl (fun _ => (0 : Int32))))] H := hP
  have hD : va_D A [(h, .inr (0, [.ref q_7, .null, .int 0, .int 0, .int 0])), (q_7, .inl (cI, 6, .inl (fun _ => (0 : Int32)))), (q_15, .inl (cI, 6, .inl (fun _ => (0 : Int32))))] := hD
  refine va_putF (D := D) (ci := 0) (v := .ref q_15) (ty := .array .int) (C := RX0) (T := TX0) (N := 5) hx hb hts hiX0 tyX0 tyX0_ok nmX0 hown hK hP hD hS 0 rfl rfl 1 (by decide) hw15 (fun _ h9 => h9) rfl hin rfl (by decide +kernel) rfl rfl (Nat.le_of_ble_eq_true rfl) dX0_init_17 (fun H locs hP hD hS => ?_)
  have hP : va_P D vwCl [(h, .inr (0, [.ref q_7, .ref q_15, .int 0, .int 0, .int 0])), (q_7, .inl (cI, 6, .inl (fun _ => (0 : Int32)))), (q_15, .inl (cI, 6, .inl (fun _ => (0 : Int32))))] H := hP
  have hD : va_D A [(h, .inr (0, [.ref q_7, .ref q_15, .int 0, .int 0, .int 0])), (q_7, .inl (cI, 6, .inl (fun _ => (0 : Int32)))), (q_15, .inl (cI, 6, .inl (fun _ => (0 : Int32))))] := hD
  refine lv_aload_n hx hb dX0_init_20 rfl (lv_at hl 0 rfl) ?_
  refine lv_bipush (v := 10) hx hb dX0_init_21 (by decide) ?_
  refine va_put (D := D) (ci := 0) (v := .int 10) (ty := .int) (C := RX0) (T := TX0) (N := 5) hx hb hts hiX0 tyX0 tyX0_ok nmX0 hown hK hP hD hS 0 rfl rfl 3 (by decide) hw18 (fun _ h9 => h9) rfl (by decide +kernel) rfl rfl (Nat.le_of_ble_eq_true rfl) dX0_init_23 (fun H locs hP hD hS => ?_)
  have hP : va_P D vwCl [(h, .inr (0, [.ref q_7, .ref q_15, .int 0, .int 10, .int 0])), (q_7, .inl (cI, 6, .inl (fun _ => (0 : Int32)))), (q_15, .inl (cI, 6, .inl (fun _ => (0 : Int32))))] H := hP
  have hD : va_D A [(h, .inr (0, [.ref q_7, .ref q_15, .int 0, .int 10, .int 0])), (q_7, .inl (cI, 6, .inl (fun _ => (0 : Int32)))), (q_15, .inl (cI, 6, .inl (fun _ => (0 : Int32))))] := hD
  exact W.vret hx hb hr (fun t9 ht hW => ⟨⟨[(h, .inr (0, [.ref q_7, .ref q_15, .int 0, .int 10, .int 0])), (q_7, .inl (cI, 6, .inl (fun _ => (0 : Int32)))), (q_15, .inl (cI, 6, .inl (fun _ => (0 : Int32))))], rfl, ⟨_, _, rfl⟩, by rw [ht]; exact hP, hD⟩, hS.F ht⟩) hS.2.2 dX0_init_26

