theorem e7L : (7 : Int32).toInt64 = (7 : Int64) := by decide +kernel
theorem e0L : (0 : Int32).toInt64 = (0 : Int64) := by decide +kernel
theorem e1L : (1 : Int32).toInt64 = (1 : Int64) := by decide +kernel

set_option maxHeartbeats 4000000 in
set_option maxRecDepth 100000 in
theorem c_X2_digest (l : Launch) (D : va_G) (cI cJ : ClassId) (sz : Nat) (b : Nat → Nat) (th : Int32) (k st c : Nat) (t : Int32) (lf : Int64) (mB mM mP : Nat → Int32) (mL : Nat → Int64) (mO fW : Nat → Int32) (y : Nat) (fi : Int32) (fD mK : Nat → Int32) (hM : MOk k mL mO) (hst2 : st < k) (hQ : MPm k mO) (hc : c ≤ 6) (hD3 : ∀ j, j < c → -300 ≤ (fD j).toInt ∧ (fD j).toInt ≤ 300) (hy : y < 2 ^ 27) : Met l yX2_digest wsX2_digest ({ frames := 5, cells := 1, slots := 10, locals := 150 }) (cPw D [((b 0), .inr (2, [.int th, .int (nI k), .ref (b 1), .ref (b 2), .ref (b 3), .ref (b 4), .ref (b 5), .int (nI st), .int (nI c), .ref (b 6), .int t, .ref (b 7), .ref (b 8), .long lf])), ((b 1), .inl (cI, 8, .inl mB)), ((b 2), .inl (cI, 8, .inl mM)), ((b 3), .inl (cI, 8, .inl mP)), ((b 4), .inl (cJ, 8, .inr (.inl mL))), ((b 5), .inl (cI, 8, .inl mO)), ((b 6), .inl (cI, 6, .inl fW)), ((b 7), .inl (cI, 8, .inl (nwF y fi fD))), ((b 8), .inl (cI, 8, .inl mK))] sz (KM D cI cJ) [.ref (b 0)]) (wrl D [((b 0), .inr (2, [.int th, .int (nI k), .ref (b 1), .ref (b 2), .ref (b 3), .ref (b 4), .ref (b 5), .int (nI st), .int (nI c), .ref (b 6), .int t, .ref (b 7), .ref (b 8), .long lf])), ((b 1), .inl (cI, 8, .inl mB)), ((b 2), .inl (cI, 8, .inl mM)), ((b 3), .inl (cI, 8, .inl mP)), ((b 4), .inl (cJ, 8, .inr (.inl mL))), ((b 5), .inl (cI, 8, .inl mO)), ((b 6), .inl (cI, 6, .inl fW)), ((b 7), .inl (cI, 8, .inl (nwF y fi fD))), ((b 8), .inl (cI, 8, .inl mK))] sz (fun r ws' => r = dgSs mL st c t y fW fD (dgMs mB mO mL k st (dg0 fi mO mL k st c t y fD) k) c ∧ ∃ lf9 mK9, ws' = [((b 0), .inr (2, [.int 0, .int (nI k), .ref (b 1), .ref (b 2), .ref (b 3), .ref (b 4), .ref (b 5), .int (nI st), .int (nI c), .ref (b 6), .int t, .ref (b 7), .ref (b 8), .long lf9])), ((b 1), .inl (cI, 8, .inl mB)), ((b 2), .inl (cI, 8, .inl mM)), ((b 3), .inl (cI, 8, .inl mP)), ((b 4), .inl (cJ, 8, .inr (.inl mL))), ((b 5), .inl (cI, 8, .inl mO)), ((b 6), .inl (cI, 6, .inl fW)), ((b 7), .inl (cI, 8, .inl (nwF y fi fD))), ((b 8), .inl (cI, 8, .inl mK9))])) 1 10 (va_A [((b 0), .inr (2, [.int th, .int (nI k), .ref (b 1), .ref (b 2), .ref (b 3), .ref (b 4), .ref (b 5), .int (nI st), .int (nI c), .ref (b 6), .int t, .ref (b 7), .ref (b 8), .long lf])), ((b 1), .inl (cI, 8, .inl mB)), ((b 2), .inl (cI, 8, .inl mM)), ((b 3), .inl (cI, 8, .inl mP)), ((b 4), .inl (cJ, 8, .inr (.inl mL))), ((b 5), .inl (cI, 8, .inl mO)), ((b 6), .inl (cI, 6, .inl fW)), ((b 7), .inl (cI, 8, .inl (nwF y fi fD))), ((b 8), .inl (cI, 8, .inl mK))] sz) := by
  refine Met.ofW (cc := cX2_digest) (maxL := 8) (ret := (some .long)) (by decide +kernel) rfl ?_
  intro p e s m args below meth c9 s₁ B hml hv
  obtain ⟨rfl, hsz, hP, hD0, hC⟩ := hv
  have hx := B.exec
  have hb := B.bytes
  have hr := B.returns
  have hts := atoms_spec (ws := wsX2_digest) B.pre
  have hown : s.vm.findClass RX2 = some m.cls := findClass_of_methodNamed B.named
  have hlocks := B.notSynchronized
  have hK : va_K D vwCl [(cI, .int), (cJ, .long)] s := hC
  subst hsz
  unfold wrl wB
  have hD := hD0.self (sz := s.heap.size)
  generalize hAe : va_A [((b 0), .inr (2, [.int th, .int (nI k), .ref (b 1), .ref (b 2), .ref (b 3), .ref (b 4), .ref (b 5), .int (nI st), .int (nI c), .ref (b 6), .int t, .ref (b 7), .ref (b 8), .long lf])), ((b 1), .inl (cI, 8, .inl mB)), ((b 2), .inl (cI, 8, .inl mM)), ((b 3), .inl (cI, 8, .inl mP)), ((b 4), .inl (cJ, 8, .inr (.inl mL))), ((b 5), .inl (cI, 8, .inl mO)), ((b 6), .inl (cI, 6, .inl fW)), ((b 7), .inl (cI, 8, .inl (nwF y fi fD))), ((b 8), .inl (cI, 8, .inl mK))] s.heap.size = A at hD ⊢
  have hA : ∀ q : Nat, s.heap.size ≤ q → A q := fun q h => by rw [← hAe]; exact Or.inr h
  have hS : va_S A s.heap s.heap [] := va_S.rf
  have hl := lv_entry ([.ref (b 0)]) (n := 8) (Nat.le_of_ble_eq_true rfl)
  rw [lg_entry_eq]
  generalize (lg_sl ([.ref (b 0)]) ++ List.replicate (8 - (lg_sl ([.ref (b 0)])).length) Slot.unset).toArray = ls at hl ⊢
  have hl : lv_has ls 8 [(0, .ref (b 0))] := hl
  have hk8 : k ≤ 8 := hM.2.1
  have hk1 : 1 ≤ k := hM.1
  have h7w : inR 1 200 7 := by have e1 : (7 : Int32).toInt = 7 := rfl; unfold inR; omega
  have h5w : inR 1 200 5 := by have e1 : (5 : Int32).toInt = 5 := rfl; unfold inR; omega
  have hiX2 : ∀ w ∈ u_ws RX2 TX2 14, w ∈ wsX2_digest := by decide +kernel
  have hw7 : (Cond.fieldLink RX2 7 "OldMeasuresModel" "measures" "I").before ([.ref (b 0)] : List Value).toArray s = true := hts _ (by decide +kernel)
  have hw13 : (Cond.fieldLink RX2 13 "OldMeasuresModel" "base" "[I").before ([.ref (b 0)] : List Value).toArray s = true := hts _ (by decide +kernel)
  have hw23 : (Cond.fieldLink RX2 23 "OldMeasuresModel" "length" "[J").before ([.ref (b 0)] : List Value).toArray s = true := hts _ (by decide +kernel)
  have hw27 : (Cond.fieldLink RX2 27 "OldMeasuresModel" "order" "[I").before ([.ref (b 0)] : List Value).toArray s = true := hts _ (by decide +kernel)
  have hw30 : (Cond.fieldLink RX2 30 "OldMeasuresModel" "wear" "[I").before ([.ref (b 0)] : List Value).toArray s = true := hts _ (by decide +kernel)
  have hw33 : (Cond.fieldLink RX2 33 "OldMeasuresModel" "tolerance" "I").before ([.ref (b 0)] : List Value).toArray s = true := hts _ (by decide +kernel)
  have hw36 : (Cond.fieldLink RX2 36 "OldMeasuresModel" "now" "[I").before ([.ref (b 0)] : List Value).toArray s = true := hts _ (by decide +kernel)
  have hw42 : (Cond.fieldLink RX2 42 "OldMeasuresModel" "thrown" "I").before ([.ref (b 0)] : List Value).toArray s = true := hts _ (by decide +kernel)
  have hw49 : (Cond.fieldLink RX2 49 "OldMeasuresModel" "stalls" "I").before ([.ref (b 0)] : List Value).toArray s = true := hts _ (by decide +kernel)
  have hw88 : (Cond.fieldLink RX2 88 "OldMeasuresModel" "standard" "I").before ([.ref (b 0)] : List Value).toArray s = true := hts _ (by decide +kernel)
  refine lv_aload_n hx hb dX2_digest_0 rfl (lv_at hl 0 rfl) ?_
  refine lv_iconst (v := 0) hx hb dX2_digest_1 (by decide) ?_
  refine va_put (D := D) (ci := 2) (v := .int 0) (ty := .int) (C := RX2) (T := TX2) (N := 14) hx hb hts hiX2 tyX2 tyX2_ok nmX2 hown hK hP hD hS 0 rfl rfl 0 (by decide) hw42 (fun _ h9 => h9) rfl (by decide +kernel) rfl rfl (Nat.le_of_ble_eq_true rfl) dX2_digest_2 (fun H locs hP hD hS => ?_)
  have hP : va_P D vwCl [((b 0), .inr (2, [.int 0, .int (nI k), .ref (b 1), .ref (b 2), .ref (b 3), .ref (b 4), .ref (b 5), .int (nI st), .int (nI c), .ref (b 6), .int t, .ref (b 7), .ref (b 8), .long lf])), ((b 1), .inl (cI, 8, .inl mB)), ((b 2), .inl (cI, 8, .inl mM)), ((b 3), .inl (cI, 8, .inl mP)), ((b 4), .inl (cJ, 8, .inr (.inl mL))), ((b 5), .inl (cI, 8, .inl mO)), ((b 6), .inl (cI, 6, .inl fW)), ((b 7), .inl (cI, 8, .inl (nwF y fi fD))), ((b 8), .inl (cI, 8, .inl mK))] H := hP
  have hD : va_D A [((b 0), .inr (2, [.int 0, .int (nI k), .ref (b 1), .ref (b 2), .ref (b 3), .ref (b 4), .ref (b 5), .int (nI st), .int (nI c), .ref (b 6), .int t, .ref (b 7), .ref (b 8), .long lf])), ((b 1), .inl (cI, 8, .inl mB)), ((b 2), .inl (cI, 8, .inl mM)), ((b 3), .inl (cI, 8, .inl mP)), ((b 4), .inl (cJ, 8, .inr (.inl mL))), ((b 5), .inl (cI, 8, .inl mO)), ((b 6), .inl (cI, 6, .inl fW)), ((b 7), .inl (cI, 8, .inl (nwF y fi fD))), ((b 8), .inl (cI, 8, .inl mK))] := hD
  refine lv_bipush (v := 10) hx hb dX2_digest_5 (by decide) ?_
  refine xa_newaI (N := 10) hx hb (hts (.arrayClass .int) (by decide +kernel)) hK 0 rfl hP hD hS hA (by decide) (by decide +kernel) (by decide) (by decide) (by decide) dX2_digest_7 (fun q_7 H hP hD hS => ?_)
  have hP : va_P D vwCl [((b 0), .inr (2, [.int 0, .int (nI k), .ref (b 1), .ref (b 2), .ref (b 3), .ref (b 4), .ref (b 5), .int (nI st), .int (nI c), .ref (b 6), .int t, .ref (b 7), .ref (b 8), .long lf])), ((b 1), .inl (cI, 8, .inl mB)), ((b 2), .inl (cI, 8, .inl mM)), ((b 3), .inl (cI, 8, .inl mP)), ((b 4), .inl (cJ, 8, .inr (.inl mL))), ((b 5), .inl (cI, 8, .inl mO)), ((b 6), .inl (cI, 6, .inl fW)), ((b 7), .inl (cI, 8, .inl (nwF y fi fD))), ((b 8), .inl (cI, 8, .inl mK)), (q_7, .inl (cI, 10, .inl (fun _ => (0 : Int32))))] H := hP
  have hD : va_D A [((b 0), .inr (2, [.int 0, .int (nI k), .ref (b 1), .ref (b 2), .ref (b 3), .ref (b 4), .ref (b 5), .int (nI st), .int (nI c), .ref (b 6), .int t, .ref (b 7), .ref (b 8), .long lf])), ((b 1), .inl (cI, 8, .inl mB)), ((b 2), .inl (cI, 8, .inl mM)), ((b 3), .inl (cI, 8, .inl mP)), ((b 4), .inl (cJ, 8, .inr (.inl mL))), ((b 5), .inl (cI, 8, .inl mO)), ((b 6), .inl (cI, 6, .inl fW)), ((b 7), .inl (cI, 8, .inl (nwF y fi fD))), ((b 8), .inl (cI, 8, .inl mK)), (q_7, .inl (cI, 10, .inl (fun _ => (0 : Int32))))] := hD
  refine lv_dup hx hb dX2_digest_9 rfl ?_
  refine lv_iconst (v := 0) hx hb dX2_digest_10 (by decide) ?_
  refine topI (y := nI 0) rfl ?_
  refine lv_aload_n hx hb dX2_digest_11 rfl (lv_at hl 0 rfl) ?_
  refine va_get (D := D) (ci := 2) (v := .int (nI k)) (C := RX2) (T := TX2) (N := 14) hx hb hts hiX2 hown hK hP 0 rfl rfl 1 (by decide) hw7 (fun _ h9 => h9) rfl dX2_digest_12 ?_
  refine xa_iast hx hb hK hP hD hS 9 0 rfl rfl (by omega) (by decide) dX2_digest_15 (fun H locs hP hD hS => ?_)
  have hP : va_P D vwCl [((b 0), .inr (2, [.int 0, .int (nI k), .ref (b 1), .ref (b 2), .ref (b 3), .ref (b 4), .ref (b 5), .int (nI st), .int (nI c), .ref (b 6), .int t, .ref (b 7), .ref (b 8), .long lf])), ((b 1), .inl (cI, 8, .inl mB)), ((b 2), .inl (cI, 8, .inl mM)), ((b 3), .inl (cI, 8, .inl mP)), ((b 4), .inl (cJ, 8, .inr (.inl mL))), ((b 5), .inl (cI, 8, .inl mO)), ((b 6), .inl (cI, 6, .inl fW)), ((b 7), .inl (cI, 8, .inl (nwF y fi fD))), ((b 8), .inl (cI, 8, .inl mK)), (q_7, .inl (cI, 10, .inl (upd (fun _ => (0 : Int32)) 0 (nI k))))] H := hP
  have hD : va_D A [((b 0), .inr (2, [.int 0, .int (nI k), .ref (b 1), .ref (b 2), .ref (b 3), .ref (b 4), .ref (b 5), .int (nI st), .int (nI c), .ref (b 6), .int t, .ref (b 7), .ref (b 8), .long lf])), ((b 1), .inl (cI, 8, .inl mB)), ((b 2), .inl (cI, 8, .inl mM)), ((b 3), .inl (cI, 8, .inl mP)), ((b 4), .inl (cJ, 8, .inr (.inl mL))), ((b 5), .inl (cI, 8, .inl mO)), ((b 6), .inl (cI, 6, .inl fW)), ((b 7), .inl (cI, 8, .inl (nwF y fi fD))), ((b 8), .inl (cI, 8, .inl mK)), (q_7, .inl (cI, 10, .inl (upd (fun _ => (0 : Int32)) 0 (nI k))))] := hD
  refine lv_dup hx hb dX2_digest_16 rfl ?_
  refine lv_iconst (v := 1) hx hb dX2_digest_17 (by decide) ?_
  refine topI (y := nI 1) rfl ?_
  refine lv_aload_n hx hb dX2_digest_18 rfl (lv_at hl 0 rfl) ?_
  refine va_get (D := D) (ci := 2) (v := .int (nI c)) (C := RX2) (T := TX2) (N := 14) hx hb hts hiX2 hown hK hP 0 rfl rfl 8 (by decide) hw49 (fun _ h9 => h9) rfl dX2_digest_19 ?_
  refine xa_iast hx hb hK hP hD hS 9 0 rfl rfl (by omega) (by decide) dX2_digest_22 (fun H locs hP hD hS => ?_)
  have hP : va_P D vwCl [((b 0), .inr (2, [.int 0, .int (nI k), .ref (b 1), .ref (b 2), .ref (b 3), .ref (b 4), .ref (b 5), .int (nI st), .int (nI c), .ref (b 6), .int t, .ref (b 7), .ref (b 8), .long lf])), ((b 1), .inl (cI, 8, .inl mB)), ((b 2), .inl (cI, 8, .inl mM)), ((b 3), .inl (cI, 8, .inl mP)), ((b 4), .inl (cJ, 8, .inr (.inl mL))), ((b 5), .inl (cI, 8, .inl mO)), ((b 6), .inl (cI, 6, .inl fW)), ((b 7), .inl (cI, 8, .inl (nwF y fi fD))), ((b 8), .inl (cI, 8, .inl mK)), (q_7, .inl (cI, 10, .inl (upd (upd (fun _ => (0 : Int32)) 0 (nI k)) 1 (nI c))))] H := hP
  have hD : va_D A [((b 0), .inr (2, [.int 0, .int (nI k), .ref (b 1), .ref (b 2), .ref (b 3), .ref (b 4), .ref (b 5), .int (nI st), .int (nI c), .ref (b 6), .int t, .ref (b 7), .ref (b 8), .long lf])), ((b 1), .inl (cI, 8, .inl mB)), ((b 2), .inl (cI, 8, .inl mM)), ((b 3), .inl (cI, 8, .inl mP)), ((b 4), .inl (cJ, 8, .inr (.inl mL))), ((b 5), .inl (cI, 8, .inl mO)), ((b 6), .inl (cI, 6, .inl fW)), ((b 7), .inl (cI, 8, .inl (nwF y fi fD))), ((b 8), .inl (cI, 8, .inl mK)), (q_7, .inl (cI, 10, .inl (upd (upd (fun _ => (0 : Int32)) 0 (nI k)) 1 (nI c))))] := hD
  refine lv_dup hx hb dX2_digest_23 rfl ?_
  refine lv_iconst (v := 2) hx hb dX2_digest_24 (by decide) ?_
  refine topI (y := nI 2) rfl ?_
  refine lv_aload_n hx hb dX2_digest_25 rfl (lv_at hl 0 rfl) ?_
  refine va_get (D := D) (ci := 2) (v := .ref (b 7)) (C := RX2) (T := TX2) (N := 14) hx hb hts hiX2 hown hK hP 0 rfl rfl 11 (by decide) hw36 (fun _ h9 => h9) rfl dX2_digest_26 ?_
  refine lv_iconst (v := 0) hx hb dX2_digest_29 (by decide) ?_
  refine topI (y := nI 0) rfl ?_
  refine xa_iald hx hb hK hP 7 0 rfl rfl (by omega) (by decide) dX2_digest_30 ?_
  refine topI (y := (nI y)) rfl ?_
  refine xa_iast hx hb hK hP hD hS 9 0 rfl rfl (by omega) (by decide) dX2_digest_31 (fun H locs hP hD hS => ?_)
  have hP : va_P D vwCl [((b 0), .inr (2, [.int 0, .int (nI k), .ref (b 1), .ref (b 2), .ref (b 3), .ref (b 4), .ref (b 5), .int (nI st), .int (nI c), .ref (b 6), .int t, .ref (b 7), .ref (b 8), .long lf])), ((b 1), .inl (cI, 8, .inl mB)), ((b 2), .inl (cI, 8, .inl mM)), ((b 3), .inl (cI, 8, .inl mP)), ((b 4), .inl (cJ, 8, .inr (.inl mL))), ((b 5), .inl (cI, 8, .inl mO)), ((b 6), .inl (cI, 6, .inl fW)), ((b 7), .inl (cI, 8, .inl (nwF y fi fD))), ((b 8), .inl (cI, 8, .inl mK)), (q_7, .inl (cI, 10, .inl (upd (upd (upd (fun _ => (0 : Int32)) 0 (nI k)) 1 (nI c)) 2 (nI y))))] H := hP
  have hD : va_D A [((b 0), .inr (2, [.int 0, .int (nI k), .ref (b 1), .ref (b 2), .ref (b 3), .ref (b 4), .ref (b 5), .int (nI st), .int (nI c), .ref (b 6), .int t, .ref (b 7), .ref (b 8), .long lf])), ((b 1), .inl (cI, 8, .inl mB)), ((b 2), .inl (cI, 8, .inl mM)), ((b 3), .inl (cI, 8, .inl mP)), ((b 4), .inl (cJ, 8, .inr (.inl mL))), ((b 5), .inl (cI, 8, .inl mO)), ((b 6), .inl (cI, 6, .inl fW)), ((b 7), .inl (cI, 8, .inl (nwF y fi fD))), ((b 8), .inl (cI, 8, .inl mK)), (q_7, .inl (cI, 10, .inl (upd (upd (upd (fun _ => (0 : Int32)) 0 (nI k)) 1 (nI c)) 2 (nI y))))] := hD
  refine lv_dup hx hb dX2_digest_32 rfl ?_
  refine lv_iconst (v := 3) hx hb dX2_digest_33 (by decide) ?_
  refine topI (y := nI 3) rfl ?_
  refine lv_aload_n hx hb dX2_digest_34 rfl (lv_at hl 0 rfl) ?_
  refine va_get (D := D) (ci := 2) (v := .int (nI st)) (C := RX2) (T := TX2) (N := 14) hx hb hts hiX2 hown hK hP 0 rfl rfl 7 (by decide) hw88 (fun _ h9 => h9) rfl dX2_digest_35 ?_
  refine xa_iast hx hb hK hP hD hS 9 0 rfl rfl (by omega) (by decide) dX2_digest_38 (fun H locs hP hD hS => ?_)
  have hP : va_P D vwCl [((b 0), .inr (2, [.int 0, .int (nI k), .ref (b 1), .ref (b 2), .ref (b 3), .ref (b 4), .ref (b 5), .int (nI st), .int (nI c), .ref (b 6), .int t, .ref (b 7), .ref (b 8), .long lf])), ((b 1), .inl (cI, 8, .inl mB)), ((b 2), .inl (cI, 8, .inl mM)), ((b 3), .inl (cI, 8, .inl mP)), ((b 4), .inl (cJ, 8, .inr (.inl mL))), ((b 5), .inl (cI, 8, .inl mO)), ((b 6), .inl (cI, 6, .inl fW)), ((b 7), .inl (cI, 8, .inl (nwF y fi fD))), ((b 8), .inl (cI, 8, .inl mK)), (q_7, .inl (cI, 10, .inl (upd (upd (upd (upd (fun _ => (0 : Int32)) 0 (nI k)) 1 (nI c)) 2 (nI y)) 3 (nI st))))] H := hP
  have hD : va_D A [((b 0), .inr (2, [.int 0, .int (nI k), .ref (b 1), .ref (b 2), .ref (b 3), .ref (b 4), .ref (b 5), .int (nI st), .int (nI c), .ref (b 6), .int t, .ref (b 7), .ref (b 8), .long lf])), ((b 1), .inl (cI, 8, .inl mB)), ((b 2), .inl (cI, 8, .inl mM)), ((b 3), .inl (cI, 8, .inl mP)), ((b 4), .inl (cJ, 8, .inr (.inl mL))), ((b 5), .inl (cI, 8, .inl mO)), ((b 6), .inl (cI, 6, .inl fW)), ((b 7), .inl (cI, 8, .inl (nwF y fi fD))), ((b 8), .inl (cI, 8, .inl mK)), (q_7, .inl (cI, 10, .inl (upd (upd (upd (upd (fun _ => (0 : Int32)) 0 (nI k)) 1 (nI c)) 2 (nI y)) 3 (nI st))))] := hD
  refine lv_dup hx hb dX2_digest_39 rfl ?_
  refine lv_iconst (v := 4) hx hb dX2_digest_40 (by decide) ?_
  refine topI (y := nI 4) rfl ?_
  refine lv_aload_n hx hb dX2_digest_41 rfl (lv_at hl 0 rfl) ?_
  refine va_get (D := D) (ci := 2) (v := .int t) (C := RX2) (T := TX2) (N := 14) hx hb hts hiX2 hown hK hP 0 rfl rfl 10 (by decide) hw33 (fun _ h9 => h9) rfl dX2_digest_42 ?_
  refine xa_iast hx hb hK hP hD hS 9 0 rfl rfl (by omega) (by decide) dX2_digest_45 (fun H locs hP hD hS => ?_)
  have hP : va_P D vwCl [((b 0), .inr (2, [.int 0, .int (nI k), .ref (b 1), .ref (b 2), .ref (b 3), .ref (b 4), .ref (b 5), .int (nI st), .int (nI c), .ref (b 6), .int t, .ref (b 7), .ref (b 8), .long lf])), ((b 1), .inl (cI, 8, .inl mB)), ((b 2), .inl (cI, 8, .inl mM)), ((b 3), .inl (cI, 8, .inl mP)), ((b 4), .inl (cJ, 8, .inr (.inl mL))), ((b 5), .inl (cI, 8, .inl mO)), ((b 6), .inl (cI, 6, .inl fW)), ((b 7), .inl (cI, 8, .inl (nwF y fi fD))), ((b 8), .inl (cI, 8, .inl mK)), (q_7, .inl (cI, 10, .inl (upd (upd (upd (upd (upd (fun _ => (0 : Int32)) 0 (nI k)) 1 (nI c)) 2 (nI y)) 3 (nI st)) 4 t)))] H := hP
  have hD : va_D A [((b 0), .inr (2, [.int 0, .int (nI k), .ref (b 1), .ref (b 2), .ref (b 3), .ref (b 4), .ref (b 5), .int (nI st), .int (nI c), .ref (b 6), .int t, .ref (b 7), .ref (b 8), .long lf])), ((b 1), .inl (cI, 8, .inl mB)), ((b 2), .inl (cI, 8, .inl mM)), ((b 3), .inl (cI, 8, .inl mP)), ((b 4), .inl (cJ, 8, .inr (.inl mL))), ((b 5), .inl (cI, 8, .inl mO)), ((b 6), .inl (cI, 6, .inl fW)), ((b 7), .inl (cI, 8, .inl (nwF y fi fD))), ((b 8), .inl (cI, 8, .inl mK)), (q_7, .inl (cI, 10, .inl (upd (upd (upd (upd (upd (fun _ => (0 : Int32)) 0 (nI k)) 1 (nI c)) 2 (nI y)) 3 (nI st)) 4 t)))] := hD
  refine lv_dup hx hb dX2_digest_46 rfl ?_
  refine lv_iconst (v := 5) hx hb dX2_digest_47 (by decide) ?_
  refine topI (y := nI 5) rfl ?_
  refine lv_aload_n hx hb dX2_digest_48 rfl (lv_at hl 0 rfl) ?_
  refine va_get (D := D) (ci := 2) (v := .ref (b 7)) (C := RX2) (T := TX2) (N := 14) hx hb hts hiX2 hown hK hP 0 rfl rfl 11 (by decide) hw36 (fun _ h9 => h9) rfl dX2_digest_49 ?_
  refine lv_iconst (v := 1) hx hb dX2_digest_52 (by decide) ?_
  refine topI (y := nI 1) rfl ?_
  refine xa_iald hx hb hK hP 7 0 rfl rfl (by omega) (by decide) dX2_digest_53 ?_
  refine topI (y := fi) rfl ?_
  refine xa_iast hx hb hK hP hD hS 9 0 rfl rfl (by omega) (by decide) dX2_digest_54 (fun H locs hP hD hS => ?_)
  have hP : va_P D vwCl [((b 0), .inr (2, [.int 0, .int (nI k), .ref (b 1), .ref (b 2), .ref (b 3), .ref (b 4), .ref (b 5), .int (nI st), .int (nI c), .ref (b 6), .int t, .ref (b 7), .ref (b 8), .long lf])), ((b 1), .inl (cI, 8, .inl mB)), ((b 2), .inl (cI, 8, .inl mM)), ((b 3), .inl (cI, 8, .inl mP)), ((b 4), .inl (cJ, 8, .inr (.inl mL))), ((b 5), .inl (cI, 8, .inl mO)), ((b 6), .inl (cI, 6, .inl fW)), ((b 7), .inl (cI, 8, .inl (nwF y fi fD))), ((b 8), .inl (cI, 8, .inl mK)), (q_7, .inl (cI, 10, .inl (upd (upd (upd (upd (upd (upd (fun _ => (0 : Int32)) 0 (nI k)) 1 (nI c)) 2 (nI y)) 3 (nI st)) 4 t) 5 fi)))] H := hP
  have hD : va_D A [((b 0), .inr (2, [.int 0, .int (nI k), .ref (b 1), .ref (b 2), .ref (b 3), .ref (b 4), .ref (b 5), .int (nI st), .int (nI c), .ref (b 6), .int t, .ref (b 7), .ref (b 8), .long lf])), ((b 1), .inl (cI, 8, .inl mB)), ((b 2), .inl (cI, 8, .inl mM)), ((b 3), .inl (cI, 8, .inl mP)), ((b 4), .inl (cJ, 8, .inr (.inl mL))), ((b 5), .inl (cI, 8, .inl mO)), ((b 6), .inl (cI, 6, .inl fW)), ((b 7), .inl (cI, 8, .inl (nwF y fi fD))), ((b 8), .inl (cI, 8, .inl mK)), (q_7, .inl (cI, 10, .inl (upd (upd (upd (upd (upd (upd (fun _ => (0 : Int32)) 0 (nI k)) 1 (nI c)) 2 (nI y)) 3 (nI st)) 4 t) 5 fi)))] := hD
  refine lv_dup hx hb dX2_digest_55 rfl ?_
  refine lv_bipush (v := 6) hx hb dX2_digest_56 (by decide) ?_
  refine topI (y := nI 6) rfl ?_
  refine lv_aload_n hx hb dX2_digest_58 rfl (lv_at hl 0 rfl) ?_
  refine va_get (D := D) (ci := 2) (v := .ref (b 5)) (C := RX2) (T := TX2) (N := 14) hx hb hts hiX2 hown hK hP 0 rfl rfl 6 (by decide) hw27 (fun _ h9 => h9) rfl dX2_digest_59 ?_
  refine lv_iconst (v := 0) hx hb dX2_digest_62 (by decide) ?_
  refine topI (y := nI 0) rfl ?_
  refine xa_iald hx hb hK hP 5 0 rfl rfl (by omega) (by decide) dX2_digest_63 ?_
  refine xa_iast hx hb hK hP hD hS 9 0 rfl rfl (by omega) (by decide) dX2_digest_64 (fun H locs hP hD hS => ?_)
  have hP : va_P D vwCl [((b 0), .inr (2, [.int 0, .int (nI k), .ref (b 1), .ref (b 2), .ref (b 3), .ref (b 4), .ref (b 5), .int (nI st), .int (nI c), .ref (b 6), .int t, .ref (b 7), .ref (b 8), .long lf])), ((b 1), .inl (cI, 8, .inl mB)), ((b 2), .inl (cI, 8, .inl mM)), ((b 3), .inl (cI, 8, .inl mP)), ((b 4), .inl (cJ, 8, .inr (.inl mL))), ((b 5), .inl (cI, 8, .inl mO)), ((b 6), .inl (cI, 6, .inl fW)), ((b 7), .inl (cI, 8, .inl (nwF y fi fD))), ((b 8), .inl (cI, 8, .inl mK)), (q_7, .inl (cI, 10, .inl (upd (upd (upd (upd (upd (upd (upd (fun _ => (0 : Int32)) 0 (nI k)) 1 (nI c)) 2 (nI y)) 3 (nI st)) 4 t) 5 fi) 6 (mO 0))))] H := hP
  have hD : va_D A [((b 0), .inr (2, [.int 0, .int (nI k), .ref (b 1), .ref (b 2), .ref (b 3), .ref (b 4), .ref (b 5), .int (nI st), .int (nI c), .ref (b 6), .int t, .ref (b 7), .ref (b 8), .long lf])), ((b 1), .inl (cI, 8, .inl mB)), ((b 2), .inl (cI, 8, .inl mM)), ((b 3), .inl (cI, 8, .inl mP)), ((b 4), .inl (cJ, 8, .inr (.inl mL))), ((b 5), .inl (cI, 8, .inl mO)), ((b 6), .inl (cI, 6, .inl fW)), ((b 7), .inl (cI, 8, .inl (nwF y fi fD))), ((b 8), .inl (cI, 8, .inl mK)), (q_7, .inl (cI, 10, .inl (upd (upd (upd (upd (upd (upd (upd (fun _ => (0 : Int32)) 0 (nI k)) 1 (nI c)) 2 (nI y)) 3 (nI st)) 4 t) 5 fi) 6 (mO 0))))] := hD
  refine lv_dup hx hb dX2_digest_65 rfl ?_
  refine lv_bipush (v := 7) hx hb dX2_digest_66 (by decide) ?_
  refine topI (y := nI 7) rfl ?_
  refine lv_aload_n hx hb dX2_digest_68 rfl (lv_at hl 0 rfl) ?_
  refine ro_iE (va_runV (As := []) (rest := [.int (nI 7), .ref q_7, .ref q_7]) ⟨hx, hb, hml, hown, hts⟩ (c_X2_least l D cI cJ b 0 k st c t lf mB mM mP mL mO fW y fi fD mK hM) (cwV 0 hts gX2_digest_X2_least rfl rfl rfl (by decide +kernel) ⟨Nat.le_of_ble_eq_true rfl, Nat.le_of_ble_eq_true rfl⟩) (preV_ro KM_ok (hP.sub (ws' := [((b 0), .inr (2, [.int 0, .int (nI k), .ref (b 1), .ref (b 2), .ref (b 3), .ref (b 4), .ref (b 5), .int (nI st), .int (nI c), .ref (b 6), .int t, .ref (b 7), .ref (b 8), .long lf])), ((b 1), .inl (cI, 8, .inl mB)), ((b 2), .inl (cI, 8, .inl mM)), ((b 3), .inl (cI, 8, .inl mP)), ((b 4), .inl (cJ, 8, .inr (.inl mL))), ((b 5), .inl (cI, 8, .inl mO)), ((b 6), .inl (cI, 6, .inl fW)), ((b 7), .inl (cI, 8, .inl (nwF y fi fD))), ((b 8), .inl (cI, 8, .inl mK))]) [0, 1, 2, 3, 4, 5, 6, 7, 8] rfl) hK (va_recv hK hP (ci := 2) (q0 := 0) rfl rfl)) rfl rfl hl.1 rfl (lv_room (Nat.le_of_ble_eq_true rfl)) dX2_digest_69 ⟨by decide, by decide⟩) ?_
  refine xa_iast hx hb hK hP hD hS 9 0 rfl rfl (by omega) (by decide) dX2_digest_72 (fun H locs hP hD hS => ?_)
  have hP : va_P D vwCl [((b 0), .inr (2, [.int 0, .int (nI k), .ref (b 1), .ref (b 2), .ref (b 3), .ref (b 4), .ref (b 5), .int (nI st), .int (nI c), .ref (b 6), .int t, .ref (b 7), .ref (b 8), .long lf])), ((b 1), .inl (cI, 8, .inl mB)), ((b 2), .inl (cI, 8, .inl mM)), ((b 3), .inl (cI, 8, .inl mP)), ((b 4), .inl (cJ, 8, .inr (.inl mL))), ((b 5), .inl (cI, 8, .inl mO)), ((b 6), .inl (cI, 6, .inl fW)), ((b 7), .inl (cI, 8, .inl (nwF y fi fD))), ((b 8), .inl (cI, 8, .inl mK)), (q_7, .inl (cI, 10, .inl (upd (upd (upd (upd (upd (upd (upd (upd (fun _ => (0 : Int32)) 0 (nI k)) 1 (nI c)) 2 (nI y)) 3 (nI st)) 4 t) 5 fi) 6 (mO 0)) 7 (nI (shN mL (k - 1))))))] H := hP
  have hD : va_D A [((b 0), .inr (2, [.int 0, .int (nI k), .ref (b 1), .ref (b 2), .ref (b 3), .ref (b 4), .ref (b 5), .int (nI st), .int (nI c), .ref (b 6), .int t, .ref (b 7), .ref (b 8), .long lf])), ((b 1), .inl (cI, 8, .inl mB)), ((b 2), .inl (cI, 8, .inl mM)), ((b 3), .inl (cI, 8, .inl mP)), ((b 4), .inl (cJ, 8, .inr (.inl mL))), ((b 5), .inl (cI, 8, .inl mO)), ((b 6), .inl (cI, 6, .inl fW)), ((b 7), .inl (cI, 8, .inl (nwF y fi fD))), ((b 8), .inl (cI, 8, .inl mK)), (q_7, .inl (cI, 10, .inl (upd (upd (upd (upd (upd (upd (upd (upd (fun _ => (0 : Int32)) 0 (nI k)) 1 (nI c)) 2 (nI y)) 3 (nI st)) 4 t) 5 fi) 6 (mO 0)) 7 (nI (shN mL (k - 1))))))] := hD
  refine lv_dup hx hb dX2_digest_73 rfl ?_
  refine lv_bipush (v := 8) hx hb dX2_digest_74 (by decide) ?_
  refine topI (y := nI 8) rfl ?_
  refine lv_aload_n hx hb dX2_digest_76 rfl (lv_at hl 0 rfl) ?_
  refine ro_iE (va_runV (As := []) (rest := [.int (nI 8), .ref q_7, .ref q_7]) ⟨hx, hb, hml, hown, hts⟩ (c_X2_truest l D cI cJ b 0 k st c t lf mB mM mP mL mO fW y fi fD mK hc) (cwV 0 hts gX2_digest_X2_truest rfl rfl rfl (by decide +kernel) ⟨Nat.le_of_ble_eq_true rfl, Nat.le_of_ble_eq_true rfl⟩) (preV_ro KM_ok (hP.sub (ws' := [((b 0), .inr (2, [.int 0, .int (nI k), .ref (b 1), .ref (b 2), .ref (b 3), .ref (b 4), .ref (b 5), .int (nI st), .int (nI c), .ref (b 6), .int t, .ref (b 7), .ref (b 8), .long lf])), ((b 1), .inl (cI, 8, .inl mB)), ((b 2), .inl (cI, 8, .inl mM)), ((b 3), .inl (cI, 8, .inl mP)), ((b 4), .inl (cJ, 8, .inr (.inl mL))), ((b 5), .inl (cI, 8, .inl mO)), ((b 6), .inl (cI, 6, .inl fW)), ((b 7), .inl (cI, 8, .inl (nwF y fi fD))), ((b 8), .inl (cI, 8, .inl mK))]) [0, 1, 2, 3, 4, 5, 6, 7, 8] rfl) hK (va_recv hK hP (ci := 2) (q0 := 0) rfl rfl)) rfl rfl hl.1 rfl (lv_room (Nat.le_of_ble_eq_true rfl)) dX2_digest_77 ⟨by decide, by decide⟩) ?_
  refine xa_iast hx hb hK hP hD hS 9 0 rfl rfl (by omega) (by decide) dX2_digest_80 (fun H locs hP hD hS => ?_)
  have hP : va_P D vwCl [((b 0), .inr (2, [.int 0, .int (nI k), .ref (b 1), .ref (b 2), .ref (b 3), .ref (b 4), .ref (b 5), .int (nI st), .int (nI c), .ref (b 6), .int t, .ref (b 7), .ref (b 8), .long lf])), ((b 1), .inl (cI, 8, .inl mB)), ((b 2), .inl (cI, 8, .inl mM)), ((b 3), .inl (cI, 8, .inl mP)), ((b 4), .inl (cJ, 8, .inr (.inl mL))), ((b 5), .inl (cI, 8, .inl mO)), ((b 6), .inl (cI, 6, .inl fW)), ((b 7), .inl (cI, 8, .inl (nwF y fi fD))), ((b 8), .inl (cI, 8, .inl mK)), (q_7, .inl (cI, 10, .inl (upd (upd (upd (upd (upd (upd (upd (upd (upd (fun _ => (0 : Int32)) 0 (nI k)) 1 (nI c)) 2 (nI y)) 3 (nI st)) 4 t) 5 fi) 6 (mO 0)) 7 (nI (shN mL (k - 1)))) 8 (bhN fD c))))] H := hP
  have hD : va_D A [((b 0), .inr (2, [.int 0, .int (nI k), .ref (b 1), .ref (b 2), .ref (b 3), .ref (b 4), .ref (b 5), .int (nI st), .int (nI c), .ref (b 6), .int t, .ref (b 7), .ref (b 8), .long lf])), ((b 1), .inl (cI, 8, .inl mB)), ((b 2), .inl (cI, 8, .inl mM)), ((b 3), .inl (cI, 8, .inl mP)), ((b 4), .inl (cJ, 8, .inr (.inl mL))), ((b 5), .inl (cI, 8, .inl mO)), ((b 6), .inl (cI, 6, .inl fW)), ((b 7), .inl (cI, 8, .inl (nwF y fi fD))), ((b 8), .inl (cI, 8, .inl mK)), (q_7, .inl (cI, 10, .inl (upd (upd (upd (upd (upd (upd (upd (upd (upd (fun _ => (0 : Int32)) 0 (nI k)) 1 (nI c)) 2 (nI y)) 3 (nI st)) 4 t) 5 fi) 6 (mO 0)) 7 (nI (shN mL (k - 1)))) 8 (bhN fD c))))] := hD
  refine lv_dup hx hb dX2_digest_81 rfl ?_
  refine lv_bipush (v := 9) hx hb dX2_digest_82 (by decide) ?_
  refine topI (y := nI 9) rfl ?_
  refine lv_aload_n hx hb dX2_digest_84 rfl (lv_at hl 0 rfl) ?_
  refine ro_iE (va_runV (As := []) (rest := [.int (nI 9), .ref q_7, .ref q_7]) ⟨hx, hb, hml, hown, hts⟩ (c_X2_kindest l D cI cJ b 0 k st c t lf mB mM mP mL mO fW y fi fD mK hc) (cwV 0 hts gX2_digest_X2_kindest rfl rfl rfl (by decide +kernel) ⟨Nat.le_of_ble_eq_true rfl, Nat.le_of_ble_eq_true rfl⟩) (preV_ro KM_ok (hP.sub (ws' := [((b 0), .inr (2, [.int 0, .int (nI k), .ref (b 1), .ref (b 2), .ref (b 3), .ref (b 4), .ref (b 5), .int (nI st), .int (nI c), .ref (b 6), .int t, .ref (b 7), .ref (b 8), .long lf])), ((b 1), .inl (cI, 8, .inl mB)), ((b 2), .inl (cI, 8, .inl mM)), ((b 3), .inl (cI, 8, .inl mP)), ((b 4), .inl (cJ, 8, .inr (.inl mL))), ((b 5), .inl (cI, 8, .inl mO)), ((b 6), .inl (cI, 6, .inl fW)), ((b 7), .inl (cI, 8, .inl (nwF y fi fD))), ((b 8), .inl (cI, 8, .inl mK))]) [0, 1, 2, 3, 4, 5, 6, 7, 8] rfl) hK (va_recv hK hP (ci := 2) (q0 := 0) rfl rfl)) rfl rfl hl.1 rfl (lv_room (Nat.le_of_ble_eq_true rfl)) dX2_digest_85 ⟨by decide, by decide⟩) ?_
  refine xa_iast hx hb hK hP hD hS 9 0 rfl rfl (by omega) (by decide) dX2_digest_88 (fun H locs hP hD hS => ?_)
  have hP : va_P D vwCl [((b 0), .inr (2, [.int 0, .int (nI k), .ref (b 1), .ref (b 2), .ref (b 3), .ref (b 4), .ref (b 5), .int (nI st), .int (nI c), .ref (b 6), .int t, .ref (b 7), .ref (b 8), .long lf])), ((b 1), .inl (cI, 8, .inl mB)), ((b 2), .inl (cI, 8, .inl mM)), ((b 3), .inl (cI, 8, .inl mP)), ((b 4), .inl (cJ, 8, .inr (.inl mL))), ((b 5), .inl (cI, 8, .inl mO)), ((b 6), .inl (cI, 6, .inl fW)), ((b 7), .inl (cI, 8, .inl (nwF y fi fD))), ((b 8), .inl (cI, 8, .inl mK)), (q_7, .inl (cI, 10, .inl (upd (upd (upd (upd (upd (upd (upd (upd (upd (upd (fun _ => (0 : Int32)) 0 (nI k)) 1 (nI c)) 2 (nI y)) 3 (nI st)) 4 t) 5 fi) 6 (mO 0)) 7 (nI (shN mL (k - 1)))) 8 (bhN fD c)) 9 (bgN fD c))))] H := hP
  have hD : va_D A [((b 0), .inr (2, [.int 0, .int (nI k), .ref (b 1), .ref (b 2), .ref (b 3), .ref (b 4), .ref (b 5), .int (nI st), .int (nI c), .ref (b 6), .int t, .ref (b 7), .ref (b 8), .long lf])), ((b 1), .inl (cI, 8, .inl mB)), ((b 2), .inl (cI, 8, .inl mM)), ((b 3), .inl (cI, 8, .inl mP)), ((b 4), .inl (cJ, 8, .inr (.inl mL))), ((b 5), .inl (cI, 8, .inl mO)), ((b 6), .inl (cI, 6, .inl fW)), ((b 7), .inl (cI, 8, .inl (nwF y fi fD))), ((b 8), .inl (cI, 8, .inl mK)), (q_7, .inl (cI, 10, .inl (upd (upd (upd (upd (upd (upd (upd (upd (upd (upd (fun _ => (0 : Int32)) 0 (nI k)) 1 (nI c)) 2 (nI y)) 3 (nI st)) 4 t) 5 fi) 6 (mO 0)) 7 (nI (shN mL (k - 1)))) 8 (bhN fD c)) 9 (bgN fD c))))] := hD
  refine lv_astore_n (lv' := [(1, .ref q_7), (0, .ref (b 0))]) hx hb dX2_digest_89 rfl hl (by decide) rfl (fun ls hl => ?_)
  refine lv_ldc2 (v := 2069) hx hb hown (hts (.constantLong RX2 155 2069) (by decide +kernel)) dX2_digest_90 ?_
  refine lv_lstore_n (lv' := [(2, .long 2069), (1, .ref q_7), (0, .ref (b 0))]) hx hb dX2_digest_93 rfl hl (by decide) rfl (fun ls hl => ?_)
  refine lv_aload_n hx hb dX2_digest_94 rfl (lv_at hl 1 rfl) ?_
  refine lv_astore (lv' := [(4, .ref q_7), (2, .long 2069), (1, .ref q_7), (0, .ref (b 0))]) hx hb dX2_digest_95 hl (by decide) rfl (fun ls hl => ?_)
  refine lv_aload hx hb dX2_digest_97 (lv_at hl 0 rfl) ?_
  refine va_alen hx hb hK hP 9 0 rfl rfl (v := 10) rfl dX2_digest_99 ?_
  refine lv_istore (lv' := [(5, .int 10), (4, .ref q_7), (2, .long 2069), (1, .ref q_7), (0, .ref (b 0))]) hx hb dX2_digest_100 hl (by decide) rfl (fun ls hl => ?_)
  refine lv_iconst (v := 0) hx hb dX2_digest_102 (by decide) ?_
  refine lv_istore (lv' := [(6, .int 0), (5, .int 10), (4, .ref q_7), (2, .long 2069), (1, .ref q_7), (0, .ref (b 0))]) hx hb dX2_digest_103 hl (by decide) rfl (fun ls hl => ?_)
  refine loopW (σ := Unit) (I := fun i x H locs ls => lv_has ls 8 [(0, .ref (b 0)), (2, .long (dgA (upd (upd (upd (upd (upd (upd (upd (upd (upd (upd (fun _ => (0 : Int32)) 0 (nI k)) 1 (nI c)) 2 (nI y)) 3 (nI st)) 4 t) 5 fi) 6 (mO 0)) 7 (nI (shN mL (k - 1)))) 8 (bhN fD c)) 9 (bgN fD c)) i)), (4, .ref q_7), (5, .int 10), (6, .int (nI i))] ∧ va_P D vwCl [((b 0), .inr (2, [.int 0, .int (nI k), .ref (b 1), .ref (b 2), .ref (b 3), .ref (b 4), .ref (b 5), .int (nI st), .int (nI c), .ref (b 6), .int t, .ref (b 7), .ref (b 8), .long lf])), ((b 1), .inl (cI, 8, .inl mB)), ((b 2), .inl (cI, 8, .inl mM)), ((b 3), .inl (cI, 8, .inl mP)), ((b 4), .inl (cJ, 8, .inr (.inl mL))), ((b 5), .inl (cI, 8, .inl mO)), ((b 6), .inl (cI, 6, .inl fW)), ((b 7), .inl (cI, 8, .inl (nwF y fi fD))), ((b 8), .inl (cI, 8, .inl mK)), (q_7, .inl (cI, 10, .inl (upd (upd (upd (upd (upd (upd (upd (upd (upd (upd (fun _ => (0 : Int32)) 0 (nI k)) 1 (nI c)) 2 (nI y)) 3 (nI st)) 4 t) 5 fi) 6 (mO 0)) 7 (nI (shN mL (k - 1)))) 8 (bhN fD c)) 9 (bgN fD c))))] H ∧ va_D A [((b 0), .inr (2, [.int 0, .int (nI k), .ref (b 1), .ref (b 2), .ref (b 3), .ref (b 4), .ref (b 5), .int (nI st), .int (nI c), .ref (b 6), .int t, .ref (b 7), .ref (b 8), .long lf])), ((b 1), .inl (cI, 8, .inl mB)), ((b 2), .inl (cI, 8, .inl mM)), ((b 3), .inl (cI, 8, .inl mP)), ((b 4), .inl (cJ, 8, .inr (.inl mL))), ((b 5), .inl (cI, 8, .inl mO)), ((b 6), .inl (cI, 6, .inl fW)), ((b 7), .inl (cI, 8, .inl (nwF y fi fD))), ((b 8), .inl (cI, 8, .inl mK)), (q_7, .inl (cI, 10, .inl (upd (upd (upd (upd (upd (upd (upd (upd (upd (upd (fun _ => (0 : Int32)) 0 (nI k)) 1 (nI c)) 2 (nI y)) 3 (nI st)) 4 t) 5 fi) 6 (mO 0)) 7 (nI (shN mL (k - 1)))) 8 (bhN fD c)) 9 (bgN fD c))))] ∧ va_S A s.heap H locs) 10 ?_ 0 () _ _ ls (by omega) ⟨lv_sub hl [5, 3, 2, 1, 0] rfl, hP, hD, hS⟩
  intro i x H locs ls hi hI kk
  obtain ⟨hl, hP, hD, hS⟩ := hI
  refine lv_iload hx hb dX2_digest_105 (lv_at hl 4 rfl) ?_
  refine lv_iload hx hb dX2_digest_107 (lv_at hl 3 rfl) ?_
  refine lv_icmp_ge (tgt := 135) hx hb dX2_digest_109 (by decide) (fun c_109 => ?_) (fun c_109 => ?_)
  · skip
    simp only [Int32.le_iff_toInt_le] at c_109
    rw [nI_toInt (n := i) (by omega)] at c_109
    rw [(by decide : (10 : Int32).toInt = 10)] at c_109
    have e9 : 10 = i := by omega
    subst e9
    refine lv_iconst (v := 0) hx hb dX2_digest_135 (by decide) ?_
    refine lv_istore (lv' := [(4, .int 0), (0, .ref (b 0)), (2, .long (dgA (upd (upd (upd (upd (upd (upd (upd (upd (upd (upd (fun _ => (0 : Int32)) 0 (nI k)) 1 (nI c)) 2 (nI y)) 3 (nI st)) 4 t) 5 fi) 6 (mO 0)) 7 (nI (shN mL (k - 1)))) 8 (bhN fD c)) 9 (bgN fD c)) 10)), (5, .int 10), (6, .int (nI 10))]) hx hb dX2_digest_136 hl (by decide) rfl (fun ls hl => ?_)
    have eD : dgA (upd (upd (upd (upd (upd (upd (upd (upd (upd (upd (fun _ => (0 : Int32)) 0 (nI k)) 1 (nI c)) 2 (nI y)) 3 (nI st)) 4 t) 5 fi) 6 (mO 0)) 7 (nI (shN mL (k - 1)))) 8 (bhN fD c)) 9 (bgN fD c)) 10 = (dg0 fi mO mL k st c t y fD) := rfl
    rw [eD] at hl
    have hP := hP.sub (ws' := [((b 0), .inr (2, [.int 0, .int (nI k), .ref (b 1), .ref (b 2), .ref (b 3), .ref (b 4), .ref (b 5), .int (nI st), .int (nI c), .ref (b 6), .int t, .ref (b 7), .ref (b 8), .long lf])), ((b 1), .inl (cI, 8, .inl mB)), ((b 2), .inl (cI, 8, .inl mM)), ((b 3), .inl (cI, 8, .inl mP)), ((b 4), .inl (cJ, 8, .inr (.inl mL))), ((b 5), .inl (cI, 8, .inl mO)), ((b 6), .inl (cI, 6, .inl fW)), ((b 7), .inl (cI, 8, .inl (nwF y fi fD))), ((b 8), .inl (cI, 8, .inl mK))]) [0, 1, 2, 3, 4, 5, 6, 7, 8] rfl
    have hD := hD.sub (ws' := [((b 0), .inr (2, [.int 0, .int (nI k), .ref (b 1), .ref (b 2), .ref (b 3), .ref (b 4), .ref (b 5), .int (nI st), .int (nI c), .ref (b 6), .int t, .ref (b 7), .ref (b 8), .long lf])), ((b 1), .inl (cI, 8, .inl mB)), ((b 2), .inl (cI, 8, .inl mM)), ((b 3), .inl (cI, 8, .inl mP)), ((b 4), .inl (cJ, 8, .inr (.inl mL))), ((b 5), .inl (cI, 8, .inl mO)), ((b 6), .inl (cI, 6, .inl fW)), ((b 7), .inl (cI, 8, .inl (nwF y fi fD))), ((b 8), .inl (cI, 8, .inl mK))]) [0, 1, 2, 3, 4, 5, 6, 7, 8] (by decide) rfl
    refine loopW (σ := Int64) (I := fun i x H locs ls => lv_has ls 8 [(0, .ref (b 0)), (2, .long (dgMs mB mO mL k st (dg0 fi mO mL k st c t y fD) i)), (4, .int (nI i))] ∧ va_P D vwCl [((b 0), .inr (2, [.int 0, .int (nI k), .ref (b 1), .ref (b 2), .ref (b 3), .ref (b 4), .ref (b 5), .int (nI st), .int (nI c), .ref (b 6), .int t, .ref (b 7), .ref (b 8), .long x])), ((b 1), .inl (cI, 8, .inl mB)), ((b 2), .inl (cI, 8, .inl mM)), ((b 3), .inl (cI, 8, .inl mP)), ((b 4), .inl (cJ, 8, .inr (.inl mL))), ((b 5), .inl (cI, 8, .inl mO)), ((b 6), .inl (cI, 6, .inl fW)), ((b 7), .inl (cI, 8, .inl (nwF y fi fD))), ((b 8), .inl (cI, 8, .inl mK))] H ∧ va_D A [((b 0), .inr (2, [.int 0, .int (nI k), .ref (b 1), .ref (b 2), .ref (b 3), .ref (b 4), .ref (b 5), .int (nI st), .int (nI c), .ref (b 6), .int t, .ref (b 7), .ref (b 8), .long x])), ((b 1), .inl (cI, 8, .inl mB)), ((b 2), .inl (cI, 8, .inl mM)), ((b 3), .inl (cI, 8, .inl mP)), ((b 4), .inl (cJ, 8, .inr (.inl mL))), ((b 5), .inl (cI, 8, .inl mO)), ((b 6), .inl (cI, 6, .inl fW)), ((b 7), .inl (cI, 8, .inl (nwF y fi fD))), ((b 8), .inl (cI, 8, .inl mK))] ∧ va_S A s.heap H locs) k ?_ 0 lf _ _ ls (by omega) ⟨lv_sub hl [1, 2, 0] rfl, hP, hD, hS⟩
    intro i x H locs ls hi hI kk
    obtain ⟨hl, hP, hD, hS⟩ := hI
    refine lv_iload hx hb dX2_digest_138 (lv_at hl 2 rfl) ?_
    refine lv_aload_n hx hb dX2_digest_140 rfl (lv_at hl 0 rfl) ?_
    refine va_get (D := D) (ci := 2) (v := .int (nI k)) (C := RX2) (T := TX2) (N := 14) hx hb hts hiX2 hown hK hP 0 rfl rfl 1 (by decide) hw7 (fun _ h9 => h9) rfl dX2_digest_141 ?_
    refine lv_icmp_ge (tgt := 265) hx hb dX2_digest_144 (by decide) (fun c_144 => ?_) (fun c_144 => ?_)
    · skip
      simp only [Int32.le_iff_toInt_le] at c_144
      rw [nI_toInt (n := i) (by omega)] at c_144
      rw [nI_toInt (n := k) (by omega)] at c_144
      have e9 : k = i := by omega
      subst e9
      refine lv_iconst (v := 0) hx hb dX2_digest_265 (by decide) ?_
      refine lv_istore (lv' := [(4, .int 0), (0, .ref (b 0)), (2, .long (dgMs mB mO mL k st (dg0 fi mO mL k st c t y fD) k))]) hx hb dX2_digest_266 hl (by decide) rfl (fun ls hl => ?_)
      refine loopW (σ := (Int64 × (Nat → Int32))) (I := fun i x H locs ls => lv_has ls 8 [(0, .ref (b 0)), (2, .long (dgSs mL st c t y fW fD (dgMs mB mO mL k st (dg0 fi mO mL k st c t y fD) k) i)), (4, .int (nI i))] ∧ va_P D vwCl [((b 0), .inr (2, [.int 0, .int (nI k), .ref (b 1), .ref (b 2), .ref (b 3), .ref (b 4), .ref (b 5), .int (nI st), .int (nI c), .ref (b 6), .int t, .ref (b 7), .ref (b 8), .long x.1])), ((b 1), .inl (cI, 8, .inl mB)), ((b 2), .inl (cI, 8, .inl mM)), ((b 3), .inl (cI, 8, .inl mP)), ((b 4), .inl (cJ, 8, .inr (.inl mL))), ((b 5), .inl (cI, 8, .inl mO)), ((b 6), .inl (cI, 6, .inl fW)), ((b 7), .inl (cI, 8, .inl (nwF y fi fD))), ((b 8), .inl (cI, 8, .inl x.2))] H ∧ va_D A [((b 0), .inr (2, [.int 0, .int (nI k), .ref (b 1), .ref (b 2), .ref (b 3), .ref (b 4), .ref (b 5), .int (nI st), .int (nI c), .ref (b 6), .int t, .ref (b 7), .ref (b 8), .long x.1])), ((b 1), .inl (cI, 8, .inl mB)), ((b 2), .inl (cI, 8, .inl mM)), ((b 3), .inl (cI, 8, .inl mP)), ((b 4), .inl (cJ, 8, .inr (.inl mL))), ((b 5), .inl (cI, 8, .inl mO)), ((b 6), .inl (cI, 6, .inl fW)), ((b 7), .inl (cI, 8, .inl (nwF y fi fD))), ((b 8), .inl (cI, 8, .inl x.2))] ∧ va_S A s.heap H locs) c ?_ 0 (x, mK) _ _ ls (by omega) ⟨lv_sub hl [1, 2, 0] rfl, hP, hD, hS⟩
      intro i x H locs ls hi hI kk
      obtain ⟨hl, hP, hD, hS⟩ := hI
      refine lv_iload hx hb dX2_digest_268 (lv_at hl 2 rfl) ?_
      refine lv_aload_n hx hb dX2_digest_270 rfl (lv_at hl 0 rfl) ?_
      refine va_get (D := D) (ci := 2) (v := .int (nI c)) (C := RX2) (T := TX2) (N := 14) hx hb hts hiX2 hown hK hP 0 rfl rfl 8 (by decide) hw49 (fun _ h9 => h9) rfl dX2_digest_271 ?_
      refine lv_icmp_ge (tgt := 390) hx hb dX2_digest_274 (by decide) (fun c_274 => ?_) (fun c_274 => ?_)
      · skip
        simp only [Int32.le_iff_toInt_le] at c_274
        rw [nI_toInt (n := i) (by omega)] at c_274
        rw [nI_toInt (n := c) (by omega)] at c_274
        have e9 : c = i := by omega
        subst e9
        refine lv_lload_n hx hb dX2_digest_390 rfl (lv_at hl 1 rfl) ?_
        exact W.lret (v := (dgSs mL st c t y fW fD (dgMs mB mO mL k st (dg0 fi mO mL k st c t y fD) k) c)) hx hb hr (fun t9 ht hW => ⟨⟨(dgSs mL st c t y fW fD (dgMs mB mO mL k st (dg0 fi mO mL k st c t y fD) k) c), [((b 0), .inr (2, [.int 0, .int (nI k), .ref (b 1), .ref (b 2), .ref (b 3), .ref (b 4), .ref (b 5), .int (nI st), .int (nI c), .ref (b 6), .int t, .ref (b 7), .ref (b 8), .long x.1])), ((b 1), .inl (cI, 8, .inl mB)), ((b 2), .inl (cI, 8, .inl mM)), ((b 3), .inl (cI, 8, .inl mP)), ((b 4), .inl (cJ, 8, .inr (.inl mL))), ((b 5), .inl (cI, 8, .inl mO)), ((b 6), .inl (cI, 6, .inl fW)), ((b 7), .inl (cI, 8, .inl (nwF y fi fD))), ((b 8), .inl (cI, 8, .inl x.2))], rfl, ⟨rfl, ⟨_, _, rfl⟩⟩, by rw [ht]; exact hP, hD⟩, hS.F ht⟩) hS.2.2 dX2_digest_391
      · skip
        simp only [Int32.le_iff_toInt_le] at c_274
        rw [nI_toInt (n := i) (by omega)] at c_274
        rw [nI_toInt (n := c) (by omega)] at c_274
        refine lv_lload_n hx hb dX2_digest_277 rfl (lv_at hl 1 rfl) ?_
        refine lv_ldc2 (v := 31) hx hb hown (hts (.constantLong RX2 157 31) (by decide +kernel)) dX2_digest_278 ?_
        refine lv_lmul hx hb dX2_digest_281 ?_
        refine lv_aload_n hx hb dX2_digest_282 rfl (lv_at hl 0 rfl) ?_
        refine va_get (D := D) (ci := 2) (v := .ref (b 7)) (C := RX2) (T := TX2) (N := 14) hx hb hts hiX2 hown hK hP 0 rfl rfl 11 (by decide) hw36 (fun _ h9 => h9) rfl dX2_digest_283 ?_
        refine lv_iconst (v := 2) hx hb dX2_digest_286 (by decide) ?_
        refine lv_iload hx hb dX2_digest_287 (lv_at hl 2 rfl) ?_
        refine lv_iadd hx hb dX2_digest_289 ?_
        refine topI (two_nI i) ?_
        refine xa_iald hx hb hK hP 7 0 rfl rfl (by omega) (by decide) dX2_digest_290 ?_
        refine topI (y := (fD i)) rfl ?_
        refine lv_i2l (v := ((fD i)).toInt64) hx hb dX2_digest_291 rfl ?_
        refine lv_ladd hx hb dX2_digest_292 ?_
        refine topL (y := mx (dgSs mL st c t y fW fD (dgMs mB mO mL k st (dg0 fi mO mL k st c t y fD) k) i) (((fD i)).toInt64)) rfl ?_
        refine lv_lstore_n (lv' := [(2, .long (mx (dgSs mL st c t y fW fD (dgMs mB mO mL k st (dg0 fi mO mL k st c t y fD) k) i) (((fD i)).toInt64))), (0, .ref (b 0)), (4, .int (nI i))]) hx hb dX2_digest_293 rfl hl (by decide) rfl (fun ls hl => ?_)
        refine lv_lload_n hx hb dX2_digest_294 rfl (lv_at hl 0 rfl) ?_
        refine lv_ldc2 (v := 31) hx hb hown (hts (.constantLong RX2 157 31) (by decide +kernel)) dX2_digest_295 ?_
        refine lv_lmul hx hb dX2_digest_298 ?_
        refine lv_aload_n hx hb dX2_digest_299 rfl (lv_at hl 1 rfl) ?_
        refine va_get (D := D) (ci := 2) (v := .ref (b 6)) (C := RX2) (T := TX2) (N := 14) hx hb hts hiX2 hown hK hP 0 rfl rfl 9 (by decide) hw30 (fun _ h9 => h9) rfl dX2_digest_300 ?_
        refine lv_iload hx hb dX2_digest_303 (lv_at hl 2 rfl) ?_
        refine xa_iald hx hb hK hP 6 0 rfl rfl (by omega) (by decide) dX2_digest_305 ?_
        refine lv_i2l (v := ((fW i)).toInt64) hx hb dX2_digest_306 rfl ?_
        refine lv_ladd hx hb dX2_digest_307 ?_
        refine topL (y := mx (mx (dgSs mL st c t y fW fD (dgMs mB mO mL k st (dg0 fi mO mL k st c t y fD) k) i) (((fD i)).toInt64)) (((fW i)).toInt64)) rfl ?_
        refine lv_lstore_n (lv' := [(2, .long (mx (mx (dgSs mL st c t y fW fD (dgMs mB mO mL k st (dg0 fi mO mL k st c t y fD) k) i) (((fD i)).toInt64)) (((fW i)).toInt64))), (0, .ref (b 0)), (4, .int (nI i))]) hx hb dX2_digest_308 rfl hl (by decide) rfl (fun ls hl => ?_)
        refine lv_lload_n hx hb dX2_digest_309 rfl (lv_at hl 0 rfl) ?_
        refine lv_ldc2 (v := 31) hx hb hown (hts (.constantLong RX2 157 31) (by decide +kernel)) dX2_digest_310 ?_
        refine lv_lmul hx hb dX2_digest_313 ?_
        refine lv_aload_n hx hb dX2_digest_314 rfl (lv_at hl 1 rfl) ?_
        refine lv_iload hx hb dX2_digest_315 (lv_at hl 2 rfl) ?_
        refine ro_iE (va_runV (As := [.int (nI i)]) (rest := [.long ((mx (mx (dgSs mL st c t y fW fD (dgMs mB mO mL k st (dg0 fi mO mL k st c t y fD) k) i) (((fD i)).toInt64)) (((fW i)).toInt64)) * 31)]) ⟨hx, hb, hml, hown, hts⟩ (c_X2_honest l D cI cJ b 0 k st c t (x.1) mB mM mP mL mO fW y fi fD (x.2) i (by omega)) (cwV 1 hts gX2_digest_X2_honest rfl rfl rfl (by decide +kernel) ⟨Nat.le_of_ble_eq_true rfl, Nat.le_of_ble_eq_true rfl⟩) (preV_ro KM_ok (hP.sub (ws' := [((b 0), .inr (2, [.int 0, .int (nI k), .ref (b 1), .ref (b 2), .ref (b 3), .ref (b 4), .ref (b 5), .int (nI st), .int (nI c), .ref (b 6), .int t, .ref (b 7), .ref (b 8), .long x.1])), ((b 1), .inl (cI, 8, .inl mB)), ((b 2), .inl (cI, 8, .inl mM)), ((b 3), .inl (cI, 8, .inl mP)), ((b 4), .inl (cJ, 8, .inr (.inl mL))), ((b 5), .inl (cI, 8, .inl mO)), ((b 6), .inl (cI, 6, .inl fW)), ((b 7), .inl (cI, 8, .inl (nwF y fi fD))), ((b 8), .inl (cI, 8, .inl x.2))]) [0, 1, 2, 3, 4, 5, 6, 7, 8] rfl) hK (va_recv hK hP (ci := 2) (q0 := 0) rfl rfl)) rfl rfl hl.1 rfl (lv_room (Nat.le_of_ble_eq_true rfl)) dX2_digest_317 ⟨by decide, by decide⟩) ?_
        refine lv_if_eq (tgt := 327) hx hb dX2_digest_320 (by decide) (fun c_320 => ?_) (fun c_320 => ?_)
        · skip
          have c_320 := bz_0 c_320
          refine lv_iconst (v := 0) hx hb dX2_digest_327 (by decide) ?_
          refine lv_i2l (v := (0 : Int32).toInt64) hx hb dX2_digest_328 rfl ?_
          refine topL (y := bL ((absI (fD i)).toInt ≤ t.toInt)) (e0L.trans (bL_f c_320).symm) ?_
          refine lv_ladd hx hb dX2_digest_329 ?_
          refine topL (y := mx (mx (mx (dgSs mL st c t y fW fD (dgMs mB mO mL k st (dg0 fi mO mL k st c t y fD) k) i) (((fD i)).toInt64)) (((fW i)).toInt64)) (bL ((absI (fD i)).toInt ≤ t.toInt))) rfl ?_
          refine lv_lstore_n (lv' := [(2, .long (mx (mx (mx (dgSs mL st c t y fW fD (dgMs mB mO mL k st (dg0 fi mO mL k st c t y fD) k) i) (((fD i)).toInt64)) (((fW i)).toInt64)) (bL ((absI (fD i)).toInt ≤ t.toInt)))), (0, .ref (b 0)), (4, .int (nI i))]) hx hb dX2_digest_330 rfl hl (by decide) rfl (fun ls hl => ?_)
          refine lv_lload_n hx hb dX2_digest_331 rfl (lv_at hl 0 rfl) ?_
          refine lv_ldc2 (v := 31) hx hb hown (hts (.constantLong RX2 157 31) (by decide +kernel)) dX2_digest_332 ?_
          refine lv_lmul hx hb dX2_digest_335 ?_
          refine lv_aload_n hx hb dX2_digest_336 rfl (lv_at hl 1 rfl) ?_
          refine lv_iconst (v := 5) hx hb dX2_digest_337 (by decide) ?_
          refine lv_aload_n hx hb dX2_digest_338 rfl (lv_at hl 1 rfl) ?_
          refine va_get (D := D) (ci := 2) (v := .int (nI st)) (C := RX2) (T := TX2) (N := 14) hx hb hts hiX2 hown hK hP 0 rfl rfl 7 (by decide) hw88 (fun _ h9 => h9) rfl dX2_digest_339 ?_
          refine lv_aload_n hx hb dX2_digest_342 rfl (lv_at hl 1 rfl) ?_
          refine va_get (D := D) (ci := 2) (v := .ref (b 7)) (C := RX2) (T := TX2) (N := 14) hx hb hts hiX2 hown hK hP 0 rfl rfl 11 (by decide) hw36 (fun _ h9 => h9) rfl dX2_digest_343 ?_
          refine lv_iconst (v := 2) hx hb dX2_digest_346 (by decide) ?_
          refine lv_iload hx hb dX2_digest_347 (lv_at hl 2 rfl) ?_
          refine lv_iadd hx hb dX2_digest_349 ?_
          refine topI (two_nI i) ?_
          refine xa_iald hx hb hK hP 7 0 rfl rfl (by omega) (by decide) dX2_digest_350 ?_
          refine topI (y := (fD i)) rfl ?_
          refine ro_lE (va_runV (As := [.int 5, .int (nI st), .int (fD i)]) (rest := [.long ((mx (mx (mx (dgSs mL st c t y fW fD (dgMs mB mO mL k st (dg0 fi mO mL k st c t y fD) k) i) (((fD i)).toInt64)) (((fW i)).toInt64)) (bL ((absI (fD i)).toInt ≤ t.toInt))) * 31)]) ⟨hx, hb, hml, hown, hts⟩ (c_X2_gets l D cI cJ b 0 k st c t (x.1) mB mM mP mL mO fW y fi fD (x.2) hM hst2 5 h5w st (by omega) (fD i) (hD3 i (by omega))) (cwV 3 hts gX2_digest_X2_gets rfl rfl rfl (by decide +kernel) ⟨Nat.le_of_ble_eq_true rfl, Nat.le_of_ble_eq_true rfl⟩) (preV_ro KM_ok (hP.sub (ws' := [((b 0), .inr (2, [.int 0, .int (nI k), .ref (b 1), .ref (b 2), .ref (b 3), .ref (b 4), .ref (b 5), .int (nI st), .int (nI c), .ref (b 6), .int t, .ref (b 7), .ref (b 8), .long x.1])), ((b 1), .inl (cI, 8, .inl mB)), ((b 2), .inl (cI, 8, .inl mM)), ((b 3), .inl (cI, 8, .inl mP)), ((b 4), .inl (cJ, 8, .inr (.inl mL))), ((b 5), .inl (cI, 8, .inl mO)), ((b 6), .inl (cI, 6, .inl fW)), ((b 7), .inl (cI, 8, .inl (nwF y fi fD))), ((b 8), .inl (cI, 8, .inl x.2))]) [0, 1, 2, 3, 4, 5, 6, 7, 8] rfl) hK (va_recv hK hP (ci := 2) (q0 := 0) rfl rfl)) rfl rfl hl.1 rfl (lv_room (Nat.le_of_ble_eq_true rfl)) dX2_digest_351 ⟨by decide, by decide⟩) ?_
          refine lv_ladd hx hb dX2_digest_354 ?_
          refine topL (y := mx (mx (mx (mx (dgSs mL st c t y fW fD (dgMs mB mO mL k st (dg0 fi mO mL k st c t y fD) k) i) (((fD i)).toInt64)) (((fW i)).toInt64)) (bL ((absI (fD i)).toInt ≤ t.toInt))) (gvn (mL st) (mL st) 5 (fD i))) rfl ?_
          refine lv_lstore_n (lv' := [(2, .long (mx (mx (mx (mx (dgSs mL st c t y fW fD (dgMs mB mO mL k st (dg0 fi mO mL k st c t y fD) k) i) (((fD i)).toInt64)) (((fW i)).toInt64)) (bL ((absI (fD i)).toInt ≤ t.toInt))) (gvn (mL st) (mL st) 5 (fD i)))), (0, .ref (b 0)), (4, .int (nI i))]) hx hb dX2_digest_355 rfl hl (by decide) rfl (fun ls hl => ?_)
          refine lv_lload_n hx hb dX2_digest_356 rfl (lv_at hl 0 rfl) ?_
          refine lv_ldc2 (v := 31) hx hb hown (hts (.constantLong RX2 157 31) (by decide +kernel)) dX2_digest_357 ?_
          refine lv_lmul hx hb dX2_digest_360 ?_
          refine lv_aload_n hx hb dX2_digest_361 rfl (lv_at hl 1 rfl) ?_
          refine lv_iload hx hb dX2_digest_362 (lv_at hl 2 rfl) ?_
          have hFc := va_free (wc := [((b 0), .inr (2, [.int 0, .int (nI k), .ref (b 1), .ref (b 2), .ref (b 3), .ref (b 4), .ref (b 5), .int (nI st), .int (nI c), .ref (b 6), .int t, .ref (b 7), .ref (b 8), .long x.1])), ((b 1), .inl (cI, 8, .inl mB)), ((b 2), .inl (cI, 8, .inl mM)), ((b 3), .inl (cI, 8, .inl mP)), ((b 4), .inl (cJ, 8, .inr (.inl mL))), ((b 5), .inl (cI, 8, .inl mO)), ((b 6), .inl (cI, 6, .inl fW)), ((b 7), .inl (cI, 8, .inl (nwF y fi fD))), ((b 8), .inl (cI, 8, .inl x.2))]) hD hS hA [0, 1, 2, 3, 4, 5, 6, 7, 8] rfl
          refine va_calli (va_runV (As := [.int (nI i)]) (rest := [.long ((mx (mx (mx (mx (dgSs mL st c t y fW fD (dgMs mB mO mL k st (dg0 fi mO mL k st c t y fD) k) i) (((fD i)).toInt64)) (((fW i)).toInt64)) (bL ((absI (fD i)).toInt ≤ t.toInt))) (gvn (mL st) (mL st) 5 (fD i))) * 31)]) ⟨hx, hb, hml, hown, hts⟩ (c_X2_untilFined l D cI cJ H.size b 0 k st c t (x.1) mB mM mP mL mO fW y fi fD (x.2) hc hy i (by omega)) (cwV 1 hts gX2_digest_X2_untilFined rfl rfl rfl (by decide +kernel) ⟨Nat.le_of_ble_eq_true rfl, Nat.le_of_ble_eq_true rfl⟩) (preV_wr KM_ok (hP.sub (ws' := [((b 0), .inr (2, [.int 0, .int (nI k), .ref (b 1), .ref (b 2), .ref (b 3), .ref (b 4), .ref (b 5), .int (nI st), .int (nI c), .ref (b 6), .int t, .ref (b 7), .ref (b 8), .long x.1])), ((b 1), .inl (cI, 8, .inl mB)), ((b 2), .inl (cI, 8, .inl mM)), ((b 3), .inl (cI, 8, .inl mP)), ((b 4), .inl (cJ, 8, .inr (.inl mL))), ((b 5), .inl (cI, 8, .inl mO)), ((b 6), .inl (cI, 6, .inl fW)), ((b 7), .inl (cI, 8, .inl (nwF y fi fD))), ((b 8), .inl (cI, 8, .inl x.2))]) [0, 1, 2, 3, 4, 5, 6, 7, 8] rfl) (hD.sub (ws' := [((b 0), .inr (2, [.int 0, .int (nI k), .ref (b 1), .ref (b 2), .ref (b 3), .ref (b 4), .ref (b 5), .int (nI st), .int (nI c), .ref (b 6), .int t, .ref (b 7), .ref (b 8), .long x.1])), ((b 1), .inl (cI, 8, .inl mB)), ((b 2), .inl (cI, 8, .inl mM)), ((b 3), .inl (cI, 8, .inl mP)), ((b 4), .inl (cJ, 8, .inr (.inl mL))), ((b 5), .inl (cI, 8, .inl mO)), ((b 6), .inl (cI, 6, .inl fW)), ((b 7), .inl (cI, 8, .inl (nwF y fi fD))), ((b 8), .inl (cI, 8, .inl x.2))]) [0, 1, 2, 3, 4, 5, 6, 7, 8] (by decide) rfl) hK (va_recv hK hP (ci := 2) (q0 := 0) rfl rfl)) rfl rfl hl.1 rfl (lv_room (Nat.le_of_ble_eq_true rfl)) dX2_digest_364 ⟨by decide, by decide⟩) hS (fun q _ h => hFc q h) hFc (fun r_364 u t9 H1 locs ht hvm hw9 hB hz1 hk1 hS => ?_)
          obtain ⟨hr9, rfl⟩ := hw9
          have hr9 := hr9.symm
          subst hr9
          obtain ⟨hP1, hD1⟩ := hB
          rw [ht] at hP1
          obtain ⟨hP, hD⟩ := va_join (wr := []) (w1 := [((b 0), .inr (2, [.int 0, .int (nI k), .ref (b 1), .ref (b 2), .ref (b 3), .ref (b 4), .ref (b 5), .int (nI st), .int (nI c), .ref (b 6), .int t, .ref (b 7), .ref (b 8), .long x.1])), ((b 1), .inl (cI, 8, .inl mB)), ((b 2), .inl (cI, 8, .inl mM)), ((b 3), .inl (cI, 8, .inl mP)), ((b 4), .inl (cJ, 8, .inr (.inl mL))), ((b 5), .inl (cI, 8, .inl mO)), ((b 6), .inl (cI, 6, .inl fW)), ((b 7), .inl (cI, 8, .inl (nwF y fi fD))), ((b 8), .inl (cI, 8, .inl (nwF y fi fD)))]) hP hD [0, 1, 2, 3, 4, 5, 6, 7, 8] [] rfl rfl (by decide) (by decide) hk1 hFc hP1 hD1
          clear hz1 hk1 ht hvm hFc
          generalize H1 = H at hP hS ⊢
          have hP : va_P D vwCl [((b 0), .inr (2, [.int 0, .int (nI k), .ref (b 1), .ref (b 2), .ref (b 3), .ref (b 4), .ref (b 5), .int (nI st), .int (nI c), .ref (b 6), .int t, .ref (b 7), .ref (b 8), .long x.1])), ((b 1), .inl (cI, 8, .inl mB)), ((b 2), .inl (cI, 8, .inl mM)), ((b 3), .inl (cI, 8, .inl mP)), ((b 4), .inl (cJ, 8, .inr (.inl mL))), ((b 5), .inl (cI, 8, .inl mO)), ((b 6), .inl (cI, 6, .inl fW)), ((b 7), .inl (cI, 8, .inl (nwF y fi fD))), ((b 8), .inl (cI, 8, .inl (nwF y fi fD)))] H := hP
          have hD : va_D A [((b 0), .inr (2, [.int 0, .int (nI k), .ref (b 1), .ref (b 2), .ref (b 3), .ref (b 4), .ref (b 5), .int (nI st), .int (nI c), .ref (b 6), .int t, .ref (b 7), .ref (b 8), .long x.1])), ((b 1), .inl (cI, 8, .inl mB)), ((b 2), .inl (cI, 8, .inl mM)), ((b 3), .inl (cI, 8, .inl mP)), ((b 4), .inl (cJ, 8, .inr (.inl mL))), ((b 5), .inl (cI, 8, .inl mO)), ((b 6), .inl (cI, 6, .inl fW)), ((b 7), .inl (cI, 8, .inl (nwF y fi fD))), ((b 8), .inl (cI, 8, .inl (nwF y fi fD)))] := hD
          refine lv_i2l (v := ((duF c t y fW fD i 60 0)).toInt64) hx hb dX2_digest_367 rfl ?_
          refine lv_ladd hx hb dX2_digest_368 ?_
          refine topL (y := mx (mx (mx (mx (mx (dgSs mL st c t y fW fD (dgMs mB mO mL k st (dg0 fi mO mL k st c t y fD) k) i) (((fD i)).toInt64)) (((fW i)).toInt64)) (bL ((absI (fD i)).toInt ≤ t.toInt))) (gvn (mL st) (mL st) 5 (fD i))) (((duF c t y fW fD i 60 0)).toInt64)) rfl ?_
          refine lv_lstore_n (lv' := [(2, .long (mx (mx (mx (mx (mx (dgSs mL st c t y fW fD (dgMs mB mO mL k st (dg0 fi mO mL k st c t y fD) k) i) (((fD i)).toInt64)) (((fW i)).toInt64)) (bL ((absI (fD i)).toInt ≤ t.toInt))) (gvn (mL st) (mL st) 5 (fD i))) (((duF c t y fW fD i 60 0)).toInt64))), (0, .ref (b 0)), (4, .int (nI i))]) hx hb dX2_digest_369 rfl hl (by decide) rfl (fun ls hl => ?_)
          refine lv_lload_n hx hb dX2_digest_370 rfl (lv_at hl 0 rfl) ?_
          refine lv_ldc2 (v := 31) hx hb hown (hts (.constantLong RX2 157 31) (by decide +kernel)) dX2_digest_371 ?_
          refine lv_lmul hx hb dX2_digest_374 ?_
          refine lv_aload_n hx hb dX2_digest_375 rfl (lv_at hl 1 rfl) ?_
          refine lv_iload hx hb dX2_digest_376 (lv_at hl 2 rfl) ?_
          have hFc := va_free (wc := [((b 0), .inr (2, [.int 0, .int (nI k), .ref (b 1), .ref (b 2), .ref (b 3), .ref (b 4), .ref (b 5), .int (nI st), .int (nI c), .ref (b 6), .int t, .ref (b 7), .ref (b 8), .long x.1])), ((b 1), .inl (cI, 8, .inl mB)), ((b 2), .inl (cI, 8, .inl mM)), ((b 3), .inl (cI, 8, .inl mP)), ((b 4), .inl (cJ, 8, .inr (.inl mL))), ((b 5), .inl (cI, 8, .inl mO)), ((b 6), .inl (cI, 6, .inl fW)), ((b 7), .inl (cI, 8, .inl (nwF y fi fD))), ((b 8), .inl (cI, 8, .inl (nwF y fi fD)))]) hD hS hA [0, 1, 2, 3, 4, 5, 6, 7, 8] rfl
          refine va_calli (va_runV (As := [.int (nI i)]) (rest := [.long ((mx (mx (mx (mx (mx (dgSs mL st c t y fW fD (dgMs mB mO mL k st (dg0 fi mO mL k st c t y fD) k) i) (((fD i)).toInt64)) (((fW i)).toInt64)) (bL ((absI (fD i)).toInt ≤ t.toInt))) (gvn (mL st) (mL st) 5 (fD i))) (((duF c t y fW fD i 60 0)).toInt64)) * 31)]) ⟨hx, hb, hml, hown, hts⟩ (c_X2_bestDay l D cI cJ H.size b 0 k st c t (x.1) mB mM mP mL mO fW y fi fD (nwF y fi fD) hc hy i (by omega)) (cwV 1 hts gX2_digest_X2_bestDay rfl rfl rfl (by decide +kernel) ⟨Nat.le_of_ble_eq_true rfl, Nat.le_of_ble_eq_true rfl⟩) (preV_wr KM_ok (hP.sub (ws' := [((b 0), .inr (2, [.int 0, .int (nI k), .ref (b 1), .ref (b 2), .ref (b 3), .ref (b 4), .ref (b 5), .int (nI st), .int (nI c), .ref (b 6), .int t, .ref (b 7), .ref (b 8), .long x.1])), ((b 1), .inl (cI, 8, .inl mB)), ((b 2), .inl (cI, 8, .inl mM)), ((b 3), .inl (cI, 8, .inl mP)), ((b 4), .inl (cJ, 8, .inr (.inl mL))), ((b 5), .inl (cI, 8, .inl mO)), ((b 6), .inl (cI, 6, .inl fW)), ((b 7), .inl (cI, 8, .inl (nwF y fi fD))), ((b 8), .inl (cI, 8, .inl (nwF y fi fD)))]) [0, 1, 2, 3, 4, 5, 6, 7, 8] rfl) (hD.sub (ws' := [((b 0), .inr (2, [.int 0, .int (nI k), .ref (b 1), .ref (b 2), .ref (b 3), .ref (b 4), .ref (b 5), .int (nI st), .int (nI c), .ref (b 6), .int t, .ref (b 7), .ref (b 8), .long x.1])), ((b 1), .inl (cI, 8, .inl mB)), ((b 2), .inl (cI, 8, .inl mM)), ((b 3), .inl (cI, 8, .inl mP)), ((b 4), .inl (cJ, 8, .inr (.inl mL))), ((b 5), .inl (cI, 8, .inl mO)), ((b 6), .inl (cI, 6, .inl fW)), ((b 7), .inl (cI, 8, .inl (nwF y fi fD))), ((b 8), .inl (cI, 8, .inl (nwF y fi fD)))]) [0, 1, 2, 3, 4, 5, 6, 7, 8] (by decide) rfl) hK (va_recv hK hP (ci := 2) (q0 := 0) rfl rfl)) rfl rfl hl.1 rfl (lv_room (Nat.le_of_ble_eq_true rfl)) dX2_digest_378 ⟨by decide, by decide⟩) hS (fun q _ h => hFc q h) hFc (fun r_378 u t9 H1 locs ht hvm hw9 hB hz1 hk1 hS => ?_)
          obtain ⟨hr9, rfl⟩ := hw9
          have hr9 := hr9.symm
          subst hr9
          obtain ⟨hP1, hD1⟩ := hB
          rw [ht] at hP1
          obtain ⟨hP, hD⟩ := va_join (wr := []) (w1 := [((b 0), .inr (2, [.int 0, .int (nI k), .ref (b 1), .ref (b 2), .ref (b 3), .ref (b 4), .ref (b 5), .int (nI st), .int (nI c), .ref (b 6), .int t, .ref (b 7), .ref (b 8), .long x.1])), ((b 1), .inl (cI, 8, .inl mB)), ((b 2), .inl (cI, 8, .inl mM)), ((b 3), .inl (cI, 8, .inl mP)), ((b 4), .inl (cJ, 8, .inr (.inl mL))), ((b 5), .inl (cI, 8, .inl mO)), ((b 6), .inl (cI, 6, .inl fW)), ((b 7), .inl (cI, 8, .inl (nwF y fi fD))), ((b 8), .inl (cI, 8, .inl (nwF y fi fD)))]) hP hD [0, 1, 2, 3, 4, 5, 6, 7, 8] [] rfl rfl (by decide) (by decide) hk1 hFc hP1 hD1
          clear hz1 hk1 ht hvm hFc
          generalize H1 = H at hP hS ⊢
          have hP : va_P D vwCl [((b 0), .inr (2, [.int 0, .int (nI k), .ref (b 1), .ref (b 2), .ref (b 3), .ref (b 4), .ref (b 5), .int (nI st), .int (nI c), .ref (b 6), .int t, .ref (b 7), .ref (b 8), .long x.1])), ((b 1), .inl (cI, 8, .inl mB)), ((b 2), .inl (cI, 8, .inl mM)), ((b 3), .inl (cI, 8, .inl mP)), ((b 4), .inl (cJ, 8, .inr (.inl mL))), ((b 5), .inl (cI, 8, .inl mO)), ((b 6), .inl (cI, 6, .inl fW)), ((b 7), .inl (cI, 8, .inl (nwF y fi fD))), ((b 8), .inl (cI, 8, .inl (nwF y fi fD)))] H := hP
          have hD : va_D A [((b 0), .inr (2, [.int 0, .int (nI k), .ref (b 1), .ref (b 2), .ref (b 3), .ref (b 4), .ref (b 5), .int (nI st), .int (nI c), .ref (b 6), .int t, .ref (b 7), .ref (b 8), .long x.1])), ((b 1), .inl (cI, 8, .inl mB)), ((b 2), .inl (cI, 8, .inl mM)), ((b 3), .inl (cI, 8, .inl mP)), ((b 4), .inl (cJ, 8, .inr (.inl mL))), ((b 5), .inl (cI, 8, .inl mO)), ((b 6), .inl (cI, 6, .inl fW)), ((b 7), .inl (cI, 8, .inl (nwF y fi fD))), ((b 8), .inl (cI, 8, .inl (nwF y fi fD)))] := hD
          refine lv_i2l (v := ((nI (bdB c t y fW fD i 30))).toInt64) hx hb dX2_digest_381 rfl ?_
          refine lv_ladd hx hb dX2_digest_382 ?_
          refine topL (y := mx (mx (mx (mx (mx (mx (dgSs mL st c t y fW fD (dgMs mB mO mL k st (dg0 fi mO mL k st c t y fD) k) i) (((fD i)).toInt64)) (((fW i)).toInt64)) (bL ((absI (fD i)).toInt ≤ t.toInt))) (gvn (mL st) (mL st) 5 (fD i))) (((duF c t y fW fD i 60 0)).toInt64)) (((nI (bdB c t y fW fD i 30))).toInt64)) rfl ?_
          refine lv_lstore_n (lv' := [(2, .long (mx (mx (mx (mx (mx (mx (dgSs mL st c t y fW fD (dgMs mB mO mL k st (dg0 fi mO mL k st c t y fD) k) i) (((fD i)).toInt64)) (((fW i)).toInt64)) (bL ((absI (fD i)).toInt ≤ t.toInt))) (gvn (mL st) (mL st) 5 (fD i))) (((duF c t y fW fD i 60 0)).toInt64)) (((nI (bdB c t y fW fD i 30))).toInt64))), (0, .ref (b 0)), (4, .int (nI i))]) hx hb dX2_digest_383 rfl hl (by decide) rfl (fun ls hl => ?_)
          refine lv_iinc (v := (nI (i + 1))) (lv' := [(4, .int (nI (i + 1))), (2, .long (mx (mx (mx (mx (mx (mx (dgSs mL st c t y fW fD (dgMs mB mO mL k st (dg0 fi mO mL k st c t y fD) k) i) (((fD i)).toInt64)) (((fW i)).toInt64)) (bL ((absI (fD i)).toInt ≤ t.toInt))) (gvn (mL st) (mL st) 5 (fD i))) (((duF c t y fW fD i 60 0)).toInt64)) (((nI (bdB c t y fW fD i 30))).toInt64))), (0, .ref (b 0))]) hx hb dX2_digest_384 hl (k := 2) rfl (nI_inc i) (by decide) rfl (fun ls hl => ?_)
          refine lv_goto (tgt := 268) hx hb dX2_digest_387 (by decide) ?_
          exact kk (x.1, (nwF y fi fD)) _ _ ls (by omega) ⟨lv_sub hl [2, 1, 0] rfl, hP, hD, hS⟩
        · skip
          have c_320 := bz_1 c_320
          refine lv_iconst (v := 1) hx hb dX2_digest_323 (by decide) ?_
          refine lv_goto (tgt := 328) hx hb dX2_digest_324 (by decide) ?_
          refine lv_i2l (v := (1 : Int32).toInt64) hx hb dX2_digest_328 rfl ?_
          refine topL (y := bL ((absI (fD i)).toInt ≤ t.toInt)) (e1L.trans (bL_t c_320).symm) ?_
          refine lv_ladd hx hb dX2_digest_329 ?_
          refine topL (y := mx (mx (mx (dgSs mL st c t y fW fD (dgMs mB mO mL k st (dg0 fi mO mL k st c t y fD) k) i) (((fD i)).toInt64)) (((fW i)).toInt64)) (bL ((absI (fD i)).toInt ≤ t.toInt))) rfl ?_
          refine lv_lstore_n (lv' := [(2, .long (mx (mx (mx (dgSs mL st c t y fW fD (dgMs mB mO mL k st (dg0 fi mO mL k st c t y fD) k) i) (((fD i)).toInt64)) (((fW i)).toInt64)) (bL ((absI (fD i)).toInt ≤ t.toInt)))), (0, .ref (b 0)), (4, .int (nI i))]) hx hb dX2_digest_330 rfl hl (by decide) rfl (fun ls hl => ?_)
          refine lv_lload_n hx hb dX2_digest_331 rfl (lv_at hl 0 rfl) ?_
          refine lv_ldc2 (v := 31) hx hb hown (hts (.constantLong RX2 157 31) (by decide +kernel)) dX2_digest_332 ?_
          refine lv_lmul hx hb dX2_digest_335 ?_
          refine lv_aload_n hx hb dX2_digest_336 rfl (lv_at hl 1 rfl) ?_
          refine lv_iconst (v := 5) hx hb dX2_digest_337 (by decide) ?_
          refine lv_aload_n hx hb dX2_digest_338 rfl (lv_at hl 1 rfl) ?_
          refine va_get (D := D) (ci := 2) (v := .int (nI st)) (C := RX2) (T := TX2) (N := 14) hx hb hts hiX2 hown hK hP 0 rfl rfl 7 (by decide) hw88 (fun _ h9 => h9) rfl dX2_digest_339 ?_
          refine lv_aload_n hx hb dX2_digest_342 rfl (lv_at hl 1 rfl) ?_
          refine va_get (D := D) (ci := 2) (v := .ref (b 7)) (C := RX2) (T := TX2) (N := 14) hx hb hts hiX2 hown hK hP 0 rfl rfl 11 (by decide) hw36 (fun _ h9 => h9) rfl dX2_digest_343 ?_
          refine lv_iconst (v := 2) hx hb dX2_digest_346 (by decide) ?_
          refine lv_iload hx hb dX2_digest_347 (lv_at hl 2 rfl) ?_
          refine lv_iadd hx hb dX2_digest_349 ?_
          refine topI (two_nI i) ?_
          refine xa_iald hx hb hK hP 7 0 rfl rfl (by omega) (by decide) dX2_digest_350 ?_
          refine topI (y := (fD i)) rfl ?_
          refine ro_lE (va_runV (As := [.int 5, .int (nI st), .int (fD i)]) (rest := [.long ((mx (mx (mx (dgSs mL st c t y fW fD (dgMs mB mO mL k st (dg0 fi mO mL k st c t y fD) k) i) (((fD i)).toInt64)) (((fW i)).toInt64)) (bL ((absI (fD i)).toInt ≤ t.toInt))) * 31)]) ⟨hx, hb, hml, hown, hts⟩ (c_X2_gets l D cI cJ b 0 k st c t (x.1) mB mM mP mL mO fW y fi fD (x.2) hM hst2 5 h5w st (by omega) (fD i) (hD3 i (by omega))) (cwV 3 hts gX2_digest_X2_gets rfl rfl rfl (by decide +kernel) ⟨Nat.le_of_ble_eq_true rfl, Nat.le_of_ble_eq_true rfl⟩) (preV_ro KM_ok (hP.sub (ws' := [((b 0), .inr (2, [.int 0, .int (nI k), .ref (b 1), .ref (b 2), .ref (b 3), .ref (b 4), .ref (b 5), .int (nI st), .int (nI c), .ref (b 6), .int t, .ref (b 7), .ref (b 8), .long x.1])), ((b 1), .inl (cI, 8, .inl mB)), ((b 2), .inl (cI, 8, .inl mM)), ((b 3), .inl (cI, 8, .inl mP)), ((b 4), .inl (cJ, 8, .inr (.inl mL))), ((b 5), .inl (cI, 8, .inl mO)), ((b 6), .inl (cI, 6, .inl fW)), ((b 7), .inl (cI, 8, .inl (nwF y fi fD))), ((b 8), .inl (cI, 8, .inl x.2))]) [0, 1, 2, 3, 4, 5, 6, 7, 8] rfl) hK (va_recv hK hP (ci := 2) (q0 := 0) rfl rfl)) rfl rfl hl.1 rfl (lv_room (Nat.le_of_ble_eq_true rfl)) dX2_digest_351 ⟨by decide, by decide⟩) ?_
          refine lv_ladd hx hb dX2_digest_354 ?_
          refine topL (y := mx (mx (mx (mx (dgSs mL st c t y fW fD (dgMs mB mO mL k st (dg0 fi mO mL k st c t y fD) k) i) (((fD i)).toInt64)) (((fW i)).toInt64)) (bL ((absI (fD i)).toInt ≤ t.toInt))) (gvn (mL st) (mL st) 5 (fD i))) rfl ?_
          refine lv_lstore_n (lv' := [(2, .long (mx (mx (mx (mx (dgSs mL st c t y fW fD (dgMs mB mO mL k st (dg0 fi mO mL k st c t y fD) k) i) (((fD i)).toInt64)) (((fW i)).toInt64)) (bL ((absI (fD i)).toInt ≤ t.toInt))) (gvn (mL st) (mL st) 5 (fD i)))), (0, .ref (b 0)), (4, .int (nI i))]) hx hb dX2_digest_355 rfl hl (by decide) rfl (fun ls hl => ?_)
          refine lv_lload_n hx hb dX2_digest_356 rfl (lv_at hl 0 rfl) ?_
          refine lv_ldc2 (v := 31) hx hb hown (hts (.constantLong RX2 157 31) (by decide +kernel)) dX2_digest_357 ?_
          refine lv_lmul hx hb dX2_digest_360 ?_
          refine lv_aload_n hx hb dX2_digest_361 rfl (lv_at hl 1 rfl) ?_
          refine lv_iload hx hb dX2_digest_362 (lv_at hl 2 rfl) ?_
          have hFc := va_free (wc := [((b 0), .inr (2, [.int 0, .int (nI k), .ref (b 1), .ref (b 2), .ref (b 3), .ref (b 4), .ref (b 5), .int (nI st), .int (nI c), .ref (b 6), .int t, .ref (b 7), .ref (b 8), .long x.1])), ((b 1), .inl (cI, 8, .inl mB)), ((b 2), .inl (cI, 8, .inl mM)), ((b 3), .inl (cI, 8, .inl mP)), ((b 4), .inl (cJ, 8, .inr (.inl mL))), ((b 5), .inl (cI, 8, .inl mO)), ((b 6), .inl (cI, 6, .inl fW)), ((b 7), .inl (cI, 8, .inl (nwF y fi fD))), ((b 8), .inl (cI, 8, .inl x.2))]) hD hS hA [0, 1, 2, 3, 4, 5, 6, 7, 8] rfl
          refine va_calli (va_runV (As := [.int (nI i)]) (rest := [.long ((mx (mx (mx (mx (dgSs mL st c t y fW fD (dgMs mB mO mL k st (dg0 fi mO mL k st c t y fD) k) i) (((fD i)).toInt64)) (((fW i)).toInt64)) (bL ((absI (fD i)).toInt ≤ t.toInt))) (gvn (mL st) (mL st) 5 (fD i))) * 31)]) ⟨hx, hb, hml, hown, hts⟩ (c_X2_untilFined l D cI cJ H.size b 0 k st c t (x.1) mB mM mP mL mO fW y fi fD (x.2) hc hy i (by omega)) (cwV 1 hts gX2_digest_X2_untilFined rfl rfl rfl (by decide +kernel) ⟨Nat.le_of_ble_eq_true rfl, Nat.le_of_ble_eq_true rfl⟩) (preV_wr KM_ok (hP.sub (ws' := [((b 0), .inr (2, [.int 0, .int (nI k), .ref (b 1), .ref (b 2), .ref (b 3), .ref (b 4), .ref (b 5), .int (nI st), .int (nI c), .ref (b 6), .int t, .ref (b 7), .ref (b 8), .long x.1])), ((b 1), .inl (cI, 8, .inl mB)), ((b 2), .inl (cI, 8, .inl mM)), ((b 3), .inl (cI, 8, .inl mP)), ((b 4), .inl (cJ, 8, .inr (.inl mL))), ((b 5), .inl (cI, 8, .inl mO)), ((b 6), .inl (cI, 6, .inl fW)), ((b 7), .inl (cI, 8, .inl (nwF y fi fD))), ((b 8), .inl (cI, 8, .inl x.2))]) [0, 1, 2, 3, 4, 5, 6, 7, 8] rfl) (hD.sub (ws' := [((b 0), .inr (2, [.int 0, .int (nI k), .ref (b 1), .ref (b 2), .ref (b 3), .ref (b 4), .ref (b 5), .int (nI st), .int (nI c), .ref (b 6), .int t, .ref (b 7), .ref (b 8), .long x.1])), ((b 1), .inl (cI, 8, .inl mB)), ((b 2), .inl (cI, 8, .inl mM)), ((b 3), .inl (cI, 8, .inl mP)), ((b 4), .inl (cJ, 8, .inr (.inl mL))), ((b 5), .inl (cI, 8, .inl mO)), ((b 6), .inl (cI, 6, .inl fW)), ((b 7), .inl (cI, 8, .inl (nwF y fi fD))), ((b 8), .inl (cI, 8, .inl x.2))]) [0, 1, 2, 3, 4, 5, 6, 7, 8] (by decide) rfl) hK (va_recv hK hP (ci := 2) (q0 := 0) rfl rfl)) rfl rfl hl.1 rfl (lv_room (Nat.le_of_ble_eq_true rfl)) dX2_digest_364 ⟨by decide, by decide⟩) hS (fun q _ h => hFc q h) hFc (fun r_364 u t9 H1 locs ht hvm hw9 hB hz1 hk1 hS => ?_)
          obtain ⟨hr9, rfl⟩ := hw9
          have hr9 := hr9.symm
          subst hr9
          obtain ⟨hP1, hD1⟩ := hB
          rw [ht] at hP1
          obtain ⟨hP, hD⟩ := va_join (wr := []) (w1 := [((b 0), .inr (2, [.int 0, .int (nI k), .ref (b 1), .ref (b 2), .ref (b 3), .ref (b 4), .ref (b 5), .int (nI st), .int (nI c), .ref (b 6), .int t, .ref (b 7), .ref (b 8), .long x.1])), ((b 1), .inl (cI, 8, .inl mB)), ((b 2), .inl (cI, 8, .inl mM)), ((b 3), .inl (cI, 8, .inl mP)), ((b 4), .inl (cJ, 8, .inr (.inl mL))), ((b 5), .inl (cI, 8, .inl mO)), ((b 6), .inl (cI, 6, .inl fW)), ((b 7), .inl (cI, 8, .inl (nwF y fi fD))), ((b 8), .inl (cI, 8, .inl (nwF y fi fD)))]) hP hD [0, 1, 2, 3, 4, 5, 6, 7, 8] [] rfl rfl (by decide) (by decide) hk1 hFc hP1 hD1
          clear hz1 hk1 ht hvm hFc
          generalize H1 = H at hP hS ⊢
          have hP : va_P D vwCl [((b 0), .inr (2, [.int 0, .int (nI k), .ref (b 1), .ref (b 2), .ref (b 3), .ref (b 4), .ref (b 5), .int (nI st), .int (nI c), .ref (b 6), .int t, .ref (b 7), .ref (b 8), .long x.1])), ((b 1), .inl (cI, 8, .inl mB)), ((b 2), .inl (cI, 8, .inl mM)), ((b 3), .inl (cI, 8, .inl mP)), ((b 4), .inl (cJ, 8, .inr (.inl mL))), ((b 5), .inl (cI, 8, .inl mO)), ((b 6), .inl (cI, 6, .inl fW)), ((b 7), .inl (cI, 8, .inl (nwF y fi fD))), ((b 8), .inl (cI, 8, .inl (nwF y fi fD)))] H := hP
          have hD : va_D A [((b 0), .inr (2, [.int 0, .int (nI k), .ref (b 1), .ref (b 2), .ref (b 3), .ref (b 4), .ref (b 5), .int (nI st), .int (nI c), .ref (b 6), .int t, .ref (b 7), .ref (b 8), .long x.1])), ((b 1), .inl (cI, 8, .inl mB)), ((b 2), .inl (cI, 8, .inl mM)), ((b 3), .inl (cI, 8, .inl mP)), ((b 4), .inl (cJ, 8, .inr (.inl mL))), ((b 5), .inl (cI, 8, .inl mO)), ((b 6), .inl (cI, 6, .inl fW)), ((b 7), .inl (cI, 8, .inl (nwF y fi fD))), ((b 8), .inl (cI, 8, .inl (nwF y fi fD)))] := hD
          refine lv_i2l (v := ((duF c t y fW fD i 60 0)).toInt64) hx hb dX2_digest_367 rfl ?_
          refine lv_ladd hx hb dX2_digest_368 ?_
          refine topL (y := mx (mx (mx (mx (mx (dgSs mL st c t y fW fD (dgMs mB mO mL k st (dg0 fi mO mL k st c t y fD) k) i) (((fD i)).toInt64)) (((fW i)).toInt64)) (bL ((absI (fD i)).toInt ≤ t.toInt))) (gvn (mL st) (mL st) 5 (fD i))) (((duF c t y fW fD i 60 0)).toInt64)) rfl ?_
          refine lv_lstore_n (lv' := [(2, .long (mx (mx (mx (mx (mx (dgSs mL st c t y fW fD (dgMs mB mO mL k st (dg0 fi mO mL k st c t y fD) k) i) (((fD i)).toInt64)) (((fW i)).toInt64)) (bL ((absI (fD i)).toInt ≤ t.toInt))) (gvn (mL st) (mL st) 5 (fD i))) (((duF c t y fW fD i 60 0)).toInt64))), (0, .ref (b 0)), (4, .int (nI i))]) hx hb dX2_digest_369 rfl hl (by decide) rfl (fun ls hl => ?_)
          refine lv_lload_n hx hb dX2_digest_370 rfl (lv_at hl 0 rfl) ?_
          refine lv_ldc2 (v := 31) hx hb hown (hts (.constantLong RX2 157 31) (by decide +kernel)) dX2_digest_371 ?_
          refine lv_lmul hx hb dX2_digest_374 ?_
          refine lv_aload_n hx hb dX2_digest_375 rfl (lv_at hl 1 rfl) ?_
          refine lv_iload hx hb dX2_digest_376 (lv_at hl 2 rfl) ?_
          have hFc := va_free (wc := [((b 0), .inr (2, [.int 0, .int (nI k), .ref (b 1), .ref (b 2), .ref (b 3), .ref (b 4), .ref (b 5), .int (nI st), .int (nI c), .ref (b 6), .int t, .ref (b 7), .ref (b 8), .long x.1])), ((b 1), .inl (cI, 8, .inl mB)), ((b 2), .inl (cI, 8, .inl mM)), ((b 3), .inl (cI, 8, .inl mP)), ((b 4), .inl (cJ, 8, .inr (.inl mL))), ((b 5), .inl (cI, 8, .inl mO)), ((b 6), .inl (cI, 6, .inl fW)), ((b 7), .inl (cI, 8, .inl (nwF y fi fD))), ((b 8), .inl (cI, 8, .inl (nwF y fi fD)))]) hD hS hA [0, 1, 2, 3, 4, 5, 6, 7, 8] rfl
          refine va_calli (va_runV (As := [.int (nI i)]) (rest := [.long ((mx (mx (mx (mx (mx (dgSs mL st c t y fW fD (dgMs mB mO mL k st (dg0 fi mO mL k st c t y fD) k) i) (((fD i)).toInt64)) (((fW i)).toInt64)) (bL ((absI (fD i)).toInt ≤ t.toInt))) (gvn (mL st) (mL st) 5 (fD i))) (((duF c t y fW fD i 60 0)).toInt64)) * 31)]) ⟨hx, hb, hml, hown, hts⟩ (c_X2_bestDay l D cI cJ H.size b 0 k st c t (x.1) mB mM mP mL mO fW y fi fD (nwF y fi fD) hc hy i (by omega)) (cwV 1 hts gX2_digest_X2_bestDay rfl rfl rfl (by decide +kernel) ⟨Nat.le_of_ble_eq_true rfl, Nat.le_of_ble_eq_true rfl⟩) (preV_wr KM_ok (hP.sub (ws' := [((b 0), .inr (2, [.int 0, .int (nI k), .ref (b 1), .ref (b 2), .ref (b 3), .ref (b 4), .ref (b 5), .int (nI st), .int (nI c), .ref (b 6), .int t, .ref (b 7), .ref (b 8), .long x.1])), ((b 1), .inl (cI, 8, .inl mB)), ((b 2), .inl (cI, 8, .inl mM)), ((b 3), .inl (cI, 8, .inl mP)), ((b 4), .inl (cJ, 8, .inr (.inl mL))), ((b 5), .inl (cI, 8, .inl mO)), ((b 6), .inl (cI, 6, .inl fW)), ((b 7), .inl (cI, 8, .inl (nwF y fi fD))), ((b 8), .inl (cI, 8, .inl (nwF y fi fD)))]) [0, 1, 2, 3, 4, 5, 6, 7, 8] rfl) (hD.sub (ws' := [((b 0), .inr (2, [.int 0, .int (nI k), .ref (b 1), .ref (b 2), .ref (b 3), .ref (b 4), .ref (b 5), .int (nI st), .int (nI c), .ref (b 6), .int t, .ref (b 7), .ref (b 8), .long x.1])), ((b 1), .inl (cI, 8, .inl mB)), ((b 2), .inl (cI, 8, .inl mM)), ((b 3), .inl (cI, 8, .inl mP)), ((b 4), .inl (cJ, 8, .inr (.inl mL))), ((b 5), .inl (cI, 8, .inl mO)), ((b 6), .inl (cI, 6, .inl fW)), ((b 7), .inl (cI, 8, .inl (nwF y fi fD))), ((b 8), .inl (cI, 8, .inl (nwF y fi fD)))]) [0, 1, 2, 3, 4, 5, 6, 7, 8] (by decide) rfl) hK (va_recv hK hP (ci := 2) (q0 := 0) rfl rfl)) rfl rfl hl.1 rfl (lv_room (Nat.le_of_ble_eq_true rfl)) dX2_digest_378 ⟨by decide, by decide⟩) hS (fun q _ h => hFc q h) hFc (fun r_378 u t9 H1 locs ht hvm hw9 hB hz1 hk1 hS => ?_)
          obtain ⟨hr9, rfl⟩ := hw9
          have hr9 := hr9.symm
          subst hr9
          obtain ⟨hP1, hD1⟩ := hB
          rw [ht] at hP1
          obtain ⟨hP, hD⟩ := va_join (wr := []) (w1 := [((b 0), .inr (2, [.int 0, .int (nI k), .ref (b 1), .ref (b 2), .ref (b 3), .ref (b 4), .ref (b 5), .int (nI st), .int (nI c), .ref (b 6), .int t, .ref (b 7), .ref (b 8), .long x.1])), ((b 1), .inl (cI, 8, .inl mB)), ((b 2), .inl (cI, 8, .inl mM)), ((b 3), .inl (cI, 8, .inl mP)), ((b 4), .inl (cJ, 8, .inr (.inl mL))), ((b 5), .inl (cI, 8, .inl mO)), ((b 6), .inl (cI, 6, .inl fW)), ((b 7), .inl (cI, 8, .inl (nwF y fi fD))), ((b 8), .inl (cI, 8, .inl (nwF y fi fD)))]) hP hD [0, 1, 2, 3, 4, 5, 6, 7, 8] [] rfl rfl (by decide) (by decide) hk1 hFc hP1 hD1
          clear hz1 hk1 ht hvm hFc
          generalize H1 = H at hP hS ⊢
          have hP : va_P D vwCl [((b 0), .inr (2, [.int 0, .int (nI k), .ref (b 1), .ref (b 2), .ref (b 3), .ref (b 4), .ref (b 5), .int (nI st), .int (nI c), .ref (b 6), .int t, .ref (b 7), .ref (b 8), .long x.1])), ((b 1), .inl (cI, 8, .inl mB)), ((b 2), .inl (cI, 8, .inl mM)), ((b 3), .inl (cI, 8, .inl mP)), ((b 4), .inl (cJ, 8, .inr (.inl mL))), ((b 5), .inl (cI, 8, .inl mO)), ((b 6), .inl (cI, 6, .inl fW)), ((b 7), .inl (cI, 8, .inl (nwF y fi fD))), ((b 8), .inl (cI, 8, .inl (nwF y fi fD)))] H := hP
          have hD : va_D A [((b 0), .inr (2, [.int 0, .int (nI k), .ref (b 1), .ref (b 2), .ref (b 3), .ref (b 4), .ref (b 5), .int (nI st), .int (nI c), .ref (b 6), .int t, .ref (b 7), .ref (b 8), .long x.1])), ((b 1), .inl (cI, 8, .inl mB)), ((b 2), .inl (cI, 8, .inl mM)), ((b 3), .inl (cI, 8, .inl mP)), ((b 4), .inl (cJ, 8, .inr (.inl mL))), ((b 5), .inl (cI, 8, .inl mO)), ((b 6), .inl (cI, 6, .inl fW)), ((b 7), .inl (cI, 8, .inl (nwF y fi fD))), ((b 8), .inl (cI, 8, .inl (nwF y fi fD)))] := hD
          refine lv_i2l (v := ((nI (bdB c t y fW fD i 30))).toInt64) hx hb dX2_digest_381 rfl ?_
          refine lv_ladd hx hb dX2_digest_382 ?_
          refine topL (y := mx (mx (mx (mx (mx (mx (dgSs mL st c t y fW fD (dgMs mB mO mL k st (dg0 fi mO mL k st c t y fD) k) i) (((fD i)).toInt64)) (((fW i)).toInt64)) (bL ((absI (fD i)).toInt ≤ t.toInt))) (gvn (mL st) (mL st) 5 (fD i))) (((duF c t y fW fD i 60 0)).toInt64)) (((nI (bdB c t y fW fD i 30))).toInt64)) rfl ?_
          refine lv_lstore_n (lv' := [(2, .long (mx (mx (mx (mx (mx (mx (dgSs mL st c t y fW fD (dgMs mB mO mL k st (dg0 fi mO mL k st c t y fD) k) i) (((fD i)).toInt64)) (((fW i)).toInt64)) (bL ((absI (fD i)).toInt ≤ t.toInt))) (gvn (mL st) (mL st) 5 (fD i))) (((duF c t y fW fD i 60 0)).toInt64)) (((nI (bdB c t y fW fD i 30))).toInt64))), (0, .ref (b 0)), (4, .int (nI i))]) hx hb dX2_digest_383 rfl hl (by decide) rfl (fun ls hl => ?_)
          refine lv_iinc (v := (nI (i + 1))) (lv' := [(4, .int (nI (i + 1))), (2, .long (mx (mx (mx (mx (mx (mx (dgSs mL st c t y fW fD (dgMs mB mO mL k st (dg0 fi mO mL k st c t y fD) k) i) (((fD i)).toInt64)) (((fW i)).toInt64)) (bL ((absI (fD i)).toInt ≤ t.toInt))) (gvn (mL st) (mL st) 5 (fD i))) (((duF c t y fW fD i 60 0)).toInt64)) (((nI (bdB c t y fW fD i 30))).toInt64))), (0, .ref (b 0))]) hx hb dX2_digest_384 hl (k := 2) rfl (nI_inc i) (by decide) rfl (fun ls hl => ?_)
          refine lv_goto (tgt := 268) hx hb dX2_digest_387 (by decide) ?_
          exact kk (x.1, (nwF y fi fD)) _ _ ls (by omega) ⟨lv_sub hl [2, 1, 0] rfl, hP, hD, hS⟩
    · skip
      simp only [Int32.le_iff_toInt_le] at c_144
      rw [nI_toInt (n := i) (by omega)] at c_144
      rw [nI_toInt (n := k) (by omega)] at c_144
      refine lv_lload_n hx hb dX2_digest_147 rfl (lv_at hl 1 rfl) ?_
      refine lv_ldc2 (v := 31) hx hb hown (hts (.constantLong RX2 157 31) (by decide +kernel)) dX2_digest_148 ?_
      refine lv_lmul hx hb dX2_digest_151 ?_
      refine lv_aload_n hx hb dX2_digest_152 rfl (lv_at hl 0 rfl) ?_
      refine va_get (D := D) (ci := 2) (v := .ref (b 1)) (C := RX2) (T := TX2) (N := 14) hx hb hts hiX2 hown hK hP 0 rfl rfl 2 (by decide) hw13 (fun _ h9 => h9) rfl dX2_digest_153 ?_
      refine lv_iload hx hb dX2_digest_156 (lv_at hl 2 rfl) ?_
      refine xa_iald hx hb hK hP 1 0 rfl rfl (by omega) (by decide) dX2_digest_158 ?_
      refine lv_i2l (v := ((mB i)).toInt64) hx hb dX2_digest_159 rfl ?_
      refine lv_ladd hx hb dX2_digest_160 ?_
      refine topL (y := mx (dgMs mB mO mL k st (dg0 fi mO mL k st c t y fD) i) (((mB i)).toInt64)) rfl ?_
      refine lv_lstore_n (lv' := [(2, .long (mx (dgMs mB mO mL k st (dg0 fi mO mL k st c t y fD) i) (((mB i)).toInt64))), (0, .ref (b 0)), (4, .int (nI i))]) hx hb dX2_digest_161 rfl hl (by decide) rfl (fun ls hl => ?_)
      refine lv_lload_n hx hb dX2_digest_162 rfl (lv_at hl 0 rfl) ?_
      refine lv_ldc2 (v := 31) hx hb hown (hts (.constantLong RX2 157 31) (by decide +kernel)) dX2_digest_163 ?_
      refine lv_lmul hx hb dX2_digest_166 ?_
      refine lv_aload_n hx hb dX2_digest_167 rfl (lv_at hl 1 rfl) ?_
      refine lv_iload hx hb dX2_digest_168 (lv_at hl 2 rfl) ?_
      refine lv_aload_n hx hb dX2_digest_170 rfl (lv_at hl 1 rfl) ?_
      refine va_get (D := D) (ci := 2) (v := .int (nI st)) (C := RX2) (T := TX2) (N := 14) hx hb hts hiX2 hown hK hP 0 rfl rfl 7 (by decide) hw88 (fun _ h9 => h9) rfl dX2_digest_171 ?_
      refine ro_lE (va_runV (As := [.int (nI i), .int (nI st)]) (rest := [.long ((mx (dgMs mB mO mL k st (dg0 fi mO mL k st c t y fD) i) (((mB i)).toInt64)) * 31)]) ⟨hx, hb, hml, hown, hts⟩ (c_X2_top l D cI cJ b 0 k st c t x mB mM mP mL mO fW y fi fD mK hM i st (by omega) (by omega)) (cwV 2 hts gX2_digest_X2_top rfl rfl rfl (by decide +kernel) ⟨Nat.le_of_ble_eq_true rfl, Nat.le_of_ble_eq_true rfl⟩) (preV_ro KM_ok (hP.sub (ws' := [((b 0), .inr (2, [.int 0, .int (nI k), .ref (b 1), .ref (b 2), .ref (b 3), .ref (b 4), .ref (b 5), .int (nI st), .int (nI c), .ref (b 6), .int t, .ref (b 7), .ref (b 8), .long x])), ((b 1), .inl (cI, 8, .inl mB)), ((b 2), .inl (cI, 8, .inl mM)), ((b 3), .inl (cI, 8, .inl mP)), ((b 4), .inl (cJ, 8, .inr (.inl mL))), ((b 5), .inl (cI, 8, .inl mO)), ((b 6), .inl (cI, 6, .inl fW)), ((b 7), .inl (cI, 8, .inl (nwF y fi fD))), ((b 8), .inl (cI, 8, .inl mK))]) [0, 1, 2, 3, 4, 5, 6, 7, 8] rfl) hK (va_recv hK hP (ci := 2) (q0 := 0) rfl rfl)) rfl rfl hl.1 rfl (lv_room (Nat.le_of_ble_eq_true rfl)) dX2_digest_174 ⟨by decide, by decide⟩) ?_
      refine lv_ladd hx hb dX2_digest_177 ?_
      refine topL (y := mx (mx (dgMs mB mO mL k st (dg0 fi mO mL k st c t y fD) i) (((mB i)).toInt64)) (tp (mL i) (mL st))) rfl ?_
      refine lv_lstore_n (lv' := [(2, .long (mx (mx (dgMs mB mO mL k st (dg0 fi mO mL k st c t y fD) i) (((mB i)).toInt64)) (tp (mL i) (mL st)))), (0, .ref (b 0)), (4, .int (nI i))]) hx hb dX2_digest_178 rfl hl (by decide) rfl (fun ls hl => ?_)
      refine lv_lload_n hx hb dX2_digest_179 rfl (lv_at hl 0 rfl) ?_
      refine lv_ldc2 (v := 31) hx hb hown (hts (.constantLong RX2 157 31) (by decide +kernel)) dX2_digest_180 ?_
      refine lv_lmul hx hb dX2_digest_183 ?_
      refine lv_aload_n hx hb dX2_digest_184 rfl (lv_at hl 1 rfl) ?_
      refine lv_aload_n hx hb dX2_digest_185 rfl (lv_at hl 1 rfl) ?_
      refine va_get (D := D) (ci := 2) (v := .int (nI st)) (C := RX2) (T := TX2) (N := 14) hx hb hts hiX2 hown hK hP 0 rfl rfl 7 (by decide) hw88 (fun _ h9 => h9) rfl dX2_digest_186 ?_
      refine lv_iload hx hb dX2_digest_189 (lv_at hl 2 rfl) ?_
      refine ro_lE (va_runV (As := [.int (nI st), .int (nI i)]) (rest := [.long ((mx (mx (dgMs mB mO mL k st (dg0 fi mO mL k st c t y fD) i) (((mB i)).toInt64)) (tp (mL i) (mL st))) * 31)]) ⟨hx, hb, hml, hown, hts⟩ (c_X2_top l D cI cJ b 0 k st c t x mB mM mP mL mO fW y fi fD mK hM st i (by omega) (by omega)) (cwV 2 hts gX2_digest_X2_top rfl rfl rfl (by decide +kernel) ⟨Nat.le_of_ble_eq_true rfl, Nat.le_of_ble_eq_true rfl⟩) (preV_ro KM_ok (hP.sub (ws' := [((b 0), .inr (2, [.int 0, .int (nI k), .ref (b 1), .ref (b 2), .ref (b 3), .ref (b 4), .ref (b 5), .int (nI st), .int (nI c), .ref (b 6), .int t, .ref (b 7), .ref (b 8), .long x])), ((b 1), .inl (cI, 8, .inl mB)), ((b 2), .inl (cI, 8, .inl mM)), ((b 3), .inl (cI, 8, .inl mP)), ((b 4), .inl (cJ, 8, .inr (.inl mL))), ((b 5), .inl (cI, 8, .inl mO)), ((b 6), .inl (cI, 6, .inl fW)), ((b 7), .inl (cI, 8, .inl (nwF y fi fD))), ((b 8), .inl (cI, 8, .inl mK))]) [0, 1, 2, 3, 4, 5, 6, 7, 8] rfl) hK (va_recv hK hP (ci := 2) (q0 := 0) rfl rfl)) rfl rfl hl.1 rfl (lv_room (Nat.le_of_ble_eq_true rfl)) dX2_digest_191 ⟨by decide, by decide⟩) ?_
      refine lv_ladd hx hb dX2_digest_194 ?_
      refine topL (y := mx (mx (mx (dgMs mB mO mL k st (dg0 fi mO mL k st c t y fD) i) (((mB i)).toInt64)) (tp (mL i) (mL st))) (tp (mL st) (mL i))) rfl ?_
      refine lv_lstore_n (lv' := [(2, .long (mx (mx (mx (dgMs mB mO mL k st (dg0 fi mO mL k st c t y fD) i) (((mB i)).toInt64)) (tp (mL i) (mL st))) (tp (mL st) (mL i)))), (0, .ref (b 0)), (4, .int (nI i))]) hx hb dX2_digest_195 rfl hl (by decide) rfl (fun ls hl => ?_)
      refine lv_lload_n hx hb dX2_digest_196 rfl (lv_at hl 0 rfl) ?_
      refine lv_ldc2 (v := 31) hx hb hown (hts (.constantLong RX2 157 31) (by decide +kernel)) dX2_digest_197 ?_
      refine lv_lmul hx hb dX2_digest_200 ?_
      refine lv_aload_n hx hb dX2_digest_201 rfl (lv_at hl 1 rfl) ?_
      refine lv_ldc2 (v := 7) hx hb hown (hts (.constantLong RX2 159 7) (by decide +kernel)) dX2_digest_202 ?_
      refine lv_aload_n hx hb dX2_digest_205 rfl (lv_at hl 1 rfl) ?_
      refine va_get (D := D) (ci := 2) (v := .ref (b 4)) (C := RX2) (T := TX2) (N := 14) hx hb hts hiX2 hown hK hP 0 rfl rfl 5 (by decide) hw23 (fun _ h9 => h9) rfl dX2_digest_206 ?_
      refine lv_iload hx hb dX2_digest_209 (lv_at hl 2 rfl) ?_
      refine xa_lald hx hb hK hP 4 1 rfl rfl (by omega) (by decide) dX2_digest_211 ?_
      refine lv_lmul hx hb dX2_digest_212 ?_
      refine topL (y := mL i * (7 : Int32).toInt64) (by rw [e7L]; exact Int64.mul_comm _ _) ?_
      refine lv_iconst (v := (-1)) hx hb dX2_digest_213 (by decide) ?_
      have hFc := va_free (wc := [((b 0), .inr (2, [.int 0, .int (nI k), .ref (b 1), .ref (b 2), .ref (b 3), .ref (b 4), .ref (b 5), .int (nI st), .int (nI c), .ref (b 6), .int t, .ref (b 7), .ref (b 8), .long x])), ((b 1), .inl (cI, 8, .inl mB)), ((b 2), .inl (cI, 8, .inl mM)), ((b 3), .inl (cI, 8, .inl mP)), ((b 4), .inl (cJ, 8, .inr (.inl mL))), ((b 5), .inl (cI, 8, .inl mO)), ((b 6), .inl (cI, 6, .inl fW)), ((b 7), .inl (cI, 8, .inl (nwF y fi fD))), ((b 8), .inl (cI, 8, .inl mK))]) hD hS hA [0, 1, 2, 3, 4, 5, 6, 7, 8] rfl
      refine va_calll (va_runV (As := [.long (mL i * (7 : Int32).toInt64), .int (-1)]) (rest := [.long ((mx (mx (mx (dgMs mB mO mL k st (dg0 fi mO mL k st c t y fD) i) (((mB i)).toInt64)) (tp (mL i) (mL st))) (tp (mL st) (mL i))) * 31)]) ⟨hx, hb, hml, hown, hts⟩ (c_X2_split_n l D cI cJ H.size b 0 k st c t x mB mM mP mL mO fW y fi fD mK hM (mL i * (7 : Int32).toInt64)) (cwV 2 hts gX2_digest_X2_split rfl rfl rfl (by decide +kernel) ⟨Nat.le_of_ble_eq_true rfl, Nat.le_of_ble_eq_true rfl⟩) (preV_wr KM_ok (hP.sub (ws' := [((b 0), .inr (2, [.int 0, .int (nI k), .ref (b 1), .ref (b 2), .ref (b 3), .ref (b 4), .ref (b 5), .int (nI st), .int (nI c), .ref (b 6), .int t, .ref (b 7), .ref (b 8), .long x])), ((b 1), .inl (cI, 8, .inl mB)), ((b 2), .inl (cI, 8, .inl mM)), ((b 3), .inl (cI, 8, .inl mP)), ((b 4), .inl (cJ, 8, .inr (.inl mL))), ((b 5), .inl (cI, 8, .inl mO)), ((b 6), .inl (cI, 6, .inl fW)), ((b 7), .inl (cI, 8, .inl (nwF y fi fD))), ((b 8), .inl (cI, 8, .inl mK))]) [0, 1, 2, 3, 4, 5, 6, 7, 8] rfl) (hD.sub (ws' := [((b 0), .inr (2, [.int 0, .int (nI k), .ref (b 1), .ref (b 2), .ref (b 3), .ref (b 4), .ref (b 5), .int (nI st), .int (nI c), .ref (b 6), .int t, .ref (b 7), .ref (b 8), .long x])), ((b 1), .inl (cI, 8, .inl mB)), ((b 2), .inl (cI, 8, .inl mM)), ((b 3), .inl (cI, 8, .inl mP)), ((b 4), .inl (cJ, 8, .inr (.inl mL))), ((b 5), .inl (cI, 8, .inl mO)), ((b 6), .inl (cI, 6, .inl fW)), ((b 7), .inl (cI, 8, .inl (nwF y fi fD))), ((b 8), .inl (cI, 8, .inl mK))]) [0, 1, 2, 3, 4, 5, 6, 7, 8] (by decide) rfl) hK (va_recv hK hP (ci := 2) (q0 := 0) rfl rfl)) rfl rfl hl.1 rfl (lv_room (Nat.le_of_ble_eq_true rfl)) dX2_digest_214 ⟨by decide, by decide⟩) hS (fun q _ h => hFc q h) hFc (fun r_214 u t9 H1 locs ht hvm hw9 hB hz1 hk1 hS => ?_)
      obtain ⟨hr9, rfl⟩ := hw9
      have hr9 := hr9.symm
      subst hr9
      obtain ⟨hP1, hD1⟩ := hB
      rw [ht] at hP1
      obtain ⟨hP, hD⟩ := va_join (wr := []) (w1 := [((b 0), .inr (2, [.int 0, .int (nI k), .ref (b 1), .ref (b 2), .ref (b 3), .ref (b 4), .ref (b 5), .int (nI st), .int (nI c), .ref (b 6), .int t, .ref (b 7), .ref (b 8), .long (lfT (lnA mL mO) (mL i * (7 : Int32).toInt64) k)])), ((b 1), .inl (cI, 8, .inl mB)), ((b 2), .inl (cI, 8, .inl mM)), ((b 3), .inl (cI, 8, .inl mP)), ((b 4), .inl (cJ, 8, .inr (.inl mL))), ((b 5), .inl (cI, 8, .inl mO)), ((b 6), .inl (cI, 6, .inl fW)), ((b 7), .inl (cI, 8, .inl (nwF y fi fD))), ((b 8), .inl (cI, 8, .inl mK))]) hP hD [0, 1, 2, 3, 4, 5, 6, 7, 8] [] rfl rfl (by decide) (by decide) hk1 hFc hP1 hD1
      clear hz1 hk1 ht hvm hFc
      generalize H1 = H at hP hS ⊢
      have hP : va_P D vwCl [((b 0), .inr (2, [.int 0, .int (nI k), .ref (b 1), .ref (b 2), .ref (b 3), .ref (b 4), .ref (b 5), .int (nI st), .int (nI c), .ref (b 6), .int t, .ref (b 7), .ref (b 8), .long (lfT (lnA mL mO) (mL i * (7 : Int32).toInt64) k)])), ((b 1), .inl (cI, 8, .inl mB)), ((b 2), .inl (cI, 8, .inl mM)), ((b 3), .inl (cI, 8, .inl mP)), ((b 4), .inl (cJ, 8, .inr (.inl mL))), ((b 5), .inl (cI, 8, .inl mO)), ((b 6), .inl (cI, 6, .inl fW)), ((b 7), .inl (cI, 8, .inl (nwF y fi fD))), ((b 8), .inl (cI, 8, .inl mK))] H := hP
      have hD : va_D A [((b 0), .inr (2, [.int 0, .int (nI k), .ref (b 1), .ref (b 2), .ref (b 3), .ref (b 4), .ref (b 5), .int (nI st), .int (nI c), .ref (b 6), .int t, .ref (b 7), .ref (b 8), .long (lfT (lnA mL mO) (mL i * (7 : Int32).toInt64) k)])), ((b 1), .inl (cI, 8, .inl mB)), ((b 2), .inl (cI, 8, .inl mM)), ((b 3), .inl (cI, 8, .inl mP)), ((b 4), .inl (cJ, 8, .inr (.inl mL))), ((b 5), .inl (cI, 8, .inl mO)), ((b 6), .inl (cI, 6, .inl fW)), ((b 7), .inl (cI, 8, .inl (nwF y fi fD))), ((b 8), .inl (cI, 8, .inl mK))] := hD
      refine lv_ladd hx hb dX2_digest_217 ?_
      refine topL (y := mx (mx (mx (mx (dgMs mB mO mL k st (dg0 fi mO mL k st c t y fD) i) (((mB i)).toInt64)) (tp (mL i) (mL st))) (tp (mL st) (mL i))) (tkT (lnA mL mO) (mL i * (7 : Int32).toInt64) k)) rfl ?_
      refine lv_lstore_n (lv' := [(2, .long (mx (mx (mx (mx (dgMs mB mO mL k st (dg0 fi mO mL k st c t y fD) i) (((mB i)).toInt64)) (tp (mL i) (mL st))) (tp (mL st) (mL i))) (tkT (lnA mL mO) (mL i * (7 : Int32).toInt64) k))), (0, .ref (b 0)), (4, .int (nI i))]) hx hb dX2_digest_218 rfl hl (by decide) rfl (fun ls hl => ?_)
      refine lv_lload_n hx hb dX2_digest_219 rfl (lv_at hl 0 rfl) ?_
      refine lv_ldc2 (v := 31) hx hb hown (hts (.constantLong RX2 157 31) (by decide +kernel)) dX2_digest_220 ?_
      refine lv_lmul hx hb dX2_digest_223 ?_
      refine lv_aload_n hx hb dX2_digest_224 rfl (lv_at hl 1 rfl) ?_
      refine lv_bipush (v := 7) hx hb dX2_digest_225 (by decide) ?_
      refine lv_iload hx hb dX2_digest_227 (lv_at hl 2 rfl) ?_
      have hFc := va_free (wc := [((b 0), .inr (2, [.int 0, .int (nI k), .ref (b 1), .ref (b 2), .ref (b 3), .ref (b 4), .ref (b 5), .int (nI st), .int (nI c), .ref (b 6), .int t, .ref (b 7), .ref (b 8), .long (lfT (lnA mL mO) (mL i * (7 : Int32).toInt64) k)])), ((b 1), .inl (cI, 8, .inl mB)), ((b 2), .inl (cI, 8, .inl mM)), ((b 3), .inl (cI, 8, .inl mP)), ((b 4), .inl (cJ, 8, .inr (.inl mL))), ((b 5), .inl (cI, 8, .inl mO)), ((b 6), .inl (cI, 6, .inl fW)), ((b 7), .inl (cI, 8, .inl (nwF y fi fD))), ((b 8), .inl (cI, 8, .inl mK))]) hD hS hA [0, 1, 2, 3, 4, 5, 6, 7, 8] rfl
      refine va_calli (va_runV (As := [.int (7 : Int32), .int (nI i)]) (rest := [.long ((mx (mx (mx (mx (dgMs mB mO mL k st (dg0 fi mO mL k st c t y fD) i) (((mB i)).toInt64)) (tp (mL i) (mL st))) (tp (mL st) (mL i))) (tkT (lnA mL mO) (mL i * (7 : Int32).toInt64) k)) * 31)]) ⟨hx, hb, hml, hown, hts⟩ (c_X2_tells l D cI cJ H.size b 0 k st c t (lfT (lnA mL mO) (mL i * (7 : Int32).toInt64) k) mB mM mP mL mO fW y fi fD mK hM (7 : Int32) i (by omega)) (cwV 2 hts gX2_digest_X2_tells rfl rfl rfl (by decide +kernel) ⟨Nat.le_of_ble_eq_true rfl, Nat.le_of_ble_eq_true rfl⟩) (preV_wr KM_ok (hP.sub (ws' := [((b 0), .inr (2, [.int 0, .int (nI k), .ref (b 1), .ref (b 2), .ref (b 3), .ref (b 4), .ref (b 5), .int (nI st), .int (nI c), .ref (b 6), .int t, .ref (b 7), .ref (b 8), .long (lfT (lnA mL mO) (mL i * (7 : Int32).toInt64) k)])), ((b 1), .inl (cI, 8, .inl mB)), ((b 2), .inl (cI, 8, .inl mM)), ((b 3), .inl (cI, 8, .inl mP)), ((b 4), .inl (cJ, 8, .inr (.inl mL))), ((b 5), .inl (cI, 8, .inl mO)), ((b 6), .inl (cI, 6, .inl fW)), ((b 7), .inl (cI, 8, .inl (nwF y fi fD))), ((b 8), .inl (cI, 8, .inl mK))]) [0, 1, 2, 3, 4, 5, 6, 7, 8] rfl) (hD.sub (ws' := [((b 0), .inr (2, [.int 0, .int (nI k), .ref (b 1), .ref (b 2), .ref (b 3), .ref (b 4), .ref (b 5), .int (nI st), .int (nI c), .ref (b 6), .int t, .ref (b 7), .ref (b 8), .long (lfT (lnA mL mO) (mL i * (7 : Int32).toInt64) k)])), ((b 1), .inl (cI, 8, .inl mB)), ((b 2), .inl (cI, 8, .inl mM)), ((b 3), .inl (cI, 8, .inl mP)), ((b 4), .inl (cJ, 8, .inr (.inl mL))), ((b 5), .inl (cI, 8, .inl mO)), ((b 6), .inl (cI, 6, .inl fW)), ((b 7), .inl (cI, 8, .inl (nwF y fi fD))), ((b 8), .inl (cI, 8, .inl mK))]) [0, 1, 2, 3, 4, 5, 6, 7, 8] (by decide) rfl) hK (va_recv hK hP (ci := 2) (q0 := 0) rfl rfl)) rfl rfl hl.1 rfl (lv_room (Nat.le_of_ble_eq_true rfl)) dX2_digest_229 ⟨by decide, by decide⟩) hS (fun q _ h => hFc q h) hFc (fun r_229 u t9 H1 locs ht hvm hw9 hB hz1 hk1 hS => ?_)
      obtain ⟨hr9, rfl⟩ := hw9
      have hr9 := hr9.symm
      subst hr9
      obtain ⟨hP1, hD1⟩ := hB
      rw [ht] at hP1
      obtain ⟨hP, hD⟩ := va_join (wr := []) (w1 := [((b 0), .inr (2, [.int 0, .int (nI k), .ref (b 1), .ref (b 2), .ref (b 3), .ref (b 4), .ref (b 5), .int (nI st), .int (nI c), .ref (b 6), .int t, .ref (b 7), .ref (b 8), .long (lfT (lnA mL mO) (mL i * ((7 : Int32)).toInt64) k)])), ((b 1), .inl (cI, 8, .inl mB)), ((b 2), .inl (cI, 8, .inl mM)), ((b 3), .inl (cI, 8, .inl mP)), ((b 4), .inl (cJ, 8, .inr (.inl mL))), ((b 5), .inl (cI, 8, .inl mO)), ((b 6), .inl (cI, 6, .inl fW)), ((b 7), .inl (cI, 8, .inl (nwF y fi fD))), ((b 8), .inl (cI, 8, .inl mK))]) hP hD [0, 1, 2, 3, 4, 5, 6, 7, 8] [] rfl rfl (by decide) (by decide) hk1 hFc hP1 hD1
      clear hz1 hk1 ht hvm hFc
      generalize H1 = H at hP hS ⊢
      have hP : va_P D vwCl [((b 0), .inr (2, [.int 0, .int (nI k), .ref (b 1), .ref (b 2), .ref (b 3), .ref (b 4), .ref (b 5), .int (nI st), .int (nI c), .ref (b 6), .int t, .ref (b 7), .ref (b 8), .long (lfT (lnA mL mO) (mL i * ((7 : Int32)).toInt64) k)])), ((b 1), .inl (cI, 8, .inl mB)), ((b 2), .inl (cI, 8, .inl mM)), ((b 3), .inl (cI, 8, .inl mP)), ((b 4), .inl (cJ, 8, .inr (.inl mL))), ((b 5), .inl (cI, 8, .inl mO)), ((b 6), .inl (cI, 6, .inl fW)), ((b 7), .inl (cI, 8, .inl (nwF y fi fD))), ((b 8), .inl (cI, 8, .inl mK))] H := hP
      have hD : va_D A [((b 0), .inr (2, [.int 0, .int (nI k), .ref (b 1), .ref (b 2), .ref (b 3), .ref (b 4), .ref (b 5), .int (nI st), .int (nI c), .ref (b 6), .int t, .ref (b 7), .ref (b 8), .long (lfT (lnA mL mO) (mL i * ((7 : Int32)).toInt64) k)])), ((b 1), .inl (cI, 8, .inl mB)), ((b 2), .inl (cI, 8, .inl mM)), ((b 3), .inl (cI, 8, .inl mP)), ((b 4), .inl (cJ, 8, .inr (.inl mL))), ((b 5), .inl (cI, 8, .inl mO)), ((b 6), .inl (cI, 6, .inl fW)), ((b 7), .inl (cI, 8, .inl (nwF y fi fD))), ((b 8), .inl (cI, 8, .inl mK))] := hD
      refine lv_if_eq (tgt := 239) hx hb dX2_digest_232 (by decide) (fun c_232 => ?_) (fun c_232 => ?_)
      · skip
        have c_232 := bz_0 c_232
        refine lv_iconst (v := 0) hx hb dX2_digest_239 (by decide) ?_
        refine lv_i2l (v := (0 : Int32).toInt64) hx hb dX2_digest_240 rfl ?_
        refine topL (y := bL ((lfT (lnA mL mO) (mL i * (7 : Int32).toInt64) k).toInt = (0 : Int64).toInt)) (e0L.trans (bL_f c_232).symm) ?_
        refine lv_ladd hx hb dX2_digest_241 ?_
        refine topL (y := mx (mx (mx (mx (mx (dgMs mB mO mL k st (dg0 fi mO mL k st c t y fD) i) (((mB i)).toInt64)) (tp (mL i) (mL st))) (tp (mL st) (mL i))) (tkT (lnA mL mO) (mL i * (7 : Int32).toInt64) k)) (bL ((lfT (lnA mL mO) (mL i * (7 : Int32).toInt64) k).toInt = (0 : Int64).toInt))) rfl ?_
        refine lv_lstore_n (lv' := [(2, .long (mx (mx (mx (mx (mx (dgMs mB mO mL k st (dg0 fi mO mL k st c t y fD) i) (((mB i)).toInt64)) (tp (mL i) (mL st))) (tp (mL st) (mL i))) (tkT (lnA mL mO) (mL i * (7 : Int32).toInt64) k)) (bL ((lfT (lnA mL mO) (mL i * (7 : Int32).toInt64) k).toInt = (0 : Int64).toInt)))), (0, .ref (b 0)), (4, .int (nI i))]) hx hb dX2_digest_242 rfl hl (by decide) rfl (fun ls hl => ?_)
        refine lv_lload_n hx hb dX2_digest_243 rfl (lv_at hl 0 rfl) ?_
        refine lv_ldc2 (v := 31) hx hb hown (hts (.constantLong RX2 157 31) (by decide +kernel)) dX2_digest_244 ?_
        refine lv_lmul hx hb dX2_digest_247 ?_
        refine lv_aload_n hx hb dX2_digest_248 rfl (lv_at hl 1 rfl) ?_
        refine lv_bipush (v := 7) hx hb dX2_digest_249 (by decide) ?_
        refine lv_iload hx hb dX2_digest_251 (lv_at hl 2 rfl) ?_
        have hE9 : ∃ i8, i8 < k ∧ (jrem (mL i * ((7 : Int32)).toInt64) (lnA mL mO i8)).toInt = (0 : Int64).toInt := by obtain ⟨i9, hi9, ei9⟩ := hQ.2 i (by omega); exact ⟨i9, hi9, by unfold lnA; rw [ei9, nI_clamp (by omega)]; exact jrem_self (hM.2.2.1 _ (by omega)) h7w⟩
        refine ro_iE (va_runV (As := [.int (7 : Int32), .int (nI i)]) (rest := [.long ((mx (mx (mx (mx (mx (dgMs mB mO mL k st (dg0 fi mO mL k st c t y fD) i) (((mB i)).toInt64)) (tp (mL i) (mL st))) (tp (mL st) (mL i))) (tkT (lnA mL mO) (mL i * (7 : Int32).toInt64) k)) (bL ((lfT (lnA mL mO) (mL i * (7 : Int32).toInt64) k).toInt = (0 : Int64).toInt))) * 31)]) ⟨hx, hb, hml, hown, hts⟩ (c_X2_best l D cI cJ b 0 k st c t (lfT (lnA mL mO) (mL i * ((7 : Int32)).toInt64) k) mB mM mP mL mO fW y fi fD mK hM (7 : Int32) i (by omega) hE9 (nI i)) (cwV 2 hts gX2_digest_X2_best rfl rfl rfl (by decide +kernel) ⟨Nat.le_of_ble_eq_true rfl, Nat.le_of_ble_eq_true rfl⟩) (preV_ro KM_ok (hP.sub (ws' := [((b 0), .inr (2, [.int 0, .int (nI k), .ref (b 1), .ref (b 2), .ref (b 3), .ref (b 4), .ref (b 5), .int (nI st), .int (nI c), .ref (b 6), .int t, .ref (b 7), .ref (b 8), .long (lfT (lnA mL mO) (mL i * ((7 : Int32)).toInt64) k)])), ((b 1), .inl (cI, 8, .inl mB)), ((b 2), .inl (cI, 8, .inl mM)), ((b 3), .inl (cI, 8, .inl mP)), ((b 4), .inl (cJ, 8, .inr (.inl mL))), ((b 5), .inl (cI, 8, .inl mO)), ((b 6), .inl (cI, 6, .inl fW)), ((b 7), .inl (cI, 8, .inl (nwF y fi fD))), ((b 8), .inl (cI, 8, .inl mK))]) [0, 1, 2, 3, 4, 5, 6, 7, 8] rfl) hK (va_recv hK hP (ci := 2) (q0 := 0) rfl rfl)) rfl rfl hl.1 rfl (lv_room (Nat.le_of_ble_eq_true rfl)) dX2_digest_253 ⟨by decide, by decide⟩) ?_
        refine lv_i2l (v := ((bst (lnA mL mO) (mL i * ((7 : Int32)).toInt64) mO (nI i) k 0)).toInt64) hx hb dX2_digest_256 rfl ?_
        refine lv_ladd hx hb dX2_digest_257 ?_
        refine topL (y := mx (mx (mx (mx (mx (mx (dgMs mB mO mL k st (dg0 fi mO mL k st c t y fD) i) (((mB i)).toInt64)) (tp (mL i) (mL st))) (tp (mL st) (mL i))) (tkT (lnA mL mO) (mL i * (7 : Int32).toInt64) k)) (bL ((lfT (lnA mL mO) (mL i * (7 : Int32).toInt64) k).toInt = (0 : Int64).toInt))) (((bst (lnA mL mO) (mL i * ((7 : Int32)).toInt64) mO (nI i) k 0)).toInt64)) rfl ?_
        refine lv_lstore_n (lv' := [(2, .long (mx (mx (mx (mx (mx (mx (dgMs mB mO mL k st (dg0 fi mO mL k st c t y fD) i) (((mB i)).toInt64)) (tp (mL i) (mL st))) (tp (mL st) (mL i))) (tkT (lnA mL mO) (mL i * (7 : Int32).toInt64) k)) (bL ((lfT (lnA mL mO) (mL i * (7 : Int32).toInt64) k).toInt = (0 : Int64).toInt))) (((bst (lnA mL mO) (mL i * ((7 : Int32)).toInt64) mO (nI i) k 0)).toInt64))), (0, .ref (b 0)), (4, .int (nI i))]) hx hb dX2_digest_258 rfl hl (by decide) rfl (fun ls hl => ?_)
        refine lv_iinc (v := (nI (i + 1))) (lv' := [(4, .int (nI (i + 1))), (2, .long (mx (mx (mx (mx (mx (mx (dgMs mB mO mL k st (dg0 fi mO mL k st c t y fD) i) (((mB i)).toInt64)) (tp (mL i) (mL st))) (tp (mL st) (mL i))) (tkT (lnA mL mO) (mL i * (7 : Int32).toInt64) k)) (bL ((lfT (lnA mL mO) (mL i * (7 : Int32).toInt64) k).toInt = (0 : Int64).toInt))) (((bst (lnA mL mO) (mL i * ((7 : Int32)).toInt64) mO (nI i) k 0)).toInt64))), (0, .ref (b 0))]) hx hb dX2_digest_259 hl (k := 2) rfl (nI_inc i) (by decide) rfl (fun ls hl => ?_)
        refine lv_goto (tgt := 138) hx hb dX2_digest_262 (by decide) ?_
        exact kk (lfT (lnA mL mO) (mL i * ((7 : Int32)).toInt64) k) _ _ ls (by omega) ⟨lv_sub hl [2, 1, 0] rfl, hP, hD, hS⟩
      · skip
        have c_232 := bz_1 c_232
        refine lv_iconst (v := 1) hx hb dX2_digest_235 (by decide) ?_
        refine lv_goto (tgt := 240) hx hb dX2_digest_236 (by decide) ?_
        refine lv_i2l (v := (1 : Int32).toInt64) hx hb dX2_digest_240 rfl ?_
        refine topL (y := bL ((lfT (lnA mL mO) (mL i * (7 : Int32).toInt64) k).toInt = (0 : Int64).toInt)) (e1L.trans (bL_t c_232).symm) ?_
        refine lv_ladd hx hb dX2_digest_241 ?_
        refine topL (y := mx (mx (mx (mx (mx (dgMs mB mO mL k st (dg0 fi mO mL k st c t y fD) i) (((mB i)).toInt64)) (tp (mL i) (mL st))) (tp (mL st) (mL i))) (tkT (lnA mL mO) (mL i * (7 : Int32).toInt64) k)) (bL ((lfT (lnA mL mO) (mL i * (7 : Int32).toInt64) k).toInt = (0 : Int64).toInt))) rfl ?_
        refine lv_lstore_n (lv' := [(2, .long (mx (mx (mx (mx (mx (dgMs mB mO mL k st (dg0 fi mO mL k st c t y fD) i) (((mB i)).toInt64)) (tp (mL i) (mL st))) (tp (mL st) (mL i))) (tkT (lnA mL mO) (mL i * (7 : Int32).toInt64) k)) (bL ((lfT (lnA mL mO) (mL i * (7 : Int32).toInt64) k).toInt = (0 : Int64).toInt)))), (0, .ref (b 0)), (4, .int (nI i))]) hx hb dX2_digest_242 rfl hl (by decide) rfl (fun ls hl => ?_)
        refine lv_lload_n hx hb dX2_digest_243 rfl (lv_at hl 0 rfl) ?_
        refine lv_ldc2 (v := 31) hx hb hown (hts (.constantLong RX2 157 31) (by decide +kernel)) dX2_digest_244 ?_
        refine lv_lmul hx hb dX2_digest_247 ?_
        refine lv_aload_n hx hb dX2_digest_248 rfl (lv_at hl 1 rfl) ?_
        refine lv_bipush (v := 7) hx hb dX2_digest_249 (by decide) ?_
        refine lv_iload hx hb dX2_digest_251 (lv_at hl 2 rfl) ?_
        have hE9 : ∃ i8, i8 < k ∧ (jrem (mL i * ((7 : Int32)).toInt64) (lnA mL mO i8)).toInt = (0 : Int64).toInt := by obtain ⟨i9, hi9, ei9⟩ := hQ.2 i (by omega); exact ⟨i9, hi9, by unfold lnA; rw [ei9, nI_clamp (by omega)]; exact jrem_self (hM.2.2.1 _ (by omega)) h7w⟩
        refine ro_iE (va_runV (As := [.int (7 : Int32), .int (nI i)]) (rest := [.long ((mx (mx (mx (mx (mx (dgMs mB mO mL k st (dg0 fi mO mL k st c t y fD) i) (((mB i)).toInt64)) (tp (mL i) (mL st))) (tp (mL st) (mL i))) (tkT (lnA mL mO) (mL i * (7 : Int32).toInt64) k)) (bL ((lfT (lnA mL mO) (mL i * (7 : Int32).toInt64) k).toInt = (0 : Int64).toInt))) * 31)]) ⟨hx, hb, hml, hown, hts⟩ (c_X2_best l D cI cJ b 0 k st c t (lfT (lnA mL mO) (mL i * ((7 : Int32)).toInt64) k) mB mM mP mL mO fW y fi fD mK hM (7 : Int32) i (by omega) hE9 (nI i)) (cwV 2 hts gX2_digest_X2_best rfl rfl rfl (by decide +kernel) ⟨Nat.le_of_ble_eq_true rfl, Nat.le_of_ble_eq_true rfl⟩) (preV_ro KM_ok (hP.sub (ws' := [((b 0), .inr (2, [.int 0, .int (nI k), .ref (b 1), .ref (b 2), .ref (b 3), .ref (b 4), .ref (b 5), .int (nI st), .int (nI c), .ref (b 6), .int t, .ref (b 7), .ref (b 8), .long (lfT (lnA mL mO) (mL i * ((7 : Int32)).toInt64) k)])), ((b 1), .inl (cI, 8, .inl mB)), ((b 2), .inl (cI, 8, .inl mM)), ((b 3), .inl (cI, 8, .inl mP)), ((b 4), .inl (cJ, 8, .inr (.inl mL))), ((b 5), .inl (cI, 8, .inl mO)), ((b 6), .inl (cI, 6, .inl fW)), ((b 7), .inl (cI, 8, .inl (nwF y fi fD))), ((b 8), .inl (cI, 8, .inl mK))]) [0, 1, 2, 3, 4, 5, 6, 7, 8] rfl) hK (va_recv hK hP (ci := 2) (q0 := 0) rfl rfl)) rfl rfl hl.1 rfl (lv_room (Nat.le_of_ble_eq_true rfl)) dX2_digest_253 ⟨by decide, by decide⟩) ?_
        refine lv_i2l (v := ((bst (lnA mL mO) (mL i * ((7 : Int32)).toInt64) mO (nI i) k 0)).toInt64) hx hb dX2_digest_256 rfl ?_
        refine lv_ladd hx hb dX2_digest_257 ?_
        refine topL (y := mx (mx (mx (mx (mx (mx (dgMs mB mO mL k st (dg0 fi mO mL k st c t y fD) i) (((mB i)).toInt64)) (tp (mL i) (mL st))) (tp (mL st) (mL i))) (tkT (lnA mL mO) (mL i * (7 : Int32).toInt64) k)) (bL ((lfT (lnA mL mO) (mL i * (7 : Int32).toInt64) k).toInt = (0 : Int64).toInt))) (((bst (lnA mL mO) (mL i * ((7 : Int32)).toInt64) mO (nI i) k 0)).toInt64)) rfl ?_
        refine lv_lstore_n (lv' := [(2, .long (mx (mx (mx (mx (mx (mx (dgMs mB mO mL k st (dg0 fi mO mL k st c t y fD) i) (((mB i)).toInt64)) (tp (mL i) (mL st))) (tp (mL st) (mL i))) (tkT (lnA mL mO) (mL i * (7 : Int32).toInt64) k)) (bL ((lfT (lnA mL mO) (mL i * (7 : Int32).toInt64) k).toInt = (0 : Int64).toInt))) (((bst (lnA mL mO) (mL i * ((7 : Int32)).toInt64) mO (nI i) k 0)).toInt64))), (0, .ref (b 0)), (4, .int (nI i))]) hx hb dX2_digest_258 rfl hl (by decide) rfl (fun ls hl => ?_)
        refine lv_iinc (v := (nI (i + 1))) (lv' := [(4, .int (nI (i + 1))), (2, .long (mx (mx (mx (mx (mx (mx (dgMs mB mO mL k st (dg0 fi mO mL k st c t y fD) i) (((mB i)).toInt64)) (tp (mL i) (mL st))) (tp (mL st) (mL i))) (tkT (lnA mL mO) (mL i * (7 : Int32).toInt64) k)) (bL ((lfT (lnA mL mO) (mL i * (7 : Int32).toInt64) k).toInt = (0 : Int64).toInt))) (((bst (lnA mL mO) (mL i * ((7 : Int32)).toInt64) mO (nI i) k 0)).toInt64))), (0, .ref (b 0))]) hx hb dX2_digest_259 hl (k := 2) rfl (nI_inc i) (by decide) rfl (fun ls hl => ?_)
        refine lv_goto (tgt := 138) hx hb dX2_digest_262 (by decide) ?_
        exact kk (lfT (lnA mL mO) (mL i * ((7 : Int32)).toInt64) k) _ _ ls (by omega) ⟨lv_sub hl [2, 1, 0] rfl, hP, hD, hS⟩
  · skip
    simp only [Int32.le_iff_toInt_le] at c_109
    rw [nI_toInt (n := i) (by omega)] at c_109
    rw [(by decide : (10 : Int32).toInt = 10)] at c_109
    refine lv_aload hx hb dX2_digest_112 (lv_at hl 2 rfl) ?_
    refine lv_iload hx hb dX2_digest_114 (lv_at hl 4 rfl) ?_
    refine xa_iald hx hb hK hP 9 0 rfl rfl (by omega) (by decide) dX2_digest_116 ?_
    refine lv_istore (lv' := [(7, .int ((upd (upd (upd (upd (upd (upd (upd (upd (upd (upd (fun _ => (0 : Int32)) 0 (nI k)) 1 (nI c)) 2 (nI y)) 3 (nI st)) 4 t) 5 fi) 6 (mO 0)) 7 (nI (shN mL (k - 1)))) 8 (bhN fD c)) 9 (bgN fD c)) i)), (0, .ref (b 0)), (2, .long (dgA (upd (upd (upd (upd (upd (upd (upd (upd (upd (upd (fun _ => (0 : Int32)) 0 (nI k)) 1 (nI c)) 2 (nI y)) 3 (nI st)) 4 t) 5 fi) 6 (mO 0)) 7 (nI (shN mL (k - 1)))) 8 (bhN fD c)) 9 (bgN fD c)) i)), (4, .ref q_7), (5, .int 10), (6, .int (nI i))]) hx hb dX2_digest_117 hl (by decide) rfl (fun ls hl => ?_)
    refine lv_lload_n hx hb dX2_digest_119 rfl (lv_at hl 2 rfl) ?_
    refine lv_ldc2 (v := 31) hx hb hown (hts (.constantLong RX2 157 31) (by decide +kernel)) dX2_digest_120 ?_
    refine lv_lmul hx hb dX2_digest_123 ?_
    refine lv_iload hx hb dX2_digest_124 (lv_at hl 0 rfl) ?_
    refine lv_i2l (v := (((upd (upd (upd (upd (upd (upd (upd (upd (upd (upd (fun _ => (0 : Int32)) 0 (nI k)) 1 (nI c)) 2 (nI y)) 3 (nI st)) 4 t) 5 fi) 6 (mO 0)) 7 (nI (shN mL (k - 1)))) 8 (bhN fD c)) 9 (bgN fD c)) i)).toInt64) hx hb dX2_digest_126 rfl ?_
    refine lv_ladd hx hb dX2_digest_127 ?_
    refine topL (y := mx (dgA (upd (upd (upd (upd (upd (upd (upd (upd (upd (upd (fun _ => (0 : Int32)) 0 (nI k)) 1 (nI c)) 2 (nI y)) 3 (nI st)) 4 t) 5 fi) 6 (mO 0)) 7 (nI (shN mL (k - 1)))) 8 (bhN fD c)) 9 (bgN fD c)) i) ((((upd (upd (upd (upd (upd (upd (upd (upd (upd (upd (fun _ => (0 : Int32)) 0 (nI k)) 1 (nI c)) 2 (nI y)) 3 (nI st)) 4 t) 5 fi) 6 (mO 0)) 7 (nI (shN mL (k - 1)))) 8 (bhN fD c)) 9 (bgN fD c)) i)).toInt64)) rfl ?_
    refine lv_lstore_n (lv' := [(2, .long (mx (dgA (upd (upd (upd (upd (upd (upd (upd (upd (upd (upd (fun _ => (0 : Int32)) 0 (nI k)) 1 (nI c)) 2 (nI y)) 3 (nI st)) 4 t) 5 fi) 6 (mO 0)) 7 (nI (shN mL (k - 1)))) 8 (bhN fD c)) 9 (bgN fD c)) i) ((((upd (upd (upd (upd (upd (upd (upd (upd (upd (upd (fun _ => (0 : Int32)) 0 (nI k)) 1 (nI c)) 2 (nI y)) 3 (nI st)) 4 t) 5 fi) 6 (mO 0)) 7 (nI (shN mL (k - 1)))) 8 (bhN fD c)) 9 (bgN fD c)) i)).toInt64))), (7, .int ((upd (upd (upd (upd (upd (upd (upd (upd (upd (upd (fun _ => (0 : Int32)) 0 (nI k)) 1 (nI c)) 2 (nI y)) 3 (nI st)) 4 t) 5 fi) 6 (mO 0)) 7 (nI (shN mL (k - 1)))) 8 (bhN fD c)) 9 (bgN fD c)) i)), (0, .ref (b 0)), (4, .ref q_7), (5, .int 10), (6, .int (nI i))]) hx hb dX2_digest_128 rfl hl (by decide) rfl (fun ls hl => ?_)
    refine lv_iinc (v := (nI (i + 1))) (lv' := [(6, .int (nI (i + 1))), (2, .long (mx (dgA (upd (upd (upd (upd (upd (upd (upd (upd (upd (upd (fun _ => (0 : Int32)) 0 (nI k)) 1 (nI c)) 2 (nI y)) 3 (nI st)) 4 t) 5 fi) 6 (mO 0)) 7 (nI (shN mL (k - 1)))) 8 (bhN fD c)) 9 (bgN fD c)) i) ((((upd (upd (upd (upd (upd (upd (upd (upd (upd (upd (fun _ => (0 : Int32)) 0 (nI k)) 1 (nI c)) 2 (nI y)) 3 (nI st)) 4 t) 5 fi) 6 (mO 0)) 7 (nI (shN mL (k - 1)))) 8 (bhN fD c)) 9 (bgN fD c)) i)).toInt64))), (7, .int ((upd (upd (upd (upd (upd (upd (upd (upd (upd (upd (fun _ => (0 : Int32)) 0 (nI k)) 1 (nI c)) 2 (nI y)) 3 (nI st)) 4 t) 5 fi) 6 (mO 0)) 7 (nI (shN mL (k - 1)))) 8 (bhN fD c)) 9 (bgN fD c)) i)), (0, .ref (b 0)), (4, .ref q_7), (5, .int 10)]) hx hb dX2_digest_129 hl (k := 5) rfl (nI_inc i) (by decide) rfl (fun ls hl => ?_)
    refine lv_goto (tgt := 105) hx hb dX2_digest_132 (by decide) ?_
    exact kk () _ _ ls (by omega) ⟨lv_sub hl [3, 1, 4, 5, 0] rfl, hP, hD, hS⟩
