set_option maxHeartbeats 4000000 in
set_option maxRecDepth 100000 in
theorem c_X2_lay (l : Launch) (D : va_G) (cI cJ : ClassId) (sz : Nat) (b : Nat → Nat) (th : Int32) (k st c : Nat) (t : Int32) (lf : Int64) (mB mM mP : Nat → Int32) (mL : Nat → Int64) (mO fW : Nat → Int32) (y : Nat) (fi : Int32) (fD mK : Nat → Int32) (q : Nat) (hk : k = q + 1) (hk8 : k ≤ 8) (La pp uu bb : Nat → Nat) (hL : ∀ j, j < k → 0 < La j ∧ La j < 2 ^ 40) (hU : prN pp q = La 0) (hp : ∀ j, 0 < j → j < k → mP j = nI (pp j) ∧ mM j = nI (uu j) ∧ mB j = nI (bb j) ∧ bb j < j ∧ 0 < pp j ∧ pp j ≤ 9 ∧ uu j ≤ 9 ∧ La (bb j) / pp j * uu j = La j) : Met l yX2_lay wsX2_lay ({ frames := 0, cells := 0, slots := 0, locals := 0 }) (cPw D [((b 0), .inr (2, [.int th, .int (nI k), .ref (b 1), .ref (b 2), .ref (b 3), .ref (b 4), .ref (b 5), .int (nI st), .int (nI c), .ref (b 6), .int t, .ref (b 7), .ref (b 8), .long lf])), ((b 1), .inl (cI, 8, .inl mB)), ((b 2), .inl (cI, 8, .inl mM)), ((b 3), .inl (cI, 8, .inl mP)), ((b 4), .inl (cJ, 8, .inr (.inl mL))), ((b 5), .inl (cI, 8, .inl mO)), ((b 6), .inl (cI, 6, .inl fW)), ((b 7), .inl (cI, 8, .inl (nwF y fi fD))), ((b 8), .inl (cI, 8, .inl mK))] sz (KM D cI cJ) [.ref (b 0)]) (wrv D [((b 0), .inr (2, [.int th, .int (nI k), .ref (b 1), .ref (b 2), .ref (b 3), .ref (b 4), .ref (b 5), .int (nI st), .int (nI c), .ref (b 6), .int t, .ref (b 7), .ref (b 8), .long lf])), ((b 1), .inl (cI, 8, .inl mB)), ((b 2), .inl (cI, 8, .inl mM)), ((b 3), .inl (cI, 8, .inl mP)), ((b 4), .inl (cJ, 8, .inr (.inl mL))), ((b 5), .inl (cI, 8, .inl mO)), ((b 6), .inl (cI, 6, .inl fW)), ((b 7), .inl (cI, 8, .inl (nwF y fi fD))), ((b 8), .inl (cI, 8, .inl mK))] sz (fun ws' => ws' = [((b 0), .inr (2, [.int th, .int (nI k), .ref (b 1), .ref (b 2), .ref (b 3), .ref (b 4), .ref (b 5), .int (nI st), .int (nI c), .ref (b 6), .int t, .ref (b 7), .ref (b 8), .long lf])), ((b 1), .inl (cI, 8, .inl mB)), ((b 2), .inl (cI, 8, .inl mM)), ((b 3), .inl (cI, 8, .inl mP)), ((b 4), .inl (cJ, 8, .inr (.inl (laF La mL (q + 1))))), ((b 5), .inl (cI, 8, .inl (srt (laF La mL (q + 1)) mO k))), ((b 6), .inl (cI, 6, .inl fW)), ((b 7), .inl (cI, 8, .inl (nwF y fi fD))), ((b 8), .inl (cI, 8, .inl mK))])) 0 0 (va_A [((b 0), .inr (2, [.int th, .int (nI k), .ref (b 1), .ref (b 2), .ref (b 3), .ref (b 4), .ref (b 5), .int (nI st), .int (nI c), .ref (b 6), .int t, .ref (b 7), .ref (b 8), .long lf])), ((b 1), .inl (cI, 8, .inl mB)), ((b 2), .inl (cI, 8, .inl mM)), ((b 3), .inl (cI, 8, .inl mP)), ((b 4), .inl (cJ, 8, .inr (.inl mL))), ((b 5), .inl (cI, 8, .inl mO)), ((b 6), .inl (cI, 6, .inl fW)), ((b 7), .inl (cI, 8, .inl (nwF y fi fD))), ((b 8), .inl (cI, 8, .inl mK))] sz) := by
  refine Met.ofW (cc := cX2_lay) (maxL := 5) (ret := none) (by decide +kernel) rfl ?_
  intro p e s m args below meth c9 s₁ B hml hv
  obtain ⟨rfl, hsz, hP, hD0, hC⟩ := hv
  have hx := B.exec
  have hb := B.bytes
  have hr := B.returns
  have hts := atoms_spec (ws := wsX2_lay) B.pre
  have hown : s.vm.findClass RX2 = some m.cls := findClass_of_methodNamed B.named
  have hlocks := B.notSynchronized
  have hK : va_K D vwCl [(cI, .int), (cJ, .long)] s := hC
  subst hsz
  unfold wrv wB
  have hD := hD0.self (sz := s.heap.size)
  generalize hAe : va_A [((b 0), .inr (2, [.int th, .int (nI k), .ref (b 1), .ref (b 2), .ref (b 3), .ref (b 4), .ref (b 5), .int (nI st), .int (nI c), .ref (b 6), .int t, .ref (b 7), .ref (b 8), .long lf])), ((b 1), .inl (cI, 8, .inl mB)), ((b 2), .inl (cI, 8, .inl mM)), ((b 3), .inl (cI, 8, .inl mP)), ((b 4), .inl (cJ, 8, .inr (.inl mL))), ((b 5), .inl (cI, 8, .inl mO)), ((b 6), .inl (cI, 6, .inl fW)), ((b 7), .inl (cI, 8, .inl (nwF y fi fD))), ((b 8), .inl (cI, 8, .inl mK))] s.heap.size = A at hD ⊢
  have hA : ∀ q : Nat, s.heap.size ≤ q → A q := fun q h => by rw [← hAe]; exact Or.inr h
  have hS : va_S A s.heap s.heap [] := va_S.rf
  have hl := lv_entry ([.ref (b 0)]) (n := 5) (Nat.le_of_ble_eq_true rfl)
  rw [lg_entry_eq]
  generalize (lg_sl ([.ref (b 0)]) ++ List.replicate (5 - (lg_sl ([.ref (b 0)])).length) Slot.unset).toArray = ls at hl ⊢
  have hl : lv_has ls 5 [(0, .ref (b 0))] := hl
  have hiX2 : ∀ w ∈ u_ws RX2 TX2 14, w ∈ wsX2_lay := by decide +kernel
  have hw7 : (Cond.fieldLink RX2 7 "OldMeasuresModel" "measures" "I").before ([.ref (b 0)] : List Value).toArray s = true := hts _ (by decide +kernel)
  have hw13 : (Cond.fieldLink RX2 13 "OldMeasuresModel" "base" "[I").before ([.ref (b 0)] : List Value).toArray s = true := hts _ (by decide +kernel)
  have hw17 : (Cond.fieldLink RX2 17 "OldMeasuresModel" "many" "[I").before ([.ref (b 0)] : List Value).toArray s = true := hts _ (by decide +kernel)
  have hw20 : (Cond.fieldLink RX2 20 "OldMeasuresModel" "parts" "[I").before ([.ref (b 0)] : List Value).toArray s = true := hts _ (by decide +kernel)
  have hw23 : (Cond.fieldLink RX2 23 "OldMeasuresModel" "length" "[J").before ([.ref (b 0)] : List Value).toArray s = true := hts _ (by decide +kernel)
  have hw27 : (Cond.fieldLink RX2 27 "OldMeasuresModel" "order" "[I").before ([.ref (b 0)] : List Value).toArray s = true := hts _ (by decide +kernel)
  refine lv_lconst (v := 1) hx hb dX2_lay_0 (by decide) ?_
  refine lv_lstore_n (lv' := [(1, .long 1), (0, .ref (b 0))]) hx hb dX2_lay_1 rfl hl (by decide) rfl (fun ls hl => ?_)
  refine lv_iconst (v := 1) hx hb dX2_lay_2 (by decide) ?_
  refine lv_istore_n (lv' := [(3, .int 1), (1, .long 1), (0, .ref (b 0))]) hx hb dX2_lay_3 rfl hl (by decide) rfl (fun ls hl => ?_)
  refine loopW (σ := Unit) (I := fun i x H locs ls => lv_has ls 5 [(0, .ref (b 0)), (1, .long (lN (prN pp i))), (3, .int (nI (i + 1)))] ∧ va_P D vwCl [((b 0), .inr (2, [.int th, .int (nI k), .ref (b 1), .ref (b 2), .ref (b 3), .ref (b 4), .ref (b 5), .int (nI st), .int (nI c), .ref (b 6), .int t, .ref (b 7), .ref (b 8), .long lf])), ((b 1), .inl (cI, 8, .inl mB)), ((b 2), .inl (cI, 8, .inl mM)), ((b 3), .inl (cI, 8, .inl mP)), ((b 4), .inl (cJ, 8, .inr (.inl mL))), ((b 5), .inl (cI, 8, .inl mO)), ((b 6), .inl (cI, 6, .inl fW)), ((b 7), .inl (cI, 8, .inl (nwF y fi fD))), ((b 8), .inl (cI, 8, .inl mK))] H ∧ va_D A [((b 0), .inr (2, [.int th, .int (nI k), .ref (b 1), .ref (b 2), .ref (b 3), .ref (b 4), .ref (b 5), .int (nI st), .int (nI c), .ref (b 6), .int t, .ref (b 7), .ref (b 8), .long lf])), ((b 1), .inl (cI, 8, .inl mB)), ((b 2), .inl (cI, 8, .inl mM)), ((b 3), .inl (cI, 8, .inl mP)), ((b 4), .inl (cJ, 8, .inr (.inl mL))), ((b 5), .inl (cI, 8, .inl mO)), ((b 6), .inl (cI, 6, .inl fW)), ((b 7), .inl (cI, 8, .inl (nwF y fi fD))), ((b 8), .inl (cI, 8, .inl mK))] ∧ va_S A s.heap H locs) q ?_ 0 () _ _ ls (by omega) ⟨lv_sub hl [2, 1, 0] rfl, hP, hD, hS⟩
  intro i x H locs ls hi hI kk
  obtain ⟨hl, hP, hD, hS⟩ := hI
  refine lv_iload_n hx hb dX2_lay_4 rfl (lv_at hl 2 rfl) ?_
  refine lv_aload_n hx hb dX2_lay_5 rfl (lv_at hl 0 rfl) ?_
  refine va_get (D := D) (ci := 2) (v := .int (nI k)) (C := RX2) (T := TX2) (N := 14) hx hb hts hiX2 hown hK hP 0 rfl rfl 1 (by decide) hw7 (fun _ h9 => h9) rfl dX2_lay_6 ?_
  refine lv_icmp_ge (tgt := 28) hx hb dX2_lay_9 (by decide) (fun c_9 => ?_) (fun c_9 => ?_)
  · skip
    simp only [Int32.le_iff_toInt_le] at c_9
    rw [nI_toInt (n := (i + 1)) (by omega)] at c_9
    rw [nI_toInt (n := k) (by omega)] at c_9
    have e9 : q = i := by omega
    subst e9
    refine lv_aload_n hx hb dX2_lay_28 rfl (lv_at hl 0 rfl) ?_
    refine va_get (D := D) (ci := 2) (v := .ref (b 4)) (C := RX2) (T := TX2) (N := 14) hx hb hts hiX2 hown hK hP 0 rfl rfl 5 (by decide) hw23 (fun _ h9 => h9) rfl dX2_lay_29 ?_
    refine lv_iconst (v := 0) hx hb dX2_lay_32 (by decide) ?_
    refine topI (y := nI 0) rfl ?_
    refine lv_lload_n hx hb dX2_lay_33 rfl (lv_at hl 1 rfl) ?_
    refine xa_last hx hb hK hP hD hS 4 1 rfl rfl (by omega) (by decide) dX2_lay_34 (fun H locs hP hD hS => ?_)
    have hP : va_P D vwCl [((b 0), .inr (2, [.int th, .int (nI k), .ref (b 1), .ref (b 2), .ref (b 3), .ref (b 4), .ref (b 5), .int (nI st), .int (nI c), .ref (b 6), .int t, .ref (b 7), .ref (b 8), .long lf])), ((b 1), .inl (cI, 8, .inl mB)), ((b 2), .inl (cI, 8, .inl mM)), ((b 3), .inl (cI, 8, .inl mP)), ((b 4), .inl (cJ, 8, .inr (.inl (vp_updL mL 0 (lN (prN pp q)))))), ((b 5), .inl (cI, 8, .inl mO)), ((b 6), .inl (cI, 6, .inl fW)), ((b 7), .inl (cI, 8, .inl (nwF y fi fD))), ((b 8), .inl (cI, 8, .inl mK))] H := hP
    have hD : va_D A [((b 0), .inr (2, [.int th, .int (nI k), .ref (b 1), .ref (b 2), .ref (b 3), .ref (b 4), .ref (b 5), .int (nI st), .int (nI c), .ref (b 6), .int t, .ref (b 7), .ref (b 8), .long lf])), ((b 1), .inl (cI, 8, .inl mB)), ((b 2), .inl (cI, 8, .inl mM)), ((b 3), .inl (cI, 8, .inl mP)), ((b 4), .inl (cJ, 8, .inr (.inl (vp_updL mL 0 (lN (prN pp q)))))), ((b 5), .inl (cI, 8, .inl mO)), ((b 6), .inl (cI, 6, .inl fW)), ((b 7), .inl (cI, 8, .inl (nwF y fi fD))), ((b 8), .inl (cI, 8, .inl mK))] := hD
    refine lv_iconst (v := 1) hx hb dX2_lay_35 (by decide) ?_
    refine lv_istore_n (lv' := [(3, .int 1), (0, .ref (b 0)), (1, .long (lN (prN pp q)))]) hx hb dX2_lay_36 rfl hl (by decide) rfl (fun ls hl => ?_)
    have hP : va_P D vwCl [((b 0), .inr (2, [.int th, .int (nI k), .ref (b 1), .ref (b 2), .ref (b 3), .ref (b 4), .ref (b 5), .int (nI st), .int (nI c), .ref (b 6), .int t, .ref (b 7), .ref (b 8), .long lf])), ((b 1), .inl (cI, 8, .inl mB)), ((b 2), .inl (cI, 8, .inl mM)), ((b 3), .inl (cI, 8, .inl mP)), ((b 4), .inl (cJ, 8, .inr (.inl (laF La mL 1)))), ((b 5), .inl (cI, 8, .inl mO)), ((b 6), .inl (cI, 6, .inl fW)), ((b 7), .inl (cI, 8, .inl (nwF y fi fD))), ((b 8), .inl (cI, 8, .inl mK))] H := by rw [← laF_1, ← hU]; exact hP
    have hD : va_D A [((b 0), .inr (2, [.int th, .int (nI k), .ref (b 1), .ref (b 2), .ref (b 3), .ref (b 4), .ref (b 5), .int (nI st), .int (nI c), .ref (b 6), .int t, .ref (b 7), .ref (b 8), .long lf])), ((b 1), .inl (cI, 8, .inl mB)), ((b 2), .inl (cI, 8, .inl mM)), ((b 3), .inl (cI, 8, .inl mP)), ((b 4), .inl (cJ, 8, .inr (.inl (laF La mL 1)))), ((b 5), .inl (cI, 8, .inl mO)), ((b 6), .inl (cI, 6, .inl fW)), ((b 7), .inl (cI, 8, .inl (nwF y fi fD))), ((b 8), .inl (cI, 8, .inl mK))] := by rw [← laF_1, ← hU]; exact hD
    refine loopW (σ := Unit) (I := fun i x H locs ls => lv_has ls 5 [(0, .ref (b 0)), (3, .int (nI (i + 1)))] ∧ va_P D vwCl [((b 0), .inr (2, [.int th, .int (nI k), .ref (b 1), .ref (b 2), .ref (b 3), .ref (b 4), .ref (b 5), .int (nI st), .int (nI c), .ref (b 6), .int t, .ref (b 7), .ref (b 8), .long lf])), ((b 1), .inl (cI, 8, .inl mB)), ((b 2), .inl (cI, 8, .inl mM)), ((b 3), .inl (cI, 8, .inl mP)), ((b 4), .inl (cJ, 8, .inr (.inl (laF La mL (i + 1))))), ((b 5), .inl (cI, 8, .inl mO)), ((b 6), .inl (cI, 6, .inl fW)), ((b 7), .inl (cI, 8, .inl (nwF y fi fD))), ((b 8), .inl (cI, 8, .inl mK))] H ∧ va_D A [((b 0), .inr (2, [.int th, .int (nI k), .ref (b 1), .ref (b 2), .ref (b 3), .ref (b 4), .ref (b 5), .int (nI st), .int (nI c), .ref (b 6), .int t, .ref (b 7), .ref (b 8), .long lf])), ((b 1), .inl (cI, 8, .inl mB)), ((b 2), .inl (cI, 8, .inl mM)), ((b 3), .inl (cI, 8, .inl mP)), ((b 4), .inl (cJ, 8, .inr (.inl (laF La mL (i + 1))))), ((b 5), .inl (cI, 8, .inl mO)), ((b 6), .inl (cI, 6, .inl fW)), ((b 7), .inl (cI, 8, .inl (nwF y fi fD))), ((b 8), .inl (cI, 8, .inl mK))] ∧ va_S A s.heap H locs) q ?_ 0 () _ _ ls (by omega) ⟨lv_sub hl [1, 0] rfl, hP, hD, hS⟩
    intro i x H locs ls hi hI kk
    obtain ⟨hl, hP, hD, hS⟩ := hI
    refine lv_iload_n hx hb dX2_lay_37 rfl (lv_at hl 1 rfl) ?_
    refine lv_aload_n hx hb dX2_lay_38 rfl (lv_at hl 0 rfl) ?_
    refine va_get (D := D) (ci := 2) (v := .int (nI k)) (C := RX2) (T := TX2) (N := 14) hx hb hts hiX2 hown hK hP 0 rfl rfl 1 (by decide) hw7 (fun _ h9 => h9) rfl dX2_lay_39 ?_
    refine lv_icmp_ge (tgt := 84) hx hb dX2_lay_42 (by decide) (fun c_42 => ?_) (fun c_42 => ?_)
    · skip
      simp only [Int32.le_iff_toInt_le] at c_42
      rw [nI_toInt (n := (i + 1)) (by omega)] at c_42
      rw [nI_toInt (n := k) (by omega)] at c_42
      have e9 : q = i := by omega
      subst e9
      refine lv_iconst (v := 0) hx hb dX2_lay_84 (by decide) ?_
      refine lv_istore_n (lv' := [(3, .int 0), (0, .ref (b 0))]) hx hb dX2_lay_85 rfl hl (by decide) rfl (fun ls hl => ?_)
      refine loopW (σ := Unit) (I := fun i x H locs ls => lv_has ls 5 [(0, .ref (b 0)), (3, .int (nI i))] ∧ va_P D vwCl [((b 0), .inr (2, [.int th, .int (nI k), .ref (b 1), .ref (b 2), .ref (b 3), .ref (b 4), .ref (b 5), .int (nI st), .int (nI c), .ref (b 6), .int t, .ref (b 7), .ref (b 8), .long lf])), ((b 1), .inl (cI, 8, .inl mB)), ((b 2), .inl (cI, 8, .inl mM)), ((b 3), .inl (cI, 8, .inl mP)), ((b 4), .inl (cJ, 8, .inr (.inl (laF La mL (q + 1))))), ((b 5), .inl (cI, 8, .inl (srt (laF La mL (q + 1)) mO i))), ((b 6), .inl (cI, 6, .inl fW)), ((b 7), .inl (cI, 8, .inl (nwF y fi fD))), ((b 8), .inl (cI, 8, .inl mK))] H ∧ va_D A [((b 0), .inr (2, [.int th, .int (nI k), .ref (b 1), .ref (b 2), .ref (b 3), .ref (b 4), .ref (b 5), .int (nI st), .int (nI c), .ref (b 6), .int t, .ref (b 7), .ref (b 8), .long lf])), ((b 1), .inl (cI, 8, .inl mB)), ((b 2), .inl (cI, 8, .inl mM)), ((b 3), .inl (cI, 8, .inl mP)), ((b 4), .inl (cJ, 8, .inr (.inl (laF La mL (q + 1))))), ((b 5), .inl (cI, 8, .inl (srt (laF La mL (q + 1)) mO i))), ((b 6), .inl (cI, 6, .inl fW)), ((b 7), .inl (cI, 8, .inl (nwF y fi fD))), ((b 8), .inl (cI, 8, .inl mK))] ∧ va_S A s.heap H locs) k ?_ 0 () _ _ ls (by omega) ⟨lv_sub hl [1, 0] rfl, hP, hD, hS⟩
      intro i x H locs ls hi hI kko
      obtain ⟨hl, hP, hD, hS⟩ := hI
      refine lv_iload_n hx hb dX2_lay_86 rfl (lv_at hl 1 rfl) ?_
      refine lv_aload_n hx hb dX2_lay_87 rfl (lv_at hl 0 rfl) ?_
      refine va_get (D := D) (ci := 2) (v := .int (nI k)) (C := RX2) (T := TX2) (N := 14) hx hb hts hiX2 hown hK hP 0 rfl rfl 1 (by decide) hw7 (fun _ h9 => h9) rfl dX2_lay_88 ?_
      refine lv_icmp_ge (tgt := 162) hx hb dX2_lay_91 (by decide) (fun c_91 => ?_) (fun c_91 => ?_)
      · skip
        simp only [Int32.le_iff_toInt_le] at c_91
        rw [nI_toInt (n := i) (by omega)] at c_91
        rw [nI_toInt (n := k) (by omega)] at c_91
        have e9 : k = i := by omega
        subst e9
        exact W.vret hx hb hr (fun t9 ht hW => ⟨⟨[((b 0), .inr (2, [.int th, .int (nI k), .ref (b 1), .ref (b 2), .ref (b 3), .ref (b 4), .ref (b 5), .int (nI st), .int (nI c), .ref (b 6), .int t, .ref (b 7), .ref (b 8), .long lf])), ((b 1), .inl (cI, 8, .inl mB)), ((b 2), .inl (cI, 8, .inl mM)), ((b 3), .inl (cI, 8, .inl mP)), ((b 4), .inl (cJ, 8, .inr (.inl (laF La mL (q + 1))))), ((b 5), .inl (cI, 8, .inl (srt (laF La mL (q + 1)) mO k))), ((b 6), .inl (cI, 6, .inl fW)), ((b 7), .inl (cI, 8, .inl (nwF y fi fD))), ((b 8), .inl (cI, 8, .inl mK))], rfl, rfl, by rw [ht]; exact hP, hD⟩, hS.F ht⟩) hS.2.2 dX2_lay_162
      · skip
        simp only [Int32.le_iff_toInt_le] at c_91
        rw [nI_toInt (n := i) (by omega)] at c_91
        rw [nI_toInt (n := k) (by omega)] at c_91
        have hm8 : i < 8 := by omega
        have hio : i < k := by omega
        clear hi
        obtain ⟨m9, hm9⟩ : ∃ m9, m9 = i := ⟨i, rfl⟩
        subst hm9
        refine lv_iload_n hx hb dX2_lay_94 rfl (lv_at hl 1 rfl) ?_
        refine lv_istore (lv' := [(4, .int (nI m9)), (0, .ref (b 0)), (3, .int (nI m9))]) hx hb dX2_lay_95 hl (by decide) rfl (fun ls hl => ?_)
        refine loopW (σ := (Nat × (Nat → Int32))) (I := fun i x H locs ls => lv_has ls 5 [(0, .ref (b 0)), (3, .int (nI m9)), (4, .int (nI x.1))] ∧ va_P D vwCl [((b 0), .inr (2, [.int th, .int (nI k), .ref (b 1), .ref (b 2), .ref (b 3), .ref (b 4), .ref (b 5), .int (nI st), .int (nI c), .ref (b 6), .int t, .ref (b 7), .ref (b 8), .long lf])), ((b 1), .inl (cI, 8, .inl mB)), ((b 2), .inl (cI, 8, .inl mM)), ((b 3), .inl (cI, 8, .inl mP)), ((b 4), .inl (cJ, 8, .inr (.inl (laF La mL (q + 1))))), ((b 5), .inl (cI, 8, .inl x.2)), ((b 6), .inl (cI, 6, .inl fW)), ((b 7), .inl (cI, 8, .inl (nwF y fi fD))), ((b 8), .inl (cI, 8, .inl mK))] H ∧ va_D A [((b 0), .inr (2, [.int th, .int (nI k), .ref (b 1), .ref (b 2), .ref (b 3), .ref (b 4), .ref (b 5), .int (nI st), .int (nI c), .ref (b 6), .int t, .ref (b 7), .ref (b 8), .long lf])), ((b 1), .inl (cI, 8, .inl mB)), ((b 2), .inl (cI, 8, .inl mM)), ((b 3), .inl (cI, 8, .inl mP)), ((b 4), .inl (cJ, 8, .inr (.inl (laF La mL (q + 1))))), ((b 5), .inl (cI, 8, .inl x.2)), ((b 6), .inl (cI, 6, .inl fW)), ((b 7), .inl (cI, 8, .inl (nwF y fi fD))), ((b 8), .inl (cI, 8, .inl mK))] ∧ va_S A s.heap H locs ∧ (x.1 + i = m9) ∧ (insO (laF La mL (q + 1)) ((laF La mL (q + 1)) m9) (nI m9) x.1 x.2 = insO (laF La mL (q + 1)) ((laF La mL (q + 1)) m9) (nI m9) m9 (srt (laF La mL (q + 1)) mO m9)) ∧ (∀ j, j < x.1 → inM 8 (x.2 j))) m9 ?_ 0 (m9, (srt (laF La mL (q + 1)) mO m9)) _ _ ls (by omega) ⟨lv_sub hl [1, 2, 0] rfl, hP, hD, hS, rfl, rfl, (fun j hj => inM_le (srtIn _ _ m9 (by omega) j hj) (by omega))⟩
        intro i x H locs ls hi hI kk
        obtain ⟨hl, hP, hD, hS, hr1, hI1, hO1⟩ := hI
        refine lv_iload hx hb dX2_lay_97 (lv_at hl 2 rfl) ?_
        refine lv_if_le (tgt := 148) hx hb dX2_lay_99 (by decide) (fun c_99 => ?_) (fun c_99 => ?_)
        · skip
          simp only [Int32.le_iff_toInt_le] at c_99
          rw [nI_toInt (n := x.1) (by omega)] at c_99
          rw [(by decide : (0 : Int32).toInt = 0)] at c_99
          have e0 : x.1 = 0 := by omega
          refine lv_aload_n hx hb dX2_lay_148 rfl (lv_at hl 0 rfl) ?_
          refine va_get (D := D) (ci := 2) (v := .ref (b 5)) (C := RX2) (T := TX2) (N := 14) hx hb hts hiX2 hown hK hP 0 rfl rfl 6 (by decide) hw27 (fun _ h9 => h9) rfl dX2_lay_149 ?_
          refine lv_iload hx hb dX2_lay_152 (lv_at hl 2 rfl) ?_
          refine lv_iload_n hx hb dX2_lay_154 rfl (lv_at hl 1 rfl) ?_
          refine xa_iast hx hb hK hP hD hS 5 0 rfl rfl (by omega) (by decide) dX2_lay_155 (fun H locs hP hD hS => ?_)
          have hP : va_P D vwCl [((b 0), .inr (2, [.int th, .int (nI k), .ref (b 1), .ref (b 2), .ref (b 3), .ref (b 4), .ref (b 5), .int (nI st), .int (nI c), .ref (b 6), .int t, .ref (b 7), .ref (b 8), .long lf])), ((b 1), .inl (cI, 8, .inl mB)), ((b 2), .inl (cI, 8, .inl mM)), ((b 3), .inl (cI, 8, .inl mP)), ((b 4), .inl (cJ, 8, .inr (.inl (laF La mL (q + 1))))), ((b 5), .inl (cI, 8, .inl (upd x.2 (x.1) (nI m9)))), ((b 6), .inl (cI, 6, .inl fW)), ((b 7), .inl (cI, 8, .inl (nwF y fi fD))), ((b 8), .inl (cI, 8, .inl mK))] H := hP
          have hD : va_D A [((b 0), .inr (2, [.int th, .int (nI k), .ref (b 1), .ref (b 2), .ref (b 3), .ref (b 4), .ref (b 5), .int (nI st), .int (nI c), .ref (b 6), .int t, .ref (b 7), .ref (b 8), .long lf])), ((b 1), .inl (cI, 8, .inl mB)), ((b 2), .inl (cI, 8, .inl mM)), ((b 3), .inl (cI, 8, .inl mP)), ((b 4), .inl (cJ, 8, .inr (.inl (laF La mL (q + 1))))), ((b 5), .inl (cI, 8, .inl (upd x.2 (x.1) (nI m9)))), ((b 6), .inl (cI, 6, .inl fW)), ((b 7), .inl (cI, 8, .inl (nwF y fi fD))), ((b 8), .inl (cI, 8, .inl mK))] := hD
          have hP : va_P D vwCl [((b 0), .inr (2, [.int th, .int (nI k), .ref (b 1), .ref (b 2), .ref (b 3), .ref (b 4), .ref (b 5), .int (nI st), .int (nI c), .ref (b 6), .int t, .ref (b 7), .ref (b 8), .long lf])), ((b 1), .inl (cI, 8, .inl mB)), ((b 2), .inl (cI, 8, .inl mM)), ((b 3), .inl (cI, 8, .inl mP)), ((b 4), .inl (cJ, 8, .inr (.inl (laF La mL (q + 1))))), ((b 5), .inl (cI, 8, .inl (insO (laF La mL (q + 1)) ((laF La mL (q + 1)) m9) (nI m9) m9 (srt (laF La mL (q + 1)) mO m9)))), ((b 6), .inl (cI, 6, .inl fW)), ((b 7), .inl (cI, 8, .inl (nwF y fi fD))), ((b 8), .inl (cI, 8, .inl mK))] H := by have hP := hP; rw [e0] at hP; rw [← hI1, e0]; exact hP
          have hD : va_D A [((b 0), .inr (2, [.int th, .int (nI k), .ref (b 1), .ref (b 2), .ref (b 3), .ref (b 4), .ref (b 5), .int (nI st), .int (nI c), .ref (b 6), .int t, .ref (b 7), .ref (b 8), .long lf])), ((b 1), .inl (cI, 8, .inl mB)), ((b 2), .inl (cI, 8, .inl mM)), ((b 3), .inl (cI, 8, .inl mP)), ((b 4), .inl (cJ, 8, .inr (.inl (laF La mL (q + 1))))), ((b 5), .inl (cI, 8, .inl (insO (laF La mL (q + 1)) ((laF La mL (q + 1)) m9) (nI m9) m9 (srt (laF La mL (q + 1)) mO m9)))), ((b 6), .inl (cI, 6, .inl fW)), ((b 7), .inl (cI, 8, .inl (nwF y fi fD))), ((b 8), .inl (cI, 8, .inl mK))] := by have hD := hD; rw [e0] at hD; rw [← hI1, e0]; exact hD
          refine lv_iinc (v := (nI (m9 + 1))) (lv' := [(3, .int (nI (m9 + 1))), (0, .ref (b 0)), (4, .int (nI x.1))]) hx hb dX2_lay_156 hl (k := 1) rfl (nI_inc m9) (by decide) rfl (fun ls hl => ?_)
          refine lv_goto (tgt := 86) hx hb dX2_lay_159 (by decide) ?_
          exact kko () _ _ ls (by omega) ⟨lv_sub hl [1, 0] rfl, hP, hD, hS⟩
        · skip
          simp only [Int32.le_iff_toInt_le] at c_99
          rw [nI_toInt (n := x.1) (by omega)] at c_99
          rw [(by decide : (0 : Int32).toInt = 0)] at c_99
          obtain ⟨r9, hr9⟩ : ∃ r9, x.1 = r9 + 1 := ⟨x.1 - 1, by omega⟩
          rw [hr9] at hl
          refine lv_aload_n hx hb dX2_lay_102 rfl (lv_at hl 0 rfl) ?_
          refine va_get (D := D) (ci := 2) (v := .ref (b 4)) (C := RX2) (T := TX2) (N := 14) hx hb hts hiX2 hown hK hP 0 rfl rfl 5 (by decide) hw23 (fun _ h9 => h9) rfl dX2_lay_103 ?_
          refine lv_aload_n hx hb dX2_lay_106 rfl (lv_at hl 0 rfl) ?_
          refine va_get (D := D) (ci := 2) (v := .ref (b 5)) (C := RX2) (T := TX2) (N := 14) hx hb hts hiX2 hown hK hP 0 rfl rfl 6 (by decide) hw27 (fun _ h9 => h9) rfl dX2_lay_107 ?_
          refine lv_iload hx hb dX2_lay_110 (lv_at hl 2 rfl) ?_
          refine lv_iconst (v := 1) hx hb dX2_lay_112 (by decide) ?_
          refine lv_isub hx hb dX2_lay_113 ?_
          refine topI (nI_pred r9) ?_
          refine xa_iald hx hb hK hP 5 0 rfl rfl (by omega) (by decide) dX2_lay_114 ?_
          refine va_lald hx hb hK hP 4 1 rfl rfl (vp_in_iff.mpr (hO1 r9 (by omega))) dX2_lay_115 ?_
          refine lv_aload_n hx hb dX2_lay_116 rfl (lv_at hl 0 rfl) ?_
          refine va_get (D := D) (ci := 2) (v := .ref (b 4)) (C := RX2) (T := TX2) (N := 14) hx hb hts hiX2 hown hK hP 0 rfl rfl 5 (by decide) hw23 (fun _ h9 => h9) rfl dX2_lay_117 ?_
          refine lv_iload_n hx hb dX2_lay_120 rfl (lv_at hl 1 rfl) ?_
          refine xa_lald hx hb hK hP 4 1 rfl rfl (by omega) (by decide) dX2_lay_121 ?_
          refine W.lcmp hx hb dX2_lay_122 ?_
          refine lv_if_ge (tgt := 148) hx hb dX2_lay_123 (by decide) (fun c_123 => ?_) (fun c_123 => ?_)
          · skip
            have c_123 := (lgc_ge _ _).mp c_123
            have c27 : ¬ ((laF La mL (q + 1)) (x.2 r9).toNatClampNeg).toInt < ((laF La mL (q + 1)) m9).toInt := by omega
            refine lv_aload_n hx hb dX2_lay_148 rfl (lv_at hl 0 rfl) ?_
            refine va_get (D := D) (ci := 2) (v := .ref (b 5)) (C := RX2) (T := TX2) (N := 14) hx hb hts hiX2 hown hK hP 0 rfl rfl 6 (by decide) hw27 (fun _ h9 => h9) rfl dX2_lay_149 ?_
            refine lv_iload hx hb dX2_lay_152 (lv_at hl 2 rfl) ?_
            refine lv_iload_n hx hb dX2_lay_154 rfl (lv_at hl 1 rfl) ?_
            refine xa_iast hx hb hK hP hD hS 5 0 rfl rfl (by omega) (by decide) dX2_lay_155 (fun H locs hP hD hS => ?_)
            have hP : va_P D vwCl [((b 0), .inr (2, [.int th, .int (nI k), .ref (b 1), .ref (b 2), .ref (b 3), .ref (b 4), .ref (b 5), .int (nI st), .int (nI c), .ref (b 6), .int t, .ref (b 7), .ref (b 8), .long lf])), ((b 1), .inl (cI, 8, .inl mB)), ((b 2), .inl (cI, 8, .inl mM)), ((b 3), .inl (cI, 8, .inl mP)), ((b 4), .inl (cJ, 8, .inr (.inl (laF La mL (q + 1))))), ((b 5), .inl (cI, 8, .inl (upd x.2 (r9 + 1) (nI m9)))), ((b 6), .inl (cI, 6, .inl fW)), ((b 7), .inl (cI, 8, .inl (nwF y fi fD))), ((b 8), .inl (cI, 8, .inl mK))] H := hP
            have hD : va_D A [((b 0), .inr (2, [.int th, .int (nI k), .ref (b 1), .ref (b 2), .ref (b 3), .ref (b 4), .ref (b 5), .int (nI st), .int (nI c), .ref (b 6), .int t, .ref (b 7), .ref (b 8), .long lf])), ((b 1), .inl (cI, 8, .inl mB)), ((b 2), .inl (cI, 8, .inl mM)), ((b 3), .inl (cI, 8, .inl mP)), ((b 4), .inl (cJ, 8, .inr (.inl (laF La mL (q + 1))))), ((b 5), .inl (cI, 8, .inl (upd x.2 (r9 + 1) (nI m9)))), ((b 6), .inl (cI, 6, .inl fW)), ((b 7), .inl (cI, 8, .inl (nwF y fi fD))), ((b 8), .inl (cI, 8, .inl mK))] := hD
            have hP : va_P D vwCl [((b 0), .inr (2, [.int th, .int (nI k), .ref (b 1), .ref (b 2), .ref (b 3), .ref (b 4), .ref (b 5), .int (nI st), .int (nI c), .ref (b 6), .int t, .ref (b 7), .ref (b 8), .long lf])), ((b 1), .inl (cI, 8, .inl mB)), ((b 2), .inl (cI, 8, .inl mM)), ((b 3), .inl (cI, 8, .inl mP)), ((b 4), .inl (cJ, 8, .inr (.inl (laF La mL (q + 1))))), ((b 5), .inl (cI, 8, .inl (insO (laF La mL (q + 1)) ((laF La mL (q + 1)) m9) (nI m9) m9 (srt (laF La mL (q + 1)) mO m9)))), ((b 6), .inl (cI, 6, .inl fW)), ((b 7), .inl (cI, 8, .inl (nwF y fi fD))), ((b 8), .inl (cI, 8, .inl mK))] H := by rw [← hI1, hr9, insO, ic_f c27]; exact hP
            have hD : va_D A [((b 0), .inr (2, [.int th, .int (nI k), .ref (b 1), .ref (b 2), .ref (b 3), .ref (b 4), .ref (b 5), .int (nI st), .int (nI c), .ref (b 6), .int t, .ref (b 7), .ref (b 8), .long lf])), ((b 1), .inl (cI, 8, .inl mB)), ((b 2), .inl (cI, 8, .inl mM)), ((b 3), .inl (cI, 8, .inl mP)), ((b 4), .inl (cJ, 8, .inr (.inl (laF La mL (q + 1))))), ((b 5), .inl (cI, 8, .inl (insO (laF La mL (q + 1)) ((laF La mL (q + 1)) m9) (nI m9) m9 (srt (laF La mL (q + 1)) mO m9)))), ((b 6), .inl (cI, 6, .inl fW)), ((b 7), .inl (cI, 8, .inl (nwF y fi fD))), ((b 8), .inl (cI, 8, .inl mK))] := by rw [← hI1, hr9, insO, ic_f c27]; exact hD
            refine lv_iinc (v := (nI (m9 + 1))) (lv' := [(3, .int (nI (m9 + 1))), (0, .ref (b 0)), (4, .int (nI (r9 + 1)))]) hx hb dX2_lay_156 hl (k := 1) rfl (nI_inc m9) (by decide) rfl (fun ls hl => ?_)
            refine lv_goto (tgt := 86) hx hb dX2_lay_159 (by decide) ?_
            exact kko () _ _ ls (by omega) ⟨lv_sub hl [1, 0] rfl, hP, hD, hS⟩
          · skip
            have c_123 := (not_congr (lgc_ge _ _)).mp c_123
            have c27 : ((laF La mL (q + 1)) (x.2 r9).toNatClampNeg).toInt < ((laF La mL (q + 1)) m9).toInt := by omega
            refine lv_aload_n hx hb dX2_lay_126 rfl (lv_at hl 0 rfl) ?_
            refine va_get (D := D) (ci := 2) (v := .ref (b 5)) (C := RX2) (T := TX2) (N := 14) hx hb hts hiX2 hown hK hP 0 rfl rfl 6 (by decide) hw27 (fun _ h9 => h9) rfl dX2_lay_127 ?_
            refine lv_iload hx hb dX2_lay_130 (lv_at hl 2 rfl) ?_
            refine lv_aload_n hx hb dX2_lay_132 rfl (lv_at hl 0 rfl) ?_
            refine va_get (D := D) (ci := 2) (v := .ref (b 5)) (C := RX2) (T := TX2) (N := 14) hx hb hts hiX2 hown hK hP 0 rfl rfl 6 (by decide) hw27 (fun _ h9 => h9) rfl dX2_lay_133 ?_
            refine lv_iload hx hb dX2_lay_136 (lv_at hl 2 rfl) ?_
            refine lv_iconst (v := 1) hx hb dX2_lay_138 (by decide) ?_
            refine lv_isub hx hb dX2_lay_139 ?_
            refine topI (nI_pred r9) ?_
            refine xa_iald hx hb hK hP 5 0 rfl rfl (by omega) (by decide) dX2_lay_140 ?_
            refine xa_iast hx hb hK hP hD hS 5 0 rfl rfl (by omega) (by decide) dX2_lay_141 (fun H locs hP hD hS => ?_)
            have hP : va_P D vwCl [((b 0), .inr (2, [.int th, .int (nI k), .ref (b 1), .ref (b 2), .ref (b 3), .ref (b 4), .ref (b 5), .int (nI st), .int (nI c), .ref (b 6), .int t, .ref (b 7), .ref (b 8), .long lf])), ((b 1), .inl (cI, 8, .inl mB)), ((b 2), .inl (cI, 8, .inl mM)), ((b 3), .inl (cI, 8, .inl mP)), ((b 4), .inl (cJ, 8, .inr (.inl (laF La mL (q + 1))))), ((b 5), .inl (cI, 8, .inl (upd x.2 (r9 + 1) (x.2 r9)))), ((b 6), .inl (cI, 6, .inl fW)), ((b 7), .inl (cI, 8, .inl (nwF y fi fD))), ((b 8), .inl (cI, 8, .inl mK))] H := hP
            have hD : va_D A [((b 0), .inr (2, [.int th, .int (nI k), .ref (b 1), .ref (b 2), .ref (b 3), .ref (b 4), .ref (b 5), .int (nI st), .int (nI c), .ref (b 6), .int t, .ref (b 7), .ref (b 8), .long lf])), ((b 1), .inl (cI, 8, .inl mB)), ((b 2), .inl (cI, 8, .inl mM)), ((b 3), .inl (cI, 8, .inl mP)), ((b 4), .inl (cJ, 8, .inr (.inl (laF La mL (q + 1))))), ((b 5), .inl (cI, 8, .inl (upd x.2 (r9 + 1) (x.2 r9)))), ((b 6), .inl (cI, 6, .inl fW)), ((b 7), .inl (cI, 8, .inl (nwF y fi fD))), ((b 8), .inl (cI, 8, .inl mK))] := hD
            refine lv_iinc (v := (nI r9)) (lv' := [(4, .int (nI r9)), (0, .ref (b 0)), (3, .int (nI m9))]) hx hb dX2_lay_142 hl (k := 2) rfl (nI_dec r9) (by decide) rfl (fun ls hl => ?_)
            refine lv_goto (tgt := 97) hx hb dX2_lay_145 (by decide) ?_
            exact kk (r9, upd x.2 (r9 + 1) (x.2 r9)) _ _ ls (by omega) ⟨lv_sub hl [1, 2, 0] rfl, hP, hD, hS, (by show r9 + (i + 1) = m9; omega), (by rw [← hI1, hr9]; exact (ic_t c27).symm), (fun j hj => by have hj : j < r9 := hj; show inM 8 (upd x.2 (r9 + 1) (x.2 r9) j); rw [pk_un (by omega)]; exact hO1 j (by omega))⟩
    · skip
      simp only [Int32.le_iff_toInt_le] at c_42
      rw [nI_toInt (n := (i + 1)) (by omega)] at c_42
      rw [nI_toInt (n := k) (by omega)] at c_42
      obtain ⟨hp1, hp2, hp3, hp4, hp5, hp6, hp7, hp8⟩ := hp (i + 1) (by omega) (by omega)
      refine lv_aload_n hx hb dX2_lay_45 rfl (lv_at hl 0 rfl) ?_
      refine va_get (D := D) (ci := 2) (v := .ref (b 4)) (C := RX2) (T := TX2) (N := 14) hx hb hts hiX2 hown hK hP 0 rfl rfl 5 (by decide) hw23 (fun _ h9 => h9) rfl dX2_lay_46 ?_
      refine lv_iload_n hx hb dX2_lay_49 rfl (lv_at hl 1 rfl) ?_
      refine lv_aload_n hx hb dX2_lay_50 rfl (lv_at hl 0 rfl) ?_
      refine va_get (D := D) (ci := 2) (v := .ref (b 4)) (C := RX2) (T := TX2) (N := 14) hx hb hts hiX2 hown hK hP 0 rfl rfl 5 (by decide) hw23 (fun _ h9 => h9) rfl dX2_lay_51 ?_
      refine lv_aload_n hx hb dX2_lay_54 rfl (lv_at hl 0 rfl) ?_
      refine va_get (D := D) (ci := 2) (v := .ref (b 1)) (C := RX2) (T := TX2) (N := 14) hx hb hts hiX2 hown hK hP 0 rfl rfl 2 (by decide) hw13 (fun _ h9 => h9) rfl dX2_lay_55 ?_
      refine lv_iload_n hx hb dX2_lay_58 rfl (lv_at hl 1 rfl) ?_
      refine xa_iald hx hb hK hP 1 0 rfl rfl (by omega) (by decide) dX2_lay_59 ?_
      refine topI (y := (nI (bb (i + 1)))) hp3 ?_
      refine xa_lald hx hb hK hP 4 1 rfl rfl (by omega) (by decide) dX2_lay_60 ?_
      refine topL (y := (lN (La (bb (i + 1))))) (if_pos (by omega)) ?_
      refine lv_aload_n hx hb dX2_lay_61 rfl (lv_at hl 0 rfl) ?_
      refine va_get (D := D) (ci := 2) (v := .ref (b 3)) (C := RX2) (T := TX2) (N := 14) hx hb hts hiX2 hown hK hP 0 rfl rfl 4 (by decide) hw20 (fun _ h9 => h9) rfl dX2_lay_62 ?_
      refine lv_iload_n hx hb dX2_lay_65 rfl (lv_at hl 1 rfl) ?_
      refine xa_iald hx hb hK hP 3 0 rfl rfl (by omega) (by decide) dX2_lay_66 ?_
      refine topI (y := (nI (pp (i + 1)))) hp1 ?_
      refine lv_i2l (v := ((nI (pp (i + 1)))).toInt64) hx hb dX2_lay_67 rfl ?_
      refine topL (y := (lN (pp (i + 1)))) (nI_l (by omega)) ?_
      refine lv_ldiv hx hb dX2_lay_68 (lN_ne0 hp5 (by omega)) ?_
      refine topL (y := (lN (La (bb (i + 1)) / pp (i + 1)))) (pk_lDiv (Nat.lt_trans (hL _ (by omega)).2 (by decide)) hp5 (by omega)) ?_
      refine lv_aload_n hx hb dX2_lay_69 rfl (lv_at hl 0 rfl) ?_
      refine va_get (D := D) (ci := 2) (v := .ref (b 2)) (C := RX2) (T := TX2) (N := 14) hx hb hts hiX2 hown hK hP 0 rfl rfl 3 (by decide) hw17 (fun _ h9 => h9) rfl dX2_lay_70 ?_
      refine lv_iload_n hx hb dX2_lay_73 rfl (lv_at hl 1 rfl) ?_
      refine xa_iald hx hb hK hP 2 0 rfl rfl (by omega) (by decide) dX2_lay_74 ?_
      refine topI (y := (nI (uu (i + 1)))) hp2 ?_
      refine lv_i2l (v := ((nI (uu (i + 1)))).toInt64) hx hb dX2_lay_75 rfl ?_
      refine topL (y := (lN (uu (i + 1)))) (nI_l (by omega)) ?_
      refine lv_lmul hx hb dX2_lay_76 ?_
      refine topL (y := (lN (La (i + 1)))) ((lN_mul _ _).trans (congrArg lN hp8)) ?_
      refine xa_last hx hb hK hP hD hS 4 1 rfl rfl (by omega) (by decide) dX2_lay_77 (fun H locs hP hD hS => ?_)
      have hP : va_P D vwCl [((b 0), .inr (2, [.int th, .int (nI k), .ref (b 1), .ref (b 2), .ref (b 3), .ref (b 4), .ref (b 5), .int (nI st), .int (nI c), .ref (b 6), .int t, .ref (b 7), .ref (b 8), .long lf])), ((b 1), .inl (cI, 8, .inl mB)), ((b 2), .inl (cI, 8, .inl mM)), ((b 3), .inl (cI, 8, .inl mP)), ((b 4), .inl (cJ, 8, .inr (.inl (vp_updL (laF La mL (i + 1)) (i + 1) (lN (La (i + 1))))))), ((b 5), .inl (cI, 8, .inl mO)), ((b 6), .inl (cI, 6, .inl fW)), ((b 7), .inl (cI, 8, .inl (nwF y fi fD))), ((b 8), .inl (cI, 8, .inl mK))] H := hP
      have hD : va_D A [((b 0), .inr (2, [.int th, .int (nI k), .ref (b 1), .ref (b 2), .ref (b 3), .ref (b 4), .ref (b 5), .int (nI st), .int (nI c), .ref (b 6), .int t, .ref (b 7), .ref (b 8), .long lf])), ((b 1), .inl (cI, 8, .inl mB)), ((b 2), .inl (cI, 8, .inl mM)), ((b 3), .inl (cI, 8, .inl mP)), ((b 4), .inl (cJ, 8, .inr (.inl (vp_updL (laF La mL (i + 1)) (i + 1) (lN (La (i + 1))))))), ((b 5), .inl (cI, 8, .inl mO)), ((b 6), .inl (cI, 6, .inl fW)), ((b 7), .inl (cI, 8, .inl (nwF y fi fD))), ((b 8), .inl (cI, 8, .inl mK))] := hD
      have hP : va_P D vwCl [((b 0), .inr (2, [.int th, .int (nI k), .ref (b 1), .ref (b 2), .ref (b 3), .ref (b 4), .ref (b 5), .int (nI st), .int (nI c), .ref (b 6), .int t, .ref (b 7), .ref (b 8), .long lf])), ((b 1), .inl (cI, 8, .inl mB)), ((b 2), .inl (cI, 8, .inl mM)), ((b 3), .inl (cI, 8, .inl mP)), ((b 4), .inl (cJ, 8, .inr (.inl (laF La mL (i + 1 + 1))))), ((b 5), .inl (cI, 8, .inl mO)), ((b 6), .inl (cI, 6, .inl fW)), ((b 7), .inl (cI, 8, .inl (nwF y fi fD))), ((b 8), .inl (cI, 8, .inl mK))] H := by rw [← laF_s La mL (i + 1)]; exact hP
      have hD : va_D A [((b 0), .inr (2, [.int th, .int (nI k), .ref (b 1), .ref (b 2), .ref (b 3), .ref (b 4), .ref (b 5), .int (nI st), .int (nI c), .ref (b 6), .int t, .ref (b 7), .ref (b 8), .long lf])), ((b 1), .inl (cI, 8, .inl mB)), ((b 2), .inl (cI, 8, .inl mM)), ((b 3), .inl (cI, 8, .inl mP)), ((b 4), .inl (cJ, 8, .inr (.inl (laF La mL (i + 1 + 1))))), ((b 5), .inl (cI, 8, .inl mO)), ((b 6), .inl (cI, 6, .inl fW)), ((b 7), .inl (cI, 8, .inl (nwF y fi fD))), ((b 8), .inl (cI, 8, .inl mK))] := by rw [← laF_s La mL (i + 1)]; exact hD
      refine lv_iinc (v := (nI ((i + 1) + 1))) (lv' := [(3, .int (nI ((i + 1) + 1))), (0, .ref (b 0))]) hx hb dX2_lay_78 hl (k := 1) rfl (nI_inc (i + 1)) (by decide) rfl (fun ls hl => ?_)
      refine lv_goto (tgt := 37) hx hb dX2_lay_81 (by decide) ?_
      exact kk () _ _ ls (by omega) ⟨lv_sub hl [1, 0] rfl, hP, hD, hS⟩
  · skip
    simp only [Int32.le_iff_toInt_le] at c_9
    rw [nI_toInt (n := (i + 1)) (by omega)] at c_9
    rw [nI_toInt (n := k) (by omega)] at c_9
    obtain ⟨hp1, hp2, hp3, hp4, hp5, hp6, hp7, hp8⟩ := hp (i + 1) (by omega) (by omega)
    refine lv_lload_n hx hb dX2_lay_12 rfl (lv_at hl 1 rfl) ?_
    refine lv_aload_n hx hb dX2_lay_13 rfl (lv_at hl 0 rfl) ?_
    refine va_get (D := D) (ci := 2) (v := .ref (b 3)) (C := RX2) (T := TX2) (N := 14) hx hb hts hiX2 hown hK hP 0 rfl rfl 4 (by decide) hw20 (fun _ h9 => h9) rfl dX2_lay_14 ?_
    refine lv_iload_n hx hb dX2_lay_17 rfl (lv_at hl 2 rfl) ?_
    refine xa_iald hx hb hK hP 3 0 rfl rfl (by omega) (by decide) dX2_lay_18 ?_
    refine topI (y := (nI (pp (i + 1)))) hp1 ?_
    refine lv_i2l (v := ((nI (pp (i + 1)))).toInt64) hx hb dX2_lay_19 rfl ?_
    refine topL (y := (lN (pp (i + 1)))) (nI_l (by omega)) ?_
    refine lv_lmul hx hb dX2_lay_20 ?_
    refine topL (y := (lN (prN pp (i + 1)))) (lN_mul _ _) ?_
    refine lv_lstore_n (lv' := [(1, .long (lN (prN pp (i + 1)))), (0, .ref (b 0)), (3, .int (nI (i + 1)))]) hx hb dX2_lay_21 rfl hl (by decide) rfl (fun ls hl => ?_)
    refine lv_iinc (v := (nI ((i + 1) + 1))) (lv' := [(3, .int (nI ((i + 1) + 1))), (1, .long (lN (prN pp (i + 1)))), (0, .ref (b 0))]) hx hb dX2_lay_22 hl (k := 2) rfl (nI_inc (i + 1)) (by decide) rfl (fun ls hl => ?_)
    refine lv_goto (tgt := 4) hx hb dX2_lay_25 (by decide) ?_
    exact kk () _ _ ls (by omega) ⟨lv_sub hl [2, 1, 0] rfl, hP, hD, hS⟩
