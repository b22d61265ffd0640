def wrd (D : va_G) (ws : va_W) (sz : Nat) (post : UInt64 → va_W → Prop) : Array Value → State → Outcome → State → Prop := va_Qd post (wB D ws sz) (va_A ws sz)
def dgA (f : Nat → Int32) : Nat → Int64
  | 0 => 2069
  | i + 1 => mx (dgA f i) (f i).toInt64

set_option maxHeartbeats 4000000 in
set_option maxRecDepth 100000 in
theorem c_X2_meanDrift (l : Launch) (D : va_G) (cI cJ : ClassId) (sz : Nat) (b : Nat → Nat) (th : Int32) (k st c : Nat) (t : Int32) (lf : Int64) (mB mM mP : Nat → Int32) (mL : Nat → Int64) (mO fW : Nat → Int32) (y : Nat) (fi : Int32) (fD mK : Nat → Int32) (hc : c ≤ 6) (hD3 : ∀ j, j < c → -300 ≤ (fD j).toInt ∧ (fD j).toInt ≤ 300) : Met l yX2_meanDrift wsX2_meanDrift ({ frames := 0, cells := 0, slots := 0, locals := 0 }) (cPw D [((b 0), .inr (2, [.int th, .int (nI k), .ref (b 1), .ref (b 2), .ref (b 3), .ref (b 4), .ref (b 5), .int (nI st), .int (nI c), .ref (b 6), .int t, .ref (b 7), .ref (b 8), .long lf])), ((b 1), .inl (cI, 8, .inl mB)), ((b 2), .inl (cI, 8, .inl mM)), ((b 3), .inl (cI, 8, .inl mP)), ((b 4), .inl (cJ, 8, .inr (.inl mL))), ((b 5), .inl (cI, 8, .inl mO)), ((b 6), .inl (cI, 6, .inl fW)), ((b 7), .inl (cI, 8, .inl (nwF y fi fD))), ((b 8), .inl (cI, 8, .inl mK))] sz (KM D cI cJ) [.ref (b 0)]) (wrd D [((b 0), .inr (2, [.int th, .int (nI k), .ref (b 1), .ref (b 2), .ref (b 3), .ref (b 4), .ref (b 5), .int (nI st), .int (nI c), .ref (b 6), .int t, .ref (b 7), .ref (b 8), .long lf])), ((b 1), .inl (cI, 8, .inl mB)), ((b 2), .inl (cI, 8, .inl mM)), ((b 3), .inl (cI, 8, .inl mP)), ((b 4), .inl (cJ, 8, .inr (.inl mL))), ((b 5), .inl (cI, 8, .inl mO)), ((b 6), .inl (cI, 6, .inl fW)), ((b 7), .inl (cI, 8, .inl (nwF y fi fD))), ((b 8), .inl (cI, 8, .inl mK))] sz (fun r ws' => r = mnD c fD ∧ ws' = [((b 0), .inr (2, [.int 0, .int (nI k), .ref (b 1), .ref (b 2), .ref (b 3), .ref (b 4), .ref (b 5), .int (nI st), .int (nI c), .ref (b 6), .int t, .ref (b 7), .ref (b 8), .long lf])), ((b 1), .inl (cI, 8, .inl mB)), ((b 2), .inl (cI, 8, .inl mM)), ((b 3), .inl (cI, 8, .inl mP)), ((b 4), .inl (cJ, 8, .inr (.inl mL))), ((b 5), .inl (cI, 8, .inl mO)), ((b 6), .inl (cI, 6, .inl fW)), ((b 7), .inl (cI, 8, .inl (nwF y fi fD))), ((b 8), .inl (cI, 8, .inl mK))])) 0 0 (va_A [((b 0), .inr (2, [.int th, .int (nI k), .ref (b 1), .ref (b 2), .ref (b 3), .ref (b 4), .ref (b 5), .int (nI st), .int (nI c), .ref (b 6), .int t, .ref (b 7), .ref (b 8), .long lf])), ((b 1), .inl (cI, 8, .inl mB)), ((b 2), .inl (cI, 8, .inl mM)), ((b 3), .inl (cI, 8, .inl mP)), ((b 4), .inl (cJ, 8, .inr (.inl mL))), ((b 5), .inl (cI, 8, .inl mO)), ((b 6), .inl (cI, 6, .inl fW)), ((b 7), .inl (cI, 8, .inl (nwF y fi fD))), ((b 8), .inl (cI, 8, .inl mK))] sz) := by
  refine Met.ofW (cc := cX2_meanDrift) (maxL := 3) (ret := (some .double)) (by decide +kernel) rfl ?_
  intro p e s m args below meth c9 s₁ B hml hv
  obtain ⟨rfl, hsz, hP, hD0, hC⟩ := hv
  have hx := B.exec
  have hb := B.bytes
  have hr := B.returns
  have hts := atoms_spec (ws := wsX2_meanDrift) B.pre
  have hown : s.vm.findClass RX2 = some m.cls := findClass_of_methodNamed B.named
  have hlocks := B.notSynchronized
  have hK : va_K D vwCl [(cI, .int), (cJ, .long)] s := hC
  subst hsz
  unfold wrd wB
  have hD := hD0.self (sz := s.heap.size)
  generalize hAe : va_A [((b 0), .inr (2, [.int th, .int (nI k), .ref (b 1), .ref (b 2), .ref (b 3), .ref (b 4), .ref (b 5), .int (nI st), .int (nI c), .ref (b 6), .int t, .ref (b 7), .ref (b 8), .long lf])), ((b 1), .inl (cI, 8, .inl mB)), ((b 2), .inl (cI, 8, .inl mM)), ((b 3), .inl (cI, 8, .inl mP)), ((b 4), .inl (cJ, 8, .inr (.inl mL))), ((b 5), .inl (cI, 8, .inl mO)), ((b 6), .inl (cI, 6, .inl fW)), ((b 7), .inl (cI, 8, .inl (nwF y fi fD))), ((b 8), .inl (cI, 8, .inl mK))] s.heap.size = A at hD ⊢
  have hA : ∀ q : Nat, s.heap.size ≤ q → A q := fun q h => by rw [← hAe]; exact Or.inr h
  have hS : va_S A s.heap s.heap [] := va_S.rf
  have hl := lv_entry ([.ref (b 0)]) (n := 3) (Nat.le_of_ble_eq_true rfl)
  rw [lg_entry_eq]
  generalize (lg_sl ([.ref (b 0)]) ++ List.replicate (3 - (lg_sl ([.ref (b 0)])).length) Slot.unset).toArray = ls at hl ⊢
  have hl : lv_has ls 3 [(0, .ref (b 0))] := hl
  have hiX2 : ∀ w ∈ u_ws RX2 TX2 14, w ∈ wsX2_meanDrift := by decide +kernel
  have hw36 : (Cond.fieldLink RX2 36 "OldMeasuresModel" "now" "[I").before ([.ref (b 0)] : List Value).toArray s = true := hts _ (by decide +kernel)
  have hw42 : (Cond.fieldLink RX2 42 "OldMeasuresModel" "thrown" "I").before ([.ref (b 0)] : List Value).toArray s = true := hts _ (by decide +kernel)
  have hw49 : (Cond.fieldLink RX2 49 "OldMeasuresModel" "stalls" "I").before ([.ref (b 0)] : List Value).toArray s = true := hts _ (by decide +kernel)
  refine lv_aload_n hx hb dX2_meanDrift_0 rfl (lv_at hl 0 rfl) ?_
  refine lv_iconst (v := 0) hx hb dX2_meanDrift_1 (by decide) ?_
  refine va_put (D := D) (ci := 2) (v := .int 0) (ty := .int) (C := RX2) (T := TX2) (N := 14) hx hb hts hiX2 tyX2 tyX2_ok nmX2 hown hK hP hD hS 0 rfl rfl 0 (by decide) hw42 (fun _ h9 => h9) rfl (by decide +kernel) rfl rfl (Nat.le_of_ble_eq_true rfl) dX2_meanDrift_2 (fun H locs hP hD hS => ?_)
  have hP : va_P D vwCl [((b 0), .inr (2, [.int 0, .int (nI k), .ref (b 1), .ref (b 2), .ref (b 3), .ref (b 4), .ref (b 5), .int (nI st), .int (nI c), .ref (b 6), .int t, .ref (b 7), .ref (b 8), .long lf])), ((b 1), .inl (cI, 8, .inl mB)), ((b 2), .inl (cI, 8, .inl mM)), ((b 3), .inl (cI, 8, .inl mP)), ((b 4), .inl (cJ, 8, .inr (.inl mL))), ((b 5), .inl (cI, 8, .inl mO)), ((b 6), .inl (cI, 6, .inl fW)), ((b 7), .inl (cI, 8, .inl (nwF y fi fD))), ((b 8), .inl (cI, 8, .inl mK))] H := hP
  have hD : va_D A [((b 0), .inr (2, [.int 0, .int (nI k), .ref (b 1), .ref (b 2), .ref (b 3), .ref (b 4), .ref (b 5), .int (nI st), .int (nI c), .ref (b 6), .int t, .ref (b 7), .ref (b 8), .long lf])), ((b 1), .inl (cI, 8, .inl mB)), ((b 2), .inl (cI, 8, .inl mM)), ((b 3), .inl (cI, 8, .inl mP)), ((b 4), .inl (cJ, 8, .inr (.inl mL))), ((b 5), .inl (cI, 8, .inl mO)), ((b 6), .inl (cI, 6, .inl fW)), ((b 7), .inl (cI, 8, .inl (nwF y fi fD))), ((b 8), .inl (cI, 8, .inl mK))] := hD
  refine lv_iconst (v := 0) hx hb dX2_meanDrift_5 (by decide) ?_
  refine lv_istore_n (lv' := [(1, .int 0), (0, .ref (b 0))]) hx hb dX2_meanDrift_6 rfl hl (by decide) rfl (fun ls hl => ?_)
  refine lv_iconst (v := 0) hx hb dX2_meanDrift_7 (by decide) ?_
  refine lv_istore_n (lv' := [(2, .int 0), (1, .int 0), (0, .ref (b 0))]) hx hb dX2_meanDrift_8 rfl hl (by decide) rfl (fun ls hl => ?_)
  refine loopW (σ := Unit) (I := fun i x H locs ls => lv_has ls 3 [(0, .ref (b 0)), (1, .int (smD fD i)), (2, .int (nI i))] ∧ va_P D vwCl [((b 0), .inr (2, [.int 0, .int (nI k), .ref (b 1), .ref (b 2), .ref (b 3), .ref (b 4), .ref (b 5), .int (nI st), .int (nI c), .ref (b 6), .int t, .ref (b 7), .ref (b 8), .long lf])), ((b 1), .inl (cI, 8, .inl mB)), ((b 2), .inl (cI, 8, .inl mM)), ((b 3), .inl (cI, 8, .inl mP)), ((b 4), .inl (cJ, 8, .inr (.inl mL))), ((b 5), .inl (cI, 8, .inl mO)), ((b 6), .inl (cI, 6, .inl fW)), ((b 7), .inl (cI, 8, .inl (nwF y fi fD))), ((b 8), .inl (cI, 8, .inl mK))] H ∧ va_D A [((b 0), .inr (2, [.int 0, .int (nI k), .ref (b 1), .ref (b 2), .ref (b 3), .ref (b 4), .ref (b 5), .int (nI st), .int (nI c), .ref (b 6), .int t, .ref (b 7), .ref (b 8), .long lf])), ((b 1), .inl (cI, 8, .inl mB)), ((b 2), .inl (cI, 8, .inl mM)), ((b 3), .inl (cI, 8, .inl mP)), ((b 4), .inl (cJ, 8, .inr (.inl mL))), ((b 5), .inl (cI, 8, .inl mO)), ((b 6), .inl (cI, 6, .inl fW)), ((b 7), .inl (cI, 8, .inl (nwF y fi fD))), ((b 8), .inl (cI, 8, .inl mK))] ∧ va_S A s.heap H locs) c ?_ 0 () _ _ ls (by omega) ⟨lv_sub hl [2, 1, 0] rfl, hP, hD, hS⟩
  intro i x H locs ls hi hI kk
  obtain ⟨hl, hP, hD, hS⟩ := hI
  refine lv_iload_n hx hb dX2_meanDrift_9 rfl (lv_at hl 2 rfl) ?_
  refine lv_aload_n hx hb dX2_meanDrift_10 rfl (lv_at hl 0 rfl) ?_
  refine va_get (D := D) (ci := 2) (v := .int (nI c)) (C := RX2) (T := TX2) (N := 14) hx hb hts hiX2 hown hK hP 0 rfl rfl 8 (by decide) hw49 (fun _ h9 => h9) rfl dX2_meanDrift_11 ?_
  refine lv_icmp_ge (tgt := 34) hx hb dX2_meanDrift_14 (by decide) (fun c_14 => ?_) (fun c_14 => ?_)
  · skip
    simp only [Int32.le_iff_toInt_le] at c_14
    rw [nI_toInt (n := i) (by omega)] at c_14
    rw [nI_toInt (n := c) (by omega)] at c_14
    have e9 : c = i := by omega
    subst e9
    refine lv_aload_n hx hb dX2_meanDrift_34 rfl (lv_at hl 0 rfl) ?_
    refine va_get (D := D) (ci := 2) (v := .int (nI c)) (C := RX2) (T := TX2) (N := 14) hx hb hts hiX2 hown hK hP 0 rfl rfl 8 (by decide) hw49 (fun _ h9 => h9) rfl dX2_meanDrift_35 ?_
    refine lv_if_ne (tgt := 45) hx hb dX2_meanDrift_38 (by decide) (fun c_38 => ?_) (fun c_38 => ?_)
    · skip
      simp only [ne_eq, ← Int32.toInt_inj, Decidable.not_not] at c_38
      rw [nI_toInt (n := c) (by omega)] at c_38
      rw [(by decide : (0 : Int32).toInt = 0)] at c_38
      have hc0 : ¬ c = 0 := by omega
      refine lv_iload_n hx hb dX2_meanDrift_45 rfl (lv_at hl 1 rfl) ?_
      refine lv_i2d hx hb dX2_meanDrift_46 ?_
      refine lv_aload_n hx hb dX2_meanDrift_47 rfl (lv_at hl 0 rfl) ?_
      refine va_get (D := D) (ci := 2) (v := .int (nI c)) (C := RX2) (T := TX2) (N := 14) hx hb hts hiX2 hown hK hP 0 rfl rfl 8 (by decide) hw49 (fun _ h9 => h9) rfl dX2_meanDrift_48 ?_
      refine lv_i2d hx hb dX2_meanDrift_51 ?_
      refine lv_ddiv hx hb dX2_meanDrift_52 (vf_mean (smD_b hc hD3).1 (smD_b hc hD3).2 hc0 hc) ?_
      exact W.dret (v := (FP.ddiv (FP.i2d (smD fD c)) (FP.i2d (nI c)))) hx hb hr (fun t9 ht hW => ⟨⟨(FP.ddiv (FP.i2d (smD fD c)) (FP.i2d (nI c))), [((b 0), .inr (2, [.int 0, .int (nI k), .ref (b 1), .ref (b 2), .ref (b 3), .ref (b 4), .ref (b 5), .int (nI st), .int (nI c), .ref (b 6), .int t, .ref (b 7), .ref (b 8), .long lf])), ((b 1), .inl (cI, 8, .inl mB)), ((b 2), .inl (cI, 8, .inl mM)), ((b 3), .inl (cI, 8, .inl mP)), ((b 4), .inl (cJ, 8, .inr (.inl mL))), ((b 5), .inl (cI, 8, .inl mO)), ((b 6), .inl (cI, 6, .inl fW)), ((b 7), .inl (cI, 8, .inl (nwF y fi fD))), ((b 8), .inl (cI, 8, .inl mK))], rfl, ⟨(ic_f hc0).symm, rfl⟩, by rw [ht]; exact hP, hD⟩, hS.F ht⟩) hS.2.2 dX2_meanDrift_53
    · skip
      simp only [ne_eq, ← Int32.toInt_inj, Decidable.not_not] at c_38
      rw [nI_toInt (n := c) (by omega)] at c_38
      rw [(by decide : (0 : Int32).toInt = 0)] at c_38
      refine lv_dconst0 hx hb dX2_meanDrift_41 ?_
      refine lv_goto (tgt := 53) hx hb dX2_meanDrift_42 (by decide) ?_
      exact W.dret (v := FP.dconst0) hx hb hr (fun t9 ht hW => ⟨⟨FP.dconst0, [((b 0), .inr (2, [.int 0, .int (nI k), .ref (b 1), .ref (b 2), .ref (b 3), .ref (b 4), .ref (b 5), .int (nI st), .int (nI c), .ref (b 6), .int t, .ref (b 7), .ref (b 8), .long lf])), ((b 1), .inl (cI, 8, .inl mB)), ((b 2), .inl (cI, 8, .inl mM)), ((b 3), .inl (cI, 8, .inl mP)), ((b 4), .inl (cJ, 8, .inr (.inl mL))), ((b 5), .inl (cI, 8, .inl mO)), ((b 6), .inl (cI, 6, .inl fW)), ((b 7), .inl (cI, 8, .inl (nwF y fi fD))), ((b 8), .inl (cI, 8, .inl mK))], rfl, ⟨(ic_t (by omega)).symm, rfl⟩, by rw [ht]; exact hP, hD⟩, hS.F ht⟩) hS.2.2 dX2_meanDrift_53
  · skip
    simp only [Int32.le_iff_toInt_le] at c_14
    rw [nI_toInt (n := i) (by omega)] at c_14
    rw [nI_toInt (n := c) (by omega)] at c_14
    refine lv_iload_n hx hb dX2_meanDrift_17 rfl (lv_at hl 1 rfl) ?_
    refine lv_aload_n hx hb dX2_meanDrift_18 rfl (lv_at hl 0 rfl) ?_
    refine va_get (D := D) (ci := 2) (v := .ref (b 7)) (C := RX2) (T := TX2) (N := 14) hx hb hts hiX2 hown hK hP 0 rfl rfl 11 (by decide) hw36 (fun _ h9 => h9) rfl dX2_meanDrift_19 ?_
    refine lv_iconst (v := 2) hx hb dX2_meanDrift_22 (by decide) ?_
    refine lv_iload_n hx hb dX2_meanDrift_23 rfl (lv_at hl 2 rfl) ?_
    refine lv_iadd hx hb dX2_meanDrift_24 ?_
    refine topI (two_nI i) ?_
    refine xa_iald hx hb hK hP 7 0 rfl rfl (by omega) (by decide) dX2_meanDrift_25 ?_
    refine topI (y := (fD i)) rfl ?_
    refine lv_iadd hx hb dX2_meanDrift_26 ?_
    refine lv_istore_n (lv' := [(1, .int ((smD fD i) + (fD i))), (0, .ref (b 0)), (2, .int (nI i))]) hx hb dX2_meanDrift_27 rfl hl (by decide) rfl (fun ls hl => ?_)
    refine lv_iinc (v := (nI (i + 1))) (lv' := [(2, .int (nI (i + 1))), (1, .int ((smD fD i) + (fD i))), (0, .ref (b 0))]) hx hb dX2_meanDrift_28 hl (k := 2) rfl (nI_inc i) (by decide) rfl (fun ls hl => ?_)
    refine lv_goto (tgt := 9) hx hb dX2_meanDrift_31 (by decide) ?_
    exact kk () _ _ ls (by omega) ⟨lv_sub hl [2, 1, 0] rfl, hP, hD, hS⟩

set_option maxHeartbeats 4000000 in
set_option maxRecDepth 100000 in
theorem c_X2_init (l : Launch) (D : va_G) (cI cJ : ClassId) (sz : Nat) (h : Nat) : Met l yX2_init wsX2_init ({ frames := 1, cells := 8, slots := 62, locals := 20 }) (cPw D [(h, .inr (2, [.int 0, .int 0, .null, .null, .null, .null, .null, .int 0, .int 0, .null, .int 0, .null, .null, .long 0]))] sz (KM D cI cJ) [.ref h]) (wrv D [(h, .inr (2, [.int 0, .int 0, .null, .null, .null, .null, .null, .int 0, .int 0, .null, .int 0, .null, .null, .long 0]))] sz (fun ws' => ∃ b : Nat → Nat, b 0 = h ∧ ws' = [((b 0), .inr (2, [.int 0, .int (nI 1), .ref (b 1), .ref (b 2), .ref (b 3), .ref (b 4), .ref (b 5), .int (nI 0), .int (nI 0), .ref (b 6), .int 10, .ref (b 7), .ref (b 8), .long 0])), ((b 1), .inl (cI, 8, .inl (upd (fun _ => (0 : Int32)) 0 (-1)))), ((b 2), .inl (cI, 8, .inl (fun _ => (0 : Int32)))), ((b 3), .inl (cI, 8, .inl (fun _ => (0 : Int32)))), ((b 4), .inl (cJ, 8, .inr (.inl (vp_updL (fun _ => (0 : Int64)) 0 1)))), ((b 5), .inl (cI, 8, .inl (fun _ => (0 : Int32)))), ((b 6), .inl (cI, 6, .inl (fun _ => (0 : Int32)))), ((b 7), .inl (cI, 8, .inl (nwF 0 0 (fun _ => (0 : Int32))))), ((b 8), .inl (cI, 8, .inl (fun _ => (0 : Int32))))])) 8 62 (va_A [(h, .inr (2, [.int 0, .int 0, .null, .null, .null, .null, .null, .int 0, .int 0, .null, .int 0, .null, .null, .long 0]))] sz) := by
  refine Met.ofW (cc := cX2_init) (maxL := 1) (ret := none) (by decide +kernel) rfl ?_
  intro p e s m args below meth c9 s₁ B hml hv
  obtain ⟨rfl, hsz, hP, hD0, hC⟩ := hv
  have hx := B.exec
  have hb := B.bytes
  have hr := B.returns
  have hts := atoms_spec (ws := wsX2_init) B.pre
  have hown : s.vm.findClass RX2 = some m.cls := findClass_of_methodNamed B.named
  have hlocks := B.notSynchronized
  have hin : meth.name = "<init>" := (name_of_methodNamed B.named B.method).1
  have hK : va_K D vwCl [(cI, .int), (cJ, .long)] s := hC
  subst hsz
  unfold wrv wB
  have hD := hD0.self (sz := s.heap.size)
  generalize hAe : va_A [(h, .inr (2, [.int 0, .int 0, .null, .null, .null, .null, .null, .int 0, .int 0, .null, .int 0, .null, .null, .long 0]))] s.heap.size = A at hD ⊢
  have hA : ∀ q : Nat, s.heap.size ≤ q → A q := fun q h => by rw [← hAe]; exact Or.inr h
  have hS : va_S A s.heap s.heap [] := va_S.rf
  have hl := lv_entry ([.ref h]) (n := 1) (Nat.le_of_ble_eq_true rfl)
  rw [lg_entry_eq]
  generalize (lg_sl ([.ref h]) ++ List.replicate (1 - (lg_sl ([.ref h])).length) Slot.unset).toArray = ls at hl ⊢
  have hl : lv_has ls 1 [(0, .ref h)] := hl
  have hiX2 : ∀ w ∈ u_ws RX2 TX2 14, w ∈ wsX2_init := by decide +kernel
  have hw7 : (Cond.fieldLink RX2 7 "OldMeasuresModel" "measures" "I").before ([.ref h] : List Value).toArray s = true := hts _ (by decide +kernel)
  have hw13 : (Cond.fieldLink RX2 13 "OldMeasuresModel" "base" "[I").before ([.ref h] : List Value).toArray s = true := hts _ (by decide +kernel)
  have hw17 : (Cond.fieldLink RX2 17 "OldMeasuresModel" "many" "[I").before ([.ref h] : List Value).toArray s = true := hts _ (by decide +kernel)
  have hw20 : (Cond.fieldLink RX2 20 "OldMeasuresModel" "parts" "[I").before ([.ref h] : List Value).toArray s = true := hts _ (by decide +kernel)
  have hw23 : (Cond.fieldLink RX2 23 "OldMeasuresModel" "length" "[J").before ([.ref h] : List Value).toArray s = true := hts _ (by decide +kernel)
  have hw27 : (Cond.fieldLink RX2 27 "OldMeasuresModel" "order" "[I").before ([.ref h] : List Value).toArray s = true := hts _ (by decide +kernel)
  have hw30 : (Cond.fieldLink RX2 30 "OldMeasuresModel" "wear" "[I").before ([.ref h] : List Value).toArray s = true := hts _ (by decide +kernel)
  have hw33 : (Cond.fieldLink RX2 33 "OldMeasuresModel" "tolerance" "I").before ([.ref h] : List Value).toArray s = true := hts _ (by decide +kernel)
  have hw36 : (Cond.fieldLink RX2 36 "OldMeasuresModel" "now" "[I").before ([.ref h] : List Value).toArray s = true := hts _ (by decide +kernel)
  have hw39 : (Cond.fieldLink RX2 39 "OldMeasuresModel" "kept" "[I").before ([.ref h] : List Value).toArray s = true := hts _ (by decide +kernel)
  refine lv_aload_n hx hb dX2_init_0 rfl (lv_at hl 0 rfl) ?_
  refine W.objInit hx hb hown (hts (.methodLink RX2 1 objectInit) (by decide +kernel)) (hts (.instanceMethod objectInit) (by decide +kernel)) (hts (.code objectInit ⟨#[0xb1]⟩ 1 none) (by decide +kernel)) rfl (by rw [hml]; exact hl.1) rfl dX2_init_1 (Nat.le_of_ble_eq_true rfl) (Nat.le_of_ble_eq_true rfl) ?_
  refine W.eq (g2 := F0 m 4 ls []) rfl ?_
  refine lv_aload_n hx hb dX2_init_4 rfl (lv_at hl 0 rfl) ?_
  refine lv_iconst (v := 1) hx hb dX2_init_5 (by decide) ?_
  refine va_put (D := D) (ci := 2) (v := .int 1) (ty := .int) (C := RX2) (T := TX2) (N := 14) hx hb hts hiX2 tyX2 tyX2_ok nmX2 hown hK hP hD hS 0 rfl rfl 1 (by decide) hw7 (fun _ h9 => h9) rfl (by decide +kernel) rfl rfl (Nat.le_of_ble_eq_true rfl) dX2_init_6 (fun H locs hP hD hS => ?_)
  have hP : va_P D vwCl [(h, .inr (2, [.int 0, .int 1, .null, .null, .null, .null, .null, .int 0, .int 0, .null, .int 0, .null, .null, .long 0]))] H := hP
  have hD : va_D A [(h, .inr (2, [.int 0, .int 1, .null, .null, .null, .null, .null, .int 0, .int 0, .null, .int 0, .null, .null, .long 0]))] := hD
  refine lv_aload_n hx hb dX2_init_9 rfl (lv_at hl 0 rfl) ?_
  refine lv_bipush (v := 8) hx hb dX2_init_10 (by decide) ?_
  refine xa_newaI (N := 8) hx hb (hts (.arrayClass .int) (by decide +kernel)) hK 0 rfl hP hD hS hA (by decide) (by decide +kernel) (by decide) (by decide) (by decide) dX2_init_12 (fun q_12 H hP hD hS => ?_)
  have hP : va_P D vwCl [(h, .inr (2, [.int 0, .int 1, .null, .null, .null, .null, .null, .int 0, .int 0, .null, .int 0, .null, .null, .long 0])), (q_12, .inl (cI, 8, .inl (fun _ => (0 : Int32))))] H := hP
  have hD : va_D A [(h, .inr (2, [.int 0, .int 1, .null, .null, .null, .null, .null, .int 0, .int 0, .null, .int 0, .null, .null, .long 0])), (q_12, .inl (cI, 8, .inl (fun _ => (0 : Int32))))] := hD
  refine va_putF (D := D) (ci := 2) (v := .ref q_12) (ty := .array .int) (C := RX2) (T := TX2) (N := 14) hx hb hts hiX2 tyX2 tyX2_ok nmX2 hown hK hP hD hS 0 rfl rfl 2 (by decide) hw13 (fun _ h9 => h9) rfl hin rfl (by decide +kernel) rfl rfl (Nat.le_of_ble_eq_true rfl) dX2_init_14 (fun H locs hP hD hS => ?_)
  have hP : va_P D vwCl [(h, .inr (2, [.int 0, .int 1, .ref q_12, .null, .null, .null, .null, .int 0, .int 0, .null, .int 0, .null, .null, .long 0])), (q_12, .inl (cI, 8, .inl (fun _ => (0 : Int32))))] H := hP
  have hD : va_D A [(h, .inr (2, [.int 0, .int 1, .ref q_12, .null, .null, .null, .null, .int 0, .int 0, .null, .int 0, .null, .null, .long 0])), (q_12, .inl (cI, 8, .inl (fun _ => (0 : Int32))))] := hD
  refine lv_aload_n hx hb dX2_init_17 rfl (lv_at hl 0 rfl) ?_
  refine lv_bipush (v := 8) hx hb dX2_init_18 (by decide) ?_
  refine xa_newaI (N := 8) hx hb (hts (.arrayClass .int) (by decide +kernel)) hK 0 rfl hP hD hS hA (by decide) (by decide +kernel) (by decide) (by decide) (by decide) dX2_init_20 (fun q_20 H hP hD hS => ?_)
  have hP : va_P D vwCl [(h, .inr (2, [.int 0, .int 1, .ref q_12, .null, .null, .null, .null, .int 0, .int 0, .null, .int 0, .null, .null, .long 0])), (q_12, .inl (cI, 8, .inl (fun _ => (0 : Int32)))), (q_20, .inl (cI, 8, .inl (fun _ => (0 : Int32))))] H := hP
  have hD : va_D A [(h, .inr (2, [.int 0, .int 1, .ref q_12, .null, .null, .null, .null, .int 0, .int 0, .null, .int 0, .null, .null, .long 0])), (q_12, .inl (cI, 8, .inl (fun _ => (0 : Int32)))), (q_20, .inl (cI, 8, .inl (fun _ => (0 : Int32))))] := hD
  refine va_putF (D := D) (ci := 2) (v := .ref q_20) (ty := .array .int) (C := RX2) (T := TX2) (N := 14) hx hb hts hiX2 tyX2 tyX2_ok nmX2 hown hK hP hD hS 0 rfl rfl 3 (by decide) hw17 (fun _ h9 => h9) rfl hin rfl (by decide +kernel) rfl rfl (Nat.le_of_ble_eq_true rfl) dX2_init_22 (fun H locs hP hD hS => ?_)
  have hP : va_P D vwCl [(h, .inr (2, [.int 0, .int 1, .ref q_12, .ref q_20, .null, .null, .null, .int 0, .int 0, .null, .int 0, .null, .null, .long 0])), (q_12, .inl (cI, 8, .inl (fun _ => (0 : Int32)))), (q_20, .inl (cI, 8, .inl (fun _ => (0 : Int32))))] H := hP
  have hD : va_D A [(h, .inr (2, [.int 0, .int 1, .ref q_12, .ref q_20, .null, .null, .null, .int 0, .int 0, .null, .int 0, .null, .null, .long 0])), (q_12, .inl (cI, 8, .inl (fun _ => (0 : Int32)))), (q_20, .inl (cI, 8, .inl (fun _ => (0 : Int32))))] := hD
  refine lv_aload_n hx hb dX2_init_25 rfl (lv_at hl 0 rfl) ?_
  refine lv_bipush (v := 8) hx hb dX2_init_26 (by decide) ?_
  refine xa_newaI (N := 8) hx hb (hts (.arrayClass .int) (by decide +kernel)) hK 0 rfl hP hD hS hA (by decide) (by decide +kernel) (by decide) (by decide) (by decide) dX2_init_28 (fun q_28 H hP hD hS => ?_)
  have hP : va_P D vwCl [(h, .inr (2, [.int 0, .int 1, .ref q_12, .ref q_20, .null, .null, .null, .int 0, .int 0, .null, .int 0, .null, .null, .long 0])), (q_12, .inl (cI, 8, .inl (fun _ => (0 : Int32)))), (q_20, .inl (cI, 8, .inl (fun _ => (0 : Int32)))), (q_28, .inl (cI, 8, .inl (fun _ => (0 : Int32))))] H := hP
  have hD : va_D A [(h, .inr (2, [.int 0, .int 1, .ref q_12, .ref q_20, .null, .null, .null, .int 0, .int 0, .null, .int 0, .null, .null, .long 0])), (q_12, .inl (cI, 8, .inl (fun _ => (0 : Int32)))), (q_20, .inl (cI, 8, .inl (fun _ => (0 : Int32)))), (q_28, .inl (cI, 8, .inl (fun _ => (0 : Int32))))] := hD
  refine va_putF (D := D) (ci := 2) (v := .ref q_28) (ty := .array .int) (C := RX2) (T := TX2) (N := 14) hx hb hts hiX2 tyX2 tyX2_ok nmX2 hown hK hP hD hS 0 rfl rfl 4 (by decide) hw20 (fun _ h9 => h9) rfl hin rfl (by decide +kernel) rfl rfl (Nat.le_of_ble_eq_true rfl) dX2_init_30 (fun H locs hP hD hS => ?_)
  have hP : va_P D vwCl [(h, .inr (2, [.int 0, .int 1, .ref q_12, .ref q_20, .ref q_28, .null, .null, .int 0, .int 0, .null, .int 0, .null, .null, .long 0])), (q_12, .inl (cI, 8, .inl (fun _ => (0 : Int32)))), (q_20, .inl (cI, 8, .inl (fun _ => (0 : Int32)))), (q_28, .inl (cI, 8, .inl (fun _ => (0 : Int32))))] H := hP
  have hD : va_D A [(h, .inr (2, [.int 0, .int 1, .ref q_12, .ref q_20, .ref q_28, .null, .null, .int 0, .int 0, .null, .int 0, .null, .null, .long 0])), (q_12, .inl (cI, 8, .inl (fun _ => (0 : Int32)))), (q_20, .inl (cI, 8, .inl (fun _ => (0 : Int32)))), (q_28, .inl (cI, 8, .inl (fun _ => (0 : Int32))))] := hD
  refine lv_aload_n hx hb dX2_init_33 rfl (lv_at hl 0 rfl) ?_
  refine lv_bipush (v := 8) hx hb dX2_init_34 (by decide) ?_
  refine xa_newaJ (N := 8) hx hb (hts (.arrayClass .long) (by decide +kernel)) hK 1 rfl hP hD hS hA (by decide) (by decide +kernel) (by decide) (by decide) (by decide) dX2_init_36 (fun q_36 H hP hD hS => ?_)
  have hP : va_P D vwCl [(h, .inr (2, [.int 0, .int 1, .ref q_12, .ref q_20, .ref q_28, .null, .null, .int 0, .int 0, .null, .int 0, .null, .null, .long 0])), (q_12, .inl (cI, 8, .inl (fun _ => (0 : Int32)))), (q_20, .inl (cI, 8, .inl (fun _ => (0 : Int32)))), (q_28, .inl (cI, 8, .inl (fun _ => (0 : Int32)))), (q_36, .inl (cJ, 8, .inr (.inl (fun _ => (0 : Int64)))))] H := hP
  have hD : va_D A [(h, .inr (2, [.int 0, .int 1, .ref q_12, .ref q_20, .ref q_28, .null, .null, .int 0, .int 0, .null, .int 0, .null, .null, .long 0])), (q_12, .inl (cI, 8, .inl (fun _ => (0 : Int32)))), (q_20, .inl (cI, 8, .inl (fun _ => (0 : Int32)))), (q_28, .inl (cI, 8, .inl (fun _ => (0 : Int32)))), (q_36, .inl (cJ, 8, .inr (.inl (fun _ => (0 : Int64)))))] := hD
  refine va_putF (D := D) (ci := 2) (v := .ref q_36) (ty := .array .long) (C := RX2) (T := TX2) (N := 14) hx hb hts hiX2 tyX2 tyX2_ok nmX2 hown hK hP hD hS 0 rfl rfl 5 (by decide) hw23 (fun _ h9 => h9) rfl hin rfl (by decide +kernel) rfl rfl (Nat.le_of_ble_eq_true rfl) dX2_init_38 (fun H locs hP hD hS => ?_)
  have hP : va_P D vwCl [(h, .inr (2, [.int 0, .int 1, .ref q_12, .ref q_20, .ref q_28, .ref q_36, .null, .int 0, .int 0, .null, .int 0, .null, .null, .long 0])), (q_12, .inl (cI, 8, .inl (fun _ => (0 : Int32)))), (q_20, .inl (cI, 8, .inl (fun _ => (0 : Int32)))), (q_28, .inl (cI, 8, .inl (fun _ => (0 : Int32)))), (q_36, .inl (cJ, 8, .inr (.inl (fun _ => (0 : Int64)))))] H := hP
  have hD : va_D A [(h, .inr (2, [.int 0, .int 1, .ref q_12, .ref q_20, .ref q_28, .ref q_36, .null, .int 0, .int 0, .null, .int 0, .null, .null, .long 0])), (q_12, .inl (cI, 8, .inl (fun _ => (0 : Int32)))), (q_20, .inl (cI, 8, .inl (fun _ => (0 : Int32)))), (q_28, .inl (cI, 8, .inl (fun _ => (0 : Int32)))), (q_36, .inl (cJ, 8, .inr (.inl (fun _ => (0 : Int64)))))] := hD
  refine lv_aload_n hx hb dX2_init_41 rfl (lv_at hl 0 rfl) ?_
  refine lv_bipush (v := 8) hx hb dX2_init_42 (by decide) ?_
  refine xa_newaI (N := 8) hx hb (hts (.arrayClass .int) (by decide +kernel)) hK 0 rfl hP hD hS hA (by decide) (by decide +kernel) (by decide) (by decide) (by decide) dX2_init_44 (fun q_44 H hP hD hS => ?_)
  have hP : va_P D vwCl [(h, .inr (2, [.int 0, .int 1, .ref q_12, .ref q_20, .ref q_28, .ref q_36, .null, .int 0, .int 0, .null, .int 0, .null, .null, .long 0])), (q_12, .inl (cI, 8, .inl (fun _ => (0 : Int32)))), (q_20, .inl (cI, 8, .inl (fun _ => (0 : Int32)))), (q_28, .inl (cI, 8, .inl (fun _ => (0 : Int32)))), (q_36, .inl (cJ, 8, .inr (.inl (fun _ => (0 : Int64))))), (q_44, .inl (cI, 8, .inl (fun _ => (0 : Int32))))] H := hP
  have hD : va_D A [(h, .inr (2, [.int 0, .int 1, .ref q_12, .ref q_20, .ref q_28, .ref q_36, .null, .int 0, .int 0, .null, .int 0, .null, .null, .long 0])), (q_12, .inl (cI, 8, .inl (fun _ => (0 : Int32)))), (q_20, .inl (cI, 8, .inl (fun _ => (0 : Int32)))), (q_28, .inl (cI, 8, .inl (fun _ => (0 : Int32)))), (q_36, .inl (cJ, 8, .inr (.inl (fun _ => (0 : Int64))))), (q_44, .inl (cI, 8, .inl (fun _ => (0 : Int32))))] := hD
  refine va_putF (D := D) (ci := 2) (v := .ref q_44) (ty := .array .int) (C := RX2) (T := TX2) (N := 14) hx hb hts hiX2 tyX2 tyX2_ok nmX2 hown hK hP hD hS 0 rfl rfl 6 (by decide) hw27 (fun _ h9 => h9) rfl hin rfl (by decide +kernel) rfl rfl (Nat.le_of_ble_eq_true rfl) dX2_init_46 (fun H locs hP hD hS => ?_)
  have hP : va_P D vwCl [(h, .inr (2, [.int 0, .int 1, .ref q_12, .ref q_20, .ref q_28, .ref q_36, .ref q_44, .int 0, .int 0, .null, .int 0, .null, .null, .long 0])), (q_12, .inl (cI, 8, .inl (fun _ => (0 : Int32)))), (q_20, .inl (cI, 8, .inl (fun _ => (0 : Int32)))), (q_28, .inl (cI, 8, .inl (fun _ => (0 : Int32)))), (q_36, .inl (cJ, 8, .inr (.inl (fun _ => (0 : Int64))))), (q_44, .inl (cI, 8, .inl (fun _ => (0 : Int32))))] H := hP
  have hD : va_D A [(h, .inr (2, [.int 0, .int 1, .ref q_12, .ref q_20, .ref q_28, .ref q_36, .ref q_44, .int 0, .int 0, .null, .int 0, .null, .null, .long 0])), (q_12, .inl (cI, 8, .inl (fun _ => (0 : Int32)))), (q_20, .inl (cI, 8, .inl (fun _ => (0 : Int32)))), (q_28, .inl (cI, 8, .inl (fun _ => (0 : Int32)))), (q_36, .inl (cJ, 8, .inr (.inl (fun _ => (0 : Int64))))), (q_44, .inl (cI, 8, .inl (fun _ => (0 : Int32))))] := hD
  refine lv_aload_n hx hb dX2_init_49 rfl (lv_at hl 0 rfl) ?_
  refine lv_bipush (v := 6) hx hb dX2_init_50 (by decide) ?_
  refine xa_newaI (N := 6) hx hb (hts (.arrayClass .int) (by decide +kernel)) hK 0 rfl hP hD hS hA (by decide) (by decide +kernel) (by decide) (by decide) (by decide) dX2_init_52 (fun q_52 H hP hD hS => ?_)
  have hP : va_P D vwCl [(h, .inr (2, [.int 0, .int 1, .ref q_12, .ref q_20, .ref q_28, .ref q_36, .ref q_44, .int 0, .int 0, .null, .int 0, .null, .null, .long 0])), (q_12, .inl (cI, 8, .inl (fun _ => (0 : Int32)))), (q_20, .inl (cI, 8, .inl (fun _ => (0 : Int32)))), (q_28, .inl (cI, 8, .inl (fun _ => (0 : Int32)))), (q_36, .inl (cJ, 8, .inr (.inl (fun _ => (0 : Int64))))), (q_44, .inl (cI, 8, .inl (fun _ => (0 : Int32)))), (q_52, .inl (cI, 6, .inl (fun _ => (0 : Int32))))] H := hP
  have hD : va_D A [(h, .inr (2, [.int 0, .int 1, .ref q_12, .ref q_20, .ref q_28, .ref q_36, .ref q_44, .int 0, .int 0, .null, .int 0, .null, .null, .long 0])), (q_12, .inl (cI, 8, .inl (fun _ => (0 : Int32)))), (q_20, .inl (cI, 8, .inl (fun _ => (0 : Int32)))), (q_28, .inl (cI, 8, .inl (fun _ => (0 : Int32)))), (q_36, .inl (cJ, 8, .inr (.inl (fun _ => (0 : Int64))))), (q_44, .inl (cI, 8, .inl (fun _ => (0 : Int32)))), (q_52, .inl (cI, 6, .inl (fun _ => (0 : Int32))))] := hD
  refine va_putF (D := D) (ci := 2) (v := .ref q_52) (ty := .array .int) (C := RX2) (T := TX2) (N := 14) hx hb hts hiX2 tyX2 tyX2_ok nmX2 hown hK hP hD hS 0 rfl rfl 9 (by decide) hw30 (fun _ h9 => h9) rfl hin rfl (by decide +kernel) rfl rfl (Nat.le_of_ble_eq_true rfl) dX2_init_54 (fun H locs hP hD hS => ?_)
  have hP : va_P D vwCl [(h, .inr (2, [.int 0, .int 1, .ref q_12, .ref q_20, .ref q_28, .ref q_36, .ref q_44, .int 0, .int 0, .ref q_52, .int 0, .null, .null, .long 0])), (q_12, .inl (cI, 8, .inl (fun _ => (0 : Int32)))), (q_20, .inl (cI, 8, .inl (fun _ => (0 : Int32)))), (q_28, .inl (cI, 8, .inl (fun _ => (0 : Int32)))), (q_36, .inl (cJ, 8, .inr (.inl (fun _ => (0 : Int64))))), (q_44, .inl (cI, 8, .inl (fun _ => (0 : Int32)))), (q_52, .inl (cI, 6, .inl (fun _ => (0 : Int32))))] H := hP
  have hD : va_D A [(h, .inr (2, [.int 0, .int 1, .ref q_12, .ref q_20, .ref q_28, .ref q_36, .ref q_44, .int 0, .int 0, .ref q_52, .int 0, .null, .null, .long 0])), (q_12, .inl (cI, 8, .inl (fun _ => (0 : Int32)))), (q_20, .inl (cI, 8, .inl (fun _ => (0 : Int32)))), (q_28, .inl (cI, 8, .inl (fun _ => (0 : Int32)))), (q_36, .inl (cJ, 8, .inr (.inl (fun _ => (0 : Int64))))), (q_44, .inl (cI, 8, .inl (fun _ => (0 : Int32)))), (q_52, .inl (cI, 6, .inl (fun _ => (0 : Int32))))] := hD
  refine lv_aload_n hx hb dX2_init_57 rfl (lv_at hl 0 rfl) ?_
  refine lv_bipush (v := 10) hx hb dX2_init_58 (by decide) ?_
  refine va_put (D := D) (ci := 2) (v := .int 10) (ty := .int) (C := RX2) (T := TX2) (N := 14) hx hb hts hiX2 tyX2 tyX2_ok nmX2 hown hK hP hD hS 0 rfl rfl 10 (by decide) hw33 (fun _ h9 => h9) rfl (by decide +kernel) rfl rfl (Nat.le_of_ble_eq_true rfl) dX2_init_60 (fun H locs hP hD hS => ?_)
  have hP : va_P D vwCl [(h, .inr (2, [.int 0, .int 1, .ref q_12, .ref q_20, .ref q_28, .ref q_36, .ref q_44, .int 0, .int 0, .ref q_52, .int 10, .null, .null, .long 0])), (q_12, .inl (cI, 8, .inl (fun _ => (0 : Int32)))), (q_20, .inl (cI, 8, .inl (fun _ => (0 : Int32)))), (q_28, .inl (cI, 8, .inl (fun _ => (0 : Int32)))), (q_36, .inl (cJ, 8, .inr (.inl (fun _ => (0 : Int64))))), (q_44, .inl (cI, 8, .inl (fun _ => (0 : Int32)))), (q_52, .inl (cI, 6, .inl (fun _ => (0 : Int32))))] H := hP
  have hD : va_D A [(h, .inr (2, [.int 0, .int 1, .ref q_12, .ref q_20, .ref q_28, .ref q_36, .ref q_44, .int 0, .int 0, .ref q_52, .int 10, .null, .null, .long 0])), (q_12, .inl (cI, 8, .inl (fun _ => (0 : Int32)))), (q_20, .inl (cI, 8, .inl (fun _ => (0 : Int32)))), (q_28, .inl (cI, 8, .inl (fun _ => (0 : Int32)))), (q_36, .inl (cJ, 8, .inr (.inl (fun _ => (0 : Int64))))), (q_44, .inl (cI, 8, .inl (fun _ => (0 : Int32)))), (q_52, .inl (cI, 6, .inl (fun _ => (0 : Int32))))] := hD
  refine lv_aload_n hx hb dX2_init_63 rfl (lv_at hl 0 rfl) ?_
  refine lv_bipush (v := 8) hx hb dX2_init_64 (by decide) ?_
  refine xa_newaI (N := 8) hx hb (hts (.arrayClass .int) (by decide +kernel)) hK 0 rfl hP hD hS hA (by decide) (by decide +kernel) (by decide) (by decide) (by decide) dX2_init_66 (fun q_66 H hP hD hS => ?_)
  have hP : va_P D vwCl [(h, .inr (2, [.int 0, .int 1, .ref q_12, .ref q_20, .ref q_28, .ref q_36, .ref q_44, .int 0, .int 0, .ref q_52, .int 10, .null, .null, .long 0])), (q_12, .inl (cI, 8, .inl (fun _ => (0 : Int32)))), (q_20, .inl (cI, 8, .inl (fun _ => (0 : Int32)))), (q_28, .inl (cI, 8, .inl (fun _ => (0 : Int32)))), (q_36, .inl (cJ, 8, .inr (.inl (fun _ => (0 : Int64))))), (q_44, .inl (cI, 8, .inl (fun _ => (0 : Int32)))), (q_52, .inl (cI, 6, .inl (fun _ => (0 : Int32)))), (q_66, .inl (cI, 8, .inl (fun _ => (0 : Int32))))] H := hP
  have hD : va_D A [(h, .inr (2, [.int 0, .int 1, .ref q_12, .ref q_20, .ref q_28, .ref q_36, .ref q_44, .int 0, .int 0, .ref q_52, .int 10, .null, .null, .long 0])), (q_12, .inl (cI, 8, .inl (fun _ => (0 : Int32)))), (q_20, .inl (cI, 8, .inl (fun _ => (0 : Int32)))), (q_28, .inl (cI, 8, .inl (fun _ => (0 : Int32)))), (q_36, .inl (cJ, 8, .inr (.inl (fun _ => (0 : Int64))))), (q_44, .inl (cI, 8, .inl (fun _ => (0 : Int32)))), (q_52, .inl (cI, 6, .inl (fun _ => (0 : Int32)))), (q_66, .inl (cI, 8, .inl (fun _ => (0 : Int32))))] := hD
  refine va_putF (D := D) (ci := 2) (v := .ref q_66) (ty := .array .int) (C := RX2) (T := TX2) (N := 14) hx hb hts hiX2 tyX2 tyX2_ok nmX2 hown hK hP hD hS 0 rfl rfl 11 (by decide) hw36 (fun _ h9 => h9) rfl hin rfl (by decide +kernel) rfl rfl (Nat.le_of_ble_eq_true rfl) dX2_init_68 (fun H locs hP hD hS => ?_)
  have hP : va_P D vwCl [(h, .inr (2, [.int 0, .int 1, .ref q_12, .ref q_20, .ref q_28, .ref q_36, .ref q_44, .int 0, .int 0, .ref q_52, .int 10, .ref q_66, .null, .long 0])), (q_12, .inl (cI, 8, .inl (fun _ => (0 : Int32)))), (q_20, .inl (cI, 8, .inl (fun _ => (0 : Int32)))), (q_28, .inl (cI, 8, .inl (fun _ => (0 : Int32)))), (q_36, .inl (cJ, 8, .inr (.inl (fun _ => (0 : Int64))))), (q_44, .inl (cI, 8, .inl (fun _ => (0 : Int32)))), (q_52, .inl (cI, 6, .inl (fun _ => (0 : Int32)))), (q_66, .inl (cI, 8, .inl (fun _ => (0 : Int32))))] H := hP
  have hD : va_D A [(h, .inr (2, [.int 0, .int 1, .ref q_12, .ref q_20, .ref q_28, .ref q_36, .ref q_44, .int 0, .int 0, .ref q_52, .int 10, .ref q_66, .null, .long 0])), (q_12, .inl (cI, 8, .inl (fun _ => (0 : Int32)))), (q_20, .inl (cI, 8, .inl (fun _ => (0 : Int32)))), (q_28, .inl (cI, 8, .inl (fun _ => (0 : Int32)))), (q_36, .inl (cJ, 8, .inr (.inl (fun _ => (0 : Int64))))), (q_44, .inl (cI, 8, .inl (fun _ => (0 : Int32)))), (q_52, .inl (cI, 6, .inl (fun _ => (0 : Int32)))), (q_66, .inl (cI, 8, .inl (fun _ => (0 : Int32))))] := hD
  refine lv_aload_n hx hb dX2_init_71 rfl (lv_at hl 0 rfl) ?_
  refine lv_bipush (v := 8) hx hb dX2_init_72 (by decide) ?_
  refine xa_newaI (N := 8) hx hb (hts (.arrayClass .int) (by decide +kernel)) hK 0 rfl hP hD hS hA (by decide) (by decide +kernel) (by decide) (by decide) (by decide) dX2_init_74 (fun q_74 H hP hD hS => ?_)
  have hP : va_P D vwCl [(h, .inr (2, [.int 0, .int 1, .ref q_12, .ref q_20, .ref q_28, .ref q_36, .ref q_44, .int 0, .int 0, .ref q_52, .int 10, .ref q_66, .null, .long 0])), (q_12, .inl (cI, 8, .inl (fun _ => (0 : Int32)))), (q_20, .inl (cI, 8, .inl (fun _ => (0 : Int32)))), (q_28, .inl (cI, 8, .inl (fun _ => (0 : Int32)))), (q_36, .inl (cJ, 8, .inr (.inl (fun _ => (0 : Int64))))), (q_44, .inl (cI, 8, .inl (fun _ => (0 : Int32)))), (q_52, .inl (cI, 6, .inl (fun _ => (0 : Int32)))), (q_66, .inl (cI, 8, .inl (fun _ => (0 : Int32)))), (q_74, .inl (cI, 8, .inl (fun _ => (0 : Int32))))] H := hP
  have hD : va_D A [(h, .inr (2, [.int 0, .int 1, .ref q_12, .ref q_20, .ref q_28, .ref q_36, .ref q_44, .int 0, .int 0, .ref q_52, .int 10, .ref q_66, .null, .long 0])), (q_12, .inl (cI, 8, .inl (fun _ => (0 : Int32)))), (q_20, .inl (cI, 8, .inl (fun _ => (0 : Int32)))), (q_28, .inl (cI, 8, .inl (fun _ => (0 : Int32)))), (q_36, .inl (cJ, 8, .inr (.inl (fun _ => (0 : Int64))))), (q_44, .inl (cI, 8, .inl (fun _ => (0 : Int32)))), (q_52, .inl (cI, 6, .inl (fun _ => (0 : Int32)))), (q_66, .inl (cI, 8, .inl (fun _ => (0 : Int32)))), (q_74, .inl (cI, 8, .inl (fun _ => (0 : Int32))))] := hD
  refine va_putF (D := D) (ci := 2) (v := .ref q_74) (ty := .array .int) (C := RX2) (T := TX2) (N := 14) hx hb hts hiX2 tyX2 tyX2_ok nmX2 hown hK hP hD hS 0 rfl rfl 12 (by decide) hw39 (fun _ h9 => h9) rfl hin rfl (by decide +kernel) rfl rfl (Nat.le_of_ble_eq_true rfl) dX2_init_76 (fun H locs hP hD hS => ?_)
  have hP : va_P D vwCl [(h, .inr (2, [.int 0, .int 1, .ref q_12, .ref q_20, .ref q_28, .ref q_36, .ref q_44, .int 0, .int 0, .ref q_52, .int 10, .ref q_66, .ref q_74, .long 0])), (q_12, .inl (cI, 8, .inl (fun _ => (0 : Int32)))), (q_20, .inl (cI, 8, .inl (fun _ => (0 : Int32)))), (q_28, .inl (cI, 8, .inl (fun _ => (0 : Int32)))), (q_36, .inl (cJ, 8, .inr (.inl (fun _ => (0 : Int64))))), (q_44, .inl (cI, 8, .inl (fun _ => (0 : Int32)))), (q_52, .inl (cI, 6, .inl (fun _ => (0 : Int32)))), (q_66, .inl (cI, 8, .inl (fun _ => (0 : Int32)))), (q_74, .inl (cI, 8, .inl (fun _ => (0 : Int32))))] H := hP
  have hD : va_D A [(h, .inr (2, [.int 0, .int 1, .ref q_12, .ref q_20, .ref q_28, .ref q_36, .ref q_44, .int 0, .int 0, .ref q_52, .int 10, .ref q_66, .ref q_74, .long 0])), (q_12, .inl (cI, 8, .inl (fun _ => (0 : Int32)))), (q_20, .inl (cI, 8, .inl (fun _ => (0 : Int32)))), (q_28, .inl (cI, 8, .inl (fun _ => (0 : Int32)))), (q_36, .inl (cJ, 8, .inr (.inl (fun _ => (0 : Int64))))), (q_44, .inl (cI, 8, .inl (fun _ => (0 : Int32)))), (q_52, .inl (cI, 6, .inl (fun _ => (0 : Int32)))), (q_66, .inl (cI, 8, .inl (fun _ => (0 : Int32)))), (q_74, .inl (cI, 8, .inl (fun _ => (0 : Int32))))] := hD
  refine lv_aload_n hx hb dX2_init_79 rfl (lv_at hl 0 rfl) ?_
  refine va_get (D := D) (ci := 2) (v := .ref q_12) (C := RX2) (T := TX2) (N := 14) hx hb hts hiX2 hown hK hP 0 rfl rfl 2 (by decide) hw13 (fun _ h9 => h9) rfl dX2_init_80 ?_
  refine lv_iconst (v := 0) hx hb dX2_init_83 (by decide) ?_
  refine topI (y := nI 0) rfl ?_
  refine lv_iconst (v := (-1)) hx hb dX2_init_84 (by decide) ?_
  refine xa_iast hx hb hK hP hD hS 1 0 rfl rfl (by omega) (by decide) dX2_init_85 (fun H locs hP hD hS => ?_)
  have hP : va_P D vwCl [(h, .inr (2, [.int 0, .int 1, .ref q_12, .ref q_20, .ref q_28, .ref q_36, .ref q_44, .int 0, .int 0, .ref q_52, .int 10, .ref q_66, .ref q_74, .long 0])), (q_12, .inl (cI, 8, .inl (upd (fun _ => (0 : Int32)) 0 (-1)))), (q_20, .inl (cI, 8, .inl (fun _ => (0 : Int32)))), (q_28, .inl (cI, 8, .inl (fun _ => (0 : Int32)))), (q_36, .inl (cJ, 8, .inr (.inl (fun _ => (0 : Int64))))), (q_44, .inl (cI, 8, .inl (fun _ => (0 : Int32)))), (q_52, .inl (cI, 6, .inl (fun _ => (0 : Int32)))), (q_66, .inl (cI, 8, .inl (fun _ => (0 : Int32)))), (q_74, .inl (cI, 8, .inl (fun _ => (0 : Int32))))] H := hP
  have hD : va_D A [(h, .inr (2, [.int 0, .int 1, .ref q_12, .ref q_20, .ref q_28, .ref q_36, .ref q_44, .int 0, .int 0, .ref q_52, .int 10, .ref q_66, .ref q_74, .long 0])), (q_12, .inl (cI, 8, .inl (upd (fun _ => (0 : Int32)) 0 (-1)))), (q_20, .inl (cI, 8, .inl (fun _ => (0 : Int32)))), (q_28, .inl (cI, 8, .inl (fun _ => (0 : Int32)))), (q_36, .inl (cJ, 8, .inr (.inl (fun _ => (0 : Int64))))), (q_44, .inl (cI, 8, .inl (fun _ => (0 : Int32)))), (q_52, .inl (cI, 6, .inl (fun _ => (0 : Int32)))), (q_66, .inl (cI, 8, .inl (fun _ => (0 : Int32)))), (q_74, .inl (cI, 8, .inl (fun _ => (0 : Int32))))] := hD
  refine lv_aload_n hx hb dX2_init_86 rfl (lv_at hl 0 rfl) ?_
  refine va_get (D := D) (ci := 2) (v := .ref q_36) (C := RX2) (T := TX2) (N := 14) hx hb hts hiX2 hown hK hP 0 rfl rfl 5 (by decide) hw23 (fun _ h9 => h9) rfl dX2_init_87 ?_
  refine lv_iconst (v := 0) hx hb dX2_init_90 (by decide) ?_
  refine topI (y := nI 0) rfl ?_
  refine lv_lconst (v := 1) hx hb dX2_init_91 (by decide) ?_
  refine xa_last hx hb hK hP hD hS 4 1 rfl rfl (by omega) (by decide) dX2_init_92 (fun H locs hP hD hS => ?_)
  have hP : va_P D vwCl [(h, .inr (2, [.int 0, .int 1, .ref q_12, .ref q_20, .ref q_28, .ref q_36, .ref q_44, .int 0, .int 0, .ref q_52, .int 10, .ref q_66, .ref q_74, .long 0])), (q_12, .inl (cI, 8, .inl (upd (fun _ => (0 : Int32)) 0 (-1)))), (q_20, .inl (cI, 8, .inl (fun _ => (0 : Int32)))), (q_28, .inl (cI, 8, .inl (fun _ => (0 : Int32)))), (q_36, .inl (cJ, 8, .inr (.inl (vp_updL (fun _ => (0 : Int64)) 0 1)))), (q_44, .inl (cI, 8, .inl (fun _ => (0 : Int32)))), (q_52, .inl (cI, 6, .inl (fun _ => (0 : Int32)))), (q_66, .inl (cI, 8, .inl (fun _ => (0 : Int32)))), (q_74, .inl (cI, 8, .inl (fun _ => (0 : Int32))))] H := hP
  have hD : va_D A [(h, .inr (2, [.int 0, .int 1, .ref q_12, .ref q_20, .ref q_28, .ref q_36, .ref q_44, .int 0, .int 0, .ref q_52, .int 10, .ref q_66, .ref q_74, .long 0])), (q_12, .inl (cI, 8, .inl (upd (fun _ => (0 : Int32)) 0 (-1)))), (q_20, .inl (cI, 8, .inl (fun _ => (0 : Int32)))), (q_28, .inl (cI, 8, .inl (fun _ => (0 : Int32)))), (q_36, .inl (cJ, 8, .inr (.inl (vp_updL (fun _ => (0 : Int64)) 0 1)))), (q_44, .inl (cI, 8, .inl (fun _ => (0 : Int32)))), (q_52, .inl (cI, 6, .inl (fun _ => (0 : Int32)))), (q_66, .inl (cI, 8, .inl (fun _ => (0 : Int32)))), (q_74, .inl (cI, 8, .inl (fun _ => (0 : Int32))))] := hD
  have hP := hP.sub (ws' := [(h, .inr (2, [.int 0, .int 1, .ref q_12, .ref q_20, .ref q_28, .ref q_36, .ref q_44, .int 0, .int 0, .ref q_52, .int 10, .ref q_66, .ref q_74, .long 0])), (q_12, .inl (cI, 8, .inl (upd (fun _ => (0 : Int32)) 0 (-1)))), (q_20, .inl (cI, 8, .inl (fun _ => (0 : Int32)))), (q_28, .inl (cI, 8, .inl (fun _ => (0 : Int32)))), (q_36, .inl (cJ, 8, .inr (.inl (vp_updL (fun _ => (0 : Int64)) 0 1)))), (q_44, .inl (cI, 8, .inl (fun _ => (0 : Int32)))), (q_52, .inl (cI, 6, .inl (fun _ => (0 : Int32)))), (q_66, .inl (cI, 8, .inl (fun _ => (0 : Int32)))), (q_74, .inl (cI, 8, .inl (fun _ => (0 : Int32))))]) [0, 1, 2, 3, 4, 5, 6, 7, 8] rfl
  have hD := hD.sub (ws' := [(h, .inr (2, [.int 0, .int 1, .ref q_12, .ref q_20, .ref q_28, .ref q_36, .ref q_44, .int 0, .int 0, .ref q_52, .int 10, .ref q_66, .ref q_74, .long 0])), (q_12, .inl (cI, 8, .inl (upd (fun _ => (0 : Int32)) 0 (-1)))), (q_20, .inl (cI, 8, .inl (fun _ => (0 : Int32)))), (q_28, .inl (cI, 8, .inl (fun _ => (0 : Int32)))), (q_36, .inl (cJ, 8, .inr (.inl (vp_updL (fun _ => (0 : Int64)) 0 1)))), (q_44, .inl (cI, 8, .inl (fun _ => (0 : Int32)))), (q_52, .inl (cI, 6, .inl (fun _ => (0 : Int32)))), (q_66, .inl (cI, 8, .inl (fun _ => (0 : Int32)))), (q_74, .inl (cI, 8, .inl (fun _ => (0 : Int32))))]) [0, 1, 2, 3, 4, 5, 6, 7, 8] (by decide) rfl
  have hP : va_P D vwCl [(h, .inr (2, [.int 0, .int 1, .ref q_12, .ref q_20, .ref q_28, .ref q_36, .ref q_44, .int 0, .int 0, .ref q_52, .int 10, .ref q_66, .ref q_74, .long 0])), (q_12, .inl (cI, 8, .inl (upd (fun _ => (0 : Int32)) 0 (-1)))), (q_20, .inl (cI, 8, .inl (fun _ => (0 : Int32)))), (q_28, .inl (cI, 8, .inl (fun _ => (0 : Int32)))), (q_36, .inl (cJ, 8, .inr (.inl (vp_updL (fun _ => (0 : Int64)) 0 1)))), (q_44, .inl (cI, 8, .inl (fun _ => (0 : Int32)))), (q_52, .inl (cI, 6, .inl (fun _ => (0 : Int32)))), (q_66, .inl (cI, 8, .inl (nwF 0 0 (fun _ => (0 : Int32))))), (q_74, .inl (cI, 8, .inl (fun _ => (0 : Int32))))] H := hP.toI 7 rfl (fun j _ => by match j with | 0 => rfl | 1 => rfl | _ + 2 => rfl)
  have hD : va_D A [(h, .inr (2, [.int 0, .int 1, .ref q_12, .ref q_20, .ref q_28, .ref q_36, .ref q_44, .int 0, .int 0, .ref q_52, .int 10, .ref q_66, .ref q_74, .long 0])), (q_12, .inl (cI, 8, .inl (upd (fun _ => (0 : Int32)) 0 (-1)))), (q_20, .inl (cI, 8, .inl (fun _ => (0 : Int32)))), (q_28, .inl (cI, 8, .inl (fun _ => (0 : Int32)))), (q_36, .inl (cJ, 8, .inr (.inl (vp_updL (fun _ => (0 : Int64)) 0 1)))), (q_44, .inl (cI, 8, .inl (fun _ => (0 : Int32)))), (q_52, .inl (cI, 6, .inl (fun _ => (0 : Int32)))), (q_66, .inl (cI, 8, .inl (nwF 0 0 (fun _ => (0 : Int32))))), (q_74, .inl (cI, 8, .inl (fun _ => (0 : Int32))))] := hD.set (p := 7) rfl
  exact W.vret hx hb hr (fun t9 ht hW => ⟨⟨[(h, .inr (2, [.int 0, .int 1, .ref q_12, .ref q_20, .ref q_28, .ref q_36, .ref q_44, .int 0, .int 0, .ref q_52, .int 10, .ref q_66, .ref q_74, .long 0])), (q_12, .inl (cI, 8, .inl (upd (fun _ => (0 : Int32)) 0 (-1)))), (q_20, .inl (cI, 8, .inl (fun _ => (0 : Int32)))), (q_28, .inl (cI, 8, .inl (fun _ => (0 : Int32)))), (q_36, .inl (cJ, 8, .inr (.inl (vp_updL (fun _ => (0 : Int64)) 0 1)))), (q_44, .inl (cI, 8, .inl (fun _ => (0 : Int32)))), (q_52, .inl (cI, 6, .inl (fun _ => (0 : Int32)))), (q_66, .inl (cI, 8, .inl (nwF 0 0 (fun _ => (0 : Int32))))), (q_74, .inl (cI, 8, .inl (fun _ => (0 : Int32))))], rfl, ⟨(fun i => match i with | 0 => h | 1 => q_12 | 2 => q_20 | 3 => q_28 | 4 => q_36 | 5 => q_44 | 6 => q_52 | 7 => q_66 | _ => q_74), rfl, rfl⟩, by rw [ht]; exact hP, hD⟩, hS.F ht⟩) hS.2.2 dX2_init_93
