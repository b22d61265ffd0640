set_option maxHeartbeats 4000000 in
set_option maxRecDepth 100000 in
theorem c_X2_order (l : Launch) (D : va_G) (cI cJ cR : ClassId) (sz : Nat) (sm ma sa : Nat) (ra rs : Nat → Nat) (k st : Nat) (fi : Int32) (fB mM mP : Nat → Int32) (c : Nat) (t : Int32) (y : Nat) (fW fD : Nat → Int32) (fL : Nat → Int64) (La pp uu bb : Nat → Nat) (hL : LenOk k fB mM mP fL La pp uu bb) (hk8 : k ≤ 8) (hk1 : 1 ≤ k) : Met l yX2_order wsX2_order ({ frames := 96, cells := 140, slots := 300, locals := 2338 }) (cPw D ([(sm, .inr (2, [.int (nI y), .int fi, .int (nI st), .int t, .ref ma, .ref sa])), (ma, .inl (cR, k, .inr (.inr (.inr (.inr (fr ra)))))), (sa, .inl (cR, c, .inr (.inr (.inr (.inr (fr rs))))))] ++ (RT cI ra rs fB mM mP fW fD k c)) sz (KM D cI cJ cR) [.ref sm]) (wrr D ([(sm, .inr (2, [.int (nI y), .int fi, .int (nI st), .int t, .ref ma, .ref sa])), (ma, .inl (cR, k, .inr (.inr (.inr (.inr (fr ra)))))), (sa, .inl (cR, c, .inr (.inr (.inr (.inr (fr rs))))))] ++ (RT cI ra rs fB mM mP fW fD k c)) sz (fun a ws' => ∃ o : Nat → Int32, o 0 = nI (lgN fL (k - 1)) ∧ ws' = ([(sm, .inr (2, [.int (nI y), .int fi, .int (nI st), .int t, .ref ma, .ref sa])), (ma, .inl (cR, k, .inr (.inr (.inr (.inr (fr ra)))))), (sa, .inl (cR, c, .inr (.inr (.inr (.inr (fr rs)))))), (a, .inl (cI, k, .inl o))] ++ (RT cI ra rs fB mM mP fW fD k c)))) 140 300 (va_A ([(sm, .inr (2, [.int (nI y), .int fi, .int (nI st), .int t, .ref ma, .ref sa])), (ma, .inl (cR, k, .inr (.inr (.inr (.inr (fr ra)))))), (sa, .inl (cR, c, .inr (.inr (.inr (.inr (fr rs))))))] ++ (RT cI ra rs fB mM mP fW fD k c)) sz) := by
  refine Met.ofW (cc := cX2_order) (maxL := 6) (ret := (some (.array .int))) (by decide +kernel) rfl ?_
  intro p e s m args below meth c9 s₁ B hml hv
  obtain ⟨rfl, hsz, hP, hD0, hC⟩ := hv
  have hx := B.exec
  have hb := B.bytes
  have hr := B.returns
  have hts := atoms_spec (ws := wsX2_order) B.pre
  have hown : s.vm.findClass RX2 = some m.cls := findClass_of_methodNamed B.named
  have hlocks := B.notSynchronized
  have hK : va_K D vwCl [(cI, .int), (cJ, .long), (cR, .array .int)] s := hC
  subst hsz
  unfold wrr wB
  have hD := hD0.self (sz := s.heap.size)
  generalize hAe : va_A ([(sm, .inr (2, [.int (nI y), .int fi, .int (nI st), .int t, .ref ma, .ref sa])), (ma, .inl (cR, k, .inr (.inr (.inr (.inr (fr ra)))))), (sa, .inl (cR, c, .inr (.inr (.inr (.inr (fr rs))))))] ++ (RT cI ra rs fB mM mP fW fD k c)) s.heap.size = A at hD ⊢
  have hA : ∀ q : Nat, s.heap.size ≤ q → A q := fun q h => by rw [← hAe]; exact Or.inr h
  have hS : va_S A s.heap s.heap [] := va_S.rf
  have hl := lv_entry ([.ref sm]) (n := 6) (Nat.le_of_ble_eq_true rfl)
  rw [lg_entry_eq]
  generalize (lg_sl ([.ref sm]) ++ List.replicate (6 - (lg_sl ([.ref sm])).length) Slot.unset).toArray = ls at hl ⊢
  have hl : lv_has ls 6 [(0, .ref sm)] := hl
  have hiX2 : ∀ w ∈ u_ws RX2 TX2 6, w ∈ wsX2_order := by decide +kernel
  have hw15 : (Cond.fieldLink RX2 15 "OldMeasuresLaw$Sim" "measures" "[[I").before ([.ref sm] : List Value).toArray s = true := hts _ (by decide +kernel)
  refine lv_aload_n hx hb dX2_order_0 rfl (lv_at hl 0 rfl) ?_
  refine va_get (D := D) (ci := 2) (v := .ref ma) (C := RX2) (T := TX2) (N := 6) hx hb hts hiX2 hown hK hP 0 rfl rfl 4 (by decide) hw15 (fun _ h9 => h9) rfl dX2_order_1 ?_
  refine va_alen (v := (nI k)) hx hb hK hP 1 2 rfl rfl rfl dX2_order_4 ?_
  refine lv_istore_n (lv' := [(1, .int (nI k)), (0, .ref sm)]) hx hb dX2_order_5 rfl hl (by decide) rfl (fun ls hl => ?_)
  refine lv_iload_n hx hb dX2_order_6 rfl (lv_at hl 0 rfl) ?_
  refine xa_newaI (N := k) hx hb (hts (.arrayClass .int) (by decide +kernel)) hK 0 rfl hP hD hS hA (nI_pos (by omega)) (nI_clamp (by omega)) (by omega) (by decide) (Nat.le_trans (Nat.add_le_add_left (show _ ≤ 8 by omega) _) (Nat.le_of_ble_eq_true rfl)) dX2_order_7 (fun q_7 H hP hD hS => ?_)
  refine W.widen (k := 1) (n := 8) (by decide) (by omega) ?_
  have hP := hP.swap
  have hD := hD.swap
  have hP : va_P D vwCl ([(sm, .inr (2, [.int (nI y), .int fi, .int (nI st), .int t, .ref ma, .ref sa])), (ma, .inl (cR, k, .inr (.inr (.inr (.inr (fr ra)))))), (sa, .inl (cR, c, .inr (.inr (.inr (.inr (fr rs)))))), (q_7, .inl (cI, k, .inl (fun _ => (0 : Int32))))] ++ (RT cI ra rs fB mM mP fW fD k c)) H := hP
  have hD : va_D A ([(sm, .inr (2, [.int (nI y), .int fi, .int (nI st), .int t, .ref ma, .ref sa])), (ma, .inl (cR, k, .inr (.inr (.inr (.inr (fr ra)))))), (sa, .inl (cR, c, .inr (.inr (.inr (.inr (fr rs)))))), (q_7, .inl (cI, k, .inl (fun _ => (0 : Int32))))] ++ (RT cI ra rs fB mM mP fW fD k c)) := hD
  refine lv_astore_n (lv' := [(2, .ref q_7), (1, .int (nI k)), (0, .ref sm)]) hx hb dX2_order_9 rfl hl (by decide) rfl (fun ls hl => ?_)
  refine lv_iconst (v := 0) hx hb dX2_order_10 (by decide) ?_
  refine lv_istore_n (lv' := [(3, .int 0), (2, .ref q_7), (1, .int (nI k)), (0, .ref sm)]) hx hb dX2_order_11 rfl hl (by decide) rfl (fun ls hl => ?_)
  refine loopA (cells := 1) (slots := 8) 16 32 (σ := (Nat → Int32)) (I := fun im xo H locs ls => lv_has ls 6 [(0, .ref sm), (1, .int (nI k)), (2, .ref q_7), (3, .int (nI im))] ∧ va_P D vwCl ([(sm, .inr (2, [.int (nI y), .int fi, .int (nI st), .int t, .ref ma, .ref sa])), (ma, .inl (cR, k, .inr (.inr (.inr (.inr (fr ra)))))), (sa, .inl (cR, c, .inr (.inr (.inr (.inr (fr rs)))))), (q_7, .inl (cI, k, .inl xo))] ++ (RT cI ra rs fB mM mP fW fD k c)) H ∧ va_D A ([(sm, .inr (2, [.int (nI y), .int fi, .int (nI st), .int t, .ref ma, .ref sa])), (ma, .inl (cR, k, .inr (.inr (.inr (.inr (fr ra)))))), (sa, .inl (cR, c, .inr (.inr (.inr (.inr (fr rs)))))), (q_7, .inl (cI, k, .inl xo))] ++ (RT cI ra rs fB mM mP fW fD k c)) ∧ va_S A s.heap H locs ∧ (Fst fL k im xo)) k ?_ (fun _ => (0 : Int32)) _ _ ls ⟨lv_sub hl [3, 2, 1, 0] rfl, hP, hD, hS, fun h9 => absurd h9 (Nat.not_lt_zero _)⟩
  intro im xo H locs ls him hI km
  obtain ⟨hl, hP, hD, hS, fo⟩ := hI
  refine lv_iload_n hx hb dX2_order_12 rfl (lv_at hl 3 rfl) ?_
  refine lv_iload_n hx hb dX2_order_13 rfl (lv_at hl 1 rfl) ?_
  refine lv_icmp_ge (tgt := 75) hx hb dX2_order_14 (by decide) (fun c_14 => ?_) (fun c_14 => ?_)
  · skip
    simp only [Int32.le_iff_toInt_le] at c_14
    rw [nI_toInt (n := im) (by omega)] at c_14
    rw [nI_toInt (n := k) (by omega)] at c_14
    have hF1 : xo 0 = nI (lgN fL (k - 1)) := fo (by have := lgN_le fL (k - 1); omega)
    refine lv_aload_n hx hb dX2_order_75 rfl (lv_at hl 2 rfl) ?_
    refine W.widen (k := 140) (n := 300) (by omega) (by omega) ?_
    exact W.aret hx hb hr (Or.inr ⟨_, rfl⟩) (Or.inr ⟨_, rfl⟩) (fun t9 ht hW => ⟨⟨([(sm, .inr (2, [.int (nI y), .int fi, .int (nI st), .int t, .ref ma, .ref sa])), (ma, .inl (cR, k, .inr (.inr (.inr (.inr (fr ra)))))), (sa, .inl (cR, c, .inr (.inr (.inr (.inr (fr rs)))))), (q_7, .inl (cI, k, .inl xo))] ++ (RT cI ra rs fB mM mP fW fD k c)), q_7, rfl, trivial, ⟨_, hF1, rfl⟩, by rw [ht]; exact hP, hD⟩, hS.F ht⟩) hS.2.2 dX2_order_76
  · skip
    simp only [Int32.le_iff_toInt_le] at c_14
    rw [nI_toInt (n := im) (by omega)] at c_14
    rw [nI_toInt (n := k) (by omega)] at c_14
    refine lv_iconst (v := 0) hx hb dX2_order_17 (by decide) ?_
    refine lv_istore (lv' := [(4, .int 0), (0, .ref sm), (1, .int (nI k)), (2, .ref q_7), (3, .int (nI im))]) hx hb dX2_order_18 hl (by decide) rfl (fun ls hl => ?_)
    refine lv_iconst (v := 0) hx hb dX2_order_20 (by decide) ?_
    refine lv_istore (lv' := [(5, .int 0), (4, .int 0), (0, .ref sm), (1, .int (nI k)), (2, .ref q_7), (3, .int (nI im))]) hx hb dX2_order_21 hl (by decide) rfl (fun ls hl => ?_)
    have him2 : im < k := by omega
    refine loopA (cells := 1 + im * 16) (slots := 8 + im * 32) 2 4 (σ := Nat) (I := fun i x H locs ls => lv_has ls 6 [(0, .ref sm), (1, .int (nI k)), (2, .ref q_7), (3, .int (nI im)), (4, .int (nI x)), (5, .int (nI i))] ∧ va_P D vwCl ([(sm, .inr (2, [.int (nI y), .int fi, .int (nI st), .int t, .ref ma, .ref sa])), (ma, .inl (cR, k, .inr (.inr (.inr (.inr (fr ra)))))), (sa, .inl (cR, c, .inr (.inr (.inr (.inr (fr rs)))))), (q_7, .inl (cI, k, .inl xo))] ++ (RT cI ra rs fB mM mP fW fD k c)) H ∧ va_D A ([(sm, .inr (2, [.int (nI y), .int fi, .int (nI st), .int t, .ref ma, .ref sa])), (ma, .inl (cR, k, .inr (.inr (.inr (.inr (fr ra)))))), (sa, .inl (cR, c, .inr (.inr (.inr (.inr (fr rs)))))), (q_7, .inl (cI, k, .inl xo))] ++ (RT cI ra rs fB mM mP fW fD k c)) ∧ va_S A s.heap H locs ∧ (AhN fL im i x)) k ?_ 0 _ _ ls ⟨lv_sub hl [2, 3, 4, 5, 1, 0] rfl, hP, hD, hS, AhN_0 _ _⟩
    intro i x H locs ls hi hI kk
    obtain ⟨hl, hP, hD, hS, f1⟩ := hI
    refine lv_iload hx hb dX2_order_23 (lv_at hl 5 rfl) ?_
    refine lv_iload_n hx hb dX2_order_25 rfl (lv_at hl 1 rfl) ?_
    refine lv_icmp_ge (tgt := 64) hx hb dX2_order_26 (by decide) (fun c_26 => ?_) (fun c_26 => ?_)
    · skip
      simp only [Int32.le_iff_toInt_le] at c_26
      rw [nI_toInt (n := i) (by omega)] at c_26
      rw [nI_toInt (n := k) (by omega)] at c_26
      have e9 : i = k := by omega
      have hfi : AhN fL im k x := by rw [← e9]; exact f1
      have hfb : x < k := hfi.2.1 him2
      refine lv_aload_n hx hb dX2_order_64 rfl (lv_at hl 2 rfl) ?_
      refine lv_iload hx hb dX2_order_65 (lv_at hl 4 rfl) ?_
      refine lv_iload_n hx hb dX2_order_67 rfl (lv_at hl 3 rfl) ?_
      refine xa_iast hx hb hK hP hD hS 3 0 rfl rfl hfb (by omega) dX2_order_68 (fun H locs hP hD hS => ?_)
      have hP : va_P D vwCl ([(sm, .inr (2, [.int (nI y), .int fi, .int (nI st), .int t, .ref ma, .ref sa])), (ma, .inl (cR, k, .inr (.inr (.inr (.inr (fr ra)))))), (sa, .inl (cR, c, .inr (.inr (.inr (.inr (fr rs)))))), (q_7, .inl (cI, k, .inl (upd xo x (nI im))))] ++ (RT cI ra rs fB mM mP fW fD k c)) H := hP
      have hD : va_D A ([(sm, .inr (2, [.int (nI y), .int fi, .int (nI st), .int t, .ref ma, .ref sa])), (ma, .inl (cR, k, .inr (.inr (.inr (.inr (fr ra)))))), (sa, .inl (cR, c, .inr (.inr (.inr (.inr (fr rs)))))), (q_7, .inl (cI, k, .inl (upd xo x (nI im))))] ++ (RT cI ra rs fB mM mP fW fD k c)) := hD
      refine lv_iinc (v := (nI (im + 1))) (lv' := [(3, .int (nI (im + 1))), (0, .ref sm), (1, .int (nI k)), (2, .ref q_7), (4, .int (nI x)), (5, .int (nI i))]) hx hb dX2_order_69 hl (k := 3) rfl (nI_inc im) (by decide) rfl (fun ls hl => ?_)
      refine lv_goto (tgt := 12) hx hb dX2_order_72 (by decide) ?_
      refine W.widen (k := 1 + (im + 1) * 16) (n := 8 + (im + 1) * 32) (by omega) (by omega) ?_
      exact km (upd xo x (nI im)) _ _ ls (by omega) ⟨lv_sub hl [1, 2, 3, 0] rfl, hP, hD, hS, (Fst_s hk1 (by omega) fo hfi)⟩
    · skip
      simp only [Int32.le_iff_toInt_le] at c_26
      rw [nI_toInt (n := i) (by omega)] at c_26
      rw [nI_toInt (n := k) (by omega)] at c_26
      have f1b := f1.1
      refine lv_aload_n hx hb dX2_order_29 rfl (lv_at hl 0 rfl) ?_
      refine lv_iload hx hb dX2_order_30 (lv_at hl 5 rfl) ?_
      refine lv_iload_n hx hb dX2_order_32 rfl (lv_at hl 3 rfl) ?_
      have hFc := va_freeP (cx := [(sm, .inr (2, [.int (nI y), .int fi, .int (nI st), .int t, .ref ma, .ref sa])), (ma, .inl (cR, k, .inr (.inr (.inr (.inr (fr ra)))))), (sa, .inl (cR, c, .inr (.inr (.inr (.inr (fr rs))))))]) (pl := (RT cI ra rs fB mM mP fW fD k c)) hD hS hA [0, 1, 2] rfl
      refine va_calli (va_runV (As := [.int (nI i), .int (nI im)]) (rest := []) ⟨hx, hb, hml, hown, hts⟩ (c_X2_isLonger l D cI cJ cR H.size sm ma sa ra rs k st fi fB mM mP c t y fW fD fL La pp uu bb hL hk8 i im (by omega) (by omega)) (cwV 2 hts gX2_order_X2_isLonger rfl rfl rfl (by decide +kernel) ⟨Nat.le_of_ble_eq_true rfl, Nat.le_of_ble_eq_true rfl⟩) (preV_wr KM_ok (va_P.part (cx := [(sm, .inr (2, [.int (nI y), .int fi, .int (nI st), .int t, .ref ma, .ref sa])), (ma, .inl (cR, k, .inr (.inr (.inr (.inr (fr ra)))))), (sa, .inl (cR, c, .inr (.inr (.inr (.inr (fr rs))))))]) (pl := (RT cI ra rs fB mM mP fW fD k c)) hP [0, 1, 2] rfl) (va_D.part (cx := [(sm, .inr (2, [.int (nI y), .int fi, .int (nI st), .int t, .ref ma, .ref sa])), (ma, .inl (cR, k, .inr (.inr (.inr (.inr (fr ra)))))), (sa, .inl (cR, c, .inr (.inr (.inr (.inr (fr rs))))))]) (pl := (RT cI ra rs fB mM mP fW fD k c)) hD [0, 1, 2] (by decide) rfl) hK (va_recv hK hP (ci := 2) (q0 := 0) rfl rfl)) rfl rfl hl.1 rfl (lv_room (Nat.le_of_ble_eq_true rfl)) dX2_order_33 ⟨show _ ≤ 140 by omega, show _ ≤ 300 by omega⟩) hS (fun q _ h => hFc q h) hFc (fun r_33 u t9 H1 locs ht hvm hw9 hB hz1 hk1 hS => ?_)
      obtain ⟨hr9, rfl⟩ := hw9
      have hr9 := hr9.symm
      subst hr9
      obtain ⟨hP1, hD1⟩ := hB
      rw [ht] at hP1
      obtain ⟨hP, hD⟩ := va_joinP (X := [(sm, .inr (2, [.int (nI y), .int fi, .int (nI st), .int t, .ref ma, .ref sa])), (ma, .inl (cR, k, .inr (.inr (.inr (.inr (fr ra)))))), (sa, .inl (cR, c, .inr (.inr (.inr (.inr (fr rs)))))), (q_7, .inl (cI, k, .inl xo))]) (cx := [(sm, .inr (2, [.int (nI y), .int fi, .int (nI st), .int t, .ref ma, .ref sa])), (ma, .inl (cR, k, .inr (.inr (.inr (.inr (fr ra)))))), (sa, .inl (cR, c, .inr (.inr (.inr (.inr (fr rs))))))]) (wr := [(q_7, .inl (cI, k, .inl xo))]) (rx := [(sm, .inr (2, [.int (nI y), .int fi, .int (nI st), .int t, .ref ma, .ref sa])), (ma, .inl (cR, k, .inr (.inr (.inr (.inr (fr ra)))))), (sa, .inl (cR, c, .inr (.inr (.inr (.inr (fr rs))))))]) (pl := (RT cI ra rs fB mM mP fW fD k c)) (pl1 := (RT cI ra rs fB mM mP fW fD k c)) hP hD [0, 1, 2] [3] rfl rfl (by decide) (by decide) hk1 hFc hP1 hD1
      clear hz1 hk1 ht hvm hFc
      generalize H1 = H at hP hS ⊢
      have hP : va_P D vwCl ([(q_7, .inl (cI, k, .inl xo)), (sm, .inr (2, [.int (nI y), .int fi, .int (nI st), .int t, .ref ma, .ref sa])), (ma, .inl (cR, k, .inr (.inr (.inr (.inr (fr ra)))))), (sa, .inl (cR, c, .inr (.inr (.inr (.inr (fr rs))))))] ++ (RT cI ra rs fB mM mP fW fD k c)) H := hP
      have hD : va_D A ([(q_7, .inl (cI, k, .inl xo)), (sm, .inr (2, [.int (nI y), .int fi, .int (nI st), .int t, .ref ma, .ref sa])), (ma, .inl (cR, k, .inr (.inr (.inr (.inr (fr ra)))))), (sa, .inl (cR, c, .inr (.inr (.inr (.inr (fr rs))))))] ++ (RT cI ra rs fB mM mP fW fD k c)) := hD
      refine lv_if_ne (tgt := 55) hx hb dX2_order_36 (by decide) (fun c_36 => ?_) (fun c_36 => ?_)
      · skip
        have c_36 := bz_1 c_36
        refine lv_iinc (v := (nI (x + 1))) (lv' := [(4, .int (nI (x + 1))), (0, .ref sm), (1, .int (nI k)), (2, .ref q_7), (3, .int (nI im)), (5, .int (nI i))]) hx hb dX2_order_55 hl (k := 4) rfl (nI_inc x) (by decide) rfl (fun ls hl => ?_)
        refine lv_iinc (v := (nI (i + 1))) (lv' := [(5, .int (nI (i + 1))), (4, .int (nI (x + 1))), (0, .ref sm), (1, .int (nI k)), (2, .ref q_7), (3, .int (nI im))]) hx hb dX2_order_58 hl (k := 5) rfl (nI_inc i) (by decide) rfl (fun ls hl => ?_)
        refine lv_goto (tgt := 23) hx hb dX2_order_61 (by decide) ?_
        have hP := va_P.part (cx := [(sm, .inr (2, [.int (nI y), .int fi, .int (nI st), .int t, .ref ma, .ref sa])), (ma, .inl (cR, k, .inr (.inr (.inr (.inr (fr ra)))))), (sa, .inl (cR, c, .inr (.inr (.inr (.inr (fr rs)))))), (q_7, .inl (cI, k, .inl xo))]) (pl := (RT cI ra rs fB mM mP fW fD k c)) hP [1, 2, 3, 0] rfl
        have hD := va_D.part (cx := [(sm, .inr (2, [.int (nI y), .int fi, .int (nI st), .int t, .ref ma, .ref sa])), (ma, .inl (cR, k, .inr (.inr (.inr (.inr (fr ra)))))), (sa, .inl (cR, c, .inr (.inr (.inr (.inr (fr rs)))))), (q_7, .inl (cI, k, .inl xo))]) (pl := (RT cI ra rs fB mM mP fW fD k c)) hD [1, 2, 3, 0] (by decide) rfl
        refine W.widen (k := 1 + im * 16 + (i + 1) * 2) (n := 8 + im * 32 + (i + 1) * 4) (by omega) (by omega) ?_
        exact kk (x + 1) _ _ ls (by omega) ⟨lv_sub hl [2, 3, 4, 5, 1, 0] rfl, hP, hD, hS, (AhN_y f1 (Or.inl c_36))⟩
      · skip
        have c_36 := bz_0 c_36
        refine lv_iload hx hb dX2_order_39 (lv_at hl 5 rfl) ?_
        refine lv_iload_n hx hb dX2_order_41 rfl (lv_at hl 3 rfl) ?_
        refine lv_icmp_ge (tgt := 58) hx hb dX2_order_42 (by decide) (fun c_42 => ?_) (fun c_42 => ?_)
        · skip
          simp only [Int32.le_iff_toInt_le] at c_42
          rw [nI_toInt (n := i) (by omega)] at c_42
          rw [nI_toInt (n := im) (by omega)] at c_42
          refine lv_iinc (v := (nI (i + 1))) (lv' := [(5, .int (nI (i + 1))), (0, .ref sm), (1, .int (nI k)), (2, .ref q_7), (3, .int (nI im)), (4, .int (nI x))]) hx hb dX2_order_58 hl (k := 5) rfl (nI_inc i) (by decide) rfl (fun ls hl => ?_)
          refine lv_goto (tgt := 23) hx hb dX2_order_61 (by decide) ?_
          have hP := va_P.part (cx := [(sm, .inr (2, [.int (nI y), .int fi, .int (nI st), .int t, .ref ma, .ref sa])), (ma, .inl (cR, k, .inr (.inr (.inr (.inr (fr ra)))))), (sa, .inl (cR, c, .inr (.inr (.inr (.inr (fr rs)))))), (q_7, .inl (cI, k, .inl xo))]) (pl := (RT cI ra rs fB mM mP fW fD k c)) hP [1, 2, 3, 0] rfl
          have hD := va_D.part (cx := [(sm, .inr (2, [.int (nI y), .int fi, .int (nI st), .int t, .ref ma, .ref sa])), (ma, .inl (cR, k, .inr (.inr (.inr (.inr (fr ra)))))), (sa, .inl (cR, c, .inr (.inr (.inr (.inr (fr rs)))))), (q_7, .inl (cI, k, .inl xo))]) (pl := (RT cI ra rs fB mM mP fW fD k c)) hD [1, 2, 3, 0] (by decide) rfl
          refine W.widen (k := 1 + im * 16 + (i + 1) * 2) (n := 8 + im * 32 + (i + 1) * 4) (by omega) (by omega) ?_
          exact kk x _ _ ls (by omega) ⟨lv_sub hl [1, 2, 3, 4, 5, 0] rfl, hP, hD, hS, (AhN_n f1 (fun h9 => h9.elim c_36 (fun z => absurd z.1 (by omega))))⟩
        · skip
          simp only [Int32.le_iff_toInt_le] at c_42
          rw [nI_toInt (n := i) (by omega)] at c_42
          rw [nI_toInt (n := im) (by omega)] at c_42
          refine lv_aload_n hx hb dX2_order_45 rfl (lv_at hl 0 rfl) ?_
          refine lv_iload_n hx hb dX2_order_46 rfl (lv_at hl 3 rfl) ?_
          refine lv_iload hx hb dX2_order_47 (lv_at hl 5 rfl) ?_
          have hFc := va_freeP (cx := [(sm, .inr (2, [.int (nI y), .int fi, .int (nI st), .int t, .ref ma, .ref sa])), (ma, .inl (cR, k, .inr (.inr (.inr (.inr (fr ra)))))), (sa, .inl (cR, c, .inr (.inr (.inr (.inr (fr rs))))))]) (pl := (RT cI ra rs fB mM mP fW fD k c)) hD hS hA [1, 2, 3] rfl
          refine va_calli (va_runV (As := [.int (nI im), .int (nI i)]) (rest := []) ⟨hx, hb, hml, hown, hts⟩ (c_X2_isLonger l D cI cJ cR H.size sm ma sa ra rs k st fi fB mM mP c t y fW fD fL La pp uu bb hL hk8 im i (by omega) (by omega)) (cwV 2 hts gX2_order_X2_isLonger rfl rfl rfl (by decide +kernel) ⟨Nat.le_of_ble_eq_true rfl, Nat.le_of_ble_eq_true rfl⟩) (preV_wr KM_ok (va_P.part (cx := [(sm, .inr (2, [.int (nI y), .int fi, .int (nI st), .int t, .ref ma, .ref sa])), (ma, .inl (cR, k, .inr (.inr (.inr (.inr (fr ra)))))), (sa, .inl (cR, c, .inr (.inr (.inr (.inr (fr rs))))))]) (pl := (RT cI ra rs fB mM mP fW fD k c)) hP [1, 2, 3] rfl) (va_D.part (cx := [(sm, .inr (2, [.int (nI y), .int fi, .int (nI st), .int t, .ref ma, .ref sa])), (ma, .inl (cR, k, .inr (.inr (.inr (.inr (fr ra)))))), (sa, .inl (cR, c, .inr (.inr (.inr (.inr (fr rs))))))]) (pl := (RT cI ra rs fB mM mP fW fD k c)) hD [1, 2, 3] (by decide) rfl) hK (va_recv hK hP (ci := 2) (q0 := 1) rfl rfl)) rfl rfl hl.1 rfl (lv_room (Nat.le_of_ble_eq_true rfl)) dX2_order_49 ⟨show _ ≤ 140 by omega, show _ ≤ 300 by omega⟩) hS (fun q _ h => hFc q h) hFc (fun r_49 u t9 H1 locs ht hvm hw9 hB hz1 hk1 hS => ?_)
          obtain ⟨hr9, rfl⟩ := hw9
          have hr9 := hr9.symm
          subst hr9
          obtain ⟨hP1, hD1⟩ := hB
          rw [ht] at hP1
          obtain ⟨hP, hD⟩ := va_joinP (X := [(q_7, .inl (cI, k, .inl xo)), (sm, .inr (2, [.int (nI y), .int fi, .int (nI st), .int t, .ref ma, .ref sa])), (ma, .inl (cR, k, .inr (.inr (.inr (.inr (fr ra)))))), (sa, .inl (cR, c, .inr (.inr (.inr (.inr (fr rs))))))]) (cx := [(sm, .inr (2, [.int (nI y), .int fi, .int (nI st), .int t, .ref ma, .ref sa])), (ma, .inl (cR, k, .inr (.inr (.inr (.inr (fr ra)))))), (sa, .inl (cR, c, .inr (.inr (.inr (.inr (fr rs))))))]) (wr := [(q_7, .inl (cI, k, .inl xo))]) (rx := [(sm, .inr (2, [.int (nI y), .int fi, .int (nI st), .int t, .ref ma, .ref sa])), (ma, .inl (cR, k, .inr (.inr (.inr (.inr (fr ra)))))), (sa, .inl (cR, c, .inr (.inr (.inr (.inr (fr rs))))))]) (pl := (RT cI ra rs fB mM mP fW fD k c)) (pl1 := (RT cI ra rs fB mM mP fW fD k c)) hP hD [1, 2, 3] [0] rfl rfl (by decide) (by decide) hk1 hFc hP1 hD1
          clear hz1 hk1 ht hvm hFc
          generalize H1 = H at hP hS ⊢
          have hP : va_P D vwCl ([(q_7, .inl (cI, k, .inl xo)), (sm, .inr (2, [.int (nI y), .int fi, .int (nI st), .int t, .ref ma, .ref sa])), (ma, .inl (cR, k, .inr (.inr (.inr (.inr (fr ra)))))), (sa, .inl (cR, c, .inr (.inr (.inr (.inr (fr rs))))))] ++ (RT cI ra rs fB mM mP fW fD k c)) H := hP
          have hD : va_D A ([(q_7, .inl (cI, k, .inl xo)), (sm, .inr (2, [.int (nI y), .int fi, .int (nI st), .int t, .ref ma, .ref sa])), (ma, .inl (cR, k, .inr (.inr (.inr (.inr (fr ra)))))), (sa, .inl (cR, c, .inr (.inr (.inr (.inr (fr rs))))))] ++ (RT cI ra rs fB mM mP fW fD k c)) := hD
          refine lv_if_ne (tgt := 58) hx hb dX2_order_52 (by decide) (fun c_52 => ?_) (fun c_52 => ?_)
          · skip
            have c_52 := bz_1 c_52
            refine lv_iinc (v := (nI (i + 1))) (lv' := [(5, .int (nI (i + 1))), (0, .ref sm), (1, .int (nI k)), (2, .ref q_7), (3, .int (nI im)), (4, .int (nI x))]) hx hb dX2_order_58 hl (k := 5) rfl (nI_inc i) (by decide) rfl (fun ls hl => ?_)
            refine lv_goto (tgt := 23) hx hb dX2_order_61 (by decide) ?_
            have hP := va_P.part (cx := [(sm, .inr (2, [.int (nI y), .int fi, .int (nI st), .int t, .ref ma, .ref sa])), (ma, .inl (cR, k, .inr (.inr (.inr (.inr (fr ra)))))), (sa, .inl (cR, c, .inr (.inr (.inr (.inr (fr rs)))))), (q_7, .inl (cI, k, .inl xo))]) (pl := (RT cI ra rs fB mM mP fW fD k c)) hP [1, 2, 3, 0] rfl
            have hD := va_D.part (cx := [(sm, .inr (2, [.int (nI y), .int fi, .int (nI st), .int t, .ref ma, .ref sa])), (ma, .inl (cR, k, .inr (.inr (.inr (.inr (fr ra)))))), (sa, .inl (cR, c, .inr (.inr (.inr (.inr (fr rs)))))), (q_7, .inl (cI, k, .inl xo))]) (pl := (RT cI ra rs fB mM mP fW fD k c)) hD [1, 2, 3, 0] (by decide) rfl
            refine W.widen (k := 1 + im * 16 + (i + 1) * 2) (n := 8 + im * 32 + (i + 1) * 4) (by omega) (by omega) ?_
            exact kk x _ _ ls (by omega) ⟨lv_sub hl [1, 2, 3, 4, 5, 0] rfl, hP, hD, hS, (AhN_n f1 (fun h9 => h9.elim c_36 (fun z => z.2 c_52)))⟩
          · skip
            have c_52 := bz_0 c_52
            refine lv_iinc (v := (nI (x + 1))) (lv' := [(4, .int (nI (x + 1))), (0, .ref sm), (1, .int (nI k)), (2, .ref q_7), (3, .int (nI im)), (5, .int (nI i))]) hx hb dX2_order_55 hl (k := 4) rfl (nI_inc x) (by decide) rfl (fun ls hl => ?_)
            refine lv_iinc (v := (nI (i + 1))) (lv' := [(5, .int (nI (i + 1))), (4, .int (nI (x + 1))), (0, .ref sm), (1, .int (nI k)), (2, .ref q_7), (3, .int (nI im))]) hx hb dX2_order_58 hl (k := 5) rfl (nI_inc i) (by decide) rfl (fun ls hl => ?_)
            refine lv_goto (tgt := 23) hx hb dX2_order_61 (by decide) ?_
            have hP := va_P.part (cx := [(sm, .inr (2, [.int (nI y), .int fi, .int (nI st), .int t, .ref ma, .ref sa])), (ma, .inl (cR, k, .inr (.inr (.inr (.inr (fr ra)))))), (sa, .inl (cR, c, .inr (.inr (.inr (.inr (fr rs)))))), (q_7, .inl (cI, k, .inl xo))]) (pl := (RT cI ra rs fB mM mP fW fD k c)) hP [1, 2, 3, 0] rfl
            have hD := va_D.part (cx := [(sm, .inr (2, [.int (nI y), .int fi, .int (nI st), .int t, .ref ma, .ref sa])), (ma, .inl (cR, k, .inr (.inr (.inr (.inr (fr ra)))))), (sa, .inl (cR, c, .inr (.inr (.inr (.inr (fr rs)))))), (q_7, .inl (cI, k, .inl xo))]) (pl := (RT cI ra rs fB mM mP fW fD k c)) hD [1, 2, 3, 0] (by decide) rfl
            refine W.widen (k := 1 + im * 16 + (i + 1) * 2) (n := 8 + im * 32 + (i + 1) * 4) (by omega) (by omega) ?_
            exact kk (x + 1) _ _ ls (by omega) ⟨lv_sub hl [2, 3, 4, 5, 1, 0] rfl, hP, hD, hS, (AhN_y f1 (Or.inr ⟨by omega, c_52⟩))⟩

set_option maxHeartbeats 4000000 in
set_option maxRecDepth 100000 in
theorem c_X2_pass (l : Launch) (D : va_G) (cI cJ cR : ClassId) (sz : Nat) (sm ma sa : Nat) (ra rs : Nat → Nat) (k st : Nat) (fi : Int32) (fB mM mP : Nat → Int32) (c : Nat) (t : Int32) (y : Nat) (fW fD : Nat → Int32) (hc : c ≤ 6) (hy : y < 2 ^ 20) (hD3 : ∀ j, j < c → -300 ≤ (fD j).toInt ∧ (fD j).toInt ≤ 300) (hW9 : ∀ j, j < c → -9 ≤ (fW j).toInt ∧ (fW j).toInt ≤ 9) (ht9 : 0 ≤ t.toInt ∧ t.toInt ≤ 100) : Met l yX2_pass wsX2_pass ({ frames := 2, cells := 0, slots := 0, locals := 90 }) (cPw D ([(sm, .inr (2, [.int (nI y), .int fi, .int (nI st), .int t, .ref ma, .ref sa])), (ma, .inl (cR, k, .inr (.inr (.inr (.inr (fr ra)))))), (sa, .inl (cR, c, .inr (.inr (.inr (.inr (fr rs))))))] ++ (RT cI ra rs fB mM mP fW fD k c)) sz (KM D cI cJ cR) [.ref sm]) (wri D ([(sm, .inr (2, [.int (nI y), .int fi, .int (nI st), .int t, .ref ma, .ref sa])), (ma, .inl (cR, k, .inr (.inr (.inr (.inr (fr ra)))))), (sa, .inl (cR, c, .inr (.inr (.inr (.inr (fr rs))))))] ++ (RT cI ra rs fB mM mP fW fD k c)) sz (fun r ws' => ws' = ([(sm, .inr (2, [.int (nI (y + 1)), .int (fi + dFine c t y fW fD), .int (nI st), .int t, .ref ma, .ref sa])), (ma, .inl (cR, k, .inr (.inr (.inr (.inr (fr ra)))))), (sa, .inl (cR, c, .inr (.inr (.inr (.inr (fr rs))))))] ++ (RT cI ra rs fB mM mP fW (dDr c t y fW fD) k c)))) 0 0 (va_A ([(sm, .inr (2, [.int (nI y), .int fi, .int (nI st), .int t, .ref ma, .ref sa])), (ma, .inl (cR, k, .inr (.inr (.inr (.inr (fr ra)))))), (sa, .inl (cR, c, .inr (.inr (.inr (.inr (fr rs))))))] ++ (RT cI ra rs fB mM mP fW fD k c)) sz) := by
  refine Met.ofW (cc := cX2_pass) (maxL := 5) (ret := (some .int)) (by decide +kernel) rfl ?_
  intro p e s m args below meth c9 s₁ B hml hv
  obtain ⟨rfl, hsz, hP, hD0, hC⟩ := hv
  have hx := B.exec
  have hb := B.bytes
  have hr := B.returns
  have hts := atoms_spec (ws := wsX2_pass) B.pre
  have hown : s.vm.findClass RX2 = some m.cls := findClass_of_methodNamed B.named
  have hlocks := B.notSynchronized
  have hK : va_K D vwCl [(cI, .int), (cJ, .long), (cR, .array .int)] s := hC
  subst hsz
  unfold wri wB
  have hD := hD0.self (sz := s.heap.size)
  generalize hAe : va_A ([(sm, .inr (2, [.int (nI y), .int fi, .int (nI st), .int t, .ref ma, .ref sa])), (ma, .inl (cR, k, .inr (.inr (.inr (.inr (fr ra)))))), (sa, .inl (cR, c, .inr (.inr (.inr (.inr (fr rs))))))] ++ (RT cI ra rs fB mM mP fW fD k c)) s.heap.size = A at hD ⊢
  have hA : ∀ q : Nat, s.heap.size ≤ q → A q := fun q h => by rw [← hAe]; exact Or.inr h
  have hS : va_S A s.heap s.heap [] := va_S.rf
  have hl := lv_entry ([.ref sm]) (n := 5) (Nat.le_of_ble_eq_true rfl)
  rw [lg_entry_eq]
  generalize (lg_sl ([.ref sm]) ++ List.replicate (5 - (lg_sl ([.ref sm])).length) Slot.unset).toArray = ls at hl ⊢
  have hl : lv_has ls 5 [(0, .ref sm)] := hl
  have hiX2 : ∀ w ∈ u_ws RX2 TX2 6, w ∈ wsX2_pass := by decide +kernel
  have hw19 : (Cond.fieldLink RX2 19 "OldMeasuresLaw$Sim" "stalls" "[[I").before ([.ref sm] : List Value).toArray s = true := hts _ (by decide +kernel)
  have hw38 : (Cond.fieldLink RX2 38 "OldMeasuresLaw$Sim" "day" "I").before ([.ref sm] : List Value).toArray s = true := hts _ (by decide +kernel)
  have hw45 : (Cond.fieldLink RX2 45 "OldMeasuresLaw$Sim" "fines" "I").before ([.ref sm] : List Value).toArray s = true := hts _ (by decide +kernel)
  refine lv_aload_n hx hb dX2_pass_0 rfl (lv_at hl 0 rfl) ?_
  refine va_get (D := D) (ci := 2) (v := .ref sa) (C := RX2) (T := TX2) (N := 6) hx hb hts hiX2 hown hK hP 0 rfl rfl 5 (by decide) hw19 (fun _ h9 => h9) rfl dX2_pass_1 ?_
  refine lv_astore_n (lv' := [(1, .ref sa), (0, .ref sm)]) hx hb dX2_pass_4 rfl hl (by decide) rfl (fun ls hl => ?_)
  refine lv_aload_n hx hb dX2_pass_5 rfl (lv_at hl 0 rfl) ?_
  refine va_alen (v := (nI c)) hx hb hK hP 2 2 rfl rfl rfl dX2_pass_6 ?_
  refine lv_istore_n (lv' := [(2, .int (nI c)), (1, .ref sa), (0, .ref sm)]) hx hb dX2_pass_7 rfl hl (by decide) rfl (fun ls hl => ?_)
  refine lv_iconst (v := 0) hx hb dX2_pass_8 (by decide) ?_
  refine lv_istore_n (lv' := [(3, .int 0), (2, .int (nI c)), (1, .ref sa), (0, .ref sm)]) hx hb dX2_pass_9 rfl hl (by decide) rfl (fun ls hl => ?_)
  have hP : va_P D vwCl ([(sm, .inr (2, [.int (nI y), .int fi, .int (nI st), .int t, .ref ma, .ref sa])), (ma, .inl (cR, k, .inr (.inr (.inr (.inr (fr ra)))))), (sa, .inl (cR, c, .inr (.inr (.inr (.inr (fr rs))))))] ++ (RT cI ra rs fB mM mP fW (hdD fW fD 0) k c)) s.heap := by rw [hdD_0]; exact hP
  have hD : va_D A ([(sm, .inr (2, [.int (nI y), .int fi, .int (nI st), .int t, .ref ma, .ref sa])), (ma, .inl (cR, k, .inr (.inr (.inr (.inr (fr ra)))))), (sa, .inl (cR, c, .inr (.inr (.inr (.inr (fr rs))))))] ++ (RT cI ra rs fB mM mP fW (hdD fW fD 0) k c)) := by rw [hdD_0]; exact hD
  refine loopW (σ := Unit) (I := fun i x H locs ls => lv_has ls 5 [(0, .ref sm), (1, .ref sa), (2, .int (nI c)), (3, .int (nI i))] ∧ va_P D vwCl ([(sm, .inr (2, [.int (nI y), .int fi, .int (nI st), .int t, .ref ma, .ref sa])), (ma, .inl (cR, k, .inr (.inr (.inr (.inr (fr ra)))))), (sa, .inl (cR, c, .inr (.inr (.inr (.inr (fr rs))))))] ++ (RT cI ra rs fB mM mP fW (hdD fW fD i) k c)) H ∧ va_D A ([(sm, .inr (2, [.int (nI y), .int fi, .int (nI st), .int t, .ref ma, .ref sa])), (ma, .inl (cR, k, .inr (.inr (.inr (.inr (fr ra)))))), (sa, .inl (cR, c, .inr (.inr (.inr (.inr (fr rs))))))] ++ (RT cI ra rs fB mM mP fW (hdD fW fD i) k c)) ∧ va_S A s.heap H locs) c ?_ 0 () _ _ ls (by omega) ⟨lv_sub hl [3, 2, 1, 0] rfl, hP, hD, hS⟩
  intro i x H locs ls hi hI kk
  obtain ⟨hl, hP, hD, hS⟩ := hI
  refine lv_iload_n hx hb dX2_pass_10 rfl (lv_at hl 3 rfl) ?_
  refine lv_iload_n hx hb dX2_pass_11 rfl (lv_at hl 2 rfl) ?_
  refine lv_icmp_ge (tgt := 71) hx hb dX2_pass_12 (by decide) (fun c_12 => ?_) (fun c_12 => ?_)
  · skip
    simp only [Int32.le_iff_toInt_le] at c_12
    rw [nI_toInt (n := i) (by omega)] at c_12
    rw [nI_toInt (n := c) (by omega)] at c_12
    have e9 : c = i := by omega
    subst e9
    refine lv_iconst (v := (-1)) hx hb dX2_pass_71 (by decide) ?_
    refine lv_istore_n (lv' := [(1, .int (-1)), (0, .ref sm), (2, .int (nI c)), (3, .int (nI c))]) hx hb dX2_pass_72 rfl hl (by decide) rfl (fun ls hl => ?_)
    refine lv_aload_n hx hb dX2_pass_73 rfl (lv_at hl 1 rfl) ?_
    refine va_get (D := D) (ci := 2) (v := .ref sa) (C := RX2) (T := TX2) (N := 6) hx hb hts hiX2 hown hK hP 0 rfl rfl 5 (by decide) hw19 (fun _ h9 => h9) rfl dX2_pass_74 ?_
    refine va_alen (v := (nI c)) hx hb hK hP 2 2 rfl rfl rfl dX2_pass_77 ?_
    refine lv_if_le (tgt := 135) hx hb dX2_pass_78 (by decide) (fun c_78 => ?_) (fun c_78 => ?_)
    · skip
      simp only [Int32.le_iff_toInt_le] at c_78
      rw [nI_toInt (n := c) (by omega)] at c_78
      rw [(by decide : (0 : Int32).toInt = 0)] at c_78
      have hc0 : c = 0 := by omega
      refine lv_aload_n hx hb dX2_pass_135 rfl (lv_at hl 1 rfl) ?_
      refine lv_dup hx hb dX2_pass_136 rfl ?_
      refine va_get (D := D) (ci := 2) (v := .int (nI y)) (C := RX2) (T := TX2) (N := 6) hx hb hts hiX2 hown hK hP 0 rfl rfl 0 (by decide) hw38 (fun _ h9 => h9) rfl dX2_pass_137 ?_
      refine lv_iconst (v := 1) hx hb dX2_pass_140 (by decide) ?_
      refine lv_iadd hx hb dX2_pass_141 ?_
      refine topI (nI_1 y) ?_
      refine va_put (D := D) (ci := 2) (v := .int (nI (y + 1))) (ty := .int) (C := RX2) (T := TX2) (N := 6) hx hb hts hiX2 tyX2 tyX2_ok nmX2 hown hK hP hD hS 0 rfl rfl 0 (by decide) hw38 (fun _ h9 => h9) rfl (by decide +kernel) rfl rfl (Nat.le_of_ble_eq_true rfl) dX2_pass_142 (fun H locs hP hD hS => ?_)
      have hP : va_P D vwCl ([(sm, .inr (2, [.int (nI (y + 1)), .int fi, .int (nI st), .int t, .ref ma, .ref sa])), (ma, .inl (cR, k, .inr (.inr (.inr (.inr (fr ra)))))), (sa, .inl (cR, c, .inr (.inr (.inr (.inr (fr rs))))))] ++ (RT cI ra rs fB mM mP fW (hdD fW fD c) k c)) H := hP
      have hD : va_D A ([(sm, .inr (2, [.int (nI (y + 1)), .int fi, .int (nI st), .int t, .ref ma, .ref sa])), (ma, .inl (cR, k, .inr (.inr (.inr (.inr (fr ra)))))), (sa, .inl (cR, c, .inr (.inr (.inr (.inr (fr rs))))))] ++ (RT cI ra rs fB mM mP fW (hdD fW fD c) k c)) := hD
      refine lv_iload_n hx hb dX2_pass_145 rfl (lv_at hl 0 rfl) ?_
      exact W.iret (v := (-1)) hx hb hr (fun t9 ht hW => ⟨⟨(-1), ([(sm, .inr (2, [.int (nI (y + 1)), .int fi, .int (nI st), .int t, .ref ma, .ref sa])), (ma, .inl (cR, k, .inr (.inr (.inr (.inr (fr ra)))))), (sa, .inl (cR, c, .inr (.inr (.inr (.inr (fr rs))))))] ++ (RT cI ra rs fB mM mP fW (hdD fW fD c) k c)), rfl, by rw [dFine_n hc0, dDr_n hc0, addI_0], by rw [ht]; exact hP, hD⟩, hS.F ht⟩) hS.2.2 dX2_pass_146
    · skip
      simp only [Int32.le_iff_toInt_le] at c_78
      rw [nI_toInt (n := c) (by omega)] at c_78
      rw [(by decide : (0 : Int32).toInt = 0)] at c_78
      have hc0 : ¬ c = 0 := by omega
      have hm6 := Nat.mod_lt y (show 0 < c by omega)
      refine lv_aload_n hx hb dX2_pass_81 rfl (lv_at hl 1 rfl) ?_
      refine va_get (D := D) (ci := 2) (v := .ref sa) (C := RX2) (T := TX2) (N := 6) hx hb hts hiX2 hown hK hP 0 rfl rfl 5 (by decide) hw19 (fun _ h9 => h9) rfl dX2_pass_82 ?_
      refine lv_aload_n hx hb dX2_pass_85 rfl (lv_at hl 1 rfl) ?_
      refine va_get (D := D) (ci := 2) (v := .int (nI y)) (C := RX2) (T := TX2) (N := 6) hx hb hts hiX2 hown hK hP 0 rfl rfl 0 (by decide) hw38 (fun _ h9 => h9) rfl dX2_pass_86 ?_
      refine lv_aload_n hx hb dX2_pass_89 rfl (lv_at hl 1 rfl) ?_
      refine va_get (D := D) (ci := 2) (v := .ref sa) (C := RX2) (T := TX2) (N := 6) hx hb hts hiX2 hown hK hP 0 rfl rfl 5 (by decide) hw19 (fun _ h9 => h9) rfl dX2_pass_90 ?_
      refine va_alen (v := (nI c)) hx hb hK hP 2 2 rfl rfl rfl dX2_pass_93 ?_
      refine lv_irem hx hb dX2_pass_94 (nI_ne0 (by omega) (by omega)) ?_
      refine topI (pk_rem (by omega) (by omega) (by omega)) ?_
      refine xr_ald (b := (rs (y % c))) hx hb hK hP 2 2 rfl rfl (j := (y % c)) (by omega) (by omega) rfl dX2_pass_95 ?_
      refine lv_astore_n (lv' := [(2, .ref (rs (y % c))), (1, .int (-1)), (0, .ref sm), (3, .int (nI c))]) hx hb dX2_pass_96 rfl hl (by decide) rfl (fun ls hl => ?_)
      refine lv_aload_n hx hb dX2_pass_97 rfl (lv_at hl 2 rfl) ?_
      refine lv_aload_n hx hb dX2_pass_98 rfl (lv_at hl 0 rfl) ?_
      refine ro_iE (va_runV (As := [.ref (rs (y % c))]) (rest := []) ⟨hx, hb, hml, hown, hts⟩ (c_X2_isHonest l D cI cJ cR sm ma sa ra rs k st fi fB mM mP c t y fW (hdD fW fD c) (y % c) (by omega) (hdD_r (y % c) hm6) ht9) (cwV 1 hts gX2_pass_X2_isHonest rfl rfl rfl (by decide +kernel) ⟨Nat.le_of_ble_eq_true rfl, Nat.le_of_ble_eq_true rfl⟩) (preV_ro KM_ok (va_P.part (cx := [(sm, .inr (2, [.int (nI y), .int fi, .int (nI st), .int t, .ref ma, .ref sa])), (ma, .inl (cR, k, .inr (.inr (.inr (.inr (fr ra)))))), (sa, .inl (cR, c, .inr (.inr (.inr (.inr (fr rs))))))]) (pl := (RT cI ra rs fB mM mP fW (hdD fW fD c) k c)) hP [0, 1, 2] rfl) hK (va_recv hK hP (ci := 2) (q0 := 0) rfl rfl)) rfl rfl hl.1 rfl (lv_room (Nat.le_of_ble_eq_true rfl)) dX2_pass_99 ⟨by decide, by decide⟩) ?_
      refine lv_if_ne (tgt := 135) hx hb dX2_pass_102 (by decide) (fun c_102 => ?_) (fun c_102 => ?_)
      · skip
        have c_102 := bz_1 c_102
        refine lv_aload_n hx hb dX2_pass_135 rfl (lv_at hl 2 rfl) ?_
        refine lv_dup hx hb dX2_pass_136 rfl ?_
        refine va_get (D := D) (ci := 2) (v := .int (nI y)) (C := RX2) (T := TX2) (N := 6) hx hb hts hiX2 hown hK hP 0 rfl rfl 0 (by decide) hw38 (fun _ h9 => h9) rfl dX2_pass_137 ?_
        refine lv_iconst (v := 1) hx hb dX2_pass_140 (by decide) ?_
        refine lv_iadd hx hb dX2_pass_141 ?_
        refine topI (nI_1 y) ?_
        refine va_put (D := D) (ci := 2) (v := .int (nI (y + 1))) (ty := .int) (C := RX2) (T := TX2) (N := 6) hx hb hts hiX2 tyX2 tyX2_ok nmX2 hown hK hP hD hS 0 rfl rfl 0 (by decide) hw38 (fun _ h9 => h9) rfl (by decide +kernel) rfl rfl (Nat.le_of_ble_eq_true rfl) dX2_pass_142 (fun H locs hP hD hS => ?_)
        have hP : va_P D vwCl ([(sm, .inr (2, [.int (nI (y + 1)), .int fi, .int (nI st), .int t, .ref ma, .ref sa])), (ma, .inl (cR, k, .inr (.inr (.inr (.inr (fr ra)))))), (sa, .inl (cR, c, .inr (.inr (.inr (.inr (fr rs))))))] ++ (RT cI ra rs fB mM mP fW (hdD fW fD c) k c)) H := hP
        have hD : va_D A ([(sm, .inr (2, [.int (nI (y + 1)), .int fi, .int (nI st), .int t, .ref ma, .ref sa])), (ma, .inl (cR, k, .inr (.inr (.inr (.inr (fr ra)))))), (sa, .inl (cR, c, .inr (.inr (.inr (.inr (fr rs))))))] ++ (RT cI ra rs fB mM mP fW (hdD fW fD c) k c)) := hD
        refine lv_iload_n hx hb dX2_pass_145 rfl (lv_at hl 1 rfl) ?_
        exact W.iret (v := (-1)) hx hb hr (fun t9 ht hW => ⟨⟨(-1), ([(sm, .inr (2, [.int (nI (y + 1)), .int fi, .int (nI st), .int t, .ref ma, .ref sa])), (ma, .inl (cR, k, .inr (.inr (.inr (.inr (fr ra)))))), (sa, .inl (cR, c, .inr (.inr (.inr (.inr (fr rs))))))] ++ (RT cI ra rs fB mM mP fW (hdD fW fD c) k c)), rfl, by rw [dFine_j hc0, dDr_j hc0, ic_t c_102, ic_t c_102, addI_0], by rw [ht]; exact hP, hD⟩, hS.F ht⟩) hS.2.2 dX2_pass_146
      · skip
        have c_102 := bz_0 c_102
        refine lv_aload_n hx hb dX2_pass_105 rfl (lv_at hl 2 rfl) ?_
        refine va_get (D := D) (ci := 2) (v := .int (nI y)) (C := RX2) (T := TX2) (N := 6) hx hb hts hiX2 hown hK hP 0 rfl rfl 0 (by decide) hw38 (fun _ h9 => h9) rfl dX2_pass_106 ?_
        refine lv_aload_n hx hb dX2_pass_109 rfl (lv_at hl 2 rfl) ?_
        refine va_get (D := D) (ci := 2) (v := .ref sa) (C := RX2) (T := TX2) (N := 6) hx hb hts hiX2 hown hK hP 0 rfl rfl 5 (by decide) hw19 (fun _ h9 => h9) rfl dX2_pass_110 ?_
        refine va_alen (v := (nI c)) hx hb hK hP 2 2 rfl rfl rfl dX2_pass_113 ?_
        refine lv_irem hx hb dX2_pass_114 (nI_ne0 (by omega) (by omega)) ?_
        refine topI (pk_rem (by omega) (by omega) (by omega)) ?_
        refine lv_istore_n (lv' := [(1, .int (nI (y % c))), (2, .ref (rs (y % c))), (0, .ref sm), (3, .int (nI c))]) hx hb dX2_pass_115 rfl hl (by decide) rfl (fun ls hl => ?_)
        refine lv_aload_n hx hb dX2_pass_116 rfl (lv_at hl 2 rfl) ?_
        refine lv_dup hx hb dX2_pass_117 rfl ?_
        refine va_get (D := D) (ci := 2) (v := .int fi) (C := RX2) (T := TX2) (N := 6) hx hb hts hiX2 hown hK hP 0 rfl rfl 1 (by decide) hw45 (fun _ h9 => h9) rfl dX2_pass_118 ?_
        refine lv_aload_n hx hb dX2_pass_121 rfl (lv_at hl 1 rfl) ?_
        refine lv_iconst (v := 1) hx hb dX2_pass_122 (by decide) ?_
        refine xa_iald (j := 1) hx hb hK hP (3 + (k + (y % c))) 0 (tl_at rfl (RT_s (by omega))) rfl (by decide) (by decide) dX2_pass_123 ?_
        refine topI (y := ((hdD fW fD c) (y % c))) rfl ?_
        refine va_mabs hx hb (by rw [hml]; exact hl.1.symm) hown (hts (.methodLink RX2 48 Lib.Math.abs.name) (by decide +kernel)) (hts (.static Lib.Math.abs.name) (by decide +kernel)) (hts (.initialized "java/lang/Math") (by decide +kernel)) (hts (.code Lib.Math.abs.name Lib.Math.abs.code 1 (some .int)) (by decide +kernel)) (by first | decide | exact Nat.le_of_ble_eq_true rfl) (by first | decide | exact Nat.le_of_ble_eq_true rfl) (by first | decide | exact Nat.le_of_ble_eq_true rfl) (by first | decide | exact Nat.le_of_ble_eq_true rfl) dX2_pass_124 ?_
        refine topI (y := absI ((hdD fW fD c) (y % c))) rfl ?_
        refine lv_iadd hx hb dX2_pass_127 ?_
        refine va_put (D := D) (ci := 2) (v := .int (fi + (absI ((hdD fW fD c) (y % c))))) (ty := .int) (C := RX2) (T := TX2) (N := 6) hx hb hts hiX2 tyX2 tyX2_ok nmX2 hown hK hP hD hS 0 rfl rfl 1 (by decide) hw45 (fun _ h9 => h9) rfl (by decide +kernel) rfl rfl (Nat.le_of_ble_eq_true rfl) dX2_pass_128 (fun H locs hP hD hS => ?_)
        have hP : va_P D vwCl ([(sm, .inr (2, [.int (nI y), .int (fi + (absI ((hdD fW fD c) (y % c)))), .int (nI st), .int t, .ref ma, .ref sa])), (ma, .inl (cR, k, .inr (.inr (.inr (.inr (fr ra)))))), (sa, .inl (cR, c, .inr (.inr (.inr (.inr (fr rs))))))] ++ (RT cI ra rs fB mM mP fW (hdD fW fD c) k c)) H := hP
        have hD : va_D A ([(sm, .inr (2, [.int (nI y), .int (fi + (absI ((hdD fW fD c) (y % c)))), .int (nI st), .int t, .ref ma, .ref sa])), (ma, .inl (cR, k, .inr (.inr (.inr (.inr (fr ra)))))), (sa, .inl (cR, c, .inr (.inr (.inr (.inr (fr rs))))))] ++ (RT cI ra rs fB mM mP fW (hdD fW fD c) k c)) := hD
        refine lv_aload_n hx hb dX2_pass_131 rfl (lv_at hl 1 rfl) ?_
        refine lv_iconst (v := 1) hx hb dX2_pass_132 (by decide) ?_
        refine lv_iconst (v := 0) hx hb dX2_pass_133 (by decide) ?_
        refine xa_iast (j := 1) hx hb hK hP hD hS (3 + (k + (y % c))) 0 (tl_at rfl (RT_s (by omega))) rfl (by decide) (by decide) dX2_pass_134 (fun H locs hP hD hS => ?_)
        rw [RT_set (n := 3) (X := [(sm, .inr (2, [.int (nI y), .int (fi + (absI ((hdD fW fD c) (y % c)))), .int (nI st), .int t, .ref ma, .ref sa])), (ma, .inl (cR, k, .inr (.inr (.inr (.inr (fr ra)))))), (sa, .inl (cR, c, .inr (.inr (.inr (.inr (fr rs))))))]) (i := (y % c)) (c := c) rfl (by omega) fW (upd (hdD fW fD c) (y % c) 0) (s2_1 _ _) (fun _ _ => rfl) (fun _ h9 => if_neg h9)] at hP hD
        have hP : va_P D vwCl ([(sm, .inr (2, [.int (nI y), .int (fi + (absI ((hdD fW fD c) (y % c)))), .int (nI st), .int t, .ref ma, .ref sa])), (ma, .inl (cR, k, .inr (.inr (.inr (.inr (fr ra)))))), (sa, .inl (cR, c, .inr (.inr (.inr (.inr (fr rs))))))] ++ (RT cI ra rs fB mM mP fW (upd (hdD fW fD c) (y % c) 0) k c)) H := hP
        have hD : va_D A ([(sm, .inr (2, [.int (nI y), .int (fi + (absI ((hdD fW fD c) (y % c)))), .int (nI st), .int t, .ref ma, .ref sa])), (ma, .inl (cR, k, .inr (.inr (.inr (.inr (fr ra)))))), (sa, .inl (cR, c, .inr (.inr (.inr (.inr (fr rs))))))] ++ (RT cI ra rs fB mM mP fW (upd (hdD fW fD c) (y % c) 0) k c)) := hD
        refine lv_aload_n hx hb dX2_pass_135 rfl (lv_at hl 2 rfl) ?_
        refine lv_dup hx hb dX2_pass_136 rfl ?_
        refine va_get (D := D) (ci := 2) (v := .int (nI y)) (C := RX2) (T := TX2) (N := 6) hx hb hts hiX2 hown hK hP 0 rfl rfl 0 (by decide) hw38 (fun _ h9 => h9) rfl dX2_pass_137 ?_
        refine lv_iconst (v := 1) hx hb dX2_pass_140 (by decide) ?_
        refine lv_iadd hx hb dX2_pass_141 ?_
        refine topI (nI_1 y) ?_
        refine va_put (D := D) (ci := 2) (v := .int (nI (y + 1))) (ty := .int) (C := RX2) (T := TX2) (N := 6) hx hb hts hiX2 tyX2 tyX2_ok nmX2 hown hK hP hD hS 0 rfl rfl 0 (by decide) hw38 (fun _ h9 => h9) rfl (by decide +kernel) rfl rfl (Nat.le_of_ble_eq_true rfl) dX2_pass_142 (fun H locs hP hD hS => ?_)
        have hP : va_P D vwCl ([(sm, .inr (2, [.int (nI (y + 1)), .int (fi + (absI ((hdD fW fD c) (y % c)))), .int (nI st), .int t, .ref ma, .ref sa])), (ma, .inl (cR, k, .inr (.inr (.inr (.inr (fr ra)))))), (sa, .inl (cR, c, .inr (.inr (.inr (.inr (fr rs))))))] ++ (RT cI ra rs fB mM mP fW (upd (hdD fW fD c) (y % c) 0) k c)) H := hP
        have hD : va_D A ([(sm, .inr (2, [.int (nI (y + 1)), .int (fi + (absI ((hdD fW fD c) (y % c)))), .int (nI st), .int t, .ref ma, .ref sa])), (ma, .inl (cR, k, .inr (.inr (.inr (.inr (fr ra)))))), (sa, .inl (cR, c, .inr (.inr (.inr (.inr (fr rs))))))] ++ (RT cI ra rs fB mM mP fW (upd (hdD fW fD c) (y % c) 0) k c)) := hD
        refine lv_iload_n hx hb dX2_pass_145 rfl (lv_at hl 0 rfl) ?_
        exact W.iret (v := (nI (y % c))) hx hb hr (fun t9 ht hW => ⟨⟨(nI (y % c)), ([(sm, .inr (2, [.int (nI (y + 1)), .int (fi + (absI ((hdD fW fD c) (y % c)))), .int (nI st), .int t, .ref ma, .ref sa])), (ma, .inl (cR, k, .inr (.inr (.inr (.inr (fr ra)))))), (sa, .inl (cR, c, .inr (.inr (.inr (.inr (fr rs))))))] ++ (RT cI ra rs fB mM mP fW (upd (hdD fW fD c) (y % c) 0) k c)), rfl, by rw [dFine_j hc0, dDr_j hc0, ic_f c_102, ic_f c_102], by rw [ht]; exact hP, hD⟩, hS.F ht⟩) hS.2.2 dX2_pass_146
  · skip
    simp only [Int32.le_iff_toInt_le] at c_12
    rw [nI_toInt (n := i) (by omega)] at c_12
    rw [nI_toInt (n := c) (by omega)] at c_12
    refine lv_aload_n hx hb dX2_pass_15 rfl (lv_at hl 1 rfl) ?_
    refine lv_iload_n hx hb dX2_pass_16 rfl (lv_at hl 3 rfl) ?_
    refine xr_ald (b := (rs i)) hx hb hK hP 2 2 rfl rfl (j := i) (by omega) (by omega) rfl dX2_pass_17 ?_
    refine lv_astore (lv' := [(4, .ref (rs i)), (0, .ref sm), (1, .ref sa), (2, .int (nI c)), (3, .int (nI i))]) hx hb dX2_pass_18 hl (by decide) rfl (fun ls hl => ?_)
    refine lv_aload hx hb dX2_pass_20 (lv_at hl 0 rfl) ?_
    refine lv_iconst (v := 1) hx hb dX2_pass_22 (by decide) ?_
    refine lv_dup2_11 hx hb dX2_pass_23 rfl rfl ?_
    refine xa_iald (j := 1) hx hb hK hP (3 + (k + i)) 0 (tl_at rfl (RT_s (by omega))) rfl (by decide) (by decide) dX2_pass_24 ?_
    refine topI (y := ((hdD fW fD i) i)) rfl ?_
    refine lv_aload hx hb dX2_pass_25 (lv_at hl 0 rfl) ?_
    refine lv_iconst (v := 0) hx hb dX2_pass_27 (by decide) ?_
    refine xa_iald (j := 0) hx hb hK hP (3 + (k + i)) 0 (tl_at rfl (RT_s (by omega))) rfl (by decide) (by decide) dX2_pass_28 ?_
    refine topI (y := (fW i)) rfl ?_
    refine lv_iadd hx hb dX2_pass_29 ?_
    refine xa_iast (j := 1) hx hb hK hP hD hS (3 + (k + i)) 0 (tl_at rfl (RT_s (by omega))) rfl (by decide) (by decide) dX2_pass_30 (fun H locs hP hD hS => ?_)
    rw [RT_set (n := 3) (X := [(sm, .inr (2, [.int (nI y), .int fi, .int (nI st), .int t, .ref ma, .ref sa])), (ma, .inl (cR, k, .inr (.inr (.inr (.inr (fr ra)))))), (sa, .inl (cR, c, .inr (.inr (.inr (.inr (fr rs))))))]) (i := i) (c := c) rfl (by omega) fW (upd (hdD fW fD i) i (((hdD fW fD i) i) + (fW i))) (s2_1 _ _) (fun _ _ => rfl) (fun _ h9 => if_neg h9)] at hP hD
    have hP : va_P D vwCl ([(sm, .inr (2, [.int (nI y), .int fi, .int (nI st), .int t, .ref ma, .ref sa])), (ma, .inl (cR, k, .inr (.inr (.inr (.inr (fr ra)))))), (sa, .inl (cR, c, .inr (.inr (.inr (.inr (fr rs))))))] ++ (RT cI ra rs fB mM mP fW (upd (hdD fW fD i) i (((hdD fW fD i) i) + (fW i))) k c)) H := hP
    have hD : va_D A ([(sm, .inr (2, [.int (nI y), .int fi, .int (nI st), .int t, .ref ma, .ref sa])), (ma, .inl (cR, k, .inr (.inr (.inr (.inr (fr ra)))))), (sa, .inl (cR, c, .inr (.inr (.inr (.inr (fr rs))))))] ++ (RT cI ra rs fB mM mP fW (upd (hdD fW fD i) i (((hdD fW fD i) i) + (fW i))) k c)) := hD
    refine lv_aload hx hb dX2_pass_31 (lv_at hl 0 rfl) ?_
    refine lv_iconst (v := 1) hx hb dX2_pass_33 (by decide) ?_
    refine xa_iald (j := 1) hx hb hK hP (3 + (k + i)) 0 (tl_at rfl (RT_s (by omega))) rfl (by decide) (by decide) dX2_pass_34 ?_
    refine topI (y := ((upd (hdD fW fD i) i (((hdD fW fD i) i) + (fW i))) i)) rfl ?_
    refine topI (y := (((hdD fW fD i) i) + (fW i))) pk_us ?_
    refine lv_sipush (v := 300) hx hb dX2_pass_35 (by decide) ?_
    refine lv_icmp_le (tgt := 48) hx hb dX2_pass_38 (by decide) (fun c_38 => ?_) (fun c_38 => ?_)
    · skip
      simp only [Int32.le_iff_toInt_le] at c_38
      rw [(by decide : (300 : Int32).toInt = 300)] at c_38
      have c38 : ((hdD fW fD i) i + fW i).toInt ≤ 300 := c_38
      refine lv_aload hx hb dX2_pass_48 (lv_at hl 0 rfl) ?_
      refine lv_iconst (v := 1) hx hb dX2_pass_50 (by decide) ?_
      refine xa_iald (j := 1) hx hb hK hP (3 + (k + i)) 0 (tl_at rfl (RT_s (by omega))) rfl (by decide) (by decide) dX2_pass_51 ?_
      refine topI (y := ((upd (hdD fW fD i) i (((hdD fW fD i) i) + (fW i))) i)) rfl ?_
      refine topI (y := (((hdD fW fD i) i) + (fW i))) pk_us ?_
      refine lv_sipush (v := (-300)) hx hb dX2_pass_52 (by decide) ?_
      refine lv_icmp_ge (tgt := 65) hx hb dX2_pass_55 (by decide) (fun c_55 => ?_) (fun c_55 => ?_)
      · skip
        simp only [Int32.le_iff_toInt_le] at c_55
        rw [(by decide : (-300 : Int32).toInt = -300)] at c_55
        refine lv_iinc (v := (nI (i + 1))) (lv' := [(3, .int (nI (i + 1))), (4, .ref (rs i)), (0, .ref sm), (1, .ref sa), (2, .int (nI c))]) hx hb dX2_pass_65 hl (k := 4) rfl (nI_inc i) (by decide) rfl (fun ls hl => ?_)
        refine lv_goto (tgt := 10) hx hb dX2_pass_68 (by decide) ?_
        have e7 : (upd (hdD fW fD i) i (((hdD fW fD i) i) + (fW i))) = hdD fW fD (i + 1) := by rw [← hdD_s]; exact pz_0 c38 c_55
        rw [e7] at hP hD
        exact kk () _ _ ls (by omega) ⟨lv_sub hl [2, 3, 4, 0] rfl, hP, hD, hS⟩
      · skip
        simp only [Int32.le_iff_toInt_le] at c_55
        rw [(by decide : (-300 : Int32).toInt = -300)] at c_55
        refine lv_aload hx hb dX2_pass_58 (lv_at hl 0 rfl) ?_
        refine lv_iconst (v := 1) hx hb dX2_pass_60 (by decide) ?_
        refine lv_sipush (v := (-300)) hx hb dX2_pass_61 (by decide) ?_
        refine xa_iast (j := 1) hx hb hK hP hD hS (3 + (k + i)) 0 (tl_at rfl (RT_s (by omega))) rfl (by decide) (by decide) dX2_pass_64 (fun H locs hP hD hS => ?_)
        rw [RT_set (n := 3) (X := [(sm, .inr (2, [.int (nI y), .int fi, .int (nI st), .int t, .ref ma, .ref sa])), (ma, .inl (cR, k, .inr (.inr (.inr (.inr (fr ra)))))), (sa, .inl (cR, c, .inr (.inr (.inr (.inr (fr rs))))))]) (i := i) (c := c) rfl (by omega) fW (upd (upd (hdD fW fD i) i (((hdD fW fD i) i) + (fW i))) i (-300)) (s2_1 _ _) (fun _ _ => rfl) (fun _ h9 => if_neg h9)] at hP hD
        have hP : va_P D vwCl ([(sm, .inr (2, [.int (nI y), .int fi, .int (nI st), .int t, .ref ma, .ref sa])), (ma, .inl (cR, k, .inr (.inr (.inr (.inr (fr ra)))))), (sa, .inl (cR, c, .inr (.inr (.inr (.inr (fr rs))))))] ++ (RT cI ra rs fB mM mP fW (upd (upd (hdD fW fD i) i (((hdD fW fD i) i) + (fW i))) i (-300)) k c)) H := hP
        have hD : va_D A ([(sm, .inr (2, [.int (nI y), .int fi, .int (nI st), .int t, .ref ma, .ref sa])), (ma, .inl (cR, k, .inr (.inr (.inr (.inr (fr ra)))))), (sa, .inl (cR, c, .inr (.inr (.inr (.inr (fr rs))))))] ++ (RT cI ra rs fB mM mP fW (upd (upd (hdD fW fD i) i (((hdD fW fD i) i) + (fW i))) i (-300)) k c)) := hD
        refine lv_iinc (v := (nI (i + 1))) (lv' := [(3, .int (nI (i + 1))), (4, .ref (rs i)), (0, .ref sm), (1, .ref sa), (2, .int (nI c))]) hx hb dX2_pass_65 hl (k := 4) rfl (nI_inc i) (by decide) rfl (fun ls hl => ?_)
        refine lv_goto (tgt := 10) hx hb dX2_pass_68 (by decide) ?_
        have e7 : (upd (upd (hdD fW fD i) i (((hdD fW fD i) i) + (fW i))) i (-300)) = hdD fW fD (i + 1) := by rw [← hdD_s]; exact pz_2 (by omega)
        rw [e7] at hP hD
        exact kk () _ _ ls (by omega) ⟨lv_sub hl [2, 3, 4, 0] rfl, hP, hD, hS⟩
    · skip
      simp only [Int32.le_iff_toInt_le] at c_38
      rw [(by decide : (300 : Int32).toInt = 300)] at c_38
      have c38 : 300 < ((hdD fW fD i) i + fW i).toInt := by omega
      refine lv_aload hx hb dX2_pass_41 (lv_at hl 0 rfl) ?_
      refine lv_iconst (v := 1) hx hb dX2_pass_43 (by decide) ?_
      refine lv_sipush (v := 300) hx hb dX2_pass_44 (by decide) ?_
      refine xa_iast (j := 1) hx hb hK hP hD hS (3 + (k + i)) 0 (tl_at rfl (RT_s (by omega))) rfl (by decide) (by decide) dX2_pass_47 (fun H locs hP hD hS => ?_)
      rw [RT_set (n := 3) (X := [(sm, .inr (2, [.int (nI y), .int fi, .int (nI st), .int t, .ref ma, .ref sa])), (ma, .inl (cR, k, .inr (.inr (.inr (.inr (fr ra)))))), (sa, .inl (cR, c, .inr (.inr (.inr (.inr (fr rs))))))]) (i := i) (c := c) rfl (by omega) fW (upd (upd (hdD fW fD i) i (((hdD fW fD i) i) + (fW i))) i 300) (s2_1 _ _) (fun _ _ => rfl) (fun _ h9 => if_neg h9)] at hP hD
      have hP : va_P D vwCl ([(sm, .inr (2, [.int (nI y), .int fi, .int (nI st), .int t, .ref ma, .ref sa])), (ma, .inl (cR, k, .inr (.inr (.inr (.inr (fr ra)))))), (sa, .inl (cR, c, .inr (.inr (.inr (.inr (fr rs))))))] ++ (RT cI ra rs fB mM mP fW (upd (upd (hdD fW fD i) i (((hdD fW fD i) i) + (fW i))) i 300) k c)) H := hP
      have hD : va_D A ([(sm, .inr (2, [.int (nI y), .int fi, .int (nI st), .int t, .ref ma, .ref sa])), (ma, .inl (cR, k, .inr (.inr (.inr (.inr (fr ra)))))), (sa, .inl (cR, c, .inr (.inr (.inr (.inr (fr rs))))))] ++ (RT cI ra rs fB mM mP fW (upd (upd (hdD fW fD i) i (((hdD fW fD i) i) + (fW i))) i 300) k c)) := hD
      refine lv_aload hx hb dX2_pass_48 (lv_at hl 0 rfl) ?_
      refine lv_iconst (v := 1) hx hb dX2_pass_50 (by decide) ?_
      refine xa_iald (j := 1) hx hb hK hP (3 + (k + i)) 0 (tl_at rfl (RT_s (by omega))) rfl (by decide) (by decide) dX2_pass_51 ?_
      refine topI (y := ((upd (upd (hdD fW fD i) i (((hdD fW fD i) i) + (fW i))) i 300) i)) rfl ?_
      refine topI (y := 300) pk_us ?_
      refine lv_sipush (v := (-300)) hx hb dX2_pass_52 (by decide) ?_
      refine lv_icmp_ge (tgt := 65) hx hb dX2_pass_55 (by decide) (fun c_55 => ?_) (fun c_55 => ?_)
      · skip
        refine lv_iinc (v := (nI (i + 1))) (lv' := [(3, .int (nI (i + 1))), (4, .ref (rs i)), (0, .ref sm), (1, .ref sa), (2, .int (nI c))]) hx hb dX2_pass_65 hl (k := 4) rfl (nI_inc i) (by decide) rfl (fun ls hl => ?_)
        refine lv_goto (tgt := 10) hx hb dX2_pass_68 (by decide) ?_
        have e7 : (upd (upd (hdD fW fD i) i (((hdD fW fD i) i) + (fW i))) i 300) = hdD fW fD (i + 1) := by rw [← hdD_s]; exact pz_1 c38
        rw [e7] at hP hD
        exact kk () _ _ ls (by omega) ⟨lv_sub hl [2, 3, 4, 0] rfl, hP, hD, hS⟩
      · skip
        exact absurd (show (-300 : Int32) ≤ 300 by decide) c_55

set_option maxHeartbeats 4000000 in
set_option maxRecDepth 100000 in
theorem c_X2_behind (l : Launch) (D : va_G) (cI cJ cR : ClassId) (sz : Nat) (sm ma sa : Nat) (ra rs : Nat → Nat) (k st : Nat) (fi : Int32) (fB mM mP : Nat → Int32) (c : Nat) (t : Int32) (y : Nat) (fW fD : Nat → Int32) (hc : c ≤ 6) (hy : y < 2 ^ 19) (hD3 : ∀ j, j < c → -300 ≤ (fD j).toInt ∧ (fD j).toInt ≤ 300) (hW9 : ∀ j, j < c → -9 ≤ (fW j).toInt ∧ (fW j).toInt ≤ 9) (ht9 : 0 ≤ t.toInt ∧ t.toInt ≤ 100) (n : Nat) (hn : n ≤ 60) : Met l yX2_behind wsX2_behind ({ frames := 3, cells := 0, slots := 0, locals := 150 }) (cPw D ([(sm, .inr (2, [.int (nI y), .int fi, .int (nI st), .int t, .ref ma, .ref sa])), (ma, .inl (cR, k, .inr (.inr (.inr (.inr (fr ra)))))), (sa, .inl (cR, c, .inr (.inr (.inr (.inr (fr rs))))))] ++ (RT cI ra rs fB mM mP fW fD k c)) sz (KM D cI cJ cR) [.ref sm, .int (nI n)]) (wri D ([(sm, .inr (2, [.int (nI y), .int fi, .int (nI st), .int t, .ref ma, .ref sa])), (ma, .inl (cR, k, .inr (.inr (.inr (.inr (fr ra)))))), (sa, .inl (cR, c, .inr (.inr (.inr (.inr (fr rs))))))] ++ (RT cI ra rs fB mM mP fW fD k c)) sz (fun r ws' => r = dSm c t y fW fD n ∧ ws' = ([(sm, .inr (2, [.int (nI (y + n)), .int (fi + dSm c t y fW fD n), .int (nI st), .int t, .ref ma, .ref sa])), (ma, .inl (cR, k, .inr (.inr (.inr (.inr (fr ra)))))), (sa, .inl (cR, c, .inr (.inr (.inr (.inr (fr rs))))))] ++ (RT cI ra rs fB mM mP fW (dIt c t y fW fD n) k c)))) 0 0 (va_A ([(sm, .inr (2, [.int (nI y), .int fi, .int (nI st), .int t, .ref ma, .ref sa])), (ma, .inl (cR, k, .inr (.inr (.inr (.inr (fr ra)))))), (sa, .inl (cR, c, .inr (.inr (.inr (.inr (fr rs))))))] ++ (RT cI ra rs fB mM mP fW fD k c)) sz) := by
  refine Met.ofW (cc := cX2_behind) (maxL := 4) (ret := (some .int)) (by decide +kernel) rfl ?_
  intro p e s m args below meth c9 s₁ B hml hv
  obtain ⟨rfl, hsz, hP, hD0, hC⟩ := hv
  have hx := B.exec
  have hb := B.bytes
  have hr := B.returns
  have hts := atoms_spec (ws := wsX2_behind) B.pre
  have hown : s.vm.findClass RX2 = some m.cls := findClass_of_methodNamed B.named
  have hlocks := B.notSynchronized
  have hK : va_K D vwCl [(cI, .int), (cJ, .long), (cR, .array .int)] s := hC
  subst hsz
  unfold wri wB
  have hD := hD0.self (sz := s.heap.size)
  generalize hAe : va_A ([(sm, .inr (2, [.int (nI y), .int fi, .int (nI st), .int t, .ref ma, .ref sa])), (ma, .inl (cR, k, .inr (.inr (.inr (.inr (fr ra)))))), (sa, .inl (cR, c, .inr (.inr (.inr (.inr (fr rs))))))] ++ (RT cI ra rs fB mM mP fW fD k c)) s.heap.size = A at hD ⊢
  have hA : ∀ q : Nat, s.heap.size ≤ q → A q := fun q h => by rw [← hAe]; exact Or.inr h
  have hS : va_S A s.heap s.heap [] := va_S.rf
  have hl := lv_entry ([.ref sm, .int (nI n)]) (n := 4) (Nat.le_of_ble_eq_true rfl)
  rw [lg_entry_eq]
  generalize (lg_sl ([.ref sm, .int (nI n)]) ++ List.replicate (4 - (lg_sl ([.ref sm, .int (nI n)])).length) Slot.unset).toArray = ls at hl ⊢
  have hl : lv_has ls 4 [(0, .ref sm), (1, .int (nI n))] := hl
  have hiX2 : ∀ w ∈ u_ws RX2 TX2 6, w ∈ wsX2_behind := by decide +kernel
  have hw45 : (Cond.fieldLink RX2 45 "OldMeasuresLaw$Sim" "fines" "I").before ([.ref sm, .int (nI n)] : List Value).toArray s = true := hts _ (by decide +kernel)
  refine lv_aload_n hx hb dX2_behind_0 rfl (lv_at hl 0 rfl) ?_
  refine va_get (D := D) (ci := 2) (v := .int fi) (C := RX2) (T := TX2) (N := 6) hx hb hts hiX2 hown hK hP 0 rfl rfl 1 (by decide) hw45 (fun _ h9 => h9) rfl dX2_behind_1 ?_
  refine lv_istore_n (lv' := [(2, .int fi), (0, .ref sm), (1, .int (nI n))]) hx hb dX2_behind_4 rfl hl (by decide) rfl (fun ls hl => ?_)
  refine lv_iconst (v := 0) hx hb dX2_behind_5 (by decide) ?_
  refine lv_istore_n (lv' := [(3, .int 0), (2, .int fi), (0, .ref sm), (1, .int (nI n))]) hx hb dX2_behind_6 rfl hl (by decide) rfl (fun ls hl => ?_)
  have hP : va_P D vwCl ([(sm, .inr (2, [.int (nI (y + 0)), .int (fi + dSm c t y fW fD 0), .int (nI st), .int t, .ref ma, .ref sa])), (ma, .inl (cR, k, .inr (.inr (.inr (.inr (fr ra)))))), (sa, .inl (cR, c, .inr (.inr (.inr (.inr (fr rs))))))] ++ (RT cI ra rs fB mM mP fW (dIt c t y fW fD 0) k c)) s.heap := by rw [show fi + dSm c t y fW fD 0 = fi from addI_0 fi]; exact hP
  have hD : va_D A ([(sm, .inr (2, [.int (nI (y + 0)), .int (fi + dSm c t y fW fD 0), .int (nI st), .int t, .ref ma, .ref sa])), (ma, .inl (cR, k, .inr (.inr (.inr (.inr (fr ra)))))), (sa, .inl (cR, c, .inr (.inr (.inr (.inr (fr rs))))))] ++ (RT cI ra rs fB mM mP fW (dIt c t y fW fD 0) k c)) := by rw [show fi + dSm c t y fW fD 0 = fi from addI_0 fi]; exact hD
  refine loopW (σ := Unit) (I := fun i x H locs ls => lv_has ls 4 [(0, .ref sm), (1, .int (nI n)), (2, .int fi), (3, .int (nI i))] ∧ va_P D vwCl ([(sm, .inr (2, [.int (nI (y + i)), .int (fi + dSm c t y fW fD i), .int (nI st), .int t, .ref ma, .ref sa])), (ma, .inl (cR, k, .inr (.inr (.inr (.inr (fr ra)))))), (sa, .inl (cR, c, .inr (.inr (.inr (.inr (fr rs))))))] ++ (RT cI ra rs fB mM mP fW (dIt c t y fW fD i) k c)) H ∧ va_D A ([(sm, .inr (2, [.int (nI (y + i)), .int (fi + dSm c t y fW fD i), .int (nI st), .int t, .ref ma, .ref sa])), (ma, .inl (cR, k, .inr (.inr (.inr (.inr (fr ra)))))), (sa, .inl (cR, c, .inr (.inr (.inr (.inr (fr rs))))))] ++ (RT cI ra rs fB mM mP fW (dIt c t y fW fD i) k c)) ∧ va_S A s.heap H locs) n ?_ 0 () _ _ ls (by omega) ⟨lv_sub hl [2, 3, 1, 0] rfl, hP, hD, hS⟩
  intro i x H locs ls hi hI kk
  obtain ⟨hl, hP, hD, hS⟩ := hI
  refine lv_iload_n hx hb dX2_behind_7 rfl (lv_at hl 3 rfl) ?_
  refine lv_iload_n hx hb dX2_behind_8 rfl (lv_at hl 1 rfl) ?_
  refine lv_icmp_ge (tgt := 23) hx hb dX2_behind_9 (by decide) (fun c_9 => ?_) (fun c_9 => ?_)
  · skip
    simp only [Int32.le_iff_toInt_le] at c_9
    rw [nI_toInt (n := i) (by omega)] at c_9
    rw [nI_toInt (n := n) (by omega)] at c_9
    have e9 : n = i := by omega
    subst e9
    refine lv_aload_n hx hb dX2_behind_23 rfl (lv_at hl 0 rfl) ?_
    refine va_get (D := D) (ci := 2) (v := .int (fi + dSm c t y fW fD n)) (C := RX2) (T := TX2) (N := 6) hx hb hts hiX2 hown hK hP 0 rfl rfl 1 (by decide) hw45 (fun _ h9 => h9) rfl dX2_behind_24 ?_
    refine lv_iload_n hx hb dX2_behind_27 rfl (lv_at hl 2 rfl) ?_
    refine lv_isub hx hb dX2_behind_28 ?_
    exact W.iret (v := ((fi + dSm c t y fW fD n) - fi)) hx hb hr (fun t9 ht hW => ⟨⟨((fi + dSm c t y fW fD n) - fi), ([(sm, .inr (2, [.int (nI (y + n)), .int (fi + dSm c t y fW fD n), .int (nI st), .int t, .ref ma, .ref sa])), (ma, .inl (cR, k, .inr (.inr (.inr (.inr (fr ra)))))), (sa, .inl (cR, c, .inr (.inr (.inr (.inr (fr rs))))))] ++ (RT cI ra rs fB mM mP fW (dIt c t y fW fD n) k c)), rfl, ⟨cancelI _ _, rfl⟩, by rw [ht]; exact hP, hD⟩, hS.F ht⟩) hS.2.2 dX2_behind_29
  · skip
    simp only [Int32.le_iff_toInt_le] at c_9
    rw [nI_toInt (n := i) (by omega)] at c_9
    rw [nI_toInt (n := n) (by omega)] at c_9
    refine lv_aload_n hx hb dX2_behind_12 rfl (lv_at hl 0 rfl) ?_
    have hFc := va_freeP (cx := [(sm, .inr (2, [.int (nI (y + i)), .int (fi + dSm c t y fW fD i), .int (nI st), .int t, .ref ma, .ref sa])), (ma, .inl (cR, k, .inr (.inr (.inr (.inr (fr ra)))))), (sa, .inl (cR, c, .inr (.inr (.inr (.inr (fr rs))))))]) (pl := (RT cI ra rs fB mM mP fW (dIt c t y fW fD i) k c)) hD hS hA [0, 1, 2] rfl
    refine va_calli (va_runV (As := []) (rest := []) ⟨hx, hb, hml, hown, hts⟩ (c_X2_pass l D cI cJ cR H.size sm ma sa ra rs k st (fi + dSm c t y fW fD i) fB mM mP c t (y + i) fW (dIt c t y fW fD i) (by omega) (by omega) (dIt_r hD3 i) hW9 ht9) (cwV 0 hts gX2_behind_X2_pass rfl rfl rfl (by decide +kernel) ⟨Nat.le_of_ble_eq_true rfl, Nat.le_of_ble_eq_true rfl⟩) (preV_wr KM_ok (va_P.part (cx := [(sm, .inr (2, [.int (nI (y + i)), .int (fi + dSm c t y fW fD i), .int (nI st), .int t, .ref ma, .ref sa])), (ma, .inl (cR, k, .inr (.inr (.inr (.inr (fr ra)))))), (sa, .inl (cR, c, .inr (.inr (.inr (.inr (fr rs))))))]) (pl := (RT cI ra rs fB mM mP fW (dIt c t y fW fD i) k c)) hP [0, 1, 2] rfl) (va_D.part (cx := [(sm, .inr (2, [.int (nI (y + i)), .int (fi + dSm c t y fW fD i), .int (nI st), .int t, .ref ma, .ref sa])), (ma, .inl (cR, k, .inr (.inr (.inr (.inr (fr ra)))))), (sa, .inl (cR, c, .inr (.inr (.inr (.inr (fr rs))))))]) (pl := (RT cI ra rs fB mM mP fW (dIt c t y fW fD i) k c)) hD [0, 1, 2] (by decide) rfl) hK (va_recv hK hP (ci := 2) (q0 := 0) rfl rfl)) rfl rfl hl.1 rfl (lv_room (Nat.le_of_ble_eq_true rfl)) dX2_behind_13 ⟨by decide, by decide⟩) hS (fun q _ h => hFc q h) hFc (fun r_13 u t9 H1 locs ht hvm hw9 hB hz1 hk1 hS => ?_)
    obtain rfl := hw9
    obtain ⟨hP1, hD1⟩ := hB
    rw [ht] at hP1
    obtain ⟨hP, hD⟩ := va_joinP (X := [(sm, .inr (2, [.int (nI (y + i)), .int (fi + dSm c t y fW fD i), .int (nI st), .int t, .ref ma, .ref sa])), (ma, .inl (cR, k, .inr (.inr (.inr (.inr (fr ra)))))), (sa, .inl (cR, c, .inr (.inr (.inr (.inr (fr rs))))))]) (cx := [(sm, .inr (2, [.int (nI (y + i)), .int (fi + dSm c t y fW fD i), .int (nI st), .int t, .ref ma, .ref sa])), (ma, .inl (cR, k, .inr (.inr (.inr (.inr (fr ra)))))), (sa, .inl (cR, c, .inr (.inr (.inr (.inr (fr rs))))))]) (wr := []) (rx := [(sm, .inr (2, [.int (nI ((y + i) + 1)), .int ((fi + dSm c t y fW fD i) + dFine c t (y + i) fW (dIt c t y fW fD i)), .int (nI st), .int t, .ref ma, .ref sa])), (ma, .inl (cR, k, .inr (.inr (.inr (.inr (fr ra)))))), (sa, .inl (cR, c, .inr (.inr (.inr (.inr (fr rs))))))]) (pl := (RT cI ra rs fB mM mP fW (dIt c t y fW fD i) k c)) (pl1 := (RT cI ra rs fB mM mP fW (dDr c t (y + i) fW (dIt c t y fW fD i)) k c)) hP hD [0, 1, 2] [] rfl rfl (by decide) (by decide) hk1 hFc hP1 hD1
    clear hz1 hk1 ht hvm hFc
    generalize H1 = H at hP hS ⊢
    have hP : va_P D vwCl ([(sm, .inr (2, [.int (nI ((y + i) + 1)), .int ((fi + dSm c t y fW fD i) + dFine c t (y + i) fW (dIt c t y fW fD i)), .int (nI st), .int t, .ref ma, .ref sa])), (ma, .inl (cR, k, .inr (.inr (.inr (.inr (fr ra)))))), (sa, .inl (cR, c, .inr (.inr (.inr (.inr (fr rs))))))] ++ (RT cI ra rs fB mM mP fW (dDr c t (y + i) fW (dIt c t y fW fD i)) k c)) H := hP
    have hD : va_D A ([(sm, .inr (2, [.int (nI ((y + i) + 1)), .int ((fi + dSm c t y fW fD i) + dFine c t (y + i) fW (dIt c t y fW fD i)), .int (nI st), .int t, .ref ma, .ref sa])), (ma, .inl (cR, k, .inr (.inr (.inr (.inr (fr ra)))))), (sa, .inl (cR, c, .inr (.inr (.inr (.inr (fr rs))))))] ++ (RT cI ra rs fB mM mP fW (dDr c t (y + i) fW (dIt c t y fW fD i)) k c)) := hD
    refine lv_pop hx hb dX2_behind_16 rfl ?_
    refine lv_iinc (v := (nI (i + 1))) (lv' := [(3, .int (nI (i + 1))), (0, .ref sm), (1, .int (nI n)), (2, .int fi)]) hx hb dX2_behind_17 hl (k := 3) rfl (nI_inc i) (by decide) rfl (fun ls hl => ?_)
    refine lv_goto (tgt := 7) hx hb dX2_behind_20 (by decide) ?_
    rw [addI_assoc] at hP hD
    exact kk () _ _ ls (by omega) ⟨lv_sub hl [1, 2, 3, 0] rfl, hP, hD, hS⟩

